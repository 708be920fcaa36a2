/-! PageWeb$Search: markLinking; PageWeb: from -/
def bq (v : Int32) (p : Nat) : Bool := v.toBitVec.getLsbD p
theorem sh_id : ∀ p : Fin 16, (nI p.val &&& 31) = nI p.val ∧ ((nI p.val).toBitVec.smod 32).toNat = p.val := by decide
theorem bq_and {v : Int32} : v &&& 1 = (if v.toBitVec.getLsbD 0 = true then 1 else 0) := by
  apply Int32.toBitVec_inj.mp
  have e : (v &&& 1).toBitVec = v.toBitVec &&& 1#32 := rfl
  rw [e, BitVec.and_one_eq_setWidth_ofBool_getLsbD]
  cases v.toBitVec.getLsbD 0 <;> rfl
theorem bq_shr {v : Int32} {p : Nat} (hp : p < 16) : (v >>> (nI p &&& 31)) &&& 1 = (if bq v p = true then nI 1 else nI 0) := by
  obtain ⟨h1, h2⟩ := sh_id ⟨p, hp⟩
  simp only at h1 h2
  rw [bq_and, h1]
  have e : (v >>> nI p).toBitVec = v.toBitVec.sshiftRight' ((nI p).toBitVec.smod 32) := rfl
  rw [e, BitVec.sshiftRight', h2, BitVec.getLsbD_sshiftRight]
  unfold bq
  rw [if_pos (show p + 0 < 32 by omega), Nat.add_zero]
  cases v.toBitVec.getLsbD p <;> rfl
theorem bq_or {v : Int32} {p k : Nat} (hp : p < 16) (hk : k < 16) : bq (v ||| ((1 : Int32) <<< (nI k &&& 31))) p = (bq v p || decide (p = k)) := by
  obtain ⟨h1, -⟩ := sh_id ⟨k, hk⟩
  simp only at h1
  unfold bq
  have e : (v ||| ((1 : Int32) <<< (nI k &&& 31))).toBitVec = v.toBitVec ||| ((1 : Int32) <<< (nI k &&& 31)).toBitVec := rfl
  rw [e, BitVec.getLsbD_or, h1]
  congr 1
  have : ∀ p k : Fin 16, ((1 : Int32) <<< (nI k.val)).toBitVec.getLsbD p.val = decide (p.val = k.val) := by decide
  exact this ⟨p, hp⟩ ⟨k, hk⟩
section
variable {g X T : Nat} {Q : Nat → Prop} {h : PH} {tp ou fo : List Nat} {hd : Option Nm} {a : Option Nat} {w : Wd} {goal : Nm} {mk : Nat → Bool}
theorem s_ml_1 {thru : Bool} (d : cl h X) (W : web Q h X w) (S : ss Q h X goal T mk) (hT : T ≤ w.1) : ∀ m p (v : Int32) (l4 : Option Value), p + m = w.2.2.1 → (∀ x, x < 16 → bq v x = (decide (x < p) && ldP w.2.1 w.2.2.2 w.2.2.1 T 1 thru mk goal x)) →
    ∃ v' l4', ev g mX7_markLinking 4 [some (va_rf (some (X + 23))), some (.int (bI thru)), some (.int v), some (.int (nI p)), l4] [] h = ev g mX7_markLinking 59 [some (va_rf (some (X + 23))), some (.int (bI thru)), some (.int v'), some (.int (nI w.2.2.1)), l4'] [] h ∧ ∀ x, x < 16 → bq v' x = (decide (x < w.2.2.1) && ldP w.2.1 w.2.2.2 w.2.2.1 T 1 thru mk goal x) := by
  have ep := w_pages (g := g) d W
  have hnn := W.1.2.2.2
  have sT := S.2.1
  intro m
  induction m with
  | zero =>
    intro p v l4 hp hv
    have : p = w.2.2.1 := by omega
    subst this
    refine ⟨v, l4, ?_, hv⟩
    rw [e_X7_markLinking_4]
    simp (decide := true) (disch := omega) only [e_X7_markLinking_5, e_X7_markLinking_6, e_X7_markLinking_9, e_X7_markLinking_12, e_X7_markLinking_15, e_X7_markLinking_16, e_X7_markLinking_19, e_X7_markLinking_20, e_X7_markLinking_21, e_X7_markLinking_24, e_X7_markLinking_27, e_X7_markLinking_29, e_X7_markLinking_31, e_X7_markLinking_34, e_X7_markLinking_35, e_X7_markLinking_37, e_X7_markLinking_40, e_X7_markLinking_41, e_X7_markLinking_44, e_X7_markLinking_47, e_X7_markLinking_48, e_X7_markLinking_49, e_X7_markLinking_50, e_X7_markLinking_51, e_X7_markLinking_52, e_X7_markLinking_53, e_X7_markLinking_56, ↓reduceIte, if_true, if_false, reduceCtorEq, Nat.reduceAdd, true_and, and_true, false_and, and_false, true_or, or_true, false_or, or_false, not_true_eq_false, not_false_eq_true, Option.bind_eq_bind, Option.bind_some, psh, eq_self, l_0, l_1, l_2, l_3, l_4, l_5, l_6, l_7, l_8, l_9, l_10, l_11, l_12, l_13, l_14, l_15, l_16, l_17, l_18, l_19, l_20, l_24, l_31, l_32, l_33, l_35, l_36, l_48, l_56, l_57, l_58, l_63, l_65, l_80, l_81, l_90, l_91, l_93, l_94, l_95, l_97, l_100, l_105, l_107, l_110, l_111, l_116, l_120, l_121, l_122, l_123, l_124, l_125, l_126, l_162, l_255, l_300, l_400, l_420, l_432, l_1000, l_1400, l_1936, l_2000, l_2100, l_2400, l_24000, m_n1, m_n2, m_n3, nI_mul, nI_add, nI_sub, nI_ltT, nI_ltF, nI_leT, nI_leF, nI_eqT, nI_eqF, nI_nM, nM_nI, nM_eq, nM_lt, nM_le, nI_ltM, nI_leM, nI_inT, nI_dec, pk_rem, nI_ltI, nI_leI, nI_eq, nI_clamp, Nat.add_assoc, q_bv51, Nat.add_left_cancel_iff, clK_0 d, clK_1 d, clK_3 d, clK_5 d, clK_7 d, clK_8 d, clK_9 d, clK_11 d, clK_12 d, clK_13 d, clK_14 d, clK_15 d, clK_16 d, clK_18 d, clK_20 d, clK_21 d, clK_22 d, clK_23 d, clK_24 d, clK_25 d, clK_26 d, clR_0_0 d, clR_1_0 d, clR_2_0 d, clR_3_0 d, clR_7_0 d, clR_8_0 d, clR_9_0 d, clR_10_0 d, clR_11_0 d, clR_0_8 d, clR_0_11 d, clR_1_11 d, clR_2_11 d, clR_0_15 d, clR_1_15 d, clR_2_15 d, clR_3_15 d, clR_4_15 d, clR_5_15 d, clR_0_23 d, clR_1_23 d, clR_0_25 d, clL_7 d, clL_12 d, clL_13 d, clL_14 d, clL_20 d, clL_21 d, clL_22 d, clL_24 d, clS_0 d, clS_1 d, clS_2 d, clS_3 d, ep]
  | succ m ih =>
    intro p v l4 hp hv
    have et := w_there (g := g) (x := nI p) d W hT
    have aT := adr_thI (x := nI p) W hT
    rw [thI_nI (by omega) (by omega)] at et aT
    rw [e_X7_markLinking_4]
    have stay : ldP w.2.1 w.2.2.2 w.2.2.1 T 1 thru mk goal p = false → ∀ x, x < 16 → bq v x = (decide (x < p + 1) && ldP w.2.1 w.2.2.2 w.2.2.1 T 1 thru mk goal x) := by
      intro hl x hx
      rw [hv x hx]
      by_cases c : x = p
      · rw [c, hl, Bool.and_false, Bool.and_false]
      · congr 1
        exact decide_eq_decide.mpr ⟨fun z => by omega, fun z => by omega⟩
    cases e : thr w.2.1 p T with
    | none =>
      rw [e] at et
      have et' : cal g mX9_there [va_rf (some (X + 11)), .int (nI p), .int (nI T)] h = some (some (va_rf none), h) := et
      have hl : ldP w.2.1 w.2.2.2 w.2.2.1 T 1 thru mk goal p = false := by unfold ldP; rw [e]
      obtain ⟨v', l4', e1, R⟩ := ih (p + 1) v (some (va_rf none)) (by omega) (stay hl)
      refine ⟨v', l4', ?_, R⟩
      rw [← e1]
      simp (decide := true) (disch := omega) only [e_X7_markLinking_5, e_X7_markLinking_6, e_X7_markLinking_9, e_X7_markLinking_12, e_X7_markLinking_15, e_X7_markLinking_16, e_X7_markLinking_19, e_X7_markLinking_20, e_X7_markLinking_21, e_X7_markLinking_24, e_X7_markLinking_27, e_X7_markLinking_29, e_X7_markLinking_31, e_X7_markLinking_34, e_X7_markLinking_35, e_X7_markLinking_37, e_X7_markLinking_40, e_X7_markLinking_41, e_X7_markLinking_44, e_X7_markLinking_47, e_X7_markLinking_48, e_X7_markLinking_49, e_X7_markLinking_50, e_X7_markLinking_51, e_X7_markLinking_52, e_X7_markLinking_53, e_X7_markLinking_56, ↓reduceIte, if_true, if_false, reduceCtorEq, Nat.reduceAdd, true_and, and_true, false_and, and_false, true_or, or_true, false_or, or_false, not_true_eq_false, not_false_eq_true, Option.bind_eq_bind, Option.bind_some, psh, eq_self, l_0, l_1, l_2, l_3, l_4, l_5, l_6, l_7, l_8, l_9, l_10, l_11, l_12, l_13, l_14, l_15, l_16, l_17, l_18, l_19, l_20, l_24, l_31, l_32, l_33, l_35, l_36, l_48, l_56, l_57, l_58, l_63, l_65, l_80, l_81, l_90, l_91, l_93, l_94, l_95, l_97, l_100, l_105, l_107, l_110, l_111, l_116, l_120, l_121, l_122, l_123, l_124, l_125, l_126, l_162, l_255, l_300, l_400, l_420, l_432, l_1000, l_1400, l_1936, l_2000, l_2100, l_2400, l_24000, m_n1, m_n2, m_n3, nI_mul, nI_add, nI_sub, nI_ltT, nI_ltF, nI_leT, nI_leF, nI_eqT, nI_eqF, nI_nM, nM_nI, nM_eq, nM_lt, nM_le, nI_ltM, nI_leM, nI_inT, nI_dec, pk_rem, nI_ltI, nI_leI, nI_eq, nI_clamp, Nat.add_assoc, q_bv51, Nat.add_left_cancel_iff, clK_0 d, clK_1 d, clK_3 d, clK_5 d, clK_7 d, clK_8 d, clK_9 d, clK_11 d, clK_12 d, clK_13 d, clK_14 d, clK_15 d, clK_16 d, clK_18 d, clK_20 d, clK_21 d, clK_22 d, clK_23 d, clK_24 d, clK_25 d, clK_26 d, clR_0_0 d, clR_1_0 d, clR_2_0 d, clR_3_0 d, clR_7_0 d, clR_8_0 d, clR_9_0 d, clR_10_0 d, clR_11_0 d, clR_0_8 d, clR_0_11 d, clR_1_11 d, clR_2_11 d, clR_0_15 d, clR_1_15 d, clR_2_15 d, clR_3_15 d, clR_4_15 d, clR_5_15 d, clR_0_23 d, clR_1_23 d, clR_0_25 d, clL_7 d, clL_12 d, clL_13 d, clL_14 d, clL_20 d, clL_21 d, clL_22 d, clL_24 d, clS_0 d, clS_1 d, clS_2 d, clS_3 d, ep, sT, et']
    | some c =>
      rw [e] at et aT
      obtain ⟨b, v1, ⟨⟨-, k0, -⟩, ⟨tb, t1, T1⟩, -⟩, ok, -⟩ := aT
      rw [v1] at et
      have eh := s_hasLinking (g := g) (thru := thru) d W S hT T1
      rw [← ldP_ptl e] at eh
      have k8 := T1.1.2
      cases hl : ldP w.2.1 w.2.2.2 w.2.2.1 T 1 thru mk goal p with
      | false =>
        rw [hl, bI_f] at eh
        obtain ⟨v', l4', e1, R⟩ := ih (p + 1) v (some (va_rf (some b))) (by omega) (stay hl)
        refine ⟨v', l4', ?_, R⟩
        rw [← e1]
        simp (decide := true) (disch := omega) only [e_X7_markLinking_5, e_X7_markLinking_6, e_X7_markLinking_9, e_X7_markLinking_12, e_X7_markLinking_15, e_X7_markLinking_16, e_X7_markLinking_19, e_X7_markLinking_20, e_X7_markLinking_21, e_X7_markLinking_24, e_X7_markLinking_27, e_X7_markLinking_29, e_X7_markLinking_31, e_X7_markLinking_34, e_X7_markLinking_35, e_X7_markLinking_37, e_X7_markLinking_40, e_X7_markLinking_41, e_X7_markLinking_44, e_X7_markLinking_47, e_X7_markLinking_48, e_X7_markLinking_49, e_X7_markLinking_50, e_X7_markLinking_51, e_X7_markLinking_52, e_X7_markLinking_53, e_X7_markLinking_56, ↓reduceIte, if_true, if_false, reduceCtorEq, Nat.reduceAdd, true_and, and_true, false_and, and_false, true_or, or_true, false_or, or_false, not_true_eq_false, not_false_eq_true, Option.bind_eq_bind, Option.bind_some, psh, eq_self, l_0, l_1, l_2, l_3, l_4, l_5, l_6, l_7, l_8, l_9, l_10, l_11, l_12, l_13, l_14, l_15, l_16, l_17, l_18, l_19, l_20, l_24, l_31, l_32, l_33, l_35, l_36, l_48, l_56, l_57, l_58, l_63, l_65, l_80, l_81, l_90, l_91, l_93, l_94, l_95, l_97, l_100, l_105, l_107, l_110, l_111, l_116, l_120, l_121, l_122, l_123, l_124, l_125, l_126, l_162, l_255, l_300, l_400, l_420, l_432, l_1000, l_1400, l_1936, l_2000, l_2100, l_2400, l_24000, m_n1, m_n2, m_n3, nI_mul, nI_add, nI_sub, nI_ltT, nI_ltF, nI_leT, nI_leF, nI_eqT, nI_eqF, nI_nM, nM_nI, nM_eq, nM_lt, nM_le, nI_ltM, nI_leM, nI_inT, nI_dec, pk_rem, nI_ltI, nI_leI, nI_eq, nI_clamp, Nat.add_assoc, q_bv51, Nat.add_left_cancel_iff, clK_0 d, clK_1 d, clK_3 d, clK_5 d, clK_7 d, clK_8 d, clK_9 d, clK_11 d, clK_12 d, clK_13 d, clK_14 d, clK_15 d, clK_16 d, clK_18 d, clK_20 d, clK_21 d, clK_22 d, clK_23 d, clK_24 d, clK_25 d, clK_26 d, clR_0_0 d, clR_1_0 d, clR_2_0 d, clR_3_0 d, clR_7_0 d, clR_8_0 d, clR_9_0 d, clR_10_0 d, clR_11_0 d, clR_0_8 d, clR_0_11 d, clR_1_11 d, clR_2_11 d, clR_0_15 d, clR_1_15 d, clR_2_15 d, clR_3_15 d, clR_4_15 d, clR_5_15 d, clR_0_23 d, clR_1_23 d, clR_0_25 d, clL_7 d, clL_12 d, clL_13 d, clL_14 d, clL_20 d, clL_21 d, clL_22 d, clL_24 d, clS_0 d, clS_1 d, clS_2 d, clS_3 d, ep, sT, et, reduceCtorEq, k0, t1, k8, eh]
      | true =>
        rw [hl, bI_t] at eh
        obtain ⟨v', l4', e1, R⟩ := ih (p + 1) (v ||| ((1 : Int32) <<< (nI p &&& 31))) (some (va_rf (some b))) (by omega) (fun x hx => by
          rw [bq_or hx (by omega), hv x hx]
          by_cases c : x = p
          · rw [c, hl, decide_eq_true rfl, Bool.or_true, decide_eq_true (Nat.lt_succ_self p)]; rfl
          · rw [decide_eq_false c, Bool.or_false]
            congr 1
            exact decide_eq_decide.mpr ⟨fun z => by omega, fun z => by omega⟩)
        refine ⟨v', l4', ?_, R⟩
        rw [← e1]
        simp (decide := true) (disch := omega) only [e_X7_markLinking_5, e_X7_markLinking_6, e_X7_markLinking_9, e_X7_markLinking_12, e_X7_markLinking_15, e_X7_markLinking_16, e_X7_markLinking_19, e_X7_markLinking_20, e_X7_markLinking_21, e_X7_markLinking_24, e_X7_markLinking_27, e_X7_markLinking_29, e_X7_markLinking_31, e_X7_markLinking_34, e_X7_markLinking_35, e_X7_markLinking_37, e_X7_markLinking_40, e_X7_markLinking_41, e_X7_markLinking_44, e_X7_markLinking_47, e_X7_markLinking_48, e_X7_markLinking_49, e_X7_markLinking_50, e_X7_markLinking_51, e_X7_markLinking_52, e_X7_markLinking_53, e_X7_markLinking_56, ↓reduceIte, if_true, if_false, reduceCtorEq, Nat.reduceAdd, true_and, and_true, false_and, and_false, true_or, or_true, false_or, or_false, not_true_eq_false, not_false_eq_true, Option.bind_eq_bind, Option.bind_some, psh, eq_self, l_0, l_1, l_2, l_3, l_4, l_5, l_6, l_7, l_8, l_9, l_10, l_11, l_12, l_13, l_14, l_15, l_16, l_17, l_18, l_19, l_20, l_24, l_31, l_32, l_33, l_35, l_36, l_48, l_56, l_57, l_58, l_63, l_65, l_80, l_81, l_90, l_91, l_93, l_94, l_95, l_97, l_100, l_105, l_107, l_110, l_111, l_116, l_120, l_121, l_122, l_123, l_124, l_125, l_126, l_162, l_255, l_300, l_400, l_420, l_432, l_1000, l_1400, l_1936, l_2000, l_2100, l_2400, l_24000, m_n1, m_n2, m_n3, nI_mul, nI_add, nI_sub, nI_ltT, nI_ltF, nI_leT, nI_leF, nI_eqT, nI_eqF, nI_nM, nM_nI, nM_eq, nM_lt, nM_le, nI_ltM, nI_leM, nI_inT, nI_dec, pk_rem, nI_ltI, nI_leI, nI_eq, nI_clamp, Nat.add_assoc, q_bv51, Nat.add_left_cancel_iff, clK_0 d, clK_1 d, clK_3 d, clK_5 d, clK_7 d, clK_8 d, clK_9 d, clK_11 d, clK_12 d, clK_13 d, clK_14 d, clK_15 d, clK_16 d, clK_18 d, clK_20 d, clK_21 d, clK_22 d, clK_23 d, clK_24 d, clK_25 d, clK_26 d, clR_0_0 d, clR_1_0 d, clR_2_0 d, clR_3_0 d, clR_7_0 d, clR_8_0 d, clR_9_0 d, clR_10_0 d, clR_11_0 d, clR_0_8 d, clR_0_11 d, clR_1_11 d, clR_2_11 d, clR_0_15 d, clR_1_15 d, clR_2_15 d, clR_3_15 d, clR_4_15 d, clR_5_15 d, clR_0_23 d, clR_1_23 d, clR_0_25 d, clL_7 d, clL_12 d, clL_13 d, clL_14 d, clL_20 d, clL_21 d, clL_22 d, clL_24 d, clS_0 d, clS_1 d, clS_2 d, clS_3 d, ep, sT, et, reduceCtorEq, k0, t1, k8, eh]
theorem s_ml_2 {v : Int32} {l1 l4 : Option Value} : ∀ j k (h : PH) (mk : Nat → Bool), j + k = 16 → cI Q h X tp ou fo hd a w → ss Q h X goal T mk → (∀ x, x < k → mk x = bq v x) →
    ∃ h', ev g mX7_markLinking 61 [some (va_rf (some (X + 23))), l1, some (.int v), some (.int (nI k)), l4] [] h = some (none, h') ∧ cfm X (sP X) h h' ∧ hN h' = hN h ∧ hU h' = hU h ∧ ss Q h' X goal T (bq v) ∧ cI Q h' X tp ou fo hd a w := by
  intro j
  induction j with
  | zero =>
    intro k h mk hk I S hm
    have d := I.1.1
    have : k = 16 := by omega
    subst this
    refine ⟨h, ?_, cfm.rf _, rfl, rfl, ⟨S.1, S.2.1, fun p hp => by rw [S.2.2 p hp, hm p hp]⟩, I⟩
    rw [e_X7_markLinking_61]
    simp (decide := true) (disch := omega) only [e_X7_markLinking_62, e_X7_markLinking_63, e_X7_markLinking_66, e_X7_markLinking_67, e_X7_markLinking_70, e_X7_markLinking_71, e_X7_markLinking_74, e_X7_markLinking_75, e_X7_markLinking_76, e_X7_markLinking_77, e_X7_markLinking_78, e_X7_markLinking_79, e_X7_markLinking_80, e_X7_markLinking_81, e_X7_markLinking_84, e_X7_markLinking_85, e_X7_markLinking_88, e_X7_markLinking_89, e_X7_markLinking_90, e_X7_markLinking_93, e_X7_markLinking_96, ↓reduceIte, if_true, if_false, reduceCtorEq, Nat.reduceAdd, true_and, and_true, false_and, and_false, true_or, or_true, false_or, or_false, not_true_eq_false, not_false_eq_true, Option.bind_eq_bind, Option.bind_some, psh, eq_self, l_0, l_1, l_2, l_3, l_4, l_5, l_6, l_7, l_8, l_9, l_10, l_11, l_12, l_13, l_14, l_15, l_16, l_17, l_18, l_19, l_20, l_24, l_31, l_32, l_33, l_35, l_36, l_48, l_56, l_57, l_58, l_63, l_65, l_80, l_81, l_90, l_91, l_93, l_94, l_95, l_97, l_100, l_105, l_107, l_110, l_111, l_116, l_120, l_121, l_122, l_123, l_124, l_125, l_126, l_162, l_255, l_300, l_400, l_420, l_432, l_1000, l_1400, l_1936, l_2000, l_2100, l_2400, l_24000, m_n1, m_n2, m_n3, nI_mul, nI_add, nI_sub, nI_ltT, nI_ltF, nI_leT, nI_leF, nI_eqT, nI_eqF, nI_nM, nM_nI, nM_eq, nM_lt, nM_le, nI_ltM, nI_leM, nI_inT, nI_dec, pk_rem, nI_ltI, nI_leI, nI_eq, nI_clamp, Nat.add_assoc, q_bv51, Nat.add_left_cancel_iff, clK_0 d, clK_1 d, clK_3 d, clK_5 d, clK_7 d, clK_8 d, clK_9 d, clK_11 d, clK_12 d, clK_13 d, clK_14 d, clK_15 d, clK_16 d, clK_18 d, clK_20 d, clK_21 d, clK_22 d, clK_23 d, clK_24 d, clK_25 d, clK_26 d, clR_0_0 d, clR_1_0 d, clR_2_0 d, clR_3_0 d, clR_7_0 d, clR_8_0 d, clR_9_0 d, clR_10_0 d, clR_11_0 d, clR_0_8 d, clR_0_11 d, clR_1_11 d, clR_2_11 d, clR_0_15 d, clR_1_15 d, clR_2_15 d, clR_3_15 d, clR_4_15 d, clR_5_15 d, clR_0_23 d, clR_1_23 d, clR_0_25 d, clL_7 d, clL_12 d, clL_13 d, clL_14 d, clL_20 d, clL_21 d, clL_22 d, clL_24 d, clS_0 d, clS_1 d, clS_2 d, clS_3 d]
  | succ j ih =>
    intro k h mk hk I S hm
    have d := I.1.1
    have hQ := I.1.2.1
    have eb := bq_shr (v := v) (p := k) (by omega)
    have s1 : cfm X (sP X) h (pA h (X + 24) (upd (hA h (X + 24)) k (bI (bq v k)))) := cfm.pA _ _ (Or.inr rfl)
    obtain ⟨h', e1, R1, R2, R3, R4⟩ := ih (k + 1) _ (upf mk k (bq v k)) (by omega) (I.se s1 (fun x z => z)).1 (S.mark hQ) (fun x hx => by
      by_cases c : x = k
      · rw [c, upf_s]
      · rw [upf_n c]; exact hm x (by omega))
    refine ⟨h', ?_, s1.tr R1, by rw [R2]; rfl, by rw [R3]; rfl, R4⟩
    rw [← e1, e_X7_markLinking_61]
    have m1 : (1 : Int32) = nI 1 := rfl
    cases c : bq v k with
    | true =>
      rw [c, if_pos rfl] at eb
      have eb' : v >>> (nI k &&& nI 31) &&& nI 1 = nI 1 := eb
      rw [bI_t]
      simp (decide := true) (disch := omega) only [e_X7_markLinking_62, e_X7_markLinking_63, e_X7_markLinking_66, e_X7_markLinking_67, e_X7_markLinking_70, e_X7_markLinking_71, e_X7_markLinking_74, e_X7_markLinking_75, e_X7_markLinking_76, e_X7_markLinking_77, e_X7_markLinking_78, e_X7_markLinking_79, e_X7_markLinking_80, e_X7_markLinking_81, e_X7_markLinking_84, e_X7_markLinking_85, e_X7_markLinking_88, e_X7_markLinking_89, e_X7_markLinking_90, e_X7_markLinking_93, e_X7_markLinking_96, ↓reduceIte, if_true, if_false, reduceCtorEq, Nat.reduceAdd, true_and, and_true, false_and, and_false, true_or, or_true, false_or, or_false, not_true_eq_false, not_false_eq_true, Option.bind_eq_bind, Option.bind_some, psh, eq_self, l_0, l_1, l_2, l_3, l_4, l_5, l_6, l_7, l_8, l_9, l_10, l_11, l_12, l_13, l_14, l_15, l_16, l_17, l_18, l_19, l_20, l_24, l_31, l_32, l_33, l_35, l_36, l_48, l_56, l_57, l_58, l_63, l_65, l_80, l_81, l_90, l_91, l_93, l_94, l_95, l_97, l_100, l_105, l_107, l_110, l_111, l_116, l_120, l_121, l_122, l_123, l_124, l_125, l_126, l_162, l_255, l_300, l_400, l_420, l_432, l_1000, l_1400, l_1936, l_2000, l_2100, l_2400, l_24000, m_n1, m_n2, m_n3, nI_mul, nI_add, nI_sub, nI_ltT, nI_ltF, nI_leT, nI_leF, nI_eqT, nI_eqF, nI_nM, nM_nI, nM_eq, nM_lt, nM_le, nI_ltM, nI_leM, nI_inT, nI_dec, pk_rem, nI_ltI, nI_leI, nI_eq, nI_clamp, Nat.add_assoc, q_bv51, Nat.add_left_cancel_iff, clK_0 d, clK_1 d, clK_3 d, clK_5 d, clK_7 d, clK_8 d, clK_9 d, clK_11 d, clK_12 d, clK_13 d, clK_14 d, clK_15 d, clK_16 d, clK_18 d, clK_20 d, clK_21 d, clK_22 d, clK_23 d, clK_24 d, clK_25 d, clK_26 d, clR_0_0 d, clR_1_0 d, clR_2_0 d, clR_3_0 d, clR_7_0 d, clR_8_0 d, clR_9_0 d, clR_10_0 d, clR_11_0 d, clR_0_8 d, clR_0_11 d, clR_1_11 d, clR_2_11 d, clR_0_15 d, clR_1_15 d, clR_2_15 d, clR_3_15 d, clR_4_15 d, clR_5_15 d, clR_0_23 d, clR_1_23 d, clR_0_25 d, clL_7 d, clL_12 d, clL_13 d, clL_14 d, clL_20 d, clL_21 d, clL_22 d, clL_24 d, clS_0 d, clS_1 d, clS_2 d, clS_3 d]
      rw [if_pos eb']
    | false =>
      rw [c, if_neg (by simp)] at eb
      have eb' : v >>> (nI k &&& nI 31) &&& nI 1 = nI 0 := eb
      rw [bI_f]
      simp (decide := true) (disch := omega) only [e_X7_markLinking_62, e_X7_markLinking_63, e_X7_markLinking_66, e_X7_markLinking_67, e_X7_markLinking_70, e_X7_markLinking_71, e_X7_markLinking_74, e_X7_markLinking_75, e_X7_markLinking_76, e_X7_markLinking_77, e_X7_markLinking_78, e_X7_markLinking_79, e_X7_markLinking_80, e_X7_markLinking_81, e_X7_markLinking_84, e_X7_markLinking_85, e_X7_markLinking_88, e_X7_markLinking_89, e_X7_markLinking_90, e_X7_markLinking_93, e_X7_markLinking_96, ↓reduceIte, if_true, if_false, reduceCtorEq, Nat.reduceAdd, true_and, and_true, false_and, and_false, true_or, or_true, false_or, or_false, not_true_eq_false, not_false_eq_true, Option.bind_eq_bind, Option.bind_some, psh, eq_self, l_0, l_1, l_2, l_3, l_4, l_5, l_6, l_7, l_8, l_9, l_10, l_11, l_12, l_13, l_14, l_15, l_16, l_17, l_18, l_19, l_20, l_24, l_31, l_32, l_33, l_35, l_36, l_48, l_56, l_57, l_58, l_63, l_65, l_80, l_81, l_90, l_91, l_93, l_94, l_95, l_97, l_100, l_105, l_107, l_110, l_111, l_116, l_120, l_121, l_122, l_123, l_124, l_125, l_126, l_162, l_255, l_300, l_400, l_420, l_432, l_1000, l_1400, l_1936, l_2000, l_2100, l_2400, l_24000, m_n1, m_n2, m_n3, nI_mul, nI_add, nI_sub, nI_ltT, nI_ltF, nI_leT, nI_leF, nI_eqT, nI_eqF, nI_nM, nM_nI, nM_eq, nM_lt, nM_le, nI_ltM, nI_leM, nI_inT, nI_dec, pk_rem, nI_ltI, nI_leI, nI_eq, nI_clamp, Nat.add_assoc, q_bv51, Nat.add_left_cancel_iff, clK_0 d, clK_1 d, clK_3 d, clK_5 d, clK_7 d, clK_8 d, clK_9 d, clK_11 d, clK_12 d, clK_13 d, clK_14 d, clK_15 d, clK_16 d, clK_18 d, clK_20 d, clK_21 d, clK_22 d, clK_23 d, clK_24 d, clK_25 d, clK_26 d, clR_0_0 d, clR_1_0 d, clR_2_0 d, clR_3_0 d, clR_7_0 d, clR_8_0 d, clR_9_0 d, clR_10_0 d, clR_11_0 d, clR_0_8 d, clR_0_11 d, clR_1_11 d, clR_2_11 d, clR_0_15 d, clR_1_15 d, clR_2_15 d, clR_3_15 d, clR_4_15 d, clR_5_15 d, clR_0_23 d, clR_1_23 d, clR_0_25 d, clL_7 d, clL_12 d, clL_13 d, clL_14 d, clL_20 d, clL_21 d, clL_22 d, clL_24 d, clS_0 d, clS_1 d, clS_2 d, clS_3 d]
      rw [eb', if_neg (by decide)]
theorem frm_cg {f f' : Nat → Bool} : ∀ {m p : Nat}, (∀ x, p ≤ x → x < p + m → f x = f' x) → frm f m p = frm f' m p
  | 0, _, _ => rfl
  | m + 1, p, h => by rw [frm, frm, h p (Nat.le_refl _) (by omega), frm_cg (fun x h1 h2 => h x (by omega) (by omega))]
theorem C_from {b : Bool} (I : cI Q h X tp ou fo hd a w) :
    ∃ h', cal g mX10_from [va_rf (some X), .int (bI b)] h = some (some (.int (sFrom b fo hd a w).1), h') ∧ cOK X h h' 0 ∧ cI Q h' X tp ou (sFrom b fo hd a w).2 hd a w := by
  have d := I.1.1
  have hh := I.2.2.1.2.1
  have hta := I.1.2.2.2
  have en := c_now (g := g) I
  have hT := tm_le hta
  rw [n_X10_from]
  unfold sFrom
  cases hd with
  | none =>
    have h5 : hR h 5 X = none := hh
    refine ⟨h, ?_, cOK0 (cfm.rf _) rfl rfl, I⟩
    simp (decide := true) (disch := omega) only [e_X10_from_0, e_X10_from_1, e_X10_from_4, e_X10_from_7, e_X10_from_8, e_X10_from_9, e_X10_from_10, e_X10_from_13, e_X10_from_14, e_X10_from_17, e_X10_from_18, e_X10_from_21, e_X10_from_24, e_X10_from_25, e_X10_from_28, e_X10_from_29, e_X10_from_32, e_X10_from_33, e_X10_from_36, ↓reduceIte, if_true, if_false, reduceCtorEq, Nat.reduceAdd, true_and, and_true, false_and, and_false, true_or, or_true, false_or, or_false, not_true_eq_false, not_false_eq_true, Option.bind_eq_bind, Option.bind_some, psh, eq_self, l_0, l_1, l_2, l_3, l_4, l_5, l_6, l_7, l_8, l_9, l_10, l_11, l_12, l_13, l_14, l_15, l_16, l_17, l_18, l_19, l_20, l_24, l_31, l_32, l_33, l_35, l_36, l_48, l_56, l_57, l_58, l_63, l_65, l_80, l_81, l_90, l_91, l_93, l_94, l_95, l_97, l_100, l_105, l_107, l_110, l_111, l_116, l_120, l_121, l_122, l_123, l_124, l_125, l_126, l_162, l_255, l_300, l_400, l_420, l_432, l_1000, l_1400, l_1936, l_2000, l_2100, l_2400, l_24000, m_n1, m_n2, m_n3, nI_mul, nI_add, nI_sub, nI_ltT, nI_ltF, nI_leT, nI_leF, nI_eqT, nI_eqF, nI_nM, nM_nI, nM_eq, nM_lt, nM_le, nI_ltM, nI_leM, nI_inT, nI_dec, pk_rem, nI_ltI, nI_leI, nI_eq, nI_clamp, Nat.add_assoc, q_bv51, Nat.add_left_cancel_iff, clK_0 d, clK_1 d, clK_3 d, clK_5 d, clK_7 d, clK_8 d, clK_9 d, clK_11 d, clK_12 d, clK_13 d, clK_14 d, clK_15 d, clK_16 d, clK_18 d, clK_20 d, clK_21 d, clK_22 d, clK_23 d, clK_24 d, clK_25 d, clK_26 d, clR_0_0 d, clR_1_0 d, clR_2_0 d, clR_3_0 d, clR_7_0 d, clR_8_0 d, clR_9_0 d, clR_10_0 d, clR_11_0 d, clR_0_8 d, clR_0_11 d, clR_1_11 d, clR_2_11 d, clR_0_15 d, clR_1_15 d, clR_2_15 d, clR_3_15 d, clR_4_15 d, clR_5_15 d, clR_0_23 d, clR_1_23 d, clR_0_25 d, clL_7 d, clL_12 d, clL_13 d, clL_14 d, clL_20 d, clL_21 d, clL_22 d, clL_24 d, clS_0 d, clS_1 d, clS_2 d, clS_3 d, h5]
  | some q =>
    obtain ⟨u, b1, b2, b3⟩ := hh
    obtain ⟨h1, e1, c1, n1, u1, S1⟩ := s_begin (g := g) (T := tm a w.1) I b2 b3
    obtain ⟨I1, c1'⟩ := I.se c1 (fun x z => z)
    have d1 := I1.1.1
    have W1 := I1.1.2.2.1
    have hnn := W1.1.2.2.2
    obtain ⟨v, l4, e2, hv⟩ := s_ml_1 (g := g) (thru := b) d1 W1 S1 hT w.2.2.1 0 0 none (by omega) (fun x hx => by
      rw [decide_eq_false (by omega), Bool.false_and]
      unfold bq
      show BitVec.getLsbD 0#32 x = false
      simp)
    obtain ⟨h3, e3, c3, n3, u3, S3, I3⟩ := s_ml_2 (g := g) (v := v) (l1 := some (.int (bI b))) (l4 := l4) 16 0 h1 _ rfl I1 S1 (fun x hx => by omega)
    obtain ⟨-, c3'⟩ := I1.se c3 (fun x z => z)
    have em : cal g mX7_markLinking [va_rf (some (X + 23)), .int (bI b)] h1 = some (none, h3) := by
      rw [n_X7_markLinking, ← e3]
      have e2' : ev g mX7_markLinking 4 [some (va_rf (some (X + 23))), some (.int (bI b)), some (.int (nI 0)), some (.int (nI 0)), none] [] h1 = _ := e2
      simp (decide := true) (disch := omega) only [e_X7_markLinking_0, e_X7_markLinking_1, e_X7_markLinking_2, e_X7_markLinking_3, ↓reduceIte, if_true, if_false, reduceCtorEq, Nat.reduceAdd, true_and, and_true, false_and, and_false, true_or, or_true, false_or, or_false, not_true_eq_false, not_false_eq_true, Option.bind_eq_bind, Option.bind_some, psh, eq_self, l_0, l_1, l_2, l_3, l_4, l_5, l_6, l_7, l_8, l_9, l_10, l_11, l_12, l_13, l_14, l_15, l_16, l_17, l_18, l_19, l_20, l_24, l_31, l_32, l_33, l_35, l_36, l_48, l_56, l_57, l_58, l_63, l_65, l_80, l_81, l_90, l_91, l_93, l_94, l_95, l_97, l_100, l_105, l_107, l_110, l_111, l_116, l_120, l_121, l_122, l_123, l_124, l_125, l_126, l_162, l_255, l_300, l_400, l_420, l_432, l_1000, l_1400, l_1936, l_2000, l_2100, l_2400, l_24000, m_n1, m_n2, m_n3, nI_mul, nI_add, nI_sub, nI_ltT, nI_ltF, nI_leT, nI_leF, nI_eqT, nI_eqF, nI_nM, nM_nI, nM_eq, nM_lt, nM_le, nI_ltM, nI_leM, nI_inT, nI_dec, pk_rem, nI_ltI, nI_leI, nI_eq, nI_clamp, Nat.add_assoc, q_bv51, Nat.add_left_cancel_iff]
      rw [e2']
      simp (decide := true) (disch := omega) only [e_X7_markLinking_59, e_X7_markLinking_60, ↓reduceIte, if_true, if_false, reduceCtorEq, Nat.reduceAdd, true_and, and_true, false_and, and_false, true_or, or_true, false_or, or_false, not_true_eq_false, not_false_eq_true, Option.bind_eq_bind, Option.bind_some, psh, eq_self, l_0, l_1, l_2, l_3, l_4, l_5, l_6, l_7, l_8, l_9, l_10, l_11, l_12, l_13, l_14, l_15, l_16, l_17, l_18, l_19, l_20, l_24, l_31, l_32, l_33, l_35, l_36, l_48, l_56, l_57, l_58, l_63, l_65, l_80, l_81, l_90, l_91, l_93, l_94, l_95, l_97, l_100, l_105, l_107, l_110, l_111, l_116, l_120, l_121, l_122, l_123, l_124, l_125, l_126, l_162, l_255, l_300, l_400, l_420, l_432, l_1000, l_1400, l_1936, l_2000, l_2100, l_2400, l_24000, m_n1, m_n2, m_n3, nI_mul, nI_add, nI_sub, nI_ltT, nI_ltF, nI_leT, nI_leF, nI_eqT, nI_eqF, nI_nM, nM_nI, nM_eq, nM_lt, nM_le, nI_ltM, nI_leM, nI_inT, nI_dec, pk_rem, nI_ltI, nI_leI, nI_eq, nI_clamp, Nat.add_assoc, q_bv51, Nat.add_left_cancel_iff]
    obtain ⟨h4, e5, c5, n5, u5, I5⟩ := c_keepMarked (g := g) I3 S3
    have hfr : frm (bq v) 16 0 = frm (ldP w.2.1 w.2.2.2 w.2.2.1 (tm a w.1) 1 b (fun _ => false) q) w.2.2.1 0 := by
      rw [frm_cg (f' := fun x => decide (x < w.2.2.1) && ldP w.2.1 w.2.2.2 w.2.2.1 (tm a w.1) 1 b (fun _ => false) q x) (fun x _ hx => hv x (by omega))]
      rw [frm_cut (m := w.2.2.1) hnn (fun x hx => by rw [decide_eq_false (by omega), Bool.false_and])]
      exact frm_cg (fun x _ hx => by rw [decide_eq_true (by omega), Bool.true_and])
    rw [hfr] at e5 I5
    have d3 := I3.1.1
    refine ⟨h4, ?_, cOK0 ((c1'.tr c3').tr c5) (by omega) (by omega), I5⟩
    simp (decide := true) (disch := omega) only [e_X10_from_0, e_X10_from_1, e_X10_from_4, e_X10_from_7, e_X10_from_8, e_X10_from_9, e_X10_from_10, e_X10_from_13, e_X10_from_14, e_X10_from_17, e_X10_from_18, e_X10_from_21, e_X10_from_24, e_X10_from_25, e_X10_from_28, e_X10_from_29, e_X10_from_32, e_X10_from_33, e_X10_from_36, ↓reduceIte, if_true, if_false, reduceCtorEq, Nat.reduceAdd, true_and, and_true, false_and, and_false, true_or, or_true, false_or, or_false, not_true_eq_false, not_false_eq_true, Option.bind_eq_bind, Option.bind_some, psh, eq_self, l_0, l_1, l_2, l_3, l_4, l_5, l_6, l_7, l_8, l_9, l_10, l_11, l_12, l_13, l_14, l_15, l_16, l_17, l_18, l_19, l_20, l_24, l_31, l_32, l_33, l_35, l_36, l_48, l_56, l_57, l_58, l_63, l_65, l_80, l_81, l_90, l_91, l_93, l_94, l_95, l_97, l_100, l_105, l_107, l_110, l_111, l_116, l_120, l_121, l_122, l_123, l_124, l_125, l_126, l_162, l_255, l_300, l_400, l_420, l_432, l_1000, l_1400, l_1936, l_2000, l_2100, l_2400, l_24000, m_n1, m_n2, m_n3, nI_mul, nI_add, nI_sub, nI_ltT, nI_ltF, nI_leT, nI_leF, nI_eqT, nI_eqF, nI_nM, nM_nI, nM_eq, nM_lt, nM_le, nI_ltM, nI_leM, nI_inT, nI_dec, pk_rem, nI_ltI, nI_leI, nI_eq, nI_clamp, Nat.add_assoc, q_bv51, Nat.add_left_cancel_iff, clK_0 d, clK_1 d, clK_3 d, clK_5 d, clK_7 d, clK_8 d, clK_9 d, clK_11 d, clK_12 d, clK_13 d, clK_14 d, clK_15 d, clK_16 d, clK_18 d, clK_20 d, clK_21 d, clK_22 d, clK_23 d, clK_24 d, clK_25 d, clK_26 d, clR_0_0 d, clR_1_0 d, clR_2_0 d, clR_3_0 d, clR_7_0 d, clR_8_0 d, clR_9_0 d, clR_10_0 d, clR_11_0 d, clR_0_8 d, clR_0_11 d, clR_1_11 d, clR_2_11 d, clR_0_15 d, clR_1_15 d, clR_2_15 d, clR_3_15 d, clR_4_15 d, clR_5_15 d, clR_0_23 d, clR_1_23 d, clR_0_25 d, clL_7 d, clL_12 d, clL_13 d, clL_14 d, clL_20 d, clL_21 d, clL_22 d, clL_24 d, clS_0 d, clS_1 d, clS_2 d, clS_3 d, b1, reduceCtorEq, en, e1, clK_0 d1, clK_1 d1, clK_3 d1, clK_5 d1, clK_7 d1, clK_8 d1, clK_9 d1, clK_11 d1, clK_12 d1, clK_13 d1, clK_14 d1, clK_15 d1, clK_16 d1, clK_18 d1, clK_20 d1, clK_21 d1, clK_22 d1, clK_23 d1, clK_24 d1, clK_25 d1, clK_26 d1, clR_0_0 d1, clR_1_0 d1, clR_2_0 d1, clR_3_0 d1, clR_7_0 d1, clR_8_0 d1, clR_9_0 d1, clR_10_0 d1, clR_11_0 d1, clR_0_8 d1, clR_0_11 d1, clR_1_11 d1, clR_2_11 d1, clR_0_15 d1, clR_1_15 d1, clR_2_15 d1, clR_3_15 d1, clR_4_15 d1, clR_5_15 d1, clR_0_23 d1, clR_1_23 d1, clR_0_25 d1, clL_7 d1, clL_12 d1, clL_13 d1, clL_14 d1, clL_20 d1, clL_21 d1, clL_22 d1, clL_24 d1, clS_0 d1, clS_1 d1, clS_2 d1, clS_3 d1, em, clK_0 d3, clK_1 d3, clK_3 d3, clK_5 d3, clK_7 d3, clK_8 d3, clK_9 d3, clK_11 d3, clK_12 d3, clK_13 d3, clK_14 d3, clK_15 d3, clK_16 d3, clK_18 d3, clK_20 d3, clK_21 d3, clK_22 d3, clK_23 d3, clK_24 d3, clK_25 d3, clK_26 d3, clR_0_0 d3, clR_1_0 d3, clR_2_0 d3, clR_3_0 d3, clR_7_0 d3, clR_8_0 d3, clR_9_0 d3, clR_10_0 d3, clR_11_0 d3, clR_0_8 d3, clR_0_11 d3, clR_1_11 d3, clR_2_11 d3, clR_0_15 d3, clR_1_15 d3, clR_2_15 d3, clR_3_15 d3, clR_4_15 d3, clR_5_15 d3, clR_0_23 d3, clR_1_23 d3, clR_0_25 d3, clL_7 d3, clL_12 d3, clL_13 d3, clL_14 d3, clL_20 d3, clL_21 d3, clL_22 d3, clL_24 d3, clS_0 d3, clS_1 d3, clS_2 d3, clS_3 d3, e5]
end
