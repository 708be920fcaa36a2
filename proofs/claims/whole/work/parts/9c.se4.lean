/-! PageWeb: keepMarked, touch -/
theorem frm_cut {f : Nat → Bool} : ∀ {m m' p : Nat}, m ≤ m' → (∀ x, p + m ≤ x → f x = false) → frm f m' p = frm f m p
  | 0, 0, _, _, _ => rfl
  | 0, m' + 1, p, _, h => by
    have e : frm f (m' + 1) p = if f p = true then p :: frm f m' (p + 1) else frm f m' (p + 1) := rfl
    rw [e, if_neg (by rw [h p (by omega)]; simp), frm_cut (m := 0) (Nat.zero_le _) (fun x hx => h x (by omega))]
    rfl
  | m + 1, 0, _, hm, _ => by omega
  | m + 1, m' + 1, p, hm, h => by
    rw [frm, frm, frm_cut (m := m) (by omega) (fun x hx => h x (by omega))]
theorem trd_out {f : (Nat → Bool) → Nat → Bool} : ∀ {m p : Nat} {mk : Nat → Bool} {b : Bool} {x : Nat}, p + m ≤ x → (trd f m p mk b).1 x = mk x
  | 0, _, _, _, _, _ => rfl
  | m + 1, p, ma, b, x, h => by
    rw [trd]
    split
    · rw [trd_out (by omega), upf_n (by omega)]
    · rw [trd_out (by omega)]
theorem trun_out {f : (Nat → Bool) → Nat → Bool} {nn : Nat} : ∀ {k : Nat} {mk : Nat → Bool} {x : Nat}, nn ≤ x → trun f nn k mk x = mk x
  | 0, _, _, _ => rfl
  | k + 1, ma, x, h => by
    rw [trun]
    split
    · rw [trun_out h, trd_out (by omega)]
    · rw [trd_out (by omega)]
section
variable {g X T : Nat} {Q : Nat → Prop} {h : PH} {tp ou fo : List Nat} {hd : Option Nm} {a : Option Nat} {w : Wd} {goal : Nm} {mk : Nat → Bool}
theorem ss.keep {P : Nat → Prop} {h' : PH} (S : ss Q h X goal T mk) (s : sm P h h') (hN' : X + 57 ≤ hN h) (h1 : ¬ P (X + 23)) (h2 : ¬ P (X + 24)) (hQ : ∀ x, Q x → x < hN h ∧ ¬ P x) : ss Q h' X goal T mk := by
  obtain ⟨⟨b, b1, b2, b3⟩, s2, s3⟩ := S
  obtain ⟨-, -, a3⟩ := s.2.2 (X + 23) (by omega)
  obtain ⟨-, -, c3⟩ := s.2.2 (X + 24) (by omega)
  obtain ⟨a4, a5, -⟩ := a3 h1
  obtain ⟨-, -, -, c4, -⟩ := c3 h2
  exact ⟨⟨b, by rw [a5]; exact b1, b2, b3.keep s (hQ b b2).1 (hQ b b2).2⟩, by rw [a4]; exact s2, by rw [c4]; exact s3⟩
theorem cI.keptF {f : Nat → Int32} {v : Int32} {fo' : List Nat} (I : cI Q h X tp ou fo hd a w) (hf : cFo (pI (pA h (X + 7) f) 4 X v) X fo') : cI Q (pI (pA h (X + 7) f) 4 X v) X tp ou fo' hd a w ∧ cfm X (cP X) h (pI (pA h (X + 7) f) 4 X v) ∧ sm (fun x => x = X ∨ x = X + 7) h (pI (pA h (X + 7) f) 4 X v) := by
  have s : cfm X (fun x => x = X ∨ x = X + 7) h (pI (pA h (X + 7) f) 4 X v) := (cfm.pA _ _ (Or.inr rfl)).tr (cfm.pI _ _ (Or.inl rfl))
  have hQ := I.1.2.1
  obtain ⟨u1, u2, u3, u4, u5, u6, u7, u8, u9, u10, u11, u12⟩ := I.kp (Q' := Q) [0, 7] s (fun k hk hn z => by
    simp only [List.mem_cons, List.not_mem_nil, or_false, not_or] at hn
    omega) (fun x hx _ z => by omega) (fun x hx z => by omega) (fun x hx => hx) (fun x hx => Or.inl hx)
  refine ⟨⟨⟨u1, u2, u3 (fun k k1 k2 => by simp only [List.mem_cons, List.not_mem_nil, or_false, not_or]; omega), I.1.2.2.2⟩, ⟨u4 (by decide) (by decide), u5 (by decide) (by decide), u6 (by decide) (by decide), u7 (by decide) (by decide)⟩, ⟨hf, I.2.2.1.2.1.keep s.1 (fun x hx => by have := hQ x hx; exact ⟨this.2, by omega, hx⟩), ?_⟩, u11 (by decide) (by decide) (by decide) (by decide), u12 (by decide)⟩, s.mono (fun x _ z => by unfold cP; omega), s.1⟩
  have := I.2.2.1.2.2
  simp (decide := true) only [u_hN_pI, u_hU_pI, u_hK_pI, u_hL_pI, u_hR_pI, u_hJ_pI, u_hA_pI, u_hB_pI, u_hS_pI, u_hN_pR, u_hU_pR, u_hK_pR, u_hL_pR, u_hI_pR, u_hJ_pR, u_hA_pR, u_hB_pR, u_hS_pR, u_hN_pJ, u_hU_pJ, u_hK_pJ, u_hL_pJ, u_hI_pJ, u_hR_pJ, u_hA_pJ, u_hB_pJ, u_hS_pJ, u_hN_pA, u_hU_pA, u_hK_pA, u_hL_pA, u_hI_pA, u_hR_pA, u_hJ_pA, u_hB_pA, u_hS_pA, u_hN_pB, u_hU_pB, u_hK_pB, u_hL_pB, u_hI_pB, u_hR_pB, u_hJ_pB, u_hA_pB, u_hS_pB, u_hL_nO, u_hA_nO, u_hB_nO, u_hS_nO, u_hI_nA, u_hR_nA, u_hJ_nA, u_hS_nA, u_II, u_RR, u_JJ, u_AA, u_BB, u_NO, u_UO, u_KO, u_IO, u_RO, u_JO, u_NN, u_UN, u_KN, u_LN, u_AN, u_BN, false_and, if_false]
  exact this
theorem c_keep_loop : ∀ j k (h : PH) (l : List Nat), j + k = 16 → l.length ≤ k → cI Q h X tp ou l hd a w → ss Q h X goal T mk →
    ∃ h', ev g mX10_keepMarked 7 [some (va_rf (some X)), some (.int (nI k))] [] h = some (some (.int (nI (l ++ frm mk j k).length)), h') ∧ cfm X (cP X) h h' ∧ hN h' = hN h ∧ hU h' = hU h ∧ cI Q h' X tp ou (l ++ frm mk j k) hd a w := by
  intro j
  induction j with
  | zero =>
    intro k h l hk hl I S
    have d := I.1.1
    have h4 := I.2.2.1.1.1
    have : k = 16 := by omega
    subst this
    rw [frm, List.append_nil, e_X10_keepMarked_7]
    refine ⟨h, ?_, cfm.rf _, rfl, rfl, I⟩
    simp (decide := true) (disch := omega) only [e_X10_keepMarked_0, e_X10_keepMarked_1, e_X10_keepMarked_2, e_X10_keepMarked_5, e_X10_keepMarked_6, e_X10_keepMarked_8, e_X10_keepMarked_9, e_X10_keepMarked_12, e_X10_keepMarked_13, e_X10_keepMarked_16, e_X10_keepMarked_17, e_X10_keepMarked_20, e_X10_keepMarked_21, e_X10_keepMarked_24, e_X10_keepMarked_27, e_X10_keepMarked_28, e_X10_keepMarked_31, e_X10_keepMarked_32, e_X10_keepMarked_35, e_X10_keepMarked_36, e_X10_keepMarked_39, e_X10_keepMarked_40, e_X10_keepMarked_43, e_X10_keepMarked_44, e_X10_keepMarked_47, e_X10_keepMarked_48, e_X10_keepMarked_49, e_X10_keepMarked_50, e_X10_keepMarked_51, e_X10_keepMarked_54, e_X10_keepMarked_55, e_X10_keepMarked_56, e_X10_keepMarked_59, e_X10_keepMarked_62, e_X10_keepMarked_65, e_X10_keepMarked_66, e_X10_keepMarked_69, ↓reduceIte, if_true, if_false, reduceCtorEq, Nat.reduceAdd, true_and, and_true, false_and, and_false, true_or, or_true, false_or, or_false, not_true_eq_false, not_false_eq_true, Option.bind_eq_bind, Option.bind_some, psh, eq_self, l_0, l_1, l_2, l_3, l_4, l_5, l_6, l_7, l_8, l_9, l_10, l_11, l_12, l_13, l_14, l_15, l_16, l_17, l_18, l_19, l_20, l_24, l_31, l_32, l_33, l_35, l_36, l_48, l_56, l_57, l_58, l_63, l_65, l_80, l_81, l_90, l_91, l_93, l_94, l_95, l_97, l_100, l_105, l_107, l_110, l_111, l_116, l_120, l_121, l_122, l_123, l_124, l_125, l_126, l_162, l_255, l_300, l_400, l_420, l_432, l_1000, l_1400, l_1936, l_2000, l_2100, l_2400, l_24000, m_n1, m_n2, m_n3, nI_mul, nI_add, nI_sub, nI_ltT, nI_ltF, nI_leT, nI_leF, nI_eqT, nI_eqF, nI_nM, nM_nI, nM_eq, nM_lt, nM_le, nI_ltM, nI_leM, nI_inT, nI_dec, pk_rem, nI_ltI, nI_leI, nI_eq, nI_clamp, Nat.add_assoc, q_bv51, Nat.add_left_cancel_iff, clK_0 d, clK_1 d, clK_3 d, clK_5 d, clK_7 d, clK_8 d, clK_9 d, clK_11 d, clK_12 d, clK_13 d, clK_14 d, clK_15 d, clK_16 d, clK_18 d, clK_20 d, clK_21 d, clK_22 d, clK_23 d, clK_24 d, clK_25 d, clK_26 d, clR_0_0 d, clR_1_0 d, clR_2_0 d, clR_3_0 d, clR_7_0 d, clR_8_0 d, clR_9_0 d, clR_10_0 d, clR_11_0 d, clR_0_8 d, clR_0_11 d, clR_1_11 d, clR_2_11 d, clR_0_15 d, clR_1_15 d, clR_2_15 d, clR_3_15 d, clR_4_15 d, clR_5_15 d, clR_0_23 d, clR_1_23 d, clR_0_25 d, clL_7 d, clL_12 d, clL_13 d, clL_14 d, clL_20 d, clL_21 d, clL_22 d, clL_24 d, clS_0 d, clS_1 d, clS_2 d, clS_3 d, h4]
  | succ j ih =>
    intro k h l hk hl I S
    have d := I.1.1
    have dN := d.1
    have hQ := I.1.2.1
    obtain ⟨h4, h7, hl16⟩ := I.2.2.1.1
    have em := s_isMarked (g := g) (o := some k) d S (fun p z => by cases z; omega)
    rw [oN] at em
    have em' : cal g mX7_isMarked [va_rf (some (X + 23)), .int (nI k)] h = some (some (.int (bI (mk k))), h) := em
    rw [frm, e_X10_keepMarked_7]
    cases ek : mk k with
    | false =>
      rw [ek, bI_f] at em'
      rw [if_neg (by simp)]
      obtain ⟨h', e1, R⟩ := ih (k + 1) h l (by omega) (by omega) I S
      refine ⟨h', ?_, R⟩
      rw [← e1]
      simp (decide := true) (disch := omega) only [e_X10_keepMarked_0, e_X10_keepMarked_1, e_X10_keepMarked_2, e_X10_keepMarked_5, e_X10_keepMarked_6, e_X10_keepMarked_8, e_X10_keepMarked_9, e_X10_keepMarked_12, e_X10_keepMarked_13, e_X10_keepMarked_16, e_X10_keepMarked_17, e_X10_keepMarked_20, e_X10_keepMarked_21, e_X10_keepMarked_24, e_X10_keepMarked_27, e_X10_keepMarked_28, e_X10_keepMarked_31, e_X10_keepMarked_32, e_X10_keepMarked_35, e_X10_keepMarked_36, e_X10_keepMarked_39, e_X10_keepMarked_40, e_X10_keepMarked_43, e_X10_keepMarked_44, e_X10_keepMarked_47, e_X10_keepMarked_48, e_X10_keepMarked_49, e_X10_keepMarked_50, e_X10_keepMarked_51, e_X10_keepMarked_54, e_X10_keepMarked_55, e_X10_keepMarked_56, e_X10_keepMarked_59, e_X10_keepMarked_62, e_X10_keepMarked_65, e_X10_keepMarked_66, e_X10_keepMarked_69, ↓reduceIte, if_true, if_false, reduceCtorEq, Nat.reduceAdd, true_and, and_true, false_and, and_false, true_or, or_true, false_or, or_false, not_true_eq_false, not_false_eq_true, Option.bind_eq_bind, Option.bind_some, psh, eq_self, l_0, l_1, l_2, l_3, l_4, l_5, l_6, l_7, l_8, l_9, l_10, l_11, l_12, l_13, l_14, l_15, l_16, l_17, l_18, l_19, l_20, l_24, l_31, l_32, l_33, l_35, l_36, l_48, l_56, l_57, l_58, l_63, l_65, l_80, l_81, l_90, l_91, l_93, l_94, l_95, l_97, l_100, l_105, l_107, l_110, l_111, l_116, l_120, l_121, l_122, l_123, l_124, l_125, l_126, l_162, l_255, l_300, l_400, l_420, l_432, l_1000, l_1400, l_1936, l_2000, l_2100, l_2400, l_24000, m_n1, m_n2, m_n3, nI_mul, nI_add, nI_sub, nI_ltT, nI_ltF, nI_leT, nI_leF, nI_eqT, nI_eqF, nI_nM, nM_nI, nM_eq, nM_lt, nM_le, nI_ltM, nI_leM, nI_inT, nI_dec, pk_rem, nI_ltI, nI_leI, nI_eq, nI_clamp, Nat.add_assoc, q_bv51, Nat.add_left_cancel_iff, clK_0 d, clK_1 d, clK_3 d, clK_5 d, clK_7 d, clK_8 d, clK_9 d, clK_11 d, clK_12 d, clK_13 d, clK_14 d, clK_15 d, clK_16 d, clK_18 d, clK_20 d, clK_21 d, clK_22 d, clK_23 d, clK_24 d, clK_25 d, clK_26 d, clR_0_0 d, clR_1_0 d, clR_2_0 d, clR_3_0 d, clR_7_0 d, clR_8_0 d, clR_9_0 d, clR_10_0 d, clR_11_0 d, clR_0_8 d, clR_0_11 d, clR_1_11 d, clR_2_11 d, clR_0_15 d, clR_1_15 d, clR_2_15 d, clR_3_15 d, clR_4_15 d, clR_5_15 d, clR_0_23 d, clR_1_23 d, clR_0_25 d, clL_7 d, clL_12 d, clL_13 d, clL_14 d, clL_20 d, clL_21 d, clL_22 d, clL_24 d, clS_0 d, clS_1 d, clS_2 d, clS_3 d, em']
    | true =>
      rw [ek, bI_t] at em'
      rw [if_pos rfl]
      have hf : cFo (pI (pA h (X + 7) (upd (hA h (X + 7)) l.length (nI k))) 4 X (nI (l.length + 1))) X (l ++ [k]) := by
        refine ⟨?_, ?_, by simp; omega⟩
        · simp (decide := true) only [u_hN_pI, u_hU_pI, u_hK_pI, u_hL_pI, u_hR_pI, u_hJ_pI, u_hA_pI, u_hB_pI, u_hS_pI, u_hN_pR, u_hU_pR, u_hK_pR, u_hL_pR, u_hI_pR, u_hJ_pR, u_hA_pR, u_hB_pR, u_hS_pR, u_hN_pJ, u_hU_pJ, u_hK_pJ, u_hL_pJ, u_hI_pJ, u_hR_pJ, u_hA_pJ, u_hB_pJ, u_hS_pJ, u_hN_pA, u_hU_pA, u_hK_pA, u_hL_pA, u_hI_pA, u_hR_pA, u_hJ_pA, u_hB_pA, u_hS_pA, u_hN_pB, u_hU_pB, u_hK_pB, u_hL_pB, u_hI_pB, u_hR_pB, u_hJ_pB, u_hA_pB, u_hS_pB, u_hL_nO, u_hA_nO, u_hB_nO, u_hS_nO, u_hI_nA, u_hR_nA, u_hJ_nA, u_hS_nA, u_II, u_RR, u_JJ, u_AA, u_BB, u_NO, u_UO, u_KO, u_IO, u_RO, u_JO, u_NN, u_UN, u_KN, u_LN, u_AN, u_BN, if_true, List.length_append, List.length_cons, List.length_nil, and_self]
        · intro x hx
          simp only [List.length_append, List.length_cons, List.length_nil] at hx
          simp (decide := true) only [u_hN_pI, u_hU_pI, u_hK_pI, u_hL_pI, u_hR_pI, u_hJ_pI, u_hA_pI, u_hB_pI, u_hS_pI, u_hN_pR, u_hU_pR, u_hK_pR, u_hL_pR, u_hI_pR, u_hJ_pR, u_hA_pR, u_hB_pR, u_hS_pR, u_hN_pJ, u_hU_pJ, u_hK_pJ, u_hL_pJ, u_hI_pJ, u_hR_pJ, u_hA_pJ, u_hB_pJ, u_hS_pJ, u_hN_pA, u_hU_pA, u_hK_pA, u_hL_pA, u_hI_pA, u_hR_pA, u_hJ_pA, u_hB_pA, u_hS_pA, u_hN_pB, u_hU_pB, u_hK_pB, u_hL_pB, u_hI_pB, u_hR_pB, u_hJ_pB, u_hA_pB, u_hS_pB, u_hL_nO, u_hA_nO, u_hB_nO, u_hS_nO, u_hI_nA, u_hR_nA, u_hJ_nA, u_hS_nA, u_II, u_RR, u_JJ, u_AA, u_BB, u_NO, u_UO, u_KO, u_IO, u_RO, u_JO, u_NN, u_UN, u_KN, u_LN, u_AN, u_BN, if_true]
          by_cases c : x = l.length
          · rw [c, pk_us]
            simp [List.getD_eq_getElem?_getD]
          · rw [pk_un c, h7 x (by omega)]
            simp [List.getD_eq_getElem?_getD, List.getElem?_append_left (show x < l.length by omega)]
      obtain ⟨I1, c1, s1⟩ := I.keptF hf
      have S1 := S.keep s1 dN (by omega) (by omega) (fun x hx => by have := hQ x hx; exact ⟨this.2, by omega⟩)
      obtain ⟨h', e1, R1, R2, R3, R4⟩ := ih (k + 1) _ (l ++ [k]) (by omega) (by simp; omega) I1 S1
      rw [List.append_assoc] at e1 R4
      refine ⟨h', ?_, c1.tr R1, by rw [R2]; rfl, by rw [R3]; rfl, R4⟩
      rw [show l ++ k :: frm mk j (k + 1) = l ++ ([k] ++ frm mk j (k + 1)) from rfl, ← e1]
      simp (decide := true) (disch := omega) only [e_X10_keepMarked_0, e_X10_keepMarked_1, e_X10_keepMarked_2, e_X10_keepMarked_5, e_X10_keepMarked_6, e_X10_keepMarked_8, e_X10_keepMarked_9, e_X10_keepMarked_12, e_X10_keepMarked_13, e_X10_keepMarked_16, e_X10_keepMarked_17, e_X10_keepMarked_20, e_X10_keepMarked_21, e_X10_keepMarked_24, e_X10_keepMarked_27, e_X10_keepMarked_28, e_X10_keepMarked_31, e_X10_keepMarked_32, e_X10_keepMarked_35, e_X10_keepMarked_36, e_X10_keepMarked_39, e_X10_keepMarked_40, e_X10_keepMarked_43, e_X10_keepMarked_44, e_X10_keepMarked_47, e_X10_keepMarked_48, e_X10_keepMarked_49, e_X10_keepMarked_50, e_X10_keepMarked_51, e_X10_keepMarked_54, e_X10_keepMarked_55, e_X10_keepMarked_56, e_X10_keepMarked_59, e_X10_keepMarked_62, e_X10_keepMarked_65, e_X10_keepMarked_66, e_X10_keepMarked_69, ↓reduceIte, if_true, if_false, reduceCtorEq, Nat.reduceAdd, true_and, and_true, false_and, and_false, true_or, or_true, false_or, or_false, not_true_eq_false, not_false_eq_true, Option.bind_eq_bind, Option.bind_some, psh, eq_self, l_0, l_1, l_2, l_3, l_4, l_5, l_6, l_7, l_8, l_9, l_10, l_11, l_12, l_13, l_14, l_15, l_16, l_17, l_18, l_19, l_20, l_24, l_31, l_32, l_33, l_35, l_36, l_48, l_56, l_57, l_58, l_63, l_65, l_80, l_81, l_90, l_91, l_93, l_94, l_95, l_97, l_100, l_105, l_107, l_110, l_111, l_116, l_120, l_121, l_122, l_123, l_124, l_125, l_126, l_162, l_255, l_300, l_400, l_420, l_432, l_1000, l_1400, l_1936, l_2000, l_2100, l_2400, l_24000, m_n1, m_n2, m_n3, nI_mul, nI_add, nI_sub, nI_ltT, nI_ltF, nI_leT, nI_leF, nI_eqT, nI_eqF, nI_nM, nM_nI, nM_eq, nM_lt, nM_le, nI_ltM, nI_leM, nI_inT, nI_dec, pk_rem, nI_ltI, nI_leI, nI_eq, nI_clamp, Nat.add_assoc, q_bv51, Nat.add_left_cancel_iff, clK_0 d, clK_1 d, clK_3 d, clK_5 d, clK_7 d, clK_8 d, clK_9 d, clK_11 d, clK_12 d, clK_13 d, clK_14 d, clK_15 d, clK_16 d, clK_18 d, clK_20 d, clK_21 d, clK_22 d, clK_23 d, clK_24 d, clK_25 d, clK_26 d, clR_0_0 d, clR_1_0 d, clR_2_0 d, clR_3_0 d, clR_7_0 d, clR_8_0 d, clR_9_0 d, clR_10_0 d, clR_11_0 d, clR_0_8 d, clR_0_11 d, clR_1_11 d, clR_2_11 d, clR_0_15 d, clR_1_15 d, clR_2_15 d, clR_3_15 d, clR_4_15 d, clR_5_15 d, clR_0_23 d, clR_1_23 d, clR_0_25 d, clL_7 d, clL_12 d, clL_13 d, clL_14 d, clL_20 d, clL_21 d, clL_22 d, clL_24 d, clS_0 d, clS_1 d, clS_2 d, clS_3 d, em', h4, u_hN_pI, u_hU_pI, u_hK_pI, u_hL_pI, u_hR_pI, u_hJ_pI, u_hA_pI, u_hB_pI, u_hS_pI, u_hN_pR, u_hU_pR, u_hK_pR, u_hL_pR, u_hI_pR, u_hJ_pR, u_hA_pR, u_hB_pR, u_hS_pR, u_hN_pJ, u_hU_pJ, u_hK_pJ, u_hL_pJ, u_hI_pJ, u_hR_pJ, u_hA_pJ, u_hB_pJ, u_hS_pJ, u_hN_pA, u_hU_pA, u_hK_pA, u_hL_pA, u_hI_pA, u_hR_pA, u_hJ_pA, u_hB_pA, u_hS_pA, u_hN_pB, u_hU_pB, u_hK_pB, u_hL_pB, u_hI_pB, u_hR_pB, u_hJ_pB, u_hA_pB, u_hS_pB, u_hL_nO, u_hA_nO, u_hB_nO, u_hS_nO, u_hI_nA, u_hR_nA, u_hJ_nA, u_hS_nA, u_II, u_RR, u_JJ, u_AA, u_BB, u_NO, u_UO, u_KO, u_IO, u_RO, u_JO, u_NN, u_UN, u_KN, u_LN, u_AN, u_BN]
theorem c_keepMarked (I : cI Q h X tp ou fo hd a w) (S : ss Q h X goal T mk) : ∃ h', cal g mX10_keepMarked [va_rf (some X)] h = some (some (.int (nI (frm mk 16 0).length)), h') ∧ cfm X (cP X) h h' ∧ hN h' = hN h ∧ hU h' = hU h ∧ cI Q h' X tp ou (frm mk 16 0) hd a w := by
  have d := I.1.1
  have dN := d.1
  have hQ := I.1.2.1
  have hf : cFo (pI (pA h (X + 7) (hA h (X + 7))) 4 X (nI 0)) X [] := ⟨by simp (decide := true) only [u_hN_pI, u_hU_pI, u_hK_pI, u_hL_pI, u_hR_pI, u_hJ_pI, u_hA_pI, u_hB_pI, u_hS_pI, u_hN_pR, u_hU_pR, u_hK_pR, u_hL_pR, u_hI_pR, u_hJ_pR, u_hA_pR, u_hB_pR, u_hS_pR, u_hN_pJ, u_hU_pJ, u_hK_pJ, u_hL_pJ, u_hI_pJ, u_hR_pJ, u_hA_pJ, u_hB_pJ, u_hS_pJ, u_hN_pA, u_hU_pA, u_hK_pA, u_hL_pA, u_hI_pA, u_hR_pA, u_hJ_pA, u_hB_pA, u_hS_pA, u_hN_pB, u_hU_pB, u_hK_pB, u_hL_pB, u_hI_pB, u_hR_pB, u_hJ_pB, u_hA_pB, u_hS_pB, u_hL_nO, u_hA_nO, u_hB_nO, u_hS_nO, u_hI_nA, u_hR_nA, u_hJ_nA, u_hS_nA, u_II, u_RR, u_JJ, u_AA, u_BB, u_NO, u_UO, u_KO, u_IO, u_RO, u_JO, u_NN, u_UN, u_KN, u_LN, u_AN, u_BN, if_true, List.length_nil, and_self], fun k hk => absurd hk (Nat.not_lt_zero _), Nat.zero_le _⟩
  obtain ⟨I1, c1, s1⟩ := I.keptF hf
  have S1 := S.keep s1 dN (by omega) (by omega) (fun x hx => by have := hQ x hx; exact ⟨this.2, by omega⟩)
  rw [c_A0] at I1 c1 s1 S1
  obtain ⟨h', e1, R1, R2, R3, R4⟩ := c_keep_loop (g := g) 16 0 _ [] rfl (Nat.le_refl _) I1 S1
  rw [List.nil_append] at e1 R4
  refine ⟨h', ?_, c1.tr R1, by rw [R2]; rfl, by rw [R3]; rfl, R4⟩
  rw [n_X10_keepMarked, ← e1]
  simp (decide := true) (disch := omega) only [e_X10_keepMarked_0, e_X10_keepMarked_1, e_X10_keepMarked_2, e_X10_keepMarked_5, e_X10_keepMarked_6, ↓reduceIte, if_true, if_false, reduceCtorEq, Nat.reduceAdd, true_and, and_true, false_and, and_false, true_or, or_true, false_or, or_false, not_true_eq_false, not_false_eq_true, Option.bind_eq_bind, Option.bind_some, psh, eq_self, l_0, l_1, l_2, l_3, l_4, l_5, l_6, l_7, l_8, l_9, l_10, l_11, l_12, l_13, l_14, l_15, l_16, l_17, l_18, l_19, l_20, l_24, l_31, l_32, l_33, l_35, l_36, l_48, l_56, l_57, l_58, l_63, l_65, l_80, l_81, l_90, l_91, l_93, l_94, l_95, l_97, l_100, l_105, l_107, l_110, l_111, l_116, l_120, l_121, l_122, l_123, l_124, l_125, l_126, l_162, l_255, l_300, l_400, l_420, l_432, l_1000, l_1400, l_1936, l_2000, l_2100, l_2400, l_24000, m_n1, m_n2, m_n3, nI_mul, nI_add, nI_sub, nI_ltT, nI_ltF, nI_leT, nI_leF, nI_eqT, nI_eqF, nI_nM, nM_nI, nM_eq, nM_lt, nM_le, nI_ltM, nI_leM, nI_inT, nI_dec, pk_rem, nI_ltI, nI_leI, nI_eq, nI_clamp, Nat.add_assoc, q_bv51, Nat.add_left_cancel_iff, clK_0 d, clK_1 d, clK_3 d, clK_5 d, clK_7 d, clK_8 d, clK_9 d, clK_11 d, clK_12 d, clK_13 d, clK_14 d, clK_15 d, clK_16 d, clK_18 d, clK_20 d, clK_21 d, clK_22 d, clK_23 d, clK_24 d, clK_25 d, clK_26 d, clR_0_0 d, clR_1_0 d, clR_2_0 d, clR_3_0 d, clR_7_0 d, clR_8_0 d, clR_9_0 d, clR_10_0 d, clR_11_0 d, clR_0_8 d, clR_0_11 d, clR_1_11 d, clR_2_11 d, clR_0_15 d, clR_1_15 d, clR_2_15 d, clR_3_15 d, clR_4_15 d, clR_5_15 d, clR_0_23 d, clR_1_23 d, clR_0_25 d, clL_7 d, clL_12 d, clL_13 d, clL_14 d, clL_20 d, clL_21 d, clL_22 d, clL_24 d, clS_0 d, clS_1 d, clS_2 d, clS_3 d]
theorem C_touch (I : cI Q h X tp ou fo hd a w) :
    ∃ h', cal g mX10_touch [va_rf (some X)] h = some (some (.int (sTouch fo hd a w).1), h') ∧ cOK X h h' 0 ∧ cI Q h' X tp ou (sTouch fo hd a w).2 hd a w := by
  have d := I.1.1
  have W := I.1.2.2.1
  have hnn := W.1.2.2.2
  have hh := I.2.2.1.2.1
  have hta := I.1.2.2.2
  have en := c_now (g := g) I
  have hT := tm_le hta
  rw [n_X10_touch]
  unfold sTouch
  cases hd with
  | none =>
    have h5 : hR h 5 X = none := hh
    refine ⟨h, ?_, cOK0 (cfm.rf _) rfl rfl, I⟩
    simp (decide := true) (disch := omega) only [e_X10_touch_0, e_X10_touch_1, e_X10_touch_4, e_X10_touch_7, e_X10_touch_8, e_X10_touch_9, e_X10_touch_10, e_X10_touch_13, e_X10_touch_14, e_X10_touch_17, e_X10_touch_18, e_X10_touch_21, e_X10_touch_24, e_X10_touch_25, e_X10_touch_28, e_X10_touch_31, e_X10_touch_32, e_X10_touch_35, ↓reduceIte, if_true, if_false, reduceCtorEq, Nat.reduceAdd, true_and, and_true, false_and, and_false, true_or, or_true, false_or, or_false, not_true_eq_false, not_false_eq_true, Option.bind_eq_bind, Option.bind_some, psh, eq_self, l_0, l_1, l_2, l_3, l_4, l_5, l_6, l_7, l_8, l_9, l_10, l_11, l_12, l_13, l_14, l_15, l_16, l_17, l_18, l_19, l_20, l_24, l_31, l_32, l_33, l_35, l_36, l_48, l_56, l_57, l_58, l_63, l_65, l_80, l_81, l_90, l_91, l_93, l_94, l_95, l_97, l_100, l_105, l_107, l_110, l_111, l_116, l_120, l_121, l_122, l_123, l_124, l_125, l_126, l_162, l_255, l_300, l_400, l_420, l_432, l_1000, l_1400, l_1936, l_2000, l_2100, l_2400, l_24000, m_n1, m_n2, m_n3, nI_mul, nI_add, nI_sub, nI_ltT, nI_ltF, nI_leT, nI_leF, nI_eqT, nI_eqF, nI_nM, nM_nI, nM_eq, nM_lt, nM_le, nI_ltM, nI_leM, nI_inT, nI_dec, pk_rem, nI_ltI, nI_leI, nI_eq, nI_clamp, Nat.add_assoc, q_bv51, Nat.add_left_cancel_iff, clK_0 d, clK_1 d, clK_3 d, clK_5 d, clK_7 d, clK_8 d, clK_9 d, clK_11 d, clK_12 d, clK_13 d, clK_14 d, clK_15 d, clK_16 d, clK_18 d, clK_20 d, clK_21 d, clK_22 d, clK_23 d, clK_24 d, clK_25 d, clK_26 d, clR_0_0 d, clR_1_0 d, clR_2_0 d, clR_3_0 d, clR_7_0 d, clR_8_0 d, clR_9_0 d, clR_10_0 d, clR_11_0 d, clR_0_8 d, clR_0_11 d, clR_1_11 d, clR_2_11 d, clR_0_15 d, clR_1_15 d, clR_2_15 d, clR_3_15 d, clR_4_15 d, clR_5_15 d, clR_0_23 d, clR_1_23 d, clR_0_25 d, clL_7 d, clL_12 d, clL_13 d, clL_14 d, clL_20 d, clL_21 d, clL_22 d, clL_24 d, clS_0 d, clS_1 d, clS_2 d, clS_3 d, h5]
  | some q =>
    obtain ⟨b, b1, b2, b3⟩ := hh
    obtain ⟨h1, e1, c1, n1, u1, S1⟩ := s_begin (g := g) (T := tm a w.1) I b2 b3
    obtain ⟨I1, c1'⟩ := I.se c1 (fun x z => z)
    have d1 := I1.1.1
    have W1 := I1.1.2.2.1
    have hQ1 := I1.1.2.1
    obtain ⟨gb, g1, g2, g3⟩ := S1.1
    have sT := S1.2.1
    have ep := w_pageOf (g := g) d1 W1 g3 hT
    -- the page itself
    have own : ∃ h2 mk0, mk0 = (match pof w.2.1 w.2.2.2 w.2.2.1 q (tm a w.1) with | none => fun _ => false | some p => upf (fun _ => false) p true) ∧ (∀ x, w.2.2.1 ≤ x → mk0 x = false) ∧ cfm X (sP X) h1 h2 ∧ hN h2 = hN h1 ∧ hU h2 = hU h1 ∧ ss Q h2 X q (tm a w.1) mk0 ∧ (∀ h3, cal g mX7_spread [va_rf (some (X + 23)), .int (nI 1), .int (bI true)] h2 = some (none, h3) → cal g mX7_markTouched [va_rf (some (X + 23))] h1 = some (none, h3)) := by
      cases epp : pof w.2.1 w.2.2.2 w.2.2.1 q (tm a w.1) with
      | none =>
        rw [epp, oN] at ep
        refine ⟨h1, _, rfl, fun x hx => rfl, cfm.rf _, rfl, rfl, S1, fun h3 e3 => ?_⟩
        rw [bI_t] at e3
        rw [n_X7_markTouched]
        simp (decide := true) (disch := omega) only [e_X7_markTouched_0, e_X7_markTouched_1, e_X7_markTouched_4, e_X7_markTouched_5, e_X7_markTouched_8, e_X7_markTouched_9, e_X7_markTouched_12, e_X7_markTouched_15, e_X7_markTouched_16, e_X7_markTouched_17, e_X7_markTouched_20, e_X7_markTouched_21, e_X7_markTouched_22, e_X7_markTouched_25, e_X7_markTouched_26, e_X7_markTouched_29, e_X7_markTouched_30, e_X7_markTouched_33, e_X7_markTouched_34, e_X7_markTouched_35, e_X7_markTouched_36, e_X7_markTouched_37, e_X7_markTouched_38, e_X7_markTouched_39, e_X7_markTouched_42, ↓reduceIte, if_true, if_false, reduceCtorEq, Nat.reduceAdd, true_and, and_true, false_and, and_false, true_or, or_true, false_or, or_false, not_true_eq_false, not_false_eq_true, Option.bind_eq_bind, Option.bind_some, psh, eq_self, l_0, l_1, l_2, l_3, l_4, l_5, l_6, l_7, l_8, l_9, l_10, l_11, l_12, l_13, l_14, l_15, l_16, l_17, l_18, l_19, l_20, l_24, l_31, l_32, l_33, l_35, l_36, l_48, l_56, l_57, l_58, l_63, l_65, l_80, l_81, l_90, l_91, l_93, l_94, l_95, l_97, l_100, l_105, l_107, l_110, l_111, l_116, l_120, l_121, l_122, l_123, l_124, l_125, l_126, l_162, l_255, l_300, l_400, l_420, l_432, l_1000, l_1400, l_1936, l_2000, l_2100, l_2400, l_24000, m_n1, m_n2, m_n3, nI_mul, nI_add, nI_sub, nI_ltT, nI_ltF, nI_leT, nI_leF, nI_eqT, nI_eqF, nI_nM, nM_nI, nM_eq, nM_lt, nM_le, nI_ltM, nI_leM, nI_inT, nI_dec, pk_rem, nI_ltI, nI_leI, nI_eq, nI_clamp, Nat.add_assoc, q_bv51, Nat.add_left_cancel_iff, clK_0 d1, clK_1 d1, clK_3 d1, clK_5 d1, clK_7 d1, clK_8 d1, clK_9 d1, clK_11 d1, clK_12 d1, clK_13 d1, clK_14 d1, clK_15 d1, clK_16 d1, clK_18 d1, clK_20 d1, clK_21 d1, clK_22 d1, clK_23 d1, clK_24 d1, clK_25 d1, clK_26 d1, clR_0_0 d1, clR_1_0 d1, clR_2_0 d1, clR_3_0 d1, clR_7_0 d1, clR_8_0 d1, clR_9_0 d1, clR_10_0 d1, clR_11_0 d1, clR_0_8 d1, clR_0_11 d1, clR_1_11 d1, clR_2_11 d1, clR_0_15 d1, clR_1_15 d1, clR_2_15 d1, clR_3_15 d1, clR_4_15 d1, clR_5_15 d1, clR_0_23 d1, clR_1_23 d1, clR_0_25 d1, clL_7 d1, clL_12 d1, clL_13 d1, clL_14 d1, clL_20 d1, clL_21 d1, clL_22 d1, clL_24 d1, clS_0 d1, clS_1 d1, clS_2 d1, clS_3 d1, g1, sT, ep, e3]
      | some p =>
        have hp := (pof_lt epp).1
        rw [epp, oN] at ep
        have s2 : cfm X (sP X) h1 (pA h1 (X + 24) (upd (hA h1 (X + 24)) p (nI 1))) := cfm.pA _ _ (Or.inr rfl)
        refine ⟨_, _, rfl, fun x hx => upf_n (by omega), s2, rfl, rfl, S1.mark (v := true) hQ1, fun h3 e3 => ?_⟩
        rw [bI_t] at e3
        rw [n_X7_markTouched]
        have d2 := ((I1.se s2 (fun x z => z)).1).1.1
        have e3' : cal g mX7_spread [va_rf (some (X + 23)), .int (nI 1), .int (nI 1)] (pA h1 (X + 24) (upd (hA h1 (X + 24)) p (nI 1))) = some (none, h3) := e3
        simp (decide := true) (disch := omega) only [e_X7_markTouched_0, e_X7_markTouched_1, e_X7_markTouched_4, e_X7_markTouched_5, e_X7_markTouched_8, e_X7_markTouched_9, e_X7_markTouched_12, e_X7_markTouched_15, e_X7_markTouched_16, e_X7_markTouched_17, e_X7_markTouched_20, e_X7_markTouched_21, e_X7_markTouched_22, e_X7_markTouched_25, e_X7_markTouched_26, e_X7_markTouched_29, e_X7_markTouched_30, e_X7_markTouched_33, e_X7_markTouched_34, e_X7_markTouched_35, e_X7_markTouched_36, e_X7_markTouched_37, e_X7_markTouched_38, e_X7_markTouched_39, e_X7_markTouched_42, ↓reduceIte, if_true, if_false, reduceCtorEq, Nat.reduceAdd, true_and, and_true, false_and, and_false, true_or, or_true, false_or, or_false, not_true_eq_false, not_false_eq_true, Option.bind_eq_bind, Option.bind_some, psh, eq_self, l_0, l_1, l_2, l_3, l_4, l_5, l_6, l_7, l_8, l_9, l_10, l_11, l_12, l_13, l_14, l_15, l_16, l_17, l_18, l_19, l_20, l_24, l_31, l_32, l_33, l_35, l_36, l_48, l_56, l_57, l_58, l_63, l_65, l_80, l_81, l_90, l_91, l_93, l_94, l_95, l_97, l_100, l_105, l_107, l_110, l_111, l_116, l_120, l_121, l_122, l_123, l_124, l_125, l_126, l_162, l_255, l_300, l_400, l_420, l_432, l_1000, l_1400, l_1936, l_2000, l_2100, l_2400, l_24000, m_n1, m_n2, m_n3, nI_mul, nI_add, nI_sub, nI_ltT, nI_ltF, nI_leT, nI_leF, nI_eqT, nI_eqF, nI_nM, nM_nI, nM_eq, nM_lt, nM_le, nI_ltM, nI_leM, nI_inT, nI_dec, pk_rem, nI_ltI, nI_leI, nI_eq, nI_clamp, Nat.add_assoc, q_bv51, Nat.add_left_cancel_iff, clK_0 d1, clK_1 d1, clK_3 d1, clK_5 d1, clK_7 d1, clK_8 d1, clK_9 d1, clK_11 d1, clK_12 d1, clK_13 d1, clK_14 d1, clK_15 d1, clK_16 d1, clK_18 d1, clK_20 d1, clK_21 d1, clK_22 d1, clK_23 d1, clK_24 d1, clK_25 d1, clK_26 d1, clR_0_0 d1, clR_1_0 d1, clR_2_0 d1, clR_3_0 d1, clR_7_0 d1, clR_8_0 d1, clR_9_0 d1, clR_10_0 d1, clR_11_0 d1, clR_0_8 d1, clR_0_11 d1, clR_1_11 d1, clR_2_11 d1, clR_0_15 d1, clR_1_15 d1, clR_2_15 d1, clR_3_15 d1, clR_4_15 d1, clR_5_15 d1, clR_0_23 d1, clR_1_23 d1, clR_0_25 d1, clL_7 d1, clL_12 d1, clL_13 d1, clL_14 d1, clL_20 d1, clL_21 d1, clL_22 d1, clL_24 d1, clS_0 d1, clS_1 d1, clS_2 d1, clS_3 d1, g1, sT, ep, e3', clK_0 d2, clK_1 d2, clK_3 d2, clK_5 d2, clK_7 d2, clK_8 d2, clK_9 d2, clK_11 d2, clK_12 d2, clK_13 d2, clK_14 d2, clK_15 d2, clK_16 d2, clK_18 d2, clK_20 d2, clK_21 d2, clK_22 d2, clK_23 d2, clK_24 d2, clK_25 d2, clK_26 d2, clR_0_0 d2, clR_1_0 d2, clR_2_0 d2, clR_3_0 d2, clR_7_0 d2, clR_8_0 d2, clR_9_0 d2, clR_10_0 d2, clR_11_0 d2, clR_0_8 d2, clR_0_11 d2, clR_1_11 d2, clR_2_11 d2, clR_0_15 d2, clR_1_15 d2, clR_2_15 d2, clR_3_15 d2, clR_4_15 d2, clR_5_15 d2, clR_0_23 d2, clR_1_23 d2, clR_0_25 d2, clL_7 d2, clL_12 d2, clL_13 d2, clL_14 d2, clL_20 d2, clL_21 d2, clL_22 d2, clL_24 d2, clS_0 d2, clS_1 d2, clS_2 d2, clS_3 d2]
    obtain ⟨h2, mk0, em0, hm0, c2, n2, u2, S2, eT⟩ := own
    obtain ⟨I2, c2'⟩ := I1.se c2 (fun x z => z)
    obtain ⟨h3, e3, c3, n3, u3, S3, I3⟩ := s_spread (g := g) (so := 1) (al := true) hT (Or.inr rfl) I2 S2
    obtain ⟨-, c3'⟩ := I2.se c3 (fun x z => z)
    have e4 := eT h3 e3
    obtain ⟨h4, e5, c5, n5, u5, I5⟩ := c_keepMarked (g := g) I3 S3
    have hfr : frm (trun (lqP w (tm a w.1) 1 true q) w.2.2.1 16 mk0) 16 0 = frm (sTouchM a w q) w.2.2.1 0 := by
      rw [frm_cut (m := w.2.2.1) hnn (fun x hx => by rw [trun_out (by omega)]; exact hm0 x (by omega))]
      have ef : (lqP w (tm a w.1) 1 true q) = (fun mk p => ldP w.2.1 w.2.2.2 w.2.2.1 (tm a w.1) 2 true mk q p) := by
        funext mk p
        exact lqP_1
      have tf := trun_fuel (f := fun mk p => ldP w.2.1 w.2.2.2 w.2.2.1 (tm a w.1) 2 true mk q p) (nn := w.2.2.1) (k := 16) (mk := mk0) (Nat.le_trans unm_le hnn)
      unfold sTouchM
      rw [ef, ← tf, em0]
      rfl
    rw [hfr] at e5 I5
    have d3 := I3.1.1
    refine ⟨h4, ?_, cOK0 (((c1'.tr c2').tr c3').tr c5) (by omega) (by omega), I5⟩
    simp (decide := true) (disch := omega) only [e_X10_touch_0, e_X10_touch_1, e_X10_touch_4, e_X10_touch_7, e_X10_touch_8, e_X10_touch_9, e_X10_touch_10, e_X10_touch_13, e_X10_touch_14, e_X10_touch_17, e_X10_touch_18, e_X10_touch_21, e_X10_touch_24, e_X10_touch_25, e_X10_touch_28, e_X10_touch_31, e_X10_touch_32, e_X10_touch_35, ↓reduceIte, if_true, if_false, reduceCtorEq, Nat.reduceAdd, true_and, and_true, false_and, and_false, true_or, or_true, false_or, or_false, not_true_eq_false, not_false_eq_true, Option.bind_eq_bind, Option.bind_some, psh, eq_self, l_0, l_1, l_2, l_3, l_4, l_5, l_6, l_7, l_8, l_9, l_10, l_11, l_12, l_13, l_14, l_15, l_16, l_17, l_18, l_19, l_20, l_24, l_31, l_32, l_33, l_35, l_36, l_48, l_56, l_57, l_58, l_63, l_65, l_80, l_81, l_90, l_91, l_93, l_94, l_95, l_97, l_100, l_105, l_107, l_110, l_111, l_116, l_120, l_121, l_122, l_123, l_124, l_125, l_126, l_162, l_255, l_300, l_400, l_420, l_432, l_1000, l_1400, l_1936, l_2000, l_2100, l_2400, l_24000, m_n1, m_n2, m_n3, nI_mul, nI_add, nI_sub, nI_ltT, nI_ltF, nI_leT, nI_leF, nI_eqT, nI_eqF, nI_nM, nM_nI, nM_eq, nM_lt, nM_le, nI_ltM, nI_leM, nI_inT, nI_dec, pk_rem, nI_ltI, nI_leI, nI_eq, nI_clamp, Nat.add_assoc, q_bv51, Nat.add_left_cancel_iff, clK_0 d, clK_1 d, clK_3 d, clK_5 d, clK_7 d, clK_8 d, clK_9 d, clK_11 d, clK_12 d, clK_13 d, clK_14 d, clK_15 d, clK_16 d, clK_18 d, clK_20 d, clK_21 d, clK_22 d, clK_23 d, clK_24 d, clK_25 d, clK_26 d, clR_0_0 d, clR_1_0 d, clR_2_0 d, clR_3_0 d, clR_7_0 d, clR_8_0 d, clR_9_0 d, clR_10_0 d, clR_11_0 d, clR_0_8 d, clR_0_11 d, clR_1_11 d, clR_2_11 d, clR_0_15 d, clR_1_15 d, clR_2_15 d, clR_3_15 d, clR_4_15 d, clR_5_15 d, clR_0_23 d, clR_1_23 d, clR_0_25 d, clL_7 d, clL_12 d, clL_13 d, clL_14 d, clL_20 d, clL_21 d, clL_22 d, clL_24 d, clS_0 d, clS_1 d, clS_2 d, clS_3 d, b1, reduceCtorEq, en, e1, clK_0 d1, clK_1 d1, clK_3 d1, clK_5 d1, clK_7 d1, clK_8 d1, clK_9 d1, clK_11 d1, clK_12 d1, clK_13 d1, clK_14 d1, clK_15 d1, clK_16 d1, clK_18 d1, clK_20 d1, clK_21 d1, clK_22 d1, clK_23 d1, clK_24 d1, clK_25 d1, clK_26 d1, clR_0_0 d1, clR_1_0 d1, clR_2_0 d1, clR_3_0 d1, clR_7_0 d1, clR_8_0 d1, clR_9_0 d1, clR_10_0 d1, clR_11_0 d1, clR_0_8 d1, clR_0_11 d1, clR_1_11 d1, clR_2_11 d1, clR_0_15 d1, clR_1_15 d1, clR_2_15 d1, clR_3_15 d1, clR_4_15 d1, clR_5_15 d1, clR_0_23 d1, clR_1_23 d1, clR_0_25 d1, clL_7 d1, clL_12 d1, clL_13 d1, clL_14 d1, clL_20 d1, clL_21 d1, clL_22 d1, clL_24 d1, clS_0 d1, clS_1 d1, clS_2 d1, clS_3 d1, e4, clK_0 d3, clK_1 d3, clK_3 d3, clK_5 d3, clK_7 d3, clK_8 d3, clK_9 d3, clK_11 d3, clK_12 d3, clK_13 d3, clK_14 d3, clK_15 d3, clK_16 d3, clK_18 d3, clK_20 d3, clK_21 d3, clK_22 d3, clK_23 d3, clK_24 d3, clK_25 d3, clK_26 d3, clR_0_0 d3, clR_1_0 d3, clR_2_0 d3, clR_3_0 d3, clR_7_0 d3, clR_8_0 d3, clR_9_0 d3, clR_10_0 d3, clR_11_0 d3, clR_0_8 d3, clR_0_11 d3, clR_1_11 d3, clR_2_11 d3, clR_0_15 d3, clR_1_15 d3, clR_2_15 d3, clR_3_15 d3, clR_4_15 d3, clR_5_15 d3, clR_0_23 d3, clR_1_23 d3, clR_0_25 d3, clL_7 d3, clL_12 d3, clL_13 d3, clL_14 d3, clL_20 d3, clL_21 d3, clL_22 d3, clL_24 d3, clS_0 d3, clS_1 d3, clS_2 d3, clS_3 d3, e5]
end
