/-! PageWeb: name, named, text, read, write, gone -/
section
variable {g X : Nat} {Q : Nat → Prop} {h : PH} {tp ou fo : List Nat} {hd : Option Nm} {a : Option Nat} {w : Wd}
theorem c_nameOnTape (I : cI Q h X tp ou fo hd a w) :
    ∃ v h' Q', cal g mX10_nameOnTape [va_rf (some X)] h = some (some (va_rf v), h') ∧ cfm X (cP X) h h' ∧ hN h ≤ hN h' ∧ hN h' ≤ hN h + 1 ∧ hU h' ≤ hU h + 3 ∧ (∀ x, Q x → Q' x) ∧ (∀ x, Q' x → Q x ∨ hN h ≤ x ∧ x < hN h') ∧ nmQ Q' h' v (fold tp) ∧ cI Q' h' X [] ou fo hd a w := by
  have d := I.1.1
  have dN := d.1
  have hQ := I.1.2.1
  obtain ⟨o, r⟩ := I.2.1.1
  obtain ⟨z0, o0, rf⟩ := I.2.1.2.2.2
  have hl := r.2.2.1.1
  have el := r_len (g := g) r
  obtain ⟨v, h1, e1, f1, ⟨z1, o1, w1⟩⟩ := f_fold (g := g) (i := 0) (j := tp.length) (Nat.zero_le _) (Nat.le_refl _) (clK_8 d) (clR_0_8 d) rf r (by omega) (by omega) (by omega) (by omega) (by omega) (clS_0 d) (d.S 0 (by decide)) (by omega) (by omega)
  rw [List.drop_zero, Nat.sub_zero, List.take_length] at f1
  have sF : sm (rP (X + 9) (X + 10)) h h1 ∧ hN h1 ≤ hN h + 1 ∧ hU h1 ≤ hU h + 3 ∧ nmQ (fun x => Q x ∨ hN h ≤ x ∧ x < hN h1) h1 v (fold tp) := by
    cases ef : fold tp with
    | none =>
      rw [ef] at f1
      obtain ⟨a1, a2, a3, a4⟩ := f1
      exact ⟨a2, by omega, by omega, a1⟩
    | some q =>
      rw [ef] at f1
      obtain ⟨a1, a2, a3, a4, a5⟩ := f1
      exact ⟨a3, by omega, by omega, hN h, a1, Or.inr ⟨Nat.le_refl _, by omega⟩, a2⟩
  obtain ⟨sF, n1, u1, nm1⟩ := sF
  have c1 := cfm.of sF dN (fun k hk => by unfold crO at hk; unfold rP; omega)
  have d1 := d.keep c1
  have r1 := r.keep sF (by omega) (by omega) (by unfold rP; omega) (by unfold rP; omega)
  obtain ⟨h2, e2, r2, s2, n2, u2⟩ := r_cut (g := g) (k := 0) r1 (by omega)
  rw [List.take_zero] at r2
  have hs1 := sF.1
  have sA : sm (fun x => rP (X + 9) (X + 10) x ∨ x = X + 1) h h2 := (sF.mono (fun x _ z => Or.inl z)).tr (s2.mono (fun x _ z => Or.inr z))
  have cA := cfm.of sA dN (fun k hk => by unfold crO at hk; unfold rP; omega)
  have hp : nP X (fun x => rP (X + 9) (X + 10) x ∨ x = X + 1) [1, 9, 10] := fun k hk hn z => by simp only [List.mem_cons, List.not_mem_nil, or_false, not_or] at hn; unfold rP at z; omega
  obtain ⟨J, sJ⟩ := I.row (Q' := fun x => Q x ∨ hN h ≤ x ∧ x < hN h1) cA (fun x z => by unfold rP at z; omega) (fun x hx => Or.inl hx) (fun x hx => by rcases hx with z | z; exact Or.inl z; exact Or.inr (by omega)) ⟨_, r2⟩ (I.2.1.2.1.kp sA dN hp (by decide) (by decide)) (I.2.1.2.2.1.kp sA dN hp (by decide) (by decide)) ⟨z1, o1, w1.keep s2 (by omega) (by omega) (by omega) (by omega)⟩
  refine ⟨v, h2, _, ?_, sJ, by omega, by omega, by omega, fun x hx => Or.inl hx, fun x hx => by rcases hx with z | z; exact Or.inl z; exact Or.inr (by omega), nm1.keep s2 (fun x hx => ?_), J⟩
  · rw [n_X10_nameOnTape]
    simp (decide := true) (disch := omega) only [e_X10_nameOnTape_0, e_X10_nameOnTape_1, e_X10_nameOnTape_4, e_X10_nameOnTape_5, e_X10_nameOnTape_8, e_X10_nameOnTape_9, e_X10_nameOnTape_10, e_X10_nameOnTape_13, e_X10_nameOnTape_16, e_X10_nameOnTape_19, e_X10_nameOnTape_20, e_X10_nameOnTape_21, e_X10_nameOnTape_24, e_X10_nameOnTape_25, e_X10_nameOnTape_28, e_X10_nameOnTape_29, ↓reduceIte, if_true, if_false, reduceCtorEq, Nat.reduceAdd, true_and, and_true, false_and, and_false, true_or, or_true, false_or, or_false, not_true_eq_false, not_false_eq_true, Option.bind_eq_bind, Option.bind_some, psh, eq_self, l_0, l_1, l_2, l_3, l_4, l_5, l_6, l_7, l_8, l_9, l_10, l_11, l_12, l_13, l_14, l_15, l_16, l_17, l_18, l_19, l_20, l_24, l_31, l_32, l_33, l_35, l_36, l_48, l_56, l_57, l_58, l_63, l_65, l_80, l_81, l_90, l_91, l_93, l_94, l_95, l_97, l_100, l_105, l_107, l_110, l_111, l_116, l_120, l_121, l_122, l_123, l_124, l_125, l_126, l_162, l_255, l_300, l_400, l_420, l_432, l_1000, l_1400, l_1936, l_2000, l_2100, l_2400, l_24000, m_n1, m_n2, m_n3, nI_mul, nI_add, nI_sub, nI_ltT, nI_ltF, nI_leT, nI_leF, nI_eqT, nI_eqF, nI_nM, nM_nI, nM_eq, nM_lt, nM_le, nI_ltM, nI_leM, nI_inT, nI_dec, pk_rem, nI_ltI, nI_leI, nI_eq, nI_clamp, Nat.add_assoc, q_bv51, Nat.add_left_cancel_iff, clK_0 d, clK_1 d, clK_3 d, clK_5 d, clK_7 d, clK_8 d, clK_9 d, clK_11 d, clK_12 d, clK_13 d, clK_14 d, clK_15 d, clK_16 d, clK_18 d, clK_20 d, clK_21 d, clK_22 d, clK_23 d, clK_24 d, clK_25 d, clK_26 d, clR_0_0 d, clR_1_0 d, clR_2_0 d, clR_3_0 d, clR_7_0 d, clR_8_0 d, clR_9_0 d, clR_10_0 d, clR_11_0 d, clR_0_8 d, clR_0_11 d, clR_1_11 d, clR_2_11 d, clR_0_15 d, clR_1_15 d, clR_2_15 d, clR_3_15 d, clR_4_15 d, clR_5_15 d, clR_0_23 d, clR_1_23 d, clR_0_25 d, clL_7 d, clL_12 d, clL_13 d, clL_14 d, clL_20 d, clL_21 d, clL_22 d, clL_24 d, clS_0 d, clS_1 d, clS_2 d, clS_3 d, el, e1, clK_0 d1, clK_1 d1, clK_3 d1, clK_5 d1, clK_7 d1, clK_8 d1, clK_9 d1, clK_11 d1, clK_12 d1, clK_13 d1, clK_14 d1, clK_15 d1, clK_16 d1, clK_18 d1, clK_20 d1, clK_21 d1, clK_22 d1, clK_23 d1, clK_24 d1, clK_25 d1, clK_26 d1, clR_0_0 d1, clR_1_0 d1, clR_2_0 d1, clR_3_0 d1, clR_7_0 d1, clR_8_0 d1, clR_9_0 d1, clR_10_0 d1, clR_11_0 d1, clR_0_8 d1, clR_0_11 d1, clR_1_11 d1, clR_2_11 d1, clR_0_15 d1, clR_1_15 d1, clR_2_15 d1, clR_3_15 d1, clR_4_15 d1, clR_5_15 d1, clR_0_23 d1, clR_1_23 d1, clR_0_25 d1, clL_7 d1, clL_12 d1, clL_13 d1, clL_14 d1, clL_20 d1, clL_21 d1, clL_22 d1, clL_24 d1, clS_0 d1, clS_1 d1, clS_2 d1, clS_3 d1, e2]
  · rcases hx with z | z
    · have := hQ x z; exact ⟨by omega, by omega, Or.inl z⟩
    · exact ⟨by omega, by omega, Or.inr z⟩
/-- held is another NAME -/
theorem cI.held {b : Option Nat} {q : Nm} (I : cI Q h X tp ou fo hd a w) (hb : nmQ Q h b (some q)) : cfm X (cP X) h (pR h 5 X b) ∧ cI Q (pR h 5 X b) X tp ou fo (some q) a w := by
  have hQ := I.1.2.1
  have hc : ∀ e ∈ crt, ¬ (e.1 = 5 ∧ X + e.2.1 = X) := by
    have : ∀ e ∈ crt, ¬ (e.1 = 5 ∧ e.2.1 = 0) := by decide
    intro e he z
    exact this e he ⟨z.1, by omega⟩
  have c : cfm X (fun x => x = X) h (pR h 5 X b) := cfm.pR _ _ rfl hc
  obtain ⟨u1, u2, u3, u4, u5, u6, u7, u8, u9, u10, u11, u12⟩ := I.kp [0] c (fun k hk hn z => by
    simp only [List.mem_cons, List.not_mem_nil, or_false] at hn
    omega) (fun x hx _ z => by omega) (fun x hx z => by omega) (fun x hx => hx) (fun x hx => Or.inl hx)
  obtain ⟨f1, f2, f3⟩ := I.2.2.1.1
  refine ⟨c.mono (fun x _ z => by unfold cP; omega), ⟨u1, u2, u3 (fun k k1 k2 => by simp only [List.mem_cons, List.not_mem_nil, or_false]; omega), I.1.2.2.2⟩, ⟨u4 (by decide) (by decide), u5 (by decide) (by decide), u6 (by decide) (by decide), u7 (by decide) (by decide)⟩, ⟨⟨f1, f2, f3⟩, ?_, I.2.2.1.2.2⟩, u11 (by decide) (by decide) (by decide) (by decide), u12 (by decide)⟩
  have e5 : hR (pR h 5 X b) 5 X = b := by simp (decide := true) only [u_hN_pI, u_hU_pI, u_hK_pI, u_hL_pI, u_hR_pI, u_hJ_pI, u_hA_pI, u_hB_pI, u_hS_pI, u_hN_pR, u_hU_pR, u_hK_pR, u_hL_pR, u_hI_pR, u_hJ_pR, u_hA_pR, u_hB_pR, u_hS_pR, u_hN_pJ, u_hU_pJ, u_hK_pJ, u_hL_pJ, u_hI_pJ, u_hR_pJ, u_hA_pJ, u_hB_pJ, u_hS_pJ, u_hN_pA, u_hU_pA, u_hK_pA, u_hL_pA, u_hI_pA, u_hR_pA, u_hJ_pA, u_hB_pA, u_hS_pA, u_hN_pB, u_hU_pB, u_hK_pB, u_hL_pB, u_hI_pB, u_hR_pB, u_hJ_pB, u_hA_pB, u_hS_pB, u_hL_nO, u_hA_nO, u_hB_nO, u_hS_nO, u_hI_nA, u_hR_nA, u_hJ_nA, u_hS_nA, u_II, u_RR, u_JJ, u_AA, u_BB, u_NO, u_UO, u_KO, u_IO, u_RO, u_JO, u_NN, u_UN, u_KN, u_LN, u_AN, u_BN, if_true, if_false]
  rw [e5]
  exact hb.keep c.1 (fun x hx => by have := hQ x hx; exact ⟨by omega, by omega, hx⟩)
/-- name(): the NAME at hand behind it -/
def sNameH (tp : List Nat) (hd : Option Nm) : Option Nm := match fold tp with | none => hd | some q => some q
def sNameR (tp : List Nat) (a : Option Nat) (w : Wd) : Int32 := match fold tp with | none => nM 1 | some q => (match pof w.2.1 w.2.2.2 w.2.2.1 q (tm a w.1) with | none => nM 2 | some p => nI p)
theorem C_name (I : cI Q h X tp ou fo hd a w) :
    ∃ h' Q', cal g mX10_name [va_rf (some X)] h = some (some (.int (sNameR tp a w)), h') ∧ cOK X h h' 0 ∧ cI Q' h' X [] ou fo (sNameH tp hd) a w := by
  have d := I.1.1
  obtain ⟨v, h1, Q1, e1, s1, n0, n1, u1, -, -, nm1, J⟩ := c_nameOnTape (g := g) I
  rw [n_X10_name]
  unfold sNameR sNameH
  cases ef : fold tp with
  | none =>
    rw [ef] at nm1
    have : v = none := nm1
    subst this
    refine ⟨h1, Q1, ?_, ⟨s1, by omega, by omega⟩, J⟩
    simp (decide := true) (disch := omega) only [e_X10_name_0, e_X10_name_1, e_X10_name_4, e_X10_name_5, e_X10_name_6, e_X10_name_9, e_X10_name_10, e_X10_name_11, e_X10_name_12, e_X10_name_13, e_X10_name_16, e_X10_name_17, e_X10_name_18, e_X10_name_21, ↓reduceIte, if_true, if_false, reduceCtorEq, Nat.reduceAdd, true_and, and_true, false_and, and_false, true_or, or_true, false_or, or_false, not_true_eq_false, not_false_eq_true, Option.bind_eq_bind, Option.bind_some, psh, eq_self, l_0, l_1, l_2, l_3, l_4, l_5, l_6, l_7, l_8, l_9, l_10, l_11, l_12, l_13, l_14, l_15, l_16, l_17, l_18, l_19, l_20, l_24, l_31, l_32, l_33, l_35, l_36, l_48, l_56, l_57, l_58, l_63, l_65, l_80, l_81, l_90, l_91, l_93, l_94, l_95, l_97, l_100, l_105, l_107, l_110, l_111, l_116, l_120, l_121, l_122, l_123, l_124, l_125, l_126, l_162, l_255, l_300, l_400, l_420, l_432, l_1000, l_1400, l_1936, l_2000, l_2100, l_2400, l_24000, m_n1, m_n2, m_n3, nI_mul, nI_add, nI_sub, nI_ltT, nI_ltF, nI_leT, nI_leF, nI_eqT, nI_eqF, nI_nM, nM_nI, nM_eq, nM_lt, nM_le, nI_ltM, nI_leM, nI_inT, nI_dec, pk_rem, nI_ltI, nI_leI, nI_eq, nI_clamp, Nat.add_assoc, q_bv51, Nat.add_left_cancel_iff, clK_0 d, clK_1 d, clK_3 d, clK_5 d, clK_7 d, clK_8 d, clK_9 d, clK_11 d, clK_12 d, clK_13 d, clK_14 d, clK_15 d, clK_16 d, clK_18 d, clK_20 d, clK_21 d, clK_22 d, clK_23 d, clK_24 d, clK_25 d, clK_26 d, clR_0_0 d, clR_1_0 d, clR_2_0 d, clR_3_0 d, clR_7_0 d, clR_8_0 d, clR_9_0 d, clR_10_0 d, clR_11_0 d, clR_0_8 d, clR_0_11 d, clR_1_11 d, clR_2_11 d, clR_0_15 d, clR_1_15 d, clR_2_15 d, clR_3_15 d, clR_4_15 d, clR_5_15 d, clR_0_23 d, clR_1_23 d, clR_0_25 d, clL_7 d, clL_12 d, clL_13 d, clL_14 d, clL_20 d, clL_21 d, clL_22 d, clL_24 d, clS_0 d, clS_1 d, clS_2 d, clS_3 d, e1]
  | some q =>
    rw [ef] at nm1
    obtain ⟨c2, J2⟩ := J.held nm1
    have d1 := J.1.1
    obtain ⟨b, rfl, b2, b3⟩ := nm1
    have ep := c_pageOrMissing (g := g) (b := b) (q := q) J2 (b3.keep c2.1 (J.1.2.1 b b2).2 (cP_27 b (J.1.2.1 b b2).1))
    have d2 := J2.1.1
    refine ⟨_, Q1, ?_, ⟨s1.tr c2, by show hN h1 ≤ _; omega, by show hU h1 ≤ _; omega⟩, J2⟩
    simp (decide := true) (disch := omega) only [e_X10_name_0, e_X10_name_1, e_X10_name_4, e_X10_name_5, e_X10_name_6, e_X10_name_9, e_X10_name_10, e_X10_name_11, e_X10_name_12, e_X10_name_13, e_X10_name_16, e_X10_name_17, e_X10_name_18, e_X10_name_21, ↓reduceIte, if_true, if_false, reduceCtorEq, Nat.reduceAdd, true_and, and_true, false_and, and_false, true_or, or_true, false_or, or_false, not_true_eq_false, not_false_eq_true, Option.bind_eq_bind, Option.bind_some, psh, eq_self, l_0, l_1, l_2, l_3, l_4, l_5, l_6, l_7, l_8, l_9, l_10, l_11, l_12, l_13, l_14, l_15, l_16, l_17, l_18, l_19, l_20, l_24, l_31, l_32, l_33, l_35, l_36, l_48, l_56, l_57, l_58, l_63, l_65, l_80, l_81, l_90, l_91, l_93, l_94, l_95, l_97, l_100, l_105, l_107, l_110, l_111, l_116, l_120, l_121, l_122, l_123, l_124, l_125, l_126, l_162, l_255, l_300, l_400, l_420, l_432, l_1000, l_1400, l_1936, l_2000, l_2100, l_2400, l_24000, m_n1, m_n2, m_n3, nI_mul, nI_add, nI_sub, nI_ltT, nI_ltF, nI_leT, nI_leF, nI_eqT, nI_eqF, nI_nM, nM_nI, nM_eq, nM_lt, nM_le, nI_ltM, nI_leM, nI_inT, nI_dec, pk_rem, nI_ltI, nI_leI, nI_eq, nI_clamp, Nat.add_assoc, q_bv51, Nat.add_left_cancel_iff, clK_0 d, clK_1 d, clK_3 d, clK_5 d, clK_7 d, clK_8 d, clK_9 d, clK_11 d, clK_12 d, clK_13 d, clK_14 d, clK_15 d, clK_16 d, clK_18 d, clK_20 d, clK_21 d, clK_22 d, clK_23 d, clK_24 d, clK_25 d, clK_26 d, clR_0_0 d, clR_1_0 d, clR_2_0 d, clR_3_0 d, clR_7_0 d, clR_8_0 d, clR_9_0 d, clR_10_0 d, clR_11_0 d, clR_0_8 d, clR_0_11 d, clR_1_11 d, clR_2_11 d, clR_0_15 d, clR_1_15 d, clR_2_15 d, clR_3_15 d, clR_4_15 d, clR_5_15 d, clR_0_23 d, clR_1_23 d, clR_0_25 d, clL_7 d, clL_12 d, clL_13 d, clL_14 d, clL_20 d, clL_21 d, clL_22 d, clL_24 d, clS_0 d, clS_1 d, clS_2 d, clS_3 d, e1, reduceCtorEq, clK_0 d1, clK_1 d1, clK_3 d1, clK_5 d1, clK_7 d1, clK_8 d1, clK_9 d1, clK_11 d1, clK_12 d1, clK_13 d1, clK_14 d1, clK_15 d1, clK_16 d1, clK_18 d1, clK_20 d1, clK_21 d1, clK_22 d1, clK_23 d1, clK_24 d1, clK_25 d1, clK_26 d1, clR_0_0 d1, clR_1_0 d1, clR_2_0 d1, clR_3_0 d1, clR_7_0 d1, clR_8_0 d1, clR_9_0 d1, clR_10_0 d1, clR_11_0 d1, clR_0_8 d1, clR_0_11 d1, clR_1_11 d1, clR_2_11 d1, clR_0_15 d1, clR_1_15 d1, clR_2_15 d1, clR_3_15 d1, clR_4_15 d1, clR_5_15 d1, clR_0_23 d1, clR_1_23 d1, clR_0_25 d1, clL_7 d1, clL_12 d1, clL_13 d1, clL_14 d1, clL_20 d1, clL_21 d1, clL_22 d1, clL_24 d1, clS_0 d1, clS_1 d1, clS_2 d1, clS_3 d1, clK_0 d2, clK_1 d2, clK_3 d2, clK_5 d2, clK_7 d2, clK_8 d2, clK_9 d2, clK_11 d2, clK_12 d2, clK_13 d2, clK_14 d2, clK_15 d2, clK_16 d2, clK_18 d2, clK_20 d2, clK_21 d2, clK_22 d2, clK_23 d2, clK_24 d2, clK_25 d2, clK_26 d2, clR_0_0 d2, clR_1_0 d2, clR_2_0 d2, clR_3_0 d2, clR_7_0 d2, clR_8_0 d2, clR_9_0 d2, clR_10_0 d2, clR_11_0 d2, clR_0_8 d2, clR_0_11 d2, clR_1_11 d2, clR_2_11 d2, clR_0_15 d2, clR_1_15 d2, clR_2_15 d2, clR_3_15 d2, clR_4_15 d2, clR_5_15 d2, clR_0_23 d2, clR_1_23 d2, clR_0_25 d2, clL_7 d2, clL_12 d2, clL_13 d2, clL_14 d2, clL_20 d2, clL_21 d2, clL_22 d2, clL_24 d2, clS_0 d2, clS_1 d2, clS_2 d2, clS_3 d2, ep]
    rfl
theorem cO.k1 {h' : PH} (I : cI Q h X tp ou fo hd a w) (s : sm (rP (X + 3) (X + 4)) h h') : cl h' X ∧ cfm X (rP (X + 3) (X + 4)) h h' ∧ cT h' X tp ∧ cDr h' X ∧ cF h' X := by
  have hN' := I.1.1.1
  have hp : nP X (rP (X + 3) (X + 4)) [3, 4] := fun k hk hn z => by simp only [List.mem_cons, List.not_mem_nil, or_false, not_or] at hn; unfold rP at z; omega
  have c := cfm.of s hN' (fun k hk => by unfold crO at hk; unfold rP; omega)
  exact ⟨I.1.1.keep c, c, I.2.1.1.kp s hN' hp (by decide) (by decide), I.2.1.2.2.1.kp s hN' hp (by decide) (by decide), I.2.1.2.2.2.kp s hN' hp (by decide) (by decide)⟩
theorem rP34 : ∀ x, rP (X + 3) (X + 4) x → X + 1 ≤ x ∧ x ≤ X + 6 ∨ x = X + 9 ∨ x = X + 10 := fun x z => by unfold rP at z; omega
/-- OUT becomes a row -/
theorem c_showRow {ra rb' cap bd : Nat} {l : List Nat} {o : Int32} (I : cI Q h X tp ou fo hd a w) (r : rw_ h ra rb' cap bd l o) (hl : l.length ≤ 2000) (h1 : ra < hN h) (h2 : rb' < hN h) (h3 : ra ≠ X + 3) (h4 : rb' ≠ X + 4) :
    ∃ h', cal g mX10_showRow [va_rf (some X), va_rf (some ra)] h = some (none, h') ∧ cOK X h h' 0 ∧ cI Q h' X tp l fo hd a w ∧ hN h' = hN h ∧ hU h' = hU h := by
  have d := I.1.1
  obtain ⟨o2, ro⟩ := I.2.1.2.1
  obtain ⟨hA, eA, rA, sA, nA', uA⟩ := r_cut (g := g) (k := 0) ro (by omega)
  rw [List.take_zero] at rA
  have sA' : sm (rP (X + 3) (X + 4)) h hA := sA.mono (fun x _ z => Or.inl z)
  obtain ⟨d1, c1, -⟩ := cO.k1 I sA'
  have na : ra ≠ X + 4 := fun z => by have := r.1.1; rw [z, ro.1.2.2.1] at this; omega
  have nb : rb' ≠ X + 3 := fun z => by have := r.1.2.2.1; rw [z, ro.1.1] at this; omega
  have r1 := r.keep sA h1 h2 (by omega) (by omega)
  have el := r_len (g := g) r1
  have k6 := r1.1.1
  obtain ⟨hB, eB, rB, sB, nB, uB⟩ := r_putAll (g := g) (i := 0) (j := l.length) rA r1 (by omega) (by omega)
  have pt := pll_take (l := l) (n := 2000) (s := l.length) (Nat.le_refl _) hl
  rw [pt.1, pt.2, List.take_length] at rB
  obtain ⟨d2, c2, q1, q2, q3⟩ := cO.k1 I (sA'.tr sB)
  obtain ⟨J, sJ⟩ := I.row c2 rP34 (fun x hx => hx) (fun x hx => Or.inl hx) q1 ⟨_, rB⟩ q2 q3
  refine ⟨hB, ?_, cOK0 sJ (by omega) (by omega), J, by omega, by omega⟩
  rw [n_X10_showRow]
  simp (decide := true) (disch := omega) only [e_X10_showRow_0, e_X10_showRow_1, e_X10_showRow_4, e_X10_showRow_5, e_X10_showRow_8, e_X10_showRow_9, e_X10_showRow_12, e_X10_showRow_13, e_X10_showRow_14, e_X10_showRow_15, e_X10_showRow_18, e_X10_showRow_21, ↓reduceIte, if_true, if_false, reduceCtorEq, Nat.reduceAdd, true_and, and_true, false_and, and_false, true_or, or_true, false_or, or_false, not_true_eq_false, not_false_eq_true, Option.bind_eq_bind, Option.bind_some, psh, eq_self, l_0, l_1, l_2, l_3, l_4, l_5, l_6, l_7, l_8, l_9, l_10, l_11, l_12, l_13, l_14, l_15, l_16, l_17, l_18, l_19, l_20, l_24, l_31, l_32, l_33, l_35, l_36, l_48, l_56, l_57, l_58, l_63, l_65, l_80, l_81, l_90, l_91, l_93, l_94, l_95, l_97, l_100, l_105, l_107, l_110, l_111, l_116, l_120, l_121, l_122, l_123, l_124, l_125, l_126, l_162, l_255, l_300, l_400, l_420, l_432, l_1000, l_1400, l_1936, l_2000, l_2100, l_2400, l_24000, m_n1, m_n2, m_n3, nI_mul, nI_add, nI_sub, nI_ltT, nI_ltF, nI_leT, nI_leF, nI_eqT, nI_eqF, nI_nM, nM_nI, nM_eq, nM_lt, nM_le, nI_ltM, nI_leM, nI_inT, nI_dec, pk_rem, nI_ltI, nI_leI, nI_eq, nI_clamp, Nat.add_assoc, q_bv51, Nat.add_left_cancel_iff, clK_0 d, clK_1 d, clK_3 d, clK_5 d, clK_7 d, clK_8 d, clK_9 d, clK_11 d, clK_12 d, clK_13 d, clK_14 d, clK_15 d, clK_16 d, clK_18 d, clK_20 d, clK_21 d, clK_22 d, clK_23 d, clK_24 d, clK_25 d, clK_26 d, clR_0_0 d, clR_1_0 d, clR_2_0 d, clR_3_0 d, clR_7_0 d, clR_8_0 d, clR_9_0 d, clR_10_0 d, clR_11_0 d, clR_0_8 d, clR_0_11 d, clR_1_11 d, clR_2_11 d, clR_0_15 d, clR_1_15 d, clR_2_15 d, clR_3_15 d, clR_4_15 d, clR_5_15 d, clR_0_23 d, clR_1_23 d, clR_0_25 d, clL_7 d, clL_12 d, clL_13 d, clL_14 d, clL_20 d, clL_21 d, clL_22 d, clL_24 d, clS_0 d, clS_1 d, clS_2 d, clS_3 d, eA, clK_0 d1, clK_1 d1, clK_3 d1, clK_5 d1, clK_7 d1, clK_8 d1, clK_9 d1, clK_11 d1, clK_12 d1, clK_13 d1, clK_14 d1, clK_15 d1, clK_16 d1, clK_18 d1, clK_20 d1, clK_21 d1, clK_22 d1, clK_23 d1, clK_24 d1, clK_25 d1, clK_26 d1, clR_0_0 d1, clR_1_0 d1, clR_2_0 d1, clR_3_0 d1, clR_7_0 d1, clR_8_0 d1, clR_9_0 d1, clR_10_0 d1, clR_11_0 d1, clR_0_8 d1, clR_0_11 d1, clR_1_11 d1, clR_2_11 d1, clR_0_15 d1, clR_1_15 d1, clR_2_15 d1, clR_3_15 d1, clR_4_15 d1, clR_5_15 d1, clR_0_23 d1, clR_1_23 d1, clR_0_25 d1, clL_7 d1, clL_12 d1, clL_13 d1, clL_14 d1, clL_20 d1, clL_21 d1, clL_22 d1, clL_24 d1, clS_0 d1, clS_1 d1, clS_2 d1, clS_3 d1, k6, el, eB]
theorem C_text {x : Int32} (I : cI Q h X tp ou fo hd a w) :
    ∃ h', cal g mX10_text [va_rf (some X), .int x] h = some (some (.int (sText ou a w x).1), h') ∧ cOK X h h' 0 ∧ cI Q h' X tp (sText ou a w x).2 fo hd a w := by
  have d := I.1.1
  have W := I.1.2.2.1
  have hQ := I.1.2.1
  have hta := I.1.2.2.2
  have en := c_now (g := g) I
  have et := w_there (g := g) (x := x) d W (tm_le hta)
  have aT := adr_thI (x := x) W (tm_le hta)
  rw [n_X10_text]
  unfold sText
  cases e : thI w.2.1 w.2.2.1 (tm a w.1) x with
  | none =>
    rw [e] at et
    have et' : cal g mX9_there [va_rf (some (X + 11)), .int x, .int (nI (tm a w.1))] h = some (some (va_rf none), h) := et
    refine ⟨h, ?_, cOK0 (cfm.rf _) rfl rfl, I⟩
    simp (decide := true) (disch := omega) only [e_X10_text_0, e_X10_text_1, e_X10_text_4, e_X10_text_5, e_X10_text_6, e_X10_text_9, e_X10_text_12, e_X10_text_13, e_X10_text_14, e_X10_text_17, e_X10_text_18, e_X10_text_19, e_X10_text_20, e_X10_text_21, e_X10_text_24, e_X10_text_27, e_X10_text_30, e_X10_text_31, e_X10_text_34, e_X10_text_37, ↓reduceIte, if_true, if_false, reduceCtorEq, Nat.reduceAdd, true_and, and_true, false_and, and_false, true_or, or_true, false_or, or_false, not_true_eq_false, not_false_eq_true, Option.bind_eq_bind, Option.bind_some, psh, eq_self, l_0, l_1, l_2, l_3, l_4, l_5, l_6, l_7, l_8, l_9, l_10, l_11, l_12, l_13, l_14, l_15, l_16, l_17, l_18, l_19, l_20, l_24, l_31, l_32, l_33, l_35, l_36, l_48, l_56, l_57, l_58, l_63, l_65, l_80, l_81, l_90, l_91, l_93, l_94, l_95, l_97, l_100, l_105, l_107, l_110, l_111, l_116, l_120, l_121, l_122, l_123, l_124, l_125, l_126, l_162, l_255, l_300, l_400, l_420, l_432, l_1000, l_1400, l_1936, l_2000, l_2100, l_2400, l_24000, m_n1, m_n2, m_n3, nI_mul, nI_add, nI_sub, nI_ltT, nI_ltF, nI_leT, nI_leF, nI_eqT, nI_eqF, nI_nM, nM_nI, nM_eq, nM_lt, nM_le, nI_ltM, nI_leM, nI_inT, nI_dec, pk_rem, nI_ltI, nI_leI, nI_eq, nI_clamp, Nat.add_assoc, q_bv51, Nat.add_left_cancel_iff, clK_0 d, clK_1 d, clK_3 d, clK_5 d, clK_7 d, clK_8 d, clK_9 d, clK_11 d, clK_12 d, clK_13 d, clK_14 d, clK_15 d, clK_16 d, clK_18 d, clK_20 d, clK_21 d, clK_22 d, clK_23 d, clK_24 d, clK_25 d, clK_26 d, clR_0_0 d, clR_1_0 d, clR_2_0 d, clR_3_0 d, clR_7_0 d, clR_8_0 d, clR_9_0 d, clR_10_0 d, clR_11_0 d, clR_0_8 d, clR_0_11 d, clR_1_11 d, clR_2_11 d, clR_0_15 d, clR_1_15 d, clR_2_15 d, clR_3_15 d, clR_4_15 d, clR_5_15 d, clR_0_23 d, clR_1_23 d, clR_0_25 d, clL_7 d, clL_12 d, clL_13 d, clL_14 d, clL_20 d, clL_21 d, clL_22 d, clL_24 d, clS_0 d, clS_1 d, clS_2 d, clS_3 d, en, et']
  | some c =>
    rw [e] at et aT
    obtain ⟨b, b1, ⟨⟨-, k0, -⟩, ⟨tb, t1, ⟨-, k8⟩, ⟨ra, rb', r1, r2, r3, r4⟩, -⟩, -⟩, ok, -⟩ := aT
    rw [b1] at et
    have q1 := hQ ra r2
    have q2 := hQ rb' r3
    obtain ⟨h1, e1, c1, J, n1, u1⟩ := c_showRow (g := g) I r4 (by have := ok.1; omega) q1.2 q2.2 (by omega) (by omega)
    have d1 := J.1.1
    obtain ⟨o1, ro⟩ := J.2.1.2.1
    have el := r_len (g := g) ro
    refine ⟨h1, ?_, c1, J⟩
    simp (decide := true) (disch := omega) only [e_X10_text_0, e_X10_text_1, e_X10_text_4, e_X10_text_5, e_X10_text_6, e_X10_text_9, e_X10_text_12, e_X10_text_13, e_X10_text_14, e_X10_text_17, e_X10_text_18, e_X10_text_19, e_X10_text_20, e_X10_text_21, e_X10_text_24, e_X10_text_27, e_X10_text_30, e_X10_text_31, e_X10_text_34, e_X10_text_37, ↓reduceIte, if_true, if_false, reduceCtorEq, Nat.reduceAdd, true_and, and_true, false_and, and_false, true_or, or_true, false_or, or_false, not_true_eq_false, not_false_eq_true, Option.bind_eq_bind, Option.bind_some, psh, eq_self, l_0, l_1, l_2, l_3, l_4, l_5, l_6, l_7, l_8, l_9, l_10, l_11, l_12, l_13, l_14, l_15, l_16, l_17, l_18, l_19, l_20, l_24, l_31, l_32, l_33, l_35, l_36, l_48, l_56, l_57, l_58, l_63, l_65, l_80, l_81, l_90, l_91, l_93, l_94, l_95, l_97, l_100, l_105, l_107, l_110, l_111, l_116, l_120, l_121, l_122, l_123, l_124, l_125, l_126, l_162, l_255, l_300, l_400, l_420, l_432, l_1000, l_1400, l_1936, l_2000, l_2100, l_2400, l_24000, m_n1, m_n2, m_n3, nI_mul, nI_add, nI_sub, nI_ltT, nI_ltF, nI_leT, nI_leF, nI_eqT, nI_eqF, nI_nM, nM_nI, nM_eq, nM_lt, nM_le, nI_ltM, nI_leM, nI_inT, nI_dec, pk_rem, nI_ltI, nI_leI, nI_eq, nI_clamp, Nat.add_assoc, q_bv51, Nat.add_left_cancel_iff, clK_0 d, clK_1 d, clK_3 d, clK_5 d, clK_7 d, clK_8 d, clK_9 d, clK_11 d, clK_12 d, clK_13 d, clK_14 d, clK_15 d, clK_16 d, clK_18 d, clK_20 d, clK_21 d, clK_22 d, clK_23 d, clK_24 d, clK_25 d, clK_26 d, clR_0_0 d, clR_1_0 d, clR_2_0 d, clR_3_0 d, clR_7_0 d, clR_8_0 d, clR_9_0 d, clR_10_0 d, clR_11_0 d, clR_0_8 d, clR_0_11 d, clR_1_11 d, clR_2_11 d, clR_0_15 d, clR_1_15 d, clR_2_15 d, clR_3_15 d, clR_4_15 d, clR_5_15 d, clR_0_23 d, clR_1_23 d, clR_0_25 d, clL_7 d, clL_12 d, clL_13 d, clL_14 d, clL_20 d, clL_21 d, clL_22 d, clL_24 d, clS_0 d, clS_1 d, clS_2 d, clS_3 d, en, et, reduceCtorEq, k0, t1, k8, r1, e1, clK_0 d1, clK_1 d1, clK_3 d1, clK_5 d1, clK_7 d1, clK_8 d1, clK_9 d1, clK_11 d1, clK_12 d1, clK_13 d1, clK_14 d1, clK_15 d1, clK_16 d1, clK_18 d1, clK_20 d1, clK_21 d1, clK_22 d1, clK_23 d1, clK_24 d1, clK_25 d1, clK_26 d1, clR_0_0 d1, clR_1_0 d1, clR_2_0 d1, clR_3_0 d1, clR_7_0 d1, clR_8_0 d1, clR_9_0 d1, clR_10_0 d1, clR_11_0 d1, clR_0_8 d1, clR_0_11 d1, clR_1_11 d1, clR_2_11 d1, clR_0_15 d1, clR_1_15 d1, clR_2_15 d1, clR_3_15 d1, clR_4_15 d1, clR_5_15 d1, clR_0_23 d1, clR_1_23 d1, clR_0_25 d1, clL_7 d1, clL_12 d1, clL_13 d1, clL_14 d1, clL_20 d1, clL_21 d1, clL_22 d1, clL_24 d1, clS_0 d1, clS_1 d1, clS_2 d1, clS_3 d1, el]
theorem C_named {x : Int32} (I : cI Q h X tp ou fo hd a w) :
    ∃ h', cal g mX10_named [va_rf (some X), .int x] h = some (some (.int (sNamed ou a w x).1), h') ∧ cOK X h h' 0 ∧ cI Q h' X tp (sNamed ou a w x).2 fo hd a w := by
  have d := I.1.1
  have dN := d.1
  have W := I.1.2.2.1
  have hQ := I.1.2.1
  have hta := I.1.2.2.2
  have hnn := W.1.2.2.2
  have en := c_now (g := g) I
  have et := w_there (g := g) (x := x) d W (tm_le hta)
  have aT := adr_thI (x := x) W (tm_le hta)
  obtain ⟨v, ev', nv⟩ := w_nameOf (g := g) (x := x) d W
  rw [n_X10_named]
  unfold sNamed
  cases e : thI w.2.1 w.2.2.1 (tm a w.1) x with
  | none =>
    rw [e] at et
    have et' : cal g mX9_there [va_rf (some (X + 11)), .int x, .int (nI (tm a w.1))] h = some (some (va_rf none), h) := et
    refine ⟨h, ?_, cOK0 (cfm.rf _) rfl rfl, I⟩
    cases v with
    | none => simp (decide := true) (disch := omega) only [e_X10_named_0, e_X10_named_1, e_X10_named_4, e_X10_named_5, e_X10_named_8, e_X10_named_9, e_X10_named_10, e_X10_named_13, e_X10_named_14, e_X10_named_17, e_X10_named_18, e_X10_named_19, e_X10_named_22, e_X10_named_25, e_X10_named_28, e_X10_named_29, e_X10_named_30, e_X10_named_31, e_X10_named_34, e_X10_named_35, e_X10_named_38, e_X10_named_39, e_X10_named_40, e_X10_named_43, e_X10_named_46, e_X10_named_47, e_X10_named_50, e_X10_named_53, ↓reduceIte, if_true, if_false, reduceCtorEq, Nat.reduceAdd, true_and, and_true, false_and, and_false, true_or, or_true, false_or, or_false, not_true_eq_false, not_false_eq_true, Option.bind_eq_bind, Option.bind_some, psh, eq_self, l_0, l_1, l_2, l_3, l_4, l_5, l_6, l_7, l_8, l_9, l_10, l_11, l_12, l_13, l_14, l_15, l_16, l_17, l_18, l_19, l_20, l_24, l_31, l_32, l_33, l_35, l_36, l_48, l_56, l_57, l_58, l_63, l_65, l_80, l_81, l_90, l_91, l_93, l_94, l_95, l_97, l_100, l_105, l_107, l_110, l_111, l_116, l_120, l_121, l_122, l_123, l_124, l_125, l_126, l_162, l_255, l_300, l_400, l_420, l_432, l_1000, l_1400, l_1936, l_2000, l_2100, l_2400, l_24000, m_n1, m_n2, m_n3, nI_mul, nI_add, nI_sub, nI_ltT, nI_ltF, nI_leT, nI_leF, nI_eqT, nI_eqF, nI_nM, nM_nI, nM_eq, nM_lt, nM_le, nI_ltM, nI_leM, nI_inT, nI_dec, pk_rem, nI_ltI, nI_leI, nI_eq, nI_clamp, Nat.add_assoc, q_bv51, Nat.add_left_cancel_iff, clK_0 d, clK_1 d, clK_3 d, clK_5 d, clK_7 d, clK_8 d, clK_9 d, clK_11 d, clK_12 d, clK_13 d, clK_14 d, clK_15 d, clK_16 d, clK_18 d, clK_20 d, clK_21 d, clK_22 d, clK_23 d, clK_24 d, clK_25 d, clK_26 d, clR_0_0 d, clR_1_0 d, clR_2_0 d, clR_3_0 d, clR_7_0 d, clR_8_0 d, clR_9_0 d, clR_10_0 d, clR_11_0 d, clR_0_8 d, clR_0_11 d, clR_1_11 d, clR_2_11 d, clR_0_15 d, clR_1_15 d, clR_2_15 d, clR_3_15 d, clR_4_15 d, clR_5_15 d, clR_0_23 d, clR_1_23 d, clR_0_25 d, clL_7 d, clL_12 d, clL_13 d, clL_14 d, clL_20 d, clL_21 d, clL_22 d, clL_24 d, clS_0 d, clS_1 d, clS_2 d, clS_3 d, ev']
    | some b => simp (decide := true) (disch := omega) only [e_X10_named_0, e_X10_named_1, e_X10_named_4, e_X10_named_5, e_X10_named_8, e_X10_named_9, e_X10_named_10, e_X10_named_13, e_X10_named_14, e_X10_named_17, e_X10_named_18, e_X10_named_19, e_X10_named_22, e_X10_named_25, e_X10_named_28, e_X10_named_29, e_X10_named_30, e_X10_named_31, e_X10_named_34, e_X10_named_35, e_X10_named_38, e_X10_named_39, e_X10_named_40, e_X10_named_43, e_X10_named_46, e_X10_named_47, e_X10_named_50, e_X10_named_53, ↓reduceIte, if_true, if_false, reduceCtorEq, Nat.reduceAdd, true_and, and_true, false_and, and_false, true_or, or_true, false_or, or_false, not_true_eq_false, not_false_eq_true, Option.bind_eq_bind, Option.bind_some, psh, eq_self, l_0, l_1, l_2, l_3, l_4, l_5, l_6, l_7, l_8, l_9, l_10, l_11, l_12, l_13, l_14, l_15, l_16, l_17, l_18, l_19, l_20, l_24, l_31, l_32, l_33, l_35, l_36, l_48, l_56, l_57, l_58, l_63, l_65, l_80, l_81, l_90, l_91, l_93, l_94, l_95, l_97, l_100, l_105, l_107, l_110, l_111, l_116, l_120, l_121, l_122, l_123, l_124, l_125, l_126, l_162, l_255, l_300, l_400, l_420, l_432, l_1000, l_1400, l_1936, l_2000, l_2100, l_2400, l_24000, m_n1, m_n2, m_n3, nI_mul, nI_add, nI_sub, nI_ltT, nI_ltF, nI_leT, nI_leF, nI_eqT, nI_eqF, nI_nM, nM_nI, nM_eq, nM_lt, nM_le, nI_ltM, nI_leM, nI_inT, nI_dec, pk_rem, nI_ltI, nI_leI, nI_eq, nI_clamp, Nat.add_assoc, q_bv51, Nat.add_left_cancel_iff, clK_0 d, clK_1 d, clK_3 d, clK_5 d, clK_7 d, clK_8 d, clK_9 d, clK_11 d, clK_12 d, clK_13 d, clK_14 d, clK_15 d, clK_16 d, clK_18 d, clK_20 d, clK_21 d, clK_22 d, clK_23 d, clK_24 d, clK_25 d, clK_26 d, clR_0_0 d, clR_1_0 d, clR_2_0 d, clR_3_0 d, clR_7_0 d, clR_8_0 d, clR_9_0 d, clR_10_0 d, clR_11_0 d, clR_0_8 d, clR_0_11 d, clR_1_11 d, clR_2_11 d, clR_0_15 d, clR_1_15 d, clR_2_15 d, clR_3_15 d, clR_4_15 d, clR_5_15 d, clR_0_23 d, clR_1_23 d, clR_0_25 d, clL_7 d, clL_12 d, clL_13 d, clL_14 d, clL_20 d, clL_21 d, clL_22 d, clL_24 d, clS_0 d, clS_1 d, clS_2 d, clS_3 d, ev', reduceCtorEq, en, et']
  | some c =>
    rw [e] at et aT
    obtain ⟨b, b1, -⟩ := aT
    rw [b1] at et
    obtain ⟨p, hp, rfl, ep⟩ := thI_some e (by omega)
    rw [ixI_nI hp (by omega)] at nv
    obtain ⟨u, rfl, u2, u3⟩ := nv
    have qu := hQ u u2
    simp only [nI_clamp (show p < 2 ^ 31 by omega)]
    obtain ⟨o2, ro⟩ := I.2.1.2.1
    obtain ⟨hA, eA, rA, sA, nA', uA⟩ := r_cut (g := g) (k := 0) ro (by omega)
    rw [List.take_zero] at rA
    have sA' : sm (rP (X + 3) (X + 4)) h hA := sA.mono (fun x _ z => Or.inl z)
    obtain ⟨d1, c1, -⟩ := cO.k1 I sA'
    have u3' := u3.keep sA qu.2 (by omega)
    obtain ⟨hB, eB, rB, sB, nB, uB⟩ := n_writeTo (g := g) u3' rA (by omega) (clS_0 d1) (d1.S 0 (by decide))
    have hz := nz_len u3.2.2.2.2
    have ez : pls [] (nby' (w.2.2.2 p).1 (w.2.2.2 p).2) 2000 = nz (w.2.2.2 p) := by
      unfold pls
      rw [List.nil_append, List.take_of_length_le]
      · rfl
      · show (nz (w.2.2.2 p)).length ≤ _; simp; omega
    have eo : pos [] (nby' (w.2.2.2 p).1 (w.2.2.2 p).2) 2000 0 = 0 := by
      unfold pos
      rw [if_pos]
      show 0 + (nz (w.2.2.2 p)).length ≤ 2000
      omega
    rw [ez, eo] at rB
    obtain ⟨d2, c2, q1, q2, q3⟩ := cO.k1 I (sA'.tr sB)
    obtain ⟨J, sJ⟩ := I.row c2 rP34 (fun x hx => hx) (fun x hx => Or.inl hx) q1 ⟨_, rB⟩ q2 q3
    have el := r_len (g := g) rB
    have k2 := u3'.1
    refine ⟨hB, ?_, cOK0 sJ (by omega) (by omega), J⟩
    simp (decide := true) (disch := omega) only [e_X10_named_0, e_X10_named_1, e_X10_named_4, e_X10_named_5, e_X10_named_8, e_X10_named_9, e_X10_named_10, e_X10_named_13, e_X10_named_14, e_X10_named_17, e_X10_named_18, e_X10_named_19, e_X10_named_22, e_X10_named_25, e_X10_named_28, e_X10_named_29, e_X10_named_30, e_X10_named_31, e_X10_named_34, e_X10_named_35, e_X10_named_38, e_X10_named_39, e_X10_named_40, e_X10_named_43, e_X10_named_46, e_X10_named_47, e_X10_named_50, e_X10_named_53, ↓reduceIte, if_true, if_false, reduceCtorEq, Nat.reduceAdd, true_and, and_true, false_and, and_false, true_or, or_true, false_or, or_false, not_true_eq_false, not_false_eq_true, Option.bind_eq_bind, Option.bind_some, psh, eq_self, l_0, l_1, l_2, l_3, l_4, l_5, l_6, l_7, l_8, l_9, l_10, l_11, l_12, l_13, l_14, l_15, l_16, l_17, l_18, l_19, l_20, l_24, l_31, l_32, l_33, l_35, l_36, l_48, l_56, l_57, l_58, l_63, l_65, l_80, l_81, l_90, l_91, l_93, l_94, l_95, l_97, l_100, l_105, l_107, l_110, l_111, l_116, l_120, l_121, l_122, l_123, l_124, l_125, l_126, l_162, l_255, l_300, l_400, l_420, l_432, l_1000, l_1400, l_1936, l_2000, l_2100, l_2400, l_24000, m_n1, m_n2, m_n3, nI_mul, nI_add, nI_sub, nI_ltT, nI_ltF, nI_leT, nI_leF, nI_eqT, nI_eqF, nI_nM, nM_nI, nM_eq, nM_lt, nM_le, nI_ltM, nI_leM, nI_inT, nI_dec, pk_rem, nI_ltI, nI_leI, nI_eq, nI_clamp, Nat.add_assoc, q_bv51, Nat.add_left_cancel_iff, clK_0 d, clK_1 d, clK_3 d, clK_5 d, clK_7 d, clK_8 d, clK_9 d, clK_11 d, clK_12 d, clK_13 d, clK_14 d, clK_15 d, clK_16 d, clK_18 d, clK_20 d, clK_21 d, clK_22 d, clK_23 d, clK_24 d, clK_25 d, clK_26 d, clR_0_0 d, clR_1_0 d, clR_2_0 d, clR_3_0 d, clR_7_0 d, clR_8_0 d, clR_9_0 d, clR_10_0 d, clR_11_0 d, clR_0_8 d, clR_0_11 d, clR_1_11 d, clR_2_11 d, clR_0_15 d, clR_1_15 d, clR_2_15 d, clR_3_15 d, clR_4_15 d, clR_5_15 d, clR_0_23 d, clR_1_23 d, clR_0_25 d, clL_7 d, clL_12 d, clL_13 d, clL_14 d, clL_20 d, clL_21 d, clL_22 d, clL_24 d, clS_0 d, clS_1 d, clS_2 d, clS_3 d, ev', reduceCtorEq, en, et, eA, clK_0 d1, clK_1 d1, clK_3 d1, clK_5 d1, clK_7 d1, clK_8 d1, clK_9 d1, clK_11 d1, clK_12 d1, clK_13 d1, clK_14 d1, clK_15 d1, clK_16 d1, clK_18 d1, clK_20 d1, clK_21 d1, clK_22 d1, clK_23 d1, clK_24 d1, clK_25 d1, clK_26 d1, clR_0_0 d1, clR_1_0 d1, clR_2_0 d1, clR_3_0 d1, clR_7_0 d1, clR_8_0 d1, clR_9_0 d1, clR_10_0 d1, clR_11_0 d1, clR_0_8 d1, clR_0_11 d1, clR_1_11 d1, clR_2_11 d1, clR_0_15 d1, clR_1_15 d1, clR_2_15 d1, clR_3_15 d1, clR_4_15 d1, clR_5_15 d1, clR_0_23 d1, clR_1_23 d1, clR_0_25 d1, clL_7 d1, clL_12 d1, clL_13 d1, clL_14 d1, clL_20 d1, clL_21 d1, clL_22 d1, clL_24 d1, clS_0 d1, clS_1 d1, clS_2 d1, clS_3 d1, k2, eB, clK_0 d2, clK_1 d2, clK_3 d2, clK_5 d2, clK_7 d2, clK_8 d2, clK_9 d2, clK_11 d2, clK_12 d2, clK_13 d2, clK_14 d2, clK_15 d2, clK_16 d2, clK_18 d2, clK_20 d2, clK_21 d2, clK_22 d2, clK_23 d2, clK_24 d2, clK_25 d2, clK_26 d2, clR_0_0 d2, clR_1_0 d2, clR_2_0 d2, clR_3_0 d2, clR_7_0 d2, clR_8_0 d2, clR_9_0 d2, clR_10_0 d2, clR_11_0 d2, clR_0_8 d2, clR_0_11 d2, clR_1_11 d2, clR_2_11 d2, clR_0_15 d2, clR_1_15 d2, clR_2_15 d2, clR_3_15 d2, clR_4_15 d2, clR_5_15 d2, clR_0_23 d2, clR_1_23 d2, clR_0_25 d2, clL_7 d2, clL_12 d2, clL_13 d2, clL_14 d2, clL_20 d2, clL_21 d2, clL_22 d2, clL_24 d2, clS_0 d2, clS_1 d2, clS_2 d2, clS_3 d2, el]
theorem C_read {x y : Int32} (I : cI Q h X tp ou fo hd a w) : cal g mX10_read [va_rf (some X), .int x, .int y] h = some (some (.int (sRead a w x y)), h) := by
  have d := I.1.1
  have W := I.1.2.2.1
  have hta := I.1.2.2.2
  have en := c_now (g := g) I
  have et := w_there (g := g) (x := x) d W (tm_le hta)
  have aT := adr_thI (x := x) W (tm_le hta)
  rw [n_X10_read]
  unfold sRead
  cases e : thI w.2.1 w.2.2.1 (tm a w.1) x with
  | none =>
    rw [e] at et
    have et' : cal g mX9_there [va_rf (some (X + 11)), .int x, .int (nI (tm a w.1))] h = some (some (va_rf none), h) := et
    simp (decide := true) (disch := omega) only [e_X10_read_0, e_X10_read_1, e_X10_read_4, e_X10_read_5, e_X10_read_6, e_X10_read_9, e_X10_read_12, e_X10_read_13, e_X10_read_14, e_X10_read_17, e_X10_read_18, e_X10_read_19, e_X10_read_20, e_X10_read_23, e_X10_read_24, e_X10_read_25, e_X10_read_28, e_X10_read_29, e_X10_read_30, e_X10_read_33, e_X10_read_34, e_X10_read_37, e_X10_read_38, e_X10_read_41, e_X10_read_42, e_X10_read_43, e_X10_read_46, e_X10_read_49, e_X10_read_51, e_X10_read_52, e_X10_read_53, e_X10_read_56, e_X10_read_58, e_X10_read_61, e_X10_read_62, e_X10_read_63, e_X10_read_64, e_X10_read_66, e_X10_read_69, ↓reduceIte, if_true, if_false, reduceCtorEq, Nat.reduceAdd, true_and, and_true, false_and, and_false, true_or, or_true, false_or, or_false, not_true_eq_false, not_false_eq_true, Option.bind_eq_bind, Option.bind_some, psh, eq_self, l_0, l_1, l_2, l_3, l_4, l_5, l_6, l_7, l_8, l_9, l_10, l_11, l_12, l_13, l_14, l_15, l_16, l_17, l_18, l_19, l_20, l_24, l_31, l_32, l_33, l_35, l_36, l_48, l_56, l_57, l_58, l_63, l_65, l_80, l_81, l_90, l_91, l_93, l_94, l_95, l_97, l_100, l_105, l_107, l_110, l_111, l_116, l_120, l_121, l_122, l_123, l_124, l_125, l_126, l_162, l_255, l_300, l_400, l_420, l_432, l_1000, l_1400, l_1936, l_2000, l_2100, l_2400, l_24000, m_n1, m_n2, m_n3, nI_mul, nI_add, nI_sub, nI_ltT, nI_ltF, nI_leT, nI_leF, nI_eqT, nI_eqF, nI_nM, nM_nI, nM_eq, nM_lt, nM_le, nI_ltM, nI_leM, nI_inT, nI_dec, pk_rem, nI_ltI, nI_leI, nI_eq, nI_clamp, Nat.add_assoc, q_bv51, Nat.add_left_cancel_iff, clK_0 d, clK_1 d, clK_3 d, clK_5 d, clK_7 d, clK_8 d, clK_9 d, clK_11 d, clK_12 d, clK_13 d, clK_14 d, clK_15 d, clK_16 d, clK_18 d, clK_20 d, clK_21 d, clK_22 d, clK_23 d, clK_24 d, clK_25 d, clK_26 d, clR_0_0 d, clR_1_0 d, clR_2_0 d, clR_3_0 d, clR_7_0 d, clR_8_0 d, clR_9_0 d, clR_10_0 d, clR_11_0 d, clR_0_8 d, clR_0_11 d, clR_1_11 d, clR_2_11 d, clR_0_15 d, clR_1_15 d, clR_2_15 d, clR_3_15 d, clR_4_15 d, clR_5_15 d, clR_0_23 d, clR_1_23 d, clR_0_25 d, clL_7 d, clL_12 d, clL_13 d, clL_14 d, clL_20 d, clL_21 d, clL_22 d, clL_24 d, clS_0 d, clS_1 d, clS_2 d, clS_3 d, en, et']
  | some c =>
    rw [e] at et aT
    obtain ⟨b, b1, ⟨⟨-, k0, -⟩, ⟨tb, t1, T⟩, -⟩, ok, -⟩ := aT
    rw [b1] at et
    have T0 := T
    obtain ⟨⟨-, k8⟩, -, -, mv⟩ := T
    simp only
    have out : (¬ y = nI 0 ∧ ¬ y = nI 1 ∧ ¬ y = nI 2 ∧ ¬ y = nI 3) → ev g mX10_read 0 [some (va_rf (some X)), some (.int x), some (.int y), none, none] [] h = some (some (.int (nM 1)), h) := by
      rintro ⟨y0, y1, y2, y3⟩
      simp (decide := true) (disch := omega) only [e_X10_read_0, e_X10_read_1, e_X10_read_4, e_X10_read_5, e_X10_read_6, e_X10_read_9, e_X10_read_12, e_X10_read_13, e_X10_read_14, e_X10_read_17, e_X10_read_18, e_X10_read_19, e_X10_read_20, e_X10_read_23, e_X10_read_24, e_X10_read_25, e_X10_read_28, e_X10_read_29, e_X10_read_30, e_X10_read_33, e_X10_read_34, e_X10_read_37, e_X10_read_38, e_X10_read_41, e_X10_read_42, e_X10_read_43, e_X10_read_46, e_X10_read_49, e_X10_read_51, e_X10_read_52, e_X10_read_53, e_X10_read_56, e_X10_read_58, e_X10_read_61, e_X10_read_62, e_X10_read_63, e_X10_read_64, e_X10_read_66, e_X10_read_69, ↓reduceIte, if_true, if_false, reduceCtorEq, Nat.reduceAdd, true_and, and_true, false_and, and_false, true_or, or_true, false_or, or_false, not_true_eq_false, not_false_eq_true, Option.bind_eq_bind, Option.bind_some, psh, eq_self, l_0, l_1, l_2, l_3, l_4, l_5, l_6, l_7, l_8, l_9, l_10, l_11, l_12, l_13, l_14, l_15, l_16, l_17, l_18, l_19, l_20, l_24, l_31, l_32, l_33, l_35, l_36, l_48, l_56, l_57, l_58, l_63, l_65, l_80, l_81, l_90, l_91, l_93, l_94, l_95, l_97, l_100, l_105, l_107, l_110, l_111, l_116, l_120, l_121, l_122, l_123, l_124, l_125, l_126, l_162, l_255, l_300, l_400, l_420, l_432, l_1000, l_1400, l_1936, l_2000, l_2100, l_2400, l_24000, m_n1, m_n2, m_n3, nI_mul, nI_add, nI_sub, nI_ltT, nI_ltF, nI_leT, nI_leF, nI_eqT, nI_eqF, nI_nM, nM_nI, nM_eq, nM_lt, nM_le, nI_ltM, nI_leM, nI_inT, nI_dec, pk_rem, nI_ltI, nI_leI, nI_eq, nI_clamp, Nat.add_assoc, q_bv51, Nat.add_left_cancel_iff, clK_0 d, clK_1 d, clK_3 d, clK_5 d, clK_7 d, clK_8 d, clK_9 d, clK_11 d, clK_12 d, clK_13 d, clK_14 d, clK_15 d, clK_16 d, clK_18 d, clK_20 d, clK_21 d, clK_22 d, clK_23 d, clK_24 d, clK_25 d, clK_26 d, clR_0_0 d, clR_1_0 d, clR_2_0 d, clR_3_0 d, clR_7_0 d, clR_8_0 d, clR_9_0 d, clR_10_0 d, clR_11_0 d, clR_0_8 d, clR_0_11 d, clR_1_11 d, clR_2_11 d, clR_0_15 d, clR_1_15 d, clR_2_15 d, clR_3_15 d, clR_4_15 d, clR_5_15 d, clR_0_23 d, clR_1_23 d, clR_0_25 d, clL_7 d, clL_12 d, clL_13 d, clL_14 d, clL_20 d, clL_21 d, clL_22 d, clL_24 d, clS_0 d, clS_1 d, clS_2 d, clS_3 d, en, et, reduceCtorEq, k0, t1, k8, y0, y1, y2, y3]
    rcases pk_ix y (n := 4) (by omega) with z | z | ⟨k, hk, rfl⟩
    · rw [ixI_neg z]
      refine out ⟨?_, ?_, ?_, ?_⟩ <;> (intro w; rw [w] at z; exact nI_pos (by omega) z)
    · rw [ixI_big z (by omega)]
      obtain ⟨j, hj1, hj2, rfl⟩ := big_lt z (by omega)
      refine out ⟨?_, ?_, ?_, ?_⟩ <;> (intro w; have := (nI_eq hj2 (by omega)).mp w; omega)
    · rw [ixI_nI hk (by omega)]
      simp only
      by_cases k3 : k = 3
      · subst k3
        rw [if_pos rfl]
        cases em : mvd (ct (w.2.1 c)) with
        | none =>
          rw [em] at mv
          have mv' : hR h 3 tb = none := mv
          simp (decide := true) (disch := omega) only [e_X10_read_0, e_X10_read_1, e_X10_read_4, e_X10_read_5, e_X10_read_6, e_X10_read_9, e_X10_read_12, e_X10_read_13, e_X10_read_14, e_X10_read_17, e_X10_read_18, e_X10_read_19, e_X10_read_20, e_X10_read_23, e_X10_read_24, e_X10_read_25, e_X10_read_28, e_X10_read_29, e_X10_read_30, e_X10_read_33, e_X10_read_34, e_X10_read_37, e_X10_read_38, e_X10_read_41, e_X10_read_42, e_X10_read_43, e_X10_read_46, e_X10_read_49, e_X10_read_51, e_X10_read_52, e_X10_read_53, e_X10_read_56, e_X10_read_58, e_X10_read_61, e_X10_read_62, e_X10_read_63, e_X10_read_64, e_X10_read_66, e_X10_read_69, ↓reduceIte, if_true, if_false, reduceCtorEq, Nat.reduceAdd, true_and, and_true, false_and, and_false, true_or, or_true, false_or, or_false, not_true_eq_false, not_false_eq_true, Option.bind_eq_bind, Option.bind_some, psh, eq_self, l_0, l_1, l_2, l_3, l_4, l_5, l_6, l_7, l_8, l_9, l_10, l_11, l_12, l_13, l_14, l_15, l_16, l_17, l_18, l_19, l_20, l_24, l_31, l_32, l_33, l_35, l_36, l_48, l_56, l_57, l_58, l_63, l_65, l_80, l_81, l_90, l_91, l_93, l_94, l_95, l_97, l_100, l_105, l_107, l_110, l_111, l_116, l_120, l_121, l_122, l_123, l_124, l_125, l_126, l_162, l_255, l_300, l_400, l_420, l_432, l_1000, l_1400, l_1936, l_2000, l_2100, l_2400, l_24000, m_n1, m_n2, m_n3, nI_mul, nI_add, nI_sub, nI_ltT, nI_ltF, nI_leT, nI_leF, nI_eqT, nI_eqF, nI_nM, nM_nI, nM_eq, nM_lt, nM_le, nI_ltM, nI_leM, nI_inT, nI_dec, pk_rem, nI_ltI, nI_leI, nI_eq, nI_clamp, Nat.add_assoc, q_bv51, Nat.add_left_cancel_iff, clK_0 d, clK_1 d, clK_3 d, clK_5 d, clK_7 d, clK_8 d, clK_9 d, clK_11 d, clK_12 d, clK_13 d, clK_14 d, clK_15 d, clK_16 d, clK_18 d, clK_20 d, clK_21 d, clK_22 d, clK_23 d, clK_24 d, clK_25 d, clK_26 d, clR_0_0 d, clR_1_0 d, clR_2_0 d, clR_3_0 d, clR_7_0 d, clR_8_0 d, clR_9_0 d, clR_10_0 d, clR_11_0 d, clR_0_8 d, clR_0_11 d, clR_1_11 d, clR_2_11 d, clR_0_15 d, clR_1_15 d, clR_2_15 d, clR_3_15 d, clR_4_15 d, clR_5_15 d, clR_0_23 d, clR_1_23 d, clR_0_25 d, clL_7 d, clL_12 d, clL_13 d, clL_14 d, clL_20 d, clL_21 d, clL_22 d, clL_24 d, clS_0 d, clS_1 d, clS_2 d, clS_3 d, en, et, reduceCtorEq, k0, t1, k8, mv']
        | some q =>
          rw [em] at mv
          obtain ⟨u, u1, u2, u3⟩ := mv
          have ep := c_pageOrMissing (g := g) I u3
          simp only
          simp (decide := true) (disch := omega) only [e_X10_read_0, e_X10_read_1, e_X10_read_4, e_X10_read_5, e_X10_read_6, e_X10_read_9, e_X10_read_12, e_X10_read_13, e_X10_read_14, e_X10_read_17, e_X10_read_18, e_X10_read_19, e_X10_read_20, e_X10_read_23, e_X10_read_24, e_X10_read_25, e_X10_read_28, e_X10_read_29, e_X10_read_30, e_X10_read_33, e_X10_read_34, e_X10_read_37, e_X10_read_38, e_X10_read_41, e_X10_read_42, e_X10_read_43, e_X10_read_46, e_X10_read_49, e_X10_read_51, e_X10_read_52, e_X10_read_53, e_X10_read_56, e_X10_read_58, e_X10_read_61, e_X10_read_62, e_X10_read_63, e_X10_read_64, e_X10_read_66, e_X10_read_69, ↓reduceIte, if_true, if_false, reduceCtorEq, Nat.reduceAdd, true_and, and_true, false_and, and_false, true_or, or_true, false_or, or_false, not_true_eq_false, not_false_eq_true, Option.bind_eq_bind, Option.bind_some, psh, eq_self, l_0, l_1, l_2, l_3, l_4, l_5, l_6, l_7, l_8, l_9, l_10, l_11, l_12, l_13, l_14, l_15, l_16, l_17, l_18, l_19, l_20, l_24, l_31, l_32, l_33, l_35, l_36, l_48, l_56, l_57, l_58, l_63, l_65, l_80, l_81, l_90, l_91, l_93, l_94, l_95, l_97, l_100, l_105, l_107, l_110, l_111, l_116, l_120, l_121, l_122, l_123, l_124, l_125, l_126, l_162, l_255, l_300, l_400, l_420, l_432, l_1000, l_1400, l_1936, l_2000, l_2100, l_2400, l_24000, m_n1, m_n2, m_n3, nI_mul, nI_add, nI_sub, nI_ltT, nI_ltF, nI_leT, nI_leF, nI_eqT, nI_eqF, nI_nM, nM_nI, nM_eq, nM_lt, nM_le, nI_ltM, nI_leM, nI_inT, nI_dec, pk_rem, nI_ltI, nI_leI, nI_eq, nI_clamp, Nat.add_assoc, q_bv51, Nat.add_left_cancel_iff, clK_0 d, clK_1 d, clK_3 d, clK_5 d, clK_7 d, clK_8 d, clK_9 d, clK_11 d, clK_12 d, clK_13 d, clK_14 d, clK_15 d, clK_16 d, clK_18 d, clK_20 d, clK_21 d, clK_22 d, clK_23 d, clK_24 d, clK_25 d, clK_26 d, clR_0_0 d, clR_1_0 d, clR_2_0 d, clR_3_0 d, clR_7_0 d, clR_8_0 d, clR_9_0 d, clR_10_0 d, clR_11_0 d, clR_0_8 d, clR_0_11 d, clR_1_11 d, clR_2_11 d, clR_0_15 d, clR_1_15 d, clR_2_15 d, clR_3_15 d, clR_4_15 d, clR_5_15 d, clR_0_23 d, clR_1_23 d, clR_0_25 d, clL_7 d, clL_12 d, clL_13 d, clL_14 d, clL_20 d, clL_21 d, clL_22 d, clL_24 d, clS_0 d, clS_1 d, clS_2 d, clS_3 d, en, et, reduceCtorEq, k0, t1, k8, u1, ep]
          rfl
      · rw [if_neg k3, ptl_amt (by omega)]
        have ea := c_amount (g := g) (k := k) T0 ok.1 (by omega)
        have : k = 0 ∨ k = 1 ∨ k = 2 := by omega
        rcases this with rfl | rfl | rfl
        · simp (decide := true) (disch := omega) only [e_X10_read_0, e_X10_read_1, e_X10_read_4, e_X10_read_5, e_X10_read_6, e_X10_read_9, e_X10_read_12, e_X10_read_13, e_X10_read_14, e_X10_read_17, e_X10_read_18, e_X10_read_19, e_X10_read_20, e_X10_read_23, e_X10_read_24, e_X10_read_25, e_X10_read_28, e_X10_read_29, e_X10_read_30, e_X10_read_33, e_X10_read_34, e_X10_read_37, e_X10_read_38, e_X10_read_41, e_X10_read_42, e_X10_read_43, e_X10_read_46, e_X10_read_49, e_X10_read_51, e_X10_read_52, e_X10_read_53, e_X10_read_56, e_X10_read_58, e_X10_read_61, e_X10_read_62, e_X10_read_63, e_X10_read_64, e_X10_read_66, e_X10_read_69, ↓reduceIte, if_true, if_false, reduceCtorEq, Nat.reduceAdd, true_and, and_true, false_and, and_false, true_or, or_true, false_or, or_false, not_true_eq_false, not_false_eq_true, Option.bind_eq_bind, Option.bind_some, psh, eq_self, l_0, l_1, l_2, l_3, l_4, l_5, l_6, l_7, l_8, l_9, l_10, l_11, l_12, l_13, l_14, l_15, l_16, l_17, l_18, l_19, l_20, l_24, l_31, l_32, l_33, l_35, l_36, l_48, l_56, l_57, l_58, l_63, l_65, l_80, l_81, l_90, l_91, l_93, l_94, l_95, l_97, l_100, l_105, l_107, l_110, l_111, l_116, l_120, l_121, l_122, l_123, l_124, l_125, l_126, l_162, l_255, l_300, l_400, l_420, l_432, l_1000, l_1400, l_1936, l_2000, l_2100, l_2400, l_24000, m_n1, m_n2, m_n3, nI_mul, nI_add, nI_sub, nI_ltT, nI_ltF, nI_leT, nI_leF, nI_eqT, nI_eqF, nI_nM, nM_nI, nM_eq, nM_lt, nM_le, nI_ltM, nI_leM, nI_inT, nI_dec, pk_rem, nI_ltI, nI_leI, nI_eq, nI_clamp, Nat.add_assoc, q_bv51, Nat.add_left_cancel_iff, clK_0 d, clK_1 d, clK_3 d, clK_5 d, clK_7 d, clK_8 d, clK_9 d, clK_11 d, clK_12 d, clK_13 d, clK_14 d, clK_15 d, clK_16 d, clK_18 d, clK_20 d, clK_21 d, clK_22 d, clK_23 d, clK_24 d, clK_25 d, clK_26 d, clR_0_0 d, clR_1_0 d, clR_2_0 d, clR_3_0 d, clR_7_0 d, clR_8_0 d, clR_9_0 d, clR_10_0 d, clR_11_0 d, clR_0_8 d, clR_0_11 d, clR_1_11 d, clR_2_11 d, clR_0_15 d, clR_1_15 d, clR_2_15 d, clR_3_15 d, clR_4_15 d, clR_5_15 d, clR_0_23 d, clR_1_23 d, clR_0_25 d, clL_7 d, clL_12 d, clL_13 d, clL_14 d, clL_20 d, clL_21 d, clL_22 d, clL_24 d, clS_0 d, clS_1 d, clS_2 d, clS_3 d, en, et, reduceCtorEq, k0, t1, k8, ea]
        · simp (decide := true) (disch := omega) only [e_X10_read_0, e_X10_read_1, e_X10_read_4, e_X10_read_5, e_X10_read_6, e_X10_read_9, e_X10_read_12, e_X10_read_13, e_X10_read_14, e_X10_read_17, e_X10_read_18, e_X10_read_19, e_X10_read_20, e_X10_read_23, e_X10_read_24, e_X10_read_25, e_X10_read_28, e_X10_read_29, e_X10_read_30, e_X10_read_33, e_X10_read_34, e_X10_read_37, e_X10_read_38, e_X10_read_41, e_X10_read_42, e_X10_read_43, e_X10_read_46, e_X10_read_49, e_X10_read_51, e_X10_read_52, e_X10_read_53, e_X10_read_56, e_X10_read_58, e_X10_read_61, e_X10_read_62, e_X10_read_63, e_X10_read_64, e_X10_read_66, e_X10_read_69, ↓reduceIte, if_true, if_false, reduceCtorEq, Nat.reduceAdd, true_and, and_true, false_and, and_false, true_or, or_true, false_or, or_false, not_true_eq_false, not_false_eq_true, Option.bind_eq_bind, Option.bind_some, psh, eq_self, l_0, l_1, l_2, l_3, l_4, l_5, l_6, l_7, l_8, l_9, l_10, l_11, l_12, l_13, l_14, l_15, l_16, l_17, l_18, l_19, l_20, l_24, l_31, l_32, l_33, l_35, l_36, l_48, l_56, l_57, l_58, l_63, l_65, l_80, l_81, l_90, l_91, l_93, l_94, l_95, l_97, l_100, l_105, l_107, l_110, l_111, l_116, l_120, l_121, l_122, l_123, l_124, l_125, l_126, l_162, l_255, l_300, l_400, l_420, l_432, l_1000, l_1400, l_1936, l_2000, l_2100, l_2400, l_24000, m_n1, m_n2, m_n3, nI_mul, nI_add, nI_sub, nI_ltT, nI_ltF, nI_leT, nI_leF, nI_eqT, nI_eqF, nI_nM, nM_nI, nM_eq, nM_lt, nM_le, nI_ltM, nI_leM, nI_inT, nI_dec, pk_rem, nI_ltI, nI_leI, nI_eq, nI_clamp, Nat.add_assoc, q_bv51, Nat.add_left_cancel_iff, clK_0 d, clK_1 d, clK_3 d, clK_5 d, clK_7 d, clK_8 d, clK_9 d, clK_11 d, clK_12 d, clK_13 d, clK_14 d, clK_15 d, clK_16 d, clK_18 d, clK_20 d, clK_21 d, clK_22 d, clK_23 d, clK_24 d, clK_25 d, clK_26 d, clR_0_0 d, clR_1_0 d, clR_2_0 d, clR_3_0 d, clR_7_0 d, clR_8_0 d, clR_9_0 d, clR_10_0 d, clR_11_0 d, clR_0_8 d, clR_0_11 d, clR_1_11 d, clR_2_11 d, clR_0_15 d, clR_1_15 d, clR_2_15 d, clR_3_15 d, clR_4_15 d, clR_5_15 d, clR_0_23 d, clR_1_23 d, clR_0_25 d, clL_7 d, clL_12 d, clL_13 d, clL_14 d, clL_20 d, clL_21 d, clL_22 d, clL_24 d, clS_0 d, clS_1 d, clS_2 d, clS_3 d, en, et, reduceCtorEq, k0, t1, k8, ea]
        · simp (decide := true) (disch := omega) only [e_X10_read_0, e_X10_read_1, e_X10_read_4, e_X10_read_5, e_X10_read_6, e_X10_read_9, e_X10_read_12, e_X10_read_13, e_X10_read_14, e_X10_read_17, e_X10_read_18, e_X10_read_19, e_X10_read_20, e_X10_read_23, e_X10_read_24, e_X10_read_25, e_X10_read_28, e_X10_read_29, e_X10_read_30, e_X10_read_33, e_X10_read_34, e_X10_read_37, e_X10_read_38, e_X10_read_41, e_X10_read_42, e_X10_read_43, e_X10_read_46, e_X10_read_49, e_X10_read_51, e_X10_read_52, e_X10_read_53, e_X10_read_56, e_X10_read_58, e_X10_read_61, e_X10_read_62, e_X10_read_63, e_X10_read_64, e_X10_read_66, e_X10_read_69, ↓reduceIte, if_true, if_false, reduceCtorEq, Nat.reduceAdd, true_and, and_true, false_and, and_false, true_or, or_true, false_or, or_false, not_true_eq_false, not_false_eq_true, Option.bind_eq_bind, Option.bind_some, psh, eq_self, l_0, l_1, l_2, l_3, l_4, l_5, l_6, l_7, l_8, l_9, l_10, l_11, l_12, l_13, l_14, l_15, l_16, l_17, l_18, l_19, l_20, l_24, l_31, l_32, l_33, l_35, l_36, l_48, l_56, l_57, l_58, l_63, l_65, l_80, l_81, l_90, l_91, l_93, l_94, l_95, l_97, l_100, l_105, l_107, l_110, l_111, l_116, l_120, l_121, l_122, l_123, l_124, l_125, l_126, l_162, l_255, l_300, l_400, l_420, l_432, l_1000, l_1400, l_1936, l_2000, l_2100, l_2400, l_24000, m_n1, m_n2, m_n3, nI_mul, nI_add, nI_sub, nI_ltT, nI_ltF, nI_leT, nI_leF, nI_eqT, nI_eqF, nI_nM, nM_nI, nM_eq, nM_lt, nM_le, nI_ltM, nI_leM, nI_inT, nI_dec, pk_rem, nI_ltI, nI_leI, nI_eq, nI_clamp, Nat.add_assoc, q_bv51, Nat.add_left_cancel_iff, clK_0 d, clK_1 d, clK_3 d, clK_5 d, clK_7 d, clK_8 d, clK_9 d, clK_11 d, clK_12 d, clK_13 d, clK_14 d, clK_15 d, clK_16 d, clK_18 d, clK_20 d, clK_21 d, clK_22 d, clK_23 d, clK_24 d, clK_25 d, clK_26 d, clR_0_0 d, clR_1_0 d, clR_2_0 d, clR_3_0 d, clR_7_0 d, clR_8_0 d, clR_9_0 d, clR_10_0 d, clR_11_0 d, clR_0_8 d, clR_0_11 d, clR_1_11 d, clR_2_11 d, clR_0_15 d, clR_1_15 d, clR_2_15 d, clR_3_15 d, clR_4_15 d, clR_5_15 d, clR_0_23 d, clR_1_23 d, clR_0_25 d, clL_7 d, clL_12 d, clL_13 d, clL_14 d, clL_20 d, clL_21 d, clL_22 d, clL_24 d, clS_0 d, clS_1 d, clS_2 d, clS_3 d, en, et, reduceCtorEq, k0, t1, k8, ea]
end
