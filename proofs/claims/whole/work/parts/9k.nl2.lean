/-! what the list's calls leave alone; NameList.clear -/
/-- all but the list -/
def cIl (Q : Nat → Prop) (h : PH) (X : Nat) (tp ou fo : List Nat) (hd : Option Nm) (a : Option Nat) (w : Wd) : Prop :=
  (cl h X ∧ (∀ x, Q x → X + 57 ≤ x ∧ x < hN h) ∧ web Q h X w ∧ ∀ t, a = some t → t ≤ w.1) ∧ (cT h X tp ∧ cO h X ou ∧ cDr h X ∧ cF h X) ∧ (cFo h X fo ∧ nmQ Q h (hR h 5 X) hd ∧ hI h 6 X = oN a) ∧ cMk Q h X
theorem cI.out {Q : Nat → Prop} {h : PH} {X : Nat} {tp ou fo : List Nat} {hd : Option Nm} {a : Option Nat} {w : Wd} (I : cI Q h X tp ou fo hd a w) : cIl Q h X tp ou fo hd a w ∧ cLs Q h X := ⟨⟨I.1, I.2.1, I.2.2.1, I.2.2.2.1⟩, I.2.2.2.2⟩
theorem cIl.back {Q : Nat → Prop} {h : PH} {X : Nat} {tp ou fo : List Nat} {hd : Option Nm} {a : Option Nat} {w : Wd} (I : cIl Q h X tp ou fo hd a w) (c : cLs Q h X) : cI Q h X tp ou fo hd a w := ⟨I.1, I.2.1, I.2.2.1, I.2.2.2, c⟩
theorem nls.ls {Q : Nat → Prop} {h : PH} {X e gf bs : Nat} {l : List Nat} {L : List Nm} (N : nls Q h X l e L gf bs) : cLs Q h X := ⟨l, e, N.1⟩
/-- the list's own cells -/
def lP (h : PH) (X e : Nat) : Nat → Prop := fun x => x = X + 25 ∨ x = X + 26 ∨ (x = e ∧ hK h e = 55)
theorem cIl.kp {Q : Nat → Prop} {h h' : PH} {X e : Nat} {tp ou fo : List Nat} {hd : Option Nm} {a : Option Nat} {w : Wd} (I : cIl Q h X tp ou fo hd a w) (s : cfm X (lP h X e) h h') (he : ¬ Q e ∧ (e < X ∨ X + 57 ≤ e)) : cIl Q h' X tp ou fo hd a w := by
  obtain ⟨⟨d, hQ, W, hta⟩, ⟨I1, I2, I3, I4⟩, ⟨I5, I6, I7⟩, ⟨⟨l, o, r⟩, wb, cap, bd, l2, o2, r2, r3, r4, r5, r6⟩⟩ := I
  have hN' := d.1
  have hs := s.1.1
  have hP : nP X (lP h X e) [25, 26] := fun k hk hn z => by
    simp only [List.mem_cons, List.not_mem_nil, or_false, not_or] at hn
    unfold lP at z
    omega
  have hQ' : ∀ x, Q x → x < hN h ∧ ¬ lP h X e x ∧ Q x := fun x hx => ⟨(hQ x hx).2, fun z => by
    have := hQ x hx
    unfold lP at z
    rcases z with z | z | z
    · omega
    · omega
    · rw [z.1] at hx; exact he.1 hx, hx⟩
  have c0 : ¬ lP h X e X := hP 0 (by omega) (by decide)
  have hwb : ¬ (wb = e ∧ hK h e = 55) := fun z => by have := r2.1.2.2.1; rw [z.1, z.2] at this; cases this
  refine ⟨⟨d.keep s, fun x hx => by have := hQ x hx; omega, W.keep s.1 hN' (fun k k1 k2 => hP k (by omega) (by simp only [List.mem_cons, List.not_mem_nil, or_false, not_or]; omega)) hQ', hta⟩, ⟨I1.kp s.1 hN' hP (by decide) (by decide), I2.kp s.1 hN' hP (by decide) (by decide), I3.kp s.1 hN' hP (by decide) (by decide), I4.kp s.1 hN' hP (by decide) (by decide)⟩, ⟨I5.kp s.1 hN' hP (by decide) (by decide), ?_, ?_⟩, ⟨⟨l, o, r.keep s.1 (by omega) (by omega) (hP 16 (by omega) (by decide)) (hP 17 (by omega) (by decide))⟩, wb, cap, bd, l2, o2, r2.keep s.1 (by omega) r4 (hP 18 (by omega) (by decide)) ?_, r3, by omega, r5, r6⟩⟩
  · rw [((s.1.2.2 X (by omega)).2.2 c0).2.1]
    exact I6.keep s.1 hQ'
  · rw [((s.1.2.2 X (by omega)).2.2 c0).1]
    exact I7
  · unfold lP
    intro z
    rcases z with z | z | z
    · omega
    · omega
    · exact hwb z
/-- how long the list's array is -/
def lcap (h : PH) (X : Nat) : Nat := match hR h 1 (X + 26) with | none => 0 | some e => if hK h e = 55 then hL h e else 0
section
variable {g X : Nat} {Q : Nat → Prop} {h : PH}
theorem l_clear (d : cl h X) (c : cLs Q h X) : ∃ h' e, cal g mX3_clear [va_rf (some (X + 25))] h = some (none, h') ∧ cfm X (lP h X e) h h' ∧ (¬ Q e ∧ (e < X ∨ X + 57 ≤ e)) ∧ hN h' = hN h ∧ hU h' = hU h ∧ lcap h' X = lcap h X ∧ nls Q h' X [] e [] 0 0 := by
  obtain ⟨l, e, ⟨⟨a1, a2⟩, a3⟩, b1, b2, b3⟩ := c
  have dN := d.1
  have hl : l.length ≤ 3000 := by
    rcases a3 with ⟨z, -⟩ | ⟨-, z2, -, z4, -⟩
    · rw [z]; simp
    · omega
  have key : ∃ h1, q_clr h (X + 26) = some h1 ∧ cfm X (lP h X e) h h1 ∧ hN h1 = hN h ∧ hU h1 = hU h ∧ hI h1 2 (X + 26) = nI 0 ∧ hR h1 1 (X + 26) = some e := by
    unfold q_clr
    rw [a2]
    simp only
    by_cases c0 : l.length = 0
    · rw [c0] at a1
      have a1' : hI h 2 (X + 26) = 0 := a1
      rw [if_pos a1']
      refine ⟨_, rfl, (cfm.pI _ _ (Or.inr (Or.inl rfl))).tr (cfm.pI _ _ (Or.inr (Or.inl rfl))), rfl, rfl, ?_, ?_⟩
      · simp (decide := true) only [u_hN_pI, u_hU_pI, u_hK_pI, u_hL_pI, u_hR_pI, u_hJ_pI, u_hA_pI, u_hB_pI, u_hS_pI, u_hN_pR, u_hU_pR, u_hK_pR, u_hL_pR, u_hI_pR, u_hJ_pR, u_hA_pR, u_hB_pR, u_hS_pR, u_hN_pJ, u_hU_pJ, u_hK_pJ, u_hL_pJ, u_hI_pJ, u_hR_pJ, u_hA_pJ, u_hB_pJ, u_hS_pJ, u_hN_pA, u_hU_pA, u_hK_pA, u_hL_pA, u_hI_pA, u_hR_pA, u_hJ_pA, u_hB_pA, u_hS_pA, u_hN_pB, u_hU_pB, u_hK_pB, u_hL_pB, u_hI_pB, u_hR_pB, u_hJ_pB, u_hA_pB, u_hS_pB, u_hL_nO, u_hA_nO, u_hB_nO, u_hS_nO, u_hI_nA, u_hR_nA, u_hJ_nA, u_hS_nA, u_II, u_RR, u_JJ, u_AA, u_BB, u_NO, u_UO, u_KO, u_IO, u_RO, u_JO, u_NN, u_UN, u_KN, u_LN, u_AN, u_BN, and_self, if_true]
      · exact a2
    · have a1' : ¬ hI h 2 (X + 26) = 0 := by
        rw [a1]
        intro z
        have z' : nI l.length = nI 0 := z
        rw [nI_eqF (by omega) (by omega) (by omega)] at z'
        exact z'
      have a4 : ¬ hI h 2 (X + 26) < 0 := by
        rw [a1]
        intro z
        have z' : nI l.length < nI 0 := z
        rw [nI_ltF (by omega) (by omega)] at z'
        exact z'
      have a5 : hK h e = 55 ∧ l.length ≤ hL h e := by
        rcases a3 with ⟨z, -⟩ | ⟨z1, z2, -⟩
        · rw [z] at c0; simp at c0
        · exact ⟨z1, z2⟩
      rw [if_neg a1', if_pos ⟨a5.1, a4, by rw [a1, nI_clamp (by omega)]; exact a5.2⟩]
      refine ⟨_, rfl, ((cfm.pI _ _ (Or.inr (Or.inl rfl))).tr (cfm.pI _ _ (Or.inr (Or.inl rfl)))).tr (cfm.pB _ _ (Or.inr (Or.inr ⟨rfl, a5.1⟩))), rfl, rfl, ?_, ?_⟩
      · simp (decide := true) only [u_hN_pI, u_hU_pI, u_hK_pI, u_hL_pI, u_hR_pI, u_hJ_pI, u_hA_pI, u_hB_pI, u_hS_pI, u_hN_pR, u_hU_pR, u_hK_pR, u_hL_pR, u_hI_pR, u_hJ_pR, u_hA_pR, u_hB_pR, u_hS_pR, u_hN_pJ, u_hU_pJ, u_hK_pJ, u_hL_pJ, u_hI_pJ, u_hR_pJ, u_hA_pJ, u_hB_pJ, u_hS_pJ, u_hN_pA, u_hU_pA, u_hK_pA, u_hL_pA, u_hI_pA, u_hR_pA, u_hJ_pA, u_hB_pA, u_hS_pA, u_hN_pB, u_hU_pB, u_hK_pB, u_hL_pB, u_hI_pB, u_hR_pB, u_hJ_pB, u_hA_pB, u_hS_pB, u_hL_nO, u_hA_nO, u_hB_nO, u_hS_nO, u_hI_nA, u_hR_nA, u_hJ_nA, u_hS_nA, u_II, u_RR, u_JJ, u_AA, u_BB, u_NO, u_UO, u_KO, u_IO, u_RO, u_JO, u_NN, u_UN, u_KN, u_LN, u_AN, u_BN, and_self, if_true]
      · exact a2
  obtain ⟨h1, e1, c1, n1, u1, f1, f2⟩ := key
  have d1 := d.keep c1
  have c3 : cfm X (lP h X e) h (pI (pI h1 1 (X + 25) (nI 0)) 2 (X + 25) (nI 0)) := (c1.tr (cfm.pI _ _ (Or.inl rfl))).tr (cfm.pI _ _ (Or.inl rfl))
  have k1 := (c3.1.2.2 e b2)
  refine ⟨_, e, ?_, c3, ⟨b1, b3⟩, n1, u1, ?_, ⟨⟨⟨⟨?_, f2⟩, ?_⟩, b1, ?_, b3⟩, ⟨rfl, fun k hk => absurd hk (Nat.not_lt_zero _)⟩, ⟨?_, ?_⟩, Nat.le_refl _, Nat.le_refl _, by omega⟩⟩
  · have j : q_j8 4 [some (va_rf (some (X + 25)))] [va_rf (some (X + 26))] h = some (7, [some (va_rf (some (X + 25)))], [], h1) := by
      show (if hK h (X + 26) = 12 then _ else _) = _
      rw [if_pos (clK_26 d), e1]
    rw [n_X3_clear]
    simp (decide := true) (disch := omega) only [e_X3_clear_0, e_X3_clear_1, e_X3_clear_4, e_X3_clear_7, e_X3_clear_8, e_X3_clear_9, e_X3_clear_12, e_X3_clear_13, e_X3_clear_14, e_X3_clear_17, ↓reduceIte, if_true, if_false, reduceCtorEq, Nat.reduceAdd, true_and, and_true, false_and, and_false, true_or, or_true, false_or, or_false, not_true_eq_false, not_false_eq_true, Option.bind_eq_bind, Option.bind_some, psh, eq_self, l_0, l_1, l_2, l_3, l_4, l_5, l_6, l_7, l_8, l_9, l_10, l_11, l_12, l_13, l_14, l_15, l_16, l_17, l_18, l_19, l_20, l_24, l_31, l_32, l_33, l_35, l_36, l_48, l_56, l_57, l_58, l_63, l_65, l_80, l_81, l_90, l_91, l_93, l_94, l_95, l_97, l_100, l_105, l_107, l_110, l_111, l_116, l_120, l_121, l_122, l_123, l_124, l_125, l_126, l_162, l_255, l_300, l_400, l_420, l_432, l_1000, l_1400, l_1936, l_2000, l_2100, l_2400, l_24000, m_n1, m_n2, m_n3, nI_mul, nI_add, nI_sub, nI_ltT, nI_ltF, nI_leT, nI_leF, nI_eqT, nI_eqF, nI_nM, nM_nI, nM_eq, nM_lt, nM_le, nI_ltM, nI_leM, nI_inT, nI_dec, pk_rem, nI_ltI, nI_leI, nI_eq, nI_clamp, Nat.add_assoc, q_bv51, Nat.add_left_cancel_iff, clK_0 d, clK_1 d, clK_3 d, clK_5 d, clK_7 d, clK_8 d, clK_9 d, clK_11 d, clK_12 d, clK_13 d, clK_14 d, clK_15 d, clK_16 d, clK_18 d, clK_20 d, clK_21 d, clK_22 d, clK_23 d, clK_24 d, clK_25 d, clK_26 d, clR_0_0 d, clR_1_0 d, clR_2_0 d, clR_3_0 d, clR_7_0 d, clR_8_0 d, clR_9_0 d, clR_10_0 d, clR_11_0 d, clR_0_8 d, clR_0_11 d, clR_1_11 d, clR_2_11 d, clR_0_15 d, clR_1_15 d, clR_2_15 d, clR_3_15 d, clR_4_15 d, clR_5_15 d, clR_0_23 d, clR_1_23 d, clR_0_25 d, clL_7 d, clL_12 d, clL_13 d, clL_14 d, clL_20 d, clL_21 d, clL_22 d, clL_24 d, clS_0 d, clS_1 d, clS_2 d, clS_3 d, j, clK_0 d1, clK_1 d1, clK_3 d1, clK_5 d1, clK_7 d1, clK_8 d1, clK_9 d1, clK_11 d1, clK_12 d1, clK_13 d1, clK_14 d1, clK_15 d1, clK_16 d1, clK_18 d1, clK_20 d1, clK_21 d1, clK_22 d1, clK_23 d1, clK_24 d1, clK_25 d1, clK_26 d1, clR_0_0 d1, clR_1_0 d1, clR_2_0 d1, clR_3_0 d1, clR_7_0 d1, clR_8_0 d1, clR_9_0 d1, clR_10_0 d1, clR_11_0 d1, clR_0_8 d1, clR_0_11 d1, clR_1_11 d1, clR_2_11 d1, clR_0_15 d1, clR_1_15 d1, clR_2_15 d1, clR_3_15 d1, clR_4_15 d1, clR_5_15 d1, clR_0_23 d1, clR_1_23 d1, clR_0_25 d1, clL_7 d1, clL_12 d1, clL_13 d1, clL_14 d1, clL_20 d1, clL_21 d1, clL_22 d1, clL_24 d1, clS_0 d1, clS_1 d1, clS_2 d1, clS_3 d1, u_hN_pI, u_hU_pI, u_hK_pI, u_hL_pI, u_hR_pI, u_hJ_pI, u_hA_pI, u_hB_pI, u_hS_pI, u_hN_pR, u_hU_pR, u_hK_pR, u_hL_pR, u_hI_pR, u_hJ_pR, u_hA_pR, u_hB_pR, u_hS_pR, u_hN_pJ, u_hU_pJ, u_hK_pJ, u_hL_pJ, u_hI_pJ, u_hR_pJ, u_hA_pJ, u_hB_pJ, u_hS_pJ, u_hN_pA, u_hU_pA, u_hK_pA, u_hL_pA, u_hI_pA, u_hR_pA, u_hJ_pA, u_hB_pA, u_hS_pA, u_hN_pB, u_hU_pB, u_hK_pB, u_hL_pB, u_hI_pB, u_hR_pB, u_hJ_pB, u_hA_pB, u_hS_pB, u_hL_nO, u_hA_nO, u_hB_nO, u_hS_nO, u_hI_nA, u_hR_nA, u_hJ_nA, u_hS_nA, u_II, u_RR, u_JJ, u_AA, u_BB, u_NO, u_UO, u_KO, u_IO, u_RO, u_JO, u_NN, u_UN, u_KN, u_LN, u_AN, u_BN]
  · have z : hR (pI (pI h1 1 (X + 25) (nI 0)) 2 (X + 25) (nI 0)) 1 (X + 26) = some e := f2
    unfold lcap
    rw [z, a2]
    simp only
    rw [k1.1, k1.2.1]
  · have sI : sm (fun x => x = X + 25) h1 (pI (pI h1 1 (X + 25) (nI 0)) 2 (X + 25) (nI 0)) := (sm.I (P := fun x => x = X + 25) h1 _ rfl).tr (sm.I (P := fun x => x = X + 25) _ _ rfl)
    rw [((sI.2.2 (X + 26) (by omega)).2.2 (by omega)).1]
    exact f1
  · rw [k1.1, k1.2.1, c3.1.2.1]
    rcases a3 with ⟨-, z2, z3⟩ | ⟨z1, z2, z3, z4, z5, -⟩
    · exact Or.inl ⟨rfl, z2, z3⟩
    · exact Or.inr ⟨z1, Nat.zero_le _, z3, z4, z5, fun k hk => absurd hk (Nat.not_lt_zero _)⟩
  · show e < hN h1
    omega
  · simp (decide := true) only [u_hN_pI, u_hU_pI, u_hK_pI, u_hL_pI, u_hR_pI, u_hJ_pI, u_hA_pI, u_hB_pI, u_hS_pI, u_hN_pR, u_hU_pR, u_hK_pR, u_hL_pR, u_hI_pR, u_hJ_pR, u_hA_pR, u_hB_pR, u_hS_pR, u_hN_pJ, u_hU_pJ, u_hK_pJ, u_hL_pJ, u_hI_pJ, u_hR_pJ, u_hA_pJ, u_hB_pJ, u_hS_pJ, u_hN_pA, u_hU_pA, u_hK_pA, u_hL_pA, u_hI_pA, u_hR_pA, u_hJ_pA, u_hB_pA, u_hS_pA, u_hN_pB, u_hU_pB, u_hK_pB, u_hL_pB, u_hI_pB, u_hR_pB, u_hJ_pB, u_hA_pB, u_hS_pB, u_hL_nO, u_hA_nO, u_hB_nO, u_hS_nO, u_hI_nA, u_hR_nA, u_hJ_nA, u_hS_nA, u_II, u_RR, u_JJ, u_AA, u_BB, u_NO, u_UO, u_KO, u_IO, u_RO, u_JO, u_NN, u_UN, u_KN, u_LN, u_AN, u_BN, and_self, if_true, if_false, false_and]
  · simp (decide := true) only [u_hN_pI, u_hU_pI, u_hK_pI, u_hL_pI, u_hR_pI, u_hJ_pI, u_hA_pI, u_hB_pI, u_hS_pI, u_hN_pR, u_hU_pR, u_hK_pR, u_hL_pR, u_hI_pR, u_hJ_pR, u_hA_pR, u_hB_pR, u_hS_pR, u_hN_pJ, u_hU_pJ, u_hK_pJ, u_hL_pJ, u_hI_pJ, u_hR_pJ, u_hA_pJ, u_hB_pJ, u_hS_pJ, u_hN_pA, u_hU_pA, u_hK_pA, u_hL_pA, u_hI_pA, u_hR_pA, u_hJ_pA, u_hB_pA, u_hS_pA, u_hN_pB, u_hU_pB, u_hK_pB, u_hL_pB, u_hI_pB, u_hR_pB, u_hJ_pB, u_hA_pB, u_hS_pB, u_hL_nO, u_hA_nO, u_hB_nO, u_hS_nO, u_hI_nA, u_hR_nA, u_hJ_nA, u_hS_nA, u_II, u_RR, u_JJ, u_AA, u_BB, u_NO, u_UO, u_KO, u_IO, u_RO, u_JO, u_NN, u_UN, u_KN, u_LN, u_AN, u_BN, and_self, if_true]
end
