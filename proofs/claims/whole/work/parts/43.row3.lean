theorem nb_nI {k : Nat} (hk : k < 1000000) : q_nb (nI k) = false := by
  have h1 := nI_pos (n := k) (by omega)
  have h2 := nI_clamp (n := k) (by omega)
  cases z : q_nb (nI k) with
  | false => rfl
  | true =>
    rcases q_nb_iff.mp z with w | w
    · exact absurd w h1
    · rw [h2] at w; omega
theorem r_cut {g : Nat} {h : PH} {a b cap bd k : Nat} {l : List Nat} {o : Int32} (r : rw_ h a b cap bd l o) (hk : k < 2 ^ 30) :
    ∃ h', cal g mX6_cut [va_rf (some a), .int (nI k)] h = some (none, h') ∧ rw_ h' a b cap bd (l.take k) 0 ∧ sm (fun x => x = a) h h' ∧ hN h' = hN h ∧ hU h' = hU h := by
  obtain ⟨⟨r1, r2, r3, r4⟩, ⟨r5, r6, r7⟩, ⟨r8, r8b, r8c⟩, r9, r10⟩ := r
  rw [n_X6_cut]
  have e0 : (if nI l.length < nI k then nI l.length else nI k) = nI (min k l.length) := by
    by_cases z : l.length < k
    · rw [if_pos (nI_lt z (by omega)), Nat.min_eq_right (by omega)]
    · rw [if_neg (nI_nlt (by omega) (by omega)), Nat.min_eq_left (by omega)]
  have e1 : (if (0 : Int32) < nI (min k l.length) then nI (min k l.length) else 0) = nI (min k l.length) := by
    by_cases z : min k l.length = 0
    · rw [z]; decide
    · rw [if_pos]
      have := nI_lt (a := 0) (b := min k l.length) (by omega) (by omega)
      rwa [nI_0] at this
  simp (decide := true) only [e_X6_cut_0, e_X6_cut_1, e_X6_cut_2, e_X6_cut_3, e_X6_cut_4, e_X6_cut_7, e_X6_cut_10, e_X6_cut_13, e_X6_cut_16, e_X6_cut_17, e_X6_cut_18, e_X6_cut_21, r1, r5, e0, e1, u_hN_pI, u_hU_pI, u_hK_pI, u_hL_pI, u_hR_pI, u_hJ_pI, u_hA_pI, u_hB_pI, u_hS_pI, u_hN_pR, u_hU_pR, u_hK_pR, u_hL_pR, u_hI_pR, u_hJ_pR, u_hA_pR, u_hB_pR, u_hS_pR, u_hN_pJ, u_hU_pJ, u_hK_pJ, u_hL_pJ, u_hI_pJ, u_hR_pJ, u_hA_pJ, u_hB_pJ, u_hS_pJ, u_hN_pA, u_hU_pA, u_hK_pA, u_hL_pA, u_hI_pA, u_hR_pA, u_hJ_pA, u_hB_pA, u_hS_pA, u_hN_pB, u_hU_pB, u_hK_pB, u_hL_pB, u_hI_pB, u_hR_pB, u_hJ_pB, u_hA_pB, u_hS_pB, u_hL_nO, u_hA_nO, u_hB_nO, u_hS_nO, u_hI_nA, u_hR_nA, u_hJ_nA, u_hS_nA, u_II, u_RR, u_JJ, u_AA, u_BB, u_NO, u_UO, u_KO, u_IO, u_RO, u_JO, u_NN, u_UN, u_KN, u_LN, u_AN, u_BN, if_true, if_false]
  refine ⟨_, rfl, ⟨⟨r1, r2, r3, r4⟩, ⟨?_, ?_, ?_⟩, ⟨by simp; omega, r8b, r8c⟩, fun i hi => ?_, fun x hx => r10 x (List.mem_of_mem_take hx)⟩, ?_, rfl, rfl⟩
  · simp (decide := true) only [u_hN_pI, u_hU_pI, u_hK_pI, u_hL_pI, u_hR_pI, u_hJ_pI, u_hA_pI, u_hB_pI, u_hS_pI, u_hN_pR, u_hU_pR, u_hK_pR, u_hL_pR, u_hI_pR, u_hJ_pR, u_hA_pR, u_hB_pR, u_hS_pR, u_hN_pJ, u_hU_pJ, u_hK_pJ, u_hL_pJ, u_hI_pJ, u_hR_pJ, u_hA_pJ, u_hB_pJ, u_hS_pJ, u_hN_pA, u_hU_pA, u_hK_pA, u_hL_pA, u_hI_pA, u_hR_pA, u_hJ_pA, u_hB_pA, u_hS_pA, u_hN_pB, u_hU_pB, u_hK_pB, u_hL_pB, u_hI_pB, u_hR_pB, u_hJ_pB, u_hA_pB, u_hS_pB, u_hL_nO, u_hA_nO, u_hB_nO, u_hS_nO, u_hI_nA, u_hR_nA, u_hJ_nA, u_hS_nA, u_II, u_RR, u_JJ, u_AA, u_BB, u_NO, u_UO, u_KO, u_IO, u_RO, u_JO, u_NN, u_UN, u_KN, u_LN, u_AN, u_BN, if_true, if_false, List.length_take]
  · simp (decide := true) only [u_hN_pI, u_hU_pI, u_hK_pI, u_hL_pI, u_hR_pI, u_hJ_pI, u_hA_pI, u_hB_pI, u_hS_pI, u_hN_pR, u_hU_pR, u_hK_pR, u_hL_pR, u_hI_pR, u_hJ_pR, u_hA_pR, u_hB_pR, u_hS_pR, u_hN_pJ, u_hU_pJ, u_hK_pJ, u_hL_pJ, u_hI_pJ, u_hR_pJ, u_hA_pJ, u_hB_pJ, u_hS_pJ, u_hN_pA, u_hU_pA, u_hK_pA, u_hL_pA, u_hI_pA, u_hR_pA, u_hJ_pA, u_hB_pA, u_hS_pA, u_hN_pB, u_hU_pB, u_hK_pB, u_hL_pB, u_hI_pB, u_hR_pB, u_hJ_pB, u_hA_pB, u_hS_pB, u_hL_nO, u_hA_nO, u_hB_nO, u_hS_nO, u_hI_nA, u_hR_nA, u_hJ_nA, u_hS_nA, u_II, u_RR, u_JJ, u_AA, u_BB, u_NO, u_UO, u_KO, u_IO, u_RO, u_JO, u_NN, u_UN, u_KN, u_LN, u_AN, u_BN, if_true, if_false]; exact r6
  · simp (decide := true) only [u_hN_pI, u_hU_pI, u_hK_pI, u_hL_pI, u_hR_pI, u_hJ_pI, u_hA_pI, u_hB_pI, u_hS_pI, u_hN_pR, u_hU_pR, u_hK_pR, u_hL_pR, u_hI_pR, u_hJ_pR, u_hA_pR, u_hB_pR, u_hS_pR, u_hN_pJ, u_hU_pJ, u_hK_pJ, u_hL_pJ, u_hI_pJ, u_hR_pJ, u_hA_pJ, u_hB_pJ, u_hS_pJ, u_hN_pA, u_hU_pA, u_hK_pA, u_hL_pA, u_hI_pA, u_hR_pA, u_hJ_pA, u_hB_pA, u_hS_pA, u_hN_pB, u_hU_pB, u_hK_pB, u_hL_pB, u_hI_pB, u_hR_pB, u_hJ_pB, u_hA_pB, u_hS_pB, u_hL_nO, u_hA_nO, u_hB_nO, u_hS_nO, u_hI_nA, u_hR_nA, u_hJ_nA, u_hS_nA, u_II, u_RR, u_JJ, u_AA, u_BB, u_NO, u_UO, u_KO, u_IO, u_RO, u_JO, u_NN, u_UN, u_KN, u_LN, u_AN, u_BN, if_true, if_false]
  · simp only [List.length_take] at hi
    simp only [u_hN_pI, u_hU_pI, u_hK_pI, u_hL_pI, u_hR_pI, u_hJ_pI, u_hA_pI, u_hB_pI, u_hS_pI, u_hN_pR, u_hU_pR, u_hK_pR, u_hL_pR, u_hI_pR, u_hJ_pR, u_hA_pR, u_hB_pR, u_hS_pR, u_hN_pJ, u_hU_pJ, u_hK_pJ, u_hL_pJ, u_hI_pJ, u_hR_pJ, u_hA_pJ, u_hB_pJ, u_hS_pJ, u_hN_pA, u_hU_pA, u_hK_pA, u_hL_pA, u_hI_pA, u_hR_pA, u_hJ_pA, u_hB_pA, u_hS_pA, u_hN_pB, u_hU_pB, u_hK_pB, u_hL_pB, u_hI_pB, u_hR_pB, u_hJ_pB, u_hA_pB, u_hS_pB, u_hL_nO, u_hA_nO, u_hB_nO, u_hS_nO, u_hI_nA, u_hR_nA, u_hJ_nA, u_hS_nA, u_II, u_RR, u_JJ, u_AA, u_BB, u_NO, u_UO, u_KO, u_IO, u_RO, u_JO, u_NN, u_UN, u_KN, u_LN, u_AN, u_BN]
    rw [r9 i (by omega)]
    congr 1
    simp [List.getD_eq_getElem?_getD, List.getElem?_take, show i < k by omega]
  · exact (sm.I1 _ _).tr (sm.I1 _ _)
/-- what a row holds behind putAll: bytes i .. j-1 of another -/
def pll (l l2 : List Nat) (bd i j : Nat) : List Nat := if i < j ∧ j ≤ l2.length ∧ j - i ≤ bd - l.length then l ++ (l2.drop i).take (j - i) else l
def plo (l l2 : List Nat) (bd i j : Nat) (o : Int32) : Int32 := if i < j ∧ j ≤ l2.length ∧ bd - l.length < j - i then 1 else o
theorem r_putAll {g : Nat} {h : PH} {a b cap bd a2 b2 cap2 bd2 i j : Nat} {l l2 : List Nat} {o o2 : Int32} (r : rw_ h a b cap bd l o) (s : rw_ h a2 b2 cap2 bd2 l2 o2) (hi : i < 2 ^ 30) (hj : j < 2 ^ 30) :
    ∃ h', cal g mX6_putAll [va_rf (some a), va_rf (some a2), .int (nI i), .int (nI j)] h = some (none, h') ∧ rw_ h' a b cap bd (pll l l2 bd i j) (plo l l2 bd i j o) ∧ sm (rP a b) h h' ∧ hN h' = hN h ∧ hU h' = hU h := by
  have hr := r
  have hab := r_ab r
  obtain ⟨⟨r1, r2, r3, r4⟩, ⟨r5, r6, r7⟩, ⟨r8, r8b, r8c⟩, r9, r10⟩ := r
  obtain ⟨⟨s1, s2, s3, s4⟩, ⟨s5, s6, s7⟩, ⟨s8, s8b, s8c⟩, s9, s10⟩ := s
  have z0 : ¬ nI i < 0 := nI_pos (by omega)
  rw [n_X6_putAll]
  simp (decide := true) only [e_X6_putAll_0, e_X6_putAll_1, e_X6_putAll_4, e_X6_putAll_5, e_X6_putAll_8, e_X6_putAll_9, e_X6_putAll_10, e_X6_putAll_13, e_X6_putAll_14, e_X6_putAll_15, e_X6_putAll_18, e_X6_putAll_21, e_X6_putAll_22, e_X6_putAll_23, e_X6_putAll_24, e_X6_putAll_25, e_X6_putAll_26, e_X6_putAll_29, e_X6_putAll_30, e_X6_putAll_33, e_X6_putAll_34, e_X6_putAll_37, e_X6_putAll_38, e_X6_putAll_39, e_X6_putAll_42, e_X6_putAll_43, e_X6_putAll_44, e_X6_putAll_47, e_X6_putAll_48, e_X6_putAll_49, e_X6_putAll_52, e_X6_putAll_53, e_X6_putAll_56, e_X6_putAll_57, e_X6_putAll_58, e_X6_putAll_59, e_X6_putAll_62, e_X6_putAll_63, e_X6_putAll_64, e_X6_putAll_67, e_X6_putAll_68, e_X6_putAll_69, e_X6_putAll_70, e_X6_putAll_71, e_X6_putAll_74, r1, r2, r3, r4, r5, r6, s1, s2, s3, s4, s5, z0, if_true, if_false, reduceCtorEq]
  by_cases c1 : i < j
  · have z1 : ¬ nI j ≤ nI i := nI_ge c1 (by omega)
    by_cases c2 : j ≤ l2.length
    · have z2 : nI j ≤ nI l2.length := nI_le c2 (by omega)
      have e1 : nI j - nI i = nI (j - i) := pk_sub (by omega)
      have e2 : nI bd - nI l.length = nI (bd - l.length) := pk_sub (by omega)
      by_cases c3 : j - i ≤ bd - l.length
      · have z3 : nI (j - i) ≤ nI (bd - l.length) := nI_le c3 (by omega)
        have k1 : ¬ nI l.length < 0 := nI_pos (by omega)
        have k2 : ¬ nI (j - i) < 0 := nI_pos (by omega)
        have k3 : (nI i).toNatClampNeg = i := nI_clamp (by omega)
        have k4 : (nI l.length).toNatClampNeg = l.length := nI_clamp (by omega)
        have k5 : (nI (j - i)).toNatClampNeg = j - i := nI_clamp (by omega)
        have k6 : i + (j - i) ≤ cap2 := by omega
        have k7 : l.length + (j - i) ≤ cap := by omega
        simp (decide := true) only [z1, z2, e1, e2, z3, if_true, if_false, j5_eq, reduceCtorEq, r3, s3, r4, s4, k1, k2, z0, k3, k4, k5, k6, k7, if_true, if_false, reduceCtorEq, Nat.reduceAdd, true_and, and_true, false_and, and_false, true_or, or_true, false_or, or_false, not_true_eq_false, not_false_eq_true, Option.bind_eq_bind, Option.bind_some, psh, eq_self, e_X6_putAll_0, e_X6_putAll_1, e_X6_putAll_4, e_X6_putAll_5, e_X6_putAll_8, e_X6_putAll_9, e_X6_putAll_10, e_X6_putAll_13, e_X6_putAll_14, e_X6_putAll_15, e_X6_putAll_18, e_X6_putAll_21, e_X6_putAll_22, e_X6_putAll_23, e_X6_putAll_24, e_X6_putAll_25, e_X6_putAll_26, e_X6_putAll_29, e_X6_putAll_30, e_X6_putAll_33, e_X6_putAll_34, e_X6_putAll_37, e_X6_putAll_38, e_X6_putAll_39, e_X6_putAll_42, e_X6_putAll_43, e_X6_putAll_44, e_X6_putAll_47, e_X6_putAll_48, e_X6_putAll_49, e_X6_putAll_52, e_X6_putAll_53, e_X6_putAll_56, e_X6_putAll_57, e_X6_putAll_58, e_X6_putAll_59, e_X6_putAll_62, e_X6_putAll_63, e_X6_putAll_64, e_X6_putAll_67, e_X6_putAll_68, e_X6_putAll_69, e_X6_putAll_70, e_X6_putAll_71, e_X6_putAll_74, r1, r5, u_hN_pI, u_hU_pI, u_hK_pI, u_hL_pI, u_hR_pI, u_hJ_pI, u_hA_pI, u_hB_pI, u_hS_pI, u_hN_pR, u_hU_pR, u_hK_pR, u_hL_pR, u_hI_pR, u_hJ_pR, u_hA_pR, u_hB_pR, u_hS_pR, u_hN_pJ, u_hU_pJ, u_hK_pJ, u_hL_pJ, u_hI_pJ, u_hR_pJ, u_hA_pJ, u_hB_pJ, u_hS_pJ, u_hN_pA, u_hU_pA, u_hK_pA, u_hL_pA, u_hI_pA, u_hR_pA, u_hJ_pA, u_hB_pA, u_hS_pA, u_hN_pB, u_hU_pB, u_hK_pB, u_hL_pB, u_hI_pB, u_hR_pB, u_hJ_pB, u_hA_pB, u_hS_pB, u_hL_nO, u_hA_nO, u_hB_nO, u_hS_nO, u_hI_nA, u_hR_nA, u_hJ_nA, u_hS_nA, u_II, u_RR, u_JJ, u_AA, u_BB, u_NO, u_UO, u_KO, u_IO, u_RO, u_JO, u_NN, u_UN, u_KN, u_LN, u_AN, u_BN]
        refine ⟨_, rfl, ⟨⟨r1, r2, r3, r4⟩, ⟨?_, ?_, ?_⟩, ⟨?_, r8b, r8c⟩, fun x hx => ?_, fun x hx => ?_⟩, ?_, rfl, rfl⟩
        · simp (decide := true) only [u_hN_pI, u_hU_pI, u_hK_pI, u_hL_pI, u_hR_pI, u_hJ_pI, u_hA_pI, u_hB_pI, u_hS_pI, u_hN_pR, u_hU_pR, u_hK_pR, u_hL_pR, u_hI_pR, u_hJ_pR, u_hA_pR, u_hB_pR, u_hS_pR, u_hN_pJ, u_hU_pJ, u_hK_pJ, u_hL_pJ, u_hI_pJ, u_hR_pJ, u_hA_pJ, u_hB_pJ, u_hS_pJ, u_hN_pA, u_hU_pA, u_hK_pA, u_hL_pA, u_hI_pA, u_hR_pA, u_hJ_pA, u_hB_pA, u_hS_pA, u_hN_pB, u_hU_pB, u_hK_pB, u_hL_pB, u_hI_pB, u_hR_pB, u_hJ_pB, u_hA_pB, u_hS_pB, u_hL_nO, u_hA_nO, u_hB_nO, u_hS_nO, u_hI_nA, u_hR_nA, u_hJ_nA, u_hS_nA, u_II, u_RR, u_JJ, u_AA, u_BB, u_NO, u_UO, u_KO, u_IO, u_RO, u_JO, u_NN, u_UN, u_KN, u_LN, u_AN, u_BN, if_true, if_false, pll, c1, c2, c3, and_self, List.length_append, List.length_take, List.length_drop]
          rw [nI_add]
          congr 1
          omega
        · simp (decide := true) only [u_hN_pI, u_hU_pI, u_hK_pI, u_hL_pI, u_hR_pI, u_hJ_pI, u_hA_pI, u_hB_pI, u_hS_pI, u_hN_pR, u_hU_pR, u_hK_pR, u_hL_pR, u_hI_pR, u_hJ_pR, u_hA_pR, u_hB_pR, u_hS_pR, u_hN_pJ, u_hU_pJ, u_hK_pJ, u_hL_pJ, u_hI_pJ, u_hR_pJ, u_hA_pJ, u_hB_pJ, u_hS_pJ, u_hN_pA, u_hU_pA, u_hK_pA, u_hL_pA, u_hI_pA, u_hR_pA, u_hJ_pA, u_hB_pA, u_hS_pA, u_hN_pB, u_hU_pB, u_hK_pB, u_hL_pB, u_hI_pB, u_hR_pB, u_hJ_pB, u_hA_pB, u_hS_pB, u_hL_nO, u_hA_nO, u_hB_nO, u_hS_nO, u_hI_nA, u_hR_nA, u_hJ_nA, u_hS_nA, u_II, u_RR, u_JJ, u_AA, u_BB, u_NO, u_UO, u_KO, u_IO, u_RO, u_JO, u_NN, u_UN, u_KN, u_LN, u_AN, u_BN, if_true, if_false]; exact r6
        · simp (decide := true) only [u_hN_pI, u_hU_pI, u_hK_pI, u_hL_pI, u_hR_pI, u_hJ_pI, u_hA_pI, u_hB_pI, u_hS_pI, u_hN_pR, u_hU_pR, u_hK_pR, u_hL_pR, u_hI_pR, u_hJ_pR, u_hA_pR, u_hB_pR, u_hS_pR, u_hN_pJ, u_hU_pJ, u_hK_pJ, u_hL_pJ, u_hI_pJ, u_hR_pJ, u_hA_pJ, u_hB_pJ, u_hS_pJ, u_hN_pA, u_hU_pA, u_hK_pA, u_hL_pA, u_hI_pA, u_hR_pA, u_hJ_pA, u_hB_pA, u_hS_pA, u_hN_pB, u_hU_pB, u_hK_pB, u_hL_pB, u_hI_pB, u_hR_pB, u_hJ_pB, u_hA_pB, u_hS_pB, u_hL_nO, u_hA_nO, u_hB_nO, u_hS_nO, u_hI_nA, u_hR_nA, u_hJ_nA, u_hS_nA, u_II, u_RR, u_JJ, u_AA, u_BB, u_NO, u_UO, u_KO, u_IO, u_RO, u_JO, u_NN, u_UN, u_KN, u_LN, u_AN, u_BN, if_true, if_false, plo]
          rw [if_neg (by omega)]; exact r7
        · simp only [pll, c1, c2, c3, and_self, if_true, List.length_append, List.length_take, List.length_drop]
          omega
        · simp only [pll, c1, c2, c3, and_self, if_true, List.length_append, List.length_take, List.length_drop] at hx
          simp only [u_hN_pI, u_hU_pI, u_hK_pI, u_hL_pI, u_hR_pI, u_hJ_pI, u_hA_pI, u_hB_pI, u_hS_pI, u_hN_pR, u_hU_pR, u_hK_pR, u_hL_pR, u_hI_pR, u_hJ_pR, u_hA_pR, u_hB_pR, u_hS_pR, u_hN_pJ, u_hU_pJ, u_hK_pJ, u_hL_pJ, u_hI_pJ, u_hR_pJ, u_hA_pJ, u_hB_pJ, u_hS_pJ, u_hN_pA, u_hU_pA, u_hK_pA, u_hL_pA, u_hI_pA, u_hR_pA, u_hJ_pA, u_hB_pA, u_hS_pA, u_hN_pB, u_hU_pB, u_hK_pB, u_hL_pB, u_hI_pB, u_hR_pB, u_hJ_pB, u_hA_pB, u_hS_pB, u_hL_nO, u_hA_nO, u_hB_nO, u_hS_nO, u_hI_nA, u_hR_nA, u_hJ_nA, u_hS_nA, u_II, u_RR, u_JJ, u_AA, u_BB, u_NO, u_UO, u_KO, u_IO, u_RO, u_JO, u_NN, u_UN, u_KN, u_LN, u_AN, u_BN, if_true, pll, c1, c2, c3, and_self, va_cpy]
          by_cases hx2 : x < l.length
          · rw [if_neg (by omega), getD_append_lt hx2]
            exact r9 x hx2
          · rw [if_pos (by omega), getD_append_ge (by omega), s9 _ (by omega)]
            congr 1
            simp [List.getD_eq_getElem?_getD, List.getElem?_take, List.getElem?_drop, show x - l.length < j - i by omega]
        · simp only [pll, c1, c2, c3, and_self, if_true] at hx
          rcases List.mem_append.mp hx with h1 | h1
          · exact r10 x h1
          · exact s10 x (List.mem_of_mem_drop (List.mem_of_mem_take h1))
        · exact (sm.A _ _ (Or.inr rfl)).tr (sm.I _ _ (Or.inl rfl))
      · have z3 : ¬ nI (j - i) ≤ nI (bd - l.length) := nI_ge (by omega) (by omega)
        have e5 : pll l l2 bd i j = l := by unfold pll; rw [if_neg (by omega)]
        have e6 : plo l l2 bd i j o = 1 := by unfold plo; rw [if_pos (by omega)]
        simp (decide := true) only [z1, z2, e1, e2, z3, if_true, if_false]
        rw [e5, e6]
        refine ⟨_, rfl, ⟨⟨r1, r2, r3, r4⟩, ⟨?_, ?_, ?_⟩, ⟨r8, r8b, r8c⟩, r9, r10⟩, sm.I _ _ (Or.inl rfl), rfl, rfl⟩
        · simp (decide := true) only [u_hN_pI, u_hU_pI, u_hK_pI, u_hL_pI, u_hR_pI, u_hJ_pI, u_hA_pI, u_hB_pI, u_hS_pI, u_hN_pR, u_hU_pR, u_hK_pR, u_hL_pR, u_hI_pR, u_hJ_pR, u_hA_pR, u_hB_pR, u_hS_pR, u_hN_pJ, u_hU_pJ, u_hK_pJ, u_hL_pJ, u_hI_pJ, u_hR_pJ, u_hA_pJ, u_hB_pJ, u_hS_pJ, u_hN_pA, u_hU_pA, u_hK_pA, u_hL_pA, u_hI_pA, u_hR_pA, u_hJ_pA, u_hB_pA, u_hS_pA, u_hN_pB, u_hU_pB, u_hK_pB, u_hL_pB, u_hI_pB, u_hR_pB, u_hJ_pB, u_hA_pB, u_hS_pB, u_hL_nO, u_hA_nO, u_hB_nO, u_hS_nO, u_hI_nA, u_hR_nA, u_hJ_nA, u_hS_nA, u_II, u_RR, u_JJ, u_AA, u_BB, u_NO, u_UO, u_KO, u_IO, u_RO, u_JO, u_NN, u_UN, u_KN, u_LN, u_AN, u_BN, if_true, if_false]; exact r5
        · simp (decide := true) only [u_hN_pI, u_hU_pI, u_hK_pI, u_hL_pI, u_hR_pI, u_hJ_pI, u_hA_pI, u_hB_pI, u_hS_pI, u_hN_pR, u_hU_pR, u_hK_pR, u_hL_pR, u_hI_pR, u_hJ_pR, u_hA_pR, u_hB_pR, u_hS_pR, u_hN_pJ, u_hU_pJ, u_hK_pJ, u_hL_pJ, u_hI_pJ, u_hR_pJ, u_hA_pJ, u_hB_pJ, u_hS_pJ, u_hN_pA, u_hU_pA, u_hK_pA, u_hL_pA, u_hI_pA, u_hR_pA, u_hJ_pA, u_hB_pA, u_hS_pA, u_hN_pB, u_hU_pB, u_hK_pB, u_hL_pB, u_hI_pB, u_hR_pB, u_hJ_pB, u_hA_pB, u_hS_pB, u_hL_nO, u_hA_nO, u_hB_nO, u_hS_nO, u_hI_nA, u_hR_nA, u_hJ_nA, u_hS_nA, u_II, u_RR, u_JJ, u_AA, u_BB, u_NO, u_UO, u_KO, u_IO, u_RO, u_JO, u_NN, u_UN, u_KN, u_LN, u_AN, u_BN, if_true, if_false]; exact r6
        · simp (decide := true) only [u_hN_pI, u_hU_pI, u_hK_pI, u_hL_pI, u_hR_pI, u_hJ_pI, u_hA_pI, u_hB_pI, u_hS_pI, u_hN_pR, u_hU_pR, u_hK_pR, u_hL_pR, u_hI_pR, u_hJ_pR, u_hA_pR, u_hB_pR, u_hS_pR, u_hN_pJ, u_hU_pJ, u_hK_pJ, u_hL_pJ, u_hI_pJ, u_hR_pJ, u_hA_pJ, u_hB_pJ, u_hS_pJ, u_hN_pA, u_hU_pA, u_hK_pA, u_hL_pA, u_hI_pA, u_hR_pA, u_hJ_pA, u_hB_pA, u_hS_pA, u_hN_pB, u_hU_pB, u_hK_pB, u_hL_pB, u_hI_pB, u_hR_pB, u_hJ_pB, u_hA_pB, u_hS_pB, u_hL_nO, u_hA_nO, u_hB_nO, u_hS_nO, u_hI_nA, u_hR_nA, u_hJ_nA, u_hS_nA, u_II, u_RR, u_JJ, u_AA, u_BB, u_NO, u_UO, u_KO, u_IO, u_RO, u_JO, u_NN, u_UN, u_KN, u_LN, u_AN, u_BN, if_true, if_false]
    · have z2 : ¬ nI j ≤ nI l2.length := nI_ge (by omega) (by omega)
      have e5 : pll l l2 bd i j = l := by unfold pll; rw [if_neg (by omega)]
      have e6 : plo l l2 bd i j o = o := by unfold plo; rw [if_neg (by omega)]
      simp (decide := true) only [z1, z2, if_true, if_false]
      rw [e5, e6]
      exact ⟨_, rfl, hr, sm.rf _, rfl, rfl⟩
  · have z1 : nI j ≤ nI i := nI_le (by omega) (by omega)
    have e5 : pll l l2 bd i j = l := by unfold pll; rw [if_neg (by omega)]
    have e6 : plo l l2 bd i j o = o := by unfold plo; rw [if_neg (by omega)]
    simp (decide := true) only [z1, if_true, if_false]
    rw [e5, e6]
    exact ⟨_, rfl, hr, sm.rf _, rfl, rfl⟩
