/-! Row.allow; what Maker leaves alone; setEdge, putMark -/
theorem r_allow {g : Nat} {h : PH} {a b cap bd : Nat} {l : List Nat} {o : Int32} (r : rw_ h a b cap bd l o) (hl : l.length + 2000 ≤ 300000) (hc : cap ≤ 300000) (ha : a < hN h) (hb : b < hN h) :
    ∃ h' b' cap', cal g mX6_allow [va_rf (some a), .int (nI 2000)] h = some (none, h') ∧ rw_ h' a b' cap' (l.length + 2000) l o ∧ sm (fun x => x = a) h h' ∧ (b' = b ∨ hN h ≤ b') ∧ b' < hN h' ∧ (cap' = cap ∨ cap < l.length + 2000 ∧ (cap' = l.length + 2000 ∨ cap' = 2 * cap)) ∧ hN h' + cap ≤ hN h + cap' ∧ hU h' + 4 * cap ≤ hU h + 4 * cap' := by
  obtain ⟨⟨r1, r2, r3, r4⟩, ⟨r5, r6, r7⟩, ⟨r8, r8b, r8c⟩, r9, r10⟩ := r
  rw [n_X6_allow]
  have e0 : (if nI 0 < nI 2000 then nI 2000 else nI 0) = nI 2000 := by decide
  by_cases c : l.length + 2000 ≤ cap
  · refine ⟨pI h 2 a (nI (l.length + 2000)), b, cap, ?_, ⟨⟨r1, r2, r3, r4⟩, ⟨?_, ?_, ?_⟩, ⟨by omega, c, r8c⟩, r9, r10⟩, sm.I1 _ _, Or.inl rfl, hb, Or.inl rfl, Nat.le_refl _, Nat.le_refl _⟩
    · simp (decide := true) (disch := omega) only [e_X6_allow_0, e_X6_allow_1, e_X6_allow_4, e_X6_allow_5, e_X6_allow_6, e_X6_allow_9, e_X6_allow_10, e_X6_allow_11, e_X6_allow_12, e_X6_allow_13, e_X6_allow_16, e_X6_allow_17, e_X6_allow_20, e_X6_allow_21, e_X6_allow_22, e_X6_allow_25, e_X6_allow_26, e_X6_allow_27, e_X6_allow_28, e_X6_allow_31, e_X6_allow_32, e_X6_allow_33, e_X6_allow_36, e_X6_allow_39, e_X6_allow_42, e_X6_allow_43, e_X6_allow_44, e_X6_allow_47, ↓reduceIte, if_true, if_false, reduceCtorEq, Nat.reduceAdd, true_and, and_true, false_and, and_false, true_or, or_true, false_or, or_false, not_true_eq_false, not_false_eq_true, Option.bind_eq_bind, Option.bind_some, psh, eq_self, l_0, l_1, l_2, l_3, l_4, l_5, l_6, l_7, l_8, l_9, l_10, l_11, l_12, l_13, l_14, l_15, l_16, l_17, l_18, l_19, l_20, l_24, l_31, l_32, l_33, l_35, l_36, l_48, l_56, l_57, l_58, l_63, l_65, l_80, l_81, l_90, l_91, l_93, l_94, l_95, l_97, l_100, l_105, l_107, l_110, l_111, l_116, l_120, l_121, l_122, l_123, l_124, l_125, l_126, l_162, l_255, l_300, l_400, l_420, l_432, l_1000, l_1400, l_1936, l_2000, l_2100, l_2400, l_24000, m_n1, m_n2, m_n3, nI_mul, nI_add, nI_sub, nI_ltT, nI_ltF, nI_leT, nI_leF, nI_eqT, nI_eqF, nI_nM, nM_nI, nM_eq, nM_lt, nM_le, nI_ltM, nI_leM, nI_inT, nI_dec, pk_rem, nI_ltI, nI_leI, nI_eq, nI_clamp, Nat.add_assoc, q_bv51, Nat.add_left_cancel_iff, r1, r5, e0, r2, r3, r4]
    · simp (decide := true) only [u_hN_pI, u_hU_pI, u_hK_pI, u_hL_pI, u_hR_pI, u_hJ_pI, u_hA_pI, u_hB_pI, u_hS_pI, u_hN_pR, u_hU_pR, u_hK_pR, u_hL_pR, u_hI_pR, u_hJ_pR, u_hA_pR, u_hB_pR, u_hS_pR, u_hN_pJ, u_hU_pJ, u_hK_pJ, u_hL_pJ, u_hI_pJ, u_hR_pJ, u_hA_pJ, u_hB_pJ, u_hS_pJ, u_hN_pA, u_hU_pA, u_hK_pA, u_hL_pA, u_hI_pA, u_hR_pA, u_hJ_pA, u_hB_pA, u_hS_pA, u_hN_pB, u_hU_pB, u_hK_pB, u_hL_pB, u_hI_pB, u_hR_pB, u_hJ_pB, u_hA_pB, u_hS_pB, u_hL_nO, u_hA_nO, u_hB_nO, u_hS_nO, u_hI_nA, u_hR_nA, u_hJ_nA, u_hS_nA, u_II, u_RR, u_JJ, u_AA, u_BB, u_NO, u_UO, u_KO, u_IO, u_RO, u_JO, u_NN, u_UN, u_KN, u_LN, u_AN, u_BN, if_true, if_false]; exact r5
    · simp (decide := true) only [u_hN_pI, u_hU_pI, u_hK_pI, u_hL_pI, u_hR_pI, u_hJ_pI, u_hA_pI, u_hB_pI, u_hS_pI, u_hN_pR, u_hU_pR, u_hK_pR, u_hL_pR, u_hI_pR, u_hJ_pR, u_hA_pR, u_hB_pR, u_hS_pR, u_hN_pJ, u_hU_pJ, u_hK_pJ, u_hL_pJ, u_hI_pJ, u_hR_pJ, u_hA_pJ, u_hB_pJ, u_hS_pJ, u_hN_pA, u_hU_pA, u_hK_pA, u_hL_pA, u_hI_pA, u_hR_pA, u_hJ_pA, u_hB_pA, u_hS_pA, u_hN_pB, u_hU_pB, u_hK_pB, u_hL_pB, u_hI_pB, u_hR_pB, u_hJ_pB, u_hA_pB, u_hS_pB, u_hL_nO, u_hA_nO, u_hB_nO, u_hS_nO, u_hI_nA, u_hR_nA, u_hJ_nA, u_hS_nA, u_II, u_RR, u_JJ, u_AA, u_BB, u_NO, u_UO, u_KO, u_IO, u_RO, u_JO, u_NN, u_UN, u_KN, u_LN, u_AN, u_BN, if_true, if_false]
    · simp (decide := true) only [u_hN_pI, u_hU_pI, u_hK_pI, u_hL_pI, u_hR_pI, u_hJ_pI, u_hA_pI, u_hB_pI, u_hS_pI, u_hN_pR, u_hU_pR, u_hK_pR, u_hL_pR, u_hI_pR, u_hJ_pR, u_hA_pR, u_hB_pR, u_hS_pR, u_hN_pJ, u_hU_pJ, u_hK_pJ, u_hL_pJ, u_hI_pJ, u_hR_pJ, u_hA_pJ, u_hB_pJ, u_hS_pJ, u_hN_pA, u_hU_pA, u_hK_pA, u_hL_pA, u_hI_pA, u_hR_pA, u_hJ_pA, u_hB_pA, u_hS_pA, u_hN_pB, u_hU_pB, u_hK_pB, u_hL_pB, u_hI_pB, u_hR_pB, u_hJ_pB, u_hA_pB, u_hS_pB, u_hL_nO, u_hA_nO, u_hB_nO, u_hS_nO, u_hI_nA, u_hR_nA, u_hJ_nA, u_hS_nA, u_II, u_RR, u_JJ, u_AA, u_BB, u_NO, u_UO, u_KO, u_IO, u_RO, u_JO, u_NN, u_UN, u_KN, u_LN, u_AN, u_BN, if_true, if_false]; exact r7
  · obtain ⟨n, hn, hn2⟩ : ∃ n, (if l.length + 2000 < 2 * cap then nI (2 * cap) else nI (l.length + 2000)) = nI n ∧ (n = l.length + 2000 ∨ n = 2 * cap) ∧ l.length + 2000 ≤ n ∧ 2 * cap ≤ n := by
      by_cases z : l.length + 2000 < 2 * cap
      · exact ⟨2 * cap, by rw [if_pos z], Or.inr rfl, by omega, by omega⟩
      · exact ⟨l.length + 2000, by rw [if_neg z], Or.inl rfl, by omega, by omega⟩
    have j : ∀ ls r', q_j11 36 ls (.int (nI n) :: va_rf (some b) :: r') h = some (39, ls, va_rf (some (hN h)) :: r', pA (nA h 52 n) (hN h) (va_cpy (hA h b) (fun _ => 0) 0 0 (hL h b))) := fun ls r' => by
      rw [j11_eq, nI_clamp (by omega), if_pos ⟨r3, nb_nI (by omega), by omega⟩]
    have na : a ≠ hN h := by omega
    have kn : hK (pA (nA h 52 n) (hN h) (va_cpy (hA h b) (fun _ => 0) 0 0 (hL h b))) a = 6 := by
      simp only [u_hN_pI, u_hU_pI, u_hK_pI, u_hL_pI, u_hR_pI, u_hJ_pI, u_hA_pI, u_hB_pI, u_hS_pI, u_hN_pR, u_hU_pR, u_hK_pR, u_hL_pR, u_hI_pR, u_hJ_pR, u_hA_pR, u_hB_pR, u_hS_pR, u_hN_pJ, u_hU_pJ, u_hK_pJ, u_hL_pJ, u_hI_pJ, u_hR_pJ, u_hA_pJ, u_hB_pJ, u_hS_pJ, u_hN_pA, u_hU_pA, u_hK_pA, u_hL_pA, u_hI_pA, u_hR_pA, u_hJ_pA, u_hB_pA, u_hS_pA, u_hN_pB, u_hU_pB, u_hK_pB, u_hL_pB, u_hI_pB, u_hR_pB, u_hJ_pB, u_hA_pB, u_hS_pB, u_hL_nO, u_hA_nO, u_hB_nO, u_hS_nO, u_hI_nA, u_hR_nA, u_hJ_nA, u_hS_nA, u_II, u_RR, u_JJ, u_AA, u_BB, u_NO, u_UO, u_KO, u_IO, u_RO, u_JO, u_NN, u_UN, u_KN, u_LN, u_AN, u_BN, na, if_false]; exact r1
    have s : sm (fun x => x = a) h (pI (pR (pA (nA h 52 n) (hN h) (va_cpy (hA h b) (fun _ => 0) 0 0 (hL h b))) 0 a (some (hN h))) 2 a (nI (l.length + 2000))) := by
      have s1 : sm (fun x => x = a ∨ x = hN h) h (pI (pR (pA (nA h 52 n) (hN h) (va_cpy (hA h b) (fun _ => 0) 0 0 (hL h b))) 0 a (some (hN h))) 2 a (nI (l.length + 2000))) := (((sm.N _ _ _).tr (sm.A _ _ (Or.inr rfl))).tr (sm.R _ _ (Or.inl rfl))).tr (sm.I _ _ (Or.inl rfl))
      exact s1.mono (fun x hx z => by rcases z with z | z; exact z; omega)
    refine ⟨_, hN h, n, ?_, ⟨⟨?_, ?_, ?_, ?_⟩, ⟨?_, ?_, ?_⟩, ⟨by omega, by omega, by omega⟩, fun i hi => ?_, r10⟩, s, Or.inr (Nat.le_refl _), ?_, Or.inr ⟨by omega, hn2.1⟩, ?_, ?_⟩
    · simp (decide := true) (disch := omega) only [e_X6_allow_0, e_X6_allow_1, e_X6_allow_4, e_X6_allow_5, e_X6_allow_6, e_X6_allow_9, e_X6_allow_10, e_X6_allow_11, e_X6_allow_12, e_X6_allow_13, e_X6_allow_16, e_X6_allow_17, e_X6_allow_20, e_X6_allow_21, e_X6_allow_22, e_X6_allow_25, e_X6_allow_26, e_X6_allow_27, e_X6_allow_28, e_X6_allow_31, e_X6_allow_32, e_X6_allow_33, e_X6_allow_36, e_X6_allow_39, e_X6_allow_42, e_X6_allow_43, e_X6_allow_44, e_X6_allow_47, ↓reduceIte, if_true, if_false, reduceCtorEq, Nat.reduceAdd, true_and, and_true, false_and, and_false, true_or, or_true, false_or, or_false, not_true_eq_false, not_false_eq_true, Option.bind_eq_bind, Option.bind_some, psh, eq_self, l_0, l_1, l_2, l_3, l_4, l_5, l_6, l_7, l_8, l_9, l_10, l_11, l_12, l_13, l_14, l_15, l_16, l_17, l_18, l_19, l_20, l_24, l_31, l_32, l_33, l_35, l_36, l_48, l_56, l_57, l_58, l_63, l_65, l_80, l_81, l_90, l_91, l_93, l_94, l_95, l_97, l_100, l_105, l_107, l_110, l_111, l_116, l_120, l_121, l_122, l_123, l_124, l_125, l_126, l_162, l_255, l_300, l_400, l_420, l_432, l_1000, l_1400, l_1936, l_2000, l_2100, l_2400, l_24000, m_n1, m_n2, m_n3, nI_mul, nI_add, nI_sub, nI_ltT, nI_ltF, nI_leT, nI_leF, nI_eqT, nI_eqF, nI_nM, nM_nI, nM_eq, nM_lt, nM_le, nI_ltM, nI_leM, nI_inT, nI_dec, pk_rem, nI_ltI, nI_leI, nI_eq, nI_clamp, Nat.add_assoc, q_bv51, Nat.add_left_cancel_iff, r1, r5, e0, r2, r3, r4, hn, j, na, u_hN_pI, u_hU_pI, u_hK_pI, u_hL_pI, u_hR_pI, u_hJ_pI, u_hA_pI, u_hB_pI, u_hS_pI, u_hN_pR, u_hU_pR, u_hK_pR, u_hL_pR, u_hI_pR, u_hJ_pR, u_hA_pR, u_hB_pR, u_hS_pR, u_hN_pJ, u_hU_pJ, u_hK_pJ, u_hL_pJ, u_hI_pJ, u_hR_pJ, u_hA_pJ, u_hB_pJ, u_hS_pJ, u_hN_pA, u_hU_pA, u_hK_pA, u_hL_pA, u_hI_pA, u_hR_pA, u_hJ_pA, u_hB_pA, u_hS_pA, u_hN_pB, u_hU_pB, u_hK_pB, u_hL_pB, u_hI_pB, u_hR_pB, u_hJ_pB, u_hA_pB, u_hS_pB, u_hL_nO, u_hA_nO, u_hB_nO, u_hS_nO, u_hI_nA, u_hR_nA, u_hJ_nA, u_hS_nA, u_II, u_RR, u_JJ, u_AA, u_BB, u_NO, u_UO, u_KO, u_IO, u_RO, u_JO, u_NN, u_UN, u_KN, u_LN, u_AN, u_BN]
    · simp only [u_hN_pI, u_hU_pI, u_hK_pI, u_hL_pI, u_hR_pI, u_hJ_pI, u_hA_pI, u_hB_pI, u_hS_pI, u_hN_pR, u_hU_pR, u_hK_pR, u_hL_pR, u_hI_pR, u_hJ_pR, u_hA_pR, u_hB_pR, u_hS_pR, u_hN_pJ, u_hU_pJ, u_hK_pJ, u_hL_pJ, u_hI_pJ, u_hR_pJ, u_hA_pJ, u_hB_pJ, u_hS_pJ, u_hN_pA, u_hU_pA, u_hK_pA, u_hL_pA, u_hI_pA, u_hR_pA, u_hJ_pA, u_hB_pA, u_hS_pA, u_hN_pB, u_hU_pB, u_hK_pB, u_hL_pB, u_hI_pB, u_hR_pB, u_hJ_pB, u_hA_pB, u_hS_pB, u_hL_nO, u_hA_nO, u_hB_nO, u_hS_nO, u_hI_nA, u_hR_nA, u_hJ_nA, u_hS_nA, u_II, u_RR, u_JJ, u_AA, u_BB, u_NO, u_UO, u_KO, u_IO, u_RO, u_JO, u_NN, u_UN, u_KN, u_LN, u_AN, u_BN, na, if_false]; exact r1
    · simp (decide := true) only [u_hN_pI, u_hU_pI, u_hK_pI, u_hL_pI, u_hR_pI, u_hJ_pI, u_hA_pI, u_hB_pI, u_hS_pI, u_hN_pR, u_hU_pR, u_hK_pR, u_hL_pR, u_hI_pR, u_hJ_pR, u_hA_pR, u_hB_pR, u_hS_pR, u_hN_pJ, u_hU_pJ, u_hK_pJ, u_hL_pJ, u_hI_pJ, u_hR_pJ, u_hA_pJ, u_hB_pJ, u_hS_pJ, u_hN_pA, u_hU_pA, u_hK_pA, u_hL_pA, u_hI_pA, u_hR_pA, u_hJ_pA, u_hB_pA, u_hS_pA, u_hN_pB, u_hU_pB, u_hK_pB, u_hL_pB, u_hI_pB, u_hR_pB, u_hJ_pB, u_hA_pB, u_hS_pB, u_hL_nO, u_hA_nO, u_hB_nO, u_hS_nO, u_hI_nA, u_hR_nA, u_hJ_nA, u_hS_nA, u_II, u_RR, u_JJ, u_AA, u_BB, u_NO, u_UO, u_KO, u_IO, u_RO, u_JO, u_NN, u_UN, u_KN, u_LN, u_AN, u_BN, if_true, if_false]
    · simp (decide := true) only [u_hN_pI, u_hU_pI, u_hK_pI, u_hL_pI, u_hR_pI, u_hJ_pI, u_hA_pI, u_hB_pI, u_hS_pI, u_hN_pR, u_hU_pR, u_hK_pR, u_hL_pR, u_hI_pR, u_hJ_pR, u_hA_pR, u_hB_pR, u_hS_pR, u_hN_pJ, u_hU_pJ, u_hK_pJ, u_hL_pJ, u_hI_pJ, u_hR_pJ, u_hA_pJ, u_hB_pJ, u_hS_pJ, u_hN_pA, u_hU_pA, u_hK_pA, u_hL_pA, u_hI_pA, u_hR_pA, u_hJ_pA, u_hB_pA, u_hS_pA, u_hN_pB, u_hU_pB, u_hK_pB, u_hL_pB, u_hI_pB, u_hR_pB, u_hJ_pB, u_hA_pB, u_hS_pB, u_hL_nO, u_hA_nO, u_hB_nO, u_hS_nO, u_hI_nA, u_hR_nA, u_hJ_nA, u_hS_nA, u_II, u_RR, u_JJ, u_AA, u_BB, u_NO, u_UO, u_KO, u_IO, u_RO, u_JO, u_NN, u_UN, u_KN, u_LN, u_AN, u_BN, if_true, if_false]
    · simp (decide := true) only [u_hN_pI, u_hU_pI, u_hK_pI, u_hL_pI, u_hR_pI, u_hJ_pI, u_hA_pI, u_hB_pI, u_hS_pI, u_hN_pR, u_hU_pR, u_hK_pR, u_hL_pR, u_hI_pR, u_hJ_pR, u_hA_pR, u_hB_pR, u_hS_pR, u_hN_pJ, u_hU_pJ, u_hK_pJ, u_hL_pJ, u_hI_pJ, u_hR_pJ, u_hA_pJ, u_hB_pJ, u_hS_pJ, u_hN_pA, u_hU_pA, u_hK_pA, u_hL_pA, u_hI_pA, u_hR_pA, u_hJ_pA, u_hB_pA, u_hS_pA, u_hN_pB, u_hU_pB, u_hK_pB, u_hL_pB, u_hI_pB, u_hR_pB, u_hJ_pB, u_hA_pB, u_hS_pB, u_hL_nO, u_hA_nO, u_hB_nO, u_hS_nO, u_hI_nA, u_hR_nA, u_hJ_nA, u_hS_nA, u_II, u_RR, u_JJ, u_AA, u_BB, u_NO, u_UO, u_KO, u_IO, u_RO, u_JO, u_NN, u_UN, u_KN, u_LN, u_AN, u_BN, if_true, if_false]
    · simp (decide := true) only [u_hN_pI, u_hU_pI, u_hK_pI, u_hL_pI, u_hR_pI, u_hJ_pI, u_hA_pI, u_hB_pI, u_hS_pI, u_hN_pR, u_hU_pR, u_hK_pR, u_hL_pR, u_hI_pR, u_hJ_pR, u_hA_pR, u_hB_pR, u_hS_pR, u_hN_pJ, u_hU_pJ, u_hK_pJ, u_hL_pJ, u_hI_pJ, u_hR_pJ, u_hA_pJ, u_hB_pJ, u_hS_pJ, u_hN_pA, u_hU_pA, u_hK_pA, u_hL_pA, u_hI_pA, u_hR_pA, u_hJ_pA, u_hB_pA, u_hS_pA, u_hN_pB, u_hU_pB, u_hK_pB, u_hL_pB, u_hI_pB, u_hR_pB, u_hJ_pB, u_hA_pB, u_hS_pB, u_hL_nO, u_hA_nO, u_hB_nO, u_hS_nO, u_hI_nA, u_hR_nA, u_hJ_nA, u_hS_nA, u_II, u_RR, u_JJ, u_AA, u_BB, u_NO, u_UO, u_KO, u_IO, u_RO, u_JO, u_NN, u_UN, u_KN, u_LN, u_AN, u_BN, if_true, if_false]; exact r5
    · simp (decide := true) only [u_hN_pI, u_hU_pI, u_hK_pI, u_hL_pI, u_hR_pI, u_hJ_pI, u_hA_pI, u_hB_pI, u_hS_pI, u_hN_pR, u_hU_pR, u_hK_pR, u_hL_pR, u_hI_pR, u_hJ_pR, u_hA_pR, u_hB_pR, u_hS_pR, u_hN_pJ, u_hU_pJ, u_hK_pJ, u_hL_pJ, u_hI_pJ, u_hR_pJ, u_hA_pJ, u_hB_pJ, u_hS_pJ, u_hN_pA, u_hU_pA, u_hK_pA, u_hL_pA, u_hI_pA, u_hR_pA, u_hJ_pA, u_hB_pA, u_hS_pA, u_hN_pB, u_hU_pB, u_hK_pB, u_hL_pB, u_hI_pB, u_hR_pB, u_hJ_pB, u_hA_pB, u_hS_pB, u_hL_nO, u_hA_nO, u_hB_nO, u_hS_nO, u_hI_nA, u_hR_nA, u_hJ_nA, u_hS_nA, u_II, u_RR, u_JJ, u_AA, u_BB, u_NO, u_UO, u_KO, u_IO, u_RO, u_JO, u_NN, u_UN, u_KN, u_LN, u_AN, u_BN, if_true, if_false]
    · simp (decide := true) only [u_hN_pI, u_hU_pI, u_hK_pI, u_hL_pI, u_hR_pI, u_hJ_pI, u_hA_pI, u_hB_pI, u_hS_pI, u_hN_pR, u_hU_pR, u_hK_pR, u_hL_pR, u_hI_pR, u_hJ_pR, u_hA_pR, u_hB_pR, u_hS_pR, u_hN_pJ, u_hU_pJ, u_hK_pJ, u_hL_pJ, u_hI_pJ, u_hR_pJ, u_hA_pJ, u_hB_pJ, u_hS_pJ, u_hN_pA, u_hU_pA, u_hK_pA, u_hL_pA, u_hI_pA, u_hR_pA, u_hJ_pA, u_hB_pA, u_hS_pA, u_hN_pB, u_hU_pB, u_hK_pB, u_hL_pB, u_hI_pB, u_hR_pB, u_hJ_pB, u_hA_pB, u_hS_pB, u_hL_nO, u_hA_nO, u_hB_nO, u_hS_nO, u_hI_nA, u_hR_nA, u_hJ_nA, u_hS_nA, u_II, u_RR, u_JJ, u_AA, u_BB, u_NO, u_UO, u_KO, u_IO, u_RO, u_JO, u_NN, u_UN, u_KN, u_LN, u_AN, u_BN, if_true, if_false]; exact r7
    · simp (decide := true) only [u_hN_pI, u_hU_pI, u_hK_pI, u_hL_pI, u_hR_pI, u_hJ_pI, u_hA_pI, u_hB_pI, u_hS_pI, u_hN_pR, u_hU_pR, u_hK_pR, u_hL_pR, u_hI_pR, u_hJ_pR, u_hA_pR, u_hB_pR, u_hS_pR, u_hN_pJ, u_hU_pJ, u_hK_pJ, u_hL_pJ, u_hI_pJ, u_hR_pJ, u_hA_pJ, u_hB_pJ, u_hS_pJ, u_hN_pA, u_hU_pA, u_hK_pA, u_hL_pA, u_hI_pA, u_hR_pA, u_hJ_pA, u_hB_pA, u_hS_pA, u_hN_pB, u_hU_pB, u_hK_pB, u_hL_pB, u_hI_pB, u_hR_pB, u_hJ_pB, u_hA_pB, u_hS_pB, u_hL_nO, u_hA_nO, u_hB_nO, u_hS_nO, u_hI_nA, u_hR_nA, u_hJ_nA, u_hS_nA, u_II, u_RR, u_JJ, u_AA, u_BB, u_NO, u_UO, u_KO, u_IO, u_RO, u_JO, u_NN, u_UN, u_KN, u_LN, u_AN, u_BN, if_true, if_false]
      unfold va_cpy
      rw [if_pos ⟨by omega, by omega⟩, show 0 + (i - 0) = i by omega]
      exact r9 i hi
    · show hN h < hN h + 1
      omega
    · show hN h + 1 + cap ≤ _
      omega
    · show hU h + n + 4 * cap ≤ _
      omega
/-- cells that Maker changes -/
def kF' (X wb : Nat) : Nat → Prop := fun x => x = X + 15 ∨ x = X + 16 ∨ x = X + 17 ∨ x = X + 18 ∨ x = X + 20 ∨ x = X + 21 ∨ x = X + 22 ∨ x = wb
/-- all but Maker -/
def cIk (Q : Nat → Prop) (h : PH) (X : Nat) (tp ou fo : List Nat) (hd : Option Nm) (a : Option Nat) (w : Wd) : Prop :=
  (cl h X ∧ (∀ x, Q x → X + 57 ≤ x ∧ x < hN h) ∧ web Q h X w ∧ ∀ t, a = some t → t ≤ w.1) ∧ (cT h X tp ∧ cO h X ou ∧ cDr h X ∧ cF h X) ∧ (cFo h X fo ∧ nmQ Q h (hR h 5 X) hd ∧ hI h 6 X = oN a) ∧ cLs Q h X
/-- the row of WORDS -/
def kW (Q : Nat → Prop) (h : PH) (X wb cap bd : Nat) (wl : List Nat) (o : Int32) : Prop := rw_ h (X + 18) wb cap bd wl o ∧ ¬ Q wb ∧ wb < hN h ∧ (wb = X + 19 ∨ X + 57 ≤ wb) ∧ cap ≤ 300000
section
variable {X : Nat} {Q : Nat → Prop} {h h' : PH} {tp ou fo : List Nat} {hd : Option Nm} {a : Option Nat} {w : Wd}
theorem cI.outK (I : cI Q h X tp ou fo hd a w) : cIk Q h X tp ou fo hd a w ∧ cMk Q h X := ⟨⟨I.1, I.2.1, I.2.2.1, I.2.2.2.2⟩, I.2.2.2.1⟩
theorem cIk.back (I : cIk Q h X tp ou fo hd a w) (c : cMk Q h X) : cI Q h X tp ou fo hd a w := ⟨I.1, I.2.1, I.2.2.1, c, I.2.2.2⟩
theorem cIk.kp {wb cap bd : Nat} {wl : List Nat} {o : Int32} (I : cIk Q h X tp ou fo hd a w) (K : kW Q h X wb cap bd wl o) (s : cfm X (kF' X wb) h h') : cIk Q h' X tp ou fo hd a w := by
  obtain ⟨⟨d, hQ, W, hta⟩, ⟨I1, I2, I3, I4⟩, ⟨I5, I6, I7⟩, l, e, ⟨⟨r1, r2⟩, r3⟩, r4, r5, r6⟩ := I
  obtain ⟨rK, k1, k2, k3, k4⟩ := K
  have hN' := d.1
  have hs := s.1.1
  have hP : nP X (kF' X wb) [15, 16, 17, 18, 19, 20, 21, 22] := fun k hk hn z => by
    simp only [List.mem_cons, List.not_mem_nil, or_false, not_or] at hn
    unfold kF' at z
    omega
  have hQ' : ∀ x, Q x → x < hN h ∧ ¬ kF' X wb x ∧ Q x := fun x hx => ⟨(hQ x hx).2, fun z => by
    have := hQ x hx
    have : x ≠ wb := fun y => k1 (y ▸ hx)
    unfold kF' at z
    omega, hx⟩
  have c0 : ¬ kF' X wb X := hP 0 (by omega) (by decide)
  refine ⟨⟨d.keep s, fun x hx => by have := hQ x hx; omega, W.keep s.1 hN' (fun k k1 k2 => hP k (by omega) (by simp only [List.mem_cons, List.not_mem_nil, or_false, not_or]; omega)) hQ', hta⟩, ⟨I1.kp s.1 hN' hP (by decide) (by decide), I2.kp s.1 hN' hP (by decide) (by decide), I3.kp s.1 hN' hP (by decide) (by decide), I4.kp s.1 hN' hP (by decide) (by decide)⟩, ⟨I5.kp s.1 hN' hP (by decide) (by decide), ?_, ?_⟩, ?_⟩
  · rw [((s.1.2.2 X (by omega)).2.2 c0).2.1]
    exact I6.keep s.1 hQ'
  · rw [((s.1.2.2 X (by omega)).2.2 c0).1]
    exact I7
  · have t26 := (s.1.2.2 (X + 26) (by omega)).2.2 (hP 26 (by omega) (by decide))
    obtain ⟨e1, e2, e3⟩ := s.1.2.2 e r5
    refine ⟨l, e, ⟨⟨by rw [t26.1]; exact r1, by rw [t26.2.1]; exact r2⟩, ?_⟩, r4, by omega, r6⟩
    rcases r3 with z | z
    · exact Or.inl (by rw [e1, e2, s.1.2.1]; exact z)
    · have ne : ¬ kF' X wb e := fun y => by
        have h1 := z.1
        have h2 := rK.1.2.2.1
        have : e ≠ wb := fun q => by rw [q, h2] at h1; cases h1
        unfold kF' at y
        omega
      have tb := (e3 ne).2.2.2.2
      exact Or.inr (by rw [e1, e2, tb]; exact z)
theorem cMk.of {wb cap bd : Nat} {wl l : List Nat} {o o2 : Int32} (K : kW Q h X wb cap bd wl o) (r : rw_ h (X + 16) (X + 17) 2000 2000 l o2) : cMk Q h X := ⟨⟨_, _, r⟩, _, _, _, _, _, K.1, K.2.1, K.2.2.1, K.2.2.2.1, K.2.2.2.2⟩
/-- what Maker's calls use -/
def mOK (X wb cap wb' cap' : Nat) (h h' : PH) : Prop := cfm X (kF' X wb) h h' ∧ (wb' = wb ∨ hN h ≤ wb') ∧ hN h' + cap ≤ hN h + cap' ∧ hU h' + 4 * cap ≤ hU h + 4 * cap'
theorem mOK.rf {wb cap : Nat} : mOK X wb cap wb cap h h := ⟨cfm.rf _, Or.inl rfl, Nat.le_refl _, Nat.le_refl _⟩
theorem mOK.of {wb cap : Nat} (s : cfm X (kF' X wb) h h') (n : hN h' = hN h) (u : hU h' = hU h) : mOK X wb cap wb cap h h' := ⟨s, Or.inl rfl, by omega, by omega⟩
theorem mOK.tr {wb cap wb1 cap1 wb2 cap2 : Nat} {h1 h2 : PH} (a : mOK X wb cap wb1 cap1 h h1) (b : mOK X wb1 cap1 wb2 cap2 h1 h2) : mOK X wb cap wb2 cap2 h h2 := by
  obtain ⟨a1, a2, a3, a4⟩ := a
  obtain ⟨b1, b2, b3, b4⟩ := b
  have n1 := a1.1.1
  refine ⟨?_, by omega, by omega, by omega⟩
  have b1' : cfm X (fun x => kF' X wb x ∨ hN h ≤ x) h1 h2 := b1.mono (fun x hx z => by
    unfold kF' at z ⊢
    omega)
  exact ((a1.mono (fun x _ z => Or.inl z)).tr b1').mono (fun x hx z => by rcases z with z | z; exact z; omega)
/-- levels below L are left -/
def eK (X L : Nat) (h h' : PH) : Prop := (∀ k, k < L * 10 → hA h' (X + 20) k = hA h (X + 20) k) ∧ ∀ k, k < L → hA h' (X + 21) k = hA h (X + 21) k
theorem eK.rf {L : Nat} : eK X L h h := ⟨fun _ _ => rfl, fun _ _ => rfl⟩
theorem eK.tr {L : Nat} {h1 h2 : PH} (a : eK X L h h1) (b : eK X L h1 h2) : eK X L h h2 := ⟨fun k hk => (b.1 k hk).trans (a.1 k hk), fun k hk => (b.2 k hk).trans (a.2 k hk)⟩
theorem eK.mono {L L' : Nat} (a : eK X L h h') (hl : L' ≤ L) : eK X L' h h' := ⟨fun k hk => a.1 k (by omega), fun k hk => a.2 k (by omega)⟩
theorem eK.of {L : Nat} {P : Nat → Prop} (s : sm P h h') (dN : X + 57 ≤ hN h) (h1 : ¬ P (X + 20)) (h2 : ¬ P (X + 21)) : eK X L h h' := by
  have p20 := ((s.2.2 (X + 20) (by omega)).2.2 h1).2.2.2.1
  have p21 := ((s.2.2 (X + 21) (by omega)).2.2 h2).2.2.2.1
  exact ⟨fun k _ => by rw [p20], fun k _ => by rw [p21]⟩
/-- the WORDS of a level -/
def wSt (h : PH) (X lv : Nat) (ws : List (List Nat)) (E : Nat → Nat) (wl : List Nat) : Prop := (hA h (X + 21) lv = nI ws.length ∧ ws.length ≤ 9) ∧ ∀ i, i < ws.length → hA h (X + 20) (lv * 10 + i) = nI (E i) ∧ hA h (X + 20) (lv * 10 + (i + 1)) = nI (E (i + 1)) ∧ E i ≤ E (i + 1) ∧ E (i + 1) ≤ wl.length ∧ slc wl (E i) (E (i + 1)) = ws.getD i []
theorem wSt.kp {lv L : Nat} {ws : List (List Nat)} {E : Nat → Nat} {wl : List Nat} (W : wSt h X lv ws E wl) (e : eK X L h h') (hl : lv < L) : wSt h' X lv ws E wl := by
  obtain ⟨⟨w1, w2⟩, w3⟩ := W
  refine ⟨⟨by rw [e.2 lv hl]; exact w1, w2⟩, fun i hi => ?_⟩
  rw [e.1 _ (by omega), e.1 _ (by omega)]
  exact w3 i hi
theorem wSt.fH {lv ra rb' : Nat} {t : List Nat} {ws : List (List Nat)} {E : Nat → Nat} {wl : List Nat} (W : wSt h X lv ws E wl) (d : cl h X) (hQ : ∀ x, Q x → X + 57 ≤ x ∧ x < hN h) (ha : Q ra) (hb : Q rb') (r : rw_ h ra rb' t.length t.length t 0) (hl : lv < 8) (ht : t.length ≤ 300) : fH h X ra rb' lv t ws E wl.length wl :=
  ⟨⟨d, r, hQ ra ha, (hQ rb' hb).1, (hQ rb' hb).2⟩, ⟨W.1.1, W.1.2, hl, ht⟩, W.2⟩
end
