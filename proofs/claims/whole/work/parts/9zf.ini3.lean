/-! PageWeb's constructor -/
section
variable {g X : Nat} {h : PH}
theorem xF_in {h : PH} {X k : Nat} {v : Option Nat} {L : List (Nat × Option Nat)} (x : xF h X L) (hm : (k, v) ∈ L) : hR h k X = v := x (k, v) hm
theorem smF {P : Nat → Prop} {h h' : PH} (s : sm (fun _ => False) h h') : sm P h h' := s.mono (fun x _ z => z.elim)
theorem pw_lt {n a k : Nat} (h : n = a + (k + 1)) : a < n := by omega
theorem pw_n (X k : Nat) : ¬ (X + (k + 1) = X) := by omega
theorem pw_s0 (u : Nat) : u + 12 + 4 + 400 = u + 416 := by omega
theorem pw_s1 (u : Nat) : u + 4 + 2000 = u + 2004 := by omega
theorem pw_s2 (u : Nat) : u + 4 + 300 = u + 304 := by omega
theorem pw_s3 (u : Nat) : u + 416 + 2004 + 304 + 16 = u + 2740 := by omega
theorem i_pz0 {t1 : PH} (n0 : hN (nO h 10) = X + 1) (e1 : cal g mX6_init [va_rf (some (X + 1)), .int (nI 400)] (nO (nO h 10) 6) = some (none, t1)) (k1 : hK t1 X = 10) : ev g mX10_init 0 [some (va_rf (some X))] [] (nO h 10) = ev g mX10_init 18 [some (va_rf (some X))] [] (pR t1 0 X (some (X + 1))) := by
  simp (decide := true) (disch := omega) only [e_X10_init_0, e_X10_init_1, e_X10_init_4, e_X10_init_5, e_X10_init_8, e_X10_init_9, e_X10_init_12, e_X10_init_15, ↓reduceIte, if_true, if_false, reduceCtorEq, Nat.reduceAdd, true_and, and_true, false_and, and_false, true_or, or_true, false_or, or_false, not_true_eq_false, not_false_eq_true, Option.bind_eq_bind, Option.bind_some, psh, eq_self, l_0, l_1, l_2, l_3, l_4, l_5, l_6, l_7, l_8, l_9, l_10, l_11, l_12, l_13, l_14, l_15, l_16, l_17, l_18, l_19, l_20, l_24, l_31, l_32, l_33, l_35, l_36, l_48, l_56, l_57, l_58, l_63, l_65, l_80, l_81, l_90, l_91, l_93, l_94, l_95, l_97, l_100, l_105, l_107, l_110, l_111, l_116, l_120, l_121, l_122, l_123, l_124, l_125, l_126, l_162, l_255, l_300, l_400, l_420, l_432, l_1000, l_1400, l_1936, l_2000, l_2100, l_2400, l_24000, m_n1, m_n2, m_n3, nI_mul, nI_add, nI_sub, nI_ltT, nI_ltF, nI_leT, nI_leF, nI_eqT, nI_eqF, nI_nM, nM_nI, nM_eq, nM_lt, nM_le, nI_ltM, nI_leM, nI_inT, nI_dec, pk_rem, nI_ltI, nI_leI, nI_eq, nI_clamp, Nat.add_assoc, q_bv51, Nat.add_left_cancel_iff, n0, e1, k1]
theorem i_pz1 {g1 t2 : PH} (ng1 : hN g1 = X + 3) (e2 : cal g mX6_init [va_rf (some (X + 3)), .int (nI 2000)] (nO g1 6) = some (none, t2)) (k2 : hK t2 X = 10) : ev g mX10_init 18 [some (va_rf (some X))] [] g1 = ev g mX10_init 32 [some (va_rf (some X))] [] (pR t2 1 X (some (X + 3))) := by
  simp (decide := true) (disch := omega) only [e_X10_init_18, e_X10_init_19, e_X10_init_22, e_X10_init_23, e_X10_init_26, e_X10_init_29, ↓reduceIte, if_true, if_false, reduceCtorEq, Nat.reduceAdd, true_and, and_true, false_and, and_false, true_or, or_true, false_or, or_false, not_true_eq_false, not_false_eq_true, Option.bind_eq_bind, Option.bind_some, psh, eq_self, l_0, l_1, l_2, l_3, l_4, l_5, l_6, l_7, l_8, l_9, l_10, l_11, l_12, l_13, l_14, l_15, l_16, l_17, l_18, l_19, l_20, l_24, l_31, l_32, l_33, l_35, l_36, l_48, l_56, l_57, l_58, l_63, l_65, l_80, l_81, l_90, l_91, l_93, l_94, l_95, l_97, l_100, l_105, l_107, l_110, l_111, l_116, l_120, l_121, l_122, l_123, l_124, l_125, l_126, l_162, l_255, l_300, l_400, l_420, l_432, l_1000, l_1400, l_1936, l_2000, l_2100, l_2400, l_24000, m_n1, m_n2, m_n3, nI_mul, nI_add, nI_sub, nI_ltT, nI_ltF, nI_leT, nI_leF, nI_eqT, nI_eqF, nI_nM, nM_nI, nM_eq, nM_lt, nM_le, nI_ltM, nI_leM, nI_inT, nI_dec, pk_rem, nI_ltI, nI_leI, nI_eq, nI_clamp, Nat.add_assoc, q_bv51, Nat.add_left_cancel_iff, ng1, e2, k2]
theorem i_pz2 {g2 t3 : PH} (ng2 : hN g2 = X + 5) (e3 : cal g mX6_init [va_rf (some (X + 5)), .int (nI 300)] (nO g2 6) = some (none, t3)) (k3 : hK t3 X = 10) : ev g mX10_init 32 [some (va_rf (some X))] [] g2 = ev g mX10_init 46 [some (va_rf (some X))] [] (pR t3 2 X (some (X + 5))) := by
  simp (decide := true) (disch := omega) only [e_X10_init_32, e_X10_init_33, e_X10_init_36, e_X10_init_37, e_X10_init_40, e_X10_init_43, ↓reduceIte, if_true, if_false, reduceCtorEq, Nat.reduceAdd, true_and, and_true, false_and, and_false, true_or, or_true, false_or, or_false, not_true_eq_false, not_false_eq_true, Option.bind_eq_bind, Option.bind_some, psh, eq_self, l_0, l_1, l_2, l_3, l_4, l_5, l_6, l_7, l_8, l_9, l_10, l_11, l_12, l_13, l_14, l_15, l_16, l_17, l_18, l_19, l_20, l_24, l_31, l_32, l_33, l_35, l_36, l_48, l_56, l_57, l_58, l_63, l_65, l_80, l_81, l_90, l_91, l_93, l_94, l_95, l_97, l_100, l_105, l_107, l_110, l_111, l_116, l_120, l_121, l_122, l_123, l_124, l_125, l_126, l_162, l_255, l_300, l_400, l_420, l_432, l_1000, l_1400, l_1936, l_2000, l_2100, l_2400, l_24000, m_n1, m_n2, m_n3, nI_mul, nI_add, nI_sub, nI_ltT, nI_ltF, nI_leT, nI_leF, nI_eqT, nI_eqF, nI_nM, nM_nI, nM_eq, nM_lt, nM_le, nI_ltM, nI_leM, nI_inT, nI_dec, pk_rem, nI_ltI, nI_leI, nI_eq, nI_clamp, Nat.add_assoc, q_bv51, Nat.add_left_cancel_iff, ng2, e3, k3]
theorem i_pz3 {g3 : PH} (ng3 : hN g3 = X + 7) (ka4 : hK (nA g3 50 16) X = 10) : ev g mX10_init 46 [some (va_rf (some X))] [] g3 = ev g mX10_init 69 [some (va_rf (some X))] [] (pI (pR (pI (pR (nA g3 50 16) 3 X (some (X + 7))) 4 X (nI 0)) 5 X none) 6 X (nM 1)) := by
  simp (decide := true) (disch := omega) only [e_X10_init_46, e_X10_init_47, e_X10_init_49, e_X10_init_51, e_X10_init_54, e_X10_init_55, e_X10_init_56, e_X10_init_59, e_X10_init_60, e_X10_init_61, e_X10_init_64, e_X10_init_65, e_X10_init_66, ↓reduceIte, if_true, if_false, reduceCtorEq, Nat.reduceAdd, true_and, and_true, false_and, and_false, true_or, or_true, false_or, or_false, not_true_eq_false, not_false_eq_true, Option.bind_eq_bind, Option.bind_some, psh, eq_self, l_0, l_1, l_2, l_3, l_4, l_5, l_6, l_7, l_8, l_9, l_10, l_11, l_12, l_13, l_14, l_15, l_16, l_17, l_18, l_19, l_20, l_24, l_31, l_32, l_33, l_35, l_36, l_48, l_56, l_57, l_58, l_63, l_65, l_80, l_81, l_90, l_91, l_93, l_94, l_95, l_97, l_100, l_105, l_107, l_110, l_111, l_116, l_120, l_121, l_122, l_123, l_124, l_125, l_126, l_162, l_255, l_300, l_400, l_420, l_432, l_1000, l_1400, l_1936, l_2000, l_2100, l_2400, l_24000, m_n1, m_n2, m_n3, nI_mul, nI_add, nI_sub, nI_ltT, nI_ltF, nI_leT, nI_leF, nI_eqT, nI_eqF, nI_nM, nM_nI, nM_eq, nM_lt, nM_le, nI_ltM, nI_leM, nI_inT, nI_dec, pk_rem, nI_ltI, nI_leI, nI_eq, nI_clamp, Nat.add_assoc, q_bv51, Nat.add_left_cancel_iff, ng3, nb_nI, ka4, u_hK_pR, u_hK_pI]
theorem xF_I {h : PH} {X k a : Nat} {v : Int32} {L : List (Nat × Option Nat)} (x : xF h X L) : xF (pI h k a v) X L := fun e he => by rw [u_hR_pI]; exact x e he
theorem xF_N {h : PH} {X c n : Nat} {L : List (Nat × Option Nat)} (x : xF h X L) : xF (nA h c n) X L := fun e he => by rw [u_hR_nA]; exact x e he
theorem i_px4 {g3 : PH} (x3 : xF g3 X [(2, some (X + 5)), (1, some (X + 3)), (0, some (X + 1))]) : xF (pI (pR (pI (pR (nA g3 50 16) 3 X (some (X + 7))) 4 X (nI 0)) 5 X none) 6 X (nM 1)) X [(5, none), (3, some (X + 7)), (2, some (X + 5)), (1, some (X + 3)), (0, some (X + 1))] := xF_I (xF_put (xF_I (xF_put (xF_N x3) (by simp))) (by simp))
theorem i_pf4 {g3 : PH} (ng3 : hN g3 = X + 7) (kg3 : hK g3 X = 10) : hN (pI (pR (pI (pR (nA g3 50 16) 3 X (some (X + 7))) 4 X (nI 0)) 5 X none) 6 X (nM 1)) = X + 8 ∧ hU (pI (pR (pI (pR (nA g3 50 16) 3 X (some (X + 7))) 4 X (nI 0)) 5 X none) 6 X (nM 1)) = hU g3 + 16 ∧ hK (pI (pR (pI (pR (nA g3 50 16) 3 X (some (X + 7))) 4 X (nI 0)) 5 X none) 6 X (nM 1)) X = 10 ∧ hK (pI (pR (pI (pR (nA g3 50 16) 3 X (some (X + 7))) 4 X (nI 0)) 5 X none) 6 X (nM 1)) (X + 7) = 50 ∧ hL (pI (pR (pI (pR (nA g3 50 16) 3 X (some (X + 7))) 4 X (nI 0)) 5 X none) 6 X (nM 1)) (X + 7) = 16 ∧ hI (pI (pR (pI (pR (nA g3 50 16) 3 X (some (X + 7))) 4 X (nI 0)) 5 X none) 6 X (nM 1)) 4 X = nI 0 ∧ hI (pI (pR (pI (pR (nA g3 50 16) 3 X (some (X + 7))) 4 X (nI 0)) 5 X none) 6 X (nM 1)) 6 X = nM 1 := by
  refine ⟨?_, ?_, ?_, ?_, ?_, ?_, ?_⟩ <;> simp [u_hN_pI, u_hU_pI, u_hK_pI, u_hL_pI, u_hR_pI, u_hJ_pI, u_hA_pI, u_hB_pI, u_hS_pI, u_hN_pR, u_hU_pR, u_hK_pR, u_hL_pR, u_hI_pR, u_hJ_pR, u_hA_pR, u_hB_pR, u_hS_pR, u_hN_pJ, u_hU_pJ, u_hK_pJ, u_hL_pJ, u_hI_pJ, u_hR_pJ, u_hA_pJ, u_hB_pJ, u_hS_pJ, u_hN_pA, u_hU_pA, u_hK_pA, u_hL_pA, u_hI_pA, u_hR_pA, u_hJ_pA, u_hB_pA, u_hS_pA, u_hN_pB, u_hU_pB, u_hK_pB, u_hL_pB, u_hI_pB, u_hR_pB, u_hJ_pB, u_hA_pB, u_hS_pB, u_hL_nO, u_hA_nO, u_hB_nO, u_hS_nO, u_hI_nA, u_hR_nA, u_hJ_nA, u_hS_nA, u_II, u_RR, u_JJ, u_AA, u_BB, u_NO, u_UO, u_KO, u_IO, u_RO, u_JO, u_NN, u_UN, u_KN, u_LN, u_AN, u_BN, ng3, kg3, Nat.add_assoc]
theorem i_ps4 {g3 : PH} : sm (fun x => x = X) g3 (pI (pR (pI (pR (nA g3 50 16) 3 X (some (X + 7))) 4 X (nI 0)) 5 X none) 6 X (nM 1)) := by
  have sa4 : sm (fun x => x = X) g3 (nA g3 50 16) := sm.N _ _ _
  exact (((sa4.tr (sm.R (P := fun x => x = X) _ _ rfl)).tr (sm.I (P := fun x => x = X) _ _ rfl)).tr (sm.R (P := fun x => x = X) _ _ rfl)).tr (sm.I (P := fun x => x = X) _ _ rfl)
theorem i_pw0 (hX : hN h = X) : ∃ t1 g1, g1 = pR t1 0 X (some (X + 1)) ∧ hN (nO h 10) = X + 1 ∧ cal g mX6_init [va_rf (some (X + 1)), .int (nI 400)] (nO (nO h 10) 6) = some (none, t1) ∧ hK t1 X = 10 ∧ hN g1 = X + 3 ∧ hK g1 X = 10 ∧ xF g1 X [(0, some (X + 1))] ∧ sm (fun x => x = X) h g1 ∧ hU g1 = hU h + 416 ∧ rw_ g1 (X + 1) (X + 2) 400 400 [] 0 := by
  have n0 : hN (nO h 10) = X + 1 := by simp [u_hN_pI, u_hU_pI, u_hK_pI, u_hL_pI, u_hR_pI, u_hJ_pI, u_hA_pI, u_hB_pI, u_hS_pI, u_hN_pR, u_hU_pR, u_hK_pR, u_hL_pR, u_hI_pR, u_hJ_pR, u_hA_pR, u_hB_pR, u_hS_pR, u_hN_pJ, u_hU_pJ, u_hK_pJ, u_hL_pJ, u_hI_pJ, u_hR_pJ, u_hA_pJ, u_hB_pJ, u_hS_pJ, u_hN_pA, u_hU_pA, u_hK_pA, u_hL_pA, u_hI_pA, u_hR_pA, u_hJ_pA, u_hB_pA, u_hS_pA, u_hN_pB, u_hU_pB, u_hK_pB, u_hL_pB, u_hI_pB, u_hR_pB, u_hJ_pB, u_hA_pB, u_hS_pB, u_hL_nO, u_hA_nO, u_hB_nO, u_hS_nO, u_hI_nA, u_hR_nA, u_hJ_nA, u_hS_nA, u_II, u_RR, u_JJ, u_AA, u_BB, u_NO, u_UO, u_KO, u_IO, u_RO, u_JO, u_NN, u_UN, u_KN, u_LN, u_AN, u_BN, hX]
  have k0 : hK (nO h 10) X = 10 := by simp [u_hN_pI, u_hU_pI, u_hK_pI, u_hL_pI, u_hR_pI, u_hJ_pI, u_hA_pI, u_hB_pI, u_hS_pI, u_hN_pR, u_hU_pR, u_hK_pR, u_hL_pR, u_hI_pR, u_hJ_pR, u_hA_pR, u_hB_pR, u_hS_pR, u_hN_pJ, u_hU_pJ, u_hK_pJ, u_hL_pJ, u_hI_pJ, u_hR_pJ, u_hA_pJ, u_hB_pJ, u_hS_pJ, u_hN_pA, u_hU_pA, u_hK_pA, u_hL_pA, u_hI_pA, u_hR_pA, u_hJ_pA, u_hB_pA, u_hS_pA, u_hN_pB, u_hU_pB, u_hK_pB, u_hL_pB, u_hI_pB, u_hR_pB, u_hJ_pB, u_hA_pB, u_hS_pB, u_hL_nO, u_hA_nO, u_hB_nO, u_hS_nO, u_hI_nA, u_hR_nA, u_hJ_nA, u_hS_nA, u_II, u_RR, u_JJ, u_AA, u_BB, u_NO, u_UO, u_KO, u_IO, u_RO, u_JO, u_NN, u_UN, u_KN, u_LN, u_AN, u_BN, hX]
  have s0 : sm (fun x => x = X) h (nO h 10) := sm.O _ _
  have u0 : hU (nO h 10) = hU h + 12 := by simp [u_hN_pI, u_hU_pI, u_hK_pI, u_hL_pI, u_hR_pI, u_hJ_pI, u_hA_pI, u_hB_pI, u_hS_pI, u_hN_pR, u_hU_pR, u_hK_pR, u_hL_pR, u_hI_pR, u_hJ_pR, u_hA_pR, u_hB_pR, u_hS_pR, u_hN_pJ, u_hU_pJ, u_hK_pJ, u_hL_pJ, u_hI_pJ, u_hR_pJ, u_hA_pJ, u_hB_pJ, u_hS_pJ, u_hN_pA, u_hU_pA, u_hK_pA, u_hL_pA, u_hI_pA, u_hR_pA, u_hJ_pA, u_hB_pA, u_hS_pA, u_hN_pB, u_hU_pB, u_hK_pB, u_hL_pB, u_hI_pB, u_hR_pB, u_hJ_pB, u_hA_pB, u_hS_pB, u_hL_nO, u_hA_nO, u_hB_nO, u_hS_nO, u_hI_nA, u_hR_nA, u_hJ_nA, u_hS_nA, u_II, u_RR, u_JJ, u_AA, u_BB, u_NO, u_UO, u_KO, u_IO, u_RO, u_JO, u_NN, u_UN, u_KN, u_LN, u_AN, u_BN, show q_nf 10 = 12 from rfl]
  have x0 : xF (nO h 10) X [] := fun e he => absurd he List.not_mem_nil
  obtain ⟨t1, e1, r1, s1, n1, u1⟩ := i_row (g := g) (h := nO h 10) (a := X + 1) (k := 400) n0 (by decide)
  have k1 : hK t1 X = 10 := by rw [(s1.2.2 X (pw_lt (k := 0) n0)).1]; exact k0
  obtain ⟨g1, eg1⟩ : ∃ x, x = pR t1 0 X (some (X + 1)) := ⟨_, rfl⟩
  have sg1 : sm (fun x => x = X) t1 g1 := by rw [eg1]; exact sm.R1 _ _
  have ng1 : hN g1 = X + 3 := by rw [eg1]; exact n1
  have ug1 : hU g1 = hU t1 := by rw [eg1]; rfl
  have kg1 : hK g1 X = 10 := by rw [eg1]; exact k1
  have x1 : xF g1 X [(0, some (X + 1))] := by rw [eg1]; exact xF_put (x0.kp s1 (fun z => z) (pw_lt (k := 0) n0)) (fun e he => absurd he List.not_mem_nil)
  refine ⟨t1, g1, eg1, n0, e1, k1, ng1, kg1, x1, (s0.tr (smF s1)).tr sg1, (by rw [ug1, u1, u0, pw_s0]), r1.keep sg1 (pw_lt (k := 1) n1) (pw_lt (k := 0) n1) (pw_n X 0) (pw_n X 1)⟩
theorem i_pw1 {g2 : PH} {L : List (Nat × Option Nat)} (n0 : hN g2 = X + 3) (k0 : hK g2 X = 10) (x0 : xF g2 X L) (hL : ∀ e ∈ L, e.1 ≠ 1) : ∃ t1 g1, g1 = pR t1 1 X (some (X + 3)) ∧ cal g mX6_init [va_rf (some (X + 3)), .int (nI 2000)] (nO g2 6) = some (none, t1) ∧ hK t1 X = 10 ∧ hN g1 = X + 5 ∧ hK g1 X = 10 ∧ xF g1 X ((1, some (X + 3)) :: L) ∧ sm (fun x => x = X) g2 g1 ∧ hU g1 = hU g2 + 2004 ∧ rw_ g1 (X + 3) (X + 4) 2000 2000 [] 0 := by
  obtain ⟨t1, e1, r1, s1, n1, u1⟩ := i_row (g := g) (h := g2) (a := X + 3) (k := 2000) n0 (by decide)
  have k1 : hK t1 X = 10 := by rw [(s1.2.2 X (pw_lt (k := 2) n0)).1]; exact k0
  have sg1 : sm (fun x => x = X) t1 (pR t1 1 X (some (X + 3))) := sm.R1 _ _
  exact ⟨t1, _, rfl, e1, k1, n1, k1, xF_put (x0.kp s1 (fun z => z) (pw_lt (k := 2) n0)) hL, (smF s1).tr sg1, u1.trans (pw_s1 _), r1.keep sg1 (pw_lt (k := 1) n1) (pw_lt (k := 0) n1) (pw_n X 2) (pw_n X 3)⟩
theorem i_pw2 {g2 : PH} {L : List (Nat × Option Nat)} (n0 : hN g2 = X + 5) (k0 : hK g2 X = 10) (x0 : xF g2 X L) (hL : ∀ e ∈ L, e.1 ≠ 2) : ∃ t1 g1, g1 = pR t1 2 X (some (X + 5)) ∧ cal g mX6_init [va_rf (some (X + 5)), .int (nI 300)] (nO g2 6) = some (none, t1) ∧ hK t1 X = 10 ∧ hN g1 = X + 7 ∧ hK g1 X = 10 ∧ xF g1 X ((2, some (X + 5)) :: L) ∧ sm (fun x => x = X) g2 g1 ∧ hU g1 = hU g2 + 304 ∧ rw_ g1 (X + 5) (X + 6) 300 300 [] 0 := by
  obtain ⟨t1, e1, r1, s1, n1, u1⟩ := i_row (g := g) (h := g2) (a := X + 5) (k := 300) n0 (by decide)
  have k1 : hK t1 X = 10 := by rw [(s1.2.2 X (pw_lt (k := 4) n0)).1]; exact k0
  have sg1 : sm (fun x => x = X) t1 (pR t1 2 X (some (X + 5))) := sm.R1 _ _
  exact ⟨t1, _, rfl, e1, k1, n1, k1, xF_put (x0.kp s1 (fun z => z) (pw_lt (k := 4) n0)) hL, (smF s1).tr sg1, u1.trans (pw_s2 _), r1.keep sg1 (pw_lt (k := 1) n1) (pw_lt (k := 0) n1) (pw_n X 4) (pw_n X 5)⟩
theorem i_pwA (hX : hN h = X) : ∃ g4, ev g mX10_init 0 [some (va_rf (some X))] [] (nO h 10) = ev g mX10_init 69 [some (va_rf (some X))] [] g4 ∧ (sm (fun x => x = X) h g4 ∧ hN g4 = X + 8 ∧ hU g4 = hU h + 2740 ∧ hK g4 X = 10) ∧ xF g4 X [(5, none), (3, some (X + 7)), (2, some (X + 5)), (1, some (X + 3)), (0, some (X + 1))] ∧ (hI g4 4 X = nI 0 ∧ hI g4 6 X = nM 1) ∧ (rw_ g4 (X + 1) (X + 2) 400 400 [] 0 ∧ rw_ g4 (X + 3) (X + 4) 2000 2000 [] 0 ∧ rw_ g4 (X + 5) (X + 6) 300 300 [] 0) ∧ hK g4 (X + 7) = 50 ∧ hL g4 (X + 7) = 16 := by
  obtain ⟨t1, g1, eg1, n0, e1, k1, ng1, kg1, x1, s1, u1, r1⟩ := i_pw0 (g := g) hX
  obtain ⟨t2, g2, eg2, e2, k2, ng2, kg2, x2, s2, u2, r2⟩ := i_pw1 (g := g) ng1 kg1 x1 (by simp)
  obtain ⟨t3, g3, eg3, e3, k3, ng3, kg3, x3, s3, u3, r3⟩ := i_pw2 (g := g) ng2 kg2 x2 (by simp)
  have ka4 : hK (nA g3 50 16) X = 10 := by simp [u_hN_pI, u_hU_pI, u_hK_pI, u_hL_pI, u_hR_pI, u_hJ_pI, u_hA_pI, u_hB_pI, u_hS_pI, u_hN_pR, u_hU_pR, u_hK_pR, u_hL_pR, u_hI_pR, u_hJ_pR, u_hA_pR, u_hB_pR, u_hS_pR, u_hN_pJ, u_hU_pJ, u_hK_pJ, u_hL_pJ, u_hI_pJ, u_hR_pJ, u_hA_pJ, u_hB_pJ, u_hS_pJ, u_hN_pA, u_hU_pA, u_hK_pA, u_hL_pA, u_hI_pA, u_hR_pA, u_hJ_pA, u_hB_pA, u_hS_pA, u_hN_pB, u_hU_pB, u_hK_pB, u_hL_pB, u_hI_pB, u_hR_pB, u_hJ_pB, u_hA_pB, u_hS_pB, u_hL_nO, u_hA_nO, u_hB_nO, u_hS_nO, u_hI_nA, u_hR_nA, u_hJ_nA, u_hS_nA, u_II, u_RR, u_JJ, u_AA, u_BB, u_NO, u_UO, u_KO, u_IO, u_RO, u_JO, u_NN, u_UN, u_KN, u_LN, u_AN, u_BN, ng3, kg3]
  obtain ⟨ng4, ug4, kg4, q41, q42, q43, q44⟩ := i_pf4 ng3 kg3
  have S3 : sm (fun x => x = X) g3 (pI (pR (pI (pR (nA g3 50 16) 3 X (some (X + 7))) 4 X (nI 0)) 5 X none) 6 X (nM 1)) := i_ps4
  have S2 := s3.tr S3
  have S1 := s2.tr S2
  refine ⟨_, ?_, ⟨s1.tr S1, ng4, (by rw [ug4, u3, u2, u1, pw_s3]), kg4⟩, i_px4 x3, ⟨q43, q44⟩, ⟨r1.keep S1 (pw_lt (k := 1) ng1) (pw_lt (k := 0) ng1) (pw_n X 0) (pw_n X 1), r2.keep S2 (pw_lt (k := 1) ng2) (pw_lt (k := 0) ng2) (pw_n X 2) (pw_n X 3), r3.keep S3 (pw_lt (k := 1) ng3) (pw_lt (k := 0) ng3) (pw_n X 4) (pw_n X 5)⟩, q41, q42⟩
  rw [i_pz0 n0 e1 k1, ← eg1, i_pz1 ng1 e2 k2, ← eg2, i_pz2 ng2 e3 k3, ← eg3, i_pz3 ng3 ka4]
/-- the ints and references of X are kept but one reference -/
theorem i_pwB {L : List (Nat × Option Nat)} (nX : hN h = X + 8) (kX : hK h X = 10) (xL : xF h X L) (hs : hK h (hS h 0) = 70) (hs2 : hS h 0 < X + 8) (h7 : ∀ e ∈ L, e.1 ≠ 7) (h8 : ∀ e ∈ L, e.1 ≠ 8) : ∃ g6, ev g mX10_init 69 [some (va_rf (some X))] [] h = ev g mX10_init 91 [some (va_rf (some X))] [] g6 ∧ (sm (fun x => x = X) h g6 ∧ hN g6 = X + 15 ∧ hU g6 = hU h + 2105 ∧ hK g6 X = 10) ∧ xF g6 X ((8, some (X + 11)) :: (7, some (X + 8)) :: L) ∧ (∀ k, hI g6 k X = hI h k X) ∧ (hK g6 (X + 8) = 5 ∧ hR g6 0 (X + 8) = some (X + 9)) ∧ rw_ g6 (X + 9) (X + 10) 22 22 [] 0 ∧ (hK g6 (X + 11) = 9 ∧ hR g6 0 (X + 11) = some (X + 12) ∧ hR g6 1 (X + 11) = some (X + 13) ∧ hR g6 2 (X + 11) = some (X + 14) ∧ hI g6 3 (X + 11) = nI 0 ∧ hI g6 4 (X + 11) = nI 0) ∧ (hK g6 (X + 12) = 53 ∧ hL g6 (X + 12) = 121) ∧ (hK g6 (X + 13) = 50 ∧ hL g6 (X + 13) = 1936 ∧ ∀ i, hA g6 (X + 13) i = nI 0) ∧ (hK g6 (X + 14) = 54 ∧ hL g6 (X + 14) = 16) := by
  obtain ⟨t5, e5, f5, r5, s5, n5, u5⟩ := i_reader (g := g) (h := h) (a := X + 8) nX hs hs2
  have k5 : hK t5 X = 10 := by rw [(s5.2.2 X (by omega)).1]; exact kX
  obtain ⟨g5, eg5⟩ : ∃ x, x = pR t5 7 X (some (X + 8)) := ⟨_, rfl⟩
  have sg5 : sm (fun x => x = X) t5 g5 := by rw [eg5]; exact sm.R1 _ _
  have ng5 : hN g5 = X + 11 := by rw [eg5]; exact n5
  have ug5 : hU g5 = hU t5 := by rw [eg5]; rfl
  have kg5 : hK g5 X = 10 := by rw [eg5]; exact k5
  have x5 := xF_put (k := 7) (v := some (X + 8)) (xL.kp s5 (fun z => z) (by omega)) h7
  rw [← eg5] at x5
  obtain ⟨t6, e6, f6, f6a, f6b, f6c, s6, n6, u6⟩ := i_web (g := g) (h := g5) (a := X + 11) ng5
  have k6 : hK t6 X = 10 := by rw [(s6.2.2 X (by omega)).1]; exact kg5
  obtain ⟨g6, eg6⟩ : ∃ x, x = pR t6 8 X (some (X + 11)) := ⟨_, rfl⟩
  have sg6 : sm (fun x => x = X) t6 g6 := by rw [eg6]; exact sm.R1 _ _
  have ng6 : hN g6 = X + 15 := by rw [eg6]; exact n6
  have ug6 : hU g6 = hU t6 := by rw [eg6]; rfl
  have kg6 : hK g6 X = 10 := by rw [eg6]; exact k6
  have x6 := xF_put (k := 8) (v := some (X + 11)) (x5.kp s6 (fun z => z) (by omega)) (fun e he => by
    rcases List.mem_cons.mp he with z | z
    · rw [z]; simp
    · exact h8 e z)
  rw [← eg6] at x6
  have S5 : sm (fun x => x = X) t5 g6 := (sg5.tr (smF s6)).tr sg6
  have w8 := S5.2.2 (X + 8) (by omega)
  have w11 := sg6.2.2 (X + 11) (by omega)
  have w12 := sg6.2.2 (X + 12) (by omega)
  have w13 := sg6.2.2 (X + 13) (by omega)
  have w14 := sg6.2.2 (X + 14) (by omega)
  have v8 := w8.2.2 (by omega)
  have v11 := w11.2.2 (by omega)
  have v13 := w13.2.2 (by omega)
  refine ⟨g6, ?_, ⟨(smF s5).tr S5, ng6, by omega, kg6⟩, x6, fun k => ?_, ⟨w8.1.trans f5.1, (v8.2.1 0).trans f5.2⟩, r5.keep S5 (by omega) (by omega) (by omega) (by omega), ⟨w11.1.trans f6.1, (v11.2.1 0).trans f6.2.1, (v11.2.1 1).trans f6.2.2.1, (v11.2.1 2).trans f6.2.2.2.1, (v11.1 3).trans f6.2.2.2.2.1, (v11.1 4).trans f6.2.2.2.2.2⟩, ⟨w12.1.trans f6a.1, w12.2.1.trans f6a.2⟩, ⟨w13.1.trans f6b.1, w13.2.1.trans f6b.2.1, fun i => by rw [v13.2.2.2.1]; exact f6b.2.2 i⟩, w14.1.trans f6c.1, w14.2.1.trans f6c.2⟩
  · have z4 : ev g mX10_init 69 [some (va_rf (some X))] [] h = ev g mX10_init 80 [some (va_rf (some X))] [] g5 := by
      rw [eg5]
      simp (decide := true) (disch := omega) only [e_X10_init_69, e_X10_init_70, e_X10_init_73, e_X10_init_74, e_X10_init_77, ↓reduceIte, if_true, if_false, reduceCtorEq, Nat.reduceAdd, true_and, and_true, false_and, and_false, true_or, or_true, false_or, or_false, not_true_eq_false, not_false_eq_true, Option.bind_eq_bind, Option.bind_some, psh, eq_self, l_0, l_1, l_2, l_3, l_4, l_5, l_6, l_7, l_8, l_9, l_10, l_11, l_12, l_13, l_14, l_15, l_16, l_17, l_18, l_19, l_20, l_24, l_31, l_32, l_33, l_35, l_36, l_48, l_56, l_57, l_58, l_63, l_65, l_80, l_81, l_90, l_91, l_93, l_94, l_95, l_97, l_100, l_105, l_107, l_110, l_111, l_116, l_120, l_121, l_122, l_123, l_124, l_125, l_126, l_162, l_255, l_300, l_400, l_420, l_432, l_1000, l_1400, l_1936, l_2000, l_2100, l_2400, l_24000, m_n1, m_n2, m_n3, nI_mul, nI_add, nI_sub, nI_ltT, nI_ltF, nI_leT, nI_leF, nI_eqT, nI_eqF, nI_nM, nM_nI, nM_eq, nM_lt, nM_le, nI_ltM, nI_leM, nI_inT, nI_dec, pk_rem, nI_ltI, nI_leI, nI_eq, nI_clamp, Nat.add_assoc, q_bv51, Nat.add_left_cancel_iff, nX, e5, k5]
    rw [z4, eg6]
    simp (decide := true) (disch := omega) only [e_X10_init_80, e_X10_init_81, e_X10_init_84, e_X10_init_85, e_X10_init_88, ↓reduceIte, if_true, if_false, reduceCtorEq, Nat.reduceAdd, true_and, and_true, false_and, and_false, true_or, or_true, false_or, or_false, not_true_eq_false, not_false_eq_true, Option.bind_eq_bind, Option.bind_some, psh, eq_self, l_0, l_1, l_2, l_3, l_4, l_5, l_6, l_7, l_8, l_9, l_10, l_11, l_12, l_13, l_14, l_15, l_16, l_17, l_18, l_19, l_20, l_24, l_31, l_32, l_33, l_35, l_36, l_48, l_56, l_57, l_58, l_63, l_65, l_80, l_81, l_90, l_91, l_93, l_94, l_95, l_97, l_100, l_105, l_107, l_110, l_111, l_116, l_120, l_121, l_122, l_123, l_124, l_125, l_126, l_162, l_255, l_300, l_400, l_420, l_432, l_1000, l_1400, l_1936, l_2000, l_2100, l_2400, l_24000, m_n1, m_n2, m_n3, nI_mul, nI_add, nI_sub, nI_ltT, nI_ltF, nI_leT, nI_leF, nI_eqT, nI_eqF, nI_nM, nM_nI, nM_eq, nM_lt, nM_le, nI_ltM, nI_leM, nI_inT, nI_dec, pk_rem, nI_ltI, nI_leI, nI_eq, nI_clamp, Nat.add_assoc, q_bv51, Nat.add_left_cancel_iff, ng5, e6, k6]
  · rw [eg6, u_hI_pR, ((s6.2.2 X (by omega)).2.2 (fun z => z)).1, eg5, u_hI_pR, ((s5.2.2 X (by omega)).2.2 (fun z => z)).1]
theorem i_pwC {L : List (Nat × Option Nat)} (nX : hN h = X + 15) (kX : hK h X = 10) (xL : xF h X L) (hm : (8, some (X + 11)) ∈ L) (h9 : ∀ e ∈ L, e.1 ≠ 9) (h10 : ∀ e ∈ L, e.1 ≠ 10) : ∃ g8, ev g mX10_init 91 [some (va_rf (some X))] [] h = ev g mX10_init 121 [some (va_rf (some X))] [] g8 ∧ (sm (fun x => x = X) h g8 ∧ hN g8 = X + 25 ∧ hU g8 = hU h + 2141 ∧ hK g8 X = 10) ∧ xF g8 X ((10, some (X + 23)) :: (9, some (X + 15)) :: L) ∧ (∀ k, hI g8 k X = hI h k X) ∧ (hK g8 (X + 15) = 1 ∧ hR g8 0 (X + 15) = some (X + 11) ∧ hR g8 1 (X + 15) = some (X + 16) ∧ hR g8 2 (X + 15) = some (X + 18) ∧ hR g8 3 (X + 15) = some (X + 20) ∧ hR g8 4 (X + 15) = some (X + 21) ∧ hR g8 5 (X + 15) = some (X + 22)) ∧ (rw_ g8 (X + 16) (X + 17) 2000 2000 [] 0 ∧ rw_ g8 (X + 18) (X + 19) 0 0 [] 0) ∧ (hK g8 (X + 20) = 50 ∧ hL g8 (X + 20) = 80) ∧ (hK g8 (X + 21) = 50 ∧ hL g8 (X + 21) = 8) ∧ (hK g8 (X + 22) = 51 ∧ hL g8 (X + 22) = 16) ∧ (hK g8 (X + 23) = 7 ∧ hR g8 0 (X + 23) = some (X + 11) ∧ hR g8 1 (X + 23) = some (X + 24)) ∧ (hK g8 (X + 24) = 51 ∧ hL g8 (X + 24) = 16) := by
  obtain ⟨t7, e7, f7, r7, r7b, f7a, f7b, f7c, s7, n7, u7⟩ := i_maker (g := g) (h := h) (a := X + 15) (b := X + 11) nX
  have k7 : hK t7 X = 10 := by rw [(s7.2.2 X (by omega)).1]; exact kX
  obtain ⟨g7, eg7⟩ : ∃ x, x = pR t7 9 X (some (X + 15)) := ⟨_, rfl⟩
  have sg7 : sm (fun x => x = X) t7 g7 := by rw [eg7]; exact sm.R1 _ _
  have ng7 : hN g7 = X + 23 := by rw [eg7]; exact n7
  have ug7 : hU g7 = hU t7 := by rw [eg7]; rfl
  have kg7 : hK g7 X = 10 := by rw [eg7]; exact k7
  have x7 := xF_put (k := 9) (v := some (X + 15)) (xL.kp s7 (fun z => z) (by omega)) h9
  rw [← eg7] at x7
  obtain ⟨t8, e8, f8, f8a, s8, n8, u8⟩ := i_search (g := g) (h := g7) (a := X + 23) (b := X + 11) ng7
  have k8 : hK t8 X = 10 := by rw [(s8.2.2 X (by omega)).1]; exact kg7
  obtain ⟨g8, eg8⟩ : ∃ x, x = pR t8 10 X (some (X + 23)) := ⟨_, rfl⟩
  have sg8 : sm (fun x => x = X) t8 g8 := by rw [eg8]; exact sm.R1 _ _
  have ng8 : hN g8 = X + 25 := by rw [eg8]; exact n8
  have ug8 : hU g8 = hU t8 := by rw [eg8]; rfl
  have kg8 : hK g8 X = 10 := by rw [eg8]; exact k8
  have x8 := xF_put (k := 10) (v := some (X + 23)) (x7.kp s8 (fun z => z) (by omega)) (fun e he => by
    rcases List.mem_cons.mp he with z | z
    · rw [z]; simp
    · exact h10 e z)
  rw [← eg8] at x8
  have S7 : sm (fun x => x = X) t7 g8 := (sg7.tr (smF s8)).tr sg8
  have w15 := S7.2.2 (X + 15) (by omega)
  have w20 := S7.2.2 (X + 20) (by omega)
  have w21 := S7.2.2 (X + 21) (by omega)
  have w22 := S7.2.2 (X + 22) (by omega)
  have w23 := sg8.2.2 (X + 23) (by omega)
  have w24 := sg8.2.2 (X + 24) (by omega)
  have v15 := (w15.2.2 (by omega)).2.1
  have v23 := (w23.2.2 (by omega)).2.1
  refine ⟨g8, ?_, ⟨(smF s7).tr S7, ng8, by omega, kg8⟩, x8, fun k => ?_, ⟨w15.1.trans f7.1, (v15 0).trans f7.2.1, (v15 1).trans f7.2.2.1, (v15 2).trans f7.2.2.2.1, (v15 3).trans f7.2.2.2.2.1, (v15 4).trans f7.2.2.2.2.2.1, (v15 5).trans f7.2.2.2.2.2.2⟩, ⟨r7.keep S7 (by omega) (by omega) (by omega) (by omega), r7b.keep S7 (by omega) (by omega) (by omega) (by omega)⟩, ⟨w20.1.trans f7a.1, w20.2.1.trans f7a.2⟩, ⟨w21.1.trans f7b.1, w21.2.1.trans f7b.2⟩, ⟨w22.1.trans f7c.1, w22.2.1.trans f7c.2⟩, ⟨w23.1.trans f8.1, (v23 0).trans f8.2.1, (v23 1).trans f8.2.2⟩, w24.1.trans f8a.1, w24.2.1.trans f8a.2⟩
  · have y6 : hR (nO h 1) 8 X = some (X + 11) := by
      rw [u_RO, if_neg (by omega)]
      exact xF_in xL hm
    have y6k : hK (nO h 1) X = 10 := by rw [u_KO, if_neg (by omega)]; exact kX
    have z6 : ev g mX10_init 91 [some (va_rf (some X))] [] h = ev g mX10_init 106 [some (va_rf (some X))] [] g7 := by
      rw [eg7]
      simp (decide := true) (disch := omega) only [e_X10_init_91, e_X10_init_92, e_X10_init_95, e_X10_init_96, e_X10_init_97, e_X10_init_100, e_X10_init_103, ↓reduceIte, if_true, if_false, reduceCtorEq, Nat.reduceAdd, true_and, and_true, false_and, and_false, true_or, or_true, false_or, or_false, not_true_eq_false, not_false_eq_true, Option.bind_eq_bind, Option.bind_some, psh, eq_self, l_0, l_1, l_2, l_3, l_4, l_5, l_6, l_7, l_8, l_9, l_10, l_11, l_12, l_13, l_14, l_15, l_16, l_17, l_18, l_19, l_20, l_24, l_31, l_32, l_33, l_35, l_36, l_48, l_56, l_57, l_58, l_63, l_65, l_80, l_81, l_90, l_91, l_93, l_94, l_95, l_97, l_100, l_105, l_107, l_110, l_111, l_116, l_120, l_121, l_122, l_123, l_124, l_125, l_126, l_162, l_255, l_300, l_400, l_420, l_432, l_1000, l_1400, l_1936, l_2000, l_2100, l_2400, l_24000, m_n1, m_n2, m_n3, nI_mul, nI_add, nI_sub, nI_ltT, nI_ltF, nI_leT, nI_leF, nI_eqT, nI_eqF, nI_nM, nM_nI, nM_eq, nM_lt, nM_le, nI_ltM, nI_leM, nI_inT, nI_dec, pk_rem, nI_ltI, nI_leI, nI_eq, nI_clamp, Nat.add_assoc, q_bv51, Nat.add_left_cancel_iff, nX, y6, y6k, e7, k7]
    have y7 : hR (nO g7 7) 8 X = some (X + 11) := by
      rw [u_RO, if_neg (by omega)]
      exact xF_in x7 (List.mem_cons_of_mem _ hm)
    have y7k : hK (nO g7 7) X = 10 := by rw [u_KO, if_neg (by omega)]; exact kg7
    rw [z6, eg8]
    simp (decide := true) (disch := omega) only [e_X10_init_106, e_X10_init_107, e_X10_init_110, e_X10_init_111, e_X10_init_112, e_X10_init_115, e_X10_init_118, ↓reduceIte, if_true, if_false, reduceCtorEq, Nat.reduceAdd, true_and, and_true, false_and, and_false, true_or, or_true, false_or, or_false, not_true_eq_false, not_false_eq_true, Option.bind_eq_bind, Option.bind_some, psh, eq_self, l_0, l_1, l_2, l_3, l_4, l_5, l_6, l_7, l_8, l_9, l_10, l_11, l_12, l_13, l_14, l_15, l_16, l_17, l_18, l_19, l_20, l_24, l_31, l_32, l_33, l_35, l_36, l_48, l_56, l_57, l_58, l_63, l_65, l_80, l_81, l_90, l_91, l_93, l_94, l_95, l_97, l_100, l_105, l_107, l_110, l_111, l_116, l_120, l_121, l_122, l_123, l_124, l_125, l_126, l_162, l_255, l_300, l_400, l_420, l_432, l_1000, l_1400, l_1936, l_2000, l_2100, l_2400, l_24000, m_n1, m_n2, m_n3, nI_mul, nI_add, nI_sub, nI_ltT, nI_ltF, nI_leT, nI_leF, nI_eqT, nI_eqF, nI_nM, nM_nI, nM_eq, nM_lt, nM_le, nI_ltM, nI_leM, nI_inT, nI_dec, pk_rem, nI_ltI, nI_leI, nI_eq, nI_clamp, Nat.add_assoc, q_bv51, Nat.add_left_cancel_iff, ng7, y7, y7k, e8, k8]
  · rw [eg8, u_hI_pR, ((s8.2.2 X (by omega)).2.2 (fun z => z)).1, eg7, u_hI_pR, ((s7.2.2 X (by omega)).2.2 (fun z => z)).1]
theorem i_pageweb (hX : hN h = X) (hs : hK h (hS h 0) = 70) (hs2 : hS h 0 < X) : ∃ h', cal g mX10_init [va_rf (some X)] (nO h 10) = some (none, h') ∧ sm (fun _ => False) h h' ∧ hN h' = X + 27 ∧ hU h' = hU h + 6992 ∧ c27 h' X := by
  obtain ⟨g4, z4, ⟨s4, n4, u4, k4⟩, x4, ⟨i44, i46⟩, ⟨r1, r2, r3⟩, q41, q42⟩ := i_pwA (g := g) hX
  obtain ⟨g6, z6, ⟨s6, n6, u6, k6⟩, x6, i6, f8, r5, f11, f12, f13, f14⟩ := i_pwB (g := g) (L := [(5, none), (3, some (X + 7)), (2, some (X + 5)), (1, some (X + 3)), (0, some (X + 1))]) n4 k4 x4 (by rw [s4.2.1, (s4.2.2 _ (by omega)).1]; exact hs) (by rw [s4.2.1]; omega) (by simp) (by simp)
  obtain ⟨g8, z8, ⟨s8, n8, u8, k8⟩, x8, i8, f15, ⟨r7, r7b⟩, f20, f21, f22, f23, f24⟩ := i_pwC (g := g) n6 k6 x6 List.mem_cons_self (by simp) (by simp)
  obtain ⟨t9, e9, f9, f9a, s9, n9, u9⟩ := i_list (g := g) (h := g8) (a := X + 25) n8
  have k9 : hK t9 X = 10 := by rw [(s9.2.2 X (by omega)).1]; exact k8
  have x9 := xF_put (k := 11) (v := some (X + 25)) (x8.kp s9 (fun z => z) (by omega)) (by simp)
  have sg9 : sm (fun x => x = X) t9 (pR t9 11 X (some (X + 25))) := sm.R1 _ _
  have ng9 : hN (pR t9 11 X (some (X + 25))) = X + 27 := n9
  have ug9 : hU (pR t9 11 X (some (X + 25))) = hU t9 := rfl
  have kg9 : hK (pR t9 11 X (some (X + 25))) X = 10 := k9
  have iX : ∀ k, hI (pR t9 11 X (some (X + 25))) k X = hI g4 k X := fun k => by
    rw [u_hI_pR, ((s9.2.2 X (by omega)).2.2 (fun z => z)).1, i8, i6]
  generalize hg9 : pR t9 11 X (some (X + 25)) = g9 at *
  have S8 : sm (fun x => x = X) g8 g9 := (smF s9).tr sg9
  have S6 : sm (fun x => x = X) g6 g9 := s8.tr S8
  have S4 : sm (fun x => x = X) g4 g9 := s6.tr S6
  have SA : sm (fun x => x = X) h g9 := s4.tr S4
  clear s4 s6 s8
  have lt4 : ∀ k, k < 8 → X + k < hN g4 := fun k hk => by omega
  have lt6 : ∀ k, k < 15 → X + k < hN g6 := fun k hk => by omega
  have lt8 : ∀ k, k < 25 → X + k < hN g8 := fun k hk => by omega
  have lt9 : ∀ k, k < 27 → X + k < hN t9 := fun k hk => by omega
  have ne : ∀ k, 0 < k → ¬ X + k = X := fun k hk => by omega
  have R1 := r1.keep S4 (lt4 1 (by decide)) (lt4 2 (by decide)) (ne 1 (by decide)) (ne 2 (by decide))
  have R2 := r2.keep S4 (lt4 3 (by decide)) (lt4 4 (by decide)) (ne 3 (by decide)) (ne 4 (by decide))
  have R3 := r3.keep S4 (lt4 5 (by decide)) (lt4 6 (by decide)) (ne 5 (by decide)) (ne 6 (by decide))
  have R5 := r5.keep S6 (lt6 9 (by decide)) (lt6 10 (by decide)) (ne 9 (by decide)) (ne 10 (by decide))
  have R7 := r7.keep S8 (lt8 16 (by decide)) (lt8 17 (by decide)) (ne 16 (by decide)) (ne 17 (by decide))
  have R7b := r7b.keep S8 (lt8 18 (by decide)) (lt8 19 (by decide)) (ne 18 (by decide)) (ne 19 (by decide))
  have w7 := S4.2.2 (X + 7) (lt4 7 (by decide))
  have w8 := S6.2.2 (X + 8) (lt6 8 (by decide))
  have w11 := S6.2.2 (X + 11) (lt6 11 (by decide))
  have w12 := S6.2.2 (X + 12) (lt6 12 (by decide))
  have w13 := S6.2.2 (X + 13) (lt6 13 (by decide))
  have w14 := S6.2.2 (X + 14) (lt6 14 (by decide))
  have w15 := S8.2.2 (X + 15) (lt8 15 (by decide))
  have w20 := S8.2.2 (X + 20) (lt8 20 (by decide))
  have w21 := S8.2.2 (X + 21) (lt8 21 (by decide))
  have w22 := S8.2.2 (X + 22) (lt8 22 (by decide))
  have w23 := S8.2.2 (X + 23) (lt8 23 (by decide))
  have w24 := S8.2.2 (X + 24) (lt8 24 (by decide))
  have w25 := sg9.2.2 (X + 25) (lt9 25 (by decide))
  have w26 := sg9.2.2 (X + 26) (lt9 26 (by decide))
  have v8 := (w8.2.2 (ne 8 (by decide))).2.1
  have v11 := w11.2.2 (ne 11 (by decide))
  have v13 := (w13.2.2 (ne 13 (by decide))).2.2.2.1
  have v15 := (w15.2.2 (ne 15 (by decide))).2.1
  have v23 := (w23.2.2 (ne 23 (by decide))).2.1
  have v25 := (w25.2.2 (ne 25 (by decide))).2.1
  have v26 := w26.2.2 (ne 26 (by decide))
  have hsg : hS g9 9 = hS g8 9 := by rw [S8.2.1]
  refine ⟨g9, ?_, sm_new SA (fun x hx z => by rw [z, hX] at hx; exact Nat.lt_irrefl _ hx), ng9, by rw [ug9, u9, u8, u6, u4], ⟨?_, ?_, ?_⟩, ⟨R1, R2, R3, R5, R7, R7b⟩, ⟨(iX 4).trans i44, xF_in x9 (by simp), (iX 6).trans i46, (v11.1 3).trans f11.2.2.2.2.1, (v11.1 4).trans f11.2.2.2.2.2, fun i => by rw [v13]; exact f13.2.2 i⟩, (v26.1 2).trans f9a.2.1, ?_⟩
  · rw [n_X10_init, z4, z6, z8, ← hg9]
    simp (decide := true) (disch := omega) only [e_X10_init_121, e_X10_init_122, e_X10_init_125, e_X10_init_126, e_X10_init_129, e_X10_init_132, ↓reduceIte, if_true, if_false, reduceCtorEq, Nat.reduceAdd, true_and, and_true, false_and, and_false, true_or, or_true, false_or, or_false, not_true_eq_false, not_false_eq_true, Option.bind_eq_bind, Option.bind_some, psh, eq_self, l_0, l_1, l_2, l_3, l_4, l_5, l_6, l_7, l_8, l_9, l_10, l_11, l_12, l_13, l_14, l_15, l_16, l_17, l_18, l_19, l_20, l_24, l_31, l_32, l_33, l_35, l_36, l_48, l_56, l_57, l_58, l_63, l_65, l_80, l_81, l_90, l_91, l_93, l_94, l_95, l_97, l_100, l_105, l_107, l_110, l_111, l_116, l_120, l_121, l_122, l_123, l_124, l_125, l_126, l_162, l_255, l_300, l_400, l_420, l_432, l_1000, l_1400, l_1936, l_2000, l_2100, l_2400, l_24000, m_n1, m_n2, m_n3, nI_mul, nI_add, nI_sub, nI_ltT, nI_ltF, nI_leT, nI_leF, nI_eqT, nI_eqF, nI_nM, nM_nI, nM_eq, nM_lt, nM_le, nI_ltM, nI_leM, nI_inT, nI_dec, pk_rem, nI_ltI, nI_leI, nI_eq, nI_clamp, Nat.add_assoc, q_bv51, Nat.add_left_cancel_iff, n8, e9, k9]
  · unfold ckt
    simp only [List.forall_mem_cons]
    exact ⟨kg9, R1.1.1, R2.1.1, R3.1.1, w7.1.trans q41, w8.1.trans f8.1, R5.1.1, w11.1.trans f11.1, w12.1.trans f12.1, w13.1.trans f13.1, w14.1.trans f14.1, w15.1.trans f15.1, R7.1.1, R7b.1.1, w20.1.trans f20.1, w21.1.trans f21.1, w22.1.trans f22.1, w23.1.trans f23.1, w24.1.trans f24.1, w25.1.trans f9.1, w26.1.trans f9a.1, fun x hx => absurd hx List.not_mem_nil⟩
  · unfold crt
    simp only [List.forall_mem_cons]
    exact ⟨xF_in x9 (by simp), xF_in x9 (by simp), xF_in x9 (by simp), xF_in x9 (by simp), xF_in x9 (by simp), xF_in x9 (by simp), xF_in x9 (by simp), xF_in x9 (by simp), xF_in x9 (by simp), (v8 0).trans f8.2, (v11.2.1 0).trans f11.2.1, (v11.2.1 1).trans f11.2.2.1, (v11.2.1 2).trans f11.2.2.2.1, (v15 0).trans f15.2.1, (v15 1).trans f15.2.2.1, (v15 2).trans f15.2.2.2.1, (v15 3).trans f15.2.2.2.2.1, (v15 4).trans f15.2.2.2.2.2.1, (v15 5).trans f15.2.2.2.2.2.2, (v23 0).trans f23.2.1, (v23 1).trans f23.2.2, (v25 0).trans f9.2, fun x hx => absurd hx List.not_mem_nil⟩
  · unfold clt
    simp only [List.forall_mem_cons]
    exact ⟨w7.2.1.trans q42, w12.2.1.trans f12.2, w13.2.1.trans f13.2.1, w14.2.1.trans f14.2, w20.2.1.trans f20.2, w21.2.1.trans f21.2, w22.2.1.trans f22.2, w24.2.1.trans f24.2, fun x hx => absurd hx List.not_mem_nil⟩
  · rw [v26.2.1, hsg]
    exact f9a.2.2
end
