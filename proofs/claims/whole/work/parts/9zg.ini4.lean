/-! PageWebModel's constructor (by program: wip/whole/gen7.py) -/
theorem l_48600 : (48600 : Int32) = nI 48600 := by decide
theorem l_162000 : (162000 : Int32) = nI 162000 := by decide
def mdp (h : PH) (M : Nat) (L : List (Nat × Nat × Nat × Nat)) : Prop := hK h M = 11 ∧ hN h = M + 1 + L.length ∧ ∀ e ∈ L, (hR h e.1 M = some (M + e.2.1) ∧ hK h (M + e.2.1) = e.2.2.1 ∧ hL h (M + e.2.1) = e.2.2.2 ∧ ∀ i, hA h (M + e.2.1) i = 0) ∧ e.2.1 ≤ L.length ∧ 1 ≤ e.2.1
theorem mdp_step {h : PH} {M : Nat} {L : List (Nat × Nat × Nat × Nat)} (f c n : Nat) (P : mdp h M L) (hf : ∀ e ∈ L, e.1 ≠ f) : hK (nA h c n) M = 11 ∧ mdp (pR (nA h c n) f M (some (hN h))) M ((f, L.length + 1, c, n) :: L) ∧ sm (fun x => x = M) h (pR (nA h c n) f M (some (hN h))) ∧ hU (pR (nA h c n) f M (some (hN h))) = hU h + n ∧ ∀ k, hI (pR (nA h c n) f M (some (hN h))) k M = hI h k M := by
  obtain ⟨p1, p2, p3⟩ := P
  have ka : hK (nA h c n) M = 11 := by rw [u_KN, if_neg (by omega)]; exact p1
  refine ⟨ka, ⟨ka, ?_, fun e he => ?_⟩, (sm.N _ _ _).tr (sm.R1 _ _), rfl, fun k => rfl⟩
  · show hN h + 1 = _
    rw [List.length_cons]
    omega
  · rw [List.length_cons]
    rcases List.mem_cons.mp he with z | z
    · subst z
      simp only
      refine ⟨⟨?_, ?_, ?_, fun i => ?_⟩, by omega, by omega⟩
      · rw [u_RR, if_pos rfl, if_pos rfl, p2]; congr 1; omega
      · rw [u_hK_pR, u_KN, if_pos (by omega)]
      · rw [u_hL_pR, u_LN, if_pos (by omega)]
      · rw [u_hA_pR, u_AN, if_pos (by omega)]
    · obtain ⟨⟨q1, q2, q3, q4⟩, q5, q6⟩ := p3 e z
      refine ⟨⟨?_, ?_, ?_, fun i => ?_⟩, by omega, q6⟩
      · rw [u_RR, if_neg (hf e z)]; exact q1
      · rw [u_hK_pR, u_KN, if_neg (by omega)]; exact q2
      · rw [u_hL_pR, u_LN, if_neg (by omega)]; exact q3
      · rw [u_hA_pR, u_AN, if_neg (by omega)]; exact q4 i
theorem mdp_I {h : PH} {M k : Nat} {v : Int32} {L : List (Nat × Nat × Nat × Nat)} (P : mdp h M L) : mdp (pI h k M v) M L := P
theorem addU {x a b n m k : Nat} (h1 : x = a + n) (h2 : a = b + m) (h3 : m + n = k) : x = b + k := by omega
set_option maxHeartbeats 40000000 in
theorem i_model {g M : Nat} {h : PH} (hM : hN h = M) : ∃ h', cal g mX11_init [va_rf (some M)] (nO h 11) = some (none, h') ∧ sm (fun _ => False) h h' ∧ hN h' = M + 30 ∧ hU h' = hU h + 293763 ∧ md h' M ∧ (∀ k, k ≠ 13 → hI h' k M = nI 0) ∧ hI h' 13 M = nM 1 ∧ ∀ i, hA h' (M + 17) i = nI 0 := by
  have P0 : mdp (nO h 11) M [] := ⟨by rw [u_KO, if_pos hM.symm], by rw [u_NO, hM]; rfl, fun e he => absurd he List.not_mem_nil⟩
  have s0 : sm (fun x => x = M) h (nO h 11) := sm.O _ _
  have u0 : hU (nO h 11) = hU h + 49 := by rw [u_UO, show q_nf 11 = 49 from rfl]
  have i0 : ∀ k, hI (nO h 11) k M = nI 0 := fun k => by rw [u_IO, if_pos hM.symm]; rfl
  have z0 : ev g mX11_init 0 [some (va_rf (some M))] [] (nO h 11) = ev g mX11_init 4 [some (va_rf (some M))] [] (nO h 11) := by
    simp (decide := true) (disch := omega) only [e_X11_init_0, e_X11_init_1, ↓reduceIte, if_true, if_false, reduceCtorEq, Nat.reduceAdd, true_and, and_true, false_and, and_false, true_or, or_true, false_or, or_false, not_true_eq_false, not_false_eq_true, Option.bind_eq_bind, Option.bind_some, psh, eq_self, l_0, l_1, l_2, l_3, l_4, l_5, l_6, l_7, l_8, l_9, l_10, l_11, l_12, l_13, l_14, l_15, l_16, l_17, l_18, l_19, l_20, l_24, l_31, l_32, l_33, l_35, l_36, l_48, l_56, l_57, l_58, l_63, l_65, l_80, l_81, l_90, l_91, l_93, l_94, l_95, l_97, l_100, l_105, l_107, l_110, l_111, l_116, l_120, l_121, l_122, l_123, l_124, l_125, l_126, l_162, l_255, l_300, l_400, l_420, l_432, l_1000, l_1400, l_1936, l_2000, l_2100, l_2400, l_24000, m_n1, m_n2, m_n3, nI_mul, nI_add, nI_sub, nI_ltT, nI_ltF, nI_leT, nI_leF, nI_eqT, nI_eqF, nI_nM, nM_nI, nM_eq, nM_lt, nM_le, nI_ltM, nI_leM, nI_inT, nI_dec, pk_rem, nI_ltI, nI_leI, nI_eq, nI_clamp, Nat.add_assoc, q_bv51, Nat.add_left_cancel_iff]
  obtain ⟨g0, eg0⟩ : ∃ x, x = nO h 11 := ⟨_, rfl⟩
  rw [← eg0] at P0 s0 u0 i0 z0
  obtain ⟨k1, P1', s1', u1', i1'⟩ := mdp_step 1 50 48600 P0 (by decide)
  obtain ⟨g1, eg1⟩ : ∃ x, x = pR (nA g0 50 48600) 1 M (some (hN g0)) := ⟨_, rfl⟩
  rw [← eg1] at P1' s1' u1' i1'
  have P1 : mdp g1 M [(1, 1, 50, 48600)] := P1'
  have s1 := s0.tr s1'
  have u1 : hU g1 = hU h + 48649 := addU u1' u0 (by decide)
  have i1 : ∀ k, hI g1 k M = nI 0 := fun k => by rw [i1']; exact i0 k
  have z1 : ev g mX11_init 4 [some (va_rf (some M))] [] g0 = ev g mX11_init 12 [some (va_rf (some M))] [] g1 := by
    rw [eg1]
    simp (decide := true) (disch := omega) only [e_X11_init_4, e_X11_init_5, e_X11_init_7, e_X11_init_9, ↓reduceIte, if_true, if_false, reduceCtorEq, Nat.reduceAdd, true_and, and_true, false_and, and_false, true_or, or_true, false_or, or_false, not_true_eq_false, not_false_eq_true, Option.bind_eq_bind, Option.bind_some, psh, eq_self, l_0, l_1, l_2, l_3, l_4, l_5, l_6, l_7, l_8, l_9, l_10, l_11, l_12, l_13, l_14, l_15, l_16, l_17, l_18, l_19, l_20, l_24, l_31, l_32, l_33, l_35, l_36, l_48, l_56, l_57, l_58, l_63, l_65, l_80, l_81, l_90, l_91, l_93, l_94, l_95, l_97, l_100, l_105, l_107, l_110, l_111, l_116, l_120, l_121, l_122, l_123, l_124, l_125, l_126, l_162, l_255, l_300, l_400, l_420, l_432, l_1000, l_1400, l_1936, l_2000, l_2100, l_2400, l_24000, m_n1, m_n2, m_n3, nI_mul, nI_add, nI_sub, nI_ltT, nI_ltF, nI_leT, nI_leF, nI_eqT, nI_eqF, nI_nM, nM_nI, nM_eq, nM_lt, nM_le, nI_ltM, nI_leM, nI_inT, nI_dec, pk_rem, nI_ltI, nI_leI, nI_eq, nI_clamp, Nat.add_assoc, q_bv51, Nat.add_left_cancel_iff, nb_nI, k1, l_48600, l_162000]
  obtain ⟨k2, P2', s2', u2', i2'⟩ := mdp_step 2 50 48600 P1 (by decide)
  obtain ⟨g2, eg2⟩ : ∃ x, x = pR (nA g1 50 48600) 2 M (some (hN g1)) := ⟨_, rfl⟩
  rw [← eg2] at P2' s2' u2' i2'
  have P2 : mdp g2 M [(2, 2, 50, 48600), (1, 1, 50, 48600)] := P2'
  have s2 := s1.tr s2'
  have u2 : hU g2 = hU h + 97249 := addU u2' u1 (by decide)
  have i2 : ∀ k, hI g2 k M = nI 0 := fun k => by rw [i2']; exact i1 k
  have z2 : ev g mX11_init 12 [some (va_rf (some M))] [] g1 = ev g mX11_init 20 [some (va_rf (some M))] [] g2 := by
    rw [eg2]
    simp (decide := true) (disch := omega) only [e_X11_init_12, e_X11_init_13, e_X11_init_15, e_X11_init_17, ↓reduceIte, if_true, if_false, reduceCtorEq, Nat.reduceAdd, true_and, and_true, false_and, and_false, true_or, or_true, false_or, or_false, not_true_eq_false, not_false_eq_true, Option.bind_eq_bind, Option.bind_some, psh, eq_self, l_0, l_1, l_2, l_3, l_4, l_5, l_6, l_7, l_8, l_9, l_10, l_11, l_12, l_13, l_14, l_15, l_16, l_17, l_18, l_19, l_20, l_24, l_31, l_32, l_33, l_35, l_36, l_48, l_56, l_57, l_58, l_63, l_65, l_80, l_81, l_90, l_91, l_93, l_94, l_95, l_97, l_100, l_105, l_107, l_110, l_111, l_116, l_120, l_121, l_122, l_123, l_124, l_125, l_126, l_162, l_255, l_300, l_400, l_420, l_432, l_1000, l_1400, l_1936, l_2000, l_2100, l_2400, l_24000, m_n1, m_n2, m_n3, nI_mul, nI_add, nI_sub, nI_ltT, nI_ltF, nI_leT, nI_leF, nI_eqT, nI_eqF, nI_nM, nM_nI, nM_eq, nM_lt, nM_le, nI_ltM, nI_leM, nI_inT, nI_dec, pk_rem, nI_ltI, nI_leI, nI_eq, nI_clamp, Nat.add_assoc, q_bv51, Nat.add_left_cancel_iff, nb_nI, k2, l_48600, l_162000]
  obtain ⟨k3, P3', s3', u3', i3'⟩ := mdp_step 3 50 162 P2 (by decide)
  obtain ⟨g3, eg3⟩ : ∃ x, x = pR (nA g2 50 162) 3 M (some (hN g2)) := ⟨_, rfl⟩
  rw [← eg3] at P3' s3' u3' i3'
  have P3 : mdp g3 M [(3, 3, 50, 162), (2, 2, 50, 48600), (1, 1, 50, 48600)] := P3'
  have s3 := s2.tr s3'
  have u3 : hU g3 = hU h + 97411 := addU u3' u2 (by decide)
  have i3 : ∀ k, hI g3 k M = nI 0 := fun k => by rw [i3']; exact i2 k
  have z3 : ev g mX11_init 20 [some (va_rf (some M))] [] g2 = ev g mX11_init 29 [some (va_rf (some M))] [] g3 := by
    rw [eg3]
    simp (decide := true) (disch := omega) only [e_X11_init_20, e_X11_init_21, e_X11_init_24, e_X11_init_26, ↓reduceIte, if_true, if_false, reduceCtorEq, Nat.reduceAdd, true_and, and_true, false_and, and_false, true_or, or_true, false_or, or_false, not_true_eq_false, not_false_eq_true, Option.bind_eq_bind, Option.bind_some, psh, eq_self, l_0, l_1, l_2, l_3, l_4, l_5, l_6, l_7, l_8, l_9, l_10, l_11, l_12, l_13, l_14, l_15, l_16, l_17, l_18, l_19, l_20, l_24, l_31, l_32, l_33, l_35, l_36, l_48, l_56, l_57, l_58, l_63, l_65, l_80, l_81, l_90, l_91, l_93, l_94, l_95, l_97, l_100, l_105, l_107, l_110, l_111, l_116, l_120, l_121, l_122, l_123, l_124, l_125, l_126, l_162, l_255, l_300, l_400, l_420, l_432, l_1000, l_1400, l_1936, l_2000, l_2100, l_2400, l_24000, m_n1, m_n2, m_n3, nI_mul, nI_add, nI_sub, nI_ltT, nI_ltF, nI_leT, nI_leF, nI_eqT, nI_eqF, nI_nM, nM_nI, nM_eq, nM_lt, nM_le, nI_ltM, nI_leM, nI_inT, nI_dec, pk_rem, nI_ltI, nI_leI, nI_eq, nI_clamp, Nat.add_assoc, q_bv51, Nat.add_left_cancel_iff, nb_nI, k3, l_48600, l_162000]
  obtain ⟨k4, P4', s4', u4', i4'⟩ := mdp_step 4 51 162 P3 (by decide)
  obtain ⟨g4, eg4⟩ : ∃ x, x = pR (nA g3 51 162) 4 M (some (hN g3)) := ⟨_, rfl⟩
  rw [← eg4] at P4' s4' u4' i4'
  have P4 : mdp g4 M [(4, 4, 51, 162), (3, 3, 50, 162), (2, 2, 50, 48600), (1, 1, 50, 48600)] := P4'
  have s4 := s3.tr s4'
  have u4 : hU g4 = hU h + 97573 := addU u4' u3 (by decide)
  have i4 : ∀ k, hI g4 k M = nI 0 := fun k => by rw [i4']; exact i3 k
  have z4 : ev g mX11_init 29 [some (va_rf (some M))] [] g3 = ev g mX11_init 38 [some (va_rf (some M))] [] g4 := by
    rw [eg4]
    simp (decide := true) (disch := omega) only [e_X11_init_29, e_X11_init_30, e_X11_init_33, e_X11_init_35, ↓reduceIte, if_true, if_false, reduceCtorEq, Nat.reduceAdd, true_and, and_true, false_and, and_false, true_or, or_true, false_or, or_false, not_true_eq_false, not_false_eq_true, Option.bind_eq_bind, Option.bind_some, psh, eq_self, l_0, l_1, l_2, l_3, l_4, l_5, l_6, l_7, l_8, l_9, l_10, l_11, l_12, l_13, l_14, l_15, l_16, l_17, l_18, l_19, l_20, l_24, l_31, l_32, l_33, l_35, l_36, l_48, l_56, l_57, l_58, l_63, l_65, l_80, l_81, l_90, l_91, l_93, l_94, l_95, l_97, l_100, l_105, l_107, l_110, l_111, l_116, l_120, l_121, l_122, l_123, l_124, l_125, l_126, l_162, l_255, l_300, l_400, l_420, l_432, l_1000, l_1400, l_1936, l_2000, l_2100, l_2400, l_24000, m_n1, m_n2, m_n3, nI_mul, nI_add, nI_sub, nI_ltT, nI_ltF, nI_leT, nI_leF, nI_eqT, nI_eqF, nI_nM, nM_nI, nM_eq, nM_lt, nM_le, nI_ltM, nI_leM, nI_inT, nI_dec, pk_rem, nI_ltI, nI_leI, nI_eq, nI_clamp, Nat.add_assoc, q_bv51, Nat.add_left_cancel_iff, nb_nI, k4, l_48600, l_162000]
  obtain ⟨k5, P5', s5', u5', i5'⟩ := mdp_step 5 50 162 P4 (by decide)
  obtain ⟨g5, eg5⟩ : ∃ x, x = pR (nA g4 50 162) 5 M (some (hN g4)) := ⟨_, rfl⟩
  rw [← eg5] at P5' s5' u5' i5'
  have P5 : mdp g5 M [(5, 5, 50, 162), (4, 4, 51, 162), (3, 3, 50, 162), (2, 2, 50, 48600), (1, 1, 50, 48600)] := P5'
  have s5 := s4.tr s5'
  have u5 : hU g5 = hU h + 97735 := addU u5' u4 (by decide)
  have i5 : ∀ k, hI g5 k M = nI 0 := fun k => by rw [i5']; exact i4 k
  have z5 : ev g mX11_init 38 [some (va_rf (some M))] [] g4 = ev g mX11_init 47 [some (va_rf (some M))] [] g5 := by
    rw [eg5]
    simp (decide := true) (disch := omega) only [e_X11_init_38, e_X11_init_39, e_X11_init_42, e_X11_init_44, ↓reduceIte, if_true, if_false, reduceCtorEq, Nat.reduceAdd, true_and, and_true, false_and, and_false, true_or, or_true, false_or, or_false, not_true_eq_false, not_false_eq_true, Option.bind_eq_bind, Option.bind_some, psh, eq_self, l_0, l_1, l_2, l_3, l_4, l_5, l_6, l_7, l_8, l_9, l_10, l_11, l_12, l_13, l_14, l_15, l_16, l_17, l_18, l_19, l_20, l_24, l_31, l_32, l_33, l_35, l_36, l_48, l_56, l_57, l_58, l_63, l_65, l_80, l_81, l_90, l_91, l_93, l_94, l_95, l_97, l_100, l_105, l_107, l_110, l_111, l_116, l_120, l_121, l_122, l_123, l_124, l_125, l_126, l_162, l_255, l_300, l_400, l_420, l_432, l_1000, l_1400, l_1936, l_2000, l_2100, l_2400, l_24000, m_n1, m_n2, m_n3, nI_mul, nI_add, nI_sub, nI_ltT, nI_ltF, nI_leT, nI_leF, nI_eqT, nI_eqF, nI_nM, nM_nI, nM_eq, nM_lt, nM_le, nI_ltM, nI_leM, nI_inT, nI_dec, pk_rem, nI_ltI, nI_leI, nI_eq, nI_clamp, Nat.add_assoc, q_bv51, Nat.add_left_cancel_iff, nb_nI, k5, l_48600, l_162000]
  obtain ⟨k6, P6', s6', u6', i6'⟩ := mdp_step 6 50 162 P5 (by decide)
  obtain ⟨g6, eg6⟩ : ∃ x, x = pR (nA g5 50 162) 6 M (some (hN g5)) := ⟨_, rfl⟩
  rw [← eg6] at P6' s6' u6' i6'
  have P6 : mdp g6 M [(6, 6, 50, 162), (5, 5, 50, 162), (4, 4, 51, 162), (3, 3, 50, 162), (2, 2, 50, 48600), (1, 1, 50, 48600)] := P6'
  have s6 := s5.tr s6'
  have u6 : hU g6 = hU h + 97897 := addU u6' u5 (by decide)
  have i6 : ∀ k, hI g6 k M = nI 0 := fun k => by rw [i6']; exact i5 k
  have z6 : ev g mX11_init 47 [some (va_rf (some M))] [] g5 = ev g mX11_init 56 [some (va_rf (some M))] [] g6 := by
    rw [eg6]
    simp (decide := true) (disch := omega) only [e_X11_init_47, e_X11_init_48, e_X11_init_51, e_X11_init_53, ↓reduceIte, if_true, if_false, reduceCtorEq, Nat.reduceAdd, true_and, and_true, false_and, and_false, true_or, or_true, false_or, or_false, not_true_eq_false, not_false_eq_true, Option.bind_eq_bind, Option.bind_some, psh, eq_self, l_0, l_1, l_2, l_3, l_4, l_5, l_6, l_7, l_8, l_9, l_10, l_11, l_12, l_13, l_14, l_15, l_16, l_17, l_18, l_19, l_20, l_24, l_31, l_32, l_33, l_35, l_36, l_48, l_56, l_57, l_58, l_63, l_65, l_80, l_81, l_90, l_91, l_93, l_94, l_95, l_97, l_100, l_105, l_107, l_110, l_111, l_116, l_120, l_121, l_122, l_123, l_124, l_125, l_126, l_162, l_255, l_300, l_400, l_420, l_432, l_1000, l_1400, l_1936, l_2000, l_2100, l_2400, l_24000, m_n1, m_n2, m_n3, nI_mul, nI_add, nI_sub, nI_ltT, nI_ltF, nI_leT, nI_leF, nI_eqT, nI_eqF, nI_nM, nM_nI, nM_eq, nM_lt, nM_le, nI_ltM, nI_leM, nI_inT, nI_dec, pk_rem, nI_ltI, nI_leI, nI_eq, nI_clamp, Nat.add_assoc, q_bv51, Nat.add_left_cancel_iff, nb_nI, k6, l_48600, l_162000]
  obtain ⟨k7, P7', s7', u7', i7'⟩ := mdp_step 7 50 162 P6 (by decide)
  obtain ⟨g7, eg7⟩ : ∃ x, x = pR (nA g6 50 162) 7 M (some (hN g6)) := ⟨_, rfl⟩
  rw [← eg7] at P7' s7' u7' i7'
  have P7 : mdp g7 M [(7, 7, 50, 162), (6, 6, 50, 162), (5, 5, 50, 162), (4, 4, 51, 162), (3, 3, 50, 162), (2, 2, 50, 48600), (1, 1, 50, 48600)] := P7'
  have s7 := s6.tr s7'
  have u7 : hU g7 = hU h + 98059 := addU u7' u6 (by decide)
  have i7 : ∀ k, hI g7 k M = nI 0 := fun k => by rw [i7']; exact i6 k
  have z7 : ev g mX11_init 56 [some (va_rf (some M))] [] g6 = ev g mX11_init 65 [some (va_rf (some M))] [] g7 := by
    rw [eg7]
    simp (decide := true) (disch := omega) only [e_X11_init_56, e_X11_init_57, e_X11_init_60, e_X11_init_62, ↓reduceIte, if_true, if_false, reduceCtorEq, Nat.reduceAdd, true_and, and_true, false_and, and_false, true_or, or_true, false_or, or_false, not_true_eq_false, not_false_eq_true, Option.bind_eq_bind, Option.bind_some, psh, eq_self, l_0, l_1, l_2, l_3, l_4, l_5, l_6, l_7, l_8, l_9, l_10, l_11, l_12, l_13, l_14, l_15, l_16, l_17, l_18, l_19, l_20, l_24, l_31, l_32, l_33, l_35, l_36, l_48, l_56, l_57, l_58, l_63, l_65, l_80, l_81, l_90, l_91, l_93, l_94, l_95, l_97, l_100, l_105, l_107, l_110, l_111, l_116, l_120, l_121, l_122, l_123, l_124, l_125, l_126, l_162, l_255, l_300, l_400, l_420, l_432, l_1000, l_1400, l_1936, l_2000, l_2100, l_2400, l_24000, m_n1, m_n2, m_n3, nI_mul, nI_add, nI_sub, nI_ltT, nI_ltF, nI_leT, nI_leF, nI_eqT, nI_eqF, nI_nM, nM_nI, nM_eq, nM_lt, nM_le, nI_ltM, nI_leM, nI_inT, nI_dec, pk_rem, nI_ltI, nI_leI, nI_eq, nI_clamp, Nat.add_assoc, q_bv51, Nat.add_left_cancel_iff, nb_nI, k7, l_48600, l_162000]
  obtain ⟨k8, P8', s8', u8', i8'⟩ := mdp_step 8 50 162 P7 (by decide)
  obtain ⟨g8, eg8⟩ : ∃ x, x = pR (nA g7 50 162) 8 M (some (hN g7)) := ⟨_, rfl⟩
  rw [← eg8] at P8' s8' u8' i8'
  have P8 : mdp g8 M [(8, 8, 50, 162), (7, 7, 50, 162), (6, 6, 50, 162), (5, 5, 50, 162), (4, 4, 51, 162), (3, 3, 50, 162), (2, 2, 50, 48600), (1, 1, 50, 48600)] := P8'
  have s8 := s7.tr s8'
  have u8 : hU g8 = hU h + 98221 := addU u8' u7 (by decide)
  have i8 : ∀ k, hI g8 k M = nI 0 := fun k => by rw [i8']; exact i7 k
  have z8 : ev g mX11_init 65 [some (va_rf (some M))] [] g7 = ev g mX11_init 74 [some (va_rf (some M))] [] g8 := by
    rw [eg8]
    simp (decide := true) (disch := omega) only [e_X11_init_65, e_X11_init_66, e_X11_init_69, e_X11_init_71, ↓reduceIte, if_true, if_false, reduceCtorEq, Nat.reduceAdd, true_and, and_true, false_and, and_false, true_or, or_true, false_or, or_false, not_true_eq_false, not_false_eq_true, Option.bind_eq_bind, Option.bind_some, psh, eq_self, l_0, l_1, l_2, l_3, l_4, l_5, l_6, l_7, l_8, l_9, l_10, l_11, l_12, l_13, l_14, l_15, l_16, l_17, l_18, l_19, l_20, l_24, l_31, l_32, l_33, l_35, l_36, l_48, l_56, l_57, l_58, l_63, l_65, l_80, l_81, l_90, l_91, l_93, l_94, l_95, l_97, l_100, l_105, l_107, l_110, l_111, l_116, l_120, l_121, l_122, l_123, l_124, l_125, l_126, l_162, l_255, l_300, l_400, l_420, l_432, l_1000, l_1400, l_1936, l_2000, l_2100, l_2400, l_24000, m_n1, m_n2, m_n3, nI_mul, nI_add, nI_sub, nI_ltT, nI_ltF, nI_leT, nI_leF, nI_eqT, nI_eqF, nI_nM, nM_nI, nM_eq, nM_lt, nM_le, nI_ltM, nI_leM, nI_inT, nI_dec, pk_rem, nI_ltI, nI_leI, nI_eq, nI_clamp, Nat.add_assoc, q_bv51, Nat.add_left_cancel_iff, nb_nI, k8, l_48600, l_162000]
  obtain ⟨k9, P9', s9', u9', i9'⟩ := mdp_step 9 50 162 P8 (by decide)
  obtain ⟨g9, eg9⟩ : ∃ x, x = pR (nA g8 50 162) 9 M (some (hN g8)) := ⟨_, rfl⟩
  rw [← eg9] at P9' s9' u9' i9'
  have P9 : mdp g9 M [(9, 9, 50, 162), (8, 8, 50, 162), (7, 7, 50, 162), (6, 6, 50, 162), (5, 5, 50, 162), (4, 4, 51, 162), (3, 3, 50, 162), (2, 2, 50, 48600), (1, 1, 50, 48600)] := P9'
  have s9 := s8.tr s9'
  have u9 : hU g9 = hU h + 98383 := addU u9' u8 (by decide)
  have i9 : ∀ k, hI g9 k M = nI 0 := fun k => by rw [i9']; exact i8 k
  have z9 : ev g mX11_init 74 [some (va_rf (some M))] [] g8 = ev g mX11_init 83 [some (va_rf (some M))] [] g9 := by
    rw [eg9]
    simp (decide := true) (disch := omega) only [e_X11_init_74, e_X11_init_75, e_X11_init_78, e_X11_init_80, ↓reduceIte, if_true, if_false, reduceCtorEq, Nat.reduceAdd, true_and, and_true, false_and, and_false, true_or, or_true, false_or, or_false, not_true_eq_false, not_false_eq_true, Option.bind_eq_bind, Option.bind_some, psh, eq_self, l_0, l_1, l_2, l_3, l_4, l_5, l_6, l_7, l_8, l_9, l_10, l_11, l_12, l_13, l_14, l_15, l_16, l_17, l_18, l_19, l_20, l_24, l_31, l_32, l_33, l_35, l_36, l_48, l_56, l_57, l_58, l_63, l_65, l_80, l_81, l_90, l_91, l_93, l_94, l_95, l_97, l_100, l_105, l_107, l_110, l_111, l_116, l_120, l_121, l_122, l_123, l_124, l_125, l_126, l_162, l_255, l_300, l_400, l_420, l_432, l_1000, l_1400, l_1936, l_2000, l_2100, l_2400, l_24000, m_n1, m_n2, m_n3, nI_mul, nI_add, nI_sub, nI_ltT, nI_ltF, nI_leT, nI_leF, nI_eqT, nI_eqF, nI_nM, nM_nI, nM_eq, nM_lt, nM_le, nI_ltM, nI_leM, nI_inT, nI_dec, pk_rem, nI_ltI, nI_leI, nI_eq, nI_clamp, Nat.add_assoc, q_bv51, Nat.add_left_cancel_iff, nb_nI, k9, l_48600, l_162000]
  obtain ⟨k10, P10', s10', u10', i10'⟩ := mdp_step 11 50 432 P9 (by decide)
  obtain ⟨g10, eg10⟩ : ∃ x, x = pR (nA g9 50 432) 11 M (some (hN g9)) := ⟨_, rfl⟩
  rw [← eg10] at P10' s10' u10' i10'
  have P10 : mdp g10 M [(11, 10, 50, 432), (9, 9, 50, 162), (8, 8, 50, 162), (7, 7, 50, 162), (6, 6, 50, 162), (5, 5, 50, 162), (4, 4, 51, 162), (3, 3, 50, 162), (2, 2, 50, 48600), (1, 1, 50, 48600)] := P10'
  have s10 := s9.tr s10'
  have u10 : hU g10 = hU h + 98815 := addU u10' u9 (by decide)
  have i10 : ∀ k, hI g10 k M = nI 0 := fun k => by rw [i10']; exact i9 k
  have z10 : ev g mX11_init 83 [some (va_rf (some M))] [] g9 = ev g mX11_init 92 [some (va_rf (some M))] [] g10 := by
    rw [eg10]
    simp (decide := true) (disch := omega) only [e_X11_init_83, e_X11_init_84, e_X11_init_87, e_X11_init_89, ↓reduceIte, if_true, if_false, reduceCtorEq, Nat.reduceAdd, true_and, and_true, false_and, and_false, true_or, or_true, false_or, or_false, not_true_eq_false, not_false_eq_true, Option.bind_eq_bind, Option.bind_some, psh, eq_self, l_0, l_1, l_2, l_3, l_4, l_5, l_6, l_7, l_8, l_9, l_10, l_11, l_12, l_13, l_14, l_15, l_16, l_17, l_18, l_19, l_20, l_24, l_31, l_32, l_33, l_35, l_36, l_48, l_56, l_57, l_58, l_63, l_65, l_80, l_81, l_90, l_91, l_93, l_94, l_95, l_97, l_100, l_105, l_107, l_110, l_111, l_116, l_120, l_121, l_122, l_123, l_124, l_125, l_126, l_162, l_255, l_300, l_400, l_420, l_432, l_1000, l_1400, l_1936, l_2000, l_2100, l_2400, l_24000, m_n1, m_n2, m_n3, nI_mul, nI_add, nI_sub, nI_ltT, nI_ltF, nI_leT, nI_leF, nI_eqT, nI_eqF, nI_nM, nM_nI, nM_eq, nM_lt, nM_le, nI_ltM, nI_leM, nI_inT, nI_dec, pk_rem, nI_ltI, nI_leI, nI_eq, nI_clamp, Nat.add_assoc, q_bv51, Nat.add_left_cancel_iff, nb_nI, k10, l_48600, l_162000]
  obtain ⟨k11, P11', s11', u11', i11'⟩ := mdp_step 12 50 18 P10 (by decide)
  obtain ⟨g11, eg11⟩ : ∃ x, x = pR (nA g10 50 18) 12 M (some (hN g10)) := ⟨_, rfl⟩
  rw [← eg11] at P11' s11' u11' i11'
  have P11 : mdp g11 M [(12, 11, 50, 18), (11, 10, 50, 432), (9, 9, 50, 162), (8, 8, 50, 162), (7, 7, 50, 162), (6, 6, 50, 162), (5, 5, 50, 162), (4, 4, 51, 162), (3, 3, 50, 162), (2, 2, 50, 48600), (1, 1, 50, 48600)] := P11'
  have s11 := s10.tr s11'
  have u11 : hU g11 = hU h + 98833 := addU u11' u10 (by decide)
  have i11 : ∀ k, hI g11 k M = nI 0 := fun k => by rw [i11']; exact i10 k
  have z11 : ev g mX11_init 92 [some (va_rf (some M))] [] g10 = ev g mX11_init 100 [some (va_rf (some M))] [] g11 := by
    rw [eg11]
    simp (decide := true) (disch := omega) only [e_X11_init_92, e_X11_init_93, e_X11_init_95, e_X11_init_97, ↓reduceIte, if_true, if_false, reduceCtorEq, Nat.reduceAdd, true_and, and_true, false_and, and_false, true_or, or_true, false_or, or_false, not_true_eq_false, not_false_eq_true, Option.bind_eq_bind, Option.bind_some, psh, eq_self, l_0, l_1, l_2, l_3, l_4, l_5, l_6, l_7, l_8, l_9, l_10, l_11, l_12, l_13, l_14, l_15, l_16, l_17, l_18, l_19, l_20, l_24, l_31, l_32, l_33, l_35, l_36, l_48, l_56, l_57, l_58, l_63, l_65, l_80, l_81, l_90, l_91, l_93, l_94, l_95, l_97, l_100, l_105, l_107, l_110, l_111, l_116, l_120, l_121, l_122, l_123, l_124, l_125, l_126, l_162, l_255, l_300, l_400, l_420, l_432, l_1000, l_1400, l_1936, l_2000, l_2100, l_2400, l_24000, m_n1, m_n2, m_n3, nI_mul, nI_add, nI_sub, nI_ltT, nI_ltF, nI_leT, nI_leF, nI_eqT, nI_eqF, nI_nM, nM_nI, nM_eq, nM_lt, nM_le, nI_ltM, nI_leM, nI_inT, nI_dec, pk_rem, nI_ltI, nI_leI, nI_eq, nI_clamp, Nat.add_assoc, q_bv51, Nat.add_left_cancel_iff, nb_nI, k11, l_48600, l_162000]
  obtain ⟨g12, eg12⟩ : ∃ x, x = pI g11 13 M (nM 1) := ⟨_, rfl⟩
  have P12 : mdp g12 M [(12, 11, 50, 18), (11, 10, 50, 432), (9, 9, 50, 162), (8, 8, 50, 162), (7, 7, 50, 162), (6, 6, 50, 162), (5, 5, 50, 162), (4, 4, 51, 162), (3, 3, 50, 162), (2, 2, 50, 48600), (1, 1, 50, 48600)] := by rw [eg12]; exact mdp_I P11
  have s12 : sm (fun x => x = M) h g12 := by rw [eg12]; exact s11.tr (sm.I1 _ _)
  have u12 : hU g12 = hU h + 98833 := by rw [eg12]; exact u11
  have i12 : (∀ k, k ≠ 13 → hI g12 k M = nI 0) ∧ hI g12 13 M = nM 1 := by rw [eg12]; exact ⟨fun k hk => by rw [u_II, if_neg hk]; exact i11 k, by rw [u_II, if_pos rfl, if_pos rfl]⟩
  have k12 := P11.1
  have z12 : ev g mX11_init 100 [some (va_rf (some M))] [] g11 = ev g mX11_init 105 [some (va_rf (some M))] [] g12 := by
    rw [eg12]
    simp (decide := true) (disch := omega) only [e_X11_init_100, e_X11_init_101, e_X11_init_102, ↓reduceIte, if_true, if_false, reduceCtorEq, Nat.reduceAdd, true_and, and_true, false_and, and_false, true_or, or_true, false_or, or_false, not_true_eq_false, not_false_eq_true, Option.bind_eq_bind, Option.bind_some, psh, eq_self, l_0, l_1, l_2, l_3, l_4, l_5, l_6, l_7, l_8, l_9, l_10, l_11, l_12, l_13, l_14, l_15, l_16, l_17, l_18, l_19, l_20, l_24, l_31, l_32, l_33, l_35, l_36, l_48, l_56, l_57, l_58, l_63, l_65, l_80, l_81, l_90, l_91, l_93, l_94, l_95, l_97, l_100, l_105, l_107, l_110, l_111, l_116, l_120, l_121, l_122, l_123, l_124, l_125, l_126, l_162, l_255, l_300, l_400, l_420, l_432, l_1000, l_1400, l_1936, l_2000, l_2100, l_2400, l_24000, m_n1, m_n2, m_n3, nI_mul, nI_add, nI_sub, nI_ltT, nI_ltF, nI_leT, nI_leF, nI_eqT, nI_eqF, nI_nM, nM_nI, nM_eq, nM_lt, nM_le, nI_ltM, nI_leM, nI_inT, nI_dec, pk_rem, nI_ltI, nI_leI, nI_eq, nI_clamp, Nat.add_assoc, q_bv51, Nat.add_left_cancel_iff, k12]
  obtain ⟨k13, P13', s13', u13', i13'⟩ := mdp_step 14 50 400 P12 (by decide)
  obtain ⟨g13, eg13⟩ : ∃ x, x = pR (nA g12 50 400) 14 M (some (hN g12)) := ⟨_, rfl⟩
  rw [← eg13] at P13' s13' u13' i13'
  have P13 : mdp g13 M [(14, 12, 50, 400), (12, 11, 50, 18), (11, 10, 50, 432), (9, 9, 50, 162), (8, 8, 50, 162), (7, 7, 50, 162), (6, 6, 50, 162), (5, 5, 50, 162), (4, 4, 51, 162), (3, 3, 50, 162), (2, 2, 50, 48600), (1, 1, 50, 48600)] := P13'
  have s13 := s12.tr s13'
  have u13 : hU g13 = hU h + 99233 := addU u13' u12 (by decide)
  have i13 : (∀ k, k ≠ 13 → hI g13 k M = nI 0) ∧ hI g13 13 M = nM 1 := ⟨fun k hk => by rw [i13']; exact i12.1 k hk, by rw [i13']; exact i12.2⟩
  have z13 : ev g mX11_init 105 [some (va_rf (some M))] [] g12 = ev g mX11_init 114 [some (va_rf (some M))] [] g13 := by
    rw [eg13]
    simp (decide := true) (disch := omega) only [e_X11_init_105, e_X11_init_106, e_X11_init_109, e_X11_init_111, ↓reduceIte, if_true, if_false, reduceCtorEq, Nat.reduceAdd, true_and, and_true, false_and, and_false, true_or, or_true, false_or, or_false, not_true_eq_false, not_false_eq_true, Option.bind_eq_bind, Option.bind_some, psh, eq_self, l_0, l_1, l_2, l_3, l_4, l_5, l_6, l_7, l_8, l_9, l_10, l_11, l_12, l_13, l_14, l_15, l_16, l_17, l_18, l_19, l_20, l_24, l_31, l_32, l_33, l_35, l_36, l_48, l_56, l_57, l_58, l_63, l_65, l_80, l_81, l_90, l_91, l_93, l_94, l_95, l_97, l_100, l_105, l_107, l_110, l_111, l_116, l_120, l_121, l_122, l_123, l_124, l_125, l_126, l_162, l_255, l_300, l_400, l_420, l_432, l_1000, l_1400, l_1936, l_2000, l_2100, l_2400, l_24000, m_n1, m_n2, m_n3, nI_mul, nI_add, nI_sub, nI_ltT, nI_ltF, nI_leT, nI_leF, nI_eqT, nI_eqF, nI_nM, nM_nI, nM_eq, nM_lt, nM_le, nI_ltM, nI_leM, nI_inT, nI_dec, pk_rem, nI_ltI, nI_leI, nI_eq, nI_clamp, Nat.add_assoc, q_bv51, Nat.add_left_cancel_iff, nb_nI, k13, l_48600, l_162000]
  obtain ⟨k14, P14', s14', u14', i14'⟩ := mdp_step 16 50 2400 P13 (by decide)
  obtain ⟨g14, eg14⟩ : ∃ x, x = pR (nA g13 50 2400) 16 M (some (hN g13)) := ⟨_, rfl⟩
  rw [← eg14] at P14' s14' u14' i14'
  have P14 : mdp g14 M [(16, 13, 50, 2400), (14, 12, 50, 400), (12, 11, 50, 18), (11, 10, 50, 432), (9, 9, 50, 162), (8, 8, 50, 162), (7, 7, 50, 162), (6, 6, 50, 162), (5, 5, 50, 162), (4, 4, 51, 162), (3, 3, 50, 162), (2, 2, 50, 48600), (1, 1, 50, 48600)] := P14'
  have s14 := s13.tr s14'
  have u14 : hU g14 = hU h + 101633 := addU u14' u13 (by decide)
  have i14 : (∀ k, k ≠ 13 → hI g14 k M = nI 0) ∧ hI g14 13 M = nM 1 := ⟨fun k hk => by rw [i14']; exact i13.1 k hk, by rw [i14']; exact i13.2⟩
  have z14 : ev g mX11_init 114 [some (va_rf (some M))] [] g13 = ev g mX11_init 123 [some (va_rf (some M))] [] g14 := by
    rw [eg14]
    simp (decide := true) (disch := omega) only [e_X11_init_114, e_X11_init_115, e_X11_init_118, e_X11_init_120, ↓reduceIte, if_true, if_false, reduceCtorEq, Nat.reduceAdd, true_and, and_true, false_and, and_false, true_or, or_true, false_or, or_false, not_true_eq_false, not_false_eq_true, Option.bind_eq_bind, Option.bind_some, psh, eq_self, l_0, l_1, l_2, l_3, l_4, l_5, l_6, l_7, l_8, l_9, l_10, l_11, l_12, l_13, l_14, l_15, l_16, l_17, l_18, l_19, l_20, l_24, l_31, l_32, l_33, l_35, l_36, l_48, l_56, l_57, l_58, l_63, l_65, l_80, l_81, l_90, l_91, l_93, l_94, l_95, l_97, l_100, l_105, l_107, l_110, l_111, l_116, l_120, l_121, l_122, l_123, l_124, l_125, l_126, l_162, l_255, l_300, l_400, l_420, l_432, l_1000, l_1400, l_1936, l_2000, l_2100, l_2400, l_24000, m_n1, m_n2, m_n3, nI_mul, nI_add, nI_sub, nI_ltT, nI_ltF, nI_leT, nI_leF, nI_eqT, nI_eqF, nI_nM, nM_nI, nM_eq, nM_lt, nM_le, nI_ltM, nI_leM, nI_inT, nI_dec, pk_rem, nI_ltI, nI_leI, nI_eq, nI_clamp, Nat.add_assoc, q_bv51, Nat.add_left_cancel_iff, nb_nI, k14, l_48600, l_162000]
  obtain ⟨k15, P15', s15', u15', i15'⟩ := mdp_step 18 50 420 P14 (by decide)
  obtain ⟨g15, eg15⟩ : ∃ x, x = pR (nA g14 50 420) 18 M (some (hN g14)) := ⟨_, rfl⟩
  rw [← eg15] at P15' s15' u15' i15'
  have P15 : mdp g15 M [(18, 14, 50, 420), (16, 13, 50, 2400), (14, 12, 50, 400), (12, 11, 50, 18), (11, 10, 50, 432), (9, 9, 50, 162), (8, 8, 50, 162), (7, 7, 50, 162), (6, 6, 50, 162), (5, 5, 50, 162), (4, 4, 51, 162), (3, 3, 50, 162), (2, 2, 50, 48600), (1, 1, 50, 48600)] := P15'
  have s15 := s14.tr s15'
  have u15 : hU g15 = hU h + 102053 := addU u15' u14 (by decide)
  have i15 : (∀ k, k ≠ 13 → hI g15 k M = nI 0) ∧ hI g15 13 M = nM 1 := ⟨fun k hk => by rw [i15']; exact i14.1 k hk, by rw [i15']; exact i14.2⟩
  have z15 : ev g mX11_init 123 [some (va_rf (some M))] [] g14 = ev g mX11_init 132 [some (va_rf (some M))] [] g15 := by
    rw [eg15]
    simp (decide := true) (disch := omega) only [e_X11_init_123, e_X11_init_124, e_X11_init_127, e_X11_init_129, ↓reduceIte, if_true, if_false, reduceCtorEq, Nat.reduceAdd, true_and, and_true, false_and, and_false, true_or, or_true, false_or, or_false, not_true_eq_false, not_false_eq_true, Option.bind_eq_bind, Option.bind_some, psh, eq_self, l_0, l_1, l_2, l_3, l_4, l_5, l_6, l_7, l_8, l_9, l_10, l_11, l_12, l_13, l_14, l_15, l_16, l_17, l_18, l_19, l_20, l_24, l_31, l_32, l_33, l_35, l_36, l_48, l_56, l_57, l_58, l_63, l_65, l_80, l_81, l_90, l_91, l_93, l_94, l_95, l_97, l_100, l_105, l_107, l_110, l_111, l_116, l_120, l_121, l_122, l_123, l_124, l_125, l_126, l_162, l_255, l_300, l_400, l_420, l_432, l_1000, l_1400, l_1936, l_2000, l_2100, l_2400, l_24000, m_n1, m_n2, m_n3, nI_mul, nI_add, nI_sub, nI_ltT, nI_ltF, nI_leT, nI_leF, nI_eqT, nI_eqF, nI_nM, nM_nI, nM_eq, nM_lt, nM_le, nI_ltM, nI_leM, nI_inT, nI_dec, pk_rem, nI_ltI, nI_leI, nI_eq, nI_clamp, Nat.add_assoc, q_bv51, Nat.add_left_cancel_iff, nb_nI, k15, l_48600, l_162000]
  obtain ⟨k16, P16', s16', u16', i16'⟩ := mdp_step 21 50 24 P15 (by decide)
  obtain ⟨g16, eg16⟩ : ∃ x, x = pR (nA g15 50 24) 21 M (some (hN g15)) := ⟨_, rfl⟩
  rw [← eg16] at P16' s16' u16' i16'
  have P16 : mdp g16 M [(21, 15, 50, 24), (18, 14, 50, 420), (16, 13, 50, 2400), (14, 12, 50, 400), (12, 11, 50, 18), (11, 10, 50, 432), (9, 9, 50, 162), (8, 8, 50, 162), (7, 7, 50, 162), (6, 6, 50, 162), (5, 5, 50, 162), (4, 4, 51, 162), (3, 3, 50, 162), (2, 2, 50, 48600), (1, 1, 50, 48600)] := P16'
  have s16 := s15.tr s16'
  have u16 : hU g16 = hU h + 102077 := addU u16' u15 (by decide)
  have i16 : (∀ k, k ≠ 13 → hI g16 k M = nI 0) ∧ hI g16 13 M = nM 1 := ⟨fun k hk => by rw [i16']; exact i15.1 k hk, by rw [i16']; exact i15.2⟩
  have z16 : ev g mX11_init 132 [some (va_rf (some M))] [] g15 = ev g mX11_init 140 [some (va_rf (some M))] [] g16 := by
    rw [eg16]
    simp (decide := true) (disch := omega) only [e_X11_init_132, e_X11_init_133, e_X11_init_135, e_X11_init_137, ↓reduceIte, if_true, if_false, reduceCtorEq, Nat.reduceAdd, true_and, and_true, false_and, and_false, true_or, or_true, false_or, or_false, not_true_eq_false, not_false_eq_true, Option.bind_eq_bind, Option.bind_some, psh, eq_self, l_0, l_1, l_2, l_3, l_4, l_5, l_6, l_7, l_8, l_9, l_10, l_11, l_12, l_13, l_14, l_15, l_16, l_17, l_18, l_19, l_20, l_24, l_31, l_32, l_33, l_35, l_36, l_48, l_56, l_57, l_58, l_63, l_65, l_80, l_81, l_90, l_91, l_93, l_94, l_95, l_97, l_100, l_105, l_107, l_110, l_111, l_116, l_120, l_121, l_122, l_123, l_124, l_125, l_126, l_162, l_255, l_300, l_400, l_420, l_432, l_1000, l_1400, l_1936, l_2000, l_2100, l_2400, l_24000, m_n1, m_n2, m_n3, nI_mul, nI_add, nI_sub, nI_ltT, nI_ltF, nI_leT, nI_leF, nI_eqT, nI_eqF, nI_nM, nM_nI, nM_eq, nM_lt, nM_le, nI_ltM, nI_leM, nI_inT, nI_dec, pk_rem, nI_ltI, nI_leI, nI_eq, nI_clamp, Nat.add_assoc, q_bv51, Nat.add_left_cancel_iff, nb_nI, k16, l_48600, l_162000]
  obtain ⟨k17, P17', s17', u17', i17'⟩ := mdp_step 29 51 18 P16 (by decide)
  obtain ⟨g17, eg17⟩ : ∃ x, x = pR (nA g16 51 18) 29 M (some (hN g16)) := ⟨_, rfl⟩
  rw [← eg17] at P17' s17' u17' i17'
  have P17 : mdp g17 M [(29, 16, 51, 18), (21, 15, 50, 24), (18, 14, 50, 420), (16, 13, 50, 2400), (14, 12, 50, 400), (12, 11, 50, 18), (11, 10, 50, 432), (9, 9, 50, 162), (8, 8, 50, 162), (7, 7, 50, 162), (6, 6, 50, 162), (5, 5, 50, 162), (4, 4, 51, 162), (3, 3, 50, 162), (2, 2, 50, 48600), (1, 1, 50, 48600)] := P17'
  have s17 := s16.tr s17'
  have u17 : hU g17 = hU h + 102095 := addU u17' u16 (by decide)
  have i17 : (∀ k, k ≠ 13 → hI g17 k M = nI 0) ∧ hI g17 13 M = nM 1 := ⟨fun k hk => by rw [i17']; exact i16.1 k hk, by rw [i17']; exact i16.2⟩
  have z17 : ev g mX11_init 140 [some (va_rf (some M))] [] g16 = ev g mX11_init 148 [some (va_rf (some M))] [] g17 := by
    rw [eg17]
    simp (decide := true) (disch := omega) only [e_X11_init_140, e_X11_init_141, e_X11_init_143, e_X11_init_145, ↓reduceIte, if_true, if_false, reduceCtorEq, Nat.reduceAdd, true_and, and_true, false_and, and_false, true_or, or_true, false_or, or_false, not_true_eq_false, not_false_eq_true, Option.bind_eq_bind, Option.bind_some, psh, eq_self, l_0, l_1, l_2, l_3, l_4, l_5, l_6, l_7, l_8, l_9, l_10, l_11, l_12, l_13, l_14, l_15, l_16, l_17, l_18, l_19, l_20, l_24, l_31, l_32, l_33, l_35, l_36, l_48, l_56, l_57, l_58, l_63, l_65, l_80, l_81, l_90, l_91, l_93, l_94, l_95, l_97, l_100, l_105, l_107, l_110, l_111, l_116, l_120, l_121, l_122, l_123, l_124, l_125, l_126, l_162, l_255, l_300, l_400, l_420, l_432, l_1000, l_1400, l_1936, l_2000, l_2100, l_2400, l_24000, m_n1, m_n2, m_n3, nI_mul, nI_add, nI_sub, nI_ltT, nI_ltF, nI_leT, nI_leF, nI_eqT, nI_eqF, nI_nM, nM_nI, nM_eq, nM_lt, nM_le, nI_ltM, nI_leM, nI_inT, nI_dec, pk_rem, nI_ltI, nI_leI, nI_eq, nI_clamp, Nat.add_assoc, q_bv51, Nat.add_left_cancel_iff, nb_nI, k17, l_48600, l_162000]
  obtain ⟨k18, P18', s18', u18', i18'⟩ := mdp_step 30 51 18 P17 (by decide)
  obtain ⟨g18, eg18⟩ : ∃ x, x = pR (nA g17 51 18) 30 M (some (hN g17)) := ⟨_, rfl⟩
  rw [← eg18] at P18' s18' u18' i18'
  have P18 : mdp g18 M [(30, 17, 51, 18), (29, 16, 51, 18), (21, 15, 50, 24), (18, 14, 50, 420), (16, 13, 50, 2400), (14, 12, 50, 400), (12, 11, 50, 18), (11, 10, 50, 432), (9, 9, 50, 162), (8, 8, 50, 162), (7, 7, 50, 162), (6, 6, 50, 162), (5, 5, 50, 162), (4, 4, 51, 162), (3, 3, 50, 162), (2, 2, 50, 48600), (1, 1, 50, 48600)] := P18'
  have s18 := s17.tr s18'
  have u18 : hU g18 = hU h + 102113 := addU u18' u17 (by decide)
  have i18 : (∀ k, k ≠ 13 → hI g18 k M = nI 0) ∧ hI g18 13 M = nM 1 := ⟨fun k hk => by rw [i18']; exact i17.1 k hk, by rw [i18']; exact i17.2⟩
  have z18 : ev g mX11_init 148 [some (va_rf (some M))] [] g17 = ev g mX11_init 156 [some (va_rf (some M))] [] g18 := by
    rw [eg18]
    simp (decide := true) (disch := omega) only [e_X11_init_148, e_X11_init_149, e_X11_init_151, e_X11_init_153, ↓reduceIte, if_true, if_false, reduceCtorEq, Nat.reduceAdd, true_and, and_true, false_and, and_false, true_or, or_true, false_or, or_false, not_true_eq_false, not_false_eq_true, Option.bind_eq_bind, Option.bind_some, psh, eq_self, l_0, l_1, l_2, l_3, l_4, l_5, l_6, l_7, l_8, l_9, l_10, l_11, l_12, l_13, l_14, l_15, l_16, l_17, l_18, l_19, l_20, l_24, l_31, l_32, l_33, l_35, l_36, l_48, l_56, l_57, l_58, l_63, l_65, l_80, l_81, l_90, l_91, l_93, l_94, l_95, l_97, l_100, l_105, l_107, l_110, l_111, l_116, l_120, l_121, l_122, l_123, l_124, l_125, l_126, l_162, l_255, l_300, l_400, l_420, l_432, l_1000, l_1400, l_1936, l_2000, l_2100, l_2400, l_24000, m_n1, m_n2, m_n3, nI_mul, nI_add, nI_sub, nI_ltT, nI_ltF, nI_leT, nI_leF, nI_eqT, nI_eqF, nI_nM, nM_nI, nM_eq, nM_lt, nM_le, nI_ltM, nI_leM, nI_inT, nI_dec, pk_rem, nI_ltI, nI_leI, nI_eq, nI_clamp, Nat.add_assoc, q_bv51, Nat.add_left_cancel_iff, nb_nI, k18, l_48600, l_162000]
  obtain ⟨k19, P19', s19', u19', i19'⟩ := mdp_step 31 50 1400 P18 (by decide)
  obtain ⟨g19, eg19⟩ : ∃ x, x = pR (nA g18 50 1400) 31 M (some (hN g18)) := ⟨_, rfl⟩
  rw [← eg19] at P19' s19' u19' i19'
  have P19 : mdp g19 M [(31, 18, 50, 1400), (30, 17, 51, 18), (29, 16, 51, 18), (21, 15, 50, 24), (18, 14, 50, 420), (16, 13, 50, 2400), (14, 12, 50, 400), (12, 11, 50, 18), (11, 10, 50, 432), (9, 9, 50, 162), (8, 8, 50, 162), (7, 7, 50, 162), (6, 6, 50, 162), (5, 5, 50, 162), (4, 4, 51, 162), (3, 3, 50, 162), (2, 2, 50, 48600), (1, 1, 50, 48600)] := P19'
  have s19 := s18.tr s19'
  have u19 : hU g19 = hU h + 103513 := addU u19' u18 (by decide)
  have i19 : (∀ k, k ≠ 13 → hI g19 k M = nI 0) ∧ hI g19 13 M = nM 1 := ⟨fun k hk => by rw [i19']; exact i18.1 k hk, by rw [i19']; exact i18.2⟩
  have z19 : ev g mX11_init 156 [some (va_rf (some M))] [] g18 = ev g mX11_init 165 [some (va_rf (some M))] [] g19 := by
    rw [eg19]
    simp (decide := true) (disch := omega) only [e_X11_init_156, e_X11_init_157, e_X11_init_160, e_X11_init_162, ↓reduceIte, if_true, if_false, reduceCtorEq, Nat.reduceAdd, true_and, and_true, false_and, and_false, true_or, or_true, false_or, or_false, not_true_eq_false, not_false_eq_true, Option.bind_eq_bind, Option.bind_some, psh, eq_self, l_0, l_1, l_2, l_3, l_4, l_5, l_6, l_7, l_8, l_9, l_10, l_11, l_12, l_13, l_14, l_15, l_16, l_17, l_18, l_19, l_20, l_24, l_31, l_32, l_33, l_35, l_36, l_48, l_56, l_57, l_58, l_63, l_65, l_80, l_81, l_90, l_91, l_93, l_94, l_95, l_97, l_100, l_105, l_107, l_110, l_111, l_116, l_120, l_121, l_122, l_123, l_124, l_125, l_126, l_162, l_255, l_300, l_400, l_420, l_432, l_1000, l_1400, l_1936, l_2000, l_2100, l_2400, l_24000, m_n1, m_n2, m_n3, nI_mul, nI_add, nI_sub, nI_ltT, nI_ltF, nI_leT, nI_leF, nI_eqT, nI_eqF, nI_nM, nM_nI, nM_eq, nM_lt, nM_le, nI_ltM, nI_leM, nI_inT, nI_dec, pk_rem, nI_ltI, nI_leI, nI_eq, nI_clamp, Nat.add_assoc, q_bv51, Nat.add_left_cancel_iff, nb_nI, k19, l_48600, l_162000]
  obtain ⟨k20, P20', s20', u20', i20'⟩ := mdp_step 33 50 24 P19 (by decide)
  obtain ⟨g20, eg20⟩ : ∃ x, x = pR (nA g19 50 24) 33 M (some (hN g19)) := ⟨_, rfl⟩
  rw [← eg20] at P20' s20' u20' i20'
  have P20 : mdp g20 M [(33, 19, 50, 24), (31, 18, 50, 1400), (30, 17, 51, 18), (29, 16, 51, 18), (21, 15, 50, 24), (18, 14, 50, 420), (16, 13, 50, 2400), (14, 12, 50, 400), (12, 11, 50, 18), (11, 10, 50, 432), (9, 9, 50, 162), (8, 8, 50, 162), (7, 7, 50, 162), (6, 6, 50, 162), (5, 5, 50, 162), (4, 4, 51, 162), (3, 3, 50, 162), (2, 2, 50, 48600), (1, 1, 50, 48600)] := P20'
  have s20 := s19.tr s20'
  have u20 : hU g20 = hU h + 103537 := addU u20' u19 (by decide)
  have i20 : (∀ k, k ≠ 13 → hI g20 k M = nI 0) ∧ hI g20 13 M = nM 1 := ⟨fun k hk => by rw [i20']; exact i19.1 k hk, by rw [i20']; exact i19.2⟩
  have z20 : ev g mX11_init 165 [some (va_rf (some M))] [] g19 = ev g mX11_init 173 [some (va_rf (some M))] [] g20 := by
    rw [eg20]
    simp (decide := true) (disch := omega) only [e_X11_init_165, e_X11_init_166, e_X11_init_168, e_X11_init_170, ↓reduceIte, if_true, if_false, reduceCtorEq, Nat.reduceAdd, true_and, and_true, false_and, and_false, true_or, or_true, false_or, or_false, not_true_eq_false, not_false_eq_true, Option.bind_eq_bind, Option.bind_some, psh, eq_self, l_0, l_1, l_2, l_3, l_4, l_5, l_6, l_7, l_8, l_9, l_10, l_11, l_12, l_13, l_14, l_15, l_16, l_17, l_18, l_19, l_20, l_24, l_31, l_32, l_33, l_35, l_36, l_48, l_56, l_57, l_58, l_63, l_65, l_80, l_81, l_90, l_91, l_93, l_94, l_95, l_97, l_100, l_105, l_107, l_110, l_111, l_116, l_120, l_121, l_122, l_123, l_124, l_125, l_126, l_162, l_255, l_300, l_400, l_420, l_432, l_1000, l_1400, l_1936, l_2000, l_2100, l_2400, l_24000, m_n1, m_n2, m_n3, nI_mul, nI_add, nI_sub, nI_ltT, nI_ltF, nI_leT, nI_leF, nI_eqT, nI_eqF, nI_nM, nM_nI, nM_eq, nM_lt, nM_le, nI_ltM, nI_leM, nI_inT, nI_dec, pk_rem, nI_ltI, nI_leI, nI_eq, nI_clamp, Nat.add_assoc, q_bv51, Nat.add_left_cancel_iff, nb_nI, k20, l_48600, l_162000]
  obtain ⟨k21, P21', s21', u21', i21'⟩ := mdp_step 36 50 18 P20 (by decide)
  obtain ⟨g21, eg21⟩ : ∃ x, x = pR (nA g20 50 18) 36 M (some (hN g20)) := ⟨_, rfl⟩
  rw [← eg21] at P21' s21' u21' i21'
  have P21 : mdp g21 M [(36, 20, 50, 18), (33, 19, 50, 24), (31, 18, 50, 1400), (30, 17, 51, 18), (29, 16, 51, 18), (21, 15, 50, 24), (18, 14, 50, 420), (16, 13, 50, 2400), (14, 12, 50, 400), (12, 11, 50, 18), (11, 10, 50, 432), (9, 9, 50, 162), (8, 8, 50, 162), (7, 7, 50, 162), (6, 6, 50, 162), (5, 5, 50, 162), (4, 4, 51, 162), (3, 3, 50, 162), (2, 2, 50, 48600), (1, 1, 50, 48600)] := P21'
  have s21 := s20.tr s21'
  have u21 : hU g21 = hU h + 103555 := addU u21' u20 (by decide)
  have i21 : (∀ k, k ≠ 13 → hI g21 k M = nI 0) ∧ hI g21 13 M = nM 1 := ⟨fun k hk => by rw [i21']; exact i20.1 k hk, by rw [i21']; exact i20.2⟩
  have z21 : ev g mX11_init 173 [some (va_rf (some M))] [] g20 = ev g mX11_init 181 [some (va_rf (some M))] [] g21 := by
    rw [eg21]
    simp (decide := true) (disch := omega) only [e_X11_init_173, e_X11_init_174, e_X11_init_176, e_X11_init_178, ↓reduceIte, if_true, if_false, reduceCtorEq, Nat.reduceAdd, true_and, and_true, false_and, and_false, true_or, or_true, false_or, or_false, not_true_eq_false, not_false_eq_true, Option.bind_eq_bind, Option.bind_some, psh, eq_self, l_0, l_1, l_2, l_3, l_4, l_5, l_6, l_7, l_8, l_9, l_10, l_11, l_12, l_13, l_14, l_15, l_16, l_17, l_18, l_19, l_20, l_24, l_31, l_32, l_33, l_35, l_36, l_48, l_56, l_57, l_58, l_63, l_65, l_80, l_81, l_90, l_91, l_93, l_94, l_95, l_97, l_100, l_105, l_107, l_110, l_111, l_116, l_120, l_121, l_122, l_123, l_124, l_125, l_126, l_162, l_255, l_300, l_400, l_420, l_432, l_1000, l_1400, l_1936, l_2000, l_2100, l_2400, l_24000, m_n1, m_n2, m_n3, nI_mul, nI_add, nI_sub, nI_ltT, nI_ltF, nI_leT, nI_leF, nI_eqT, nI_eqF, nI_nM, nM_nI, nM_eq, nM_lt, nM_le, nI_ltM, nI_leM, nI_inT, nI_dec, pk_rem, nI_ltI, nI_leI, nI_eq, nI_clamp, Nat.add_assoc, q_bv51, Nat.add_left_cancel_iff, nb_nI, k21, l_48600, l_162000]
  obtain ⟨k22, P22', s22', u22', i22'⟩ := mdp_step 37 50 9 P21 (by decide)
  obtain ⟨g22, eg22⟩ : ∃ x, x = pR (nA g21 50 9) 37 M (some (hN g21)) := ⟨_, rfl⟩
  rw [← eg22] at P22' s22' u22' i22'
  have P22 : mdp g22 M [(37, 21, 50, 9), (36, 20, 50, 18), (33, 19, 50, 24), (31, 18, 50, 1400), (30, 17, 51, 18), (29, 16, 51, 18), (21, 15, 50, 24), (18, 14, 50, 420), (16, 13, 50, 2400), (14, 12, 50, 400), (12, 11, 50, 18), (11, 10, 50, 432), (9, 9, 50, 162), (8, 8, 50, 162), (7, 7, 50, 162), (6, 6, 50, 162), (5, 5, 50, 162), (4, 4, 51, 162), (3, 3, 50, 162), (2, 2, 50, 48600), (1, 1, 50, 48600)] := P22'
  have s22 := s21.tr s22'
  have u22 : hU g22 = hU h + 103564 := addU u22' u21 (by decide)
  have i22 : (∀ k, k ≠ 13 → hI g22 k M = nI 0) ∧ hI g22 13 M = nM 1 := ⟨fun k hk => by rw [i22']; exact i21.1 k hk, by rw [i22']; exact i21.2⟩
  have z22 : ev g mX11_init 181 [some (va_rf (some M))] [] g21 = ev g mX11_init 189 [some (va_rf (some M))] [] g22 := by
    rw [eg22]
    simp (decide := true) (disch := omega) only [e_X11_init_181, e_X11_init_182, e_X11_init_184, e_X11_init_186, ↓reduceIte, if_true, if_false, reduceCtorEq, Nat.reduceAdd, true_and, and_true, false_and, and_false, true_or, or_true, false_or, or_false, not_true_eq_false, not_false_eq_true, Option.bind_eq_bind, Option.bind_some, psh, eq_self, l_0, l_1, l_2, l_3, l_4, l_5, l_6, l_7, l_8, l_9, l_10, l_11, l_12, l_13, l_14, l_15, l_16, l_17, l_18, l_19, l_20, l_24, l_31, l_32, l_33, l_35, l_36, l_48, l_56, l_57, l_58, l_63, l_65, l_80, l_81, l_90, l_91, l_93, l_94, l_95, l_97, l_100, l_105, l_107, l_110, l_111, l_116, l_120, l_121, l_122, l_123, l_124, l_125, l_126, l_162, l_255, l_300, l_400, l_420, l_432, l_1000, l_1400, l_1936, l_2000, l_2100, l_2400, l_24000, m_n1, m_n2, m_n3, nI_mul, nI_add, nI_sub, nI_ltT, nI_ltF, nI_leT, nI_leF, nI_eqT, nI_eqF, nI_nM, nM_nI, nM_eq, nM_lt, nM_le, nI_ltM, nI_leM, nI_inT, nI_dec, pk_rem, nI_ltI, nI_leI, nI_eq, nI_clamp, Nat.add_assoc, q_bv51, Nat.add_left_cancel_iff, nb_nI, k22, l_48600, l_162000]
  obtain ⟨k23, P23', s23', u23', i23'⟩ := mdp_step 38 50 9 P22 (by decide)
  obtain ⟨g23, eg23⟩ : ∃ x, x = pR (nA g22 50 9) 38 M (some (hN g22)) := ⟨_, rfl⟩
  rw [← eg23] at P23' s23' u23' i23'
  have P23 : mdp g23 M [(38, 22, 50, 9), (37, 21, 50, 9), (36, 20, 50, 18), (33, 19, 50, 24), (31, 18, 50, 1400), (30, 17, 51, 18), (29, 16, 51, 18), (21, 15, 50, 24), (18, 14, 50, 420), (16, 13, 50, 2400), (14, 12, 50, 400), (12, 11, 50, 18), (11, 10, 50, 432), (9, 9, 50, 162), (8, 8, 50, 162), (7, 7, 50, 162), (6, 6, 50, 162), (5, 5, 50, 162), (4, 4, 51, 162), (3, 3, 50, 162), (2, 2, 50, 48600), (1, 1, 50, 48600)] := P23'
  have s23 := s22.tr s23'
  have u23 : hU g23 = hU h + 103573 := addU u23' u22 (by decide)
  have i23 : (∀ k, k ≠ 13 → hI g23 k M = nI 0) ∧ hI g23 13 M = nM 1 := ⟨fun k hk => by rw [i23']; exact i22.1 k hk, by rw [i23']; exact i22.2⟩
  have z23 : ev g mX11_init 189 [some (va_rf (some M))] [] g22 = ev g mX11_init 197 [some (va_rf (some M))] [] g23 := by
    rw [eg23]
    simp (decide := true) (disch := omega) only [e_X11_init_189, e_X11_init_190, e_X11_init_192, e_X11_init_194, ↓reduceIte, if_true, if_false, reduceCtorEq, Nat.reduceAdd, true_and, and_true, false_and, and_false, true_or, or_true, false_or, or_false, not_true_eq_false, not_false_eq_true, Option.bind_eq_bind, Option.bind_some, psh, eq_self, l_0, l_1, l_2, l_3, l_4, l_5, l_6, l_7, l_8, l_9, l_10, l_11, l_12, l_13, l_14, l_15, l_16, l_17, l_18, l_19, l_20, l_24, l_31, l_32, l_33, l_35, l_36, l_48, l_56, l_57, l_58, l_63, l_65, l_80, l_81, l_90, l_91, l_93, l_94, l_95, l_97, l_100, l_105, l_107, l_110, l_111, l_116, l_120, l_121, l_122, l_123, l_124, l_125, l_126, l_162, l_255, l_300, l_400, l_420, l_432, l_1000, l_1400, l_1936, l_2000, l_2100, l_2400, l_24000, m_n1, m_n2, m_n3, nI_mul, nI_add, nI_sub, nI_ltT, nI_ltF, nI_leT, nI_leF, nI_eqT, nI_eqF, nI_nM, nM_nI, nM_eq, nM_lt, nM_le, nI_ltM, nI_leM, nI_inT, nI_dec, pk_rem, nI_ltI, nI_leI, nI_eq, nI_clamp, Nat.add_assoc, q_bv51, Nat.add_left_cancel_iff, nb_nI, k23, l_48600, l_162000]
  obtain ⟨k24, P24', s24', u24', i24'⟩ := mdp_step 39 50 9 P23 (by decide)
  obtain ⟨g24, eg24⟩ : ∃ x, x = pR (nA g23 50 9) 39 M (some (hN g23)) := ⟨_, rfl⟩
  rw [← eg24] at P24' s24' u24' i24'
  have P24 : mdp g24 M [(39, 23, 50, 9), (38, 22, 50, 9), (37, 21, 50, 9), (36, 20, 50, 18), (33, 19, 50, 24), (31, 18, 50, 1400), (30, 17, 51, 18), (29, 16, 51, 18), (21, 15, 50, 24), (18, 14, 50, 420), (16, 13, 50, 2400), (14, 12, 50, 400), (12, 11, 50, 18), (11, 10, 50, 432), (9, 9, 50, 162), (8, 8, 50, 162), (7, 7, 50, 162), (6, 6, 50, 162), (5, 5, 50, 162), (4, 4, 51, 162), (3, 3, 50, 162), (2, 2, 50, 48600), (1, 1, 50, 48600)] := P24'
  have s24 := s23.tr s24'
  have u24 : hU g24 = hU h + 103582 := addU u24' u23 (by decide)
  have i24 : (∀ k, k ≠ 13 → hI g24 k M = nI 0) ∧ hI g24 13 M = nM 1 := ⟨fun k hk => by rw [i24']; exact i23.1 k hk, by rw [i24']; exact i23.2⟩
  have z24 : ev g mX11_init 197 [some (va_rf (some M))] [] g23 = ev g mX11_init 205 [some (va_rf (some M))] [] g24 := by
    rw [eg24]
    simp (decide := true) (disch := omega) only [e_X11_init_197, e_X11_init_198, e_X11_init_200, e_X11_init_202, ↓reduceIte, if_true, if_false, reduceCtorEq, Nat.reduceAdd, true_and, and_true, false_and, and_false, true_or, or_true, false_or, or_false, not_true_eq_false, not_false_eq_true, Option.bind_eq_bind, Option.bind_some, psh, eq_self, l_0, l_1, l_2, l_3, l_4, l_5, l_6, l_7, l_8, l_9, l_10, l_11, l_12, l_13, l_14, l_15, l_16, l_17, l_18, l_19, l_20, l_24, l_31, l_32, l_33, l_35, l_36, l_48, l_56, l_57, l_58, l_63, l_65, l_80, l_81, l_90, l_91, l_93, l_94, l_95, l_97, l_100, l_105, l_107, l_110, l_111, l_116, l_120, l_121, l_122, l_123, l_124, l_125, l_126, l_162, l_255, l_300, l_400, l_420, l_432, l_1000, l_1400, l_1936, l_2000, l_2100, l_2400, l_24000, m_n1, m_n2, m_n3, nI_mul, nI_add, nI_sub, nI_ltT, nI_ltF, nI_leT, nI_leF, nI_eqT, nI_eqF, nI_nM, nM_nI, nM_eq, nM_lt, nM_le, nI_ltM, nI_leM, nI_inT, nI_dec, pk_rem, nI_ltI, nI_leI, nI_eq, nI_clamp, Nat.add_assoc, q_bv51, Nat.add_left_cancel_iff, nb_nI, k24, l_48600, l_162000]
  obtain ⟨k25, P25', s25', u25', i25'⟩ := mdp_step 40 50 162000 P24 (by decide)
  obtain ⟨g25, eg25⟩ : ∃ x, x = pR (nA g24 50 162000) 40 M (some (hN g24)) := ⟨_, rfl⟩
  rw [← eg25] at P25' s25' u25' i25'
  have P25 : mdp g25 M [(40, 24, 50, 162000), (39, 23, 50, 9), (38, 22, 50, 9), (37, 21, 50, 9), (36, 20, 50, 18), (33, 19, 50, 24), (31, 18, 50, 1400), (30, 17, 51, 18), (29, 16, 51, 18), (21, 15, 50, 24), (18, 14, 50, 420), (16, 13, 50, 2400), (14, 12, 50, 400), (12, 11, 50, 18), (11, 10, 50, 432), (9, 9, 50, 162), (8, 8, 50, 162), (7, 7, 50, 162), (6, 6, 50, 162), (5, 5, 50, 162), (4, 4, 51, 162), (3, 3, 50, 162), (2, 2, 50, 48600), (1, 1, 50, 48600)] := P25'
  have s25 := s24.tr s25'
  have u25 : hU g25 = hU h + 265582 := addU u25' u24 (by decide)
  have i25 : (∀ k, k ≠ 13 → hI g25 k M = nI 0) ∧ hI g25 13 M = nM 1 := ⟨fun k hk => by rw [i25']; exact i24.1 k hk, by rw [i25']; exact i24.2⟩
  have z25 : ev g mX11_init 205 [some (va_rf (some M))] [] g24 = ev g mX11_init 213 [some (va_rf (some M))] [] g25 := by
    rw [eg25]
    simp (decide := true) (disch := omega) only [e_X11_init_205, e_X11_init_206, e_X11_init_208, e_X11_init_210, ↓reduceIte, if_true, if_false, reduceCtorEq, Nat.reduceAdd, true_and, and_true, false_and, and_false, true_or, or_true, false_or, or_false, not_true_eq_false, not_false_eq_true, Option.bind_eq_bind, Option.bind_some, psh, eq_self, l_0, l_1, l_2, l_3, l_4, l_5, l_6, l_7, l_8, l_9, l_10, l_11, l_12, l_13, l_14, l_15, l_16, l_17, l_18, l_19, l_20, l_24, l_31, l_32, l_33, l_35, l_36, l_48, l_56, l_57, l_58, l_63, l_65, l_80, l_81, l_90, l_91, l_93, l_94, l_95, l_97, l_100, l_105, l_107, l_110, l_111, l_116, l_120, l_121, l_122, l_123, l_124, l_125, l_126, l_162, l_255, l_300, l_400, l_420, l_432, l_1000, l_1400, l_1936, l_2000, l_2100, l_2400, l_24000, m_n1, m_n2, m_n3, nI_mul, nI_add, nI_sub, nI_ltT, nI_ltF, nI_leT, nI_leF, nI_eqT, nI_eqF, nI_nM, nM_nI, nM_eq, nM_lt, nM_le, nI_ltM, nI_leM, nI_inT, nI_dec, pk_rem, nI_ltI, nI_leI, nI_eq, nI_clamp, Nat.add_assoc, q_bv51, Nat.add_left_cancel_iff, nb_nI, k25, l_48600, l_162000]
  obtain ⟨k26, P26', s26', u26', i26'⟩ := mdp_step 41 50 81 P25 (by decide)
  obtain ⟨g26, eg26⟩ : ∃ x, x = pR (nA g25 50 81) 41 M (some (hN g25)) := ⟨_, rfl⟩
  rw [← eg26] at P26' s26' u26' i26'
  have P26 : mdp g26 M [(41, 25, 50, 81), (40, 24, 50, 162000), (39, 23, 50, 9), (38, 22, 50, 9), (37, 21, 50, 9), (36, 20, 50, 18), (33, 19, 50, 24), (31, 18, 50, 1400), (30, 17, 51, 18), (29, 16, 51, 18), (21, 15, 50, 24), (18, 14, 50, 420), (16, 13, 50, 2400), (14, 12, 50, 400), (12, 11, 50, 18), (11, 10, 50, 432), (9, 9, 50, 162), (8, 8, 50, 162), (7, 7, 50, 162), (6, 6, 50, 162), (5, 5, 50, 162), (4, 4, 51, 162), (3, 3, 50, 162), (2, 2, 50, 48600), (1, 1, 50, 48600)] := P26'
  have s26 := s25.tr s26'
  have u26 : hU g26 = hU h + 265663 := addU u26' u25 (by decide)
  have i26 : (∀ k, k ≠ 13 → hI g26 k M = nI 0) ∧ hI g26 13 M = nM 1 := ⟨fun k hk => by rw [i26']; exact i25.1 k hk, by rw [i26']; exact i25.2⟩
  have z26 : ev g mX11_init 213 [some (va_rf (some M))] [] g25 = ev g mX11_init 221 [some (va_rf (some M))] [] g26 := by
    rw [eg26]
    simp (decide := true) (disch := omega) only [e_X11_init_213, e_X11_init_214, e_X11_init_216, e_X11_init_218, ↓reduceIte, if_true, if_false, reduceCtorEq, Nat.reduceAdd, true_and, and_true, false_and, and_false, true_or, or_true, false_or, or_false, not_true_eq_false, not_false_eq_true, Option.bind_eq_bind, Option.bind_some, psh, eq_self, l_0, l_1, l_2, l_3, l_4, l_5, l_6, l_7, l_8, l_9, l_10, l_11, l_12, l_13, l_14, l_15, l_16, l_17, l_18, l_19, l_20, l_24, l_31, l_32, l_33, l_35, l_36, l_48, l_56, l_57, l_58, l_63, l_65, l_80, l_81, l_90, l_91, l_93, l_94, l_95, l_97, l_100, l_105, l_107, l_110, l_111, l_116, l_120, l_121, l_122, l_123, l_124, l_125, l_126, l_162, l_255, l_300, l_400, l_420, l_432, l_1000, l_1400, l_1936, l_2000, l_2100, l_2400, l_24000, m_n1, m_n2, m_n3, nI_mul, nI_add, nI_sub, nI_ltT, nI_ltF, nI_leT, nI_leF, nI_eqT, nI_eqF, nI_nM, nM_nI, nM_eq, nM_lt, nM_le, nI_ltM, nI_leM, nI_inT, nI_dec, pk_rem, nI_ltI, nI_leI, nI_eq, nI_clamp, Nat.add_assoc, q_bv51, Nat.add_left_cancel_iff, nb_nI, k26, l_48600, l_162000]
  obtain ⟨k27, P27', s27', u27', i27'⟩ := mdp_step 42 50 2100 P26 (by decide)
  obtain ⟨g27, eg27⟩ : ∃ x, x = pR (nA g26 50 2100) 42 M (some (hN g26)) := ⟨_, rfl⟩
  rw [← eg27] at P27' s27' u27' i27'
  have P27 : mdp g27 M [(42, 26, 50, 2100), (41, 25, 50, 81), (40, 24, 50, 162000), (39, 23, 50, 9), (38, 22, 50, 9), (37, 21, 50, 9), (36, 20, 50, 18), (33, 19, 50, 24), (31, 18, 50, 1400), (30, 17, 51, 18), (29, 16, 51, 18), (21, 15, 50, 24), (18, 14, 50, 420), (16, 13, 50, 2400), (14, 12, 50, 400), (12, 11, 50, 18), (11, 10, 50, 432), (9, 9, 50, 162), (8, 8, 50, 162), (7, 7, 50, 162), (6, 6, 50, 162), (5, 5, 50, 162), (4, 4, 51, 162), (3, 3, 50, 162), (2, 2, 50, 48600), (1, 1, 50, 48600)] := P27'
  have s27 := s26.tr s27'
  have u27 : hU g27 = hU h + 267763 := addU u27' u26 (by decide)
  have i27 : (∀ k, k ≠ 13 → hI g27 k M = nI 0) ∧ hI g27 13 M = nM 1 := ⟨fun k hk => by rw [i27']; exact i26.1 k hk, by rw [i27']; exact i26.2⟩
  have z27 : ev g mX11_init 221 [some (va_rf (some M))] [] g26 = ev g mX11_init 230 [some (va_rf (some M))] [] g27 := by
    rw [eg27]
    simp (decide := true) (disch := omega) only [e_X11_init_221, e_X11_init_222, e_X11_init_225, e_X11_init_227, ↓reduceIte, if_true, if_false, reduceCtorEq, Nat.reduceAdd, true_and, and_true, false_and, and_false, true_or, or_true, false_or, or_false, not_true_eq_false, not_false_eq_true, Option.bind_eq_bind, Option.bind_some, psh, eq_self, l_0, l_1, l_2, l_3, l_4, l_5, l_6, l_7, l_8, l_9, l_10, l_11, l_12, l_13, l_14, l_15, l_16, l_17, l_18, l_19, l_20, l_24, l_31, l_32, l_33, l_35, l_36, l_48, l_56, l_57, l_58, l_63, l_65, l_80, l_81, l_90, l_91, l_93, l_94, l_95, l_97, l_100, l_105, l_107, l_110, l_111, l_116, l_120, l_121, l_122, l_123, l_124, l_125, l_126, l_162, l_255, l_300, l_400, l_420, l_432, l_1000, l_1400, l_1936, l_2000, l_2100, l_2400, l_24000, m_n1, m_n2, m_n3, nI_mul, nI_add, nI_sub, nI_ltT, nI_ltF, nI_leT, nI_leF, nI_eqT, nI_eqF, nI_nM, nM_nI, nM_eq, nM_lt, nM_le, nI_ltM, nI_leM, nI_inT, nI_dec, pk_rem, nI_ltI, nI_leI, nI_eq, nI_clamp, Nat.add_assoc, q_bv51, Nat.add_left_cancel_iff, nb_nI, k27, l_48600, l_162000]
  obtain ⟨k28, P28', s28', u28', i28'⟩ := mdp_step 46 50 24000 P27 (by decide)
  obtain ⟨g28, eg28⟩ : ∃ x, x = pR (nA g27 50 24000) 46 M (some (hN g27)) := ⟨_, rfl⟩
  rw [← eg28] at P28' s28' u28' i28'
  have P28 : mdp g28 M [(46, 27, 50, 24000), (42, 26, 50, 2100), (41, 25, 50, 81), (40, 24, 50, 162000), (39, 23, 50, 9), (38, 22, 50, 9), (37, 21, 50, 9), (36, 20, 50, 18), (33, 19, 50, 24), (31, 18, 50, 1400), (30, 17, 51, 18), (29, 16, 51, 18), (21, 15, 50, 24), (18, 14, 50, 420), (16, 13, 50, 2400), (14, 12, 50, 400), (12, 11, 50, 18), (11, 10, 50, 432), (9, 9, 50, 162), (8, 8, 50, 162), (7, 7, 50, 162), (6, 6, 50, 162), (5, 5, 50, 162), (4, 4, 51, 162), (3, 3, 50, 162), (2, 2, 50, 48600), (1, 1, 50, 48600)] := P28'
  have s28 := s27.tr s28'
  have u28 : hU g28 = hU h + 291763 := addU u28' u27 (by decide)
  have i28 : (∀ k, k ≠ 13 → hI g28 k M = nI 0) ∧ hI g28 13 M = nM 1 := ⟨fun k hk => by rw [i28']; exact i27.1 k hk, by rw [i28']; exact i27.2⟩
  have z28 : ev g mX11_init 230 [some (va_rf (some M))] [] g27 = ev g mX11_init 239 [some (va_rf (some M))] [] g28 := by
    rw [eg28]
    simp (decide := true) (disch := omega) only [e_X11_init_230, e_X11_init_231, e_X11_init_234, e_X11_init_236, ↓reduceIte, if_true, if_false, reduceCtorEq, Nat.reduceAdd, true_and, and_true, false_and, and_false, true_or, or_true, false_or, or_false, not_true_eq_false, not_false_eq_true, Option.bind_eq_bind, Option.bind_some, psh, eq_self, l_0, l_1, l_2, l_3, l_4, l_5, l_6, l_7, l_8, l_9, l_10, l_11, l_12, l_13, l_14, l_15, l_16, l_17, l_18, l_19, l_20, l_24, l_31, l_32, l_33, l_35, l_36, l_48, l_56, l_57, l_58, l_63, l_65, l_80, l_81, l_90, l_91, l_93, l_94, l_95, l_97, l_100, l_105, l_107, l_110, l_111, l_116, l_120, l_121, l_122, l_123, l_124, l_125, l_126, l_162, l_255, l_300, l_400, l_420, l_432, l_1000, l_1400, l_1936, l_2000, l_2100, l_2400, l_24000, m_n1, m_n2, m_n3, nI_mul, nI_add, nI_sub, nI_ltT, nI_ltF, nI_leT, nI_leF, nI_eqT, nI_eqF, nI_nM, nM_nI, nM_eq, nM_lt, nM_le, nI_ltM, nI_leM, nI_inT, nI_dec, pk_rem, nI_ltI, nI_leI, nI_eq, nI_clamp, Nat.add_assoc, q_bv51, Nat.add_left_cancel_iff, nb_nI, k28, l_48600, l_162000]
  obtain ⟨k29, P29', s29', u29', i29'⟩ := mdp_step 47 50 1000 P28 (by decide)
  obtain ⟨g29, eg29⟩ : ∃ x, x = pR (nA g28 50 1000) 47 M (some (hN g28)) := ⟨_, rfl⟩
  rw [← eg29] at P29' s29' u29' i29'
  have P29 : mdp g29 M [(47, 28, 50, 1000), (46, 27, 50, 24000), (42, 26, 50, 2100), (41, 25, 50, 81), (40, 24, 50, 162000), (39, 23, 50, 9), (38, 22, 50, 9), (37, 21, 50, 9), (36, 20, 50, 18), (33, 19, 50, 24), (31, 18, 50, 1400), (30, 17, 51, 18), (29, 16, 51, 18), (21, 15, 50, 24), (18, 14, 50, 420), (16, 13, 50, 2400), (14, 12, 50, 400), (12, 11, 50, 18), (11, 10, 50, 432), (9, 9, 50, 162), (8, 8, 50, 162), (7, 7, 50, 162), (6, 6, 50, 162), (5, 5, 50, 162), (4, 4, 51, 162), (3, 3, 50, 162), (2, 2, 50, 48600), (1, 1, 50, 48600)] := P29'
  have s29 := s28.tr s29'
  have u29 : hU g29 = hU h + 292763 := addU u29' u28 (by decide)
  have i29 : (∀ k, k ≠ 13 → hI g29 k M = nI 0) ∧ hI g29 13 M = nM 1 := ⟨fun k hk => by rw [i29']; exact i28.1 k hk, by rw [i29']; exact i28.2⟩
  have z29 : ev g mX11_init 239 [some (va_rf (some M))] [] g28 = ev g mX11_init 248 [some (va_rf (some M))] [] g29 := by
    rw [eg29]
    simp (decide := true) (disch := omega) only [e_X11_init_239, e_X11_init_240, e_X11_init_243, e_X11_init_245, ↓reduceIte, if_true, if_false, reduceCtorEq, Nat.reduceAdd, true_and, and_true, false_and, and_false, true_or, or_true, false_or, or_false, not_true_eq_false, not_false_eq_true, Option.bind_eq_bind, Option.bind_some, psh, eq_self, l_0, l_1, l_2, l_3, l_4, l_5, l_6, l_7, l_8, l_9, l_10, l_11, l_12, l_13, l_14, l_15, l_16, l_17, l_18, l_19, l_20, l_24, l_31, l_32, l_33, l_35, l_36, l_48, l_56, l_57, l_58, l_63, l_65, l_80, l_81, l_90, l_91, l_93, l_94, l_95, l_97, l_100, l_105, l_107, l_110, l_111, l_116, l_120, l_121, l_122, l_123, l_124, l_125, l_126, l_162, l_255, l_300, l_400, l_420, l_432, l_1000, l_1400, l_1936, l_2000, l_2100, l_2400, l_24000, m_n1, m_n2, m_n3, nI_mul, nI_add, nI_sub, nI_ltT, nI_ltF, nI_leT, nI_leF, nI_eqT, nI_eqF, nI_nM, nM_nI, nM_eq, nM_lt, nM_le, nI_ltM, nI_leM, nI_inT, nI_dec, pk_rem, nI_ltI, nI_leI, nI_eq, nI_clamp, Nat.add_assoc, q_bv51, Nat.add_left_cancel_iff, nb_nI, k29, l_48600, l_162000]
  obtain ⟨k30, P30', s30', u30', i30'⟩ := mdp_step 48 50 1000 P29 (by decide)
  obtain ⟨g30, eg30⟩ : ∃ x, x = pR (nA g29 50 1000) 48 M (some (hN g29)) := ⟨_, rfl⟩
  rw [← eg30] at P30' s30' u30' i30'
  have P30 : mdp g30 M [(48, 29, 50, 1000), (47, 28, 50, 1000), (46, 27, 50, 24000), (42, 26, 50, 2100), (41, 25, 50, 81), (40, 24, 50, 162000), (39, 23, 50, 9), (38, 22, 50, 9), (37, 21, 50, 9), (36, 20, 50, 18), (33, 19, 50, 24), (31, 18, 50, 1400), (30, 17, 51, 18), (29, 16, 51, 18), (21, 15, 50, 24), (18, 14, 50, 420), (16, 13, 50, 2400), (14, 12, 50, 400), (12, 11, 50, 18), (11, 10, 50, 432), (9, 9, 50, 162), (8, 8, 50, 162), (7, 7, 50, 162), (6, 6, 50, 162), (5, 5, 50, 162), (4, 4, 51, 162), (3, 3, 50, 162), (2, 2, 50, 48600), (1, 1, 50, 48600)] := P30'
  have s30 := s29.tr s30'
  have u30 : hU g30 = hU h + 293763 := addU u30' u29 (by decide)
  have i30 : (∀ k, k ≠ 13 → hI g30 k M = nI 0) ∧ hI g30 13 M = nM 1 := ⟨fun k hk => by rw [i30']; exact i29.1 k hk, by rw [i30']; exact i29.2⟩
  have z30 : ev g mX11_init 248 [some (va_rf (some M))] [] g29 = ev g mX11_init 257 [some (va_rf (some M))] [] g30 := by
    rw [eg30]
    simp (decide := true) (disch := omega) only [e_X11_init_248, e_X11_init_249, e_X11_init_252, e_X11_init_254, ↓reduceIte, if_true, if_false, reduceCtorEq, Nat.reduceAdd, true_and, and_true, false_and, and_false, true_or, or_true, false_or, or_false, not_true_eq_false, not_false_eq_true, Option.bind_eq_bind, Option.bind_some, psh, eq_self, l_0, l_1, l_2, l_3, l_4, l_5, l_6, l_7, l_8, l_9, l_10, l_11, l_12, l_13, l_14, l_15, l_16, l_17, l_18, l_19, l_20, l_24, l_31, l_32, l_33, l_35, l_36, l_48, l_56, l_57, l_58, l_63, l_65, l_80, l_81, l_90, l_91, l_93, l_94, l_95, l_97, l_100, l_105, l_107, l_110, l_111, l_116, l_120, l_121, l_122, l_123, l_124, l_125, l_126, l_162, l_255, l_300, l_400, l_420, l_432, l_1000, l_1400, l_1936, l_2000, l_2100, l_2400, l_24000, m_n1, m_n2, m_n3, nI_mul, nI_add, nI_sub, nI_ltT, nI_ltF, nI_leT, nI_leF, nI_eqT, nI_eqF, nI_nM, nM_nI, nM_eq, nM_lt, nM_le, nI_ltM, nI_leM, nI_inT, nI_dec, pk_rem, nI_ltI, nI_leI, nI_eq, nI_clamp, Nat.add_assoc, q_bv51, Nat.add_left_cancel_iff, nb_nI, k30, l_48600, l_162000]
  refine ⟨g30, ?_, sm_new s30 (fun x hx z => by omega), P30.2.1, u30, ⟨P30.1, fun e he => ?_⟩, i30.1, i30.2, fun i => ?_⟩
  · rw [n_X11_init, ← eg0, z0, z1, z2, z3, z4, z5, z6, z7, z8, z9, z10, z11, z12, z13, z14, z15, z16, z17, z18, z19, z20, z21, z22, z23, z24, z25, z26, z27, z28, z29, z30]
    simp (decide := true) (disch := omega) only [e_X11_init_257, ↓reduceIte, if_true, if_false, reduceCtorEq, Nat.reduceAdd, true_and, and_true, false_and, and_false, true_or, or_true, false_or, or_false, not_true_eq_false, not_false_eq_true, Option.bind_eq_bind, Option.bind_some, psh, eq_self, l_0, l_1, l_2, l_3, l_4, l_5, l_6, l_7, l_8, l_9, l_10, l_11, l_12, l_13, l_14, l_15, l_16, l_17, l_18, l_19, l_20, l_24, l_31, l_32, l_33, l_35, l_36, l_48, l_56, l_57, l_58, l_63, l_65, l_80, l_81, l_90, l_91, l_93, l_94, l_95, l_97, l_100, l_105, l_107, l_110, l_111, l_116, l_120, l_121, l_122, l_123, l_124, l_125, l_126, l_162, l_255, l_300, l_400, l_420, l_432, l_1000, l_1400, l_1936, l_2000, l_2100, l_2400, l_24000, m_n1, m_n2, m_n3, nI_mul, nI_add, nI_sub, nI_ltT, nI_ltF, nI_leT, nI_leF, nI_eqT, nI_eqF, nI_nM, nM_nI, nM_eq, nM_lt, nM_le, nI_ltM, nI_leM, nI_inT, nI_dec, pk_rem, nI_ltI, nI_leI, nI_eq, nI_clamp, Nat.add_assoc, q_bv51, Nat.add_left_cancel_iff]
  · have hm : ∀ e ∈ mtab, e ∈ [(48, 29, 50, 1000), (47, 28, 50, 1000), (46, 27, 50, 24000), (42, 26, 50, 2100), (41, 25, 50, 81), (40, 24, 50, 162000), (39, 23, 50, 9), (38, 22, 50, 9), (37, 21, 50, 9), (36, 20, 50, 18), (33, 19, 50, 24), (31, 18, 50, 1400), (30, 17, 51, 18), (29, 16, 51, 18), (21, 15, 50, 24), (18, 14, 50, 420), (16, 13, 50, 2400), (14, 12, 50, 400), (12, 11, 50, 18), (11, 10, 50, 432), (9, 9, 50, 162), (8, 8, 50, 162), (7, 7, 50, 162), (6, 6, 50, 162), (5, 5, 50, 162), (4, 4, 51, 162), (3, 3, 50, 162), (2, 2, 50, 48600), (1, 1, 50, 48600)] := by decide
    obtain ⟨⟨q1, q2, q3, -⟩, -⟩ := P30.2.2 e (hm e he)
    exact ⟨q1, q2, q3⟩
  · exact (P30.2.2 (30, 17, 51, 18) (by decide)).1.2.2.2 i
