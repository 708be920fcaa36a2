/-! PageWeb$Maker: makeShowing -/
def kT (h : PH) (X T : Nat) (pl : List Nat) (st : St) : Prop := (hI h 6 (X + 15) = nI T ∧ ∀ p, p < 16 → hA h (X + 22) p = bI (decide (p ∈ pl))) ∧ match st with
  | none => (∃ l o, rw_ h (X + 16) (X + 17) 2000 2000 l o) ∧ hI h 8 (X + 15) = nI 1
  | some (acc, sh) => rw_ h (X + 16) (X + 17) 2000 2000 acc (nI 0) ∧ hI h 7 (X + 15) = nI sh ∧ hI h 8 (X + 15) = nI 0 ∧ sh ≤ 400
theorem kT.kp {h h' : PH} {X T : Nat} {pl : List Nat} {st : St} {P : Nat → Prop} (S : kT h X T pl st) (s : sm P h h') (dN : X + 57 ≤ hN h) (h15 : ¬ P (X + 15)) (h16 : ¬ P (X + 16)) (h17 : ¬ P (X + 17)) (h22 : ¬ P (X + 22)) : kT h' X T pl st := by
  obtain ⟨⟨t6, t22⟩, S3⟩ := S
  have i15 := ((s.2.2 (X + 15) (by omega)).2.2 h15).1
  have a22 := ((s.2.2 (X + 22) (by omega)).2.2 h22).2.2.2.1
  refine ⟨⟨by rw [i15]; exact t6, fun p hp => by rw [a22]; exact t22 p hp⟩, ?_⟩
  cases st with
  | none =>
    obtain ⟨⟨l, o, r⟩, h8⟩ := S3
    exact ⟨⟨l, o, r.keep s (by omega) (by omega) h16 h17⟩, by rw [i15]; exact h8⟩
  | some st =>
    obtain ⟨acc, sh⟩ := st
    obtain ⟨r, h7, h8, hs⟩ := S3
    exact ⟨r.keep s (by omega) (by omega) h16 h17, by rw [i15]; exact h7, by rw [i15]; exact h8, hs⟩
section
variable {g X T : Nat} {Q : Nat → Prop} {h : PH} {tp ou fo wl pl : List Nat} {hd : Option Nm} {a : Option Nat} {w : Wd}
/-- WORDS are cut back: the end of makeShowing -/
theorem k_cut_end {wb cap bd L : Nat} {l y : List Nat} {o : Int32} {st : St} {l1 l2 l3 l4 : Option Value} (I : cIk Q h X tp ou fo hd a w) (K : kW Q h X wb cap bd l o) (hl : l = wl ++ y) (S : kT h X T pl st) :
    ∃ h', ev g mX1_makeShowing 144 [some (va_rf (some (X + 15))), l1, l2, l3, l4, some (.int (nI wl.length))] [] h = some (none, h') ∧ mOK X wb cap wb cap h h' ∧ eK X L h h' ∧ cIk Q h' X tp ou fo hd a w ∧ kS Q h' X T wb cap bd wl pl st := by
  have d := I.1.1
  have dN := d.1
  have K0 := K
  obtain ⟨rK, k1, k2, k3, k4⟩ := K
  have hlen := rK.2.2.1
  have hle : l.length = wl.length + y.length := by rw [hl, List.length_append]
  obtain ⟨h1, e1, r1, s1, n1, u1⟩ := r_cut (g := g) (k := wl.length) rK (by omega)
  rw [hl, List.take_left' rfl] at r1
  have c1 : cfm X (fun x => x = X + 18) h h1 := cfm.of s1 dN (fun k hk => by unfold crO at hk; omega)
  have d1 := d.keep c1
  have S1 := S.kp s1 dN (by omega) (by omega) (by omega) (by omega)
  have key : ∃ v, ev g mX1_makeShowing 153 [some (va_rf (some (X + 15))), l1, l2, l3, l4, some (.int (nI wl.length))] [] h1 = some (none, pI h1 8 (X + 15) v) ∧ hI h1 8 (X + 15) = v := by
    cases st with
    | none =>
      obtain ⟨-, -, h8⟩ := S1
      refine ⟨nI 1, ?_, h8⟩
      simp (decide := true) (disch := omega) only [e_X1_makeShowing_153, e_X1_makeShowing_154, e_X1_makeShowing_155, e_X1_makeShowing_158, e_X1_makeShowing_161, e_X1_makeShowing_162, e_X1_makeShowing_165, e_X1_makeShowing_168, e_X1_makeShowing_171, e_X1_makeShowing_172, e_X1_makeShowing_175, e_X1_makeShowing_176, e_X1_makeShowing_179, ↓reduceIte, if_true, if_false, reduceCtorEq, Nat.reduceAdd, true_and, and_true, false_and, and_false, true_or, or_true, false_or, or_false, not_true_eq_false, not_false_eq_true, Option.bind_eq_bind, Option.bind_some, psh, eq_self, l_0, l_1, l_2, l_3, l_4, l_5, l_6, l_7, l_8, l_9, l_10, l_11, l_12, l_13, l_14, l_15, l_16, l_17, l_18, l_19, l_20, l_24, l_31, l_32, l_33, l_35, l_36, l_48, l_56, l_57, l_58, l_63, l_65, l_80, l_81, l_90, l_91, l_93, l_94, l_95, l_97, l_100, l_105, l_107, l_110, l_111, l_116, l_120, l_121, l_122, l_123, l_124, l_125, l_126, l_162, l_255, l_300, l_400, l_420, l_432, l_1000, l_1400, l_1936, l_2000, l_2100, l_2400, l_24000, m_n1, m_n2, m_n3, nI_mul, nI_add, nI_sub, nI_ltT, nI_ltF, nI_leT, nI_leF, nI_eqT, nI_eqF, nI_nM, nM_nI, nM_eq, nM_lt, nM_le, nI_ltM, nI_leM, nI_inT, nI_dec, pk_rem, nI_ltI, nI_leI, nI_eq, nI_clamp, Nat.add_assoc, q_bv51, Nat.add_left_cancel_iff, clK_0 d1, clK_1 d1, clK_3 d1, clK_5 d1, clK_7 d1, clK_8 d1, clK_9 d1, clK_11 d1, clK_12 d1, clK_13 d1, clK_14 d1, clK_15 d1, clK_16 d1, clK_18 d1, clK_20 d1, clK_21 d1, clK_22 d1, clK_23 d1, clK_24 d1, clK_25 d1, clK_26 d1, clR_0_0 d1, clR_1_0 d1, clR_2_0 d1, clR_3_0 d1, clR_7_0 d1, clR_8_0 d1, clR_9_0 d1, clR_10_0 d1, clR_11_0 d1, clR_0_8 d1, clR_0_11 d1, clR_1_11 d1, clR_2_11 d1, clR_0_15 d1, clR_1_15 d1, clR_2_15 d1, clR_3_15 d1, clR_4_15 d1, clR_5_15 d1, clR_0_23 d1, clR_1_23 d1, clR_0_25 d1, clL_7 d1, clL_12 d1, clL_13 d1, clL_14 d1, clL_20 d1, clL_21 d1, clL_22 d1, clL_24 d1, clS_0 d1, clS_1 d1, clS_2 d1, clS_3 d1, h8]
    | some st =>
      obtain ⟨acc, sh⟩ := st
      obtain ⟨-, r, h7, h8, hs⟩ := S1
      have k6 := r.1.1
      have o3 := r.2.1.2.2
      refine ⟨nI 0, ?_, h8⟩
      simp (decide := true) (disch := omega) only [e_X1_makeShowing_153, e_X1_makeShowing_154, e_X1_makeShowing_155, e_X1_makeShowing_158, e_X1_makeShowing_161, e_X1_makeShowing_162, e_X1_makeShowing_165, e_X1_makeShowing_168, e_X1_makeShowing_171, e_X1_makeShowing_172, e_X1_makeShowing_175, e_X1_makeShowing_176, e_X1_makeShowing_179, ↓reduceIte, if_true, if_false, reduceCtorEq, Nat.reduceAdd, true_and, and_true, false_and, and_false, true_or, or_true, false_or, or_false, not_true_eq_false, not_false_eq_true, Option.bind_eq_bind, Option.bind_some, psh, eq_self, l_0, l_1, l_2, l_3, l_4, l_5, l_6, l_7, l_8, l_9, l_10, l_11, l_12, l_13, l_14, l_15, l_16, l_17, l_18, l_19, l_20, l_24, l_31, l_32, l_33, l_35, l_36, l_48, l_56, l_57, l_58, l_63, l_65, l_80, l_81, l_90, l_91, l_93, l_94, l_95, l_97, l_100, l_105, l_107, l_110, l_111, l_116, l_120, l_121, l_122, l_123, l_124, l_125, l_126, l_162, l_255, l_300, l_400, l_420, l_432, l_1000, l_1400, l_1936, l_2000, l_2100, l_2400, l_24000, m_n1, m_n2, m_n3, nI_mul, nI_add, nI_sub, nI_ltT, nI_ltF, nI_leT, nI_leF, nI_eqT, nI_eqF, nI_nM, nM_nI, nM_eq, nM_lt, nM_le, nI_ltM, nI_leM, nI_inT, nI_dec, pk_rem, nI_ltI, nI_leI, nI_eq, nI_clamp, Nat.add_assoc, q_bv51, Nat.add_left_cancel_iff, clK_0 d1, clK_1 d1, clK_3 d1, clK_5 d1, clK_7 d1, clK_8 d1, clK_9 d1, clK_11 d1, clK_12 d1, clK_13 d1, clK_14 d1, clK_15 d1, clK_16 d1, clK_18 d1, clK_20 d1, clK_21 d1, clK_22 d1, clK_23 d1, clK_24 d1, clK_25 d1, clK_26 d1, clR_0_0 d1, clR_1_0 d1, clR_2_0 d1, clR_3_0 d1, clR_7_0 d1, clR_8_0 d1, clR_9_0 d1, clR_10_0 d1, clR_11_0 d1, clR_0_8 d1, clR_0_11 d1, clR_1_11 d1, clR_2_11 d1, clR_0_15 d1, clR_1_15 d1, clR_2_15 d1, clR_3_15 d1, clR_4_15 d1, clR_5_15 d1, clR_0_23 d1, clR_1_23 d1, clR_0_25 d1, clL_7 d1, clL_12 d1, clL_13 d1, clL_14 d1, clL_20 d1, clL_21 d1, clL_22 d1, clL_24 d1, clS_0 d1, clS_1 d1, clS_2 d1, clS_3 d1, h8, k6, o3]
  obtain ⟨v, e2, hv⟩ := key
  have c2 : cfm X (kF' X wb) h (pI h1 8 (X + 15) v) := (c1.mono (fun x _ z => by unfold kF'; omega)).tr (cfm.pI _ _ (Or.inl rfl))
  have same : ∀ k, hI (pI h1 8 (X + 15) v) k (X + 15) = hI h1 k (X + 15) := fun k => by
    rw [u_II]
    by_cases z : k = 8
    · rw [if_pos z, if_pos rfl, z, hv]
    · rw [if_neg z]
  have s3 : sm (fun x => x = X + 15) h1 (pI h1 8 (X + 15) v) := sm.I1 _ _
  have s2 : sm (fun x => x = X + 18 ∨ x = X + 15) h (pI h1 8 (X + 15) v) := (s1.mono (fun x _ z => Or.inl z)).tr (sm.I _ _ (Or.inr rfl))
  refine ⟨pI h1 8 (X + 15) v, ?_, mOK.of c2 n1 u1, eK.of s2 dN (by omega) (by omega), I.kp K0 c2, ⟨r1.keep s3 (by omega) (by omega) (by omega) (by omega), k1, by show wb < hN h1; omega, k3, k4⟩, ?_⟩
  · rw [← e2]
    simp (decide := true) (disch := omega) only [e_X1_makeShowing_144, e_X1_makeShowing_145, e_X1_makeShowing_148, e_X1_makeShowing_150, ↓reduceIte, if_true, if_false, reduceCtorEq, Nat.reduceAdd, true_and, and_true, false_and, and_false, true_or, or_true, false_or, or_false, not_true_eq_false, not_false_eq_true, Option.bind_eq_bind, Option.bind_some, psh, eq_self, l_0, l_1, l_2, l_3, l_4, l_5, l_6, l_7, l_8, l_9, l_10, l_11, l_12, l_13, l_14, l_15, l_16, l_17, l_18, l_19, l_20, l_24, l_31, l_32, l_33, l_35, l_36, l_48, l_56, l_57, l_58, l_63, l_65, l_80, l_81, l_90, l_91, l_93, l_94, l_95, l_97, l_100, l_105, l_107, l_110, l_111, l_116, l_120, l_121, l_122, l_123, l_124, l_125, l_126, l_162, l_255, l_300, l_400, l_420, l_432, l_1000, l_1400, l_1936, l_2000, l_2100, l_2400, l_24000, m_n1, m_n2, m_n3, nI_mul, nI_add, nI_sub, nI_ltT, nI_ltF, nI_leT, nI_leF, nI_eqT, nI_eqF, nI_nM, nM_nI, nM_eq, nM_lt, nM_le, nI_ltM, nI_leM, nI_inT, nI_dec, pk_rem, nI_ltI, nI_leI, nI_eq, nI_clamp, Nat.add_assoc, q_bv51, Nat.add_left_cancel_iff, clK_0 d, clK_1 d, clK_3 d, clK_5 d, clK_7 d, clK_8 d, clK_9 d, clK_11 d, clK_12 d, clK_13 d, clK_14 d, clK_15 d, clK_16 d, clK_18 d, clK_20 d, clK_21 d, clK_22 d, clK_23 d, clK_24 d, clK_25 d, clK_26 d, clR_0_0 d, clR_1_0 d, clR_2_0 d, clR_3_0 d, clR_7_0 d, clR_8_0 d, clR_9_0 d, clR_10_0 d, clR_11_0 d, clR_0_8 d, clR_0_11 d, clR_1_11 d, clR_2_11 d, clR_0_15 d, clR_1_15 d, clR_2_15 d, clR_3_15 d, clR_4_15 d, clR_5_15 d, clR_0_23 d, clR_1_23 d, clR_0_25 d, clL_7 d, clL_12 d, clL_13 d, clL_14 d, clL_20 d, clL_21 d, clL_22 d, clL_24 d, clS_0 d, clS_1 d, clS_2 d, clS_3 d, e1]
  · obtain ⟨⟨t6, t22⟩, S3⟩ := S1
    refine ⟨⟨by rw [same]; exact t6, t22⟩, ?_⟩
    cases st with
    | none =>
      obtain ⟨⟨l, o, r⟩, h8⟩ := S3
      exact ⟨⟨l, o, r.keep s3 (by omega) (by omega) (by omega) (by omega)⟩, by rw [same]; exact h8⟩
    | some st =>
      obtain ⟨acc, sh⟩ := st
      obtain ⟨r, h7, h8, hs⟩ := S3
      exact ⟨r.keep s3 (by omega) (by omega) (by omega) (by omega), by rw [same]; exact h7, by rw [same]; exact h8, hs⟩
/-- make() once all is SPENT -/
theorem k_make_spent {wb cap bd p c dp L : Nat} {l : List Nat} {o : Int32} (hT : T ≤ w.1) (hdp : dp < 8) (hp : p < w.2.2.1) (hc : thr w.2.1 p T = some c) (hpl : ¬ p ∈ pl) (I : cIk Q h X tp ou fo hd a w) (K : kW Q h X wb cap bd l o) (S : kT h X T pl none) :
    ∃ h', cal g mX1_make [va_rf (some (X + 15)), .int (nI p), .int (nI dp)] h = some (none, h') ∧ mOK X wb cap wb cap h h' ∧ eK X L h h' ∧ cIk Q h' X tp ou fo hd a w ∧ kW Q h' X wb cap bd l o ∧ kT h' X T pl none := by
  have d := I.1.1
  have dN := d.1
  have W := I.1.2.2.1
  have hnn := W.1.2.2.2
  have et := w_there (g := g) (x := nI p) d W hT
  have aT := adr_thI (x := nI p) W hT
  rw [thI_nI hp (by omega), hc] at et aT
  obtain ⟨v, b1, ⟨⟨qv, k0, -⟩, ⟨tb, t1, ⟨qt, k8⟩, ⟨ra, rb', r1, r2, r3, r4⟩, T1, -⟩, -⟩, -⟩ := aT
  rw [b1] at et
  have K0 := K
  obtain ⟨rK, k1, k2, k3, k4⟩ := K
  have h6 := S.1.1
  have h8 := S.2.2
  have hQ := I.1.2.1
  have s1 : sm (fun x => x = X + 22) h (pA h (X + 22) (upd (hA h (X + 22)) p (nI 1))) := sm.A1 _ _
  have c1 : cfm X (kF' X wb) h (pA h (X + 22) (upd (hA h (X + 22)) p (nI 1))) := cfm.pA _ _ (by unfold kF'; omega)
  have d1 := d.keep c1
  have c2 : cfm X (kF' X wb) h (pA (pA h (X + 22) (upd (hA h (X + 22)) p (nI 1))) (X + 22) (upd (hA (pA h (X + 22) (upd (hA h (X + 22)) p (nI 1))) (X + 22)) p (nI 0))) := c1.tr (cfm.pA _ _ (by unfold kF'; omega))
  have s2 : sm (fun x => x = X + 22) h (pA (pA h (X + 22) (upd (hA h (X + 22)) p (nI 1))) (X + 22) (upd (hA (pA h (X + 22) (upd (hA h (X + 22)) p (nI 1))) (X + 22)) p (nI 0))) := s1.tr (sm.A (P := fun x => x = X + 22) _ _ rfl)
  refine ⟨_, ?_, mOK.of c2 rfl rfl, eK.of s2 dN (by omega) (by omega), I.kp K0 c2, ⟨rK.keep s2 (by omega) k2 (by omega) (by omega), k1, k2, k3, k4⟩, ?_⟩
  · have h8' : hI (pA h (X + 22) (upd (hA h (X + 22)) p (nI 1))) 8 (X + 15) = nI 1 := h8
    have k0' : hK (pA h (X + 22) (upd (hA h (X + 22)) p (nI 1))) v = 0 := k0
    have k8' : hK (pA h (X + 22) (upd (hA h (X + 22)) p (nI 1))) tb = 8 := k8
    have t1' : hR (pA h (X + 22) (upd (hA h (X + 22)) p (nI 1))) 3 v = some tb := t1
    rw [n_X1_make]
    have hd : ∃ l5, ev g mX1_make 0 [some (va_rf (some (X + 15))), some (.int (nI p)), some (.int (nI dp)), none, none, none] [] h = ev g mX1_make 58 [some (va_rf (some (X + 15))), some (.int (nI p)), some (.int (nI dp)), some (va_rf (some v)), some (va_rf (hR h 0 tb)), some (va_rf l5)] [] (pA h (X + 22) (upd (hA h (X + 22)) p (nI 1))) := by
      refine ⟨hR h 1 tb, ?_⟩
      simp (decide := true) (disch := omega) only [e_X1_make_0, e_X1_make_1, e_X1_make_4, e_X1_make_5, e_X1_make_6, e_X1_make_9, e_X1_make_12, e_X1_make_13, e_X1_make_14, e_X1_make_17, e_X1_make_18, e_X1_make_19, e_X1_make_22, e_X1_make_23, e_X1_make_26, e_X1_make_27, e_X1_make_29, e_X1_make_32, e_X1_make_33, e_X1_make_34, e_X1_make_37, e_X1_make_38, e_X1_make_39, e_X1_make_40, e_X1_make_41, e_X1_make_44, e_X1_make_47, e_X1_make_49, e_X1_make_50, e_X1_make_53, e_X1_make_56, ↓reduceIte, if_true, if_false, reduceCtorEq, Nat.reduceAdd, true_and, and_true, false_and, and_false, true_or, or_true, false_or, or_false, not_true_eq_false, not_false_eq_true, Option.bind_eq_bind, Option.bind_some, psh, eq_self, l_0, l_1, l_2, l_3, l_4, l_5, l_6, l_7, l_8, l_9, l_10, l_11, l_12, l_13, l_14, l_15, l_16, l_17, l_18, l_19, l_20, l_24, l_31, l_32, l_33, l_35, l_36, l_48, l_56, l_57, l_58, l_63, l_65, l_80, l_81, l_90, l_91, l_93, l_94, l_95, l_97, l_100, l_105, l_107, l_110, l_111, l_116, l_120, l_121, l_122, l_123, l_124, l_125, l_126, l_162, l_255, l_300, l_400, l_420, l_432, l_1000, l_1400, l_1936, l_2000, l_2100, l_2400, l_24000, m_n1, m_n2, m_n3, nI_mul, nI_add, nI_sub, nI_ltT, nI_ltF, nI_leT, nI_leF, nI_eqT, nI_eqF, nI_nM, nM_nI, nM_eq, nM_lt, nM_le, nI_ltM, nI_leM, nI_inT, nI_dec, pk_rem, nI_ltI, nI_leI, nI_eq, nI_clamp, Nat.add_assoc, q_bv51, Nat.add_left_cancel_iff, clK_0 d, clK_1 d, clK_3 d, clK_5 d, clK_7 d, clK_8 d, clK_9 d, clK_11 d, clK_12 d, clK_13 d, clK_14 d, clK_15 d, clK_16 d, clK_18 d, clK_20 d, clK_21 d, clK_22 d, clK_23 d, clK_24 d, clK_25 d, clK_26 d, clR_0_0 d, clR_1_0 d, clR_2_0 d, clR_3_0 d, clR_7_0 d, clR_8_0 d, clR_9_0 d, clR_10_0 d, clR_11_0 d, clR_0_8 d, clR_0_11 d, clR_1_11 d, clR_2_11 d, clR_0_15 d, clR_1_15 d, clR_2_15 d, clR_3_15 d, clR_4_15 d, clR_5_15 d, clR_0_23 d, clR_1_23 d, clR_0_25 d, clL_7 d, clL_12 d, clL_13 d, clL_14 d, clL_20 d, clL_21 d, clL_22 d, clL_24 d, clS_0 d, clS_1 d, clS_2 d, clS_3 d, h6, et, reduceCtorEq, clK_0 d1, clK_1 d1, clK_3 d1, clK_5 d1, clK_7 d1, clK_8 d1, clK_9 d1, clK_11 d1, clK_12 d1, clK_13 d1, clK_14 d1, clK_15 d1, clK_16 d1, clK_18 d1, clK_20 d1, clK_21 d1, clK_22 d1, clK_23 d1, clK_24 d1, clK_25 d1, clK_26 d1, clR_0_0 d1, clR_1_0 d1, clR_2_0 d1, clR_3_0 d1, clR_7_0 d1, clR_8_0 d1, clR_9_0 d1, clR_10_0 d1, clR_11_0 d1, clR_0_8 d1, clR_0_11 d1, clR_1_11 d1, clR_2_11 d1, clR_0_15 d1, clR_1_15 d1, clR_2_15 d1, clR_3_15 d1, clR_4_15 d1, clR_5_15 d1, clR_0_23 d1, clR_1_23 d1, clR_0_25 d1, clL_7 d1, clL_12 d1, clL_13 d1, clL_14 d1, clL_20 d1, clL_21 d1, clL_22 d1, clL_24 d1, clS_0 d1, clS_1 d1, clS_2 d1, clS_3 d1, k0', t1', k8', u_hR_pA]
    obtain ⟨l5, hd⟩ := hd
    rw [hd, e_X1_make_58]
    cases l5 with
    | none => simp (decide := true) (disch := omega) only [e_X1_make_60, e_X1_make_63, e_X1_make_64, e_X1_make_67, e_X1_make_70, e_X1_make_72, e_X1_make_75, e_X1_make_76, e_X1_make_79, e_X1_make_80, e_X1_make_82, e_X1_make_84, e_X1_make_85, e_X1_make_88, e_X1_make_91, e_X1_make_93, e_X1_make_96, e_X1_make_99, e_X1_make_100, e_X1_make_101, e_X1_make_104, e_X1_make_106, e_X1_make_108, e_X1_make_111, e_X1_make_113, e_X1_make_116, e_X1_make_117, e_X1_make_120, e_X1_make_122, e_X1_make_125, e_X1_make_127, e_X1_make_130, e_X1_make_131, e_X1_make_134, e_X1_make_135, e_X1_make_136, e_X1_make_137, ↓reduceIte, if_true, if_false, reduceCtorEq, Nat.reduceAdd, true_and, and_true, false_and, and_false, true_or, or_true, false_or, or_false, not_true_eq_false, not_false_eq_true, Option.bind_eq_bind, Option.bind_some, psh, eq_self, l_0, l_1, l_2, l_3, l_4, l_5, l_6, l_7, l_8, l_9, l_10, l_11, l_12, l_13, l_14, l_15, l_16, l_17, l_18, l_19, l_20, l_24, l_31, l_32, l_33, l_35, l_36, l_48, l_56, l_57, l_58, l_63, l_65, l_80, l_81, l_90, l_91, l_93, l_94, l_95, l_97, l_100, l_105, l_107, l_110, l_111, l_116, l_120, l_121, l_122, l_123, l_124, l_125, l_126, l_162, l_255, l_300, l_400, l_420, l_432, l_1000, l_1400, l_1936, l_2000, l_2100, l_2400, l_24000, m_n1, m_n2, m_n3, nI_mul, nI_add, nI_sub, nI_ltT, nI_ltF, nI_leT, nI_leF, nI_eqT, nI_eqF, nI_nM, nM_nI, nM_eq, nM_lt, nM_le, nI_ltM, nI_leM, nI_inT, nI_dec, pk_rem, nI_ltI, nI_leI, nI_eq, nI_clamp, Nat.add_assoc, q_bv51, Nat.add_left_cancel_iff, clK_0 d1, clK_1 d1, clK_3 d1, clK_5 d1, clK_7 d1, clK_8 d1, clK_9 d1, clK_11 d1, clK_12 d1, clK_13 d1, clK_14 d1, clK_15 d1, clK_16 d1, clK_18 d1, clK_20 d1, clK_21 d1, clK_22 d1, clK_23 d1, clK_24 d1, clK_25 d1, clK_26 d1, clR_0_0 d1, clR_1_0 d1, clR_2_0 d1, clR_3_0 d1, clR_7_0 d1, clR_8_0 d1, clR_9_0 d1, clR_10_0 d1, clR_11_0 d1, clR_0_8 d1, clR_0_11 d1, clR_1_11 d1, clR_2_11 d1, clR_0_15 d1, clR_1_15 d1, clR_2_15 d1, clR_3_15 d1, clR_4_15 d1, clR_5_15 d1, clR_0_23 d1, clR_1_23 d1, clR_0_25 d1, clL_7 d1, clL_12 d1, clL_13 d1, clL_14 d1, clL_20 d1, clL_21 d1, clL_22 d1, clL_24 d1, clS_0 d1, clS_1 d1, clS_2 d1, clS_3 d1, reduceCtorEq]
    | some z => simp (decide := true) (disch := omega) only [e_X1_make_60, e_X1_make_63, e_X1_make_64, e_X1_make_67, e_X1_make_70, e_X1_make_72, e_X1_make_75, e_X1_make_76, e_X1_make_79, e_X1_make_80, e_X1_make_82, e_X1_make_84, e_X1_make_85, e_X1_make_88, e_X1_make_91, e_X1_make_93, e_X1_make_96, e_X1_make_99, e_X1_make_100, e_X1_make_101, e_X1_make_104, e_X1_make_106, e_X1_make_108, e_X1_make_111, e_X1_make_113, e_X1_make_116, e_X1_make_117, e_X1_make_120, e_X1_make_122, e_X1_make_125, e_X1_make_127, e_X1_make_130, e_X1_make_131, e_X1_make_134, e_X1_make_135, e_X1_make_136, e_X1_make_137, ↓reduceIte, if_true, if_false, reduceCtorEq, Nat.reduceAdd, true_and, and_true, false_and, and_false, true_or, or_true, false_or, or_false, not_true_eq_false, not_false_eq_true, Option.bind_eq_bind, Option.bind_some, psh, eq_self, l_0, l_1, l_2, l_3, l_4, l_5, l_6, l_7, l_8, l_9, l_10, l_11, l_12, l_13, l_14, l_15, l_16, l_17, l_18, l_19, l_20, l_24, l_31, l_32, l_33, l_35, l_36, l_48, l_56, l_57, l_58, l_63, l_65, l_80, l_81, l_90, l_91, l_93, l_94, l_95, l_97, l_100, l_105, l_107, l_110, l_111, l_116, l_120, l_121, l_122, l_123, l_124, l_125, l_126, l_162, l_255, l_300, l_400, l_420, l_432, l_1000, l_1400, l_1936, l_2000, l_2100, l_2400, l_24000, m_n1, m_n2, m_n3, nI_mul, nI_add, nI_sub, nI_ltT, nI_ltF, nI_leT, nI_leF, nI_eqT, nI_eqF, nI_nM, nM_nI, nM_eq, nM_lt, nM_le, nI_ltM, nI_leM, nI_inT, nI_dec, pk_rem, nI_ltI, nI_leI, nI_eq, nI_clamp, Nat.add_assoc, q_bv51, Nat.add_left_cancel_iff, clK_0 d1, clK_1 d1, clK_3 d1, clK_5 d1, clK_7 d1, clK_8 d1, clK_9 d1, clK_11 d1, clK_12 d1, clK_13 d1, clK_14 d1, clK_15 d1, clK_16 d1, clK_18 d1, clK_20 d1, clK_21 d1, clK_22 d1, clK_23 d1, clK_24 d1, clK_25 d1, clK_26 d1, clR_0_0 d1, clR_1_0 d1, clR_2_0 d1, clR_3_0 d1, clR_7_0 d1, clR_8_0 d1, clR_9_0 d1, clR_10_0 d1, clR_11_0 d1, clR_0_8 d1, clR_0_11 d1, clR_1_11 d1, clR_2_11 d1, clR_0_15 d1, clR_1_15 d1, clR_2_15 d1, clR_3_15 d1, clR_4_15 d1, clR_5_15 d1, clR_0_23 d1, clR_1_23 d1, clR_0_25 d1, clL_7 d1, clL_12 d1, clL_13 d1, clL_14 d1, clL_20 d1, clL_21 d1, clL_22 d1, clL_24 d1, clS_0 d1, clS_1 d1, clS_2 d1, clS_3 d1, reduceCtorEq, h8']
  · obtain ⟨⟨t6, t22⟩, ⟨lm, om, rm⟩, t8⟩ := S
    refine ⟨⟨t6, fun x hx => ?_⟩, ⟨lm, om, rm.keep s2 (by omega) (by omega) (by omega) (by omega)⟩, t8⟩
    rw [u_AA, if_pos rfl]
    by_cases z : x = p
    · rw [z, upd_at, decide_eq_false hpl, bI_f]
    · rw [upd_ne z, u_AA, if_pos rfl, upd_ne z]
      exact t22 x hx
end
