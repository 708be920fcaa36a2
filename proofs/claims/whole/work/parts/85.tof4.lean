/-! PageWeb$Reader: textOf -/
theorem c_tinit {g a : Nat} {r : Option Nat} {h : PH} (ha : hK h a = 8) :
    ∃ h', cal g mX8_init [va_rf (some a), va_rf r] h = some (none, h') ∧ sm (fun x => x = a) h h' ∧ hN h' = hN h ∧ hU h' = hU h ∧ hR h' 0 a = r ∧ hR h' 1 a = none ∧ hR h' 2 a = none ∧ hR h' 3 a = none := by
  rw [n_X8_init]
  simp (decide := true) only [e_X8_init_0, e_X8_init_1, e_X8_init_4, e_X8_init_5, e_X8_init_6, e_X8_init_9, e_X8_init_10, e_X8_init_11, e_X8_init_14, e_X8_init_15, e_X8_init_16, e_X8_init_19, e_X8_init_20, e_X8_init_21, e_X8_init_24, ha, ↓reduceIte, if_true, if_false, reduceCtorEq, Nat.reduceAdd, true_and, and_true, false_and, and_false, true_or, or_true, false_or, or_false, not_true_eq_false, not_false_eq_true, Option.bind_eq_bind, Option.bind_some, psh, eq_self, u_hN_pI, u_hU_pI, u_hK_pI, u_hL_pI, u_hR_pI, u_hJ_pI, u_hA_pI, u_hB_pI, u_hS_pI, u_hN_pR, u_hU_pR, u_hK_pR, u_hL_pR, u_hI_pR, u_hJ_pR, u_hA_pR, u_hB_pR, u_hS_pR, u_hN_pJ, u_hU_pJ, u_hK_pJ, u_hL_pJ, u_hI_pJ, u_hR_pJ, u_hA_pJ, u_hB_pJ, u_hS_pJ, u_hN_pA, u_hU_pA, u_hK_pA, u_hL_pA, u_hI_pA, u_hR_pA, u_hJ_pA, u_hB_pA, u_hS_pA, u_hN_pB, u_hU_pB, u_hK_pB, u_hL_pB, u_hI_pB, u_hR_pB, u_hJ_pB, u_hA_pB, u_hS_pB, u_hL_nO, u_hA_nO, u_hB_nO, u_hS_nO, u_hI_nA, u_hR_nA, u_hJ_nA, u_hS_nA, u_II, u_RR, u_JJ, u_AA, u_BB, u_NO, u_UO, u_KO, u_IO, u_RO, u_JO, u_NN, u_UN, u_KN, u_LN, u_AN, u_BN]
  refine ⟨_, rfl, ((((sm.R1 _ _).tr (sm.R1 _ _)).tr (sm.R1 _ _)).tr (sm.R1 _ _)), rfl, rfl, ?_, ?_, ?_, ?_⟩
  all_goals simp (decide := true) only [u_hN_pI, u_hU_pI, u_hK_pI, u_hL_pI, u_hR_pI, u_hJ_pI, u_hA_pI, u_hB_pI, u_hS_pI, u_hN_pR, u_hU_pR, u_hK_pR, u_hL_pR, u_hI_pR, u_hJ_pR, u_hA_pR, u_hB_pR, u_hS_pR, u_hN_pJ, u_hU_pJ, u_hK_pJ, u_hL_pJ, u_hI_pJ, u_hR_pJ, u_hA_pJ, u_hB_pJ, u_hS_pJ, u_hN_pA, u_hU_pA, u_hK_pA, u_hL_pA, u_hI_pA, u_hR_pA, u_hJ_pA, u_hB_pA, u_hS_pA, u_hN_pB, u_hU_pB, u_hK_pB, u_hL_pB, u_hI_pB, u_hR_pB, u_hJ_pB, u_hA_pB, u_hS_pB, u_hL_nO, u_hA_nO, u_hB_nO, u_hS_nO, u_hI_nA, u_hR_nA, u_hJ_nA, u_hS_nA, u_II, u_RR, u_JJ, u_AA, u_BB, u_NO, u_UO, u_KO, u_IO, u_RO, u_JO, u_NN, u_UN, u_KN, u_LN, u_AN, u_BN, if_true, if_false]
/-- what a plain run, and a token behind it, are -/
theorem pts_at {t : List Nat} {b i : Nat} (h1 : b ≤ i) (h2 : i ≤ t.length) (h3 : ∀ k, b ≤ k → k < i → tok t k = none) (h4 : i < t.length → tok t i ≠ none) : pts t t.length b = (if b < i then [(2, b, i, i, none)] else []) ++ pts t t.length i := by
  by_cases c : b < i
  · rw [if_pos c]
    obtain ⟨L, hL⟩ : ∃ L, t.length = L + 1 := ⟨t.length - 1, by omega⟩
    have e1 : pts t t.length b = pts t (L + 1) b := by rw [hL]
    have e2 : pln t t.length b = i := pln_run (by omega) (by omega) h2 h3 h4
    rw [e1, pts, if_pos (by omega), h3 b (Nat.le_refl _) c, e2]
    simp only [List.singleton_append]
    rw [pts_fuel (k := L) (k' := t.length) (by omega) (by omega)]
  · have : b = i := by omega
    subst this
    rw [if_neg c, List.nil_append]
theorem pts_tok {t : List Nat} {i s j b : Nat} {q : Nm} (h : tok t i = some (s, j, b, q)) : pts t t.length i = (s - 1, i, j + 2, b, some q) :: pts t t.length (j + 2) := by
  have tl := tok_len h
  obtain ⟨L, hL⟩ : ∃ L, t.length = L + 1 := ⟨t.length - 1, by omega⟩
  have e1 : pts t t.length i = pts t (L + 1) i := by rw [hL]
  rw [e1, pts, if_pos (by omega), h]
  simp only
  rw [pts_fuel (k := L) (k' := t.length) (by omega) (by omega)]
theorem c_tof_loop {g X ra rb' a N0 : Nat} {t : List Nat} {l1 : Option Value} (ht : t.length ≤ 400) (ha1 : X + 57 ≤ ra) (hb1 : X + 57 ≤ rb') (hra : ra < a) (hrb : rb' < a) (haN : a < N0) :
    ∀ j i bh (es : List Pt) (Q : Nat → Prop) (h : PH) (l6 : Option Value), j + i = t.length → bh ≤ t.length → cl h X → (∃ z o, rw_ h (X + 9) (X + 10) 22 22 z o) → rw_ h ra rb' t.length t.length t 0 → bld N0 Q h a es → hR h 0 a = some ra → (∀ k, bh ≤ k → k < i → tok t k = none) → es ++ pts t t.length bh = ptl t →
    ∃ h' es' bh' Q' l6', ev g mX5_textOf 37 [some (va_rf (some (X + 8))), l1, some (va_rf (some ra)), some (va_rf (some a)), some (.int (nI bh)), some (.int (nI i)), l6] [] h = ev g mX5_textOf 98 [some (va_rf (some (X + 8))), l1, some (va_rf (some ra)), some (va_rf (some a)), some (.int (nI bh')), some (.int (nI t.length)), l6'] [] h' ∧ sm (fun x => rP (X + 9) (X + 10) x ∨ x = a ∨ N0 ≤ x) h h' ∧ (∃ z o, rw_ h' (X + 9) (X + 10) 22 22 z o) ∧ rw_ h' ra rb' t.length t.length t 0 ∧ bld N0 Q' h' a es' ∧ hR h' 0 a = some ra ∧ bh' ≤ t.length ∧ (∀ k, bh' ≤ k → k < t.length → tok t k = none) ∧ es' ++ pts t t.length bh' = ptl t ∧ hN h' ≤ hN h + 3 * j ∧ hU h' ≤ hU h + 30 * j := by
  intro j
  induction j with
  | zero =>
    intro i bh es Q h l6 hj hbh d hf r B h0 hno hpt
    have : i = t.length := by omega
    subst this
    have el := r_len (g := g) r
    have k6 := r.1.1
    refine ⟨h, es, bh, Q, l6, ?_, sm.rf _, hf, r, B, h0, hbh, hno, hpt, by omega, by omega⟩
    rw [e_X5_textOf_37]
    simp (decide := true) (disch := omega) only [e_X5_textOf_39, e_X5_textOf_40, e_X5_textOf_43, e_X5_textOf_46, e_X5_textOf_48, e_X5_textOf_50, e_X5_textOf_53, e_X5_textOf_54, e_X5_textOf_57, e_X5_textOf_58, e_X5_textOf_59, e_X5_textOf_61, e_X5_textOf_64, e_X5_textOf_66, e_X5_textOf_68, e_X5_textOf_71, e_X5_textOf_72, e_X5_textOf_74, e_X5_textOf_76, e_X5_textOf_79, e_X5_textOf_80, e_X5_textOf_82, e_X5_textOf_85, e_X5_textOf_87, e_X5_textOf_90, e_X5_textOf_92, e_X5_textOf_95, ↓reduceIte, if_true, if_false, reduceCtorEq, Nat.reduceAdd, true_and, and_true, false_and, and_false, true_or, or_true, false_or, or_false, not_true_eq_false, not_false_eq_true, Option.bind_eq_bind, Option.bind_some, psh, eq_self, l_0, l_1, l_2, l_3, l_4, l_5, l_6, l_7, l_8, l_9, l_10, l_11, l_12, l_13, l_14, l_15, l_16, l_17, l_18, l_19, l_20, l_24, l_31, l_32, l_33, l_35, l_36, l_48, l_56, l_57, l_58, l_63, l_65, l_80, l_81, l_90, l_91, l_93, l_94, l_95, l_97, l_100, l_105, l_107, l_110, l_111, l_116, l_120, l_121, l_122, l_123, l_124, l_125, l_126, l_162, l_255, l_300, l_400, l_420, l_432, l_1000, l_1400, l_1936, l_2000, l_2100, l_2400, l_24000, m_n1, m_n2, m_n3, nI_mul, nI_add, nI_sub, nI_ltT, nI_ltF, nI_leT, nI_leF, nI_eqT, nI_eqF, nI_nM, nM_nI, nM_eq, nM_lt, nM_le, nI_ltM, nI_leM, nI_inT, nI_dec, pk_rem, nI_ltI, nI_leI, nI_eq, nI_clamp, Nat.add_assoc, q_bv51, Nat.add_left_cancel_iff, k6, el]
  | succ j ih =>
    intro i bh es Q h l6 hj hbh d hf r B h0 hno hpt
    have el := r_len (g := g) r
    have k6 := r.1.1
    have hi : i < t.length := by omega
    have k8 := clK_8 d
    have hBN := B.1.2.2.1
    by_cases c1 : i < bh
    · obtain ⟨h', es', bh', Q', l6', e1, R⟩ := ih (i + 1) bh es Q h (some (va_rf none)) (by omega) hbh d hf r B h0 (fun k hk1 hk2 => by omega) hpt
      obtain ⟨R1, R2, R3, R4, R5, R6, R7, R8, R9, R10⟩ := R
      refine ⟨h', es', bh', Q', l6', ?_, R1, R2, R3, R4, R5, R6, R7, R8, by omega, by omega⟩
      rw [← e1, e_X5_textOf_37]
      simp (decide := true) (disch := omega) only [e_X5_textOf_39, e_X5_textOf_40, e_X5_textOf_43, e_X5_textOf_46, e_X5_textOf_48, e_X5_textOf_50, e_X5_textOf_53, e_X5_textOf_54, e_X5_textOf_57, e_X5_textOf_58, e_X5_textOf_59, e_X5_textOf_61, e_X5_textOf_64, e_X5_textOf_66, e_X5_textOf_68, e_X5_textOf_71, e_X5_textOf_72, e_X5_textOf_74, e_X5_textOf_76, e_X5_textOf_79, e_X5_textOf_80, e_X5_textOf_82, e_X5_textOf_85, e_X5_textOf_87, e_X5_textOf_90, e_X5_textOf_92, e_X5_textOf_95, ↓reduceIte, if_true, if_false, reduceCtorEq, Nat.reduceAdd, true_and, and_true, false_and, and_false, true_or, or_true, false_or, or_false, not_true_eq_false, not_false_eq_true, Option.bind_eq_bind, Option.bind_some, psh, eq_self, l_0, l_1, l_2, l_3, l_4, l_5, l_6, l_7, l_8, l_9, l_10, l_11, l_12, l_13, l_14, l_15, l_16, l_17, l_18, l_19, l_20, l_24, l_31, l_32, l_33, l_35, l_36, l_48, l_56, l_57, l_58, l_63, l_65, l_80, l_81, l_90, l_91, l_93, l_94, l_95, l_97, l_100, l_105, l_107, l_110, l_111, l_116, l_120, l_121, l_122, l_123, l_124, l_125, l_126, l_162, l_255, l_300, l_400, l_420, l_432, l_1000, l_1400, l_1936, l_2000, l_2100, l_2400, l_24000, m_n1, m_n2, m_n3, nI_mul, nI_add, nI_sub, nI_ltT, nI_ltF, nI_leT, nI_leF, nI_eqT, nI_eqF, nI_nM, nM_nI, nM_eq, nM_lt, nM_le, nI_ltM, nI_leM, nI_inT, nI_dec, pk_rem, nI_ltI, nI_leI, nI_eq, nI_clamp, Nat.add_assoc, q_bv51, Nat.add_left_cancel_iff, k6, el]
    · obtain ⟨z0, o0, hf⟩ := hf
      obtain ⟨v, h1, e1, s1, w1, m1⟩ := c_partAt (g := g) (i := i) d hf r ht hi ha1 hb1 (by omega) (by omega)
      have hd1 : ev g mX5_textOf 37 [some (va_rf (some (X + 8))), l1, some (va_rf (some ra)), some (va_rf (some a)), some (.int (nI bh)), some (.int (nI i)), l6] [] h = ev g mX5_textOf 66 [some (va_rf (some (X + 8))), l1, some (va_rf (some ra)), some (va_rf (some a)), some (.int (nI bh)), some (.int (nI i)), some (va_rf v)] [] h1 := by
        rw [e_X5_textOf_37]
        simp (decide := true) (disch := omega) only [e_X5_textOf_39, e_X5_textOf_40, e_X5_textOf_43, e_X5_textOf_46, e_X5_textOf_48, e_X5_textOf_50, e_X5_textOf_53, e_X5_textOf_54, e_X5_textOf_57, e_X5_textOf_58, e_X5_textOf_59, e_X5_textOf_61, e_X5_textOf_64, ↓reduceIte, if_true, if_false, reduceCtorEq, Nat.reduceAdd, true_and, and_true, false_and, and_false, true_or, or_true, false_or, or_false, not_true_eq_false, not_false_eq_true, Option.bind_eq_bind, Option.bind_some, psh, eq_self, l_0, l_1, l_2, l_3, l_4, l_5, l_6, l_7, l_8, l_9, l_10, l_11, l_12, l_13, l_14, l_15, l_16, l_17, l_18, l_19, l_20, l_24, l_31, l_32, l_33, l_35, l_36, l_48, l_56, l_57, l_58, l_63, l_65, l_80, l_81, l_90, l_91, l_93, l_94, l_95, l_97, l_100, l_105, l_107, l_110, l_111, l_116, l_120, l_121, l_122, l_123, l_124, l_125, l_126, l_162, l_255, l_300, l_400, l_420, l_432, l_1000, l_1400, l_1936, l_2000, l_2100, l_2400, l_24000, m_n1, m_n2, m_n3, nI_mul, nI_add, nI_sub, nI_ltT, nI_ltF, nI_leT, nI_leF, nI_eqT, nI_eqF, nI_nM, nM_nI, nM_eq, nM_lt, nM_le, nI_ltM, nI_leM, nI_inT, nI_dec, pk_rem, nI_ltI, nI_leI, nI_eq, nI_clamp, Nat.add_assoc, q_bv51, Nat.add_left_cancel_iff, k6, el, k8, e1]
      have dN := d.1
      have d1 : cl h1 X := d.keep (cfm.of s1 dN (fun k hk => by unfold rP; unfold crO at hk; omega))
      have r1 := r.keep s1 (by omega) (by omega) (by unfold rP; omega) (by unfold rP; omega)
      have B1 := B.keep s1 (by unfold rP; omega) (fun x hx => by have := B.1.2.2.2 x hx; unfold rP; omega)
      have h01 : hR h1 0 a = some ra := by rw [((s1.2.2 a (by omega)).2.2 (by unfold rP; omega)).2.1]; exact h0
      have sW : sm (fun x => rP (X + 9) (X + 10) x ∨ x = a ∨ N0 ≤ x) h h1 := s1.mono (fun x _ z => Or.inl z)
      cases et : tok t i with
      | none =>
        rw [et] at m1
        obtain ⟨m1, n1, u1⟩ := m1
        subst m1
        obtain ⟨h', es', bh', Q', l6', e2, R⟩ := ih (i + 1) bh es Q h1 (some (va_rf none)) (by omega) hbh d1 w1 r1 B1 h01 (fun k hk1 hk2 => by
          by_cases z : k = i
          · rw [z]; exact et
          · exact hno k hk1 (by omega)) hpt
        obtain ⟨R1, R2, R3, R4, R5, R6, R7, R8, R9, R10⟩ := R
        refine ⟨h', es', bh', Q', l6', ?_, sW.tr R1, R2, R3, R4, R5, R6, R7, R8, by omega, by omega⟩
        rw [← e2, hd1]
        simp (decide := true) (disch := omega) only [e_X5_textOf_66, e_X5_textOf_68, e_X5_textOf_71, e_X5_textOf_72, e_X5_textOf_74, e_X5_textOf_76, e_X5_textOf_79, e_X5_textOf_80, e_X5_textOf_82, e_X5_textOf_85, e_X5_textOf_87, e_X5_textOf_90, e_X5_textOf_92, e_X5_textOf_95, ↓reduceIte, if_true, if_false, reduceCtorEq, Nat.reduceAdd, true_and, and_true, false_and, and_false, true_or, or_true, false_or, or_false, not_true_eq_false, not_false_eq_true, Option.bind_eq_bind, Option.bind_some, psh, eq_self, l_0, l_1, l_2, l_3, l_4, l_5, l_6, l_7, l_8, l_9, l_10, l_11, l_12, l_13, l_14, l_15, l_16, l_17, l_18, l_19, l_20, l_24, l_31, l_32, l_33, l_35, l_36, l_48, l_56, l_57, l_58, l_63, l_65, l_80, l_81, l_90, l_91, l_93, l_94, l_95, l_97, l_100, l_105, l_107, l_110, l_111, l_116, l_120, l_121, l_122, l_123, l_124, l_125, l_126, l_162, l_255, l_300, l_400, l_420, l_432, l_1000, l_1400, l_1936, l_2000, l_2100, l_2400, l_24000, m_n1, m_n2, m_n3, nI_mul, nI_add, nI_sub, nI_ltT, nI_ltF, nI_leT, nI_leF, nI_eqT, nI_eqF, nI_nM, nM_nI, nM_eq, nM_lt, nM_le, nI_ltM, nI_leM, nI_inT, nI_dec, pk_rem, nI_ltI, nI_leI, nI_eq, nI_clamp, Nat.add_assoc, q_bv51, Nat.add_left_cancel_iff]
      | some rr =>
        obtain ⟨s, jj, b, q⟩ := rr
        have tl := tok_len et
        rw [et] at m1
        obtain ⟨m1, n1, u1, p1, q1⟩ := m1
        subst m1
        have eA := pts_at (t := t) (b := bh) (i := i) (by omega) (by omega) hno (fun _ z => by rw [et] at z; cases z)
        rw [pts_tok et] at eA
        obtain ⟨h2, Q2, e2, s2, n2, u2, B2, q20, q23, sub1, sub2⟩ := c_appendPlain (g := g) (f := bh) (t := i) B1 (by omega) (by omega)
        have hB1 := B.1.2.2.2
        have sW2 : sm (fun x => rP (X + 9) (X + 10) x ∨ x = a ∨ N0 ≤ x) h1 h2 := s2.mono (fun x _ z => by
          rcases z with z | z
          · exact Or.inr (Or.inl z)
          · exact Or.inr (Or.inr (hB1 x z).1))
        have p2 := p1.keep (Q' := fun x => hN h ≤ x ∧ x ≤ hN h + 1) s2 (fun x hx => ⟨by omega, by
          rintro (z | z)
          · omega
          · have := (hB1 x z).2; omega, hx⟩)
        have q2 : hR h2 5 (hN h + 1) = none := by
          rw [((s2.2.2 (hN h + 1) (by omega)).2.2 (by
            rintro (z | z)
            · omega
            · have := (hB1 _ z).2; omega)).2.1]
          exact q1
        have hn2 := s2.1
        obtain ⟨h3, e3, s3, n3, u3, B3, q30, q33⟩ := c_append (g := g) (b := hN h + 1) (Qb := fun x => hN h ≤ x ∧ x ≤ hN h + 1) B2 (fun x hx => ⟨fun z => by
          rcases sub2 x z with w | w
          · have := (hB1 x w).2; omega
          · omega, by omega, by omega⟩) p2 q2
        have hB2 := B2.1.2.2.2
        have sW3 : sm (fun x => rP (X + 9) (X + 10) x ∨ x = a ∨ N0 ≤ x) h2 h3 := s3.mono (fun x _ z => by
          rcases z with z | z
          · exact Or.inr (Or.inl z)
          · exact Or.inr (Or.inr (hB2 x z).1))
        have sA := (sW.tr sW2).tr sW3
        have s13 := sW2.tr sW3
        have dN1 := d1.1
        have d3 : cl h3 X := d.keep (cfm.of sA dN (fun k hk => by unfold rP; unfold crO at hk; omega))
        have r3 := r.keep sA (by omega) (by omega) (by unfold rP; omega) (by unfold rP; omega)
        obtain ⟨z1, o1, w1⟩ := w1
        have s13' : sm (fun x => x = a ∨ N0 ≤ x) h1 h3 := (s2.mono (Q := fun x => x = a ∨ N0 ≤ x) (fun x _ z => by
          rcases z with z | z
          · exact Or.inl z
          · exact Or.inr (hB1 x z).1)).tr (s3.mono (fun x _ z => by
          rcases z with z | z
          · exact Or.inl z
          · exact Or.inr (hB2 x z).1))
        have w3 : ∃ z o, rw_ h3 (X + 9) (X + 10) 22 22 z o := ⟨z1, o1, w1.keep s13' (by omega) (by omega) (by omega) (by omega)⟩
        have k82 : hK h1 a = 8 := B1.1.1
        have k83 : hK h2 a = 8 := B2.1.1
        have k43 : hK h3 (hN h + 1) = 4 := by rw [(s3.2.2 _ (by omega)).1]; exact p2.1.2.1
        have i23 : hI h3 2 (hN h + 1) = nI (jj + 2) := by
          rw [((s3.2.2 (hN h + 1) (by omega)).2.2 (by
            rintro (z | z)
            · omega
            · rcases sub2 _ z with w | w
              · have := (hB1 _ w).2; omega
              · omega)).1]
          exact p2.1.2.2.2.2.1
        obtain ⟨h', es', bh', Q', l6', e4, R⟩ := ih (i + 1) (jj + 2) _ _ h3 (some (va_rf (some (hN h + 1)))) (by omega) tl.2.2.1 d3 w3 r3 B3 (by rw [q30, q20]; exact h01) (fun k hk1 hk2 => by omega) (by
          rw [← hpt, eA]
          simp only [List.append_assoc, List.singleton_append])
        obtain ⟨R1, R2, R3, R4, R5, R6, R7, R8, R9, R10⟩ := R
        refine ⟨h', es', bh', Q', l6', ?_, sA.tr R1, R2, R3, R4, R5, R6, R7, R8, by omega, by omega⟩
        rw [← e4, hd1]
        simp (decide := true) (disch := omega) only [e_X5_textOf_66, e_X5_textOf_68, e_X5_textOf_71, e_X5_textOf_72, e_X5_textOf_74, e_X5_textOf_76, e_X5_textOf_79, e_X5_textOf_80, e_X5_textOf_82, e_X5_textOf_85, e_X5_textOf_87, e_X5_textOf_90, e_X5_textOf_92, e_X5_textOf_95, ↓reduceIte, if_true, if_false, reduceCtorEq, Nat.reduceAdd, true_and, and_true, false_and, and_false, true_or, or_true, false_or, or_false, not_true_eq_false, not_false_eq_true, Option.bind_eq_bind, Option.bind_some, psh, eq_self, l_0, l_1, l_2, l_3, l_4, l_5, l_6, l_7, l_8, l_9, l_10, l_11, l_12, l_13, l_14, l_15, l_16, l_17, l_18, l_19, l_20, l_24, l_31, l_32, l_33, l_35, l_36, l_48, l_56, l_57, l_58, l_63, l_65, l_80, l_81, l_90, l_91, l_93, l_94, l_95, l_97, l_100, l_105, l_107, l_110, l_111, l_116, l_120, l_121, l_122, l_123, l_124, l_125, l_126, l_162, l_255, l_300, l_400, l_420, l_432, l_1000, l_1400, l_1936, l_2000, l_2100, l_2400, l_24000, m_n1, m_n2, m_n3, nI_mul, nI_add, nI_sub, nI_ltT, nI_ltF, nI_leT, nI_leF, nI_eqT, nI_eqF, nI_nM, nM_nI, nM_eq, nM_lt, nM_le, nI_ltM, nI_leM, nI_inT, nI_dec, pk_rem, nI_ltI, nI_leI, nI_eq, nI_clamp, Nat.add_assoc, q_bv51, Nat.add_left_cancel_iff, reduceCtorEq, k82, e2, k83, e3, k43, i23]
theorem c_textOf {g X sa sb cap bd : Nat} {h : PH} {l : List Nat} {o : Int32} (d : cl h X) (hf : ∃ z o, rw_ h (X + 9) (X + 10) 22 22 z o) (s : rw_ h sa sb cap bd l o) (hsa : sa < hN h) (hsb : sb < hN h) (hl : l.length ≤ 400) :
    ∃ v h', cal g mX5_textOf [va_rf (some (X + 8)), va_rf (some sa)] h = some (some (va_rf (some v)), h') ∧ sm (rP (X + 9) (X + 10)) h h' ∧ (∃ z o, rw_ h' (X + 9) (X + 10) 22 22 z o) ∧ txt (fun x => hN h ≤ x ∧ x < hN h') h' v l ∧ hN h' ≤ hN h + 4 + 3 * l.length ∧ hU h' ≤ hU h + 20 + 31 * l.length := by
  rw [n_X5_textOf]
  have dN := d.1
  have s0 := s.keep (sm.O (P := fun _ => False) h 6) hsa hsb (fun z => z) (fun z => z)
  have k6 := s0.1.1
  have el := r_len (g := g) s0
  -- the row
  obtain ⟨h1, e1, r1, s1, n1, u1⟩ := r_init (g := g) (h := nO h 6) (a := hN h) (k := l.length) (by simp only [u_hN_pI, u_hU_pI, u_hK_pI, u_hL_pI, u_hR_pI, u_hJ_pI, u_hA_pI, u_hB_pI, u_hS_pI, u_hN_pR, u_hU_pR, u_hK_pR, u_hL_pR, u_hI_pR, u_hJ_pR, u_hA_pR, u_hB_pR, u_hS_pR, u_hN_pJ, u_hU_pJ, u_hK_pJ, u_hL_pJ, u_hI_pJ, u_hR_pJ, u_hA_pJ, u_hB_pJ, u_hS_pJ, u_hN_pA, u_hU_pA, u_hK_pA, u_hL_pA, u_hI_pA, u_hR_pA, u_hJ_pA, u_hB_pA, u_hS_pA, u_hN_pB, u_hU_pB, u_hK_pB, u_hL_pB, u_hI_pB, u_hR_pB, u_hJ_pB, u_hA_pB, u_hS_pB, u_hL_nO, u_hA_nO, u_hB_nO, u_hS_nO, u_hI_nA, u_hR_nA, u_hJ_nA, u_hS_nA, u_II, u_RR, u_JJ, u_AA, u_BB, u_NO, u_UO, u_KO, u_IO, u_RO, u_JO, u_NN, u_UN, u_KN, u_LN, u_AN, u_BN, if_true]) (by omega) (by rw [u_NO]; omega)
  have sA : sm (fun x => x = hN h) h h1 := (sm.O (P := fun x => x = hN h) h 6).tr s1
  rw [u_NO] at r1 n1
  rw [u_UO, show q_nf 6 = 4 from rfl] at u1
  have sS := s.keep sA hsa hsb (by omega) (by omega)
  have el1 := r_len (g := g) sS
  have k61 := sS.1.1
  have k6r := r1.1.1
  obtain ⟨h2, e2, r2, s2, n2, u2⟩ := r_putAll (g := g) (i := 0) (j := l.length) r1 sS (by omega) (by omega)
  have ep : pll [] l l.length 0 l.length = l := by
    unfold pll
    by_cases c : 0 < l.length
    · rw [if_pos (by simp; omega)]
      simp
    · have : l = [] := List.length_eq_zero_iff.mp (by omega)
      subst this
      rfl
  have eo : plo [] l l.length 0 l.length 0 = 0 := by
    unfold plo
    rw [if_neg (by simp)]
  rw [ep, eo] at r2
  have sB : sm (fun x => hN h ≤ x) h h2 := (sA.mono (fun x _ z => by omega)).tr (s2.mono (fun x _ z => by unfold rP at z; omega))
  -- the Text
  obtain ⟨h3, e3, s3, n3, u3, f0, f1, f2, f3⟩ := c_tinit (g := g) (h := nO h2 8) (a := hN h2) (r := some (hN h)) (by simp only [u_hN_pI, u_hU_pI, u_hK_pI, u_hL_pI, u_hR_pI, u_hJ_pI, u_hA_pI, u_hB_pI, u_hS_pI, u_hN_pR, u_hU_pR, u_hK_pR, u_hL_pR, u_hI_pR, u_hJ_pR, u_hA_pR, u_hB_pR, u_hS_pR, u_hN_pJ, u_hU_pJ, u_hK_pJ, u_hL_pJ, u_hI_pJ, u_hR_pJ, u_hA_pJ, u_hB_pJ, u_hS_pJ, u_hN_pA, u_hU_pA, u_hK_pA, u_hL_pA, u_hI_pA, u_hR_pA, u_hJ_pA, u_hB_pA, u_hS_pA, u_hN_pB, u_hU_pB, u_hK_pB, u_hL_pB, u_hI_pB, u_hR_pB, u_hJ_pB, u_hA_pB, u_hS_pB, u_hL_nO, u_hA_nO, u_hB_nO, u_hS_nO, u_hI_nA, u_hR_nA, u_hJ_nA, u_hS_nA, u_II, u_RR, u_JJ, u_AA, u_BB, u_NO, u_UO, u_KO, u_IO, u_RO, u_JO, u_NN, u_UN, u_KN, u_LN, u_AN, u_BN, if_true])
  have sC : sm (fun x => x = hN h2) h2 h3 := (sm.O (P := fun x => x = hN h2) h2 8).tr s3
  rw [u_NO] at n3
  rw [u_UO, show q_nf 8 = 4 from rfl] at u3
  have eN2 : hN h2 = hN h + 2 := by omega
  rw [eN2] at e3 s3 f0 f1 f2 f3 sC
  have s03 : sm (fun x => hN h ≤ x) h h3 := sB.tr (sC.mono (fun x _ z => by omega))
  have d3 : cl h3 X := d.keep (cfm.of s03 dN (fun k hk => by unfold crO at hk; omega))
  obtain ⟨z0, o0, hf⟩ := hf
  have hf3 : ∃ z o, rw_ h3 (X + 9) (X + 10) 22 22 z o := ⟨z0, o0, hf.keep s03 (by omega) (by omega) (by omega) (by omega)⟩
  have r3 := r2.keep sC (by omega) (by omega) (by omega) (by omega)
  have k83 : hK h3 (hN h + 2) = 8 := by
    rw [(s3.2.2 (hN h + 2) (by rw [u_NO]; omega)).1, u_KO, if_pos (by omega)]
  have B3 : bld (hN h + 3) (fun _ => False) h3 (hN h + 2) [] := ⟨⟨k83, by omega, by omega, fun x hx => hx.elim⟩, Or.inl ⟨rfl, f1, f2⟩⟩
  obtain ⟨h4, es, bh, Q, l6, e4, s4, hf4, r4, B4, g4, hb4, no4, pt4, n4, u4⟩ := c_tof_loop (g := g) (X := X) (ra := hN h) (rb' := hN h + 1) (a := hN h + 2) (N0 := hN h + 3) (t := l) (l1 := some (va_rf (some sa))) hl (by omega) (by omega) (by omega) (by omega) (by omega) l.length 0 0 [] (fun _ => False) h3 none rfl (Nat.zero_le _) d3 hf3 r3 B3 f0 (fun k _ hk => absurd hk (Nat.not_lt_zero _)) rfl
  obtain ⟨h5, Q5, e5, s5, n5, u5, B5, q50, q53, sub1, sub2⟩ := c_appendPlain (g := g) (f := bh) (t := l.length) B4 (by omega) (by omega)
  have hB4 := B4.1.2.2.2
  have eA := pts_at (t := l) (b := bh) (i := l.length) hb4 (Nat.le_refl _) no4 (fun z => by omega)
  have en : pts l l.length l.length = [] := by
    cases hL : l.length with
    | zero => rfl
    | succ n => rw [pts, if_neg (by omega)]
  rw [en, List.append_nil] at eA
  rw [eA] at pt4
  rw [pt4] at B5
  have n45 := s5.1
  have s35 : sm (fun x => rP (X + 9) (X + 10) x ∨ hN h + 2 ≤ x) h3 h5 := (s4.mono (fun x _ z => by rcases z with z | z | z; exact Or.inl z; exact Or.inr (by omega); exact Or.inr (by omega))).tr (s5.mono (fun x _ z => by
    rcases z with z | z
    · exact Or.inr (by omega)
    · have := (hB4 x z).1; exact Or.inr (by omega)))
  have n34 := s4.1
  have s45 : sm (fun x => x = hN h + 2 ∨ hN h + 3 ≤ x) h4 h5 := s5.mono (fun x _ z => by
    rcases z with z | z
    · exact Or.inl z
    · exact Or.inr (hB4 x z).1)
  obtain ⟨z4, o4, hf4⟩ := hf4
  have hf5 := hf4.keep s45 (by omega) (by omega) (by omega) (by omega)
  have s05 : sm (fun x => rP (X + 9) (X + 10) x ∨ hN h ≤ x) h h5 := (s03.mono (fun x _ z => Or.inr z)).tr (s35.mono (fun x _ z => by rcases z with z | z; exact Or.inl z; exact Or.inr (by omega)))
  have d5 : cl h5 X := d.keep (cfm.of s05 dN (fun k hk => by unfold rP; unfold crO at hk; omega))
  have r5 := r4.keep s45 (by omega) (by omega) (by omega) (by omega)
  have k84 : hK h4 (hN h + 2) = 8 := B4.1.1
  have k85 : hK h5 (hN h + 2) = 8 := B5.1.1
  have g50 : hR h5 0 (hN h + 2) = some (hN h) := by rw [q50]; exact g4
  obtain ⟨v, e6, mv⟩ := c_movedBy (g := g) d5 k85 g50 r5 hl B5.sg
  have el4 := r_len (g := g) r4
  have k64 := r4.1.1
  have hB5 := B5.1.2.2.2
  have s6 : sm (fun x => x = hN h + 2) h5 (pR h5 3 (hN h + 2) v) := sm.R1 _ _
  refine ⟨hN h + 2, pR h5 3 (hN h + 2) v, ?_, ?_, ⟨z4, o4, hf5.keep s6 (by omega) (by omega) (by omega) (by omega)⟩, ⟨⟨⟨by omega, by show _ < hN h5; omega⟩, k85⟩, ?_, ?_, ?_⟩, by show hN h5 ≤ _; omega, by show hU h5 ≤ _; omega⟩
  · simp (decide := true) (disch := omega) only [e_X5_textOf_0, e_X5_textOf_3, e_X5_textOf_4, e_X5_textOf_5, e_X5_textOf_8, e_X5_textOf_11, e_X5_textOf_12, e_X5_textOf_13, e_X5_textOf_14, e_X5_textOf_15, e_X5_textOf_16, e_X5_textOf_19, e_X5_textOf_22, e_X5_textOf_25, e_X5_textOf_26, e_X5_textOf_27, e_X5_textOf_30, e_X5_textOf_31, e_X5_textOf_32, e_X5_textOf_34, e_X5_textOf_35, ↓reduceIte, if_true, if_false, reduceCtorEq, Nat.reduceAdd, true_and, and_true, false_and, and_false, true_or, or_true, false_or, or_false, not_true_eq_false, not_false_eq_true, Option.bind_eq_bind, Option.bind_some, psh, eq_self, l_0, l_1, l_2, l_3, l_4, l_5, l_6, l_7, l_8, l_9, l_10, l_11, l_12, l_13, l_14, l_15, l_16, l_17, l_18, l_19, l_20, l_24, l_31, l_32, l_33, l_35, l_36, l_48, l_56, l_57, l_58, l_63, l_65, l_80, l_81, l_90, l_91, l_93, l_94, l_95, l_97, l_100, l_105, l_107, l_110, l_111, l_116, l_120, l_121, l_122, l_123, l_124, l_125, l_126, l_162, l_255, l_300, l_400, l_420, l_432, l_1000, l_1400, l_1936, l_2000, l_2100, l_2400, l_24000, m_n1, m_n2, m_n3, nI_mul, nI_add, nI_sub, nI_ltT, nI_ltF, nI_leT, nI_leF, nI_eqT, nI_eqF, nI_nM, nM_nI, nM_eq, nM_lt, nM_le, nI_ltM, nI_leM, nI_inT, nI_dec, pk_rem, nI_ltI, nI_leI, nI_eq, nI_clamp, Nat.add_assoc, q_bv51, Nat.add_left_cancel_iff, k6, el, e1, k61, el1, k6r, e2, eN2, e3]
    rw [e4]
    simp (decide := true) (disch := omega) only [e_X5_textOf_98, e_X5_textOf_99, e_X5_textOf_101, e_X5_textOf_102, e_X5_textOf_105, e_X5_textOf_108, e_X5_textOf_109, e_X5_textOf_110, e_X5_textOf_113, e_X5_textOf_116, e_X5_textOf_117, ↓reduceIte, if_true, if_false, reduceCtorEq, Nat.reduceAdd, true_and, and_true, false_and, and_false, true_or, or_true, false_or, or_false, not_true_eq_false, not_false_eq_true, Option.bind_eq_bind, Option.bind_some, psh, eq_self, l_0, l_1, l_2, l_3, l_4, l_5, l_6, l_7, l_8, l_9, l_10, l_11, l_12, l_13, l_14, l_15, l_16, l_17, l_18, l_19, l_20, l_24, l_31, l_32, l_33, l_35, l_36, l_48, l_56, l_57, l_58, l_63, l_65, l_80, l_81, l_90, l_91, l_93, l_94, l_95, l_97, l_100, l_105, l_107, l_110, l_111, l_116, l_120, l_121, l_122, l_123, l_124, l_125, l_126, l_162, l_255, l_300, l_400, l_420, l_432, l_1000, l_1400, l_1936, l_2000, l_2100, l_2400, l_24000, m_n1, m_n2, m_n3, nI_mul, nI_add, nI_sub, nI_ltT, nI_ltF, nI_leT, nI_leF, nI_eqT, nI_eqF, nI_nM, nM_nI, nM_eq, nM_lt, nM_le, nI_ltM, nI_leM, nI_inT, nI_dec, pk_rem, nI_ltI, nI_leI, nI_eq, nI_clamp, Nat.add_assoc, q_bv51, Nat.add_left_cancel_iff, k64, el4, k84, e5, e6, k85]
  · have : sm (fun x => rP (X + 9) (X + 10) x ∨ hN h ≤ x) h (pR h5 3 (hN h + 2) v) := s05.tr (s6.mono (fun x _ z => Or.inr (by omega)))
    exact this.mono (fun x hx z => by rcases z with z | z; exact z; omega)
  · refine ⟨hN h, hN h + 1, ?_, ⟨by omega, by show _ < hN h5; omega⟩, ⟨by omega, by show _ < hN h5; omega⟩, r5.keep s6 (by omega) (by omega) (by omega) (by omega)⟩
    simp (decide := true) only [u_hN_pI, u_hU_pI, u_hK_pI, u_hL_pI, u_hR_pI, u_hJ_pI, u_hA_pI, u_hB_pI, u_hS_pI, u_hN_pR, u_hU_pR, u_hK_pR, u_hL_pR, u_hI_pR, u_hJ_pR, u_hA_pR, u_hB_pR, u_hS_pR, u_hN_pJ, u_hU_pJ, u_hK_pJ, u_hL_pJ, u_hI_pJ, u_hR_pJ, u_hA_pJ, u_hB_pJ, u_hS_pJ, u_hN_pA, u_hU_pA, u_hK_pA, u_hL_pA, u_hI_pA, u_hR_pA, u_hJ_pA, u_hB_pA, u_hS_pA, u_hN_pB, u_hU_pB, u_hK_pB, u_hL_pB, u_hI_pB, u_hR_pB, u_hJ_pB, u_hA_pB, u_hS_pB, u_hL_nO, u_hA_nO, u_hB_nO, u_hS_nO, u_hI_nA, u_hR_nA, u_hJ_nA, u_hS_nA, u_II, u_RR, u_JJ, u_AA, u_BB, u_NO, u_UO, u_KO, u_IO, u_RO, u_JO, u_NN, u_UN, u_KN, u_LN, u_AN, u_BN, if_true, if_false]
    exact g50
  · have g1 : hR (pR h5 3 (hN h + 2) v) 1 (hN h + 2) = hR h5 1 (hN h + 2) := by simp (decide := true) only [u_hN_pI, u_hU_pI, u_hK_pI, u_hL_pI, u_hR_pI, u_hJ_pI, u_hA_pI, u_hB_pI, u_hS_pI, u_hN_pR, u_hU_pR, u_hK_pR, u_hL_pR, u_hI_pR, u_hJ_pR, u_hA_pR, u_hB_pR, u_hS_pR, u_hN_pJ, u_hU_pJ, u_hK_pJ, u_hL_pJ, u_hI_pJ, u_hR_pJ, u_hA_pJ, u_hB_pJ, u_hS_pJ, u_hN_pA, u_hU_pA, u_hK_pA, u_hL_pA, u_hI_pA, u_hR_pA, u_hJ_pA, u_hB_pA, u_hS_pA, u_hN_pB, u_hU_pB, u_hK_pB, u_hL_pB, u_hI_pB, u_hR_pB, u_hJ_pB, u_hA_pB, u_hS_pB, u_hL_nO, u_hA_nO, u_hB_nO, u_hS_nO, u_hI_nA, u_hR_nA, u_hJ_nA, u_hS_nA, u_II, u_RR, u_JJ, u_AA, u_BB, u_NO, u_UO, u_KO, u_IO, u_RO, u_JO, u_NN, u_UN, u_KN, u_LN, u_AN, u_BN, if_true, if_false]
    rw [g1]
    exact sgm.keep s6 (fun x hx => by have := hB5 x hx; exact ⟨by omega, by omega, by omega, by show x < hN h5; omega⟩) B5.sg
  · have g1 : hR (pR h5 3 (hN h + 2) v) 3 (hN h + 2) = v := by simp (decide := true) only [u_hN_pI, u_hU_pI, u_hK_pI, u_hL_pI, u_hR_pI, u_hJ_pI, u_hA_pI, u_hB_pI, u_hS_pI, u_hN_pR, u_hU_pR, u_hK_pR, u_hL_pR, u_hI_pR, u_hJ_pR, u_hA_pR, u_hB_pR, u_hS_pR, u_hN_pJ, u_hU_pJ, u_hK_pJ, u_hL_pJ, u_hI_pJ, u_hR_pJ, u_hA_pJ, u_hB_pJ, u_hS_pJ, u_hN_pA, u_hU_pA, u_hK_pA, u_hL_pA, u_hI_pA, u_hR_pA, u_hJ_pA, u_hB_pA, u_hS_pA, u_hN_pB, u_hU_pB, u_hK_pB, u_hL_pB, u_hI_pB, u_hR_pB, u_hJ_pB, u_hA_pB, u_hS_pB, u_hL_nO, u_hA_nO, u_hB_nO, u_hS_nO, u_hI_nA, u_hR_nA, u_hJ_nA, u_hS_nA, u_II, u_RR, u_JJ, u_AA, u_BB, u_NO, u_UO, u_KO, u_IO, u_RO, u_JO, u_NN, u_UN, u_KN, u_LN, u_AN, u_BN, if_true, if_false]
    rw [g1]
    exact mv.keep s6 (fun x hx => by have := hB5 x hx; exact ⟨by omega, by omega, by omega, by show x < hN h5; omega⟩)
