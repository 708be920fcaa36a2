/-! PageWeb$Reader: movedBy, textOf -/
theorem pts_sort {t : List Nat} : ∀ {k i : Nat} {e : Pt}, i ≤ t.length → e ∈ pts t k i → e.1 < 3 ∧ e.2.1 < e.2.2.1 ∧ e.2.2.1 ≤ t.length ∧ e.2.2.2.1 ≤ t.length ∧ i ≤ e.2.1 ∧ (e.1 ≠ 2 → e.2.1 + 4 ≤ e.2.2.1 ∧ ∃ s j b q, tok t e.2.1 = some (s, j, b, q) ∧ e = (s - 1, e.2.1, j + 2, b, some q)) ∧ (e.1 = 2 → e.2.2.2.2 = none)
  | 0, i, e, _, h => by simp [pts] at h
  | k + 1, i, e, hi, h => by
    rw [pts] at h
    by_cases c : i < t.length
    · rw [if_pos c] at h
      cases et : tok t i with
      | none =>
        rw [et] at h
        have pg : i < pln t t.length i := by
          obtain ⟨k0, hk0⟩ : ∃ k0, t.length = k0 + 1 := ⟨t.length - 1, by omega⟩
          have : pln t (k0 + 1) i = pln t k0 (i + 1) := by rw [pln, if_pos ⟨c, by rw [et]; rfl⟩]
          rw [hk0, this]
          exact pln_ge
        have pl := pln_le (t := t) (m := t.length) hi
        rcases List.mem_cons.mp h with z | z
        · rw [z]
          exact ⟨by show 2 < 3; decide, pg, pl, pl, Nat.le_refl _, fun w => absurd rfl w, fun _ => rfl⟩
        · have := pts_sort (t := t) pl z
          exact ⟨this.1, this.2.1, this.2.2.1, this.2.2.2.1, by omega, this.2.2.2.2.2⟩
      | some r =>
        obtain ⟨s, j, b, q⟩ := r
        have tl := tok_len et
        rw [et] at h
        rcases List.mem_cons.mp h with z | z
        · rw [z]
          refine ⟨by show s - 1 < 3; omega, by show i < j + 2; omega, tl.2.2.1, by show b ≤ _; omega, Nat.le_refl _, fun _ => ⟨by show i + 4 ≤ j + 2; omega, s, j, b, q, et, rfl⟩, fun w => ?_⟩
          have w' : s - 1 = 2 := w
          omega
        · have := pts_sort (t := t) tl.2.2.1 z
          exact ⟨this.1, this.2.1, this.2.2.1, this.2.2.2.1, by omega, this.2.2.2.2.2⟩
    · rw [if_neg c] at h
      simp at h
theorem ptl_sort {t : List Nat} {e : Pt} (h : e ∈ ptl t) : e.1 < 3 ∧ e.2.1 < e.2.2.1 ∧ e.2.2.1 ≤ t.length ∧ e.2.2.2.1 ≤ t.length ∧ (e.1 ≠ 2 → e.2.1 + 4 ≤ e.2.2.1 ∧ ∃ s j b q, tok t e.2.1 = some (s, j, b, q) ∧ e = (s - 1, e.2.1, j + 2, b, some q)) ∧ (e.1 = 2 → e.2.2.2.2 = none) := by
  have := pts_sort (Nat.zero_le _) h
  exact ⟨this.1, this.2.1, this.2.2.1, this.2.2.2.1, this.2.2.2.2.2⟩
theorem c_movedBy_loop {g X a ra rb' cap bd : Nat} {h : PH} {t : List Nat} {o : Int32} {l1 : Option Value} (d : cl h X) (k8 : hK h a = 8) (h0 : hR h 0 a = some ra) (r : rw_ h ra rb' cap bd t o) (hl : 4 ≤ t.length) (ht : t.length ≤ 400) :
    ∀ j i, j + i = 4 → (∀ k, k < i → t.getD k 0 = (q_tx 1).getD k 0) → ev g mX5_movedBy 33 [some (va_rf (some a)), l1, some (.int (nI i))] [] h = if t.take 4 = q_tx 1 then ev g mX5_movedBy 67 [some (va_rf (some a)), l1, some (.int (nI 4))] [] h else some (some (va_rf none), h) := by
  have k6 := r.1.1
  have hs := clS_1 d
  have hby : by_ t := r.2.2.2.2
  have e4 := take4 hl
  intro j
  induction j with
  | zero =>
    intro i hi hk
    have : i = 4 := by omega
    subst this
    have g0 := hk 0 (by omega)
    have g1 := hk 1 (by omega)
    have g2 := hk 2 (by omega)
    have g3 := hk 3 (by omega)
    have : t.take 4 = q_tx 1 := by rw [e4, g0, g1, g2, g3]; rfl
    rw [if_pos this, e_X5_movedBy_33]
    simp (decide := true) (disch := omega) only [e_X5_movedBy_34, e_X5_movedBy_36, e_X5_movedBy_39, e_X5_movedBy_42, e_X5_movedBy_43, e_X5_movedBy_46, e_X5_movedBy_47, e_X5_movedBy_50, e_X5_movedBy_52, e_X5_movedBy_53, e_X5_movedBy_56, e_X5_movedBy_59, e_X5_movedBy_60, e_X5_movedBy_61, e_X5_movedBy_64, ↓reduceIte, if_true, if_false, reduceCtorEq, Nat.reduceAdd, true_and, and_true, false_and, and_false, true_or, or_true, false_or, or_false, not_true_eq_false, not_false_eq_true, Option.bind_eq_bind, Option.bind_some, psh, eq_self, l_0, l_1, l_2, l_3, l_4, l_5, l_6, l_7, l_8, l_9, l_10, l_11, l_12, l_13, l_14, l_15, l_16, l_17, l_18, l_19, l_20, l_24, l_31, l_32, l_33, l_35, l_36, l_48, l_56, l_57, l_58, l_63, l_65, l_80, l_81, l_90, l_91, l_93, l_94, l_95, l_97, l_100, l_105, l_107, l_110, l_111, l_116, l_120, l_121, l_122, l_123, l_124, l_125, l_126, l_162, l_255, l_300, l_400, l_420, l_432, l_1000, l_1400, l_1936, l_2000, l_2100, l_2400, l_24000, m_n1, m_n2, m_n3, nI_mul, nI_add, nI_sub, nI_ltT, nI_ltF, nI_leT, nI_leF, nI_eqT, nI_eqF, nI_nM, nM_nI, nM_eq, nM_lt, nM_le, nI_ltM, nI_leM, nI_inT, nI_dec, pk_rem, nI_ltI, nI_leI, nI_eq, nI_clamp, Nat.add_assoc, q_bv51, Nat.add_left_cancel_iff, j3_eq, hs]
  | succ j ih =>
    intro i hi hk
    have eb := r_byteAt (g := g) (i := nI i) r
    rw [rbT (by omega) (by omega)] at eb
    have hx : (q_tx 1).getD i 0 < 256 := (q_tx_len 1 (by decide)).2 _ (getD_mem (show i < (q_tx 1).length from by show i < 4; omega))
    have b1 := hby.g i
    have kI : q_in (nI i) (q_tx (71 - 70)).length = True := eq_true (vp_in_nI (show i < 4 by omega) (by decide))
    have kC : (nI i).toNatClampNeg = i := nI_clamp (by omega)
    have kL : nI (q_tx (71 - 70)).length = nI 4 := rfl
    have kX : q_tx (71 - 70) = q_tx 1 := rfl
    rw [e_X5_movedBy_33]
    by_cases c : t.getD i 0 = (q_tx 1).getD i 0
    · rw [← ih (i + 1) (by omega) (fun k hk' => by
        by_cases z : k = i
        · rw [z]; exact c
        · exact hk k (by omega))]
      rw [c] at eb
      simp (decide := true) (disch := omega) only [e_X5_movedBy_34, e_X5_movedBy_36, e_X5_movedBy_39, e_X5_movedBy_42, e_X5_movedBy_43, e_X5_movedBy_46, e_X5_movedBy_47, e_X5_movedBy_50, e_X5_movedBy_52, e_X5_movedBy_53, e_X5_movedBy_56, e_X5_movedBy_59, e_X5_movedBy_60, e_X5_movedBy_61, e_X5_movedBy_64, ↓reduceIte, if_true, if_false, reduceCtorEq, Nat.reduceAdd, true_and, and_true, false_and, and_false, true_or, or_true, false_or, or_false, not_true_eq_false, not_false_eq_true, Option.bind_eq_bind, Option.bind_some, psh, eq_self, l_0, l_1, l_2, l_3, l_4, l_5, l_6, l_7, l_8, l_9, l_10, l_11, l_12, l_13, l_14, l_15, l_16, l_17, l_18, l_19, l_20, l_24, l_31, l_32, l_33, l_35, l_36, l_48, l_56, l_57, l_58, l_63, l_65, l_80, l_81, l_90, l_91, l_93, l_94, l_95, l_97, l_100, l_105, l_107, l_110, l_111, l_116, l_120, l_121, l_122, l_123, l_124, l_125, l_126, l_162, l_255, l_300, l_400, l_420, l_432, l_1000, l_1400, l_1936, l_2000, l_2100, l_2400, l_24000, m_n1, m_n2, m_n3, nI_mul, nI_add, nI_sub, nI_ltT, nI_ltF, nI_leT, nI_leF, nI_eqT, nI_eqF, nI_nM, nM_nI, nM_eq, nM_lt, nM_le, nI_ltM, nI_leM, nI_inT, nI_dec, pk_rem, nI_ltI, nI_leI, nI_eq, nI_clamp, Nat.add_assoc, q_bv51, Nat.add_left_cancel_iff, j3_eq, j4_eq, hs, k8, h0, k6, eb, kI, kC, kL, kX]
    · have : ¬ t.take 4 = q_tx 1 := by
        intro z
        apply c
        rw [← z]
        simp [List.getD_eq_getElem?_getD, List.getElem?_take, show i < 4 by omega]
      rw [if_neg this]
      simp (decide := true) (disch := omega) only [e_X5_movedBy_34, e_X5_movedBy_36, e_X5_movedBy_39, e_X5_movedBy_42, e_X5_movedBy_43, e_X5_movedBy_46, e_X5_movedBy_47, e_X5_movedBy_50, e_X5_movedBy_52, e_X5_movedBy_53, e_X5_movedBy_56, e_X5_movedBy_59, e_X5_movedBy_60, e_X5_movedBy_61, e_X5_movedBy_64, ↓reduceIte, if_true, if_false, reduceCtorEq, Nat.reduceAdd, true_and, and_true, false_and, and_false, true_or, or_true, false_or, or_false, not_true_eq_false, not_false_eq_true, Option.bind_eq_bind, Option.bind_some, psh, eq_self, l_0, l_1, l_2, l_3, l_4, l_5, l_6, l_7, l_8, l_9, l_10, l_11, l_12, l_13, l_14, l_15, l_16, l_17, l_18, l_19, l_20, l_24, l_31, l_32, l_33, l_35, l_36, l_48, l_56, l_57, l_58, l_63, l_65, l_80, l_81, l_90, l_91, l_93, l_94, l_95, l_97, l_100, l_105, l_107, l_110, l_111, l_116, l_120, l_121, l_122, l_123, l_124, l_125, l_126, l_162, l_255, l_300, l_400, l_420, l_432, l_1000, l_1400, l_1936, l_2000, l_2100, l_2400, l_24000, m_n1, m_n2, m_n3, nI_mul, nI_add, nI_sub, nI_ltT, nI_ltF, nI_leT, nI_leF, nI_eqT, nI_eqF, nI_nM, nM_nI, nM_eq, nM_lt, nM_le, nI_ltM, nI_leM, nI_inT, nI_dec, pk_rem, nI_ltI, nI_leI, nI_eq, nI_clamp, Nat.add_assoc, q_bv51, Nat.add_left_cancel_iff, j3_eq, j4_eq, hs, k8, h0, k6, eb, kI, kC, kL, kX]
theorem c_movedBy {g X a ra rb' cap bd : Nat} {Q : Nat → Prop} {h : PH} {t : List Nat} {o : Int32} (d : cl h X) (k8 : hK h a = 8) (h0 : hR h 0 a = some ra) (r : rw_ h ra rb' cap bd t o) (ht : t.length ≤ 400) (hs : sgm Q h (hR h 1 a) (ptl t) none) :
    ∃ v, cal g mX5_movedBy [va_rf (some a)] h = some (some (va_rf v), h) ∧ nmQ Q h v (mvd t) := by
  rw [n_X5_movedBy, mvd_ptl]
  have hS1 := clS_1 d
  have kL : nI (q_tx (71 - 70)).length = nI 4 := rfl
  cases hp : ptl t with
  | nil =>
    rw [hp] at hs
    have h1 : hR h 1 a = none := hs
    refine ⟨none, ?_, rfl⟩
    simp (decide := true) (disch := omega) only [e_X5_movedBy_0, e_X5_movedBy_1, e_X5_movedBy_4, e_X5_movedBy_5, e_X5_movedBy_6, e_X5_movedBy_9, e_X5_movedBy_10, e_X5_movedBy_13, e_X5_movedBy_14, e_X5_movedBy_17, e_X5_movedBy_18, e_X5_movedBy_21, e_X5_movedBy_23, e_X5_movedBy_26, e_X5_movedBy_29, e_X5_movedBy_30, e_X5_movedBy_31, e_X5_movedBy_32, e_X5_movedBy_34, e_X5_movedBy_36, e_X5_movedBy_39, e_X5_movedBy_42, e_X5_movedBy_43, e_X5_movedBy_46, e_X5_movedBy_47, e_X5_movedBy_50, e_X5_movedBy_52, e_X5_movedBy_53, e_X5_movedBy_56, e_X5_movedBy_59, e_X5_movedBy_60, e_X5_movedBy_61, e_X5_movedBy_64, e_X5_movedBy_67, e_X5_movedBy_68, e_X5_movedBy_71, e_X5_movedBy_72, e_X5_movedBy_73, e_X5_movedBy_76, e_X5_movedBy_77, e_X5_movedBy_80, e_X5_movedBy_83, e_X5_movedBy_84, e_X5_movedBy_87, e_X5_movedBy_90, e_X5_movedBy_91, e_X5_movedBy_94, e_X5_movedBy_97, e_X5_movedBy_98, ↓reduceIte, if_true, if_false, reduceCtorEq, Nat.reduceAdd, true_and, and_true, false_and, and_false, true_or, or_true, false_or, or_false, not_true_eq_false, not_false_eq_true, Option.bind_eq_bind, Option.bind_some, psh, eq_self, l_0, l_1, l_2, l_3, l_4, l_5, l_6, l_7, l_8, l_9, l_10, l_11, l_12, l_13, l_14, l_15, l_16, l_17, l_18, l_19, l_20, l_24, l_31, l_32, l_33, l_35, l_36, l_48, l_56, l_57, l_58, l_63, l_65, l_80, l_81, l_90, l_91, l_93, l_94, l_95, l_97, l_100, l_105, l_107, l_110, l_111, l_116, l_120, l_121, l_122, l_123, l_124, l_125, l_126, l_162, l_255, l_300, l_400, l_420, l_432, l_1000, l_1400, l_1936, l_2000, l_2100, l_2400, l_24000, m_n1, m_n2, m_n3, nI_mul, nI_add, nI_sub, nI_ltT, nI_ltF, nI_leT, nI_leF, nI_eqT, nI_eqF, nI_nM, nM_nI, nM_eq, nM_lt, nM_le, nI_ltM, nI_leM, nI_inT, nI_dec, pk_rem, nI_ltI, nI_leI, nI_eq, nI_clamp, Nat.add_assoc, q_bv51, Nat.add_left_cancel_iff, k8, h1]
  | cons e es =>
    rw [hp] at hs
    obtain ⟨b, h1, p1, hs2⟩ := hs
    have so := ptl_sort (t := t) (e := e) (by rw [hp]; exact List.mem_cons_self)
    obtain ⟨⟨-, k4, i0, i1, i2, i3⟩, -⟩ := p1
    by_cases c1 : e.1 = 2
    · rw [c1] at i0
      by_cases c2 : e.2.2.1 = 4
      · rw [c2] at i2
        have lp := c_movedBy_loop (g := g) (l1 := some (va_rf (some b))) d k8 h0 r (by omega) ht 4 0 rfl (fun k hk => absurd hk (Nat.not_lt_zero _))
        have hd1 : ev g mX5_movedBy 0 [some (va_rf (some a)), none, none] [] h = ev g mX5_movedBy 33 [some (va_rf (some a)), some (va_rf (some b)), some (.int (nI 0))] [] h := by
          simp (decide := true) (disch := omega) only [e_X5_movedBy_0, e_X5_movedBy_1, e_X5_movedBy_4, e_X5_movedBy_5, e_X5_movedBy_6, e_X5_movedBy_9, e_X5_movedBy_10, e_X5_movedBy_13, e_X5_movedBy_14, e_X5_movedBy_17, e_X5_movedBy_18, e_X5_movedBy_21, e_X5_movedBy_23, e_X5_movedBy_26, e_X5_movedBy_29, e_X5_movedBy_30, e_X5_movedBy_31, e_X5_movedBy_32, ↓reduceIte, if_true, if_false, reduceCtorEq, Nat.reduceAdd, true_and, and_true, false_and, and_false, true_or, or_true, false_or, or_false, not_true_eq_false, not_false_eq_true, Option.bind_eq_bind, Option.bind_some, psh, eq_self, l_0, l_1, l_2, l_3, l_4, l_5, l_6, l_7, l_8, l_9, l_10, l_11, l_12, l_13, l_14, l_15, l_16, l_17, l_18, l_19, l_20, l_24, l_31, l_32, l_33, l_35, l_36, l_48, l_56, l_57, l_58, l_63, l_65, l_80, l_81, l_90, l_91, l_93, l_94, l_95, l_97, l_100, l_105, l_107, l_110, l_111, l_116, l_120, l_121, l_122, l_123, l_124, l_125, l_126, l_162, l_255, l_300, l_400, l_420, l_432, l_1000, l_1400, l_1936, l_2000, l_2100, l_2400, l_24000, m_n1, m_n2, m_n3, nI_mul, nI_add, nI_sub, nI_ltT, nI_ltF, nI_leT, nI_leF, nI_eqT, nI_eqF, nI_nM, nM_nI, nM_eq, nM_lt, nM_le, nI_ltM, nI_leM, nI_inT, nI_dec, pk_rem, nI_ltI, nI_leI, nI_eq, nI_clamp, Nat.add_assoc, q_bv51, Nat.add_left_cancel_iff, k8, h1, reduceCtorEq, k4, i0, i2, j3_eq, hS1, kL]
        rw [hd1, lp]
        by_cases c3 : t.take 4 = q_tx 1
        · rw [if_pos c3]
          cases es with
          | nil =>
            have h5 : hR h 5 b = none := hs2
            refine ⟨none, ?_, rfl⟩
            simp (decide := true) (disch := omega) only [e_X5_movedBy_67, e_X5_movedBy_68, e_X5_movedBy_71, e_X5_movedBy_72, e_X5_movedBy_73, e_X5_movedBy_76, e_X5_movedBy_77, e_X5_movedBy_80, e_X5_movedBy_83, e_X5_movedBy_84, e_X5_movedBy_87, e_X5_movedBy_90, e_X5_movedBy_91, e_X5_movedBy_94, e_X5_movedBy_97, e_X5_movedBy_98, ↓reduceIte, if_true, if_false, reduceCtorEq, Nat.reduceAdd, true_and, and_true, false_and, and_false, true_or, or_true, false_or, or_false, not_true_eq_false, not_false_eq_true, Option.bind_eq_bind, Option.bind_some, psh, eq_self, l_0, l_1, l_2, l_3, l_4, l_5, l_6, l_7, l_8, l_9, l_10, l_11, l_12, l_13, l_14, l_15, l_16, l_17, l_18, l_19, l_20, l_24, l_31, l_32, l_33, l_35, l_36, l_48, l_56, l_57, l_58, l_63, l_65, l_80, l_81, l_90, l_91, l_93, l_94, l_95, l_97, l_100, l_105, l_107, l_110, l_111, l_116, l_120, l_121, l_122, l_123, l_124, l_125, l_126, l_162, l_255, l_300, l_400, l_420, l_432, l_1000, l_1400, l_1936, l_2000, l_2100, l_2400, l_24000, m_n1, m_n2, m_n3, nI_mul, nI_add, nI_sub, nI_ltT, nI_ltF, nI_leT, nI_leF, nI_eqT, nI_eqF, nI_nM, nM_nI, nM_eq, nM_lt, nM_le, nI_ltM, nI_leM, nI_inT, nI_dec, pk_rem, nI_ltI, nI_leI, nI_eq, nI_clamp, Nat.add_assoc, q_bv51, Nat.add_left_cancel_iff, k4, h5]
          | cons l ls =>
            obtain ⟨b2, h5, p2, hs3⟩ := hs2
            have so2 := ptl_sort (t := t) (e := l) (by rw [hp]; exact List.mem_cons_of_mem _ List.mem_cons_self)
            have eP := p_isLinkToPage (g := g) p2 so2.1
            obtain ⟨⟨-, k42, -⟩, p27⟩ := p2
            have hd2 : ev g mX5_movedBy 67 [some (va_rf (some a)), some (va_rf (some b)), some (.int (nI 4))] [] h = ev g mX5_movedBy 80 [some (va_rf (some a)), some (va_rf (some b)), some (va_rf (some b2))] [.int (bI (isP l false))] h := by
              simp (decide := true) (disch := omega) only [e_X5_movedBy_67, e_X5_movedBy_68, e_X5_movedBy_71, e_X5_movedBy_72, e_X5_movedBy_73, e_X5_movedBy_76, e_X5_movedBy_77, ↓reduceIte, if_true, if_false, reduceCtorEq, Nat.reduceAdd, true_and, and_true, false_and, and_false, true_or, or_true, false_or, or_false, not_true_eq_false, not_false_eq_true, Option.bind_eq_bind, Option.bind_some, psh, eq_self, l_0, l_1, l_2, l_3, l_4, l_5, l_6, l_7, l_8, l_9, l_10, l_11, l_12, l_13, l_14, l_15, l_16, l_17, l_18, l_19, l_20, l_24, l_31, l_32, l_33, l_35, l_36, l_48, l_56, l_57, l_58, l_63, l_65, l_80, l_81, l_90, l_91, l_93, l_94, l_95, l_97, l_100, l_105, l_107, l_110, l_111, l_116, l_120, l_121, l_122, l_123, l_124, l_125, l_126, l_162, l_255, l_300, l_400, l_420, l_432, l_1000, l_1400, l_1936, l_2000, l_2100, l_2400, l_24000, m_n1, m_n2, m_n3, nI_mul, nI_add, nI_sub, nI_ltT, nI_ltF, nI_leT, nI_leF, nI_eqT, nI_eqF, nI_nM, nM_nI, nM_eq, nM_lt, nM_le, nI_ltM, nI_leM, nI_inT, nI_dec, pk_rem, nI_ltI, nI_leI, nI_eq, nI_clamp, Nat.add_assoc, q_bv51, Nat.add_left_cancel_iff, k4, h5, reduceCtorEq, k42, eP]
            rw [hd2]
            cases ls with
            | nil =>
              have h52 : hR h 5 b2 = none := hs3
              unfold mvP
              simp only [c1, c2, c3, true_and]
              cases eq : l.2.2.2.2 with
              | none =>
                have : isP l false = false := by unfold isP; rw [eq]; simp
                rw [this]
                refine ⟨none, ?_, by split <;> rfl⟩
                simp (decide := true) (disch := omega) only [e_X5_movedBy_80, e_X5_movedBy_83, e_X5_movedBy_84, e_X5_movedBy_87, e_X5_movedBy_90, e_X5_movedBy_91, e_X5_movedBy_94, e_X5_movedBy_97, e_X5_movedBy_98, ↓reduceIte, if_true, if_false, reduceCtorEq, Nat.reduceAdd, true_and, and_true, false_and, and_false, true_or, or_true, false_or, or_false, not_true_eq_false, not_false_eq_true, Option.bind_eq_bind, Option.bind_some, psh, eq_self, l_0, l_1, l_2, l_3, l_4, l_5, l_6, l_7, l_8, l_9, l_10, l_11, l_12, l_13, l_14, l_15, l_16, l_17, l_18, l_19, l_20, l_24, l_31, l_32, l_33, l_35, l_36, l_48, l_56, l_57, l_58, l_63, l_65, l_80, l_81, l_90, l_91, l_93, l_94, l_95, l_97, l_100, l_105, l_107, l_110, l_111, l_116, l_120, l_121, l_122, l_123, l_124, l_125, l_126, l_162, l_255, l_300, l_400, l_420, l_432, l_1000, l_1400, l_1936, l_2000, l_2100, l_2400, l_24000, m_n1, m_n2, m_n3, nI_mul, nI_add, nI_sub, nI_ltT, nI_ltF, nI_leT, nI_leF, nI_eqT, nI_eqF, nI_nM, nM_nI, nM_eq, nM_lt, nM_le, nI_ltM, nI_leM, nI_inT, nI_dec, pk_rem, nI_ltI, nI_leI, nI_eq, nI_clamp, Nat.add_assoc, q_bv51, Nat.add_left_cancel_iff, bI_f]
              | some q =>
                rw [eq] at p27
                obtain ⟨u, u1, u2, u3⟩ := p27
                by_cases cl' : l.1 = 0
                · rw [if_pos cl']
                  cases ck : q.1 with
                  | true =>
                    have : isP l false = false := by unfold isP; rw [eq]; simp [ck]
                    rw [this]
                    refine ⟨none, ?_, by simp [ck, nmQ]⟩
                    simp (decide := true) (disch := omega) only [e_X5_movedBy_80, e_X5_movedBy_83, e_X5_movedBy_84, e_X5_movedBy_87, e_X5_movedBy_90, e_X5_movedBy_91, e_X5_movedBy_94, e_X5_movedBy_97, e_X5_movedBy_98, ↓reduceIte, if_true, if_false, reduceCtorEq, Nat.reduceAdd, true_and, and_true, false_and, and_false, true_or, or_true, false_or, or_false, not_true_eq_false, not_false_eq_true, Option.bind_eq_bind, Option.bind_some, psh, eq_self, l_0, l_1, l_2, l_3, l_4, l_5, l_6, l_7, l_8, l_9, l_10, l_11, l_12, l_13, l_14, l_15, l_16, l_17, l_18, l_19, l_20, l_24, l_31, l_32, l_33, l_35, l_36, l_48, l_56, l_57, l_58, l_63, l_65, l_80, l_81, l_90, l_91, l_93, l_94, l_95, l_97, l_100, l_105, l_107, l_110, l_111, l_116, l_120, l_121, l_122, l_123, l_124, l_125, l_126, l_162, l_255, l_300, l_400, l_420, l_432, l_1000, l_1400, l_1936, l_2000, l_2100, l_2400, l_24000, m_n1, m_n2, m_n3, nI_mul, nI_add, nI_sub, nI_ltT, nI_ltF, nI_leT, nI_leF, nI_eqT, nI_eqF, nI_nM, nM_nI, nM_eq, nM_lt, nM_le, nI_ltM, nI_leM, nI_inT, nI_dec, pk_rem, nI_ltI, nI_leI, nI_eq, nI_clamp, Nat.add_assoc, q_bv51, Nat.add_left_cancel_iff, bI_f]
                  | false =>
                    have : isP l false = true := by unfold isP; rw [eq]; simp [ck, cl']
                    rw [this]
                    refine ⟨some u, ?_, by simp only [ck, if_true]; exact ⟨u, rfl, u2, u3⟩⟩
                    simp (decide := true) (disch := omega) only [e_X5_movedBy_80, e_X5_movedBy_83, e_X5_movedBy_84, e_X5_movedBy_87, e_X5_movedBy_90, e_X5_movedBy_91, e_X5_movedBy_94, e_X5_movedBy_97, e_X5_movedBy_98, ↓reduceIte, if_true, if_false, reduceCtorEq, Nat.reduceAdd, true_and, and_true, false_and, and_false, true_or, or_true, false_or, or_false, not_true_eq_false, not_false_eq_true, Option.bind_eq_bind, Option.bind_some, psh, eq_self, l_0, l_1, l_2, l_3, l_4, l_5, l_6, l_7, l_8, l_9, l_10, l_11, l_12, l_13, l_14, l_15, l_16, l_17, l_18, l_19, l_20, l_24, l_31, l_32, l_33, l_35, l_36, l_48, l_56, l_57, l_58, l_63, l_65, l_80, l_81, l_90, l_91, l_93, l_94, l_95, l_97, l_100, l_105, l_107, l_110, l_111, l_116, l_120, l_121, l_122, l_123, l_124, l_125, l_126, l_162, l_255, l_300, l_400, l_420, l_432, l_1000, l_1400, l_1936, l_2000, l_2100, l_2400, l_24000, m_n1, m_n2, m_n3, nI_mul, nI_add, nI_sub, nI_ltT, nI_ltF, nI_leT, nI_leF, nI_eqT, nI_eqF, nI_nM, nM_nI, nM_eq, nM_lt, nM_le, nI_ltM, nI_leM, nI_inT, nI_dec, pk_rem, nI_ltI, nI_leI, nI_eq, nI_clamp, Nat.add_assoc, q_bv51, Nat.add_left_cancel_iff, bI_t, k42, h52, u1]
                · rw [if_neg cl']
                  have : isP l false = false := by unfold isP; rw [decide_eq_false cl', Bool.false_and]
                  rw [this]
                  refine ⟨none, ?_, rfl⟩
                  simp (decide := true) (disch := omega) only [e_X5_movedBy_80, e_X5_movedBy_83, e_X5_movedBy_84, e_X5_movedBy_87, e_X5_movedBy_90, e_X5_movedBy_91, e_X5_movedBy_94, e_X5_movedBy_97, e_X5_movedBy_98, ↓reduceIte, if_true, if_false, reduceCtorEq, Nat.reduceAdd, true_and, and_true, false_and, and_false, true_or, or_true, false_or, or_false, not_true_eq_false, not_false_eq_true, Option.bind_eq_bind, Option.bind_some, psh, eq_self, l_0, l_1, l_2, l_3, l_4, l_5, l_6, l_7, l_8, l_9, l_10, l_11, l_12, l_13, l_14, l_15, l_16, l_17, l_18, l_19, l_20, l_24, l_31, l_32, l_33, l_35, l_36, l_48, l_56, l_57, l_58, l_63, l_65, l_80, l_81, l_90, l_91, l_93, l_94, l_95, l_97, l_100, l_105, l_107, l_110, l_111, l_116, l_120, l_121, l_122, l_123, l_124, l_125, l_126, l_162, l_255, l_300, l_400, l_420, l_432, l_1000, l_1400, l_1936, l_2000, l_2100, l_2400, l_24000, m_n1, m_n2, m_n3, nI_mul, nI_add, nI_sub, nI_ltT, nI_ltF, nI_leT, nI_leF, nI_eqT, nI_eqF, nI_nM, nM_nI, nM_eq, nM_lt, nM_le, nI_ltM, nI_leM, nI_inT, nI_dec, pk_rem, nI_ltI, nI_leI, nI_eq, nI_clamp, Nat.add_assoc, q_bv51, Nat.add_left_cancel_iff, bI_f]
            | cons l2 ls2 =>
              obtain ⟨b3, h53, -⟩ := hs3
              have em : mvP t (e :: l :: l2 :: ls2) = none := rfl
              rw [em]
              refine ⟨none, ?_, rfl⟩
              cases ei : isP l false with
              | true => simp (decide := true) (disch := omega) only [e_X5_movedBy_80, e_X5_movedBy_83, e_X5_movedBy_84, e_X5_movedBy_87, e_X5_movedBy_90, e_X5_movedBy_91, e_X5_movedBy_94, e_X5_movedBy_97, e_X5_movedBy_98, ↓reduceIte, if_true, if_false, reduceCtorEq, Nat.reduceAdd, true_and, and_true, false_and, and_false, true_or, or_true, false_or, or_false, not_true_eq_false, not_false_eq_true, Option.bind_eq_bind, Option.bind_some, psh, eq_self, l_0, l_1, l_2, l_3, l_4, l_5, l_6, l_7, l_8, l_9, l_10, l_11, l_12, l_13, l_14, l_15, l_16, l_17, l_18, l_19, l_20, l_24, l_31, l_32, l_33, l_35, l_36, l_48, l_56, l_57, l_58, l_63, l_65, l_80, l_81, l_90, l_91, l_93, l_94, l_95, l_97, l_100, l_105, l_107, l_110, l_111, l_116, l_120, l_121, l_122, l_123, l_124, l_125, l_126, l_162, l_255, l_300, l_400, l_420, l_432, l_1000, l_1400, l_1936, l_2000, l_2100, l_2400, l_24000, m_n1, m_n2, m_n3, nI_mul, nI_add, nI_sub, nI_ltT, nI_ltF, nI_leT, nI_leF, nI_eqT, nI_eqF, nI_nM, nM_nI, nM_eq, nM_lt, nM_le, nI_ltM, nI_leM, nI_inT, nI_dec, pk_rem, nI_ltI, nI_leI, nI_eq, nI_clamp, Nat.add_assoc, q_bv51, Nat.add_left_cancel_iff, bI_t, k42, h53, reduceCtorEq]
              | false => simp (decide := true) (disch := omega) only [e_X5_movedBy_80, e_X5_movedBy_83, e_X5_movedBy_84, e_X5_movedBy_87, e_X5_movedBy_90, e_X5_movedBy_91, e_X5_movedBy_94, e_X5_movedBy_97, e_X5_movedBy_98, ↓reduceIte, if_true, if_false, reduceCtorEq, Nat.reduceAdd, true_and, and_true, false_and, and_false, true_or, or_true, false_or, or_false, not_true_eq_false, not_false_eq_true, Option.bind_eq_bind, Option.bind_some, psh, eq_self, l_0, l_1, l_2, l_3, l_4, l_5, l_6, l_7, l_8, l_9, l_10, l_11, l_12, l_13, l_14, l_15, l_16, l_17, l_18, l_19, l_20, l_24, l_31, l_32, l_33, l_35, l_36, l_48, l_56, l_57, l_58, l_63, l_65, l_80, l_81, l_90, l_91, l_93, l_94, l_95, l_97, l_100, l_105, l_107, l_110, l_111, l_116, l_120, l_121, l_122, l_123, l_124, l_125, l_126, l_162, l_255, l_300, l_400, l_420, l_432, l_1000, l_1400, l_1936, l_2000, l_2100, l_2400, l_24000, m_n1, m_n2, m_n3, nI_mul, nI_add, nI_sub, nI_ltT, nI_ltF, nI_leT, nI_leF, nI_eqT, nI_eqF, nI_nM, nM_nI, nM_eq, nM_lt, nM_le, nI_ltM, nI_leM, nI_inT, nI_dec, pk_rem, nI_ltI, nI_leI, nI_eq, nI_clamp, Nat.add_assoc, q_bv51, Nat.add_left_cancel_iff, bI_f]
        · rw [if_neg c3]
          refine ⟨none, rfl, ?_⟩
          have : mvP t (e :: es) = none := by
            unfold mvP
            split
            · rw [if_neg (fun z => c3 z.2.2.1)]
            · rfl
          rw [this]
          rfl
      · have : mvP t (e :: es) = none := by
          unfold mvP
          split
          · rename_i e' l' he
            injection he with w1 w2
            rw [if_neg (fun z => c2 (by rw [w1]; exact z.2.1))]
          · rfl
        rw [this]
        refine ⟨none, ?_, rfl⟩
        simp (decide := true) (disch := omega) only [e_X5_movedBy_0, e_X5_movedBy_1, e_X5_movedBy_4, e_X5_movedBy_5, e_X5_movedBy_6, e_X5_movedBy_9, e_X5_movedBy_10, e_X5_movedBy_13, e_X5_movedBy_14, e_X5_movedBy_17, e_X5_movedBy_18, e_X5_movedBy_21, e_X5_movedBy_23, e_X5_movedBy_26, e_X5_movedBy_29, e_X5_movedBy_30, e_X5_movedBy_31, e_X5_movedBy_32, ↓reduceIte, if_true, if_false, reduceCtorEq, Nat.reduceAdd, true_and, and_true, false_and, and_false, true_or, or_true, false_or, or_false, not_true_eq_false, not_false_eq_true, Option.bind_eq_bind, Option.bind_some, psh, eq_self, l_0, l_1, l_2, l_3, l_4, l_5, l_6, l_7, l_8, l_9, l_10, l_11, l_12, l_13, l_14, l_15, l_16, l_17, l_18, l_19, l_20, l_24, l_31, l_32, l_33, l_35, l_36, l_48, l_56, l_57, l_58, l_63, l_65, l_80, l_81, l_90, l_91, l_93, l_94, l_95, l_97, l_100, l_105, l_107, l_110, l_111, l_116, l_120, l_121, l_122, l_123, l_124, l_125, l_126, l_162, l_255, l_300, l_400, l_420, l_432, l_1000, l_1400, l_1936, l_2000, l_2100, l_2400, l_24000, m_n1, m_n2, m_n3, nI_mul, nI_add, nI_sub, nI_ltT, nI_ltF, nI_leT, nI_leF, nI_eqT, nI_eqF, nI_nM, nM_nI, nM_eq, nM_lt, nM_le, nI_ltM, nI_leM, nI_inT, nI_dec, pk_rem, nI_ltI, nI_leI, nI_eq, nI_clamp, Nat.add_assoc, q_bv51, Nat.add_left_cancel_iff, k8, h1, reduceCtorEq, k4, i0, i2, j3_eq, hS1, kL]
    · have : mvP t (e :: es) = none := by
        unfold mvP
        split
        · rename_i e' l' he
          injection he with w1 w2
          rw [if_neg (fun z => c1 (by rw [w1]; exact z.1))]
        · rfl
      rw [this]
      refine ⟨none, ?_, rfl⟩
      simp (decide := true) (disch := omega) only [e_X5_movedBy_0, e_X5_movedBy_1, e_X5_movedBy_4, e_X5_movedBy_5, e_X5_movedBy_6, e_X5_movedBy_9, e_X5_movedBy_10, e_X5_movedBy_13, e_X5_movedBy_14, e_X5_movedBy_17, e_X5_movedBy_18, e_X5_movedBy_21, e_X5_movedBy_23, e_X5_movedBy_26, e_X5_movedBy_29, e_X5_movedBy_30, e_X5_movedBy_31, e_X5_movedBy_32, ↓reduceIte, if_true, if_false, reduceCtorEq, Nat.reduceAdd, true_and, and_true, false_and, and_false, true_or, or_true, false_or, or_false, not_true_eq_false, not_false_eq_true, Option.bind_eq_bind, Option.bind_some, psh, eq_self, l_0, l_1, l_2, l_3, l_4, l_5, l_6, l_7, l_8, l_9, l_10, l_11, l_12, l_13, l_14, l_15, l_16, l_17, l_18, l_19, l_20, l_24, l_31, l_32, l_33, l_35, l_36, l_48, l_56, l_57, l_58, l_63, l_65, l_80, l_81, l_90, l_91, l_93, l_94, l_95, l_97, l_100, l_105, l_107, l_110, l_111, l_116, l_120, l_121, l_122, l_123, l_124, l_125, l_126, l_162, l_255, l_300, l_400, l_420, l_432, l_1000, l_1400, l_1936, l_2000, l_2100, l_2400, l_24000, m_n1, m_n2, m_n3, nI_mul, nI_add, nI_sub, nI_ltT, nI_ltF, nI_leT, nI_leF, nI_eqT, nI_eqF, nI_nM, nM_nI, nM_eq, nM_lt, nM_le, nI_ltM, nI_leM, nI_inT, nI_dec, pk_rem, nI_ltI, nI_leI, nI_eq, nI_clamp, Nat.add_assoc, q_bv51, Nat.add_left_cancel_iff, k8, h1, reduceCtorEq, k4, i0]
