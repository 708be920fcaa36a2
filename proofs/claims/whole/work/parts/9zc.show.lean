/-! PageWeb: show -/
section
variable {g X : Nat} {Q : Nat → Prop} {h : PH} {tp ou fo : List Nat} {hd : Option Nm} {a : Option Nat} {w : Wd}
theorem kW.cap {wb cap bd : Nat} {l : List Nat} {o : Int32} (K : kW Q h X wb cap bd l o) : wcap h X = cap := by
  unfold wcap
  rw [K.1.1.2.1]
  exact K.1.1.2.2.2
theorem mOK_w {h' : PH} {wb cap bd wb' cap' bd' : Nat} {l l' : List Nat} {o o' : Int32} (I : cI Q h X tp ou fo hd a w) (K : kW Q h X wb cap bd l o) (K' : kW Q h' X wb' cap' bd' l' o') (m : mOK X wb cap wb' cap' h h') : cW X h h' 0 0 := by
  obtain ⟨s, -, n1, u1⟩ := m
  have dN := I.1.1.1
  obtain ⟨l2, e, ⟨⟨a1, a2⟩, a3⟩, b1, b2, b3⟩ := I.2.2.2.2
  have k3 := K.2.2.2.1
  have e2 := lcap_kp s.1 dN a2 b2 (by unfold kF'; omega)
  refine ⟨s.mono (fun x _ z => ?_), ?_, ?_⟩
  · unfold kF' at z
    unfold dP
    omega
  · unfold pot; rw [e2, K.cap, K'.cap]; omega
  · unfold pot; rw [e2, K.cap, K'.cap]; omega
theorem C_show {x : Int32} (hg : 7 ≤ g) (I : cI Q h X tp ou fo hd a w) :
    ∃ h', cal g mX10_show [va_rf (some X), .int x] h = some (some (.int (sShow ou a w x).1), h') ∧ cW X h h' 0 0 ∧ cI Q h' X tp (sShow ou a w x).2 fo hd a w := by
  have d := I.1.1
  have dN := d.1
  have W := I.1.2.2.1
  have hnn := W.1.2.2.2
  have hT := tm_le I.1.2.2.2
  have en := c_now (g := g) I
  have et := w_there (g := g) (x := x) d W hT
  have aT := adr_thI (x := x) W hT
  rw [n_X10_show]
  unfold sShow
  cases ec : thI w.2.1 w.2.2.1 (tm a w.1) x with
  | none =>
    rw [ec] at et
    have et' : cal g mX9_there [va_rf (some (X + 11)), .int x, .int (nI (tm a w.1))] h = some (some (va_rf none), h) := et
    refine ⟨h, ?_, cW.rf, I⟩
    simp (decide := true) (disch := omega) only [e_X10_show_0, e_X10_show_1, e_X10_show_4, e_X10_show_5, e_X10_show_6, e_X10_show_9, e_X10_show_12, e_X10_show_15, e_X10_show_16, e_X10_show_17, e_X10_show_18, e_X10_show_21, e_X10_show_22, e_X10_show_23, e_X10_show_26, e_X10_show_29, e_X10_show_30, e_X10_show_33, e_X10_show_36, e_X10_show_39, e_X10_show_41, e_X10_show_42, e_X10_show_43, e_X10_show_44, e_X10_show_47, e_X10_show_50, e_X10_show_53, e_X10_show_54, e_X10_show_57, e_X10_show_60, ↓reduceIte, if_true, if_false, reduceCtorEq, Nat.reduceAdd, true_and, and_true, false_and, and_false, true_or, or_true, false_or, or_false, not_true_eq_false, not_false_eq_true, Option.bind_eq_bind, Option.bind_some, psh, eq_self, l_0, l_1, l_2, l_3, l_4, l_5, l_6, l_7, l_8, l_9, l_10, l_11, l_12, l_13, l_14, l_15, l_16, l_17, l_18, l_19, l_20, l_24, l_31, l_32, l_33, l_35, l_36, l_48, l_56, l_57, l_58, l_63, l_65, l_80, l_81, l_90, l_91, l_93, l_94, l_95, l_97, l_100, l_105, l_107, l_110, l_111, l_116, l_120, l_121, l_122, l_123, l_124, l_125, l_126, l_162, l_255, l_300, l_400, l_420, l_432, l_1000, l_1400, l_1936, l_2000, l_2100, l_2400, l_24000, m_n1, m_n2, m_n3, nI_mul, nI_add, nI_sub, nI_ltT, nI_ltF, nI_leT, nI_leF, nI_eqT, nI_eqF, nI_nM, nM_nI, nM_eq, nM_lt, nM_le, nI_ltM, nI_leM, nI_inT, nI_dec, pk_rem, nI_ltI, nI_leI, nI_eq, nI_clamp, Nat.add_assoc, q_bv51, Nat.add_left_cancel_iff, clK_0 d, clK_1 d, clK_3 d, clK_5 d, clK_7 d, clK_8 d, clK_9 d, clK_11 d, clK_12 d, clK_13 d, clK_14 d, clK_15 d, clK_16 d, clK_18 d, clK_20 d, clK_21 d, clK_22 d, clK_23 d, clK_24 d, clK_25 d, clK_26 d, clR_0_0 d, clR_1_0 d, clR_2_0 d, clR_3_0 d, clR_7_0 d, clR_8_0 d, clR_9_0 d, clR_10_0 d, clR_11_0 d, clR_0_8 d, clR_0_11 d, clR_1_11 d, clR_2_11 d, clR_0_15 d, clR_1_15 d, clR_2_15 d, clR_3_15 d, clR_4_15 d, clR_5_15 d, clR_0_23 d, clR_1_23 d, clR_0_25 d, clL_7 d, clL_12 d, clL_13 d, clL_14 d, clL_20 d, clL_21 d, clL_22 d, clL_24 d, clS_0 d, clS_1 d, clS_2 d, clS_3 d, en, et']
  | some c =>
    rw [ec] at et aT
    obtain ⟨p, hp, rfl, ep⟩ := thI_some ec (by omega)
    simp only [nI_clamp (show p < 2 ^ 31 by omega)]
    obtain ⟨v, b1, -⟩ := aT
    rw [b1] at et
    obtain ⟨h1, wb, cap, bd, E1, ⟨cap0, bd0, l0, o0, K0, o1, rfl⟩, I1, S1, E, W1⟩ := k_begin (g := g) (T := tm a w.1) I
    obtain ⟨h2, wb2, cap2, bd2, E2, o2, -, I2, S2⟩ := k_make (X := X) (T := tm a w.1) hT 7 0 (by omega) g h1 wb cap0 bd p c [] [] [] E [] 0 hg hp ep (by simp) (by simp) I1 S1 W1
    have d1 := I1.1.1
    have d2 := I2.1.1
    rw [List.nil_append, ← wasT_eq ep] at S2
    unfold made
    have o12 := o1.tr o2
    have Ew : cal g mX1_makeWhole [va_rf (some (X + 15)), .int (nI p), .int (nI (tm a w.1))] h = some (none, h2) := by
      rw [n_X1_makeWhole]
      simp (decide := true) (disch := omega) only [e_X1_makeWhole_0, e_X1_makeWhole_1, e_X1_makeWhole_2, e_X1_makeWhole_5, e_X1_makeWhole_6, e_X1_makeWhole_7, e_X1_makeWhole_8, e_X1_makeWhole_11, ↓reduceIte, if_true, if_false, reduceCtorEq, Nat.reduceAdd, true_and, and_true, false_and, and_false, true_or, or_true, false_or, or_false, not_true_eq_false, not_false_eq_true, Option.bind_eq_bind, Option.bind_some, psh, eq_self, l_0, l_1, l_2, l_3, l_4, l_5, l_6, l_7, l_8, l_9, l_10, l_11, l_12, l_13, l_14, l_15, l_16, l_17, l_18, l_19, l_20, l_24, l_31, l_32, l_33, l_35, l_36, l_48, l_56, l_57, l_58, l_63, l_65, l_80, l_81, l_90, l_91, l_93, l_94, l_95, l_97, l_100, l_105, l_107, l_110, l_111, l_116, l_120, l_121, l_122, l_123, l_124, l_125, l_126, l_162, l_255, l_300, l_400, l_420, l_432, l_1000, l_1400, l_1936, l_2000, l_2100, l_2400, l_24000, m_n1, m_n2, m_n3, nI_mul, nI_add, nI_sub, nI_ltT, nI_ltF, nI_leT, nI_leF, nI_eqT, nI_eqF, nI_nM, nM_nI, nM_eq, nM_lt, nM_le, nI_ltM, nI_leM, nI_inT, nI_dec, pk_rem, nI_ltI, nI_leI, nI_eq, nI_clamp, Nat.add_assoc, q_bv51, Nat.add_left_cancel_iff, clK_0 d, clK_1 d, clK_3 d, clK_5 d, clK_7 d, clK_8 d, clK_9 d, clK_11 d, clK_12 d, clK_13 d, clK_14 d, clK_15 d, clK_16 d, clK_18 d, clK_20 d, clK_21 d, clK_22 d, clK_23 d, clK_24 d, clK_25 d, clK_26 d, clR_0_0 d, clR_1_0 d, clR_2_0 d, clR_3_0 d, clR_7_0 d, clR_8_0 d, clR_9_0 d, clR_10_0 d, clR_11_0 d, clR_0_8 d, clR_0_11 d, clR_1_11 d, clR_2_11 d, clR_0_15 d, clR_1_15 d, clR_2_15 d, clR_3_15 d, clR_4_15 d, clR_5_15 d, clR_0_23 d, clR_1_23 d, clR_0_25 d, clL_7 d, clL_12 d, clL_13 d, clL_14 d, clL_20 d, clL_21 d, clL_22 d, clL_24 d, clS_0 d, clS_1 d, clS_2 d, clS_3 d, E1, clK_0 d1, clK_1 d1, clK_3 d1, clK_5 d1, clK_7 d1, clK_8 d1, clK_9 d1, clK_11 d1, clK_12 d1, clK_13 d1, clK_14 d1, clK_15 d1, clK_16 d1, clK_18 d1, clK_20 d1, clK_21 d1, clK_22 d1, clK_23 d1, clK_24 d1, clK_25 d1, clK_26 d1, clR_0_0 d1, clR_1_0 d1, clR_2_0 d1, clR_3_0 d1, clR_7_0 d1, clR_8_0 d1, clR_9_0 d1, clR_10_0 d1, clR_11_0 d1, clR_0_8 d1, clR_0_11 d1, clR_1_11 d1, clR_2_11 d1, clR_0_15 d1, clR_1_15 d1, clR_2_15 d1, clR_3_15 d1, clR_4_15 d1, clR_5_15 d1, clR_0_23 d1, clR_1_23 d1, clR_0_25 d1, clL_7 d1, clL_12 d1, clL_13 d1, clL_14 d1, clL_20 d1, clL_21 d1, clL_22 d1, clL_24 d1, clS_0 d1, clS_1 d1, clS_2 d1, clS_3 d1, E2]
    cases em : mkT w.2.1 w.2.2.2 w.2.2.1 (tm a w.1) 7 [p] [] (wasT w.2.1 p (tm a w.1)) (some ([], 0)) with
    | none =>
      rw [em] at S2
      obtain ⟨K2, -, ⟨lm, om, rm⟩, h8⟩ := S2
      refine ⟨h2, ?_, mOK_w I K0 K2 o12, I2.back (cMk.of K2 rm)⟩
      simp (decide := true) (disch := omega) only [e_X10_show_0, e_X10_show_1, e_X10_show_4, e_X10_show_5, e_X10_show_6, e_X10_show_9, e_X10_show_12, e_X10_show_15, e_X10_show_16, e_X10_show_17, e_X10_show_18, e_X10_show_21, e_X10_show_22, e_X10_show_23, e_X10_show_26, e_X10_show_29, e_X10_show_30, e_X10_show_33, e_X10_show_36, e_X10_show_39, e_X10_show_41, e_X10_show_42, e_X10_show_43, e_X10_show_44, e_X10_show_47, e_X10_show_50, e_X10_show_53, e_X10_show_54, e_X10_show_57, e_X10_show_60, ↓reduceIte, if_true, if_false, reduceCtorEq, Nat.reduceAdd, true_and, and_true, false_and, and_false, true_or, or_true, false_or, or_false, not_true_eq_false, not_false_eq_true, Option.bind_eq_bind, Option.bind_some, psh, eq_self, l_0, l_1, l_2, l_3, l_4, l_5, l_6, l_7, l_8, l_9, l_10, l_11, l_12, l_13, l_14, l_15, l_16, l_17, l_18, l_19, l_20, l_24, l_31, l_32, l_33, l_35, l_36, l_48, l_56, l_57, l_58, l_63, l_65, l_80, l_81, l_90, l_91, l_93, l_94, l_95, l_97, l_100, l_105, l_107, l_110, l_111, l_116, l_120, l_121, l_122, l_123, l_124, l_125, l_126, l_162, l_255, l_300, l_400, l_420, l_432, l_1000, l_1400, l_1936, l_2000, l_2100, l_2400, l_24000, m_n1, m_n2, m_n3, nI_mul, nI_add, nI_sub, nI_ltT, nI_ltF, nI_leT, nI_leF, nI_eqT, nI_eqF, nI_nM, nM_nI, nM_eq, nM_lt, nM_le, nI_ltM, nI_leM, nI_inT, nI_dec, pk_rem, nI_ltI, nI_leI, nI_eq, nI_clamp, Nat.add_assoc, q_bv51, Nat.add_left_cancel_iff, clK_0 d, clK_1 d, clK_3 d, clK_5 d, clK_7 d, clK_8 d, clK_9 d, clK_11 d, clK_12 d, clK_13 d, clK_14 d, clK_15 d, clK_16 d, clK_18 d, clK_20 d, clK_21 d, clK_22 d, clK_23 d, clK_24 d, clK_25 d, clK_26 d, clR_0_0 d, clR_1_0 d, clR_2_0 d, clR_3_0 d, clR_7_0 d, clR_8_0 d, clR_9_0 d, clR_10_0 d, clR_11_0 d, clR_0_8 d, clR_0_11 d, clR_1_11 d, clR_2_11 d, clR_0_15 d, clR_1_15 d, clR_2_15 d, clR_3_15 d, clR_4_15 d, clR_5_15 d, clR_0_23 d, clR_1_23 d, clR_0_25 d, clL_7 d, clL_12 d, clL_13 d, clL_14 d, clL_20 d, clL_21 d, clL_22 d, clL_24 d, clS_0 d, clS_1 d, clS_2 d, clS_3 d, en, et, reduceCtorEq, Ew, clK_0 d2, clK_1 d2, clK_3 d2, clK_5 d2, clK_7 d2, clK_8 d2, clK_9 d2, clK_11 d2, clK_12 d2, clK_13 d2, clK_14 d2, clK_15 d2, clK_16 d2, clK_18 d2, clK_20 d2, clK_21 d2, clK_22 d2, clK_23 d2, clK_24 d2, clK_25 d2, clK_26 d2, clR_0_0 d2, clR_1_0 d2, clR_2_0 d2, clR_3_0 d2, clR_7_0 d2, clR_8_0 d2, clR_9_0 d2, clR_10_0 d2, clR_11_0 d2, clR_0_8 d2, clR_0_11 d2, clR_1_11 d2, clR_2_11 d2, clR_0_15 d2, clR_1_15 d2, clR_2_15 d2, clR_3_15 d2, clR_4_15 d2, clR_5_15 d2, clR_0_23 d2, clR_1_23 d2, clR_0_25 d2, clL_7 d2, clL_12 d2, clL_13 d2, clL_14 d2, clL_20 d2, clL_21 d2, clL_22 d2, clL_24 d2, clS_0 d2, clS_1 d2, clS_2 d2, clS_3 d2, h8]
    | some r =>
      obtain ⟨acc, sh⟩ := r
      rw [em] at S2
      obtain ⟨K2, -, rm, h7, h8, hs⟩ := S2
      have J2 := I2.back (cMk.of K2 rm)
      obtain ⟨h3, E3, o3, J3, n3, u3⟩ := c_showRow (g := g) J2 rm rm.2.2.1.1 (by have := d2.1; omega) (by have := d2.1; omega) (by omega) (by omega)
      have d3 := J3.1.1
      obtain ⟨oo, ro⟩ := J3.2.1.2.1
      have el := r_len (g := g) ro
      refine ⟨h3, ?_, (mOK_w I K0 K2 o12).tr (cfm_w J2 o3.1 (by omega) (by omega) (c := 0) (n := 0)) dN, J3⟩
      simp (decide := true) (disch := omega) only [e_X10_show_0, e_X10_show_1, e_X10_show_4, e_X10_show_5, e_X10_show_6, e_X10_show_9, e_X10_show_12, e_X10_show_15, e_X10_show_16, e_X10_show_17, e_X10_show_18, e_X10_show_21, e_X10_show_22, e_X10_show_23, e_X10_show_26, e_X10_show_29, e_X10_show_30, e_X10_show_33, e_X10_show_36, e_X10_show_39, e_X10_show_41, e_X10_show_42, e_X10_show_43, e_X10_show_44, e_X10_show_47, e_X10_show_50, e_X10_show_53, e_X10_show_54, e_X10_show_57, e_X10_show_60, ↓reduceIte, if_true, if_false, reduceCtorEq, Nat.reduceAdd, true_and, and_true, false_and, and_false, true_or, or_true, false_or, or_false, not_true_eq_false, not_false_eq_true, Option.bind_eq_bind, Option.bind_some, psh, eq_self, l_0, l_1, l_2, l_3, l_4, l_5, l_6, l_7, l_8, l_9, l_10, l_11, l_12, l_13, l_14, l_15, l_16, l_17, l_18, l_19, l_20, l_24, l_31, l_32, l_33, l_35, l_36, l_48, l_56, l_57, l_58, l_63, l_65, l_80, l_81, l_90, l_91, l_93, l_94, l_95, l_97, l_100, l_105, l_107, l_110, l_111, l_116, l_120, l_121, l_122, l_123, l_124, l_125, l_126, l_162, l_255, l_300, l_400, l_420, l_432, l_1000, l_1400, l_1936, l_2000, l_2100, l_2400, l_24000, m_n1, m_n2, m_n3, nI_mul, nI_add, nI_sub, nI_ltT, nI_ltF, nI_leT, nI_leF, nI_eqT, nI_eqF, nI_nM, nM_nI, nM_eq, nM_lt, nM_le, nI_ltM, nI_leM, nI_inT, nI_dec, pk_rem, nI_ltI, nI_leI, nI_eq, nI_clamp, Nat.add_assoc, q_bv51, Nat.add_left_cancel_iff, clK_0 d, clK_1 d, clK_3 d, clK_5 d, clK_7 d, clK_8 d, clK_9 d, clK_11 d, clK_12 d, clK_13 d, clK_14 d, clK_15 d, clK_16 d, clK_18 d, clK_20 d, clK_21 d, clK_22 d, clK_23 d, clK_24 d, clK_25 d, clK_26 d, clR_0_0 d, clR_1_0 d, clR_2_0 d, clR_3_0 d, clR_7_0 d, clR_8_0 d, clR_9_0 d, clR_10_0 d, clR_11_0 d, clR_0_8 d, clR_0_11 d, clR_1_11 d, clR_2_11 d, clR_0_15 d, clR_1_15 d, clR_2_15 d, clR_3_15 d, clR_4_15 d, clR_5_15 d, clR_0_23 d, clR_1_23 d, clR_0_25 d, clL_7 d, clL_12 d, clL_13 d, clL_14 d, clL_20 d, clL_21 d, clL_22 d, clL_24 d, clS_0 d, clS_1 d, clS_2 d, clS_3 d, en, et, reduceCtorEq, Ew, clK_0 d2, clK_1 d2, clK_3 d2, clK_5 d2, clK_7 d2, clK_8 d2, clK_9 d2, clK_11 d2, clK_12 d2, clK_13 d2, clK_14 d2, clK_15 d2, clK_16 d2, clK_18 d2, clK_20 d2, clK_21 d2, clK_22 d2, clK_23 d2, clK_24 d2, clK_25 d2, clK_26 d2, clR_0_0 d2, clR_1_0 d2, clR_2_0 d2, clR_3_0 d2, clR_7_0 d2, clR_8_0 d2, clR_9_0 d2, clR_10_0 d2, clR_11_0 d2, clR_0_8 d2, clR_0_11 d2, clR_1_11 d2, clR_2_11 d2, clR_0_15 d2, clR_1_15 d2, clR_2_15 d2, clR_3_15 d2, clR_4_15 d2, clR_5_15 d2, clR_0_23 d2, clR_1_23 d2, clR_0_25 d2, clL_7 d2, clL_12 d2, clL_13 d2, clL_14 d2, clL_20 d2, clL_21 d2, clL_22 d2, clL_24 d2, clS_0 d2, clS_1 d2, clS_2 d2, clS_3 d2, h8, E3, clK_0 d3, clK_1 d3, clK_3 d3, clK_5 d3, clK_7 d3, clK_8 d3, clK_9 d3, clK_11 d3, clK_12 d3, clK_13 d3, clK_14 d3, clK_15 d3, clK_16 d3, clK_18 d3, clK_20 d3, clK_21 d3, clK_22 d3, clK_23 d3, clK_24 d3, clK_25 d3, clK_26 d3, clR_0_0 d3, clR_1_0 d3, clR_2_0 d3, clR_3_0 d3, clR_7_0 d3, clR_8_0 d3, clR_9_0 d3, clR_10_0 d3, clR_11_0 d3, clR_0_8 d3, clR_0_11 d3, clR_1_11 d3, clR_2_11 d3, clR_0_15 d3, clR_1_15 d3, clR_2_15 d3, clR_3_15 d3, clR_4_15 d3, clR_5_15 d3, clR_0_23 d3, clR_1_23 d3, clR_0_25 d3, clL_7 d3, clL_12 d3, clL_13 d3, clL_14 d3, clL_20 d3, clL_21 d3, clL_22 d3, clL_24 d3, clS_0 d3, clS_1 d3, clS_2 d3, clS_3 d3, el]
end
