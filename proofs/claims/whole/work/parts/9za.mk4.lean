/-! PageWeb$Maker: makeShowing, one SHOWING -/
section
variable {g X T : Nat} {Q : Nat → Prop} {h : PH} {tp ou fo wl pl : List Nat} {hd : Option Nm} {a : Option Nat} {w : Wd}
theorem k_makeShowing {lv dp ra rb' v sh wb cap bd : Nat} {t acc : List Nat} {ws : List (List Nat)} {E : Nat → Nat} {e : Pt} (hlv : dp + lv = 7) (IH : ∀ lv', lv = lv' + 1 → kMC Q X tp ou fo hd a w T lv' (dp + 1)) (hg : lv ≤ g) (hT : T ≤ w.1) (ht : t.length ≤ 300) (hra : Q ra) (hrb : Q rb') (hwl : wl.length ≤ 18000 * dp) (I : cIk Q h X tp ou fo hd a w) (S : kS Q h X T wb cap bd wl pl (some (acc, sh))) (rt : rw_ h ra rb' t.length t.length t 0) (W0 : wSt h X dp ws E wl) (p1 : pt1 Q h v e) (he : e ∈ ptl t) (he1 : e.1 = 1) :
    ∃ h' wb' cap' bd', cal g mX1_makeShowing [va_rf (some (X + 15)), va_rf (some ra), va_rf (some v), .int (nI dp)] h = some (none, h') ∧ mOK X wb cap wb' cap' h h' ∧ eK X (dp + 1) h h' ∧ cIk Q h' X tp ou fo hd a w ∧ kS Q h' X T wb' cap' bd' wl pl (mkE w.2.1 w.2.2.2 w.2.2.1 T (fO w.2.1 w.2.2.2 w.2.2.1 T lv) pl ws t (some (acc, sh)) e) := by
  have d := I.1.1
  have dN := d.1
  have hQ := I.1.2.1
  have W := I.1.2.2.1
  have hnn := W.1.2.2.2
  have sr := ptl_sort he
  obtain ⟨x4, s, j, b, q, et, e2⟩ := sr.2.2.2.2.1 (by omega)
  have eq : e.2.2.2.2 = some q := by rw [e2]
  obtain ⟨⟨rK, k1, k2, k3, k4⟩, ⟨t6, t22⟩, rm, h7, h8, hsh⟩ := S
  have K0 : kW Q h X wb cap bd wl (nI 0) := ⟨rK, k1, k2, k3, k4⟩
  have p1' := p1
  obtain ⟨⟨qv, k4v, i0, -⟩, pg⟩ := p1
  rw [eq] at pg
  obtain ⟨gb, g1, g2, g3⟩ := pg
  have hE : mkE w.2.1 w.2.2.2 w.2.2.1 T (fO w.2.1 w.2.2.2 w.2.2.1 T lv) pl ws t (some (acc, sh)) e = (if 400 < sh + 1 then none
      else if onw w.2.1 w.2.2.2 w.2.2.1 T 17 q < 0 then pus (some (acc, sh + 1)) (63 :: (nz q ++ [63]))
      else if (onw w.2.1 w.2.2.2 w.2.2.1 T 17 q).toNatClampNeg ∈ pl then pus (some (acc, sh + 1)) (33 :: (nz (w.2.2.2 (onw w.2.1 w.2.2.2 w.2.2.1 T 17 q).toNatClampNeg) ++ [33]))
      else match fO w.2.1 w.2.2.2 w.2.2.1 T lv with
      | none => pus (some (acc, sh + 1)) [94]
      | some fm => match wdf ws (wds t (e.2.2.1 - 2) 300 e.2.2.2.1) with
        | none => none
        | some ws' => fm (pl ++ [(onw w.2.1 w.2.2.2 w.2.2.1 T 17 q).toNatClampNeg]) ws' (wasT w.2.1 (onw w.2.1 w.2.2.2 w.2.2.1 T 17 q).toNatClampNeg T) (some (acc, sh + 1))) := by
    unfold mkE
    simp only
    rw [if_neg (show ¬ e.1 = 2 by omega), eq]
    simp only
    rw [if_neg (show ¬ e.1 = 0 by omega)]
    rfl
  rw [hE]
  -- one SHOWING more
  have c1 : cfm X (kF' X wb) h (pI h 7 (X + 15) (nI (sh + 1))) := cfm.pI _ _ (Or.inl rfl)
  have s1 : sm (fun x => x = X + 15) h (pI h 7 (X + 15) (nI (sh + 1))) := sm.I1 _ _
  have I1 := I.kp K0 c1
  have d1 := I1.1.1
  have W1 := I1.1.2.2.1
  have o1 : mOK X wb cap wb cap h (pI h 7 (X + 15) (nI (sh + 1))) := mOK.of c1 rfl rfl
  have ek1 : eK X (dp + 1) h (pI h 7 (X + 15) (nI (sh + 1))) := eK.of s1 dN (by omega) (by omega)
  have rm1 := rm.keep s1 (by omega) (by omega) (by omega) (by omega)
  have rK1 := rK.keep s1 (by omega) k2 (by omega) (by omega)
  have i7 : hI (pI h 7 (X + 15) (nI (sh + 1))) 7 (X + 15) = nI (sh + 1) := by rw [u_II, if_pos rfl, if_pos rfl]
  have i6 : hI (pI h 7 (X + 15) (nI (sh + 1))) 6 (X + 15) = nI T := by rw [u_II, if_neg (by decide)]; exact t6
  have i8 : hI (pI h 7 (X + 15) (nI (sh + 1))) 8 (X + 15) = nI 0 := by rw [u_II, if_neg (by decide)]; exact h8
  rw [n_X1_makeShowing]
  by_cases c400 : 400 < sh + 1
  · rw [if_pos c400]
    have c2 : cfm X (kF' X wb) h (pI (pI h 7 (X + 15) (nI (sh + 1))) 8 (X + 15) (nI 1)) := c1.tr (cfm.pI _ _ (Or.inl rfl))
    have s2 : sm (fun x => x = X + 15) h (pI (pI h 7 (X + 15) (nI (sh + 1))) 8 (X + 15) (nI 1)) := s1.tr (sm.I (P := fun x => x = X + 15) _ _ rfl)
    refine ⟨_, wb, cap, bd, ?_, mOK.of c2 rfl rfl, eK.of s2 dN (by omega) (by omega), I.kp K0 c2, ⟨rK.keep s2 (by omega) k2 (by omega) (by omega), k1, k2, k3, k4⟩, ⟨?_, t22⟩, ⟨_, _, rm.keep s2 (by omega) (by omega) (by omega) (by omega)⟩, ?_⟩
    · simp (decide := true) (disch := omega) only [e_X1_makeShowing_0, e_X1_makeShowing_1, e_X1_makeShowing_2, e_X1_makeShowing_5, e_X1_makeShowing_6, e_X1_makeShowing_7, e_X1_makeShowing_10, e_X1_makeShowing_11, e_X1_makeShowing_14, e_X1_makeShowing_17, e_X1_makeShowing_20, e_X1_makeShowing_21, e_X1_makeShowing_22, e_X1_makeShowing_25, ↓reduceIte, if_true, if_false, reduceCtorEq, Nat.reduceAdd, true_and, and_true, false_and, and_false, true_or, or_true, false_or, or_false, not_true_eq_false, not_false_eq_true, Option.bind_eq_bind, Option.bind_some, psh, eq_self, l_0, l_1, l_2, l_3, l_4, l_5, l_6, l_7, l_8, l_9, l_10, l_11, l_12, l_13, l_14, l_15, l_16, l_17, l_18, l_19, l_20, l_24, l_31, l_32, l_33, l_35, l_36, l_48, l_56, l_57, l_58, l_63, l_65, l_80, l_81, l_90, l_91, l_93, l_94, l_95, l_97, l_100, l_105, l_107, l_110, l_111, l_116, l_120, l_121, l_122, l_123, l_124, l_125, l_126, l_162, l_255, l_300, l_400, l_420, l_432, l_1000, l_1400, l_1936, l_2000, l_2100, l_2400, l_24000, m_n1, m_n2, m_n3, nI_mul, nI_add, nI_sub, nI_ltT, nI_ltF, nI_leT, nI_leF, nI_eqT, nI_eqF, nI_nM, nM_nI, nM_eq, nM_lt, nM_le, nI_ltM, nI_leM, nI_inT, nI_dec, pk_rem, nI_ltI, nI_leI, nI_eq, nI_clamp, Nat.add_assoc, q_bv51, Nat.add_left_cancel_iff, clK_0 d, clK_1 d, clK_3 d, clK_5 d, clK_7 d, clK_8 d, clK_9 d, clK_11 d, clK_12 d, clK_13 d, clK_14 d, clK_15 d, clK_16 d, clK_18 d, clK_20 d, clK_21 d, clK_22 d, clK_23 d, clK_24 d, clK_25 d, clK_26 d, clR_0_0 d, clR_1_0 d, clR_2_0 d, clR_3_0 d, clR_7_0 d, clR_8_0 d, clR_9_0 d, clR_10_0 d, clR_11_0 d, clR_0_8 d, clR_0_11 d, clR_1_11 d, clR_2_11 d, clR_0_15 d, clR_1_15 d, clR_2_15 d, clR_3_15 d, clR_4_15 d, clR_5_15 d, clR_0_23 d, clR_1_23 d, clR_0_25 d, clL_7 d, clL_12 d, clL_13 d, clL_14 d, clL_20 d, clL_21 d, clL_22 d, clL_24 d, clS_0 d, clS_1 d, clS_2 d, clS_3 d, h7, clK_0 d1, clK_1 d1, clK_3 d1, clK_5 d1, clK_7 d1, clK_8 d1, clK_9 d1, clK_11 d1, clK_12 d1, clK_13 d1, clK_14 d1, clK_15 d1, clK_16 d1, clK_18 d1, clK_20 d1, clK_21 d1, clK_22 d1, clK_23 d1, clK_24 d1, clK_25 d1, clK_26 d1, clR_0_0 d1, clR_1_0 d1, clR_2_0 d1, clR_3_0 d1, clR_7_0 d1, clR_8_0 d1, clR_9_0 d1, clR_10_0 d1, clR_11_0 d1, clR_0_8 d1, clR_0_11 d1, clR_1_11 d1, clR_2_11 d1, clR_0_15 d1, clR_1_15 d1, clR_2_15 d1, clR_3_15 d1, clR_4_15 d1, clR_5_15 d1, clR_0_23 d1, clR_1_23 d1, clR_0_25 d1, clL_7 d1, clL_12 d1, clL_13 d1, clL_14 d1, clL_20 d1, clL_21 d1, clL_22 d1, clL_24 d1, clS_0 d1, clS_1 d1, clS_2 d1, clS_3 d1, i7]
    · rw [u_II, if_neg (by decide)]; exact i6
    · rw [u_II, if_pos rfl, if_pos rfl]
  · rw [if_neg c400]
    have S1 : kS Q (pI h 7 (X + 15) (nI (sh + 1))) X T wb cap bd wl pl (some (acc, sh + 1)) := ⟨⟨rK1, k1, k2, k3, k4⟩, ⟨i6, t22⟩, rm1, i7, i8, by omega⟩
    have g3' := g3.keep s1 (hQ gb g2).2 (by have := hQ gb g2; omega)
    have g1' : hR (pI h 7 (X + 15) (nI (sh + 1))) 4 v = some gb := g1
    have k4v' : hK (pI h 7 (X + 15) (nI (sh + 1))) v = 4 := k4v
    have ef := w_follow (g := g) d1 W1 g3' hT
    have hgb := hQ gb g2
    -- to the SHOWING's page
    have neg : ∀ z, 0 < z → z < 10 → onw w.2.1 w.2.2.2 w.2.2.1 T 17 q = nM z → ∃ h' wb' cap' bd', ev g mX1_makeShowing 0 [some (va_rf (some (X + 15))), some (va_rf (some ra)), some (va_rf (some v)), some (.int (nI dp)), none, none] [] h = some (none, h') ∧ mOK X wb cap wb' cap' h h' ∧ eK X (dp + 1) h h' ∧ cIk Q h' X tp ou fo hd a w ∧ kS Q h' X T wb' cap' bd' wl pl (pus (some (acc, sh + 1)) (63 :: (nz q ++ [63]))) := by
      intro z z1 z2 ez
      rw [ez] at ef
      obtain ⟨h2, E2, s2, n2, u2, r2⟩ := k_putMark (g := g) (v := 63) d1 rm1 (by omega) g3' ⟨hgb.1, hgb.2⟩
      obtain ⟨h3, E3, o3, ek3, I3, S3⟩ := k_put_end (g := g) (L := dp + 1) (l1 := some (va_rf (some ra))) (l2 := some (va_rf (some v))) (l3 := some (.int (nI dp))) (l4 := some (.int (nM z))) (l5 := none) I1 S1 s2 n2 u2 r2
      refine ⟨h3, wb, cap, bd, ?_, o1.tr o3, ek1.tr ek3, I3, S3⟩
      rw [← E3]
      simp (decide := true) (disch := omega) only [e_X1_makeShowing_0, e_X1_makeShowing_1, e_X1_makeShowing_2, e_X1_makeShowing_5, e_X1_makeShowing_6, e_X1_makeShowing_7, e_X1_makeShowing_10, e_X1_makeShowing_11, e_X1_makeShowing_14, e_X1_makeShowing_17, e_X1_makeShowing_20, e_X1_makeShowing_21, e_X1_makeShowing_22, e_X1_makeShowing_25, e_X1_makeShowing_26, e_X1_makeShowing_27, e_X1_makeShowing_30, e_X1_makeShowing_31, e_X1_makeShowing_34, e_X1_makeShowing_35, e_X1_makeShowing_38, e_X1_makeShowing_41, e_X1_makeShowing_43, e_X1_makeShowing_45, e_X1_makeShowing_48, e_X1_makeShowing_50, e_X1_makeShowing_51, e_X1_makeShowing_54, e_X1_makeShowing_55, e_X1_makeShowing_58, e_X1_makeShowing_59, e_X1_makeShowing_61, e_X1_makeShowing_62, e_X1_makeShowing_65, e_X1_makeShowing_68, e_X1_makeShowing_71, e_X1_makeShowing_72, e_X1_makeShowing_75, e_X1_makeShowing_77, e_X1_makeShowing_78, e_X1_makeShowing_81, e_X1_makeShowing_82, e_X1_makeShowing_84, e_X1_makeShowing_85, e_X1_makeShowing_88, e_X1_makeShowing_90, e_X1_makeShowing_93, e_X1_makeShowing_96, e_X1_makeShowing_99, e_X1_makeShowing_100, e_X1_makeShowing_101, e_X1_makeShowing_102, e_X1_makeShowing_104, e_X1_makeShowing_107, e_X1_makeShowing_108, e_X1_makeShowing_111, e_X1_makeShowing_113, e_X1_makeShowing_116, e_X1_makeShowing_119, e_X1_makeShowing_120, e_X1_makeShowing_123, e_X1_makeShowing_126, e_X1_makeShowing_128, e_X1_makeShowing_129, e_X1_makeShowing_130, e_X1_makeShowing_131, e_X1_makeShowing_132, e_X1_makeShowing_135, e_X1_makeShowing_136, e_X1_makeShowing_138, e_X1_makeShowing_139, e_X1_makeShowing_140, e_X1_makeShowing_141, e_X1_makeShowing_144, e_X1_makeShowing_145, e_X1_makeShowing_148, e_X1_makeShowing_150, ↓reduceIte, if_true, if_false, reduceCtorEq, Nat.reduceAdd, true_and, and_true, false_and, and_false, true_or, or_true, false_or, or_false, not_true_eq_false, not_false_eq_true, Option.bind_eq_bind, Option.bind_some, psh, eq_self, l_0, l_1, l_2, l_3, l_4, l_5, l_6, l_7, l_8, l_9, l_10, l_11, l_12, l_13, l_14, l_15, l_16, l_17, l_18, l_19, l_20, l_24, l_31, l_32, l_33, l_35, l_36, l_48, l_56, l_57, l_58, l_63, l_65, l_80, l_81, l_90, l_91, l_93, l_94, l_95, l_97, l_100, l_105, l_107, l_110, l_111, l_116, l_120, l_121, l_122, l_123, l_124, l_125, l_126, l_162, l_255, l_300, l_400, l_420, l_432, l_1000, l_1400, l_1936, l_2000, l_2100, l_2400, l_24000, m_n1, m_n2, m_n3, nI_mul, nI_add, nI_sub, nI_ltT, nI_ltF, nI_leT, nI_leF, nI_eqT, nI_eqF, nI_nM, nM_nI, nM_eq, nM_lt, nM_le, nI_ltM, nI_leM, nI_inT, nI_dec, pk_rem, nI_ltI, nI_leI, nI_eq, nI_clamp, Nat.add_assoc, q_bv51, Nat.add_left_cancel_iff, clK_0 d, clK_1 d, clK_3 d, clK_5 d, clK_7 d, clK_8 d, clK_9 d, clK_11 d, clK_12 d, clK_13 d, clK_14 d, clK_15 d, clK_16 d, clK_18 d, clK_20 d, clK_21 d, clK_22 d, clK_23 d, clK_24 d, clK_25 d, clK_26 d, clR_0_0 d, clR_1_0 d, clR_2_0 d, clR_3_0 d, clR_7_0 d, clR_8_0 d, clR_9_0 d, clR_10_0 d, clR_11_0 d, clR_0_8 d, clR_0_11 d, clR_1_11 d, clR_2_11 d, clR_0_15 d, clR_1_15 d, clR_2_15 d, clR_3_15 d, clR_4_15 d, clR_5_15 d, clR_0_23 d, clR_1_23 d, clR_0_25 d, clL_7 d, clL_12 d, clL_13 d, clL_14 d, clL_20 d, clL_21 d, clL_22 d, clL_24 d, clS_0 d, clS_1 d, clS_2 d, clS_3 d, h7, clK_0 d1, clK_1 d1, clK_3 d1, clK_5 d1, clK_7 d1, clK_8 d1, clK_9 d1, clK_11 d1, clK_12 d1, clK_13 d1, clK_14 d1, clK_15 d1, clK_16 d1, clK_18 d1, clK_20 d1, clK_21 d1, clK_22 d1, clK_23 d1, clK_24 d1, clK_25 d1, clK_26 d1, clR_0_0 d1, clR_1_0 d1, clR_2_0 d1, clR_3_0 d1, clR_7_0 d1, clR_8_0 d1, clR_9_0 d1, clR_10_0 d1, clR_11_0 d1, clR_0_8 d1, clR_0_11 d1, clR_1_11 d1, clR_2_11 d1, clR_0_15 d1, clR_1_15 d1, clR_2_15 d1, clR_3_15 d1, clR_4_15 d1, clR_5_15 d1, clR_0_23 d1, clR_1_23 d1, clR_0_25 d1, clL_7 d1, clL_12 d1, clL_13 d1, clL_14 d1, clL_20 d1, clL_21 d1, clL_22 d1, clL_24 d1, clS_0 d1, clS_1 d1, clS_2 d1, clS_3 d1, i7, i6, k4v', g1', ef, E2]
    rcases onw_cases (ch := w.2.1) (nm := w.2.2.2) (nn := w.2.2.1) (t := T) 17 q with ez | ez | ⟨p, c, hp, ez, hc⟩
    · rw [if_pos (by rw [ez]; decide)]
      exact neg 2 (by omega) (by omega) ez
    · rw [if_pos (by rw [ez]; decide)]
      exact neg 3 (by omega) (by omega) ez
    · rw [if_neg (by rw [ez]; exact nI_pos (by omega)), ez, nI_clamp (by omega)]
      rw [ez] at ef
      have m22 := t22 p (by omega)
      have m22' : hA (pI h 7 (X + 15) (nI (sh + 1))) (X + 22) p = bI (decide (p ∈ pl)) := m22
      by_cases cp : p ∈ pl
      · -- it is being MADE
        rw [if_pos cp]
        rw [decide_eq_true cp, bI_t] at m22'
        obtain ⟨nv, en, nq⟩ := w_nameOf (g := g) (x := nI p) d1 W1
        rw [ixI_nI hp (by omega)] at nq
        obtain ⟨nb', rfl, nq2, nq3⟩ := nq
        have hnb := I1.1.2.1 nb' nq2
        obtain ⟨h2, E2, s2, n2, u2, r2⟩ := k_putMark (g := g) (v := 33) d1 rm1 (by omega) nq3 hnb
        obtain ⟨h3, E3, o3, ek3, I3, S3⟩ := k_put_end (g := g) (L := dp + 1) (l1 := some (va_rf (some ra))) (l2 := some (va_rf (some v))) (l3 := some (.int (nI dp))) (l4 := some (.int (nI p))) (l5 := none) I1 S1 s2 n2 u2 r2
        refine ⟨h3, wb, cap, bd, ?_, o1.tr o3, ek1.tr ek3, I3, S3⟩
        rw [← E3]
        simp (decide := true) (disch := omega) only [e_X1_makeShowing_0, e_X1_makeShowing_1, e_X1_makeShowing_2, e_X1_makeShowing_5, e_X1_makeShowing_6, e_X1_makeShowing_7, e_X1_makeShowing_10, e_X1_makeShowing_11, e_X1_makeShowing_14, e_X1_makeShowing_17, e_X1_makeShowing_20, e_X1_makeShowing_21, e_X1_makeShowing_22, e_X1_makeShowing_25, e_X1_makeShowing_26, e_X1_makeShowing_27, e_X1_makeShowing_30, e_X1_makeShowing_31, e_X1_makeShowing_34, e_X1_makeShowing_35, e_X1_makeShowing_38, e_X1_makeShowing_41, e_X1_makeShowing_43, e_X1_makeShowing_45, e_X1_makeShowing_48, e_X1_makeShowing_50, e_X1_makeShowing_51, e_X1_makeShowing_54, e_X1_makeShowing_55, e_X1_makeShowing_58, e_X1_makeShowing_59, e_X1_makeShowing_61, e_X1_makeShowing_62, e_X1_makeShowing_65, e_X1_makeShowing_68, e_X1_makeShowing_71, e_X1_makeShowing_72, e_X1_makeShowing_75, e_X1_makeShowing_77, e_X1_makeShowing_78, e_X1_makeShowing_81, e_X1_makeShowing_82, e_X1_makeShowing_84, e_X1_makeShowing_85, e_X1_makeShowing_88, e_X1_makeShowing_90, e_X1_makeShowing_93, e_X1_makeShowing_96, e_X1_makeShowing_99, e_X1_makeShowing_100, e_X1_makeShowing_101, e_X1_makeShowing_102, e_X1_makeShowing_104, e_X1_makeShowing_107, e_X1_makeShowing_108, e_X1_makeShowing_111, e_X1_makeShowing_113, e_X1_makeShowing_116, e_X1_makeShowing_119, e_X1_makeShowing_120, e_X1_makeShowing_123, e_X1_makeShowing_126, e_X1_makeShowing_128, e_X1_makeShowing_129, e_X1_makeShowing_130, e_X1_makeShowing_131, e_X1_makeShowing_132, e_X1_makeShowing_135, e_X1_makeShowing_136, e_X1_makeShowing_138, e_X1_makeShowing_139, e_X1_makeShowing_140, e_X1_makeShowing_141, e_X1_makeShowing_144, e_X1_makeShowing_145, e_X1_makeShowing_148, e_X1_makeShowing_150, ↓reduceIte, if_true, if_false, reduceCtorEq, Nat.reduceAdd, true_and, and_true, false_and, and_false, true_or, or_true, false_or, or_false, not_true_eq_false, not_false_eq_true, Option.bind_eq_bind, Option.bind_some, psh, eq_self, l_0, l_1, l_2, l_3, l_4, l_5, l_6, l_7, l_8, l_9, l_10, l_11, l_12, l_13, l_14, l_15, l_16, l_17, l_18, l_19, l_20, l_24, l_31, l_32, l_33, l_35, l_36, l_48, l_56, l_57, l_58, l_63, l_65, l_80, l_81, l_90, l_91, l_93, l_94, l_95, l_97, l_100, l_105, l_107, l_110, l_111, l_116, l_120, l_121, l_122, l_123, l_124, l_125, l_126, l_162, l_255, l_300, l_400, l_420, l_432, l_1000, l_1400, l_1936, l_2000, l_2100, l_2400, l_24000, m_n1, m_n2, m_n3, nI_mul, nI_add, nI_sub, nI_ltT, nI_ltF, nI_leT, nI_leF, nI_eqT, nI_eqF, nI_nM, nM_nI, nM_eq, nM_lt, nM_le, nI_ltM, nI_leM, nI_inT, nI_dec, pk_rem, nI_ltI, nI_leI, nI_eq, nI_clamp, Nat.add_assoc, q_bv51, Nat.add_left_cancel_iff, clK_0 d, clK_1 d, clK_3 d, clK_5 d, clK_7 d, clK_8 d, clK_9 d, clK_11 d, clK_12 d, clK_13 d, clK_14 d, clK_15 d, clK_16 d, clK_18 d, clK_20 d, clK_21 d, clK_22 d, clK_23 d, clK_24 d, clK_25 d, clK_26 d, clR_0_0 d, clR_1_0 d, clR_2_0 d, clR_3_0 d, clR_7_0 d, clR_8_0 d, clR_9_0 d, clR_10_0 d, clR_11_0 d, clR_0_8 d, clR_0_11 d, clR_1_11 d, clR_2_11 d, clR_0_15 d, clR_1_15 d, clR_2_15 d, clR_3_15 d, clR_4_15 d, clR_5_15 d, clR_0_23 d, clR_1_23 d, clR_0_25 d, clL_7 d, clL_12 d, clL_13 d, clL_14 d, clL_20 d, clL_21 d, clL_22 d, clL_24 d, clS_0 d, clS_1 d, clS_2 d, clS_3 d, h7, clK_0 d1, clK_1 d1, clK_3 d1, clK_5 d1, clK_7 d1, clK_8 d1, clK_9 d1, clK_11 d1, clK_12 d1, clK_13 d1, clK_14 d1, clK_15 d1, clK_16 d1, clK_18 d1, clK_20 d1, clK_21 d1, clK_22 d1, clK_23 d1, clK_24 d1, clK_25 d1, clK_26 d1, clR_0_0 d1, clR_1_0 d1, clR_2_0 d1, clR_3_0 d1, clR_7_0 d1, clR_8_0 d1, clR_9_0 d1, clR_10_0 d1, clR_11_0 d1, clR_0_8 d1, clR_0_11 d1, clR_1_11 d1, clR_2_11 d1, clR_0_15 d1, clR_1_15 d1, clR_2_15 d1, clR_3_15 d1, clR_4_15 d1, clR_5_15 d1, clR_0_23 d1, clR_1_23 d1, clR_0_25 d1, clL_7 d1, clL_12 d1, clL_13 d1, clL_14 d1, clL_20 d1, clL_21 d1, clL_22 d1, clL_24 d1, clS_0 d1, clS_1 d1, clS_2 d1, clS_3 d1, i7, i6, k4v', g1', ef, m22', en, E2]
      · rw [if_neg cp]
        rw [decide_eq_false cp, bI_f] at m22'
        cases lv with
        | zero =>
          -- too deep
          obtain ⟨h2, E2, r2, s2, n2, u2⟩ := r_put (g := g) (v := nI 94) rm1
          have hacc := rm1.2.2.1.1
          rw [bt_nI (by omega)] at r2
          have y1 := pls_cons (x := 94) (t := []) hacc
          have y2 := pos_cons (x := 94) (t := []) (o := nI 0) hacc
          have hl3 : (if acc.length < 2000 then acc ++ [94] else acc).length ≤ 2000 := r2.2.2.1.1
          rw [pls_nil] at y1
          rw [pos_nil hl3] at y2
          rw [y1, y2] at r2
          obtain ⟨h3, E3, o3, ek3, I3, S3⟩ := k_put_end (g := g) (L := dp + 1) (l1 := some (va_rf (some ra))) (l2 := some (va_rf (some v))) (l3 := some (.int (nI dp))) (l4 := some (.int (nI p))) (l5 := none) I1 S1 s2 n2 u2 r2
          refine ⟨h3, wb, cap, bd, ?_, o1.tr o3, ek1.tr ek3, I3, S3⟩
          rw [← E3]
          simp (decide := true) (disch := omega) only [e_X1_makeShowing_0, e_X1_makeShowing_1, e_X1_makeShowing_2, e_X1_makeShowing_5, e_X1_makeShowing_6, e_X1_makeShowing_7, e_X1_makeShowing_10, e_X1_makeShowing_11, e_X1_makeShowing_14, e_X1_makeShowing_17, e_X1_makeShowing_20, e_X1_makeShowing_21, e_X1_makeShowing_22, e_X1_makeShowing_25, e_X1_makeShowing_26, e_X1_makeShowing_27, e_X1_makeShowing_30, e_X1_makeShowing_31, e_X1_makeShowing_34, e_X1_makeShowing_35, e_X1_makeShowing_38, e_X1_makeShowing_41, e_X1_makeShowing_43, e_X1_makeShowing_45, e_X1_makeShowing_48, e_X1_makeShowing_50, e_X1_makeShowing_51, e_X1_makeShowing_54, e_X1_makeShowing_55, e_X1_makeShowing_58, e_X1_makeShowing_59, e_X1_makeShowing_61, e_X1_makeShowing_62, e_X1_makeShowing_65, e_X1_makeShowing_68, e_X1_makeShowing_71, e_X1_makeShowing_72, e_X1_makeShowing_75, e_X1_makeShowing_77, e_X1_makeShowing_78, e_X1_makeShowing_81, e_X1_makeShowing_82, e_X1_makeShowing_84, e_X1_makeShowing_85, e_X1_makeShowing_88, e_X1_makeShowing_90, e_X1_makeShowing_93, e_X1_makeShowing_96, e_X1_makeShowing_99, e_X1_makeShowing_100, e_X1_makeShowing_101, e_X1_makeShowing_102, e_X1_makeShowing_104, e_X1_makeShowing_107, e_X1_makeShowing_108, e_X1_makeShowing_111, e_X1_makeShowing_113, e_X1_makeShowing_116, e_X1_makeShowing_119, e_X1_makeShowing_120, e_X1_makeShowing_123, e_X1_makeShowing_126, e_X1_makeShowing_128, e_X1_makeShowing_129, e_X1_makeShowing_130, e_X1_makeShowing_131, e_X1_makeShowing_132, e_X1_makeShowing_135, e_X1_makeShowing_136, e_X1_makeShowing_138, e_X1_makeShowing_139, e_X1_makeShowing_140, e_X1_makeShowing_141, e_X1_makeShowing_144, e_X1_makeShowing_145, e_X1_makeShowing_148, e_X1_makeShowing_150, ↓reduceIte, if_true, if_false, reduceCtorEq, Nat.reduceAdd, true_and, and_true, false_and, and_false, true_or, or_true, false_or, or_false, not_true_eq_false, not_false_eq_true, Option.bind_eq_bind, Option.bind_some, psh, eq_self, l_0, l_1, l_2, l_3, l_4, l_5, l_6, l_7, l_8, l_9, l_10, l_11, l_12, l_13, l_14, l_15, l_16, l_17, l_18, l_19, l_20, l_24, l_31, l_32, l_33, l_35, l_36, l_48, l_56, l_57, l_58, l_63, l_65, l_80, l_81, l_90, l_91, l_93, l_94, l_95, l_97, l_100, l_105, l_107, l_110, l_111, l_116, l_120, l_121, l_122, l_123, l_124, l_125, l_126, l_162, l_255, l_300, l_400, l_420, l_432, l_1000, l_1400, l_1936, l_2000, l_2100, l_2400, l_24000, m_n1, m_n2, m_n3, nI_mul, nI_add, nI_sub, nI_ltT, nI_ltF, nI_leT, nI_leF, nI_eqT, nI_eqF, nI_nM, nM_nI, nM_eq, nM_lt, nM_le, nI_ltM, nI_leM, nI_inT, nI_dec, pk_rem, nI_ltI, nI_leI, nI_eq, nI_clamp, Nat.add_assoc, q_bv51, Nat.add_left_cancel_iff, clK_0 d, clK_1 d, clK_3 d, clK_5 d, clK_7 d, clK_8 d, clK_9 d, clK_11 d, clK_12 d, clK_13 d, clK_14 d, clK_15 d, clK_16 d, clK_18 d, clK_20 d, clK_21 d, clK_22 d, clK_23 d, clK_24 d, clK_25 d, clK_26 d, clR_0_0 d, clR_1_0 d, clR_2_0 d, clR_3_0 d, clR_7_0 d, clR_8_0 d, clR_9_0 d, clR_10_0 d, clR_11_0 d, clR_0_8 d, clR_0_11 d, clR_1_11 d, clR_2_11 d, clR_0_15 d, clR_1_15 d, clR_2_15 d, clR_3_15 d, clR_4_15 d, clR_5_15 d, clR_0_23 d, clR_1_23 d, clR_0_25 d, clL_7 d, clL_12 d, clL_13 d, clL_14 d, clL_20 d, clL_21 d, clL_22 d, clL_24 d, clS_0 d, clS_1 d, clS_2 d, clS_3 d, h7, clK_0 d1, clK_1 d1, clK_3 d1, clK_5 d1, clK_7 d1, clK_8 d1, clK_9 d1, clK_11 d1, clK_12 d1, clK_13 d1, clK_14 d1, clK_15 d1, clK_16 d1, clK_18 d1, clK_20 d1, clK_21 d1, clK_22 d1, clK_23 d1, clK_24 d1, clK_25 d1, clK_26 d1, clR_0_0 d1, clR_1_0 d1, clR_2_0 d1, clR_3_0 d1, clR_7_0 d1, clR_8_0 d1, clR_9_0 d1, clR_10_0 d1, clR_11_0 d1, clR_0_8 d1, clR_0_11 d1, clR_1_11 d1, clR_2_11 d1, clR_0_15 d1, clR_1_15 d1, clR_2_15 d1, clR_3_15 d1, clR_4_15 d1, clR_5_15 d1, clR_0_23 d1, clR_1_23 d1, clR_0_25 d1, clL_7 d1, clL_12 d1, clL_13 d1, clL_14 d1, clL_20 d1, clL_21 d1, clL_22 d1, clL_24 d1, clS_0 d1, clS_1 d1, clS_2 d1, clS_3 d1, i7, i6, k4v', g1', ef, m22', E2]
        | succ lv' =>
          simp only [fO]
          have rt1 := rt.keep s1 (hQ ra hra).2 (hQ rb' hrb).2 (by have := hQ ra hra; omega) (by have := hQ rb' hrb; omega)
          have p1n := p1'.keep s1 (fun x hx => ⟨(hQ x hx).2, by have := hQ x hx; omega, hx⟩)
          obtain ⟨h2, wb2, cap2, E2, f2, ek2, fx2, ⟨bd2, l2, o2, K2, ⟨y, hy⟩, R2⟩, w9⟩ := k_fillWords (g := g) (by omega) ht hra hrb hwl I1 S1.W rt1 (W0.kp ek1 (by omega)) i8 p1n he he1
          have I2 := I1.kp S1.W f2.m.1
          have el := r_len (g := g) rK1
          have dN1 : X + 57 ≤ hN (pI h 7 (X + 15) (nI (sh + 1))) := dN
          have c2 := f2.1
          have rm2 := rm1.keep c2.1 (by omega) (by omega) (by unfold fF; omega) (by unfold fF; omega)
          have t62 : hI h2 6 (X + 15) = nI T := by rw [fx2 6 (by decide)]; exact i6
          have t72 : hI h2 7 (X + 15) = nI (sh + 1) := by rw [fx2 7 (by decide)]; exact i7
          have t222 : ∀ x, x < 16 → hA h2 (X + 22) x = bI (decide (x ∈ pl)) := fun x hx => by
            rw [((c2.1.2.2 (X + 22) (by omega)).2.2 (by unfold fF; omega)).2.2.2.1]
            exact t22 x hx
          have d2 := I2.1.1
          obtain ⟨g', hg'⟩ : ∃ g', g = g' + 1 := ⟨g - 1, by omega⟩
          subst hg'
          have wp : wasT w.2.1 p T = ct (w.2.1 c) := wasT_eq hc
          rw [wp]
          have fin : ∀ (h3 : PH) (wb3 cap3 bd3 : Nat) (l3 : List Nat) (o3 : Int32) (st : St), cal g' mX1_make [va_rf (some (X + 15)), .int (nI p), .int (nI (dp + 1))] h2 = some (none, h3) → mOK X wb2 cap2 wb3 cap3 h2 h3 → eK X (dp + 1) h2 h3 → cIk Q h3 X tp ou fo hd a w → kW Q h3 X wb3 cap3 bd3 l3 o3 → (∃ y, l3 = wl ++ y) → kT h3 X T pl st →
              ∃ h' wb' cap' bd', ev (g' + 1) mX1_makeShowing 0 [some (va_rf (some (X + 15))), some (va_rf (some ra)), some (va_rf (some v)), some (.int (nI dp)), none, none] [] h = some (none, h') ∧ mOK X wb cap wb' cap' h h' ∧ eK X (dp + 1) h h' ∧ cIk Q h' X tp ou fo hd a w ∧ kS Q h' X T wb' cap' bd' wl pl st := by
            intro h3 wb3 cap3 bd3 l3 o3' st E3 o3 ek3 I3 K3 hl3 S3
            obtain ⟨y3, hy3⟩ := hl3
            have d3 := I3.1.1
            obtain ⟨h4, E4, o4, ek4, I4, S4⟩ := k_cut_end (g := g' + 1) (L := dp + 1) (l1 := some (va_rf (some ra))) (l2 := some (va_rf (some v))) (l3 := some (.int (nI dp))) (l4 := some (.int (nI p))) I3 K3 hy3 S3
            refine ⟨h4, wb3, cap3, bd3, ?_, ((o1.tr f2.m).tr o3).tr o4, ((ek1.tr ek2).tr ek3).tr ek4, I4, S4⟩
            rw [← E4]
            simp (decide := true) (disch := omega) only [e_X1_makeShowing_0, e_X1_makeShowing_1, e_X1_makeShowing_2, e_X1_makeShowing_5, e_X1_makeShowing_6, e_X1_makeShowing_7, e_X1_makeShowing_10, e_X1_makeShowing_11, e_X1_makeShowing_14, e_X1_makeShowing_17, e_X1_makeShowing_20, e_X1_makeShowing_21, e_X1_makeShowing_22, e_X1_makeShowing_25, e_X1_makeShowing_26, e_X1_makeShowing_27, e_X1_makeShowing_30, e_X1_makeShowing_31, e_X1_makeShowing_34, e_X1_makeShowing_35, e_X1_makeShowing_38, e_X1_makeShowing_41, e_X1_makeShowing_43, e_X1_makeShowing_45, e_X1_makeShowing_48, e_X1_makeShowing_50, e_X1_makeShowing_51, e_X1_makeShowing_54, e_X1_makeShowing_55, e_X1_makeShowing_58, e_X1_makeShowing_59, e_X1_makeShowing_61, e_X1_makeShowing_62, e_X1_makeShowing_65, e_X1_makeShowing_68, e_X1_makeShowing_71, e_X1_makeShowing_72, e_X1_makeShowing_75, e_X1_makeShowing_77, e_X1_makeShowing_78, e_X1_makeShowing_81, e_X1_makeShowing_82, e_X1_makeShowing_84, e_X1_makeShowing_85, e_X1_makeShowing_88, e_X1_makeShowing_90, e_X1_makeShowing_93, e_X1_makeShowing_96, e_X1_makeShowing_99, e_X1_makeShowing_100, e_X1_makeShowing_101, e_X1_makeShowing_102, e_X1_makeShowing_104, e_X1_makeShowing_107, e_X1_makeShowing_108, e_X1_makeShowing_111, e_X1_makeShowing_113, e_X1_makeShowing_116, e_X1_makeShowing_119, e_X1_makeShowing_120, e_X1_makeShowing_123, e_X1_makeShowing_126, e_X1_makeShowing_128, e_X1_makeShowing_129, e_X1_makeShowing_130, e_X1_makeShowing_131, e_X1_makeShowing_132, e_X1_makeShowing_135, e_X1_makeShowing_136, e_X1_makeShowing_138, e_X1_makeShowing_139, e_X1_makeShowing_140, e_X1_makeShowing_141, ↓reduceIte, if_true, if_false, reduceCtorEq, Nat.reduceAdd, true_and, and_true, false_and, and_false, true_or, or_true, false_or, or_false, not_true_eq_false, not_false_eq_true, Option.bind_eq_bind, Option.bind_some, psh, eq_self, l_0, l_1, l_2, l_3, l_4, l_5, l_6, l_7, l_8, l_9, l_10, l_11, l_12, l_13, l_14, l_15, l_16, l_17, l_18, l_19, l_20, l_24, l_31, l_32, l_33, l_35, l_36, l_48, l_56, l_57, l_58, l_63, l_65, l_80, l_81, l_90, l_91, l_93, l_94, l_95, l_97, l_100, l_105, l_107, l_110, l_111, l_116, l_120, l_121, l_122, l_123, l_124, l_125, l_126, l_162, l_255, l_300, l_400, l_420, l_432, l_1000, l_1400, l_1936, l_2000, l_2100, l_2400, l_24000, m_n1, m_n2, m_n3, nI_mul, nI_add, nI_sub, nI_ltT, nI_ltF, nI_leT, nI_leF, nI_eqT, nI_eqF, nI_nM, nM_nI, nM_eq, nM_lt, nM_le, nI_ltM, nI_leM, nI_inT, nI_dec, pk_rem, nI_ltI, nI_leI, nI_eq, nI_clamp, Nat.add_assoc, q_bv51, Nat.add_left_cancel_iff, clK_0 d, clK_1 d, clK_3 d, clK_5 d, clK_7 d, clK_8 d, clK_9 d, clK_11 d, clK_12 d, clK_13 d, clK_14 d, clK_15 d, clK_16 d, clK_18 d, clK_20 d, clK_21 d, clK_22 d, clK_23 d, clK_24 d, clK_25 d, clK_26 d, clR_0_0 d, clR_1_0 d, clR_2_0 d, clR_3_0 d, clR_7_0 d, clR_8_0 d, clR_9_0 d, clR_10_0 d, clR_11_0 d, clR_0_8 d, clR_0_11 d, clR_1_11 d, clR_2_11 d, clR_0_15 d, clR_1_15 d, clR_2_15 d, clR_3_15 d, clR_4_15 d, clR_5_15 d, clR_0_23 d, clR_1_23 d, clR_0_25 d, clL_7 d, clL_12 d, clL_13 d, clL_14 d, clL_20 d, clL_21 d, clL_22 d, clL_24 d, clS_0 d, clS_1 d, clS_2 d, clS_3 d, h7, clK_0 d1, clK_1 d1, clK_3 d1, clK_5 d1, clK_7 d1, clK_8 d1, clK_9 d1, clK_11 d1, clK_12 d1, clK_13 d1, clK_14 d1, clK_15 d1, clK_16 d1, clK_18 d1, clK_20 d1, clK_21 d1, clK_22 d1, clK_23 d1, clK_24 d1, clK_25 d1, clK_26 d1, clR_0_0 d1, clR_1_0 d1, clR_2_0 d1, clR_3_0 d1, clR_7_0 d1, clR_8_0 d1, clR_9_0 d1, clR_10_0 d1, clR_11_0 d1, clR_0_8 d1, clR_0_11 d1, clR_1_11 d1, clR_2_11 d1, clR_0_15 d1, clR_1_15 d1, clR_2_15 d1, clR_3_15 d1, clR_4_15 d1, clR_5_15 d1, clR_0_23 d1, clR_1_23 d1, clR_0_25 d1, clL_7 d1, clL_12 d1, clL_13 d1, clL_14 d1, clL_20 d1, clL_21 d1, clL_22 d1, clL_24 d1, clS_0 d1, clS_1 d1, clS_2 d1, clS_3 d1, i7, i6, k4v', g1', ef, m22', el, E2, clK_0 d2, clK_1 d2, clK_3 d2, clK_5 d2, clK_7 d2, clK_8 d2, clK_9 d2, clK_11 d2, clK_12 d2, clK_13 d2, clK_14 d2, clK_15 d2, clK_16 d2, clK_18 d2, clK_20 d2, clK_21 d2, clK_22 d2, clK_23 d2, clK_24 d2, clK_25 d2, clK_26 d2, clR_0_0 d2, clR_1_0 d2, clR_2_0 d2, clR_3_0 d2, clR_7_0 d2, clR_8_0 d2, clR_9_0 d2, clR_10_0 d2, clR_11_0 d2, clR_0_8 d2, clR_0_11 d2, clR_1_11 d2, clR_2_11 d2, clR_0_15 d2, clR_1_15 d2, clR_2_15 d2, clR_3_15 d2, clR_4_15 d2, clR_5_15 d2, clR_0_23 d2, clR_1_23 d2, clR_0_25 d2, clL_7 d2, clL_12 d2, clL_13 d2, clL_14 d2, clL_20 d2, clL_21 d2, clL_22 d2, clL_24 d2, clS_0 d2, clS_1 d2, clS_2 d2, clS_3 d2, E3]
          cases ew : wdf ws (wds t (e.2.2.1 - 2) 300 e.2.2.2.1) with
          | none =>
            rw [ew] at R2
            simp only
            obtain ⟨h3, E3, o3, ek3, I3, K3, S3⟩ := k_make_spent (g := g') (L := dp + 1) hT (show dp + 1 < 8 by omega) hp hc cp I2 K2 ⟨⟨t62, t222⟩, ⟨_, _, rm2⟩, R2⟩
            exact fin h3 wb2 cap2 bd2 l2 o2 none E3 o3 ek3 I3 K3 ⟨y, hy⟩ S3
          | some ws' =>
            rw [ew] at R2
            obtain ⟨v8, vo, ⟨E', W2⟩, vl⟩ := R2
            simp only
            subst vo
            have wl9 : ws'.length ≤ 9 := by rw [wdf_len ew]; exact w9
            obtain ⟨h3, wb3, cap3, bd3, E3, o3, ek3, I3, S3⟩ := IH lv' rfl g' h2 wb2 cap2 bd2 p c l2 pl ws' E' acc (sh + 1) (by omega) hp hc cp (by omega) I2 ⟨K2, ⟨t62, t222⟩, rm2, t72, v8, by omega⟩ W2
            exact fin h3 wb3 cap3 bd3 l2 (nI 0) _ E3 o3 (ek3.mono (by omega)) I3 S3.1 ⟨y, hy⟩ S3.2
end
