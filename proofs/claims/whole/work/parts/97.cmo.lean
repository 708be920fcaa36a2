/-! PageWeb: move, rename -/
section
variable {g X : Nat} {Q : Nat → Prop} {h : PH} {tp ou fo : List Nat} {hd : Option Nm} {a : Option Nat} {w : Wd}
theorem c_tofD {t : List Nat} (I : cI Q h X tp ou fo hd a w) (D : drw h X (some t)) :
    ∃ v h1 Q1, cal g mX5_textOf [va_rf (some (X + 8)), va_rf (some (X + 5))] h = some (some (va_rf (some v)), h1) ∧ cfm X (cP X) h h1 ∧ hN h1 ≤ hN h + 904 ∧ hU h1 ≤ hU h + 9320 ∧ hN h ≤ hN h1 ∧ (∀ x, Q x → Q1 x) ∧ (∀ x, Q1 x → Q x ∨ hN h ≤ x ∧ x < hN h1) ∧ txt Q1 h1 v t ∧ cI Q1 h1 X tp ou fo hd a w := by
  have d := I.1.1
  have dN := d.1
  have W := I.1.2.2.1
  have hQ := I.1.2.1
  have r : rw_ h (X + 5) (X + 6) 300 300 t 0 := D
  have hl := r.2.2.1.1
  obtain ⟨v, h1, e1, s1, rf1, T1, n1, u1⟩ := c_textOf (g := g) d I.2.1.2.2.2 r (by omega) (by omega) (by omega)
  have hs1 := s1.1
  have c1 := cfm.of (X := X) s1 dN (fun k hk => by unfold crO at hk; unfold rP; omega)
  have W1 : web (fun x => Q x ∨ hN h ≤ x ∧ x < hN h1) h1 X w := W.keep s1 dN (fun k k1 k2 => by unfold rP; omega) (fun x hx => by have := hQ x hx; exact ⟨by omega, by unfold rP; omega, Or.inl hx⟩)
  have T1' : txt (fun x => Q x ∨ hN h ≤ x ∧ x < hN h1) h1 v t := T1.keep (P := fun _ => False) (sm.rf h1) (fun x hx => ⟨by omega, fun z => z, Or.inr hx⟩)
  have hp' : nP X (rP (X + 9) (X + 10)) [9, 10] := fun k hk hn' z => by simp only [List.mem_cons, List.not_mem_nil, or_false, not_or] at hn'; unfold rP at z; omega
  obtain ⟨J, sJ⟩ := I.chw (P := rP (X + 9) (X + 10)) (Q' := fun x => Q x ∨ hN h ≤ x ∧ x < hN h1) c1 (fun x z => by unfold rP at z; omega) (fun x hx => Or.inl hx) (fun x hx => hx) (I.2.1.1.kp s1 dN hp' (by decide) (by decide)) (I.2.1.2.2.1.kp s1 dN hp' (by decide) (by decide)) rf1 W1 (Nat.le_refl _)
  exact ⟨v, h1, _, e1, sJ, by omega, by omega, hs1, fun x hx => Or.inl hx, fun x hx => hx, T1', J⟩
theorem c_pgF {b : Nat} {q : Nm} (I : cI Q h X tp ou fo hd a w) (hb : Q b) (hq : nm_ h b q.1 q.2) (hr : w.2.2.1 < 16 ∨ ¬ num w.2.2.2 q w.2.2.1 0 = none) :
    ∃ h', cal g mX9_pageFor [va_rf (some (X + 11)), va_rf (some b)] h = some (some (.int (nI (nbr w.2.2.2 w.2.2.1 q).1)), h') ∧ cfm X (cP X) h h' ∧ hN h' = hN h ∧ hU h' = hU h ∧ cI Q h' X tp ou fo hd a (w.1, w.2.1, (nbr w.2.2.2 w.2.2.1 q).2) := by
  have d := I.1.1
  have dN := d.1
  have W := I.1.2.2.1
  have hQ := I.1.2.1
  obtain ⟨h', e, s, n1, u1, W'⟩ := w_pageFor (g := g) d hQ W hb hq hr
  have hp' : nP X (fun x => x = X + 11 ∨ x = X + 14) [11, 14] := fun k hk hn' z => by simp only [List.mem_cons, List.not_mem_nil, or_false, not_or] at hn'; omega
  obtain ⟨J, sJ⟩ := I.chw (P := fun x => x = X + 11 ∨ x = X + 14) (Q' := Q) s (fun x z => by omega) (fun x hx => hx) (fun x hx => Or.inl hx) (I.2.1.1.kp s.1 dN hp' (by decide) (by decide)) (I.2.1.2.2.1.kp s.1 dN hp' (by decide) (by decide)) (I.2.1.2.2.2.kp s.1 dN hp' (by decide) (by decide)) W' (Nat.le_refl _)
  exact ⟨h', e, sJ, n1, u1, J⟩
theorem c_commitMove {u tm p hn : Nat} {held goal : Nm} (hgo : nok goal.2) (I : cI Q h X tp ou fo (some held) a w) (hu : Q u) (hq : nm_ h u goal.1 goal.2) (T : txt Q h tm (mvT goal)) (hr : w.2.2.1 < 16 ∨ ¬ num w.2.2.2 goal w.2.2.1 0 = none) (hp : p < w.2.2.1) (hth : ¬ thr w.2.1 p w.1 = none) (hle : (sMoves false held goal p hn w).2.1 ≤ 120) :
    ∃ h' Q', cal g mX10_commitMove [va_rf (some X), .int (nI p), va_rf (some u), .int (nI hn), va_rf (some tm)] h = some (some (.int (nI ((sMoves false held goal p hn w).2.1 - w.1))), h') ∧ cfm X (cP X) h h' ∧ hN h' + 1990 ≤ hN h + 1000 * ((sMoves false held goal p hn w).2.1 - w.1) ∧ hU h' + 25000 ≤ hU h + 13000 * ((sMoves false held goal p hn w).2.1 - w.1) ∧ w.1 + 2 ≤ (sMoves false held goal p hn w).2.1 ∧ hN h ≤ hN h' ∧ (∀ x, Q x → Q' x) ∧ cI Q' h' X tp ou fo (some held) a (sMoves false held goal p hn w).2 := by
  have d := I.1.1
  have W := I.1.2.2.1
  have hQ := I.1.2.1
  have hnn := W.1.2.2.2
  have hn120 := W.1.2.2.1
  have eS : (sMoves false held goal p hn w).2 = wC (w.1, w.2.1, (nbr w.2.2.2 w.2.2.1 goal).2) (mv1 held (mvT goal) hn (nbr w.2.2.2 w.2.2.1 goal).2.1 0 (cmt (cmt (w.1, w.2.1) (nbr w.2.2.2 w.2.2.1 goal).1 hn (wasT w.2.1 p w.1)) p hn (mvT goal))) := rfl
  have hge := mv1_ge (held := held) (mt := mvT goal) (hn := hn) (m := (nbr w.2.2.2 w.2.2.1 goal).2.1) (q := 0) (w := cmt (cmt (w.1, w.2.1) (nbr w.2.2.2 w.2.2.1 goal).1 hn (wasT w.2.1 p w.1)) p hn (mvT goal))
  have hc2 : (cmt (cmt (w.1, w.2.1) (nbr w.2.2.2 w.2.2.1 goal).1 hn (wasT w.2.1 p w.1)) p hn (mvT goal)).1 = w.1 + 2 := rfl
  have eS1 : (sMoves false held goal p hn w).2.1 = (mv1 held (mvT goal) hn (nbr w.2.2.2 w.2.2.1 goal).2.1 0 (cmt (cmt (w.1, w.2.1) (nbr w.2.2.2 w.2.2.1 goal).1 hn (wasT w.2.1 p w.1)) p hn (mvT goal))).1 := rfl
  rw [eS1] at hle ⊢
  rw [eS]
  have el := w_latest (g := g) d W
  have et := w_there (g := g) (x := nI p) d W (Nat.le_refl _)
  have aT := adr_thI (x := nI p) W (Nat.le_refl _)
  rw [thI_nI (by omega) (by omega)] at et aT
  cases ec : thr w.2.1 p w.1 with
  | none => exact absurd ec hth
  | some c =>
    rw [ec] at et aT
    obtain ⟨v, v1, ⟨⟨k00, k0, -⟩, ⟨tb, t1, T1⟩, -⟩, ok, -⟩ := aT
    rw [v1] at et
    have hwas : wasT w.2.1 p w.1 = ct (w.2.1 c) := by unfold wasT; rw [ec]
    obtain ⟨h1, e1, c1, n1, u1, I1⟩ := c_pgF (g := g) I hu hq hr
    have d1 := I1.1.1
    have hQ1 : ∀ x, Q x → x < hN h ∧ ¬ cP X x ∧ Q x := fun x hx => by have := hQ x hx; exact ⟨this.2, cP_27 x this.1, hx⟩
    have k0' : hK h1 v = 0 := by rw [(c1.1.2.2 v (hQ v k00).2).1]; exact k0
    have t1' : hR h1 3 v = some tb := by rw [((c1.1.2.2 v (hQ v k00).2).2.2 (cP_27 v (hQ v k00).1)).2.1]; exact t1
    have nl := nbr_lt (nm := w.2.2.2) (nn := w.2.2.1) (q := goal)
    have hto : (nbr w.2.2.2 w.2.2.1 goal).1 < (nbr w.2.2.2 w.2.2.1 goal).2.1 := by
      unfold nbr
      cases e : num w.2.2.2 goal w.2.2.1 0 with
      | none => exact Nat.lt_succ_self _
      | some q => have := num_lt e; show q < w.2.2.1; omega
    obtain ⟨h2, Q2, e2, c2, n2, u2, m2, sub2, sb2, I2, -⟩ := c_comT (g := g) (p := (nbr w.2.2.2 w.2.2.1 goal).1) (hn := hn) (gn := false) I1 (T1.keep c1.1 hQ1) ok.1 hto (show w.1 < 120 by omega)
    rw [bI_f] at e2
    have d2 := I2.1.1
    have hml := mvT_len hgo
    have hQ2 : ∀ x, Q x → x < hN h1 ∧ ¬ cP X x ∧ Q2 x := fun x hx => by have := I1.1.2.1 x hx; exact ⟨this.2, cP_27 x this.1, sub2 x hx⟩
    obtain ⟨h3, Q3, e3, c3, n3, u3, m3, sub3, sb3, I3, -⟩ := c_comT (g := g) (p := p) (hn := hn) (gn := false) I2 ((T.keep c1.1 hQ1).keep c2.1 hQ2) (by omega) (show p < (nbr w.2.2.2 w.2.2.1 goal).2.1 by omega) (show w.1 + 1 < 120 by omega)
    rw [bI_f] at e3
    have hQ3 : ∀ x, Q2 x → x < hN h2 ∧ ¬ cP X x ∧ Q3 x := fun x hx => by have := I2.1.2.1 x hx; exact ⟨this.2, cP_27 x this.1, sub3 x hx⟩
    have I3' : cI Q3 h3 X tp ou fo (some held) a (wC (w.1, w.2.1, (nbr w.2.2.2 w.2.2.1 goal).2) (cmt (cmt (w.1, w.2.1) (nbr w.2.2.2 w.2.2.1 goal).1 hn (wasT w.2.1 p w.1)) p hn (mvT goal))) := by
      rw [hwas]
      exact I3
    obtain ⟨h4, Q4, l8, e4, c4, n4, u4, m4, sub4, I4⟩ := c_mv1_loop (g := g) (w := (w.1, w.2.1, (nbr w.2.2.2 w.2.2.1 goal).2)) (hn := hn) (b0 := 0) (pg := p) (l2 := some (va_rf (some u))) (l5 := some (.int (nI w.1))) (l6 := some (va_rf (some v))) hgo (nbr w.2.2.2 w.2.2.1 goal).2.1 0 h3 Q3 (cmt (cmt (w.1, w.2.1) (nbr w.2.2.2 w.2.2.1 goal).1 hn (wasT w.2.1 p w.1)) p hn (mvT goal)) none (Nat.zero_add _) I3' (((T.keep c1.1 hQ1).keep c2.1 hQ2).keep c3.1 hQ3) hle
    have d4 := I4.1.1
    have el4 : cal g mX9_latest [va_rf (some (X + 11))] h4 = some (some (.int (nI (mv1 held (mvT goal) hn (nbr w.2.2.2 w.2.2.1 goal).2.1 0 (cmt (cmt (w.1, w.2.1) (nbr w.2.2.2 w.2.2.1 goal).1 hn (wasT w.2.1 p w.1)) p hn (mvT goal))).1)), h4) := w_latest (g := g) (w := wC (w.1, w.2.1, (nbr w.2.2.2 w.2.2.1 goal).2) (mv1 held (mvT goal) hn (nbr w.2.2.2 w.2.2.1 goal).2.1 0 (cmt (cmt (w.1, w.2.1) (nbr w.2.2.2 w.2.2.1 goal).1 hn (wasT w.2.1 p w.1)) p hn (mvT goal)))) d4 I4.1.2.2.1
    generalize (mv1 held (mvT goal) hn (nbr w.2.2.2 w.2.2.1 goal).2.1 0 (cmt (cmt (w.1, w.2.1) (nbr w.2.2.2 w.2.2.1 goal).1 hn (wasT w.2.1 p w.1)) p hn (mvT goal))) = cc' at *
    rw [hc2] at *
    refine ⟨h4, Q4, ?_, ((c1.tr c2).tr c3).tr c4, by omega, by omega, by omega, by omega, fun x hx => sub4 x (sub3 x (sub2 x hx)), I4⟩
    rw [n_X10_commitMove]
    simp (decide := true) (disch := omega) only [e_X10_commitMove_0, e_X10_commitMove_1, e_X10_commitMove_4, e_X10_commitMove_7, e_X10_commitMove_9, e_X10_commitMove_10, e_X10_commitMove_13, e_X10_commitMove_14, e_X10_commitMove_16, e_X10_commitMove_19, e_X10_commitMove_21, e_X10_commitMove_23, e_X10_commitMove_26, e_X10_commitMove_27, e_X10_commitMove_28, e_X10_commitMove_29, e_X10_commitMove_32, e_X10_commitMove_33, e_X10_commitMove_36, e_X10_commitMove_37, e_X10_commitMove_40, e_X10_commitMove_41, e_X10_commitMove_43, e_X10_commitMove_46, e_X10_commitMove_47, e_X10_commitMove_50, e_X10_commitMove_51, e_X10_commitMove_52, e_X10_commitMove_55, e_X10_commitMove_56, e_X10_commitMove_57, e_X10_commitMove_59, e_X10_commitMove_60, e_X10_commitMove_63, e_X10_commitMove_64, e_X10_commitMove_65, ↓reduceIte, if_true, if_false, reduceCtorEq, Nat.reduceAdd, true_and, and_true, false_and, and_false, true_or, or_true, false_or, or_false, not_true_eq_false, not_false_eq_true, Option.bind_eq_bind, Option.bind_some, psh, eq_self, l_0, l_1, l_2, l_3, l_4, l_5, l_6, l_7, l_8, l_9, l_10, l_11, l_12, l_13, l_14, l_15, l_16, l_17, l_18, l_19, l_20, l_24, l_31, l_32, l_33, l_35, l_36, l_48, l_56, l_57, l_58, l_63, l_65, l_80, l_81, l_90, l_91, l_93, l_94, l_95, l_97, l_100, l_105, l_107, l_110, l_111, l_116, l_120, l_121, l_122, l_123, l_124, l_125, l_126, l_162, l_255, l_300, l_400, l_420, l_432, l_1000, l_1400, l_1936, l_2000, l_2100, l_2400, l_24000, m_n1, m_n2, m_n3, nI_mul, nI_add, nI_sub, nI_ltT, nI_ltF, nI_leT, nI_leF, nI_eqT, nI_eqF, nI_nM, nM_nI, nM_eq, nM_lt, nM_le, nI_ltM, nI_leM, nI_inT, nI_dec, pk_rem, nI_ltI, nI_leI, nI_eq, nI_clamp, Nat.add_assoc, q_bv51, Nat.add_left_cancel_iff, clK_0 d, clK_1 d, clK_3 d, clK_5 d, clK_7 d, clK_8 d, clK_9 d, clK_11 d, clK_12 d, clK_13 d, clK_14 d, clK_15 d, clK_16 d, clK_18 d, clK_20 d, clK_21 d, clK_22 d, clK_23 d, clK_24 d, clK_25 d, clK_26 d, clR_0_0 d, clR_1_0 d, clR_2_0 d, clR_3_0 d, clR_7_0 d, clR_8_0 d, clR_9_0 d, clR_10_0 d, clR_11_0 d, clR_0_8 d, clR_0_11 d, clR_1_11 d, clR_2_11 d, clR_0_15 d, clR_1_15 d, clR_2_15 d, clR_3_15 d, clR_4_15 d, clR_5_15 d, clR_0_23 d, clR_1_23 d, clR_0_25 d, clL_7 d, clL_12 d, clL_13 d, clL_14 d, clL_20 d, clL_21 d, clL_22 d, clL_24 d, clS_0 d, clS_1 d, clS_2 d, clS_3 d, el, et, reduceCtorEq, e1, clK_0 d1, clK_1 d1, clK_3 d1, clK_5 d1, clK_7 d1, clK_8 d1, clK_9 d1, clK_11 d1, clK_12 d1, clK_13 d1, clK_14 d1, clK_15 d1, clK_16 d1, clK_18 d1, clK_20 d1, clK_21 d1, clK_22 d1, clK_23 d1, clK_24 d1, clK_25 d1, clK_26 d1, clR_0_0 d1, clR_1_0 d1, clR_2_0 d1, clR_3_0 d1, clR_7_0 d1, clR_8_0 d1, clR_9_0 d1, clR_10_0 d1, clR_11_0 d1, clR_0_8 d1, clR_0_11 d1, clR_1_11 d1, clR_2_11 d1, clR_0_15 d1, clR_1_15 d1, clR_2_15 d1, clR_3_15 d1, clR_4_15 d1, clR_5_15 d1, clR_0_23 d1, clR_1_23 d1, clR_0_25 d1, clL_7 d1, clL_12 d1, clL_13 d1, clL_14 d1, clL_20 d1, clL_21 d1, clL_22 d1, clL_24 d1, clS_0 d1, clS_1 d1, clS_2 d1, clS_3 d1, k0', t1', e2, clK_0 d2, clK_1 d2, clK_3 d2, clK_5 d2, clK_7 d2, clK_8 d2, clK_9 d2, clK_11 d2, clK_12 d2, clK_13 d2, clK_14 d2, clK_15 d2, clK_16 d2, clK_18 d2, clK_20 d2, clK_21 d2, clK_22 d2, clK_23 d2, clK_24 d2, clK_25 d2, clK_26 d2, clR_0_0 d2, clR_1_0 d2, clR_2_0 d2, clR_3_0 d2, clR_7_0 d2, clR_8_0 d2, clR_9_0 d2, clR_10_0 d2, clR_11_0 d2, clR_0_8 d2, clR_0_11 d2, clR_1_11 d2, clR_2_11 d2, clR_0_15 d2, clR_1_15 d2, clR_2_15 d2, clR_3_15 d2, clR_4_15 d2, clR_5_15 d2, clR_0_23 d2, clR_1_23 d2, clR_0_25 d2, clL_7 d2, clL_12 d2, clL_13 d2, clL_14 d2, clL_20 d2, clL_21 d2, clL_22 d2, clL_24 d2, clS_0 d2, clS_1 d2, clS_2 d2, clS_3 d2, e3]
    rw [e4]
    simp (decide := true) (disch := omega) only [e_X10_commitMove_137, e_X10_commitMove_138, e_X10_commitMove_141, e_X10_commitMove_144, e_X10_commitMove_146, e_X10_commitMove_147, ↓reduceIte, if_true, if_false, reduceCtorEq, Nat.reduceAdd, true_and, and_true, false_and, and_false, true_or, or_true, false_or, or_false, not_true_eq_false, not_false_eq_true, Option.bind_eq_bind, Option.bind_some, psh, eq_self, l_0, l_1, l_2, l_3, l_4, l_5, l_6, l_7, l_8, l_9, l_10, l_11, l_12, l_13, l_14, l_15, l_16, l_17, l_18, l_19, l_20, l_24, l_31, l_32, l_33, l_35, l_36, l_48, l_56, l_57, l_58, l_63, l_65, l_80, l_81, l_90, l_91, l_93, l_94, l_95, l_97, l_100, l_105, l_107, l_110, l_111, l_116, l_120, l_121, l_122, l_123, l_124, l_125, l_126, l_162, l_255, l_300, l_400, l_420, l_432, l_1000, l_1400, l_1936, l_2000, l_2100, l_2400, l_24000, m_n1, m_n2, m_n3, nI_mul, nI_add, nI_sub, nI_ltT, nI_ltF, nI_leT, nI_leF, nI_eqT, nI_eqF, nI_nM, nM_nI, nM_eq, nM_lt, nM_le, nI_ltM, nI_leM, nI_inT, nI_dec, pk_rem, nI_ltI, nI_leI, nI_eq, nI_clamp, Nat.add_assoc, q_bv51, Nat.add_left_cancel_iff, clK_0 d4, clK_1 d4, clK_3 d4, clK_5 d4, clK_7 d4, clK_8 d4, clK_9 d4, clK_11 d4, clK_12 d4, clK_13 d4, clK_14 d4, clK_15 d4, clK_16 d4, clK_18 d4, clK_20 d4, clK_21 d4, clK_22 d4, clK_23 d4, clK_24 d4, clK_25 d4, clK_26 d4, clR_0_0 d4, clR_1_0 d4, clR_2_0 d4, clR_3_0 d4, clR_7_0 d4, clR_8_0 d4, clR_9_0 d4, clR_10_0 d4, clR_11_0 d4, clR_0_8 d4, clR_0_11 d4, clR_1_11 d4, clR_2_11 d4, clR_0_15 d4, clR_1_15 d4, clR_2_15 d4, clR_3_15 d4, clR_4_15 d4, clR_5_15 d4, clR_0_23 d4, clR_1_23 d4, clR_0_25 d4, clL_7 d4, clL_12 d4, clL_13 d4, clL_14 d4, clL_20 d4, clL_21 d4, clL_22 d4, clL_24 d4, clS_0 d4, clS_1 d4, clS_2 d4, clS_3 d4, el4]
theorem c_commitLinks {u p hn : Nat} {held goal : Nm} (I : cI Q h X tp ou fo (some held) a (sMoves false held goal p hn w).2) (hu : Q u) (hq : nm_ h u goal.1 goal.2) (hgd : (sMoves true held goal p hn w).1 = true) (hle : (sMoves true held goal p hn w).2.1 ≤ 120) :
    ∃ h' Q', cal g mX10_commitLinks [va_rf (some X), va_rf (some u), .int (nI hn)] h = some (some (.int (nI ((sMoves true held goal p hn w).2.1 - (sMoves false held goal p hn w).2.1))), h') ∧ cfm X (cP X) h h' ∧ hN h' ≤ hN h + 1000 * ((sMoves true held goal p hn w).2.1 - (sMoves false held goal p hn w).2.1) ∧ hU h' ≤ hU h + 13000 * ((sMoves true held goal p hn w).2.1 - (sMoves false held goal p hn w).2.1) ∧ (sMoves false held goal p hn w).2.1 ≤ (sMoves true held goal p hn w).2.1 ∧ hN h ≤ hN h' ∧ cI Q' h' X tp ou fo (some held) a (sMoves true held goal p hn w).2 := by
  have d := I.1.1
  have W := I.1.2.2.1
  have hnn := W.1.2.2.2
  have hn120 := W.1.2.2.1
  have el := w_latest (g := g) d W
  have eS : (sMoves true held goal p hn w) = ((mv2 held goal hn (sMoves false held goal p hn w).2.2.2.1 0 ((sMoves false held goal p hn w).2.1, (sMoves false held goal p hn w).2.2.1)).1, wC (sMoves false held goal p hn w).2 (mv2 held goal hn (sMoves false held goal p hn w).2.2.2.1 0 ((sMoves false held goal p hn w).2.1, (sMoves false held goal p hn w).2.2.1)).2) := rfl
  rw [eS] at hgd hle ⊢
  generalize (sMoves false held goal p hn w).2 = w2 at *
  have hge := mv2_ge (held := held) (goal := goal) (hn := hn) (m := w2.2.2.1) (q := 0) (w := (w2.1, w2.2.1))
  have hwc : wC w2 (w2.1, w2.2.1) = w2 := rfl
  obtain ⟨h', Q', l5, e1, R1, R2, R3, R4, R5, R6⟩ := c_mv2_loop (g := g) (w := w2) (hn := hn) (l3 := some (.int (nI w2.1))) w2.2.2.1 0 h Q (w2.1, w2.2.1) none (by omega) I hu hq hgd hle hge
  have d' := I.1.1
  have d4 := R6.1.1
  have el4 : cal g mX9_latest [va_rf (some (X + 11))] h' = some (some (.int (nI (mv2 held goal hn w2.2.2.1 0 (w2.1, w2.2.1)).2.1)), h') := w_latest (g := g) (w := wC w2 (mv2 held goal hn w2.2.2.1 0 (w2.1, w2.2.1)).2) d4 R6.1.2.2.1
  refine ⟨h', Q', ?_, R1, R2, R3, hge, R4, R6⟩
  show _ = some (some (Value.int (nI ((mv2 held goal hn w2.2.2.1 0 (w2.1, w2.2.1)).2.1 - w2.1))), h')
  have hle' : (mv2 held goal hn w2.2.2.1 0 (w2.1, w2.2.1)).2.1 ≤ 120 := hle
  have hge' : w2.1 ≤ (mv2 held goal hn w2.2.2.1 0 (w2.1, w2.2.1)).2.1 := hge
  generalize (mv2 held goal hn w2.2.2.1 0 (w2.1, w2.2.1)).2.1 = nn2 at *
  rw [n_X10_commitLinks]
  simp (decide := true) (disch := omega) only [e_X10_commitLinks_0, e_X10_commitLinks_1, e_X10_commitLinks_4, e_X10_commitLinks_7, e_X10_commitLinks_8, e_X10_commitLinks_9, ↓reduceIte, if_true, if_false, reduceCtorEq, Nat.reduceAdd, true_and, and_true, false_and, and_false, true_or, or_true, false_or, or_false, not_true_eq_false, not_false_eq_true, Option.bind_eq_bind, Option.bind_some, psh, eq_self, l_0, l_1, l_2, l_3, l_4, l_5, l_6, l_7, l_8, l_9, l_10, l_11, l_12, l_13, l_14, l_15, l_16, l_17, l_18, l_19, l_20, l_24, l_31, l_32, l_33, l_35, l_36, l_48, l_56, l_57, l_58, l_63, l_65, l_80, l_81, l_90, l_91, l_93, l_94, l_95, l_97, l_100, l_105, l_107, l_110, l_111, l_116, l_120, l_121, l_122, l_123, l_124, l_125, l_126, l_162, l_255, l_300, l_400, l_420, l_432, l_1000, l_1400, l_1936, l_2000, l_2100, l_2400, l_24000, m_n1, m_n2, m_n3, nI_mul, nI_add, nI_sub, nI_ltT, nI_ltF, nI_leT, nI_leF, nI_eqT, nI_eqF, nI_nM, nM_nI, nM_eq, nM_lt, nM_le, nI_ltM, nI_leM, nI_inT, nI_dec, pk_rem, nI_ltI, nI_leI, nI_eq, nI_clamp, Nat.add_assoc, q_bv51, Nat.add_left_cancel_iff, clK_0 d, clK_1 d, clK_3 d, clK_5 d, clK_7 d, clK_8 d, clK_9 d, clK_11 d, clK_12 d, clK_13 d, clK_14 d, clK_15 d, clK_16 d, clK_18 d, clK_20 d, clK_21 d, clK_22 d, clK_23 d, clK_24 d, clK_25 d, clK_26 d, clR_0_0 d, clR_1_0 d, clR_2_0 d, clR_3_0 d, clR_7_0 d, clR_8_0 d, clR_9_0 d, clR_10_0 d, clR_11_0 d, clR_0_8 d, clR_0_11 d, clR_1_11 d, clR_2_11 d, clR_0_15 d, clR_1_15 d, clR_2_15 d, clR_3_15 d, clR_4_15 d, clR_5_15 d, clR_0_23 d, clR_1_23 d, clR_0_25 d, clL_7 d, clL_12 d, clL_13 d, clL_14 d, clL_20 d, clL_21 d, clL_22 d, clL_24 d, clS_0 d, clS_1 d, clS_2 d, clS_3 d, el]
  rw [e1]
  simp (decide := true) (disch := omega) only [e_X10_commitLinks_100, e_X10_commitLinks_101, e_X10_commitLinks_104, e_X10_commitLinks_107, e_X10_commitLinks_108, e_X10_commitLinks_109, ↓reduceIte, if_true, if_false, reduceCtorEq, Nat.reduceAdd, true_and, and_true, false_and, and_false, true_or, or_true, false_or, or_false, not_true_eq_false, not_false_eq_true, Option.bind_eq_bind, Option.bind_some, psh, eq_self, l_0, l_1, l_2, l_3, l_4, l_5, l_6, l_7, l_8, l_9, l_10, l_11, l_12, l_13, l_14, l_15, l_16, l_17, l_18, l_19, l_20, l_24, l_31, l_32, l_33, l_35, l_36, l_48, l_56, l_57, l_58, l_63, l_65, l_80, l_81, l_90, l_91, l_93, l_94, l_95, l_97, l_100, l_105, l_107, l_110, l_111, l_116, l_120, l_121, l_122, l_123, l_124, l_125, l_126, l_162, l_255, l_300, l_400, l_420, l_432, l_1000, l_1400, l_1936, l_2000, l_2100, l_2400, l_24000, m_n1, m_n2, m_n3, nI_mul, nI_add, nI_sub, nI_ltT, nI_ltF, nI_leT, nI_leF, nI_eqT, nI_eqF, nI_nM, nM_nI, nM_eq, nM_lt, nM_le, nI_ltM, nI_leM, nI_inT, nI_dec, pk_rem, nI_ltI, nI_leI, nI_eq, nI_clamp, Nat.add_assoc, q_bv51, Nat.add_left_cancel_iff, clK_0 d4, clK_1 d4, clK_3 d4, clK_5 d4, clK_7 d4, clK_8 d4, clK_9 d4, clK_11 d4, clK_12 d4, clK_13 d4, clK_14 d4, clK_15 d4, clK_16 d4, clK_18 d4, clK_20 d4, clK_21 d4, clK_22 d4, clK_23 d4, clK_24 d4, clK_25 d4, clK_26 d4, clR_0_0 d4, clR_1_0 d4, clR_2_0 d4, clR_3_0 d4, clR_7_0 d4, clR_8_0 d4, clR_9_0 d4, clR_10_0 d4, clR_11_0 d4, clR_0_8 d4, clR_0_11 d4, clR_1_11 d4, clR_2_11 d4, clR_0_15 d4, clR_1_15 d4, clR_2_15 d4, clR_3_15 d4, clR_4_15 d4, clR_5_15 d4, clR_0_23 d4, clR_1_23 d4, clR_0_25 d4, clL_7 d4, clL_12 d4, clL_13 d4, clL_14 d4, clL_20 d4, clL_21 d4, clL_22 d4, clL_24 d4, clS_0 d4, clS_1 d4, clS_2 d4, clS_3 d4, el4]
end
