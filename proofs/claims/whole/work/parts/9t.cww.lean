/-! what any call may use; PageWeb: wanted, within -/
def wcap (h : PH) (X : Nat) : Nat := match hR h 0 (X + 18) with | none => 0 | some b => hL h b
def pot (h : PH) (X : Nat) : Nat := lcap h X + wcap h X
/-- all but the model and what lies before the class -/
def dP (h : PH) (X : Nat) : Nat → Prop := fun x => (X ≤ x ∧ x < X + 27) ∨ X + 57 ≤ x ∨ (x < X ∧ hK h x = 55)
def cW (X : Nat) (h h' : PH) (c n : Nat) : Prop := cfm X (dP h X) h h' ∧ hN h' + pot h X ≤ hN h + pot h' X + c + 1000 * n ∧ hU h' + 4 * pot h X ≤ hU h + 4 * pot h' X + c + 13000 * n
theorem cW.rf {X : Nat} {h : PH} : cW X h h 0 0 := ⟨cfm.rf _, by omega, by omega⟩
theorem cW.tr {X c1 n1 c2 n2 : Nat} {h h1 h2 : PH} (a : cW X h h1 c1 n1) (b : cW X h1 h2 c2 n2) (dN : X + 57 ≤ hN h) : cW X h h2 (c1 + c2) (n1 + n2) := by
  obtain ⟨a1, a2, a3⟩ := a
  obtain ⟨b1, b2, b3⟩ := b
  refine ⟨a1.tr ?_, by omega, by omega⟩
  refine b1.mono (fun x hx z => ?_)
  unfold dP at z ⊢
  rcases z with z | z | z
  · exact Or.inl z
  · exact Or.inr (Or.inl z)
  · exact Or.inr (Or.inr ⟨z.1, by rw [← (a1.1.2.2 x (by omega)).1]; exact z.2⟩)
theorem wcap_kp {X wb : Nat} {P : Nat → Prop} {h h' : PH} (s : sm P h h') (dN : X + 57 ≤ hN h) (r : hR h 0 (X + 18) = some wb) (hw : wb < hN h) (hp : ¬ P (X + 18)) : wcap h' X = wcap h X := by
  unfold wcap
  rw [((s.2.2 (X + 18) (by omega)).2.2 hp).2.1, r]
  simp only
  rw [(s.2.2 wb hw).2.1]
theorem lcap_kp {X e : Nat} {P : Nat → Prop} {h h' : PH} (s : sm P h h') (dN : X + 57 ≤ hN h) (r : hR h 1 (X + 26) = some e) (he : e < hN h) (hp : ¬ P (X + 26)) : lcap h' X = lcap h X := by
  unfold lcap
  rw [((s.2.2 (X + 26) (by omega)).2.2 hp).2.1, r]
  simp only
  rw [(s.2.2 e he).1, (s.2.2 e he).2.1]
section
variable {g X : Nat} {Q : Nat → Prop} {h : PH} {tp ou fo : List Nat} {hd : Option Nm} {a : Option Nat} {w : Wd}
theorem cP_dP {X : Nat} {h : PH} : ∀ x, cP X x → dP h X x := fun x z => by unfold cP at z; exact Or.inl ⟨z.1, z.2.1⟩
/-- a call that leaves both arrays alone -/
theorem cfm_w {h' : PH} (I : cI Q h X tp ou fo hd a w) (s : cfm X (cP X) h h') {c n : Nat} (hn : hN h' ≤ hN h + c + 1000 * n) (hu : hU h' ≤ hU h + c + 13000 * n) : cW X h h' c n := by
  have dN := I.1.1.1
  obtain ⟨-, wb, cap, bd, l2, o2, r2, r3, r4, r5, r6⟩ := I.2.2.2.1
  obtain ⟨l, e, ⟨⟨a1, a2⟩, a3⟩, b1, b2, b3⟩ := I.2.2.2.2
  have e1 := wcap_kp s.1 dN r2.1.2.1 r4 (by unfold cP; omega)
  have e2 := lcap_kp s.1 dN a2 b2 (by unfold cP; omega)
  refine ⟨s.mono (fun x _ z => cP_dP x z), ?_, ?_⟩
  · unfold pot; rw [e1, e2]; omega
  · unfold pot; rw [e1, e2]; omega
theorem cOK_w {h' : PH} {n : Nat} (I : cI Q h X tp ou fo hd a w) (c : cOK X h h' n) : cW X h h' 4 n := cfm_w I c.1 c.2.1 c.2.2
theorem lOK_w {h' : PH} {e e' : Nat} (I : cIl Q h X tp ou fo hd a w) (he : e < X ∨ X + 57 ≤ e) (o : lOK X e e' h h') : cW X h h' 0 0 := by
  obtain ⟨s, -, n1, u1⟩ := o
  have dN := I.1.1.1
  obtain ⟨-, wb, cap, bd, l2, o2, r2, r3, r4, r5, r6⟩ := I.2.2.2
  have e1 := wcap_kp s.1 dN r2.1.2.1 r4 (by unfold lP; omega)
  refine ⟨s.mono (fun x _ z => ?_), ?_, ?_⟩
  · unfold lP at z
    unfold dP
    rcases z with z | z | z
    · exact Or.inl (by omega)
    · exact Or.inl (by omega)
    · rcases he with y | y
      · exact Or.inr (Or.inr ⟨by omega, by rw [z.1]; exact z.2⟩)
      · exact Or.inr (Or.inl (by omega))
  · unfold pot; rw [e1]; omega
  · unfold pot; rw [e1]; omega
theorem C_wanted (I : cI Q h X tp ou fo hd a w) :
    ∃ h', cal g mX10_wanted [va_rf (some X)] h = some (some (.int (sWanted ou a w).1), h') ∧ cW X h h' 0 0 ∧ cI Q h' X tp (sWanted ou a w).2 fo hd a w := by
  have d := I.1.1
  have dN := d.1
  have hT := tm_le I.1.2.2.2
  have en := c_now (g := g) I
  obtain ⟨Il, Ls⟩ := I.out
  obtain ⟨h1, e, E1, s1, he, n1, u1, l1, N1⟩ := l_clear (g := g) d Ls
  have I1 := Il.kp s1 he
  obtain ⟨h2, l2, e2, l3', E2, o2, I2, N2⟩ := c_wanted_loop (g := g) (X := X) hT w.2.2.1 0 h1 [] e ([], 0) none (by omega) I1 N1
  have R := lR_wtL (w := w) (T := tm a w.1) w.2.2.1 0 (lR_nil (st := 0) (kd := false))
  obtain ⟨h3, E3, s3, n3, u3, J⟩ := c_showList (g := g) I2 N2 R.1
  have e1 : sLst ou (cWl w (tm a w.1) w.2.2.1 0 ([], 0)) = sWanted ou a w := lRf_tell R.f
  have e1' : sLst ou ((cWl w (tm a w.1) w.2.2.1 0 ([], 0)).1, (cWl w (tm a w.1) w.2.2.1 0 ([], 0)).2) = sWanted ou a w := e1
  rw [e1'] at E3 J
  have o1 : lOK X e e h h1 := ⟨s1, Or.inl rfl, by omega, by omega⟩
  have hl : e < hN h := by have := N1.1.2.2.1; omega
  have d1 := I1.1.1
  refine ⟨h3, ?_, (lOK_w Il he.2 (o1.tr o2 hl)).tr (cfm_w (I2.back N2.ls) s3 (by omega) (by omega) (c := 0) (n := 0)) dN, J⟩
  rw [n_X10_wanted]
  simp (decide := true) (disch := omega) only [e_X10_wanted_0, e_X10_wanted_1, e_X10_wanted_4, e_X10_wanted_5, e_X10_wanted_6, e_X10_wanted_9, e_X10_wanted_12, e_X10_wanted_13, ↓reduceIte, if_true, if_false, reduceCtorEq, Nat.reduceAdd, true_and, and_true, false_and, and_false, true_or, or_true, false_or, or_false, not_true_eq_false, not_false_eq_true, Option.bind_eq_bind, Option.bind_some, psh, eq_self, l_0, l_1, l_2, l_3, l_4, l_5, l_6, l_7, l_8, l_9, l_10, l_11, l_12, l_13, l_14, l_15, l_16, l_17, l_18, l_19, l_20, l_24, l_31, l_32, l_33, l_35, l_36, l_48, l_56, l_57, l_58, l_63, l_65, l_80, l_81, l_90, l_91, l_93, l_94, l_95, l_97, l_100, l_105, l_107, l_110, l_111, l_116, l_120, l_121, l_122, l_123, l_124, l_125, l_126, l_162, l_255, l_300, l_400, l_420, l_432, l_1000, l_1400, l_1936, l_2000, l_2100, l_2400, l_24000, m_n1, m_n2, m_n3, nI_mul, nI_add, nI_sub, nI_ltT, nI_ltF, nI_leT, nI_leF, nI_eqT, nI_eqF, nI_nM, nM_nI, nM_eq, nM_lt, nM_le, nI_ltM, nI_leM, nI_inT, nI_dec, pk_rem, nI_ltI, nI_leI, nI_eq, nI_clamp, Nat.add_assoc, q_bv51, Nat.add_left_cancel_iff, clK_0 d, clK_1 d, clK_3 d, clK_5 d, clK_7 d, clK_8 d, clK_9 d, clK_11 d, clK_12 d, clK_13 d, clK_14 d, clK_15 d, clK_16 d, clK_18 d, clK_20 d, clK_21 d, clK_22 d, clK_23 d, clK_24 d, clK_25 d, clK_26 d, clR_0_0 d, clR_1_0 d, clR_2_0 d, clR_3_0 d, clR_7_0 d, clR_8_0 d, clR_9_0 d, clR_10_0 d, clR_11_0 d, clR_0_8 d, clR_0_11 d, clR_1_11 d, clR_2_11 d, clR_0_15 d, clR_1_15 d, clR_2_15 d, clR_3_15 d, clR_4_15 d, clR_5_15 d, clR_0_23 d, clR_1_23 d, clR_0_25 d, clL_7 d, clL_12 d, clL_13 d, clL_14 d, clL_20 d, clL_21 d, clL_22 d, clL_24 d, clS_0 d, clS_1 d, clS_2 d, clS_3 d, en, E1]
  rw [E2]
  have d2 := I2.1.1
  simp (decide := true) (disch := omega) only [e_X10_wanted_54, e_X10_wanted_55, e_X10_wanted_58, ↓reduceIte, if_true, if_false, reduceCtorEq, Nat.reduceAdd, true_and, and_true, false_and, and_false, true_or, or_true, false_or, or_false, not_true_eq_false, not_false_eq_true, Option.bind_eq_bind, Option.bind_some, psh, eq_self, l_0, l_1, l_2, l_3, l_4, l_5, l_6, l_7, l_8, l_9, l_10, l_11, l_12, l_13, l_14, l_15, l_16, l_17, l_18, l_19, l_20, l_24, l_31, l_32, l_33, l_35, l_36, l_48, l_56, l_57, l_58, l_63, l_65, l_80, l_81, l_90, l_91, l_93, l_94, l_95, l_97, l_100, l_105, l_107, l_110, l_111, l_116, l_120, l_121, l_122, l_123, l_124, l_125, l_126, l_162, l_255, l_300, l_400, l_420, l_432, l_1000, l_1400, l_1936, l_2000, l_2100, l_2400, l_24000, m_n1, m_n2, m_n3, nI_mul, nI_add, nI_sub, nI_ltT, nI_ltF, nI_leT, nI_leF, nI_eqT, nI_eqF, nI_nM, nM_nI, nM_eq, nM_lt, nM_le, nI_ltM, nI_leM, nI_inT, nI_dec, pk_rem, nI_ltI, nI_leI, nI_eq, nI_clamp, Nat.add_assoc, q_bv51, Nat.add_left_cancel_iff, clK_0 d2, clK_1 d2, clK_3 d2, clK_5 d2, clK_7 d2, clK_8 d2, clK_9 d2, clK_11 d2, clK_12 d2, clK_13 d2, clK_14 d2, clK_15 d2, clK_16 d2, clK_18 d2, clK_20 d2, clK_21 d2, clK_22 d2, clK_23 d2, clK_24 d2, clK_25 d2, clK_26 d2, clR_0_0 d2, clR_1_0 d2, clR_2_0 d2, clR_3_0 d2, clR_7_0 d2, clR_8_0 d2, clR_9_0 d2, clR_10_0 d2, clR_11_0 d2, clR_0_8 d2, clR_0_11 d2, clR_1_11 d2, clR_2_11 d2, clR_0_15 d2, clR_1_15 d2, clR_2_15 d2, clR_3_15 d2, clR_4_15 d2, clR_5_15 d2, clR_0_23 d2, clR_1_23 d2, clR_0_25 d2, clL_7 d2, clL_12 d2, clL_13 d2, clL_14 d2, clL_20 d2, clL_21 d2, clL_22 d2, clL_24 d2, clS_0 d2, clS_1 d2, clS_2 d2, clS_3 d2, E3]
theorem C_within {x : Int32} (I : cI Q h X tp ou fo hd a w) :
    ∃ h', cal g mX10_within [va_rf (some X), .int x] h = some (some (.int (sWithin ou a w x).1), h') ∧ cW X h h' 0 0 ∧ cI Q h' X tp (sWithin ou a w x).2 fo hd a w := by
  have d := I.1.1
  have dN := d.1
  have hQ := I.1.2.1
  have W := I.1.2.2.1
  have hnn := W.1.2.2.2
  have hT := tm_le I.1.2.2.2
  have en := c_now (g := g) I
  have et := w_there (g := g) (x := x) d W hT
  have aT := adr_thI (x := x) W hT
  rw [n_X10_within]
  unfold sWithin
  cases ec : thI w.2.1 w.2.2.1 (tm a w.1) x with
  | none =>
    rw [ec] at et
    have et' : cal g mX9_there [va_rf (some (X + 11)), .int x, .int (nI (tm a w.1))] h = some (some (va_rf none), h) := et
    refine ⟨h, ?_, cW.rf, I⟩
    simp (decide := true) (disch := omega) only [e_X10_within_0, e_X10_within_1, e_X10_within_4, e_X10_within_5, e_X10_within_6, e_X10_within_9, e_X10_within_10, e_X10_within_11, e_X10_within_14, e_X10_within_15, e_X10_within_16, e_X10_within_19, e_X10_within_20, e_X10_within_21, e_X10_within_22, e_X10_within_25, ↓reduceIte, if_true, if_false, reduceCtorEq, Nat.reduceAdd, true_and, and_true, false_and, and_false, true_or, or_true, false_or, or_false, not_true_eq_false, not_false_eq_true, Option.bind_eq_bind, Option.bind_some, psh, eq_self, l_0, l_1, l_2, l_3, l_4, l_5, l_6, l_7, l_8, l_9, l_10, l_11, l_12, l_13, l_14, l_15, l_16, l_17, l_18, l_19, l_20, l_24, l_31, l_32, l_33, l_35, l_36, l_48, l_56, l_57, l_58, l_63, l_65, l_80, l_81, l_90, l_91, l_93, l_94, l_95, l_97, l_100, l_105, l_107, l_110, l_111, l_116, l_120, l_121, l_122, l_123, l_124, l_125, l_126, l_162, l_255, l_300, l_400, l_420, l_432, l_1000, l_1400, l_1936, l_2000, l_2100, l_2400, l_24000, m_n1, m_n2, m_n3, nI_mul, nI_add, nI_sub, nI_ltT, nI_ltF, nI_leT, nI_leF, nI_eqT, nI_eqF, nI_nM, nM_nI, nM_eq, nM_lt, nM_le, nI_ltM, nI_leM, nI_inT, nI_dec, pk_rem, nI_ltI, nI_leI, nI_eq, nI_clamp, Nat.add_assoc, q_bv51, Nat.add_left_cancel_iff, clK_0 d, clK_1 d, clK_3 d, clK_5 d, clK_7 d, clK_8 d, clK_9 d, clK_11 d, clK_12 d, clK_13 d, clK_14 d, clK_15 d, clK_16 d, clK_18 d, clK_20 d, clK_21 d, clK_22 d, clK_23 d, clK_24 d, clK_25 d, clK_26 d, clR_0_0 d, clR_1_0 d, clR_2_0 d, clR_3_0 d, clR_7_0 d, clR_8_0 d, clR_9_0 d, clR_10_0 d, clR_11_0 d, clR_0_8 d, clR_0_11 d, clR_1_11 d, clR_2_11 d, clR_0_15 d, clR_1_15 d, clR_2_15 d, clR_3_15 d, clR_4_15 d, clR_5_15 d, clR_0_23 d, clR_1_23 d, clR_0_25 d, clL_7 d, clL_12 d, clL_13 d, clL_14 d, clL_20 d, clL_21 d, clL_22 d, clL_24 d, clS_0 d, clS_1 d, clS_2 d, clS_3 d, en, et']
  | some c =>
    rw [ec] at et aT
    obtain ⟨p, hp, rfl, ep⟩ := thI_some ec (by omega)
    simp only [nI_clamp (show p < 2 ^ 31 by omega)]
    obtain ⟨v, b1, ⟨⟨qv, k0, -⟩, ⟨tb, t1, Tx⟩, -⟩, -⟩ := aT
    rw [b1] at et
    obtain ⟨Il, Ls⟩ := I.out
    obtain ⟨h1, e, E1, s1, he, n1, u1, l1, N1⟩ := l_clear (g := g) d Ls
    have I1 := Il.kp s1 he
    have hP := lP_Q hQ he.1
    have sv := s1.1.2.2 v (hQ v qv).2
    have k0' : hK h1 v = 0 := by rw [sv.1]; exact k0
    have t1' : hR h1 3 v = some tb := by rw [(sv.2.2 (hP v qv)).2.1]; exact t1
    have Tx1 := Tx.keep s1.1 (fun x hx => ⟨(hQ x hx).2, hP x hx, hx⟩)
    obtain ⟨h2, l2, e2, E2, o2, I2, N2⟩ := l_addKinds (g := g) I1 N1 Tx1
    rw [← wasT_eq ep] at N2
    have he2 : e < hN h1 := N1.1.2.2.1
    have b2 := N2.2.2.2.2
    obtain ⟨h3, l3, e3, gf3, a4, a5, a6, a7, E3, o3, I3, N3⟩ := c_within_out (g := g) (l1 := some (.int (nI p))) (l3 := some (va_rf (some v))) hT 16 0 0 h2 l2 e2 0 ((ptl (wasT w.2.1 p (tm a w.1))).foldl (kP 0) ([], 0)) none none (by omega) (Nat.zero_le _) I2 N2
    have R := lR_kin (w := w) (T := tm a w.1) hnn hp (fun p _ => web_300 W hT)
    obtain ⟨h4, E4, s4, n4, u4, J⟩ := c_showList (g := g) I3 N3 R.1
    have e1 : sLst ou (cWr w (tm a w.1) 16 0 ((ptl (wasT w.2.1 p (tm a w.1))).foldl (kP 0) ([], 0))) = sTell ou (kinL w.2.1 w.2.2.2 w.2.2.1 (tm a w.1) p) := lRf_tell R
    have e1' : sLst ou ((cWr w (tm a w.1) 16 0 ((ptl (wasT w.2.1 p (tm a w.1))).foldl (kP 0) ([], 0))).1, (cWr w (tm a w.1) 16 0 ((ptl (wasT w.2.1 p (tm a w.1))).foldl (kP 0) ([], 0))).2) = sTell ou (kinL w.2.1 w.2.2.2 w.2.2.1 (tm a w.1) p) := e1
    rw [e1'] at E4 J
    have o1 : lOK X e e h h1 := ⟨s1, Or.inl rfl, by omega, by omega⟩
    have hl : e < hN h := by omega
    have d1 := I1.1.1
    have d3 := I3.1.1
    refine ⟨h4, ?_, (lOK_w Il he.2 ((o1.tr o2 hl).tr o3 hl)).tr (cfm_w (I3.back N3.ls) s4 (by omega) (by omega) (c := 0) (n := 0)) dN, J⟩
    have hd : ev g mX10_within 0 [some (va_rf (some X)), some (.int (nI p)), none, none, none, none, none, none] [] h = ev g mX10_within 45 [some (va_rf (some X)), some (.int (nI p)), some (.int (nI (tm a w.1))), some (va_rf (some v)), some (.int (nI 0)), some (.int (nI 0)), none, none] [] h2 := by
      simp (decide := true) (disch := omega) only [e_X10_within_0, e_X10_within_1, e_X10_within_4, e_X10_within_5, e_X10_within_6, e_X10_within_9, e_X10_within_10, e_X10_within_11, e_X10_within_14, e_X10_within_15, e_X10_within_16, e_X10_within_19, e_X10_within_20, e_X10_within_21, e_X10_within_22, e_X10_within_25, e_X10_within_28, e_X10_within_29, e_X10_within_32, e_X10_within_33, e_X10_within_36, e_X10_within_39, e_X10_within_40, e_X10_within_42, e_X10_within_43, ↓reduceIte, if_true, if_false, reduceCtorEq, Nat.reduceAdd, true_and, and_true, false_and, and_false, true_or, or_true, false_or, or_false, not_true_eq_false, not_false_eq_true, Option.bind_eq_bind, Option.bind_some, psh, eq_self, l_0, l_1, l_2, l_3, l_4, l_5, l_6, l_7, l_8, l_9, l_10, l_11, l_12, l_13, l_14, l_15, l_16, l_17, l_18, l_19, l_20, l_24, l_31, l_32, l_33, l_35, l_36, l_48, l_56, l_57, l_58, l_63, l_65, l_80, l_81, l_90, l_91, l_93, l_94, l_95, l_97, l_100, l_105, l_107, l_110, l_111, l_116, l_120, l_121, l_122, l_123, l_124, l_125, l_126, l_162, l_255, l_300, l_400, l_420, l_432, l_1000, l_1400, l_1936, l_2000, l_2100, l_2400, l_24000, m_n1, m_n2, m_n3, nI_mul, nI_add, nI_sub, nI_ltT, nI_ltF, nI_leT, nI_leF, nI_eqT, nI_eqF, nI_nM, nM_nI, nM_eq, nM_lt, nM_le, nI_ltM, nI_leM, nI_inT, nI_dec, pk_rem, nI_ltI, nI_leI, nI_eq, nI_clamp, Nat.add_assoc, q_bv51, Nat.add_left_cancel_iff, clK_0 d, clK_1 d, clK_3 d, clK_5 d, clK_7 d, clK_8 d, clK_9 d, clK_11 d, clK_12 d, clK_13 d, clK_14 d, clK_15 d, clK_16 d, clK_18 d, clK_20 d, clK_21 d, clK_22 d, clK_23 d, clK_24 d, clK_25 d, clK_26 d, clR_0_0 d, clR_1_0 d, clR_2_0 d, clR_3_0 d, clR_7_0 d, clR_8_0 d, clR_9_0 d, clR_10_0 d, clR_11_0 d, clR_0_8 d, clR_0_11 d, clR_1_11 d, clR_2_11 d, clR_0_15 d, clR_1_15 d, clR_2_15 d, clR_3_15 d, clR_4_15 d, clR_5_15 d, clR_0_23 d, clR_1_23 d, clR_0_25 d, clL_7 d, clL_12 d, clL_13 d, clL_14 d, clL_20 d, clL_21 d, clL_22 d, clL_24 d, clS_0 d, clS_1 d, clS_2 d, clS_3 d, en, et, reduceCtorEq, E1, clK_0 d1, clK_1 d1, clK_3 d1, clK_5 d1, clK_7 d1, clK_8 d1, clK_9 d1, clK_11 d1, clK_12 d1, clK_13 d1, clK_14 d1, clK_15 d1, clK_16 d1, clK_18 d1, clK_20 d1, clK_21 d1, clK_22 d1, clK_23 d1, clK_24 d1, clK_25 d1, clK_26 d1, clR_0_0 d1, clR_1_0 d1, clR_2_0 d1, clR_3_0 d1, clR_7_0 d1, clR_8_0 d1, clR_9_0 d1, clR_10_0 d1, clR_11_0 d1, clR_0_8 d1, clR_0_11 d1, clR_1_11 d1, clR_2_11 d1, clR_0_15 d1, clR_1_15 d1, clR_2_15 d1, clR_3_15 d1, clR_4_15 d1, clR_5_15 d1, clR_0_23 d1, clR_1_23 d1, clR_0_25 d1, clL_7 d1, clL_12 d1, clL_13 d1, clL_14 d1, clL_20 d1, clL_21 d1, clL_22 d1, clL_24 d1, clS_0 d1, clS_1 d1, clS_2 d1, clS_3 d1, k0', t1', E2]
    rw [hd, E3]
    simp (decide := true) (disch := omega) only [e_X10_within_121, e_X10_within_122, e_X10_within_125, ↓reduceIte, if_true, if_false, reduceCtorEq, Nat.reduceAdd, true_and, and_true, false_and, and_false, true_or, or_true, false_or, or_false, not_true_eq_false, not_false_eq_true, Option.bind_eq_bind, Option.bind_some, psh, eq_self, l_0, l_1, l_2, l_3, l_4, l_5, l_6, l_7, l_8, l_9, l_10, l_11, l_12, l_13, l_14, l_15, l_16, l_17, l_18, l_19, l_20, l_24, l_31, l_32, l_33, l_35, l_36, l_48, l_56, l_57, l_58, l_63, l_65, l_80, l_81, l_90, l_91, l_93, l_94, l_95, l_97, l_100, l_105, l_107, l_110, l_111, l_116, l_120, l_121, l_122, l_123, l_124, l_125, l_126, l_162, l_255, l_300, l_400, l_420, l_432, l_1000, l_1400, l_1936, l_2000, l_2100, l_2400, l_24000, m_n1, m_n2, m_n3, nI_mul, nI_add, nI_sub, nI_ltT, nI_ltF, nI_leT, nI_leF, nI_eqT, nI_eqF, nI_nM, nM_nI, nM_eq, nM_lt, nM_le, nI_ltM, nI_leM, nI_inT, nI_dec, pk_rem, nI_ltI, nI_leI, nI_eq, nI_clamp, Nat.add_assoc, q_bv51, Nat.add_left_cancel_iff, clK_0 d3, clK_1 d3, clK_3 d3, clK_5 d3, clK_7 d3, clK_8 d3, clK_9 d3, clK_11 d3, clK_12 d3, clK_13 d3, clK_14 d3, clK_15 d3, clK_16 d3, clK_18 d3, clK_20 d3, clK_21 d3, clK_22 d3, clK_23 d3, clK_24 d3, clK_25 d3, clK_26 d3, clR_0_0 d3, clR_1_0 d3, clR_2_0 d3, clR_3_0 d3, clR_7_0 d3, clR_8_0 d3, clR_9_0 d3, clR_10_0 d3, clR_11_0 d3, clR_0_8 d3, clR_0_11 d3, clR_1_11 d3, clR_2_11 d3, clR_0_15 d3, clR_1_15 d3, clR_2_15 d3, clR_3_15 d3, clR_4_15 d3, clR_5_15 d3, clR_0_23 d3, clR_1_23 d3, clR_0_25 d3, clL_7 d3, clL_12 d3, clL_13 d3, clL_14 d3, clL_20 d3, clL_21 d3, clL_22 d3, clL_24 d3, clS_0 d3, clS_1 d3, clS_2 d3, clS_3 d3, E4]
end
