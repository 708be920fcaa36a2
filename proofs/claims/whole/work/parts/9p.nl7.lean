/-! NameList.addKinds, closeGroup; addKindsOf, addWanted -/
theorem nls.kp {X e gf bs : Nat} {P Q : Nat → Prop} {h h' : PH} {l : List Nat} {L : List Nm} (N : nls Q h X l e L gf bs) (s : sm P h h') (dN : X + 57 ≤ hN h) (hQ : ∀ x, Q x → X + 57 ≤ x ∧ x < hN h) (h5 : ¬ P (X + 25)) (h6 : ¬ P (X + 26)) (he : ¬ P e) (hP : ∀ x, Q x → ¬ P x) : nls Q h' X l e L gf bs := by
  obtain ⟨⟨⟨⟨a1, a2⟩, a3⟩, b1, b2, b3⟩, ⟨c1, c2⟩, ⟨f1, f2⟩, f3⟩ := N
  have t6 := (s.2.2 (X + 26) (by omega)).2.2 h6
  have t5 := (s.2.2 (X + 25) (by omega)).2.2 h5
  obtain ⟨te, tl, te2⟩ := s.2.2 e b2
  have tb := (te2 he).2.2.2.2
  refine ⟨⟨⟨⟨by rw [t6.1]; exact a1, by rw [t6.2.1]; exact a2⟩, ?_⟩, b1, by have := s.1; omega, b3⟩, ⟨c1, fun k hk => ?_⟩, ⟨by rw [t5.1]; exact f1, by rw [t5.1]; exact f2⟩, f3⟩
  · rw [te, tl, tb, s.2.1]
    exact a3
  · obtain ⟨q1, q2⟩ := c2 k hk
    exact ⟨q1, q2.keep s (hQ _ q1).2 (hP _ q1)⟩
theorem lP_Q {X e : Nat} {Q : Nat → Prop} {h : PH} (hQ : ∀ x, Q x → X + 57 ≤ x ∧ x < hN h) (he : ¬ Q e) : ∀ x, Q x → ¬ lP h X e x := fun x hx z => by
  have := hQ x hx
  unfold lP at z
  rcases z with z | z | z
  · omega
  · omega
  · rw [z.1] at hx; exact he hx
/-- one part: KINDS -/
def kP (gf : Nat) (S : List Nm × Nat) (e : Pt) : List Nm × Nat := match e.2.2.2.2 with
  | none => S
  | some q => if e.1 = 0 ∧ q.1 = true then cAd gf S q else S
/-- one part: what is wanted -/
def wP (w : Wd) (T : Nat) (S : List Nm × Nat) (e : Pt) : List Nm × Nat := match e.2.2.2.2 with
  | none => S
  | some q => if e.1 = 0 ∧ q.1 = false ∧ pof w.2.1 w.2.2.2 w.2.2.1 q T = none then cAd 0 S q else S
section
variable {g X : Nat} {Q : Nat → Prop} {tp ou fo : List Nat} {hd : Option Nm} {a : Option Nat} {w : Wd}
theorem l_addKinds_loop {gf : Nat} {t : List Nat} {l1 : Option Value} : ∀ (es : List Pt) (r : Option Nat) (h : PH) (l : List Nat) (e : Nat) (S : List Nm × Nat), cIl Q h X tp ou fo hd a w → nls Q h X l e S.1 gf S.2 → sgm Q h r es none → (∀ x ∈ es, x ∈ ptl t) →
    ∃ h' l' e', ev g mX3_addKinds 5 [some (va_rf (some (X + 25))), l1, some (va_rf r)] [] h = some (none, h') ∧ lOK X e e' h h' ∧ cIl Q h' X tp ou fo hd a w ∧ nls Q h' X l' e' (es.foldl (kP gf) S).1 gf (es.foldl (kP gf) S).2 := by
  intro es
  induction es with
  | nil =>
    intro r h l e S I N hs _
    have : r = none := hs
    subst this
    refine ⟨h, l, e, ?_, lOK.rf, I, N⟩
    rw [e_X3_addKinds_5]
    simp (decide := true) (disch := omega) only [e_X3_addKinds_0, e_X3_addKinds_1, e_X3_addKinds_4, e_X3_addKinds_6, e_X3_addKinds_9, e_X3_addKinds_10, e_X3_addKinds_13, e_X3_addKinds_16, e_X3_addKinds_17, e_X3_addKinds_18, e_X3_addKinds_21, e_X3_addKinds_24, e_X3_addKinds_25, e_X3_addKinds_28, e_X3_addKinds_29, e_X3_addKinds_32, ↓reduceIte, if_true, if_false, reduceCtorEq, Nat.reduceAdd, true_and, and_true, false_and, and_false, true_or, or_true, false_or, or_false, not_true_eq_false, not_false_eq_true, Option.bind_eq_bind, Option.bind_some, psh, eq_self, l_0, l_1, l_2, l_3, l_4, l_5, l_6, l_7, l_8, l_9, l_10, l_11, l_12, l_13, l_14, l_15, l_16, l_17, l_18, l_19, l_20, l_24, l_31, l_32, l_33, l_35, l_36, l_48, l_56, l_57, l_58, l_63, l_65, l_80, l_81, l_90, l_91, l_93, l_94, l_95, l_97, l_100, l_105, l_107, l_110, l_111, l_116, l_120, l_121, l_122, l_123, l_124, l_125, l_126, l_162, l_255, l_300, l_400, l_420, l_432, l_1000, l_1400, l_1936, l_2000, l_2100, l_2400, l_24000, m_n1, m_n2, m_n3, nI_mul, nI_add, nI_sub, nI_ltT, nI_ltF, nI_leT, nI_leF, nI_eqT, nI_eqF, nI_nM, nM_nI, nM_eq, nM_lt, nM_le, nI_ltM, nI_leM, nI_inT, nI_dec, pk_rem, nI_ltI, nI_leI, nI_eq, nI_clamp, Nat.add_assoc, q_bv51, Nat.add_left_cancel_iff]
  | cons x es ih =>
    intro r h l e S I N hs hin
    obtain ⟨v, rfl, p1, hs2⟩ := hs
    have sr := ptl_sort (hin x List.mem_cons_self)
    have hin' : ∀ y ∈ es, y ∈ ptl t := fun y hy => hin y (List.mem_cons_of_mem _ hy)
    have ek := p_isLinkToKind (g := g) p1 sr.1
    have d := I.1.1
    have hQ := I.1.2.1
    have e1 := N.1.2.1
    have e2 := N.1.2.2.1
    have e3 := N.1.2.2.2
    obtain ⟨⟨qv, k4, i0, -⟩, pg⟩ := p1
    rw [List.foldl_cons]
    cases ez : isP x true with
    | false =>
      rw [ez, bI_f] at ek
      have hk : kP gf S x = S := by
        unfold kP
        unfold isP at ez
        cases eq : x.2.2.2.2 with
        | none => rfl
        | some q =>
          rw [eq] at ez
          simp only
          rw [if_neg]
          intro z
          simp [z.1, z.2] at ez
      rw [hk]
      obtain ⟨h', l', e', E, r1, r2, r3⟩ := ih (hR h 5 v) h l e S I N hs2 hin'
      refine ⟨h', l', e', ?_, r1, r2, r3⟩
      rw [← E, e_X3_addKinds_5]
      simp (decide := true) (disch := omega) only [e_X3_addKinds_0, e_X3_addKinds_1, e_X3_addKinds_4, e_X3_addKinds_6, e_X3_addKinds_9, e_X3_addKinds_10, e_X3_addKinds_13, e_X3_addKinds_16, e_X3_addKinds_17, e_X3_addKinds_18, e_X3_addKinds_21, e_X3_addKinds_24, e_X3_addKinds_25, e_X3_addKinds_28, e_X3_addKinds_29, e_X3_addKinds_32, ↓reduceIte, if_true, if_false, reduceCtorEq, Nat.reduceAdd, true_and, and_true, false_and, and_false, true_or, or_true, false_or, or_false, not_true_eq_false, not_false_eq_true, Option.bind_eq_bind, Option.bind_some, psh, eq_self, l_0, l_1, l_2, l_3, l_4, l_5, l_6, l_7, l_8, l_9, l_10, l_11, l_12, l_13, l_14, l_15, l_16, l_17, l_18, l_19, l_20, l_24, l_31, l_32, l_33, l_35, l_36, l_48, l_56, l_57, l_58, l_63, l_65, l_80, l_81, l_90, l_91, l_93, l_94, l_95, l_97, l_100, l_105, l_107, l_110, l_111, l_116, l_120, l_121, l_122, l_123, l_124, l_125, l_126, l_162, l_255, l_300, l_400, l_420, l_432, l_1000, l_1400, l_1936, l_2000, l_2100, l_2400, l_24000, m_n1, m_n2, m_n3, nI_mul, nI_add, nI_sub, nI_ltT, nI_ltF, nI_leT, nI_leF, nI_eqT, nI_eqF, nI_nM, nM_nI, nM_eq, nM_lt, nM_le, nI_ltM, nI_leM, nI_inT, nI_dec, pk_rem, nI_ltI, nI_leI, nI_eq, nI_clamp, Nat.add_assoc, q_bv51, Nat.add_left_cancel_iff, clK_0 d, clK_1 d, clK_3 d, clK_5 d, clK_7 d, clK_8 d, clK_9 d, clK_11 d, clK_12 d, clK_13 d, clK_14 d, clK_15 d, clK_16 d, clK_18 d, clK_20 d, clK_21 d, clK_22 d, clK_23 d, clK_24 d, clK_25 d, clK_26 d, clR_0_0 d, clR_1_0 d, clR_2_0 d, clR_3_0 d, clR_7_0 d, clR_8_0 d, clR_9_0 d, clR_10_0 d, clR_11_0 d, clR_0_8 d, clR_0_11 d, clR_1_11 d, clR_2_11 d, clR_0_15 d, clR_1_15 d, clR_2_15 d, clR_3_15 d, clR_4_15 d, clR_5_15 d, clR_0_23 d, clR_1_23 d, clR_0_25 d, clL_7 d, clL_12 d, clL_13 d, clL_14 d, clL_20 d, clL_21 d, clL_22 d, clL_24 d, clS_0 d, clS_1 d, clS_2 d, clS_3 d, reduceCtorEq, k4, ek]
    | true =>
      rw [ez, bI_t] at ek
      unfold isP at ez
      cases eq : x.2.2.2.2 with
      | none => rw [eq] at ez; simp at ez
      | some q =>
        rw [eq] at ez pg
        simp only [Bool.and_eq_true, decide_eq_true_eq, beq_iff_eq] at ez
        have hk : kP gf S x = cAd gf S q := by
          unfold kP
          rw [eq]
          simp only
          rw [if_pos ez]
        rw [hk]
        obtain ⟨b, b1, b2, b3⟩ := pg
        obtain ⟨h1, l1', e1', E1, o1, N1⟩ := l_add (g := g) d hQ N b2 b3
        have s1 := o1.1
        have I1 := I.kp s1 ⟨e1, e3⟩
        have hP := lP_Q hQ e1
        obtain ⟨h', l', e', E, r1, r2, r3⟩ := ih (hR h1 5 v) h1 l1' e1' (cAd gf S q) I1 N1 (by
          rw [((s1.1.2.2 v (hQ v qv).2).2.2 (hP v qv)).2.1]
          exact sgm.keep s1.1 (fun x hx => ⟨(hQ x hx).2, hP x hx, hx⟩) hs2) hin'
        have k4' : hK h1 v = 4 := by rw [(s1.1.2.2 v (hQ v qv).2).1]; exact k4
        refine ⟨h', l', e', ?_, o1.tr r1 e2, r2, r3⟩
        rw [← E, e_X3_addKinds_5]
        simp (decide := true) (disch := omega) only [e_X3_addKinds_0, e_X3_addKinds_1, e_X3_addKinds_4, e_X3_addKinds_6, e_X3_addKinds_9, e_X3_addKinds_10, e_X3_addKinds_13, e_X3_addKinds_16, e_X3_addKinds_17, e_X3_addKinds_18, e_X3_addKinds_21, e_X3_addKinds_24, e_X3_addKinds_25, e_X3_addKinds_28, e_X3_addKinds_29, e_X3_addKinds_32, ↓reduceIte, if_true, if_false, reduceCtorEq, Nat.reduceAdd, true_and, and_true, false_and, and_false, true_or, or_true, false_or, or_false, not_true_eq_false, not_false_eq_true, Option.bind_eq_bind, Option.bind_some, psh, eq_self, l_0, l_1, l_2, l_3, l_4, l_5, l_6, l_7, l_8, l_9, l_10, l_11, l_12, l_13, l_14, l_15, l_16, l_17, l_18, l_19, l_20, l_24, l_31, l_32, l_33, l_35, l_36, l_48, l_56, l_57, l_58, l_63, l_65, l_80, l_81, l_90, l_91, l_93, l_94, l_95, l_97, l_100, l_105, l_107, l_110, l_111, l_116, l_120, l_121, l_122, l_123, l_124, l_125, l_126, l_162, l_255, l_300, l_400, l_420, l_432, l_1000, l_1400, l_1936, l_2000, l_2100, l_2400, l_24000, m_n1, m_n2, m_n3, nI_mul, nI_add, nI_sub, nI_ltT, nI_ltF, nI_leT, nI_leF, nI_eqT, nI_eqF, nI_nM, nM_nI, nM_eq, nM_lt, nM_le, nI_ltM, nI_leM, nI_inT, nI_dec, pk_rem, nI_ltI, nI_leI, nI_eq, nI_clamp, Nat.add_assoc, q_bv51, Nat.add_left_cancel_iff, clK_0 d, clK_1 d, clK_3 d, clK_5 d, clK_7 d, clK_8 d, clK_9 d, clK_11 d, clK_12 d, clK_13 d, clK_14 d, clK_15 d, clK_16 d, clK_18 d, clK_20 d, clK_21 d, clK_22 d, clK_23 d, clK_24 d, clK_25 d, clK_26 d, clR_0_0 d, clR_1_0 d, clR_2_0 d, clR_3_0 d, clR_7_0 d, clR_8_0 d, clR_9_0 d, clR_10_0 d, clR_11_0 d, clR_0_8 d, clR_0_11 d, clR_1_11 d, clR_2_11 d, clR_0_15 d, clR_1_15 d, clR_2_15 d, clR_3_15 d, clR_4_15 d, clR_5_15 d, clR_0_23 d, clR_1_23 d, clR_0_25 d, clL_7 d, clL_12 d, clL_13 d, clL_14 d, clL_20 d, clL_21 d, clL_22 d, clL_24 d, clS_0 d, clS_1 d, clS_2 d, clS_3 d, reduceCtorEq, k4, ek, b1, E1, k4']
theorem l_addKinds {gf e bs b : Nat} {h : PH} {l t : List Nat} {L : List Nm} (I : cIl Q h X tp ou fo hd a w) (N : nls Q h X l e L gf bs) (Tx : txt Q h b t) :
    ∃ h' l' e', cal g mX3_addKinds [va_rf (some (X + 25)), va_rf (some b)] h = some (none, h') ∧ lOK X e e' h h' ∧ cIl Q h' X tp ou fo hd a w ∧ nls Q h' X l' e' ((ptl t).foldl (kP gf) (L, bs)).1 gf ((ptl t).foldl (kP gf) (L, bs)).2 := by
  obtain ⟨⟨-, k8⟩, -, T1, -⟩ := Tx
  obtain ⟨h', l', e', E, r⟩ := l_addKinds_loop (g := g) (t := t) (l1 := some (va_rf (some b))) (ptl t) (hR h 1 b) h l e (L, bs) I N T1 (fun x hx => hx)
  refine ⟨h', l', e', ?_, r⟩
  rw [n_X3_addKinds, ← E]
  simp (decide := true) (disch := omega) only [e_X3_addKinds_0, e_X3_addKinds_1, e_X3_addKinds_4, ↓reduceIte, if_true, if_false, reduceCtorEq, Nat.reduceAdd, true_and, and_true, false_and, and_false, true_or, or_true, false_or, or_false, not_true_eq_false, not_false_eq_true, Option.bind_eq_bind, Option.bind_some, psh, eq_self, l_0, l_1, l_2, l_3, l_4, l_5, l_6, l_7, l_8, l_9, l_10, l_11, l_12, l_13, l_14, l_15, l_16, l_17, l_18, l_19, l_20, l_24, l_31, l_32, l_33, l_35, l_36, l_48, l_56, l_57, l_58, l_63, l_65, l_80, l_81, l_90, l_91, l_93, l_94, l_95, l_97, l_100, l_105, l_107, l_110, l_111, l_116, l_120, l_121, l_122, l_123, l_124, l_125, l_126, l_162, l_255, l_300, l_400, l_420, l_432, l_1000, l_1400, l_1936, l_2000, l_2100, l_2400, l_24000, m_n1, m_n2, m_n3, nI_mul, nI_add, nI_sub, nI_ltT, nI_ltF, nI_leT, nI_leF, nI_eqT, nI_eqF, nI_nM, nM_nI, nM_eq, nM_lt, nM_le, nI_ltM, nI_leM, nI_inT, nI_dec, pk_rem, nI_ltI, nI_leI, nI_eq, nI_clamp, Nat.add_assoc, q_bv51, Nat.add_left_cancel_iff, k8]
theorem l_closeGroup {gf e bs : Nat} {h : PH} {l : List Nat} {L : List Nm} (I : cIl Q h X tp ou fo hd a w) (N : nls Q h X l e L gf bs) :
    ∃ h', cal g mX3_closeGroup [va_rf (some (X + 25))] h = some (none, h') ∧ lOK X e e h h' ∧ cIl Q h' X tp ou fo hd a w ∧ nls Q h' X l e L L.length bs := by
  have d := I.1.1
  have dN := d.1
  have hQ := I.1.2.1
  obtain ⟨⟨⟨⟨a1, a2⟩, a3⟩, b1, b2, b3⟩, ⟨c1, c2⟩, ⟨f1, f2⟩, f3, f4, f5⟩ := N
  have s : cfm X (lP h X e) h (pI h 1 (X + 25) (nI L.length)) := cfm.pI _ _ (Or.inl rfl)
  have hP := lP_Q hQ b1
  rw [c1] at a1
  have j := j10 (pc := 5) (ls := [some (va_rf (some (X + 25)))]) (r := [va_rf (some (X + 25))]) (clK_26 d)
  rw [a1] at j
  refine ⟨_, ?_, ⟨s, Or.inl rfl, Nat.le_refl _, Nat.le_refl _⟩, I.kp s ⟨b1, b3⟩, ⟨⟨⟨⟨?_, a2⟩, a3⟩, b1, b2, b3⟩, ⟨c1, fun k hk => ?_⟩, ⟨?_, ?_⟩, Nat.le_refl _, f4, f5⟩⟩
  · rw [n_X3_closeGroup]
    simp (decide := true) (disch := omega) only [e_X3_closeGroup_0, e_X3_closeGroup_1, e_X3_closeGroup_2, e_X3_closeGroup_5, e_X3_closeGroup_8, e_X3_closeGroup_11, ↓reduceIte, if_true, if_false, reduceCtorEq, Nat.reduceAdd, true_and, and_true, false_and, and_false, true_or, or_true, false_or, or_false, not_true_eq_false, not_false_eq_true, Option.bind_eq_bind, Option.bind_some, psh, eq_self, l_0, l_1, l_2, l_3, l_4, l_5, l_6, l_7, l_8, l_9, l_10, l_11, l_12, l_13, l_14, l_15, l_16, l_17, l_18, l_19, l_20, l_24, l_31, l_32, l_33, l_35, l_36, l_48, l_56, l_57, l_58, l_63, l_65, l_80, l_81, l_90, l_91, l_93, l_94, l_95, l_97, l_100, l_105, l_107, l_110, l_111, l_116, l_120, l_121, l_122, l_123, l_124, l_125, l_126, l_162, l_255, l_300, l_400, l_420, l_432, l_1000, l_1400, l_1936, l_2000, l_2100, l_2400, l_24000, m_n1, m_n2, m_n3, nI_mul, nI_add, nI_sub, nI_ltT, nI_ltF, nI_leT, nI_leF, nI_eqT, nI_eqF, nI_nM, nM_nI, nM_eq, nM_lt, nM_le, nI_ltM, nI_leM, nI_inT, nI_dec, pk_rem, nI_ltI, nI_leI, nI_eq, nI_clamp, Nat.add_assoc, q_bv51, Nat.add_left_cancel_iff, clK_0 d, clK_1 d, clK_3 d, clK_5 d, clK_7 d, clK_8 d, clK_9 d, clK_11 d, clK_12 d, clK_13 d, clK_14 d, clK_15 d, clK_16 d, clK_18 d, clK_20 d, clK_21 d, clK_22 d, clK_23 d, clK_24 d, clK_25 d, clK_26 d, clR_0_0 d, clR_1_0 d, clR_2_0 d, clR_3_0 d, clR_7_0 d, clR_8_0 d, clR_9_0 d, clR_10_0 d, clR_11_0 d, clR_0_8 d, clR_0_11 d, clR_1_11 d, clR_2_11 d, clR_0_15 d, clR_1_15 d, clR_2_15 d, clR_3_15 d, clR_4_15 d, clR_5_15 d, clR_0_23 d, clR_1_23 d, clR_0_25 d, clL_7 d, clL_12 d, clL_13 d, clL_14 d, clL_20 d, clL_21 d, clL_22 d, clL_24 d, clS_0 d, clS_1 d, clS_2 d, clS_3 d, j]
  · rw [c1]
    simp (decide := true) only [u_hN_pI, u_hU_pI, u_hK_pI, u_hL_pI, u_hR_pI, u_hJ_pI, u_hA_pI, u_hB_pI, u_hS_pI, u_hN_pR, u_hU_pR, u_hK_pR, u_hL_pR, u_hI_pR, u_hJ_pR, u_hA_pR, u_hB_pR, u_hS_pR, u_hN_pJ, u_hU_pJ, u_hK_pJ, u_hL_pJ, u_hI_pJ, u_hR_pJ, u_hA_pJ, u_hB_pJ, u_hS_pJ, u_hN_pA, u_hU_pA, u_hK_pA, u_hL_pA, u_hI_pA, u_hR_pA, u_hJ_pA, u_hB_pA, u_hS_pA, u_hN_pB, u_hU_pB, u_hK_pB, u_hL_pB, u_hI_pB, u_hR_pB, u_hJ_pB, u_hA_pB, u_hS_pB, u_hL_nO, u_hA_nO, u_hB_nO, u_hS_nO, u_hI_nA, u_hR_nA, u_hJ_nA, u_hS_nA, u_II, u_RR, u_JJ, u_AA, u_BB, u_NO, u_UO, u_KO, u_IO, u_RO, u_JO, u_NN, u_UN, u_KN, u_LN, u_AN, u_BN, if_true, if_false, show ¬ (X + 26 = X + 25) by omega]
    exact a1
  · obtain ⟨q1, q2⟩ := c2 k hk
    exact ⟨q1, q2.keep s.1 (hQ _ q1).2 (hP _ q1)⟩
  · simp (decide := true) only [u_hN_pI, u_hU_pI, u_hK_pI, u_hL_pI, u_hR_pI, u_hJ_pI, u_hA_pI, u_hB_pI, u_hS_pI, u_hN_pR, u_hU_pR, u_hK_pR, u_hL_pR, u_hI_pR, u_hJ_pR, u_hA_pR, u_hB_pR, u_hS_pR, u_hN_pJ, u_hU_pJ, u_hK_pJ, u_hL_pJ, u_hI_pJ, u_hR_pJ, u_hA_pJ, u_hB_pJ, u_hS_pJ, u_hN_pA, u_hU_pA, u_hK_pA, u_hL_pA, u_hI_pA, u_hR_pA, u_hJ_pA, u_hB_pA, u_hS_pA, u_hN_pB, u_hU_pB, u_hK_pB, u_hL_pB, u_hI_pB, u_hR_pB, u_hJ_pB, u_hA_pB, u_hS_pB, u_hL_nO, u_hA_nO, u_hB_nO, u_hS_nO, u_hI_nA, u_hR_nA, u_hJ_nA, u_hS_nA, u_II, u_RR, u_JJ, u_AA, u_BB, u_NO, u_UO, u_KO, u_IO, u_RO, u_JO, u_NN, u_UN, u_KN, u_LN, u_AN, u_BN, if_true, if_false]
  · simp (decide := true) only [u_hN_pI, u_hU_pI, u_hK_pI, u_hL_pI, u_hR_pI, u_hJ_pI, u_hA_pI, u_hB_pI, u_hS_pI, u_hN_pR, u_hU_pR, u_hK_pR, u_hL_pR, u_hI_pR, u_hJ_pR, u_hA_pR, u_hB_pR, u_hS_pR, u_hN_pJ, u_hU_pJ, u_hK_pJ, u_hL_pJ, u_hI_pJ, u_hR_pJ, u_hA_pJ, u_hB_pJ, u_hS_pJ, u_hN_pA, u_hU_pA, u_hK_pA, u_hL_pA, u_hI_pA, u_hR_pA, u_hJ_pA, u_hB_pA, u_hS_pA, u_hN_pB, u_hU_pB, u_hK_pB, u_hL_pB, u_hI_pB, u_hR_pB, u_hJ_pB, u_hA_pB, u_hS_pB, u_hL_nO, u_hA_nO, u_hB_nO, u_hS_nO, u_hI_nA, u_hR_nA, u_hJ_nA, u_hS_nA, u_II, u_RR, u_JJ, u_AA, u_BB, u_NO, u_UO, u_KO, u_IO, u_RO, u_JO, u_NN, u_UN, u_KN, u_LN, u_AN, u_BN, if_true, if_false]
    exact f2
/-- KINDS of a NAME's page -/
def cK1 (w : Wd) (T gf : Nat) (S : List Nm × Nat) (q : Nm) : List Nm × Nat := match pof w.2.1 w.2.2.2 w.2.2.1 q T with
  | none => S
  | some p => (ptl (wasT w.2.1 p T)).foldl (kP gf) S
theorem c_addKindsOf {gf e bs b T : Nat} {h : PH} {l : List Nat} {L : List Nm} {q : Nm} (hT : T ≤ w.1) (I : cIl Q h X tp ou fo hd a w) (N : nls Q h X l e L gf bs) (hq : nm_ h b q.1 q.2) :
    ∃ h' l' e', cal g mX10_addKindsOf [va_rf (some X), va_rf (some b), .int (nI T)] h = some (none, h') ∧ lOK X e e' h h' ∧ cIl Q h' X tp ou fo hd a w ∧ nls Q h' X l' e' (cK1 w T gf (L, bs) q).1 gf (cK1 w T gf (L, bs) q).2 := by
  have d := I.1.1
  have W := I.1.2.2.1
  have hnn := W.1.2.2.2
  have ep := w_pageOf (g := g) d W hq hT
  rw [n_X10_addKindsOf]
  unfold cK1
  cases epp : pof w.2.1 w.2.2.2 w.2.2.1 q T with
  | none =>
    rw [epp, oN] at ep
    have et := w_there (g := g) (x := nM 1) d W hT
    rw [thI_neg (by decide)] at et
    have et' : cal g mX9_there [va_rf (some (X + 11)), .int (nM 1), .int (nI T)] h = some (some (va_rf none), h) := et
    refine ⟨h, l, e, ?_, lOK.rf, I, N⟩
    simp (decide := true) (disch := omega) only [e_X10_addKindsOf_0, e_X10_addKindsOf_1, e_X10_addKindsOf_4, e_X10_addKindsOf_5, e_X10_addKindsOf_6, e_X10_addKindsOf_9, e_X10_addKindsOf_10, e_X10_addKindsOf_13, e_X10_addKindsOf_14, e_X10_addKindsOf_15, e_X10_addKindsOf_18, e_X10_addKindsOf_19, e_X10_addKindsOf_22, e_X10_addKindsOf_23, e_X10_addKindsOf_24, e_X10_addKindsOf_27, e_X10_addKindsOf_28, e_X10_addKindsOf_31, e_X10_addKindsOf_32, e_X10_addKindsOf_35, e_X10_addKindsOf_38, ↓reduceIte, if_true, if_false, reduceCtorEq, Nat.reduceAdd, true_and, and_true, false_and, and_false, true_or, or_true, false_or, or_false, not_true_eq_false, not_false_eq_true, Option.bind_eq_bind, Option.bind_some, psh, eq_self, l_0, l_1, l_2, l_3, l_4, l_5, l_6, l_7, l_8, l_9, l_10, l_11, l_12, l_13, l_14, l_15, l_16, l_17, l_18, l_19, l_20, l_24, l_31, l_32, l_33, l_35, l_36, l_48, l_56, l_57, l_58, l_63, l_65, l_80, l_81, l_90, l_91, l_93, l_94, l_95, l_97, l_100, l_105, l_107, l_110, l_111, l_116, l_120, l_121, l_122, l_123, l_124, l_125, l_126, l_162, l_255, l_300, l_400, l_420, l_432, l_1000, l_1400, l_1936, l_2000, l_2100, l_2400, l_24000, m_n1, m_n2, m_n3, nI_mul, nI_add, nI_sub, nI_ltT, nI_ltF, nI_leT, nI_leF, nI_eqT, nI_eqF, nI_nM, nM_nI, nM_eq, nM_lt, nM_le, nI_ltM, nI_leM, nI_inT, nI_dec, pk_rem, nI_ltI, nI_leI, nI_eq, nI_clamp, Nat.add_assoc, q_bv51, Nat.add_left_cancel_iff, clK_0 d, clK_1 d, clK_3 d, clK_5 d, clK_7 d, clK_8 d, clK_9 d, clK_11 d, clK_12 d, clK_13 d, clK_14 d, clK_15 d, clK_16 d, clK_18 d, clK_20 d, clK_21 d, clK_22 d, clK_23 d, clK_24 d, clK_25 d, clK_26 d, clR_0_0 d, clR_1_0 d, clR_2_0 d, clR_3_0 d, clR_7_0 d, clR_8_0 d, clR_9_0 d, clR_10_0 d, clR_11_0 d, clR_0_8 d, clR_0_11 d, clR_1_11 d, clR_2_11 d, clR_0_15 d, clR_1_15 d, clR_2_15 d, clR_3_15 d, clR_4_15 d, clR_5_15 d, clR_0_23 d, clR_1_23 d, clR_0_25 d, clL_7 d, clL_12 d, clL_13 d, clL_14 d, clL_20 d, clL_21 d, clL_22 d, clL_24 d, clS_0 d, clS_1 d, clS_2 d, clS_3 d, reduceCtorEq, ep, et']
  | some p =>
    rw [epp, oN] at ep
    obtain ⟨hp, -, c', ht⟩ := pof_lt epp
    have et := w_there (g := g) (x := nI p) d W hT
    have aT := adr_thI (x := nI p) W hT
    rw [thI_nI hp (by omega)] at et aT
    cases ec : thr w.2.1 p T with
    | none => rw [ht] at ec; cases ec
    | some c =>
      rw [ec] at et aT
      obtain ⟨v, b1, ⟨⟨-, k0, -⟩, ⟨tb, t1, Tx⟩, -⟩, -⟩ := aT
      rw [b1] at et
      obtain ⟨h', l', e', E, r⟩ := l_addKinds (g := g) I N Tx
      rw [← wasT_eq ec] at r
      refine ⟨h', l', e', ?_, r⟩
      simp (decide := true) (disch := omega) only [e_X10_addKindsOf_0, e_X10_addKindsOf_1, e_X10_addKindsOf_4, e_X10_addKindsOf_5, e_X10_addKindsOf_6, e_X10_addKindsOf_9, e_X10_addKindsOf_10, e_X10_addKindsOf_13, e_X10_addKindsOf_14, e_X10_addKindsOf_15, e_X10_addKindsOf_18, e_X10_addKindsOf_19, e_X10_addKindsOf_22, e_X10_addKindsOf_23, e_X10_addKindsOf_24, e_X10_addKindsOf_27, e_X10_addKindsOf_28, e_X10_addKindsOf_31, e_X10_addKindsOf_32, e_X10_addKindsOf_35, e_X10_addKindsOf_38, ↓reduceIte, if_true, if_false, reduceCtorEq, Nat.reduceAdd, true_and, and_true, false_and, and_false, true_or, or_true, false_or, or_false, not_true_eq_false, not_false_eq_true, Option.bind_eq_bind, Option.bind_some, psh, eq_self, l_0, l_1, l_2, l_3, l_4, l_5, l_6, l_7, l_8, l_9, l_10, l_11, l_12, l_13, l_14, l_15, l_16, l_17, l_18, l_19, l_20, l_24, l_31, l_32, l_33, l_35, l_36, l_48, l_56, l_57, l_58, l_63, l_65, l_80, l_81, l_90, l_91, l_93, l_94, l_95, l_97, l_100, l_105, l_107, l_110, l_111, l_116, l_120, l_121, l_122, l_123, l_124, l_125, l_126, l_162, l_255, l_300, l_400, l_420, l_432, l_1000, l_1400, l_1936, l_2000, l_2100, l_2400, l_24000, m_n1, m_n2, m_n3, nI_mul, nI_add, nI_sub, nI_ltT, nI_ltF, nI_leT, nI_leF, nI_eqT, nI_eqF, nI_nM, nM_nI, nM_eq, nM_lt, nM_le, nI_ltM, nI_leM, nI_inT, nI_dec, pk_rem, nI_ltI, nI_leI, nI_eq, nI_clamp, Nat.add_assoc, q_bv51, Nat.add_left_cancel_iff, clK_0 d, clK_1 d, clK_3 d, clK_5 d, clK_7 d, clK_8 d, clK_9 d, clK_11 d, clK_12 d, clK_13 d, clK_14 d, clK_15 d, clK_16 d, clK_18 d, clK_20 d, clK_21 d, clK_22 d, clK_23 d, clK_24 d, clK_25 d, clK_26 d, clR_0_0 d, clR_1_0 d, clR_2_0 d, clR_3_0 d, clR_7_0 d, clR_8_0 d, clR_9_0 d, clR_10_0 d, clR_11_0 d, clR_0_8 d, clR_0_11 d, clR_1_11 d, clR_2_11 d, clR_0_15 d, clR_1_15 d, clR_2_15 d, clR_3_15 d, clR_4_15 d, clR_5_15 d, clR_0_23 d, clR_1_23 d, clR_0_25 d, clL_7 d, clL_12 d, clL_13 d, clL_14 d, clL_20 d, clL_21 d, clL_22 d, clL_24 d, clS_0 d, clS_1 d, clS_2 d, clS_3 d, reduceCtorEq, ep, et, k0, t1, E]
theorem c_addWanted_loop {T : Nat} {t : List Nat} {l1 : Option Value} (hT : T ≤ w.1) : ∀ (es : List Pt) (r : Option Nat) (h : PH) (l : List Nat) (e : Nat) (S : List Nm × Nat), cIl Q h X tp ou fo hd a w → nls Q h X l e S.1 0 S.2 → sgm Q h r es none → (∀ x ∈ es, x ∈ ptl t) →
    ∃ h' l' e', ev g mX10_addWanted 5 [some (va_rf (some X)), l1, some (.int (nI T)), some (va_rf r)] [] h = some (none, h') ∧ lOK X e e' h h' ∧ cIl Q h' X tp ou fo hd a w ∧ nls Q h' X l' e' (es.foldl (wP w T) S).1 0 (es.foldl (wP w T) S).2 := by
  intro es
  induction es with
  | nil =>
    intro r h l e S I N hs _
    have : r = none := hs
    subst this
    refine ⟨h, l, e, ?_, lOK.rf, I, N⟩
    rw [e_X10_addWanted_5]
    simp (decide := true) (disch := omega) only [e_X10_addWanted_0, e_X10_addWanted_1, e_X10_addWanted_4, e_X10_addWanted_6, e_X10_addWanted_9, e_X10_addWanted_10, e_X10_addWanted_13, e_X10_addWanted_16, e_X10_addWanted_17, e_X10_addWanted_20, e_X10_addWanted_21, e_X10_addWanted_24, e_X10_addWanted_25, e_X10_addWanted_28, e_X10_addWanted_29, e_X10_addWanted_32, e_X10_addWanted_33, e_X10_addWanted_36, e_X10_addWanted_37, e_X10_addWanted_40, e_X10_addWanted_43, e_X10_addWanted_44, e_X10_addWanted_47, e_X10_addWanted_48, e_X10_addWanted_51, ↓reduceIte, if_true, if_false, reduceCtorEq, Nat.reduceAdd, true_and, and_true, false_and, and_false, true_or, or_true, false_or, or_false, not_true_eq_false, not_false_eq_true, Option.bind_eq_bind, Option.bind_some, psh, eq_self, l_0, l_1, l_2, l_3, l_4, l_5, l_6, l_7, l_8, l_9, l_10, l_11, l_12, l_13, l_14, l_15, l_16, l_17, l_18, l_19, l_20, l_24, l_31, l_32, l_33, l_35, l_36, l_48, l_56, l_57, l_58, l_63, l_65, l_80, l_81, l_90, l_91, l_93, l_94, l_95, l_97, l_100, l_105, l_107, l_110, l_111, l_116, l_120, l_121, l_122, l_123, l_124, l_125, l_126, l_162, l_255, l_300, l_400, l_420, l_432, l_1000, l_1400, l_1936, l_2000, l_2100, l_2400, l_24000, m_n1, m_n2, m_n3, nI_mul, nI_add, nI_sub, nI_ltT, nI_ltF, nI_leT, nI_leF, nI_eqT, nI_eqF, nI_nM, nM_nI, nM_eq, nM_lt, nM_le, nI_ltM, nI_leM, nI_inT, nI_dec, pk_rem, nI_ltI, nI_leI, nI_eq, nI_clamp, Nat.add_assoc, q_bv51, Nat.add_left_cancel_iff]
  | cons x es ih =>
    intro r h l e S I N hs hin
    obtain ⟨v, rfl, p1, hs2⟩ := hs
    have sr := ptl_sort (hin x List.mem_cons_self)
    have hin' : ∀ y ∈ es, y ∈ ptl t := fun y hy => hin y (List.mem_cons_of_mem _ hy)
    have ek := p_isLinkToPage (g := g) p1 sr.1
    have d := I.1.1
    have W := I.1.2.2.1
    have hnn := W.1.2.2.2
    have hQ := I.1.2.1
    have e1 := N.1.2.1
    have e2 := N.1.2.2.1
    have e3 := N.1.2.2.2
    obtain ⟨⟨qv, k4, i0, -⟩, pg⟩ := p1
    rw [List.foldl_cons]
    cases ez : isP x false with
    | false =>
      rw [ez, bI_f] at ek
      have hk : wP w T S x = S := by
        unfold wP
        unfold isP at ez
        cases eq : x.2.2.2.2 with
        | none => rfl
        | some q =>
          rw [eq] at ez
          simp only
          rw [if_neg]
          intro z
          simp [z.1, z.2.1] at ez
      rw [hk]
      obtain ⟨h', l', e', E, r1, r2, r3⟩ := ih (hR h 5 v) h l e S I N hs2 hin'
      refine ⟨h', l', e', ?_, r1, r2, r3⟩
      rw [← E, e_X10_addWanted_5]
      simp (decide := true) (disch := omega) only [e_X10_addWanted_0, e_X10_addWanted_1, e_X10_addWanted_4, e_X10_addWanted_6, e_X10_addWanted_9, e_X10_addWanted_10, e_X10_addWanted_13, e_X10_addWanted_16, e_X10_addWanted_17, e_X10_addWanted_20, e_X10_addWanted_21, e_X10_addWanted_24, e_X10_addWanted_25, e_X10_addWanted_28, e_X10_addWanted_29, e_X10_addWanted_32, e_X10_addWanted_33, e_X10_addWanted_36, e_X10_addWanted_37, e_X10_addWanted_40, e_X10_addWanted_43, e_X10_addWanted_44, e_X10_addWanted_47, e_X10_addWanted_48, e_X10_addWanted_51, ↓reduceIte, if_true, if_false, reduceCtorEq, Nat.reduceAdd, true_and, and_true, false_and, and_false, true_or, or_true, false_or, or_false, not_true_eq_false, not_false_eq_true, Option.bind_eq_bind, Option.bind_some, psh, eq_self, l_0, l_1, l_2, l_3, l_4, l_5, l_6, l_7, l_8, l_9, l_10, l_11, l_12, l_13, l_14, l_15, l_16, l_17, l_18, l_19, l_20, l_24, l_31, l_32, l_33, l_35, l_36, l_48, l_56, l_57, l_58, l_63, l_65, l_80, l_81, l_90, l_91, l_93, l_94, l_95, l_97, l_100, l_105, l_107, l_110, l_111, l_116, l_120, l_121, l_122, l_123, l_124, l_125, l_126, l_162, l_255, l_300, l_400, l_420, l_432, l_1000, l_1400, l_1936, l_2000, l_2100, l_2400, l_24000, m_n1, m_n2, m_n3, nI_mul, nI_add, nI_sub, nI_ltT, nI_ltF, nI_leT, nI_leF, nI_eqT, nI_eqF, nI_nM, nM_nI, nM_eq, nM_lt, nM_le, nI_ltM, nI_leM, nI_inT, nI_dec, pk_rem, nI_ltI, nI_leI, nI_eq, nI_clamp, Nat.add_assoc, q_bv51, Nat.add_left_cancel_iff, clK_0 d, clK_1 d, clK_3 d, clK_5 d, clK_7 d, clK_8 d, clK_9 d, clK_11 d, clK_12 d, clK_13 d, clK_14 d, clK_15 d, clK_16 d, clK_18 d, clK_20 d, clK_21 d, clK_22 d, clK_23 d, clK_24 d, clK_25 d, clK_26 d, clR_0_0 d, clR_1_0 d, clR_2_0 d, clR_3_0 d, clR_7_0 d, clR_8_0 d, clR_9_0 d, clR_10_0 d, clR_11_0 d, clR_0_8 d, clR_0_11 d, clR_1_11 d, clR_2_11 d, clR_0_15 d, clR_1_15 d, clR_2_15 d, clR_3_15 d, clR_4_15 d, clR_5_15 d, clR_0_23 d, clR_1_23 d, clR_0_25 d, clL_7 d, clL_12 d, clL_13 d, clL_14 d, clL_20 d, clL_21 d, clL_22 d, clL_24 d, clS_0 d, clS_1 d, clS_2 d, clS_3 d, reduceCtorEq, k4, ek]
    | true =>
      rw [ez, bI_t] at ek
      unfold isP at ez
      cases eq : x.2.2.2.2 with
      | none => rw [eq] at ez; simp at ez
      | some q =>
        rw [eq] at ez pg
        simp only [Bool.and_eq_true, decide_eq_true_eq, beq_iff_eq] at ez
        obtain ⟨b, b1, b2, b3⟩ := pg
        have ep := w_pageOf (g := g) d W b3 hT
        cases epp : pof w.2.1 w.2.2.2 w.2.2.1 q T with
        | some p =>
          have hp := (pof_lt epp).1
          rw [epp, oN] at ep
          have hk : wP w T S x = S := by
            unfold wP
            rw [eq]
            simp only
            rw [if_neg]
            intro z
            rw [z.2.2] at epp
            cases epp
          rw [hk]
          obtain ⟨h', l', e', E, r1, r2, r3⟩ := ih (hR h 5 v) h l e S I N hs2 hin'
          refine ⟨h', l', e', ?_, r1, r2, r3⟩
          rw [← E, e_X10_addWanted_5]
          simp (decide := true) (disch := omega) only [e_X10_addWanted_0, e_X10_addWanted_1, e_X10_addWanted_4, e_X10_addWanted_6, e_X10_addWanted_9, e_X10_addWanted_10, e_X10_addWanted_13, e_X10_addWanted_16, e_X10_addWanted_17, e_X10_addWanted_20, e_X10_addWanted_21, e_X10_addWanted_24, e_X10_addWanted_25, e_X10_addWanted_28, e_X10_addWanted_29, e_X10_addWanted_32, e_X10_addWanted_33, e_X10_addWanted_36, e_X10_addWanted_37, e_X10_addWanted_40, e_X10_addWanted_43, e_X10_addWanted_44, e_X10_addWanted_47, e_X10_addWanted_48, e_X10_addWanted_51, ↓reduceIte, if_true, if_false, reduceCtorEq, Nat.reduceAdd, true_and, and_true, false_and, and_false, true_or, or_true, false_or, or_false, not_true_eq_false, not_false_eq_true, Option.bind_eq_bind, Option.bind_some, psh, eq_self, l_0, l_1, l_2, l_3, l_4, l_5, l_6, l_7, l_8, l_9, l_10, l_11, l_12, l_13, l_14, l_15, l_16, l_17, l_18, l_19, l_20, l_24, l_31, l_32, l_33, l_35, l_36, l_48, l_56, l_57, l_58, l_63, l_65, l_80, l_81, l_90, l_91, l_93, l_94, l_95, l_97, l_100, l_105, l_107, l_110, l_111, l_116, l_120, l_121, l_122, l_123, l_124, l_125, l_126, l_162, l_255, l_300, l_400, l_420, l_432, l_1000, l_1400, l_1936, l_2000, l_2100, l_2400, l_24000, m_n1, m_n2, m_n3, nI_mul, nI_add, nI_sub, nI_ltT, nI_ltF, nI_leT, nI_leF, nI_eqT, nI_eqF, nI_nM, nM_nI, nM_eq, nM_lt, nM_le, nI_ltM, nI_leM, nI_inT, nI_dec, pk_rem, nI_ltI, nI_leI, nI_eq, nI_clamp, Nat.add_assoc, q_bv51, Nat.add_left_cancel_iff, clK_0 d, clK_1 d, clK_3 d, clK_5 d, clK_7 d, clK_8 d, clK_9 d, clK_11 d, clK_12 d, clK_13 d, clK_14 d, clK_15 d, clK_16 d, clK_18 d, clK_20 d, clK_21 d, clK_22 d, clK_23 d, clK_24 d, clK_25 d, clK_26 d, clR_0_0 d, clR_1_0 d, clR_2_0 d, clR_3_0 d, clR_7_0 d, clR_8_0 d, clR_9_0 d, clR_10_0 d, clR_11_0 d, clR_0_8 d, clR_0_11 d, clR_1_11 d, clR_2_11 d, clR_0_15 d, clR_1_15 d, clR_2_15 d, clR_3_15 d, clR_4_15 d, clR_5_15 d, clR_0_23 d, clR_1_23 d, clR_0_25 d, clL_7 d, clL_12 d, clL_13 d, clL_14 d, clL_20 d, clL_21 d, clL_22 d, clL_24 d, clS_0 d, clS_1 d, clS_2 d, clS_3 d, reduceCtorEq, k4, ek, b1, ep]
        | none =>
          rw [epp, oN] at ep
          have hk : wP w T S x = cAd 0 S q := by
            unfold wP
            rw [eq]
            simp only
            rw [if_pos ⟨ez.1, ez.2, epp⟩]
          rw [hk]
          obtain ⟨h1, l1', e1', E1, o1, N1⟩ := l_add (g := g) d hQ N b2 b3
          have s1 := o1.1
          have I1 := I.kp s1 ⟨e1, e3⟩
          have hP := lP_Q hQ e1
          obtain ⟨h', l', e', E, r1, r2, r3⟩ := ih (hR h1 5 v) h1 l1' e1' (cAd 0 S q) I1 N1 (by
            rw [((s1.1.2.2 v (hQ v qv).2).2.2 (hP v qv)).2.1]
            exact sgm.keep s1.1 (fun x hx => ⟨(hQ x hx).2, hP x hx, hx⟩) hs2) hin'
          have k4' : hK h1 v = 4 := by rw [(s1.1.2.2 v (hQ v qv).2).1]; exact k4
          refine ⟨h', l', e', ?_, o1.tr r1 e2, r2, r3⟩
          rw [← E, e_X10_addWanted_5]
          simp (decide := true) (disch := omega) only [e_X10_addWanted_0, e_X10_addWanted_1, e_X10_addWanted_4, e_X10_addWanted_6, e_X10_addWanted_9, e_X10_addWanted_10, e_X10_addWanted_13, e_X10_addWanted_16, e_X10_addWanted_17, e_X10_addWanted_20, e_X10_addWanted_21, e_X10_addWanted_24, e_X10_addWanted_25, e_X10_addWanted_28, e_X10_addWanted_29, e_X10_addWanted_32, e_X10_addWanted_33, e_X10_addWanted_36, e_X10_addWanted_37, e_X10_addWanted_40, e_X10_addWanted_43, e_X10_addWanted_44, e_X10_addWanted_47, e_X10_addWanted_48, e_X10_addWanted_51, ↓reduceIte, if_true, if_false, reduceCtorEq, Nat.reduceAdd, true_and, and_true, false_and, and_false, true_or, or_true, false_or, or_false, not_true_eq_false, not_false_eq_true, Option.bind_eq_bind, Option.bind_some, psh, eq_self, l_0, l_1, l_2, l_3, l_4, l_5, l_6, l_7, l_8, l_9, l_10, l_11, l_12, l_13, l_14, l_15, l_16, l_17, l_18, l_19, l_20, l_24, l_31, l_32, l_33, l_35, l_36, l_48, l_56, l_57, l_58, l_63, l_65, l_80, l_81, l_90, l_91, l_93, l_94, l_95, l_97, l_100, l_105, l_107, l_110, l_111, l_116, l_120, l_121, l_122, l_123, l_124, l_125, l_126, l_162, l_255, l_300, l_400, l_420, l_432, l_1000, l_1400, l_1936, l_2000, l_2100, l_2400, l_24000, m_n1, m_n2, m_n3, nI_mul, nI_add, nI_sub, nI_ltT, nI_ltF, nI_leT, nI_leF, nI_eqT, nI_eqF, nI_nM, nM_nI, nM_eq, nM_lt, nM_le, nI_ltM, nI_leM, nI_inT, nI_dec, pk_rem, nI_ltI, nI_leI, nI_eq, nI_clamp, Nat.add_assoc, q_bv51, Nat.add_left_cancel_iff, clK_0 d, clK_1 d, clK_3 d, clK_5 d, clK_7 d, clK_8 d, clK_9 d, clK_11 d, clK_12 d, clK_13 d, clK_14 d, clK_15 d, clK_16 d, clK_18 d, clK_20 d, clK_21 d, clK_22 d, clK_23 d, clK_24 d, clK_25 d, clK_26 d, clR_0_0 d, clR_1_0 d, clR_2_0 d, clR_3_0 d, clR_7_0 d, clR_8_0 d, clR_9_0 d, clR_10_0 d, clR_11_0 d, clR_0_8 d, clR_0_11 d, clR_1_11 d, clR_2_11 d, clR_0_15 d, clR_1_15 d, clR_2_15 d, clR_3_15 d, clR_4_15 d, clR_5_15 d, clR_0_23 d, clR_1_23 d, clR_0_25 d, clL_7 d, clL_12 d, clL_13 d, clL_14 d, clL_20 d, clL_21 d, clL_22 d, clL_24 d, clS_0 d, clS_1 d, clS_2 d, clS_3 d, reduceCtorEq, k4, ek, b1, ep, E1, k4']
theorem c_addWanted {e bs b T : Nat} {h : PH} {l t : List Nat} {L : List Nm} (hT : T ≤ w.1) (I : cIl Q h X tp ou fo hd a w) (N : nls Q h X l e L 0 bs) (Tx : txt Q h b t) :
    ∃ h' l' e', cal g mX10_addWanted [va_rf (some X), va_rf (some b), .int (nI T)] h = some (none, h') ∧ lOK X e e' h h' ∧ cIl Q h' X tp ou fo hd a w ∧ nls Q h' X l' e' ((ptl t).foldl (wP w T) (L, bs)).1 0 ((ptl t).foldl (wP w T) (L, bs)).2 := by
  obtain ⟨⟨-, k8⟩, -, T1, -⟩ := Tx
  obtain ⟨h', l', e', E, r⟩ := c_addWanted_loop (g := g) (t := t) (l1 := some (va_rf (some b))) hT (ptl t) (hR h 1 b) h l e (L, bs) I N T1 (fun x hx => hx)
  refine ⟨h', l', e', ?_, r⟩
  rw [n_X10_addWanted, ← E]
  simp (decide := true) (disch := omega) only [e_X10_addWanted_0, e_X10_addWanted_1, e_X10_addWanted_4, ↓reduceIte, if_true, if_false, reduceCtorEq, Nat.reduceAdd, true_and, and_true, false_and, and_false, true_or, or_true, false_or, or_false, not_true_eq_false, not_false_eq_true, Option.bind_eq_bind, Option.bind_some, psh, eq_self, l_0, l_1, l_2, l_3, l_4, l_5, l_6, l_7, l_8, l_9, l_10, l_11, l_12, l_13, l_14, l_15, l_16, l_17, l_18, l_19, l_20, l_24, l_31, l_32, l_33, l_35, l_36, l_48, l_56, l_57, l_58, l_63, l_65, l_80, l_81, l_90, l_91, l_93, l_94, l_95, l_97, l_100, l_105, l_107, l_110, l_111, l_116, l_120, l_121, l_122, l_123, l_124, l_125, l_126, l_162, l_255, l_300, l_400, l_420, l_432, l_1000, l_1400, l_1936, l_2000, l_2100, l_2400, l_24000, m_n1, m_n2, m_n3, nI_mul, nI_add, nI_sub, nI_ltT, nI_ltF, nI_leT, nI_leF, nI_eqT, nI_eqF, nI_nM, nM_nI, nM_eq, nM_lt, nM_le, nI_ltM, nI_leM, nI_inT, nI_dec, pk_rem, nI_ltI, nI_leI, nI_eq, nI_clamp, Nat.add_assoc, q_bv51, Nat.add_left_cancel_iff, k8]
end
