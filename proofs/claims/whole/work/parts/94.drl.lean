/-! PageWeb: isMovedTo, hasLinkTo, draftMoved, draftRelinked -/
section
variable {g X : Nat} {Q : Nat → Prop} {h : PH} {tp ou fo : List Nat} {hd : Option Nm} {a : Option Nat} {w : Wd}
theorem c_isMovedTo {b u : Nat} {t : List Nat} {q : Nm} (T : txt Q h b t) (hq : nm_ h u q.1 q.2) : cal g mX8_isMovedTo [va_rf (some b), va_rf (some u)] h = some (some (.int (bI (decide (mvd t = some q)))), h) := by
  rw [n_X8_isMovedTo]
  obtain ⟨⟨-, k8⟩, -, -, mv⟩ := T
  cases em : mvd t with
  | none =>
    rw [em] at mv
    have mv' : hR h 3 b = none := mv
    simp (decide := true) (disch := omega) only [e_X8_isMovedTo_0, e_X8_isMovedTo_1, e_X8_isMovedTo_4, e_X8_isMovedTo_7, e_X8_isMovedTo_8, e_X8_isMovedTo_11, e_X8_isMovedTo_12, e_X8_isMovedTo_15, e_X8_isMovedTo_18, e_X8_isMovedTo_19, e_X8_isMovedTo_22, e_X8_isMovedTo_23, ↓reduceIte, if_true, if_false, reduceCtorEq, Nat.reduceAdd, true_and, and_true, false_and, and_false, true_or, or_true, false_or, or_false, not_true_eq_false, not_false_eq_true, Option.bind_eq_bind, Option.bind_some, psh, eq_self, l_0, l_1, l_2, l_3, l_4, l_5, l_6, l_7, l_8, l_9, l_10, l_11, l_12, l_13, l_14, l_15, l_16, l_17, l_18, l_19, l_20, l_24, l_31, l_32, l_33, l_35, l_36, l_48, l_56, l_57, l_58, l_63, l_65, l_80, l_81, l_90, l_91, l_93, l_94, l_95, l_97, l_100, l_105, l_107, l_110, l_111, l_116, l_120, l_121, l_122, l_123, l_124, l_125, l_126, l_162, l_255, l_300, l_400, l_420, l_432, l_1000, l_1400, l_1936, l_2000, l_2100, l_2400, l_24000, m_n1, m_n2, m_n3, nI_mul, nI_add, nI_sub, nI_ltT, nI_ltF, nI_leT, nI_leF, nI_eqT, nI_eqF, nI_nM, nM_nI, nM_eq, nM_lt, nM_le, nI_ltM, nI_leM, nI_inT, nI_dec, pk_rem, nI_ltI, nI_leI, nI_eq, nI_clamp, Nat.add_assoc, q_bv51, Nat.add_left_cancel_iff, k8, mv']
    simp [bI]
  | some q' =>
    rw [em] at mv
    obtain ⟨v, v1, v2, v3⟩ := mv
    have es := n_same (g := g) v3 hq
    have k2 := v3.1
    by_cases c : q' = q
    · rw [if_pos (by rw [c]; exact ⟨rfl, rfl⟩)] at es
      simp (decide := true) (disch := omega) only [e_X8_isMovedTo_0, e_X8_isMovedTo_1, e_X8_isMovedTo_4, e_X8_isMovedTo_7, e_X8_isMovedTo_8, e_X8_isMovedTo_11, e_X8_isMovedTo_12, e_X8_isMovedTo_15, e_X8_isMovedTo_18, e_X8_isMovedTo_19, e_X8_isMovedTo_22, e_X8_isMovedTo_23, ↓reduceIte, if_true, if_false, reduceCtorEq, Nat.reduceAdd, true_and, and_true, false_and, and_false, true_or, or_true, false_or, or_false, not_true_eq_false, not_false_eq_true, Option.bind_eq_bind, Option.bind_some, psh, eq_self, l_0, l_1, l_2, l_3, l_4, l_5, l_6, l_7, l_8, l_9, l_10, l_11, l_12, l_13, l_14, l_15, l_16, l_17, l_18, l_19, l_20, l_24, l_31, l_32, l_33, l_35, l_36, l_48, l_56, l_57, l_58, l_63, l_65, l_80, l_81, l_90, l_91, l_93, l_94, l_95, l_97, l_100, l_105, l_107, l_110, l_111, l_116, l_120, l_121, l_122, l_123, l_124, l_125, l_126, l_162, l_255, l_300, l_400, l_420, l_432, l_1000, l_1400, l_1936, l_2000, l_2100, l_2400, l_24000, m_n1, m_n2, m_n3, nI_mul, nI_add, nI_sub, nI_ltT, nI_ltF, nI_leT, nI_leF, nI_eqT, nI_eqF, nI_nM, nM_nI, nM_eq, nM_lt, nM_le, nI_ltM, nI_leM, nI_inT, nI_dec, pk_rem, nI_ltI, nI_leI, nI_eq, nI_clamp, Nat.add_assoc, q_bv51, Nat.add_left_cancel_iff, k8, v1, reduceCtorEq, k2, es]
      simp [c, bI]
    · rw [if_neg (fun z => c (Prod.ext z.1 z.2))] at es
      simp (decide := true) (disch := omega) only [e_X8_isMovedTo_0, e_X8_isMovedTo_1, e_X8_isMovedTo_4, e_X8_isMovedTo_7, e_X8_isMovedTo_8, e_X8_isMovedTo_11, e_X8_isMovedTo_12, e_X8_isMovedTo_15, e_X8_isMovedTo_18, e_X8_isMovedTo_19, e_X8_isMovedTo_22, e_X8_isMovedTo_23, ↓reduceIte, if_true, if_false, reduceCtorEq, Nat.reduceAdd, true_and, and_true, false_and, and_false, true_or, or_true, false_or, or_false, not_true_eq_false, not_false_eq_true, Option.bind_eq_bind, Option.bind_some, psh, eq_self, l_0, l_1, l_2, l_3, l_4, l_5, l_6, l_7, l_8, l_9, l_10, l_11, l_12, l_13, l_14, l_15, l_16, l_17, l_18, l_19, l_20, l_24, l_31, l_32, l_33, l_35, l_36, l_48, l_56, l_57, l_58, l_63, l_65, l_80, l_81, l_90, l_91, l_93, l_94, l_95, l_97, l_100, l_105, l_107, l_110, l_111, l_116, l_120, l_121, l_122, l_123, l_124, l_125, l_126, l_162, l_255, l_300, l_400, l_420, l_432, l_1000, l_1400, l_1936, l_2000, l_2100, l_2400, l_24000, m_n1, m_n2, m_n3, nI_mul, nI_add, nI_sub, nI_ltT, nI_ltF, nI_leT, nI_leF, nI_eqT, nI_eqF, nI_nM, nM_nI, nM_eq, nM_lt, nM_le, nI_ltM, nI_leM, nI_inT, nI_dec, pk_rem, nI_ltI, nI_leI, nI_eq, nI_clamp, Nat.add_assoc, q_bv51, Nat.add_left_cancel_iff, k8, v1, reduceCtorEq, k2, es]
      simp [c, bI]
theorem exq_any {p : Tk → Bool} {es : List Pt} : (es.flatMap exq).any p = es.any (fun e => (exq e).any p) := by
  induction es with
  | nil => rfl
  | cons e es ih => rw [List.flatMap_cons, List.any_append, ih, List.any_cons]
theorem isL_any {t : List Nat} {q : Nm} {e : Pt} (he : e ∈ ptl t) : (exq e).any (rlkh q) = isL e q := by
  have so := ptl_sort he
  by_cases c : e.1 = 2
  · have e3 := so.2.2.2.2.2 c
    unfold exq isL
    rw [e3]
    have : ∀ l : List Nat, (l.map (fun k => ((k, none) : Tk))).any (rlkh q) = false := by
      intro l
      induction l with
      | nil => rfl
      | cons x l ih => rw [List.map_cons, List.any_cons, ih]; rfl
    rw [this]
    symm
    exact decide_eq_false (fun z => by cases z.2)
  · obtain ⟨-, s, j, b, q', et, e2⟩ := so.2.2.2.2.1 c
    have tl := tok_len et
    rw [e2]
    unfold exq isL
    simp only [List.any_cons, List.any_nil, Bool.or_false, rlkh]
    apply decide_eq_decide.mpr
    constructor
    · rintro ⟨z1, z2⟩; exact ⟨by omega, by rw [z2]⟩
    · rintro ⟨z1, z2⟩; cases z2; exact ⟨by omega, rfl⟩
theorem rlH_ptl {t : List Nat} {q : Nm} : rlH q t = (ptl t).any (fun e => isL e q) := by
  unfold rlH
  rw [← ptl_flat, exq_any]
  have : ∀ es : List Pt, (∀ e ∈ es, e ∈ ptl t) → es.any (fun e => (exq e).any (rlkh q)) = es.any (fun e => isL e q) := by
    intro es
    induction es with
    | nil => intro _; rfl
    | cons e es ih =>
      intro hin
      rw [List.any_cons, List.any_cons, isL_any (hin e List.mem_cons_self), ih (fun x hx => hin x (List.mem_cons_of_mem _ hx))]
  exact this _ (fun e he => he)
theorem c_hasLinkTo {b u : Nat} {t : List Nat} {q : Nm} (T : txt Q h b t) (hq : nm_ h u q.1 q.2) : cal g mX8_hasLinkTo [va_rf (some b), va_rf (some u)] h = some (some (.int (bI (rlH q t))), h) := by
  rw [n_X8_hasLinkTo, rlH_ptl]
  obtain ⟨⟨-, k8⟩, -, T1, -⟩ := T
  have key : ∀ (es : List Pt) (r : Option Nat), sgm Q h r es none → (∀ e ∈ es, e ∈ ptl t) → ev g mX8_hasLinkTo 5 [some (va_rf (some b)), some (va_rf (some u)), some (va_rf r)] [] h = some (some (.int (bI (es.any (fun e => isL e q)))), h) := by
    intro es
    induction es with
    | nil =>
      intro r hs _
      have : r = none := hs
      subst this
      rw [e_X8_hasLinkTo_5]
      simp (decide := true) (disch := omega) only [e_X8_hasLinkTo_0, e_X8_hasLinkTo_1, e_X8_hasLinkTo_4, e_X8_hasLinkTo_6, e_X8_hasLinkTo_9, e_X8_hasLinkTo_10, e_X8_hasLinkTo_11, e_X8_hasLinkTo_14, e_X8_hasLinkTo_17, e_X8_hasLinkTo_18, e_X8_hasLinkTo_19, e_X8_hasLinkTo_20, e_X8_hasLinkTo_23, e_X8_hasLinkTo_24, e_X8_hasLinkTo_27, e_X8_hasLinkTo_28, ↓reduceIte, if_true, if_false, reduceCtorEq, Nat.reduceAdd, true_and, and_true, false_and, and_false, true_or, or_true, false_or, or_false, not_true_eq_false, not_false_eq_true, Option.bind_eq_bind, Option.bind_some, psh, eq_self, l_0, l_1, l_2, l_3, l_4, l_5, l_6, l_7, l_8, l_9, l_10, l_11, l_12, l_13, l_14, l_15, l_16, l_17, l_18, l_19, l_20, l_24, l_31, l_32, l_33, l_35, l_36, l_48, l_56, l_57, l_58, l_63, l_65, l_80, l_81, l_90, l_91, l_93, l_94, l_95, l_97, l_100, l_105, l_107, l_110, l_111, l_116, l_120, l_121, l_122, l_123, l_124, l_125, l_126, l_162, l_255, l_300, l_400, l_420, l_432, l_1000, l_1400, l_1936, l_2000, l_2100, l_2400, l_24000, m_n1, m_n2, m_n3, nI_mul, nI_add, nI_sub, nI_ltT, nI_ltF, nI_leT, nI_leF, nI_eqT, nI_eqF, nI_nM, nM_nI, nM_eq, nM_lt, nM_le, nI_ltM, nI_leM, nI_inT, nI_dec, pk_rem, nI_ltI, nI_leI, nI_eq, nI_clamp, Nat.add_assoc, q_bv51, Nat.add_left_cancel_iff]
      rfl
    | cons e es ih =>
      intro r hs hin
      obtain ⟨v, rfl, p1, hs2⟩ := hs
      have so := ptl_sort (hin e List.mem_cons_self)
      have ep := p_isLinkTo (g := g) p1 so.1 hq
      have k4 := p1.1.2.1
      rw [e_X8_hasLinkTo_5, List.any_cons]
      cases ei : isL e q with
      | true =>
        rw [ei, bI_t] at ep
        rw [Bool.true_or]
        simp (decide := true) (disch := omega) only [e_X8_hasLinkTo_0, e_X8_hasLinkTo_1, e_X8_hasLinkTo_4, e_X8_hasLinkTo_6, e_X8_hasLinkTo_9, e_X8_hasLinkTo_10, e_X8_hasLinkTo_11, e_X8_hasLinkTo_14, e_X8_hasLinkTo_17, e_X8_hasLinkTo_18, e_X8_hasLinkTo_19, e_X8_hasLinkTo_20, e_X8_hasLinkTo_23, e_X8_hasLinkTo_24, e_X8_hasLinkTo_27, e_X8_hasLinkTo_28, ↓reduceIte, if_true, if_false, reduceCtorEq, Nat.reduceAdd, true_and, and_true, false_and, and_false, true_or, or_true, false_or, or_false, not_true_eq_false, not_false_eq_true, Option.bind_eq_bind, Option.bind_some, psh, eq_self, l_0, l_1, l_2, l_3, l_4, l_5, l_6, l_7, l_8, l_9, l_10, l_11, l_12, l_13, l_14, l_15, l_16, l_17, l_18, l_19, l_20, l_24, l_31, l_32, l_33, l_35, l_36, l_48, l_56, l_57, l_58, l_63, l_65, l_80, l_81, l_90, l_91, l_93, l_94, l_95, l_97, l_100, l_105, l_107, l_110, l_111, l_116, l_120, l_121, l_122, l_123, l_124, l_125, l_126, l_162, l_255, l_300, l_400, l_420, l_432, l_1000, l_1400, l_1936, l_2000, l_2100, l_2400, l_24000, m_n1, m_n2, m_n3, nI_mul, nI_add, nI_sub, nI_ltT, nI_ltF, nI_leT, nI_leF, nI_eqT, nI_eqF, nI_nM, nM_nI, nM_eq, nM_lt, nM_le, nI_ltM, nI_leM, nI_inT, nI_dec, pk_rem, nI_ltI, nI_leI, nI_eq, nI_clamp, Nat.add_assoc, q_bv51, Nat.add_left_cancel_iff, reduceCtorEq, k4, ep]
        rfl
      | false =>
        rw [ei, bI_f] at ep
        rw [Bool.false_or, ← ih (hR h 5 v) hs2 (fun x hx => hin x (List.mem_cons_of_mem _ hx))]
        simp (decide := true) (disch := omega) only [e_X8_hasLinkTo_0, e_X8_hasLinkTo_1, e_X8_hasLinkTo_4, e_X8_hasLinkTo_6, e_X8_hasLinkTo_9, e_X8_hasLinkTo_10, e_X8_hasLinkTo_11, e_X8_hasLinkTo_14, e_X8_hasLinkTo_17, e_X8_hasLinkTo_18, e_X8_hasLinkTo_19, e_X8_hasLinkTo_20, e_X8_hasLinkTo_23, e_X8_hasLinkTo_24, e_X8_hasLinkTo_27, e_X8_hasLinkTo_28, ↓reduceIte, if_true, if_false, reduceCtorEq, Nat.reduceAdd, true_and, and_true, false_and, and_false, true_or, or_true, false_or, or_false, not_true_eq_false, not_false_eq_true, Option.bind_eq_bind, Option.bind_some, psh, eq_self, l_0, l_1, l_2, l_3, l_4, l_5, l_6, l_7, l_8, l_9, l_10, l_11, l_12, l_13, l_14, l_15, l_16, l_17, l_18, l_19, l_20, l_24, l_31, l_32, l_33, l_35, l_36, l_48, l_56, l_57, l_58, l_63, l_65, l_80, l_81, l_90, l_91, l_93, l_94, l_95, l_97, l_100, l_105, l_107, l_110, l_111, l_116, l_120, l_121, l_122, l_123, l_124, l_125, l_126, l_162, l_255, l_300, l_400, l_420, l_432, l_1000, l_1400, l_1936, l_2000, l_2100, l_2400, l_24000, m_n1, m_n2, m_n3, nI_mul, nI_add, nI_sub, nI_ltT, nI_ltF, nI_leT, nI_leF, nI_eqT, nI_eqF, nI_nM, nM_nI, nM_eq, nM_lt, nM_le, nI_ltM, nI_leM, nI_inT, nI_dec, pk_rem, nI_ltI, nI_leI, nI_eq, nI_clamp, Nat.add_assoc, q_bv51, Nat.add_left_cancel_iff, reduceCtorEq, k4, ep]
  rw [← key (ptl t) (hR h 1 b) T1 (fun e he => he)]
  simp (decide := true) (disch := omega) only [e_X8_hasLinkTo_0, e_X8_hasLinkTo_1, e_X8_hasLinkTo_4, e_X8_hasLinkTo_6, e_X8_hasLinkTo_9, e_X8_hasLinkTo_10, e_X8_hasLinkTo_11, e_X8_hasLinkTo_14, e_X8_hasLinkTo_17, e_X8_hasLinkTo_18, e_X8_hasLinkTo_19, e_X8_hasLinkTo_20, e_X8_hasLinkTo_23, e_X8_hasLinkTo_24, e_X8_hasLinkTo_27, e_X8_hasLinkTo_28, ↓reduceIte, if_true, if_false, reduceCtorEq, Nat.reduceAdd, true_and, and_true, false_and, and_false, true_or, or_true, false_or, or_false, not_true_eq_false, not_false_eq_true, Option.bind_eq_bind, Option.bind_some, psh, eq_self, l_0, l_1, l_2, l_3, l_4, l_5, l_6, l_7, l_8, l_9, l_10, l_11, l_12, l_13, l_14, l_15, l_16, l_17, l_18, l_19, l_20, l_24, l_31, l_32, l_33, l_35, l_36, l_48, l_56, l_57, l_58, l_63, l_65, l_80, l_81, l_90, l_91, l_93, l_94, l_95, l_97, l_100, l_105, l_107, l_110, l_111, l_116, l_120, l_121, l_122, l_123, l_124, l_125, l_126, l_162, l_255, l_300, l_400, l_420, l_432, l_1000, l_1400, l_1936, l_2000, l_2100, l_2400, l_24000, m_n1, m_n2, m_n3, nI_mul, nI_add, nI_sub, nI_ltT, nI_ltF, nI_leT, nI_leF, nI_eqT, nI_eqF, nI_nM, nM_nI, nM_eq, nM_lt, nM_le, nI_ltM, nI_leM, nI_inT, nI_dec, pk_rem, nI_ltI, nI_leI, nI_eq, nI_clamp, Nat.add_assoc, q_bv51, Nat.add_left_cancel_iff, k8]
theorem pls_pos {x l : List Nat} {o : Int32} (hx : x.length ≤ 300) : (x.length + l.length ≤ 300 → pls x l 300 = x ++ l ∧ pos x l 300 o = o) ∧ (300 < x.length + l.length → pos x l 300 o = 1) := by
  refine ⟨fun h => ⟨?_, if_pos h⟩, fun h => if_neg (by omega)⟩
  unfold pls
  rw [List.take_of_length_le (by omega)]
/-- bytes put one by one into the draft -/
theorem drw_pls {h' : PH} {s : Option (List Nat)} {x l : List Nat} {o : Int32} (D : drw h X s) (hs : ∀ x', s = some x' → x = x') (r : rw_ h (X + 5) (X + 6) 300 300 x o) (r' : rw_ h' (X + 5) (X + 6) 300 300 (pls x l 300) (pos x l 300 o)) (eo : o = drO s) : drw h' X (dr2 s l) := by
  have hx := r.2.2.1.1
  have pp := pls_pos (x := x) (l := l) (o := o) hx
  cases s with
  | none =>
    show ∃ l, rw_ h' (X + 5) (X + 6) 300 300 l 1
    have e1 : o = 1 := eo
    have : pos x l 300 o = 1 := by
      rw [e1]
      unfold pos
      split <;> rfl
    rw [this] at r'
    exact ⟨_, r'⟩
  | some x' =>
    have e1 := hs x' rfl
    subst e1
    have e2 : o = 0 := eo
    unfold dr2
    simp only
    by_cases c : x.length + l.length ≤ 300
    · rw [if_pos c]
      rw [(pp.1 c).1, (pp.1 c).2, e2] at r'
      exact r'
    · rw [if_neg c]
      rw [pp.2 (by omega)] at r'
      exact ⟨_, r'⟩
theorem drw.ex {s : Option (List Nat)} (D : drw h X s) : ∃ x o, rw_ h (X + 5) (X + 6) 300 300 x o ∧ o = drO s ∧ ∀ x', s = some x' → x = x' := by
  cases s with
  | none => obtain ⟨l, r⟩ := D; exact ⟨l, 1, r, rfl, fun x' z => by cases z⟩
  | some l => exact ⟨l, 0, D, rfl, fun x' z => by cases z; rfl⟩
theorem d_putText {k ta : Nat} {s : Option (List Nat)} (D : drw h X s) (hk : k < 4) (ht : hK h ta = 70 + k) (hlt : ta < hN h) :
    ∃ h', cal g mX6_putText [va_rf (some (X + 5)), va_rf (some ta)] h = some (none, h') ∧ sm (rP (X + 5) (X + 6)) h h' ∧ hN h' = hN h ∧ hU h' = hU h ∧ drw h' X (dr2 s (q_tx k)) := by
  obtain ⟨x, o, r, eo, hs⟩ := D.ex
  obtain ⟨h1, e1, r1, s1, n1, u1⟩ := r_putText (g := g) r hk ht hlt
  exact ⟨h1, e1, s1, n1, u1, drw_pls D hs r r1 eo⟩
theorem d_writeTo {u : Nat} {q : Nm} {s : Option (List Nat)} (D : drw h X s) (hq : nm_ h u q.1 q.2) (hu : u < hN h) (ht : hK h (hS h 0) = 70) (hlt : hS h 0 < hN h) :
    ∃ h', cal g mX2_writeTo [va_rf (some u), va_rf (some (X + 5))] h = some (none, h') ∧ sm (rP (X + 5) (X + 6)) h h' ∧ hN h' = hN h ∧ hU h' = hU h ∧ drw h' X (dr2 s (nz q)) := by
  obtain ⟨x, o, r, eo, hs⟩ := D.ex
  obtain ⟨h1, e1, r1, s1, n1, u1⟩ := n_writeTo (g := g) hq r hu ht hlt
  exact ⟨h1, e1, s1, n1, u1, drw_pls D hs r r1 eo⟩
/-- a draft of a TEXT that is MOVED -/
theorem c_draftMoved {u : Nat} {q : Nm} (I : cI Q h X tp ou fo hd a w) (hu : Q u) (hq : nm_ h u q.1 q.2) :
    ∃ h', cal g mX10_draftMoved [va_rf (some X), va_rf (some u)] h = some (none, h') ∧ cfm X (rP (X + 5) (X + 6)) h h' ∧ hN h' = hN h ∧ hU h' = hU h ∧ drw h' X (some (mvT q)) ∧ cI Q h' X tp ou fo hd a w := by
  have d := I.1.1
  have hQ := I.1.2.1
  have ju := hQ u hu
  obtain ⟨h1, e1, s1, n1, u1, D1⟩ := d_cut (g := g) I.2.1.2.2.1
  obtain ⟨_, _, r1, -⟩ := D1.any
  obtain ⟨I1, -, c1⟩ := I.dr s1 r1
  have d1 := I1.1.1
  obtain ⟨h2, e2, s2, n2, u2, D2⟩ := d_putText (g := g) (k := 1) D1 (by decide) (clS_1 d1) (d1.S 1 (by decide))
  obtain ⟨_, _, r2, -⟩ := D2.any
  obtain ⟨I2, -, c2⟩ := I1.dr s2 r2
  have d2 := I2.1.1
  obtain ⟨h3, e3, s3, n3, u3, D3⟩ := d_putText (g := g) (k := 2) D2 (by decide) (clS_2 d2) (d2.S 2 (by decide))
  obtain ⟨_, _, r3, -⟩ := D3.any
  obtain ⟨I3, -, c3⟩ := I2.dr s3 r3
  have d3 := I3.1.1
  have s13 := (s1.tr s2).tr s3
  have hq3 := hq.keep s13 ju.2 (by unfold rP; omega)
  have k2 := hq3.1
  obtain ⟨h4, e4, s4, n4, u4, D4⟩ := d_writeTo (g := g) D3 hq3 (by omega) (clS_0 d3) (d3.S 0 (by decide))
  obtain ⟨_, _, r4, -⟩ := D4.any
  obtain ⟨I4, -, c4⟩ := I3.dr s4 r4
  have d4 := I4.1.1
  obtain ⟨h5, e5, s5, n5, u5, D5⟩ := d_putText (g := g) (k := 3) D4 (by decide) (clS_3 d4) (d4.S 3 (by decide))
  obtain ⟨_, _, r5, -⟩ := D5.any
  obtain ⟨I5, -, c5⟩ := I4.dr s5 r5
  rw [dr2_app, dr2_app, dr2_app] at D5
  have em : dr2 (some []) (q_tx 1 ++ (q_tx 2 ++ (nz q ++ q_tx 3))) = some (mvT q) := dr2_T (by
    have := mvT_len hq.2.2.2.2
    unfold mvT at this
    omega)
  have em' : q_tx 1 ++ (q_tx 2 ++ (nz q ++ q_tx 3)) = q_tx 1 ++ (q_tx 2 ++ (nz q ++ q_tx 3)) := rfl
  rw [em] at D5
  refine ⟨h5, ?_, (((c1.tr c2).tr c3).tr c4).tr c5, by omega, by omega, D5, I5⟩
  rw [n_X10_draftMoved]
  simp (decide := true) (disch := omega) only [e_X10_draftMoved_0, e_X10_draftMoved_1, e_X10_draftMoved_4, e_X10_draftMoved_5, e_X10_draftMoved_8, e_X10_draftMoved_9, e_X10_draftMoved_12, e_X10_draftMoved_15, e_X10_draftMoved_18, e_X10_draftMoved_19, e_X10_draftMoved_22, e_X10_draftMoved_25, e_X10_draftMoved_28, e_X10_draftMoved_29, e_X10_draftMoved_30, e_X10_draftMoved_33, e_X10_draftMoved_36, e_X10_draftMoved_37, e_X10_draftMoved_40, e_X10_draftMoved_43, e_X10_draftMoved_46, ↓reduceIte, if_true, if_false, reduceCtorEq, Nat.reduceAdd, true_and, and_true, false_and, and_false, true_or, or_true, false_or, or_false, not_true_eq_false, not_false_eq_true, Option.bind_eq_bind, Option.bind_some, psh, eq_self, l_0, l_1, l_2, l_3, l_4, l_5, l_6, l_7, l_8, l_9, l_10, l_11, l_12, l_13, l_14, l_15, l_16, l_17, l_18, l_19, l_20, l_24, l_31, l_32, l_33, l_35, l_36, l_48, l_56, l_57, l_58, l_63, l_65, l_80, l_81, l_90, l_91, l_93, l_94, l_95, l_97, l_100, l_105, l_107, l_110, l_111, l_116, l_120, l_121, l_122, l_123, l_124, l_125, l_126, l_162, l_255, l_300, l_400, l_420, l_432, l_1000, l_1400, l_1936, l_2000, l_2100, l_2400, l_24000, m_n1, m_n2, m_n3, nI_mul, nI_add, nI_sub, nI_ltT, nI_ltF, nI_leT, nI_leF, nI_eqT, nI_eqF, nI_nM, nM_nI, nM_eq, nM_lt, nM_le, nI_ltM, nI_leM, nI_inT, nI_dec, pk_rem, nI_ltI, nI_leI, nI_eq, nI_clamp, Nat.add_assoc, q_bv51, Nat.add_left_cancel_iff, clK_0 d, clK_1 d, clK_3 d, clK_5 d, clK_7 d, clK_8 d, clK_9 d, clK_11 d, clK_12 d, clK_13 d, clK_14 d, clK_15 d, clK_16 d, clK_18 d, clK_20 d, clK_21 d, clK_22 d, clK_23 d, clK_24 d, clK_25 d, clK_26 d, clR_0_0 d, clR_1_0 d, clR_2_0 d, clR_3_0 d, clR_7_0 d, clR_8_0 d, clR_9_0 d, clR_10_0 d, clR_11_0 d, clR_0_8 d, clR_0_11 d, clR_1_11 d, clR_2_11 d, clR_0_15 d, clR_1_15 d, clR_2_15 d, clR_3_15 d, clR_4_15 d, clR_5_15 d, clR_0_23 d, clR_1_23 d, clR_0_25 d, clL_7 d, clL_12 d, clL_13 d, clL_14 d, clL_20 d, clL_21 d, clL_22 d, clL_24 d, clS_0 d, clS_1 d, clS_2 d, clS_3 d, e1, clK_0 d1, clK_1 d1, clK_3 d1, clK_5 d1, clK_7 d1, clK_8 d1, clK_9 d1, clK_11 d1, clK_12 d1, clK_13 d1, clK_14 d1, clK_15 d1, clK_16 d1, clK_18 d1, clK_20 d1, clK_21 d1, clK_22 d1, clK_23 d1, clK_24 d1, clK_25 d1, clK_26 d1, clR_0_0 d1, clR_1_0 d1, clR_2_0 d1, clR_3_0 d1, clR_7_0 d1, clR_8_0 d1, clR_9_0 d1, clR_10_0 d1, clR_11_0 d1, clR_0_8 d1, clR_0_11 d1, clR_1_11 d1, clR_2_11 d1, clR_0_15 d1, clR_1_15 d1, clR_2_15 d1, clR_3_15 d1, clR_4_15 d1, clR_5_15 d1, clR_0_23 d1, clR_1_23 d1, clR_0_25 d1, clL_7 d1, clL_12 d1, clL_13 d1, clL_14 d1, clL_20 d1, clL_21 d1, clL_22 d1, clL_24 d1, clS_0 d1, clS_1 d1, clS_2 d1, clS_3 d1, e2, clK_0 d2, clK_1 d2, clK_3 d2, clK_5 d2, clK_7 d2, clK_8 d2, clK_9 d2, clK_11 d2, clK_12 d2, clK_13 d2, clK_14 d2, clK_15 d2, clK_16 d2, clK_18 d2, clK_20 d2, clK_21 d2, clK_22 d2, clK_23 d2, clK_24 d2, clK_25 d2, clK_26 d2, clR_0_0 d2, clR_1_0 d2, clR_2_0 d2, clR_3_0 d2, clR_7_0 d2, clR_8_0 d2, clR_9_0 d2, clR_10_0 d2, clR_11_0 d2, clR_0_8 d2, clR_0_11 d2, clR_1_11 d2, clR_2_11 d2, clR_0_15 d2, clR_1_15 d2, clR_2_15 d2, clR_3_15 d2, clR_4_15 d2, clR_5_15 d2, clR_0_23 d2, clR_1_23 d2, clR_0_25 d2, clL_7 d2, clL_12 d2, clL_13 d2, clL_14 d2, clL_20 d2, clL_21 d2, clL_22 d2, clL_24 d2, clS_0 d2, clS_1 d2, clS_2 d2, clS_3 d2, e3, clK_0 d3, clK_1 d3, clK_3 d3, clK_5 d3, clK_7 d3, clK_8 d3, clK_9 d3, clK_11 d3, clK_12 d3, clK_13 d3, clK_14 d3, clK_15 d3, clK_16 d3, clK_18 d3, clK_20 d3, clK_21 d3, clK_22 d3, clK_23 d3, clK_24 d3, clK_25 d3, clK_26 d3, clR_0_0 d3, clR_1_0 d3, clR_2_0 d3, clR_3_0 d3, clR_7_0 d3, clR_8_0 d3, clR_9_0 d3, clR_10_0 d3, clR_11_0 d3, clR_0_8 d3, clR_0_11 d3, clR_1_11 d3, clR_2_11 d3, clR_0_15 d3, clR_1_15 d3, clR_2_15 d3, clR_3_15 d3, clR_4_15 d3, clR_5_15 d3, clR_0_23 d3, clR_1_23 d3, clR_0_25 d3, clL_7 d3, clL_12 d3, clL_13 d3, clL_14 d3, clL_20 d3, clL_21 d3, clL_22 d3, clL_24 d3, clS_0 d3, clS_1 d3, clS_2 d3, clS_3 d3, k2, e4, clK_0 d4, clK_1 d4, clK_3 d4, clK_5 d4, clK_7 d4, clK_8 d4, clK_9 d4, clK_11 d4, clK_12 d4, clK_13 d4, clK_14 d4, clK_15 d4, clK_16 d4, clK_18 d4, clK_20 d4, clK_21 d4, clK_22 d4, clK_23 d4, clK_24 d4, clK_25 d4, clK_26 d4, clR_0_0 d4, clR_1_0 d4, clR_2_0 d4, clR_3_0 d4, clR_7_0 d4, clR_8_0 d4, clR_9_0 d4, clR_10_0 d4, clR_11_0 d4, clR_0_8 d4, clR_0_11 d4, clR_1_11 d4, clR_2_11 d4, clR_0_15 d4, clR_1_15 d4, clR_2_15 d4, clR_3_15 d4, clR_4_15 d4, clR_5_15 d4, clR_0_23 d4, clR_1_23 d4, clR_0_25 d4, clL_7 d4, clL_12 d4, clL_13 d4, clL_14 d4, clL_20 d4, clL_21 d4, clL_22 d4, clL_24 d4, clS_0 d4, clS_1 d4, clS_2 d4, clS_3 d4, e5]
/-- one part, LINKS to held going to goal -/
def rlp (held goal : Nm) (t : List Nat) (e : Pt) : List Nat := if isL e held = true then q_tx 2 ++ (nz goal ++ slc t e.2.2.2.1 e.2.2.1) else slc t e.2.1 e.2.2.1
theorem run_slc {t : List Nat} : ∀ {n i : Nat}, i + n ≤ t.length → (List.range' i n).flatMap (fun k => [t.getD k 0]) = slc t i (i + n)
  | 0, i, _ => by rw [List.range'_zero, slc_nil (by omega)]; rfl
  | n + 1, i, h => by
    rw [List.range'_succ, List.flatMap_cons, run_slc (by omega), slc_cons (show i < i + (n + 1) by omega) (by omega), show i + 1 + n = i + (n + 1) by omega]
    rfl
theorem rlp_flat {held goal : Nm} {t : List Nat} {e : Pt} (he : e ∈ ptl t) : (exq e).flatMap (rlk1 held goal t) = rlp held goal t e := by
  have so := ptl_sort he
  unfold rlp
  by_cases c : e.1 = 2
  · have e3 := so.2.2.2.2.2 c
    have hl : isL e held = false := decide_eq_false (fun z => by rw [c] at z; cases z.1)
    rw [hl, if_neg (by simp)]
    unfold exq
    rw [e3]
    simp only [List.flatMap_map]
    have := run_slc (t := t) (n := e.2.2.1 - e.2.1) (i := e.2.1) (by omega)
    rw [show e.2.1 + (e.2.2.1 - e.2.1) = e.2.2.1 by omega] at this
    exact this
  · obtain ⟨-, s, j, b, q', et, e2⟩ := so.2.2.2.2.1 c
    have tl := tok_len et
    rw [e2]
    unfold exq isL
    simp only [List.flatMap_cons, List.flatMap_nil, List.append_nil, rlk1]
    rw [show s - 1 + 1 = s by omega]
    by_cases c1 : s = 1 ∧ q' = held
    · rw [if_pos c1, if_pos (decide_eq_true ⟨by omega, by rw [c1.2]⟩)]
      rfl
    · rw [if_neg c1, if_neg (fun z => c1 (by have := of_decide_eq_true z; exact ⟨by omega, by have := this.2; injection this⟩))]
      rfl
theorem rlT_ptl {held goal : Nm} {t : List Nat} : rlT held goal t = (ptl t).flatMap (rlp held goal t) := by
  unfold rlT
  rw [← ptl_flat]
  have : ∀ es : List Pt, (∀ e ∈ es, e ∈ ptl t) → (es.flatMap exq).flatMap (rlk1 held goal t) = es.flatMap (rlp held goal t) := by
    intro es
    induction es with
    | nil => intro _; rfl
    | cons e es ih =>
      intro hin
      rw [List.flatMap_cons, List.flatMap_append, rlp_flat (hin e List.mem_cons_self), ih (fun x hx => hin x (List.mem_cons_of_mem _ hx)), List.flatMap_cons]
  exact this _ (fun e he => he)
theorem c_relink_loop {b u uh : Nat} {t : List Nat} {held goal : Nm} (ht : t.length ≤ 300) : ∀ (es : List Pt) (h : PH) (r : Option Nat) (s : Option (List Nat)), cI Q h X tp ou fo (some held) a w → txt Q h b t → Q u → nm_ h u goal.1 goal.2 → sgm Q h r es none → (∀ e ∈ es, e ∈ ptl t) → drw h X s →
    ∃ h', ev g mX10_draftRelinked 18 [some (va_rf (some X)), some (va_rf (some b)), some (va_rf (some u)), some (va_rf r)] [] h = some (none, h') ∧ cfm X (rP (X + 5) (X + 6)) h h' ∧ hN h' = hN h ∧ hU h' = hU h ∧ drw h' X (dr2 s (es.flatMap (rlp held goal t))) ∧ cI Q h' X tp ou fo (some held) a w := by
  intro es
  induction es with
  | nil =>
    intro h r s I T hu hq hs _ D
    have : r = none := hs
    subst this
    refine ⟨h, ?_, cfm.rf _, rfl, rfl, ?_, I⟩
    · rw [e_X10_draftRelinked_18]
      simp (decide := true) (disch := omega) only [e_X10_draftRelinked_19, e_X10_draftRelinked_22, e_X10_draftRelinked_23, e_X10_draftRelinked_24, e_X10_draftRelinked_27, e_X10_draftRelinked_30, e_X10_draftRelinked_33, e_X10_draftRelinked_34, e_X10_draftRelinked_37, e_X10_draftRelinked_40, e_X10_draftRelinked_43, e_X10_draftRelinked_44, e_X10_draftRelinked_45, e_X10_draftRelinked_48, e_X10_draftRelinked_51, e_X10_draftRelinked_52, e_X10_draftRelinked_55, e_X10_draftRelinked_56, e_X10_draftRelinked_59, e_X10_draftRelinked_60, e_X10_draftRelinked_63, e_X10_draftRelinked_64, e_X10_draftRelinked_67, e_X10_draftRelinked_70, e_X10_draftRelinked_73, e_X10_draftRelinked_74, e_X10_draftRelinked_77, e_X10_draftRelinked_78, e_X10_draftRelinked_81, e_X10_draftRelinked_82, e_X10_draftRelinked_85, e_X10_draftRelinked_86, e_X10_draftRelinked_89, e_X10_draftRelinked_92, e_X10_draftRelinked_93, e_X10_draftRelinked_96, e_X10_draftRelinked_97, e_X10_draftRelinked_100, ↓reduceIte, if_true, if_false, reduceCtorEq, Nat.reduceAdd, true_and, and_true, false_and, and_false, true_or, or_true, false_or, or_false, not_true_eq_false, not_false_eq_true, Option.bind_eq_bind, Option.bind_some, psh, eq_self, l_0, l_1, l_2, l_3, l_4, l_5, l_6, l_7, l_8, l_9, l_10, l_11, l_12, l_13, l_14, l_15, l_16, l_17, l_18, l_19, l_20, l_24, l_31, l_32, l_33, l_35, l_36, l_48, l_56, l_57, l_58, l_63, l_65, l_80, l_81, l_90, l_91, l_93, l_94, l_95, l_97, l_100, l_105, l_107, l_110, l_111, l_116, l_120, l_121, l_122, l_123, l_124, l_125, l_126, l_162, l_255, l_300, l_400, l_420, l_432, l_1000, l_1400, l_1936, l_2000, l_2100, l_2400, l_24000, m_n1, m_n2, m_n3, nI_mul, nI_add, nI_sub, nI_ltT, nI_ltF, nI_leT, nI_leF, nI_eqT, nI_eqF, nI_nM, nM_nI, nM_eq, nM_lt, nM_le, nI_ltM, nI_leM, nI_inT, nI_dec, pk_rem, nI_ltI, nI_leI, nI_eq, nI_clamp, Nat.add_assoc, q_bv51, Nat.add_left_cancel_iff]
    · obtain ⟨x, o, rr, -⟩ := D.any
      rw [List.flatMap_nil]
      cases s with
      | none => exact D
      | some x' =>
        have hx : x'.length ≤ 300 := (show rw_ h (X + 5) (X + 6) 300 300 x' 0 from D).2.2.1.1
        unfold dr2
        simp only [List.length_nil, Nat.add_zero, List.append_nil]
        rw [if_pos hx]
        exact D
  | cons e es ih =>
    intro h r s I T hu hq hs hin D
    obtain ⟨v, rfl, p1, hs2⟩ := hs
    have d := I.1.1
    have hQ := I.1.2.1
    have so := ptl_sort (hin e List.mem_cons_self)
    obtain ⟨bh, b1, b2, b3⟩ := I.2.2.1.2.1
    have ep := p_isLinkTo (g := g) p1 so.1 b3
    have jv := hQ v p1.1.1
    have ju := hQ u hu
    have T0 := T
    obtain ⟨⟨jb, k8⟩, ⟨ra, rb', r1, r2, r3, r4⟩, -⟩ := T
    have jb' := hQ b jb
    have ja := hQ ra r2
    have jb2 := hQ rb' r3
    obtain ⟨⟨-, k4, i0, i1, i2, i3⟩, -⟩ := p1
    -- what stays
    have go : ∀ (h2 : PH), sm (rP (X + 5) (X + 6)) h h2 → hN h2 = hN h → hU h2 = hU h → drw h2 X (dr2 s (rlp held goal t e)) → cI Q h2 X tp ou fo (some held) a w → cfm X (rP (X + 5) (X + 6)) h h2 → ev g mX10_draftRelinked 18 [some (va_rf (some X)), some (va_rf (some b)), some (va_rf (some u)), some (va_rf (some v))] [] h = ev g mX10_draftRelinked 92 [some (va_rf (some X)), some (va_rf (some b)), some (va_rf (some u)), some (va_rf (some v))] [] h2 → ∃ h', ev g mX10_draftRelinked 18 [some (va_rf (some X)), some (va_rf (some b)), some (va_rf (some u)), some (va_rf (some v))] [] h = some (none, h') ∧ cfm X (rP (X + 5) (X + 6)) h h' ∧ hN h' = hN h ∧ hU h' = hU h ∧ drw h' X (dr2 s ((e :: es).flatMap (rlp held goal t))) ∧ cI Q h' X tp ou fo (some held) a w := by
      intro h2 s2 n2 u2 D2 I2 c2 e2
      have hk : ∀ x, Q x → x < hN h ∧ ¬ rP (X + 5) (X + 6) x ∧ Q x := fun x hx => by have := hQ x hx; exact ⟨by omega, by unfold rP; omega, hx⟩
      have fv := s2.2.2 v jv.2
      have np : ¬ rP (X + 5) (X + 6) v := by unfold rP; omega
      have k42 : hK h2 v = 4 := by rw [fv.1]; exact k4
      have e5 : hR h2 5 v = hR h 5 v := (fv.2.2 np).2.1 5
      obtain ⟨h3, e3, c3, n3, u3, D3, I3⟩ := ih h2 (hR h2 5 v) _ I2 (T0.keep s2 hk) hu (hq.keep s2 ju.2 (by unfold rP; omega)) (by rw [e5]; exact sgm.keep s2 hk hs2) (fun x hx => hin x (List.mem_cons_of_mem _ hx)) D2
      rw [dr2_app] at D3
      refine ⟨h3, ?_, c2.tr c3, by omega, by omega, by rw [List.flatMap_cons]; exact D3, I3⟩
      rw [e2, ← e3]
      simp (decide := true) (disch := omega) only [e_X10_draftRelinked_92, e_X10_draftRelinked_93, e_X10_draftRelinked_96, e_X10_draftRelinked_97, ↓reduceIte, if_true, if_false, reduceCtorEq, Nat.reduceAdd, true_and, and_true, false_and, and_false, true_or, or_true, false_or, or_false, not_true_eq_false, not_false_eq_true, Option.bind_eq_bind, Option.bind_some, psh, eq_self, l_0, l_1, l_2, l_3, l_4, l_5, l_6, l_7, l_8, l_9, l_10, l_11, l_12, l_13, l_14, l_15, l_16, l_17, l_18, l_19, l_20, l_24, l_31, l_32, l_33, l_35, l_36, l_48, l_56, l_57, l_58, l_63, l_65, l_80, l_81, l_90, l_91, l_93, l_94, l_95, l_97, l_100, l_105, l_107, l_110, l_111, l_116, l_120, l_121, l_122, l_123, l_124, l_125, l_126, l_162, l_255, l_300, l_400, l_420, l_432, l_1000, l_1400, l_1936, l_2000, l_2100, l_2400, l_24000, m_n1, m_n2, m_n3, nI_mul, nI_add, nI_sub, nI_ltT, nI_ltF, nI_leT, nI_leF, nI_eqT, nI_eqF, nI_nM, nM_nI, nM_eq, nM_lt, nM_le, nI_ltM, nI_leM, nI_inT, nI_dec, pk_rem, nI_ltI, nI_leI, nI_eq, nI_clamp, Nat.add_assoc, q_bv51, Nat.add_left_cancel_iff, k42]
    unfold rlp at go
    cases ei : isL e held with
    | false =>
      rw [ei, bI_f] at ep
      rw [ei, if_neg (by simp)] at go
      obtain ⟨h2, e2, s2, n2, u2, D2⟩ := d_putAll (g := g) (i := e.2.1) (j := e.2.2.1) D r4 so.2.2.1 (by omega) (by omega)
      obtain ⟨_, _, rr, -⟩ := D2.any
      obtain ⟨I2, -, c2⟩ := I.dr s2 rr
      refine go h2 s2 n2 u2 D2 I2 c2 ?_
      rw [e_X10_draftRelinked_18]
      simp (decide := true) (disch := omega) only [e_X10_draftRelinked_19, e_X10_draftRelinked_22, e_X10_draftRelinked_23, e_X10_draftRelinked_24, e_X10_draftRelinked_27, e_X10_draftRelinked_30, e_X10_draftRelinked_33, e_X10_draftRelinked_34, e_X10_draftRelinked_37, e_X10_draftRelinked_40, e_X10_draftRelinked_43, e_X10_draftRelinked_44, e_X10_draftRelinked_45, e_X10_draftRelinked_48, e_X10_draftRelinked_51, e_X10_draftRelinked_52, e_X10_draftRelinked_55, e_X10_draftRelinked_56, e_X10_draftRelinked_59, e_X10_draftRelinked_60, e_X10_draftRelinked_63, e_X10_draftRelinked_64, e_X10_draftRelinked_67, e_X10_draftRelinked_70, e_X10_draftRelinked_73, e_X10_draftRelinked_74, e_X10_draftRelinked_77, e_X10_draftRelinked_78, e_X10_draftRelinked_81, e_X10_draftRelinked_82, e_X10_draftRelinked_85, e_X10_draftRelinked_86, e_X10_draftRelinked_89, ↓reduceIte, if_true, if_false, reduceCtorEq, Nat.reduceAdd, true_and, and_true, false_and, and_false, true_or, or_true, false_or, or_false, not_true_eq_false, not_false_eq_true, Option.bind_eq_bind, Option.bind_some, psh, eq_self, l_0, l_1, l_2, l_3, l_4, l_5, l_6, l_7, l_8, l_9, l_10, l_11, l_12, l_13, l_14, l_15, l_16, l_17, l_18, l_19, l_20, l_24, l_31, l_32, l_33, l_35, l_36, l_48, l_56, l_57, l_58, l_63, l_65, l_80, l_81, l_90, l_91, l_93, l_94, l_95, l_97, l_100, l_105, l_107, l_110, l_111, l_116, l_120, l_121, l_122, l_123, l_124, l_125, l_126, l_162, l_255, l_300, l_400, l_420, l_432, l_1000, l_1400, l_1936, l_2000, l_2100, l_2400, l_24000, m_n1, m_n2, m_n3, nI_mul, nI_add, nI_sub, nI_ltT, nI_ltF, nI_leT, nI_leF, nI_eqT, nI_eqF, nI_nM, nM_nI, nM_eq, nM_lt, nM_le, nI_ltM, nI_leM, nI_inT, nI_dec, pk_rem, nI_ltI, nI_leI, nI_eq, nI_clamp, Nat.add_assoc, q_bv51, Nat.add_left_cancel_iff, clK_0 d, clK_1 d, clK_3 d, clK_5 d, clK_7 d, clK_8 d, clK_9 d, clK_11 d, clK_12 d, clK_13 d, clK_14 d, clK_15 d, clK_16 d, clK_18 d, clK_20 d, clK_21 d, clK_22 d, clK_23 d, clK_24 d, clK_25 d, clK_26 d, clR_0_0 d, clR_1_0 d, clR_2_0 d, clR_3_0 d, clR_7_0 d, clR_8_0 d, clR_9_0 d, clR_10_0 d, clR_11_0 d, clR_0_8 d, clR_0_11 d, clR_1_11 d, clR_2_11 d, clR_0_15 d, clR_1_15 d, clR_2_15 d, clR_3_15 d, clR_4_15 d, clR_5_15 d, clR_0_23 d, clR_1_23 d, clR_0_25 d, clL_7 d, clL_12 d, clL_13 d, clL_14 d, clL_20 d, clL_21 d, clL_22 d, clL_24 d, clS_0 d, clS_1 d, clS_2 d, clS_3 d, reduceCtorEq, b1, k4, ep, k8, r1, i1, i2, e2]
    | true =>
      rw [ei, bI_t] at ep
      rw [ei, if_pos rfl] at go
      obtain ⟨h2, e2, s2, n2, u2, D2⟩ := d_putText (g := g) (k := 2) D (by decide) (clS_2 d) (d.S 2 (by decide))
      obtain ⟨_, _, rr2, -⟩ := D2.any
      obtain ⟨I2, -, c2⟩ := I.dr s2 rr2
      have d2 := I2.1.1
      have hq2 := hq.keep s2 ju.2 (by unfold rP; omega)
      have k22 := hq2.1
      obtain ⟨h3, e3, s3, n3, u3, D3⟩ := d_writeTo (g := g) D2 hq2 (by omega) (clS_0 d2) (d2.S 0 (by decide))
      obtain ⟨_, _, rr3, -⟩ := D3.any
      obtain ⟨I3, -, c3⟩ := I2.dr s3 rr3
      have d3 := I3.1.1
      have s23 := s2.tr s3
      have r43 := r4.keep s23 ja.2 jb2.2 (by unfold rP; omega) (by unfold rP; omega)
      obtain ⟨h4, e4, s4, n4, u4, D4⟩ := d_putAll (g := g) (i := e.2.2.2.1) (j := e.2.2.1) D3 r43 so.2.2.1 (by omega) (by omega)
      obtain ⟨_, _, rr4, -⟩ := D4.any
      obtain ⟨I4, -, c4⟩ := I3.dr s4 rr4
      rw [dr2_app, dr2_app] at D4
      have npv : ¬ rP (X + 5) (X + 6) v := by unfold rP; omega
      have npb : ¬ rP (X + 5) (X + 6) b := by unfold rP; omega
      have f1 := s23.2.2 v jv.2
      have f2 := s23.2.2 b jb'.2
      have g1 : hK h3 v = 4 := by rw [f1.1]; exact k4
      have g2 : hI h3 3 v = nI e.2.2.2.1 := by rw [(f1.2.2 npv).1]; exact i3
      have g3 : hI h3 2 v = nI e.2.2.1 := by rw [(f1.2.2 npv).1]; exact i2
      have g4 : hK h3 b = 8 := by rw [f2.1]; exact k8
      have g5 : hR h3 0 b = some ra := by rw [(f2.2.2 npb).2.1]; exact r1
      refine go h4 (s23.tr s4) (by omega) (by omega) D4 I4 ((c2.tr c3).tr c4) ?_
      rw [e_X10_draftRelinked_18]
      have q1 : ev g mX10_draftRelinked 19 [some (va_rf (some X)), some (va_rf (some b)), some (va_rf (some u)), some (va_rf (some v))] [va_rf (some v)] h = ev g mX10_draftRelinked 43 [some (va_rf (some X)), some (va_rf (some b)), some (va_rf (some u)), some (va_rf (some v))] [] h2 := by
        simp (decide := true) (disch := omega) only [e_X10_draftRelinked_19, e_X10_draftRelinked_22, e_X10_draftRelinked_23, e_X10_draftRelinked_24, e_X10_draftRelinked_27, e_X10_draftRelinked_30, e_X10_draftRelinked_33, e_X10_draftRelinked_34, e_X10_draftRelinked_37, e_X10_draftRelinked_40, ↓reduceIte, if_true, if_false, reduceCtorEq, Nat.reduceAdd, true_and, and_true, false_and, and_false, true_or, or_true, false_or, or_false, not_true_eq_false, not_false_eq_true, Option.bind_eq_bind, Option.bind_some, psh, eq_self, l_0, l_1, l_2, l_3, l_4, l_5, l_6, l_7, l_8, l_9, l_10, l_11, l_12, l_13, l_14, l_15, l_16, l_17, l_18, l_19, l_20, l_24, l_31, l_32, l_33, l_35, l_36, l_48, l_56, l_57, l_58, l_63, l_65, l_80, l_81, l_90, l_91, l_93, l_94, l_95, l_97, l_100, l_105, l_107, l_110, l_111, l_116, l_120, l_121, l_122, l_123, l_124, l_125, l_126, l_162, l_255, l_300, l_400, l_420, l_432, l_1000, l_1400, l_1936, l_2000, l_2100, l_2400, l_24000, m_n1, m_n2, m_n3, nI_mul, nI_add, nI_sub, nI_ltT, nI_ltF, nI_leT, nI_leF, nI_eqT, nI_eqF, nI_nM, nM_nI, nM_eq, nM_lt, nM_le, nI_ltM, nI_leM, nI_inT, nI_dec, pk_rem, nI_ltI, nI_leI, nI_eq, nI_clamp, Nat.add_assoc, q_bv51, Nat.add_left_cancel_iff, clK_0 d, clK_1 d, clK_3 d, clK_5 d, clK_7 d, clK_8 d, clK_9 d, clK_11 d, clK_12 d, clK_13 d, clK_14 d, clK_15 d, clK_16 d, clK_18 d, clK_20 d, clK_21 d, clK_22 d, clK_23 d, clK_24 d, clK_25 d, clK_26 d, clR_0_0 d, clR_1_0 d, clR_2_0 d, clR_3_0 d, clR_7_0 d, clR_8_0 d, clR_9_0 d, clR_10_0 d, clR_11_0 d, clR_0_8 d, clR_0_11 d, clR_1_11 d, clR_2_11 d, clR_0_15 d, clR_1_15 d, clR_2_15 d, clR_3_15 d, clR_4_15 d, clR_5_15 d, clR_0_23 d, clR_1_23 d, clR_0_25 d, clL_7 d, clL_12 d, clL_13 d, clL_14 d, clL_20 d, clL_21 d, clL_22 d, clL_24 d, clS_0 d, clS_1 d, clS_2 d, clS_3 d, reduceCtorEq, b1, k4, ep, e2]
      rw [q1]
      simp (decide := true) (disch := omega) only [e_X10_draftRelinked_43, e_X10_draftRelinked_44, e_X10_draftRelinked_45, e_X10_draftRelinked_48, ↓reduceIte, if_true, if_false, reduceCtorEq, Nat.reduceAdd, true_and, and_true, false_and, and_false, true_or, or_true, false_or, or_false, not_true_eq_false, not_false_eq_true, Option.bind_eq_bind, Option.bind_some, psh, eq_self, l_0, l_1, l_2, l_3, l_4, l_5, l_6, l_7, l_8, l_9, l_10, l_11, l_12, l_13, l_14, l_15, l_16, l_17, l_18, l_19, l_20, l_24, l_31, l_32, l_33, l_35, l_36, l_48, l_56, l_57, l_58, l_63, l_65, l_80, l_81, l_90, l_91, l_93, l_94, l_95, l_97, l_100, l_105, l_107, l_110, l_111, l_116, l_120, l_121, l_122, l_123, l_124, l_125, l_126, l_162, l_255, l_300, l_400, l_420, l_432, l_1000, l_1400, l_1936, l_2000, l_2100, l_2400, l_24000, m_n1, m_n2, m_n3, nI_mul, nI_add, nI_sub, nI_ltT, nI_ltF, nI_leT, nI_leF, nI_eqT, nI_eqF, nI_nM, nM_nI, nM_eq, nM_lt, nM_le, nI_ltM, nI_leM, nI_inT, nI_dec, pk_rem, nI_ltI, nI_leI, nI_eq, nI_clamp, Nat.add_assoc, q_bv51, Nat.add_left_cancel_iff, clK_0 d2, clK_1 d2, clK_3 d2, clK_5 d2, clK_7 d2, clK_8 d2, clK_9 d2, clK_11 d2, clK_12 d2, clK_13 d2, clK_14 d2, clK_15 d2, clK_16 d2, clK_18 d2, clK_20 d2, clK_21 d2, clK_22 d2, clK_23 d2, clK_24 d2, clK_25 d2, clK_26 d2, clR_0_0 d2, clR_1_0 d2, clR_2_0 d2, clR_3_0 d2, clR_7_0 d2, clR_8_0 d2, clR_9_0 d2, clR_10_0 d2, clR_11_0 d2, clR_0_8 d2, clR_0_11 d2, clR_1_11 d2, clR_2_11 d2, clR_0_15 d2, clR_1_15 d2, clR_2_15 d2, clR_3_15 d2, clR_4_15 d2, clR_5_15 d2, clR_0_23 d2, clR_1_23 d2, clR_0_25 d2, clL_7 d2, clL_12 d2, clL_13 d2, clL_14 d2, clL_20 d2, clL_21 d2, clL_22 d2, clL_24 d2, clS_0 d2, clS_1 d2, clS_2 d2, clS_3 d2, k22, e3]
      simp (decide := true) (disch := omega) only [e_X10_draftRelinked_51, e_X10_draftRelinked_52, e_X10_draftRelinked_55, e_X10_draftRelinked_56, e_X10_draftRelinked_59, e_X10_draftRelinked_60, e_X10_draftRelinked_63, e_X10_draftRelinked_64, e_X10_draftRelinked_67, e_X10_draftRelinked_70, ↓reduceIte, if_true, if_false, reduceCtorEq, Nat.reduceAdd, true_and, and_true, false_and, and_false, true_or, or_true, false_or, or_false, not_true_eq_false, not_false_eq_true, Option.bind_eq_bind, Option.bind_some, psh, eq_self, l_0, l_1, l_2, l_3, l_4, l_5, l_6, l_7, l_8, l_9, l_10, l_11, l_12, l_13, l_14, l_15, l_16, l_17, l_18, l_19, l_20, l_24, l_31, l_32, l_33, l_35, l_36, l_48, l_56, l_57, l_58, l_63, l_65, l_80, l_81, l_90, l_91, l_93, l_94, l_95, l_97, l_100, l_105, l_107, l_110, l_111, l_116, l_120, l_121, l_122, l_123, l_124, l_125, l_126, l_162, l_255, l_300, l_400, l_420, l_432, l_1000, l_1400, l_1936, l_2000, l_2100, l_2400, l_24000, m_n1, m_n2, m_n3, nI_mul, nI_add, nI_sub, nI_ltT, nI_ltF, nI_leT, nI_leF, nI_eqT, nI_eqF, nI_nM, nM_nI, nM_eq, nM_lt, nM_le, nI_ltM, nI_leM, nI_inT, nI_dec, pk_rem, nI_ltI, nI_leI, nI_eq, nI_clamp, Nat.add_assoc, q_bv51, Nat.add_left_cancel_iff, clK_0 d3, clK_1 d3, clK_3 d3, clK_5 d3, clK_7 d3, clK_8 d3, clK_9 d3, clK_11 d3, clK_12 d3, clK_13 d3, clK_14 d3, clK_15 d3, clK_16 d3, clK_18 d3, clK_20 d3, clK_21 d3, clK_22 d3, clK_23 d3, clK_24 d3, clK_25 d3, clK_26 d3, clR_0_0 d3, clR_1_0 d3, clR_2_0 d3, clR_3_0 d3, clR_7_0 d3, clR_8_0 d3, clR_9_0 d3, clR_10_0 d3, clR_11_0 d3, clR_0_8 d3, clR_0_11 d3, clR_1_11 d3, clR_2_11 d3, clR_0_15 d3, clR_1_15 d3, clR_2_15 d3, clR_3_15 d3, clR_4_15 d3, clR_5_15 d3, clR_0_23 d3, clR_1_23 d3, clR_0_25 d3, clL_7 d3, clL_12 d3, clL_13 d3, clL_14 d3, clL_20 d3, clL_21 d3, clL_22 d3, clL_24 d3, clS_0 d3, clS_1 d3, clS_2 d3, clS_3 d3, g1, g2, g3, g4, g5, e4]
theorem c_draftRelinked {b u : Nat} {t : List Nat} {held goal : Nm} (I : cI Q h X tp ou fo (some held) a w) (T : txt Q h b t) (ht : t.length ≤ 300) (hu : Q u) (hq : nm_ h u goal.1 goal.2) :
    ∃ h', cal g mX10_draftRelinked [va_rf (some X), va_rf (some b), va_rf (some u)] h = some (none, h') ∧ cfm X (rP (X + 5) (X + 6)) h h' ∧ hN h' = hN h ∧ hU h' = hU h ∧ drw h' X (dr2 (some []) (rlT held goal t)) ∧ cI Q h' X tp ou fo (some held) a w := by
  have d := I.1.1
  have hQ := I.1.2.1
  have ju := hQ u hu
  have jb := hQ b T.1.1
  obtain ⟨h1, e1, s1, n1, u1, D1⟩ := d_cut (g := g) I.2.1.2.2.1
  obtain ⟨_, _, r1, -⟩ := D1.any
  obtain ⟨I1, -, c1⟩ := I.dr s1 r1
  have hk : ∀ x, Q x → x < hN h ∧ ¬ rP (X + 5) (X + 6) x ∧ Q x := fun x hx => by have := hQ x hx; exact ⟨by omega, by unfold rP; omega, hx⟩
  have T1 := T.keep s1 hk
  obtain ⟨h2, e2, c2, n2, u2, D2, I2⟩ := c_relink_loop (g := g) (uh := 0) (goal := goal) ht (ptl t) h1 (hR h1 1 b) _ I1 T1 hu (hq.keep s1 ju.2 (by unfold rP; omega)) T1.2.2.1 (fun e he => he) D1
  rw [← rlT_ptl] at D2
  have k8 := T1.1.2
  refine ⟨h2, ?_, c1.tr c2, by omega, by omega, D2, I2⟩
  rw [n_X10_draftRelinked, ← e2]
  simp (decide := true) (disch := omega) only [e_X10_draftRelinked_0, e_X10_draftRelinked_1, e_X10_draftRelinked_4, e_X10_draftRelinked_5, e_X10_draftRelinked_8, e_X10_draftRelinked_9, e_X10_draftRelinked_12, e_X10_draftRelinked_13, e_X10_draftRelinked_14, e_X10_draftRelinked_17, ↓reduceIte, if_true, if_false, reduceCtorEq, Nat.reduceAdd, true_and, and_true, false_and, and_false, true_or, or_true, false_or, or_false, not_true_eq_false, not_false_eq_true, Option.bind_eq_bind, Option.bind_some, psh, eq_self, l_0, l_1, l_2, l_3, l_4, l_5, l_6, l_7, l_8, l_9, l_10, l_11, l_12, l_13, l_14, l_15, l_16, l_17, l_18, l_19, l_20, l_24, l_31, l_32, l_33, l_35, l_36, l_48, l_56, l_57, l_58, l_63, l_65, l_80, l_81, l_90, l_91, l_93, l_94, l_95, l_97, l_100, l_105, l_107, l_110, l_111, l_116, l_120, l_121, l_122, l_123, l_124, l_125, l_126, l_162, l_255, l_300, l_400, l_420, l_432, l_1000, l_1400, l_1936, l_2000, l_2100, l_2400, l_24000, m_n1, m_n2, m_n3, nI_mul, nI_add, nI_sub, nI_ltT, nI_ltF, nI_leT, nI_leF, nI_eqT, nI_eqF, nI_nM, nM_nI, nM_eq, nM_lt, nM_le, nI_ltM, nI_leM, nI_inT, nI_dec, pk_rem, nI_ltI, nI_leI, nI_eq, nI_clamp, Nat.add_assoc, q_bv51, Nat.add_left_cancel_iff, clK_0 d, clK_1 d, clK_3 d, clK_5 d, clK_7 d, clK_8 d, clK_9 d, clK_11 d, clK_12 d, clK_13 d, clK_14 d, clK_15 d, clK_16 d, clK_18 d, clK_20 d, clK_21 d, clK_22 d, clK_23 d, clK_24 d, clK_25 d, clK_26 d, clR_0_0 d, clR_1_0 d, clR_2_0 d, clR_3_0 d, clR_7_0 d, clR_8_0 d, clR_9_0 d, clR_10_0 d, clR_11_0 d, clR_0_8 d, clR_0_11 d, clR_1_11 d, clR_2_11 d, clR_0_15 d, clR_1_15 d, clR_2_15 d, clR_3_15 d, clR_4_15 d, clR_5_15 d, clR_0_23 d, clR_1_23 d, clR_0_25 d, clL_7 d, clL_12 d, clL_13 d, clL_14 d, clL_20 d, clL_21 d, clL_22 d, clL_24 d, clS_0 d, clS_1 d, clS_2 d, clS_3 d, e1, reduceCtorEq, k8]
end
