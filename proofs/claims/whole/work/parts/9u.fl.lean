/-! PageWeb$Maker: fill -/
theorem pl_fit {l l2 : List Nat} {bd i j : Nat} {o : Int32} (h1 : i ≤ j) (h2 : j ≤ l2.length) (h3 : l.length + (j - i) ≤ bd) : pll l l2 bd i j = l ++ slc l2 i j ∧ plo l l2 bd i j o = o := by
  unfold pll plo slc
  by_cases c : i < j
  · rw [if_pos ⟨c, h2, by omega⟩, if_neg (fun z => by omega)]
    exact ⟨rfl, rfl⟩
  · rw [if_neg (fun z => c z.1), if_neg (fun z => c z.1)]
    have : j - i = 0 := by omega
    rw [this]
    simp
theorem pl_over {l l2 : List Nat} {bd i j : Nat} {o : Int32} (h2 : j ≤ l2.length) (hb : l.length ≤ bd) (h3 : bd < l.length + (j - i)) : pll l l2 bd i j = l ∧ plo l l2 bd i j o = 1 := by
  unfold pll plo
  rw [if_neg (fun z => by omega), if_pos ⟨by omega, h2, by omega⟩]
  exact ⟨rfl, rfl⟩
theorem pl_pre {l l2 : List Nat} {bd i j : Nat} : ∃ x, pll l l2 bd i j = l ++ x := by
  unfold pll
  split
  · exact ⟨_, rfl⟩
  · exact ⟨[], (List.append_nil _).symm⟩
theorem plo_1 {l l2 : List Nat} {bd i j : Nat} : plo l l2 bd i j 1 = 1 := by
  unfold plo
  split <;> rfl
theorem fil_at {ws : List (List Nat)} {t : List Nat} {i e : Nat} (h : i + 1 < e) (he : e ≤ t.length) : fil ws (slc t i e) = if t.getD i 0 = 36 ∧ 49 ≤ t.getD (i + 1) 0 ∧ t.getD (i + 1) 0 ≤ 57 ∧ t.getD (i + 1) 0 - 48 ≤ ws.length then ws.getD (t.getD (i + 1) 0 - 49) [] ++ fil ws (slc t (i + 2) e) else t.getD i 0 :: fil ws (slc t (i + 1) e) := by
  rw [slc_cons (show i < e by omega) he, slc_cons h he, fil]
theorem fil_short {ws : List (List Nat)} {t : List Nat} {i e : Nat} (h : e ≤ i + 1) (he : e ≤ t.length) : fil ws (slc t i e) = slc t i e := by
  by_cases c : e ≤ i
  · rw [slc_nil c]; rfl
  · rw [slc_cons (show i < e by omega) he, slc_nil (by omega)]; rfl
/-- what fill reads -/
def fH (h : PH) (X ra rb' lv : Nat) (t : List Nat) (ws : List (List Nat)) (E : Nat → Nat) (n : Nat) (w0 : List Nat) : Prop :=
  (cl h X ∧ rw_ h ra rb' t.length t.length t 0 ∧ (X + 57 ≤ ra ∧ ra < hN h) ∧ X + 57 ≤ rb' ∧ rb' < hN h) ∧ (hA h (X + 21) lv = nI ws.length ∧ ws.length ≤ 9 ∧ lv < 8 ∧ t.length ≤ 300) ∧ ∀ i, i < ws.length → hA h (X + 20) (lv * 10 + i) = nI (E i) ∧ hA h (X + 20) (lv * 10 + (i + 1)) = nI (E (i + 1)) ∧ E i ≤ E (i + 1) ∧ E (i + 1) ≤ n ∧ slc w0 (E i) (E (i + 1)) = ws.getD i []
/-- which row is filled -/
def fT (X wb ta tb : Nat) (tw : Bool) : Prop := (tw = false ∧ ta = X + 16 ∧ tb = X + 17) ∨ (tw = true ∧ ta = X + 18 ∧ tb = wb)
def fW (h : PH) (X wb n : Nat) (w0 : List Nat) (tw : Bool) (l : List Nat) : Prop := if tw = true then l.take n = w0 ∧ n ≤ l.length else ∃ cap bd wl ow, rw_ h (X + 18) wb cap bd wl ow ∧ wl.take n = w0 ∧ n ≤ wl.length
theorem fH.kp {h h' : PH} {X ra rb' lv n ta tb wb : Nat} {t w0 : List Nat} {ws : List (List Nat)} {E : Nat → Nat} {tw : Bool} (H : fH h X ra rb' lv t ws E n w0) (ht : fT X wb ta tb tw) (hw : (wb = X + 19 ∨ X + 57 ≤ wb) ∧ wb ≠ ra ∧ wb ≠ rb') (s : sm (rP ta tb) h h') : fH h' X ra rb' lv t ws E n w0 ∧ cfm X (rP ta tb) h h' := by
  obtain ⟨⟨d, r, a1, a2⟩, ⟨c1, c2⟩, c3⟩ := H
  have dN := d.1
  have hn := s.1
  have c : cfm X (rP ta tb) h h' := cfm.of s dN (fun k hk => by unfold crO at hk; unfold rP; unfold fT at ht; omega)
  have p20 := ((s.2.2 (X + 20) (by omega)).2.2 (by unfold rP; unfold fT at ht; omega)).2.2.2.1
  have p21 := ((s.2.2 (X + 21) (by omega)).2.2 (by unfold rP; unfold fT at ht; omega)).2.2.2.1
  refine ⟨⟨⟨d.keep c, r.keep s a1.2 a2.2 (by unfold rP; unfold fT at ht; omega) (by unfold rP; unfold fT at ht; omega), by omega, by omega⟩, ⟨by rw [p21]; exact c1, c2⟩, fun i hi => ?_⟩, c⟩
  rw [p20]
  exact c3 i hi
theorem fW.row {h : PH} {X wb n ta tb cap bd : Nat} {w0 l : List Nat} {o : Int32} {tw : Bool} (F : fW h X wb n w0 tw l) (ht : fT X wb ta tb tw) (r : rw_ h ta tb cap bd l o) : ∃ cap bd wl ow, rw_ h (X + 18) wb cap bd wl ow ∧ wl.take n = w0 ∧ n ≤ wl.length := by
  unfold fW at F
  rcases ht with ⟨e1, e2, e3⟩ | ⟨e1, e2, e3⟩
  · rw [e1, if_neg (by decide)] at F
    exact F
  · rw [e1, if_pos rfl] at F
    rw [e2, e3] at r
    exact ⟨_, _, _, _, r, F⟩
theorem fW.kp {h h' : PH} {X wb n ta tb : Nat} {w0 l x : List Nat} {tw : Bool} (F : fW h X wb n w0 tw l) (ht : fT X wb ta tb tw) (hw : (wb = X + 19 ∨ X + 57 ≤ wb) ∧ wb < hN h) (dN : X + 57 ≤ hN h) (s : sm (rP ta tb) h h') : fW h' X wb n w0 tw (l ++ x) := by
  unfold fW at *
  rcases ht with ⟨e1, e2, e3⟩ | ⟨e1, e2, e3⟩
  · subst e1
    rw [if_neg (by decide)] at F ⊢
    obtain ⟨cap, bd, wl, ow, r, r2⟩ := F
    exact ⟨cap, bd, wl, ow, r.keep s (by omega) hw.2 (by unfold rP; omega) (by unfold rP; omega), r2⟩
  · subst e1
    rw [if_pos rfl] at F ⊢
    exact ⟨by rw [List.take_append_of_le_length F.2]; exact F.1, by simp only [List.length_append]; omega⟩
section
variable {g X : Nat} {h : PH}
theorem k_hasWord {lv k n : Nat} (d : cl h X) (hl : lv < 8) (hk : k < 1000) (hn : n < 1000) (h21 : hA h (X + 21) lv = nI n) : cal g mX1_hasWord [va_rf (some (X + 15)), .int (nI lv), .int (nI k)] h = some (some (.int (bI (decide (k ≤ n)))), h) := by
  rw [n_X1_hasWord]
  by_cases c : k ≤ n
  · rw [decide_eq_true c, bI_t]
    simp (decide := true) (disch := omega) only [e_X1_hasWord_0, e_X1_hasWord_1, e_X1_hasWord_4, e_X1_hasWord_5, e_X1_hasWord_6, e_X1_hasWord_9, e_X1_hasWord_10, e_X1_hasWord_13, e_X1_hasWord_14, e_X1_hasWord_15, e_X1_hasWord_18, e_X1_hasWord_19, e_X1_hasWord_20, e_X1_hasWord_23, e_X1_hasWord_24, e_X1_hasWord_27, e_X1_hasWord_28, ↓reduceIte, if_true, if_false, reduceCtorEq, Nat.reduceAdd, true_and, and_true, false_and, and_false, true_or, or_true, false_or, or_false, not_true_eq_false, not_false_eq_true, Option.bind_eq_bind, Option.bind_some, psh, eq_self, l_0, l_1, l_2, l_3, l_4, l_5, l_6, l_7, l_8, l_9, l_10, l_11, l_12, l_13, l_14, l_15, l_16, l_17, l_18, l_19, l_20, l_24, l_31, l_32, l_33, l_35, l_36, l_48, l_56, l_57, l_58, l_63, l_65, l_80, l_81, l_90, l_91, l_93, l_94, l_95, l_97, l_100, l_105, l_107, l_110, l_111, l_116, l_120, l_121, l_122, l_123, l_124, l_125, l_126, l_162, l_255, l_300, l_400, l_420, l_432, l_1000, l_1400, l_1936, l_2000, l_2100, l_2400, l_24000, m_n1, m_n2, m_n3, nI_mul, nI_add, nI_sub, nI_ltT, nI_ltF, nI_leT, nI_leF, nI_eqT, nI_eqF, nI_nM, nM_nI, nM_eq, nM_lt, nM_le, nI_ltM, nI_leM, nI_inT, nI_dec, pk_rem, nI_ltI, nI_leI, nI_eq, nI_clamp, Nat.add_assoc, q_bv51, Nat.add_left_cancel_iff, clK_0 d, clK_1 d, clK_3 d, clK_5 d, clK_7 d, clK_8 d, clK_9 d, clK_11 d, clK_12 d, clK_13 d, clK_14 d, clK_15 d, clK_16 d, clK_18 d, clK_20 d, clK_21 d, clK_22 d, clK_23 d, clK_24 d, clK_25 d, clK_26 d, clR_0_0 d, clR_1_0 d, clR_2_0 d, clR_3_0 d, clR_7_0 d, clR_8_0 d, clR_9_0 d, clR_10_0 d, clR_11_0 d, clR_0_8 d, clR_0_11 d, clR_1_11 d, clR_2_11 d, clR_0_15 d, clR_1_15 d, clR_2_15 d, clR_3_15 d, clR_4_15 d, clR_5_15 d, clR_0_23 d, clR_1_23 d, clR_0_25 d, clL_7 d, clL_12 d, clL_13 d, clL_14 d, clL_20 d, clL_21 d, clL_22 d, clL_24 d, clS_0 d, clS_1 d, clS_2 d, clS_3 d, h21]
  · rw [decide_eq_false c, bI_f]
    simp (decide := true) (disch := omega) only [e_X1_hasWord_0, e_X1_hasWord_1, e_X1_hasWord_4, e_X1_hasWord_5, e_X1_hasWord_6, e_X1_hasWord_9, e_X1_hasWord_10, e_X1_hasWord_13, e_X1_hasWord_14, e_X1_hasWord_15, e_X1_hasWord_18, e_X1_hasWord_19, e_X1_hasWord_20, e_X1_hasWord_23, e_X1_hasWord_24, e_X1_hasWord_27, e_X1_hasWord_28, ↓reduceIte, if_true, if_false, reduceCtorEq, Nat.reduceAdd, true_and, and_true, false_and, and_false, true_or, or_true, false_or, or_false, not_true_eq_false, not_false_eq_true, Option.bind_eq_bind, Option.bind_some, psh, eq_self, l_0, l_1, l_2, l_3, l_4, l_5, l_6, l_7, l_8, l_9, l_10, l_11, l_12, l_13, l_14, l_15, l_16, l_17, l_18, l_19, l_20, l_24, l_31, l_32, l_33, l_35, l_36, l_48, l_56, l_57, l_58, l_63, l_65, l_80, l_81, l_90, l_91, l_93, l_94, l_95, l_97, l_100, l_105, l_107, l_110, l_111, l_116, l_120, l_121, l_122, l_123, l_124, l_125, l_126, l_162, l_255, l_300, l_400, l_420, l_432, l_1000, l_1400, l_1936, l_2000, l_2100, l_2400, l_24000, m_n1, m_n2, m_n3, nI_mul, nI_add, nI_sub, nI_ltT, nI_ltF, nI_leT, nI_leF, nI_eqT, nI_eqF, nI_nM, nM_nI, nM_eq, nM_lt, nM_le, nI_ltM, nI_leM, nI_inT, nI_dec, pk_rem, nI_ltI, nI_leI, nI_eq, nI_clamp, Nat.add_assoc, q_bv51, Nat.add_left_cancel_iff, clK_0 d, clK_1 d, clK_3 d, clK_5 d, clK_7 d, clK_8 d, clK_9 d, clK_11 d, clK_12 d, clK_13 d, clK_14 d, clK_15 d, clK_16 d, clK_18 d, clK_20 d, clK_21 d, clK_22 d, clK_23 d, clK_24 d, clK_25 d, clK_26 d, clR_0_0 d, clR_1_0 d, clR_2_0 d, clR_3_0 d, clR_7_0 d, clR_8_0 d, clR_9_0 d, clR_10_0 d, clR_11_0 d, clR_0_8 d, clR_0_11 d, clR_1_11 d, clR_2_11 d, clR_0_15 d, clR_1_15 d, clR_2_15 d, clR_3_15 d, clR_4_15 d, clR_5_15 d, clR_0_23 d, clR_1_23 d, clR_0_25 d, clL_7 d, clL_12 d, clL_13 d, clL_14 d, clL_20 d, clL_21 d, clL_22 d, clL_24 d, clS_0 d, clS_1 d, clS_2 d, clS_3 d, h21]
/-- what fill comes to -/
def fR (h' : PH) (ta tb cap bd : Nat) (l x : List Nat) : Prop := ∃ l' o', rw_ h' ta tb cap bd l' o' ∧ (∃ y, l' = l ++ y) ∧ (l.length + x.length ≤ bd → l' = l ++ x ∧ o' = nI 0) ∧ (bd < l.length + x.length → o' = nI 1)
theorem k_fill_end {ra rb' lv n ta tb wb cap bd e rest i : Nat} {t w0 l : List Nat} {ws : List (List Nat)} {E : Nat → Nat} {tw : Bool} {o : Int32} {l3 l8 l9 : Option Value} (H : fH h X ra rb' lv t ws E n w0) (hw : (wb = X + 19 ∨ X + 57 ≤ wb) ∧ wb ≠ ra ∧ wb ≠ rb') (ht : fT X wb ta tb tw) (r : rw_ h ta tb cap bd l o) (he : e ≤ t.length) (hr : rest < 1000) :
    ∃ h', ev g mX1_fill 132 [some (va_rf (some (X + 15))), some (va_rf (some ta)), some (va_rf (some ra)), l3, some (.int (nI e)), some (.int (nI lv)), some (.int (nI rest)), some (.int (nI i)), l8, l9] [] h = ev g mX1_fill 141 [some (va_rf (some (X + 15))), some (va_rf (some ta)), some (va_rf (some ra)), l3, some (.int (nI e)), some (.int (nI lv)), some (.int (nI rest)), some (.int (nI i)), l8, l9] [] h' ∧ rw_ h' ta tb cap bd (pll l t bd rest e) (plo l t bd rest e o) ∧ sm (rP ta tb) h h' ∧ hN h' = hN h ∧ hU h' = hU h := by
  have ht2 := H.2.1.2.2.2
  obtain ⟨h1, e1, r1, s1, n1, u1⟩ := r_putAll (g := g) (i := rest) (j := e) r H.1.2.1 (by omega) (by omega)
  have k6 := r.1.1
  refine ⟨h1, ?_, r1, s1, n1, u1⟩
  simp (decide := true) (disch := omega) only [e_X1_fill_132, e_X1_fill_133, e_X1_fill_134, e_X1_fill_136, e_X1_fill_138, ↓reduceIte, if_true, if_false, reduceCtorEq, Nat.reduceAdd, true_and, and_true, false_and, and_false, true_or, or_true, false_or, or_false, not_true_eq_false, not_false_eq_true, Option.bind_eq_bind, Option.bind_some, psh, eq_self, l_0, l_1, l_2, l_3, l_4, l_5, l_6, l_7, l_8, l_9, l_10, l_11, l_12, l_13, l_14, l_15, l_16, l_17, l_18, l_19, l_20, l_24, l_31, l_32, l_33, l_35, l_36, l_48, l_56, l_57, l_58, l_63, l_65, l_80, l_81, l_90, l_91, l_93, l_94, l_95, l_97, l_100, l_105, l_107, l_110, l_111, l_116, l_120, l_121, l_122, l_123, l_124, l_125, l_126, l_162, l_255, l_300, l_400, l_420, l_432, l_1000, l_1400, l_1936, l_2000, l_2100, l_2400, l_24000, m_n1, m_n2, m_n3, nI_mul, nI_add, nI_sub, nI_ltT, nI_ltF, nI_leT, nI_leF, nI_eqT, nI_eqF, nI_nM, nM_nI, nM_eq, nM_lt, nM_le, nI_ltM, nI_leM, nI_inT, nI_dec, pk_rem, nI_ltI, nI_leI, nI_eq, nI_clamp, Nat.add_assoc, q_bv51, Nat.add_left_cancel_iff, k6, e1]
theorem k_fill_loop {ra rb' lv n ta tb wb cap bd e : Nat} {t w0 : List Nat} {ws : List (List Nat)} {E : Nat → Nat} {tw : Bool} {l3 : Option Value} (hw : (wb = X + 19 ∨ X + 57 ≤ wb) ∧ wb ≠ ra ∧ wb ≠ rb') (ht : fT X wb ta tb tw) (he : e ≤ t.length) :
    ∀ m i rest (h : PH) (l : List Nat) (l8 l9 : Option Value), e ≤ i + m → rest ≤ i → i ≤ e → fH h X ra rb' lv t ws E n w0 → wb < hN h → rw_ h ta tb cap bd l (nI 0) → fW h X wb n w0 tw l →
    ∃ h' l6' l7' l8' l9', ev g mX1_fill 6 [some (va_rf (some (X + 15))), some (va_rf (some ta)), some (va_rf (some ra)), l3, some (.int (nI e)), some (.int (nI lv)), some (.int (nI rest)), some (.int (nI i)), l8, l9] [] h = ev g mX1_fill 141 [some (va_rf (some (X + 15))), some (va_rf (some ta)), some (va_rf (some ra)), l3, some (.int (nI e)), some (.int (nI lv)), l6', l7', l8', l9'] [] h' ∧ sm (rP ta tb) h h' ∧ hN h' = hN h ∧ hU h' = hU h ∧ fR h' ta tb cap bd l (slc t rest i ++ fil ws (slc t i e)) := by
  intro m
  induction m using Nat.strongRecOn with
  | ind m ih =>
  intro i rest h l l8 l9 hm hri hie H hwn r F
  have ⟨⟨d, rt, a1, a2⟩, ⟨c1, c2, c4, c5⟩, c3⟩ := H
  have dN := d.1
  have k6 := r.1.1
  have k6t := rt.1.1
  have hl := r.2.2.1
  have o3 := r.2.1.2.2
  have hb := rt.2.2.2.2
  by_cases ce : e ≤ i + 1
  · -- the end
    obtain ⟨h1, e1, r1, s1, n1, u1⟩ := k_fill_end (g := g) (l3 := l3) (i := i) (l8 := l8) (l9 := l9) H hw ht r he (rest := rest) (by omega)
    refine ⟨h1, some (.int (nI rest)), some (.int (nI i)), l8, l9, ?_, s1, n1, u1, ?_⟩
    · rw [e_X1_fill_6, ← e1]
      simp (decide := true) (disch := omega) only [e_X1_fill_8, e_X1_fill_9, e_X1_fill_10, e_X1_fill_12, e_X1_fill_15, e_X1_fill_16, e_X1_fill_19, e_X1_fill_22, e_X1_fill_23, e_X1_fill_25, e_X1_fill_28, e_X1_fill_30, e_X1_fill_33, e_X1_fill_34, e_X1_fill_36, e_X1_fill_37, e_X1_fill_38, e_X1_fill_41, e_X1_fill_43, e_X1_fill_44, e_X1_fill_47, e_X1_fill_48, e_X1_fill_50, e_X1_fill_52, e_X1_fill_54, e_X1_fill_55, e_X1_fill_57, e_X1_fill_58, e_X1_fill_60, e_X1_fill_62, e_X1_fill_63, e_X1_fill_66, e_X1_fill_67, e_X1_fill_69, e_X1_fill_71, e_X1_fill_74, e_X1_fill_77, e_X1_fill_79, e_X1_fill_80, e_X1_fill_83, e_X1_fill_84, e_X1_fill_87, e_X1_fill_88, e_X1_fill_89, e_X1_fill_91, e_X1_fill_93, e_X1_fill_96, e_X1_fill_97, e_X1_fill_98, e_X1_fill_101, e_X1_fill_102, e_X1_fill_105, e_X1_fill_107, e_X1_fill_108, e_X1_fill_109, e_X1_fill_110, e_X1_fill_111, e_X1_fill_114, e_X1_fill_116, e_X1_fill_117, e_X1_fill_120, e_X1_fill_122, e_X1_fill_123, e_X1_fill_124, e_X1_fill_126, e_X1_fill_129, ↓reduceIte, if_true, if_false, reduceCtorEq, Nat.reduceAdd, true_and, and_true, false_and, and_false, true_or, or_true, false_or, or_false, not_true_eq_false, not_false_eq_true, Option.bind_eq_bind, Option.bind_some, psh, eq_self, l_0, l_1, l_2, l_3, l_4, l_5, l_6, l_7, l_8, l_9, l_10, l_11, l_12, l_13, l_14, l_15, l_16, l_17, l_18, l_19, l_20, l_24, l_31, l_32, l_33, l_35, l_36, l_48, l_56, l_57, l_58, l_63, l_65, l_80, l_81, l_90, l_91, l_93, l_94, l_95, l_97, l_100, l_105, l_107, l_110, l_111, l_116, l_120, l_121, l_122, l_123, l_124, l_125, l_126, l_162, l_255, l_300, l_400, l_420, l_432, l_1000, l_1400, l_1936, l_2000, l_2100, l_2400, l_24000, m_n1, m_n2, m_n3, nI_mul, nI_add, nI_sub, nI_ltT, nI_ltF, nI_leT, nI_leF, nI_eqT, nI_eqF, nI_nM, nM_nI, nM_eq, nM_lt, nM_le, nI_ltM, nI_leM, nI_inT, nI_dec, pk_rem, nI_ltI, nI_leI, nI_eq, nI_clamp, Nat.add_assoc, q_bv51, Nat.add_left_cancel_iff]
    · rw [fil_short ce he, ← slc_app hri hie he]
      have hx : (slc t rest e).length = e - rest := slc_len he
      refine ⟨_, _, r1, pl_pre, fun z => ?_, fun z => ?_⟩
      · have := pl_fit (l := l) (l2 := t) (bd := bd) (i := rest) (j := e) (o := nI 0) (by omega) he (by omega)
        rw [this.1, this.2]
        exact ⟨rfl, rfl⟩
      · exact (pl_over he (by omega) (by omega)).2
  · have b0 : t.getD i 0 < 256 := by
      have : t.getD i 0 ∈ t := getD_mem (by omega)
      exact hb _ this
    have b1 : t.getD (i + 1) 0 < 256 := by
      have : t.getD (i + 1) 0 ∈ t := getD_mem (by omega)
      exact hb _ this
    have eb0 := r_byteAt (g := g) (i := nI i) rt
    rw [rbT (by omega) (by omega)] at eb0
    have eb1 := r_byteAt (g := g) (i := nI (i + 1)) rt
    rw [rbT (by omega) (by omega)] at eb1
    rw [fil_at (by omega) he]
    by_cases cI : t.getD i 0 = 36 ∧ 49 ≤ t.getD (i + 1) 0 ∧ t.getD (i + 1) 0 ≤ 57 ∧ t.getD (i + 1) 0 - 48 ≤ ws.length
    · rw [if_pos cI]
      obtain ⟨i1, i2, i3, i4⟩ := cI
      rw [i1] at eb0
      obtain ⟨k, hk⟩ : ∃ k, t.getD (i + 1) 0 = k + 49 := ⟨t.getD (i + 1) 0 - 49, by omega⟩
      rw [hk] at eb1 i4 ⊢
      rw [show k + 49 - 49 = k by omega]
      have hk9 : k < ws.length := by omega
      obtain ⟨E1, E2, E3, E4, E5⟩ := c3 k hk9
      have eh := k_hasWord (g := g) (k := k + 1) d c4 (by omega) (by omega) c1
      rw [decide_eq_true (by omega), bI_t] at eh
      have hsub : nI (k + 49) - nI 48 = nI (k + 1) := by rw [nI_sub (by omega), show k + 49 - 48 = k + 1 by omega]
      -- what stands before it
      obtain ⟨h1, e1, r1, s1, n1, u1⟩ := r_putAll (g := g) (i := rest) (j := i) r rt (by omega) (by omega)
      obtain ⟨H1, cf1⟩ := H.kp ht hw s1
      obtain ⟨x1, hx1⟩ := pl_pre (l := l) (l2 := t) (bd := bd) (i := rest) (j := i)
      rw [hx1] at r1
      have F1 : fW h1 X wb n w0 tw (l ++ x1) := F.kp ht ⟨hw.1, hwn⟩ dN s1
      obtain ⟨cw, bw, wl, ow, rw1, wl1, wl2⟩ := F1.row ht r1
      have hwl := rw1.2.2.1
      -- the word
      obtain ⟨h2, e2, r2, s2, n2, u2⟩ := r_putAll (g := g) (i := E k) (j := E (k + 1)) r1 rw1 (by omega) (by omega)
      obtain ⟨H2, cf2⟩ := H1.kp ht hw s2
      obtain ⟨x2, hx2⟩ := pl_pre (l := l ++ x1) (l2 := wl) (bd := bd) (i := E k) (j := E (k + 1))
      rw [hx2] at r2
      have F2 : fW h2 X wb n w0 tw (l ++ x1 ++ x2) := F1.kp ht ⟨hw.1, by omega⟩ H1.1.1.1 s2
      have d1 := H1.1.1
      have d2 := H2.1.1
      have k61 := r1.1.1
      have k62 := r2.1.1
      have kw := rw1.1.1
      have E1' : hA h1 (X + 20) (lv * 10 + k) = nI (E k) := (H1.2.2 k hk9).1
      have E2' : hA h1 (X + 20) (lv * 10 + (k + 1)) = nI (E (k + 1)) := (H1.2.2 k hk9).2.1
      have hidx : lv * 10 + (k + 1) - 1 = lv * 10 + k := by omega
      have sg1 : slc wl (E k) (E (k + 1)) = ws.getD k [] := by
        rw [← E5, ← wl1]
        unfold slc
        rw [List.drop_take, List.take_take, Nat.min_eq_left (by omega)]
      have lg1 : (ws.getD k []).length = E (k + 1) - E k := by rw [← sg1]; exact slc_len (by omega)
      have lg0 : (slc t rest i).length = i - rest := slc_len (by omega)
      have go : ev g mX1_fill 6 [some (va_rf (some (X + 15))), some (va_rf (some ta)), some (va_rf (some ra)), l3, some (.int (nI e)), some (.int (nI lv)), some (.int (nI rest)), some (.int (nI i)), l8, l9] [] h = ev g mX1_fill 6 [some (va_rf (some (X + 15))), some (va_rf (some ta)), some (va_rf (some ra)), l3, some (.int (nI e)), some (.int (nI lv)), some (.int (nI (i + 2))), some (.int (nI (i + 1))), some (.int (nI (k + 1))), some (.int (nI (lv * 10 + (k + 1))))] [] h2 := by
        rw [e_X1_fill_6]
        simp (decide := true) (disch := omega) only [e_X1_fill_8, e_X1_fill_9, e_X1_fill_10, e_X1_fill_12, e_X1_fill_15, e_X1_fill_16, e_X1_fill_19, e_X1_fill_22, e_X1_fill_23, e_X1_fill_25, e_X1_fill_28, e_X1_fill_30, e_X1_fill_33, e_X1_fill_34, e_X1_fill_36, e_X1_fill_37, e_X1_fill_38, e_X1_fill_41, e_X1_fill_43, e_X1_fill_44, e_X1_fill_47, e_X1_fill_48, e_X1_fill_50, e_X1_fill_52, e_X1_fill_54, e_X1_fill_55, e_X1_fill_57, e_X1_fill_58, e_X1_fill_60, e_X1_fill_62, e_X1_fill_63, e_X1_fill_66, e_X1_fill_67, e_X1_fill_69, e_X1_fill_71, e_X1_fill_74, e_X1_fill_77, e_X1_fill_79, e_X1_fill_80, e_X1_fill_83, e_X1_fill_84, e_X1_fill_87, e_X1_fill_88, e_X1_fill_89, e_X1_fill_91, e_X1_fill_93, e_X1_fill_96, e_X1_fill_97, e_X1_fill_98, e_X1_fill_101, e_X1_fill_102, e_X1_fill_105, e_X1_fill_107, e_X1_fill_108, e_X1_fill_109, e_X1_fill_110, e_X1_fill_111, e_X1_fill_114, e_X1_fill_116, e_X1_fill_117, e_X1_fill_120, e_X1_fill_122, e_X1_fill_123, e_X1_fill_124, e_X1_fill_126, e_X1_fill_129, ↓reduceIte, if_true, if_false, reduceCtorEq, Nat.reduceAdd, true_and, and_true, false_and, and_false, true_or, or_true, false_or, or_false, not_true_eq_false, not_false_eq_true, Option.bind_eq_bind, Option.bind_some, psh, eq_self, l_0, l_1, l_2, l_3, l_4, l_5, l_6, l_7, l_8, l_9, l_10, l_11, l_12, l_13, l_14, l_15, l_16, l_17, l_18, l_19, l_20, l_24, l_31, l_32, l_33, l_35, l_36, l_48, l_56, l_57, l_58, l_63, l_65, l_80, l_81, l_90, l_91, l_93, l_94, l_95, l_97, l_100, l_105, l_107, l_110, l_111, l_116, l_120, l_121, l_122, l_123, l_124, l_125, l_126, l_162, l_255, l_300, l_400, l_420, l_432, l_1000, l_1400, l_1936, l_2000, l_2100, l_2400, l_24000, m_n1, m_n2, m_n3, nI_mul, nI_add, nI_sub, nI_ltT, nI_ltF, nI_leT, nI_leF, nI_eqT, nI_eqF, nI_nM, nM_nI, nM_eq, nM_lt, nM_le, nI_ltM, nI_leM, nI_inT, nI_dec, pk_rem, nI_ltI, nI_leI, nI_eq, nI_clamp, Nat.add_assoc, q_bv51, Nat.add_left_cancel_iff, k6, o3, k6t, eb0, eb1, hsub, eh, clK_0 d, clK_1 d, clK_3 d, clK_5 d, clK_7 d, clK_8 d, clK_9 d, clK_11 d, clK_12 d, clK_13 d, clK_14 d, clK_15 d, clK_16 d, clK_18 d, clK_20 d, clK_21 d, clK_22 d, clK_23 d, clK_24 d, clK_25 d, clK_26 d, clR_0_0 d, clR_1_0 d, clR_2_0 d, clR_3_0 d, clR_7_0 d, clR_8_0 d, clR_9_0 d, clR_10_0 d, clR_11_0 d, clR_0_8 d, clR_0_11 d, clR_1_11 d, clR_2_11 d, clR_0_15 d, clR_1_15 d, clR_2_15 d, clR_3_15 d, clR_4_15 d, clR_5_15 d, clR_0_23 d, clR_1_23 d, clR_0_25 d, clL_7 d, clL_12 d, clL_13 d, clL_14 d, clL_20 d, clL_21 d, clL_22 d, clL_24 d, clS_0 d, clS_1 d, clS_2 d, clS_3 d, e1, clK_0 d1, clK_1 d1, clK_3 d1, clK_5 d1, clK_7 d1, clK_8 d1, clK_9 d1, clK_11 d1, clK_12 d1, clK_13 d1, clK_14 d1, clK_15 d1, clK_16 d1, clK_18 d1, clK_20 d1, clK_21 d1, clK_22 d1, clK_23 d1, clK_24 d1, clK_25 d1, clK_26 d1, clR_0_0 d1, clR_1_0 d1, clR_2_0 d1, clR_3_0 d1, clR_7_0 d1, clR_8_0 d1, clR_9_0 d1, clR_10_0 d1, clR_11_0 d1, clR_0_8 d1, clR_0_11 d1, clR_1_11 d1, clR_2_11 d1, clR_0_15 d1, clR_1_15 d1, clR_2_15 d1, clR_3_15 d1, clR_4_15 d1, clR_5_15 d1, clR_0_23 d1, clR_1_23 d1, clR_0_25 d1, clL_7 d1, clL_12 d1, clL_13 d1, clL_14 d1, clL_20 d1, clL_21 d1, clL_22 d1, clL_24 d1, clS_0 d1, clS_1 d1, clS_2 d1, clS_3 d1, k61, E1', E2', hidx, e2, kw]
      rw [go]
      have s12 := s1.tr s2
      by_cases c1' : bd < l.length + (i - rest) + (ws.getD k []).length
      · -- too much
        have ov : plo (l ++ x1) wl bd (E k) (E (k + 1)) (plo l t bd rest i (nI 0)) = nI 1 := by
          by_cases c0 : bd < l.length + (i - rest)
          · rw [(pl_over (o := nI 0) (show i ≤ t.length by omega) (by omega) c0).2]
            exact plo_1
          · have p1 := pl_fit (l := l) (l2 := t) (bd := bd) (i := rest) (j := i) (o := nI 0) hri (by omega) (by omega)
            rw [p1.1] at hx1
            have : x1 = slc t rest i := (List.append_cancel_left hx1).symm
            rw [p1.2]
            have hlen : (l ++ x1).length = l.length + (i - rest) := by rw [this, List.length_append, lg0]
            exact (pl_over (by omega) (by omega) (by omega)).2
        rw [ov] at r2
        have o32 := r2.2.1.2.2
        obtain ⟨h3, e3, r3, s3, n3, u3⟩ := k_fill_end (g := g) (l3 := l3) (i := i + 1) (l8 := some (.int (nI (k + 1)))) (l9 := some (.int (nI (lv * 10 + (k + 1))))) H2 hw ht r2 he (rest := i + 2) (by omega)
        refine ⟨h3, some (.int (nI (i + 2))), some (.int (nI (i + 1))), some (.int (nI (k + 1))), some (.int (nI (lv * 10 + (k + 1)))), ?_, s12.tr s3, by omega, by omega, ?_⟩
        · rw [e_X1_fill_6, ← e3]
          by_cases ce2 : e ≤ i + 2
          · simp (decide := true) (disch := omega) only [e_X1_fill_8, e_X1_fill_9, e_X1_fill_10, e_X1_fill_12, e_X1_fill_15, e_X1_fill_16, e_X1_fill_19, e_X1_fill_22, e_X1_fill_23, e_X1_fill_25, e_X1_fill_28, e_X1_fill_30, e_X1_fill_33, e_X1_fill_34, e_X1_fill_36, e_X1_fill_37, e_X1_fill_38, e_X1_fill_41, e_X1_fill_43, e_X1_fill_44, e_X1_fill_47, e_X1_fill_48, e_X1_fill_50, e_X1_fill_52, e_X1_fill_54, e_X1_fill_55, e_X1_fill_57, e_X1_fill_58, e_X1_fill_60, e_X1_fill_62, e_X1_fill_63, e_X1_fill_66, e_X1_fill_67, e_X1_fill_69, e_X1_fill_71, e_X1_fill_74, e_X1_fill_77, e_X1_fill_79, e_X1_fill_80, e_X1_fill_83, e_X1_fill_84, e_X1_fill_87, e_X1_fill_88, e_X1_fill_89, e_X1_fill_91, e_X1_fill_93, e_X1_fill_96, e_X1_fill_97, e_X1_fill_98, e_X1_fill_101, e_X1_fill_102, e_X1_fill_105, e_X1_fill_107, e_X1_fill_108, e_X1_fill_109, e_X1_fill_110, e_X1_fill_111, e_X1_fill_114, e_X1_fill_116, e_X1_fill_117, e_X1_fill_120, e_X1_fill_122, e_X1_fill_123, e_X1_fill_124, e_X1_fill_126, e_X1_fill_129, ↓reduceIte, if_true, if_false, reduceCtorEq, Nat.reduceAdd, true_and, and_true, false_and, and_false, true_or, or_true, false_or, or_false, not_true_eq_false, not_false_eq_true, Option.bind_eq_bind, Option.bind_some, psh, eq_self, l_0, l_1, l_2, l_3, l_4, l_5, l_6, l_7, l_8, l_9, l_10, l_11, l_12, l_13, l_14, l_15, l_16, l_17, l_18, l_19, l_20, l_24, l_31, l_32, l_33, l_35, l_36, l_48, l_56, l_57, l_58, l_63, l_65, l_80, l_81, l_90, l_91, l_93, l_94, l_95, l_97, l_100, l_105, l_107, l_110, l_111, l_116, l_120, l_121, l_122, l_123, l_124, l_125, l_126, l_162, l_255, l_300, l_400, l_420, l_432, l_1000, l_1400, l_1936, l_2000, l_2100, l_2400, l_24000, m_n1, m_n2, m_n3, nI_mul, nI_add, nI_sub, nI_ltT, nI_ltF, nI_leT, nI_leF, nI_eqT, nI_eqF, nI_nM, nM_nI, nM_eq, nM_lt, nM_le, nI_ltM, nI_leM, nI_inT, nI_dec, pk_rem, nI_ltI, nI_leI, nI_eq, nI_clamp, Nat.add_assoc, q_bv51, Nat.add_left_cancel_iff]
          · simp (decide := true) (disch := omega) only [e_X1_fill_8, e_X1_fill_9, e_X1_fill_10, e_X1_fill_12, e_X1_fill_15, e_X1_fill_16, e_X1_fill_19, e_X1_fill_22, e_X1_fill_23, e_X1_fill_25, e_X1_fill_28, e_X1_fill_30, e_X1_fill_33, e_X1_fill_34, e_X1_fill_36, e_X1_fill_37, e_X1_fill_38, e_X1_fill_41, e_X1_fill_43, e_X1_fill_44, e_X1_fill_47, e_X1_fill_48, e_X1_fill_50, e_X1_fill_52, e_X1_fill_54, e_X1_fill_55, e_X1_fill_57, e_X1_fill_58, e_X1_fill_60, e_X1_fill_62, e_X1_fill_63, e_X1_fill_66, e_X1_fill_67, e_X1_fill_69, e_X1_fill_71, e_X1_fill_74, e_X1_fill_77, e_X1_fill_79, e_X1_fill_80, e_X1_fill_83, e_X1_fill_84, e_X1_fill_87, e_X1_fill_88, e_X1_fill_89, e_X1_fill_91, e_X1_fill_93, e_X1_fill_96, e_X1_fill_97, e_X1_fill_98, e_X1_fill_101, e_X1_fill_102, e_X1_fill_105, e_X1_fill_107, e_X1_fill_108, e_X1_fill_109, e_X1_fill_110, e_X1_fill_111, e_X1_fill_114, e_X1_fill_116, e_X1_fill_117, e_X1_fill_120, e_X1_fill_122, e_X1_fill_123, e_X1_fill_124, e_X1_fill_126, e_X1_fill_129, ↓reduceIte, if_true, if_false, reduceCtorEq, Nat.reduceAdd, true_and, and_true, false_and, and_false, true_or, or_true, false_or, or_false, not_true_eq_false, not_false_eq_true, Option.bind_eq_bind, Option.bind_some, psh, eq_self, l_0, l_1, l_2, l_3, l_4, l_5, l_6, l_7, l_8, l_9, l_10, l_11, l_12, l_13, l_14, l_15, l_16, l_17, l_18, l_19, l_20, l_24, l_31, l_32, l_33, l_35, l_36, l_48, l_56, l_57, l_58, l_63, l_65, l_80, l_81, l_90, l_91, l_93, l_94, l_95, l_97, l_100, l_105, l_107, l_110, l_111, l_116, l_120, l_121, l_122, l_123, l_124, l_125, l_126, l_162, l_255, l_300, l_400, l_420, l_432, l_1000, l_1400, l_1936, l_2000, l_2100, l_2400, l_24000, m_n1, m_n2, m_n3, nI_mul, nI_add, nI_sub, nI_ltT, nI_ltF, nI_leT, nI_leF, nI_eqT, nI_eqF, nI_nM, nM_nI, nM_eq, nM_lt, nM_le, nI_ltM, nI_leM, nI_inT, nI_dec, pk_rem, nI_ltI, nI_leI, nI_eq, nI_clamp, Nat.add_assoc, q_bv51, Nat.add_left_cancel_iff, k62, o32]
        · obtain ⟨y, hy⟩ := pl_pre (l := l ++ x1 ++ x2) (l2 := t) (bd := bd) (i := i + 2) (j := e)
          refine ⟨_, _, r3, ⟨x1 ++ x2 ++ y, by rw [hy]; simp [List.append_assoc]⟩, fun z => ?_, fun z => plo_1⟩
          simp only [List.length_append] at z
          omega
      · -- it fits
        have p1 := pl_fit (l := l) (l2 := t) (bd := bd) (i := rest) (j := i) (o := nI 0) hri (by omega) (by omega)
        rw [p1.1] at hx1
        have hx1' : x1 = slc t rest i := (List.append_cancel_left hx1).symm
        subst hx1'
        rw [p1.2] at r2
        have p2 := pl_fit (l := l ++ slc t rest i) (l2 := wl) (bd := bd) (i := E k) (j := E (k + 1)) (o := nI 0) E3 (by omega) (by rw [List.length_append, lg0]; omega)
        rw [p2.1] at hx2
        have hx2' : x2 = ws.getD k [] := by rw [← sg1]; exact (List.append_cancel_left hx2).symm
        subst hx2'
        rw [p2.2] at r2
        have o32 := r2.2.1.2.2
        by_cases ce2 : e ≤ i + 2
        · have e22 : e = i + 2 := by omega
          obtain ⟨h3, e3, r3, s3, n3, u3⟩ := k_fill_end (g := g) (l3 := l3) (i := i + 1) (l8 := some (.int (nI (k + 1)))) (l9 := some (.int (nI (lv * 10 + (k + 1))))) H2 hw ht r2 he (rest := i + 2) (by omega)
          refine ⟨h3, some (.int (nI (i + 2))), some (.int (nI (i + 1))), some (.int (nI (k + 1))), some (.int (nI (lv * 10 + (k + 1)))), ?_, s12.tr s3, by omega, by omega, ?_⟩
          · rw [e_X1_fill_6, ← e3]
            simp (decide := true) (disch := omega) only [e_X1_fill_8, e_X1_fill_9, e_X1_fill_10, e_X1_fill_12, e_X1_fill_15, e_X1_fill_16, e_X1_fill_19, e_X1_fill_22, e_X1_fill_23, e_X1_fill_25, e_X1_fill_28, e_X1_fill_30, e_X1_fill_33, e_X1_fill_34, e_X1_fill_36, e_X1_fill_37, e_X1_fill_38, e_X1_fill_41, e_X1_fill_43, e_X1_fill_44, e_X1_fill_47, e_X1_fill_48, e_X1_fill_50, e_X1_fill_52, e_X1_fill_54, e_X1_fill_55, e_X1_fill_57, e_X1_fill_58, e_X1_fill_60, e_X1_fill_62, e_X1_fill_63, e_X1_fill_66, e_X1_fill_67, e_X1_fill_69, e_X1_fill_71, e_X1_fill_74, e_X1_fill_77, e_X1_fill_79, e_X1_fill_80, e_X1_fill_83, e_X1_fill_84, e_X1_fill_87, e_X1_fill_88, e_X1_fill_89, e_X1_fill_91, e_X1_fill_93, e_X1_fill_96, e_X1_fill_97, e_X1_fill_98, e_X1_fill_101, e_X1_fill_102, e_X1_fill_105, e_X1_fill_107, e_X1_fill_108, e_X1_fill_109, e_X1_fill_110, e_X1_fill_111, e_X1_fill_114, e_X1_fill_116, e_X1_fill_117, e_X1_fill_120, e_X1_fill_122, e_X1_fill_123, e_X1_fill_124, e_X1_fill_126, e_X1_fill_129, ↓reduceIte, if_true, if_false, reduceCtorEq, Nat.reduceAdd, true_and, and_true, false_and, and_false, true_or, or_true, false_or, or_false, not_true_eq_false, not_false_eq_true, Option.bind_eq_bind, Option.bind_some, psh, eq_self, l_0, l_1, l_2, l_3, l_4, l_5, l_6, l_7, l_8, l_9, l_10, l_11, l_12, l_13, l_14, l_15, l_16, l_17, l_18, l_19, l_20, l_24, l_31, l_32, l_33, l_35, l_36, l_48, l_56, l_57, l_58, l_63, l_65, l_80, l_81, l_90, l_91, l_93, l_94, l_95, l_97, l_100, l_105, l_107, l_110, l_111, l_116, l_120, l_121, l_122, l_123, l_124, l_125, l_126, l_162, l_255, l_300, l_400, l_420, l_432, l_1000, l_1400, l_1936, l_2000, l_2100, l_2400, l_24000, m_n1, m_n2, m_n3, nI_mul, nI_add, nI_sub, nI_ltT, nI_ltF, nI_leT, nI_leF, nI_eqT, nI_eqF, nI_nM, nM_nI, nM_eq, nM_lt, nM_le, nI_ltM, nI_leM, nI_inT, nI_dec, pk_rem, nI_ltI, nI_leI, nI_eq, nI_clamp, Nat.add_assoc, q_bv51, Nat.add_left_cancel_iff]
          · have p3 := pl_fit (l := l ++ slc t rest i ++ ws.getD k []) (l2 := t) (bd := bd) (i := i + 2) (j := e) (o := nI 0) (by omega) he (by simp only [List.length_append, lg0]; omega)
            rw [p3.1, p3.2] at r3
            rw [slc_nil (show e ≤ i + 2 by omega)] at r3 ⊢
            refine ⟨_, _, r3, ⟨slc t rest i ++ ws.getD k [], by simp [List.append_assoc]⟩, fun z => ⟨by simp [List.append_assoc, fil], rfl⟩, fun z => ?_⟩
            simp only [List.length_append, fil, List.length_nil, lg0] at z
            omega
        · -- one byte more, a digit
          have eb2 : cal g mX6_byteAt [va_rf (some ra), .int (nI (i + 1))] h2 = some (some (.int (nI (k + 49))), h2) := by
            have := r_byteAt (g := g) (i := nI (i + 1)) H2.1.2.1
            rw [rbT (by omega) (by omega), hk] at this
            exact this
          obtain ⟨h3, l6', l7', l8', l9', e3, s3, n3, u3, l', o', q1, q2, q3, q4⟩ := ih (m - 2) (by omega) (i + 2) (i + 2) h2 (l ++ slc t rest i ++ ws.getD k []) (some (.int (nI 0))) (some (.int (nI (lv * 10)))) (by omega) (Nat.le_refl _) (by omega) H2 (by omega) r2 F2
          refine ⟨h3, l6', l7', l8', l9', ?_, s12.tr s3, by omega, by omega, l', o', q1, ?_, fun z => ?_, fun z => ?_⟩
          · rw [← e3, e_X1_fill_6]
            simp (decide := true) (disch := omega) only [e_X1_fill_8, e_X1_fill_9, e_X1_fill_10, e_X1_fill_12, e_X1_fill_15, e_X1_fill_16, e_X1_fill_19, e_X1_fill_22, e_X1_fill_23, e_X1_fill_25, e_X1_fill_28, e_X1_fill_30, e_X1_fill_33, e_X1_fill_34, e_X1_fill_36, e_X1_fill_37, e_X1_fill_38, e_X1_fill_41, e_X1_fill_43, e_X1_fill_44, e_X1_fill_47, e_X1_fill_48, e_X1_fill_50, e_X1_fill_52, e_X1_fill_54, e_X1_fill_55, e_X1_fill_57, e_X1_fill_58, e_X1_fill_60, e_X1_fill_62, e_X1_fill_63, e_X1_fill_66, e_X1_fill_67, e_X1_fill_69, e_X1_fill_71, e_X1_fill_74, e_X1_fill_77, e_X1_fill_79, e_X1_fill_80, e_X1_fill_83, e_X1_fill_84, e_X1_fill_87, e_X1_fill_88, e_X1_fill_89, e_X1_fill_91, e_X1_fill_93, e_X1_fill_96, e_X1_fill_97, e_X1_fill_98, e_X1_fill_101, e_X1_fill_102, e_X1_fill_105, e_X1_fill_107, e_X1_fill_108, e_X1_fill_109, e_X1_fill_110, e_X1_fill_111, e_X1_fill_114, e_X1_fill_116, e_X1_fill_117, e_X1_fill_120, e_X1_fill_122, e_X1_fill_123, e_X1_fill_124, e_X1_fill_126, e_X1_fill_129, ↓reduceIte, if_true, if_false, reduceCtorEq, Nat.reduceAdd, true_and, and_true, false_and, and_false, true_or, or_true, false_or, or_false, not_true_eq_false, not_false_eq_true, Option.bind_eq_bind, Option.bind_some, psh, eq_self, l_0, l_1, l_2, l_3, l_4, l_5, l_6, l_7, l_8, l_9, l_10, l_11, l_12, l_13, l_14, l_15, l_16, l_17, l_18, l_19, l_20, l_24, l_31, l_32, l_33, l_35, l_36, l_48, l_56, l_57, l_58, l_63, l_65, l_80, l_81, l_90, l_91, l_93, l_94, l_95, l_97, l_100, l_105, l_107, l_110, l_111, l_116, l_120, l_121, l_122, l_123, l_124, l_125, l_126, l_162, l_255, l_300, l_400, l_420, l_432, l_1000, l_1400, l_1936, l_2000, l_2100, l_2400, l_24000, m_n1, m_n2, m_n3, nI_mul, nI_add, nI_sub, nI_ltT, nI_ltF, nI_leT, nI_leF, nI_eqT, nI_eqF, nI_nM, nM_nI, nM_eq, nM_lt, nM_le, nI_ltM, nI_leM, nI_inT, nI_dec, pk_rem, nI_ltI, nI_leI, nI_eq, nI_clamp, Nat.add_assoc, q_bv51, Nat.add_left_cancel_iff, k62, o32, k6t, eb2, clK_0 d2, clK_1 d2, clK_3 d2, clK_5 d2, clK_7 d2, clK_8 d2, clK_9 d2, clK_11 d2, clK_12 d2, clK_13 d2, clK_14 d2, clK_15 d2, clK_16 d2, clK_18 d2, clK_20 d2, clK_21 d2, clK_22 d2, clK_23 d2, clK_24 d2, clK_25 d2, clK_26 d2, clR_0_0 d2, clR_1_0 d2, clR_2_0 d2, clR_3_0 d2, clR_7_0 d2, clR_8_0 d2, clR_9_0 d2, clR_10_0 d2, clR_11_0 d2, clR_0_8 d2, clR_0_11 d2, clR_1_11 d2, clR_2_11 d2, clR_0_15 d2, clR_1_15 d2, clR_2_15 d2, clR_3_15 d2, clR_4_15 d2, clR_5_15 d2, clR_0_23 d2, clR_1_23 d2, clR_0_25 d2, clL_7 d2, clL_12 d2, clL_13 d2, clL_14 d2, clL_20 d2, clL_21 d2, clL_22 d2, clL_24 d2, clS_0 d2, clS_1 d2, clS_2 d2, clS_3 d2, H2.1.2.1.1.1, Nat.add_zero]
          · obtain ⟨y, hy⟩ := q2
            exact ⟨slc t rest i ++ ws.getD k [] ++ y, by rw [hy]; simp [List.append_assoc]⟩
          · rw [slc_nil (Nat.le_refl _), List.nil_append] at q3
            have := q3 (by simp only [List.length_append] at z ⊢; omega)
            exact ⟨by rw [this.1]; simp [List.append_assoc], this.2⟩
          · rw [slc_nil (Nat.le_refl _), List.nil_append] at q4
            exact q4 (by simp only [List.length_append] at z ⊢; omega)
    · -- a plain byte
      rw [if_neg cI]
      have go : ∃ l8'' l9'', ev g mX1_fill 6 [some (va_rf (some (X + 15))), some (va_rf (some ta)), some (va_rf (some ra)), l3, some (.int (nI e)), some (.int (nI lv)), some (.int (nI rest)), some (.int (nI i)), l8, l9] [] h = ev g mX1_fill 6 [some (va_rf (some (X + 15))), some (va_rf (some ta)), some (va_rf (some ra)), l3, some (.int (nI e)), some (.int (nI lv)), some (.int (nI rest)), some (.int (nI (i + 1))), l8'', l9''] [] h := by
        by_cases c36 : t.getD i 0 = 36
        · rw [c36] at eb0
          by_cases c48 : t.getD (i + 1) 0 ≤ 48
          · have hv : nI (t.getD (i + 1) 0) - nI 48 < nI 1 := by
              rw [Int32.lt_iff_toInt_lt, sub_toInt (by omega) (by omega), nI_toInt (by omega)]
              omega
            obtain ⟨v, hv0⟩ : ∃ v, nI (t.getD (i + 1) 0) - nI 48 = v := ⟨_, rfl⟩
            rw [hv0] at hv
            refine ⟨some (.int v), some (.int (nI (lv * 10) + v)), ?_⟩
            rw [e_X1_fill_6]
            simp (decide := true) (disch := omega) only [e_X1_fill_8, e_X1_fill_9, e_X1_fill_10, e_X1_fill_12, e_X1_fill_15, e_X1_fill_16, e_X1_fill_19, e_X1_fill_22, e_X1_fill_23, e_X1_fill_25, e_X1_fill_28, e_X1_fill_30, e_X1_fill_33, e_X1_fill_34, e_X1_fill_36, e_X1_fill_37, e_X1_fill_38, e_X1_fill_41, e_X1_fill_43, e_X1_fill_44, e_X1_fill_47, e_X1_fill_48, e_X1_fill_50, e_X1_fill_52, e_X1_fill_54, e_X1_fill_55, e_X1_fill_57, e_X1_fill_58, e_X1_fill_60, e_X1_fill_62, e_X1_fill_63, e_X1_fill_66, e_X1_fill_67, e_X1_fill_69, e_X1_fill_71, e_X1_fill_74, e_X1_fill_77, e_X1_fill_79, e_X1_fill_80, e_X1_fill_83, e_X1_fill_84, e_X1_fill_87, e_X1_fill_88, e_X1_fill_89, e_X1_fill_91, e_X1_fill_93, e_X1_fill_96, e_X1_fill_97, e_X1_fill_98, e_X1_fill_101, e_X1_fill_102, e_X1_fill_105, e_X1_fill_107, e_X1_fill_108, e_X1_fill_109, e_X1_fill_110, e_X1_fill_111, e_X1_fill_114, e_X1_fill_116, e_X1_fill_117, e_X1_fill_120, e_X1_fill_122, e_X1_fill_123, e_X1_fill_124, e_X1_fill_126, e_X1_fill_129, ↓reduceIte, if_true, if_false, reduceCtorEq, Nat.reduceAdd, true_and, and_true, false_and, and_false, true_or, or_true, false_or, or_false, not_true_eq_false, not_false_eq_true, Option.bind_eq_bind, Option.bind_some, psh, eq_self, l_0, l_1, l_2, l_3, l_4, l_5, l_6, l_7, l_8, l_9, l_10, l_11, l_12, l_13, l_14, l_15, l_16, l_17, l_18, l_19, l_20, l_24, l_31, l_32, l_33, l_35, l_36, l_48, l_56, l_57, l_58, l_63, l_65, l_80, l_81, l_90, l_91, l_93, l_94, l_95, l_97, l_100, l_105, l_107, l_110, l_111, l_116, l_120, l_121, l_122, l_123, l_124, l_125, l_126, l_162, l_255, l_300, l_400, l_420, l_432, l_1000, l_1400, l_1936, l_2000, l_2100, l_2400, l_24000, m_n1, m_n2, m_n3, nI_mul, nI_add, nI_sub, nI_ltT, nI_ltF, nI_leT, nI_leF, nI_eqT, nI_eqF, nI_nM, nM_nI, nM_eq, nM_lt, nM_le, nI_ltM, nI_leM, nI_inT, nI_dec, pk_rem, nI_ltI, nI_leI, nI_eq, nI_clamp, Nat.add_assoc, q_bv51, Nat.add_left_cancel_iff, k6, o3, k6t, eb0, eb1, hv0, hv, clK_0 d, clK_1 d, clK_3 d, clK_5 d, clK_7 d, clK_8 d, clK_9 d, clK_11 d, clK_12 d, clK_13 d, clK_14 d, clK_15 d, clK_16 d, clK_18 d, clK_20 d, clK_21 d, clK_22 d, clK_23 d, clK_24 d, clK_25 d, clK_26 d, clR_0_0 d, clR_1_0 d, clR_2_0 d, clR_3_0 d, clR_7_0 d, clR_8_0 d, clR_9_0 d, clR_10_0 d, clR_11_0 d, clR_0_8 d, clR_0_11 d, clR_1_11 d, clR_2_11 d, clR_0_15 d, clR_1_15 d, clR_2_15 d, clR_3_15 d, clR_4_15 d, clR_5_15 d, clR_0_23 d, clR_1_23 d, clR_0_25 d, clL_7 d, clL_12 d, clL_13 d, clL_14 d, clL_20 d, clL_21 d, clL_22 d, clL_24 d, clS_0 d, clS_1 d, clS_2 d, clS_3 d]
          · obtain ⟨k, hk⟩ : ∃ k, t.getD (i + 1) 0 = k + 48 := ⟨t.getD (i + 1) 0 - 48, by omega⟩
            rw [hk] at eb1
            have hsub : nI (k + 48) - nI 48 = nI k := by rw [nI_sub (by omega), Nat.add_sub_cancel]
            have eh := k_hasWord (g := g) (k := k) d c4 (by omega) (by omega) c1
            rw [decide_eq_false (by omega), bI_f] at eh
            refine ⟨some (.int (nI k)), some (.int (nI (lv * 10 + k))), ?_⟩
            rw [e_X1_fill_6]
            simp (decide := true) (disch := omega) only [e_X1_fill_8, e_X1_fill_9, e_X1_fill_10, e_X1_fill_12, e_X1_fill_15, e_X1_fill_16, e_X1_fill_19, e_X1_fill_22, e_X1_fill_23, e_X1_fill_25, e_X1_fill_28, e_X1_fill_30, e_X1_fill_33, e_X1_fill_34, e_X1_fill_36, e_X1_fill_37, e_X1_fill_38, e_X1_fill_41, e_X1_fill_43, e_X1_fill_44, e_X1_fill_47, e_X1_fill_48, e_X1_fill_50, e_X1_fill_52, e_X1_fill_54, e_X1_fill_55, e_X1_fill_57, e_X1_fill_58, e_X1_fill_60, e_X1_fill_62, e_X1_fill_63, e_X1_fill_66, e_X1_fill_67, e_X1_fill_69, e_X1_fill_71, e_X1_fill_74, e_X1_fill_77, e_X1_fill_79, e_X1_fill_80, e_X1_fill_83, e_X1_fill_84, e_X1_fill_87, e_X1_fill_88, e_X1_fill_89, e_X1_fill_91, e_X1_fill_93, e_X1_fill_96, e_X1_fill_97, e_X1_fill_98, e_X1_fill_101, e_X1_fill_102, e_X1_fill_105, e_X1_fill_107, e_X1_fill_108, e_X1_fill_109, e_X1_fill_110, e_X1_fill_111, e_X1_fill_114, e_X1_fill_116, e_X1_fill_117, e_X1_fill_120, e_X1_fill_122, e_X1_fill_123, e_X1_fill_124, e_X1_fill_126, e_X1_fill_129, ↓reduceIte, if_true, if_false, reduceCtorEq, Nat.reduceAdd, true_and, and_true, false_and, and_false, true_or, or_true, false_or, or_false, not_true_eq_false, not_false_eq_true, Option.bind_eq_bind, Option.bind_some, psh, eq_self, l_0, l_1, l_2, l_3, l_4, l_5, l_6, l_7, l_8, l_9, l_10, l_11, l_12, l_13, l_14, l_15, l_16, l_17, l_18, l_19, l_20, l_24, l_31, l_32, l_33, l_35, l_36, l_48, l_56, l_57, l_58, l_63, l_65, l_80, l_81, l_90, l_91, l_93, l_94, l_95, l_97, l_100, l_105, l_107, l_110, l_111, l_116, l_120, l_121, l_122, l_123, l_124, l_125, l_126, l_162, l_255, l_300, l_400, l_420, l_432, l_1000, l_1400, l_1936, l_2000, l_2100, l_2400, l_24000, m_n1, m_n2, m_n3, nI_mul, nI_add, nI_sub, nI_ltT, nI_ltF, nI_leT, nI_leF, nI_eqT, nI_eqF, nI_nM, nM_nI, nM_eq, nM_lt, nM_le, nI_ltM, nI_leM, nI_inT, nI_dec, pk_rem, nI_ltI, nI_leI, nI_eq, nI_clamp, Nat.add_assoc, q_bv51, Nat.add_left_cancel_iff, k6, o3, k6t, eb0, eb1, hsub, eh, clK_0 d, clK_1 d, clK_3 d, clK_5 d, clK_7 d, clK_8 d, clK_9 d, clK_11 d, clK_12 d, clK_13 d, clK_14 d, clK_15 d, clK_16 d, clK_18 d, clK_20 d, clK_21 d, clK_22 d, clK_23 d, clK_24 d, clK_25 d, clK_26 d, clR_0_0 d, clR_1_0 d, clR_2_0 d, clR_3_0 d, clR_7_0 d, clR_8_0 d, clR_9_0 d, clR_10_0 d, clR_11_0 d, clR_0_8 d, clR_0_11 d, clR_1_11 d, clR_2_11 d, clR_0_15 d, clR_1_15 d, clR_2_15 d, clR_3_15 d, clR_4_15 d, clR_5_15 d, clR_0_23 d, clR_1_23 d, clR_0_25 d, clL_7 d, clL_12 d, clL_13 d, clL_14 d, clL_20 d, clL_21 d, clL_22 d, clL_24 d, clS_0 d, clS_1 d, clS_2 d, clS_3 d]
        · refine ⟨some (.int (nI 0)), some (.int (nI (lv * 10))), ?_⟩
          rw [e_X1_fill_6]
          simp (decide := true) (disch := omega) only [e_X1_fill_8, e_X1_fill_9, e_X1_fill_10, e_X1_fill_12, e_X1_fill_15, e_X1_fill_16, e_X1_fill_19, e_X1_fill_22, e_X1_fill_23, e_X1_fill_25, e_X1_fill_28, e_X1_fill_30, e_X1_fill_33, e_X1_fill_34, e_X1_fill_36, e_X1_fill_37, e_X1_fill_38, e_X1_fill_41, e_X1_fill_43, e_X1_fill_44, e_X1_fill_47, e_X1_fill_48, e_X1_fill_50, e_X1_fill_52, e_X1_fill_54, e_X1_fill_55, e_X1_fill_57, e_X1_fill_58, e_X1_fill_60, e_X1_fill_62, e_X1_fill_63, e_X1_fill_66, e_X1_fill_67, e_X1_fill_69, e_X1_fill_71, e_X1_fill_74, e_X1_fill_77, e_X1_fill_79, e_X1_fill_80, e_X1_fill_83, e_X1_fill_84, e_X1_fill_87, e_X1_fill_88, e_X1_fill_89, e_X1_fill_91, e_X1_fill_93, e_X1_fill_96, e_X1_fill_97, e_X1_fill_98, e_X1_fill_101, e_X1_fill_102, e_X1_fill_105, e_X1_fill_107, e_X1_fill_108, e_X1_fill_109, e_X1_fill_110, e_X1_fill_111, e_X1_fill_114, e_X1_fill_116, e_X1_fill_117, e_X1_fill_120, e_X1_fill_122, e_X1_fill_123, e_X1_fill_124, e_X1_fill_126, e_X1_fill_129, ↓reduceIte, if_true, if_false, reduceCtorEq, Nat.reduceAdd, true_and, and_true, false_and, and_false, true_or, or_true, false_or, or_false, not_true_eq_false, not_false_eq_true, Option.bind_eq_bind, Option.bind_some, psh, eq_self, l_0, l_1, l_2, l_3, l_4, l_5, l_6, l_7, l_8, l_9, l_10, l_11, l_12, l_13, l_14, l_15, l_16, l_17, l_18, l_19, l_20, l_24, l_31, l_32, l_33, l_35, l_36, l_48, l_56, l_57, l_58, l_63, l_65, l_80, l_81, l_90, l_91, l_93, l_94, l_95, l_97, l_100, l_105, l_107, l_110, l_111, l_116, l_120, l_121, l_122, l_123, l_124, l_125, l_126, l_162, l_255, l_300, l_400, l_420, l_432, l_1000, l_1400, l_1936, l_2000, l_2100, l_2400, l_24000, m_n1, m_n2, m_n3, nI_mul, nI_add, nI_sub, nI_ltT, nI_ltF, nI_leT, nI_leF, nI_eqT, nI_eqF, nI_nM, nM_nI, nM_eq, nM_lt, nM_le, nI_ltM, nI_leM, nI_inT, nI_dec, pk_rem, nI_ltI, nI_leI, nI_eq, nI_clamp, Nat.add_assoc, q_bv51, Nat.add_left_cancel_iff, k6, o3, k6t, eb0, clK_0 d, clK_1 d, clK_3 d, clK_5 d, clK_7 d, clK_8 d, clK_9 d, clK_11 d, clK_12 d, clK_13 d, clK_14 d, clK_15 d, clK_16 d, clK_18 d, clK_20 d, clK_21 d, clK_22 d, clK_23 d, clK_24 d, clK_25 d, clK_26 d, clR_0_0 d, clR_1_0 d, clR_2_0 d, clR_3_0 d, clR_7_0 d, clR_8_0 d, clR_9_0 d, clR_10_0 d, clR_11_0 d, clR_0_8 d, clR_0_11 d, clR_1_11 d, clR_2_11 d, clR_0_15 d, clR_1_15 d, clR_2_15 d, clR_3_15 d, clR_4_15 d, clR_5_15 d, clR_0_23 d, clR_1_23 d, clR_0_25 d, clL_7 d, clL_12 d, clL_13 d, clL_14 d, clL_20 d, clL_21 d, clL_22 d, clL_24 d, clS_0 d, clS_1 d, clS_2 d, clS_3 d, Nat.add_zero]
      obtain ⟨l8'', l9'', go⟩ := go
      obtain ⟨h3, l6', l7', l8', l9', e3, s3, n3, u3, q⟩ := ih (m - 1) (by omega) (i + 1) rest h l l8'' l9'' (by omega) (by omega) (by omega) H hwn r F
      refine ⟨h3, l6', l7', l8', l9', by rw [go]; exact e3, s3, n3, u3, ?_⟩
      rw [slc_snoc hri (by omega), List.append_assoc] at q
      exact q
theorem k_fill {ra rb' lv n ta tb wb cap bd e f : Nat} {t w0 l : List Nat} {ws : List (List Nat)} {E : Nat → Nat} {tw : Bool} (hw : (wb = X + 19 ∨ X + 57 ≤ wb) ∧ wb ≠ ra ∧ wb ≠ rb') (ht : fT X wb ta tb tw) (he : e ≤ t.length) (hf : f ≤ e) (H : fH h X ra rb' lv t ws E n w0) (hwn : wb < hN h) (r : rw_ h ta tb cap bd l (nI 0)) (F : fW h X wb n w0 tw l) (h8 : hI h 8 (X + 15) = nI 0) :
    ∃ h' l' o', cal g mX1_fill [va_rf (some (X + 15)), va_rf (some ta), va_rf (some ra), .int (nI f), .int (nI e), .int (nI lv)] h = some (none, h') ∧ cfm X (fun x => rP ta tb x ∨ x = X + 15) h h' ∧ hN h' = hN h ∧ hU h' = hU h ∧ (∀ k, k ≠ 8 → hI h' k (X + 15) = hI h k (X + 15)) ∧ hI h' 8 (X + 15) = o' ∧ rw_ h' ta tb cap bd l' o' ∧ (∃ y, l' = l ++ y) ∧ (l.length + (fil ws (slc t f e)).length ≤ bd → l' = l ++ fil ws (slc t f e) ∧ o' = nI 0) ∧ (bd < l.length + (fil ws (slc t f e)).length → o' = nI 1) := by
  have ht5 := H.2.1.2.2.2
  obtain ⟨h1, l6', l7', l8', l9', e1, s1, n1, u1, l', o', q1, q2, q3, q4⟩ := k_fill_loop (g := g) (l3 := some (.int (nI f))) hw ht he 1000 f f h l none none (by omega) (Nat.le_refl _) hf H hwn r F
  rw [slc_nil (Nat.le_refl _), List.nil_append] at q3 q4
  obtain ⟨H1, c1⟩ := H.kp ht hw s1
  have d1 := H1.1.1
  have dN := H.1.1.1
  have k6 := q1.1.1
  have o3 := q1.2.1.2.2
  have p15 : ¬ rP ta tb (X + 15) := by unfold rP; unfold fT at ht; omega
  have t15 := ((s1.2.2 (X + 15) (by omega)).2.2 p15).1
  have h8' : hI h1 8 (X + 15) = nI 0 := by rw [t15]; exact h8
  have oo : o' = nI 0 ∨ o' = nI 1 := by
    by_cases c : l.length + (fil ws (slc t f e)).length ≤ bd
    · exact Or.inl (q3 c).2
    · exact Or.inr (q4 (by omega))
  have sI : sm (fun x => x = X + 15) h1 (pI h1 8 (X + 15) o') := sm.I1 _ _
  refine ⟨pI h1 8 (X + 15) o', l', o', ?_, ?_, n1, u1, fun k hk => ?_, ?_, ?_, q2, q3, q4⟩
  · rw [n_X1_fill]
    simp (decide := true) (disch := omega) only [e_X1_fill_0, e_X1_fill_1, e_X1_fill_3, e_X1_fill_4, ↓reduceIte, if_true, if_false, reduceCtorEq, Nat.reduceAdd, true_and, and_true, false_and, and_false, true_or, or_true, false_or, or_false, not_true_eq_false, not_false_eq_true, Option.bind_eq_bind, Option.bind_some, psh, eq_self, l_0, l_1, l_2, l_3, l_4, l_5, l_6, l_7, l_8, l_9, l_10, l_11, l_12, l_13, l_14, l_15, l_16, l_17, l_18, l_19, l_20, l_24, l_31, l_32, l_33, l_35, l_36, l_48, l_56, l_57, l_58, l_63, l_65, l_80, l_81, l_90, l_91, l_93, l_94, l_95, l_97, l_100, l_105, l_107, l_110, l_111, l_116, l_120, l_121, l_122, l_123, l_124, l_125, l_126, l_162, l_255, l_300, l_400, l_420, l_432, l_1000, l_1400, l_1936, l_2000, l_2100, l_2400, l_24000, m_n1, m_n2, m_n3, nI_mul, nI_add, nI_sub, nI_ltT, nI_ltF, nI_leT, nI_leF, nI_eqT, nI_eqF, nI_nM, nM_nI, nM_eq, nM_lt, nM_le, nI_ltM, nI_leM, nI_inT, nI_dec, pk_rem, nI_ltI, nI_leI, nI_eq, nI_clamp, Nat.add_assoc, q_bv51, Nat.add_left_cancel_iff]
    rw [e1]
    rcases oo with z | z
    · rw [z] at o3 ⊢
      simp (decide := true) (disch := omega) only [e_X1_fill_141, e_X1_fill_142, e_X1_fill_143, e_X1_fill_146, e_X1_fill_149, e_X1_fill_150, e_X1_fill_153, e_X1_fill_156, e_X1_fill_157, e_X1_fill_160, e_X1_fill_161, e_X1_fill_164, ↓reduceIte, if_true, if_false, reduceCtorEq, Nat.reduceAdd, true_and, and_true, false_and, and_false, true_or, or_true, false_or, or_false, not_true_eq_false, not_false_eq_true, Option.bind_eq_bind, Option.bind_some, psh, eq_self, l_0, l_1, l_2, l_3, l_4, l_5, l_6, l_7, l_8, l_9, l_10, l_11, l_12, l_13, l_14, l_15, l_16, l_17, l_18, l_19, l_20, l_24, l_31, l_32, l_33, l_35, l_36, l_48, l_56, l_57, l_58, l_63, l_65, l_80, l_81, l_90, l_91, l_93, l_94, l_95, l_97, l_100, l_105, l_107, l_110, l_111, l_116, l_120, l_121, l_122, l_123, l_124, l_125, l_126, l_162, l_255, l_300, l_400, l_420, l_432, l_1000, l_1400, l_1936, l_2000, l_2100, l_2400, l_24000, m_n1, m_n2, m_n3, nI_mul, nI_add, nI_sub, nI_ltT, nI_ltF, nI_leT, nI_leF, nI_eqT, nI_eqF, nI_nM, nM_nI, nM_eq, nM_lt, nM_le, nI_ltM, nI_leM, nI_inT, nI_dec, pk_rem, nI_ltI, nI_leI, nI_eq, nI_clamp, Nat.add_assoc, q_bv51, Nat.add_left_cancel_iff, clK_0 d1, clK_1 d1, clK_3 d1, clK_5 d1, clK_7 d1, clK_8 d1, clK_9 d1, clK_11 d1, clK_12 d1, clK_13 d1, clK_14 d1, clK_15 d1, clK_16 d1, clK_18 d1, clK_20 d1, clK_21 d1, clK_22 d1, clK_23 d1, clK_24 d1, clK_25 d1, clK_26 d1, clR_0_0 d1, clR_1_0 d1, clR_2_0 d1, clR_3_0 d1, clR_7_0 d1, clR_8_0 d1, clR_9_0 d1, clR_10_0 d1, clR_11_0 d1, clR_0_8 d1, clR_0_11 d1, clR_1_11 d1, clR_2_11 d1, clR_0_15 d1, clR_1_15 d1, clR_2_15 d1, clR_3_15 d1, clR_4_15 d1, clR_5_15 d1, clR_0_23 d1, clR_1_23 d1, clR_0_25 d1, clL_7 d1, clL_12 d1, clL_13 d1, clL_14 d1, clL_20 d1, clL_21 d1, clL_22 d1, clL_24 d1, clS_0 d1, clS_1 d1, clS_2 d1, clS_3 d1, h8', k6, o3]
    · rw [z] at o3 ⊢
      simp (decide := true) (disch := omega) only [e_X1_fill_141, e_X1_fill_142, e_X1_fill_143, e_X1_fill_146, e_X1_fill_149, e_X1_fill_150, e_X1_fill_153, e_X1_fill_156, e_X1_fill_157, e_X1_fill_160, e_X1_fill_161, e_X1_fill_164, ↓reduceIte, if_true, if_false, reduceCtorEq, Nat.reduceAdd, true_and, and_true, false_and, and_false, true_or, or_true, false_or, or_false, not_true_eq_false, not_false_eq_true, Option.bind_eq_bind, Option.bind_some, psh, eq_self, l_0, l_1, l_2, l_3, l_4, l_5, l_6, l_7, l_8, l_9, l_10, l_11, l_12, l_13, l_14, l_15, l_16, l_17, l_18, l_19, l_20, l_24, l_31, l_32, l_33, l_35, l_36, l_48, l_56, l_57, l_58, l_63, l_65, l_80, l_81, l_90, l_91, l_93, l_94, l_95, l_97, l_100, l_105, l_107, l_110, l_111, l_116, l_120, l_121, l_122, l_123, l_124, l_125, l_126, l_162, l_255, l_300, l_400, l_420, l_432, l_1000, l_1400, l_1936, l_2000, l_2100, l_2400, l_24000, m_n1, m_n2, m_n3, nI_mul, nI_add, nI_sub, nI_ltT, nI_ltF, nI_leT, nI_leF, nI_eqT, nI_eqF, nI_nM, nM_nI, nM_eq, nM_lt, nM_le, nI_ltM, nI_leM, nI_inT, nI_dec, pk_rem, nI_ltI, nI_leI, nI_eq, nI_clamp, Nat.add_assoc, q_bv51, Nat.add_left_cancel_iff, clK_0 d1, clK_1 d1, clK_3 d1, clK_5 d1, clK_7 d1, clK_8 d1, clK_9 d1, clK_11 d1, clK_12 d1, clK_13 d1, clK_14 d1, clK_15 d1, clK_16 d1, clK_18 d1, clK_20 d1, clK_21 d1, clK_22 d1, clK_23 d1, clK_24 d1, clK_25 d1, clK_26 d1, clR_0_0 d1, clR_1_0 d1, clR_2_0 d1, clR_3_0 d1, clR_7_0 d1, clR_8_0 d1, clR_9_0 d1, clR_10_0 d1, clR_11_0 d1, clR_0_8 d1, clR_0_11 d1, clR_1_11 d1, clR_2_11 d1, clR_0_15 d1, clR_1_15 d1, clR_2_15 d1, clR_3_15 d1, clR_4_15 d1, clR_5_15 d1, clR_0_23 d1, clR_1_23 d1, clR_0_25 d1, clL_7 d1, clL_12 d1, clL_13 d1, clL_14 d1, clL_20 d1, clL_21 d1, clL_22 d1, clL_24 d1, clS_0 d1, clS_1 d1, clS_2 d1, clS_3 d1, h8', k6, o3]
  · exact (c1.mono (fun x _ z => Or.inl z)).tr (cfm.pI _ _ (Or.inr rfl))
  · rw [u_II, if_neg hk, t15]
  · rw [u_II, if_pos rfl, if_pos rfl]
  · have na : ta < hN h1 ∧ ta ≠ X + 15 := by unfold fT at ht; omega
    have nb : tb < hN h1 ∧ tb ≠ X + 15 := by unfold fT at ht; omega
    exact q1.keep sI na.1 nb.1 na.2 nb.2
end
