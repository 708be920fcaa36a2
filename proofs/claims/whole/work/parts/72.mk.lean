/-! MADE texts: what they are -/
/-- where plain bytes end -/
def pln (t : List Nat) : Nat → Nat → Nat
  | 0, i => i
  | m + 1, i => if i < t.length ∧ (tok t i).isNone = true then pln t m (i + 1) else i
theorem pln_ge {t : List Nat} : ∀ {m i : Nat}, i ≤ pln t m i
  | 0, _ => Nat.le_refl _
  | m + 1, i => by
    rw [pln]
    split
    · exact Nat.le_trans (Nat.le_succ _) pln_ge
    · exact Nat.le_refl _
theorem pln_le {t : List Nat} : ∀ {m i : Nat}, i ≤ t.length → pln t m i ≤ t.length
  | 0, _, h => h
  | m + 1, i, h => by
    rw [pln]
    split
    · exact pln_le (by omega)
    · exact h
theorem pln_fuel {t : List Nat} : ∀ {m m' i : Nat}, t.length ≤ i + m → t.length ≤ i + m' → pln t m i = pln t m' i
  | 0, 0, _, _, _ => rfl
  | 0, m' + 1, i, h, _ => by rw [pln, pln, if_neg (by omega)]
  | m + 1, 0, i, _, h => by rw [pln, pln, if_neg (by omega)]
  | m + 1, m' + 1, i, h, h' => by rw [pln, pln, pln_fuel (m := m) (m' := m') (by omega) (by omega)]
/-- a part of a TEXT: sort (0 LINK, 1 SHOWING, 2 plain), from, to, bar, NAME -/
abbrev Pt : Type := Nat × Nat × Nat × Nat × Option Nm
def pts (t : List Nat) : Nat → Nat → List Pt
  | 0, _ => []
  | m + 1, i => if i < t.length then (match tok t i with
    | none => (2, i, pln t t.length i, pln t t.length i, none) :: pts t m (pln t t.length i)
    | some (s, j, b, q) => (s - 1, i, j + 2, b, some q) :: pts t m (j + 2)) else []
def ptl (t : List Nat) : List Pt := pts t t.length 0
/-- the next bar -/
def nb_ (t : List Nat) (e : Nat) : Nat → Nat → Nat
  | 0, a => a
  | m + 1, a => if a < e ∧ t.getD a 0 ≠ 124 then nb_ t e m (a + 1) else a
theorem nb_ge {t : List Nat} {e : Nat} : ∀ {m a : Nat}, a ≤ nb_ t e m a
  | 0, _ => Nat.le_refl _
  | m + 1, a => by
    rw [nb_]
    split
    · exact Nat.le_trans (Nat.le_succ _) nb_ge
    · exact Nat.le_refl _
theorem nb_le {t : List Nat} {e : Nat} : ∀ {m a : Nat}, a ≤ e → nb_ t e m a ≤ e
  | 0, _, h => h
  | m + 1, a, h => by
    rw [nb_]
    split
    · exact nb_le (by omega)
    · exact h
theorem nb_bar {t : List Nat} {e : Nat} : ∀ {m a : Nat}, e ≤ a + m → nb_ t e m a < e → t.getD (nb_ t e m a) 0 = 124
  | 0, a, h, h2 => by rw [nb_] at h2; omega
  | m + 1, a, h, h2 => by
    rw [nb_] at h2 ⊢
    split
    · rename_i c
      rw [if_pos c] at h2
      exact nb_bar (by omega) h2
    · rename_i c
      rw [if_neg c] at h2
      by_cases z : t.getD a 0 = 124
      · exact z
      · exact absurd ⟨h2, z⟩ c
/-- WORDS, from the bar at a on -/
def wds (t : List Nat) (e : Nat) : Nat → Nat → List (List Nat)
  | 0, _ => []
  | m + 1, a => if a < e then slc t (a + 1) (nb_ t e e (a + 1)) :: wds t e m (nb_ t e e (a + 1)) else []
theorem slc_app {t : List Nat} {a b c : Nat} (h1 : a ≤ b) (h2 : b ≤ c) (h3 : c ≤ t.length) : slc t a c = slc t a b ++ slc t b c := by
  unfold slc
  rw [show c - a = (b - a) + (c - b) by omega, List.take_add, List.drop_drop]
  rw [show a + (b - a) = b by omega]
theorem wds_len {t : List Nat} {e : Nat} (he : e ≤ t.length) : ∀ {m a : Nat}, (a < e → t.getD a 0 = 124) → (wds t e m a).length ≤ (slc t a e).count 124
  | 0, a, _ => Nat.zero_le _
  | m + 1, a, h => by
    rw [wds]
    split
    · rename_i c
      have h1 := nb_ge (t := t) (e := e) (m := e) (a := a + 1)
      have h2 := nb_le (t := t) (e := e) (m := e) (a := a + 1) (by omega)
      have h3 := wds_len he (m := m) (a := nb_ t e e (a + 1)) (fun z => nb_bar (by omega) z)
      rw [slc_cons c he, h c, slc_app (t := t) h1 h2 he]
      simp only [List.length_cons, List.count_cons_self, List.count_append]
      omega
    · exact Nat.zero_le _
theorem tok_bars {t : List Nat} {i j b : Nat} {q : Nm} (h : tok t i = some (2, j, b, q)) : (slc t b j).count 124 ≤ 9 ∧ (b < j → t.getD b 0 = 124) := by
  have hl := tok_len h
  unfold tok at h
  split at h
  · rename_i c
    have il := inl_len t (i + 2)
    unfold tokb at h
    split at h
    · cases h
    · rename_i c2
      split at h
      · cases h
      · rename_i q' e
        simp only [Option.some.injEq, Prod.mk.injEq] at h
        obtain ⟨h1, h2, h3, h4⟩ := h
        have ho : t.getD i 0 = 123 := by
          by_cases w : t.getD i 0 = 91
          · rw [if_pos w] at h1; omega
          · omega
        have hc : (inl t (i + 2)).count 124 ≤ 9 := by
          by_cases z : 9 < (inl t (i + 2)).count 124
          · exact absurd ⟨ho, z⟩ c2
          · omega
        have es : inl t (i + 2) = slc t (i + 2) j := by
          apply List.ext_getElem?
          intro k
          by_cases z : k < (inl t (i + 2)).length
          · have g1 := inl_get z
            have z2 : k < (slc t (i + 2) j).length := by rw [slc_len (by omega)]; omega
            have g2 : (slc t (i + 2) j).getD k 0 = t.getD (i + 2 + k) 0 := by
              unfold slc
              simp [List.getD_eq_getElem?_getD, List.getElem?_take, List.getElem?_drop, show k < j - (i + 2) by omega]
            rw [← g2, List.getD_eq_getElem?_getD, List.getD_eq_getElem?_getD, List.getElem?_eq_getElem z, List.getElem?_eq_getElem z2] at g1
            rw [List.getElem?_eq_getElem z, List.getElem?_eq_getElem z2]
            exact congrArg some g1
          · rw [List.getElem?_eq_none (by omega), List.getElem?_eq_none (by rw [slc_len (by omega)]; omega)]
        constructor
        · rw [es, slc_app (b := b) (by omega) (by omega) (by omega), List.count_append] at hc
          omega
        · intro hbj
          have hk : (tw (inl t (i + 2))).length < (inl t (i + 2)).length := by omega
          have gen : ∀ s : List Nat, (tw s).length < s.length → s.getD (tw s).length 0 = 124 := by
            intro s
            induction s with
            | nil => intro z; simp at z
            | cons a s ih =>
              intro z
              unfold tw at z ⊢
              rw [List.takeWhile_cons] at z ⊢
              by_cases ca : a = 124
              · subst ca
                simp
              · have : decide (a ≠ 124) = true := decide_eq_true ca
                rw [if_pos this] at z ⊢
                simp only [List.length_cons] at z ⊢
                have := ih (by unfold tw; omega)
                unfold tw at this
                simpa [List.getD_eq_getElem?_getD] using this
          have := gen _ hk
          rw [inl_get hk] at this
          rw [← h3]
          exact this
  · cases h
def wdf (ws : List (List Nat)) : List (List Nat) → Option (List (List Nat))
  | [] => some []
  | x :: r => if (fil ws x).length ≤ 2000 then (match wdf ws r with
    | none => none
    | some r' => some (fil ws x :: r')) else none
/-- the made text, and how many SHOWINGS have been come to; none: SPENT -/
abbrev St : Type := Option (List Nat × Nat)
def pus (st : St) (l : List Nat) : St := match st with
  | none => none
  | some (acc, sh) => if acc.length + l.length ≤ 2000 then some (acc ++ l, sh) else none
/-- one part; f makes the page that it shows -/
def mkE (ch : Nat → Ch) (nm : Nat → Nm) (nn tm : Nat) (f : Option (List Nat → List (List Nat) → List Nat → St → St)) (pile : List Nat) (ws : List (List Nat)) (t : List Nat) (st : St) (e : Pt) : St := match st with
  | none => none
  | some (acc, sh) =>
    if e.1 = 2 then pus st (fil ws (slc t e.2.1 e.2.2.1))
    else match e.2.2.2.2 with
    | none => st
    | some q =>
      if e.1 = 0 then (if q.1 = true then st else pus st (fil ws (slc t (if e.2.2.2.1 < e.2.2.1 - 2 then e.2.2.2.1 + 1 else e.2.1 + 2) (e.2.2.1 - 2))))
      else if 400 < sh + 1 then none
      else if onw ch nm nn tm 17 q < 0 then pus (some (acc, sh + 1)) (63 :: (nz q ++ [63]))
      else if (onw ch nm nn tm 17 q).toNatClampNeg ∈ pile then pus (some (acc, sh + 1)) (33 :: (nz (nm (onw ch nm nn tm 17 q).toNatClampNeg) ++ [33]))
      else match f with
      | none => pus (some (acc, sh + 1)) [94]
      | some fm => match wdf ws (wds t (e.2.2.1 - 2) 300 e.2.2.2.1) with
        | none => none
        | some ws' => fm (pile ++ [(onw ch nm nn tm 17 q).toNatClampNeg]) ws' (wasT ch (onw ch nm nn tm 17 q).toNatClampNeg tm) (some (acc, sh + 1))
/-- a page's parts, with so many levels left -/
def mkT (ch : Nat → Ch) (nm : Nat → Nm) (nn tm : Nat) : Nat → List Nat → List (List Nat) → List Nat → St → St
  | 0, pile, ws, t, st => (ptl t).foldl (mkE ch nm nn tm none pile ws t) st
  | lv + 1, pile, ws, t, st => (ptl t).foldl (mkE ch nm nn tm (some (mkT ch nm nn tm lv)) pile ws t) st
theorem mkE_none {ch : Nat → Ch} {nm : Nat → Nm} {nn tm : Nat} {f : Option (List Nat → List (List Nat) → List Nat → St → St)} {pile : List Nat} {ws : List (List Nat)} {t : List Nat} {es : List Pt} : es.foldl (mkE ch nm nn tm f pile ws t) none = none := by
  induction es with
  | nil => rfl
  | cons e es ih => exact ih
/-- show(): the MADE text, none if SPENT -/
def made (ch : Nat → Ch) (nm : Nat → Nm) (nn tm p : Nat) : Option (List Nat) := match mkT ch nm nn tm 7 [p] [] (wasT ch p tm) (some ([], 0)) with
  | none => none
  | some r => some r.1
theorem onw_cases {ch : Nat → Ch} {nm : Nat → Nm} {nn t : Nat} : ∀ (k : Nat) (q : Nm), onw ch nm nn t k q = nM 2 ∨ onw ch nm nn t k q = nM 3 ∨ ∃ p c, p < nn ∧ onw ch nm nn t k q = nI p ∧ thr ch p t = some c
  | 0, q => Or.inr (Or.inl rfl)
  | k + 1, q => by
    rw [onw]
    unfold wtx
    cases e : pof ch nm nn q t with
    | none => exact Or.inl rfl
    | some p =>
      obtain ⟨p1, p2, c, p3⟩ := pof_lt e
      simp only
      cases em : mvd (ct (ch (lst ch p t))) with
      | none => exact Or.inr (Or.inr ⟨p, c, p1, rfl, p3⟩)
      | some q' => exact onw_cases k q'
/-! PageWebModel: makesName, isMade -/
theorem m_makesName_loop {g M : Nat} {l : List Nat} {l1 : Option Value} (hb : by_ l) (h3 : l.length ≤ 24) : ∀ j k (h : PH) (s : Option (List Nat)), j + k = l.length → md h M → hI h 19 M = nI l.length → sg h (M + 14) l → mMk h M s →
    ∃ h', ev g mX11_makesName 7 [some (va_rf (some M)), l1, some (.int (nI k))] [] h = ev g mX11_makesName 31 [some (va_rf (some M)), l1, some (.int (nI l.length))] [] h' ∧ mf [43, 44] [26] M h h' ∧ mMk h' M (pu s (l.drop k)) := by
  intro j
  induction j with
  | zero =>
    intro k h s hk d h1 h2 hm
    have : k = l.length := by omega
    subst this
    refine ⟨h, ?_, mf.rf _, by rw [List.drop_length, pu_nil hm.K]; exact hm⟩
    rw [e_X11_makesName_7]
    simp (decide := true) (disch := omega) only [e_X11_makesName_8, e_X11_makesName_9, e_X11_makesName_12, e_X11_makesName_15, e_X11_makesName_16, e_X11_makesName_17, e_X11_makesName_20, e_X11_makesName_21, e_X11_makesName_22, e_X11_makesName_25, e_X11_makesName_28, ↓reduceIte, if_true, if_false, reduceCtorEq, Nat.reduceAdd, true_and, and_true, false_and, and_false, true_or, or_true, false_or, or_false, not_true_eq_false, not_false_eq_true, Option.bind_eq_bind, Option.bind_some, psh, eq_self, l_0, l_1, l_2, l_3, l_4, l_5, l_6, l_7, l_8, l_9, l_10, l_11, l_12, l_13, l_14, l_15, l_16, l_17, l_18, l_19, l_20, l_24, l_31, l_32, l_33, l_35, l_36, l_48, l_56, l_57, l_58, l_63, l_65, l_80, l_81, l_90, l_91, l_93, l_94, l_95, l_97, l_100, l_105, l_107, l_110, l_111, l_116, l_120, l_121, l_122, l_123, l_124, l_125, l_126, l_162, l_255, l_300, l_400, l_420, l_432, l_1000, l_1400, l_1936, l_2000, l_2100, l_2400, l_24000, m_n1, m_n2, m_n3, nI_mul, nI_add, nI_sub, nI_ltT, nI_ltF, nI_leT, nI_leF, nI_eqT, nI_eqF, nI_nM, nM_nI, nM_eq, nM_lt, nM_le, nI_ltM, nI_leM, nI_inT, nI_dec, pk_rem, nI_ltI, nI_leI, nI_eq, nI_clamp, Nat.add_assoc, q_bv51, Nat.add_left_cancel_iff, mdR_text d, mdK_text d, mdL_text d, mdR_blamed d, mdK_blamed d, mdL_blamed d, mdR_length d, mdK_length d, mdL_length d, mdR_isGone d, mdK_isGone d, mdL_isGone d, mdR_pageOf d, mdK_pageOf d, mdL_pageOf d, mdR_handOf d, mdK_handOf d, mdL_handOf d, mdR_begin d, mdK_begin d, mdL_begin d, mdR_went d, mdK_went d, mdL_went d, mdR_came d, mdK_came d, mdL_came d, mdR_nameAt d, mdK_nameAt d, mdL_nameAt d, mdR_nameLong d, mdK_nameLong d, mdL_nameLong d, mdR_tape d, mdK_tape d, mdL_tape d, mdR_out d, mdK_out d, mdL_out d, mdR_fold d, mdK_fold d, mdL_fold d, mdR_hand d, mdK_hand d, mdL_hand d, mdR_passed d, mdK_passed d, mdL_passed d, mdR_mark d, mdK_mark d, mdL_mark d, mdR_next d, mdK_next d, mdL_next d, mdR_goal d, mdK_goal d, mdL_goal d, mdR_foundPage d, mdK_foundPage d, mdL_foundPage d, mdR_pile d, mdK_pile d, mdL_pile d, mdR_place d, mdK_place d, mdL_place d, mdR_many d, mdK_many d, mdL_many d, mdR_word d, mdK_word d, mdL_word d, mdR_wordLong d, mdK_wordLong d, mdL_wordLong d, mdR_made d, mdK_made d, mdL_made d, mdR_list d, mdK_list d, mdL_list d, mdR_listLong d, mdK_listLong d, mdL_listLong d, mdR_steps d, mdK_steps d, mdL_steps d, d.1, h1]
  | succ j ih =>
    intro k h s hk d h1 h2 hm
    have a1 := h2 k (by omega)
    obtain ⟨h2', e2, f2, x2⟩ := m_makes (g := g) d hm (hb.g k)
    obtain ⟨h3', e3, f3, x3⟩ := ih (k + 1) h2' _ (by omega) (f2.d d) (by rw [f2.i 19 (by decide)]; exact h1) (by unfold sg at *; rw [f2.a 14 (by decide)]; exact h2) x2
    refine ⟨h3', ?_, f2.tr f3, by rw [drop_cons (show k < l.length by omega)]; rw [pu_app] at x3; exact x3⟩
    rw [← e3, e_X11_makesName_7]
    simp (decide := true) (disch := omega) only [e_X11_makesName_8, e_X11_makesName_9, e_X11_makesName_12, e_X11_makesName_15, e_X11_makesName_16, e_X11_makesName_17, e_X11_makesName_20, e_X11_makesName_21, e_X11_makesName_22, e_X11_makesName_25, e_X11_makesName_28, ↓reduceIte, if_true, if_false, reduceCtorEq, Nat.reduceAdd, true_and, and_true, false_and, and_false, true_or, or_true, false_or, or_false, not_true_eq_false, not_false_eq_true, Option.bind_eq_bind, Option.bind_some, psh, eq_self, l_0, l_1, l_2, l_3, l_4, l_5, l_6, l_7, l_8, l_9, l_10, l_11, l_12, l_13, l_14, l_15, l_16, l_17, l_18, l_19, l_20, l_24, l_31, l_32, l_33, l_35, l_36, l_48, l_56, l_57, l_58, l_63, l_65, l_80, l_81, l_90, l_91, l_93, l_94, l_95, l_97, l_100, l_105, l_107, l_110, l_111, l_116, l_120, l_121, l_122, l_123, l_124, l_125, l_126, l_162, l_255, l_300, l_400, l_420, l_432, l_1000, l_1400, l_1936, l_2000, l_2100, l_2400, l_24000, m_n1, m_n2, m_n3, nI_mul, nI_add, nI_sub, nI_ltT, nI_ltF, nI_leT, nI_leF, nI_eqT, nI_eqF, nI_nM, nM_nI, nM_eq, nM_lt, nM_le, nI_ltM, nI_leM, nI_inT, nI_dec, pk_rem, nI_ltI, nI_leI, nI_eq, nI_clamp, Nat.add_assoc, q_bv51, Nat.add_left_cancel_iff, mdR_text d, mdK_text d, mdL_text d, mdR_blamed d, mdK_blamed d, mdL_blamed d, mdR_length d, mdK_length d, mdL_length d, mdR_isGone d, mdK_isGone d, mdL_isGone d, mdR_pageOf d, mdK_pageOf d, mdL_pageOf d, mdR_handOf d, mdK_handOf d, mdL_handOf d, mdR_begin d, mdK_begin d, mdL_begin d, mdR_went d, mdK_went d, mdL_went d, mdR_came d, mdK_came d, mdL_came d, mdR_nameAt d, mdK_nameAt d, mdL_nameAt d, mdR_nameLong d, mdK_nameLong d, mdL_nameLong d, mdR_tape d, mdK_tape d, mdL_tape d, mdR_out d, mdK_out d, mdL_out d, mdR_fold d, mdK_fold d, mdL_fold d, mdR_hand d, mdK_hand d, mdL_hand d, mdR_passed d, mdK_passed d, mdL_passed d, mdR_mark d, mdK_mark d, mdL_mark d, mdR_next d, mdK_next d, mdL_next d, mdR_goal d, mdK_goal d, mdL_goal d, mdR_foundPage d, mdK_foundPage d, mdL_foundPage d, mdR_pile d, mdK_pile d, mdL_pile d, mdR_place d, mdK_place d, mdL_place d, mdR_many d, mdK_many d, mdL_many d, mdR_word d, mdK_word d, mdL_word d, mdR_wordLong d, mdK_wordLong d, mdL_wordLong d, mdR_made d, mdK_made d, mdL_made d, mdR_list d, mdK_list d, mdL_list d, mdR_listLong d, mdK_listLong d, mdL_listLong d, mdR_steps d, mdK_steps d, mdL_steps d, d.1, h1, a1, e2]
theorem m_makesName {g M b : Nat} {h : PH} {q : Nm} {s : Option (List Nat)} (d : md h M) (hf : fis h M q) (hm : mMk h M s) (hb : b < 256) :
    ∃ h', cal g mX11_makesName [va_rf (some M), .int (nI b)] h = some (none, h') ∧ mf [43, 44] [26] M h h' ∧ mMk h' M (pu s (b :: (nz q ++ [b]))) := by
  rw [n_X11_makesName]
  obtain ⟨q1, q2, q3, q4⟩ := hf
  have hl := nz_len q4
  obtain ⟨h1, e1, f1, m1⟩ := m_makes (g := g) d hm hb
  have d1 := f1.d d
  obtain ⟨h2, e2, f2, m2⟩ := m_makesName_loop (g := g) (l1 := some (.int (nI b))) (nz_by q4) (by omega) _ 0 h1 _ rfl d1 (by rw [f1.i 19 (by decide)]; exact q1) (by unfold sg at *; rw [f1.a 14 (by decide)]; exact q3) m1
  have d2 := f2.d d1
  obtain ⟨h3, e3, f3, m3⟩ := m_makes (g := g) d2 m2 hb
  refine ⟨h3, ?_, (f1.tr f2).tr f3, ?_⟩
  · simp (decide := true) (disch := omega) only [e_X11_makesName_0, e_X11_makesName_1, e_X11_makesName_2, e_X11_makesName_5, e_X11_makesName_6, ↓reduceIte, if_true, if_false, reduceCtorEq, Nat.reduceAdd, true_and, and_true, false_and, and_false, true_or, or_true, false_or, or_false, not_true_eq_false, not_false_eq_true, Option.bind_eq_bind, Option.bind_some, psh, eq_self, l_0, l_1, l_2, l_3, l_4, l_5, l_6, l_7, l_8, l_9, l_10, l_11, l_12, l_13, l_14, l_15, l_16, l_17, l_18, l_19, l_20, l_24, l_31, l_32, l_33, l_35, l_36, l_48, l_56, l_57, l_58, l_63, l_65, l_80, l_81, l_90, l_91, l_93, l_94, l_95, l_97, l_100, l_105, l_107, l_110, l_111, l_116, l_120, l_121, l_122, l_123, l_124, l_125, l_126, l_162, l_255, l_300, l_400, l_420, l_432, l_1000, l_1400, l_1936, l_2000, l_2100, l_2400, l_24000, m_n1, m_n2, m_n3, nI_mul, nI_add, nI_sub, nI_ltT, nI_ltF, nI_leT, nI_leF, nI_eqT, nI_eqF, nI_nM, nM_nI, nM_eq, nM_lt, nM_le, nI_ltM, nI_leM, nI_inT, nI_dec, pk_rem, nI_ltI, nI_leI, nI_eq, nI_clamp, Nat.add_assoc, q_bv51, Nat.add_left_cancel_iff, mdR_text d, mdK_text d, mdL_text d, mdR_blamed d, mdK_blamed d, mdL_blamed d, mdR_length d, mdK_length d, mdL_length d, mdR_isGone d, mdK_isGone d, mdL_isGone d, mdR_pageOf d, mdK_pageOf d, mdL_pageOf d, mdR_handOf d, mdK_handOf d, mdL_handOf d, mdR_begin d, mdK_begin d, mdL_begin d, mdR_went d, mdK_went d, mdL_went d, mdR_came d, mdK_came d, mdL_came d, mdR_nameAt d, mdK_nameAt d, mdL_nameAt d, mdR_nameLong d, mdK_nameLong d, mdL_nameLong d, mdR_tape d, mdK_tape d, mdL_tape d, mdR_out d, mdK_out d, mdL_out d, mdR_fold d, mdK_fold d, mdL_fold d, mdR_hand d, mdK_hand d, mdL_hand d, mdR_passed d, mdK_passed d, mdL_passed d, mdR_mark d, mdK_mark d, mdL_mark d, mdR_next d, mdK_next d, mdL_next d, mdR_goal d, mdK_goal d, mdL_goal d, mdR_foundPage d, mdK_foundPage d, mdL_foundPage d, mdR_pile d, mdK_pile d, mdL_pile d, mdR_place d, mdK_place d, mdL_place d, mdR_many d, mdK_many d, mdL_many d, mdR_word d, mdK_word d, mdL_word d, mdR_wordLong d, mdK_wordLong d, mdL_wordLong d, mdR_made d, mdK_made d, mdL_made d, mdR_list d, mdK_list d, mdL_list d, mdR_listLong d, mdK_listLong d, mdL_listLong d, mdR_steps d, mdK_steps d, mdL_steps d, d.1, e1]
    rw [e2]
    simp (decide := true) (disch := omega) only [e_X11_makesName_31, e_X11_makesName_32, e_X11_makesName_33, e_X11_makesName_36, ↓reduceIte, if_true, if_false, reduceCtorEq, Nat.reduceAdd, true_and, and_true, false_and, and_false, true_or, or_true, false_or, or_false, not_true_eq_false, not_false_eq_true, Option.bind_eq_bind, Option.bind_some, psh, eq_self, l_0, l_1, l_2, l_3, l_4, l_5, l_6, l_7, l_8, l_9, l_10, l_11, l_12, l_13, l_14, l_15, l_16, l_17, l_18, l_19, l_20, l_24, l_31, l_32, l_33, l_35, l_36, l_48, l_56, l_57, l_58, l_63, l_65, l_80, l_81, l_90, l_91, l_93, l_94, l_95, l_97, l_100, l_105, l_107, l_110, l_111, l_116, l_120, l_121, l_122, l_123, l_124, l_125, l_126, l_162, l_255, l_300, l_400, l_420, l_432, l_1000, l_1400, l_1936, l_2000, l_2100, l_2400, l_24000, m_n1, m_n2, m_n3, nI_mul, nI_add, nI_sub, nI_ltT, nI_ltF, nI_leT, nI_leF, nI_eqT, nI_eqF, nI_nM, nM_nI, nM_eq, nM_lt, nM_le, nI_ltM, nI_leM, nI_inT, nI_dec, pk_rem, nI_ltI, nI_leI, nI_eq, nI_clamp, Nat.add_assoc, q_bv51, Nat.add_left_cancel_iff, mdR_text d2, mdK_text d2, mdL_text d2, mdR_blamed d2, mdK_blamed d2, mdL_blamed d2, mdR_length d2, mdK_length d2, mdL_length d2, mdR_isGone d2, mdK_isGone d2, mdL_isGone d2, mdR_pageOf d2, mdK_pageOf d2, mdL_pageOf d2, mdR_handOf d2, mdK_handOf d2, mdL_handOf d2, mdR_begin d2, mdK_begin d2, mdL_begin d2, mdR_went d2, mdK_went d2, mdL_went d2, mdR_came d2, mdK_came d2, mdL_came d2, mdR_nameAt d2, mdK_nameAt d2, mdL_nameAt d2, mdR_nameLong d2, mdK_nameLong d2, mdL_nameLong d2, mdR_tape d2, mdK_tape d2, mdL_tape d2, mdR_out d2, mdK_out d2, mdL_out d2, mdR_fold d2, mdK_fold d2, mdL_fold d2, mdR_hand d2, mdK_hand d2, mdL_hand d2, mdR_passed d2, mdK_passed d2, mdL_passed d2, mdR_mark d2, mdK_mark d2, mdL_mark d2, mdR_next d2, mdK_next d2, mdL_next d2, mdR_goal d2, mdK_goal d2, mdL_goal d2, mdR_foundPage d2, mdK_foundPage d2, mdL_foundPage d2, mdR_pile d2, mdK_pile d2, mdL_pile d2, mdR_place d2, mdK_place d2, mdL_place d2, mdR_many d2, mdK_many d2, mdL_many d2, mdR_word d2, mdK_word d2, mdL_word d2, mdR_wordLong d2, mdK_wordLong d2, mdL_wordLong d2, mdR_made d2, mdK_made d2, mdL_made d2, mdR_list d2, mdK_list d2, mdL_list d2, mdR_listLong d2, mdK_listLong d2, mdL_listLong d2, mdR_steps d2, mdK_steps d2, mdL_steps d2, d2.1, e3]
  · rw [pu_app, pu_app] at m3
    exact m3
theorem m_isMade {g M dp p : Nat} {h : PH} {pl : List Nat} (d : md h M) (hdp : dp < 8) (hl : pl.length = dp + 1) (hp : p < 2 ^ 20) (hs : ∀ k, k < pl.length → hA h (M + 21) k = nI (pl.getD k 0)) (hpl : ∀ x ∈ pl, x < 2 ^ 20) : cal g mX11_isMade [va_rf (some M), .int (nI p), .int (nI dp)] h = some (some (.int (bI (decide (p ∈ pl)))), h) := by
  rw [n_X11_isMade]
  have key : ∀ j k (b : Bool), j + k = dp + 1 → ev g mX11_isMade 5 [some (va_rf (some M)), some (.int (nI p)), some (.int (nI dp)), some (.int (bI b)), some (.int (nI k))] [] h = some (some (.int (bI (b || decide (p ∈ pl.drop k)))), h) := by
    intro j
    induction j with
    | zero =>
      intro k b hk
      have : k = pl.length := by omega
      subst this
      rw [e_X11_isMade_5, List.drop_length]
      simp (decide := true) (disch := omega) only [e_X11_isMade_0, e_X11_isMade_1, e_X11_isMade_2, e_X11_isMade_3, e_X11_isMade_7, e_X11_isMade_8, e_X11_isMade_11, e_X11_isMade_12, e_X11_isMade_15, e_X11_isMade_16, e_X11_isMade_19, e_X11_isMade_21, e_X11_isMade_22, e_X11_isMade_23, e_X11_isMade_26, e_X11_isMade_27, e_X11_isMade_30, e_X11_isMade_31, e_X11_isMade_32, e_X11_isMade_35, e_X11_isMade_38, e_X11_isMade_39, ↓reduceIte, if_true, if_false, reduceCtorEq, Nat.reduceAdd, true_and, and_true, false_and, and_false, true_or, or_true, false_or, or_false, not_true_eq_false, not_false_eq_true, Option.bind_eq_bind, Option.bind_some, psh, eq_self, l_0, l_1, l_2, l_3, l_4, l_5, l_6, l_7, l_8, l_9, l_10, l_11, l_12, l_13, l_14, l_15, l_16, l_17, l_18, l_19, l_20, l_24, l_31, l_32, l_33, l_35, l_36, l_48, l_56, l_57, l_58, l_63, l_65, l_80, l_81, l_90, l_91, l_93, l_94, l_95, l_97, l_100, l_105, l_107, l_110, l_111, l_116, l_120, l_121, l_122, l_123, l_124, l_125, l_126, l_162, l_255, l_300, l_400, l_420, l_432, l_1000, l_1400, l_1936, l_2000, l_2100, l_2400, l_24000, m_n1, m_n2, m_n3, nI_mul, nI_add, nI_sub, nI_ltT, nI_ltF, nI_leT, nI_leF, nI_eqT, nI_eqF, nI_nM, nM_nI, nM_eq, nM_lt, nM_le, nI_ltM, nI_leM, nI_inT, nI_dec, pk_rem, nI_ltI, nI_leI, nI_eq, nI_clamp, Nat.add_assoc, q_bv51, Nat.add_left_cancel_iff, mdR_text d, mdK_text d, mdL_text d, mdR_blamed d, mdK_blamed d, mdL_blamed d, mdR_length d, mdK_length d, mdL_length d, mdR_isGone d, mdK_isGone d, mdL_isGone d, mdR_pageOf d, mdK_pageOf d, mdL_pageOf d, mdR_handOf d, mdK_handOf d, mdL_handOf d, mdR_begin d, mdK_begin d, mdL_begin d, mdR_went d, mdK_went d, mdL_went d, mdR_came d, mdK_came d, mdL_came d, mdR_nameAt d, mdK_nameAt d, mdL_nameAt d, mdR_nameLong d, mdK_nameLong d, mdL_nameLong d, mdR_tape d, mdK_tape d, mdL_tape d, mdR_out d, mdK_out d, mdL_out d, mdR_fold d, mdK_fold d, mdL_fold d, mdR_hand d, mdK_hand d, mdL_hand d, mdR_passed d, mdK_passed d, mdL_passed d, mdR_mark d, mdK_mark d, mdL_mark d, mdR_next d, mdK_next d, mdL_next d, mdR_goal d, mdK_goal d, mdL_goal d, mdR_foundPage d, mdK_foundPage d, mdL_foundPage d, mdR_pile d, mdK_pile d, mdL_pile d, mdR_place d, mdK_place d, mdL_place d, mdR_many d, mdK_many d, mdL_many d, mdR_word d, mdK_word d, mdL_word d, mdR_wordLong d, mdK_wordLong d, mdL_wordLong d, mdR_made d, mdK_made d, mdL_made d, mdR_list d, mdK_list d, mdL_list d, mdR_listLong d, mdK_listLong d, mdL_listLong d, mdR_steps d, mdK_steps d, mdL_steps d, d.1]
      cases b <;> simp (decide := true) [bI, nI]
    | succ j ih =>
      intro k b hk
      have a1 := hs k (by omega)
      have hg : pl.getD k 0 < 2 ^ 20 := hpl _ (getD_mem (by omega))
      rw [e_X11_isMade_5, drop_cons (show k < pl.length by omega)]
      cases b with
      | true =>
        have e := ih (k + 1) true (by omega)
        rw [Bool.true_or, bI_t] at e
        rw [Bool.true_or]
        simp (decide := true) (disch := omega) only [e_X11_isMade_0, e_X11_isMade_1, e_X11_isMade_2, e_X11_isMade_3, e_X11_isMade_7, e_X11_isMade_8, e_X11_isMade_11, e_X11_isMade_12, e_X11_isMade_15, e_X11_isMade_16, e_X11_isMade_19, e_X11_isMade_21, e_X11_isMade_22, e_X11_isMade_23, e_X11_isMade_26, e_X11_isMade_27, e_X11_isMade_30, e_X11_isMade_31, e_X11_isMade_32, e_X11_isMade_35, e_X11_isMade_38, e_X11_isMade_39, ↓reduceIte, if_true, if_false, reduceCtorEq, Nat.reduceAdd, true_and, and_true, false_and, and_false, true_or, or_true, false_or, or_false, not_true_eq_false, not_false_eq_true, Option.bind_eq_bind, Option.bind_some, psh, eq_self, l_0, l_1, l_2, l_3, l_4, l_5, l_6, l_7, l_8, l_9, l_10, l_11, l_12, l_13, l_14, l_15, l_16, l_17, l_18, l_19, l_20, l_24, l_31, l_32, l_33, l_35, l_36, l_48, l_56, l_57, l_58, l_63, l_65, l_80, l_81, l_90, l_91, l_93, l_94, l_95, l_97, l_100, l_105, l_107, l_110, l_111, l_116, l_120, l_121, l_122, l_123, l_124, l_125, l_126, l_162, l_255, l_300, l_400, l_420, l_432, l_1000, l_1400, l_1936, l_2000, l_2100, l_2400, l_24000, m_n1, m_n2, m_n3, nI_mul, nI_add, nI_sub, nI_ltT, nI_ltF, nI_leT, nI_leF, nI_eqT, nI_eqF, nI_nM, nM_nI, nM_eq, nM_lt, nM_le, nI_ltM, nI_leM, nI_inT, nI_dec, pk_rem, nI_ltI, nI_leI, nI_eq, nI_clamp, Nat.add_assoc, q_bv51, Nat.add_left_cancel_iff, mdR_text d, mdK_text d, mdL_text d, mdR_blamed d, mdK_blamed d, mdL_blamed d, mdR_length d, mdK_length d, mdL_length d, mdR_isGone d, mdK_isGone d, mdL_isGone d, mdR_pageOf d, mdK_pageOf d, mdL_pageOf d, mdR_handOf d, mdK_handOf d, mdL_handOf d, mdR_begin d, mdK_begin d, mdL_begin d, mdR_went d, mdK_went d, mdL_went d, mdR_came d, mdK_came d, mdL_came d, mdR_nameAt d, mdK_nameAt d, mdL_nameAt d, mdR_nameLong d, mdK_nameLong d, mdL_nameLong d, mdR_tape d, mdK_tape d, mdL_tape d, mdR_out d, mdK_out d, mdL_out d, mdR_fold d, mdK_fold d, mdL_fold d, mdR_hand d, mdK_hand d, mdL_hand d, mdR_passed d, mdK_passed d, mdL_passed d, mdR_mark d, mdK_mark d, mdL_mark d, mdR_next d, mdK_next d, mdL_next d, mdR_goal d, mdK_goal d, mdL_goal d, mdR_foundPage d, mdK_foundPage d, mdL_foundPage d, mdR_pile d, mdK_pile d, mdL_pile d, mdR_place d, mdK_place d, mdL_place d, mdR_many d, mdK_many d, mdL_many d, mdR_word d, mdK_word d, mdL_word d, mdR_wordLong d, mdK_wordLong d, mdL_wordLong d, mdR_made d, mdK_made d, mdL_made d, mdR_list d, mdK_list d, mdL_list d, mdR_listLong d, mdK_listLong d, mdL_listLong d, mdR_steps d, mdK_steps d, mdL_steps d, d.1, bI_t]
        exact e
      | false =>
        by_cases c : pl.getD k 0 = p
        · have e := ih (k + 1) true (by omega)
          rw [Bool.true_or, bI_t] at e
          rw [Bool.false_or, decide_eq_true (by rw [c]; exact List.mem_cons_self)]
          simp (decide := true) (disch := omega) only [e_X11_isMade_0, e_X11_isMade_1, e_X11_isMade_2, e_X11_isMade_3, e_X11_isMade_7, e_X11_isMade_8, e_X11_isMade_11, e_X11_isMade_12, e_X11_isMade_15, e_X11_isMade_16, e_X11_isMade_19, e_X11_isMade_21, e_X11_isMade_22, e_X11_isMade_23, e_X11_isMade_26, e_X11_isMade_27, e_X11_isMade_30, e_X11_isMade_31, e_X11_isMade_32, e_X11_isMade_35, e_X11_isMade_38, e_X11_isMade_39, ↓reduceIte, if_true, if_false, reduceCtorEq, Nat.reduceAdd, true_and, and_true, false_and, and_false, true_or, or_true, false_or, or_false, not_true_eq_false, not_false_eq_true, Option.bind_eq_bind, Option.bind_some, psh, eq_self, l_0, l_1, l_2, l_3, l_4, l_5, l_6, l_7, l_8, l_9, l_10, l_11, l_12, l_13, l_14, l_15, l_16, l_17, l_18, l_19, l_20, l_24, l_31, l_32, l_33, l_35, l_36, l_48, l_56, l_57, l_58, l_63, l_65, l_80, l_81, l_90, l_91, l_93, l_94, l_95, l_97, l_100, l_105, l_107, l_110, l_111, l_116, l_120, l_121, l_122, l_123, l_124, l_125, l_126, l_162, l_255, l_300, l_400, l_420, l_432, l_1000, l_1400, l_1936, l_2000, l_2100, l_2400, l_24000, m_n1, m_n2, m_n3, nI_mul, nI_add, nI_sub, nI_ltT, nI_ltF, nI_leT, nI_leF, nI_eqT, nI_eqF, nI_nM, nM_nI, nM_eq, nM_lt, nM_le, nI_ltM, nI_leM, nI_inT, nI_dec, pk_rem, nI_ltI, nI_leI, nI_eq, nI_clamp, Nat.add_assoc, q_bv51, Nat.add_left_cancel_iff, mdR_text d, mdK_text d, mdL_text d, mdR_blamed d, mdK_blamed d, mdL_blamed d, mdR_length d, mdK_length d, mdL_length d, mdR_isGone d, mdK_isGone d, mdL_isGone d, mdR_pageOf d, mdK_pageOf d, mdL_pageOf d, mdR_handOf d, mdK_handOf d, mdL_handOf d, mdR_begin d, mdK_begin d, mdL_begin d, mdR_went d, mdK_went d, mdL_went d, mdR_came d, mdK_came d, mdL_came d, mdR_nameAt d, mdK_nameAt d, mdL_nameAt d, mdR_nameLong d, mdK_nameLong d, mdL_nameLong d, mdR_tape d, mdK_tape d, mdL_tape d, mdR_out d, mdK_out d, mdL_out d, mdR_fold d, mdK_fold d, mdL_fold d, mdR_hand d, mdK_hand d, mdL_hand d, mdR_passed d, mdK_passed d, mdL_passed d, mdR_mark d, mdK_mark d, mdL_mark d, mdR_next d, mdK_next d, mdL_next d, mdR_goal d, mdK_goal d, mdL_goal d, mdR_foundPage d, mdK_foundPage d, mdL_foundPage d, mdR_pile d, mdK_pile d, mdL_pile d, mdR_place d, mdK_place d, mdL_place d, mdR_many d, mdK_many d, mdL_many d, mdR_word d, mdK_word d, mdL_word d, mdR_wordLong d, mdK_wordLong d, mdL_wordLong d, mdR_made d, mdK_made d, mdL_made d, mdR_list d, mdK_list d, mdL_list d, mdR_listLong d, mdK_listLong d, mdL_listLong d, mdR_steps d, mdK_steps d, mdL_steps d, d.1, bI_t, bI_f, a1]
          exact e
        · have e := ih (k + 1) false (by omega)
          rw [Bool.false_or, bI_f] at e
          have c' : ¬ p = pl.getD k 0 := fun z => c z.symm
          have e9 : decide (p ∈ pl.getD k 0 :: pl.drop (k + 1)) = decide (p ∈ pl.drop (k + 1)) := by
            exact decide_eq_decide.mpr ⟨fun z => (List.mem_cons.mp z).resolve_left c', fun z => List.mem_cons_of_mem _ z⟩
          rw [Bool.false_or, e9]
          simp (decide := true) (disch := omega) only [e_X11_isMade_0, e_X11_isMade_1, e_X11_isMade_2, e_X11_isMade_3, e_X11_isMade_7, e_X11_isMade_8, e_X11_isMade_11, e_X11_isMade_12, e_X11_isMade_15, e_X11_isMade_16, e_X11_isMade_19, e_X11_isMade_21, e_X11_isMade_22, e_X11_isMade_23, e_X11_isMade_26, e_X11_isMade_27, e_X11_isMade_30, e_X11_isMade_31, e_X11_isMade_32, e_X11_isMade_35, e_X11_isMade_38, e_X11_isMade_39, ↓reduceIte, if_true, if_false, reduceCtorEq, Nat.reduceAdd, true_and, and_true, false_and, and_false, true_or, or_true, false_or, or_false, not_true_eq_false, not_false_eq_true, Option.bind_eq_bind, Option.bind_some, psh, eq_self, l_0, l_1, l_2, l_3, l_4, l_5, l_6, l_7, l_8, l_9, l_10, l_11, l_12, l_13, l_14, l_15, l_16, l_17, l_18, l_19, l_20, l_24, l_31, l_32, l_33, l_35, l_36, l_48, l_56, l_57, l_58, l_63, l_65, l_80, l_81, l_90, l_91, l_93, l_94, l_95, l_97, l_100, l_105, l_107, l_110, l_111, l_116, l_120, l_121, l_122, l_123, l_124, l_125, l_126, l_162, l_255, l_300, l_400, l_420, l_432, l_1000, l_1400, l_1936, l_2000, l_2100, l_2400, l_24000, m_n1, m_n2, m_n3, nI_mul, nI_add, nI_sub, nI_ltT, nI_ltF, nI_leT, nI_leF, nI_eqT, nI_eqF, nI_nM, nM_nI, nM_eq, nM_lt, nM_le, nI_ltM, nI_leM, nI_inT, nI_dec, pk_rem, nI_ltI, nI_leI, nI_eq, nI_clamp, Nat.add_assoc, q_bv51, Nat.add_left_cancel_iff, mdR_text d, mdK_text d, mdL_text d, mdR_blamed d, mdK_blamed d, mdL_blamed d, mdR_length d, mdK_length d, mdL_length d, mdR_isGone d, mdK_isGone d, mdL_isGone d, mdR_pageOf d, mdK_pageOf d, mdL_pageOf d, mdR_handOf d, mdK_handOf d, mdL_handOf d, mdR_begin d, mdK_begin d, mdL_begin d, mdR_went d, mdK_went d, mdL_went d, mdR_came d, mdK_came d, mdL_came d, mdR_nameAt d, mdK_nameAt d, mdL_nameAt d, mdR_nameLong d, mdK_nameLong d, mdL_nameLong d, mdR_tape d, mdK_tape d, mdL_tape d, mdR_out d, mdK_out d, mdL_out d, mdR_fold d, mdK_fold d, mdL_fold d, mdR_hand d, mdK_hand d, mdL_hand d, mdR_passed d, mdK_passed d, mdL_passed d, mdR_mark d, mdK_mark d, mdL_mark d, mdR_next d, mdK_next d, mdL_next d, mdR_goal d, mdK_goal d, mdL_goal d, mdR_foundPage d, mdK_foundPage d, mdL_foundPage d, mdR_pile d, mdK_pile d, mdL_pile d, mdR_place d, mdK_place d, mdL_place d, mdR_many d, mdK_many d, mdL_many d, mdR_word d, mdK_word d, mdL_word d, mdR_wordLong d, mdK_wordLong d, mdL_wordLong d, mdR_made d, mdK_made d, mdL_made d, mdR_list d, mdK_list d, mdL_list d, mdR_listLong d, mdK_listLong d, mdL_listLong d, mdR_steps d, mdK_steps d, mdL_steps d, d.1, bI_f, a1]
          exact e
  have := key (dp + 1) 0 false (by omega)
  rw [bI_f, Bool.false_or, List.drop_zero] at this
  simp (decide := true) (disch := omega) only [e_X11_isMade_0, e_X11_isMade_1, e_X11_isMade_2, e_X11_isMade_3, e_X11_isMade_7, e_X11_isMade_8, e_X11_isMade_11, e_X11_isMade_12, e_X11_isMade_15, e_X11_isMade_16, e_X11_isMade_19, e_X11_isMade_21, e_X11_isMade_22, e_X11_isMade_23, e_X11_isMade_26, e_X11_isMade_27, e_X11_isMade_30, e_X11_isMade_31, e_X11_isMade_32, e_X11_isMade_35, e_X11_isMade_38, e_X11_isMade_39, ↓reduceIte, if_true, if_false, reduceCtorEq, Nat.reduceAdd, true_and, and_true, false_and, and_false, true_or, or_true, false_or, or_false, not_true_eq_false, not_false_eq_true, Option.bind_eq_bind, Option.bind_some, psh, eq_self, l_0, l_1, l_2, l_3, l_4, l_5, l_6, l_7, l_8, l_9, l_10, l_11, l_12, l_13, l_14, l_15, l_16, l_17, l_18, l_19, l_20, l_24, l_31, l_32, l_33, l_35, l_36, l_48, l_56, l_57, l_58, l_63, l_65, l_80, l_81, l_90, l_91, l_93, l_94, l_95, l_97, l_100, l_105, l_107, l_110, l_111, l_116, l_120, l_121, l_122, l_123, l_124, l_125, l_126, l_162, l_255, l_300, l_400, l_420, l_432, l_1000, l_1400, l_1936, l_2000, l_2100, l_2400, l_24000, m_n1, m_n2, m_n3, nI_mul, nI_add, nI_sub, nI_ltT, nI_ltF, nI_leT, nI_leF, nI_eqT, nI_eqF, nI_nM, nM_nI, nM_eq, nM_lt, nM_le, nI_ltM, nI_leM, nI_inT, nI_dec, pk_rem, nI_ltI, nI_leI, nI_eq, nI_clamp, Nat.add_assoc, q_bv51, Nat.add_left_cancel_iff, mdR_text d, mdK_text d, mdL_text d, mdR_blamed d, mdK_blamed d, mdL_blamed d, mdR_length d, mdK_length d, mdL_length d, mdR_isGone d, mdK_isGone d, mdL_isGone d, mdR_pageOf d, mdK_pageOf d, mdL_pageOf d, mdR_handOf d, mdK_handOf d, mdL_handOf d, mdR_begin d, mdK_begin d, mdL_begin d, mdR_went d, mdK_went d, mdL_went d, mdR_came d, mdK_came d, mdL_came d, mdR_nameAt d, mdK_nameAt d, mdL_nameAt d, mdR_nameLong d, mdK_nameLong d, mdL_nameLong d, mdR_tape d, mdK_tape d, mdL_tape d, mdR_out d, mdK_out d, mdL_out d, mdR_fold d, mdK_fold d, mdL_fold d, mdR_hand d, mdK_hand d, mdL_hand d, mdR_passed d, mdK_passed d, mdL_passed d, mdR_mark d, mdK_mark d, mdL_mark d, mdR_next d, mdK_next d, mdL_next d, mdR_goal d, mdK_goal d, mdL_goal d, mdR_foundPage d, mdK_foundPage d, mdL_foundPage d, mdR_pile d, mdK_pile d, mdL_pile d, mdR_place d, mdK_place d, mdL_place d, mdR_many d, mdK_many d, mdL_many d, mdR_word d, mdK_word d, mdL_word d, mdR_wordLong d, mdK_wordLong d, mdL_wordLong d, mdR_made d, mdK_made d, mdL_made d, mdR_list d, mdK_list d, mdL_list d, mdR_listLong d, mdK_listLong d, mdL_listLong d, mdR_steps d, mdK_steps d, mdL_steps d, d.1]
  exact this
