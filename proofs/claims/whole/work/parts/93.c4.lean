/-! PageWeb: back -/
section
variable {g X : Nat} {Q : Nat → Prop} {h : PH} {tp ou fo : List Nat} {hd : Option Nm} {a : Option Nat} {w : Wd}
theorem cDr.k1 {h' : PH} (I : cI Q h X tp ou fo hd a w) (s : sm (rP (X + 5) (X + 6)) h h') : cl h' X ∧ cfm X (rP (X + 5) (X + 6)) h h' ∧ cT h' X tp ∧ cO h' X ou ∧ cF h' X := by
  have hN' := I.1.1.1
  have hp : nP X (rP (X + 5) (X + 6)) [5, 6] := fun k hk hn z => by simp only [List.mem_cons, List.not_mem_nil, or_false, not_or] at hn; unfold rP at z; omega
  have c := cfm.of s hN' (fun k hk => by unfold crO at hk; unfold rP; omega)
  exact ⟨I.1.1.keep c, c, I.2.1.1.kp s hN' hp (by decide) (by decide), I.2.1.2.1.kp s hN' hp (by decide) (by decide), I.2.1.2.2.2.kp s hN' hp (by decide) (by decide)⟩
theorem rP56 : ∀ x, rP (X + 5) (X + 6) x → X + 1 ≤ x ∧ x ≤ X + 6 ∨ x = X + 9 ∨ x = X + 10 := fun x z => by unfold rP at z; omega
/-- the draft is another -/
theorem cI.dr {h' : PH} {l : List Nat} {o : Int32} (I : cI Q h X tp ou fo hd a w) (s : sm (rP (X + 5) (X + 6)) h h') (r : rw_ h' (X + 5) (X + 6) 300 300 l o) : cI Q h' X tp ou fo hd a w ∧ cfm X (cP X) h h' ∧ cfm X (rP (X + 5) (X + 6)) h h' := by
  obtain ⟨d1, c1, q1, q2, q3⟩ := cDr.k1 I s
  obtain ⟨J, sJ⟩ := I.row c1 rP56 (fun x hx => hx) (fun x hx => Or.inl hx) q1 q2 ⟨l, o, r⟩ q3
  exact ⟨J, sJ, c1⟩
/-- bytes that are laid behind each other, as long as they fit -/
def dr2 (s : Option (List Nat)) (l : List Nat) : Option (List Nat) := match s with
  | none => none
  | some x => if x.length + l.length ≤ 300 then some (x ++ l) else none
/-- a draft: the bytes, or too many -/
def drw (h : PH) (X : Nat) (s : Option (List Nat)) : Prop := match s with
  | some l => rw_ h (X + 5) (X + 6) 300 300 l 0
  | none => ∃ l, rw_ h (X + 5) (X + 6) 300 300 l 1
def drO (s : Option (List Nat)) : Int32 := match s with
  | none => 1
  | some _ => 0
theorem drw.any {h : PH} {X : Nat} {s : Option (List Nat)} (r : drw h X s) : ∃ l o, rw_ h (X + 5) (X + 6) 300 300 l o ∧ o = drO s := by
  cases s with
  | none => obtain ⟨l, r⟩ := r; exact ⟨l, 1, r, rfl⟩
  | some l => exact ⟨l, 0, r, rfl⟩
/-- putAll into the draft -/
theorem d_putAll {ra rb' cap bd i j : Nat} {l : List Nat} {o : Int32} {s : Option (List Nat)} (D : drw h X s) (r : rw_ h ra rb' cap bd l o) (hj : j ≤ l.length) (hl : l.length ≤ 400) (hi : i ≤ 400) :
    ∃ h', cal g mX6_putAll [va_rf (some (X + 5)), va_rf (some ra), .int (nI i), .int (nI j)] h = some (none, h') ∧ sm (rP (X + 5) (X + 6)) h h' ∧ hN h' = hN h ∧ hU h' = hU h ∧ drw h' X (dr2 s (slc l i j)) := by
  obtain ⟨x, o1, rx, eo⟩ := D.any
  have hx := rx.2.2.1.1
  obtain ⟨h1, e1, r1, s1, n1, u1⟩ := r_putAll (g := g) (i := i) (j := j) rx r (by omega) (by omega)
  refine ⟨h1, e1, s1, n1, u1, ?_⟩
  cases s with
  | none =>
    subst eo
    show ∃ l, rw_ h1 (X + 5) (X + 6) 300 300 l 1
    have : plo x l 300 i j 1 = 1 := by unfold plo; split <;> rfl
    rw [show drO none = 1 from rfl, this] at r1
    exact ⟨_, r1⟩
  | some x' =>
    have rx' : rw_ h (X + 5) (X + 6) 300 300 x' 0 := D
    obtain ⟨h1', e1', r1', s1', n1', u1'⟩ := r_putAll (g := g) (i := i) (j := j) rx' r (by omega) (by omega)
    have hx' := rx'.2.2.1.1
    have eh : h1' = h1 := by
      rw [e1] at e1'
      cases e1'
      rfl
    rw [eh] at r1'
    unfold dr2
    by_cases c : i < j
    · have el : (slc l i j).length = j - i := slc_len hj
      by_cases c2 : j - i ≤ 300 - x'.length
      · have e2 : pll x' l 300 i j = x' ++ slc l i j := by unfold pll; rw [if_pos ⟨c, hj, c2⟩]; rfl
        have e3 : plo x' l 300 i j 0 = 0 := by unfold plo; rw [if_neg (by omega)]
        rw [e2, e3] at r1'
        simp only
        rw [if_pos (by omega)]
        exact r1'
      · have e3 : plo x' l 300 i j 0 = 1 := by unfold plo; rw [if_pos (by omega)]
        rw [e3] at r1'
        simp only
        rw [if_neg (by omega)]
        exact ⟨_, r1'⟩
    · have e2 : pll x' l 300 i j = x' := by unfold pll; rw [if_neg (by omega)]
      have e3 : plo x' l 300 i j 0 = 0 := by unfold plo; rw [if_neg (by omega)]
      rw [e2, e3] at r1'
      simp only
      rw [slc_nil (by omega), List.length_nil, if_pos (by omega), List.append_nil]
      exact r1'
theorem dr2_app {s : Option (List Nat)} {l l' : List Nat} : dr2 (dr2 s l) l' = dr2 s (l ++ l') := by
  cases s with
  | none => rfl
  | some x =>
    unfold dr2
    simp only
    by_cases c : x.length + l.length ≤ 300
    · rw [if_pos c]
      simp only [List.length_append]
      by_cases c2 : x.length + l.length + l'.length ≤ 300
      · rw [if_pos c2, if_pos (by omega), List.append_assoc]
      · rw [if_neg c2, if_neg (by omega)]
    · rw [if_neg c]
      simp only [List.length_append]
      rw [if_neg (by omega)]
theorem dr2_T {l : List Nat} (h : l.length ≤ 300) : dr2 (some []) l = some l := by
  show (if 0 + l.length ≤ 300 then some ([] ++ l) else none) = some l
  rw [if_pos (by omega), List.nil_append]
theorem dr2_F {l : List Nat} (h : 300 < l.length) : dr2 (some []) l = none := by
  show (if 0 + l.length ≤ 300 then some ([] ++ l) else none) = none
  rw [if_neg (by omega)]
theorem d_cut (D : cDr h X) : ∃ h', cal g mX6_cut [va_rf (some (X + 5)), .int (nI 0)] h = some (none, h') ∧ sm (rP (X + 5) (X + 6)) h h' ∧ hN h' = hN h ∧ hU h' = hU h ∧ drw h' X (some []) := by
  obtain ⟨l, o, r⟩ := D
  obtain ⟨h1, e1, r1, s1, n1, u1⟩ := r_cut (g := g) (k := 0) r (by omega)
  rw [List.take_zero] at r1
  exact ⟨h1, e1, s1.mono (fun x _ z => Or.inl z), n1, u1, r1⟩
/-- one CHANGE more, of the draft -/
theorem c_comD {p hn : Nat} {t : List Nat} (I : cI Q h X tp ou fo hd a w) (D : drw h X (some t)) (hp : p < w.2.2.1) (hn1 : w.1 < 120) :
    ∃ v h1 h' Q', cal g mX5_textOf [va_rf (some (X + 8)), va_rf (some (X + 5))] h = some (some (va_rf (some v)), h1) ∧ cl h1 X ∧ cal g mX9_commit [va_rf (some (X + 11)), .int (nI p), .int (nI hn), va_rf (some v), .int (nI 0)] h1 = some (some (.int (nI (w.1 + 1))), h') ∧ cfm X (cP X) h h' ∧ hN h' ≤ hN h + 1000 ∧ hU h' ≤ hU h + 13000 ∧ hN h ≤ hN h' ∧ (∀ x, Q x → Q' x) ∧ (∀ x, Q' x → Q x ∨ hN h ≤ x ∧ x < hN h') ∧ cI Q' h' X tp ou fo hd a (w.1 + 1, add1 w.2.1 w.1 p hn false t, w.2.2) := by
  have d := I.1.1
  have dN := d.1
  have W := I.1.2.2.1
  have hQ := I.1.2.1
  have r : rw_ h (X + 5) (X + 6) 300 300 t 0 := D
  have hl := r.2.2.1.1
  obtain ⟨v, h1, e1, s1, rf1, T1, n1, u1⟩ := c_textOf (g := g) d I.2.1.2.2.2 r (by omega) (by omega) (by omega)
  have hs1 := s1.1
  have c1 := cfm.of (X := X) s1 dN (fun k hk => by unfold crO at hk; unfold rP; omega)
  have d1 := d.keep c1
  have hQ1 : ∀ x, (Q x ∨ hN h ≤ x ∧ x < hN h1) → X + 57 ≤ x ∧ x < hN h1 := fun x hx => by
    rcases hx with z | z
    · have := hQ x z; omega
    · omega
  have W1 : web (fun x => Q x ∨ hN h ≤ x ∧ x < hN h1) h1 X w := W.keep s1 dN (fun k k1 k2 => by unfold rP; omega) (fun x hx => by have := hQ x hx; exact ⟨by omega, by unfold rP; omega, Or.inl hx⟩)
  have T1' : txt (fun x => Q x ∨ hN h ≤ x ∧ x < hN h1) h1 v t := T1.keep (P := fun _ => False) (sm.rf h1) (fun x hx => ⟨by omega, fun z => z, Or.inr hx⟩)
  obtain ⟨h2, Q2, e2, c2, n2, u2, sub1, sub2, W2⟩ := w_commit (g := g) (p := p) (hn := hn) (gn := false) d1 hQ1 W1 hp hn1 T1' hl
  rw [bI_f] at e2
  have hs2 := c2.1.1
  let P : Nat → Prop := fun x => x = X + 1 ∨ x = X + 2 ∨ x = X + 5 ∨ x = X + 6 ∨ x = X + 9 ∨ x = X + 10 ∨ x = X + 11 ∨ x = X + 12 ∨ x = X + 13 ∨ x = X + 14
  have cB : cfm X (fun x => x = X + 9 ∨ x = X + 10 ∨ x = X + 11 ∨ x = X + 12 ∨ x = X + 13) h h2 := (c1.mono (fun x _ z => by unfold rP at z; omega)).tr (c2.mono (fun x _ z => by omega))
  have cA : cfm X P h h2 := cB.mono (fun x _ z => by show _ ∨ _; omega)
  have hp' : nP X (fun x => x = X + 9 ∨ x = X + 10 ∨ x = X + 11 ∨ x = X + 12 ∨ x = X + 13) [9, 10, 11, 12, 13] := fun k hk hn' z => by simp only [List.mem_cons, List.not_mem_nil, or_false, not_or] at hn'; omega
  obtain ⟨z1, o1, rf1⟩ := rf1
  have hsub : ∀ x, Q2 x → Q x ∨ hN h ≤ x ∧ x < hN h2 := fun x hx => by
    rcases sub2 x hx with z | z
    · rcases z with z | z
      · exact Or.inl z
      · exact Or.inr (by omega)
    · exact Or.inr (by omega)
  obtain ⟨J, sJ⟩ := I.chw (Q' := Q2) cA (fun x z => z) (fun x hx => sub1 x (Or.inl hx)) hsub (I.2.1.1.kp cB.1 dN hp' (by decide) (by decide)) (I.2.1.2.2.1.kp cB.1 dN hp' (by decide) (by decide)) ⟨z1, o1, rf1.keep c2.1 (by omega) (by omega) (by omega) (by omega)⟩ W2 (by show w.1 ≤ w.1 + 1; omega)
  exact ⟨v, h1, h2, Q2, e1, d1, e2, sJ, by omega, by omega, by omega, fun x hx => sub1 x (Or.inl hx), hsub, J⟩
theorem num_ex {nm : Nat → Nm} {q : Nm} : ∀ {k b p : Nat}, p < k → nm (b + p) = q → ¬ num nm q k b = none
  | 0, b, p, h, _ => by omega
  | k + 1, b, p, h, e => by
    rw [num]
    by_cases c : nm b = q
    · rw [if_pos c]; simp
    · rw [if_neg c]
      have hp : p ≠ 0 := fun z => c (by rw [z] at e; exact e)
      exact num_ex (k := k) (b := b + 1) (p := p - 1) (by omega) (by rw [show b + 1 + (p - 1) = b + p by omega]; exact e)
theorem C_back {x y : Int32} (I : cI Q h X tp ou fo hd a w) (K : wok w.1 w.2.1) :
    ∃ h' Q', cal g mX10_back [va_rf (some X), .int x, .int y] h = some (some (.int (sBack w x y).1), h') ∧ cOK X h h' ((sBack w x y).2.1 - w.1) ∧ cI Q' h' X tp ou fo hd a (sBack w x y).2 := by
  have d := I.1.1
  have dN := d.1
  have W := I.1.2.2.1
  have hQ := I.1.2.1
  have hn := W.1.2.2.1
  have hnn := W.1.2.2.2
  have el := w_latest (g := g) d W
  have en := w_numbered (g := g) (x := x) d W
  rw [n_X10_back]
  have ref : ∀ v, ev g mX10_back 0 [some (va_rf (some X)), some (.int x), some (.int y), none, none, none, none, none] [] h = some (some (.int v), h) → (sBack w x y) = (v, w) → ∃ h' Q', ev g mX10_back 0 [some (va_rf (some X)), some (.int x), some (.int y), none, none, none, none, none] [] h = some (some (.int (sBack w x y).1), h') ∧ cOK X h h' ((sBack w x y).2.1 - w.1) ∧ cI Q' h' X tp ou fo hd a (sBack w x y).2 := by
    intro v e1 e2
    rw [e2]
    exact ⟨h, Q, e1, ⟨cfm.rf _, by omega, by omega⟩, I⟩
  have nn0 : numI w.1 x = none → ∃ h' Q', ev g mX10_back 0 [some (va_rf (some X)), some (.int x), some (.int y), none, none, none, none, none] [] h = some (some (.int (sBack w x y).1), h') ∧ cOK X h h' ((sBack w x y).2.1 - w.1) ∧ cI Q' h' X tp ou fo hd a (sBack w x y).2 := by
    intro z
    rw [z] at en
    have en' : cal g mX9_numbered [va_rf (some (X + 11)), .int x] h = some (some (va_rf none), h) := en
    refine ref (nM 1) ?_ ?_
    · simp (decide := true) (disch := omega) only [e_X10_back_0, e_X10_back_1, e_X10_back_4, e_X10_back_5, e_X10_back_8, e_X10_back_9, e_X10_back_10, e_X10_back_13, e_X10_back_14, e_X10_back_17, e_X10_back_20, e_X10_back_21, e_X10_back_22, e_X10_back_23, e_X10_back_26, e_X10_back_27, e_X10_back_30, e_X10_back_31, e_X10_back_34, e_X10_back_37, e_X10_back_40, e_X10_back_42, e_X10_back_43, e_X10_back_46, e_X10_back_47, e_X10_back_50, e_X10_back_51, e_X10_back_52, e_X10_back_53, e_X10_back_56, e_X10_back_58, e_X10_back_59, e_X10_back_62, e_X10_back_63, e_X10_back_66, e_X10_back_68, e_X10_back_70, e_X10_back_73, e_X10_back_75, e_X10_back_78, e_X10_back_79, e_X10_back_82, e_X10_back_85, e_X10_back_87, e_X10_back_88, e_X10_back_91, e_X10_back_93, e_X10_back_94, e_X10_back_96, e_X10_back_99, e_X10_back_102, e_X10_back_104, e_X10_back_105, e_X10_back_108, e_X10_back_109, e_X10_back_112, e_X10_back_113, e_X10_back_116, e_X10_back_118, e_X10_back_119, e_X10_back_121, e_X10_back_124, e_X10_back_125, e_X10_back_128, e_X10_back_130, e_X10_back_133, e_X10_back_136, e_X10_back_137, e_X10_back_140, e_X10_back_141, e_X10_back_144, e_X10_back_145, e_X10_back_148, e_X10_back_149, e_X10_back_152, e_X10_back_153, e_X10_back_156, e_X10_back_158, e_X10_back_160, e_X10_back_161, e_X10_back_164, e_X10_back_165, e_X10_back_167, e_X10_back_170, e_X10_back_173, e_X10_back_174, e_X10_back_177, e_X10_back_180, e_X10_back_183, e_X10_back_184, e_X10_back_187, e_X10_back_188, e_X10_back_189, e_X10_back_192, e_X10_back_193, e_X10_back_196, e_X10_back_199, e_X10_back_202, e_X10_back_205, e_X10_back_207, e_X10_back_208, e_X10_back_209, e_X10_back_212, e_X10_back_213, e_X10_back_216, e_X10_back_217, e_X10_back_218, e_X10_back_221, e_X10_back_222, e_X10_back_225, e_X10_back_228, e_X10_back_229, e_X10_back_232, ↓reduceIte, if_true, if_false, reduceCtorEq, Nat.reduceAdd, true_and, and_true, false_and, and_false, true_or, or_true, false_or, or_false, not_true_eq_false, not_false_eq_true, Option.bind_eq_bind, Option.bind_some, psh, eq_self, l_0, l_1, l_2, l_3, l_4, l_5, l_6, l_7, l_8, l_9, l_10, l_11, l_12, l_13, l_14, l_15, l_16, l_17, l_18, l_19, l_20, l_24, l_31, l_32, l_33, l_35, l_36, l_48, l_56, l_57, l_58, l_63, l_65, l_80, l_81, l_90, l_91, l_93, l_94, l_95, l_97, l_100, l_105, l_107, l_110, l_111, l_116, l_120, l_121, l_122, l_123, l_124, l_125, l_126, l_162, l_255, l_300, l_400, l_420, l_432, l_1000, l_1400, l_1936, l_2000, l_2100, l_2400, l_24000, m_n1, m_n2, m_n3, nI_mul, nI_add, nI_sub, nI_ltT, nI_ltF, nI_leT, nI_leF, nI_eqT, nI_eqF, nI_nM, nM_nI, nM_eq, nM_lt, nM_le, nI_ltM, nI_leM, nI_inT, nI_dec, pk_rem, nI_ltI, nI_leI, nI_eq, nI_clamp, Nat.add_assoc, q_bv51, Nat.add_left_cancel_iff, clK_0 d, clK_1 d, clK_3 d, clK_5 d, clK_7 d, clK_8 d, clK_9 d, clK_11 d, clK_12 d, clK_13 d, clK_14 d, clK_15 d, clK_16 d, clK_18 d, clK_20 d, clK_21 d, clK_22 d, clK_23 d, clK_24 d, clK_25 d, clK_26 d, clR_0_0 d, clR_1_0 d, clR_2_0 d, clR_3_0 d, clR_7_0 d, clR_8_0 d, clR_9_0 d, clR_10_0 d, clR_11_0 d, clR_0_8 d, clR_0_11 d, clR_1_11 d, clR_2_11 d, clR_0_15 d, clR_1_15 d, clR_2_15 d, clR_3_15 d, clR_4_15 d, clR_5_15 d, clR_0_23 d, clR_1_23 d, clR_0_25 d, clL_7 d, clL_12 d, clL_13 d, clL_14 d, clL_20 d, clL_21 d, clL_22 d, clL_24 d, clS_0 d, clS_1 d, clS_2 d, clS_3 d, en']
    · unfold sBack
      unfold numI at z
      cases e : ixI (w.1 + 1) x with
      | none => rfl
      | some c =>
        rw [e] at z
        simp only at z ⊢
        split at z
        · rename_i c0
          rw [if_pos (Or.inl c0)]
        · cases z
  cases hx : numI w.1 x with
  | none => exact nn0 hx
  | some c =>
    obtain ⟨c1, c2, rfl⟩ := numI_some hx (by omega)
    rw [hx] at en
    obtain ⟨⟨b, b1, B⟩, ok⟩ := W.2.1 c c1 c2
    rw [adr, b1] at en
    have eI : ixI (w.1 + 1) (nI c) = some c := ixI_nI (by omega) (by omega)
    have eh := c_isHand (g := g) (h := h) (x := y)
    cases ey : hnd y with
    | false =>
      rw [ey, bI_f] at eh
      refine ref (nM 1) ?_ (by unfold sBack; rw [eI]; simp only; rw [if_pos (Or.inr ey)])
      simp (decide := true) (disch := omega) only [e_X10_back_0, e_X10_back_1, e_X10_back_4, e_X10_back_5, e_X10_back_8, e_X10_back_9, e_X10_back_10, e_X10_back_13, e_X10_back_14, e_X10_back_17, e_X10_back_20, e_X10_back_21, e_X10_back_22, e_X10_back_23, e_X10_back_26, e_X10_back_27, e_X10_back_30, e_X10_back_31, e_X10_back_34, e_X10_back_37, e_X10_back_40, e_X10_back_42, e_X10_back_43, e_X10_back_46, e_X10_back_47, e_X10_back_50, e_X10_back_51, e_X10_back_52, e_X10_back_53, e_X10_back_56, e_X10_back_58, e_X10_back_59, e_X10_back_62, e_X10_back_63, e_X10_back_66, e_X10_back_68, e_X10_back_70, e_X10_back_73, e_X10_back_75, e_X10_back_78, e_X10_back_79, e_X10_back_82, e_X10_back_85, e_X10_back_87, e_X10_back_88, e_X10_back_91, e_X10_back_93, e_X10_back_94, e_X10_back_96, e_X10_back_99, e_X10_back_102, e_X10_back_104, e_X10_back_105, e_X10_back_108, e_X10_back_109, e_X10_back_112, e_X10_back_113, e_X10_back_116, e_X10_back_118, e_X10_back_119, e_X10_back_121, e_X10_back_124, e_X10_back_125, e_X10_back_128, e_X10_back_130, e_X10_back_133, e_X10_back_136, e_X10_back_137, e_X10_back_140, e_X10_back_141, e_X10_back_144, e_X10_back_145, e_X10_back_148, e_X10_back_149, e_X10_back_152, e_X10_back_153, e_X10_back_156, e_X10_back_158, e_X10_back_160, e_X10_back_161, e_X10_back_164, e_X10_back_165, e_X10_back_167, e_X10_back_170, e_X10_back_173, e_X10_back_174, e_X10_back_177, e_X10_back_180, e_X10_back_183, e_X10_back_184, e_X10_back_187, e_X10_back_188, e_X10_back_189, e_X10_back_192, e_X10_back_193, e_X10_back_196, e_X10_back_199, e_X10_back_202, e_X10_back_205, e_X10_back_207, e_X10_back_208, e_X10_back_209, e_X10_back_212, e_X10_back_213, e_X10_back_216, e_X10_back_217, e_X10_back_218, e_X10_back_221, e_X10_back_222, e_X10_back_225, e_X10_back_228, e_X10_back_229, e_X10_back_232, ↓reduceIte, if_true, if_false, reduceCtorEq, Nat.reduceAdd, true_and, and_true, false_and, and_false, true_or, or_true, false_or, or_false, not_true_eq_false, not_false_eq_true, Option.bind_eq_bind, Option.bind_some, psh, eq_self, l_0, l_1, l_2, l_3, l_4, l_5, l_6, l_7, l_8, l_9, l_10, l_11, l_12, l_13, l_14, l_15, l_16, l_17, l_18, l_19, l_20, l_24, l_31, l_32, l_33, l_35, l_36, l_48, l_56, l_57, l_58, l_63, l_65, l_80, l_81, l_90, l_91, l_93, l_94, l_95, l_97, l_100, l_105, l_107, l_110, l_111, l_116, l_120, l_121, l_122, l_123, l_124, l_125, l_126, l_162, l_255, l_300, l_400, l_420, l_432, l_1000, l_1400, l_1936, l_2000, l_2100, l_2400, l_24000, m_n1, m_n2, m_n3, nI_mul, nI_add, nI_sub, nI_ltT, nI_ltF, nI_leT, nI_leF, nI_eqT, nI_eqF, nI_nM, nM_nI, nM_eq, nM_lt, nM_le, nI_ltM, nI_leM, nI_inT, nI_dec, pk_rem, nI_ltI, nI_leI, nI_eq, nI_clamp, Nat.add_assoc, q_bv51, Nat.add_left_cancel_iff, clK_0 d, clK_1 d, clK_3 d, clK_5 d, clK_7 d, clK_8 d, clK_9 d, clK_11 d, clK_12 d, clK_13 d, clK_14 d, clK_15 d, clK_16 d, clK_18 d, clK_20 d, clK_21 d, clK_22 d, clK_23 d, clK_24 d, clK_25 d, clK_26 d, clR_0_0 d, clR_1_0 d, clR_2_0 d, clR_3_0 d, clR_7_0 d, clR_8_0 d, clR_9_0 d, clR_10_0 d, clR_11_0 d, clR_0_8 d, clR_0_11 d, clR_1_11 d, clR_2_11 d, clR_0_15 d, clR_1_15 d, clR_2_15 d, clR_3_15 d, clR_4_15 d, clR_5_15 d, clR_0_23 d, clR_1_23 d, clR_0_25 d, clL_7 d, clL_12 d, clL_13 d, clL_14 d, clL_20 d, clL_21 d, clL_22 d, clL_24 d, clS_0 d, clS_1 d, clS_2 d, clS_3 d, en, reduceCtorEq, eh]
    | true =>
      rw [ey, bI_t] at eh
      obtain ⟨p0, hp0, rfl⟩ := hnd_some ey
      have qb := hQ b B.1.1
      obtain ⟨⟨-, k0, i0, -, i2, i4, i5, i6⟩, -⟩ := B
      have hp := ok.2.2.2.2.2
      have et1 := w_there (g := g) (x := nI (cp (w.2.1 c))) d W (Nat.le_refl _)
      have aT1 := adr_thI (x := nI (cp (w.2.1 c))) W (Nat.le_refl _)
      have et2 := w_there (g := g) (x := nI (cp (w.2.1 c))) (T := c - 1) d W (by omega)
      have aT2 := adr_thI (x := nI (cp (w.2.1 c))) (T := c - 1) W (by omega)
      rw [thI_nI hp (by omega)] at et1 aT1 et2 aT2
      obtain ⟨sv, esv⟩ := w_startNow' (g := g) d W c1 c2
      have eS0 : sBack w (nI c) (nI p0) = if cg (w.2.1 c) = true then (nM 2, w) else match thr w.2.1 (cp (w.2.1 c)) (c - 1) with
        | none => (nM 2, w)
        | some was => match thr w.2.1 (cp (w.2.1 c)) w.1 with
          | none => (nM 2, w)
          | some now => match bks w.2.1 (cp (w.2.1 c)) (cc (w.2.1 c)) (w.1 - c) (c + 1) (cs (w.2.1 c)) with
            | none => (nM 2, w)
            | some s => if 300 < (ct (w.2.1 now)).length - cc (w.2.1 c) + cw (w.2.1 c) ∨ w.1 = 120 then (nM 3, w)
              else (nI (w.1 + 1), w.1 + 1, add1 w.2.1 w.1 (cp (w.2.1 c)) p0 false (slc (ct (w.2.1 now)) 0 s ++ (slc (ct (w.2.1 was)) (cs (w.2.1 c)) (cs (w.2.1 c) + cw (w.2.1 c)) ++ slc (ct (w.2.1 now)) (s + cc (w.2.1 c)) (ct (w.2.1 now)).length)), w.2.2) := by
        unfold sBack
        rw [eI]
        simp only
        rw [if_neg (by rw [ey]; simp; omega), nI_clamp (by omega)]
        rfl
      have head : ev g mX10_back 0 [some (va_rf (some X)), some (.int (nI c)), some (.int (nI p0)), none, none, none, none, none] [] h = ev g mX10_back 68 [some (va_rf (some X)), some (.int (nI c)), some (.int (nI p0)), some (va_rf (some b)), some (va_rf (adr h X (thr w.2.1 (cp (w.2.1 c)) w.1))), some (va_rf (adr h X (thr w.2.1 (cp (w.2.1 c)) (c - 1)))), some (.int sv), none] [] h := by
        simp (decide := true) (disch := omega) only [e_X10_back_0, e_X10_back_1, e_X10_back_4, e_X10_back_5, e_X10_back_8, e_X10_back_9, e_X10_back_10, e_X10_back_13, e_X10_back_14, e_X10_back_17, e_X10_back_20, e_X10_back_21, e_X10_back_22, e_X10_back_23, e_X10_back_26, e_X10_back_27, e_X10_back_30, e_X10_back_31, e_X10_back_34, e_X10_back_37, e_X10_back_40, e_X10_back_42, e_X10_back_43, e_X10_back_46, e_X10_back_47, e_X10_back_50, e_X10_back_51, e_X10_back_52, e_X10_back_53, e_X10_back_56, e_X10_back_58, e_X10_back_59, e_X10_back_62, e_X10_back_63, e_X10_back_66, ↓reduceIte, if_true, if_false, reduceCtorEq, Nat.reduceAdd, true_and, and_true, false_and, and_false, true_or, or_true, false_or, or_false, not_true_eq_false, not_false_eq_true, Option.bind_eq_bind, Option.bind_some, psh, eq_self, l_0, l_1, l_2, l_3, l_4, l_5, l_6, l_7, l_8, l_9, l_10, l_11, l_12, l_13, l_14, l_15, l_16, l_17, l_18, l_19, l_20, l_24, l_31, l_32, l_33, l_35, l_36, l_48, l_56, l_57, l_58, l_63, l_65, l_80, l_81, l_90, l_91, l_93, l_94, l_95, l_97, l_100, l_105, l_107, l_110, l_111, l_116, l_120, l_121, l_122, l_123, l_124, l_125, l_126, l_162, l_255, l_300, l_400, l_420, l_432, l_1000, l_1400, l_1936, l_2000, l_2100, l_2400, l_24000, m_n1, m_n2, m_n3, nI_mul, nI_add, nI_sub, nI_ltT, nI_ltF, nI_leT, nI_leF, nI_eqT, nI_eqF, nI_nM, nM_nI, nM_eq, nM_lt, nM_le, nI_ltM, nI_leM, nI_inT, nI_dec, pk_rem, nI_ltI, nI_leI, nI_eq, nI_clamp, Nat.add_assoc, q_bv51, Nat.add_left_cancel_iff, clK_0 d, clK_1 d, clK_3 d, clK_5 d, clK_7 d, clK_8 d, clK_9 d, clK_11 d, clK_12 d, clK_13 d, clK_14 d, clK_15 d, clK_16 d, clK_18 d, clK_20 d, clK_21 d, clK_22 d, clK_23 d, clK_24 d, clK_25 d, clK_26 d, clR_0_0 d, clR_1_0 d, clR_2_0 d, clR_3_0 d, clR_7_0 d, clR_8_0 d, clR_9_0 d, clR_10_0 d, clR_11_0 d, clR_0_8 d, clR_0_11 d, clR_1_11 d, clR_2_11 d, clR_0_15 d, clR_1_15 d, clR_2_15 d, clR_3_15 d, clR_4_15 d, clR_5_15 d, clR_0_23 d, clR_1_23 d, clR_0_25 d, clL_7 d, clL_12 d, clL_13 d, clL_14 d, clL_20 d, clL_21 d, clL_22 d, clL_24 d, clS_0 d, clS_1 d, clS_2 d, clS_3 d, en, reduceCtorEq, eh, k0, i0, el, et1, et2, esv]
      cases hg : cg (w.2.1 c) with
      | true =>
        rw [hg, bI_t] at i2
        refine ref (nM 2) ?_ (by rw [eS0, if_pos hg])
        rw [head]
        cases e1 : adr h X (thr w.2.1 (cp (w.2.1 c)) w.1) with
        | none => simp (decide := true) (disch := omega) only [e_X10_back_68, e_X10_back_70, e_X10_back_73, e_X10_back_75, e_X10_back_78, e_X10_back_79, e_X10_back_82, e_X10_back_85, e_X10_back_87, e_X10_back_88, e_X10_back_91, e_X10_back_93, ↓reduceIte, if_true, if_false, reduceCtorEq, Nat.reduceAdd, true_and, and_true, false_and, and_false, true_or, or_true, false_or, or_false, not_true_eq_false, not_false_eq_true, Option.bind_eq_bind, Option.bind_some, psh, eq_self, l_0, l_1, l_2, l_3, l_4, l_5, l_6, l_7, l_8, l_9, l_10, l_11, l_12, l_13, l_14, l_15, l_16, l_17, l_18, l_19, l_20, l_24, l_31, l_32, l_33, l_35, l_36, l_48, l_56, l_57, l_58, l_63, l_65, l_80, l_81, l_90, l_91, l_93, l_94, l_95, l_97, l_100, l_105, l_107, l_110, l_111, l_116, l_120, l_121, l_122, l_123, l_124, l_125, l_126, l_162, l_255, l_300, l_400, l_420, l_432, l_1000, l_1400, l_1936, l_2000, l_2100, l_2400, l_24000, m_n1, m_n2, m_n3, nI_mul, nI_add, nI_sub, nI_ltT, nI_ltF, nI_leT, nI_leF, nI_eqT, nI_eqF, nI_nM, nM_nI, nM_eq, nM_lt, nM_le, nI_ltM, nI_leM, nI_inT, nI_dec, pk_rem, nI_ltI, nI_leI, nI_eq, nI_clamp, Nat.add_assoc, q_bv51, Nat.add_left_cancel_iff]
        | some u1 =>
          cases e2 : adr h X (thr w.2.1 (cp (w.2.1 c)) (c - 1)) with
          | none => simp (decide := true) (disch := omega) only [e_X10_back_68, e_X10_back_70, e_X10_back_73, e_X10_back_75, e_X10_back_78, e_X10_back_79, e_X10_back_82, e_X10_back_85, e_X10_back_87, e_X10_back_88, e_X10_back_91, e_X10_back_93, ↓reduceIte, if_true, if_false, reduceCtorEq, Nat.reduceAdd, true_and, and_true, false_and, and_false, true_or, or_true, false_or, or_false, not_true_eq_false, not_false_eq_true, Option.bind_eq_bind, Option.bind_some, psh, eq_self, l_0, l_1, l_2, l_3, l_4, l_5, l_6, l_7, l_8, l_9, l_10, l_11, l_12, l_13, l_14, l_15, l_16, l_17, l_18, l_19, l_20, l_24, l_31, l_32, l_33, l_35, l_36, l_48, l_56, l_57, l_58, l_63, l_65, l_80, l_81, l_90, l_91, l_93, l_94, l_95, l_97, l_100, l_105, l_107, l_110, l_111, l_116, l_120, l_121, l_122, l_123, l_124, l_125, l_126, l_162, l_255, l_300, l_400, l_420, l_432, l_1000, l_1400, l_1936, l_2000, l_2100, l_2400, l_24000, m_n1, m_n2, m_n3, nI_mul, nI_add, nI_sub, nI_ltT, nI_ltF, nI_leT, nI_leF, nI_eqT, nI_eqF, nI_nM, nM_nI, nM_eq, nM_lt, nM_le, nI_ltM, nI_leM, nI_inT, nI_dec, pk_rem, nI_ltI, nI_leI, nI_eq, nI_clamp, Nat.add_assoc, q_bv51, Nat.add_left_cancel_iff, reduceCtorEq]
          | some u2 => simp (decide := true) (disch := omega) only [e_X10_back_68, e_X10_back_70, e_X10_back_73, e_X10_back_75, e_X10_back_78, e_X10_back_79, e_X10_back_82, e_X10_back_85, e_X10_back_87, e_X10_back_88, e_X10_back_91, e_X10_back_93, ↓reduceIte, if_true, if_false, reduceCtorEq, Nat.reduceAdd, true_and, and_true, false_and, and_false, true_or, or_true, false_or, or_false, not_true_eq_false, not_false_eq_true, Option.bind_eq_bind, Option.bind_some, psh, eq_self, l_0, l_1, l_2, l_3, l_4, l_5, l_6, l_7, l_8, l_9, l_10, l_11, l_12, l_13, l_14, l_15, l_16, l_17, l_18, l_19, l_20, l_24, l_31, l_32, l_33, l_35, l_36, l_48, l_56, l_57, l_58, l_63, l_65, l_80, l_81, l_90, l_91, l_93, l_94, l_95, l_97, l_100, l_105, l_107, l_110, l_111, l_116, l_120, l_121, l_122, l_123, l_124, l_125, l_126, l_162, l_255, l_300, l_400, l_420, l_432, l_1000, l_1400, l_1936, l_2000, l_2100, l_2400, l_24000, m_n1, m_n2, m_n3, nI_mul, nI_add, nI_sub, nI_ltT, nI_ltF, nI_leT, nI_leF, nI_eqT, nI_eqF, nI_nM, nM_nI, nM_eq, nM_lt, nM_le, nI_ltM, nI_leM, nI_inT, nI_dec, pk_rem, nI_ltI, nI_leI, nI_eq, nI_clamp, Nat.add_assoc, q_bv51, Nat.add_left_cancel_iff, reduceCtorEq, k0, i2]
      | false =>
        rw [hg, bI_f] at i2
        rw [if_neg (by rw [hg]; simp)] at eS0
        have esn := w_startNow (g := g) d W K c1 c2 hg
        rw [esv] at esn
        have esv' : sv = oN (bks w.2.1 (cp (w.2.1 c)) (cc (w.2.1 c)) (w.1 - c) (c + 1) (cs (w.2.1 c))) := by
          have := Option.some.inj esn
          have := Option.some.inj (Prod.mk.inj this).1
          injection this
        cases e2 : thr w.2.1 (cp (w.2.1 c)) (c - 1) with
        | none =>
          rw [e2] at eS0
          refine ref (nM 2) ?_ eS0
          rw [head, e2]
          cases e1 : adr h X (thr w.2.1 (cp (w.2.1 c)) w.1) with
          | none => simp (decide := true) (disch := omega) only [e_X10_back_68, e_X10_back_70, e_X10_back_73, e_X10_back_75, e_X10_back_78, e_X10_back_79, e_X10_back_82, e_X10_back_85, e_X10_back_87, e_X10_back_88, e_X10_back_91, e_X10_back_93, ↓reduceIte, if_true, if_false, reduceCtorEq, Nat.reduceAdd, true_and, and_true, false_and, and_false, true_or, or_true, false_or, or_false, not_true_eq_false, not_false_eq_true, Option.bind_eq_bind, Option.bind_some, psh, eq_self, l_0, l_1, l_2, l_3, l_4, l_5, l_6, l_7, l_8, l_9, l_10, l_11, l_12, l_13, l_14, l_15, l_16, l_17, l_18, l_19, l_20, l_24, l_31, l_32, l_33, l_35, l_36, l_48, l_56, l_57, l_58, l_63, l_65, l_80, l_81, l_90, l_91, l_93, l_94, l_95, l_97, l_100, l_105, l_107, l_110, l_111, l_116, l_120, l_121, l_122, l_123, l_124, l_125, l_126, l_162, l_255, l_300, l_400, l_420, l_432, l_1000, l_1400, l_1936, l_2000, l_2100, l_2400, l_24000, m_n1, m_n2, m_n3, nI_mul, nI_add, nI_sub, nI_ltT, nI_ltF, nI_leT, nI_leF, nI_eqT, nI_eqF, nI_nM, nM_nI, nM_eq, nM_lt, nM_le, nI_ltM, nI_leM, nI_inT, nI_dec, pk_rem, nI_ltI, nI_leI, nI_eq, nI_clamp, Nat.add_assoc, q_bv51, Nat.add_left_cancel_iff]
          | some u1 => simp (decide := true) (disch := omega) only [e_X10_back_68, e_X10_back_70, e_X10_back_73, e_X10_back_75, e_X10_back_78, e_X10_back_79, e_X10_back_82, e_X10_back_85, e_X10_back_87, e_X10_back_88, e_X10_back_91, e_X10_back_93, ↓reduceIte, if_true, if_false, reduceCtorEq, Nat.reduceAdd, true_and, and_true, false_and, and_false, true_or, or_true, false_or, or_false, not_true_eq_false, not_false_eq_true, Option.bind_eq_bind, Option.bind_some, psh, eq_self, l_0, l_1, l_2, l_3, l_4, l_5, l_6, l_7, l_8, l_9, l_10, l_11, l_12, l_13, l_14, l_15, l_16, l_17, l_18, l_19, l_20, l_24, l_31, l_32, l_33, l_35, l_36, l_48, l_56, l_57, l_58, l_63, l_65, l_80, l_81, l_90, l_91, l_93, l_94, l_95, l_97, l_100, l_105, l_107, l_110, l_111, l_116, l_120, l_121, l_122, l_123, l_124, l_125, l_126, l_162, l_255, l_300, l_400, l_420, l_432, l_1000, l_1400, l_1936, l_2000, l_2100, l_2400, l_24000, m_n1, m_n2, m_n3, nI_mul, nI_add, nI_sub, nI_ltT, nI_ltF, nI_leT, nI_leF, nI_eqT, nI_eqF, nI_nM, nM_nI, nM_eq, nM_lt, nM_le, nI_ltM, nI_leM, nI_inT, nI_dec, pk_rem, nI_ltI, nI_leI, nI_eq, nI_clamp, Nat.add_assoc, q_bv51, Nat.add_left_cancel_iff, reduceCtorEq, adr]
        | some was =>
          rw [e2] at eS0 aT2
          cases e1 : thr w.2.1 (cp (w.2.1 c)) w.1 with
          | none =>
            rw [e1] at eS0
            refine ref (nM 2) ?_ eS0
            rw [head, e1]
            simp (decide := true) (disch := omega) only [e_X10_back_68, e_X10_back_70, e_X10_back_73, e_X10_back_75, e_X10_back_78, e_X10_back_79, e_X10_back_82, e_X10_back_85, e_X10_back_87, e_X10_back_88, e_X10_back_91, e_X10_back_93, ↓reduceIte, if_true, if_false, reduceCtorEq, Nat.reduceAdd, true_and, and_true, false_and, and_false, true_or, or_true, false_or, or_false, not_true_eq_false, not_false_eq_true, Option.bind_eq_bind, Option.bind_some, psh, eq_self, l_0, l_1, l_2, l_3, l_4, l_5, l_6, l_7, l_8, l_9, l_10, l_11, l_12, l_13, l_14, l_15, l_16, l_17, l_18, l_19, l_20, l_24, l_31, l_32, l_33, l_35, l_36, l_48, l_56, l_57, l_58, l_63, l_65, l_80, l_81, l_90, l_91, l_93, l_94, l_95, l_97, l_100, l_105, l_107, l_110, l_111, l_116, l_120, l_121, l_122, l_123, l_124, l_125, l_126, l_162, l_255, l_300, l_400, l_420, l_432, l_1000, l_1400, l_1936, l_2000, l_2100, l_2400, l_24000, m_n1, m_n2, m_n3, nI_mul, nI_add, nI_sub, nI_ltT, nI_ltF, nI_leT, nI_leF, nI_eqT, nI_eqF, nI_nM, nM_nI, nM_eq, nM_lt, nM_le, nI_ltM, nI_leM, nI_inT, nI_dec, pk_rem, nI_ltI, nI_leI, nI_eq, nI_clamp, Nat.add_assoc, q_bv51, Nat.add_left_cancel_iff, adr]
          | some now =>
            rw [e1] at eS0 aT1
            obtain ⟨u1, q11, q12, q13, q14, q15⟩ := aT1
            obtain ⟨u2, q21, q22, q23, q24, q25⟩ := aT2
            rw [e1, e2, q11, q21] at head
            cases eb : bks w.2.1 (cp (w.2.1 c)) (cc (w.2.1 c)) (w.1 - c) (c + 1) (cs (w.2.1 c)) with
            | none =>
              rw [eb] at eS0 esv'
              have esv2 : sv = nM 1 := esv'
              refine ref (nM 2) ?_ eS0
              rw [head, esv2]
              simp (decide := true) (disch := omega) only [e_X10_back_68, e_X10_back_70, e_X10_back_73, e_X10_back_75, e_X10_back_78, e_X10_back_79, e_X10_back_82, e_X10_back_85, e_X10_back_87, e_X10_back_88, e_X10_back_91, e_X10_back_93, ↓reduceIte, if_true, if_false, reduceCtorEq, Nat.reduceAdd, true_and, and_true, false_and, and_false, true_or, or_true, false_or, or_false, not_true_eq_false, not_false_eq_true, Option.bind_eq_bind, Option.bind_some, psh, eq_self, l_0, l_1, l_2, l_3, l_4, l_5, l_6, l_7, l_8, l_9, l_10, l_11, l_12, l_13, l_14, l_15, l_16, l_17, l_18, l_19, l_20, l_24, l_31, l_32, l_33, l_35, l_36, l_48, l_56, l_57, l_58, l_63, l_65, l_80, l_81, l_90, l_91, l_93, l_94, l_95, l_97, l_100, l_105, l_107, l_110, l_111, l_116, l_120, l_121, l_122, l_123, l_124, l_125, l_126, l_162, l_255, l_300, l_400, l_420, l_432, l_1000, l_1400, l_1936, l_2000, l_2100, l_2400, l_24000, m_n1, m_n2, m_n3, nI_mul, nI_add, nI_sub, nI_ltT, nI_ltF, nI_leT, nI_leF, nI_eqT, nI_eqF, nI_nM, nM_nI, nM_eq, nM_lt, nM_le, nI_ltM, nI_leM, nI_inT, nI_dec, pk_rem, nI_ltI, nI_leI, nI_eq, nI_clamp, Nat.add_assoc, q_bv51, Nat.add_left_cancel_iff, reduceCtorEq, k0, i2]
            | some s =>
              rw [eb] at eS0 esv'
              have esv2 : sv = nI s := esv'
              subst esv2
              simp only at eS0
              have elst : lst w.2.1 (cp (w.2.1 c)) c = c := by
                obtain ⟨c', rfl⟩ : ∃ c', c = c' + 1 := ⟨c - 1, by omega⟩
                rw [lst_succ, if_pos rfl]
              have w2 := (K c c1 c2)
              obtain ⟨-, -, -, -, v5⟩ := thr_some e1
              have hin := (bks_in K (by omega) (by omega) (by rw [elst]; exact hg) (by rw [elst]; exact w2.2.1) eb).2
              rw [← v5] at hin
              have eWt : wasT w.2.1 (cp (w.2.1 c)) (c - 1) = ct (w.2.1 was) := by unfold wasT; rw [e2]
              unfold wok1 at w2
              rw [eWt] at w2
              obtain ⟨w21, w22, w23⟩ := w2
              have okn := q13.1
              have okw := q23.1
              -- the rows
              have qu1 := hQ u1 q12.1.1
              have qu2 := hQ u2 q22.1.1
              obtain ⟨⟨-, k01, -⟩, ⟨t1, t11, ⟨jt1, k81⟩, ⟨ra, rb', r1, r2, r3, r4⟩, -⟩, -⟩ := q12
              obtain ⟨⟨-, k02, -⟩, ⟨t2, t21, ⟨jt2, k82⟩, ⟨sa, sb, s1, s2, s3, s4⟩, -⟩, -⟩ := q22
              have ja := hQ ra r2
              have jb := hQ rb' r3
              have jc := hQ sa s2
              have jd := hQ sb s3
              obtain ⟨hA, eA, sA, nA', uA, DA⟩ := d_cut (g := g) I.2.1.2.2.1
              obtain ⟨lA, oA, rA, -⟩ := DA.any
              obtain ⟨IA, cA, cA'⟩ := I.dr sA rA
              have r4A := r4.keep sA ja.2 jb.2 (by unfold rP; omega) (by unfold rP; omega)
              have s4A := s4.keep sA jc.2 jd.2 (by unfold rP; omega) (by unfold rP; omega)
              obtain ⟨hB', eB, sB, nB, uB, DB⟩ := d_putAll (g := g) (i := 0) (j := s) DA r4A (by omega) (by omega) (by omega)
              obtain ⟨lB, oB, rB, -⟩ := DB.any
              obtain ⟨IB, cB, cB'⟩ := IA.dr sB rB
              have s4B := s4A.keep sB (by omega) (by omega) (by unfold rP; omega) (by unfold rP; omega)
              have r4B := r4A.keep sB (by omega) (by omega) (by unfold rP; omega) (by unfold rP; omega)
              obtain ⟨hC, eC, sC, nC, uC, DC⟩ := d_putAll (g := g) (i := cs (w.2.1 c)) (j := cs (w.2.1 c) + cw (w.2.1 c)) DB s4B w21 (by omega) (by omega)
              obtain ⟨lC, oC, rC, -⟩ := DC.any
              obtain ⟨IC, cC, cC'⟩ := IB.dr sC rC
              have r4C := r4B.keep sC (by omega) (by omega) (by unfold rP; omega) (by unfold rP; omega)
              obtain ⟨hD, eD, sD, nD, uD, DD⟩ := d_putAll (g := g) (i := s + cc (w.2.1 c)) (j := (ct (w.2.1 now)).length) DC r4C (Nat.le_refl _) (by omega) (by omega)
              rw [dr2_app, dr2_app] at DD
              obtain ⟨lD, oD, rD, eoD⟩ := DD.any
              obtain ⟨ID, cD, cD'⟩ := IC.dr sD rD
              have dA := IA.1.1
              have dB := IB.1.1
              have dC := IC.1.1
              have dD := ID.1.1
              have sAll := ((sA.tr sB).tr sC).tr sD
              have cAll := ((cA.tr cB).tr cC).tr cD
              have fx : ∀ u, X + 57 ≤ u → u < hN h → (∀ hX, (hX = hA ∨ hX = hB' ∨ hX = hC ∨ hX = hD) → hK hX u = hK h u ∧ (∀ k, hI hX k u = hI h k u) ∧ (∀ k, hR hX k u = hR h k u)) := by
                intro u hu1 hu2 hX hX'
                have g1 := sA.2.2 u hu2
                have g2 := (sA.tr sB).2.2 u hu2
                have g3 := ((sA.tr sB).tr sC).2.2 u hu2
                have g4 := sAll.2.2 u hu2
                have np : ¬ rP (X + 5) (X + 6) u := by unfold rP; omega
                rcases hX' with z | z | z | z <;> subst z
                · exact ⟨g1.1, (g1.2.2 np).1, (g1.2.2 np).2.1⟩
                · exact ⟨g2.1, (g2.2.2 np).1, (g2.2.2 np).2.1⟩
                · exact ⟨g3.1, (g3.2.2 np).1, (g3.2.2 np).2.1⟩
                · exact ⟨g4.1, (g4.2.2 np).1, (g4.2.2 np).2.1⟩
              have qt2 := hQ t2 jt2
              obtain ⟨fb1, fb2, fb3⟩ := fx b qb.1 qb.2 hB' (by simp)
              obtain ⟨fc1, fc2, fc3⟩ := fx b qb.1 qb.2 hC (by simp)
              obtain ⟨fd1, fd2, fd3⟩ := fx b qb.1 qb.2 hD (by simp)
              obtain ⟨fu1, fu2, fu3⟩ := fx u2 qu2.1 qu2.2 hB' (by simp)
              obtain ⟨ft1, ft2, ft3⟩ := fx t2 qt2.1 qt2.2 hB' (by simp)
              have g0 : hK hB' b = 0 := by rw [fb1]; exact k0
              have g1 : hI hB' 4 b = nI (cs (w.2.1 c)) := by rw [fb2]; exact i4
              have g2 : hI hB' 5 b = nI (cw (w.2.1 c)) := by rw [fb2]; exact i5
              have g3 : hK hB' u2 = 0 := by rw [fu1]; exact k02
              have g4 : hR hB' 3 u2 = some t2 := by rw [fu3]; exact t21
              have g5 : hK hB' t2 = 8 := by rw [ft1]; exact k82
              have g6 : hR hB' 0 t2 = some sa := by rw [ft3]; exact s1
              have g7 : hK hC b = 0 := by rw [fc1]; exact k0
              have g8 : hI hC 6 b = nI (cc (w.2.1 c)) := by rw [fc2]; exact i6
              have g9 : hK hD b = 0 := by rw [fd1]; exact k0
              have g10 : hI hD 0 b = nI (cp (w.2.1 c)) := by rw [fd2]; exact i0
              have elC := r_len (g := g) r4C
              have k6C := r4C.1.1
              have hov : hI hD 3 (X + 5) = oD := rD.2.1.2.2
              have head2 : ev g mX10_back 68 [some (va_rf (some X)), some (.int (nI c)), some (.int (nI p0)), some (va_rf (some b)), some (va_rf (some u1)), some (va_rf (some u2)), some (.int (nI s)), none] [] h = ev g mX10_back 180 [some (va_rf (some X)), some (.int (nI c)), some (.int (nI p0)), some (va_rf (some b)), some (va_rf (some u1)), some (va_rf (some u2)), some (.int (nI s)), some (va_rf (some ra))] [.int oD] hD := by
                have q1 : ev g mX10_back 68 [some (va_rf (some X)), some (.int (nI c)), some (.int (nI p0)), some (va_rf (some b)), some (va_rf (some u1)), some (va_rf (some u2)), some (.int (nI s)), none] [] h = ev g mX10_back 112 [some (va_rf (some X)), some (.int (nI c)), some (.int (nI p0)), some (va_rf (some b)), some (va_rf (some u1)), some (va_rf (some u2)), some (.int (nI s)), some (va_rf (some ra))] [] hA := by
                  simp (decide := true) (disch := omega) only [e_X10_back_68, e_X10_back_70, e_X10_back_73, e_X10_back_75, e_X10_back_78, e_X10_back_79, e_X10_back_82, e_X10_back_85, e_X10_back_87, e_X10_back_88, e_X10_back_91, e_X10_back_93, e_X10_back_94, e_X10_back_96, e_X10_back_99, e_X10_back_102, e_X10_back_104, e_X10_back_105, e_X10_back_108, e_X10_back_109, ↓reduceIte, if_true, if_false, reduceCtorEq, Nat.reduceAdd, true_and, and_true, false_and, and_false, true_or, or_true, false_or, or_false, not_true_eq_false, not_false_eq_true, Option.bind_eq_bind, Option.bind_some, psh, eq_self, l_0, l_1, l_2, l_3, l_4, l_5, l_6, l_7, l_8, l_9, l_10, l_11, l_12, l_13, l_14, l_15, l_16, l_17, l_18, l_19, l_20, l_24, l_31, l_32, l_33, l_35, l_36, l_48, l_56, l_57, l_58, l_63, l_65, l_80, l_81, l_90, l_91, l_93, l_94, l_95, l_97, l_100, l_105, l_107, l_110, l_111, l_116, l_120, l_121, l_122, l_123, l_124, l_125, l_126, l_162, l_255, l_300, l_400, l_420, l_432, l_1000, l_1400, l_1936, l_2000, l_2100, l_2400, l_24000, m_n1, m_n2, m_n3, nI_mul, nI_add, nI_sub, nI_ltT, nI_ltF, nI_leT, nI_leF, nI_eqT, nI_eqF, nI_nM, nM_nI, nM_eq, nM_lt, nM_le, nI_ltM, nI_leM, nI_inT, nI_dec, pk_rem, nI_ltI, nI_leI, nI_eq, nI_clamp, Nat.add_assoc, q_bv51, Nat.add_left_cancel_iff, clK_0 d, clK_1 d, clK_3 d, clK_5 d, clK_7 d, clK_8 d, clK_9 d, clK_11 d, clK_12 d, clK_13 d, clK_14 d, clK_15 d, clK_16 d, clK_18 d, clK_20 d, clK_21 d, clK_22 d, clK_23 d, clK_24 d, clK_25 d, clK_26 d, clR_0_0 d, clR_1_0 d, clR_2_0 d, clR_3_0 d, clR_7_0 d, clR_8_0 d, clR_9_0 d, clR_10_0 d, clR_11_0 d, clR_0_8 d, clR_0_11 d, clR_1_11 d, clR_2_11 d, clR_0_15 d, clR_1_15 d, clR_2_15 d, clR_3_15 d, clR_4_15 d, clR_5_15 d, clR_0_23 d, clR_1_23 d, clR_0_25 d, clL_7 d, clL_12 d, clL_13 d, clL_14 d, clL_20 d, clL_21 d, clL_22 d, clL_24 d, clS_0 d, clS_1 d, clS_2 d, clS_3 d, reduceCtorEq, k0, i2, k01, t11, k81, r1, eA]
                rw [q1]
                simp (decide := true) (disch := omega) only [e_X10_back_112, e_X10_back_113, e_X10_back_116, e_X10_back_118, e_X10_back_119, e_X10_back_121, ↓reduceIte, if_true, if_false, reduceCtorEq, Nat.reduceAdd, true_and, and_true, false_and, and_false, true_or, or_true, false_or, or_false, not_true_eq_false, not_false_eq_true, Option.bind_eq_bind, Option.bind_some, psh, eq_self, l_0, l_1, l_2, l_3, l_4, l_5, l_6, l_7, l_8, l_9, l_10, l_11, l_12, l_13, l_14, l_15, l_16, l_17, l_18, l_19, l_20, l_24, l_31, l_32, l_33, l_35, l_36, l_48, l_56, l_57, l_58, l_63, l_65, l_80, l_81, l_90, l_91, l_93, l_94, l_95, l_97, l_100, l_105, l_107, l_110, l_111, l_116, l_120, l_121, l_122, l_123, l_124, l_125, l_126, l_162, l_255, l_300, l_400, l_420, l_432, l_1000, l_1400, l_1936, l_2000, l_2100, l_2400, l_24000, m_n1, m_n2, m_n3, nI_mul, nI_add, nI_sub, nI_ltT, nI_ltF, nI_leT, nI_leF, nI_eqT, nI_eqF, nI_nM, nM_nI, nM_eq, nM_lt, nM_le, nI_ltM, nI_leM, nI_inT, nI_dec, pk_rem, nI_ltI, nI_leI, nI_eq, nI_clamp, Nat.add_assoc, q_bv51, Nat.add_left_cancel_iff, clK_0 dA, clK_1 dA, clK_3 dA, clK_5 dA, clK_7 dA, clK_8 dA, clK_9 dA, clK_11 dA, clK_12 dA, clK_13 dA, clK_14 dA, clK_15 dA, clK_16 dA, clK_18 dA, clK_20 dA, clK_21 dA, clK_22 dA, clK_23 dA, clK_24 dA, clK_25 dA, clK_26 dA, clR_0_0 dA, clR_1_0 dA, clR_2_0 dA, clR_3_0 dA, clR_7_0 dA, clR_8_0 dA, clR_9_0 dA, clR_10_0 dA, clR_11_0 dA, clR_0_8 dA, clR_0_11 dA, clR_1_11 dA, clR_2_11 dA, clR_0_15 dA, clR_1_15 dA, clR_2_15 dA, clR_3_15 dA, clR_4_15 dA, clR_5_15 dA, clR_0_23 dA, clR_1_23 dA, clR_0_25 dA, clL_7 dA, clL_12 dA, clL_13 dA, clL_14 dA, clL_20 dA, clL_21 dA, clL_22 dA, clL_24 dA, clS_0 dA, clS_1 dA, clS_2 dA, clS_3 dA, eB]
                simp (decide := true) (disch := omega) only [e_X10_back_124, e_X10_back_125, e_X10_back_128, e_X10_back_130, e_X10_back_133, e_X10_back_136, e_X10_back_137, e_X10_back_140, e_X10_back_141, e_X10_back_144, e_X10_back_145, e_X10_back_148, e_X10_back_149, ↓reduceIte, if_true, if_false, reduceCtorEq, Nat.reduceAdd, true_and, and_true, false_and, and_false, true_or, or_true, false_or, or_false, not_true_eq_false, not_false_eq_true, Option.bind_eq_bind, Option.bind_some, psh, eq_self, l_0, l_1, l_2, l_3, l_4, l_5, l_6, l_7, l_8, l_9, l_10, l_11, l_12, l_13, l_14, l_15, l_16, l_17, l_18, l_19, l_20, l_24, l_31, l_32, l_33, l_35, l_36, l_48, l_56, l_57, l_58, l_63, l_65, l_80, l_81, l_90, l_91, l_93, l_94, l_95, l_97, l_100, l_105, l_107, l_110, l_111, l_116, l_120, l_121, l_122, l_123, l_124, l_125, l_126, l_162, l_255, l_300, l_400, l_420, l_432, l_1000, l_1400, l_1936, l_2000, l_2100, l_2400, l_24000, m_n1, m_n2, m_n3, nI_mul, nI_add, nI_sub, nI_ltT, nI_ltF, nI_leT, nI_leF, nI_eqT, nI_eqF, nI_nM, nM_nI, nM_eq, nM_lt, nM_le, nI_ltM, nI_leM, nI_inT, nI_dec, pk_rem, nI_ltI, nI_leI, nI_eq, nI_clamp, Nat.add_assoc, q_bv51, Nat.add_left_cancel_iff, clK_0 dB, clK_1 dB, clK_3 dB, clK_5 dB, clK_7 dB, clK_8 dB, clK_9 dB, clK_11 dB, clK_12 dB, clK_13 dB, clK_14 dB, clK_15 dB, clK_16 dB, clK_18 dB, clK_20 dB, clK_21 dB, clK_22 dB, clK_23 dB, clK_24 dB, clK_25 dB, clK_26 dB, clR_0_0 dB, clR_1_0 dB, clR_2_0 dB, clR_3_0 dB, clR_7_0 dB, clR_8_0 dB, clR_9_0 dB, clR_10_0 dB, clR_11_0 dB, clR_0_8 dB, clR_0_11 dB, clR_1_11 dB, clR_2_11 dB, clR_0_15 dB, clR_1_15 dB, clR_2_15 dB, clR_3_15 dB, clR_4_15 dB, clR_5_15 dB, clR_0_23 dB, clR_1_23 dB, clR_0_25 dB, clL_7 dB, clL_12 dB, clL_13 dB, clL_14 dB, clL_20 dB, clL_21 dB, clL_22 dB, clL_24 dB, clS_0 dB, clS_1 dB, clS_2 dB, clS_3 dB, g0, g1, g2, g3, g4, g5, g6, eC]
                simp (decide := true) (disch := omega) only [e_X10_back_152, e_X10_back_153, e_X10_back_156, e_X10_back_158, e_X10_back_160, e_X10_back_161, e_X10_back_164, e_X10_back_165, e_X10_back_167, e_X10_back_170, ↓reduceIte, if_true, if_false, reduceCtorEq, Nat.reduceAdd, true_and, and_true, false_and, and_false, true_or, or_true, false_or, or_false, not_true_eq_false, not_false_eq_true, Option.bind_eq_bind, Option.bind_some, psh, eq_self, l_0, l_1, l_2, l_3, l_4, l_5, l_6, l_7, l_8, l_9, l_10, l_11, l_12, l_13, l_14, l_15, l_16, l_17, l_18, l_19, l_20, l_24, l_31, l_32, l_33, l_35, l_36, l_48, l_56, l_57, l_58, l_63, l_65, l_80, l_81, l_90, l_91, l_93, l_94, l_95, l_97, l_100, l_105, l_107, l_110, l_111, l_116, l_120, l_121, l_122, l_123, l_124, l_125, l_126, l_162, l_255, l_300, l_400, l_420, l_432, l_1000, l_1400, l_1936, l_2000, l_2100, l_2400, l_24000, m_n1, m_n2, m_n3, nI_mul, nI_add, nI_sub, nI_ltT, nI_ltF, nI_leT, nI_leF, nI_eqT, nI_eqF, nI_nM, nM_nI, nM_eq, nM_lt, nM_le, nI_ltM, nI_leM, nI_inT, nI_dec, pk_rem, nI_ltI, nI_leI, nI_eq, nI_clamp, Nat.add_assoc, q_bv51, Nat.add_left_cancel_iff, clK_0 dC, clK_1 dC, clK_3 dC, clK_5 dC, clK_7 dC, clK_8 dC, clK_9 dC, clK_11 dC, clK_12 dC, clK_13 dC, clK_14 dC, clK_15 dC, clK_16 dC, clK_18 dC, clK_20 dC, clK_21 dC, clK_22 dC, clK_23 dC, clK_24 dC, clK_25 dC, clK_26 dC, clR_0_0 dC, clR_1_0 dC, clR_2_0 dC, clR_3_0 dC, clR_7_0 dC, clR_8_0 dC, clR_9_0 dC, clR_10_0 dC, clR_11_0 dC, clR_0_8 dC, clR_0_11 dC, clR_1_11 dC, clR_2_11 dC, clR_0_15 dC, clR_1_15 dC, clR_2_15 dC, clR_3_15 dC, clR_4_15 dC, clR_5_15 dC, clR_0_23 dC, clR_1_23 dC, clR_0_25 dC, clL_7 dC, clL_12 dC, clL_13 dC, clL_14 dC, clL_20 dC, clL_21 dC, clL_22 dC, clL_24 dC, clS_0 dC, clS_1 dC, clS_2 dC, clS_3 dC, g7, g8, k6C, elC, eD]
                simp (decide := true) (disch := omega) only [e_X10_back_173, e_X10_back_174, e_X10_back_177, ↓reduceIte, if_true, if_false, reduceCtorEq, Nat.reduceAdd, true_and, and_true, false_and, and_false, true_or, or_true, false_or, or_false, not_true_eq_false, not_false_eq_true, Option.bind_eq_bind, Option.bind_some, psh, eq_self, l_0, l_1, l_2, l_3, l_4, l_5, l_6, l_7, l_8, l_9, l_10, l_11, l_12, l_13, l_14, l_15, l_16, l_17, l_18, l_19, l_20, l_24, l_31, l_32, l_33, l_35, l_36, l_48, l_56, l_57, l_58, l_63, l_65, l_80, l_81, l_90, l_91, l_93, l_94, l_95, l_97, l_100, l_105, l_107, l_110, l_111, l_116, l_120, l_121, l_122, l_123, l_124, l_125, l_126, l_162, l_255, l_300, l_400, l_420, l_432, l_1000, l_1400, l_1936, l_2000, l_2100, l_2400, l_24000, m_n1, m_n2, m_n3, nI_mul, nI_add, nI_sub, nI_ltT, nI_ltF, nI_leT, nI_leF, nI_eqT, nI_eqF, nI_nM, nM_nI, nM_eq, nM_lt, nM_le, nI_ltM, nI_leM, nI_inT, nI_dec, pk_rem, nI_ltI, nI_leI, nI_eq, nI_clamp, Nat.add_assoc, q_bv51, Nat.add_left_cancel_iff, clK_0 dD, clK_1 dD, clK_3 dD, clK_5 dD, clK_7 dD, clK_8 dD, clK_9 dD, clK_11 dD, clK_12 dD, clK_13 dD, clK_14 dD, clK_15 dD, clK_16 dD, clK_18 dD, clK_20 dD, clK_21 dD, clK_22 dD, clK_23 dD, clK_24 dD, clK_25 dD, clK_26 dD, clR_0_0 dD, clR_1_0 dD, clR_2_0 dD, clR_3_0 dD, clR_7_0 dD, clR_8_0 dD, clR_9_0 dD, clR_10_0 dD, clR_11_0 dD, clR_0_8 dD, clR_0_11 dD, clR_1_11 dD, clR_2_11 dD, clR_0_15 dD, clR_1_15 dD, clR_2_15 dD, clR_3_15 dD, clR_4_15 dD, clR_5_15 dD, clR_0_23 dD, clR_1_23 dD, clR_0_25 dD, clL_7 dD, clL_12 dD, clL_13 dD, clL_14 dD, clL_20 dD, clL_21 dD, clL_22 dD, clL_24 dD, clS_0 dD, clS_1 dD, clS_2 dD, clS_3 dD, hov]
              have hlen : (slc (ct (w.2.1 now)) 0 s ++ (slc (ct (w.2.1 was)) (cs (w.2.1 c)) (cs (w.2.1 c) + cw (w.2.1 c)) ++ slc (ct (w.2.1 now)) (s + cc (w.2.1 c)) (ct (w.2.1 now)).length)).length = (ct (w.2.1 now)).length - cc (w.2.1 c) + cw (w.2.1 c) := by
                rw [List.length_append, List.length_append, slc_len (by omega), slc_len w21, slc_len (Nat.le_refl _)]
                omega
              have hNU : hN hD = hN h ∧ hU hD = hU h := ⟨by omega, by omega⟩
              by_cases cL : (ct (w.2.1 now)).length - cc (w.2.1 c) + cw (w.2.1 c) ≤ 300
              · rw [dr2_T (by rw [hlen]; exact cL)] at DD eoD
                have eo0 : oD = nI 0 := eoD
                obtain ⟨vn, evn, nvn⟩ := w_nameOf (g := g) (x := nI (cp (w.2.1 c))) dD ID.1.2.2.1
                rw [ixI_nI hp (by omega)] at nvn
                obtain ⟨un, rfl, un2, un3⟩ := nvn
                have er := w_hasRoom (g := g) (m := 1) dD ID.1.2.2.1 un3 (by omega)
                have hnum : ¬ num w.2.2.2 (w.2.2.2 (cp (w.2.1 c))) w.2.2.1 0 = none := num_ex (b := 0) hp (by rw [Nat.zero_add])
                by_cases cn : w.1 = 120
                · rw [decide_eq_false (by omega), bI_f] at er
                  rw [if_pos (Or.inr cn)] at eS0
                  rw [eS0, head, head2, eo0]
                  refine ⟨hD, Q, ?_, ⟨cAll, by omega, by omega⟩, ID⟩
                  simp (decide := true) (disch := omega) only [e_X10_back_180, e_X10_back_183, e_X10_back_184, e_X10_back_187, e_X10_back_188, e_X10_back_189, e_X10_back_192, e_X10_back_193, e_X10_back_196, e_X10_back_199, e_X10_back_202, e_X10_back_205, e_X10_back_207, ↓reduceIte, if_true, if_false, reduceCtorEq, Nat.reduceAdd, true_and, and_true, false_and, and_false, true_or, or_true, false_or, or_false, not_true_eq_false, not_false_eq_true, Option.bind_eq_bind, Option.bind_some, psh, eq_self, l_0, l_1, l_2, l_3, l_4, l_5, l_6, l_7, l_8, l_9, l_10, l_11, l_12, l_13, l_14, l_15, l_16, l_17, l_18, l_19, l_20, l_24, l_31, l_32, l_33, l_35, l_36, l_48, l_56, l_57, l_58, l_63, l_65, l_80, l_81, l_90, l_91, l_93, l_94, l_95, l_97, l_100, l_105, l_107, l_110, l_111, l_116, l_120, l_121, l_122, l_123, l_124, l_125, l_126, l_162, l_255, l_300, l_400, l_420, l_432, l_1000, l_1400, l_1936, l_2000, l_2100, l_2400, l_24000, m_n1, m_n2, m_n3, nI_mul, nI_add, nI_sub, nI_ltT, nI_ltF, nI_leT, nI_leF, nI_eqT, nI_eqF, nI_nM, nM_nI, nM_eq, nM_lt, nM_le, nI_ltM, nI_leM, nI_inT, nI_dec, pk_rem, nI_ltI, nI_leI, nI_eq, nI_clamp, Nat.add_assoc, q_bv51, Nat.add_left_cancel_iff, clK_0 dD, clK_1 dD, clK_3 dD, clK_5 dD, clK_7 dD, clK_8 dD, clK_9 dD, clK_11 dD, clK_12 dD, clK_13 dD, clK_14 dD, clK_15 dD, clK_16 dD, clK_18 dD, clK_20 dD, clK_21 dD, clK_22 dD, clK_23 dD, clK_24 dD, clK_25 dD, clK_26 dD, clR_0_0 dD, clR_1_0 dD, clR_2_0 dD, clR_3_0 dD, clR_7_0 dD, clR_8_0 dD, clR_9_0 dD, clR_10_0 dD, clR_11_0 dD, clR_0_8 dD, clR_0_11 dD, clR_1_11 dD, clR_2_11 dD, clR_0_15 dD, clR_1_15 dD, clR_2_15 dD, clR_3_15 dD, clR_4_15 dD, clR_5_15 dD, clR_0_23 dD, clR_1_23 dD, clR_0_25 dD, clL_7 dD, clL_12 dD, clL_13 dD, clL_14 dD, clL_20 dD, clL_21 dD, clL_22 dD, clL_24 dD, clS_0 dD, clS_1 dD, clS_2 dD, clS_3 dD, g9, g10, evn, er]
                · rw [decide_eq_true ⟨by omega, Or.inr hnum⟩, bI_t] at er
                  rw [if_neg (by omega)] at eS0
                  rw [eS0, head, head2, eo0]
                  obtain ⟨v, h1, h2, Q2, e3, d1, e4, c4, n4, u4, -, -, -, J⟩ := c_comD (g := g) (p := cp (w.2.1 c)) (hn := p0) ID DD hp (by omega)
                  refine ⟨h2, Q2, ?_, ⟨cAll.tr c4, ?_, ?_⟩, J⟩
                  · simp (decide := true) (disch := omega) only [e_X10_back_180, e_X10_back_183, e_X10_back_184, e_X10_back_187, e_X10_back_188, e_X10_back_189, e_X10_back_192, e_X10_back_193, e_X10_back_196, e_X10_back_199, e_X10_back_202, e_X10_back_205, e_X10_back_207, e_X10_back_208, e_X10_back_209, e_X10_back_212, e_X10_back_213, e_X10_back_216, e_X10_back_217, e_X10_back_218, e_X10_back_221, e_X10_back_222, e_X10_back_225, e_X10_back_228, e_X10_back_229, e_X10_back_232, ↓reduceIte, if_true, if_false, reduceCtorEq, Nat.reduceAdd, true_and, and_true, false_and, and_false, true_or, or_true, false_or, or_false, not_true_eq_false, not_false_eq_true, Option.bind_eq_bind, Option.bind_some, psh, eq_self, l_0, l_1, l_2, l_3, l_4, l_5, l_6, l_7, l_8, l_9, l_10, l_11, l_12, l_13, l_14, l_15, l_16, l_17, l_18, l_19, l_20, l_24, l_31, l_32, l_33, l_35, l_36, l_48, l_56, l_57, l_58, l_63, l_65, l_80, l_81, l_90, l_91, l_93, l_94, l_95, l_97, l_100, l_105, l_107, l_110, l_111, l_116, l_120, l_121, l_122, l_123, l_124, l_125, l_126, l_162, l_255, l_300, l_400, l_420, l_432, l_1000, l_1400, l_1936, l_2000, l_2100, l_2400, l_24000, m_n1, m_n2, m_n3, nI_mul, nI_add, nI_sub, nI_ltT, nI_ltF, nI_leT, nI_leF, nI_eqT, nI_eqF, nI_nM, nM_nI, nM_eq, nM_lt, nM_le, nI_ltM, nI_leM, nI_inT, nI_dec, pk_rem, nI_ltI, nI_leI, nI_eq, nI_clamp, Nat.add_assoc, q_bv51, Nat.add_left_cancel_iff, clK_0 dD, clK_1 dD, clK_3 dD, clK_5 dD, clK_7 dD, clK_8 dD, clK_9 dD, clK_11 dD, clK_12 dD, clK_13 dD, clK_14 dD, clK_15 dD, clK_16 dD, clK_18 dD, clK_20 dD, clK_21 dD, clK_22 dD, clK_23 dD, clK_24 dD, clK_25 dD, clK_26 dD, clR_0_0 dD, clR_1_0 dD, clR_2_0 dD, clR_3_0 dD, clR_7_0 dD, clR_8_0 dD, clR_9_0 dD, clR_10_0 dD, clR_11_0 dD, clR_0_8 dD, clR_0_11 dD, clR_1_11 dD, clR_2_11 dD, clR_0_15 dD, clR_1_15 dD, clR_2_15 dD, clR_3_15 dD, clR_4_15 dD, clR_5_15 dD, clR_0_23 dD, clR_1_23 dD, clR_0_25 dD, clL_7 dD, clL_12 dD, clL_13 dD, clL_14 dD, clL_20 dD, clL_21 dD, clL_22 dD, clL_24 dD, clS_0 dD, clS_1 dD, clS_2 dD, clS_3 dD, g9, g10, evn, er, e3, clK_0 d1, clK_1 d1, clK_3 d1, clK_5 d1, clK_7 d1, clK_8 d1, clK_9 d1, clK_11 d1, clK_12 d1, clK_13 d1, clK_14 d1, clK_15 d1, clK_16 d1, clK_18 d1, clK_20 d1, clK_21 d1, clK_22 d1, clK_23 d1, clK_24 d1, clK_25 d1, clK_26 d1, clR_0_0 d1, clR_1_0 d1, clR_2_0 d1, clR_3_0 d1, clR_7_0 d1, clR_8_0 d1, clR_9_0 d1, clR_10_0 d1, clR_11_0 d1, clR_0_8 d1, clR_0_11 d1, clR_1_11 d1, clR_2_11 d1, clR_0_15 d1, clR_1_15 d1, clR_2_15 d1, clR_3_15 d1, clR_4_15 d1, clR_5_15 d1, clR_0_23 d1, clR_1_23 d1, clR_0_25 d1, clL_7 d1, clL_12 d1, clL_13 d1, clL_14 d1, clL_20 d1, clL_21 d1, clL_22 d1, clL_24 d1, clS_0 d1, clS_1 d1, clS_2 d1, clS_3 d1, e4]
                  · show hN h2 ≤ hN h + 4 + 1000 * (w.1 + 1 - w.1); omega
                  · show hU h2 ≤ hU h + 4 + 13000 * (w.1 + 1 - w.1); omega
              · rw [dr2_F (by rw [hlen]; omega)] at DD eoD
                have eo0 : oD = nI 1 := eoD
                rw [if_pos (Or.inl (by omega))] at eS0
                rw [eS0, head, head2, eo0]
                refine ⟨hD, Q, ?_, ⟨cAll, by omega, by omega⟩, ID⟩
                simp (decide := true) (disch := omega) only [e_X10_back_180, e_X10_back_183, e_X10_back_184, e_X10_back_187, e_X10_back_188, e_X10_back_189, e_X10_back_192, e_X10_back_193, e_X10_back_196, e_X10_back_199, e_X10_back_202, e_X10_back_205, e_X10_back_207, ↓reduceIte, if_true, if_false, reduceCtorEq, Nat.reduceAdd, true_and, and_true, false_and, and_false, true_or, or_true, false_or, or_false, not_true_eq_false, not_false_eq_true, Option.bind_eq_bind, Option.bind_some, psh, eq_self, l_0, l_1, l_2, l_3, l_4, l_5, l_6, l_7, l_8, l_9, l_10, l_11, l_12, l_13, l_14, l_15, l_16, l_17, l_18, l_19, l_20, l_24, l_31, l_32, l_33, l_35, l_36, l_48, l_56, l_57, l_58, l_63, l_65, l_80, l_81, l_90, l_91, l_93, l_94, l_95, l_97, l_100, l_105, l_107, l_110, l_111, l_116, l_120, l_121, l_122, l_123, l_124, l_125, l_126, l_162, l_255, l_300, l_400, l_420, l_432, l_1000, l_1400, l_1936, l_2000, l_2100, l_2400, l_24000, m_n1, m_n2, m_n3, nI_mul, nI_add, nI_sub, nI_ltT, nI_ltF, nI_leT, nI_leF, nI_eqT, nI_eqF, nI_nM, nM_nI, nM_eq, nM_lt, nM_le, nI_ltM, nI_leM, nI_inT, nI_dec, pk_rem, nI_ltI, nI_leI, nI_eq, nI_clamp, Nat.add_assoc, q_bv51, Nat.add_left_cancel_iff]
end
