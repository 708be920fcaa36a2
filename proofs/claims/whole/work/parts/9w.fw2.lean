/-! PageWeb$Maker: setEdge, putMark, fillWords -/
theorem nb_fuel {t : List Nat} {e : Nat} : ∀ {m m' a : Nat}, e ≤ a + m → e ≤ a + m' → nb_ t e m a = nb_ t e m' a
  | 0, 0, _, _, _ => rfl
  | 0, m' + 1, a, h1, _ => by rw [nb_, nb_, if_neg (fun z => by omega)]
  | m + 1, 0, a, _, h2 => by rw [nb_, nb_, if_neg (fun z => by omega)]
  | m + 1, m' + 1, a, h1, h2 => by
    rw [nb_, nb_]
    split
    · exact nb_fuel (by omega) (by omega)
    · rfl
theorem wds_fuel {t : List Nat} {e : Nat} : ∀ {m m' a : Nat}, e ≤ a + m → e ≤ a + m' → wds t e m a = wds t e m' a
  | 0, 0, _, _, _ => rfl
  | 0, m' + 1, a, h1, _ => by rw [wds, wds, if_neg (by omega)]
  | m + 1, 0, a, _, h2 => by rw [wds, wds, if_neg (by omega)]
  | m + 1, m' + 1, a, h1, h2 => by
    rw [wds, wds]
    have := nb_ge (t := t) (e := e) (m := e) (a := a + 1)
    split
    · rw [wds_fuel (m := m) (m' := m') (by omega) (by omega)]
    · rfl
/-- the WORDS that are still to be read, where the next begins at f and no bar stands before i -/
def rmw (t : List Nat) (e f i : Nat) : List (List Nat) := if i ≤ e then slc t f (nb_ t e 400 i) :: wds t e 300 (nb_ t e 400 i) else []
theorem rmw_1 {t : List Nat} {e f i : Nat} (he : e ≤ 300) (h : i < e) (hb : t.getD i 0 ≠ 124) : rmw t e f i = rmw t e f (i + 1) := by
  have : nb_ t e 400 i = nb_ t e 400 (i + 1) := by
    rw [show (400 : Nat) = 399 + 1 by omega, nb_, if_pos ⟨h, hb⟩]
    exact nb_fuel (by omega) (by omega)
  unfold rmw
  rw [if_pos (by omega), if_pos (by omega), this]
theorem rmw_0 {t : List Nat} {e b : Nat} (he : e ≤ 300) : rmw t e (b + 1) (b + 1) = wds t e 300 b := by
  have w : wds t e 300 b = if b < e then slc t (b + 1) (nb_ t e e (b + 1)) :: wds t e 299 (nb_ t e e (b + 1)) else [] := rfl
  rw [w]
  unfold rmw
  by_cases c : b < e
  · rw [if_pos c, if_pos (show b + 1 ≤ e by omega), nb_fuel (m := e) (m' := 400) (by omega) (by omega)]
    have := nb_ge (t := t) (e := e) (m := 400) (a := b + 1)
    rw [wds_fuel (m := 300) (m' := 299) (by omega) (by omega)]
  · rw [if_neg c, if_neg (show ¬ b + 1 ≤ e by omega)]
theorem rmw_2 {t : List Nat} {e f i : Nat} (he : e ≤ 300) (h : i ≤ e) (hb : i = e ∨ t.getD i 0 = 124) : rmw t e f i = slc t f i :: rmw t e (i + 1) (i + 1) := by
  have e1 : nb_ t e 400 i = i := by
    rw [show (400 : Nat) = 399 + 1 by omega, nb_, if_neg]
    intro z
    rcases hb with y | y
    · omega
    · exact z.2 y
  rw [rmw_0 he]
  unfold rmw
  rw [if_pos h, e1]
/-- edges of the WORDS that are filled already -/
def wE (h : PH) (X lv : Nat) (dn : List (List Nat)) (E : Nat → Nat) (l : List Nat) : Prop := (∀ j, j ≤ dn.length → hA h (X + 20) (lv * 10 + j) = nI (E j)) ∧ (∀ j, j < dn.length → E j ≤ E (j + 1) ∧ E (j + 1) ≤ l.length ∧ slc l (E j) (E (j + 1)) = dn.getD j []) ∧ E dn.length = l.length
theorem slc_pre {l x : List Nat} {a b : Nat} (h : b ≤ l.length) : slc (l ++ x) a b = slc l a b := by
  unfold slc
  by_cases c : a ≤ b
  · rw [List.drop_append_of_le_length (by omega), List.take_append_of_le_length (by simp; omega)]
  · rw [show b - a = 0 by omega, List.take_zero, List.take_zero]
section
variable {g X : Nat} {Q : Nat → Prop} {h : PH} {tp ou fo : List Nat} {hd : Option Nm} {a : Option Nat} {w : Wd}
theorem k_setEdge {lv k wb cap bd : Nat} {l : List Nat} {o : Int32} (d : cl h X) (K : rw_ h (X + 18) wb cap bd l o) (hl : lv < 8) (hk : k ≤ 9) : cal g mX1_setEdge [va_rf (some (X + 15)), .int (nI lv), .int (nI k)] h = some (none, pA h (X + 20) (upd (hA h (X + 20)) (lv * 10 + k) (nI l.length))) := by
  rw [n_X1_setEdge]
  have el := r_len (g := g) K
  simp (decide := true) (disch := omega) only [e_X1_setEdge_0, e_X1_setEdge_1, e_X1_setEdge_3, e_X1_setEdge_4, e_X1_setEdge_5, e_X1_setEdge_6, e_X1_setEdge_7, e_X1_setEdge_8, e_X1_setEdge_10, e_X1_setEdge_13, e_X1_setEdge_14, e_X1_setEdge_15, e_X1_setEdge_18, e_X1_setEdge_19, e_X1_setEdge_22, e_X1_setEdge_23, e_X1_setEdge_26, e_X1_setEdge_27, e_X1_setEdge_28, e_X1_setEdge_31, e_X1_setEdge_34, e_X1_setEdge_35, ↓reduceIte, if_true, if_false, reduceCtorEq, Nat.reduceAdd, true_and, and_true, false_and, and_false, true_or, or_true, false_or, or_false, not_true_eq_false, not_false_eq_true, Option.bind_eq_bind, Option.bind_some, psh, eq_self, l_0, l_1, l_2, l_3, l_4, l_5, l_6, l_7, l_8, l_9, l_10, l_11, l_12, l_13, l_14, l_15, l_16, l_17, l_18, l_19, l_20, l_24, l_31, l_32, l_33, l_35, l_36, l_48, l_56, l_57, l_58, l_63, l_65, l_80, l_81, l_90, l_91, l_93, l_94, l_95, l_97, l_100, l_105, l_107, l_110, l_111, l_116, l_120, l_121, l_122, l_123, l_124, l_125, l_126, l_162, l_255, l_300, l_400, l_420, l_432, l_1000, l_1400, l_1936, l_2000, l_2100, l_2400, l_24000, m_n1, m_n2, m_n3, nI_mul, nI_add, nI_sub, nI_ltT, nI_ltF, nI_leT, nI_leF, nI_eqT, nI_eqF, nI_nM, nM_nI, nM_eq, nM_lt, nM_le, nI_ltM, nI_leM, nI_inT, nI_dec, pk_rem, nI_ltI, nI_leI, nI_eq, nI_clamp, Nat.add_assoc, q_bv51, Nat.add_left_cancel_iff, clK_0 d, clK_1 d, clK_3 d, clK_5 d, clK_7 d, clK_8 d, clK_9 d, clK_11 d, clK_12 d, clK_13 d, clK_14 d, clK_15 d, clK_16 d, clK_18 d, clK_20 d, clK_21 d, clK_22 d, clK_23 d, clK_24 d, clK_25 d, clK_26 d, clR_0_0 d, clR_1_0 d, clR_2_0 d, clR_3_0 d, clR_7_0 d, clR_8_0 d, clR_9_0 d, clR_10_0 d, clR_11_0 d, clR_0_8 d, clR_0_11 d, clR_1_11 d, clR_2_11 d, clR_0_15 d, clR_1_15 d, clR_2_15 d, clR_3_15 d, clR_4_15 d, clR_5_15 d, clR_0_23 d, clR_1_23 d, clR_0_25 d, clL_7 d, clL_12 d, clL_13 d, clL_14 d, clL_20 d, clL_21 d, clL_22 d, clL_24 d, clS_0 d, clS_1 d, clS_2 d, clS_3 d, el]
theorem k_putMark {l : List Nat} {o : Int32} {b v : Nat} {q : Nm} (d : cl h X) (r : rw_ h (X + 16) (X + 17) 2000 2000 l o) (hv : v < 256) (hq : nm_ h b q.1 q.2) (hb : X + 57 ≤ b ∧ b < hN h) :
    ∃ h', cal g mX1_putMark [va_rf (some (X + 15)), .int (nI v), va_rf (some b)] h = some (none, h') ∧ sm (rP (X + 16) (X + 17)) h h' ∧ hN h' = hN h ∧ hU h' = hU h ∧ rw_ h' (X + 16) (X + 17) 2000 2000 (pls l (v :: (nz q ++ [v])) 2000) (pos l (v :: (nz q ++ [v])) 2000 o) := by
  have dN := d.1
  have kp : ∀ h1, sm (rP (X + 16) (X + 17)) h h1 → cl h1 X := fun h1 s => d.keep (cfm.of s dN (fun k hk => by unfold crO at hk; unfold rP; omega))
  have hl := r.2.2.1.1
  obtain ⟨h1, e1, r1, s1, n1, u1⟩ := r_put (g := g) (v := nI v) r
  rw [bt_nI hv] at r1
  have hl1 : (if l.length < 2000 then l ++ [v] else l).length ≤ 2000 := r1.2.2.1.1
  have d1 := kp h1 s1
  have q1 := hq.keep s1 hb.2 (by unfold rP; omega)
  have k2 := q1.1
  obtain ⟨h2, e2, r2, s2, n2, u2⟩ := n_writeTo (g := g) q1 r1 (by omega) (clS_0 d1) (d1.S 0 (by decide))
  have d2 := kp h2 (s1.tr s2)
  obtain ⟨h3, e3, r3, s3, n3, u3⟩ := r_put (g := g) (v := nI v) r2
  rw [bt_nI hv] at r3
  refine ⟨h3, ?_, (s1.tr s2).tr s3, by omega, by omega, ?_⟩
  · rw [n_X1_putMark]
    simp (decide := true) (disch := omega) only [e_X1_putMark_0, e_X1_putMark_1, e_X1_putMark_4, e_X1_putMark_5, e_X1_putMark_8, e_X1_putMark_9, e_X1_putMark_12, e_X1_putMark_13, e_X1_putMark_14, e_X1_putMark_17, e_X1_putMark_20, e_X1_putMark_21, e_X1_putMark_24, e_X1_putMark_25, e_X1_putMark_28, ↓reduceIte, if_true, if_false, reduceCtorEq, Nat.reduceAdd, true_and, and_true, false_and, and_false, true_or, or_true, false_or, or_false, not_true_eq_false, not_false_eq_true, Option.bind_eq_bind, Option.bind_some, psh, eq_self, l_0, l_1, l_2, l_3, l_4, l_5, l_6, l_7, l_8, l_9, l_10, l_11, l_12, l_13, l_14, l_15, l_16, l_17, l_18, l_19, l_20, l_24, l_31, l_32, l_33, l_35, l_36, l_48, l_56, l_57, l_58, l_63, l_65, l_80, l_81, l_90, l_91, l_93, l_94, l_95, l_97, l_100, l_105, l_107, l_110, l_111, l_116, l_120, l_121, l_122, l_123, l_124, l_125, l_126, l_162, l_255, l_300, l_400, l_420, l_432, l_1000, l_1400, l_1936, l_2000, l_2100, l_2400, l_24000, m_n1, m_n2, m_n3, nI_mul, nI_add, nI_sub, nI_ltT, nI_ltF, nI_leT, nI_leF, nI_eqT, nI_eqF, nI_nM, nM_nI, nM_eq, nM_lt, nM_le, nI_ltM, nI_leM, nI_inT, nI_dec, pk_rem, nI_ltI, nI_leI, nI_eq, nI_clamp, Nat.add_assoc, q_bv51, Nat.add_left_cancel_iff, clK_0 d, clK_1 d, clK_3 d, clK_5 d, clK_7 d, clK_8 d, clK_9 d, clK_11 d, clK_12 d, clK_13 d, clK_14 d, clK_15 d, clK_16 d, clK_18 d, clK_20 d, clK_21 d, clK_22 d, clK_23 d, clK_24 d, clK_25 d, clK_26 d, clR_0_0 d, clR_1_0 d, clR_2_0 d, clR_3_0 d, clR_7_0 d, clR_8_0 d, clR_9_0 d, clR_10_0 d, clR_11_0 d, clR_0_8 d, clR_0_11 d, clR_1_11 d, clR_2_11 d, clR_0_15 d, clR_1_15 d, clR_2_15 d, clR_3_15 d, clR_4_15 d, clR_5_15 d, clR_0_23 d, clR_1_23 d, clR_0_25 d, clL_7 d, clL_12 d, clL_13 d, clL_14 d, clL_20 d, clL_21 d, clL_22 d, clL_24 d, clS_0 d, clS_1 d, clS_2 d, clS_3 d, e1, reduceCtorEq, clK_0 d1, clK_1 d1, clK_3 d1, clK_5 d1, clK_7 d1, clK_8 d1, clK_9 d1, clK_11 d1, clK_12 d1, clK_13 d1, clK_14 d1, clK_15 d1, clK_16 d1, clK_18 d1, clK_20 d1, clK_21 d1, clK_22 d1, clK_23 d1, clK_24 d1, clK_25 d1, clK_26 d1, clR_0_0 d1, clR_1_0 d1, clR_2_0 d1, clR_3_0 d1, clR_7_0 d1, clR_8_0 d1, clR_9_0 d1, clR_10_0 d1, clR_11_0 d1, clR_0_8 d1, clR_0_11 d1, clR_1_11 d1, clR_2_11 d1, clR_0_15 d1, clR_1_15 d1, clR_2_15 d1, clR_3_15 d1, clR_4_15 d1, clR_5_15 d1, clR_0_23 d1, clR_1_23 d1, clR_0_25 d1, clL_7 d1, clL_12 d1, clL_13 d1, clL_14 d1, clL_20 d1, clL_21 d1, clL_22 d1, clL_24 d1, clS_0 d1, clS_1 d1, clS_2 d1, clS_3 d1, k2, e2, clK_0 d2, clK_1 d2, clK_3 d2, clK_5 d2, clK_7 d2, clK_8 d2, clK_9 d2, clK_11 d2, clK_12 d2, clK_13 d2, clK_14 d2, clK_15 d2, clK_16 d2, clK_18 d2, clK_20 d2, clK_21 d2, clK_22 d2, clK_23 d2, clK_24 d2, clK_25 d2, clK_26 d2, clR_0_0 d2, clR_1_0 d2, clR_2_0 d2, clR_3_0 d2, clR_7_0 d2, clR_8_0 d2, clR_9_0 d2, clR_10_0 d2, clR_11_0 d2, clR_0_8 d2, clR_0_11 d2, clR_1_11 d2, clR_2_11 d2, clR_0_15 d2, clR_1_15 d2, clR_2_15 d2, clR_3_15 d2, clR_4_15 d2, clR_5_15 d2, clR_0_23 d2, clR_1_23 d2, clR_0_25 d2, clL_7 d2, clL_12 d2, clL_13 d2, clL_14 d2, clL_20 d2, clL_21 d2, clL_22 d2, clL_24 d2, clS_0 d2, clS_1 d2, clS_2 d2, clS_3 d2, e3]
  · have z1 : (pls (if l.length < 2000 then l ++ [v] else l) (nby' q.1 q.2) 2000) = pls l (v :: nz q) 2000 := pls_cons hl
    have z2 : (pos (if l.length < 2000 then l ++ [v] else l) (nby' q.1 q.2) 2000 (if l.length < 2000 then o else 1)) = pos l (v :: nz q) 2000 o := pos_cons hl
    rw [z1, z2] at r3
    have hl2 : (pls l (v :: nz q) 2000).length ≤ 2000 := pls_le hl
    have y1 := pls_cons (x := v) (t := []) hl2
    have y2 := pos_cons (x := v) (t := []) (o := pos l (v :: nz q) 2000 o) hl2
    have hl3 : (if (pls l (v :: nz q) 2000).length < 2000 then pls l (v :: nz q) 2000 ++ [v] else pls l (v :: nz q) 2000).length ≤ 2000 := r3.2.2.1.1
    rw [pls_nil] at y1
    rw [pos_nil hl3] at y2
    rw [y1, y2, pls_app hl, pos_app hl, List.cons_append] at r3
    exact r3
/-- what fillWords comes to -/
def fwR (Q : Nat → Prop) (h' : PH) (X lv wb cap : Nat) (wl : List Nat) (ws : Option (List (List Nat))) : Prop := ∃ bd l o, kW Q h' X wb cap bd l o ∧ (∃ y, l = wl ++ y) ∧ match ws with
  | none => hI h' 8 (X + 15) = nI 1
  | some ws => hI h' 8 (X + 15) = nI 0 ∧ o = nI 0 ∧ (∃ E, wSt h' X lv ws E l) ∧ l.length ≤ wl.length + 2000 * ws.length
theorem wdf_len {ws : List (List Nat)} : ∀ {R R' : List (List Nat)}, wdf ws R = some R' → R'.length = R.length
  | [], R', h => by cases h; rfl
  | x :: R, R', h => by
    rw [wdf] at h
    split at h
    · cases e : wdf ws R with
      | none => rw [e] at h; cases h
      | some r =>
        rw [e] at h
        cases h
        rw [List.length_cons, List.length_cons, wdf_len e]
    · cases h
def fF (X wb : Nat) : Nat → Prop := fun x => x = X + 15 ∨ x = X + 18 ∨ x = X + 20 ∨ x = X + 21 ∨ x = wb
def fOK (X wb cap wb' cap' : Nat) (h h' : PH) : Prop := cfm X (fF X wb) h h' ∧ (wb' = wb ∨ hN h ≤ wb') ∧ hN h' + cap ≤ hN h + cap' ∧ hU h' + 4 * cap ≤ hU h + 4 * cap'
theorem fOK.of {wb cap : Nat} {h' : PH} (s : cfm X (fF X wb) h h') (n : hN h' = hN h) (u : hU h' = hU h) : fOK X wb cap wb cap h h' := ⟨s, Or.inl rfl, by omega, by omega⟩
theorem fOK.tr {wb cap wb1 cap1 wb2 cap2 : Nat} {h1 h2 : PH} (a : fOK X wb cap wb1 cap1 h h1) (b : fOK X wb1 cap1 wb2 cap2 h1 h2) : fOK X wb cap wb2 cap2 h h2 := by
  obtain ⟨a1, a2, a3, a4⟩ := a
  obtain ⟨b1, b2, b3, b4⟩ := b
  have n1 := a1.1.1
  refine ⟨?_, by omega, by omega, by omega⟩
  have b1' : cfm X (fun x => fF X wb x ∨ hN h ≤ x) h1 h2 := b1.mono (fun x hx z => by
    unfold fF at z ⊢
    omega)
  exact ((a1.mono (fun x _ z => Or.inl z)).tr b1').mono (fun x hx z => by rcases z with z | z; exact z; omega)
theorem fOK.m {wb cap wb1 cap1 : Nat} {h1 : PH} (a : fOK X wb cap wb1 cap1 h h1) : mOK X wb cap wb1 cap1 h h1 := ⟨a.1.mono (fun x _ z => by unfold fF at z; unfold kF'; omega), a.2⟩
theorem k_fw_exit {dp n : Nat} {l1 l2 l4 l5 l7 : Option Value} (d : cl h X) (hdp : dp < 7) (hn : n ≤ 9) : ev g mX1_fillWords 109 [some (va_rf (some (X + 15))), l1, l2, some (.int (nI dp)), l4, l5, some (.int (nI n)), l7] [] h = some (none, pA h (X + 21) (upd (hA h (X + 21)) (dp + 1) (nI n))) := by
  simp (decide := true) (disch := omega) only [e_X1_fillWords_109, e_X1_fillWords_110, e_X1_fillWords_111, e_X1_fillWords_112, e_X1_fillWords_113, e_X1_fillWords_116, e_X1_fillWords_117, e_X1_fillWords_120, e_X1_fillWords_121, e_X1_fillWords_124, e_X1_fillWords_125, e_X1_fillWords_126, e_X1_fillWords_127, e_X1_fillWords_129, e_X1_fillWords_130, ↓reduceIte, if_true, if_false, reduceCtorEq, Nat.reduceAdd, true_and, and_true, false_and, and_false, true_or, or_true, false_or, or_false, not_true_eq_false, not_false_eq_true, Option.bind_eq_bind, Option.bind_some, psh, eq_self, l_0, l_1, l_2, l_3, l_4, l_5, l_6, l_7, l_8, l_9, l_10, l_11, l_12, l_13, l_14, l_15, l_16, l_17, l_18, l_19, l_20, l_24, l_31, l_32, l_33, l_35, l_36, l_48, l_56, l_57, l_58, l_63, l_65, l_80, l_81, l_90, l_91, l_93, l_94, l_95, l_97, l_100, l_105, l_107, l_110, l_111, l_116, l_120, l_121, l_122, l_123, l_124, l_125, l_126, l_162, l_255, l_300, l_400, l_420, l_432, l_1000, l_1400, l_1936, l_2000, l_2100, l_2400, l_24000, m_n1, m_n2, m_n3, nI_mul, nI_add, nI_sub, nI_ltT, nI_ltF, nI_leT, nI_leF, nI_eqT, nI_eqF, nI_nM, nM_nI, nM_eq, nM_lt, nM_le, nI_ltM, nI_leM, nI_inT, nI_dec, pk_rem, nI_ltI, nI_leI, nI_eq, nI_clamp, Nat.add_assoc, q_bv51, Nat.add_left_cancel_iff, clK_0 d, clK_1 d, clK_3 d, clK_5 d, clK_7 d, clK_8 d, clK_9 d, clK_11 d, clK_12 d, clK_13 d, clK_14 d, clK_15 d, clK_16 d, clK_18 d, clK_20 d, clK_21 d, clK_22 d, clK_23 d, clK_24 d, clK_25 d, clK_26 d, clR_0_0 d, clR_1_0 d, clR_2_0 d, clR_3_0 d, clR_7_0 d, clR_8_0 d, clR_9_0 d, clR_10_0 d, clR_11_0 d, clR_0_8 d, clR_0_11 d, clR_1_11 d, clR_2_11 d, clR_0_15 d, clR_1_15 d, clR_2_15 d, clR_3_15 d, clR_4_15 d, clR_5_15 d, clR_0_23 d, clR_1_23 d, clR_0_25 d, clL_7 d, clL_12 d, clL_13 d, clL_14 d, clL_20 d, clL_21 d, clL_22 d, clL_24 d, clS_0 d, clS_1 d, clS_2 d, clS_3 d]
theorem upd_at {f : Nat → Int32} {k : Nat} {v : Int32} : upd f k v k = v := by unfold upd; rw [if_pos rfl]
theorem upd_ne {f : Nat → Int32} {k j : Nat} {v : Int32} (hn : j ≠ k) : upd f k v j = f j := by unfold upd; rw [if_neg hn]
theorem eK_21 {L n : Nat} {v : Int32} (hn : L ≤ n) : eK X L h (pA h (X + 21) (upd (hA h (X + 21)) n v)) := by
  refine ⟨fun k hk => ?_, fun k hk => ?_⟩
  · rw [u_AA, if_neg (by omega)]
  · rw [u_AA, if_pos rfl]
    exact upd_ne (by omega)
theorem eK_20 {L n : Nat} {v : Int32} (hn : L * 10 ≤ n) : eK X L h (pA h (X + 20) (upd (hA h (X + 20)) n v)) := by
  refine ⟨fun k hk => ?_, fun k hk => ?_⟩
  · rw [u_AA, if_pos rfl]
    exact upd_ne (by omega)
  · rw [u_AA, if_neg (by omega)]
theorem k_fw_loop {dp ra rb' e : Nat} {t wl : List Nat} {ws : List (List Nat)} {E0 : Nat → Nat} {l2 : Option Value} (hdp : dp < 7) (he : e ≤ t.length) (ht : t.length ≤ 300) (hra : Q ra) (hrb : Q rb') (hwl : wl.length ≤ 18000 * dp) :
    ∀ m i f (h : PH) (wb cap bd : Nat) (y : List Nat) (dn : List (List Nat)) (E : Nat → Nat), e + 1 ≤ i + m → f ≤ i → i ≤ e + 1 → dn.length + (rmw t e f i).length ≤ 9 → cIk Q h X tp ou fo hd a w → kW Q h X wb cap bd (wl ++ y) (nI 0) → y.length ≤ 2000 * dn.length → rw_ h ra rb' t.length t.length t 0 → wSt h X dp ws E0 wl → wE h X (dp + 1) dn E (wl ++ y) → hI h 8 (X + 15) = nI 0 →
    ∃ h' wb' cap', ev g mX1_fillWords 29 [some (va_rf (some (X + 15))), some (va_rf (some ra)), l2, some (.int (nI dp)), some (.int (nI e)), some (.int (nI f)), some (.int (nI dn.length)), some (.int (nI i))] [] h = some (none, h') ∧ fOK X wb cap wb' cap' h h' ∧ eK X (dp + 1) h h' ∧ (∀ k, k ≠ 8 → hI h' k (X + 15) = hI h k (X + 15)) ∧ fwR Q h' X (dp + 1) wb' cap' wl (match wdf ws (rmw t e f i) with | none => none | some r => some (dn ++ r)) := by
  intro m
  -- the end
  have fin : ∀ i f (h : PH) (wb cap bd : Nat) (y : List Nat) (dn : List (List Nat)) (E : Nat → Nat), i = e + 1 → dn.length ≤ 9 → cIk Q h X tp ou fo hd a w → kW Q h X wb cap bd (wl ++ y) (nI 0) → y.length ≤ 2000 * dn.length → wE h X (dp + 1) dn E (wl ++ y) → hI h 8 (X + 15) = nI 0 →
      ∃ h' wb' cap', ev g mX1_fillWords 29 [some (va_rf (some (X + 15))), some (va_rf (some ra)), l2, some (.int (nI dp)), some (.int (nI e)), some (.int (nI f)), some (.int (nI dn.length)), some (.int (nI i))] [] h = some (none, h') ∧ fOK X wb cap wb' cap' h h' ∧ eK X (dp + 1) h h' ∧ (∀ k, k ≠ 8 → hI h' k (X + 15) = hI h k (X + 15)) ∧ fwR Q h' X (dp + 1) wb' cap' wl (match wdf ws (rmw t e f i) with | none => none | some r => some (dn ++ r)) := by
    intro i f h wb cap bd y dn E hi hdn I K hy W h8
    have d := I.1.1
    have dN := d.1
    obtain ⟨rK, k1, k2, k3, k4⟩ := K
    have er : rmw t e f i = [] := by unfold rmw; rw [if_neg (by omega)]
    have s : cfm X (fF X wb) h (pA h (X + 21) (upd (hA h (X + 21)) (dp + 1) (nI dn.length))) := cfm.pA _ _ (Or.inr (Or.inr (Or.inr (Or.inl rfl))))
    have s1 : sm (fun x => x = X + 21) h (pA h (X + 21) (upd (hA h (X + 21)) (dp + 1) (nI dn.length))) := sm.A1 _ _
    refine ⟨_, wb, cap, ?_, fOK.of s rfl rfl, eK_21 (Nat.le_refl _), fun k _ => rfl, ?_⟩
    · rw [← k_fw_exit (g := g) (l1 := some (va_rf (some ra))) (l2 := l2) (l4 := some (.int (nI e))) (l5 := some (.int (nI f))) (l7 := some (.int (nI i))) d hdp hdn, e_X1_fillWords_29]
      simp (decide := true) (disch := omega) only [e_X1_fillWords_31, e_X1_fillWords_33, e_X1_fillWords_36, e_X1_fillWords_37, e_X1_fillWords_40, e_X1_fillWords_43, e_X1_fillWords_45, e_X1_fillWords_47, e_X1_fillWords_50, e_X1_fillWords_51, e_X1_fillWords_53, e_X1_fillWords_56, e_X1_fillWords_58, e_X1_fillWords_61, e_X1_fillWords_62, e_X1_fillWords_65, e_X1_fillWords_68, e_X1_fillWords_71, e_X1_fillWords_72, e_X1_fillWords_73, e_X1_fillWords_76, e_X1_fillWords_77, e_X1_fillWords_79, e_X1_fillWords_81, e_X1_fillWords_82, e_X1_fillWords_85, e_X1_fillWords_88, e_X1_fillWords_89, e_X1_fillWords_90, e_X1_fillWords_91, e_X1_fillWords_92, e_X1_fillWords_94, e_X1_fillWords_97, e_X1_fillWords_99, e_X1_fillWords_100, e_X1_fillWords_101, e_X1_fillWords_103, e_X1_fillWords_106, ↓reduceIte, if_true, if_false, reduceCtorEq, Nat.reduceAdd, true_and, and_true, false_and, and_false, true_or, or_true, false_or, or_false, not_true_eq_false, not_false_eq_true, Option.bind_eq_bind, Option.bind_some, psh, eq_self, l_0, l_1, l_2, l_3, l_4, l_5, l_6, l_7, l_8, l_9, l_10, l_11, l_12, l_13, l_14, l_15, l_16, l_17, l_18, l_19, l_20, l_24, l_31, l_32, l_33, l_35, l_36, l_48, l_56, l_57, l_58, l_63, l_65, l_80, l_81, l_90, l_91, l_93, l_94, l_95, l_97, l_100, l_105, l_107, l_110, l_111, l_116, l_120, l_121, l_122, l_123, l_124, l_125, l_126, l_162, l_255, l_300, l_400, l_420, l_432, l_1000, l_1400, l_1936, l_2000, l_2100, l_2400, l_24000, m_n1, m_n2, m_n3, nI_mul, nI_add, nI_sub, nI_ltT, nI_ltF, nI_leT, nI_leF, nI_eqT, nI_eqF, nI_nM, nM_nI, nM_eq, nM_lt, nM_le, nI_ltM, nI_leM, nI_inT, nI_dec, pk_rem, nI_ltI, nI_leI, nI_eq, nI_clamp, Nat.add_assoc, q_bv51, Nat.add_left_cancel_iff]
    · rw [er, wdf]
      simp only
      rw [List.append_nil]
      refine ⟨bd, wl ++ y, nI 0, ⟨rK.keep s1 (by omega) k2 (by omega) (by omega), k1, k2, k3, k4⟩, ⟨y, rfl⟩, h8, rfl, ⟨E, ⟨?_, hdn⟩, fun j hj => ?_⟩, by rw [List.length_append]; omega⟩
      · rw [u_AA, if_pos rfl]
        exact upd_at
      · rw [u_AA, if_neg (by omega)]
        obtain ⟨w1, w2, w3⟩ := W
        exact ⟨w1 j (by omega), w1 (j + 1) (by omega), w2 j hj⟩
  induction m with
  | zero =>
    intro i f h wb cap bd y dn E h1 h2 h3 h4 I K hy rt W0 W h8
    exact fin i f h wb cap bd y dn E (by omega) (by omega) I K hy W h8
  | succ m ih =>
    intro i f h wb cap bd y dn E h1 h2 h3 h4 I K hy rt W0 W h8
    by_cases ci : i = e + 1
    · exact fin i f h wb cap bd y dn E ci (by omega) I K hy W h8
    · have d := I.1.1
      have dN := d.1
      have hQ := I.1.2.1
      have k6t := rt.1.1
      have K0 := K
      obtain ⟨rK, k1, k2, k3, k4⟩ := K
      by_cases cb : i < e ∧ t.getD i 0 ≠ 124
      · rw [rmw_1 (by omega) cb.1 cb.2] at h4 ⊢
        obtain ⟨h', wb', cap', E1, r⟩ := ih (i + 1) f h wb cap bd y dn E (by omega) (by omega) (by omega) h4 I K0 hy rt W0 W h8
        refine ⟨h', wb', cap', ?_, r⟩
        have hb : t.getD i 0 < 256 := rt.2.2.2.2 _ (getD_mem (by omega))
        have eb := r_byteAt (g := g) (i := nI i) rt
        rw [rbT (by omega) (by omega)] at eb
        have c1 := cb.1
        have c2 := cb.2
        rw [← E1, e_X1_fillWords_29]
        simp (decide := true) (disch := omega) only [e_X1_fillWords_31, e_X1_fillWords_33, e_X1_fillWords_36, e_X1_fillWords_37, e_X1_fillWords_40, e_X1_fillWords_43, e_X1_fillWords_45, e_X1_fillWords_47, e_X1_fillWords_50, e_X1_fillWords_51, e_X1_fillWords_53, e_X1_fillWords_56, e_X1_fillWords_58, e_X1_fillWords_61, e_X1_fillWords_62, e_X1_fillWords_65, e_X1_fillWords_68, e_X1_fillWords_71, e_X1_fillWords_72, e_X1_fillWords_73, e_X1_fillWords_76, e_X1_fillWords_77, e_X1_fillWords_79, e_X1_fillWords_81, e_X1_fillWords_82, e_X1_fillWords_85, e_X1_fillWords_88, e_X1_fillWords_89, e_X1_fillWords_90, e_X1_fillWords_91, e_X1_fillWords_92, e_X1_fillWords_94, e_X1_fillWords_97, e_X1_fillWords_99, e_X1_fillWords_100, e_X1_fillWords_101, e_X1_fillWords_103, e_X1_fillWords_106, ↓reduceIte, if_true, if_false, reduceCtorEq, Nat.reduceAdd, true_and, and_true, false_and, and_false, true_or, or_true, false_or, or_false, not_true_eq_false, not_false_eq_true, Option.bind_eq_bind, Option.bind_some, psh, eq_self, l_0, l_1, l_2, l_3, l_4, l_5, l_6, l_7, l_8, l_9, l_10, l_11, l_12, l_13, l_14, l_15, l_16, l_17, l_18, l_19, l_20, l_24, l_31, l_32, l_33, l_35, l_36, l_48, l_56, l_57, l_58, l_63, l_65, l_80, l_81, l_90, l_91, l_93, l_94, l_95, l_97, l_100, l_105, l_107, l_110, l_111, l_116, l_120, l_121, l_122, l_123, l_124, l_125, l_126, l_162, l_255, l_300, l_400, l_420, l_432, l_1000, l_1400, l_1936, l_2000, l_2100, l_2400, l_24000, m_n1, m_n2, m_n3, nI_mul, nI_add, nI_sub, nI_ltT, nI_ltF, nI_leT, nI_leF, nI_eqT, nI_eqF, nI_nM, nM_nI, nM_eq, nM_lt, nM_le, nI_ltM, nI_leM, nI_inT, nI_dec, pk_rem, nI_ltI, nI_leI, nI_eq, nI_clamp, Nat.add_assoc, q_bv51, Nat.add_left_cancel_iff, clK_0 d, clK_1 d, clK_3 d, clK_5 d, clK_7 d, clK_8 d, clK_9 d, clK_11 d, clK_12 d, clK_13 d, clK_14 d, clK_15 d, clK_16 d, clK_18 d, clK_20 d, clK_21 d, clK_22 d, clK_23 d, clK_24 d, clK_25 d, clK_26 d, clR_0_0 d, clR_1_0 d, clR_2_0 d, clR_3_0 d, clR_7_0 d, clR_8_0 d, clR_9_0 d, clR_10_0 d, clR_11_0 d, clR_0_8 d, clR_0_11 d, clR_1_11 d, clR_2_11 d, clR_0_15 d, clR_1_15 d, clR_2_15 d, clR_3_15 d, clR_4_15 d, clR_5_15 d, clR_0_23 d, clR_1_23 d, clR_0_25 d, clL_7 d, clL_12 d, clL_13 d, clL_14 d, clL_20 d, clL_21 d, clL_22 d, clL_24 d, clS_0 d, clS_1 d, clS_2 d, clS_3 d, h8, k6t, eb]
      · have hb : i = e ∨ t.getD i 0 = 124 := by
          by_cases z : i = e
          · exact Or.inl z
          · refine Or.inr (Classical.byContradiction (fun q => cb ⟨by omega, q⟩))
        rw [rmw_2 (by omega) (by omega) hb] at h4 ⊢
        rw [List.length_cons] at h4
        have hl : (wl ++ y).length = wl.length + y.length := List.length_append
        -- room
        obtain ⟨h1', wb1, cap1, e1, r1, s1, b1, b2, b3, n1, u1⟩ := r_allow (g := g) rK (by omega) k4 (by omega) k2
        have c1 : cfm X (fun x => x = X + 18) h h1' := cfm.of s1 dN (fun k hk => by unfold crO at hk; omega)
        have hs1 := s1.1
        have I1 := I.kp K0 (c1.mono (fun x _ z => by unfold kF'; omega))
        have hQ1 := I1.1.2.1
        have nQ1 : ¬ Q wb1 := fun z => by
          rcases b1 with q | q
          · rw [q] at z; exact k1 z
          · have := hQ wb1 z; omega
        have kb1 : wb1 = X + 19 ∨ X + 57 ≤ wb1 := by omega
        have K1 : kW Q h1' X wb1 cap1 ((wl ++ y).length + 2000) (wl ++ y) (nI 0) := ⟨r1, nQ1, b2, kb1, by omega⟩
        have hw1 : (wb1 = X + 19 ∨ X + 57 ≤ wb1) ∧ wb1 ≠ ra ∧ wb1 ≠ rb' := ⟨kb1, fun z => nQ1 (z ▸ hra), fun z => nQ1 (z ▸ hrb)⟩
        have ra1 := hQ ra hra
        have rb1 := hQ rb' hrb
        have rt1 := rt.keep s1 ra1.2 rb1.2 (by omega) (by omega)
        have ek1 : eK X (dp + 1) h h1' := eK.of s1 dN (by omega) (by omega)
        have H1 := (W0.kp ek1 (by omega)).fH I1.1.1 hQ1 hra hrb rt1 (by omega) ht
        have h81 : hI h1' 8 (X + 15) = nI 0 := by rw [((s1.2.2 (X + 15) (by omega)).2.2 (by omega)).1]; exact h8
        have F1 : fW h1' X wb1 wl.length wl true (wl ++ y) := by
          unfold fW
          rw [if_pos rfl]
          exact ⟨by rw [List.take_left'] <;> rfl, by omega⟩
        -- the WORD
        obtain ⟨h2', l', o', e2, c2, n2, u2, f2, f8, r2, ⟨x0, hx0⟩, q3, q4⟩ := k_fill (g := g) (X := X) (tw := true) (ta := X + 18) (tb := wb1) (f := f) (e := i) hw1 (Or.inr ⟨rfl, rfl, rfl⟩) (by omega) h2 H1 b2 r1 F1 h81
        have I2 := I1.kp K1 (c2.mono (fun x _ z => by unfold rP at z; unfold kF'; omega))
        have d2 := I2.1.1
        have hs2 := c2.1.1
        have p20 := ((c2.1.2.2 (X + 20) (by omega)).2.2 (by unfold rP; omega)).2.2.2.1
        have p20' := ((s1.2.2 (X + 20) (by omega)).2.2 (by omega)).2.2.2.1
        have ek2 : eK X (dp + 1) h1' h2' := eK.of c2.1 (by omega) (by unfold rP; omega) (by unfold rP; omega)
        have es := k_setEdge (g := g) (lv := dp + 1) (k := dn.length + 1) d2 r2 (by omega) (by omega)
        have c3 : cfm X (fF X wb1) h2' (pA h2' (X + 20) (upd (hA h2' (X + 20)) ((dp + 1) * 10 + (dn.length + 1)) (nI l'.length))) := cfm.pA _ _ (Or.inr (Or.inr (Or.inl rfl)))
        have s3 : sm (fun x => x = X + 20) h2' (pA h2' (X + 20) (upd (hA h2' (X + 20)) ((dp + 1) * 10 + (dn.length + 1)) (nI l'.length))) := sm.A1 _ _
        have ek3 : eK X (dp + 1) h2' (pA h2' (X + 20) (upd (hA h2' (X + 20)) ((dp + 1) * 10 + (dn.length + 1)) (nI l'.length))) := eK_20 (by omega)
        have K2 : kW Q h2' X wb1 cap1 ((wl ++ y).length + 2000) l' o' := ⟨r2, nQ1, by omega, kb1, K1.2.2.2.2⟩
        have I3 := I2.kp K2 (c3.mono (fun x _ z => by unfold fF at z; unfold kF'; omega))
        have o1 : fOK X wb cap wb1 cap1 h h1' := ⟨c1.mono (fun x _ z => by unfold fF; omega), b1, n1, u1⟩
        have o2 : fOK X wb1 cap1 wb1 cap1 h1' h2' := fOK.of (c2.mono (fun x _ z => by unfold rP at z; unfold fF; omega)) n2 u2
        have o3 : fOK X wb1 cap1 wb1 cap1 h2' (pA h2' (X + 20) (upd (hA h2' (X + 20)) ((dp + 1) * 10 + (dn.length + 1)) (nI l'.length))) := fOK.of c3 rfl rfl
        have o123 := (o1.tr o2).tr o3
        have ek123 := (ek1.tr ek2).tr ek3
        have K3 : kW Q (pA h2' (X + 20) (upd (hA h2' (X + 20)) ((dp + 1) * 10 + (dn.length + 1)) (nI l'.length))) X wb1 cap1 ((wl ++ y).length + 2000) l' o' := ⟨r2.keep s3 (by omega) (by omega) (by omega) (by omega), nQ1, K2.2.2.1, kb1, K1.2.2.2.2⟩
        have fx : ∀ k, k ≠ 8 → hI (pA h2' (X + 20) (upd (hA h2' (X + 20)) ((dp + 1) * 10 + (dn.length + 1)) (nI l'.length))) k (X + 15) = hI h k (X + 15) := fun k hk => by
          show hI h2' k (X + 15) = _
          rw [f2 k hk, ((s1.2.2 (X + 15) (by omega)).2.2 (by omega)).1]
        have go : ev g mX1_fillWords 29 [some (va_rf (some (X + 15))), some (va_rf (some ra)), l2, some (.int (nI dp)), some (.int (nI e)), some (.int (nI f)), some (.int (nI dn.length)), some (.int (nI i))] [] h = ev g mX1_fillWords 29 [some (va_rf (some (X + 15))), some (va_rf (some ra)), l2, some (.int (nI dp)), some (.int (nI e)), some (.int (nI (i + 1))), some (.int (nI (dn.length + 1))), some (.int (nI (i + 1)))] [] (pA h2' (X + 20) (upd (hA h2' (X + 20)) ((dp + 1) * 10 + (dn.length + 1)) (nI l'.length))) := by
          have d1 := I1.1.1
          have k18 := rK.1.1
          rw [e_X1_fillWords_29]
          rcases hb with z | z
          · simp (decide := true) (disch := omega) only [e_X1_fillWords_31, e_X1_fillWords_33, e_X1_fillWords_36, e_X1_fillWords_37, e_X1_fillWords_40, e_X1_fillWords_43, e_X1_fillWords_45, e_X1_fillWords_47, e_X1_fillWords_50, e_X1_fillWords_51, e_X1_fillWords_53, e_X1_fillWords_56, e_X1_fillWords_58, e_X1_fillWords_61, e_X1_fillWords_62, e_X1_fillWords_65, e_X1_fillWords_68, e_X1_fillWords_71, e_X1_fillWords_72, e_X1_fillWords_73, e_X1_fillWords_76, e_X1_fillWords_77, e_X1_fillWords_79, e_X1_fillWords_81, e_X1_fillWords_82, e_X1_fillWords_85, e_X1_fillWords_88, e_X1_fillWords_89, e_X1_fillWords_90, e_X1_fillWords_91, e_X1_fillWords_92, e_X1_fillWords_94, e_X1_fillWords_97, e_X1_fillWords_99, e_X1_fillWords_100, e_X1_fillWords_101, e_X1_fillWords_103, e_X1_fillWords_106, ↓reduceIte, if_true, if_false, reduceCtorEq, Nat.reduceAdd, true_and, and_true, false_and, and_false, true_or, or_true, false_or, or_false, not_true_eq_false, not_false_eq_true, Option.bind_eq_bind, Option.bind_some, psh, eq_self, l_0, l_1, l_2, l_3, l_4, l_5, l_6, l_7, l_8, l_9, l_10, l_11, l_12, l_13, l_14, l_15, l_16, l_17, l_18, l_19, l_20, l_24, l_31, l_32, l_33, l_35, l_36, l_48, l_56, l_57, l_58, l_63, l_65, l_80, l_81, l_90, l_91, l_93, l_94, l_95, l_97, l_100, l_105, l_107, l_110, l_111, l_116, l_120, l_121, l_122, l_123, l_124, l_125, l_126, l_162, l_255, l_300, l_400, l_420, l_432, l_1000, l_1400, l_1936, l_2000, l_2100, l_2400, l_24000, m_n1, m_n2, m_n3, nI_mul, nI_add, nI_sub, nI_ltT, nI_ltF, nI_leT, nI_leF, nI_eqT, nI_eqF, nI_nM, nM_nI, nM_eq, nM_lt, nM_le, nI_ltM, nI_leM, nI_inT, nI_dec, pk_rem, nI_ltI, nI_leI, nI_eq, nI_clamp, Nat.add_assoc, q_bv51, Nat.add_left_cancel_iff, clK_0 d, clK_1 d, clK_3 d, clK_5 d, clK_7 d, clK_8 d, clK_9 d, clK_11 d, clK_12 d, clK_13 d, clK_14 d, clK_15 d, clK_16 d, clK_18 d, clK_20 d, clK_21 d, clK_22 d, clK_23 d, clK_24 d, clK_25 d, clK_26 d, clR_0_0 d, clR_1_0 d, clR_2_0 d, clR_3_0 d, clR_7_0 d, clR_8_0 d, clR_9_0 d, clR_10_0 d, clR_11_0 d, clR_0_8 d, clR_0_11 d, clR_1_11 d, clR_2_11 d, clR_0_15 d, clR_1_15 d, clR_2_15 d, clR_3_15 d, clR_4_15 d, clR_5_15 d, clR_0_23 d, clR_1_23 d, clR_0_25 d, clL_7 d, clL_12 d, clL_13 d, clL_14 d, clL_20 d, clL_21 d, clL_22 d, clL_24 d, clS_0 d, clS_1 d, clS_2 d, clS_3 d, h8, e1, clK_0 d1, clK_1 d1, clK_3 d1, clK_5 d1, clK_7 d1, clK_8 d1, clK_9 d1, clK_11 d1, clK_12 d1, clK_13 d1, clK_14 d1, clK_15 d1, clK_16 d1, clK_18 d1, clK_20 d1, clK_21 d1, clK_22 d1, clK_23 d1, clK_24 d1, clK_25 d1, clK_26 d1, clR_0_0 d1, clR_1_0 d1, clR_2_0 d1, clR_3_0 d1, clR_7_0 d1, clR_8_0 d1, clR_9_0 d1, clR_10_0 d1, clR_11_0 d1, clR_0_8 d1, clR_0_11 d1, clR_1_11 d1, clR_2_11 d1, clR_0_15 d1, clR_1_15 d1, clR_2_15 d1, clR_3_15 d1, clR_4_15 d1, clR_5_15 d1, clR_0_23 d1, clR_1_23 d1, clR_0_25 d1, clL_7 d1, clL_12 d1, clL_13 d1, clL_14 d1, clL_20 d1, clL_21 d1, clL_22 d1, clL_24 d1, clS_0 d1, clS_1 d1, clS_2 d1, clS_3 d1, e2, clK_0 d2, clK_1 d2, clK_3 d2, clK_5 d2, clK_7 d2, clK_8 d2, clK_9 d2, clK_11 d2, clK_12 d2, clK_13 d2, clK_14 d2, clK_15 d2, clK_16 d2, clK_18 d2, clK_20 d2, clK_21 d2, clK_22 d2, clK_23 d2, clK_24 d2, clK_25 d2, clK_26 d2, clR_0_0 d2, clR_1_0 d2, clR_2_0 d2, clR_3_0 d2, clR_7_0 d2, clR_8_0 d2, clR_9_0 d2, clR_10_0 d2, clR_11_0 d2, clR_0_8 d2, clR_0_11 d2, clR_1_11 d2, clR_2_11 d2, clR_0_15 d2, clR_1_15 d2, clR_2_15 d2, clR_3_15 d2, clR_4_15 d2, clR_5_15 d2, clR_0_23 d2, clR_1_23 d2, clR_0_25 d2, clL_7 d2, clL_12 d2, clL_13 d2, clL_14 d2, clL_20 d2, clL_21 d2, clL_22 d2, clL_24 d2, clS_0 d2, clS_1 d2, clS_2 d2, clS_3 d2, es]
          · have eb := r_byteAt (g := g) (i := nI i) rt
            by_cases z2 : i = e
            · simp (decide := true) (disch := omega) only [e_X1_fillWords_31, e_X1_fillWords_33, e_X1_fillWords_36, e_X1_fillWords_37, e_X1_fillWords_40, e_X1_fillWords_43, e_X1_fillWords_45, e_X1_fillWords_47, e_X1_fillWords_50, e_X1_fillWords_51, e_X1_fillWords_53, e_X1_fillWords_56, e_X1_fillWords_58, e_X1_fillWords_61, e_X1_fillWords_62, e_X1_fillWords_65, e_X1_fillWords_68, e_X1_fillWords_71, e_X1_fillWords_72, e_X1_fillWords_73, e_X1_fillWords_76, e_X1_fillWords_77, e_X1_fillWords_79, e_X1_fillWords_81, e_X1_fillWords_82, e_X1_fillWords_85, e_X1_fillWords_88, e_X1_fillWords_89, e_X1_fillWords_90, e_X1_fillWords_91, e_X1_fillWords_92, e_X1_fillWords_94, e_X1_fillWords_97, e_X1_fillWords_99, e_X1_fillWords_100, e_X1_fillWords_101, e_X1_fillWords_103, e_X1_fillWords_106, ↓reduceIte, if_true, if_false, reduceCtorEq, Nat.reduceAdd, true_and, and_true, false_and, and_false, true_or, or_true, false_or, or_false, not_true_eq_false, not_false_eq_true, Option.bind_eq_bind, Option.bind_some, psh, eq_self, l_0, l_1, l_2, l_3, l_4, l_5, l_6, l_7, l_8, l_9, l_10, l_11, l_12, l_13, l_14, l_15, l_16, l_17, l_18, l_19, l_20, l_24, l_31, l_32, l_33, l_35, l_36, l_48, l_56, l_57, l_58, l_63, l_65, l_80, l_81, l_90, l_91, l_93, l_94, l_95, l_97, l_100, l_105, l_107, l_110, l_111, l_116, l_120, l_121, l_122, l_123, l_124, l_125, l_126, l_162, l_255, l_300, l_400, l_420, l_432, l_1000, l_1400, l_1936, l_2000, l_2100, l_2400, l_24000, m_n1, m_n2, m_n3, nI_mul, nI_add, nI_sub, nI_ltT, nI_ltF, nI_leT, nI_leF, nI_eqT, nI_eqF, nI_nM, nM_nI, nM_eq, nM_lt, nM_le, nI_ltM, nI_leM, nI_inT, nI_dec, pk_rem, nI_ltI, nI_leI, nI_eq, nI_clamp, Nat.add_assoc, q_bv51, Nat.add_left_cancel_iff, clK_0 d, clK_1 d, clK_3 d, clK_5 d, clK_7 d, clK_8 d, clK_9 d, clK_11 d, clK_12 d, clK_13 d, clK_14 d, clK_15 d, clK_16 d, clK_18 d, clK_20 d, clK_21 d, clK_22 d, clK_23 d, clK_24 d, clK_25 d, clK_26 d, clR_0_0 d, clR_1_0 d, clR_2_0 d, clR_3_0 d, clR_7_0 d, clR_8_0 d, clR_9_0 d, clR_10_0 d, clR_11_0 d, clR_0_8 d, clR_0_11 d, clR_1_11 d, clR_2_11 d, clR_0_15 d, clR_1_15 d, clR_2_15 d, clR_3_15 d, clR_4_15 d, clR_5_15 d, clR_0_23 d, clR_1_23 d, clR_0_25 d, clL_7 d, clL_12 d, clL_13 d, clL_14 d, clL_20 d, clL_21 d, clL_22 d, clL_24 d, clS_0 d, clS_1 d, clS_2 d, clS_3 d, h8, e1, clK_0 d1, clK_1 d1, clK_3 d1, clK_5 d1, clK_7 d1, clK_8 d1, clK_9 d1, clK_11 d1, clK_12 d1, clK_13 d1, clK_14 d1, clK_15 d1, clK_16 d1, clK_18 d1, clK_20 d1, clK_21 d1, clK_22 d1, clK_23 d1, clK_24 d1, clK_25 d1, clK_26 d1, clR_0_0 d1, clR_1_0 d1, clR_2_0 d1, clR_3_0 d1, clR_7_0 d1, clR_8_0 d1, clR_9_0 d1, clR_10_0 d1, clR_11_0 d1, clR_0_8 d1, clR_0_11 d1, clR_1_11 d1, clR_2_11 d1, clR_0_15 d1, clR_1_15 d1, clR_2_15 d1, clR_3_15 d1, clR_4_15 d1, clR_5_15 d1, clR_0_23 d1, clR_1_23 d1, clR_0_25 d1, clL_7 d1, clL_12 d1, clL_13 d1, clL_14 d1, clL_20 d1, clL_21 d1, clL_22 d1, clL_24 d1, clS_0 d1, clS_1 d1, clS_2 d1, clS_3 d1, e2, clK_0 d2, clK_1 d2, clK_3 d2, clK_5 d2, clK_7 d2, clK_8 d2, clK_9 d2, clK_11 d2, clK_12 d2, clK_13 d2, clK_14 d2, clK_15 d2, clK_16 d2, clK_18 d2, clK_20 d2, clK_21 d2, clK_22 d2, clK_23 d2, clK_24 d2, clK_25 d2, clK_26 d2, clR_0_0 d2, clR_1_0 d2, clR_2_0 d2, clR_3_0 d2, clR_7_0 d2, clR_8_0 d2, clR_9_0 d2, clR_10_0 d2, clR_11_0 d2, clR_0_8 d2, clR_0_11 d2, clR_1_11 d2, clR_2_11 d2, clR_0_15 d2, clR_1_15 d2, clR_2_15 d2, clR_3_15 d2, clR_4_15 d2, clR_5_15 d2, clR_0_23 d2, clR_1_23 d2, clR_0_25 d2, clL_7 d2, clL_12 d2, clL_13 d2, clL_14 d2, clL_20 d2, clL_21 d2, clL_22 d2, clL_24 d2, clS_0 d2, clS_1 d2, clS_2 d2, clS_3 d2, es]
            · rw [rbT (by omega) (by omega), z] at eb
              simp (decide := true) (disch := omega) only [e_X1_fillWords_31, e_X1_fillWords_33, e_X1_fillWords_36, e_X1_fillWords_37, e_X1_fillWords_40, e_X1_fillWords_43, e_X1_fillWords_45, e_X1_fillWords_47, e_X1_fillWords_50, e_X1_fillWords_51, e_X1_fillWords_53, e_X1_fillWords_56, e_X1_fillWords_58, e_X1_fillWords_61, e_X1_fillWords_62, e_X1_fillWords_65, e_X1_fillWords_68, e_X1_fillWords_71, e_X1_fillWords_72, e_X1_fillWords_73, e_X1_fillWords_76, e_X1_fillWords_77, e_X1_fillWords_79, e_X1_fillWords_81, e_X1_fillWords_82, e_X1_fillWords_85, e_X1_fillWords_88, e_X1_fillWords_89, e_X1_fillWords_90, e_X1_fillWords_91, e_X1_fillWords_92, e_X1_fillWords_94, e_X1_fillWords_97, e_X1_fillWords_99, e_X1_fillWords_100, e_X1_fillWords_101, e_X1_fillWords_103, e_X1_fillWords_106, ↓reduceIte, if_true, if_false, reduceCtorEq, Nat.reduceAdd, true_and, and_true, false_and, and_false, true_or, or_true, false_or, or_false, not_true_eq_false, not_false_eq_true, Option.bind_eq_bind, Option.bind_some, psh, eq_self, l_0, l_1, l_2, l_3, l_4, l_5, l_6, l_7, l_8, l_9, l_10, l_11, l_12, l_13, l_14, l_15, l_16, l_17, l_18, l_19, l_20, l_24, l_31, l_32, l_33, l_35, l_36, l_48, l_56, l_57, l_58, l_63, l_65, l_80, l_81, l_90, l_91, l_93, l_94, l_95, l_97, l_100, l_105, l_107, l_110, l_111, l_116, l_120, l_121, l_122, l_123, l_124, l_125, l_126, l_162, l_255, l_300, l_400, l_420, l_432, l_1000, l_1400, l_1936, l_2000, l_2100, l_2400, l_24000, m_n1, m_n2, m_n3, nI_mul, nI_add, nI_sub, nI_ltT, nI_ltF, nI_leT, nI_leF, nI_eqT, nI_eqF, nI_nM, nM_nI, nM_eq, nM_lt, nM_le, nI_ltM, nI_leM, nI_inT, nI_dec, pk_rem, nI_ltI, nI_leI, nI_eq, nI_clamp, Nat.add_assoc, q_bv51, Nat.add_left_cancel_iff, clK_0 d, clK_1 d, clK_3 d, clK_5 d, clK_7 d, clK_8 d, clK_9 d, clK_11 d, clK_12 d, clK_13 d, clK_14 d, clK_15 d, clK_16 d, clK_18 d, clK_20 d, clK_21 d, clK_22 d, clK_23 d, clK_24 d, clK_25 d, clK_26 d, clR_0_0 d, clR_1_0 d, clR_2_0 d, clR_3_0 d, clR_7_0 d, clR_8_0 d, clR_9_0 d, clR_10_0 d, clR_11_0 d, clR_0_8 d, clR_0_11 d, clR_1_11 d, clR_2_11 d, clR_0_15 d, clR_1_15 d, clR_2_15 d, clR_3_15 d, clR_4_15 d, clR_5_15 d, clR_0_23 d, clR_1_23 d, clR_0_25 d, clL_7 d, clL_12 d, clL_13 d, clL_14 d, clL_20 d, clL_21 d, clL_22 d, clL_24 d, clS_0 d, clS_1 d, clS_2 d, clS_3 d, h8, k6t, eb, e1, clK_0 d1, clK_1 d1, clK_3 d1, clK_5 d1, clK_7 d1, clK_8 d1, clK_9 d1, clK_11 d1, clK_12 d1, clK_13 d1, clK_14 d1, clK_15 d1, clK_16 d1, clK_18 d1, clK_20 d1, clK_21 d1, clK_22 d1, clK_23 d1, clK_24 d1, clK_25 d1, clK_26 d1, clR_0_0 d1, clR_1_0 d1, clR_2_0 d1, clR_3_0 d1, clR_7_0 d1, clR_8_0 d1, clR_9_0 d1, clR_10_0 d1, clR_11_0 d1, clR_0_8 d1, clR_0_11 d1, clR_1_11 d1, clR_2_11 d1, clR_0_15 d1, clR_1_15 d1, clR_2_15 d1, clR_3_15 d1, clR_4_15 d1, clR_5_15 d1, clR_0_23 d1, clR_1_23 d1, clR_0_25 d1, clL_7 d1, clL_12 d1, clL_13 d1, clL_14 d1, clL_20 d1, clL_21 d1, clL_22 d1, clL_24 d1, clS_0 d1, clS_1 d1, clS_2 d1, clS_3 d1, e2, clK_0 d2, clK_1 d2, clK_3 d2, clK_5 d2, clK_7 d2, clK_8 d2, clK_9 d2, clK_11 d2, clK_12 d2, clK_13 d2, clK_14 d2, clK_15 d2, clK_16 d2, clK_18 d2, clK_20 d2, clK_21 d2, clK_22 d2, clK_23 d2, clK_24 d2, clK_25 d2, clK_26 d2, clR_0_0 d2, clR_1_0 d2, clR_2_0 d2, clR_3_0 d2, clR_7_0 d2, clR_8_0 d2, clR_9_0 d2, clR_10_0 d2, clR_11_0 d2, clR_0_8 d2, clR_0_11 d2, clR_1_11 d2, clR_2_11 d2, clR_0_15 d2, clR_1_15 d2, clR_2_15 d2, clR_3_15 d2, clR_4_15 d2, clR_5_15 d2, clR_0_23 d2, clR_1_23 d2, clR_0_25 d2, clL_7 d2, clL_12 d2, clL_13 d2, clL_14 d2, clL_20 d2, clL_21 d2, clL_22 d2, clL_24 d2, clS_0 d2, clS_1 d2, clS_2 d2, clS_3 d2, es]
        rw [go, wdf]
        by_cases cf : (fil ws (slc t f i)).length ≤ 2000
        · rw [if_pos cf]
          obtain ⟨q5, q6⟩ := q3 (by omega)
          subst q6
          have q5' : l' = wl ++ (y ++ fil ws (slc t f i)) := by rw [q5, List.append_assoc]
          have hl' : l'.length = (wl ++ y ++ fil ws (slc t f i)).length := by rw [q5]
          have K3' : kW Q (pA h2' (X + 20) (upd (hA h2' (X + 20)) ((dp + 1) * 10 + (dn.length + 1)) (nI l'.length))) X wb1 cap1 ((wl ++ y).length + 2000) (wl ++ (y ++ fil ws (slc t f i))) (nI 0) := by
            rw [← q5']
            exact K3
          have W3 : wE (pA h2' (X + 20) (upd (hA h2' (X + 20)) ((dp + 1) * 10 + (dn.length + 1)) (nI l'.length))) X (dp + 1) (dn ++ [fil ws (slc t f i)]) (fun j => if j ≤ dn.length then E j else l'.length) (wl ++ (y ++ fil ws (slc t f i))) := by
            obtain ⟨w1, w2, w3⟩ := W
            refine ⟨fun j hj => ?_, fun j hj => ?_, ?_⟩
            · rw [List.length_append, List.length_singleton] at hj
              rw [u_AA, if_pos rfl]
              simp only
              by_cases z : j ≤ dn.length
              · rw [if_pos z, upd_ne (by omega), p20, p20']
                exact w1 j z
              · rw [if_neg z, show j = dn.length + 1 by omega]
                exact upd_at
            · rw [List.length_append, List.length_singleton] at hj
              simp only
              rw [if_pos (show j ≤ dn.length by omega), ← List.append_assoc]
              by_cases z : j < dn.length
              · obtain ⟨v1, v2, v3⟩ := w2 j z
                rw [if_pos (show j + 1 ≤ dn.length by omega)]
                refine ⟨v1, by rw [List.length_append]; omega, ?_⟩
                rw [slc_pre v2, v3, List.getD_eq_getElem?_getD, List.getD_eq_getElem?_getD, List.getElem?_append_left z]
              · have z2 : j = dn.length := by omega
                subst z2
                rw [if_neg (by omega), w3, hl']
                refine ⟨by simp only [List.length_append]; omega, Nat.le_refl _, ?_⟩
                rw [List.getD_eq_getElem?_getD, List.getElem?_append_right (Nat.le_refl _), Nat.sub_self]
                unfold slc
                rw [List.drop_left', List.take_of_length_le (by simp only [List.length_append]; omega)]
                · rfl
                · rfl
            · show (if (dn ++ [fil ws (slc t f i)]).length ≤ dn.length then _ else _) = _
              rw [if_neg (by simp), q5']
          have rt3 := (rt1.keep c2.1 (by omega) (by omega) (by unfold rP; omega) (by unfold rP; omega)).keep s3 (by omega) (by omega) (by omega) (by omega)
          obtain ⟨h', wb', cap', E1, v1, v2, v3, v4⟩ := ih (i + 1) (i + 1) _ wb1 cap1 _ (y ++ fil ws (slc t f i)) (dn ++ [fil ws (slc t f i)]) _ (by omega) (Nat.le_refl _) (by omega) (by rw [List.length_append, List.length_singleton]; omega) I3 K3' (by rw [List.length_append, List.length_append, List.length_singleton]; omega) rt3 (W0.kp ek123 (by omega)) W3 f8
          rw [List.length_append, List.length_singleton] at E1
          refine ⟨h', wb', cap', E1, o123.tr v1, ek123.tr v2, fun k hk => by rw [v3 k hk, fx k hk], ?_⟩
          cases er : wdf ws (rmw t e (i + 1) (i + 1)) with
          | none => rw [er] at v4; exact v4
          | some r =>
            rw [er] at v4
            simp only at v4 ⊢
            rw [List.append_assoc] at v4
            exact v4
        · rw [if_neg cf]
          have q6 := q4 (by omega)
          subst q6
          refine ⟨pA (pA h2' (X + 20) (upd (hA h2' (X + 20)) ((dp + 1) * 10 + (dn.length + 1)) (nI l'.length))) (X + 21) (upd (hA (pA h2' (X + 20) (upd (hA h2' (X + 20)) ((dp + 1) * 10 + (dn.length + 1)) (nI l'.length))) (X + 21)) (dp + 1) (nI (dn.length + 1))), wb1, cap1, ?_, o123.tr (fOK.of (cfm.pA _ _ (Or.inr (Or.inr (Or.inr (Or.inl rfl))))) rfl rfl), ek123.tr (eK_21 (Nat.le_refl _)), fun k hk => by rw [← fx k hk]; rfl, ?_⟩
          · have d3 := I3.1.1
            have h83 : hI (pA h2' (X + 20) (upd (hA h2' (X + 20)) ((dp + 1) * 10 + (dn.length + 1)) (nI l'.length))) 8 (X + 15) = nI 1 := f8
            rw [← k_fw_exit (g := g) (l1 := some (va_rf (some ra))) (l2 := l2) (l4 := some (.int (nI e))) (l5 := some (.int (nI (i + 1)))) (l7 := some (.int (nI (i + 1)))) d3 hdp (show dn.length + 1 ≤ 9 by omega), e_X1_fillWords_29]
            by_cases z2 : i = e
            · simp (decide := true) (disch := omega) only [e_X1_fillWords_31, e_X1_fillWords_33, e_X1_fillWords_36, e_X1_fillWords_37, e_X1_fillWords_40, e_X1_fillWords_43, e_X1_fillWords_45, e_X1_fillWords_47, e_X1_fillWords_50, e_X1_fillWords_51, e_X1_fillWords_53, e_X1_fillWords_56, e_X1_fillWords_58, e_X1_fillWords_61, e_X1_fillWords_62, e_X1_fillWords_65, e_X1_fillWords_68, e_X1_fillWords_71, e_X1_fillWords_72, e_X1_fillWords_73, e_X1_fillWords_76, e_X1_fillWords_77, e_X1_fillWords_79, e_X1_fillWords_81, e_X1_fillWords_82, e_X1_fillWords_85, e_X1_fillWords_88, e_X1_fillWords_89, e_X1_fillWords_90, e_X1_fillWords_91, e_X1_fillWords_92, e_X1_fillWords_94, e_X1_fillWords_97, e_X1_fillWords_99, e_X1_fillWords_100, e_X1_fillWords_101, e_X1_fillWords_103, e_X1_fillWords_106, ↓reduceIte, if_true, if_false, reduceCtorEq, Nat.reduceAdd, true_and, and_true, false_and, and_false, true_or, or_true, false_or, or_false, not_true_eq_false, not_false_eq_true, Option.bind_eq_bind, Option.bind_some, psh, eq_self, l_0, l_1, l_2, l_3, l_4, l_5, l_6, l_7, l_8, l_9, l_10, l_11, l_12, l_13, l_14, l_15, l_16, l_17, l_18, l_19, l_20, l_24, l_31, l_32, l_33, l_35, l_36, l_48, l_56, l_57, l_58, l_63, l_65, l_80, l_81, l_90, l_91, l_93, l_94, l_95, l_97, l_100, l_105, l_107, l_110, l_111, l_116, l_120, l_121, l_122, l_123, l_124, l_125, l_126, l_162, l_255, l_300, l_400, l_420, l_432, l_1000, l_1400, l_1936, l_2000, l_2100, l_2400, l_24000, m_n1, m_n2, m_n3, nI_mul, nI_add, nI_sub, nI_ltT, nI_ltF, nI_leT, nI_leF, nI_eqT, nI_eqF, nI_nM, nM_nI, nM_eq, nM_lt, nM_le, nI_ltM, nI_leM, nI_inT, nI_dec, pk_rem, nI_ltI, nI_leI, nI_eq, nI_clamp, Nat.add_assoc, q_bv51, Nat.add_left_cancel_iff]
            · simp (decide := true) (disch := omega) only [e_X1_fillWords_31, e_X1_fillWords_33, e_X1_fillWords_36, e_X1_fillWords_37, e_X1_fillWords_40, e_X1_fillWords_43, e_X1_fillWords_45, e_X1_fillWords_47, e_X1_fillWords_50, e_X1_fillWords_51, e_X1_fillWords_53, e_X1_fillWords_56, e_X1_fillWords_58, e_X1_fillWords_61, e_X1_fillWords_62, e_X1_fillWords_65, e_X1_fillWords_68, e_X1_fillWords_71, e_X1_fillWords_72, e_X1_fillWords_73, e_X1_fillWords_76, e_X1_fillWords_77, e_X1_fillWords_79, e_X1_fillWords_81, e_X1_fillWords_82, e_X1_fillWords_85, e_X1_fillWords_88, e_X1_fillWords_89, e_X1_fillWords_90, e_X1_fillWords_91, e_X1_fillWords_92, e_X1_fillWords_94, e_X1_fillWords_97, e_X1_fillWords_99, e_X1_fillWords_100, e_X1_fillWords_101, e_X1_fillWords_103, e_X1_fillWords_106, ↓reduceIte, if_true, if_false, reduceCtorEq, Nat.reduceAdd, true_and, and_true, false_and, and_false, true_or, or_true, false_or, or_false, not_true_eq_false, not_false_eq_true, Option.bind_eq_bind, Option.bind_some, psh, eq_self, l_0, l_1, l_2, l_3, l_4, l_5, l_6, l_7, l_8, l_9, l_10, l_11, l_12, l_13, l_14, l_15, l_16, l_17, l_18, l_19, l_20, l_24, l_31, l_32, l_33, l_35, l_36, l_48, l_56, l_57, l_58, l_63, l_65, l_80, l_81, l_90, l_91, l_93, l_94, l_95, l_97, l_100, l_105, l_107, l_110, l_111, l_116, l_120, l_121, l_122, l_123, l_124, l_125, l_126, l_162, l_255, l_300, l_400, l_420, l_432, l_1000, l_1400, l_1936, l_2000, l_2100, l_2400, l_24000, m_n1, m_n2, m_n3, nI_mul, nI_add, nI_sub, nI_ltT, nI_ltF, nI_leT, nI_leF, nI_eqT, nI_eqF, nI_nM, nM_nI, nM_eq, nM_lt, nM_le, nI_ltM, nI_leM, nI_inT, nI_dec, pk_rem, nI_ltI, nI_leI, nI_eq, nI_clamp, Nat.add_assoc, q_bv51, Nat.add_left_cancel_iff, clK_0 d3, clK_1 d3, clK_3 d3, clK_5 d3, clK_7 d3, clK_8 d3, clK_9 d3, clK_11 d3, clK_12 d3, clK_13 d3, clK_14 d3, clK_15 d3, clK_16 d3, clK_18 d3, clK_20 d3, clK_21 d3, clK_22 d3, clK_23 d3, clK_24 d3, clK_25 d3, clK_26 d3, clR_0_0 d3, clR_1_0 d3, clR_2_0 d3, clR_3_0 d3, clR_7_0 d3, clR_8_0 d3, clR_9_0 d3, clR_10_0 d3, clR_11_0 d3, clR_0_8 d3, clR_0_11 d3, clR_1_11 d3, clR_2_11 d3, clR_0_15 d3, clR_1_15 d3, clR_2_15 d3, clR_3_15 d3, clR_4_15 d3, clR_5_15 d3, clR_0_23 d3, clR_1_23 d3, clR_0_25 d3, clL_7 d3, clL_12 d3, clL_13 d3, clL_14 d3, clL_20 d3, clL_21 d3, clL_22 d3, clL_24 d3, clS_0 d3, clS_1 d3, clS_2 d3, clS_3 d3, h83]
          · refine ⟨_, l', nI 1, ⟨K3.1.keep (sm.A1 _ _) ?_ ?_ ?_ ?_, nQ1, K3.2.2.1, kb1, K1.2.2.2.2⟩, ⟨y ++ x0, by rw [hx0, List.append_assoc]⟩, f8⟩
            · show X + 18 < hN h2'; omega
            · show wb1 < hN h2'; omega
            · show ¬ X + 18 = X + 21; omega
            · show ¬ wb1 = X + 21; omega
end
