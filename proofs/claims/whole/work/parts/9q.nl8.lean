/-! PageWeb: showList; the loops of wanted and within -/
def lnB (L : List Nm) : Nat := (L.map (fun q => (nz q).length + 1)).sum
def lnT (L : List Nm) : List Nat := L.flatMap (fun q => nz q ++ [10])
theorem lnT_len : ∀ L : List Nm, (lnT L).length = lnB L
  | [] => rfl
  | q :: L => by
    have ih := lnT_len L
    unfold lnT lnB at *
    rw [List.flatMap_cons, List.length_append, ih, List.map_cons, List.sum_cons]
    simp
theorem lnT_take {L : List Nm} {k : Nat} (h : k < L.length) : lnT (L.take (k + 1)) = lnT (L.take k) ++ (nz (L.getD k nm0) ++ [10]) := by
  rw [List.take_add_one, List.getElem?_eq_getElem h, List.getD_eq_getElem?_getD, List.getElem?_eq_getElem h]
  unfold lnT
  rw [List.flatMap_append]
  simp
theorem lnB_app {A B : List Nm} : lnB (A ++ B) = lnB A + lnB B := by
  unfold lnB
  rw [List.map_append, List.sum_append]
theorem lnB_take {L : List Nm} {k : Nat} : lnB (L.take k) ≤ lnB L := by
  have := lnB_app (A := L.take k) (B := L.drop k)
  rw [List.take_append_drop] at this
  omega
def sLst (ou : List Nat) (S : List Nm × Nat) : Int32 × List Nat := if 2000 < S.2 then (nM 2, ou) else (nI S.1.length, lnT S.1)
section
variable {g X : Nat} {Q : Nat → Prop} {tp ou fo : List Nat} {hd : Option Nm} {a : Option Nat} {w : Wd}
theorem c_showList_loop {gf e bs : Nat} {h0 : PH} {l : List Nat} {L : List Nm} (d0 : cl h0 X) (hQ : ∀ x, Q x → X + 57 ≤ x ∧ x < hN h0) (N0 : nls Q h0 X l e L gf bs) (hb : lnB L ≤ 2000) :
    ∀ j k (h : PH) (o : Int32) (l2 : Option Value), j + k = L.length → sm (rP (X + 3) (X + 4)) h0 h → rw_ h (X + 3) (X + 4) 2000 2000 (lnT (L.take k)) o →
    ∃ h' o', ev g mX10_showList 23 [some (va_rf (some X)), some (.int (nI k)), l2] [] h = some (some (.int (nI L.length)), h') ∧ sm (rP (X + 3) (X + 4)) h0 h' ∧ rw_ h' (X + 3) (X + 4) 2000 2000 (lnT L) o' ∧ hN h' = hN h ∧ hU h' = hU h := by
  have hL := N0.2.2.2.2.1
  have hL2 := N0.2.2.2.2.2
  have dN := d0.1
  have kp : ∀ h, sm (rP (X + 3) (X + 4)) h0 h → cl h X ∧ nls Q h X l e L gf bs := fun h s => by
    have c := cfm.of s dN (fun k hk => by unfold crO at hk; unfold rP; omega)
    have e3 := N0.1.2.2.2
    exact ⟨d0.keep c, N0.kp s dN hQ (by unfold rP; omega) (by unfold rP; omega) (by unfold rP; omega) (fun x hx => by have := hQ x hx; unfold rP; omega)⟩
  intro j
  induction j with
  | zero =>
    intro k h o l2 hk s r
    obtain ⟨d, N⟩ := kp h s
    have ez := l_size (g := g) d N
    have : k = L.length := by omega
    subst this
    rw [List.take_length] at r
    refine ⟨h, o, ?_, s, r, rfl, rfl⟩
    rw [e_X10_showList_23]
    simp (decide := true) (disch := omega) only [e_X10_showList_0, e_X10_showList_1, e_X10_showList_4, e_X10_showList_7, e_X10_showList_10, e_X10_showList_12, e_X10_showList_13, e_X10_showList_14, e_X10_showList_17, e_X10_showList_18, e_X10_showList_21, e_X10_showList_22, e_X10_showList_24, e_X10_showList_25, e_X10_showList_28, e_X10_showList_31, e_X10_showList_34, e_X10_showList_35, e_X10_showList_38, e_X10_showList_39, e_X10_showList_42, e_X10_showList_43, e_X10_showList_44, e_X10_showList_47, e_X10_showList_48, e_X10_showList_49, e_X10_showList_52, e_X10_showList_55, e_X10_showList_56, e_X10_showList_59, e_X10_showList_61, e_X10_showList_64, e_X10_showList_67, e_X10_showList_70, e_X10_showList_71, e_X10_showList_74, e_X10_showList_77, ↓reduceIte, if_true, if_false, reduceCtorEq, Nat.reduceAdd, true_and, and_true, false_and, and_false, true_or, or_true, false_or, or_false, not_true_eq_false, not_false_eq_true, Option.bind_eq_bind, Option.bind_some, psh, eq_self, l_0, l_1, l_2, l_3, l_4, l_5, l_6, l_7, l_8, l_9, l_10, l_11, l_12, l_13, l_14, l_15, l_16, l_17, l_18, l_19, l_20, l_24, l_31, l_32, l_33, l_35, l_36, l_48, l_56, l_57, l_58, l_63, l_65, l_80, l_81, l_90, l_91, l_93, l_94, l_95, l_97, l_100, l_105, l_107, l_110, l_111, l_116, l_120, l_121, l_122, l_123, l_124, l_125, l_126, l_162, l_255, l_300, l_400, l_420, l_432, l_1000, l_1400, l_1936, l_2000, l_2100, l_2400, l_24000, m_n1, m_n2, m_n3, nI_mul, nI_add, nI_sub, nI_ltT, nI_ltF, nI_leT, nI_leF, nI_eqT, nI_eqF, nI_nM, nM_nI, nM_eq, nM_lt, nM_le, nI_ltM, nI_leM, nI_inT, nI_dec, pk_rem, nI_ltI, nI_leI, nI_eq, nI_clamp, Nat.add_assoc, q_bv51, Nat.add_left_cancel_iff, clK_0 d, clK_1 d, clK_3 d, clK_5 d, clK_7 d, clK_8 d, clK_9 d, clK_11 d, clK_12 d, clK_13 d, clK_14 d, clK_15 d, clK_16 d, clK_18 d, clK_20 d, clK_21 d, clK_22 d, clK_23 d, clK_24 d, clK_25 d, clK_26 d, clR_0_0 d, clR_1_0 d, clR_2_0 d, clR_3_0 d, clR_7_0 d, clR_8_0 d, clR_9_0 d, clR_10_0 d, clR_11_0 d, clR_0_8 d, clR_0_11 d, clR_1_11 d, clR_2_11 d, clR_0_15 d, clR_1_15 d, clR_2_15 d, clR_3_15 d, clR_4_15 d, clR_5_15 d, clR_0_23 d, clR_1_23 d, clR_0_25 d, clL_7 d, clL_12 d, clL_13 d, clL_14 d, clL_20 d, clL_21 d, clL_22 d, clL_24 d, clS_0 d, clS_1 d, clS_2 d, clS_3 d, ez]
  | succ j ih =>
    intro k h o l2 hk s r
    obtain ⟨d, N⟩ := kp h s
    have ez := l_size (g := g) d N
    have en := l_nameAt (g := g) (k := k) d N (by omega)
    rw [if_pos (by omega)] at en
    obtain ⟨q1, q2⟩ := N.2.1.2 k (by omega)
    have k2 := q2.1
    have hn := s.1
    obtain ⟨h1, e1, r1, s1, n1, u1⟩ := n_writeTo (g := g) q2 r (by have := hQ _ q1; omega) (clS_0 d) (d.S 0 (by decide))
    have ht := lnT_take (L := L) (k := k) (by omega)
    have hle : (lnT (L.take k)).length + ((nz (L.getD k nm0)).length + 1) ≤ 2000 := by
      have h1 := lnT_len (L.take (k + 1))
      have h2 := lnB_take (L := L) (k := k + 1)
      rw [ht] at h1
      simp only [List.length_append, List.length_cons, List.length_nil] at h1
      omega
    have ep : pls (lnT (L.take k)) (nby' (L.getD k nm0).1 (L.getD k nm0).2) 2000 = lnT (L.take k) ++ nz (L.getD k nm0) := by
      show lnT (L.take k) ++ (nz (L.getD k nm0)).take (2000 - (lnT (L.take k)).length) = _
      rw [List.take_of_length_le (l := nz (L.getD k nm0)) (by omega)]
    rw [ep] at r1
    have s1' := s.tr s1
    obtain ⟨d1, N1⟩ := kp h1 s1'
    obtain ⟨h2, e2, r2, s2, n2, u2⟩ := r_put (g := g) (v := nI 10) r1
    rw [if_pos (by simp only [List.length_append]; omega), bt_nI (by omega), List.append_assoc, ← ht] at r2
    obtain ⟨h', o', E, s3, r3, n3, u3⟩ := ih (k + 1) h2 _ (some (va_rf (some (l.getD k 0)))) (by omega) (s1'.tr s2) r2
    refine ⟨h', o', ?_, s3, r3, by omega, by omega⟩
    obtain ⟨d2, N2⟩ := kp h2 (s1'.tr s2)
    rw [← E, e_X10_showList_23]
    simp (decide := true) (disch := omega) only [e_X10_showList_0, e_X10_showList_1, e_X10_showList_4, e_X10_showList_7, e_X10_showList_10, e_X10_showList_12, e_X10_showList_13, e_X10_showList_14, e_X10_showList_17, e_X10_showList_18, e_X10_showList_21, e_X10_showList_22, e_X10_showList_24, e_X10_showList_25, e_X10_showList_28, e_X10_showList_31, e_X10_showList_34, e_X10_showList_35, e_X10_showList_38, e_X10_showList_39, e_X10_showList_42, e_X10_showList_43, e_X10_showList_44, e_X10_showList_47, e_X10_showList_48, e_X10_showList_49, e_X10_showList_52, e_X10_showList_55, e_X10_showList_56, e_X10_showList_59, e_X10_showList_61, e_X10_showList_64, e_X10_showList_67, e_X10_showList_70, e_X10_showList_71, e_X10_showList_74, e_X10_showList_77, ↓reduceIte, if_true, if_false, reduceCtorEq, Nat.reduceAdd, true_and, and_true, false_and, and_false, true_or, or_true, false_or, or_false, not_true_eq_false, not_false_eq_true, Option.bind_eq_bind, Option.bind_some, psh, eq_self, l_0, l_1, l_2, l_3, l_4, l_5, l_6, l_7, l_8, l_9, l_10, l_11, l_12, l_13, l_14, l_15, l_16, l_17, l_18, l_19, l_20, l_24, l_31, l_32, l_33, l_35, l_36, l_48, l_56, l_57, l_58, l_63, l_65, l_80, l_81, l_90, l_91, l_93, l_94, l_95, l_97, l_100, l_105, l_107, l_110, l_111, l_116, l_120, l_121, l_122, l_123, l_124, l_125, l_126, l_162, l_255, l_300, l_400, l_420, l_432, l_1000, l_1400, l_1936, l_2000, l_2100, l_2400, l_24000, m_n1, m_n2, m_n3, nI_mul, nI_add, nI_sub, nI_ltT, nI_ltF, nI_leT, nI_leF, nI_eqT, nI_eqF, nI_nM, nM_nI, nM_eq, nM_lt, nM_le, nI_ltM, nI_leM, nI_inT, nI_dec, pk_rem, nI_ltI, nI_leI, nI_eq, nI_clamp, Nat.add_assoc, q_bv51, Nat.add_left_cancel_iff, clK_0 d, clK_1 d, clK_3 d, clK_5 d, clK_7 d, clK_8 d, clK_9 d, clK_11 d, clK_12 d, clK_13 d, clK_14 d, clK_15 d, clK_16 d, clK_18 d, clK_20 d, clK_21 d, clK_22 d, clK_23 d, clK_24 d, clK_25 d, clK_26 d, clR_0_0 d, clR_1_0 d, clR_2_0 d, clR_3_0 d, clR_7_0 d, clR_8_0 d, clR_9_0 d, clR_10_0 d, clR_11_0 d, clR_0_8 d, clR_0_11 d, clR_1_11 d, clR_2_11 d, clR_0_15 d, clR_1_15 d, clR_2_15 d, clR_3_15 d, clR_4_15 d, clR_5_15 d, clR_0_23 d, clR_1_23 d, clR_0_25 d, clL_7 d, clL_12 d, clL_13 d, clL_14 d, clL_20 d, clL_21 d, clL_22 d, clL_24 d, clS_0 d, clS_1 d, clS_2 d, clS_3 d, ez, en, reduceCtorEq, k2, e1, clK_0 d1, clK_1 d1, clK_3 d1, clK_5 d1, clK_7 d1, clK_8 d1, clK_9 d1, clK_11 d1, clK_12 d1, clK_13 d1, clK_14 d1, clK_15 d1, clK_16 d1, clK_18 d1, clK_20 d1, clK_21 d1, clK_22 d1, clK_23 d1, clK_24 d1, clK_25 d1, clK_26 d1, clR_0_0 d1, clR_1_0 d1, clR_2_0 d1, clR_3_0 d1, clR_7_0 d1, clR_8_0 d1, clR_9_0 d1, clR_10_0 d1, clR_11_0 d1, clR_0_8 d1, clR_0_11 d1, clR_1_11 d1, clR_2_11 d1, clR_0_15 d1, clR_1_15 d1, clR_2_15 d1, clR_3_15 d1, clR_4_15 d1, clR_5_15 d1, clR_0_23 d1, clR_1_23 d1, clR_0_25 d1, clL_7 d1, clL_12 d1, clL_13 d1, clL_14 d1, clL_20 d1, clL_21 d1, clL_22 d1, clL_24 d1, clS_0 d1, clS_1 d1, clS_2 d1, clS_3 d1, e2]
theorem c_showList {gf e bs : Nat} {h : PH} {l : List Nat} {L : List Nm} (I : cIl Q h X tp ou fo hd a w) (N : nls Q h X l e L gf bs) (hb : bs = lnB L) :
    ∃ h', cal g mX10_showList [va_rf (some X)] h = some (some (.int (sLst ou (L, bs)).1), h') ∧ cfm X (cP X) h h' ∧ hN h' = hN h ∧ hU h' = hU h ∧ cI Q h' X tp (sLst ou (L, bs)).2 fo hd a w := by
  have I0 := I.back N.ls
  have d := I.1.1
  have hQ := I.1.2.1
  have et := l_tooLong (g := g) d N
  rw [n_X10_showList]
  unfold sLst
  simp only
  by_cases c : 2000 < bs
  · rw [if_pos c]
    rw [decide_eq_true c, bI_t] at et
    refine ⟨h, ?_, cfm.rf _, rfl, rfl, I0⟩
    simp (decide := true) (disch := omega) only [e_X10_showList_0, e_X10_showList_1, e_X10_showList_4, e_X10_showList_7, e_X10_showList_10, e_X10_showList_12, e_X10_showList_13, e_X10_showList_14, e_X10_showList_17, e_X10_showList_18, e_X10_showList_21, e_X10_showList_22, e_X10_showList_24, e_X10_showList_25, e_X10_showList_28, e_X10_showList_31, e_X10_showList_34, e_X10_showList_35, e_X10_showList_38, e_X10_showList_39, e_X10_showList_42, e_X10_showList_43, e_X10_showList_44, e_X10_showList_47, e_X10_showList_48, e_X10_showList_49, e_X10_showList_52, e_X10_showList_55, e_X10_showList_56, e_X10_showList_59, e_X10_showList_61, e_X10_showList_64, e_X10_showList_67, e_X10_showList_70, e_X10_showList_71, e_X10_showList_74, e_X10_showList_77, ↓reduceIte, if_true, if_false, reduceCtorEq, Nat.reduceAdd, true_and, and_true, false_and, and_false, true_or, or_true, false_or, or_false, not_true_eq_false, not_false_eq_true, Option.bind_eq_bind, Option.bind_some, psh, eq_self, l_0, l_1, l_2, l_3, l_4, l_5, l_6, l_7, l_8, l_9, l_10, l_11, l_12, l_13, l_14, l_15, l_16, l_17, l_18, l_19, l_20, l_24, l_31, l_32, l_33, l_35, l_36, l_48, l_56, l_57, l_58, l_63, l_65, l_80, l_81, l_90, l_91, l_93, l_94, l_95, l_97, l_100, l_105, l_107, l_110, l_111, l_116, l_120, l_121, l_122, l_123, l_124, l_125, l_126, l_162, l_255, l_300, l_400, l_420, l_432, l_1000, l_1400, l_1936, l_2000, l_2100, l_2400, l_24000, m_n1, m_n2, m_n3, nI_mul, nI_add, nI_sub, nI_ltT, nI_ltF, nI_leT, nI_leF, nI_eqT, nI_eqF, nI_nM, nM_nI, nM_eq, nM_lt, nM_le, nI_ltM, nI_leM, nI_inT, nI_dec, pk_rem, nI_ltI, nI_leI, nI_eq, nI_clamp, Nat.add_assoc, q_bv51, Nat.add_left_cancel_iff, clK_0 d, clK_1 d, clK_3 d, clK_5 d, clK_7 d, clK_8 d, clK_9 d, clK_11 d, clK_12 d, clK_13 d, clK_14 d, clK_15 d, clK_16 d, clK_18 d, clK_20 d, clK_21 d, clK_22 d, clK_23 d, clK_24 d, clK_25 d, clK_26 d, clR_0_0 d, clR_1_0 d, clR_2_0 d, clR_3_0 d, clR_7_0 d, clR_8_0 d, clR_9_0 d, clR_10_0 d, clR_11_0 d, clR_0_8 d, clR_0_11 d, clR_1_11 d, clR_2_11 d, clR_0_15 d, clR_1_15 d, clR_2_15 d, clR_3_15 d, clR_4_15 d, clR_5_15 d, clR_0_23 d, clR_1_23 d, clR_0_25 d, clL_7 d, clL_12 d, clL_13 d, clL_14 d, clL_20 d, clL_21 d, clL_22 d, clL_24 d, clS_0 d, clS_1 d, clS_2 d, clS_3 d, et]
  · rw [if_neg c]
    rw [decide_eq_false c, bI_f] at et
    obtain ⟨o2, ro⟩ := I.2.1.2.1
    obtain ⟨h1, e1, r1, s1, n1, u1⟩ := r_cut (g := g) (k := 0) ro (by omega)
    have s1' : sm (rP (X + 3) (X + 4)) h h1 := s1.mono (fun x _ z => Or.inl z)
    rw [List.take_zero] at r1
    obtain ⟨h', o', E, s2, r2, n2, u2⟩ := c_showList_loop (g := g) d hQ N (by omega) L.length 0 h1 _ none (by omega) s1' r1
    obtain ⟨d2, c2, q1, q2, q3⟩ := cO.k1 I0 s2
    obtain ⟨d1, -⟩ := cO.k1 I0 s1'
    obtain ⟨J, sJ⟩ := I0.row c2 rP34 (fun x hx => hx) (fun x hx => Or.inl hx) q1 ⟨_, r2⟩ q2 q3
    refine ⟨h', ?_, sJ, by omega, by omega, J⟩
    rw [← E]
    simp (decide := true) (disch := omega) only [e_X10_showList_0, e_X10_showList_1, e_X10_showList_4, e_X10_showList_7, e_X10_showList_10, e_X10_showList_12, e_X10_showList_13, e_X10_showList_14, e_X10_showList_17, e_X10_showList_18, e_X10_showList_21, e_X10_showList_22, ↓reduceIte, if_true, if_false, reduceCtorEq, Nat.reduceAdd, true_and, and_true, false_and, and_false, true_or, or_true, false_or, or_false, not_true_eq_false, not_false_eq_true, Option.bind_eq_bind, Option.bind_some, psh, eq_self, l_0, l_1, l_2, l_3, l_4, l_5, l_6, l_7, l_8, l_9, l_10, l_11, l_12, l_13, l_14, l_15, l_16, l_17, l_18, l_19, l_20, l_24, l_31, l_32, l_33, l_35, l_36, l_48, l_56, l_57, l_58, l_63, l_65, l_80, l_81, l_90, l_91, l_93, l_94, l_95, l_97, l_100, l_105, l_107, l_110, l_111, l_116, l_120, l_121, l_122, l_123, l_124, l_125, l_126, l_162, l_255, l_300, l_400, l_420, l_432, l_1000, l_1400, l_1936, l_2000, l_2100, l_2400, l_24000, m_n1, m_n2, m_n3, nI_mul, nI_add, nI_sub, nI_ltT, nI_ltF, nI_leT, nI_leF, nI_eqT, nI_eqF, nI_nM, nM_nI, nM_eq, nM_lt, nM_le, nI_ltM, nI_leM, nI_inT, nI_dec, pk_rem, nI_ltI, nI_leI, nI_eq, nI_clamp, Nat.add_assoc, q_bv51, Nat.add_left_cancel_iff, clK_0 d, clK_1 d, clK_3 d, clK_5 d, clK_7 d, clK_8 d, clK_9 d, clK_11 d, clK_12 d, clK_13 d, clK_14 d, clK_15 d, clK_16 d, clK_18 d, clK_20 d, clK_21 d, clK_22 d, clK_23 d, clK_24 d, clK_25 d, clK_26 d, clR_0_0 d, clR_1_0 d, clR_2_0 d, clR_3_0 d, clR_7_0 d, clR_8_0 d, clR_9_0 d, clR_10_0 d, clR_11_0 d, clR_0_8 d, clR_0_11 d, clR_1_11 d, clR_2_11 d, clR_0_15 d, clR_1_15 d, clR_2_15 d, clR_3_15 d, clR_4_15 d, clR_5_15 d, clR_0_23 d, clR_1_23 d, clR_0_25 d, clL_7 d, clL_12 d, clL_13 d, clL_14 d, clL_20 d, clL_21 d, clL_22 d, clL_24 d, clS_0 d, clS_1 d, clS_2 d, clS_3 d, et, e1, clK_0 d1, clK_1 d1, clK_3 d1, clK_5 d1, clK_7 d1, clK_8 d1, clK_9 d1, clK_11 d1, clK_12 d1, clK_13 d1, clK_14 d1, clK_15 d1, clK_16 d1, clK_18 d1, clK_20 d1, clK_21 d1, clK_22 d1, clK_23 d1, clK_24 d1, clK_25 d1, clK_26 d1, clR_0_0 d1, clR_1_0 d1, clR_2_0 d1, clR_3_0 d1, clR_7_0 d1, clR_8_0 d1, clR_9_0 d1, clR_10_0 d1, clR_11_0 d1, clR_0_8 d1, clR_0_11 d1, clR_1_11 d1, clR_2_11 d1, clR_0_15 d1, clR_1_15 d1, clR_2_15 d1, clR_3_15 d1, clR_4_15 d1, clR_5_15 d1, clR_0_23 d1, clR_1_23 d1, clR_0_25 d1, clL_7 d1, clL_12 d1, clL_13 d1, clL_14 d1, clL_20 d1, clL_21 d1, clL_22 d1, clL_24 d1, clS_0 d1, clS_1 d1, clS_2 d1, clS_3 d1]
/-! wanted -/
def cWl (w : Wd) (T : Nat) : Nat → Nat → List Nm × Nat → List Nm × Nat
  | 0, _, S => S
  | m + 1, p, S => cWl w T m (p + 1) (match thr w.2.1 p T with
    | none => S
    | some c => (ptl (ct (w.2.1 c))).foldl (wP w T) S)
theorem c_wanted_loop {T : Nat} (hT : T ≤ w.1) : ∀ m p (h : PH) (l : List Nat) (e : Nat) (S : List Nm × Nat) (l3 : Option Value), p + m = w.2.2.1 → cIl Q h X tp ou fo hd a w → nls Q h X l e S.1 0 S.2 →
    ∃ h' l' e' l3', ev g mX10_wanted 14 [some (va_rf (some X)), some (.int (nI T)), some (.int (nI p)), l3] [] h = ev g mX10_wanted 54 [some (va_rf (some X)), some (.int (nI T)), some (.int (nI w.2.2.1)), l3'] [] h' ∧ lOK X e e' h h' ∧ cIl Q h' X tp ou fo hd a w ∧ nls Q h' X l' e' (cWl w T m p S).1 0 (cWl w T m p S).2 := by
  intro m
  induction m with
  | zero =>
    intro p h l e S l3 hp I N
    have d := I.1.1
    have W := I.1.2.2.1
    have hn := W.1.2.2.2
    have ep := w_pages (g := g) d W
    have : p = w.2.2.1 := by omega
    subst this
    refine ⟨h, l, e, l3, ?_, lOK.rf, I, N⟩
    rw [e_X10_wanted_14]
    simp (decide := true) (disch := omega) only [e_X10_wanted_15, e_X10_wanted_16, e_X10_wanted_19, e_X10_wanted_22, e_X10_wanted_25, e_X10_wanted_26, e_X10_wanted_29, e_X10_wanted_30, e_X10_wanted_31, e_X10_wanted_34, e_X10_wanted_35, e_X10_wanted_36, e_X10_wanted_39, e_X10_wanted_40, e_X10_wanted_41, e_X10_wanted_44, e_X10_wanted_45, e_X10_wanted_48, e_X10_wanted_51, ↓reduceIte, if_true, if_false, reduceCtorEq, Nat.reduceAdd, true_and, and_true, false_and, and_false, true_or, or_true, false_or, or_false, not_true_eq_false, not_false_eq_true, Option.bind_eq_bind, Option.bind_some, psh, eq_self, l_0, l_1, l_2, l_3, l_4, l_5, l_6, l_7, l_8, l_9, l_10, l_11, l_12, l_13, l_14, l_15, l_16, l_17, l_18, l_19, l_20, l_24, l_31, l_32, l_33, l_35, l_36, l_48, l_56, l_57, l_58, l_63, l_65, l_80, l_81, l_90, l_91, l_93, l_94, l_95, l_97, l_100, l_105, l_107, l_110, l_111, l_116, l_120, l_121, l_122, l_123, l_124, l_125, l_126, l_162, l_255, l_300, l_400, l_420, l_432, l_1000, l_1400, l_1936, l_2000, l_2100, l_2400, l_24000, m_n1, m_n2, m_n3, nI_mul, nI_add, nI_sub, nI_ltT, nI_ltF, nI_leT, nI_leF, nI_eqT, nI_eqF, nI_nM, nM_nI, nM_eq, nM_lt, nM_le, nI_ltM, nI_leM, nI_inT, nI_dec, pk_rem, nI_ltI, nI_leI, nI_eq, nI_clamp, Nat.add_assoc, q_bv51, Nat.add_left_cancel_iff, clK_0 d, clK_1 d, clK_3 d, clK_5 d, clK_7 d, clK_8 d, clK_9 d, clK_11 d, clK_12 d, clK_13 d, clK_14 d, clK_15 d, clK_16 d, clK_18 d, clK_20 d, clK_21 d, clK_22 d, clK_23 d, clK_24 d, clK_25 d, clK_26 d, clR_0_0 d, clR_1_0 d, clR_2_0 d, clR_3_0 d, clR_7_0 d, clR_8_0 d, clR_9_0 d, clR_10_0 d, clR_11_0 d, clR_0_8 d, clR_0_11 d, clR_1_11 d, clR_2_11 d, clR_0_15 d, clR_1_15 d, clR_2_15 d, clR_3_15 d, clR_4_15 d, clR_5_15 d, clR_0_23 d, clR_1_23 d, clR_0_25 d, clL_7 d, clL_12 d, clL_13 d, clL_14 d, clL_20 d, clL_21 d, clL_22 d, clL_24 d, clS_0 d, clS_1 d, clS_2 d, clS_3 d, ep]
  | succ m ih =>
    intro p h l e S l3 hp I N
    have d := I.1.1
    have W := I.1.2.2.1
    have hn := W.1.2.2.2
    have ep := w_pages (g := g) d W
    have e2 := N.1.2.2.1
    have et := w_there (g := g) (x := nI p) d W hT
    have aT := adr_thI (x := nI p) W hT
    rw [thI_nI (by omega) (by omega)] at et aT
    rw [cWl]
    cases ec : thr w.2.1 p T with
    | none =>
      rw [ec] at et
      have et' : cal g mX9_there [va_rf (some (X + 11)), .int (nI p), .int (nI T)] h = some (some (va_rf none), h) := et
      simp only
      obtain ⟨h', l', e', l3', E, r⟩ := ih (p + 1) h l e S (some (va_rf none)) (by omega) I N
      refine ⟨h', l', e', l3', ?_, r⟩
      rw [← E, e_X10_wanted_14]
      simp (decide := true) (disch := omega) only [e_X10_wanted_15, e_X10_wanted_16, e_X10_wanted_19, e_X10_wanted_22, e_X10_wanted_25, e_X10_wanted_26, e_X10_wanted_29, e_X10_wanted_30, e_X10_wanted_31, e_X10_wanted_34, e_X10_wanted_35, e_X10_wanted_36, e_X10_wanted_39, e_X10_wanted_40, e_X10_wanted_41, e_X10_wanted_44, e_X10_wanted_45, e_X10_wanted_48, e_X10_wanted_51, ↓reduceIte, if_true, if_false, reduceCtorEq, Nat.reduceAdd, true_and, and_true, false_and, and_false, true_or, or_true, false_or, or_false, not_true_eq_false, not_false_eq_true, Option.bind_eq_bind, Option.bind_some, psh, eq_self, l_0, l_1, l_2, l_3, l_4, l_5, l_6, l_7, l_8, l_9, l_10, l_11, l_12, l_13, l_14, l_15, l_16, l_17, l_18, l_19, l_20, l_24, l_31, l_32, l_33, l_35, l_36, l_48, l_56, l_57, l_58, l_63, l_65, l_80, l_81, l_90, l_91, l_93, l_94, l_95, l_97, l_100, l_105, l_107, l_110, l_111, l_116, l_120, l_121, l_122, l_123, l_124, l_125, l_126, l_162, l_255, l_300, l_400, l_420, l_432, l_1000, l_1400, l_1936, l_2000, l_2100, l_2400, l_24000, m_n1, m_n2, m_n3, nI_mul, nI_add, nI_sub, nI_ltT, nI_ltF, nI_leT, nI_leF, nI_eqT, nI_eqF, nI_nM, nM_nI, nM_eq, nM_lt, nM_le, nI_ltM, nI_leM, nI_inT, nI_dec, pk_rem, nI_ltI, nI_leI, nI_eq, nI_clamp, Nat.add_assoc, q_bv51, Nat.add_left_cancel_iff, clK_0 d, clK_1 d, clK_3 d, clK_5 d, clK_7 d, clK_8 d, clK_9 d, clK_11 d, clK_12 d, clK_13 d, clK_14 d, clK_15 d, clK_16 d, clK_18 d, clK_20 d, clK_21 d, clK_22 d, clK_23 d, clK_24 d, clK_25 d, clK_26 d, clR_0_0 d, clR_1_0 d, clR_2_0 d, clR_3_0 d, clR_7_0 d, clR_8_0 d, clR_9_0 d, clR_10_0 d, clR_11_0 d, clR_0_8 d, clR_0_11 d, clR_1_11 d, clR_2_11 d, clR_0_15 d, clR_1_15 d, clR_2_15 d, clR_3_15 d, clR_4_15 d, clR_5_15 d, clR_0_23 d, clR_1_23 d, clR_0_25 d, clL_7 d, clL_12 d, clL_13 d, clL_14 d, clL_20 d, clL_21 d, clL_22 d, clL_24 d, clS_0 d, clS_1 d, clS_2 d, clS_3 d, ep, et']
    | some c =>
      rw [ec] at et aT
      obtain ⟨v, b1, ⟨⟨-, k0, -⟩, ⟨tb, t1, Tx⟩, -⟩, -⟩ := aT
      rw [b1] at et
      simp only
      obtain ⟨h1, l1, e1, E1, o1, I1, N1⟩ := c_addWanted (g := g) hT I N Tx
      obtain ⟨h', l', e', l3', E, r1, r2⟩ := ih (p + 1) h1 l1 e1 _ (some (va_rf (some v))) (by omega) I1 N1
      refine ⟨h', l', e', l3', ?_, o1.tr r1 e2, r2⟩
      rw [← E, e_X10_wanted_14]
      simp (decide := true) (disch := omega) only [e_X10_wanted_15, e_X10_wanted_16, e_X10_wanted_19, e_X10_wanted_22, e_X10_wanted_25, e_X10_wanted_26, e_X10_wanted_29, e_X10_wanted_30, e_X10_wanted_31, e_X10_wanted_34, e_X10_wanted_35, e_X10_wanted_36, e_X10_wanted_39, e_X10_wanted_40, e_X10_wanted_41, e_X10_wanted_44, e_X10_wanted_45, e_X10_wanted_48, e_X10_wanted_51, ↓reduceIte, if_true, if_false, reduceCtorEq, Nat.reduceAdd, true_and, and_true, false_and, and_false, true_or, or_true, false_or, or_false, not_true_eq_false, not_false_eq_true, Option.bind_eq_bind, Option.bind_some, psh, eq_self, l_0, l_1, l_2, l_3, l_4, l_5, l_6, l_7, l_8, l_9, l_10, l_11, l_12, l_13, l_14, l_15, l_16, l_17, l_18, l_19, l_20, l_24, l_31, l_32, l_33, l_35, l_36, l_48, l_56, l_57, l_58, l_63, l_65, l_80, l_81, l_90, l_91, l_93, l_94, l_95, l_97, l_100, l_105, l_107, l_110, l_111, l_116, l_120, l_121, l_122, l_123, l_124, l_125, l_126, l_162, l_255, l_300, l_400, l_420, l_432, l_1000, l_1400, l_1936, l_2000, l_2100, l_2400, l_24000, m_n1, m_n2, m_n3, nI_mul, nI_add, nI_sub, nI_ltT, nI_ltF, nI_leT, nI_leF, nI_eqT, nI_eqF, nI_nM, nM_nI, nM_eq, nM_lt, nM_le, nI_ltM, nI_leM, nI_inT, nI_dec, pk_rem, nI_ltI, nI_leI, nI_eq, nI_clamp, Nat.add_assoc, q_bv51, Nat.add_left_cancel_iff, clK_0 d, clK_1 d, clK_3 d, clK_5 d, clK_7 d, clK_8 d, clK_9 d, clK_11 d, clK_12 d, clK_13 d, clK_14 d, clK_15 d, clK_16 d, clK_18 d, clK_20 d, clK_21 d, clK_22 d, clK_23 d, clK_24 d, clK_25 d, clK_26 d, clR_0_0 d, clR_1_0 d, clR_2_0 d, clR_3_0 d, clR_7_0 d, clR_8_0 d, clR_9_0 d, clR_10_0 d, clR_11_0 d, clR_0_8 d, clR_0_11 d, clR_1_11 d, clR_2_11 d, clR_0_15 d, clR_1_15 d, clR_2_15 d, clR_3_15 d, clR_4_15 d, clR_5_15 d, clR_0_23 d, clR_1_23 d, clR_0_25 d, clL_7 d, clL_12 d, clL_13 d, clL_14 d, clL_20 d, clL_21 d, clL_22 d, clL_24 d, clS_0 d, clS_1 d, clS_2 d, clS_3 d, ep, et, reduceCtorEq, k0, t1, E1]
/-! within -/
def cKn (w : Wd) (T gf : Nat) : Nat → Nat → List Nm × Nat → List Nm × Nat
  | 0, _, S => S
  | m + 1, k, S => cKn w T gf m (k + 1) (cK1 w T gf S (S.1.getD k nm0))
def cWr (w : Wd) (T : Nat) : Nat → Nat → List Nm × Nat → List Nm × Nat
  | 0, _, S => S
  | j + 1, k, S => if k < S.1.length then cWr w T j S.1.length (cKn w T S.1.length (S.1.length - k) k S) else S
theorem cAd_len {gf : Nat} {S : List Nm × Nat} {q : Nm} : S.1.length ≤ (cAd gf S q).1.length := by
  unfold cAd
  split
  · exact Nat.le_refl _
  · split
    · exact Nat.le_refl _
    · simp only [List.length_append, List.length_take, List.length_cons, List.length_drop]
      omega
theorem kPs_len {gf : Nat} : ∀ {es : List Pt} {S : List Nm × Nat}, S.1.length ≤ (es.foldl (kP gf) S).1.length
  | [], _ => Nat.le_refl _
  | e :: es, S => by
    rw [List.foldl_cons]
    refine Nat.le_trans ?_ (kPs_len (es := es))
    unfold kP
    split
    · exact Nat.le_refl _
    · split
      · exact cAd_len
      · exact Nat.le_refl _
theorem cK1_len {w : Wd} {T gf : Nat} {S : List Nm × Nat} {q : Nm} : S.1.length ≤ (cK1 w T gf S q).1.length := by
  unfold cK1
  split
  · exact Nat.le_refl _
  · exact kPs_len
theorem c_within_in {T gf to : Nat} {l1 l3 l4 l5 : Option Value} (hT : T ≤ w.1) : ∀ m k (h : PH) (l : List Nat) (e : Nat) (S : List Nm × Nat), k + m = to → to ≤ S.1.length → cIl Q h X tp ou fo hd a w → nls Q h X l e S.1 gf S.2 →
    ∃ h' l' e', ev g mX10_within 84 [some (va_rf (some X)), l1, some (.int (nI T)), l3, l4, l5, some (.int (nI to)), some (.int (nI k))] [] h = ev g mX10_within 111 [some (va_rf (some X)), l1, some (.int (nI T)), l3, l4, l5, some (.int (nI to)), some (.int (nI to))] [] h' ∧ lOK X e e' h h' ∧ cIl Q h' X tp ou fo hd a w ∧ nls Q h' X l' e' (cKn w T gf m k S).1 gf (cKn w T gf m k S).2 := by
  intro m
  induction m with
  | zero =>
    intro k h l e S hk hto I N
    have b1 := N.2.2.2.2
    have : k = to := by omega
    subst this
    refine ⟨h, l, e, ?_, lOK.rf, I, N⟩
    rw [e_X10_within_84]
    simp (decide := true) (disch := omega) only [e_X10_within_86, e_X10_within_88, e_X10_within_91, e_X10_within_92, e_X10_within_93, e_X10_within_96, e_X10_within_98, e_X10_within_101, e_X10_within_102, e_X10_within_105, e_X10_within_108, ↓reduceIte, if_true, if_false, reduceCtorEq, Nat.reduceAdd, true_and, and_true, false_and, and_false, true_or, or_true, false_or, or_false, not_true_eq_false, not_false_eq_true, Option.bind_eq_bind, Option.bind_some, psh, eq_self, l_0, l_1, l_2, l_3, l_4, l_5, l_6, l_7, l_8, l_9, l_10, l_11, l_12, l_13, l_14, l_15, l_16, l_17, l_18, l_19, l_20, l_24, l_31, l_32, l_33, l_35, l_36, l_48, l_56, l_57, l_58, l_63, l_65, l_80, l_81, l_90, l_91, l_93, l_94, l_95, l_97, l_100, l_105, l_107, l_110, l_111, l_116, l_120, l_121, l_122, l_123, l_124, l_125, l_126, l_162, l_255, l_300, l_400, l_420, l_432, l_1000, l_1400, l_1936, l_2000, l_2100, l_2400, l_24000, m_n1, m_n2, m_n3, nI_mul, nI_add, nI_sub, nI_ltT, nI_ltF, nI_leT, nI_leF, nI_eqT, nI_eqF, nI_nM, nM_nI, nM_eq, nM_lt, nM_le, nI_ltM, nI_leM, nI_inT, nI_dec, pk_rem, nI_ltI, nI_leI, nI_eq, nI_clamp, Nat.add_assoc, q_bv51, Nat.add_left_cancel_iff]
  | succ m ih =>
    intro k h l e S hk hto I N
    have b1 := N.2.2.2.2
    have d := I.1.1
    have e2 := N.1.2.2.1
    have en := l_nameAt (g := g) (k := k) d N (by omega)
    rw [if_pos (by omega)] at en
    obtain ⟨q1, q2⟩ := N.2.1.2 k (by omega)
    rw [cKn]
    obtain ⟨h1, l1', e1, E1, o1, I1, N1⟩ := c_addKindsOf (g := g) hT I N q2
    obtain ⟨h', l', e', E, r1, r2⟩ := ih (k + 1) h1 l1' e1 (cK1 w T gf S (S.1.getD k nm0)) (by omega) (Nat.le_trans hto cK1_len) I1 N1
    refine ⟨h', l', e', ?_, o1.tr r1 e2, r2⟩
    rw [← E, e_X10_within_84]
    simp (decide := true) (disch := omega) only [e_X10_within_86, e_X10_within_88, e_X10_within_91, e_X10_within_92, e_X10_within_93, e_X10_within_96, e_X10_within_98, e_X10_within_101, e_X10_within_102, e_X10_within_105, e_X10_within_108, ↓reduceIte, if_true, if_false, reduceCtorEq, Nat.reduceAdd, true_and, and_true, false_and, and_false, true_or, or_true, false_or, or_false, not_true_eq_false, not_false_eq_true, Option.bind_eq_bind, Option.bind_some, psh, eq_self, l_0, l_1, l_2, l_3, l_4, l_5, l_6, l_7, l_8, l_9, l_10, l_11, l_12, l_13, l_14, l_15, l_16, l_17, l_18, l_19, l_20, l_24, l_31, l_32, l_33, l_35, l_36, l_48, l_56, l_57, l_58, l_63, l_65, l_80, l_81, l_90, l_91, l_93, l_94, l_95, l_97, l_100, l_105, l_107, l_110, l_111, l_116, l_120, l_121, l_122, l_123, l_124, l_125, l_126, l_162, l_255, l_300, l_400, l_420, l_432, l_1000, l_1400, l_1936, l_2000, l_2100, l_2400, l_24000, m_n1, m_n2, m_n3, nI_mul, nI_add, nI_sub, nI_ltT, nI_ltF, nI_leT, nI_leF, nI_eqT, nI_eqF, nI_nM, nM_nI, nM_eq, nM_lt, nM_le, nI_ltM, nI_leM, nI_inT, nI_dec, pk_rem, nI_ltI, nI_leI, nI_eq, nI_clamp, Nat.add_assoc, q_bv51, Nat.add_left_cancel_iff, clK_0 d, clK_1 d, clK_3 d, clK_5 d, clK_7 d, clK_8 d, clK_9 d, clK_11 d, clK_12 d, clK_13 d, clK_14 d, clK_15 d, clK_16 d, clK_18 d, clK_20 d, clK_21 d, clK_22 d, clK_23 d, clK_24 d, clK_25 d, clK_26 d, clR_0_0 d, clR_1_0 d, clR_2_0 d, clR_3_0 d, clR_7_0 d, clR_8_0 d, clR_9_0 d, clR_10_0 d, clR_11_0 d, clR_0_8 d, clR_0_11 d, clR_1_11 d, clR_2_11 d, clR_0_15 d, clR_1_15 d, clR_2_15 d, clR_3_15 d, clR_4_15 d, clR_5_15 d, clR_0_23 d, clR_1_23 d, clR_0_25 d, clL_7 d, clL_12 d, clL_13 d, clL_14 d, clL_20 d, clL_21 d, clL_22 d, clL_24 d, clS_0 d, clS_1 d, clS_2 d, clS_3 d, en, E1]
theorem c_within_out {T : Nat} {l1 l3 : Option Value} (hT : T ≤ w.1) : ∀ j s k (h : PH) (l : List Nat) (e gf : Nat) (S : List Nm × Nat) (l6 l7 : Option Value), s + j = 16 → k ≤ S.1.length → cIl Q h X tp ou fo hd a w → nls Q h X l e S.1 gf S.2 →
    ∃ h' l' e' gf' l4' l5' l6' l7', ev g mX10_within 45 [some (va_rf (some X)), l1, some (.int (nI T)), l3, some (.int (nI k)), some (.int (nI s)), l6, l7] [] h = ev g mX10_within 121 [some (va_rf (some X)), l1, some (.int (nI T)), l3, l4', l5', l6', l7'] [] h' ∧ lOK X e e' h h' ∧ cIl Q h' X tp ou fo hd a w ∧ nls Q h' X l' e' (cWr w T j k S).1 gf' (cWr w T j k S).2 := by
  intro j
  induction j with
  | zero =>
    intro s k h l e gf S l6 l7 hs hk I N
    have : s = 16 := by omega
    subst this
    refine ⟨h, l, e, gf, some (.int (nI k)), some (.int (nI 16)), l6, l7, ?_, lOK.rf, I, N⟩
    rw [e_X10_within_45]
    simp (decide := true) (disch := omega) only [e_X10_within_47, e_X10_within_49, e_X10_within_52, e_X10_within_54, e_X10_within_55, e_X10_within_58, e_X10_within_61, e_X10_within_64, e_X10_within_65, e_X10_within_68, e_X10_within_71, e_X10_within_73, e_X10_within_74, e_X10_within_77, e_X10_within_80, e_X10_within_82, ↓reduceIte, if_true, if_false, reduceCtorEq, Nat.reduceAdd, true_and, and_true, false_and, and_false, true_or, or_true, false_or, or_false, not_true_eq_false, not_false_eq_true, Option.bind_eq_bind, Option.bind_some, psh, eq_self, l_0, l_1, l_2, l_3, l_4, l_5, l_6, l_7, l_8, l_9, l_10, l_11, l_12, l_13, l_14, l_15, l_16, l_17, l_18, l_19, l_20, l_24, l_31, l_32, l_33, l_35, l_36, l_48, l_56, l_57, l_58, l_63, l_65, l_80, l_81, l_90, l_91, l_93, l_94, l_95, l_97, l_100, l_105, l_107, l_110, l_111, l_116, l_120, l_121, l_122, l_123, l_124, l_125, l_126, l_162, l_255, l_300, l_400, l_420, l_432, l_1000, l_1400, l_1936, l_2000, l_2100, l_2400, l_24000, m_n1, m_n2, m_n3, nI_mul, nI_add, nI_sub, nI_ltT, nI_ltF, nI_leT, nI_leF, nI_eqT, nI_eqF, nI_nM, nM_nI, nM_eq, nM_lt, nM_le, nI_ltM, nI_leM, nI_inT, nI_dec, pk_rem, nI_ltI, nI_leI, nI_eq, nI_clamp, Nat.add_assoc, q_bv51, Nat.add_left_cancel_iff]
  | succ j ih =>
    intro s k h l e gf S l6 l7 hs hk I N
    have b1 := N.2.2.2.2
    have d := I.1.1
    have e2 := N.1.2.2.1
    have ez := l_size (g := g) d N
    rw [cWr]
    by_cases c : k < S.1.length
    · rw [if_pos c]
      obtain ⟨h1, E1, o1, I1, N1⟩ := l_closeGroup (g := g) I N
      obtain ⟨h2, l2, e2', E2, o2, I2, N2⟩ := c_within_in (g := g) (l1 := l1) (l3 := l3) (l4 := some (.int (nI k))) (l5 := some (.int (nI s))) hT (S.1.length - k) k h1 l e S (to := S.1.length) (by omega) (Nat.le_refl _) I1 N1
      have hlen : S.1.length ≤ (cKn w T S.1.length (S.1.length - k) k S).1.length := by
        have : ∀ m k (S : List Nm × Nat) gf, S.1.length ≤ (cKn w T gf m k S).1.length := by
          intro m
          induction m with
          | zero => intro k S gf; exact Nat.le_refl _
          | succ m ih => intro k S gf; rw [cKn]; exact Nat.le_trans cK1_len (ih _ _ _)
        exact this _ _ _ _
      have o12 := o1.tr o2 e2
      have e22 := N2.1.2.2.1
      obtain ⟨h', l', e', gf', a4, a5, a6, a7, E, r1, r2⟩ := ih (s + 1) S.1.length h2 l2 e2' S.1.length _ (some (.int (nI S.1.length))) (some (.int (nI S.1.length))) (by omega) hlen I2 N2
      refine ⟨h', l', e', gf', a4, a5, a6, a7, ?_, o12.tr r1 e2, r2⟩
      rw [← E, e_X10_within_45]
      simp (decide := true) (disch := omega) only [e_X10_within_47, e_X10_within_49, e_X10_within_52, e_X10_within_54, e_X10_within_55, e_X10_within_58, e_X10_within_61, e_X10_within_64, e_X10_within_65, e_X10_within_68, e_X10_within_71, e_X10_within_73, e_X10_within_74, e_X10_within_77, e_X10_within_80, e_X10_within_82, ↓reduceIte, if_true, if_false, reduceCtorEq, Nat.reduceAdd, true_and, and_true, false_and, and_false, true_or, or_true, false_or, or_false, not_true_eq_false, not_false_eq_true, Option.bind_eq_bind, Option.bind_some, psh, eq_self, l_0, l_1, l_2, l_3, l_4, l_5, l_6, l_7, l_8, l_9, l_10, l_11, l_12, l_13, l_14, l_15, l_16, l_17, l_18, l_19, l_20, l_24, l_31, l_32, l_33, l_35, l_36, l_48, l_56, l_57, l_58, l_63, l_65, l_80, l_81, l_90, l_91, l_93, l_94, l_95, l_97, l_100, l_105, l_107, l_110, l_111, l_116, l_120, l_121, l_122, l_123, l_124, l_125, l_126, l_162, l_255, l_300, l_400, l_420, l_432, l_1000, l_1400, l_1936, l_2000, l_2100, l_2400, l_24000, m_n1, m_n2, m_n3, nI_mul, nI_add, nI_sub, nI_ltT, nI_ltF, nI_leT, nI_leF, nI_eqT, nI_eqF, nI_nM, nM_nI, nM_eq, nM_lt, nM_le, nI_ltM, nI_leM, nI_inT, nI_dec, pk_rem, nI_ltI, nI_leI, nI_eq, nI_clamp, Nat.add_assoc, q_bv51, Nat.add_left_cancel_iff, clK_0 d, clK_1 d, clK_3 d, clK_5 d, clK_7 d, clK_8 d, clK_9 d, clK_11 d, clK_12 d, clK_13 d, clK_14 d, clK_15 d, clK_16 d, clK_18 d, clK_20 d, clK_21 d, clK_22 d, clK_23 d, clK_24 d, clK_25 d, clK_26 d, clR_0_0 d, clR_1_0 d, clR_2_0 d, clR_3_0 d, clR_7_0 d, clR_8_0 d, clR_9_0 d, clR_10_0 d, clR_11_0 d, clR_0_8 d, clR_0_11 d, clR_1_11 d, clR_2_11 d, clR_0_15 d, clR_1_15 d, clR_2_15 d, clR_3_15 d, clR_4_15 d, clR_5_15 d, clR_0_23 d, clR_1_23 d, clR_0_25 d, clL_7 d, clL_12 d, clL_13 d, clL_14 d, clL_20 d, clL_21 d, clL_22 d, clL_24 d, clS_0 d, clS_1 d, clS_2 d, clS_3 d, ez, E1]
      rw [E2]
      simp (decide := true) (disch := omega) only [e_X10_within_111, e_X10_within_113, e_X10_within_115, e_X10_within_118, ↓reduceIte, if_true, if_false, reduceCtorEq, Nat.reduceAdd, true_and, and_true, false_and, and_false, true_or, or_true, false_or, or_false, not_true_eq_false, not_false_eq_true, Option.bind_eq_bind, Option.bind_some, psh, eq_self, l_0, l_1, l_2, l_3, l_4, l_5, l_6, l_7, l_8, l_9, l_10, l_11, l_12, l_13, l_14, l_15, l_16, l_17, l_18, l_19, l_20, l_24, l_31, l_32, l_33, l_35, l_36, l_48, l_56, l_57, l_58, l_63, l_65, l_80, l_81, l_90, l_91, l_93, l_94, l_95, l_97, l_100, l_105, l_107, l_110, l_111, l_116, l_120, l_121, l_122, l_123, l_124, l_125, l_126, l_162, l_255, l_300, l_400, l_420, l_432, l_1000, l_1400, l_1936, l_2000, l_2100, l_2400, l_24000, m_n1, m_n2, m_n3, nI_mul, nI_add, nI_sub, nI_ltT, nI_ltF, nI_leT, nI_leF, nI_eqT, nI_eqF, nI_nM, nM_nI, nM_eq, nM_lt, nM_le, nI_ltM, nI_leM, nI_inT, nI_dec, pk_rem, nI_ltI, nI_leI, nI_eq, nI_clamp, Nat.add_assoc, q_bv51, Nat.add_left_cancel_iff]
    · rw [if_neg c]
      have : k = S.1.length := by omega
      refine ⟨h, l, e, gf, some (.int (nI k)), some (.int (nI s)), l6, l7, ?_, lOK.rf, I, N⟩
      rw [e_X10_within_45]
      simp (decide := true) (disch := omega) only [e_X10_within_47, e_X10_within_49, e_X10_within_52, e_X10_within_54, e_X10_within_55, e_X10_within_58, e_X10_within_61, e_X10_within_64, e_X10_within_65, e_X10_within_68, e_X10_within_71, e_X10_within_73, e_X10_within_74, e_X10_within_77, e_X10_within_80, e_X10_within_82, ↓reduceIte, if_true, if_false, reduceCtorEq, Nat.reduceAdd, true_and, and_true, false_and, and_false, true_or, or_true, false_or, or_false, not_true_eq_false, not_false_eq_true, Option.bind_eq_bind, Option.bind_some, psh, eq_self, l_0, l_1, l_2, l_3, l_4, l_5, l_6, l_7, l_8, l_9, l_10, l_11, l_12, l_13, l_14, l_15, l_16, l_17, l_18, l_19, l_20, l_24, l_31, l_32, l_33, l_35, l_36, l_48, l_56, l_57, l_58, l_63, l_65, l_80, l_81, l_90, l_91, l_93, l_94, l_95, l_97, l_100, l_105, l_107, l_110, l_111, l_116, l_120, l_121, l_122, l_123, l_124, l_125, l_126, l_162, l_255, l_300, l_400, l_420, l_432, l_1000, l_1400, l_1936, l_2000, l_2100, l_2400, l_24000, m_n1, m_n2, m_n3, nI_mul, nI_add, nI_sub, nI_ltT, nI_ltF, nI_leT, nI_leF, nI_eqT, nI_eqF, nI_nM, nM_nI, nM_eq, nM_lt, nM_le, nI_ltM, nI_leM, nI_inT, nI_dec, pk_rem, nI_ltI, nI_leI, nI_eq, nI_clamp, Nat.add_assoc, q_bv51, Nat.add_left_cancel_iff, clK_0 d, clK_1 d, clK_3 d, clK_5 d, clK_7 d, clK_8 d, clK_9 d, clK_11 d, clK_12 d, clK_13 d, clK_14 d, clK_15 d, clK_16 d, clK_18 d, clK_20 d, clK_21 d, clK_22 d, clK_23 d, clK_24 d, clK_25 d, clK_26 d, clR_0_0 d, clR_1_0 d, clR_2_0 d, clR_3_0 d, clR_7_0 d, clR_8_0 d, clR_9_0 d, clR_10_0 d, clR_11_0 d, clR_0_8 d, clR_0_11 d, clR_1_11 d, clR_2_11 d, clR_0_15 d, clR_1_15 d, clR_2_15 d, clR_3_15 d, clR_4_15 d, clR_5_15 d, clR_0_23 d, clR_1_23 d, clR_0_25 d, clL_7 d, clL_12 d, clL_13 d, clL_14 d, clL_20 d, clL_21 d, clL_22 d, clL_24 d, clS_0 d, clS_1 d, clS_2 d, clS_3 d, ez]
end
