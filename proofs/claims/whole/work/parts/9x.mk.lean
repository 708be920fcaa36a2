/-! PageWeb$Maker: fillWords, begin; the state of a making -/
def kS (Q : Nat → Prop) (h : PH) (X T wb cap bd : Nat) (wl pl : List Nat) (st : St) : Prop := kW Q h X wb cap bd wl (nI 0) ∧ (hI h 6 (X + 15) = nI T ∧ ∀ p, p < 16 → hA h (X + 22) p = bI (decide (p ∈ pl))) ∧ match st with
  | none => (∃ l o, rw_ h (X + 16) (X + 17) 2000 2000 l o) ∧ hI h 8 (X + 15) = nI 1
  | some (acc, sh) => rw_ h (X + 16) (X + 17) 2000 2000 acc (nI 0) ∧ hI h 7 (X + 15) = nI sh ∧ hI h 8 (X + 15) = nI 0 ∧ sh ≤ 400
section
variable {g X : Nat} {Q : Nat → Prop} {h : PH} {tp ou fo : List Nat} {hd : Option Nm} {a : Option Nat} {w : Wd}
theorem k_fillWords {dp ra rb' v wb cap bd : Nat} {t wl : List Nat} {ws : List (List Nat)} {E0 : Nat → Nat} {e : Pt} (hdp : dp < 7) (ht : t.length ≤ 300) (hra : Q ra) (hrb : Q rb') (hwl : wl.length ≤ 18000 * dp) (I : cIk Q h X tp ou fo hd a w) (K : kW Q h X wb cap bd wl (nI 0)) (rt : rw_ h ra rb' t.length t.length t 0) (W0 : wSt h X dp ws E0 wl) (h8 : hI h 8 (X + 15) = nI 0) (p1 : pt1 Q h v e) (he : e ∈ ptl t) (he1 : e.1 = 1) :
    ∃ h' wb' cap', cal g mX1_fillWords [va_rf (some (X + 15)), va_rf (some ra), va_rf (some v), .int (nI dp)] h = some (none, h') ∧ fOK X wb cap wb' cap' h h' ∧ eK X (dp + 1) h h' ∧ (∀ k, k ≠ 8 → hI h' k (X + 15) = hI h k (X + 15)) ∧ fwR Q h' X (dp + 1) wb' cap' wl (wdf ws (wds t (e.2.2.1 - 2) 300 e.2.2.2.1)) ∧ (wds t (e.2.2.1 - 2) 300 e.2.2.2.1).length ≤ 9 := by
  have d := I.1.1
  have dN := d.1
  have hQ := I.1.2.1
  have sr := ptl_sort he
  obtain ⟨x4, s, j, b, q, et, e2⟩ := sr.2.2.2.2.1 (by omega)
  have tl := tok_len et
  have ej : e.2.2.1 = j + 2 := by rw [e2]
  have eb : e.2.2.2.1 = b := by rw [e2]
  have es : e.1 = s - 1 := by rw [e2]
  have hs : s = 2 := by omega
  subst hs
  have bars := tok_bars et
  have w9 : (wds t j 300 b).length ≤ 9 := Nat.le_trans (wds_len (by omega) bars.2) bars.1
  have ei := p_insideEnd (g := g) p1 sr.1 (by omega) (fun _ => by omega)
  rw [if_neg (by omega), ej, show j + 2 - 2 = j by omega] at ei
  have i3 := p1.1.2.2.2.2.2
  have k4 := p1.1.2.1
  rw [eb] at i3
  rw [ej, eb, show j + 2 - 2 = j by omega]
  obtain ⟨rK, k1, k2, k3, k5⟩ := K
  have ese := k_setEdge (g := g) (lv := dp + 1) (k := 0) d rK (by omega) (by omega)
  have c1 : cfm X (fF X wb) h (pA h (X + 20) (upd (hA h (X + 20)) ((dp + 1) * 10 + 0) (nI wl.length))) := cfm.pA _ _ (Or.inr (Or.inr (Or.inl rfl)))
  have s1 : sm (fun x => x = X + 20) h (pA h (X + 20) (upd (hA h (X + 20)) ((dp + 1) * 10 + 0) (nI wl.length))) := sm.A1 _ _
  have I1 := I.kp ⟨rK, k1, k2, k3, k5⟩ (c1.mono (fun x _ z => by unfold fF at z; unfold kF'; omega))
  have ek1 : eK X (dp + 1) h (pA h (X + 20) (upd (hA h (X + 20)) ((dp + 1) * 10 + 0) (nI wl.length))) := eK_20 (by omega)
  have ra1 := hQ ra hra
  have rb1 := hQ rb' hrb
  obtain ⟨h', wb', cap', E1, v1, v2, v3, v4⟩ := k_fw_loop (g := g) (X := X) (l2 := some (va_rf (some v))) hdp (show j ≤ t.length by omega) ht hra hrb hwl 400 (b + 1) (b + 1) _ wb cap bd [] [] (fun _ => wl.length) (by omega) (Nat.le_refl _) (by omega) (by rw [rmw_0 (by omega), List.length_nil]; omega) I1 (by rw [List.append_nil]; exact ⟨rK.keep s1 (by omega) k2 (by omega) (by omega), k1, k2, k3, k5⟩) (by simp) (rt.keep s1 ra1.2 rb1.2 (by omega) (by omega)) (W0.kp ek1 (by omega)) (by
    rw [List.append_nil]
    refine ⟨fun k hk => ?_, fun k hk => absurd hk (Nat.not_lt_zero _), rfl⟩
    have : k = 0 := by simpa using hk
    subst this
    rw [u_AA, if_pos rfl]
    exact upd_at) h8
  rw [rmw_0 (by omega)] at v4
  refine ⟨h', wb', cap', ?_, (fOK.of c1 rfl rfl).tr v1, ek1.tr v2, fun k hk => (v3 k hk).trans rfl, ?_, w9⟩
  · rw [n_X1_fillWords, ← E1]
    simp (decide := true) (disch := omega) only [e_X1_fillWords_0, e_X1_fillWords_1, e_X1_fillWords_4, e_X1_fillWords_6, e_X1_fillWords_7, e_X1_fillWords_10, e_X1_fillWords_11, e_X1_fillWords_12, e_X1_fillWords_14, e_X1_fillWords_15, e_X1_fillWords_17, e_X1_fillWords_18, e_X1_fillWords_19, e_X1_fillWords_20, e_X1_fillWords_21, e_X1_fillWords_22, e_X1_fillWords_25, e_X1_fillWords_27, ↓reduceIte, if_true, if_false, reduceCtorEq, Nat.reduceAdd, true_and, and_true, false_and, and_false, true_or, or_true, false_or, or_false, not_true_eq_false, not_false_eq_true, Option.bind_eq_bind, Option.bind_some, psh, eq_self, l_0, l_1, l_2, l_3, l_4, l_5, l_6, l_7, l_8, l_9, l_10, l_11, l_12, l_13, l_14, l_15, l_16, l_17, l_18, l_19, l_20, l_24, l_31, l_32, l_33, l_35, l_36, l_48, l_56, l_57, l_58, l_63, l_65, l_80, l_81, l_90, l_91, l_93, l_94, l_95, l_97, l_100, l_105, l_107, l_110, l_111, l_116, l_120, l_121, l_122, l_123, l_124, l_125, l_126, l_162, l_255, l_300, l_400, l_420, l_432, l_1000, l_1400, l_1936, l_2000, l_2100, l_2400, l_24000, m_n1, m_n2, m_n3, nI_mul, nI_add, nI_sub, nI_ltT, nI_ltF, nI_leT, nI_leF, nI_eqT, nI_eqF, nI_nM, nM_nI, nM_eq, nM_lt, nM_le, nI_ltM, nI_leM, nI_inT, nI_dec, pk_rem, nI_ltI, nI_leI, nI_eq, nI_clamp, Nat.add_assoc, q_bv51, Nat.add_left_cancel_iff, ei, k4, i3, clK_0 d, clK_1 d, clK_3 d, clK_5 d, clK_7 d, clK_8 d, clK_9 d, clK_11 d, clK_12 d, clK_13 d, clK_14 d, clK_15 d, clK_16 d, clK_18 d, clK_20 d, clK_21 d, clK_22 d, clK_23 d, clK_24 d, clK_25 d, clK_26 d, clR_0_0 d, clR_1_0 d, clR_2_0 d, clR_3_0 d, clR_7_0 d, clR_8_0 d, clR_9_0 d, clR_10_0 d, clR_11_0 d, clR_0_8 d, clR_0_11 d, clR_1_11 d, clR_2_11 d, clR_0_15 d, clR_1_15 d, clR_2_15 d, clR_3_15 d, clR_4_15 d, clR_5_15 d, clR_0_23 d, clR_1_23 d, clR_0_25 d, clL_7 d, clL_12 d, clL_13 d, clL_14 d, clL_20 d, clL_21 d, clL_22 d, clL_24 d, clS_0 d, clS_1 d, clS_2 d, clS_3 d, ese, List.length_nil]
  · cases er : wdf ws (wds t j 300 b) with
    | none => rw [er] at v4; exact v4
    | some r => rw [er] at v4; exact v4
theorem k_begin {T : Nat} (I : cI Q h X tp ou fo hd a w) :
    ∃ h' wb cap bd, cal g mX1_begin [va_rf (some (X + 15)), .int (nI T)] h = some (none, h') ∧ (∃ cap0 bd0 l0 o0, kW Q h X wb cap0 bd0 l0 o0 ∧ mOK X wb cap wb cap h h' ∧ cap0 = cap) ∧ cIk Q h' X tp ou fo hd a w ∧ kS Q h' X T wb cap bd [] [] (some ([], 0)) ∧ ∃ E, wSt h' X 0 [] E [] := by
  obtain ⟨Ik, ⟨lm, om, rm⟩, wb, cap, bd, l2, o2, r2, r3, r4, r5, r6⟩ := I.outK
  have d := I.1.1
  have dN := d.1
  have K0 : kW Q h X wb cap bd l2 o2 := ⟨r2, r3, r4, r5, r6⟩
  -- the fields
  have cA : cfm X (fun x => x = X + 15) h (pI (pI (pI h 6 (X + 15) (nI T)) 7 (X + 15) (nI 0)) 8 (X + 15) (nI 0)) := ((cfm.pI (P := fun x => x = X + 15) _ _ rfl).tr (cfm.pI (P := fun x => x = X + 15) _ _ rfl)).tr (cfm.pI (P := fun x => x = X + 15) _ _ rfl)
  have hA0 : ∃ hA', hA' = pI (pI (pI h 6 (X + 15) (nI T)) 7 (X + 15) (nI 0)) 8 (X + 15) (nI 0) := ⟨_, rfl⟩
  obtain ⟨hA', eA⟩ := hA0
  have f6 : hI hA' 6 (X + 15) = nI T ∧ hI hA' 7 (X + 15) = nI 0 ∧ hI hA' 8 (X + 15) = nI 0 ∧ hN hA' = hN h ∧ hU hA' = hU h := by
    rw [eA]
    refine ⟨?_, ?_, ?_, rfl, rfl⟩ <;> simp (decide := true) only [u_hN_pI, u_hU_pI, u_hK_pI, u_hL_pI, u_hR_pI, u_hJ_pI, u_hA_pI, u_hB_pI, u_hS_pI, u_hN_pR, u_hU_pR, u_hK_pR, u_hL_pR, u_hI_pR, u_hJ_pR, u_hA_pR, u_hB_pR, u_hS_pR, u_hN_pJ, u_hU_pJ, u_hK_pJ, u_hL_pJ, u_hI_pJ, u_hR_pJ, u_hA_pJ, u_hB_pJ, u_hS_pJ, u_hN_pA, u_hU_pA, u_hK_pA, u_hL_pA, u_hI_pA, u_hR_pA, u_hJ_pA, u_hB_pA, u_hS_pA, u_hN_pB, u_hU_pB, u_hK_pB, u_hL_pB, u_hI_pB, u_hR_pB, u_hJ_pB, u_hA_pB, u_hS_pB, u_hL_nO, u_hA_nO, u_hB_nO, u_hS_nO, u_hI_nA, u_hR_nA, u_hJ_nA, u_hS_nA, u_II, u_RR, u_JJ, u_AA, u_BB, u_NO, u_UO, u_KO, u_IO, u_RO, u_JO, u_NN, u_UN, u_KN, u_LN, u_AN, u_BN, if_true, if_false]
  rw [← eA] at cA
  have dA := d.keep cA
  have rmA := rm.keep cA.1 (by omega) (by omega) (by omega) (by omega)
  have r2A := r2.keep cA.1 (by omega) r4 (by omega) (by omega)
  obtain ⟨hB, eB, rB, sB, nB, uB⟩ := r_cut (g := g) (k := 0) rmA (by omega)
  rw [List.take_zero] at rB
  have cB : cfm X (fun x => x = X + 16) hA' hB := cfm.of sB (by omega) (fun k hk => by unfold crO at hk; omega)
  have dB := dA.keep cB
  have r2B := r2A.keep sB (by omega) (by omega) (by omega) (by omega)
  obtain ⟨hC, eC, rC, sC, nC, uC⟩ := r_cut (g := g) (k := 0) r2B (by omega)
  rw [List.take_zero] at rC
  have cC : cfm X (fun x => x = X + 18) hB hC := cfm.of sC (by omega) (fun k hk => by unfold crO at hk; omega)
  have dC := dB.keep cC
  have rB' := rB.keep sC (by omega) (by omega) (by omega) (by omega)
  -- making
  have loop1 : ∀ j k (h1 : PH), j + k = 16 → cl h1 X → (∀ p, p < k → hA h1 (X + 22) p = nI 0) → ∃ h2, ev g mX1_begin 33 [some (va_rf (some (X + 15))), some (.int (nI T)), some (.int (nI k))] [] h1 = ev g mX1_begin 57 [some (va_rf (some (X + 15))), some (.int (nI T)), some (.int (nI 0))] [] h2 ∧ cfm X (fun x => x = X + 22) h1 h2 ∧ hN h2 = hN h1 ∧ hU h2 = hU h1 ∧ ∀ p, p < 16 → hA h2 (X + 22) p = nI 0 := by
    intro j
    induction j with
    | zero =>
      intro k h1 hk d1 hp
      have : k = 16 := by omega
      subst this
      refine ⟨h1, ?_, cfm.rf _, rfl, rfl, hp⟩
      rw [e_X1_begin_33]
      simp (decide := true) (disch := omega) only [e_X1_begin_34, e_X1_begin_35, e_X1_begin_38, e_X1_begin_39, e_X1_begin_42, e_X1_begin_43, e_X1_begin_46, e_X1_begin_47, e_X1_begin_48, e_X1_begin_49, e_X1_begin_52, e_X1_begin_55, e_X1_begin_56, ↓reduceIte, if_true, if_false, reduceCtorEq, Nat.reduceAdd, true_and, and_true, false_and, and_false, true_or, or_true, false_or, or_false, not_true_eq_false, not_false_eq_true, Option.bind_eq_bind, Option.bind_some, psh, eq_self, l_0, l_1, l_2, l_3, l_4, l_5, l_6, l_7, l_8, l_9, l_10, l_11, l_12, l_13, l_14, l_15, l_16, l_17, l_18, l_19, l_20, l_24, l_31, l_32, l_33, l_35, l_36, l_48, l_56, l_57, l_58, l_63, l_65, l_80, l_81, l_90, l_91, l_93, l_94, l_95, l_97, l_100, l_105, l_107, l_110, l_111, l_116, l_120, l_121, l_122, l_123, l_124, l_125, l_126, l_162, l_255, l_300, l_400, l_420, l_432, l_1000, l_1400, l_1936, l_2000, l_2100, l_2400, l_24000, m_n1, m_n2, m_n3, nI_mul, nI_add, nI_sub, nI_ltT, nI_ltF, nI_leT, nI_leF, nI_eqT, nI_eqF, nI_nM, nM_nI, nM_eq, nM_lt, nM_le, nI_ltM, nI_leM, nI_inT, nI_dec, pk_rem, nI_ltI, nI_leI, nI_eq, nI_clamp, Nat.add_assoc, q_bv51, Nat.add_left_cancel_iff, clK_0 d1, clK_1 d1, clK_3 d1, clK_5 d1, clK_7 d1, clK_8 d1, clK_9 d1, clK_11 d1, clK_12 d1, clK_13 d1, clK_14 d1, clK_15 d1, clK_16 d1, clK_18 d1, clK_20 d1, clK_21 d1, clK_22 d1, clK_23 d1, clK_24 d1, clK_25 d1, clK_26 d1, clR_0_0 d1, clR_1_0 d1, clR_2_0 d1, clR_3_0 d1, clR_7_0 d1, clR_8_0 d1, clR_9_0 d1, clR_10_0 d1, clR_11_0 d1, clR_0_8 d1, clR_0_11 d1, clR_1_11 d1, clR_2_11 d1, clR_0_15 d1, clR_1_15 d1, clR_2_15 d1, clR_3_15 d1, clR_4_15 d1, clR_5_15 d1, clR_0_23 d1, clR_1_23 d1, clR_0_25 d1, clL_7 d1, clL_12 d1, clL_13 d1, clL_14 d1, clL_20 d1, clL_21 d1, clL_22 d1, clL_24 d1, clS_0 d1, clS_1 d1, clS_2 d1, clS_3 d1]
    | succ j ih =>
      intro k h1 hk d1 hp
      have c1 : cfm X (fun x => x = X + 22) h1 (pA h1 (X + 22) (upd (hA h1 (X + 22)) k (nI 0))) := cfm.pA _ _ rfl
      obtain ⟨h2, e2, c2, n2, u2, p2⟩ := ih (k + 1) (pA h1 (X + 22) (upd (hA h1 (X + 22)) k (nI 0))) (by omega) (d1.keep c1) (fun p hp' => by
        rw [u_AA, if_pos rfl]
        by_cases z : p = k
        · rw [z]; exact upd_at
        · rw [upd_ne z]; exact hp p (by omega))
      refine ⟨h2, ?_, c1.tr c2, n2, u2, p2⟩
      rw [← e2, e_X1_begin_33]
      simp (decide := true) (disch := omega) only [e_X1_begin_34, e_X1_begin_35, e_X1_begin_38, e_X1_begin_39, e_X1_begin_42, e_X1_begin_43, e_X1_begin_46, e_X1_begin_47, e_X1_begin_48, e_X1_begin_49, e_X1_begin_52, e_X1_begin_55, e_X1_begin_56, ↓reduceIte, if_true, if_false, reduceCtorEq, Nat.reduceAdd, true_and, and_true, false_and, and_false, true_or, or_true, false_or, or_false, not_true_eq_false, not_false_eq_true, Option.bind_eq_bind, Option.bind_some, psh, eq_self, l_0, l_1, l_2, l_3, l_4, l_5, l_6, l_7, l_8, l_9, l_10, l_11, l_12, l_13, l_14, l_15, l_16, l_17, l_18, l_19, l_20, l_24, l_31, l_32, l_33, l_35, l_36, l_48, l_56, l_57, l_58, l_63, l_65, l_80, l_81, l_90, l_91, l_93, l_94, l_95, l_97, l_100, l_105, l_107, l_110, l_111, l_116, l_120, l_121, l_122, l_123, l_124, l_125, l_126, l_162, l_255, l_300, l_400, l_420, l_432, l_1000, l_1400, l_1936, l_2000, l_2100, l_2400, l_24000, m_n1, m_n2, m_n3, nI_mul, nI_add, nI_sub, nI_ltT, nI_ltF, nI_leT, nI_leF, nI_eqT, nI_eqF, nI_nM, nM_nI, nM_eq, nM_lt, nM_le, nI_ltM, nI_leM, nI_inT, nI_dec, pk_rem, nI_ltI, nI_leI, nI_eq, nI_clamp, Nat.add_assoc, q_bv51, Nat.add_left_cancel_iff, clK_0 d1, clK_1 d1, clK_3 d1, clK_5 d1, clK_7 d1, clK_8 d1, clK_9 d1, clK_11 d1, clK_12 d1, clK_13 d1, clK_14 d1, clK_15 d1, clK_16 d1, clK_18 d1, clK_20 d1, clK_21 d1, clK_22 d1, clK_23 d1, clK_24 d1, clK_25 d1, clK_26 d1, clR_0_0 d1, clR_1_0 d1, clR_2_0 d1, clR_3_0 d1, clR_7_0 d1, clR_8_0 d1, clR_9_0 d1, clR_10_0 d1, clR_11_0 d1, clR_0_8 d1, clR_0_11 d1, clR_1_11 d1, clR_2_11 d1, clR_0_15 d1, clR_1_15 d1, clR_2_15 d1, clR_3_15 d1, clR_4_15 d1, clR_5_15 d1, clR_0_23 d1, clR_1_23 d1, clR_0_25 d1, clL_7 d1, clL_12 d1, clL_13 d1, clL_14 d1, clL_20 d1, clL_21 d1, clL_22 d1, clL_24 d1, clS_0 d1, clS_1 d1, clS_2 d1, clS_3 d1]
  have loop2 : ∀ j k (h1 : PH), j + k = 8 → cl h1 X → (∀ p, p < k → hA h1 (X + 21) p = nI 0) → ∃ h2, ev g mX1_begin 57 [some (va_rf (some (X + 15))), some (.int (nI T)), some (.int (nI k))] [] h1 = some (none, h2) ∧ cfm X (fun x => x = X + 21) h1 h2 ∧ hN h2 = hN h1 ∧ hU h2 = hU h1 ∧ ∀ p, p < 8 → hA h2 (X + 21) p = nI 0 := by
    intro j
    induction j with
    | zero =>
      intro k h1 hk d1 hp
      have : k = 8 := by omega
      subst this
      refine ⟨h1, ?_, cfm.rf _, rfl, rfl, hp⟩
      rw [e_X1_begin_57]
      simp (decide := true) (disch := omega) only [e_X1_begin_58, e_X1_begin_59, e_X1_begin_62, e_X1_begin_63, e_X1_begin_66, e_X1_begin_67, e_X1_begin_70, e_X1_begin_71, e_X1_begin_72, e_X1_begin_73, e_X1_begin_76, e_X1_begin_79, ↓reduceIte, if_true, if_false, reduceCtorEq, Nat.reduceAdd, true_and, and_true, false_and, and_false, true_or, or_true, false_or, or_false, not_true_eq_false, not_false_eq_true, Option.bind_eq_bind, Option.bind_some, psh, eq_self, l_0, l_1, l_2, l_3, l_4, l_5, l_6, l_7, l_8, l_9, l_10, l_11, l_12, l_13, l_14, l_15, l_16, l_17, l_18, l_19, l_20, l_24, l_31, l_32, l_33, l_35, l_36, l_48, l_56, l_57, l_58, l_63, l_65, l_80, l_81, l_90, l_91, l_93, l_94, l_95, l_97, l_100, l_105, l_107, l_110, l_111, l_116, l_120, l_121, l_122, l_123, l_124, l_125, l_126, l_162, l_255, l_300, l_400, l_420, l_432, l_1000, l_1400, l_1936, l_2000, l_2100, l_2400, l_24000, m_n1, m_n2, m_n3, nI_mul, nI_add, nI_sub, nI_ltT, nI_ltF, nI_leT, nI_leF, nI_eqT, nI_eqF, nI_nM, nM_nI, nM_eq, nM_lt, nM_le, nI_ltM, nI_leM, nI_inT, nI_dec, pk_rem, nI_ltI, nI_leI, nI_eq, nI_clamp, Nat.add_assoc, q_bv51, Nat.add_left_cancel_iff, clK_0 d1, clK_1 d1, clK_3 d1, clK_5 d1, clK_7 d1, clK_8 d1, clK_9 d1, clK_11 d1, clK_12 d1, clK_13 d1, clK_14 d1, clK_15 d1, clK_16 d1, clK_18 d1, clK_20 d1, clK_21 d1, clK_22 d1, clK_23 d1, clK_24 d1, clK_25 d1, clK_26 d1, clR_0_0 d1, clR_1_0 d1, clR_2_0 d1, clR_3_0 d1, clR_7_0 d1, clR_8_0 d1, clR_9_0 d1, clR_10_0 d1, clR_11_0 d1, clR_0_8 d1, clR_0_11 d1, clR_1_11 d1, clR_2_11 d1, clR_0_15 d1, clR_1_15 d1, clR_2_15 d1, clR_3_15 d1, clR_4_15 d1, clR_5_15 d1, clR_0_23 d1, clR_1_23 d1, clR_0_25 d1, clL_7 d1, clL_12 d1, clL_13 d1, clL_14 d1, clL_20 d1, clL_21 d1, clL_22 d1, clL_24 d1, clS_0 d1, clS_1 d1, clS_2 d1, clS_3 d1]
    | succ j ih =>
      intro k h1 hk d1 hp
      have c1 : cfm X (fun x => x = X + 21) h1 (pA h1 (X + 21) (upd (hA h1 (X + 21)) k (nI 0))) := cfm.pA _ _ rfl
      obtain ⟨h2, e2, c2, n2, u2, p2⟩ := ih (k + 1) (pA h1 (X + 21) (upd (hA h1 (X + 21)) k (nI 0))) (by omega) (d1.keep c1) (fun p hp' => by
        rw [u_AA, if_pos rfl]
        by_cases z : p = k
        · rw [z]; exact upd_at
        · rw [upd_ne z]; exact hp p (by omega))
      refine ⟨h2, ?_, c1.tr c2, n2, u2, p2⟩
      rw [← e2, e_X1_begin_57]
      simp (decide := true) (disch := omega) only [e_X1_begin_58, e_X1_begin_59, e_X1_begin_62, e_X1_begin_63, e_X1_begin_66, e_X1_begin_67, e_X1_begin_70, e_X1_begin_71, e_X1_begin_72, e_X1_begin_73, e_X1_begin_76, e_X1_begin_79, ↓reduceIte, if_true, if_false, reduceCtorEq, Nat.reduceAdd, true_and, and_true, false_and, and_false, true_or, or_true, false_or, or_false, not_true_eq_false, not_false_eq_true, Option.bind_eq_bind, Option.bind_some, psh, eq_self, l_0, l_1, l_2, l_3, l_4, l_5, l_6, l_7, l_8, l_9, l_10, l_11, l_12, l_13, l_14, l_15, l_16, l_17, l_18, l_19, l_20, l_24, l_31, l_32, l_33, l_35, l_36, l_48, l_56, l_57, l_58, l_63, l_65, l_80, l_81, l_90, l_91, l_93, l_94, l_95, l_97, l_100, l_105, l_107, l_110, l_111, l_116, l_120, l_121, l_122, l_123, l_124, l_125, l_126, l_162, l_255, l_300, l_400, l_420, l_432, l_1000, l_1400, l_1936, l_2000, l_2100, l_2400, l_24000, m_n1, m_n2, m_n3, nI_mul, nI_add, nI_sub, nI_ltT, nI_ltF, nI_leT, nI_leF, nI_eqT, nI_eqF, nI_nM, nM_nI, nM_eq, nM_lt, nM_le, nI_ltM, nI_leM, nI_inT, nI_dec, pk_rem, nI_ltI, nI_leI, nI_eq, nI_clamp, Nat.add_assoc, q_bv51, Nat.add_left_cancel_iff, clK_0 d1, clK_1 d1, clK_3 d1, clK_5 d1, clK_7 d1, clK_8 d1, clK_9 d1, clK_11 d1, clK_12 d1, clK_13 d1, clK_14 d1, clK_15 d1, clK_16 d1, clK_18 d1, clK_20 d1, clK_21 d1, clK_22 d1, clK_23 d1, clK_24 d1, clK_25 d1, clK_26 d1, clR_0_0 d1, clR_1_0 d1, clR_2_0 d1, clR_3_0 d1, clR_7_0 d1, clR_8_0 d1, clR_9_0 d1, clR_10_0 d1, clR_11_0 d1, clR_0_8 d1, clR_0_11 d1, clR_1_11 d1, clR_2_11 d1, clR_0_15 d1, clR_1_15 d1, clR_2_15 d1, clR_3_15 d1, clR_4_15 d1, clR_5_15 d1, clR_0_23 d1, clR_1_23 d1, clR_0_25 d1, clL_7 d1, clL_12 d1, clL_13 d1, clL_14 d1, clL_20 d1, clL_21 d1, clL_22 d1, clL_24 d1, clS_0 d1, clS_1 d1, clS_2 d1, clS_3 d1]
  obtain ⟨hD, eD, cD, nD, uD, pD⟩ := loop1 16 0 hC rfl dC (fun p hp => absurd hp (Nat.not_lt_zero _))
  have dD := dC.keep cD
  obtain ⟨hE, eE, cE, nE, uE, pE⟩ := loop2 8 0 hD rfl dD (fun p hp => absurd hp (Nat.not_lt_zero _))
  have c0 : cfm X (kF' X wb) h hE := ((((cA.mono (fun x _ z => by unfold kF'; omega)).tr (cB.mono (fun x _ z => by unfold kF'; omega))).tr (cC.mono (fun x _ z => by unfold kF'; omega))).tr (cD.mono (fun x _ z => by unfold kF'; omega))).tr (cE.mono (fun x _ z => by unfold kF'; omega))
  have t15 : ∀ k, hI hE k (X + 15) = hI hA' k (X + 15) := fun k => by
    rw [((cE.1.2.2 (X + 15) (by omega)).2.2 (by omega)).1, ((cD.1.2.2 (X + 15) (by omega)).2.2 (by omega)).1, ((cC.1.2.2 (X + 15) (by omega)).2.2 (by omega)).1, ((cB.1.2.2 (X + 15) (by omega)).2.2 (by omega)).1]
  have t22 : hA hE (X + 22) = hA hD (X + 22) := ((cE.1.2.2 (X + 22) (by omega)).2.2 (by omega)).2.2.2.1
  refine ⟨hE, wb, cap, bd, ?_, ⟨cap, bd, l2, o2, K0, mOK.of c0 (by omega) (by omega), rfl⟩, Ik.kp K0 c0, ⟨⟨(rC.keep cD.1 (by omega) (by omega) (by omega) (by omega)).keep cE.1 (by omega) (by omega) (by omega) (by omega), r3, by omega, r5, r6⟩, ⟨by rw [t15]; exact f6.1, fun p hp => by rw [t22, pD p hp]; rfl⟩, (rB'.keep cD.1 (by omega) (by omega) (by omega) (by omega)).keep cE.1 (by omega) (by omega) (by omega) (by omega), by rw [t15]; exact f6.2.1, by rw [t15]; exact f6.2.2.1, by omega⟩, fun _ => 0, ⟨by rw [pE 0 (by omega)]; rfl, by simp⟩, fun i hi => absurd hi (Nat.not_lt_zero _)⟩
  rw [n_X1_begin]
  have hd0 : ev g mX1_begin 0 [some (va_rf (some (X + 15))), some (.int (nI T)), none] [] h = ev g mX1_begin 33 [some (va_rf (some (X + 15))), some (.int (nI T)), some (.int (nI 0))] [] hC := by
    subst eA
    simp (decide := true) (disch := omega) only [e_X1_begin_0, e_X1_begin_1, e_X1_begin_2, e_X1_begin_5, e_X1_begin_6, e_X1_begin_7, e_X1_begin_10, e_X1_begin_11, e_X1_begin_12, e_X1_begin_15, e_X1_begin_16, e_X1_begin_19, e_X1_begin_20, e_X1_begin_23, e_X1_begin_24, e_X1_begin_27, e_X1_begin_28, e_X1_begin_31, e_X1_begin_32, ↓reduceIte, if_true, if_false, reduceCtorEq, Nat.reduceAdd, true_and, and_true, false_and, and_false, true_or, or_true, false_or, or_false, not_true_eq_false, not_false_eq_true, Option.bind_eq_bind, Option.bind_some, psh, eq_self, l_0, l_1, l_2, l_3, l_4, l_5, l_6, l_7, l_8, l_9, l_10, l_11, l_12, l_13, l_14, l_15, l_16, l_17, l_18, l_19, l_20, l_24, l_31, l_32, l_33, l_35, l_36, l_48, l_56, l_57, l_58, l_63, l_65, l_80, l_81, l_90, l_91, l_93, l_94, l_95, l_97, l_100, l_105, l_107, l_110, l_111, l_116, l_120, l_121, l_122, l_123, l_124, l_125, l_126, l_162, l_255, l_300, l_400, l_420, l_432, l_1000, l_1400, l_1936, l_2000, l_2100, l_2400, l_24000, m_n1, m_n2, m_n3, nI_mul, nI_add, nI_sub, nI_ltT, nI_ltF, nI_leT, nI_leF, nI_eqT, nI_eqF, nI_nM, nM_nI, nM_eq, nM_lt, nM_le, nI_ltM, nI_leM, nI_inT, nI_dec, pk_rem, nI_ltI, nI_leI, nI_eq, nI_clamp, Nat.add_assoc, q_bv51, Nat.add_left_cancel_iff, clK_0 d, clK_1 d, clK_3 d, clK_5 d, clK_7 d, clK_8 d, clK_9 d, clK_11 d, clK_12 d, clK_13 d, clK_14 d, clK_15 d, clK_16 d, clK_18 d, clK_20 d, clK_21 d, clK_22 d, clK_23 d, clK_24 d, clK_25 d, clK_26 d, clR_0_0 d, clR_1_0 d, clR_2_0 d, clR_3_0 d, clR_7_0 d, clR_8_0 d, clR_9_0 d, clR_10_0 d, clR_11_0 d, clR_0_8 d, clR_0_11 d, clR_1_11 d, clR_2_11 d, clR_0_15 d, clR_1_15 d, clR_2_15 d, clR_3_15 d, clR_4_15 d, clR_5_15 d, clR_0_23 d, clR_1_23 d, clR_0_25 d, clL_7 d, clL_12 d, clL_13 d, clL_14 d, clL_20 d, clL_21 d, clL_22 d, clL_24 d, clS_0 d, clS_1 d, clS_2 d, clS_3 d, clK_0 dA, clK_1 dA, clK_3 dA, clK_5 dA, clK_7 dA, clK_8 dA, clK_9 dA, clK_11 dA, clK_12 dA, clK_13 dA, clK_14 dA, clK_15 dA, clK_16 dA, clK_18 dA, clK_20 dA, clK_21 dA, clK_22 dA, clK_23 dA, clK_24 dA, clK_25 dA, clK_26 dA, clR_0_0 dA, clR_1_0 dA, clR_2_0 dA, clR_3_0 dA, clR_7_0 dA, clR_8_0 dA, clR_9_0 dA, clR_10_0 dA, clR_11_0 dA, clR_0_8 dA, clR_0_11 dA, clR_1_11 dA, clR_2_11 dA, clR_0_15 dA, clR_1_15 dA, clR_2_15 dA, clR_3_15 dA, clR_4_15 dA, clR_5_15 dA, clR_0_23 dA, clR_1_23 dA, clR_0_25 dA, clL_7 dA, clL_12 dA, clL_13 dA, clL_14 dA, clL_20 dA, clL_21 dA, clL_22 dA, clL_24 dA, clS_0 dA, clS_1 dA, clS_2 dA, clS_3 dA, eB, clK_0 dB, clK_1 dB, clK_3 dB, clK_5 dB, clK_7 dB, clK_8 dB, clK_9 dB, clK_11 dB, clK_12 dB, clK_13 dB, clK_14 dB, clK_15 dB, clK_16 dB, clK_18 dB, clK_20 dB, clK_21 dB, clK_22 dB, clK_23 dB, clK_24 dB, clK_25 dB, clK_26 dB, clR_0_0 dB, clR_1_0 dB, clR_2_0 dB, clR_3_0 dB, clR_7_0 dB, clR_8_0 dB, clR_9_0 dB, clR_10_0 dB, clR_11_0 dB, clR_0_8 dB, clR_0_11 dB, clR_1_11 dB, clR_2_11 dB, clR_0_15 dB, clR_1_15 dB, clR_2_15 dB, clR_3_15 dB, clR_4_15 dB, clR_5_15 dB, clR_0_23 dB, clR_1_23 dB, clR_0_25 dB, clL_7 dB, clL_12 dB, clL_13 dB, clL_14 dB, clL_20 dB, clL_21 dB, clL_22 dB, clL_24 dB, clS_0 dB, clS_1 dB, clS_2 dB, clS_3 dB, eC, u_hK_pI]
  rw [hd0, eD, eE]
end
