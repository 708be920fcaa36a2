/-! PageWeb$Maker: makeShowing, make -/
theorem pus_T {acc x : List Nat} {sh : Nat} (h : acc.length + x.length ≤ 2000) : pus (some (acc, sh)) x = some (acc ++ x, sh) := if_pos h
theorem pus_F {acc x : List Nat} {sh : Nat} (h : 2000 < acc.length + x.length) : pus (some (acc, sh)) x = none := if_neg (by omega)
section
variable {g X T wb cap bd : Nat} {Q : Nat → Prop} {h h1 h2 : PH} {tp ou fo wl pl : List Nat} {hd : Option Nm} {a : Option Nat} {w : Wd}
theorem kS.W {st : St} (S : kS Q h X T wb cap bd wl pl st) : kW Q h X wb cap bd wl (nI 0) := S.1
/-- only the made text and Maker's own fields have changed -/
theorem kS.kp {st : St} (S : kS Q h X T wb cap bd wl pl st) (s : sm (fun x => rP (X + 16) (X + 17) x ∨ x = X + 15) h h1) (dN : X + 57 ≤ hN h) (h6 : hI h1 6 (X + 15) = hI h 6 (X + 15)) : kW Q h1 X wb cap bd wl (nI 0) ∧ hI h1 6 (X + 15) = nI T ∧ ∀ p, p < 16 → hA h1 (X + 22) p = bI (decide (p ∈ pl)) := by
  obtain ⟨⟨rK, k1, k2, k3, k4⟩, ⟨t6, t22⟩, -⟩ := S
  have hn := s.1
  refine ⟨⟨rK.keep s (by omega) k2 (by unfold rP; omega) (by unfold rP; omega), k1, by omega, k3, k4⟩, by rw [h6]; exact t6, fun p hp => ?_⟩
  rw [((s.2.2 (X + 22) (by omega)).2.2 (by unfold rP; omega)).2.2.2.1]
  exact t22 p hp
theorem mk_cfm (s : sm (fun x => rP (X + 16) (X + 17) x ∨ x = X + 15) h h1) (dN : X + 57 ≤ hN h) (hr : ∀ k, hR h1 k (X + 15) = hR h k (X + 15)) : cfm X (kF' X wb) h h1 := by
  refine ⟨s.mono (fun x _ z => by unfold rP at z; unfold kF'; omega), fun e he => ?_⟩
  obtain ⟨o1, o2⟩ := crt_O e he
  by_cases c : e.2.1 = 15
  · rw [c]; exact hr _
  · exact ((s.2.2 (X + e.2.1) (by omega)).2.2 (by unfold rP; unfold crO at o1; omega)).2.1 _
/-- bytes have been put: what stands at the end of makeShowing -/
theorem k_put_end {L sh : Nat} {acc x : List Nat} {l1 l2 l3 l4 l5 : Option Value} (I : cIk Q h X tp ou fo hd a w) (S : kS Q h X T wb cap bd wl pl (some (acc, sh))) (s : sm (rP (X + 16) (X + 17)) h h2) (n : hN h2 = hN h) (u : hU h2 = hU h) (r : rw_ h2 (X + 16) (X + 17) 2000 2000 (pls acc x 2000) (pos acc x 2000 (nI 0))) :
    ∃ h', ev g mX1_makeShowing 153 [some (va_rf (some (X + 15))), l1, l2, l3, l4, l5] [] h2 = some (none, h') ∧ mOK X wb cap wb cap h h' ∧ eK X L h h' ∧ cIk Q h' X tp ou fo hd a w ∧ kS Q h' X T wb cap bd wl pl (pus (some (acc, sh)) x) := by
  have d := I.1.1
  have dN := d.1
  have ha := S.2.2.1.2.2.1.1
  have c2 : cfm X (kF' X wb) h h2 := mk_cfm (s.mono (fun x _ z => Or.inl z)) dN (fun k => ((s.2.2 (X + 15) (by omega)).2.2 (by unfold rP; omega)).2.1 k)
  have d2 := d.keep c2
  have t15 := ((s.2.2 (X + 15) (by omega)).2.2 (by unfold rP; omega)).1
  have h8 : hI h2 8 (X + 15) = nI 0 := by rw [t15]; exact S.2.2.2.2.1
  have s3 : sm (fun x => rP (X + 16) (X + 17) x ∨ x = X + 15) h (pI h2 8 (X + 15) (pos acc x 2000 (nI 0))) := (s.mono (fun x _ z => Or.inl z)).tr (sm.I _ _ (Or.inr rfl))
  have c3 : cfm X (kF' X wb) h (pI h2 8 (X + 15) (pos acc x 2000 (nI 0))) := c2.tr (cfm.pI _ _ (Or.inl rfl))
  have r3 := r.keep (sm.I1 h2 (k := 8) (a := X + 15) (pos acc x 2000 (nI 0))) (by omega) (by omega) (by omega) (by omega)
  have k6 := r.1.1
  have o3 := r.2.1.2.2
  have S3 := S.kp s3 dN (by rw [u_II, if_neg (by decide), t15])
  refine ⟨pI h2 8 (X + 15) (pos acc x 2000 (nI 0)), ?_, mOK.of c3 n u, eK.of s3 dN (by unfold rP; omega) (by unfold rP; omega), I.kp S.W c3, S3.1, S3.2, ?_⟩
  · by_cases c : acc.length + x.length ≤ 2000
    · have : pos acc x 2000 (nI 0) = nI 0 := if_pos c
      rw [this] at o3 ⊢
      simp (decide := true) (disch := omega) only [e_X1_makeShowing_153, e_X1_makeShowing_154, e_X1_makeShowing_155, e_X1_makeShowing_158, e_X1_makeShowing_161, e_X1_makeShowing_162, e_X1_makeShowing_165, e_X1_makeShowing_168, e_X1_makeShowing_171, e_X1_makeShowing_172, e_X1_makeShowing_175, e_X1_makeShowing_176, e_X1_makeShowing_179, ↓reduceIte, if_true, if_false, reduceCtorEq, Nat.reduceAdd, true_and, and_true, false_and, and_false, true_or, or_true, false_or, or_false, not_true_eq_false, not_false_eq_true, Option.bind_eq_bind, Option.bind_some, psh, eq_self, l_0, l_1, l_2, l_3, l_4, l_5, l_6, l_7, l_8, l_9, l_10, l_11, l_12, l_13, l_14, l_15, l_16, l_17, l_18, l_19, l_20, l_24, l_31, l_32, l_33, l_35, l_36, l_48, l_56, l_57, l_58, l_63, l_65, l_80, l_81, l_90, l_91, l_93, l_94, l_95, l_97, l_100, l_105, l_107, l_110, l_111, l_116, l_120, l_121, l_122, l_123, l_124, l_125, l_126, l_162, l_255, l_300, l_400, l_420, l_432, l_1000, l_1400, l_1936, l_2000, l_2100, l_2400, l_24000, m_n1, m_n2, m_n3, nI_mul, nI_add, nI_sub, nI_ltT, nI_ltF, nI_leT, nI_leF, nI_eqT, nI_eqF, nI_nM, nM_nI, nM_eq, nM_lt, nM_le, nI_ltM, nI_leM, nI_inT, nI_dec, pk_rem, nI_ltI, nI_leI, nI_eq, nI_clamp, Nat.add_assoc, q_bv51, Nat.add_left_cancel_iff, clK_0 d2, clK_1 d2, clK_3 d2, clK_5 d2, clK_7 d2, clK_8 d2, clK_9 d2, clK_11 d2, clK_12 d2, clK_13 d2, clK_14 d2, clK_15 d2, clK_16 d2, clK_18 d2, clK_20 d2, clK_21 d2, clK_22 d2, clK_23 d2, clK_24 d2, clK_25 d2, clK_26 d2, clR_0_0 d2, clR_1_0 d2, clR_2_0 d2, clR_3_0 d2, clR_7_0 d2, clR_8_0 d2, clR_9_0 d2, clR_10_0 d2, clR_11_0 d2, clR_0_8 d2, clR_0_11 d2, clR_1_11 d2, clR_2_11 d2, clR_0_15 d2, clR_1_15 d2, clR_2_15 d2, clR_3_15 d2, clR_4_15 d2, clR_5_15 d2, clR_0_23 d2, clR_1_23 d2, clR_0_25 d2, clL_7 d2, clL_12 d2, clL_13 d2, clL_14 d2, clL_20 d2, clL_21 d2, clL_22 d2, clL_24 d2, clS_0 d2, clS_1 d2, clS_2 d2, clS_3 d2, h8, k6, o3]
    · have : pos acc x 2000 (nI 0) = nI 1 := if_neg c
      rw [this] at o3 ⊢
      simp (decide := true) (disch := omega) only [e_X1_makeShowing_153, e_X1_makeShowing_154, e_X1_makeShowing_155, e_X1_makeShowing_158, e_X1_makeShowing_161, e_X1_makeShowing_162, e_X1_makeShowing_165, e_X1_makeShowing_168, e_X1_makeShowing_171, e_X1_makeShowing_172, e_X1_makeShowing_175, e_X1_makeShowing_176, e_X1_makeShowing_179, ↓reduceIte, if_true, if_false, reduceCtorEq, Nat.reduceAdd, true_and, and_true, false_and, and_false, true_or, or_true, false_or, or_false, not_true_eq_false, not_false_eq_true, Option.bind_eq_bind, Option.bind_some, psh, eq_self, l_0, l_1, l_2, l_3, l_4, l_5, l_6, l_7, l_8, l_9, l_10, l_11, l_12, l_13, l_14, l_15, l_16, l_17, l_18, l_19, l_20, l_24, l_31, l_32, l_33, l_35, l_36, l_48, l_56, l_57, l_58, l_63, l_65, l_80, l_81, l_90, l_91, l_93, l_94, l_95, l_97, l_100, l_105, l_107, l_110, l_111, l_116, l_120, l_121, l_122, l_123, l_124, l_125, l_126, l_162, l_255, l_300, l_400, l_420, l_432, l_1000, l_1400, l_1936, l_2000, l_2100, l_2400, l_24000, m_n1, m_n2, m_n3, nI_mul, nI_add, nI_sub, nI_ltT, nI_ltF, nI_leT, nI_leF, nI_eqT, nI_eqF, nI_nM, nM_nI, nM_eq, nM_lt, nM_le, nI_ltM, nI_leM, nI_inT, nI_dec, pk_rem, nI_ltI, nI_leI, nI_eq, nI_clamp, Nat.add_assoc, q_bv51, Nat.add_left_cancel_iff, clK_0 d2, clK_1 d2, clK_3 d2, clK_5 d2, clK_7 d2, clK_8 d2, clK_9 d2, clK_11 d2, clK_12 d2, clK_13 d2, clK_14 d2, clK_15 d2, clK_16 d2, clK_18 d2, clK_20 d2, clK_21 d2, clK_22 d2, clK_23 d2, clK_24 d2, clK_25 d2, clK_26 d2, clR_0_0 d2, clR_1_0 d2, clR_2_0 d2, clR_3_0 d2, clR_7_0 d2, clR_8_0 d2, clR_9_0 d2, clR_10_0 d2, clR_11_0 d2, clR_0_8 d2, clR_0_11 d2, clR_1_11 d2, clR_2_11 d2, clR_0_15 d2, clR_1_15 d2, clR_2_15 d2, clR_3_15 d2, clR_4_15 d2, clR_5_15 d2, clR_0_23 d2, clR_1_23 d2, clR_0_25 d2, clL_7 d2, clL_12 d2, clL_13 d2, clL_14 d2, clL_20 d2, clL_21 d2, clL_22 d2, clL_24 d2, clS_0 d2, clS_1 d2, clS_2 d2, clS_3 d2, h8, k6, o3]
  · by_cases c : acc.length + x.length ≤ 2000
    · have e1 : pos acc x 2000 (nI 0) = nI 0 := if_pos c
      have e2 : pls acc x 2000 = acc ++ x := by unfold pls; rw [List.take_of_length_le (by omega)]
      rw [pus_T c]
      rw [e1, e2] at r3
      rw [e1]
      refine ⟨r3, ?_, ?_, S.2.2.2.2.2⟩
      · rw [u_II, if_neg (by decide), t15]; exact S.2.2.2.1
      · rw [u_II, if_pos rfl, if_pos rfl]
    · have e1 : pos acc x 2000 (nI 0) = nI 1 := if_neg c
      rw [pus_F (by omega)]
      rw [e1]
      rw [e1] at r3
      exact ⟨⟨_, _, r3⟩, by rw [u_II, if_pos rfl, if_pos rfl]⟩
/-- a page's making, so many levels left -/
def kMC (Q : Nat → Prop) (X : Nat) (tp ou fo : List Nat) (hd : Option Nm) (a : Option Nat) (w : Wd) (T lv dp : Nat) : Prop := ∀ (g : Nat) (h : PH) (wb cap bd p c : Nat) (wl pl : List Nat) (ws : List (List Nat)) (E : Nat → Nat) (acc : List Nat) (sh : Nat), lv ≤ g → p < w.2.2.1 → thr w.2.1 p T = some c → ¬ p ∈ pl → wl.length ≤ 18000 * dp → cIk Q h X tp ou fo hd a w → kS Q h X T wb cap bd wl pl (some (acc, sh)) → wSt h X dp ws E wl →
  ∃ h' wb' cap' bd', cal g mX1_make [va_rf (some (X + 15)), .int (nI p), .int (nI dp)] h = some (none, h') ∧ mOK X wb cap wb' cap' h h' ∧ eK X (dp + 1) h h' ∧ cIk Q h' X tp ou fo hd a w ∧ kS Q h' X T wb' cap' bd' wl pl (mkT w.2.1 w.2.2.2 w.2.2.1 T lv (pl ++ [p]) ws (ct (w.2.1 c)) (some (acc, sh)))
/-- the page is marked, or not any more -/
theorem kS.mark {st : St} {p : Nat} {b : Bool} {pl' : List Nat} (I : cIk Q h X tp ou fo hd a w) (S : kS Q h X T wb cap bd wl pl st) (hp : ∀ x, decide (x ∈ pl') = if x = p then b else decide (x ∈ pl)) {L : Nat} : mOK X wb cap wb cap h (pA h (X + 22) (upd (hA h (X + 22)) p (bI b))) ∧ eK X L h (pA h (X + 22) (upd (hA h (X + 22)) p (bI b))) ∧ cIk Q (pA h (X + 22) (upd (hA h (X + 22)) p (bI b))) X tp ou fo hd a w ∧ kS Q (pA h (X + 22) (upd (hA h (X + 22)) p (bI b))) X T wb cap bd wl pl' st := by
  have d := I.1.1
  have dN := d.1
  have c : cfm X (kF' X wb) h (pA h (X + 22) (upd (hA h (X + 22)) p (bI b))) := cfm.pA _ _ (by unfold kF'; omega)
  have s : sm (fun x => x = X + 22) h (pA h (X + 22) (upd (hA h (X + 22)) p (bI b))) := sm.A1 _ _
  refine ⟨mOK.of c rfl rfl, eK.of s dN (by omega) (by omega), I.kp S.W c, ?_⟩
  obtain ⟨⟨rK, k1, k2, k3, k4⟩, ⟨t6, t22⟩, S3⟩ := S
  refine ⟨⟨rK.keep s (by omega) k2 (by omega) (by omega), k1, k2, k3, k4⟩, ⟨t6, fun x hx => ?_⟩, ?_⟩
  · rw [u_AA, if_pos rfl, hp x]
    by_cases z : x = p
    · rw [if_pos z, z]; exact upd_at
    · rw [if_neg z, upd_ne z]; exact t22 x hx
  · cases st with
    | none =>
      obtain ⟨⟨l, o, r⟩, h8⟩ := S3
      exact ⟨⟨l, o, r.keep s (by omega) (by omega) (by omega) (by omega)⟩, h8⟩
    | some st =>
      obtain ⟨acc, sh⟩ := st
      obtain ⟨r, h7, h8, hs⟩ := S3
      exact ⟨r.keep s (by omega) (by omega) (by omega) (by omega), h7, h8, hs⟩
end
