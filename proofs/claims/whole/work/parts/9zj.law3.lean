/-! the law: its loop, its start: it answers 1 (by program: wip/whole/gen9.py) -/
theorem w_L_law : decode (mC mL_law) 33 = .ok (.tableswitch 736 0 24 #[115, 178, 201, 214, 227, 250, 273, 296, 319, 342, 365, 388, 411, 434, 457, 490, 513, 526, 565, 578, 591, 614, 637, 670, 703], 115) := by decide +kernel
section
variable {g X sc L N0 U0 k j : Nat} {xs : Nat → Int32} {h : PH} {tp ou fo : List Nat} {hd : Option Nm} {a : Option Nat} {w : Wd}
theorem tab24_in {ls : List (Option Value)} {k t : Nat} (hk : k < 25) (ht : ((#[115, 178, 201, 214, 227, 250, 273, 296, 319, 342, 365, 388, 411, 434, 457, 490, 513, 526, 565, 578, 591, 614, 637, 670, 703] : Array Int)[k]?).bind (q_tg 33) = some t) : ev g mL_law 33 ls [.int (nI k)] h = ev g mL_law t ls [] h := by
  refine ev_tab w_L_law ?_
  rw [nI_toInt (by omega), if_neg (by omega), show ((k : Int) - 0).toNat = k by omega]
  exact ht
theorem tab24_out {ls : List (Option Value)} {k : Nat} (hk : 25 ≤ k) (hk2 : k < 100) : ev g mL_law 33 ls [.int (nI k)] h = ev g mL_law 769 ls [] h := by
  refine ev_tab w_L_law ?_
  rw [nI_toInt (by omega), if_pos (Or.inr (by omega))]
  rfl
theorem lI.up (I : lI X sc L N0 U0 k xs h tp ou fo hd a w) : lI X sc L N0 U0 (k + 1) xs h tp ou fo hd a w := ⟨I.1, I.2.1, I.2.2.1, I.2.2.2.1, I.2.2.2.2.1, by have := I.2.2.2.2.2.1; omega, by have := I.2.2.2.2.2.2; omega⟩
theorem L_sw {c : Nat} (hg : 7 ≤ g) (hL : 6 * j + 6 ≤ L) (hL2 : L ≤ 3072) (hc : c < 32) (I : lI X sc L N0 U0 k xs h tp ou fo hd a w) : ∃ h2 tp' ou' fo' hd' a' w', ev g mL_law 33 [some (va_rf (some sc)), some (va_rf (some X)), some (va_rf (some (X + 27))), some (.int (nI (6 * j)))] [.int (nI c)] h = ev g mL_law 769 [some (va_rf (some sc)), some (va_rf (some X)), some (va_rf (some (X + 27))), some (.int (nI (6 * j)))] [] h2 ∧ lI X sc L N0 U0 (k + 1) xs h2 tp' ou' fo' hd' a' w' := by
  by_cases c25 : 25 ≤ c
  · exact ⟨h, tp, ou, fo, hd, a, w, tab24_out c25 (by omega), I.up⟩
  · have : c = 0 ∨ c = 1 ∨ c = 2 ∨ c = 3 ∨ c = 4 ∨ c = 5 ∨ c = 6 ∨ c = 7 ∨ c = 8 ∨ c = 9 ∨ c = 10 ∨ c = 11 ∨ c = 12 ∨ c = 13 ∨ c = 14 ∨ c = 15 ∨ c = 16 ∨ c = 17 ∨ c = 18 ∨ c = 19 ∨ c = 20 ∨ c = 21 ∨ c = 22 ∨ c = 23 ∨ c = 24 := by omega
    rcases this with rfl | rfl | rfl | rfl | rfl | rfl | rfl | rfl | rfl | rfl | rfl | rfl | rfl | rfl | rfl | rfl | rfl | rfl | rfl | rfl | rfl | rfl | rfl | rfl | rfl
    · rw [tab24_in (by decide) (t := 148) rfl]
      exact L_feed hg hL hL2 I
    · rw [tab24_in (by decide) (t := 211) rfl]
      exact L_end hg hL hL2 I
    · rw [tab24_in (by decide) (t := 234) rfl]
      exact L_take hg hL hL2 I
    · rw [tab24_in (by decide) (t := 247) rfl]
      exact L_name hg hL hL2 I
    · rw [tab24_in (by decide) (t := 260) rfl]
      exact L_write hg hL hL2 I
    · rw [tab24_in (by decide) (t := 283) rfl]
      exact L_gone hg hL hL2 I
    · rw [tab24_in (by decide) (t := 306) rfl]
      exact L_move hg hL hL2 I
    · rw [tab24_in (by decide) (t := 329) rfl]
      exact L_rename hg hL hL2 I
    · rw [tab24_in (by decide) (t := 352) rfl]
      exact L_as hg hL hL2 I
    · rw [tab24_in (by decide) (t := 375) rfl]
      exact L_count hg hL hL2 I
    · rw [tab24_in (by decide) (t := 398) rfl]
      exact L_found hg hL hL2 I
    · rw [tab24_in (by decide) (t := 421) rfl]
      exact L_out hg hL hL2 I
    · rw [tab24_in (by decide) (t := 444) rfl]
      exact L_named hg hL hL2 I
    · rw [tab24_in (by decide) (t := 467) rfl]
      exact L_text hg hL hL2 I
    · rw [tab24_in (by decide) (t := 490) rfl]
      exact L_read hg hL hL2 I
    · rw [tab24_in (by decide) (t := 523) rfl]
      exact L_show hg hL hL2 I
    · rw [tab24_in (by decide) (t := 546) rfl]
      exact L_onward hg hL hL2 I
    · rw [tab24_in (by decide) (t := 559) rfl]
      exact L_from hg hL hL2 I
    · rw [tab24_in (by decide) (t := 598) rfl]
      exact L_wanted hg hL hL2 I
    · rw [tab24_in (by decide) (t := 611) rfl]
      exact L_touch hg hL hL2 I
    · rw [tab24_in (by decide) (t := 624) rfl]
      exact L_within hg hL hL2 I
    · rw [tab24_in (by decide) (t := 647) rfl]
      exact L_members hg hL hL2 I
    · rw [tab24_in (by decide) (t := 670) rfl]
      exact L_blame hg hL hL2 I
    · rw [tab24_in (by decide) (t := 703) rfl]
      exact L_change hg hL hL2 I
    · rw [tab24_in (by decide) (t := 736) rfl]
      exact L_back hg hL hL2 I
theorem L_loop (hg : 7 ≤ g) (hL2 : L ≤ 3072) : ∀ m j (h : PH) (tp ou fo : List Nat) (hd : Option Nm) (a : Option Nat) (w : Wd), L < 6 * j + 6 * m + 6 → 6 * j ≤ L + 6 → lI X sc L N0 U0 j xs h tp ou fo hd a w →
    ∃ h' j' tp' ou' fo' hd' a' w', ev g mL_law 18 [some (va_rf (some sc)), some (va_rf (some X)), some (va_rf (some (X + 27))), some (.int (nI (6 * j)))] [] h = some (some (.int (nI 1)), h') ∧ lI X sc L N0 U0 j' xs h' tp' ou' fo' hd' a' w' ∧ 6 * j' ≤ L + 6 := by
  intro m
  induction m with
  | zero =>
    intro j h tp ou fo hd a w h1 h2 I
    obtain ⟨c1, c2, c3, c4⟩ := I.2.2.2.2.1
    refine ⟨h, j, tp, ou, fo, hd, a, w, ?_, I, h2⟩
    have hv : nI L - nI 6 < nI (6 * j) := by
      rw [Int32.lt_iff_toInt_lt, sub_toInt (by omega) (by omega), nI_toInt (by omega)]
      omega
    obtain ⟨v, hv0⟩ : ∃ v, nI L - nI 6 = v := ⟨_, rfl⟩
    rw [hv0] at hv
    rw [e_L_law_18]
    simp (decide := true) (disch := omega) only [e_L_law_19, e_L_law_20, e_L_law_21, e_L_law_23, e_L_law_24, ↓reduceIte, if_true, if_false, reduceCtorEq, Nat.reduceAdd, true_and, and_true, false_and, and_false, true_or, or_true, false_or, or_false, not_true_eq_false, not_false_eq_true, Option.bind_eq_bind, Option.bind_some, psh, eq_self, l_0, l_1, l_2, l_3, l_4, l_5, l_6, l_7, l_8, l_9, l_10, l_11, l_12, l_13, l_14, l_15, l_16, l_17, l_18, l_19, l_20, l_24, l_31, l_32, l_33, l_35, l_36, l_48, l_56, l_57, l_58, l_63, l_65, l_80, l_81, l_90, l_91, l_93, l_94, l_95, l_97, l_100, l_105, l_107, l_110, l_111, l_116, l_120, l_121, l_122, l_123, l_124, l_125, l_126, l_162, l_255, l_300, l_400, l_420, l_432, l_1000, l_1400, l_1936, l_2000, l_2100, l_2400, l_24000, m_n1, m_n2, m_n3, nI_mul, nI_add, nI_sub, nI_ltT, nI_ltF, nI_leT, nI_leF, nI_eqT, nI_eqF, nI_nM, nM_nI, nM_eq, nM_lt, nM_le, nI_ltM, nI_leM, nI_inT, nI_dec, pk_rem, nI_ltI, nI_leI, nI_eq, nI_clamp, Nat.add_assoc, q_bv51, Nat.add_left_cancel_iff, c1, c2, hv0, hv]
    simp (decide := true) (disch := omega) only [e_L_law_775, e_L_law_776, ↓reduceIte, if_true, if_false, reduceCtorEq, Nat.reduceAdd, true_and, and_true, false_and, and_false, true_or, or_true, false_or, or_false, not_true_eq_false, not_false_eq_true, Option.bind_eq_bind, Option.bind_some, psh, eq_self, l_0, l_1, l_2, l_3, l_4, l_5, l_6, l_7, l_8, l_9, l_10, l_11, l_12, l_13, l_14, l_15, l_16, l_17, l_18, l_19, l_20, l_24, l_31, l_32, l_33, l_35, l_36, l_48, l_56, l_57, l_58, l_63, l_65, l_80, l_81, l_90, l_91, l_93, l_94, l_95, l_97, l_100, l_105, l_107, l_110, l_111, l_116, l_120, l_121, l_122, l_123, l_124, l_125, l_126, l_162, l_255, l_300, l_400, l_420, l_432, l_1000, l_1400, l_1936, l_2000, l_2100, l_2400, l_24000, m_n1, m_n2, m_n3, nI_mul, nI_add, nI_sub, nI_ltT, nI_ltF, nI_leT, nI_leF, nI_eqT, nI_eqF, nI_nM, nM_nI, nM_eq, nM_lt, nM_le, nI_ltM, nI_leM, nI_inT, nI_dec, pk_rem, nI_ltI, nI_leI, nI_eq, nI_clamp, Nat.add_assoc, q_bv51, Nat.add_left_cancel_iff]
  | succ m ih =>
    intro j h tp ou fo hd a w h1 h2 I
    obtain ⟨c1, c2, c3, c4⟩ := I.2.2.2.2.1
    by_cases c : 6 * j + 6 ≤ L
    · obtain ⟨v, hv, ev0⟩ := pk_andE (xs (6 * j)) (m := nI 31) 5 (by decide)
      obtain ⟨h2', tp', ou', fo', hd', a', w', e2, I2⟩ := L_sw (j := j) (c := v) hg c hL2 (by omega) I
      obtain ⟨h3, j', r⟩ := ih (j + 1) h2' tp' ou' fo' hd' a' w' (by omega) (by omega) I2
      obtain ⟨tp3, ou3, fo3, hd3, a3, w3, e3, r3⟩ := r
      refine ⟨h3, j', tp3, ou3, fo3, hd3, a3, w3, ?_, r3⟩
      have hd0 : ev g mL_law 18 [some (va_rf (some sc)), some (va_rf (some X)), some (va_rf (some (X + 27))), some (.int (nI (6 * j)))] [] h = ev g mL_law 33 [some (va_rf (some sc)), some (va_rf (some X)), some (va_rf (some (X + 27))), some (.int (nI (6 * j)))] [.int (nI v)] h := by
        rw [e_L_law_18]
        simp (decide := true) (disch := omega) only [e_L_law_19, e_L_law_20, e_L_law_21, e_L_law_23, e_L_law_24, e_L_law_27, e_L_law_28, e_L_law_29, e_L_law_30, e_L_law_32, ↓reduceIte, if_true, if_false, reduceCtorEq, Nat.reduceAdd, true_and, and_true, false_and, and_false, true_or, or_true, false_or, or_false, not_true_eq_false, not_false_eq_true, Option.bind_eq_bind, Option.bind_some, psh, eq_self, l_0, l_1, l_2, l_3, l_4, l_5, l_6, l_7, l_8, l_9, l_10, l_11, l_12, l_13, l_14, l_15, l_16, l_17, l_18, l_19, l_20, l_24, l_31, l_32, l_33, l_35, l_36, l_48, l_56, l_57, l_58, l_63, l_65, l_80, l_81, l_90, l_91, l_93, l_94, l_95, l_97, l_100, l_105, l_107, l_110, l_111, l_116, l_120, l_121, l_122, l_123, l_124, l_125, l_126, l_162, l_255, l_300, l_400, l_420, l_432, l_1000, l_1400, l_1936, l_2000, l_2100, l_2400, l_24000, m_n1, m_n2, m_n3, nI_mul, nI_add, nI_sub, nI_ltT, nI_ltF, nI_leT, nI_leF, nI_eqT, nI_eqF, nI_nM, nM_nI, nM_eq, nM_lt, nM_le, nI_ltM, nI_leM, nI_inT, nI_dec, pk_rem, nI_ltI, nI_leI, nI_eq, nI_clamp, Nat.add_assoc, q_bv51, Nat.add_left_cancel_iff, c1, c2, c3, ev0]
      rw [hd0, e2, ← e3, show 6 * (j + 1) = 6 * j + 6 by omega]
      simp (decide := true) (disch := omega) only [e_L_law_769, e_L_law_772, ↓reduceIte, if_true, if_false, reduceCtorEq, Nat.reduceAdd, true_and, and_true, false_and, and_false, true_or, or_true, false_or, or_false, not_true_eq_false, not_false_eq_true, Option.bind_eq_bind, Option.bind_some, psh, eq_self, l_0, l_1, l_2, l_3, l_4, l_5, l_6, l_7, l_8, l_9, l_10, l_11, l_12, l_13, l_14, l_15, l_16, l_17, l_18, l_19, l_20, l_24, l_31, l_32, l_33, l_35, l_36, l_48, l_56, l_57, l_58, l_63, l_65, l_80, l_81, l_90, l_91, l_93, l_94, l_95, l_97, l_100, l_105, l_107, l_110, l_111, l_116, l_120, l_121, l_122, l_123, l_124, l_125, l_126, l_162, l_255, l_300, l_400, l_420, l_432, l_1000, l_1400, l_1936, l_2000, l_2100, l_2400, l_24000, m_n1, m_n2, m_n3, nI_mul, nI_add, nI_sub, nI_ltT, nI_ltF, nI_leT, nI_leF, nI_eqT, nI_eqF, nI_nM, nM_nI, nM_eq, nM_lt, nM_le, nI_ltM, nI_leM, nI_inT, nI_dec, pk_rem, nI_ltI, nI_leI, nI_eq, nI_clamp, Nat.add_assoc, q_bv51, Nat.add_left_cancel_iff]
    · refine ⟨h, j, tp, ou, fo, hd, a, w, ?_, I, h2⟩
      have hv : nI L - nI 6 < nI (6 * j) := by
        rw [Int32.lt_iff_toInt_lt, sub_toInt (by omega) (by omega), nI_toInt (by omega)]
        omega
      obtain ⟨v, hv0⟩ : ∃ v, nI L - nI 6 = v := ⟨_, rfl⟩
      rw [hv0] at hv
      rw [e_L_law_18]
      simp (decide := true) (disch := omega) only [e_L_law_19, e_L_law_20, e_L_law_21, e_L_law_23, e_L_law_24, ↓reduceIte, if_true, if_false, reduceCtorEq, Nat.reduceAdd, true_and, and_true, false_and, and_false, true_or, or_true, false_or, or_false, not_true_eq_false, not_false_eq_true, Option.bind_eq_bind, Option.bind_some, psh, eq_self, l_0, l_1, l_2, l_3, l_4, l_5, l_6, l_7, l_8, l_9, l_10, l_11, l_12, l_13, l_14, l_15, l_16, l_17, l_18, l_19, l_20, l_24, l_31, l_32, l_33, l_35, l_36, l_48, l_56, l_57, l_58, l_63, l_65, l_80, l_81, l_90, l_91, l_93, l_94, l_95, l_97, l_100, l_105, l_107, l_110, l_111, l_116, l_120, l_121, l_122, l_123, l_124, l_125, l_126, l_162, l_255, l_300, l_400, l_420, l_432, l_1000, l_1400, l_1936, l_2000, l_2100, l_2400, l_24000, m_n1, m_n2, m_n3, nI_mul, nI_add, nI_sub, nI_ltT, nI_ltF, nI_leT, nI_leF, nI_eqT, nI_eqF, nI_nM, nM_nI, nM_eq, nM_lt, nM_le, nI_ltM, nI_leM, nI_inT, nI_dec, pk_rem, nI_ltI, nI_leI, nI_eq, nI_clamp, Nat.add_assoc, q_bv51, Nat.add_left_cancel_iff, c1, c2, hv0, hv]
      simp (decide := true) (disch := omega) only [e_L_law_775, e_L_law_776, ↓reduceIte, if_true, if_false, reduceCtorEq, Nat.reduceAdd, true_and, and_true, false_and, and_false, true_or, or_true, false_or, or_false, not_true_eq_false, not_false_eq_true, Option.bind_eq_bind, Option.bind_some, psh, eq_self, l_0, l_1, l_2, l_3, l_4, l_5, l_6, l_7, l_8, l_9, l_10, l_11, l_12, l_13, l_14, l_15, l_16, l_17, l_18, l_19, l_20, l_24, l_31, l_32, l_33, l_35, l_36, l_48, l_56, l_57, l_58, l_63, l_65, l_80, l_81, l_90, l_91, l_93, l_94, l_95, l_97, l_100, l_105, l_107, l_110, l_111, l_116, l_120, l_121, l_122, l_123, l_124, l_125, l_126, l_162, l_255, l_300, l_400, l_420, l_432, l_1000, l_1400, l_1936, l_2000, l_2100, l_2400, l_24000, m_n1, m_n2, m_n3, nI_mul, nI_add, nI_sub, nI_ltT, nI_ltF, nI_leT, nI_leF, nI_eqT, nI_eqF, nI_nM, nM_nI, nM_eq, nM_lt, nM_le, nI_ltM, nI_leM, nI_inT, nI_dec, pk_rem, nI_ltI, nI_leI, nI_eq, nI_clamp, Nat.add_assoc, q_bv51, Nat.add_left_cancel_iff]
/-- the start: all is empty -/
def ch00 : Nat → Ch := fun _ => (0, 0, false, [], 0, 0, 0, [])
theorem c27.kp {X : Nat} {h h' : PH} (c : c27 h X) (s : sm (fun _ => False) h h') (hn : hN h = X + 27) : c27 h' X := by
  obtain ⟨⟨c1, c2, c3⟩, ⟨r1, r2, r3, r4, r5, r6⟩, ⟨i1, i2, i3, i4, i5, i6⟩, i7, i8⟩ := c
  have hk : ∀ e ∈ ckt, e.1 < 27 := by decide
  have hr : ∀ e ∈ crt, e.2.1 < 27 := by decide
  have hl : ∀ e ∈ clt, e.1 < 27 := by decide
  have lt : ∀ j, j < 27 → X + j < hN h := fun j hj => by omega
  have nf : ¬ False := fun z => z
  refine ⟨⟨fun e he => (s.2.2 _ (lt _ (hk e he))).1.trans (c1 e he), fun e he => (((s.2.2 _ (lt _ (hr e he))).2.2 nf).2.1 _).trans (c2 e he), fun e he => (s.2.2 _ (lt _ (hl e he))).2.1.trans (c3 e he)⟩, ⟨r1.keep s (lt _ (by decide)) (lt _ (by decide)) nf nf, r2.keep s (lt _ (by decide)) (lt _ (by decide)) nf nf, r3.keep s (lt _ (by decide)) (lt _ (by decide)) nf nf, r4.keep s (lt _ (by decide)) (lt _ (by decide)) nf nf, r5.keep s (lt _ (by decide)) (lt _ (by decide)) nf nf, r6.keep s (lt _ (by decide)) (lt _ (by decide)) nf nf⟩, ⟨?_, ?_, ?_, ?_, ?_, fun i => ?_⟩, ?_, ?_⟩
  · exact (((s.2.2 _ (lt 0 (by decide))).2.2 nf).1 _).trans i1
  · exact (((s.2.2 _ (lt 0 (by decide))).2.2 nf).2.1 _).trans i2
  · exact (((s.2.2 _ (lt 0 (by decide))).2.2 nf).1 _).trans i3
  · exact (((s.2.2 _ (lt 11 (by decide))).2.2 nf).1 _).trans i4
  · exact (((s.2.2 _ (lt 11 (by decide))).2.2 nf).1 _).trans i5
  · rw [((s.2.2 _ (lt 13 (by decide))).2.2 nf).2.2.2.1]; exact i6 i
  · exact (((s.2.2 _ (lt 26 (by decide))).2.2 nf).1 _).trans i7
  · rw [s.2.1]; exact (((s.2.2 _ (lt 26 (by decide))).2.2 nf).2.1 _).trans i8
theorem c27.I {X : Nat} {h : PH} (c : c27 h X) (hn : X + 57 ≤ hN h) (ht : ∀ k, k < 4 → hK h (hS h k) = 70 + k ∧ hS h k < X) (h9 : hS h 9 < X ∧ (hK h (hS h 9) = 55 → hL h (hS h 9) = 0)) : cI (fun _ => False) h X [] [] [] none none (0, ch00, 0, fun _ => nm0) := by
  obtain ⟨⟨c1, c2, c3⟩, ⟨r1, r2, r3, r4, r5, r6⟩, ⟨i1, i2, i3, i4, i5, i6⟩, i7, i8⟩ := c
  refine ⟨⟨⟨hn, c1, c2, c3, ht⟩, fun x hx => hx.elim, ⟨⟨i4, i5, by decide, by decide⟩, fun c h1 h2 => by simp only at h2; omega, fun t p h1 h2 => ?_, fun p hp => absurd hp (Nat.not_lt_zero _)⟩, fun t ht => by cases ht⟩, ⟨⟨_, r1⟩, ⟨_, r2⟩, ⟨_, _, r3⟩, ⟨_, _, r4⟩⟩, ⟨⟨i1, fun k hk => absurd hk (Nat.not_lt_zero _), by decide⟩, i2, i3⟩, ⟨⟨_, _, r5⟩, X + 19, 0, 0, [], 0, r6, fun z => z, by omega, Or.inl rfl, by decide⟩, [], hS h 9, ⟨⟨i7, i8⟩, Or.inl ⟨rfl, rfl, h9.2⟩⟩, fun z => z, by omega, Or.inl h9.1⟩
  have ht0 : t = 0 := by simpa using h1
  subst ht0
  rw [i6]
  rfl
theorem pot_le {Q : Nat → Prop} (I : cI Q h X tp ou fo hd a w) : pot h X ≤ 303000 := by
  obtain ⟨-, wb, cap, bd, l2, o2, r2, r3, r4, r5, r6⟩ := I.2.2.2.1
  obtain ⟨l, e, ⟨⟨a1, a2⟩, a3⟩, b1, b2, b3⟩ := I.2.2.2.2
  have e1 : wcap h X ≤ 300000 := by
    unfold wcap
    rw [r2.1.2.1]
    have := r2.1.2.2.2
    simp only
    omega
  have e2 : lcap h X ≤ 3000 := by
    rcases a3 with ⟨z1, z2, z3⟩ | ⟨z1, z2, z3, z4, -⟩
    · rw [lcap_0 a2 z3]; omega
    · rw [lcap_eq a2 z1]; exact z4
  unfold pot
  omega
/-- THE LAW ANSWERS 1 -/
theorem L_law {g sc : Nat} {h : PH} (hg : 7 ≤ g) (hs : hK h sc = 60 ∧ hL h sc ≤ 3072 ∧ sc < hN h) (ht : ∀ k, k < 4 → hK h (hS h k) = 70 + k ∧ hS h k < hN h) (h9 : hS h 9 < hN h ∧ (hK h (hS h 9) = 55 → hL h (hS h 9) = 0)) : ∃ h', cal g mL_law [va_rf (some sc)] h = some (some (.int (nI 1)), h') ∧ hN h' ≤ hN h + 430000 ∧ hU h' ≤ hU h + 3200000 := by
  obtain ⟨h1, e1, s1, n1, u1, c1⟩ := i_pageweb (g := g) (h := h) (X := hN h) rfl (ht 0 (by decide)).1 (ht 0 (by decide)).2
  obtain ⟨h2, e2, s2, n2, u2, d2, i2, i13, a17⟩ := i_model (g := g) (h := h1) (M := hN h + 27) n1
  have s12 : sm (fun _ => False) h h2 := s1.tr s2
  have nf : ¬ False := fun z => z
  have sS : hS h2 = hS h := s12.2.1
  have I0 := (c1.kp s2 n1).I (by omega) (fun k hk => by
    rw [sS, (s12.2.2 _ (ht k hk).2).1]
    exact ht k hk) (by
    rw [sS, (s12.2.2 _ h9.1).1, (s12.2.2 _ h9.1).2.1]
    exact h9)
  have J0 : mI h2 (hN h + 27) [] [] [] none none (0, ch00, 0, fun _ => nm0) := by
    refine ⟨⟨d2, ⟨i2 15 (by decide), fun k hk => absurd hk (Nat.not_lt_zero _), by decide, fun x hx => absurd hx List.not_mem_nil⟩, ⟨i2 17 (by decide), fun k hk => absurd hk (Nat.not_lt_zero _), by decide, fun x hx => absurd hx List.not_mem_nil⟩, ⟨i2 35 (by decide), fun k hk => absurd hk (Nat.not_lt_zero _), by decide⟩⟩, i2 22 (by decide), i13, ⟨⟨i2 0 (by decide), by decide, fun c h1 h2 => by simp only at h2; omega⟩, by decide⟩, ⟨⟨i2 10 (by decide), by decide, fun p hp => absurd hp (Nat.not_lt_zero _)⟩, by decide⟩, fun t ht => by cases ht⟩
  have sc2 := s12.2.2 sc hs.2.2
  have I : lI (hN h) sc (hL h sc) (hN h2) (hU h2) 0 (hA h sc) h2 [] [] [] none none (0, ch00, 0, fun _ => nm0) :=
    ⟨⟨_, I0⟩, J0, ⟨fun _ => false, fun p hp => a17 p⟩, fun c h1 h2 => by simp only at h2; omega, ⟨sc2.1.trans hs.1, sc2.2.1, (sc2.2.2 nf).2.2.2.1, hs.2.2⟩, by omega, by omega⟩
  obtain ⟨h', j', tp', ou', fo', hd', a', w', e3, I3, hj⟩ := L_loop hg hs.2.1 1000 0 h2 _ _ _ _ _ _ (by omega) (by omega) I
  obtain ⟨Q3, I31⟩ := I3.1
  have hp := pot_le I31
  have hw := I31.1.2.2.1.1.2.2.1
  have b1 := I3.2.2.2.2.2.1
  have b2 := I3.2.2.2.2.2.2
  have hL := hs.2.1
  refine ⟨h', ?_, by omega, by omega⟩
  rw [n_L_law]
  have e3' : ev g mL_law 18 [some (va_rf (some sc)), some (va_rf (some (hN h))), some (va_rf (some (hN h + 27))), some (.int (nI 0))] [] h2 = some (some (.int (nI 1)), h') := e3
  rw [← e3']
  simp (decide := true) (disch := omega) only [e_L_law_0, e_L_law_3, e_L_law_4, e_L_law_7, e_L_law_8, e_L_law_11, e_L_law_12, e_L_law_15, e_L_law_16, e_L_law_17, ↓reduceIte, if_true, if_false, reduceCtorEq, Nat.reduceAdd, true_and, and_true, false_and, and_false, true_or, or_true, false_or, or_false, not_true_eq_false, not_false_eq_true, Option.bind_eq_bind, Option.bind_some, psh, eq_self, l_0, l_1, l_2, l_3, l_4, l_5, l_6, l_7, l_8, l_9, l_10, l_11, l_12, l_13, l_14, l_15, l_16, l_17, l_18, l_19, l_20, l_24, l_31, l_32, l_33, l_35, l_36, l_48, l_56, l_57, l_58, l_63, l_65, l_80, l_81, l_90, l_91, l_93, l_94, l_95, l_97, l_100, l_105, l_107, l_110, l_111, l_116, l_120, l_121, l_122, l_123, l_124, l_125, l_126, l_162, l_255, l_300, l_400, l_420, l_432, l_1000, l_1400, l_1936, l_2000, l_2100, l_2400, l_24000, m_n1, m_n2, m_n3, nI_mul, nI_add, nI_sub, nI_ltT, nI_ltF, nI_leT, nI_leF, nI_eqT, nI_eqF, nI_nM, nM_nI, nM_eq, nM_lt, nM_le, nI_ltM, nI_leM, nI_inT, nI_dec, pk_rem, nI_ltI, nI_leI, nI_eq, nI_clamp, Nat.add_assoc, q_bv51, Nat.add_left_cancel_iff, e1, n1, e2]
end
