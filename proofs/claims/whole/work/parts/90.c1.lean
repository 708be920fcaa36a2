/-! tokens out of parts; PageWeb: feed, end, take, as, name, named, text, read -/
def exq (e : Pt) : List Tk := match e.2.2.2.2 with
  | none => (List.range' e.2.1 (e.2.2.1 - e.2.1)).map (fun k => (k, none))
  | some q => [(e.2.1, some (e.1 + 1, e.2.2.1 - 2, e.2.2.2.1, q))]
theorem tks_run {t : List Nat} : ∀ {d i K K' : Nat}, i + d ≤ t.length → (∀ k, i ≤ k → k < i + d → tok t k = none) → t.length ≤ i + K → t.length ≤ i + d + K' → tks t K i = (List.range' i d).map (fun k => (k, none)) ++ tks t K' (i + d)
  | 0, i, K, K', _, _, h3, h4 => by
    rw [List.range'_zero, List.map_nil, List.nil_append]
    exact tks_fuel h3 h4
  | d + 1, i, K, K', h1, h2, h3, h4 => by
    obtain ⟨K0, rfl⟩ : ∃ K0, K = K0 + 1 := ⟨K - 1, by omega⟩
    have e0 := h2 i (Nat.le_refl _) (by omega)
    have en : nxt t i = i + 1 := by unfold nxt; rw [e0]
    rw [tks, if_pos (by omega), e0, en, tks_run (d := d) (K' := K') (by omega) (fun k k1 k2 => h2 k (by omega) (by omega)) (by omega) (by omega), List.range'_succ, List.map_cons, List.cons_append, show i + 1 + d = i + (d + 1) by omega]
theorem pln_none {t : List Nat} : ∀ {m b k : Nat}, b ≤ k → k < pln t m b → tok t k = none
  | 0, b, k, h1, h2 => by rw [pln] at h2; omega
  | m + 1, b, k, h1, h2 => by
    rw [pln] at h2
    split at h2
    · rename_i c
      by_cases z : k = b
      · rw [z]; exact Option.isNone_iff_eq_none.mp c.2
      · exact pln_none (b := b + 1) (by omega) h2
    · omega
theorem pts_flat {t : List Nat} : ∀ {m i : Nat}, t.length ≤ i + m → i ≤ t.length → (pts t m i).flatMap exq = tks t m i
  | 0, i, _, _ => rfl
  | m + 1, i, h, hi => by
    rw [pts]
    by_cases c : i < t.length
    · rw [if_pos c]
      cases e : tok t i with
      | none =>
        have pg : i < pln t t.length i := by
          obtain ⟨k0, hk0⟩ : ∃ k0, t.length = k0 + 1 := ⟨t.length - 1, by omega⟩
          have : pln t (k0 + 1) i = pln t k0 (i + 1) := by rw [pln, if_pos ⟨c, by rw [e]; rfl⟩]
          rw [hk0, this]
          exact pln_ge
        have pl := pln_le (t := t) (m := t.length) hi
        simp only
        rw [List.flatMap_cons, pts_flat (by omega) pl]
        have := tks_run (t := t) (d := pln t t.length i - i) (i := i) (K := m + 1) (K' := m) (by omega) (fun k k1 k2 => pln_none (m := t.length) k1 (by omega)) (by omega) (by omega)
        rw [show i + (pln t t.length i - i) = pln t t.length i by omega] at this
        rw [this]
        rfl
      | some r =>
        obtain ⟨s, j, b, q⟩ := r
        have tl := tok_len e
        have en : nxt t i = j + 2 := by unfold nxt; rw [e]
        simp only
        rw [List.flatMap_cons, pts_flat (by omega) tl.2.2.1, tks, if_pos c, e, en]
        have es : exq (s - 1, i, j + 2, b, some q) = [(i, some (s - 1 + 1, j, b, q))] := rfl
        rw [es, show s - 1 + 1 = s by omega]
        rfl
    · rw [if_neg c, tks, if_neg c]
      rfl
theorem ptl_flat (t : List Nat) : (ptl t).flatMap exq = tkl t := pts_flat (by omega) (Nat.zero_le _)
/-- how much there is of a sort -/
def amt (k : Nat) (es : List Pt) : Nat := (es.map (fun e => if e.1 = k then (if k = 2 then e.2.2.1 - e.2.1 else 1) else 0)).sum
theorem amt_flat {k : Nat} (hk : k < 3) : ∀ {es : List Pt}, (∀ e ∈ es, e.1 < 3 ∧ (e.1 ≠ 2 → ∃ q, e.2.2.2.2 = some q) ∧ (e.1 = 2 → e.2.2.2.2 = none)) → (es.flatMap exq).countP (fun e => tso e == (if k = 0 then 1 else if k = 1 then 2 else 0)) = amt k es
  | [], _ => rfl
  | e :: es, h => by
    have ih := amt_flat hk (es := es) (fun x hx => h x (List.mem_cons_of_mem _ hx))
    obtain ⟨h1, h2, h3⟩ := h e List.mem_cons_self
    have ea : amt k (e :: es) = (if e.1 = k then (if k = 2 then e.2.2.1 - e.2.1 else 1) else 0) + amt k es := by simp [amt]
    rw [List.flatMap_cons, List.countP_append, ih, ea]
    congr 1
    by_cases c : e.1 = 2
    · have e3 := h3 c
      unfold exq
      rw [e3, c]
      simp only [List.countP_map]
      by_cases ck : k = 2
      · subst ck
        rw [if_pos rfl, if_pos rfl, List.countP_eq_length.mpr (by intro a _; rfl)]
        simp
      · have e0 : (if (2 : Nat) = k then (if k = 2 then e.2.2.1 - e.2.1 else 1) else 0) = 0 := if_neg (fun z => ck z.symm)
        rw [e0]
        apply List.countP_eq_zero.mpr
        intro a _
        have : k = 0 ∨ k = 1 := by omega
        rcases this with rfl | rfl <;> simp [tso]
    · obtain ⟨q, e2⟩ := h2 c
      unfold exq
      rw [e2]
      have h01 : e.1 = 0 ∨ e.1 = 1 := by omega
      have hk' : k = 0 ∨ k = 1 ∨ k = 2 := by omega
      rcases h01 with z | z <;> rcases hk' with rfl | rfl | rfl <;> simp [tso, z]
theorem ptl_amt {k : Nat} (hk : k < 3) (t : List Nat) : (tkl t).countP (fun e => tso e == (if k = 0 then 1 else if k = 1 then 2 else 0)) = amt k (ptl t) := by
  rw [← ptl_flat t]
  refine amt_flat hk (fun e he => ?_)
  have so := ptl_sort he
  refine ⟨so.1, fun z => ?_, so.2.2.2.2.2⟩
  obtain ⟨-, s, j, b, q, -, e2⟩ := so.2.2.2.2.1 z
  rw [e2]
  exact ⟨q, rfl⟩
theorem amt_le {k n : Nat} : ∀ {es : List Pt}, (∀ e ∈ es, e.2.2.1 - e.2.1 ≤ n ∧ 1 ≤ n) → amt k es ≤ n * es.length
  | [], _ => Nat.zero_le _
  | e :: es, h => by
    have ih := amt_le (k := k) (n := n) (es := es) (fun x hx => h x (List.mem_cons_of_mem _ hx))
    have h1 := h e List.mem_cons_self
    have ea : amt k (e :: es) = (if e.1 = k then (if k = 2 then e.2.2.1 - e.2.1 else 1) else 0) + amt k es := by simp [amt]
    rw [ea, List.length_cons, Nat.mul_succ]
    have : (if e.1 = k then (if k = 2 then e.2.2.1 - e.2.1 else 1) else 0) ≤ n := by split <;> (try split) <;> omega
    omega
theorem pts_len {t : List Nat} : ∀ {m i : Nat}, i ≤ t.length → (pts t m i).length ≤ t.length - i
  | 0, i, _ => Nat.zero_le _
  | m + 1, i, hi => by
    rw [pts]
    by_cases c : i < t.length
    · rw [if_pos c]
      cases e : tok t i with
      | none =>
        have pg : i < pln t t.length i := by
          obtain ⟨k0, hk0⟩ : ∃ k0, t.length = k0 + 1 := ⟨t.length - 1, by omega⟩
          have : pln t (k0 + 1) i = pln t k0 (i + 1) := by rw [pln, if_pos ⟨c, by rw [e]; rfl⟩]
          rw [hk0, this]
          exact pln_ge
        have pl := pln_le (t := t) (m := t.length) hi
        have := pts_len (t := t) (m := m) pl
        simp only [List.length_cons]
        omega
      | some r =>
        obtain ⟨s, j, b, q⟩ := r
        have tl := tok_len e
        have := pts_len (t := t) (m := m) tl.2.2.1
        simp only [List.length_cons]
        omega
    · rw [if_neg c]
      exact Nat.zero_le _
theorem c_amount {g b k : Nat} {Q : Nat → Prop} {h : PH} {t : List Nat} (T : txt Q h b t) (ht : t.length ≤ 300) (hk : k < 3) : cal g mX8_amount [va_rf (some b), .int (nI k)] h = some (some (.int (nI (amt k (ptl t)))), h) := by
  rw [n_X8_amount]
  obtain ⟨⟨-, k8⟩, -, T1, -⟩ := T
  have key : ∀ (es : List Pt) (r : Option Nat) (n : Nat), sgm Q h r es none → (∀ e ∈ es, e ∈ ptl t) → n + 300 * es.length ≤ 100000 → ev g mX8_amount 7 [some (va_rf (some b)), some (.int (nI k)), some (.int (nI n)), some (va_rf r)] [] h = some (some (.int (nI (n + amt k es))), h) := by
    intro es
    induction es with
    | nil =>
      intro r n hs _ hn
      have : r = none := hs
      subst this
      rw [e_X8_amount_7]
      simp (decide := true) (disch := omega) only [e_X8_amount_0, e_X8_amount_1, e_X8_amount_2, e_X8_amount_3, e_X8_amount_6, e_X8_amount_8, e_X8_amount_11, e_X8_amount_12, e_X8_amount_15, e_X8_amount_16, e_X8_amount_19, e_X8_amount_20, e_X8_amount_21, e_X8_amount_22, e_X8_amount_25, e_X8_amount_26, e_X8_amount_29, e_X8_amount_30, e_X8_amount_33, e_X8_amount_34, e_X8_amount_37, e_X8_amount_38, e_X8_amount_39, e_X8_amount_40, e_X8_amount_41, e_X8_amount_44, e_X8_amount_45, e_X8_amount_48, e_X8_amount_49, ↓reduceIte, if_true, if_false, reduceCtorEq, Nat.reduceAdd, true_and, and_true, false_and, and_false, true_or, or_true, false_or, or_false, not_true_eq_false, not_false_eq_true, Option.bind_eq_bind, Option.bind_some, psh, eq_self, l_0, l_1, l_2, l_3, l_4, l_5, l_6, l_7, l_8, l_9, l_10, l_11, l_12, l_13, l_14, l_15, l_16, l_17, l_18, l_19, l_20, l_24, l_31, l_32, l_33, l_35, l_36, l_48, l_56, l_57, l_58, l_63, l_65, l_80, l_81, l_90, l_91, l_93, l_94, l_95, l_97, l_100, l_105, l_107, l_110, l_111, l_116, l_120, l_121, l_122, l_123, l_124, l_125, l_126, l_162, l_255, l_300, l_400, l_420, l_432, l_1000, l_1400, l_1936, l_2000, l_2100, l_2400, l_24000, m_n1, m_n2, m_n3, nI_mul, nI_add, nI_sub, nI_ltT, nI_ltF, nI_leT, nI_leF, nI_eqT, nI_eqF, nI_nM, nM_nI, nM_eq, nM_lt, nM_le, nI_ltM, nI_leM, nI_inT, nI_dec, pk_rem, nI_ltI, nI_leI, nI_eq, nI_clamp, Nat.add_assoc, q_bv51, Nat.add_left_cancel_iff]
      rfl
    | cons e es ih =>
      intro r n hs hin hn
      obtain ⟨a, rfl, p1, hs2⟩ := hs
      have so := ptl_sort (hin e List.mem_cons_self)
      obtain ⟨⟨-, k4, i0, i1, i2, -⟩, -⟩ := p1
      have ea : amt k (e :: es) = (if e.1 = k then (if k = 2 then e.2.2.1 - e.2.1 else 1) else 0) + amt k es := by simp [amt]
      simp only [List.length_cons] at hn
      rw [e_X8_amount_7, ea]
      by_cases c1 : e.1 = k
      · rw [if_pos c1]
        by_cases c2 : k = 2
        · rw [if_pos c2, ← Nat.add_assoc, ← ih (hR h 5 a) _ hs2 (fun x hx => hin x (List.mem_cons_of_mem _ hx)) (by omega)]
          simp (decide := true) (disch := omega) only [e_X8_amount_0, e_X8_amount_1, e_X8_amount_2, e_X8_amount_3, e_X8_amount_6, e_X8_amount_8, e_X8_amount_11, e_X8_amount_12, e_X8_amount_15, e_X8_amount_16, e_X8_amount_19, e_X8_amount_20, e_X8_amount_21, e_X8_amount_22, e_X8_amount_25, e_X8_amount_26, e_X8_amount_29, e_X8_amount_30, e_X8_amount_33, e_X8_amount_34, e_X8_amount_37, e_X8_amount_38, e_X8_amount_39, e_X8_amount_40, e_X8_amount_41, e_X8_amount_44, e_X8_amount_45, e_X8_amount_48, e_X8_amount_49, ↓reduceIte, if_true, if_false, reduceCtorEq, Nat.reduceAdd, true_and, and_true, false_and, and_false, true_or, or_true, false_or, or_false, not_true_eq_false, not_false_eq_true, Option.bind_eq_bind, Option.bind_some, psh, eq_self, l_0, l_1, l_2, l_3, l_4, l_5, l_6, l_7, l_8, l_9, l_10, l_11, l_12, l_13, l_14, l_15, l_16, l_17, l_18, l_19, l_20, l_24, l_31, l_32, l_33, l_35, l_36, l_48, l_56, l_57, l_58, l_63, l_65, l_80, l_81, l_90, l_91, l_93, l_94, l_95, l_97, l_100, l_105, l_107, l_110, l_111, l_116, l_120, l_121, l_122, l_123, l_124, l_125, l_126, l_162, l_255, l_300, l_400, l_420, l_432, l_1000, l_1400, l_1936, l_2000, l_2100, l_2400, l_24000, m_n1, m_n2, m_n3, nI_mul, nI_add, nI_sub, nI_ltT, nI_ltF, nI_leT, nI_leF, nI_eqT, nI_eqF, nI_nM, nM_nI, nM_eq, nM_lt, nM_le, nI_ltM, nI_leM, nI_inT, nI_dec, pk_rem, nI_ltI, nI_leI, nI_eq, nI_clamp, Nat.add_assoc, q_bv51, Nat.add_left_cancel_iff, reduceCtorEq, k4, i0, i1, i2]
        · rw [if_neg c2, ← Nat.add_assoc, ← ih (hR h 5 a) _ hs2 (fun x hx => hin x (List.mem_cons_of_mem _ hx)) (by omega)]
          simp (decide := true) (disch := omega) only [e_X8_amount_0, e_X8_amount_1, e_X8_amount_2, e_X8_amount_3, e_X8_amount_6, e_X8_amount_8, e_X8_amount_11, e_X8_amount_12, e_X8_amount_15, e_X8_amount_16, e_X8_amount_19, e_X8_amount_20, e_X8_amount_21, e_X8_amount_22, e_X8_amount_25, e_X8_amount_26, e_X8_amount_29, e_X8_amount_30, e_X8_amount_33, e_X8_amount_34, e_X8_amount_37, e_X8_amount_38, e_X8_amount_39, e_X8_amount_40, e_X8_amount_41, e_X8_amount_44, e_X8_amount_45, e_X8_amount_48, e_X8_amount_49, ↓reduceIte, if_true, if_false, reduceCtorEq, Nat.reduceAdd, true_and, and_true, false_and, and_false, true_or, or_true, false_or, or_false, not_true_eq_false, not_false_eq_true, Option.bind_eq_bind, Option.bind_some, psh, eq_self, l_0, l_1, l_2, l_3, l_4, l_5, l_6, l_7, l_8, l_9, l_10, l_11, l_12, l_13, l_14, l_15, l_16, l_17, l_18, l_19, l_20, l_24, l_31, l_32, l_33, l_35, l_36, l_48, l_56, l_57, l_58, l_63, l_65, l_80, l_81, l_90, l_91, l_93, l_94, l_95, l_97, l_100, l_105, l_107, l_110, l_111, l_116, l_120, l_121, l_122, l_123, l_124, l_125, l_126, l_162, l_255, l_300, l_400, l_420, l_432, l_1000, l_1400, l_1936, l_2000, l_2100, l_2400, l_24000, m_n1, m_n2, m_n3, nI_mul, nI_add, nI_sub, nI_ltT, nI_ltF, nI_leT, nI_leF, nI_eqT, nI_eqF, nI_nM, nM_nI, nM_eq, nM_lt, nM_le, nI_ltM, nI_leM, nI_inT, nI_dec, pk_rem, nI_ltI, nI_leI, nI_eq, nI_clamp, Nat.add_assoc, q_bv51, Nat.add_left_cancel_iff, reduceCtorEq, k4, i0, i1, i2]
      · rw [if_neg c1, Nat.zero_add, ← ih (hR h 5 a) _ hs2 (fun x hx => hin x (List.mem_cons_of_mem _ hx)) (by omega)]
        simp (decide := true) (disch := omega) only [e_X8_amount_0, e_X8_amount_1, e_X8_amount_2, e_X8_amount_3, e_X8_amount_6, e_X8_amount_8, e_X8_amount_11, e_X8_amount_12, e_X8_amount_15, e_X8_amount_16, e_X8_amount_19, e_X8_amount_20, e_X8_amount_21, e_X8_amount_22, e_X8_amount_25, e_X8_amount_26, e_X8_amount_29, e_X8_amount_30, e_X8_amount_33, e_X8_amount_34, e_X8_amount_37, e_X8_amount_38, e_X8_amount_39, e_X8_amount_40, e_X8_amount_41, e_X8_amount_44, e_X8_amount_45, e_X8_amount_48, e_X8_amount_49, ↓reduceIte, if_true, if_false, reduceCtorEq, Nat.reduceAdd, true_and, and_true, false_and, and_false, true_or, or_true, false_or, or_false, not_true_eq_false, not_false_eq_true, Option.bind_eq_bind, Option.bind_some, psh, eq_self, l_0, l_1, l_2, l_3, l_4, l_5, l_6, l_7, l_8, l_9, l_10, l_11, l_12, l_13, l_14, l_15, l_16, l_17, l_18, l_19, l_20, l_24, l_31, l_32, l_33, l_35, l_36, l_48, l_56, l_57, l_58, l_63, l_65, l_80, l_81, l_90, l_91, l_93, l_94, l_95, l_97, l_100, l_105, l_107, l_110, l_111, l_116, l_120, l_121, l_122, l_123, l_124, l_125, l_126, l_162, l_255, l_300, l_400, l_420, l_432, l_1000, l_1400, l_1936, l_2000, l_2100, l_2400, l_24000, m_n1, m_n2, m_n3, nI_mul, nI_add, nI_sub, nI_ltT, nI_ltF, nI_leT, nI_leF, nI_eqT, nI_eqF, nI_nM, nM_nI, nM_eq, nM_lt, nM_le, nI_ltM, nI_leM, nI_inT, nI_dec, pk_rem, nI_ltI, nI_leI, nI_eq, nI_clamp, Nat.add_assoc, q_bv51, Nat.add_left_cancel_iff, reduceCtorEq, k4, i0, i1, i2]
  have hl := pts_len (t := t) (m := t.length) (Nat.zero_le _)
  have hl' : (ptl t).length ≤ 300 := by unfold ptl; omega
  have := key (ptl t) (hR h 1 b) 0 T1 (fun e he => he) (by omega)
  rw [Nat.zero_add] at this
  rw [← this]
  simp (decide := true) (disch := omega) only [e_X8_amount_0, e_X8_amount_1, e_X8_amount_2, e_X8_amount_3, e_X8_amount_6, e_X8_amount_8, e_X8_amount_11, e_X8_amount_12, e_X8_amount_15, e_X8_amount_16, e_X8_amount_19, e_X8_amount_20, e_X8_amount_21, e_X8_amount_22, e_X8_amount_25, e_X8_amount_26, e_X8_amount_29, e_X8_amount_30, e_X8_amount_33, e_X8_amount_34, e_X8_amount_37, e_X8_amount_38, e_X8_amount_39, e_X8_amount_40, e_X8_amount_41, e_X8_amount_44, e_X8_amount_45, e_X8_amount_48, e_X8_amount_49, ↓reduceIte, if_true, if_false, reduceCtorEq, Nat.reduceAdd, true_and, and_true, false_and, and_false, true_or, or_true, false_or, or_false, not_true_eq_false, not_false_eq_true, Option.bind_eq_bind, Option.bind_some, psh, eq_self, l_0, l_1, l_2, l_3, l_4, l_5, l_6, l_7, l_8, l_9, l_10, l_11, l_12, l_13, l_14, l_15, l_16, l_17, l_18, l_19, l_20, l_24, l_31, l_32, l_33, l_35, l_36, l_48, l_56, l_57, l_58, l_63, l_65, l_80, l_81, l_90, l_91, l_93, l_94, l_95, l_97, l_100, l_105, l_107, l_110, l_111, l_116, l_120, l_121, l_122, l_123, l_124, l_125, l_126, l_162, l_255, l_300, l_400, l_420, l_432, l_1000, l_1400, l_1936, l_2000, l_2100, l_2400, l_24000, m_n1, m_n2, m_n3, nI_mul, nI_add, nI_sub, nI_ltT, nI_ltF, nI_leT, nI_leF, nI_eqT, nI_eqF, nI_nM, nM_nI, nM_eq, nM_lt, nM_le, nI_ltM, nI_leM, nI_inT, nI_dec, pk_rem, nI_ltI, nI_leI, nI_eq, nI_clamp, Nat.add_assoc, q_bv51, Nat.add_left_cancel_iff, k8]
theorem bt_shr (v : Int32) (k : Int32) (s : Nat) (hs : (k.toUInt32 &&& Int32.toUInt32 31).toBitVec.toNat % 32 = s) : bt (v.toUInt32 >>> (k.toUInt32 &&& Int32.toUInt32 31)).toInt32 = nb v s := by
  unfold bt nb
  show (v.toUInt32 >>> (k.toUInt32 &&& Int32.toUInt32 31)).toBitVec.toNat % 256 = _
  rw [UInt32.toBitVec_shiftRight, BitVec.ushiftRight_eq', BitVec.toNat_ushiftRight, BitVec.toNat_umod, show (32 : BitVec 32).toNat = 32 from rfl, hs, Nat.shiftRight_eq_div_pow]
  rfl
theorem bt_4 (v : Int32) : [bt (v.toUInt32 >>> (Int32.toUInt32 24 &&& Int32.toUInt32 31)).toInt32, bt (v.toUInt32 >>> (Int32.toUInt32 16 &&& Int32.toUInt32 31)).toInt32, bt (v.toUInt32 >>> (Int32.toUInt32 8 &&& Int32.toUInt32 31)).toInt32, bt v] = nb4 v := by
  rw [bt_shr v 24 24 (by decide), bt_shr v 16 16 (by decide), bt_shr v 8 8 (by decide)]
  have : bt v = nb v 0 := by unfold bt nb; rw [Nat.pow_zero, Nat.div_one]
  rw [this]
  rfl
section
variable {g X : Nat} {Q : Nat → Prop} {h : PH} {tp ou fo : List Nat} {hd : Option Nm} {a : Option Nat} {w : Wd}
/-- rows alone are changed -/
theorem cI.row {P Q' : Nat → Prop} {h' : PH} {tp' ou' : List Nat} (I : cI Q h X tp ou fo hd a w) (s : cfm X P h h') (hP : ∀ x, P x → X + 1 ≤ x ∧ x ≤ X + 6 ∨ x = X + 9 ∨ x = X + 10) (h1 : ∀ x, Q x → Q' x) (h2 : ∀ x, Q' x → Q x ∨ hN h ≤ x ∧ x < hN h') (r1 : cT h' X tp') (r2 : cO h' X ou') (r3 : cDr h' X) (r4 : cF h' X) : cI Q' h' X tp' ou' fo hd a w ∧ cfm X (cP X) h h' := by
  obtain ⟨u1, u2, u3, u4, u5, u6, u7, u8, u9, u10, u11, u12⟩ := I.kp [1, 2, 3, 4, 5, 6, 9, 10] s (fun k hk hn z => by
    have := hP _ z
    simp only [List.mem_cons, List.not_mem_nil, or_false, not_or] at hn
    omega) (fun x hx _ z => by have := hP x z; omega) (fun x hx z => by have := hP x z; omega) h1 h2
  exact ⟨⟨⟨u1, u2, u3 (fun k k1 k2 => by simp only [List.mem_cons, List.not_mem_nil, or_false, not_or]; omega), I.1.2.2.2⟩, ⟨r1, r2, r3, r4⟩, ⟨u8 (by decide) (by decide), u9 (by decide), u10 (by decide)⟩, u11 (by decide) (by decide) (by decide) (by decide), u12 (by decide)⟩, s.mono (fun x _ z => by have := hP x z; unfold cP; omega)⟩
theorem cOK0 {h' : PH} (s : cfm X (cP X) h h') (n1 : hN h' = hN h) (u1 : hU h' = hU h) : cOK X h h' 0 := ⟨s, by omega, by omega⟩
theorem cT.k1 {h' : PH} (I : cI Q h X tp ou fo hd a w) (s : sm (rP (X + 1) (X + 2)) h h') : cl h' X ∧ cfm X (rP (X + 1) (X + 2)) h h' ∧ cO h' X ou ∧ cDr h' X ∧ cF h' X := by
  have hN' := I.1.1.1
  have hp : nP X (rP (X + 1) (X + 2)) [1, 2] := fun k hk hn z => by simp only [List.mem_cons, List.not_mem_nil, or_false, not_or] at hn; unfold rP at z; omega
  have c := cfm.of s hN' (fun k hk => by unfold crO at hk; unfold rP; omega)
  exact ⟨I.1.1.keep c, c, I.2.1.2.1.kp s hN' hp (by decide) (by decide), I.2.1.2.2.1.kp s hN' hp (by decide) (by decide), I.2.1.2.2.2.kp s hN' hp (by decide) (by decide)⟩
theorem rP12 : ∀ x, rP (X + 1) (X + 2) x → X + 1 ≤ x ∧ x ≤ X + 6 ∨ x = X + 9 ∨ x = X + 10 := fun x z => by unfold rP at z; omega
theorem C_feed {x1 x2 x3 x4 x5 : Int32} (I : cI Q h X tp ou fo hd a w) :
    ∃ h', cal g mX10_feed [va_rf (some X), .int x1, .int x2, .int x3, .int x4, .int x5] h = some (some (.int (if tp.length ≤ 380 then nI (tp.length + 20) else nM 1)), h') ∧ cOK X h h' 0 ∧ cI Q h' X (if tp.length ≤ 380 then tp ++ fd x1 x2 x3 x4 x5 else tp) ou fo hd a w := by
  have d := I.1.1
  have hN' := d.1
  obtain ⟨o, r⟩ := I.2.1.1
  have hl := r.2.2.1.1
  have el := r_len (g := g) r
  rw [n_X10_feed]
  by_cases c : tp.length ≤ 380
  · rw [if_pos c, if_pos c]
    obtain ⟨h1, e1, r1, s1, n1, u1⟩ := r_putNumber (g := g) (v := x1) r (by omega)
    rw [bt_4] at r1
    obtain ⟨d1, c1, -⟩ := cT.k1 I s1
    obtain ⟨h2, e2, r2, s2, n2, u2⟩ := r_putNumber (g := g) (v := x2) r1 (by simp [nb4]; omega)
    rw [bt_4] at r2
    have c2 := cfm.of s2 d1.1 (fun k hk => by unfold crO at hk; unfold rP; omega)
    have d2 := d1.keep c2
    obtain ⟨h3, e3, r3, s3, n3, u3⟩ := r_putNumber (g := g) (v := x3) r2 (by simp [nb4]; omega)
    rw [bt_4] at r3
    have c3 := cfm.of s3 d2.1 (fun k hk => by unfold crO at hk; unfold rP; omega)
    have d3 := d2.keep c3
    obtain ⟨h4, e4, r4, s4, n4, u4⟩ := r_putNumber (g := g) (v := x4) r3 (by simp [nb4]; omega)
    rw [bt_4] at r4
    have c4 := cfm.of s4 d3.1 (fun k hk => by unfold crO at hk; unfold rP; omega)
    have d4 := d3.keep c4
    obtain ⟨h5, e5, r5, s5, n5, u5⟩ := r_putNumber (g := g) (v := x5) r4 (by simp [nb4]; omega)
    rw [bt_4] at r5
    have sA := (((s1.tr s2).tr s3).tr s4).tr s5
    obtain ⟨d5, c5, q1, q2, q3⟩ := cT.k1 I sA
    have el5 := r_len (g := g) r5
    have hlen : (tp ++ nb4 x1 ++ nb4 x2 ++ nb4 x3 ++ nb4 x4 ++ nb4 x5).length = tp.length + 20 := by simp [nb4]
    rw [hlen] at el5
    have hfd : tp ++ nb4 x1 ++ nb4 x2 ++ nb4 x3 ++ nb4 x4 ++ nb4 x5 = tp ++ fd x1 x2 x3 x4 x5 := by unfold fd; simp only [List.append_assoc]
    rw [hfd] at r5
    obtain ⟨J, sJ⟩ := I.row c5 rP12 (fun x hx => hx) (fun x hx => Or.inl hx) ⟨_, r5⟩ q1 q2 q3
    refine ⟨h5, ?_, cOK0 sJ (by omega) (by omega), J⟩
    simp (decide := true) (disch := omega) only [e_X10_feed_0, e_X10_feed_1, e_X10_feed_4, e_X10_feed_7, e_X10_feed_9, e_X10_feed_10, e_X10_feed_13, e_X10_feed_16, e_X10_feed_17, e_X10_feed_18, e_X10_feed_19, e_X10_feed_22, e_X10_feed_23, e_X10_feed_26, e_X10_feed_27, e_X10_feed_30, e_X10_feed_31, e_X10_feed_34, e_X10_feed_35, e_X10_feed_38, e_X10_feed_39, e_X10_feed_42, e_X10_feed_43, e_X10_feed_46, e_X10_feed_48, e_X10_feed_51, e_X10_feed_52, e_X10_feed_55, e_X10_feed_57, e_X10_feed_60, e_X10_feed_61, e_X10_feed_64, e_X10_feed_67, ↓reduceIte, if_true, if_false, reduceCtorEq, Nat.reduceAdd, true_and, and_true, false_and, and_false, true_or, or_true, false_or, or_false, not_true_eq_false, not_false_eq_true, Option.bind_eq_bind, Option.bind_some, psh, eq_self, l_0, l_1, l_2, l_3, l_4, l_5, l_6, l_7, l_8, l_9, l_10, l_11, l_12, l_13, l_14, l_15, l_16, l_17, l_18, l_19, l_20, l_24, l_31, l_32, l_33, l_35, l_36, l_48, l_56, l_57, l_58, l_63, l_65, l_80, l_81, l_90, l_91, l_93, l_94, l_95, l_97, l_100, l_105, l_107, l_110, l_111, l_116, l_120, l_121, l_122, l_123, l_124, l_125, l_126, l_162, l_255, l_300, l_400, l_420, l_432, l_1000, l_1400, l_1936, l_2000, l_2100, l_2400, l_24000, m_n1, m_n2, m_n3, nI_mul, nI_add, nI_sub, nI_ltT, nI_ltF, nI_leT, nI_leF, nI_eqT, nI_eqF, nI_nM, nM_nI, nM_eq, nM_lt, nM_le, nI_ltM, nI_leM, nI_inT, nI_dec, pk_rem, nI_ltI, nI_leI, nI_eq, nI_clamp, Nat.add_assoc, q_bv51, Nat.add_left_cancel_iff, clK_0 d, clK_1 d, clK_3 d, clK_5 d, clK_7 d, clK_8 d, clK_9 d, clK_11 d, clK_12 d, clK_13 d, clK_14 d, clK_15 d, clK_16 d, clK_18 d, clK_20 d, clK_21 d, clK_22 d, clK_23 d, clK_24 d, clK_25 d, clK_26 d, clR_0_0 d, clR_1_0 d, clR_2_0 d, clR_3_0 d, clR_7_0 d, clR_8_0 d, clR_9_0 d, clR_10_0 d, clR_11_0 d, clR_0_8 d, clR_0_11 d, clR_1_11 d, clR_2_11 d, clR_0_15 d, clR_1_15 d, clR_2_15 d, clR_3_15 d, clR_4_15 d, clR_5_15 d, clR_0_23 d, clR_1_23 d, clR_0_25 d, clL_7 d, clL_12 d, clL_13 d, clL_14 d, clL_20 d, clL_21 d, clL_22 d, clL_24 d, clS_0 d, clS_1 d, clS_2 d, clS_3 d, el, e1, clK_0 d1, clK_1 d1, clK_3 d1, clK_5 d1, clK_7 d1, clK_8 d1, clK_9 d1, clK_11 d1, clK_12 d1, clK_13 d1, clK_14 d1, clK_15 d1, clK_16 d1, clK_18 d1, clK_20 d1, clK_21 d1, clK_22 d1, clK_23 d1, clK_24 d1, clK_25 d1, clK_26 d1, clR_0_0 d1, clR_1_0 d1, clR_2_0 d1, clR_3_0 d1, clR_7_0 d1, clR_8_0 d1, clR_9_0 d1, clR_10_0 d1, clR_11_0 d1, clR_0_8 d1, clR_0_11 d1, clR_1_11 d1, clR_2_11 d1, clR_0_15 d1, clR_1_15 d1, clR_2_15 d1, clR_3_15 d1, clR_4_15 d1, clR_5_15 d1, clR_0_23 d1, clR_1_23 d1, clR_0_25 d1, clL_7 d1, clL_12 d1, clL_13 d1, clL_14 d1, clL_20 d1, clL_21 d1, clL_22 d1, clL_24 d1, clS_0 d1, clS_1 d1, clS_2 d1, clS_3 d1, e2, clK_0 d2, clK_1 d2, clK_3 d2, clK_5 d2, clK_7 d2, clK_8 d2, clK_9 d2, clK_11 d2, clK_12 d2, clK_13 d2, clK_14 d2, clK_15 d2, clK_16 d2, clK_18 d2, clK_20 d2, clK_21 d2, clK_22 d2, clK_23 d2, clK_24 d2, clK_25 d2, clK_26 d2, clR_0_0 d2, clR_1_0 d2, clR_2_0 d2, clR_3_0 d2, clR_7_0 d2, clR_8_0 d2, clR_9_0 d2, clR_10_0 d2, clR_11_0 d2, clR_0_8 d2, clR_0_11 d2, clR_1_11 d2, clR_2_11 d2, clR_0_15 d2, clR_1_15 d2, clR_2_15 d2, clR_3_15 d2, clR_4_15 d2, clR_5_15 d2, clR_0_23 d2, clR_1_23 d2, clR_0_25 d2, clL_7 d2, clL_12 d2, clL_13 d2, clL_14 d2, clL_20 d2, clL_21 d2, clL_22 d2, clL_24 d2, clS_0 d2, clS_1 d2, clS_2 d2, clS_3 d2, e3, clK_0 d3, clK_1 d3, clK_3 d3, clK_5 d3, clK_7 d3, clK_8 d3, clK_9 d3, clK_11 d3, clK_12 d3, clK_13 d3, clK_14 d3, clK_15 d3, clK_16 d3, clK_18 d3, clK_20 d3, clK_21 d3, clK_22 d3, clK_23 d3, clK_24 d3, clK_25 d3, clK_26 d3, clR_0_0 d3, clR_1_0 d3, clR_2_0 d3, clR_3_0 d3, clR_7_0 d3, clR_8_0 d3, clR_9_0 d3, clR_10_0 d3, clR_11_0 d3, clR_0_8 d3, clR_0_11 d3, clR_1_11 d3, clR_2_11 d3, clR_0_15 d3, clR_1_15 d3, clR_2_15 d3, clR_3_15 d3, clR_4_15 d3, clR_5_15 d3, clR_0_23 d3, clR_1_23 d3, clR_0_25 d3, clL_7 d3, clL_12 d3, clL_13 d3, clL_14 d3, clL_20 d3, clL_21 d3, clL_22 d3, clL_24 d3, clS_0 d3, clS_1 d3, clS_2 d3, clS_3 d3, e4, clK_0 d4, clK_1 d4, clK_3 d4, clK_5 d4, clK_7 d4, clK_8 d4, clK_9 d4, clK_11 d4, clK_12 d4, clK_13 d4, clK_14 d4, clK_15 d4, clK_16 d4, clK_18 d4, clK_20 d4, clK_21 d4, clK_22 d4, clK_23 d4, clK_24 d4, clK_25 d4, clK_26 d4, clR_0_0 d4, clR_1_0 d4, clR_2_0 d4, clR_3_0 d4, clR_7_0 d4, clR_8_0 d4, clR_9_0 d4, clR_10_0 d4, clR_11_0 d4, clR_0_8 d4, clR_0_11 d4, clR_1_11 d4, clR_2_11 d4, clR_0_15 d4, clR_1_15 d4, clR_2_15 d4, clR_3_15 d4, clR_4_15 d4, clR_5_15 d4, clR_0_23 d4, clR_1_23 d4, clR_0_25 d4, clL_7 d4, clL_12 d4, clL_13 d4, clL_14 d4, clL_20 d4, clL_21 d4, clL_22 d4, clL_24 d4, clS_0 d4, clS_1 d4, clS_2 d4, clS_3 d4, e5, clK_0 d5, clK_1 d5, clK_3 d5, clK_5 d5, clK_7 d5, clK_8 d5, clK_9 d5, clK_11 d5, clK_12 d5, clK_13 d5, clK_14 d5, clK_15 d5, clK_16 d5, clK_18 d5, clK_20 d5, clK_21 d5, clK_22 d5, clK_23 d5, clK_24 d5, clK_25 d5, clK_26 d5, clR_0_0 d5, clR_1_0 d5, clR_2_0 d5, clR_3_0 d5, clR_7_0 d5, clR_8_0 d5, clR_9_0 d5, clR_10_0 d5, clR_11_0 d5, clR_0_8 d5, clR_0_11 d5, clR_1_11 d5, clR_2_11 d5, clR_0_15 d5, clR_1_15 d5, clR_2_15 d5, clR_3_15 d5, clR_4_15 d5, clR_5_15 d5, clR_0_23 d5, clR_1_23 d5, clR_0_25 d5, clL_7 d5, clL_12 d5, clL_13 d5, clL_14 d5, clL_20 d5, clL_21 d5, clL_22 d5, clL_24 d5, clS_0 d5, clS_1 d5, clS_2 d5, clS_3 d5, el5]
  · rw [if_neg c, if_neg c]
    refine ⟨h, ?_, cOK0 (cfm.rf _) rfl rfl, I⟩
    simp (decide := true) (disch := omega) only [e_X10_feed_0, e_X10_feed_1, e_X10_feed_4, e_X10_feed_7, e_X10_feed_9, e_X10_feed_10, e_X10_feed_13, e_X10_feed_16, e_X10_feed_17, e_X10_feed_18, e_X10_feed_19, e_X10_feed_22, e_X10_feed_23, e_X10_feed_26, e_X10_feed_27, e_X10_feed_30, e_X10_feed_31, e_X10_feed_34, e_X10_feed_35, e_X10_feed_38, e_X10_feed_39, e_X10_feed_42, e_X10_feed_43, e_X10_feed_46, e_X10_feed_48, e_X10_feed_51, e_X10_feed_52, e_X10_feed_55, e_X10_feed_57, e_X10_feed_60, e_X10_feed_61, e_X10_feed_64, e_X10_feed_67, ↓reduceIte, if_true, if_false, reduceCtorEq, Nat.reduceAdd, true_and, and_true, false_and, and_false, true_or, or_true, false_or, or_false, not_true_eq_false, not_false_eq_true, Option.bind_eq_bind, Option.bind_some, psh, eq_self, l_0, l_1, l_2, l_3, l_4, l_5, l_6, l_7, l_8, l_9, l_10, l_11, l_12, l_13, l_14, l_15, l_16, l_17, l_18, l_19, l_20, l_24, l_31, l_32, l_33, l_35, l_36, l_48, l_56, l_57, l_58, l_63, l_65, l_80, l_81, l_90, l_91, l_93, l_94, l_95, l_97, l_100, l_105, l_107, l_110, l_111, l_116, l_120, l_121, l_122, l_123, l_124, l_125, l_126, l_162, l_255, l_300, l_400, l_420, l_432, l_1000, l_1400, l_1936, l_2000, l_2100, l_2400, l_24000, m_n1, m_n2, m_n3, nI_mul, nI_add, nI_sub, nI_ltT, nI_ltF, nI_leT, nI_leF, nI_eqT, nI_eqF, nI_nM, nM_nI, nM_eq, nM_lt, nM_le, nI_ltM, nI_leM, nI_inT, nI_dec, pk_rem, nI_ltI, nI_leI, nI_eq, nI_clamp, Nat.add_assoc, q_bv51, Nat.add_left_cancel_iff, clK_0 d, clK_1 d, clK_3 d, clK_5 d, clK_7 d, clK_8 d, clK_9 d, clK_11 d, clK_12 d, clK_13 d, clK_14 d, clK_15 d, clK_16 d, clK_18 d, clK_20 d, clK_21 d, clK_22 d, clK_23 d, clK_24 d, clK_25 d, clK_26 d, clR_0_0 d, clR_1_0 d, clR_2_0 d, clR_3_0 d, clR_7_0 d, clR_8_0 d, clR_9_0 d, clR_10_0 d, clR_11_0 d, clR_0_8 d, clR_0_11 d, clR_1_11 d, clR_2_11 d, clR_0_15 d, clR_1_15 d, clR_2_15 d, clR_3_15 d, clR_4_15 d, clR_5_15 d, clR_0_23 d, clR_1_23 d, clR_0_25 d, clL_7 d, clL_12 d, clL_13 d, clL_14 d, clL_20 d, clL_21 d, clL_22 d, clL_24 d, clS_0 d, clS_1 d, clS_2 d, clS_3 d, el]
theorem C_end {x : Int32} (I : cI Q h X tp ou fo hd a w) :
    ∃ h', cal g mX10_end [va_rf (some X), .int x] h = some (some (.int (if x < 0 ∨ nI tp.length < x then nI 0 else nI 1)), h') ∧ cOK X h h' 0 ∧ cI Q h' X (if x < 0 ∨ nI tp.length < x then tp else tp.take x.toNatClampNeg) ou fo hd a w := by
  have d := I.1.1
  obtain ⟨o, r⟩ := I.2.1.1
  have hl := r.2.2.1.1
  have el := r_len (g := g) r
  rw [n_X10_end]
  rcases pk_ix x (n := tp.length + 1) (by omega) with z | z | ⟨p, hp, rfl⟩
  · have z' : x < nI 0 := z
    rw [if_pos (Or.inl z), if_pos (Or.inl z)]
    refine ⟨h, ?_, cOK0 (cfm.rf _) rfl rfl, I⟩
    simp (decide := true) (disch := omega) only [e_X10_end_0, e_X10_end_1, e_X10_end_4, e_X10_end_5, e_X10_end_6, e_X10_end_9, e_X10_end_12, e_X10_end_15, e_X10_end_16, e_X10_end_17, e_X10_end_18, e_X10_end_21, e_X10_end_22, e_X10_end_25, e_X10_end_26, ↓reduceIte, if_true, if_false, reduceCtorEq, Nat.reduceAdd, true_and, and_true, false_and, and_false, true_or, or_true, false_or, or_false, not_true_eq_false, not_false_eq_true, Option.bind_eq_bind, Option.bind_some, psh, eq_self, l_0, l_1, l_2, l_3, l_4, l_5, l_6, l_7, l_8, l_9, l_10, l_11, l_12, l_13, l_14, l_15, l_16, l_17, l_18, l_19, l_20, l_24, l_31, l_32, l_33, l_35, l_36, l_48, l_56, l_57, l_58, l_63, l_65, l_80, l_81, l_90, l_91, l_93, l_94, l_95, l_97, l_100, l_105, l_107, l_110, l_111, l_116, l_120, l_121, l_122, l_123, l_124, l_125, l_126, l_162, l_255, l_300, l_400, l_420, l_432, l_1000, l_1400, l_1936, l_2000, l_2100, l_2400, l_24000, m_n1, m_n2, m_n3, nI_mul, nI_add, nI_sub, nI_ltT, nI_ltF, nI_leT, nI_leF, nI_eqT, nI_eqF, nI_nM, nM_nI, nM_eq, nM_lt, nM_le, nI_ltM, nI_leM, nI_inT, nI_dec, pk_rem, nI_ltI, nI_leI, nI_eq, nI_clamp, Nat.add_assoc, q_bv51, Nat.add_left_cancel_iff, z']
  · obtain ⟨j, hj1, hj2, rfl⟩ := big_lt z (by omega)
    have c : nI j < 0 ∨ nI tp.length < nI j := Or.inr (nI_lt (by omega) hj2)
    rw [if_pos c, if_pos c]
    refine ⟨h, ?_, cOK0 (cfm.rf _) rfl rfl, I⟩
    simp (decide := true) (disch := omega) only [e_X10_end_0, e_X10_end_1, e_X10_end_4, e_X10_end_5, e_X10_end_6, e_X10_end_9, e_X10_end_12, e_X10_end_15, e_X10_end_16, e_X10_end_17, e_X10_end_18, e_X10_end_21, e_X10_end_22, e_X10_end_25, e_X10_end_26, ↓reduceIte, if_true, if_false, reduceCtorEq, Nat.reduceAdd, true_and, and_true, false_and, and_false, true_or, or_true, false_or, or_false, not_true_eq_false, not_false_eq_true, Option.bind_eq_bind, Option.bind_some, psh, eq_self, l_0, l_1, l_2, l_3, l_4, l_5, l_6, l_7, l_8, l_9, l_10, l_11, l_12, l_13, l_14, l_15, l_16, l_17, l_18, l_19, l_20, l_24, l_31, l_32, l_33, l_35, l_36, l_48, l_56, l_57, l_58, l_63, l_65, l_80, l_81, l_90, l_91, l_93, l_94, l_95, l_97, l_100, l_105, l_107, l_110, l_111, l_116, l_120, l_121, l_122, l_123, l_124, l_125, l_126, l_162, l_255, l_300, l_400, l_420, l_432, l_1000, l_1400, l_1936, l_2000, l_2100, l_2400, l_24000, m_n1, m_n2, m_n3, nI_mul, nI_add, nI_sub, nI_ltT, nI_ltF, nI_leT, nI_leF, nI_eqT, nI_eqF, nI_nM, nM_nI, nM_eq, nM_lt, nM_le, nI_ltM, nI_leM, nI_inT, nI_dec, pk_rem, nI_ltI, nI_leI, nI_eq, nI_clamp, Nat.add_assoc, q_bv51, Nat.add_left_cancel_iff, clK_0 d, clK_1 d, clK_3 d, clK_5 d, clK_7 d, clK_8 d, clK_9 d, clK_11 d, clK_12 d, clK_13 d, clK_14 d, clK_15 d, clK_16 d, clK_18 d, clK_20 d, clK_21 d, clK_22 d, clK_23 d, clK_24 d, clK_25 d, clK_26 d, clR_0_0 d, clR_1_0 d, clR_2_0 d, clR_3_0 d, clR_7_0 d, clR_8_0 d, clR_9_0 d, clR_10_0 d, clR_11_0 d, clR_0_8 d, clR_0_11 d, clR_1_11 d, clR_2_11 d, clR_0_15 d, clR_1_15 d, clR_2_15 d, clR_3_15 d, clR_4_15 d, clR_5_15 d, clR_0_23 d, clR_1_23 d, clR_0_25 d, clL_7 d, clL_12 d, clL_13 d, clL_14 d, clL_20 d, clL_21 d, clL_22 d, clL_24 d, clS_0 d, clS_1 d, clS_2 d, clS_3 d, el]
  · have c : ¬ (nI p < 0 ∨ nI tp.length < nI p) := by
      rintro (w | w)
      · exact nI_pos (by omega) w
      · exact nI_nlt (by omega) (by omega) w
    rw [if_neg c, if_neg c, nI_clamp (by omega)]
    obtain ⟨h1, e1, r1, s1, n1, u1⟩ := r_cut (g := g) (k := p) r (by omega)
    have s1' : sm (rP (X + 1) (X + 2)) h h1 := s1.mono (fun x _ z => Or.inl z)
    obtain ⟨d1, c1, q1, q2, q3⟩ := cT.k1 I s1'
    obtain ⟨J, sJ⟩ := I.row c1 rP12 (fun x hx => hx) (fun x hx => Or.inl hx) ⟨_, r1⟩ q1 q2 q3
    refine ⟨h1, ?_, cOK0 sJ n1 u1, J⟩
    simp (decide := true) (disch := omega) only [e_X10_end_0, e_X10_end_1, e_X10_end_4, e_X10_end_5, e_X10_end_6, e_X10_end_9, e_X10_end_12, e_X10_end_15, e_X10_end_16, e_X10_end_17, e_X10_end_18, e_X10_end_21, e_X10_end_22, e_X10_end_25, e_X10_end_26, ↓reduceIte, if_true, if_false, reduceCtorEq, Nat.reduceAdd, true_and, and_true, false_and, and_false, true_or, or_true, false_or, or_false, not_true_eq_false, not_false_eq_true, Option.bind_eq_bind, Option.bind_some, psh, eq_self, l_0, l_1, l_2, l_3, l_4, l_5, l_6, l_7, l_8, l_9, l_10, l_11, l_12, l_13, l_14, l_15, l_16, l_17, l_18, l_19, l_20, l_24, l_31, l_32, l_33, l_35, l_36, l_48, l_56, l_57, l_58, l_63, l_65, l_80, l_81, l_90, l_91, l_93, l_94, l_95, l_97, l_100, l_105, l_107, l_110, l_111, l_116, l_120, l_121, l_122, l_123, l_124, l_125, l_126, l_162, l_255, l_300, l_400, l_420, l_432, l_1000, l_1400, l_1936, l_2000, l_2100, l_2400, l_24000, m_n1, m_n2, m_n3, nI_mul, nI_add, nI_sub, nI_ltT, nI_ltF, nI_leT, nI_leF, nI_eqT, nI_eqF, nI_nM, nM_nI, nM_eq, nM_lt, nM_le, nI_ltM, nI_leM, nI_inT, nI_dec, pk_rem, nI_ltI, nI_leI, nI_eq, nI_clamp, Nat.add_assoc, q_bv51, Nat.add_left_cancel_iff, clK_0 d, clK_1 d, clK_3 d, clK_5 d, clK_7 d, clK_8 d, clK_9 d, clK_11 d, clK_12 d, clK_13 d, clK_14 d, clK_15 d, clK_16 d, clK_18 d, clK_20 d, clK_21 d, clK_22 d, clK_23 d, clK_24 d, clK_25 d, clK_26 d, clR_0_0 d, clR_1_0 d, clR_2_0 d, clR_3_0 d, clR_7_0 d, clR_8_0 d, clR_9_0 d, clR_10_0 d, clR_11_0 d, clR_0_8 d, clR_0_11 d, clR_1_11 d, clR_2_11 d, clR_0_15 d, clR_1_15 d, clR_2_15 d, clR_3_15 d, clR_4_15 d, clR_5_15 d, clR_0_23 d, clR_1_23 d, clR_0_25 d, clL_7 d, clL_12 d, clL_13 d, clL_14 d, clL_20 d, clL_21 d, clL_22 d, clL_24 d, clS_0 d, clS_1 d, clS_2 d, clS_3 d, el, e1]
theorem C_take (I : cI Q h X tp ou fo hd a w) :
    ∃ h', cal g mX10_take [va_rf (some X)] h = some (some (.int (nI (min ou.length 400))), h') ∧ cOK X h h' 0 ∧ cI Q h' X (ou.take 400) ou fo hd a w := by
  have d := I.1.1
  obtain ⟨o, r⟩ := I.2.1.1
  obtain ⟨o2, ro⟩ := I.2.1.2.1
  have hlo := ro.2.2.1.1
  rw [n_X10_take]
  obtain ⟨h1, e1, r1, s1, n1, u1⟩ := r_cut (g := g) (k := 0) r (by omega)
  rw [List.take_zero] at r1
  have s1' : sm (rP (X + 1) (X + 2)) h h1 := s1.mono (fun x _ z => Or.inl z)
  obtain ⟨d1, c1, ⟨o3, ro1⟩, -⟩ := cT.k1 I s1'
  have el := r_len (g := g) ro1
  obtain ⟨h2, e2, r2, s2, n2, u2⟩ := r_putAll (g := g) (i := 0) (j := min ou.length 400) r1 ro1 (by omega) (by omega)
  have pt := pll_take (l := ou) (n := 400) (s := min ou.length 400) (by omega) (by omega)
  rw [pt.1, pt.2] at r2
  have et : ou.take (min ou.length 400) = ou.take 400 := by
    by_cases c : ou.length ≤ 400
    · rw [Nat.min_eq_left c, List.take_length, List.take_of_length_le c]
    · rw [Nat.min_eq_right (by omega)]
  rw [et] at r2
  have sA := s1'.tr s2
  obtain ⟨d2, c2, q1, q2, q3⟩ := cT.k1 I sA
  have el2 := r_len (g := g) r2
  have hlen : (ou.take 400).length = min ou.length 400 := by simp; omega
  rw [hlen] at el2
  obtain ⟨J, sJ⟩ := I.row c2 rP12 (fun x hx => hx) (fun x hx => Or.inl hx) ⟨_, r2⟩ q1 q2 q3
  refine ⟨h2, ?_, cOK0 sJ (by omega) (by omega), J⟩
  by_cases c : ou.length < 400
  · rw [Nat.min_eq_left (by omega)] at e2 el2 ⊢
    simp (decide := true) (disch := omega) only [e_X10_take_0, e_X10_take_1, e_X10_take_4, e_X10_take_5, e_X10_take_8, e_X10_take_9, e_X10_take_12, e_X10_take_13, e_X10_take_16, e_X10_take_17, e_X10_take_18, e_X10_take_21, e_X10_take_24, e_X10_take_27, e_X10_take_30, e_X10_take_33, e_X10_take_34, e_X10_take_37, e_X10_take_40, ↓reduceIte, if_true, if_false, reduceCtorEq, Nat.reduceAdd, true_and, and_true, false_and, and_false, true_or, or_true, false_or, or_false, not_true_eq_false, not_false_eq_true, Option.bind_eq_bind, Option.bind_some, psh, eq_self, l_0, l_1, l_2, l_3, l_4, l_5, l_6, l_7, l_8, l_9, l_10, l_11, l_12, l_13, l_14, l_15, l_16, l_17, l_18, l_19, l_20, l_24, l_31, l_32, l_33, l_35, l_36, l_48, l_56, l_57, l_58, l_63, l_65, l_80, l_81, l_90, l_91, l_93, l_94, l_95, l_97, l_100, l_105, l_107, l_110, l_111, l_116, l_120, l_121, l_122, l_123, l_124, l_125, l_126, l_162, l_255, l_300, l_400, l_420, l_432, l_1000, l_1400, l_1936, l_2000, l_2100, l_2400, l_24000, m_n1, m_n2, m_n3, nI_mul, nI_add, nI_sub, nI_ltT, nI_ltF, nI_leT, nI_leF, nI_eqT, nI_eqF, nI_nM, nM_nI, nM_eq, nM_lt, nM_le, nI_ltM, nI_leM, nI_inT, nI_dec, pk_rem, nI_ltI, nI_leI, nI_eq, nI_clamp, Nat.add_assoc, q_bv51, Nat.add_left_cancel_iff, clK_0 d, clK_1 d, clK_3 d, clK_5 d, clK_7 d, clK_8 d, clK_9 d, clK_11 d, clK_12 d, clK_13 d, clK_14 d, clK_15 d, clK_16 d, clK_18 d, clK_20 d, clK_21 d, clK_22 d, clK_23 d, clK_24 d, clK_25 d, clK_26 d, clR_0_0 d, clR_1_0 d, clR_2_0 d, clR_3_0 d, clR_7_0 d, clR_8_0 d, clR_9_0 d, clR_10_0 d, clR_11_0 d, clR_0_8 d, clR_0_11 d, clR_1_11 d, clR_2_11 d, clR_0_15 d, clR_1_15 d, clR_2_15 d, clR_3_15 d, clR_4_15 d, clR_5_15 d, clR_0_23 d, clR_1_23 d, clR_0_25 d, clL_7 d, clL_12 d, clL_13 d, clL_14 d, clL_20 d, clL_21 d, clL_22 d, clL_24 d, clS_0 d, clS_1 d, clS_2 d, clS_3 d, e1, clK_0 d1, clK_1 d1, clK_3 d1, clK_5 d1, clK_7 d1, clK_8 d1, clK_9 d1, clK_11 d1, clK_12 d1, clK_13 d1, clK_14 d1, clK_15 d1, clK_16 d1, clK_18 d1, clK_20 d1, clK_21 d1, clK_22 d1, clK_23 d1, clK_24 d1, clK_25 d1, clK_26 d1, clR_0_0 d1, clR_1_0 d1, clR_2_0 d1, clR_3_0 d1, clR_7_0 d1, clR_8_0 d1, clR_9_0 d1, clR_10_0 d1, clR_11_0 d1, clR_0_8 d1, clR_0_11 d1, clR_1_11 d1, clR_2_11 d1, clR_0_15 d1, clR_1_15 d1, clR_2_15 d1, clR_3_15 d1, clR_4_15 d1, clR_5_15 d1, clR_0_23 d1, clR_1_23 d1, clR_0_25 d1, clL_7 d1, clL_12 d1, clL_13 d1, clL_14 d1, clL_20 d1, clL_21 d1, clL_22 d1, clL_24 d1, clS_0 d1, clS_1 d1, clS_2 d1, clS_3 d1, el, e2, clK_0 d2, clK_1 d2, clK_3 d2, clK_5 d2, clK_7 d2, clK_8 d2, clK_9 d2, clK_11 d2, clK_12 d2, clK_13 d2, clK_14 d2, clK_15 d2, clK_16 d2, clK_18 d2, clK_20 d2, clK_21 d2, clK_22 d2, clK_23 d2, clK_24 d2, clK_25 d2, clK_26 d2, clR_0_0 d2, clR_1_0 d2, clR_2_0 d2, clR_3_0 d2, clR_7_0 d2, clR_8_0 d2, clR_9_0 d2, clR_10_0 d2, clR_11_0 d2, clR_0_8 d2, clR_0_11 d2, clR_1_11 d2, clR_2_11 d2, clR_0_15 d2, clR_1_15 d2, clR_2_15 d2, clR_3_15 d2, clR_4_15 d2, clR_5_15 d2, clR_0_23 d2, clR_1_23 d2, clR_0_25 d2, clL_7 d2, clL_12 d2, clL_13 d2, clL_14 d2, clL_20 d2, clL_21 d2, clL_22 d2, clL_24 d2, clS_0 d2, clS_1 d2, clS_2 d2, clS_3 d2, el2]
  · rw [Nat.min_eq_right (by omega)] at e2 el2 ⊢
    by_cases c4 : ou.length = 400
    · rw [c4] at el
      simp (decide := true) (disch := omega) only [e_X10_take_0, e_X10_take_1, e_X10_take_4, e_X10_take_5, e_X10_take_8, e_X10_take_9, e_X10_take_12, e_X10_take_13, e_X10_take_16, e_X10_take_17, e_X10_take_18, e_X10_take_21, e_X10_take_24, e_X10_take_27, e_X10_take_30, e_X10_take_33, e_X10_take_34, e_X10_take_37, e_X10_take_40, ↓reduceIte, if_true, if_false, reduceCtorEq, Nat.reduceAdd, true_and, and_true, false_and, and_false, true_or, or_true, false_or, or_false, not_true_eq_false, not_false_eq_true, Option.bind_eq_bind, Option.bind_some, psh, eq_self, l_0, l_1, l_2, l_3, l_4, l_5, l_6, l_7, l_8, l_9, l_10, l_11, l_12, l_13, l_14, l_15, l_16, l_17, l_18, l_19, l_20, l_24, l_31, l_32, l_33, l_35, l_36, l_48, l_56, l_57, l_58, l_63, l_65, l_80, l_81, l_90, l_91, l_93, l_94, l_95, l_97, l_100, l_105, l_107, l_110, l_111, l_116, l_120, l_121, l_122, l_123, l_124, l_125, l_126, l_162, l_255, l_300, l_400, l_420, l_432, l_1000, l_1400, l_1936, l_2000, l_2100, l_2400, l_24000, m_n1, m_n2, m_n3, nI_mul, nI_add, nI_sub, nI_ltT, nI_ltF, nI_leT, nI_leF, nI_eqT, nI_eqF, nI_nM, nM_nI, nM_eq, nM_lt, nM_le, nI_ltM, nI_leM, nI_inT, nI_dec, pk_rem, nI_ltI, nI_leI, nI_eq, nI_clamp, Nat.add_assoc, q_bv51, Nat.add_left_cancel_iff, clK_0 d, clK_1 d, clK_3 d, clK_5 d, clK_7 d, clK_8 d, clK_9 d, clK_11 d, clK_12 d, clK_13 d, clK_14 d, clK_15 d, clK_16 d, clK_18 d, clK_20 d, clK_21 d, clK_22 d, clK_23 d, clK_24 d, clK_25 d, clK_26 d, clR_0_0 d, clR_1_0 d, clR_2_0 d, clR_3_0 d, clR_7_0 d, clR_8_0 d, clR_9_0 d, clR_10_0 d, clR_11_0 d, clR_0_8 d, clR_0_11 d, clR_1_11 d, clR_2_11 d, clR_0_15 d, clR_1_15 d, clR_2_15 d, clR_3_15 d, clR_4_15 d, clR_5_15 d, clR_0_23 d, clR_1_23 d, clR_0_25 d, clL_7 d, clL_12 d, clL_13 d, clL_14 d, clL_20 d, clL_21 d, clL_22 d, clL_24 d, clS_0 d, clS_1 d, clS_2 d, clS_3 d, e1, clK_0 d1, clK_1 d1, clK_3 d1, clK_5 d1, clK_7 d1, clK_8 d1, clK_9 d1, clK_11 d1, clK_12 d1, clK_13 d1, clK_14 d1, clK_15 d1, clK_16 d1, clK_18 d1, clK_20 d1, clK_21 d1, clK_22 d1, clK_23 d1, clK_24 d1, clK_25 d1, clK_26 d1, clR_0_0 d1, clR_1_0 d1, clR_2_0 d1, clR_3_0 d1, clR_7_0 d1, clR_8_0 d1, clR_9_0 d1, clR_10_0 d1, clR_11_0 d1, clR_0_8 d1, clR_0_11 d1, clR_1_11 d1, clR_2_11 d1, clR_0_15 d1, clR_1_15 d1, clR_2_15 d1, clR_3_15 d1, clR_4_15 d1, clR_5_15 d1, clR_0_23 d1, clR_1_23 d1, clR_0_25 d1, clL_7 d1, clL_12 d1, clL_13 d1, clL_14 d1, clL_20 d1, clL_21 d1, clL_22 d1, clL_24 d1, clS_0 d1, clS_1 d1, clS_2 d1, clS_3 d1, el, e2, clK_0 d2, clK_1 d2, clK_3 d2, clK_5 d2, clK_7 d2, clK_8 d2, clK_9 d2, clK_11 d2, clK_12 d2, clK_13 d2, clK_14 d2, clK_15 d2, clK_16 d2, clK_18 d2, clK_20 d2, clK_21 d2, clK_22 d2, clK_23 d2, clK_24 d2, clK_25 d2, clK_26 d2, clR_0_0 d2, clR_1_0 d2, clR_2_0 d2, clR_3_0 d2, clR_7_0 d2, clR_8_0 d2, clR_9_0 d2, clR_10_0 d2, clR_11_0 d2, clR_0_8 d2, clR_0_11 d2, clR_1_11 d2, clR_2_11 d2, clR_0_15 d2, clR_1_15 d2, clR_2_15 d2, clR_3_15 d2, clR_4_15 d2, clR_5_15 d2, clR_0_23 d2, clR_1_23 d2, clR_0_25 d2, clL_7 d2, clL_12 d2, clL_13 d2, clL_14 d2, clL_20 d2, clL_21 d2, clL_22 d2, clL_24 d2, clS_0 d2, clS_1 d2, clS_2 d2, clS_3 d2, el2]
    · simp (decide := true) (disch := omega) only [e_X10_take_0, e_X10_take_1, e_X10_take_4, e_X10_take_5, e_X10_take_8, e_X10_take_9, e_X10_take_12, e_X10_take_13, e_X10_take_16, e_X10_take_17, e_X10_take_18, e_X10_take_21, e_X10_take_24, e_X10_take_27, e_X10_take_30, e_X10_take_33, e_X10_take_34, e_X10_take_37, e_X10_take_40, ↓reduceIte, if_true, if_false, reduceCtorEq, Nat.reduceAdd, true_and, and_true, false_and, and_false, true_or, or_true, false_or, or_false, not_true_eq_false, not_false_eq_true, Option.bind_eq_bind, Option.bind_some, psh, eq_self, l_0, l_1, l_2, l_3, l_4, l_5, l_6, l_7, l_8, l_9, l_10, l_11, l_12, l_13, l_14, l_15, l_16, l_17, l_18, l_19, l_20, l_24, l_31, l_32, l_33, l_35, l_36, l_48, l_56, l_57, l_58, l_63, l_65, l_80, l_81, l_90, l_91, l_93, l_94, l_95, l_97, l_100, l_105, l_107, l_110, l_111, l_116, l_120, l_121, l_122, l_123, l_124, l_125, l_126, l_162, l_255, l_300, l_400, l_420, l_432, l_1000, l_1400, l_1936, l_2000, l_2100, l_2400, l_24000, m_n1, m_n2, m_n3, nI_mul, nI_add, nI_sub, nI_ltT, nI_ltF, nI_leT, nI_leF, nI_eqT, nI_eqF, nI_nM, nM_nI, nM_eq, nM_lt, nM_le, nI_ltM, nI_leM, nI_inT, nI_dec, pk_rem, nI_ltI, nI_leI, nI_eq, nI_clamp, Nat.add_assoc, q_bv51, Nat.add_left_cancel_iff, clK_0 d, clK_1 d, clK_3 d, clK_5 d, clK_7 d, clK_8 d, clK_9 d, clK_11 d, clK_12 d, clK_13 d, clK_14 d, clK_15 d, clK_16 d, clK_18 d, clK_20 d, clK_21 d, clK_22 d, clK_23 d, clK_24 d, clK_25 d, clK_26 d, clR_0_0 d, clR_1_0 d, clR_2_0 d, clR_3_0 d, clR_7_0 d, clR_8_0 d, clR_9_0 d, clR_10_0 d, clR_11_0 d, clR_0_8 d, clR_0_11 d, clR_1_11 d, clR_2_11 d, clR_0_15 d, clR_1_15 d, clR_2_15 d, clR_3_15 d, clR_4_15 d, clR_5_15 d, clR_0_23 d, clR_1_23 d, clR_0_25 d, clL_7 d, clL_12 d, clL_13 d, clL_14 d, clL_20 d, clL_21 d, clL_22 d, clL_24 d, clS_0 d, clS_1 d, clS_2 d, clS_3 d, e1, clK_0 d1, clK_1 d1, clK_3 d1, clK_5 d1, clK_7 d1, clK_8 d1, clK_9 d1, clK_11 d1, clK_12 d1, clK_13 d1, clK_14 d1, clK_15 d1, clK_16 d1, clK_18 d1, clK_20 d1, clK_21 d1, clK_22 d1, clK_23 d1, clK_24 d1, clK_25 d1, clK_26 d1, clR_0_0 d1, clR_1_0 d1, clR_2_0 d1, clR_3_0 d1, clR_7_0 d1, clR_8_0 d1, clR_9_0 d1, clR_10_0 d1, clR_11_0 d1, clR_0_8 d1, clR_0_11 d1, clR_1_11 d1, clR_2_11 d1, clR_0_15 d1, clR_1_15 d1, clR_2_15 d1, clR_3_15 d1, clR_4_15 d1, clR_5_15 d1, clR_0_23 d1, clR_1_23 d1, clR_0_25 d1, clL_7 d1, clL_12 d1, clL_13 d1, clL_14 d1, clL_20 d1, clL_21 d1, clL_22 d1, clL_24 d1, clS_0 d1, clS_1 d1, clS_2 d1, clS_3 d1, el, e2, clK_0 d2, clK_1 d2, clK_3 d2, clK_5 d2, clK_7 d2, clK_8 d2, clK_9 d2, clK_11 d2, clK_12 d2, clK_13 d2, clK_14 d2, clK_15 d2, clK_16 d2, clK_18 d2, clK_20 d2, clK_21 d2, clK_22 d2, clK_23 d2, clK_24 d2, clK_25 d2, clK_26 d2, clR_0_0 d2, clR_1_0 d2, clR_2_0 d2, clR_3_0 d2, clR_7_0 d2, clR_8_0 d2, clR_9_0 d2, clR_10_0 d2, clR_11_0 d2, clR_0_8 d2, clR_0_11 d2, clR_1_11 d2, clR_2_11 d2, clR_0_15 d2, clR_1_15 d2, clR_2_15 d2, clR_3_15 d2, clR_4_15 d2, clR_5_15 d2, clR_0_23 d2, clR_1_23 d2, clR_0_25 d2, clL_7 d2, clL_12 d2, clL_13 d2, clL_14 d2, clL_20 d2, clL_21 d2, clL_22 d2, clL_24 d2, clS_0 d2, clS_1 d2, clS_2 d2, clS_3 d2, el2]
theorem C_as {x : Int32} (I : cI Q h X tp ou fo hd a w) :
    ∃ h', cal g mX10_as [va_rf (some X), .int x] h = some (some (.int (if (asI w.1 x).isSome then nI 1 else nI 0)), h') ∧ cOK X h h' 0 ∧ cI Q h' X tp ou fo hd (match asI w.1 x with | some b => b | none => a) w := by
  have d := I.1.1
  have W := I.1.2.2.1
  have hn := W.1.2.2.1
  have el := w_latest (g := g) d W
  rw [n_X10_as]
  have go : ∀ b : Option Nat, (∀ t, b = some t → t ≤ w.1) → cfm X (fun x => x = X) h (pI h 6 X (oN b)) ∧ cI Q (pI h 6 X (oN b)) X tp ou fo hd b w := by
    intro b hb
    have c : cfm X (fun x => x = X) h (pI h 6 X (oN b)) := cfm.pI _ _ rfl
    obtain ⟨u1, u2, u3, u4, u5, u6, u7, u8, u9, u10, u11, u12⟩ := I.kp [0] c (fun k hk hn z => by
      simp only [List.mem_cons, List.not_mem_nil, or_false] at hn
      omega) (fun x hx _ z => by omega) (fun x hx z => by omega) (fun x hx => hx) (fun x hx => Or.inl hx)
    obtain ⟨f1, f2, f3⟩ := I.2.2.1.1
    refine ⟨c, ⟨u1, u2, u3 (fun k k1 k2 => by simp only [List.mem_cons, List.not_mem_nil, or_false]; omega), hb⟩, ⟨u4 (by decide) (by decide), u5 (by decide) (by decide), u6 (by decide) (by decide), u7 (by decide) (by decide)⟩, ⟨⟨?_, ?_, f3⟩, ?_, ?_⟩, u11 (by decide) (by decide) (by decide) (by decide), u12 (by decide)⟩
    · simp (decide := true) only [u_hN_pI, u_hU_pI, u_hK_pI, u_hL_pI, u_hR_pI, u_hJ_pI, u_hA_pI, u_hB_pI, u_hS_pI, u_hN_pR, u_hU_pR, u_hK_pR, u_hL_pR, u_hI_pR, u_hJ_pR, u_hA_pR, u_hB_pR, u_hS_pR, u_hN_pJ, u_hU_pJ, u_hK_pJ, u_hL_pJ, u_hI_pJ, u_hR_pJ, u_hA_pJ, u_hB_pJ, u_hS_pJ, u_hN_pA, u_hU_pA, u_hK_pA, u_hL_pA, u_hI_pA, u_hR_pA, u_hJ_pA, u_hB_pA, u_hS_pA, u_hN_pB, u_hU_pB, u_hK_pB, u_hL_pB, u_hI_pB, u_hR_pB, u_hJ_pB, u_hA_pB, u_hS_pB, u_hL_nO, u_hA_nO, u_hB_nO, u_hS_nO, u_hI_nA, u_hR_nA, u_hJ_nA, u_hS_nA, u_II, u_RR, u_JJ, u_AA, u_BB, u_NO, u_UO, u_KO, u_IO, u_RO, u_JO, u_NN, u_UN, u_KN, u_LN, u_AN, u_BN, if_true, if_false]; exact f1
    · intro k hk; simp only [u_hN_pI, u_hU_pI, u_hK_pI, u_hL_pI, u_hR_pI, u_hJ_pI, u_hA_pI, u_hB_pI, u_hS_pI, u_hN_pR, u_hU_pR, u_hK_pR, u_hL_pR, u_hI_pR, u_hJ_pR, u_hA_pR, u_hB_pR, u_hS_pR, u_hN_pJ, u_hU_pJ, u_hK_pJ, u_hL_pJ, u_hI_pJ, u_hR_pJ, u_hA_pJ, u_hB_pJ, u_hS_pJ, u_hN_pA, u_hU_pA, u_hK_pA, u_hL_pA, u_hI_pA, u_hR_pA, u_hJ_pA, u_hB_pA, u_hS_pA, u_hN_pB, u_hU_pB, u_hK_pB, u_hL_pB, u_hI_pB, u_hR_pB, u_hJ_pB, u_hA_pB, u_hS_pB, u_hL_nO, u_hA_nO, u_hB_nO, u_hS_nO, u_hI_nA, u_hR_nA, u_hJ_nA, u_hS_nA, u_II, u_RR, u_JJ, u_AA, u_BB, u_NO, u_UO, u_KO, u_IO, u_RO, u_JO, u_NN, u_UN, u_KN, u_LN, u_AN, u_BN]; exact f2 k hk
    · have := I.2.2.1.2.1
      have hQ := I.1.2.1
      have e5 : hR (pI h 6 X (oN b)) 5 X = hR h 5 X := rfl
      rw [e5]
      exact this.keep c.1 (fun x hx => by have := hQ x hx; exact ⟨by omega, by omega, hx⟩)
    · simp (decide := true) only [u_hN_pI, u_hU_pI, u_hK_pI, u_hL_pI, u_hR_pI, u_hJ_pI, u_hA_pI, u_hB_pI, u_hS_pI, u_hN_pR, u_hU_pR, u_hK_pR, u_hL_pR, u_hI_pR, u_hJ_pR, u_hA_pR, u_hB_pR, u_hS_pR, u_hN_pJ, u_hU_pJ, u_hK_pJ, u_hL_pJ, u_hI_pJ, u_hR_pJ, u_hA_pJ, u_hB_pJ, u_hS_pJ, u_hN_pA, u_hU_pA, u_hK_pA, u_hL_pA, u_hI_pA, u_hR_pA, u_hJ_pA, u_hB_pA, u_hS_pA, u_hN_pB, u_hU_pB, u_hK_pB, u_hL_pB, u_hI_pB, u_hR_pB, u_hJ_pB, u_hA_pB, u_hS_pB, u_hL_nO, u_hA_nO, u_hB_nO, u_hS_nO, u_hI_nA, u_hR_nA, u_hJ_nA, u_hS_nA, u_II, u_RR, u_JJ, u_AA, u_BB, u_NO, u_UO, u_KO, u_IO, u_RO, u_JO, u_NN, u_UN, u_KN, u_LN, u_AN, u_BN, if_true, if_false]
  by_cases z : x < 0
  · by_cases z1 : x = -1
    · subst z1
      have e : asI w.1 (-1) = some none := by unfold asI; rw [if_pos rfl]
      rw [e, m_1]
      obtain ⟨g1, g2⟩ := go none (fun t ht => by cases ht)
      refine ⟨_, ?_, cOK0 (g1.mono (fun x _ z => by unfold cP; omega)) rfl rfl, g2⟩
      simp (decide := true) (disch := omega) only [e_X10_as_0, e_X10_as_1, e_X10_as_2, e_X10_as_5, e_X10_as_6, e_X10_as_7, e_X10_as_10, e_X10_as_13, e_X10_as_16, e_X10_as_17, e_X10_as_18, e_X10_as_19, e_X10_as_20, e_X10_as_23, e_X10_as_24, ↓reduceIte, if_true, if_false, reduceCtorEq, Nat.reduceAdd, true_and, and_true, false_and, and_false, true_or, or_true, false_or, or_false, not_true_eq_false, not_false_eq_true, Option.bind_eq_bind, Option.bind_some, psh, eq_self, l_0, l_1, l_2, l_3, l_4, l_5, l_6, l_7, l_8, l_9, l_10, l_11, l_12, l_13, l_14, l_15, l_16, l_17, l_18, l_19, l_20, l_24, l_31, l_32, l_33, l_35, l_36, l_48, l_56, l_57, l_58, l_63, l_65, l_80, l_81, l_90, l_91, l_93, l_94, l_95, l_97, l_100, l_105, l_107, l_110, l_111, l_116, l_120, l_121, l_122, l_123, l_124, l_125, l_126, l_162, l_255, l_300, l_400, l_420, l_432, l_1000, l_1400, l_1936, l_2000, l_2100, l_2400, l_24000, m_n1, m_n2, m_n3, nI_mul, nI_add, nI_sub, nI_ltT, nI_ltF, nI_leT, nI_leF, nI_eqT, nI_eqF, nI_nM, nM_nI, nM_eq, nM_lt, nM_le, nI_ltM, nI_leM, nI_inT, nI_dec, pk_rem, nI_ltI, nI_leI, nI_eq, nI_clamp, Nat.add_assoc, q_bv51, Nat.add_left_cancel_iff, clK_0 d, clK_1 d, clK_3 d, clK_5 d, clK_7 d, clK_8 d, clK_9 d, clK_11 d, clK_12 d, clK_13 d, clK_14 d, clK_15 d, clK_16 d, clK_18 d, clK_20 d, clK_21 d, clK_22 d, clK_23 d, clK_24 d, clK_25 d, clK_26 d, clR_0_0 d, clR_1_0 d, clR_2_0 d, clR_3_0 d, clR_7_0 d, clR_8_0 d, clR_9_0 d, clR_10_0 d, clR_11_0 d, clR_0_8 d, clR_0_11 d, clR_1_11 d, clR_2_11 d, clR_0_15 d, clR_1_15 d, clR_2_15 d, clR_3_15 d, clR_4_15 d, clR_5_15 d, clR_0_23 d, clR_1_23 d, clR_0_25 d, clL_7 d, clL_12 d, clL_13 d, clL_14 d, clL_20 d, clL_21 d, clL_22 d, clL_24 d, clS_0 d, clS_1 d, clS_2 d, clS_3 d, el]
      all_goals rfl
    · have e : asI w.1 x = none := by unfold asI; rw [if_neg z1, if_pos (Or.inl z)]
      rw [e]
      have l1 : x < nM 1 := by
        rw [← m_1]
        refine Int32.lt_iff_toInt_lt.mpr ?_
        have a2 := Int32.lt_iff_toInt_lt.mp z
        have e0 : (0 : Int32).toInt = 0 := rfl
        have e1 : (-1 : Int32).toInt = -1 := rfl
        have : x.toInt ≠ -1 := fun w => z1 (Int32.toInt_inj.mp (by rw [w, e1]))
        omega
      refine ⟨h, ?_, cOK0 (cfm.rf _) rfl rfl, I⟩
      simp (decide := true) (disch := omega) only [e_X10_as_0, e_X10_as_1, e_X10_as_2, e_X10_as_5, e_X10_as_6, e_X10_as_7, e_X10_as_10, e_X10_as_13, e_X10_as_16, e_X10_as_17, e_X10_as_18, e_X10_as_19, e_X10_as_20, e_X10_as_23, e_X10_as_24, ↓reduceIte, if_true, if_false, reduceCtorEq, Nat.reduceAdd, true_and, and_true, false_and, and_false, true_or, or_true, false_or, or_false, not_true_eq_false, not_false_eq_true, Option.bind_eq_bind, Option.bind_some, psh, eq_self, l_0, l_1, l_2, l_3, l_4, l_5, l_6, l_7, l_8, l_9, l_10, l_11, l_12, l_13, l_14, l_15, l_16, l_17, l_18, l_19, l_20, l_24, l_31, l_32, l_33, l_35, l_36, l_48, l_56, l_57, l_58, l_63, l_65, l_80, l_81, l_90, l_91, l_93, l_94, l_95, l_97, l_100, l_105, l_107, l_110, l_111, l_116, l_120, l_121, l_122, l_123, l_124, l_125, l_126, l_162, l_255, l_300, l_400, l_420, l_432, l_1000, l_1400, l_1936, l_2000, l_2100, l_2400, l_24000, m_n1, m_n2, m_n3, nI_mul, nI_add, nI_sub, nI_ltT, nI_ltF, nI_leT, nI_leF, nI_eqT, nI_eqF, nI_nM, nM_nI, nM_eq, nM_lt, nM_le, nI_ltM, nI_leM, nI_inT, nI_dec, pk_rem, nI_ltI, nI_leI, nI_eq, nI_clamp, Nat.add_assoc, q_bv51, Nat.add_left_cancel_iff, l1]
      all_goals rfl
  · obtain ⟨j, hj, rfl⟩ := nI_of z
    have z1 : ¬ nI j = -1 := by have := nI_nM (a := j) (k := 1) hj (by decide) (by decide); rw [m_1, this]; exact id
    by_cases c : w.1 < j
    · have e : asI w.1 (nI j) = none := by unfold asI; rw [if_neg z1, nI_clamp hj, if_pos (Or.inr c)]
      rw [e]
      refine ⟨h, ?_, cOK0 (cfm.rf _) rfl rfl, I⟩
      simp (decide := true) (disch := omega) only [e_X10_as_0, e_X10_as_1, e_X10_as_2, e_X10_as_5, e_X10_as_6, e_X10_as_7, e_X10_as_10, e_X10_as_13, e_X10_as_16, e_X10_as_17, e_X10_as_18, e_X10_as_19, e_X10_as_20, e_X10_as_23, e_X10_as_24, ↓reduceIte, if_true, if_false, reduceCtorEq, Nat.reduceAdd, true_and, and_true, false_and, and_false, true_or, or_true, false_or, or_false, not_true_eq_false, not_false_eq_true, Option.bind_eq_bind, Option.bind_some, psh, eq_self, l_0, l_1, l_2, l_3, l_4, l_5, l_6, l_7, l_8, l_9, l_10, l_11, l_12, l_13, l_14, l_15, l_16, l_17, l_18, l_19, l_20, l_24, l_31, l_32, l_33, l_35, l_36, l_48, l_56, l_57, l_58, l_63, l_65, l_80, l_81, l_90, l_91, l_93, l_94, l_95, l_97, l_100, l_105, l_107, l_110, l_111, l_116, l_120, l_121, l_122, l_123, l_124, l_125, l_126, l_162, l_255, l_300, l_400, l_420, l_432, l_1000, l_1400, l_1936, l_2000, l_2100, l_2400, l_24000, m_n1, m_n2, m_n3, nI_mul, nI_add, nI_sub, nI_ltT, nI_ltF, nI_leT, nI_leF, nI_eqT, nI_eqF, nI_nM, nM_nI, nM_eq, nM_lt, nM_le, nI_ltM, nI_leM, nI_inT, nI_dec, pk_rem, nI_ltI, nI_leI, nI_eq, nI_clamp, Nat.add_assoc, q_bv51, Nat.add_left_cancel_iff, clK_0 d, clK_1 d, clK_3 d, clK_5 d, clK_7 d, clK_8 d, clK_9 d, clK_11 d, clK_12 d, clK_13 d, clK_14 d, clK_15 d, clK_16 d, clK_18 d, clK_20 d, clK_21 d, clK_22 d, clK_23 d, clK_24 d, clK_25 d, clK_26 d, clR_0_0 d, clR_1_0 d, clR_2_0 d, clR_3_0 d, clR_7_0 d, clR_8_0 d, clR_9_0 d, clR_10_0 d, clR_11_0 d, clR_0_8 d, clR_0_11 d, clR_1_11 d, clR_2_11 d, clR_0_15 d, clR_1_15 d, clR_2_15 d, clR_3_15 d, clR_4_15 d, clR_5_15 d, clR_0_23 d, clR_1_23 d, clR_0_25 d, clL_7 d, clL_12 d, clL_13 d, clL_14 d, clL_20 d, clL_21 d, clL_22 d, clL_24 d, clS_0 d, clS_1 d, clS_2 d, clS_3 d, el]
      all_goals rfl
    · have e : asI w.1 (nI j) = some (some j) := by unfold asI; rw [if_neg z1, nI_clamp hj, if_neg (by rintro (w | w); exact z w; omega)]
      rw [e]
      obtain ⟨g1, g2⟩ := go (some j) (fun t ht => by cases ht; omega)
      refine ⟨_, ?_, cOK0 (g1.mono (fun x _ z => by unfold cP; omega)) rfl rfl, g2⟩
      simp (decide := true) (disch := omega) only [e_X10_as_0, e_X10_as_1, e_X10_as_2, e_X10_as_5, e_X10_as_6, e_X10_as_7, e_X10_as_10, e_X10_as_13, e_X10_as_16, e_X10_as_17, e_X10_as_18, e_X10_as_19, e_X10_as_20, e_X10_as_23, e_X10_as_24, ↓reduceIte, if_true, if_false, reduceCtorEq, Nat.reduceAdd, true_and, and_true, false_and, and_false, true_or, or_true, false_or, or_false, not_true_eq_false, not_false_eq_true, Option.bind_eq_bind, Option.bind_some, psh, eq_self, l_0, l_1, l_2, l_3, l_4, l_5, l_6, l_7, l_8, l_9, l_10, l_11, l_12, l_13, l_14, l_15, l_16, l_17, l_18, l_19, l_20, l_24, l_31, l_32, l_33, l_35, l_36, l_48, l_56, l_57, l_58, l_63, l_65, l_80, l_81, l_90, l_91, l_93, l_94, l_95, l_97, l_100, l_105, l_107, l_110, l_111, l_116, l_120, l_121, l_122, l_123, l_124, l_125, l_126, l_162, l_255, l_300, l_400, l_420, l_432, l_1000, l_1400, l_1936, l_2000, l_2100, l_2400, l_24000, m_n1, m_n2, m_n3, nI_mul, nI_add, nI_sub, nI_ltT, nI_ltF, nI_leT, nI_leF, nI_eqT, nI_eqF, nI_nM, nM_nI, nM_eq, nM_lt, nM_le, nI_ltM, nI_leM, nI_inT, nI_dec, pk_rem, nI_ltI, nI_leI, nI_eq, nI_clamp, Nat.add_assoc, q_bv51, Nat.add_left_cancel_iff, clK_0 d, clK_1 d, clK_3 d, clK_5 d, clK_7 d, clK_8 d, clK_9 d, clK_11 d, clK_12 d, clK_13 d, clK_14 d, clK_15 d, clK_16 d, clK_18 d, clK_20 d, clK_21 d, clK_22 d, clK_23 d, clK_24 d, clK_25 d, clK_26 d, clR_0_0 d, clR_1_0 d, clR_2_0 d, clR_3_0 d, clR_7_0 d, clR_8_0 d, clR_9_0 d, clR_10_0 d, clR_11_0 d, clR_0_8 d, clR_0_11 d, clR_1_11 d, clR_2_11 d, clR_0_15 d, clR_1_15 d, clR_2_15 d, clR_3_15 d, clR_4_15 d, clR_5_15 d, clR_0_23 d, clR_1_23 d, clR_0_25 d, clL_7 d, clL_12 d, clL_13 d, clL_14 d, clL_20 d, clL_21 d, clL_22 d, clL_24 d, clS_0 d, clS_1 d, clS_2 d, clS_3 d, el]
      all_goals rfl
end
