/-- several bytes one after the other: what fits -/
def pls (l t : List Nat) (bd : Nat) : List Nat := l ++ t.take (bd - l.length)
def pos (l t : List Nat) (bd : Nat) (o : Int32) : Int32 := if l.length + t.length ≤ bd then o else 1
theorem pls_nil (l : List Nat) (bd : Nat) : pls l [] bd = l := by simp [pls]
theorem pos_nil {l : List Nat} {bd : Nat} {o : Int32} (h : l.length ≤ bd) : pos l [] bd o = o := by simp [pos, h]
theorem pls_cons {l t : List Nat} {bd x : Nat} (h : l.length ≤ bd) : pls (if l.length < bd then l ++ [x] else l) t bd = pls l (x :: t) bd := by
  unfold pls
  by_cases z : l.length < bd
  · rw [if_pos z]
    have : bd - l.length = (bd - (l ++ [x]).length) + 1 := by simp; omega
    rw [this, List.take_succ_cons]
    simp
  · rw [if_neg z]
    have : bd - l.length = 0 := by omega
    rw [this]
    simp
theorem pos_cons {l t : List Nat} {bd x : Nat} {o : Int32} (h : l.length ≤ bd) : pos (if l.length < bd then l ++ [x] else l) t bd (if l.length < bd then o else 1) = pos l (x :: t) bd o := by
  unfold pos
  by_cases z : l.length < bd
  · simp only [z, if_true, List.length_append, List.length_cons, List.length_nil]
    congr 1
    simp
    omega
  · simp only [z, if_false, List.length_cons]
    rw [if_neg (by omega : ¬ l.length + (t.length + 1) ≤ bd)]
    split <;> rfl
theorem pls_le {l t : List Nat} {bd : Nat} (h : l.length ≤ bd) : (pls l t bd).length ≤ bd := by simp [pls]; omega
theorem r_putNumber {g : Nat} {h : PH} {a b cap bd : Nat} {l : List Nat} {o v : Int32} (r : rw_ h a b cap bd l o) (hl : l.length + 4 ≤ bd) :
    ∃ h', cal g mX6_putNumber [va_rf (some a), .int v] h = some (none, h') ∧ rw_ h' a b cap bd (l ++ [bt (v.toUInt32 >>> (Int32.toUInt32 24 &&& Int32.toUInt32 31)).toInt32, bt (v.toUInt32 >>> (Int32.toUInt32 16 &&& Int32.toUInt32 31)).toInt32, bt (v.toUInt32 >>> (Int32.toUInt32 8 &&& Int32.toUInt32 31)).toInt32, bt v]) o ∧ sm (rP a b) h h' ∧ hN h' = hN h ∧ hU h' = hU h := by
  rw [n_X6_putNumber]
  simp (decide := true) only [e_X6_putNumber_0, e_X6_putNumber_1, e_X6_putNumber_2, e_X6_putNumber_4, e_X6_putNumber_5, e_X6_putNumber_8, e_X6_putNumber_9, e_X6_putNumber_10, e_X6_putNumber_12, e_X6_putNumber_13, e_X6_putNumber_16, e_X6_putNumber_17, e_X6_putNumber_18, e_X6_putNumber_20, e_X6_putNumber_21, e_X6_putNumber_24, e_X6_putNumber_25, e_X6_putNumber_26, e_X6_putNumber_29, r.1.1, if_true, if_false, reduceCtorEq, Nat.reduceAdd, true_and, and_true, false_and, and_false, true_or, or_true, false_or, or_false, not_true_eq_false, not_false_eq_true, Option.bind_eq_bind, Option.bind_some, psh, eq_self]
  obtain ⟨h1, e1, r1, s1, n1, u1⟩ := r_put (g := g) (v := (v.toUInt32 >>> (Int32.toUInt32 24 &&& Int32.toUInt32 31)).toInt32) r
  rw [if_pos (by omega), if_pos (by omega)] at r1
  simp (decide := true) only [e1, if_true, if_false, reduceCtorEq, Nat.reduceAdd, true_and, and_true, false_and, and_false, true_or, or_true, false_or, or_false, not_true_eq_false, not_false_eq_true, Option.bind_eq_bind, Option.bind_some, psh, eq_self, e_X6_putNumber_0, e_X6_putNumber_1, e_X6_putNumber_2, e_X6_putNumber_4, e_X6_putNumber_5, e_X6_putNumber_8, e_X6_putNumber_9, e_X6_putNumber_10, e_X6_putNumber_12, e_X6_putNumber_13, e_X6_putNumber_16, e_X6_putNumber_17, e_X6_putNumber_18, e_X6_putNumber_20, e_X6_putNumber_21, e_X6_putNumber_24, e_X6_putNumber_25, e_X6_putNumber_26, e_X6_putNumber_29, r1.1.1]
  obtain ⟨h2, e2, r2, s2, n2, u2⟩ := r_put (g := g) (v := (v.toUInt32 >>> (Int32.toUInt32 16 &&& Int32.toUInt32 31)).toInt32) r1
  rw [if_pos (by simp; omega), if_pos (by simp; omega)] at r2
  simp (decide := true) only [e2, if_true, if_false, reduceCtorEq, Nat.reduceAdd, true_and, and_true, false_and, and_false, true_or, or_true, false_or, or_false, not_true_eq_false, not_false_eq_true, Option.bind_eq_bind, Option.bind_some, psh, eq_self, e_X6_putNumber_0, e_X6_putNumber_1, e_X6_putNumber_2, e_X6_putNumber_4, e_X6_putNumber_5, e_X6_putNumber_8, e_X6_putNumber_9, e_X6_putNumber_10, e_X6_putNumber_12, e_X6_putNumber_13, e_X6_putNumber_16, e_X6_putNumber_17, e_X6_putNumber_18, e_X6_putNumber_20, e_X6_putNumber_21, e_X6_putNumber_24, e_X6_putNumber_25, e_X6_putNumber_26, e_X6_putNumber_29, r2.1.1]
  obtain ⟨h3, e3, r3, s3, n3, u3⟩ := r_put (g := g) (v := (v.toUInt32 >>> (Int32.toUInt32 8 &&& Int32.toUInt32 31)).toInt32) r2
  rw [if_pos (by simp; omega), if_pos (by simp; omega)] at r3
  simp (decide := true) only [e3, if_true, if_false, reduceCtorEq, Nat.reduceAdd, true_and, and_true, false_and, and_false, true_or, or_true, false_or, or_false, not_true_eq_false, not_false_eq_true, Option.bind_eq_bind, Option.bind_some, psh, eq_self, e_X6_putNumber_0, e_X6_putNumber_1, e_X6_putNumber_2, e_X6_putNumber_4, e_X6_putNumber_5, e_X6_putNumber_8, e_X6_putNumber_9, e_X6_putNumber_10, e_X6_putNumber_12, e_X6_putNumber_13, e_X6_putNumber_16, e_X6_putNumber_17, e_X6_putNumber_18, e_X6_putNumber_20, e_X6_putNumber_21, e_X6_putNumber_24, e_X6_putNumber_25, e_X6_putNumber_26, e_X6_putNumber_29, r3.1.1]
  obtain ⟨h4, e4, r4, s4, n4, u4⟩ := r_put (g := g) (v := v) r3
  rw [if_pos (by simp; omega), if_pos (by simp; omega)] at r4
  simp (decide := true) only [e4, if_true, if_false, reduceCtorEq, Nat.reduceAdd, true_and, and_true, false_and, and_false, true_or, or_true, false_or, or_false, not_true_eq_false, not_false_eq_true, Option.bind_eq_bind, Option.bind_some, psh, eq_self, e_X6_putNumber_0, e_X6_putNumber_1, e_X6_putNumber_2, e_X6_putNumber_4, e_X6_putNumber_5, e_X6_putNumber_8, e_X6_putNumber_9, e_X6_putNumber_10, e_X6_putNumber_12, e_X6_putNumber_13, e_X6_putNumber_16, e_X6_putNumber_17, e_X6_putNumber_18, e_X6_putNumber_20, e_X6_putNumber_21, e_X6_putNumber_24, e_X6_putNumber_25, e_X6_putNumber_26, e_X6_putNumber_29]
  refine ⟨h4, rfl, by simpa using r4, ((s1.tr s2).tr s3).tr s4, by omega, by omega⟩
theorem q_tx_len : ∀ k, k < 4 → (q_tx k).length < 10 ∧ ∀ x ∈ q_tx k, x < 256 := by decide
/-- the loop of putText, from place i on -/
theorem r_putText_loop {g : Nat} {a b cap bd k ta : Nat} (hk : k < 4) :
    ∀ (t : List Nat) (i : Nat) (h : PH) (l : List Nat) (o : Int32), rw_ h a b cap bd l o → hK h ta = 70 + k → (q_tx k).drop i = t → ta ≠ a → ta ≠ b → ta < hN h → i ≤ (q_tx k).length →
    ∃ h', ev g mX6_putText 2 [some (va_rf (some a)), some (va_rf (some ta)), some (.int (nI i))] [] h = some (none, h') ∧ rw_ h' a b cap bd (pls l t bd) (pos l t bd o) ∧ sm (rP a b) h h' ∧ hN h' = hN h ∧ hU h' = hU h := by
  obtain ⟨hlen, hby⟩ := q_tx_len k hk
  intro t
  induction t with
  | nil =>
    intro i h l o r ht hd h1 h2 hlt hi
    have hge : (q_tx k).length ≤ i := List.drop_eq_nil_iff.mp hd
    have z1 : nI (q_tx k).length ≤ nI i := nI_le hge (by omega)
    have k1 : 70 + k - 70 = k := by omega
    have k2 : 70 ≤ 70 + k ∧ 70 + k < 74 := by omega
    rw [e_X6_putText_2]
    simp (decide := true) only [e_X6_putText_0, e_X6_putText_1, e_X6_putText_3, e_X6_putText_4, e_X6_putText_7, e_X6_putText_10, e_X6_putText_11, e_X6_putText_12, e_X6_putText_13, e_X6_putText_16, e_X6_putText_19, e_X6_putText_22, e_X6_putText_25, j3_eq, ht, k1, k2, if_true, if_false, reduceCtorEq, Nat.reduceAdd, true_and, and_true, false_and, and_false, true_or, or_true, false_or, or_false, not_true_eq_false, not_false_eq_true, Option.bind_eq_bind, Option.bind_some, psh, eq_self, z1, and_self]
    rw [pls_nil, pos_nil r.2.2.1.1]
    exact ⟨h, rfl, r, sm.rf _, rfl, rfl⟩
  | cons x t ih =>
    intro i h l o r ht hd h1 h2 hlt hi
    obtain ⟨c1, c2, c3⟩ : i < (q_tx k).length ∧ (q_tx k).getD i 0 = x ∧ (q_tx k).drop (i + 1) = t := by
      have hl : i < (q_tx k).length := by
        have := congrArg List.length hd
        simp at this
        omega
      rw [List.drop_eq_getElem_cons hl] at hd
      refine ⟨hl, ?_, (List.cons.inj hd).2⟩
      rw [List.getD_eq_getElem?_getD, List.getElem?_eq_getElem hl]
      exact (List.cons.inj hd).1
    have z1 : ¬ nI (q_tx k).length ≤ nI i := nI_ge c1 (by omega)
    have k1 : 70 + k - 70 = k := by omega
    have k2 : 70 ≤ 70 + k ∧ 70 + k < 74 := by omega
    have k3 : q_in (nI i) (q_tx k).length = True := eq_true (vp_in_nI c1 (by omega))
    have k4 : (nI i).toNatClampNeg = i := nI_clamp (by omega)
    have hx : x < 256 := by rw [← c2]; exact hby _ (getD_mem c1)
    rw [e_X6_putText_2]
    simp (decide := true) only [e_X6_putText_0, e_X6_putText_1, e_X6_putText_3, e_X6_putText_4, e_X6_putText_7, e_X6_putText_10, e_X6_putText_11, e_X6_putText_12, e_X6_putText_13, e_X6_putText_16, e_X6_putText_19, e_X6_putText_22, e_X6_putText_25, j3_eq, j4_eq, ht, k1, k2, k3, k4, c2, if_true, if_false, reduceCtorEq, Nat.reduceAdd, true_and, and_true, false_and, and_false, true_or, or_true, false_or, or_false, not_true_eq_false, not_false_eq_true, Option.bind_eq_bind, Option.bind_some, psh, eq_self, z1, and_self, r.1.1]
    obtain ⟨h1', e1, r1, s1, n1, u1⟩ := r_put (g := g) (v := nI x) r
    rw [bt_nI hx] at r1
    simp (decide := true) only [e1, if_true, if_false, reduceCtorEq, Nat.reduceAdd, true_and, and_true, false_and, and_false, true_or, or_true, false_or, or_false, not_true_eq_false, not_false_eq_true, Option.bind_eq_bind, Option.bind_some, psh, eq_self, e_X6_putText_0, e_X6_putText_1, e_X6_putText_3, e_X6_putText_4, e_X6_putText_7, e_X6_putText_10, e_X6_putText_11, e_X6_putText_12, e_X6_putText_13, e_X6_putText_16, e_X6_putText_19, e_X6_putText_22, e_X6_putText_25, nI_1]
    have kk := (s1.2.2 ta hlt).1
    obtain ⟨h2', e2, r2, s2, n2, u2⟩ := ih (i + 1) h1' _ _ r1 (by rw [kk]; exact ht) c3 h1 h2 (by omega) (by omega)
    rw [pls_cons r.2.2.1.1, pos_cons r.2.2.1.1] at r2
    exact ⟨h2', e2, r2, s1.tr s2, by omega, by omega⟩
theorem r_putText {g : Nat} {h : PH} {a b cap bd k ta : Nat} {l : List Nat} {o : Int32} (r : rw_ h a b cap bd l o) (hk : k < 4) (ht : hK h ta = 70 + k) (hlt : ta < hN h) :
    ∃ h', cal g mX6_putText [va_rf (some a), va_rf (some ta)] h = some (none, h') ∧ rw_ h' a b cap bd (pls l (q_tx k) bd) (pos l (q_tx k) bd o) ∧ sm (rP a b) h h' ∧ hN h' = hN h ∧ hU h' = hU h := by
  have h1 : ta ≠ a := fun z => by have := r.1.1; rw [← z] at this; omega
  have h2 : ta ≠ b := fun z => by have := r.1.2.2.1; rw [← z] at this; omega
  rw [n_X6_putText]
  simp (decide := true) only [e_X6_putText_0, e_X6_putText_1, e_X6_putText_3, e_X6_putText_4, e_X6_putText_7, e_X6_putText_10, e_X6_putText_11, e_X6_putText_12, e_X6_putText_13, e_X6_putText_16, e_X6_putText_19, e_X6_putText_22, e_X6_putText_25]
  have := r_putText_loop (g := g) (a := a) (b := b) (cap := cap) (bd := bd) (ta := ta) hk (q_tx k) 0 h l o r ht rfl h1 h2 hlt (Nat.zero_le _)
  rwa [nI_0] at this
