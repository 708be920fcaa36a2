/-! isBefore() is the order of bytes -/
def val : Nat → List Nat → Nat
  | 0, _ => 0
  | _ + 1, [] => 0
  | k + 1, a :: x => a * 256 ^ k + val k x
theorem val_nil : ∀ k, val k [] = 0
  | 0 => rfl
  | _ + 1 => rfl
theorem val_lt : ∀ {k : Nat} {x : List Nat}, (∀ b ∈ x, b < 256) → val k x < 256 ^ k
  | 0, _, _ => Nat.one_pos
  | k + 1, [], _ => Nat.pow_pos (by omega)
  | k + 1, a :: x, h => by
    have h1 := h a List.mem_cons_self
    have h2 := val_lt (k := k) (fun b hb => h b (List.mem_cons_of_mem _ hb))
    have h3 : a * 256 ^ k ≤ 255 * 256 ^ k := Nat.mul_le_mul_right _ (by omega)
    rw [val, Nat.pow_succ]
    generalize 256 ^ k = P at *
    omega
theorem val_ltb : ∀ {k : Nat} {x y : List Nat}, (∀ b ∈ x, 0 < b ∧ b < 256) → (∀ b ∈ y, 0 < b ∧ b < 256) → x.length ≤ k → y.length ≤ k → (ltb x y = true ↔ val k x < val k y)
  | 0, [], [], _, _, _, _ => by simp [ltb, val]
  | 0, a :: x, _, _, _, h, _ => by simp at h
  | 0, [], b :: y, _, _, _, h => by simp at h
  | k + 1, [], [], _, _, _, _ => by simp [ltb, val]
  | k + 1, [], b :: y, _, hy, _, _ => by
    have h1 := (hy b List.mem_cons_self).1
    have h2 : 1 * 256 ^ k ≤ b * 256 ^ k := Nat.mul_le_mul_right _ h1
    have h3 : 0 < 256 ^ k := Nat.pow_pos (by omega)
    simp only [ltb, val, true_iff]
    generalize 256 ^ k = P at *
    omega
  | k + 1, a :: x, [], _, _, _, _ => by simp [ltb, val]
  | k + 1, a :: x, b :: y, hx, hy, hlx, hly => by
    have ih := val_ltb (k := k) (x := x) (y := y) (fun c hc => hx c (List.mem_cons_of_mem _ hc)) (fun c hc => hy c (List.mem_cons_of_mem _ hc)) (by simpa using hlx) (by simpa using hly)
    have h1 := val_lt (k := k) (x := x) (fun c hc => (hx c (List.mem_cons_of_mem _ hc)).2)
    have h2 := val_lt (k := k) (x := y) (fun c hc => (hy c (List.mem_cons_of_mem _ hc)).2)
    rw [ltb, val, val]
    by_cases c : a = b
    · rw [if_pos c, ih, c]
      omega
    · rw [if_neg c, decide_eq_true_eq]
      constructor
      · intro z
        have h3 : (a + 1) * 256 ^ k ≤ b * 256 ^ k := Nat.mul_le_mul_right _ z
        rw [Nat.add_mul] at h3
        generalize 256 ^ k = P at *
        omega
      · intro z
        refine Nat.lt_of_not_le (fun y' => ?_)
        have h3 : (b + 1) * 256 ^ k ≤ a * 256 ^ k := Nat.mul_le_mul_right _ (by omega)
        rw [Nat.add_mul] at h3
        generalize 256 ^ k = P at *
        omega
theorem val_add : ∀ {m k : Nat} {x : List Nat}, val (m + k) x = val m x * 256 ^ k + val k (x.drop m)
  | 0, k, x => by rw [Nat.zero_add, val, Nat.zero_mul, Nat.zero_add, List.drop_zero]
  | m + 1, k, [] => by rw [val_nil, val_nil, List.drop_nil, val_nil, Nat.zero_mul]
  | m + 1, k, a :: x => by
    rw [show m + 1 + k = (m + k) + 1 by omega, val, val, val_add (m := m), List.drop_succ_cons, Nat.pow_add, Nat.add_mul, Nat.mul_assoc, Nat.add_assoc]
def vl (w : List Nat) : Nat → Nat → Nat
  | 0, _ => 0
  | k + 1, i => w.getD i 0 * 256 ^ k + vl w k (i + 1)
theorem vl_val {w : List Nat} : ∀ {k i : Nat}, vl w k i = val k (w.drop i)
  | 0, _ => rfl
  | k + 1, i => by
    rw [vl, vl_val]
    by_cases c : i < w.length
    · rw [drop_cons c, val]
    · rw [List.drop_of_length_le (by omega), List.drop_of_length_le (by omega), val_nil, val_nil, List.getD_eq_getElem?_getD, List.getElem?_eq_none (by omega)]
      simp
theorem nhd_val {w : List Nat} : nhd w = val 8 w := by
  have := vl_val (w := w) (k := 8) (i := 0)
  rw [List.drop_zero] at this
  rw [← this]
  simp only [vl, nhd, pk8, Nat.reducePow, Nat.reduceAdd, Nat.zero_add]
  omega
theorem ntl_val {w : List Nat} : ntl w = val 8 (w.drop 8) := by
  have := vl_val (w := w) (k := 8) (i := 8)
  rw [← this]
  simp only [vl, ntl, pk8, Nat.reducePow, Nat.reduceAdd]
  omega
theorem nlt_ltb {w v : List Nat} (hw : nok w) (hv : nok v) : nlt w v ↔ ltb w v = true := by
  have hb : ∀ {z : List Nat}, nok z → ∀ b ∈ z, 0 < b ∧ b < 256 := fun hz b hb => by have := hz.2.2 b hb; unfold nby at this; omega
  rw [val_ltb (k := 8 + 8) (hb hw) (hb hv) (by have := hw.2.1; omega) (by have := hv.2.1; omega), val_add, val_add]
  unfold nlt
  rw [nhd_val, nhd_val, ntl_val, ntl_val]
  have h1 := val_lt (k := 8) (x := w.drop 8) (fun b hb' => (hb hw b (List.mem_of_mem_drop hb')).2)
  have h2 := val_lt (k := 8) (x := v.drop 8) (fun b hb' => (hb hv b (List.mem_of_mem_drop hb')).2)
  simp only [Nat.reducePow] at *
  omega
/-- of one kind: the order of all bytes -/
theorem ltb_app {p w v : List Nat} : ltb (p ++ w) (p ++ v) = ltb w v := by
  induction p with
  | nil => rfl
  | cons a p ih => rw [List.cons_append, List.cons_append, ltb, if_pos rfl, ih]
theorem nlt_nz {q r : Nm} (hk : q.1 = r.1) (hq : nok q.2) (hr : nok r.2) : nlt q.2 r.2 ↔ ltb (nz q) (nz r) = true := by
  unfold nz nby'
  rw [hk, ltb_app]
  exact nlt_ltb hq hr
