/-! ArrayList.add(i, v): what its array holds -/
theorem q_ins_at {l : List Nat} {f : Nat → Option Nat} {k v : Nat} (hk : k ≤ l.length) (hf : ∀ i, i < l.length → f i = some (l.getD i 0)) : ∀ i, i < (l.take k ++ v :: l.drop k).length → q_ins f l.length k v i = some ((l.take k ++ v :: l.drop k).getD i 0) := by
  intro i hi
  simp only [List.length_append, List.length_take, List.length_cons, List.length_drop] at hi
  unfold q_ins va_up va_cpy
  by_cases c1 : i = k
  · subst c1
    simp [List.getD_eq_getElem?_getD, List.getElem?_append, Nat.min_eq_left hk]
  · by_cases c2 : i < k
    · have := hf i (by omega)
      rw [List.getD_eq_getElem?_getD] at this ⊢
      rw [List.getElem?_append_left (by simp; omega), List.getElem?_take_of_lt c2]
      simp [c1, this]
      omega
    · have := hf (i - 1) (by omega)
      rw [List.getD_eq_getElem?_getD] at this ⊢
      rw [List.getElem?_append_right (by simp; omega)]
      have e : i - (l.take k).length = (i - 1 - k) + 1 := by simp; omega
      rw [e, List.getElem?_cons_succ, List.getElem?_drop, show k + (i - 1 - k) = i - 1 by omega]
      refine Eq.trans ?_ this
      rw [if_neg c1, if_pos ⟨by omega, by omega⟩, show k + (i - (k + 1)) = i - 1 by omega]
