/-! the place that the binary search finds -/
theorem bsr_ok {L : List Nm} {q : Nm} {lo0 n : Nat} (hs : ∀ i j, lo0 ≤ i → i < j → j < n → nlt (L.getD j nm0).2 q.2 → nlt (L.getD i nm0).2 q.2) : ∀ k lo hi, lo0 ≤ lo → lo ≤ hi → hi ≤ n → hi - lo < 2 ^ k → (∀ i, lo0 ≤ i → i < lo → nlt (L.getD i nm0).2 q.2) → (∀ i, hi ≤ i → i < n → ¬ nlt (L.getD i nm0).2 q.2) →
    lo0 ≤ bsr L q k lo hi ∧ bsr L q k lo hi ≤ n ∧ (∀ i, lo0 ≤ i → i < bsr L q k lo hi → nlt (L.getD i nm0).2 q.2) ∧ ∀ i, bsr L q k lo hi ≤ i → i < n → ¬ nlt (L.getD i nm0).2 q.2 := by
  intro k
  induction k with
  | zero =>
    intro lo hi h0 h1 h2 h3 h4 h5
    have : lo = hi := by simp at h3; omega
    subst this
    exact ⟨h0, h2, h4, h5⟩
  | succ k ih =>
    intro lo hi h0 h1 h2 h3 h4 h5
    rw [bsr]
    by_cases c : lo < hi
    · rw [if_pos c]
      have hp : 2 ^ (k + 1) = 2 * 2 ^ k := by rw [Nat.pow_succ]; omega
      rw [hp] at h3
      generalize hP : 2 ^ k = P at *
      by_cases cb : nlt (L.getD ((lo + hi) / 2) nm0).2 q.2
      · rw [if_pos cb]
        refine ih _ _ (by omega) (by omega) h2 (by omega) (fun i i1 i2 => ?_) h5
        by_cases ci : i = (lo + hi) / 2
        · rw [ci]; exact cb
        · exact hs i ((lo + hi) / 2) i1 (by omega) (by omega) cb
      · rw [if_neg cb]
        refine ih _ _ h0 (by omega) (by omega) (by omega) h4 (fun i i1 i2 z => ?_)
        by_cases ci : i = (lo + hi) / 2
        · rw [ci] at z; exact cb z
        · exact cb (hs ((lo + hi) / 2) i (by omega) (by omega) i2 z)
    · rw [if_neg c]
      have : lo = hi := by omega
      subst this
      exact ⟨h0, h2, h4, h5⟩
