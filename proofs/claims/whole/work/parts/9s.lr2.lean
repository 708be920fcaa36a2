/-! KINDS above a page: sixteen steps are enough; the class's steps are the model's -/
theorem cAd_over {gf : Nat} {S : List Nm × Nat} {q : Nm} (o : 2000 < S.2) : cAd gf S q = S := by unfold cAd; rw [if_pos (Or.inl o)]
theorem kPs_over {gf : Nat} : ∀ {es : List Pt} {S : List Nm × Nat}, 2000 < S.2 → es.foldl (kP gf) S = S
  | [], _, _ => rfl
  | e :: es, S, o => by
    have : kP gf S e = S := by
      unfold kP
      split
      · rfl
      · split
        · exact cAd_over o
        · rfl
    rw [List.foldl_cons, this]
    exact kPs_over o
theorem cK1_over {w : Wd} {T gf : Nat} {S : List Nm × Nat} {q : Nm} (o : 2000 < S.2) : cK1 w T gf S q = S := by
  unfold cK1
  split
  · rfl
  · exact kPs_over o
theorem cKn_over {w : Wd} {T gf : Nat} : ∀ m k {S : List Nm × Nat}, 2000 < S.2 → cKn w T gf m k S = S
  | 0, _, _, _ => rfl
  | m + 1, k, S, o => by rw [cKn, cK1_over o]; exact cKn_over m (k + 1) o
theorem cWr_over {w : Wd} {T : Nat} : ∀ j k {S : List Nm × Nat}, 2000 < S.2 → cWr w T j k S = S
  | 0, _, _, _ => rfl
  | j + 1, k, S, o => by
    rw [cWr]
    split
    · rw [cKn_over _ _ o]; exact cWr_over j _ o
    · rfl
section
variable {ch : Nat → Ch} {nm : Nat → Nm} {nn T : Nat}
theorem tlB_kn2 {st : Nat} {t : List Nat} {M : List Le} : tlB M ≤ tlB (kn2 st M t) := by
  rw [kn2_kl]
  generalize kl t = ks
  induction ks generalizing M with
  | nil => exact Nat.le_refl _
  | cons q ks ih => rw [List.foldl_cons]; exact Nat.le_trans tlB_lsA ih
theorem tlB_knl {st : Nat} : ∀ m k (M : List Le), tlB M ≤ tlB (knl ch nm nn T st m k M)
  | 0, _, _ => Nat.le_refl _
  | m + 1, k, M => by
    rw [knl]
    refine Nat.le_trans ?_ (tlB_knl m (k + 1) _)
    split
    · split
      · exact Nat.le_refl _
      · exact tlB_kn2
    · exact Nat.le_refl _
theorem tlB_knr : ∀ f st (M : List Le), tlB M ≤ tlB (knr ch nm nn T f st M)
  | 0, _, _ => Nat.le_refl _
  | f + 1, st, M => by
    rw [knr]
    split
    · exact Nat.le_trans (tlB_knl _ _ _) (tlB_knr f (st + 1) _)
    · exact tlB_knl _ _ _
/-- a step that finds no page leaves all as it is -/
theorem knl_id {st : Nat} {M : List Le} : ∀ m k, (∀ i, k ≤ i → i < k + m → (M.getD i ld0).2 = st - 1 → pof ch nm nn (M.getD i ld0).1 T = none) → knl ch nm nn T st m k M = M
  | 0, _, _ => rfl
  | m + 1, k, h => by
    rw [knl]
    have ih := knl_id (st := st) (M := M) m (k + 1) (fun i h1 h2 => h i (by omega) (by omega))
    by_cases z : (M.getD k ld0).2 = st - 1
    · rw [if_pos z, h k (Nat.le_refl _) (by omega) z]
      exact ih
    · rw [if_neg z]
      exact ih
theorem knl_skip {st : Nat} {M : List Le} : ∀ d k m, (∀ i, k ≤ i → i < k + d → ¬ (M.getD i ld0).2 = st - 1) → knl ch nm nn T st (d + m) k M = knl ch nm nn T st m (k + d) M
  | 0, k, m, _ => by rw [Nat.zero_add, Nat.add_zero]
  | d + 1, k, m, h => by
    rw [show d + 1 + m = (d + m) + 1 by omega, knl, if_neg (h k (Nat.le_refl _) (by omega)), knl_skip d (k + 1) m (fun i h1 h2 => h i (by omega) (by omega)), show k + 1 + d = k + (d + 1) by omega]
theorem countP_lt {P R : Nat → Bool} : ∀ {l : List Nat} {p0 : Nat}, (∀ p ∈ l, P p = true → R p = true) → p0 ∈ l → P p0 = false → R p0 = true → l.countP P + 1 ≤ l.countP R
  | [], _, _, h, _, _ => by cases h
  | x :: l, p0, h, hm, h1, h2 => by
    have mono : l.countP P ≤ l.countP R := List.countP_mono_left (fun p hp z => h p (List.mem_cons_of_mem _ hp) z)
    rw [List.countP_cons, List.countP_cons]
    by_cases c : p0 = x
    · subst c
      rw [h1, h2]
      simp
      exact mono
    · have hm' : p0 ∈ l := by
        rcases List.mem_cons.mp hm with z | z
        · exact absurd z c
        · exact z
      have ih := countP_lt (l := l) (fun p hp => h p (List.mem_cons_of_mem _ hp)) hm' h1 h2
      have hx := h x List.mem_cons_self
      by_cases c2 : P x = true
      · rw [if_pos c2, if_pos (hx c2)]; omega
      · rw [if_neg c2]
        split <;> omega
/-- pages of the NAMES from steps before s -/
def kmu (ch : Nat → Ch) (nm : Nat → Nm) (nn T : Nat) (M : List Le) (s : Nat) : Nat := (List.range nn).countP (fun p => M.any (fun x => decide (x.2 < s ∧ pof ch nm nn x.1 T = some p)))
theorem kmu_le {M : List Le} {s : Nat} : kmu ch nm nn T M s ≤ nn := by
  have := List.countP_le_length (l := List.range nn) (p := fun p => M.any (fun x => decide (x.2 < s ∧ pof ch nm nn x.1 T = some p)))
  rw [List.length_range] at this
  exact this
theorem kmu_mono {M M' : List Le} {s : Nat} (h : ∀ x ∈ M, x ∈ M') : kmu ch nm nn T M s ≤ kmu ch nm nn T M' s := by
  refine List.countP_mono_left (fun p _ z => ?_)
  obtain ⟨x, hx, hz⟩ := List.any_eq_true.mp z
  exact List.any_eq_true.mpr ⟨x, h x hx, hz⟩
theorem nodup_fst {M : List Le} (h : (M.map Prod.fst).Nodup) {x y : Le} (hx : x ∈ M) (hy : y ∈ M) (e : x.1 = y.1) : x = y := by
  induction M with
  | nil => cases hx
  | cons z M ih =>
    rw [List.map_cons, List.nodup_cons] at h
    rcases List.mem_cons.mp hx with a | a
    · rcases List.mem_cons.mp hy with b | b
      · rw [a, b]
      · exact absurd (List.mem_map.mpr ⟨y, b, by rw [← e, a]⟩) h.1
    · rcases List.mem_cons.mp hy with b | b
      · exact absurd (List.mem_map.mpr ⟨x, a, by rw [e, b]⟩) h.1
      · exact ih h.2 a b
theorem kmu_lt {M : List Le} {s p : Nat} {x : Le} (hn : (M.map Prod.fst).Nodup) (hx : x ∈ M) (h1 : x.2 = s) (h2 : pof ch nm nn x.1 T = some p) : kmu ch nm nn T M s + 1 ≤ kmu ch nm nn T M (s + 1) := by
  refine countP_lt (p0 := p) (fun p' _ z => ?_) (List.mem_range.mpr (pof_lt h2).1) ?_ ?_
  · obtain ⟨y, hy, hz⟩ := List.any_eq_true.mp z
    simp only [decide_eq_true_eq] at hz
    exact List.any_eq_true.mpr ⟨y, hy, by simp only [decide_eq_true_eq]; exact ⟨by omega, hz.2⟩⟩
  · cases z : M.any (fun x => decide (x.2 < s ∧ pof ch nm nn x.1 T = some p)) with
    | false => rfl
    | true =>
      obtain ⟨y, hy, hz⟩ := List.any_eq_true.mp z
      simp only [decide_eq_true_eq] at hz
      have : y.1 = x.1 := by rw [← (pof_lt hz.2).2.1, ← (pof_lt h2).2.1]
      have := nodup_fst hn hy hx this
      rw [this] at hz
      omega
  · exact List.any_eq_true.mpr ⟨x, hx, by simp only [decide_eq_true_eq]; exact ⟨by omega, h2⟩⟩
theorem knl_some {st : Nat} {M : List Le} (h : ¬ knl ch nm nn T st M.length 0 M = M) : ∃ x ∈ M, x.2 = st - 1 ∧ ∃ p, pof ch nm nn x.1 T = some p := by
  refine Classical.byContradiction (fun z => h (knl_id M.length 0 (fun i _ hi hs => ?_)))
  cases e : pof ch nm nn (M.getD i ld0).1 T with
  | none => rfl
  | some p => exact absurd ⟨_, Lmem (by omega), hs, p, e⟩ z
theorem knr_eq (f st : Nat) (M : List Le) : knr ch nm nn T (f + 1) st M = if M.length < (knl ch nm nn T st M.length 0 M).length then knr ch nm nn T f (st + 1) (knl ch nm nn T st M.length 0 M) else knl ch nm nn T st M.length 0 M := rfl
theorem knr_fuel {U : List Nm} (hu : ∀ p, p < nn → ∀ y ∈ kl (wasT ch p T), y ∈ U) : ∀ f st (M : List Le), 1 ≤ st → lsN U M → (∀ x ∈ M, x.2 < st) → nn ≤ kmu ch nm nn T M (st - 1) + f → knr ch nm nn T (f + 1) st M = knr ch nm nn T f st M := by
  intro f
  induction f with
  | zero =>
    intro st M h1 hN hs hf
    have e : knl ch nm nn T st M.length 0 M = M := by
      refine Classical.byContradiction (fun z => ?_)
      obtain ⟨x, hx, x1, p, x2⟩ := knl_some z
      have a1 := kmu_lt hN.1 hx x1 x2
      have a2 := kmu_le (ch := ch) (nm := nm) (nn := nn) (T := T) (M := M) (s := st - 1 + 1)
      omega
    rw [knr_eq, e, if_neg (Nat.lt_irrefl _)]
    rfl
  | succ f ih =>
    intro st M h1 hN hs hf
    rw [knr_eq (f + 1) st M, knr_eq f st M]
    split
    · rename_i c
      have ne : ¬ knl ch nm nn T st M.length 0 M = M := fun z => by rw [z] at c; exact Nat.lt_irrefl _ c
      obtain ⟨x, hx, x1, p, x2⟩ := knl_some ne
      have a1 := kmu_lt hN.1 hx x1 x2
      obtain ⟨B', eB, hB, -⟩ := knl_st (ch := ch) (nm := nm) (nn := nn) (T := T) hs M.length 0 [] (by omega) (fun y hy => by cases hy)
      rw [List.append_nil] at eB
      have a2 := kmu_mono (ch := ch) (nm := nm) (nn := nn) (T := T) (M := M) (M' := knl ch nm nn T st M.length 0 M) (s := st) (fun y hy => by rw [eB]; exact List.mem_append_left _ hy)
      rw [show st - 1 + 1 = st by omega] at a1
      refine ih (st + 1) (knl ch nm nn T st M.length 0 M) (by omega) (knl_N hu _ _ _ hN) (fun y hy => ?_) (by rw [show st + 1 - 1 = st by omega]; omega)
      rw [eB] at hy
      rcases List.mem_append.mp hy with z | z
      · have := hs y z; omega
      · have := hB y z; omega
    · rfl
theorem knr_16 {U : List Nm} (hu : ∀ p, p < nn → ∀ y ∈ kl (wasT ch p T), y ∈ U) (hnn : nn ≤ 16) {st : Nat} {M : List Le} (h1 : 1 ≤ st) (hN : lsN U M) (hs : ∀ x ∈ M, x.2 < st) : ∀ j, knr ch nm nn T (16 + j) st M = knr ch nm nn T 16 st M
  | 0 => rfl
  | j + 1 => by
    rw [← knr_16 hu hnn h1 hN hs j, show 16 + (j + 1) = (16 + j) + 1 by omega]
    exact knr_fuel hu (16 + j) st M h1 hN hs (by omega)
end
section
variable {w : Wd} {T : Nat}
/-- the group is closed -/
theorem lR_close {st gf : Nat} {A M : List Le} {S : List Nm × Nat} (R : lR st gf true A M S) : lR (st + 1) S.1.length true M M S := by
  obtain ⟨hb, R⟩ := R
  refine ⟨hb, ?_⟩
  rcases R with z | ⟨e, hA, s1, s2, s3, s4, s5⟩
  · exact Or.inl z
  · have hl : S.1.length = M.length := by rw [e, List.length_map]
    refine Or.inr ⟨e, by rw [hl, List.take_length], by omega, s2, fun i hi => ?_, fun i h1 h2 => by omega, fun i j h1 h2 h3 => by omega⟩
    by_cases c : i < gf
    · have := s3 i c; omega
    · have := s4 i (by omega) (by omega); omega
theorem take_getD {α : Type} {M A : List α} {d : α} {n i : Nat} (h : M.take n = A) (hi : i < n) : M.getD i d = A.getD i d := by
  rw [← h, List.getD_eq_getElem?_getD, List.getD_eq_getElem?_getD, List.getElem?_take_of_lt hi]
theorem lR_knl {st n : Nat} {A : List Le} : ∀ m k {M : List Le} {S : List Nm × Nat}, k + m = n → (∀ i, k ≤ i → i < n → (A.getD i ld0).2 = st - 1) → lR st n true A M S → lR st n true A (knl w.2.1 w.2.2.2 w.2.2.1 T st m k M) (cKn w T n m k S)
  | 0, _, _, _, _, _, R => R
  | m + 1, k, M, S, hk, hA, R => by
    by_cases o : 2000 < S.2
    · have oM : 2000 < tlB M := by
        rcases R.2 with z | z
        · exact z.2
        · rw [tlB_ln, ← z.1, ← R.1]; exact o
      rw [cKn_over _ _ o]
      have := tlB_knl (ch := w.2.1) (nm := w.2.2.2) (nn := w.2.2.1) (T := T) (st := st) (m + 1) k M
      exact ⟨R.1, Or.inl ⟨o, by omega⟩⟩
    · rw [knl, cKn]
      refine lR_knl m (k + 1) (by omega) (fun i h1 h2 => hA i (by omega) h2) ?_
      rcases R.2 with z | z
      · exact absurd z.1 o
      · have e1 : M.getD k ld0 = A.getD k ld0 := take_getD z.2.1 (by omega)
        have e2 : S.1.getD k nm0 = (A.getD k ld0).1 := by rw [z.1, mapD, e1]
        rw [e1, e2, if_pos (hA k (Nat.le_refl _) (by omega))]
        unfold cK1
        cases pof w.2.1 w.2.2.2 w.2.2.1 (A.getD k ld0).1 T with
        | none => exact R
        | some p => exact lR_kn2 R
theorem lR_wr : ∀ j st k {A M : List Le} {S : List Nm × Nat}, lR st k true A M S → lRf (knr w.2.1 w.2.2.2 w.2.2.1 T j (st + 1) M) (cWr w T j k S)
  | 0, st, k, A, M, S, R => R.f
  | j + 1, st, k, A, M, S, R => by
    by_cases o : 2000 < S.2
    · have oM : 2000 < tlB M := by
        rcases R.2 with z | z
        · exact z.2
        · rw [tlB_ln, ← z.1, ← R.1]; exact o
      rw [cWr_over _ _ o]
      have := tlB_knr (ch := w.2.1) (nm := w.2.2.2) (nn := w.2.2.1) (T := T) (j + 1) (st + 1) M
      exact ⟨R.1, Or.inl ⟨o, by omega⟩⟩
    · rcases R.2 with z | ⟨e, hA, s1, s2, s3, s4, s5⟩
      · exact absurd z.1 o
      · have hl : S.1.length = M.length := by rw [e, List.length_map]
        rw [cWr]
        have R1 := lR_close R
        have sk := knl_skip (ch := w.2.1) (nm := w.2.2.2) (nn := w.2.2.1) (T := T) (st := st + 1) (M := M) k 0 (M.length - k) (fun i h1 h2 => by have := s3 i (by omega); omega)
        rw [show k + (M.length - k) = M.length by omega, Nat.zero_add] at sk
        have R2 := lR_knl (w := w) (T := T) (n := S.1.length) (M.length - k) k (by omega) (fun i h1 h2 => by have := s4 i h1 (by omega); omega) R1
        rw [← sk] at R2
        rw [knr]
        by_cases c : k < S.1.length
        · rw [if_pos c, hl]
          rw [hl] at R2
          split
          · exact lR_wr j (st + 1) M.length R2
          · rename_i c2
            by_cases o2 : 2000 < (cKn w T M.length (M.length - k) k S).2
            · rw [cWr_over _ _ o2]
              exact R2.f
            · have e2 : (cKn w T M.length (M.length - k) k S).1.length = (knl w.2.1 w.2.2.2 w.2.2.1 T (st + 1) M.length 0 M).length := by
                rcases R2.2 with z | z
                · exact absurd z.1 o2
                · rw [z.1, List.length_map]
              have : cWr w T j M.length (cKn w T M.length (M.length - k) k S) = cKn w T M.length (M.length - k) k S := by
                cases j with
                | zero => rfl
                | succ j => rw [cWr, if_neg (by omega)]
              rw [this]
              exact R2.f
        · rw [if_neg c]
          have hk : M.length - k = 0 := by omega
          rw [hk] at sk
          have e3 : knl w.2.1 w.2.2.2 w.2.2.1 T (st + 1) M.length 0 M = M := sk
          rw [e3, if_neg (Nat.lt_irrefl _)]
          exact R.f
theorem lR_kin {p : Nat} (hnn : w.2.2.1 ≤ 16) (hp : p < w.2.2.1) (ht : ∀ p, p < w.2.2.1 → (wasT w.2.1 p T).length ≤ 300) : lRf (kinL w.2.1 w.2.2.2 w.2.2.1 T p) (cWr w T 16 0 ((ptl (wasT w.2.1 p T)).foldl (kP 0) ([], 0))) := by
  have hu : ∀ p, p < w.2.2.1 → ∀ y ∈ kl (wasT w.2.1 p T), y ∈ lnkA w.2.1 w.2.2.1 T := fun p hp y hy => lnkA_mem hp (kl_lnk hy)
  have hN := kn2_N (st := 1) (L := []) (t := wasT w.2.1 p T) lsN_nil (hu p hp)
  have e := knr_16 (ch := w.2.1) (nm := w.2.2.2) (nn := w.2.2.1) (T := T) hu hnn (st := 2) (by omega) hN (fun x hx => by
    rcases kn2_mem hx with z | z
    · cases z
    · omega) 984
  unfold kinL
  rw [show (1000 : Nat) = 16 + 984 by omega, e]
  exact lR_wr 16 1 0 (lR_kn2 lR_nil)
end
