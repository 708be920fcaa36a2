/-! which kinds a page is within, and what a search for members marks: the same -/
/-- the kinds that a TEXT has LINKS to -/
def kl1 (e : Tk) : Option Nm := match e.2 with
  | none => none
  | some (s, _, _, q) => if s = 1 ∧ q.1 = true then some q else none
def kl (t : List Nat) : List Nm := (tkl t).filterMap kl1
theorem kn2_kl {st : Nat} {t : List Nat} {L : List Le} : kn2 st L t = (kl t).foldl (fun L q => lsA L (q, st)) L := by
  unfold kn2 kl
  generalize tkl t = es
  induction es generalizing L with
  | nil => rfl
  | cons e es ih =>
    rw [List.foldl_cons, ih, List.filterMap_cons]
    unfold kn1 kl1
    cases e.2 with
    | none => rfl
    | some r =>
      obtain ⟨s, j, b, q⟩ := r
      simp only
      by_cases c : s = 1 ∧ q.1 = true
      · rw [if_pos c, if_pos c]; rfl
      · rw [if_neg c, if_neg c]
theorem lsp_ge {A B : List Le} {x : Le} (hA : ∀ y ∈ A, y.2 < x.2) : ∀ {k : Nat}, A.length ≤ k → A.length ≤ lsp (A ++ B) x k
  | 0, h => by rw [lsp]; exact h
  | k + 1, h => by
    rw [lsp]
    by_cases c : A.length ≤ k
    · split
      · exact lsp_ge hA c
      · omega
    · have hk : k < A.length := by omega
      have e : (A ++ B).getD k ld0 = A.getD k ld0 := by
        rw [List.getD_eq_getElem?_getD, List.getElem?_append_left hk, List.getD_eq_getElem?_getD]
      have hm : A.getD k ld0 ∈ A := by
        rw [List.getD_eq_getElem?_getD, List.getElem?_eq_getElem hk]
        exact List.getElem_mem hk
      have := hA _ hm
      rw [e, if_neg]
      · omega
      · unfold gtx
        rw [decide_eq_false (by omega), decide_eq_false (by omega)]
        simp
/-- one more behind the step before -/
theorem lsA_st {A B : List Le} {q : Nm} {st : Nat} (hA : ∀ y ∈ A, y.2 < st) (hB : ∀ y ∈ B, y.2 = st) : ∃ B', lsA (A ++ B) (q, st) = A ++ B' ∧ (∀ y ∈ B', y.2 = st) := by
  unfold lsA
  split
  · exact ⟨B, rfl, hB⟩
  · have h1 := lsp_ge (x := (q, st)) (B := B) hA (k := (A ++ B).length) (by simp)
    generalize lsp (A ++ B) (q, st) (A ++ B).length = z at *
    refine ⟨B.take (z - A.length) ++ (q, st) :: B.drop (z - A.length), ?_, ?_⟩
    · rw [List.take_append, List.drop_append, List.take_of_length_le h1, List.drop_of_length_le h1, List.append_assoc, List.nil_append]
    · intro y hy
      rcases List.mem_append.mp hy with z1 | z1
      · exact hB y (List.mem_of_mem_take z1)
      · rcases List.mem_cons.mp z1 with z2 | z2
        · rw [z2]
        · exact hB y (List.mem_of_mem_drop z2)
theorem lsA_nm {L : List Le} {q y : Nm} {st : Nat} : y ∈ (lsA L (q, st)).map Prod.fst ↔ y ∈ L.map Prod.fst ∨ y = q := by
  constructor
  · intro h
    obtain ⟨x, hx, rfl⟩ := List.mem_map.mp h
    rcases lsA_mem.mp hx with z | ⟨z, -⟩
    · exact Or.inl (List.mem_map.mpr ⟨x, z, rfl⟩)
    · exact Or.inr (by rw [z])
  · intro h
    by_cases c : q ∈ L.map Prod.fst
    · have : y ∈ L.map Prod.fst := by rcases h with z | z; exact z; rw [z]; exact c
      obtain ⟨x, hx, rfl⟩ := List.mem_map.mp this
      exact List.mem_map.mpr ⟨x, lsA_mem.mpr (Or.inl hx), rfl⟩
    · rcases h with z | z
      · obtain ⟨x, hx, rfl⟩ := List.mem_map.mp z
        exact List.mem_map.mpr ⟨x, lsA_mem.mpr (Or.inl hx), rfl⟩
      · exact List.mem_map.mpr ⟨(q, st), lsA_mem.mpr (Or.inr ⟨rfl, c⟩), z.symm⟩
theorem kn2_st {st : Nat} {t : List Nat} {A B : List Le} (hA : ∀ y ∈ A, y.2 < st) (hB : ∀ y ∈ B, y.2 = st) : ∃ B', kn2 st (A ++ B) t = A ++ B' ∧ (∀ y ∈ B', y.2 = st) ∧ ∀ y, y ∈ (A ++ B').map Prod.fst ↔ y ∈ (A ++ B).map Prod.fst ∨ y ∈ kl t := by
  rw [kn2_kl]
  generalize kl t = ks
  induction ks generalizing B with
  | nil => exact ⟨B, rfl, hB, fun y => ⟨fun h => Or.inl h, fun h => by rcases h with z | z; exact z; cases z⟩⟩
  | cons q ks ih =>
    obtain ⟨B1, e1, h1⟩ := lsA_st (q := q) hA hB
    obtain ⟨B2, e2, h2, h3⟩ := ih h1
    refine ⟨B2, by rw [List.foldl_cons, e1]; exact e2, h2, fun y => ?_⟩
    rw [h3, ← e1, lsA_nm, List.mem_cons]
    constructor
    · rintro ((z | z) | z)
      · exact Or.inl z
      · exact Or.inr (Or.inl z)
      · exact Or.inr (Or.inr z)
    · rintro (z | z | z)
      · exact Or.inl (Or.inl z)
      · exact Or.inl (Or.inr z)
      · exact Or.inr z
theorem kn2_mem {st : Nat} {t : List Nat} {L : List Le} {y : Le} (h : y ∈ kn2 st L t) : y ∈ L ∨ (y.2 = st ∧ y.1 ∈ kl t) := by
  rw [kn2_kl] at h
  generalize kl t = ks at *
  induction ks generalizing L with
  | nil => exact Or.inl h
  | cons q ks ih =>
    rcases ih h with z | ⟨z1, z2⟩
    · rcases lsA_mem.mp z with z | ⟨z, -⟩
      · exact Or.inl z
      · exact Or.inr (by rw [z]; exact ⟨rfl, List.mem_cons_self⟩)
    · exact Or.inr ⟨z1, List.mem_cons_of_mem _ z2⟩
section
variable {ch : Nat → Ch} {nm : Nat → Nm} {nn T st : Nat}
/-- one step: A stays, what its last step leads to is there -/
theorem knl_st {A : List Le} (hA : ∀ y ∈ A, y.2 < st) : ∀ m k (B : List Le), k + m = A.length → (∀ y ∈ B, y.2 = st) → ∃ B', knl ch nm nn T st m k (A ++ B) = A ++ B' ∧ (∀ y ∈ B', y.2 = st) ∧ (∀ y, y ∈ (A ++ B).map Prod.fst → y ∈ (A ++ B').map Prod.fst) ∧ ∀ i, k ≤ i → i < A.length → (A.getD i ld0).2 = st - 1 → ∀ p, pof ch nm nn (A.getD i ld0).1 T = some p → ∀ y ∈ kl (wasT ch p T), y ∈ (A ++ B').map Prod.fst := by
  intro m
  induction m with
  | zero => intro k B hk hB; exact ⟨B, rfl, hB, fun y h => h, fun i h1 h2 => by omega⟩
  | succ m ih =>
    intro k B hk hB
    have e : (A ++ B).getD k ld0 = A.getD k ld0 := by
      rw [List.getD_eq_getElem?_getD, List.getElem?_append_left (by omega), List.getD_eq_getElem?_getD]
    rw [knl, e]
    have stay : ((A.getD k ld0).2 = st - 1 → pof ch nm nn (A.getD k ld0).1 T = none) → ∃ B', knl ch nm nn T st m (k + 1) (A ++ B) = A ++ B' ∧ (∀ y ∈ B', y.2 = st) ∧ (∀ y, y ∈ (A ++ B).map Prod.fst → y ∈ (A ++ B').map Prod.fst) ∧ ∀ i, k ≤ i → i < A.length → (A.getD i ld0).2 = st - 1 → ∀ p, pof ch nm nn (A.getD i ld0).1 T = some p → ∀ y ∈ kl (wasT ch p T), y ∈ (A ++ B').map Prod.fst := by
      intro hs
      obtain ⟨B', e1, h1, h2, h3⟩ := ih (k + 1) B (by omega) hB
      refine ⟨B', e1, h1, h2, fun i i1 i2 i3 p hp => ?_⟩
      by_cases c : i = k
      · subst c
        rw [hs i3] at hp
        cases hp
      · exact h3 i (by omega) i2 i3 p hp
    by_cases c : (A.getD k ld0).2 = st - 1
    · rw [if_pos c]
      cases ep : pof ch nm nn (A.getD k ld0).1 T with
      | none => exact stay (fun _ => ep)
      | some p =>
        obtain ⟨B1, e1, h1, h2⟩ := kn2_st (t := wasT ch p T) hA hB
        simp only
        rw [e1]
        obtain ⟨B', e2, h3, h4, h5⟩ := ih (k + 1) B1 (by omega) h1
        refine ⟨B', e2, h3, fun y hy => h4 y ((h2 y).mpr (Or.inl hy)), fun i i1 i2 i3 p' hp => ?_⟩
        by_cases ci : i = k
        · subst ci
          rw [ep] at hp
          cases hp
          exact fun y hy => h4 y ((h2 y).mpr (Or.inr hy))
        · exact h5 i (by omega) i2 i3 p' hp
    · rw [if_neg c]
      exact stay (fun z => absurd z c)
theorem knl_mem {Z : Le → Prop} (hZ : ∀ x p y, Z x → x.2 = st - 1 → pof ch nm nn x.1 T = some p → y ∈ kl (wasT ch p T) → Z (y, st)) : ∀ m k (L : List Le), k + m ≤ L.length → (∀ x ∈ L, Z x) → ∀ x ∈ knl ch nm nn T st m k L, Z x := by
  intro m
  induction m with
  | zero => intro k L _ h; exact h
  | succ m ih =>
    intro k L hk h
    rw [knl]
    have hm : L.getD k ld0 ∈ L := by
      rw [List.getD_eq_getElem?_getD, List.getElem?_eq_getElem (show k < L.length by omega)]
      exact List.getElem_mem _
    split
    · rename_i c
      cases ep : pof ch nm nn (L.getD k ld0).1 T with
      | none => exact ih (k + 1) L (by omega) h
      | some p =>
        simp only
        have hl := kn2_len (st := st) (t := wasT ch p T) (L := L)
        refine ih (k + 1) _ (by omega) (fun x hx => ?_)
        rcases kn2_mem hx with z | ⟨z1, z2⟩
        · exact h x z
        · have := hZ _ p x.1 (h _ hm) c ep z2
          rw [← z1] at this
          exact this
    · exact ih (k + 1) L (by omega) h
end
