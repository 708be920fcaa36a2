/-! which kinds a page is within: all that LINKS lead to -/
section
variable {ch : Nat → Ch} {nm : Nat → Nm} {nn T : Nat}
theorem kn2_N {st : Nat} {U : List Nm} {t : List Nat} {L : List Le} (h : lsN U L) (hu : ∀ y ∈ kl t, y ∈ U) : lsN U (kn2 st L t) := by
  rw [kn2_kl]
  generalize kl t = ks at *
  induction ks generalizing L with
  | nil => exact h
  | cons q ks ih => exact ih (lsA_N h (hu q List.mem_cons_self)) (fun y hy => hu y (List.mem_cons_of_mem _ hy))
theorem knl_N {st : Nat} {U : List Nm} (hu : ∀ p, p < nn → ∀ y ∈ kl (wasT ch p T), y ∈ U) : ∀ m k (L : List Le), lsN U L → lsN U (knl ch nm nn T st m k L) := by
  intro m
  induction m with
  | zero => intro k L h; exact h
  | succ m ih =>
    intro k L h
    rw [knl]
    split
    · cases ep : pof ch nm nn (L.getD k ld0).1 T with
      | none => exact ih (k + 1) L h
      | some p => exact ih (k + 1) _ (kn2_N h (hu p (pof_lt ep).1))
    · exact ih (k + 1) L h
theorem lsN_len {U : List Nm} {L : List Le} (h : lsN U L) : L.length ≤ U.length := by
  have := nodup_sub (l := L.map Prod.fst) (m := U) h.1 (fun x hx => by
    obtain ⟨y, hy, e⟩ := List.mem_map.mp hx
    rw [← e]
    exact h.2 y hy)
  simpa using this
/-- all that is led to is there -/
def kcl (ch : Nat → Ch) (nm : Nat → Nm) (nn T : Nat) (L : List Le) (x : Le) : Prop := ∀ p, pof ch nm nn x.1 T = some p → ∀ y ∈ kl (wasT ch p T), y ∈ L.map Prod.fst
theorem knr_st {U : List Nm} (hu : ∀ p, p < nn → ∀ y ∈ kl (wasT ch p T), y ∈ U) (hU : U.length ≤ 960) : ∀ f st (L : List Le), lsN U L → 960 < L.length + f → (∀ x ∈ L, x.2 < st) → (∀ x ∈ L, x.2 < st - 1 → kcl ch nm nn T L x) → (∀ x ∈ knr ch nm nn T f st L, kcl ch nm nn T (knr ch nm nn T f st L) x) ∧ ∀ x ∈ L, x ∈ knr ch nm nn T f st L := by
  intro f
  induction f with
  | zero => intro st L hN' hf; have := lsN_len hN'; omega
  | succ f ih =>
    intro st L hN' hf h1 h2
    obtain ⟨B, e1, h3, h4, h5⟩ := knl_st (ch := ch) (nm := nm) (nn := nn) (T := T) (st := st) h1 L.length 0 [] (by omega) (fun y hy => absurd hy List.not_mem_nil)
    rw [List.append_nil] at e1 h4
    have key : ∀ x ∈ L, kcl ch nm nn T (L ++ B) x := by
      intro x hx p hp y hy
      have hxs := h1 x hx
      by_cases c : x.2 < st - 1
      · exact h4 y (h2 x hx c p hp y hy)
      · obtain ⟨i, hi, ei⟩ := List.getElem_of_mem hx
        have eg : L.getD i ld0 = x := by rw [List.getD_eq_getElem?_getD, List.getElem?_eq_getElem hi, ei]; rfl
        exact h5 i (by omega) hi (by rw [eg]; omega) p (by rw [eg]; exact hp) y hy
    rw [knr, e1]
    by_cases c : L.length < (L ++ B).length
    · rw [if_pos c]
      have hn2 : lsN U (L ++ B) := by rw [← e1]; exact knl_N hu _ _ _ hN'
      obtain ⟨i1, i2⟩ := ih (st + 1) (L ++ B) hn2 (by omega) (fun x hx => by
        rcases List.mem_append.mp hx with z | z
        · have := h1 x z; omega
        · have := h3 x z; omega) (fun x hx hs => by
        rcases List.mem_append.mp hx with z | z
        · exact key x z
        · have := h3 x z; omega)
      exact ⟨i1, fun x hx => i2 x (List.mem_append_left _ hx)⟩
    · rw [if_neg c]
      have hB : B = [] := by
        cases B with
        | nil => rfl
        | cons b B => simp at c
      subst hB
      rw [List.append_nil] at key ⊢
      exact ⟨key, fun x hx => hx⟩
theorem knr_mem {Z : Le → Prop} : ∀ f st (L : List Le), (∀ st' x p y, st ≤ st' → Z x → x.2 = st' - 1 → pof ch nm nn x.1 T = some p → y ∈ kl (wasT ch p T) → Z (y, st')) → (∀ x ∈ L, Z x) → ∀ x ∈ knr ch nm nn T f st L, Z x := by
  intro f
  induction f with
  | zero => intro st L _ h; exact h
  | succ f ih =>
    intro st L hZ h
    have hk := knl_mem (ch := ch) (nm := nm) (nn := nn) (T := T) (st := st) (Z := Z) (fun x p y => hZ st x p y (Nat.le_refl _)) L.length 0 L (by omega) h
    rw [knr]
    split
    · exact ih (st + 1) _ (fun st' x p y hs => hZ st' x p y (by omega)) hk
    · exact hk
/-- in so many steps -/
def rch (ch : Nat → Ch) (nm : Nat → Nm) (nn T : Nat) : Nat → Nat → Nm → Prop
  | 0, p, y => y ∈ kl (wasT ch p T)
  | n + 1, p, y => ∃ k p', k ∈ kl (wasT ch p T) ∧ pof ch nm nn k T = some p' ∧ rch ch nm nn T n p' y
theorem rch_snoc {y z : Nm} {p' : Nat} (hy : pof ch nm nn y T = some p') (hz : z ∈ kl (wasT ch p' T)) : ∀ {n p : Nat}, rch ch nm nn T n p y → rch ch nm nn T (n + 1) p z
  | 0, p, h => ⟨y, p', h, hy, hz⟩
  | n + 1, p, h => by
    obtain ⟨k, p1, h1, h2, h3⟩ := h
    exact ⟨k, p1, h1, h2, rch_snoc hy hz h3⟩
theorem kinL_rch {U : List Nm} (hu : ∀ p, p < nn → ∀ y ∈ kl (wasT ch p T), y ∈ U) (hU : U.length ≤ 960) {p : Nat} (hp : p < nn) : (∀ y, y ∈ (kinL ch nm nn T p).map Prod.fst ↔ ∃ n, rch ch nm nn T n p y) ∧ ∀ y, (y, 1) ∈ kinL ch nm nn T p ↔ y ∈ kl (wasT ch p T) := by
  obtain ⟨B, e1, h1, h2⟩ := kn2_st (st := 1) (t := wasT ch p T) (A := []) (B := []) (fun y hy => absurd hy List.not_mem_nil) (fun y hy => absurd hy List.not_mem_nil)
  rw [List.nil_append, List.nil_append] at e1
  have hB : ∀ y, y ∈ kl (wasT ch p T) → (y, 1) ∈ B := by
    intro y hy
    obtain ⟨x, hx, ex⟩ := List.mem_map.mp ((h2 y).mpr (Or.inr hy))
    rw [List.nil_append] at hx
    have := h1 x hx
    rw [← ex, ← this]
    exact hx
  have hBN : lsN U B := by rw [← e1]; exact kn2_N lsN_nil (hu p hp)
  obtain ⟨k1, k2⟩ := knr_st (ch := ch) (nm := nm) (nn := nn) (T := T) hu hU 1000 2 B hBN (by omega) (fun x hx => by have := h1 x hx; omega) (fun x hx hs => by have := h1 x hx; omega)
  have k3 := knr_mem (ch := ch) (nm := nm) (nn := nn) (T := T) (Z := fun x => (∃ n, rch ch nm nn T n p x.1) ∧ (x.2 = 1 → x.1 ∈ kl (wasT ch p T))) 1000 2 B (fun st' x p' y hs hz _ hp' hy => by
      obtain ⟨⟨n, hn⟩, -⟩ := hz
      exact ⟨⟨n + 1, rch_snoc hp' hy hn⟩, fun z => by have z' : st' = 1 := z; omega⟩) (fun x hx => by
      have hk : x.1 ∈ kl (wasT ch p T) := by
        rcases (h2 x.1).mp (List.mem_map.mpr ⟨x, by rw [List.nil_append]; exact hx, rfl⟩) with z | z
        · simp at z
        · exact z
      exact ⟨⟨0, hk⟩, fun _ => hk⟩)
  have ek : kinL ch nm nn T p = knr ch nm nn T 1000 2 B := by unfold kinL; rw [e1]
  rw [ek]
  generalize knr ch nm nn T 1000 2 B = R at *
  have start : ∀ y ∈ kl (wasT ch p T), y ∈ R.map Prod.fst := fun y hy => List.mem_map.mpr ⟨(y, 1), k2 _ (hB y hy), rfl⟩
  refine ⟨fun y => ⟨fun h => ?_, fun ⟨n, h⟩ => ?_⟩, fun y => ⟨fun h => (k3 _ h).2 rfl, fun h => k2 _ (hB y h)⟩⟩
  · obtain ⟨x, hx, rfl⟩ := List.mem_map.mp h
    exact (k3 x hx).1
  · have go : ∀ n p', (∀ z ∈ kl (wasT ch p' T), z ∈ R.map Prod.fst) → rch ch nm nn T n p' y → y ∈ R.map Prod.fst := by
      intro n
      induction n with
      | zero => intro p' hs hr; exact hs y hr
      | succ n ih =>
        intro p' hs hr
        obtain ⟨k, p1, q1, q2, q3⟩ := hr
        obtain ⟨x, hx, ex⟩ := List.mem_map.mp (hs k q1)
        exact ih p1 (fun z hz => k1 x hx p1 (by rw [ex]; exact q2) z hz) q3
    exact go n p start h
end
theorem trd_true {f : (Nat → Bool) → Nat → Bool} : ∀ {m p : Nat} {mk : Nat → Bool}, (trd f m p mk true).2 = true
  | 0, _, _ => rfl
  | m + 1, p, ma => by
    rw [trd]
    split <;> exact trd_true
theorem trd_false {f : (Nat → Bool) → Nat → Bool} : ∀ {m p : Nat} {mk : Nat → Bool}, (trd f m p mk false).2 = false → (trd f m p mk false).1 = mk ∧ ∀ x, p ≤ x → x < p + m → mk x = false → f mk x = false
  | 0, p, ma, _ => ⟨rfl, fun x h1 h2 => by omega⟩
  | m + 1, p, ma, h => by
    rw [trd] at h ⊢
    by_cases c : ma p = false ∧ f ma p = true
    · rw [if_pos c, trd_true] at h
      cases h
    · rw [if_neg c] at h ⊢
      obtain ⟨h1, h2⟩ := trd_false h
      refine ⟨h1, fun x x1 x2 x3 => ?_⟩
      by_cases cx : x = p
      · subst cx
        cases z : f ma x with
        | false => rfl
        | true => exact absurd ⟨x3, z⟩ c
      · exact h2 x (by omega) (by omega) x3
theorem unm_0 {mk : Nat → Bool} : ∀ {m p x : Nat}, unm mk m p = 0 → p ≤ x → x < p + m → mk x = true
  | 0, p, x, _, h1, h2 => by omega
  | m + 1, p, x, h, h1, h2 => by
    rw [unm] at h
    by_cases c : x = p
    · subst c
      cases z : mk x with
      | true => rfl
      | false => rw [z] at h; simp at h
    · exact unm_0 (m := m) (p := p + 1) (by omega) (by omega) (by omega)
theorem trun_fix {f : (Nat → Bool) → Nat → Bool} {nn : Nat} : ∀ {k : Nat} {mk : Nat → Bool}, unm mk nn 0 ≤ k → ∀ x, x < nn → f (trun f nn k mk) x = true → trun f nn k mk x = true
  | 0, ma, h, x, hx, _ => unm_0 (mk := ma) (m := nn) (p := 0) (by omega) (by omega) (by omega)
  | k + 1, ma, h, x, hx, hf => by
    rw [trun] at hf ⊢
    cases c : (trd f nn 0 ma false).2 with
    | true =>
      rw [c, if_pos rfl] at hf
      rw [if_pos rfl]
      obtain ⟨h1, h2⟩ := trd_unm (f := f) (nn := nn) (m := nn) (p := 0) (mk := ma) (b := false) (by omega)
      rcases h2 c with z | z
      · cases z
      · exact trun_fix (by omega) x hx hf
    | false =>
      rw [c, if_neg (by simp)] at hf
      rw [if_neg (by simp)]
      obtain ⟨h1, h2⟩ := trd_false c
      rw [h1] at hf ⊢
      cases z : ma x with
      | true => rfl
      | false => rw [h2 x (by omega) (by omega) z] at hf; cases hf
theorem trd_inv {f : (Nat → Bool) → Nat → Bool} {Z : Nat → Prop} (hF : ∀ mk p, (∀ x, mk x = true → Z x) → f mk p = true → Z p) : ∀ {m p : Nat} {mk : Nat → Bool} {b : Bool}, (∀ x, mk x = true → Z x) → ∀ x, (trd f m p mk b).1 x = true → Z x
  | 0, _, _, _, h => h
  | m + 1, p, ma, b, h => by
    rw [trd]
    split
    · rename_i c
      refine trd_inv hF (fun x hx => ?_)
      by_cases cx : x = p
      · subst cx; exact hF ma x h c.2
      · rw [upf_n cx] at hx; exact h x hx
    · exact trd_inv hF h
theorem trun_inv {f : (Nat → Bool) → Nat → Bool} {Z : Nat → Prop} {nn : Nat} (hF : ∀ mk p, (∀ x, mk x = true → Z x) → f mk p = true → Z p) : ∀ {k : Nat} {mk : Nat → Bool}, (∀ x, mk x = true → Z x) → ∀ x, trun f nn k mk x = true → Z x
  | 0, _, h => h
  | k + 1, ma, h => by
    rw [trun]
    split
    · exact trun_inv hF (trd_inv hF h)
    · exact trd_inv hF h
