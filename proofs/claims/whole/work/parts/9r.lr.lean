/-! the class's list and the model's: the same NAMES, or both too long -/
theorem mapD {M : List Le} {i : Nat} : (M.map Prod.fst).getD i nm0 = (M.getD i ld0).1 := by
  rw [List.getD_eq_getElem?_getD, List.getElem?_map, List.getD_eq_getElem?_getD]
  cases M[i]? with
  | none => rfl
  | some x => rfl
theorem tlB_ln {M : List Le} : tlB M = lnB (M.map Prod.fst) := by
  unfold tlB lnB
  rw [List.map_map]
  rfl
theorem tlT_ln {M : List Le} : tlT M = lnT (M.map Prod.fst) := by
  unfold tlT lnT
  rw [List.flatMap_map]
theorem lnB_cons {q : Nm} {L : List Nm} : lnB (q :: L) = (nz q).length + 1 + lnB L := by
  unfold lnB
  rw [List.map_cons, List.sum_cons]
theorem lnB_ins {q : Nm} {L : List Nm} {p : Nat} : lnB (L.take p ++ q :: L.drop p) = lnB L + ((nz q).length + 1) := by
  rw [lnB_app, lnB_cons]
  have := lnB_app (A := L.take p) (B := L.drop p)
  rw [List.take_append_drop] at this
  omega
theorem lnB_ge {L : List Nm} : L.length ≤ lnB L := by
  induction L with
  | nil => exact Nat.le_refl _
  | cons q L ih => rw [lnB_cons, List.length_cons]; omega
theorem tlB_lsA {M : List Le} {x : Le} : tlB M ≤ tlB (lsA M x) := by
  unfold lsA
  split
  · exact Nat.le_refl _
  · rw [tlB_ln, tlB_ln, List.map_append, List.map_take, List.map_cons, List.map_drop, lnB_ins]
    omega
theorem nlt_tr {a b c : List Nat} (h1 : nlt a b) (h2 : nlt b c) : nlt a c := by
  unfold nlt at *
  omega
theorem nlt_ir {a : List Nat} : ¬ nlt a a := by
  unfold nlt
  omega
theorem nlt_tri {w v : List Nat} (hw : nok w) (hv : nok v) (h : ¬ nlt w v) (hne : w ≠ v) : nlt v w := by
  by_cases c : nhd w = nhd v ∧ ntl w = ntl v
  · exact absurd (name_inj hw hv c.1 c.2) hne
  · unfold nlt at *
    omega
def srt (st gf : Nat) (kd : Bool) (M : List Le) : Prop := gf ≤ M.length ∧ (∀ i, i < M.length → (M.getD i ld0).1.1 = kd ∧ nok (M.getD i ld0).1.2) ∧ (∀ i, i < gf → (M.getD i ld0).2 < st) ∧ (∀ i, gf ≤ i → i < M.length → (M.getD i ld0).2 = st) ∧ ∀ i j, gf ≤ i → i < j → j < M.length → nlt (M.getD i ld0).1.2 (M.getD j ld0).1.2
def lR (st gf : Nat) (kd : Bool) (A M : List Le) (S : List Nm × Nat) : Prop := S.2 = lnB S.1 ∧ ((2000 < S.2 ∧ 2000 < tlB M) ∨ (S.1 = M.map Prod.fst ∧ M.take gf = A ∧ srt st gf kd M))
theorem lsp_eq {M : List Le} {x : Le} {p : Nat} : ∀ k, p ≤ k → (∀ i, p ≤ i → i < k → gtx (M.getD i ld0) x = true) → (∀ i, i + 1 = p → gtx (M.getD i ld0) x = false) → lsp M x k = p
  | 0, h, _, _ => by rw [lsp]; omega
  | k + 1, h, h1, h2 => by
    rw [lsp]
    by_cases c : p ≤ k
    · rw [if_pos (h1 k c (by omega))]
      exact lsp_eq k c (fun i i1 i2 => h1 i i1 (by omega)) h2
    · rw [if_neg (by rw [h2 k (by omega)]; decide)]
      omega
theorem lR_add {st gf : Nat} {kd : Bool} {A M : List Le} {S : List Nm × Nat} {q : Nm} (R : lR st gf kd A M S) (hk : q.1 = kd) (hq : nok q.2) : lR st gf kd A (lsA M (q, st)) (cAd gf S q) := by
  obtain ⟨hb, R⟩ := R
  have hm := tlB_lsA (M := M) (x := (q, st))
  have over : 2000 < S.2 → 2000 < tlB M → lR st gf kd A (lsA M (q, st)) (cAd gf S q) := fun o1 o2 => by
    have : cAd gf S q = S := by unfold cAd; rw [if_pos (Or.inl o1)]
    rw [this]
    exact ⟨hb, Or.inl ⟨o1, by omega⟩⟩
  rcases R with ⟨o1, o2⟩ | ⟨e, hA, s1, s2, s3, s4, s5⟩
  · exact over o1 o2
  · have ht : tlB M = S.2 := by rw [hb, e, tlB_ln]
    by_cases c0 : 2000 < S.2
    · exact over c0 (by omega)
    · obtain ⟨L, bs⟩ := S
      simp only at e hb c0 ht
      subst e
      have hl : (M.map Prod.fst).length = M.length := List.length_map _
      have hlen : M.length ≤ 2000 := by
        have := lnB_ge (L := M.map Prod.fst)
        omega
      have B := bsr_ok (L := M.map Prod.fst) (q := q) (lo0 := gf) (n := M.length) (fun i j h1 h2 h3 h4 => by
        rw [mapD] at *
        exact nlt_tr (s5 i j h1 h2 h3) h4) 32 gf M.length (Nat.le_refl _) s1 (Nat.le_refl _) (by omega) (fun i h1 h2 => by omega) (fun i h1 h2 => by omega)
      unfold cAd
      simp only
      rw [hl]
      generalize bsr (M.map Prod.fst) q 32 gf M.length = p at *
      obtain ⟨b1, b2, b3, b4⟩ := B
      have mem : ∀ i, i < M.length → (M.getD i ld0).1 ∈ M.map Prod.fst := fun i hi => List.mem_map.mpr ⟨_, Lmem hi, rfl⟩
      by_cases c1 : q ∈ M.map Prod.fst
      · have e1 : lsA M (q, st) = M := by unfold lsA; rw [if_pos c1]
        rw [e1]
        have key : ¬ q ∈ (M.map Prod.fst).take gf → p < M.length ∧ q = (M.map Prod.fst).getD p nm0 := fun c2 => by
          obtain ⟨i, hi⟩ := List.mem_iff_getElem?.mp c1
          have i1 : i < M.length := by
            have := (List.getElem?_eq_some_iff.mp hi).1
            omega
          have i2 : gf ≤ i := by
            refine Nat.le_of_not_lt (fun z => c2 ?_)
            exact List.mem_iff_getElem?.mpr ⟨i, by rw [List.getElem?_take_of_lt z]; exact hi⟩
          have i3 : (M.getD i ld0).1 = q := by
            rw [← mapD, List.getD_eq_getElem?_getD, hi]
            rfl
          have i4 : p ≤ i := by
            refine Nat.le_of_not_lt (fun z => ?_)
            have := b3 i i2 z
            rw [mapD, i3] at this
            exact nlt_ir this
          have i5 : i = p := by
            by_cases z : p < i
            · exfalso
              have y := s5 p i b1 z i1
              rw [i3] at y
              have := b4 p (Nat.le_refl _) (by omega)
              rw [mapD] at this
              exact this y
            · omega
          rw [i5] at i1 i3
          exact ⟨i1, by rw [mapD]; exact i3.symm⟩
        have hc : (if 2000 < bs ∨ q ∈ (M.map Prod.fst).take gf then (M.map Prod.fst, bs) else if p < M.length ∧ q = (M.map Prod.fst).getD p nm0 then (M.map Prod.fst, bs) else ((M.map Prod.fst).take p ++ q :: (M.map Prod.fst).drop p, bs + ((nz q).length + 1))) = (M.map Prod.fst, bs) := by
          by_cases c2 : q ∈ (M.map Prod.fst).take gf
          · rw [if_pos (Or.inr c2)]
          · rw [if_neg (by rintro (z | z); exact c0 z; exact c2 z), if_pos (key c2)]
        rw [hc]
        exact ⟨hb, Or.inr ⟨rfl, hA, s1, s2, s3, s4, s5⟩⟩
      · have c2 : ¬ q ∈ (M.map Prod.fst).take gf := fun z => c1 (List.mem_of_mem_take z)
        have c3 : ¬ (p < M.length ∧ q = (M.map Prod.fst).getD p nm0) := fun z => c1 (by rw [z.2, mapD]; exact mem p z.1)
        rw [if_neg (by rintro (z | z); exact c0 z; exact c2 z), if_neg c3]
        have hlt : ∀ i, gf ≤ i → i < p → nlt (M.getD i ld0).1.2 q.2 := fun i i1 i2 => by
          have := b3 i i1 i2
          rw [mapD] at this
          exact this
        have hge : ∀ i, p ≤ i → i < M.length → nlt q.2 (M.getD i ld0).1.2 := fun i i1 i2 => by
          have := b4 i i1 i2
          rw [mapD] at this
          refine nlt_tri (s2 i i2).2 hq this (fun z => c1 ?_)
          have : (M.getD i ld0).1 = q := Prod.ext ((s2 i i2).1.trans hk.symm) z
          rw [← this]
          exact mem i i2
        have e1 : lsA M (q, st) = M.take p ++ (q, st) :: M.drop p := by
          unfold lsA
          rw [if_neg c1, lsp_eq (p := p) M.length b2]
          · intro i i1 i2
            have := (nlt_nz (q := q) (r := (M.getD i ld0).1) (hk.trans (s2 i i2).1.symm) hq (s2 i i2).2).mp (hge i i1 i2)
            unfold gtx
            rw [s4 i (by omega) i2, this, decide_eq_true rfl]
            simp
          · intro i hi
            by_cases z : i < gf
            · have := s3 i z
              unfold gtx
              rw [decide_eq_false (by simp only; omega), decide_eq_false (by simp only; omega)]
              rfl
            · have y := hlt i (by omega) (by omega)
              have i2 : i < M.length := by omega
              unfold gtx
              rw [s4 i (by omega) i2, decide_eq_false (by simp only; omega), decide_eq_true rfl]
              cases el : ltb (nz q) (nz (M.getD i ld0).1) with
              | false => simp [el]
              | true =>
                have := (nlt_nz (q := q) (r := (M.getD i ld0).1) (hk.trans (s2 i i2).1.symm) hq (s2 i i2).2).mpr el
                exact absurd (nlt_tr this y) nlt_ir
        rw [e1]
        have hlen' : (M.take p ++ (q, st) :: M.drop p).length = M.length + 1 := by simp; omega
        refine ⟨?_, Or.inr ⟨?_, ?_, ?_, ?_, ?_, ?_, ?_⟩⟩
        · simp only
          rw [lnB_ins, hb]
        · simp only
          rw [List.map_append, List.map_take, List.map_cons, List.map_drop]
        · rw [List.take_append_of_le_length (by simp; omega), List.take_take, Nat.min_eq_left b1]
          exact hA
        · rw [hlen']; omega
        · intro i hi
          rw [ins_getD b2]
          by_cases z1 : i < p
          · rw [if_pos z1]; exact s2 i (by omega)
          · rw [if_neg z1]
            by_cases z2 : i = p
            · rw [if_pos z2]; exact ⟨hk, hq⟩
            · rw [if_neg z2]; exact s2 (i - 1) (by omega)
        · intro i hi
          rw [ins_getD b2, if_pos (by omega)]
          exact s3 i hi
        · intro i h1 h2
          rw [ins_getD b2]
          by_cases z1 : i < p
          · rw [if_pos z1]; exact s4 i h1 (by omega)
          · rw [if_neg z1]
            by_cases z2 : i = p
            · rw [if_pos z2]
            · rw [if_neg z2]; exact s4 (i - 1) (by omega) (by omega)
        · intro i j h1 h2 h3
          rw [ins_getD b2, ins_getD b2]
          by_cases z1 : i < p
          · rw [if_pos z1]
            by_cases y1 : j < p
            · rw [if_pos y1]; exact s5 i j h1 h2 (by omega)
            · rw [if_neg y1]
              by_cases y2 : j = p
              · rw [if_pos y2]; exact hlt i h1 z1
              · rw [if_neg y2]; exact nlt_tr (hlt i h1 z1) (hge (j - 1) (by omega) (by omega))
          · rw [if_neg z1, if_neg (show ¬ j < p by omega), if_neg (show ¬ j = p by omega)]
            by_cases z2 : i = p
            · rw [if_pos z2]; exact hge (j - 1) (by omega) (by omega)
            · rw [if_neg z2]; exact s5 (i - 1) (j - 1) (by omega) (by omega) (by omega)
theorem ptl_nok {t : List Nat} {e : Pt} {q : Nm} (h : e ∈ ptl t) (eq : e.2.2.2.2 = some q) : nok q.2 := by
  have sr := ptl_sort h
  have : e.1 ≠ 2 := fun z => by rw [sr.2.2.2.2.2 z] at eq; cases eq
  obtain ⟨-, s, j, b, q', et, e2⟩ := sr.2.2.2.2.1 this
  have := (tok_len et).2.2.2.2
  rw [e2] at eq
  cases eq
  exact this
theorem fold_none {f : List Le → Tk → List Le} (hf : ∀ L i, f L (i, none) = L) : ∀ (ks : List Nat) (M : List Le), (ks.map (fun k => ((k, none) : Tk))).foldl f M = M
  | [], _ => rfl
  | k :: ks, M => by
    rw [List.map_cons, List.foldl_cons, hf]
    exact fold_none hf ks M
theorem lR_kP {st gf : Nat} {A : List Le} {t : List Nat} : ∀ {es : List Pt} {M : List Le} {S : List Nm × Nat}, (∀ e ∈ es, e ∈ ptl t) → lR st gf true A M S → lR st gf true A ((es.flatMap exq).foldl (kn1 st) M) (es.foldl (kP gf) S)
  | [], _, _, _, R => R
  | e :: es, M, S, hin, R => by
    rw [List.flatMap_cons, List.foldl_append, List.foldl_cons]
    refine lR_kP (t := t) (fun x hx => hin x (List.mem_cons_of_mem _ hx)) ?_
    unfold exq kP
    cases eq : e.2.2.2.2 with
    | none =>
      simp only
      rw [fold_none (fun L i => rfl)]
      exact R
    | some q =>
      simp only [List.foldl_cons, List.foldl_nil]
      unfold kn1
      simp only
      by_cases c : e.1 = 0 ∧ q.1 = true
      · rw [if_pos c, if_pos ⟨by omega, c.2⟩]
        exact lR_add R c.2 (ptl_nok (hin e List.mem_cons_self) eq)
      · rw [if_neg c, if_neg (fun z => c ⟨by omega, z.2⟩)]
        exact R
theorem lR_kn2 {st gf : Nat} {A : List Le} {t : List Nat} {M : List Le} {S : List Nm × Nat} (R : lR st gf true A M S) : lR st gf true A (kn2 st M t) ((ptl t).foldl (kP gf) S) := by
  have := lR_kP (t := t) (es := ptl t) (fun e he => he) R
  rw [ptl_flat] at this
  exact this
theorem lR_wP {w : Wd} {T : Nat} {A : List Le} {t : List Nat} : ∀ {es : List Pt} {M : List Le} {S : List Nm × Nat}, (∀ e ∈ es, e ∈ ptl t) → lR 0 0 false A M S → lR 0 0 false A ((es.flatMap exq).foldl (wt1 w.2.1 w.2.2.2 w.2.2.1 T) M) (es.foldl (wP w T) S)
  | [], _, _, _, R => R
  | e :: es, M, S, hin, R => by
    rw [List.flatMap_cons, List.foldl_append, List.foldl_cons]
    refine lR_wP (t := t) (fun x hx => hin x (List.mem_cons_of_mem _ hx)) ?_
    unfold exq wP
    cases eq : e.2.2.2.2 with
    | none =>
      simp only
      rw [fold_none (fun L i => rfl)]
      exact R
    | some q =>
      simp only [List.foldl_cons, List.foldl_nil]
      unfold wt1
      simp only
      by_cases c : e.1 = 0 ∧ q.1 = false ∧ pof w.2.1 w.2.2.2 w.2.2.1 q T = none
      · rw [if_pos c, if_pos ⟨by omega, c.2⟩]
        exact lR_add R c.2.1 (ptl_nok (hin e List.mem_cons_self) eq)
      · rw [if_neg c, if_neg (fun z => c ⟨by omega, z.2⟩)]
        exact R
theorem lR_nil {st : Nat} {kd : Bool} : lR st 0 kd [] [] ([], 0) := ⟨rfl, Or.inr ⟨rfl, rfl, Nat.le_refl _, fun i hi => absurd hi (Nat.not_lt_zero _), fun i hi => absurd hi (Nat.not_lt_zero _), fun i _ hi => absurd hi (Nat.not_lt_zero _), fun i j _ _ hj => absurd hj (Nat.not_lt_zero _)⟩⟩
/-- what is told of both -/
def lRf (M : List Le) (S : List Nm × Nat) : Prop := S.2 = lnB S.1 ∧ ((2000 < S.2 ∧ 2000 < tlB M) ∨ S.1 = M.map Prod.fst)
theorem lR.f {st gf : Nat} {kd : Bool} {A M : List Le} {S : List Nm × Nat} (R : lR st gf kd A M S) : lRf M S := ⟨R.1, by rcases R.2 with z | z; exact Or.inl z; exact Or.inr z.1⟩
theorem lRf_tell {ou : List Nat} {M : List Le} {S : List Nm × Nat} (R : lRf M S) : sLst ou S = sTell ou M := by
  obtain ⟨hb, R⟩ := R
  unfold sLst sTell
  rcases R with ⟨o1, o2⟩ | e
  · rw [if_pos o1, if_pos o2]
  · rw [tlB_ln, tlT_ln, ← e, ← hb]
    have : S.1.length = M.length := by rw [e, List.length_map]
    rw [this]
theorem lR_wtL {w : Wd} {T : Nat} {A : List Le} : ∀ m p {M : List Le} {S : List Nm × Nat}, lR 0 0 false A M S → lR 0 0 false A (wtL w.2.1 w.2.2.2 w.2.2.1 T m p M) (cWl w T m p S)
  | 0, _, _, _, R => R
  | m + 1, p, M, S, R => by
    rw [wtL, cWl]
    refine lR_wtL m (p + 1) ?_
    cases ec : thr w.2.1 p T with
    | none => exact R
    | some c =>
      have := lR_wP (w := w) (T := T) (t := ct (w.2.1 c)) (es := ptl (ct (w.2.1 c))) (fun e he => he) R
      rw [ptl_flat] at this
      exact this
