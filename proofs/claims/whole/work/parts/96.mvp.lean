/-! what comes behind a MOVE, counted beforehand -/
def fzP (s : List Nat × Bool) : Prop := s.1.foldl fs1 ([], false) = (s.1, false)
theorem low_low {b : Nat} : low (low b) = low b := by unfold low; split <;> (try split) <;> omega
theorem low_bl {b : Nat} (h : ¬ (b = 32 ∨ b = 95)) : ¬ (low b = 32 ∨ low b = 95) := by unfold low; split <;> omega
theorem fzP_step {s : List Nat × Bool} {b : Nat} (h : fzP s) : fzP (fs1 s b) := by
  by_cases c : b = 32 ∨ b = 95
  · unfold fs1
    rw [if_pos c]
    exact h
  · have e : fs1 s b = ((if s.2 = true ∧ s.1 ≠ [] then s.1 ++ [32] else s.1) ++ [low b], false) := by unfold fs1; rw [if_neg c]
    have hs : ∀ x : List Nat × Bool, fs1 x (low b) = ((if x.2 = true ∧ x.1 ≠ [] then x.1 ++ [32] else x.1) ++ [low b], false) := fun x => by
      unfold fs1; rw [if_neg (low_bl c), low_low]
    rw [e]
    unfold fzP at h ⊢
    show List.foldl fs1 ([], false) (_ ++ [low b]) = _
    by_cases k : s.2 = true ∧ s.1 ≠ []
    · rw [if_pos k, List.foldl_append, List.foldl_append, h]
      show fs1 (fs1 (s.1, false) 32) (low b) = _
      have : fs1 (s.1, false) 32 = (s.1, true) := by unfold fs1; rw [if_pos (Or.inl rfl)]
      rw [this, hs]
      simp only
      rw [if_pos ⟨trivial, k.2⟩]
    · rw [if_neg k, List.foldl_append, h]
      show fs1 (s.1, false) (low b) = _
      rw [hs]
      simp
theorem fzP_all : ∀ (bs : List Nat) {s : List Nat × Bool}, fzP s → fzP (bs.foldl fs1 s)
  | [], _, h => h
  | b :: t, s, h => fzP_all t (fzP_step h)
theorem fz_idem (bs : List Nat) : fz (fz bs) = fz bs := by
  have : fzP (bs.foldl fs1 ([], false)) := fzP_all bs rfl
  have h2 : (fz bs).foldl fs1 ([], false) = (fz bs, false) := this
  show ((fz bs).foldl fs1 ([], false)).1 = _
  rw [h2]
theorem fold_nz {tp : List Nat} {q : Nm} (h : fold tp = some q) (hk : q.1 = false) : fold (nz q) = some q := by
  have e : nz q = fz tp := by
    have hf : fnm (fz tp) = some q := h
    unfold fnm at hf
    split at hf
    · simp only [Option.some.injEq] at hf
      subst hf
      have hk' : fkd (fz tp) = false := hk
      unfold nz nby'
      simp only [hk', Bool.false_eq_true, if_false, List.nil_append]
      unfold fwd
      rw [hk', if_neg (by simp)]
    · cases hf
  rw [e]
  show fnm (fz (fz tp)) = _
  rw [fz_idem]
  exact h
theorem tw_all {p : Nat → Bool} : ∀ {s : List Nat} {z : List Nat}, (∀ x ∈ s, p x = true) → (z = [] ∨ p (z.getD 0 0) = false) → (s ++ z).takeWhile p = s
  | [], z, _, h => by
    cases z with
    | nil => rfl
    | cons a t =>
      have h' : p a = false := by cases h with | inl h => cases h | inr h => exact h
      show List.takeWhile p (a :: t) = []
      rw [List.takeWhile_cons, h']
      rfl
  | a :: s, z, h, hz => by
    show List.takeWhile p (a :: (s ++ z)) = a :: s
    rw [List.takeWhile_cons, if_pos (h a List.mem_cons_self), tw_all (fun x hx => h x (List.mem_cons_of_mem _ hx)) hz]
theorem mvT_tok {goal : Nm} (hf : fold (nz goal) = some goal) (hk : goal.1 = false) (hn : nok goal.2) : tok (mvT goal) 4 = some (1, 6 + goal.2.length, 6 + goal.2.length, goal) := by
  have en : nz goal = goal.2 := by unfold nz nby'; rw [hk]; rfl
  have em : mvT goal = [35, 116, 111, 32, 91, 91] ++ (goal.2 ++ [93, 93]) := by unfold mvT; rw [en]; rfl
  have hb : ∀ x ∈ goal.2, nby x := hn.2.2
  have ei : inl (mvT goal) 6 = goal.2 := by
    unfold inl
    rw [em]
    exact tw_all (p := fun b => !brb b) (s := goal.2) (z := [93, 93]) (fun x hx => by have := hb x hx; unfold nby at this; simp [brb]; omega) (Or.inr rfl)
  have et : tw goal.2 = goal.2 := by
    have := tw_all (p := fun b => decide (b ≠ 124)) (s := goal.2) (z := []) (fun x hx => by have := hb x hx; unfold nby at this; simp; omega) (Or.inl rfl)
    rw [List.append_nil] at this
    exact this
  unfold tok
  rw [show 4 + 2 = 6 from rfl, ei]
  have g4 : (mvT goal).getD 4 0 = 91 := by rw [em]; rfl
  have g5 : (mvT goal).getD (4 + 1) 0 = 91 := by rw [em]; rfl
  have g6 : (mvT goal).getD (6 + goal.2.length) 0 = 93 := by
    rw [em, List.getD_eq_getElem?_getD, List.getElem?_append_right (by simp), List.getElem?_append_right (by simp)]
    simp
  have g7 : (mvT goal).getD (6 + goal.2.length + 1) 0 = 93 := by
    rw [em, List.getD_eq_getElem?_getD, List.getElem?_append_right (by simp; omega), List.getElem?_append_right (by simp; omega)]
    have : 6 + goal.2.length + 1 - [35, 116, 111, 32, 91, 91].length - goal.2.length = 1 := by show 6 + goal.2.length + 1 - 6 - goal.2.length = 1; omega
    rw [this]
    rfl
  rw [g4, g5, g6, g7, if_pos (by decide)]
  unfold tokb
  rw [et, if_neg (by omega), ← en, hf]
  rfl
theorem tks_tok {t : List Nat} {e : Tk} : ∀ {k i : Nat}, e ∈ tks t k i → e.2 = tok t e.1
  | 0, _, h => by cases h
  | k + 1, i, h => by
    rw [tks] at h
    split at h
    · cases List.mem_cons.mp h with
      | inl h => rw [h]
      | inr h => exact tks_tok h
    · cases h
theorem mvT_mvd {held goal : Nm} (hf : fold (nz goal) = some goal) (hk : goal.1 = false) (hn : nok goal.2) (hne : ¬ goal = held) : ¬ mvd (mvT goal) = some held := by
  intro h
  unfold mvd at h
  rw [mvT_tok hf hk hn] at h
  split at h
  · simp only at h
    split at h
    · exact hne (Option.some.inj h)
    · cases h
  · cases h
theorem mvT_rlH {held goal : Nm} (hf : fold (nz goal) = some goal) (hk : goal.1 = false) (hn : nok goal.2) (hne : ¬ goal = held) : rlH held (mvT goal) = false := by
  unfold rlH tkl
  cases c : (tks (mvT goal) (mvT goal).length 0).any (rlkh held) with
  | false => rfl
  | true =>
    exfalso
    obtain ⟨e, e1, e2⟩ := List.any_eq_true.mp c
    have e3 := tks_tok e1
    have en : nz goal = goal.2 := by unfold nz nby'; rw [hk]; rfl
    have em : mvT goal = [35, 116, 111, 32, 91, 91] ++ (goal.2 ++ [93, 93]) := by unfold mvT; rw [en]; rfl
    unfold rlkh at e2
    cases eo : e.2 with
    | none => rw [eo] at e2; cases e2
    | some r =>
      obtain ⟨s, j, b, q⟩ := r
      rw [eo] at e2 e3
      have e2' := of_decide_eq_true e2
      obtain ⟨rfl, rfl⟩ := e2'
      obtain ⟨-, o1, -⟩ := tok_len3 e3.symm
      obtain ⟨p1, p2⟩ := o1 rfl
      have hx : e.1 = 4 := by
        rw [em] at p1 p2
        have hg : ∀ k, 6 ≤ k → ¬ ([35, 116, 111, 32, 91, 91] ++ (goal.2 ++ [93, 93])).getD k 0 = 91 := by
          intro k hk6 hh
          rw [List.getD_eq_getElem?_getD, List.getElem?_append_right (by simpa using hk6)] at hh
          cases ek : (goal.2 ++ [93, 93])[k - [35, 116, 111, 32, 91, 91].length]? with
          | none => rw [ek] at hh; cases hh
          | some y =>
            rw [ek] at hh
            have hy : y = 91 := hh
            have hm := List.mem_of_getElem? ek
            rw [hy] at hm
            cases List.mem_append.mp hm with
            | inl hm => have := hn.2.2 _ hm; unfold nby at this; omega
            | inr hm => simp at hm
        have h5 : e.1 + 1 < 6 := Nat.lt_of_not_le (fun z => hg _ z p2)
        match ee : e.1, h5 with
        | 0, _ => rw [ee] at p1; cases p1
        | 1, _ => rw [ee] at p1; cases p1
        | 2, _ => rw [ee] at p1; cases p1
        | 3, _ => rw [ee] at p1; cases p1
        | 4, _ => rfl
      rw [hx, mvT_tok hf hk hn] at e3
      simp only [Option.some.injEq, Prod.mk.injEq] at e3
      exact hne e3.2.2.2.symm
/-- the TEXT of a page -/
def tx (c : Cw) (q : Nat) : Option (List Nat) := (thr c.2 q c.1).map (fun k => ct (c.2 k))
theorem tx_cmt {c : Cw} {p hn q : Nat} {t : List Nat} : tx (cmt c p hn t) q = if q = p then some t else tx c q := by
  have e1 : (cmt c p hn t).1 = c.1 + 1 := rfl
  have e2 : (cmt c p hn t).2 (c.1 + 1) = mkc (c.1 + 1) p hn false t (wasT c.2 p c.1) (wasB c.2 p c.1) := upf_s
  have e3 : cp ((cmt c p hn t).2 (c.1 + 1)) = p := by rw [e2]; rfl
  have e4 : cg ((cmt c p hn t).2 (c.1 + 1)) = false := by rw [e2]; rfl
  have e5 : ct ((cmt c p hn t).2 (c.1 + 1)) = t := by rw [e2]; rfl
  have el : lst (cmt c p hn t).2 q c.1 = lst c.2 q c.1 := lst_ext (fun k _ hk => cmt_old hk)
  unfold tx thr
  rw [e1, lst_succ, e3, el]
  by_cases z : q = p
  · subst z
    rw [if_pos rfl, if_pos rfl, if_neg (by rw [e4]; simp)]
    simp only [Option.map_some, e5]
  · have z' : ¬ p = q := fun y => z y.symm
    rw [if_neg z', if_neg z]
    have := lst_le c.2 q c.1
    rw [cmt_old this]
    split
    · rfl
    · simp only [Option.map_some, cmt_old this]
def sw (F : Nat → Nat) : Nat → Nat → Nat
  | 0, _ => 0
  | k + 1, q => F q + sw F k (q + 1)
theorem sw_cg {F G : Nat → Nat} : ∀ {k q : Nat}, (∀ i, q ≤ i → i < q + k → F i = G i) → sw F k q = sw G k q
  | 0, _, _ => rfl
  | k + 1, q, h => by rw [sw, sw, h q (Nat.le_refl _) (by omega), sw_cg (fun i h1 h2 => h i (by omega) (by omega))]
theorem sw_add {F G : Nat → Nat} : ∀ {k q : Nat}, sw (fun i => F i + G i) k q = sw F k q + sw G k q
  | 0, _ => rfl
  | k + 1, q => by rw [sw, sw, sw, sw_add]; omega
theorem sw_up {F : Nat → Nat} {p a : Nat} : ∀ {k q : Nat}, q ≤ p → p < q + k → sw (upf F p a) k q + F p = sw F k q + a
  | 0, _, h1, h2 => by omega
  | k + 1, q, h1, h2 => by
    rw [sw, sw]
    by_cases z : q = p
    · subst z
      rw [upf_s, sw_cg (G := F) (fun i h3 _ => upf_n (by omega))]
      omega
    · have := sw_up (F := F) (a := a) (k := k) (q := q + 1) (p := p) (by omega) (by omega)
      rw [upf_n z]
      omega
theorem sw_end {F : Nat → Nat} : ∀ {k q : Nat}, sw F (k + 1) q = sw F k q + F (q + k)
  | 0, q => by simp [sw]
  | k + 1, q => by rw [sw, sw_end, sw, show q + 1 + k = q + (k + 1) by omega]; omega
def w1 (held : Nm) (o : Option (List Nat)) : Nat := match o with | none => 0 | some t => if mvd t = some held then 1 else 0
def w2 (held goal : Nm) (o : Option (List Nat)) : Nat := match o with | none => 0 | some t => if rlH held t = false then 0 else if (rlT held goal t).length ≤ 300 then 1 else 1000
def wS (held goal : Nm) (lk : Bool) (o : Option (List Nat)) : Nat := match o with
  | none => 0
  | some t => if mvd t = some held then 1 else if lk = true then w2 held goal (some t) else 0
theorem cbm_sw {held goal : Nm} {lk : Bool} {ch : Nat → Ch} {n : Nat} : ∀ k p m, m + k ≤ 900 → (m + sw (fun i => wS held goal lk (tx (n, ch) i)) k p < 1000 → cbm held goal lk ch n k p m = some (m + sw (fun i => wS held goal lk (tx (n, ch) i)) k p)) ∧ (1000 ≤ m + sw (fun i => wS held goal lk (tx (n, ch) i)) k p → cbm held goal lk ch n k p m = none) := by
  intro k
  induction k with
  | zero => intro p m hm; exact ⟨fun _ => rfl, fun h => by rw [sw] at h; omega⟩
  | succ k ih =>
    intro p m hm
    rw [sw, cbm]
    cases e : thr ch p n with
    | none =>
      have et : tx (n, ch) p = none := by unfold tx; simp only; rw [e]; rfl
      simp only [et, wS, Nat.zero_add]
      exact ih (p + 1) m (by omega)
    | some c =>
      have et : tx (n, ch) p = some (ct (ch c)) := by unfold tx; simp only; rw [e]; rfl
      simp only [et]
      rw [wS]
      by_cases c1 : mvd (ct (ch c)) = some held
      · rw [if_pos c1, if_pos c1, ← Nat.add_assoc]
        exact ih (p + 1) (m + 1) (by omega)
      · rw [if_neg c1, if_neg c1]
        cases lk with
        | false =>
          rw [if_neg (by simp), if_neg (by simp), Nat.zero_add]
          exact ih (p + 1) m (by omega)
        | true =>
          rw [if_pos rfl, w2]
          cases c2 : rlH held (ct (ch c)) with
          | false =>
            simp only [Bool.false_eq_true, and_false, if_true, if_false, Nat.zero_add]
            exact ih (p + 1) m (by omega)
          | true =>
            simp only [Bool.true_eq_false, and_self, if_true, if_false]
            by_cases c3 : (rlT held goal (ct (ch c))).length ≤ 300
            · rw [if_pos c3, if_pos c3, ← Nat.add_assoc]
              exact ih (p + 1) (m + 1) (by omega)
            · rw [if_neg c3, if_neg c3]
              exact ⟨fun h => by omega, fun _ => rfl⟩
theorem mv1_sw {held : Nm} {mt : List Nat} {hn : Nat} : ∀ k p (c : Cw), (mv1 held mt hn k p c).1 = c.1 + sw (fun i => w1 held (tx c i)) k p ∧ ∀ i, tx (mv1 held mt hn k p c) i = if (p ≤ i ∧ i < p + k) ∧ w1 held (tx c i) = 1 then some mt else tx c i := by
  intro k
  induction k with
  | zero => intro p c; exact ⟨rfl, fun i => by rw [if_neg (by omega)]; rfl⟩
  | succ k ih =>
    intro p c
    rw [mv1, sw]
    have stay : w1 held (tx c p) = 0 → (mv1 held mt hn k (p + 1) c).1 = c.1 + (w1 held (tx c p) + sw (fun i => w1 held (tx c i)) k (p + 1)) ∧ ∀ i, tx (mv1 held mt hn k (p + 1) c) i = if (p ≤ i ∧ i < p + (k + 1)) ∧ w1 held (tx c i) = 1 then some mt else tx c i := by
      intro z
      obtain ⟨i1, i2⟩ := ih (p + 1) c
      refine ⟨by rw [z, i1, Nat.zero_add], fun i => ?_⟩
      rw [i2 i]
      by_cases y : (p + 1 ≤ i ∧ i < p + 1 + k) ∧ w1 held (tx c i) = 1
      · rw [if_pos y, if_pos ⟨⟨by omega, by omega⟩, y.2⟩]
      · rw [if_neg y, if_neg]
        intro x
        by_cases v : i = p
        · subst v; omega
        · exact y ⟨⟨by omega, by omega⟩, x.2⟩
    cases e : thr c.2 p c.1 with
    | none =>
      have et : tx c p = none := by unfold tx; rw [e]; rfl
      simp only
      exact stay (by rw [et]; rfl)
    | some d =>
      have et : tx c p = some (ct (c.2 d)) := by unfold tx; rw [e]; rfl
      simp only
      by_cases c1 : mvd (ct (c.2 d)) = some held
      · rw [if_pos c1]
        have hw : w1 held (tx c p) = 1 := by rw [et]; show (if _ then _ else _) = 1; rw [if_pos c1]
        obtain ⟨i1, i2⟩ := ih (p + 1) (cmt c p hn mt)
        rw [hw]
        refine ⟨?_, fun i => ?_⟩
        · have hc := sw_cg (F := fun i => w1 held (tx (cmt c p hn mt) i)) (G := fun i => w1 held (tx c i)) (k := k) (q := p + 1) (fun i h1 h2 => by simp only [tx_cmt]; rw [if_neg (by omega)])
          rw [i1, hc]
          show c.1 + 1 + _ = _
          omega
        · rw [i2 i, tx_cmt]
          by_cases v : i = p
          · subst v
            rw [if_pos rfl, if_neg (by omega), if_pos ⟨⟨by omega, by omega⟩, hw⟩]
          · rw [if_neg v]
            by_cases y : (p + 1 ≤ i ∧ i < p + 1 + k) ∧ w1 held (tx c i) = 1
            · rw [if_pos y, if_pos ⟨⟨by omega, by omega⟩, y.2⟩]
            · rw [if_neg y, if_neg (fun x => y ⟨⟨by omega, by omega⟩, x.2⟩)]
      · rw [if_neg c1]
        exact stay (by rw [et]; show (if _ then _ else _) = 0; rw [if_neg c1])
theorem mv2_sw {held goal : Nm} {hn : Nat} : ∀ k p (c : Cw), k ≤ 900 → (sw (fun i => w2 held goal (tx c i)) k p < 1000 → (mv2 held goal hn k p c).1 = true ∧ (mv2 held goal hn k p c).2.1 = c.1 + sw (fun i => w2 held goal (tx c i)) k p) ∧ (1000 ≤ sw (fun i => w2 held goal (tx c i)) k p → (mv2 held goal hn k p c).1 = false) := by
  have key : ∀ k p (c : Cw) m, m + k ≤ 900 → (m + sw (fun i => w2 held goal (tx c i)) k p < 1000 → (mv2 held goal hn k p c).1 = true ∧ (mv2 held goal hn k p c).2.1 = c.1 + sw (fun i => w2 held goal (tx c i)) k p) ∧ (1000 ≤ m + sw (fun i => w2 held goal (tx c i)) k p → (mv2 held goal hn k p c).1 = false) := by
    intro k
    induction k with
    | zero => intro p c m hm; exact ⟨fun _ => ⟨rfl, rfl⟩, fun h => by rw [sw] at h; omega⟩
    | succ k ih =>
      intro p c m hm
      rw [sw, mv2]
      cases e : thr c.2 p c.1 with
      | none =>
        have et : tx c p = none := by unfold tx; rw [e]; rfl
        simp only [et, w2, Nat.zero_add]
        exact ih (p + 1) c m (by omega)
      | some d =>
        have et : tx c p = some (ct (c.2 d)) := by unfold tx; rw [e]; rfl
        simp only [et]
        rw [w2]
        cases c2 : rlH held (ct (c.2 d)) with
        | false =>
          simp only [if_true, Nat.zero_add]
          exact ih (p + 1) c m (by omega)
        | true =>
          simp only [Bool.true_eq_false, if_false]
          by_cases c3 : (rlT held goal (ct (c.2 d))).length ≤ 300
          · rw [if_pos c3, if_pos c3]
            obtain ⟨i1, i2⟩ := ih (p + 1) (cmt c p hn (rlT held goal (ct (c.2 d)))) (m + 1) (by omega)
            have hc := sw_cg (F := fun i => w2 held goal (tx (cmt c p hn (rlT held goal (ct (c.2 d)))) i)) (G := fun i => w2 held goal (tx c i)) (k := k) (q := p + 1) (fun i h1 h2 => by simp only [tx_cmt]; rw [if_neg (by omega)])
            rw [hc] at i1 i2
            refine ⟨fun h => ?_, fun h => i2 (by omega)⟩
            obtain ⟨j1, j2⟩ := i1 (by omega)
            refine ⟨j1, ?_⟩
            rw [j2]
            show c.1 + 1 + _ = _
            omega
          · rw [if_neg c3, if_neg c3]
            exact ⟨fun h => by omega, fun _ => rfl⟩
  intro k p c hk
  have := key k p c 0 (by omega)
  simp only [Nat.zero_add] at this
  exact this
theorem sw_le {F : Nat → Nat} (h : ∀ i, F i ≤ 1 ∨ F i = 1000) : ∀ {k q : Nat}, sw F k q ≤ k ∨ 1000 ≤ sw F k q
  | 0, _ => Or.inl (Nat.le_refl _)
  | k + 1, q => by
    rw [sw]
    have := sw_le h (k := k) (q := q + 1)
    have := h q
    omega
theorem sw_le1 {F : Nat → Nat} (h : ∀ i, F i ≤ 1) : ∀ {k q : Nat}, sw F k q ≤ k
  | 0, _ => Nat.le_refl _
  | k + 1, q => by
    rw [sw]
    have := sw_le1 h (k := k) (q := q + 1)
    have := h q
    omega
theorem sw_swap {F : Nat → Nat} {p to nn nn' : Nat} (h0 : F to = 0) (hne : ¬ p = to) (hp : p < nn) (ht : (nn' = nn ∧ to < nn) ∨ (nn' = nn + 1 ∧ to = nn)) : sw (upf (upf F to (F p)) p 0) nn' 0 = sw F nn 0 := by
  have hs : sw F nn' 0 = sw F nn 0 := by
    cases ht with
    | inl h => rw [h.1]
    | inr h => rw [h.1, sw_end, Nat.zero_add, ← h.2, h0]; rfl
  have a1 := sw_up (F := F) (p := to) (a := F p) (k := nn') (q := 0) (by omega) (by omega)
  have a2 := sw_up (F := upf F to (F p)) (p := p) (a := 0) (k := nn') (q := 0) (by omega) (by omega)
  rw [upf_n hne] at a2
  omega
theorem w1_le {held : Nm} (o : Option (List Nat)) : w1 held o ≤ 1 := by
  unfold w1
  split
  · omega
  · split <;> omega
theorem w2_le {held goal : Nm} (o : Option (List Nat)) : w2 held goal o ≤ 1 ∨ w2 held goal o = 1000 := by
  unfold w2
  split
  · omega
  · split
    · omega
    · split <;> omega
theorem wS_f {held goal : Nm} (o : Option (List Nat)) : wS held goal false o = w1 held o := by
  cases o with
  | none => rfl
  | some t =>
    unfold wS w1
    simp
theorem sMoves_ok {lk : Bool} {held goal : Nm} {p hn : Nat} {w : Wd} (hf : fold (nz goal) = some goal) (hk : goal.1 = false) (hno : nok goal.2) (hne : ¬ goal = held) (hp : p < w.2.2.1) (hnn : w.2.2.1 ≤ 16) (hth : ¬ thr w.2.1 p w.1 = none) (hto : thr w.2.1 (nbr w.2.2.2 w.2.2.1 goal).1 w.1 = none) :
    (sw (fun i => wS held goal lk (tx (w.1, w.2.1) i)) w.2.2.1 0 < 1000 → (sMoves lk held goal p hn w).1 = true ∧ (sMoves lk held goal p hn w).2.1 = w.1 + 2 + sw (fun i => wS held goal lk (tx (w.1, w.2.1) i)) w.2.2.1 0) ∧ (1000 ≤ sw (fun i => wS held goal lk (tx (w.1, w.2.1) i)) w.2.2.1 0 → (sMoves lk held goal p hn w).1 = false) := by
  obtain ⟨n, ch, nn, nm⟩ := w
  simp only at *
  have hl := nbr_lt (nm := nm) (nn := nn) (q := goal)
  have ht : ((nbr nm nn goal).2.1 = nn ∧ (nbr nm nn goal).1 < nn) ∨ ((nbr nm nn goal).2.1 = nn + 1 ∧ (nbr nm nn goal).1 = nn) := by
    unfold nbr
    cases e : num nm goal nn 0 with
    | none => exact Or.inr ⟨rfl, rfl⟩
    | some q => exact Or.inl ⟨rfl, by have := num_lt e; show q < nn; omega⟩
  have m1 := mvT_mvd hf hk hno hne
  have m2 := mvT_rlH hf hk hno hne
  unfold sMoves
  simp only
  generalize hc2 : cmt (cmt (n, ch) (nbr nm nn goal).1 hn (wasT ch p n)) p hn (mvT goal) = c2
  generalize (nbr nm nn goal).2.1 = nn' at *
  generalize (nbr nm nn goal).1 = to at *
  have hc21 : c2.1 = n + 2 := by rw [← hc2]; rfl
  have t0 : tx (n, ch) to = none := by unfold tx; simp only; rw [hto]; rfl
  have tp : tx (n, ch) p = some (wasT ch p n) := by
    unfold tx wasT
    simp only
    cases e : thr ch p n with
    | none => exact absurd e hth
    | some c => rfl
  have hpt : ¬ p = to := fun z => by rw [z, t0] at tp; cases tp
  have htx : ∀ i, tx c2 i = if i = p then some (mvT goal) else if i = to then tx (n, ch) p else tx (n, ch) i := fun i => by rw [← hc2, tx_cmt, tx_cmt, tp]
  have swp : ∀ W : Option (List Nat) → Nat, W none = 0 → W (some (mvT goal)) = 0 → sw (fun i => W (tx c2 i)) nn' 0 = sw (fun i => W (tx (n, ch) i)) nn 0 := by
    intro W h0 h1
    rw [← sw_swap (F := fun i => W (tx (n, ch) i)) (p := p) (to := to) (nn' := nn') (by simp only [t0, h0]) hpt hp ht]
    apply sw_cg
    intro i _ _
    simp only [htx]
    by_cases z1 : i = p
    · subst z1
      rw [if_pos rfl, upf_s, h1]
    · rw [if_neg z1, upf_n z1]
      by_cases z2 : i = to
      · subst z2
        rw [if_pos rfl, upf_s]
      · rw [if_neg z2, upf_n z2]
  have hw1 : w1 held (some (mvT goal)) = 0 := by unfold w1; simp only; rw [if_neg m1]
  have hw2 : w2 held goal (some (mvT goal)) = 0 := by unfold w2; simp only; rw [if_pos m2]
  obtain ⟨v1, v2⟩ := mv1_sw (held := held) (mt := mvT goal) (hn := hn) nn' 0 c2
  have s1 := swp (w1 held) rfl hw1
  cases lk with
  | false =>
    simp only [wS_f, Bool.false_eq_true, if_false]
    rw [s1, hc21] at v1
    have := sw_le1 (F := fun i => w1 held (tx (n, ch) i)) (fun i => w1_le _) (k := nn) (q := 0)
    exact ⟨fun _ => ⟨trivial, v1⟩, fun h => by omega⟩
  | true =>
    simp only [if_true]
    have sS := swp (wS held goal true) rfl (by unfold wS; simp only; rw [if_neg m1, if_pos trivial, hw2])
    generalize hc3 : mv1 held (mvT goal) hn nn' 0 c2 = c3 at *
    obtain ⟨u1, u2⟩ := mv2_sw (held := held) (goal := goal) (hn := hn) nn' 0 c3 (by omega)
    have hsum : sw (fun i => wS held goal true (tx c2 i)) nn' 0 = sw (fun i => w1 held (tx c2 i)) nn' 0 + sw (fun i => w2 held goal (tx c3 i)) nn' 0 := by
      rw [← sw_add]
      apply sw_cg
      intro i h1 h2
      simp only [v2 i]
      cases e : tx c2 i with
      | none => simp [wS, w1, w2]
      | some t =>
        by_cases z : mvd t = some held
        · have z1 : w1 held (some t) = 1 := by unfold w1; simp only; rw [if_pos z]
          rw [if_pos ⟨⟨by omega, by omega⟩, z1⟩, z1, hw2]
          unfold wS
          simp only
          rw [if_pos z]
        · have z1 : w1 held (some t) = 0 := by unfold w1; simp only; rw [if_neg z]
          rw [if_neg (by rw [z1]; omega), z1, Nat.zero_add]
          unfold wS
          simp only
          rw [if_neg z, if_pos trivial]
    rw [sS] at hsum
    have l1 := sw_le1 (F := fun i => w1 held (tx c2 i)) (fun i => w1_le _) (k := nn') (q := 0)
    have l2 := sw_le (F := fun i => w2 held goal (tx c3 i)) (fun i => w2_le _) (k := nn') (q := 0)
    rw [hsum]
    refine ⟨fun h => ?_, fun h => u2 (by omega)⟩
    obtain ⟨j1, j2⟩ := u1 (by omega)
    exact ⟨j1, by rw [j2, v1, hc21]; omega⟩
