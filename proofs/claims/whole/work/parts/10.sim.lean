/-! one step of the pure machine is one of the machine -/
theorem q_cat_len (st : List Value) : q_cat st ≤ 2 * st.length := by
  induction st with
  | nil => simp [q_cat]
  | cons v t ih =>
    have h1 : v.category ≤ 2 := by rcases lv_cat v with h | h <;> omega
    simp only [q_cat, List.map_cons, List.sum_cons, List.length_cons] at ih ⊢
    omega
theorem q_r8_cat {st : List Value} (h : q_r8 st = true) : q_cat st ≤ 8 := by
  unfold q_r8 at h
  simp only [Bool.and_eq_true, decide_eq_true_eq] at h
  obtain ⟨h1, h2⟩ := h
  have : q_cat st = st.length := by
    clear h1
    induction st with
    | nil => rfl
    | cons v t ih =>
      simp only [List.all_cons, Bool.and_eq_true] at h2
      have e := ih h2.2
      have h3 : v.category = 1 := by
        have := h2.1
        cases v <;> simp_all [q_lng, Value.category]
      simp only [q_cat, List.map_cons, List.sum_cons, List.length_cons] at e ⊢
      omega
  omega
/-- a member of the JDK: its row -/
def q_JR (l : Launch) (base : Nat) (D : va_G) (Cy : Nat → ClassId) (S : Nat → Nat) (Hb : Heap) (j : Nat) : Prop :=
  ∀ (p : Program) (e : Env) (R : Room) (s : State) (mid : MethodId) (args : Array Value) (below : List Frame) (meth : Method) (c : Code) (H : Heap) (locs : List Loc) (cells slots u0 : Nat) (Q : State → Prop) (m : Mt) (g : Nat) (h : PH) (pc : Nat) (lsA : Array Slot) (ls : List (Option Value)) (st : List Value) (k : Nat) (ins : Instr) (q : PS),
    q_Cx p R s mid args meth c base D Cy S m g → q_V base D Cy S Hb s h H locs → lsA.size = mM m → qk_j (mO m) k = some j → decode (mC m) pc = .ok (ins, 3) →
    (ins = .invokespecial k ∧ (j = 0 ∨ j = 6) ∨ ins = .invokestatic k ∧ (j = 1 ∨ j = 2 ∨ j = 5 ∨ j = 11) ∨ ins = .invokevirtual k ∧ (j = 3 ∨ j = 4 ∨ j = 7 ∨ j = 8 ∨ j = 9 ∨ j = 10)) → st.length ≤ 5 → q_jdk j pc ls st h = some q →
    cells + s.heap.size = hN h → slots + u0 = hU h → hN q.2.2.2 ≤ s.heap.size + R.cells → hU q.2.2.2 ≤ u0 + R.slots →
    (∀ (H1 : Heap) (locs1 : List Loc) (cells1 slots1 : Nat), q_V base D Cy S Hb s q.2.2.2 H1 locs1 → cells1 + s.heap.size = hN q.2.2.2 → slots1 + u0 = hU q.2.2.2 → W p l e R s mid args below meth c H1 locs1 cells1 slots1 Q (F0 mid q.1 lsA q.2.2.1)) →
    W p l e R s mid args below meth c H locs cells slots Q (F0 mid pc lsA st)
theorem q_jln {c i j : Nat} (hj : qk_j c i = some j) : Cond.methodLink (q_rn c) i (q_jy j) ∈ gtb ∧ j < 12 := by
  unfold qk_j at hj
  obtain ⟨en, he, rfl⟩ := Option.map_eq_some_iff.mp hj
  have hf1 := List.find?_some he
  obtain ⟨g1, g2⟩ := q_okj en (List.mem_of_find?_eq_some he)
  simp only [Bool.and_eq_true, beq_iff_eq] at hf1
  rw [hf1.1, hf1.2] at g1
  exact ⟨q_g _ g1 rfl, g2⟩
section QJ
variable {l : Launch} {base : Nat} {D : va_G} {Cy : Nat → ClassId} {S : Nat → Nat} {Hb : Heap}
theorem q_jr0 : q_JR l base D Cy S Hb 0 := by
  intro p e R s mid args below meth c H locs cells slots u0 Q m g h pc lsA ls st k ins q X hV hl hj hd hi hlen ej hc hu h1 h2 kk
  obtain ⟨hx, hb, hml, hr, hown, hts, hlocks, hname, hKq, hbs, hfr, hlo⟩ := X
  obtain ⟨hi, -⟩ : ins = .invokespecial k ∧ True := by
    rcases hi with hi | hi | hi
    · exact ⟨hi.1, trivial⟩
    · omega
    · omega
  subst hi
  change q_j0 pc ls st h = some q at ej
  unfold q_j0 at ej
  split at ej
  · rename_i a r
    cases ej
    have hq := q_cat_len r
    simp only [List.length_cons] at hlen
    refine W.objInit hx hb hown (hts _ (q_jln hj).1) (hts _ (q_g _ q_oj0.1 rfl)) (hts _ (q_g _ q_oj0.2 rfl)) rfl (by rw [hml]; exact hl) rfl hd (by unfold q_fr at hfr; omega) ?_ (kk _ _ _ _ hV hc hu)
    show 2 * 0 + q_cat r + 12 ≤ R.locals
    unfold q_lo q_fr at hlo
    omega
  · cases ej
theorem q_jr1 : q_JR l base D Cy S Hb 1 := by
  intro p e R s mid args below meth c H locs cells slots u0 Q m g h pc lsA ls st k ins q X hV hl hj hd hi hlen ej hc hu h1 h2 kk
  obtain ⟨hx, hb, hml, hr, hown, hts, hlocks, hname, hKq, hbs, hfr, hlo⟩ := X
  obtain ⟨hi, -⟩ : ins = .invokestatic k ∧ True := by
    rcases hi with hi | hi | hi
    · omega
    · exact ⟨hi.1, trivial⟩
    · omega
  subst hi
  change q_j1 pc ls st h = some q at ej
  unfold q_j1 at ej
  split at ej
  · rename_i y z r
    cases ej
    have hq := q_cat_len r
    simp only [List.length_cons] at hlen
    dsimp only at h1 h2
    refine va_mmax hx hb (by rw [hml, hl]) hown (hts _ (q_jln hj).1) (hts _ (q_g _ q_oj1.1 rfl)) (hts _ (q_g _ q_oj1.2.2 rfl)) (hts _ (q_g _ q_oj1.2.1 rfl)) (by unfold q_fr at hfr; omega) ?_ (by omega) (by omega) hd (kk _ _ _ _ hV hc hu)
    show q_cat r + 13 ≤ R.locals
    unfold q_lo q_fr at hlo
    omega
  · cases ej
theorem q_jr2 : q_JR l base D Cy S Hb 2 := by
  intro p e R s mid args below meth c H locs cells slots u0 Q m g h pc lsA ls st k ins q X hV hl hj hd hi hlen ej hc hu h1 h2 kk
  obtain ⟨hx, hb, hml, hr, hown, hts, hlocks, hname, hKq, hbs, hfr, hlo⟩ := X
  obtain ⟨hi, -⟩ : ins = .invokestatic k ∧ True := by
    rcases hi with hi | hi | hi
    · omega
    · exact ⟨hi.1, trivial⟩
    · omega
  subst hi
  change q_j2 pc ls st h = some q at ej
  unfold q_j2 at ej
  split at ej
  · rename_i y z r
    cases ej
    have hq := q_cat_len r
    simp only [List.length_cons] at hlen
    dsimp only at h1 h2
    refine va_mmin hx hb (by rw [hml, hl]) hown (hts _ (q_jln hj).1) (hts _ (q_g _ q_oj2.1 rfl)) (hts _ (q_g _ q_oj1.2.2 rfl)) (hts _ (q_g _ q_oj2.2 rfl)) (by unfold q_fr at hfr; omega) ?_ (by omega) (by omega) hd (kk _ _ _ _ hV hc hu)
    show q_cat r + 13 ≤ R.locals
    unfold q_lo q_fr at hlo
    omega
  · cases ej
theorem q_jr5 : q_JR l base D Cy S Hb 5 := by
  intro p e R s mid args below meth c H locs cells slots u0 Q m g h pc lsA ls st k ins q X hV hl hj hd hi hlen ej hc hu h1 h2 kk
  obtain ⟨hi, -⟩ : ins = .invokestatic k ∧ True := by
    rcases hi with hi | hi | hi
    · omega
    · exact ⟨hi.1, trivial⟩
    · omega
  subst hi
  change q_j5 pc ls st h = some q at ej
  unfold q_j5 at ej
  split at ej
  · rename_i n dp b sp a r
    split at ej
    · rename_i hcnd
      obtain ⟨c1, c2, c3, c4, c5, c6, c7⟩ := hcnd
      cases ej
      have hq := q_cat_len r
      simp only [List.length_cons] at hlen
      exact q_copy X hV hl hj c1 c2 c3 c4 c5 c6 c7 (by omega) hd (fun H1 locs1 hV1 => kk H1 locs1 _ _ hV1 hc hu)
    · cases ej
  · cases ej
end QJ
