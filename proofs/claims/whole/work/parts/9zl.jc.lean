/-! the JDK's members: contracts, calls -/
def q_jws (J : Jm) : List Jvm.Cond := Cond.code J.1 J.2.1 J.2.2.1 J.2.2.2.1 :: gtb
/-- what holds within a method -/
def q_Jc (p : Program) (R : Room) (s : State) (mid : MethodId) (args : Array Value) (c : Code) (base : Nat) (D : va_G) (Cy : Nat → ClassId) (S : Nat → Nat) (own : String) (cc : ByteArray) (n d : Nat) : Prop :=
  p.tables.exec = Jvm.exec ∧ c.code = cc ∧ c.maxLocals = n ∧ s.vm.findClass own = some mid.cls ∧ (∀ w ∈ gtb, w.before args s = true) ∧ q_K D Cy S s ∧ base ≤ s.heap.size ∧ d ≤ R.frames ∧ 60 * d ≤ R.locals
/-- a contract: with these arguments on this heap it comes to r -/
def q_JM (l : Launch) (base : Nat) (D : va_G) (Cy : Nat → ClassId) (S : Nat → Nat) (Hb : Heap) (J : Jm) (d : Nat) (h : PH) (as : List Value) (r : Option Value × PH) : Prop :=
  Met l J.1 (q_jws J) { frames := d, cells := hN r.2 - hN h, slots := hU r.2 - hU h, locals := 60 * d } (q_Pc base D Cy S Hb h as) (q_Qc base D Cy S r) (hN r.2 - hN h) (hU r.2 - hU h) (fun q => base ≤ q)
/-- a return -/
def q_jr (ret : Option FieldType) (i : Instr) (v : Option Value) : Prop :=
  (∃ rt x, i = .ireturn ∧ ret = some rt ∧ v = some (.int x) ∧ narrow rt (.int x) = .int x) ∨ (∃ rt x, i = .areturn ∧ ret = some rt ∧ ((∃ n, rt = .object n) ∨ ∃ t, rt = .array t) ∧ v = some (va_rf x)) ∨ (i = .return_ ∧ ret = none ∧ v = none)
section QJC
variable {l : Launch} {base : Nat} {D : va_G} {Cy : Nat → ClassId} {S : Nat → Nat} {Hb : Heap}
theorem q_Cx.J {p : Program} {R : Room} {s : State} {mid : MethodId} {args : Array Value} {meth : Method} {c : Code} {m : Mt} {g : Nat} (X : q_Cx p R s mid args meth c base D Cy S m g) : q_Jc p R s mid args c base D Cy S (q_rn (mO m)) (mC m) (mM m) 10 := by
  obtain ⟨hx, hb, hml, hr, hown, hts, hlocks, hname, hKq, hbs, hfr, hlo⟩ := X
  refine ⟨hx, hb, hml, hown, hts, hKq, hbs, ?_, ?_⟩
  · unfold q_fr at hfr; omega
  · unfold q_lo q_fr at hlo; omega
theorem q_jmk {J : Jm} {d : Nat} {h : PH} {as : List Value} {r : Option Value × PH} (hy : q_jok J) (hfit : (lg_sl as).length ≤ J.2.2.1) (hE : q_E h r.2)
    (body : ∀ (p : Program) (e : Env) (R : Room) (s : State) (mid : MethodId) (args : Array Value) (below : List Frame) (meth : Method) (c : Code) (Q : State → Prop) (lsA : Array Slot),
      q_Jc p R s mid args c base D Cy S J.1.cls J.2.1 J.2.2.1 d → q_V base D Cy S Hb s h s.heap [] → lv_has lsA J.2.2.1 (lv_args 0 as) → hN r.2 ≤ s.heap.size + R.cells → hU r.2 ≤ hU h + R.slots → s.heap.size = hN h →
      (∀ (pc' : Nat) (lsB : Array Slot) (H1 : Heap) (locs1 : List Loc) (cells1 slots1 : Nat) (i : Instr), decode J.2.1 pc' = .ok (i, 1) → q_jr J.2.2.2.1 i r.1 → q_V base D Cy S Hb s r.2 H1 locs1 → cells1 + s.heap.size = hN r.2 → slots1 + hU h = hU r.2 → W p l e R s mid args below meth c H1 locs1 cells1 slots1 Q (F0 mid pc' lsB r.1.toList)) →
      W p l e R s mid args below meth c s.heap [] 0 0 Q (F0 mid 0 lsA [])) : q_JM l base D Cy S Hb J d h as r := by
  refine Met.ofW (cc := J.2.1) (maxL := J.2.2.1) (ret := J.2.2.2.1) hy.1 rfl ?_
  intro p e s mid args below meth c s₁ B hml hv
  obtain ⟨rfl, hW, hX, hBy, hSS, hKq, hold, hbs⟩ := hv
  have hx := B.exec
  have hb := B.bytes
  have hr := B.returns
  have hts := atoms_spec (ws := q_jws J) B.pre
  have hown : s.vm.findClass J.1.cls = some mid.cls := findClass_of_methodNamed B.named
  have hlocks := B.notSynchronized
  have hsz : s.heap.size = hN h := hW.1
  have e1 := hE.1
  have e2 := hE.2.1
  rw [lg_entry_eq]
  refine body p e _ s mid as.toArray below meth c _ _ ⟨hx, hb, hml, hown, fun w hw => hts w (List.mem_cons_of_mem _ hw), hKq, hbs, Nat.le_refl _, Nat.le_refl _⟩ ⟨hW, hX, hBy, hSS, va_S.rf, hold⟩ (lv_entry as hfit) ?_ ?_ hsz ?_
  · show hN r.2 ≤ s.heap.size + (hN r.2 - hN h)
    omega
  · show hU r.2 ≤ hU h + (hU r.2 - hU h)
    omega
  · intro pc' lsB H1 locs1 cells1 slots1 i hd hro hV hc hu
    have hq : ∀ t : State, t.heap = H1 → s.WarmedH t.vm → q_Qc base D Cy S r as.toArray s (.returned r.1) t := fun t ht _ => ⟨⟨rfl, by rw [ht]; exact hV.1, hV.2.2.1, hV.2.2.2.1⟩, hV.2.2.2.2.1.F ht⟩
    have hc1 : cells1 = hN r.2 - hN h := by omega
    have hu1 : slots1 = hU r.2 - hU h := by omega
    subst hc1 hu1
    have hloc : ∀ q ∈ locs1, base ≤ q.base := hV.2.2.2.2.1.2.2
    obtain ⟨rv, rh⟩ := r
    dsimp only at hro hq ⊢
    rcases hro with ⟨rt, x, rfl, h2, rfl, h4⟩ | ⟨rt, x, rfl, h2, h3, rfl⟩ | ⟨rfl, h2, rfl⟩
    · exact W.zret hx hb (hr.trans h2) h4 hq hloc hd
    · cases x with
      | none => exact W.aret hx hb (hr.trans h2) h3 (Or.inl rfl) hq hloc hd
      | some x => exact W.aret hx hb (hr.trans h2) h3 (Or.inr ⟨x, rfl⟩) hq hloc hd
    · exact W.vret hx hb (hr.trans h2) hq hloc hd
variable {p : Program} {e : Env} {R : Room} {s : State} {mid : MethodId} {args : Array Value} {below : List Frame} {meth : Method} {c : Code} {H : Heap} {locs : List Loc} {cells slots u0 : Nat} {Q : State → Prop} {J : Jm} {d d' : Nat} {h : PH} {as rest st : List Value} {r : Option Value × PH} {own : String} {cc : ByteArray} {n pc idx : Nat} {lsA : Array Slot}
theorem q_jpre (X : q_Jc p R s mid args c base D Cy S own cc n d) (hV : q_V base D Cy S Hb s h H locs) : ∀ U : State, U.heap = H → s.WarmedH U.vm → q_Pc base D Cy S Hb h as as.toArray U := by
  obtain ⟨hx, hb, hml, hown, hts, hKq, hbs, hfr, hlo⟩ := X
  intro U hU hWm
  refine ⟨rfl, by rw [hU]; exact hV.1, hV.2.1.moved hWm.alike, hV.2.2.1, hV.2.2.2.1, hKq.warm hWm, fun q hq => ?_, by rw [hU, hV.1.1]; exact hV.1.2.1⟩
  rw [hU, hV.2.2.2.2.1.2.1 q (by omega) (by omega)]
  exact hV.2.2.2.2.2 q hq
theorem q_jgood (hy : q_jok J) : GoodIn gtb (q_jws J) := by
  intro w hw
  rcases List.mem_cons.mp hw with rfl | hw
  · exact ⟨hy.2.1, good_of_word (List.mem_filter.mp hy.2.1).2⟩
  · exact ⟨hw, good_of_word (List.mem_filter.mp hw).2⟩
theorem q_jgo (hV : q_V base D Cy S Hb s h H locs) (hE : q_E h r.2) (hc : cells + s.heap.size = hN h) (hu : slots + u0 = hU h) {a : Array Value}
    (kk : ∀ (H1 : Heap) (locs1 : List Loc) (cells1 slots1 : Nat), q_V base D Cy S Hb s r.2 H1 locs1 → cells1 + s.heap.size = hN r.2 → slots1 + u0 = hU r.2 → W p l e R s mid args below meth c H1 locs1 cells1 slots1 Q (F0 mid (pc + 3) lsA (r.1.toList ++ rest)))
    (hrun : va_Run p l e R s mid args below meth c H locs cells slots (hN r.2 - hN h) (hU r.2 - hU h) (F0 mid pc lsA st) rest (q_Qc base D Cy S r a) (fun q => base ≤ q)) : W p l e R s mid args below meth c H locs cells slots Q (F0 mid pc lsA st) := by
  have hE1 := hE.1
  have hE2 := hE.2.1
  exact q_callk hrun hV.2.2.2.2.1 (fun H1 locs1 hW1 hB1 hS1 hs1 => kk H1 locs1 _ _ (hV.of hW1 hs1 hE.2.2.2.2 hB1 hE.2.2.1) (by omega) (by omega))
/-- a call of a static method -/
theorem q_jcS (X : q_Jc p R s mid args c base D Cy S own cc n d) (hV : q_V base D Cy S Hb s h H locs) (hM : q_JM l base D Cy S Hb J d' h as r) (hE : q_E h r.2) (hy : q_jok J) (w1 : Cond.methodLink own idx J.1 ∈ gtb) (w2 : Cond.static J.1 ∈ gtb) (hl : lsA.size = n) (hd : decode cc pc = .ok (.invokestatic idx, 3)) (hdd : d' < d) (hst : st = as.reverse ++ rest) (hlen : as.length = J.2.2.2.2) (hrest : q_cat rest ≤ 8)
    (hc : cells + s.heap.size = hN h) (hu : slots + u0 = hU h) (r1 : hN r.2 ≤ s.heap.size + R.cells) (r2 : hU r.2 ≤ u0 + R.slots)
    (kk : ∀ (H1 : Heap) (locs1 : List Loc) (cells1 slots1 : Nat), q_V base D Cy S Hb s r.2 H1 locs1 → cells1 + s.heap.size = hN r.2 → slots1 + u0 = hU r.2 → W p l e R s mid args below meth c H1 locs1 cells1 slots1 Q (F0 mid (pc + 3) lsA (r.1.toList ++ rest))) : W p l e R s mid args below meth c H locs cells slots Q (F0 mid pc lsA st) := by
  have hpc := q_jpre (as := as) X hV
  obtain ⟨hx, hb, hml, hown, hts, hKq, hbs, hfr, hlo⟩ := X
  have hE1 := hE.1
  have hE2 := hE.2.1
  have h20 := hy.2.2.2.2
  exact q_jgo hV hE hc hu kk (va_runS (nL := n) ⟨hx, hb, hml, hown, hts⟩ hM ⟨callB_of J.2.2.2.2 hts (q_jgood hy) rfl rfl rfl (hts _ hy.2.2.1) (hts _ w1) hy.2.2.2.1 ⟨by show d' + 1 ≤ _; omega, by show _ + 60 * d' ≤ _; omega⟩, hts _ w2⟩ ⟨q_blind, hpc⟩ rfl hlen hl hst (lv_room hrest) hd ⟨by omega, by omega⟩)
/-- a call of a method of an object -/
theorem q_jcV {C : String} {b : Nat} (X : q_Jc p R s mid args c base D Cy S own cc n d) (hV : q_V base D Cy S Hb s h H locs) (hM : q_JM l base D Cy S Hb J d' h (.ref b :: as) r) (hE : q_E h r.2) (hy : q_jok J) (w1 : Cond.methodLink own idx J.1 ∈ gtb) (w2 : Cond.instanceMethod J.1 ∈ gtb) (w3 : Cond.selects C J.1 J.1 ∈ gtb) (hrc : ∃ cell : Cell, H[b]? = some cell ∧ cell.vm.isStatics = false ∧ s.vm.findClass C = some cell.cls) (hl : lsA.size = n) (hd : decode cc pc = .ok (.invokevirtual idx, 3)) (hdd : d' < d) (hst : st = as.reverse ++ .ref b :: rest) (hlen : as.length = J.2.2.2.2) (hrest : q_cat rest ≤ 8)
    (hc : cells + s.heap.size = hN h) (hu : slots + u0 = hU h) (r1 : hN r.2 ≤ s.heap.size + R.cells) (r2 : hU r.2 ≤ u0 + R.slots)
    (kk : ∀ (H1 : Heap) (locs1 : List Loc) (cells1 slots1 : Nat), q_V base D Cy S Hb s r.2 H1 locs1 → cells1 + s.heap.size = hN r.2 → slots1 + u0 = hU r.2 → W p l e R s mid args below meth c H1 locs1 cells1 slots1 Q (F0 mid (pc + 3) lsA (r.1.toList ++ rest))) : W p l e R s mid args below meth c H locs cells slots Q (F0 mid pc lsA st) := by
  have hpc := q_jpre (as := .ref b :: as) X hV
  obtain ⟨hx, hb, hml, hown, hts, hKq, hbs, hfr, hlo⟩ := X
  have hE1 := hE.1
  have hE2 := hE.2.1
  have h20 := hy.2.2.2.2
  exact q_jgo hV hE hc hu kk (va_runV (nL := n) (C := C) ⟨hx, hb, hml, hown, hts⟩ hM ⟨callB_of J.2.2.2.2 hts (q_jgood hy) rfl rfl rfl (hts _ hy.2.2.1) (hts _ w1) hy.2.2.2.1 ⟨by show d' + 1 ≤ _; omega, by show _ + 60 * d' ≤ _; omega⟩, hts _ w2, hts _ w3⟩ ⟨q_blind, hrc, hpc⟩ rfl hlen hl hst (lv_room hrest) hd ⟨by omega, by omega⟩)
/-- a call of a constructor -/
theorem q_jcI {b : Nat} (X : q_Jc p R s mid args c base D Cy S own cc n d) (hV : q_V base D Cy S Hb s h H locs) (hM : q_JM l base D Cy S Hb J d' h (.ref b :: as) r) (hE : q_E h r.2) (hy : q_jok J) (w1 : Cond.methodLink own idx J.1 ∈ gtb) (w2 : Cond.instanceMethod J.1 ∈ gtb) (hi : J.1.name = "<init>" ∧ J.2.2.2.1 = none) (hl : lsA.size = n) (hd : decode cc pc = .ok (.invokespecial idx, 3)) (hdd : d' < d) (hst : st = as.reverse ++ .ref b :: rest) (hlen : as.length = J.2.2.2.2) (hrest : q_cat rest ≤ 8)
    (hc : cells + s.heap.size = hN h) (hu : slots + u0 = hU h) (r1 : hN r.2 ≤ s.heap.size + R.cells) (r2 : hU r.2 ≤ u0 + R.slots)
    (kk : ∀ (H1 : Heap) (locs1 : List Loc) (cells1 slots1 : Nat), q_V base D Cy S Hb s r.2 H1 locs1 → cells1 + s.heap.size = hN r.2 → slots1 + u0 = hU r.2 → W p l e R s mid args below meth c H1 locs1 cells1 slots1 Q (F0 mid (pc + 3) lsA (r.1.toList ++ rest))) : W p l e R s mid args below meth c H locs cells slots Q (F0 mid pc lsA st) := by
  have hpc := q_jpre (as := .ref b :: as) X hV
  obtain ⟨hx, hb, hml, hown, hts, hKq, hbs, hfr, hlo⟩ := X
  have hE1 := hE.1
  have hE2 := hE.2.1
  have h20 := hy.2.2.2.2
  have hcb := callB_of (R := R) (rm := { frames := d', cells := hN r.2 - hN h, slots := hU r.2 - hU h, locals := 60 * d' }) J.2.2.2.2 hts (q_jgood hy) (show q_jws J = _ from rfl) rfl rfl (hts _ hy.2.2.1) (hts _ w1) hy.2.2.2.1 ⟨by show d' + 1 ≤ _; omega, by show _ + 60 * d' ≤ _; omega⟩
  rw [hi.2] at hcb
  exact q_jgo hV hE hc hu kk (va_runI (nL := n) ⟨hx, hb, hml, hown, hts⟩ hM ⟨hcb, hi.1, hts _ w2⟩ ⟨q_blind, hpc⟩ rfl hlen hl hst (lv_room hrest) hd ⟨by omega, by omega⟩)
end QJC
