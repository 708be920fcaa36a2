/-! THE PURE MACHINE IS THE MACHINE: runs -/
set_option maxHeartbeats 4000000 in
theorem q_E.ev {g : Nat} {m : Mt} {pc : Nat} {ls : List (Option Value)} {st : List Value} {h : PH} {r : Option Value × PH} (e : ev g m pc ls st h = some r) : q_E h r.2 := by
  refine ev.partial_correctness (fun g m pc ls st h r => q_E h r.2) ?_ g m pc ls st h r e
  intro f IH g m pc ls st h r e
  split at e
  · cases e
  · split at e
    · split at e
      · cases e; exact q_E.rf _
      · split at e
        · split at e
          · cases e
          · obtain ⟨q1, h1, h2⟩ := Option.bind_eq_some_iff.mp e
            exact (IH _ _ _ _ _ _ _ h1).tr (IH _ _ _ _ _ _ _ h2)
        · split at e
          · cases e
          · rename_i q hq
            exact (q_E.sim hq).tr (IH _ _ _ _ _ _ _ e)
    · cases e
/-- a return: the stack is what is returned -/
theorem q_rof {m : Mt} {i : Instr} {st : List Value} {r : Option Value} (e : rof m i st = some r) : st = r.toList := by
  unfold rof at e
  split at e
  · split at e
    · split at e
      · cases e; rfl
      · cases e
    · cases e
  · split at e
    · split at e
      · cases e; rfl
      · cases e; rfl
      · cases e
    · cases e
  · split at e
    · split at e
      · cases e; rfl
      · cases e
    · cases e
  · cases e
/-- what is said of a run -/
def q_Run (l : Launch) (base : Nat) (D : va_G) (Cy : Nat → ClassId) (S : Nat → Nat) (Hb : Heap) (g : Nat) (m : Mt) (pc : Nat) (ls : List (Option Value)) (st : List Value) (h : PH) (r : Option Value × PH) : Prop :=
  ∀ (p : Program) (e : Env) (R : Room) (s : State) (mid : MethodId) (args : Array Value) (below : List Frame) (meth : Method) (c : Code) (H : Heap) (locs : List Loc) (cells slots u0 : Nat) (Q : State → Prop) (lsA : Array Slot),
    q_Cx p R s mid args meth c base D Cy S m g → q_V base D Cy S Hb s h H locs → q_L lsA m ls → cells + s.heap.size = hN h → slots + u0 = hU h → hN r.2 ≤ s.heap.size + R.cells → hU r.2 ≤ u0 + R.slots →
    (∀ (pc' : Nat) (lsB : Array Slot) (H1 : Heap) (locs1 : List Loc) (cells1 slots1 n : Nat) (i : Instr), decode (mC m) pc' = .ok (i, n) → q_lok i n = true → rof m i r.1.toList = some r.1 → q_V base D Cy S Hb s r.2 H1 locs1 → cells1 + s.heap.size = hN r.2 → slots1 + u0 = hU r.2 → W p l e R s mid args below meth c H1 locs1 cells1 slots1 Q (F0 mid pc' lsB r.1.toList)) →
    W p l e R s mid args below meth c H locs cells slots Q (F0 mid pc lsA st)
/-- what a callee is told -/
def q_Pc (base : Nat) (D : va_G) (Cy : Nat → ClassId) (S : Nat → Nat) (Hb : Heap) (h : PH) (as : List Value) : Array Value → State → Prop :=
  va_Pc as (fun U => q_W base D Cy h U.heap ∧ q_X base Hb h U ∧ q_By h ∧ hS h = S ∧ q_K D Cy S U ∧ (∀ q : Nat, q < base → U.heap[q]? = Hb[q]?) ∧ base ≤ U.heap.size)
/-- what it gives back -/
def q_Qc (base : Nat) (D : va_G) (Cy : Nat → ClassId) (S : Nat → Nat) (r : Option Value × PH) : Array Value → State → Outcome → State → Prop :=
  fun _ st oc t => (oc = .returned r.1 ∧ q_W base D Cy r.2 t.heap ∧ q_By r.2 ∧ hS r.2 = S) ∧ va_F (fun q => base ≤ q) st t
theorem q_blind {base : Nat} {D : va_G} {Cy : Nat → ClassId} {S : Nat → Nat} {Hb : Heap} {h : PH} {as : List Value} : FrameBlind (q_Pc base D Cy S Hb h as) := by
  intro a U g mk q
  obtain ⟨e, h1, h2, h3, h4, h5, h6, h7⟩ := q
  exact ⟨e, h1, h2.moved (U := U.calling g mk a) (Vm.Alike.refl U.vm), h3, h4, h5.warm (U := U.calling g mk a) (State.WarmedH.refl U), h6, h7⟩
theorem q_layL (as : List Value) : (lg_sl as).length = (q_lay as).length := by
  induction as with
  | nil => rfl
  | cons v t ih =>
    have e1 : lg_sl (v :: t) = lg_sl [v] ++ lg_sl t := by simp [lg_sl]
    have e2 : q_lay (v :: t) = q_lay [v] ++ q_lay t := by simp [q_lay]
    rw [e1, e2, List.length_append, List.length_append, ih]
    congr 1
    cases v <;> simp [lg_sl, q_lay, q_lng, Value.category]
theorem q_lay_at (as : List Value) : ∀ (i : Nat) (v : Value), (q_lay as)[i]? = some (some v) → (lg_sl as)[i]? = some (.val v) := by
  induction as with
  | nil => intro i v h; simp [q_lay] at h
  | cons w t ih =>
    intro i v h
    have e1 : lg_sl (w :: t) = lg_sl [w] ++ lg_sl t := by simp [lg_sl]
    have e2 : q_lay (w :: t) = q_lay [w] ++ q_lay t := by simp [q_lay]
    have e3 := q_layL [w]
    rw [e2] at h
    rw [e1]
    by_cases hi : i < (q_lay [w]).length
    · rw [List.getElem?_append_left hi] at h
      rw [List.getElem?_append_left (by omega)]
      by_cases hw : q_lng w = true
      · have hc := (q_lng_cat w).mp hw
        have e4 : q_lay [w] = [some w, none] := by simp [q_lay, hw]
        have e5 : lg_sl [w] = [.val w, .second] := by simp [lg_sl, hc]
        rw [e4] at h hi
        rw [e5]
        match i, hi, h with
        | 0, _, h => simp at h; simp [h]
        | 1, _, h => simp at h
      · have hc : ¬ w.category = 2 := fun z => hw ((q_lng_cat w).mpr z)
        have e4 : q_lay [w] = [some w] := by simp [q_lay, hw]
        have e5 : lg_sl [w] = [.val w] := by simp [lg_sl, hc]
        rw [e4] at h hi
        rw [e5]
        match i, hi, h with
        | 0, _, h => simp at h; simp [h]
    · rw [List.getElem?_append_right (by omega)] at h
      rw [List.getElem?_append_right (by omega), e3]
      exact ih _ _ h
theorem q_lay_nl {as : List Value} (hn : ∀ v ∈ as, q_lng v = false) : q_lay as = as.map some := by
  induction as with
  | nil => rfl
  | cons v t ih =>
    have e2 : q_lay (v :: t) = q_lay [v] ++ q_lay t := by simp [q_lay]
    rw [e2, ih (fun w hw => hn w (List.mem_cons_of_mem _ hw))]
    simp [q_lay, hn v List.mem_cons_self]
theorem q_ent_eq {m : Mt} {as : List Value} (hn : mG m = false → ∀ v ∈ as, q_lng v = false) : ent m as = q_lay as ++ List.replicate (mM m - (q_lay as).length) none := by
  unfold ent
  cases hg : mG m with
  | true => simp
  | false =>
    have e : q_lay as = as.map some := q_lay_nl (hn hg)
    rw [e]
    simp
theorem q_ent_L {m : Mt} {as : List Value} (hf : q_fitA m as = true) (hn : mG m = false → ∀ v ∈ as, q_lng v = false) : q_L ((lg_sl as ++ List.replicate (mM m - (lg_sl as).length) Slot.unset).toArray) m (ent m as) := by
  have hlen : (q_lay as).length ≤ mM m := by
    unfold q_fitA at hf
    cases hg : mG m with
    | true => rw [hg, if_pos rfl] at hf; simpa using hf
    | false =>
      rw [hg, if_neg (by decide)] at hf
      have e : q_lay as = as.map some := q_lay_nl (hn hg)
      rw [e, List.length_map]
      simpa using hf
  have hE := lv_entry as (n := mM m) (by rw [q_layL]; exact hlen)
  rw [q_ent_eq hn]
  refine ⟨⟨hE.1, hE.2.1, fun q hq => ?_⟩, by simp; omega, fun hg v hv => ?_⟩
  · obtain ⟨i, v⟩ := q
    have h1 := q_pr_mem.mp hq
    by_cases hi : i < (q_lay as).length
    · rw [List.getElem?_append_left hi] at h1
      have h2 := q_lay_at as i v h1
      show (lg_sl as ++ _).toArray[i]? = _
      rw [List.getElem?_toArray, List.getElem?_append_left (by rw [q_layL]; exact hi)]
      exact h2
    · rw [List.getElem?_append_right (by omega)] at h1
      rw [List.getElem?_replicate] at h1
      split at h1 <;> simp at h1
  · rcases List.mem_append.mp hv with h | h
    · unfold q_lay at h
      obtain ⟨w, hw, h⟩ := List.mem_flatMap.mp h
      have h0 := hn hg w hw
      rw [if_neg (by rw [h0]; decide)] at h
      simp at h
      subst h
      exact h0
    · have := List.eq_of_mem_replicate h
      cases this
section QM
variable {l : Launch} {base : Nat} {D : va_G} {Cy : Nat → ClassId} {S : Nat → Nat} {Hb : Heap}
/-- a method by contract, out of its run -/
theorem q_met {g : Nat} {m : Mt} {as : List Value} {h : PH} {r : Option Value × PH} (hR : q_Run l base D Cy S Hb g m 0 (ent m as) [] h r) (hE : q_E h r.2) (hy : plainName (mY m).cls = true) (hcls : (mY m).cls = q_rn (mO m)) (hf : q_fitA m as = true) (hn : mG m = false → ∀ v ∈ as, q_lng v = false) :
    Met l (mY m) (q_ws m) { frames := q_fr g m, cells := hN r.2 - hN h, slots := hU r.2 - hU h, locals := q_lo g m } (q_Pc base D Cy S Hb h as) (q_Qc base D Cy S r) (hN r.2 - hN h) (hU r.2 - hU h) (fun q => base ≤ q) := by
  refine Met.ofW (cc := mC m) (maxL := mM m) (ret := mT m) hy rfl ?_
  intro p e s mid args below meth c s₁ B hml hv
  obtain ⟨rfl, hW, hX, hBy, hSS, hKq, hold, hbs⟩ := hv
  have hx := B.exec
  have hb := B.bytes
  have hr := B.returns
  have hts := atoms_spec (ws := q_ws m) B.pre
  have hown : s.vm.findClass (q_rn (mO m)) = some mid.cls := by rw [← hcls]; exact findClass_of_methodNamed B.named
  have hlocks := B.notSynchronized
  have hname : meth.name = (mY m).name := (name_of_methodNamed B.named B.method).1
  have hsz : s.heap.size = hN h := hW.1
  rw [lg_entry_eq]
  refine hR p e _ s mid as.toArray below meth c s.heap [] 0 0 (hU h) _ _ ⟨hx, hb, hml, hr, hown, fun w hw => hts w (List.mem_cons_of_mem _ hw), hlocks, hname, hKq, hbs, Nat.le_refl _, Nat.le_refl _⟩ ⟨hW, hX, hBy, hSS, va_S.rf, hold⟩ (q_ent_L hf hn) (by omega) (by omega) ?_ ?_ ?_
  · show hN r.2 ≤ s.heap.size + (hN r.2 - hN h)
    omega
  · show hU r.2 ≤ hU h + (hU r.2 - hU h)
    omega
  · intro pc' lsB H1 locs1 cells1 slots1 n i hd hok hro hV hc hu
    have hq : ∀ t : State, t.heap = H1 → s.WarmedH t.vm → q_Qc base D Cy S r as.toArray s (.returned r.1) t := fun t ht _ => ⟨⟨rfl, by rw [ht]; exact hV.1, hV.2.2.1, hV.2.2.2.1⟩, hV.2.2.2.2.1.F ht⟩
    have hc1 : cells1 = hN r.2 - hN h := by omega
    have hu1 : slots1 = hU r.2 - hU h := by omega
    subst hc1 hu1
    have hloc : ∀ q ∈ locs1, base ≤ q.base := hV.2.2.2.2.1.2.2
    obtain ⟨rv, rh⟩ := r
    dsimp only at hro hq ⊢
    unfold rof at hro
    split at hro
    · have hn1 := q_one hok
      subst hn1
      split at hro
      · rename_i v heq
        split at hro
        · rename_i hty
          cases hro
          rcases hty with z | ⟨z, z2⟩
          · exact W.iret hx hb (hr.trans z) hq hloc hd
          · exact W.zret hx hb (hr.trans z) (by rcases z2 with rfl | rfl <;> rfl) hq hloc hd
        · cases hro
      · cases hro
    · have hn1 := q_one hok
      subst hn1
      split at hro
      · rename_i hrf
        have hrt : ∃ rt, mT m = some rt ∧ ((∃ n, rt = .object n) ∨ ∃ t, rt = .array t) := by
          unfold q_rft at hrf
          split at hrf
          · rename_i n he; exact ⟨_, he, Or.inl ⟨n, rfl⟩⟩
          · rename_i n he; exact ⟨_, he, Or.inr ⟨n, rfl⟩⟩
          · cases hrf
        obtain ⟨rt, e1, e2⟩ := hrt
        split at hro
        · rename_i a heq
          cases hro
          exact W.aret hx hb (hr.trans e1) e2 (Or.inr ⟨a, rfl⟩) hq hloc hd
        · cases hro
          exact W.aret hx hb (hr.trans e1) e2 (Or.inl rfl) hq hloc hd
        · cases hro
      · cases hro
    · have hn1 := q_one hok
      subst hn1
      split at hro
      · rename_i hnone
        split at hro
        · cases hro
          exact W.vret hx hb (hr.trans hnone) hq hloc hd
        · cases hro
      · cases hro
    · cases hro
/-- the run goes on behind a call -/
theorem q_callk {p : Program} {e : Env} {R : Room} {s : State} {mid : MethodId} {args : Array Value} {below : List Frame} {meth : Method} {c : Code} {H : Heap} {locs : List Loc} {cells slots mc ms : Nat} {Q : State → Prop} {pc : Nat} {lsA : Array Slot} {st0 rest : List Value} {r : Option Value × PH} {a : Array Value}
    (hr : va_Run p l e R s mid args below meth c H locs cells slots mc ms (F0 mid pc lsA st0) rest (q_Qc base D Cy S r a) (fun q => base ≤ q)) (hSv : va_S (fun q => base ≤ q) s.heap H locs)
    (kk : ∀ (H1 : Heap) (locs1 : List Loc), q_W base D Cy r.2 H1 → q_By r.2 → hS r.2 = S → va_S (fun q => base ≤ q) s.heap H1 locs1 → W p l e R s mid args below meth c H1 locs1 (cells + mc) (slots + ms) Q (F0 mid (pc + 3) lsA (r.1.toList ++ rest))) : W p l e R s mid args below meth c H locs cells slots Q (F0 mid pc lsA st0) := by
  intro T hT X
  obtain ⟨v, st₀, t, T', L, h0, X', hL, e1, e2, ⟨⟨hv, hp, hb1, hb2⟩, hz, hk⟩, st⟩ := hr T hT X
  cases hv
  rw [h0] at hz hk
  obtain ⟨t2, a1, b1⟩ := kk T'.heap (locs ++ L) (by rw [e1]; exact hp) hb1 hb2
    ⟨Nat.le_trans hSv.1 (by rw [e1]; exact hz), fun q h1 h2 => by rw [e1, hk q (Nat.lt_of_lt_of_le h1 hSv.1) h2]; exact hSv.2.1 q h1 h2, fun q hq => by
      rcases List.mem_append.mp hq with h | h
      · exact hSv.2.2 q h
      · exact hL q h⟩ T' rfl X'
  exact ⟨t2, st t2 a1, b1⟩
theorem q_psh (r : Option Value) (st : List Value) : psh r st = r.toList ++ st := by cases r <;> rfl
/-- a call: what it asks, what it is -/
theorem q_cof {m c : Mt} {i : Instr} {n : Nat} {st as rest : List Value} {h : PH} (hok : q_lok i n = true) (e : cof m i st h = some (c, as, rest)) :
    n = 3 ∧ ∃ k s, qk_m (mO m) k = some (s, c) ∧ q_r8 rest = true ∧ q_fitA c as = true ∧ (mG c = false → ∀ v ∈ as, q_lng v = false) ∧
      ((i = .invokestatic k ∧ s = 1 ∧ as.length = mP c ∧ st = as.reverse ++ rest) ∨ ∃ b As, as = .ref b :: As ∧ As.length = mP c ∧ st = As.reverse ++ .ref b :: rest ∧ ((i = .invokevirtual k ∧ s = 0 ∧ hK h b = mO c) ∨ (i = .invokespecial k ∧ (s = 2 ∨ s = 3)))) := by
  unfold cof at e
  have hall : ∀ l : List Value, l.all (fun v => mG c || !q_lng v) = true → mG c = false → ∀ v ∈ l, q_lng v = false := by
    intro l hl hg v hv
    have := List.all_eq_true.mp hl v hv
    rw [hg] at this
    simpa using this
  cases hi : q_iof i with
  | none => rw [hi] at e; cases e
  | some kk =>
    obtain ⟨k, ks⟩ := kk
    rw [hi] at e
    dsimp only at e
    cases hm : qk_m (mO m) k with
    | none => rw [hm] at e; cases e
    | some sc =>
      obtain ⟨s, c'⟩ := sc
      rw [hm] at e
      dsimp only at e
      have hn3 : n = 3 ∧ ((i = .invokevirtual k ∧ ks = [0]) ∨ (i = .invokestatic k ∧ ks = [1]) ∨ (i = .invokespecial k ∧ ks = [2, 3])) := by
        unfold q_iof at hi
        split at hi
        · cases hi; exact ⟨q_one hok, Or.inl ⟨rfl, rfl⟩⟩
        · cases hi; exact ⟨q_one hok, Or.inr (Or.inl ⟨rfl, rfl⟩)⟩
        · cases hi; exact ⟨q_one hok, Or.inr (Or.inr ⟨rfl, rfl⟩)⟩
        · cases hi
      refine ⟨hn3.1, k, s, ?_⟩
      split at e
      · rename_i hs
        split at e
        · rename_i hs1
          split at e
          · rename_i hcnd
            cases e
            obtain ⟨c1, c2, c3, c4⟩ := hcnd
            refine ⟨hm, c2, c4, fun hg v hv => hall _ c3 hg v (List.mem_reverse.mp hv), Or.inl ⟨?_, hs1, ?_, ?_⟩⟩
            · rcases hn3.2 with ⟨z1, z2⟩ | ⟨z1, z2⟩ | ⟨z1, z2⟩
              · rw [z2, hs1] at hs; simp at hs
              · exact z1
              · rw [z2, hs1] at hs; simp at hs
            · simp; omega
            · simp
          · cases e
        · rename_i hs1
          split at e
          · rename_i b r hdr
            split at e
            · rename_i hcnd
              cases e
              obtain ⟨c1, c2, c3, c4, c5⟩ := hcnd
              refine ⟨hm, c2, c4, fun hg v hv => ?_, Or.inr ⟨b, _, rfl, ?_, ?_, ?_⟩⟩
              · rcases List.mem_cons.mp hv with rfl | hv
                · rfl
                · exact hall _ c3 hg v (List.mem_reverse.mp hv)
              · simp; omega
              · rw [List.reverse_reverse, ← hdr]
                exact (List.take_append_drop _ _).symm
              · rcases hn3.2 with ⟨z1, z2⟩ | ⟨z1, z2⟩ | ⟨z1, z2⟩
                · rw [z2] at hs
                  simp at hs
                  exact Or.inl ⟨z1, hs, c5 hs⟩
                · rw [z2] at hs
                  simp at hs
                  exact absurd hs hs1
                · rw [z2] at hs
                  simp at hs
                  exact Or.inr ⟨z1, hs⟩
            · cases e
          · cases e
      · cases e
end QM
