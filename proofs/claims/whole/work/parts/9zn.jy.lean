/-! the JDK's members: arraycopy -/
section QJY
variable {l : Launch} {base : Nat} {D : va_G} {Cy : Nat → ClassId} {S : Nat → Nat} {Hb : Heap}
variable {p : Program} {e : Env} {R : Room} {s : State} {mid : MethodId} {args : Array Value} {below : List Frame} {meth : Method} {c : Code} {H : Heap} {locs : List Loc} {cells slots : Nat} {Q : State → Prop} {d : Nat} {h : PH} {rest : List Value} {own : String} {cc : ByteArray} {n pc idx a : Nat} {lsA : Array Slot}
/-- arraycopy of bytes -/
theorem q_jcopyB {a0 : Nat} {sp dp m : Int32} (X : q_Jc p R s mid args c base D Cy S own cc n d) (hV : q_V base D Cy S Hb s h H locs) (hl : lsA.size = n) (w1 : Cond.methodLink own idx arraycopyName ∈ gtb) (hdd : 1 < d) (hk0 : hK h a0 = 52) (hk : hK h a = 52) (h1 : ¬ sp < 0) (h2 : ¬ dp < 0) (h3 : ¬ m < 0) (h4 : sp.toNatClampNeg + m.toNatClampNeg ≤ hL h a0) (h5 : dp.toNatClampNeg + m.toNatClampNeg ≤ hL h a) (hst : q_cat rest ≤ 8) (hdg : decode cc pc = .ok (.invokestatic idx, 3))
    (kk : ∀ (H1 : Heap) (locs1 : List Loc), q_V base D Cy S Hb s (pA h a (va_cpy (hA h a0) (hA h a) sp.toNatClampNeg dp.toNatClampNeg m.toNatClampNeg)) H1 locs1 → W p l e R s mid args below meth c H1 locs1 cells slots Q (F0 mid (pc + 3) lsA rest)) : W p l e R s mid args below meth c H locs cells slots Q (F0 mid pc lsA (.int m :: .int dp :: .ref a :: .int sp :: .ref a0 :: rest)) := by
  obtain ⟨hx, hb, hml, hown, hts, hKq, hbs, hfr, hlo⟩ := X
  have nn : ∀ z : Int32, ¬ z < 0 → z.toInt = (z.toNatClampNeg : Int) := by
    intro z hz
    have hz0 : (0 : Int) ≤ z.toInt := by
      have := Int32.not_lt.mp hz
      simpa using Int32.le_iff_toInt_le.mp this
    show z.toInt = ((z.toInt.toNat : Nat) : Int)
    omega
  have hc0 := hV.1.arr (c := 52) (by omega) (by omega) hk0
  have hc1 := hV.1.arr (c := 52) (by omega) (by omega) hk
  have hfr1 : 1 ≤ R.frames := by omega
  have hlo1 : (rest.map fun v => v.category).sum + (nativeFrameWords "java/lang/System" "arraycopy" 5 + 11) ≤ R.locals := by
    have : nativeFrameWords "java/lang/System" "arraycopy" 5 ≤ 60 := by decide +kernel
    unfold q_cat at hst
    omega
  intro T hT X
  obtain ⟨-, k0, hk0', cm0, hkk0⟩ := (hKq.1.2 2 _ rfl).1 (hL h a0) (fun j => .int (hA h a0 j))
  obtain ⟨-, k1, hk1', cm1, hkk1⟩ := (hKq.1.2 2 _ rfl).1 (hL h a) (fun j => .int (hA h a j))
  obtain ⟨vm', X', step⟩ := X.arraycopy hx hown (hts _ w1) (hts _ (q_g _ q_oj5.2.1 rfl)) (hts _ (q_g _ q_oj5.1 rfl)) (hts _ (q_g _ q_oj5.2.2 rfl)) (src := a0) (dst := a) (cs := vp_cell (Cy 52) (hL h a0, .inl (hA h a0))) (cd := vp_cell (Cy 52) (hL h a, .inl (hA h a))) (srcPos := sp) (destPos := dp) (n := m) (by rw [hT]; exact hc0) (by rw [hT]; exact hc1)
    (fun _ h => by cases h) (fun _ h => by cases h) (fun h => by cases h) (fun h => by cases h) hk0' hk1' hkk0 hkk1 (by simp [refKind]) h1 h2 h3
    (by rw [nn sp h1, nn m h3]; show ¬ _ > ((arrV (Cy 52) (hL h a0) (fun j => .int (hA h a0 j))).slots.size : Int); rw [arrV_size]; omega)
    (by rw [nn dp h2, nn m h3]; show ¬ _ > ((arrV (Cy 52) (hL h a) (fun j => .int (hA h a j))).slots.size : Int); rw [arrV_size]; omega)
    (fun vm₁ _ i hi => by
      have e : (vp_cell (Cy 52) (hL h a0, .inl (hA h a0))).slots.getD (sp.toNatClampNeg + i) .null = .int (hA h a0 (sp.toNatClampNeg + i)) := by
        show (arrV (Cy 52) (hL h a0) (fun j => .int (hA h a0 j))).slots.getD _ _ = _
        rw [Array.getD_eq_getD_getElem?, arrV_read _ _ (by omega)]
        rfl
      refine ⟨?_, ?_⟩
      · rw [e]
        exact hV.2.2.1.1 a0 hk0 _
      · rw [e]
        exact trivial)
    (g := F0 mid pc lsA (.int m :: .int dp :: .ref a :: .int sp :: .ref a0 :: rest)) rfl (by show lsA.size = _; rw [hl, hml]) (rest := rest) rfl (by rw [hb]; exact hdg) hfr1 (by show 2 * 0 + _ + _ ≤ _; omega)
  have e1 : copied (vp_cell (Cy 52) (hL h a0, .inl (hA h a0))) (vp_cell (Cy 52) (hL h a, .inl (hA h a))) sp dp m = vp_cell (Cy 52) (hL h a, .inl (va_cpy (hA h a0) (hA h a) sp.toNatClampNeg dp.toNatClampNeg m.toNatClampNeg)) := va_copied (fun z => .int z) (Cy 52) (Cy 52) (hA h a0) (hA h a) h4
  rw [e1] at X' step
  have hl2 : a < H.size := (Array.getElem?_eq_some_iff.mp hc1).1
  have hheap : ((T.setVm vm').setCell a (vp_cell (Cy 52) (hL h a, .inl (va_cpy (hA h a0) (hA h a) sp.toNatClampNeg dp.toNatClampNeg m.toNatClampNeg)))).heap = H.setIfInBounds a (vp_cell (Cy 52) (hL h a, .inl (va_cpy (hA h a0) (hA h a) sp.toNatClampNeg dp.toNatClampNeg m.toNatClampNeg))) := by rw [← hT]; rfl
  have oq : ∀ q : Nat, q ≠ a → (H.setIfInBounds a (vp_cell (Cy 52) (hL h a, .inl (va_cpy (hA h a0) (hA h a) sp.toNatClampNeg dp.toNatClampNeg m.toNatClampNeg))))[q]? = H[q]? := fun q hq => by simp [Array.getElem?_setIfInBounds, Ne.symm hq]
  have hba : base ≤ a := (hV.1.2.2 a (by omega)).1
  have hS := hV.2.2.2.2.1
  obtain ⟨t, a1, b1⟩ := kk _ _ (hV.sta (k := 52) (by omega) (by omega) hk ⟨by simp; exact hS.1, fun q g1 g2 => by
      rw [oq q (fun e => g2 (by rw [e]; exact hba))]
      exact hS.2.1 q g1 g2, fun q hq => by
      rcases List.mem_append.mp hq with h | h
      · exact hS.2.2 q h
      · obtain ⟨z, -, hz⟩ := List.mem_map.mp h
        rw [← hz]
        exact hba⟩ (by simp) oq (show (H.setIfInBounds a _)[a]? = some _ by simp [Array.getElem?_setIfInBounds, hl2]) (fun _ j => by
      unfold va_cpy
      split
      · exact hV.2.2.1.1 a0 hk0 _
      · exact hV.2.2.1.1 a hk _)) _ hheap X'
  exact ⟨t, step t a1, b1⟩
/-- arraycopy of references -/
theorem q_jcopyQ {a0 : Nat} {sp dp m : Int32} (X : q_Jc p R s mid args c base D Cy S own cc n d) (hV : q_V base D Cy S Hb s h H locs) (hl : lsA.size = n) (w1 : Cond.methodLink own idx arraycopyName ∈ gtb) (hdd : 1 < d) (hk0 : hK h a0 = 55) (hk : hK h a = 55) (h1 : ¬ sp < 0) (h2 : ¬ dp < 0) (h3 : ¬ m < 0) (h4 : sp.toNatClampNeg + m.toNatClampNeg ≤ hL h a0) (h5 : dp.toNatClampNeg + m.toNatClampNeg ≤ hL h a) (hst : q_cat rest ≤ 8) (hdg : decode cc pc = .ok (.invokestatic idx, 3))
    (kk : ∀ (H1 : Heap) (locs1 : List Loc), q_V base D Cy S Hb s (pB h a (va_cpy (hB h a0) (hB h a) sp.toNatClampNeg dp.toNatClampNeg m.toNatClampNeg)) H1 locs1 → W p l e R s mid args below meth c H1 locs1 cells slots Q (F0 mid (pc + 3) lsA rest)) : W p l e R s mid args below meth c H locs cells slots Q (F0 mid pc lsA (.int m :: .int dp :: .ref a :: .int sp :: .ref a0 :: rest)) := by
  obtain ⟨hx, hb, hml, hown, hts, hKq, hbs, hfr, hlo⟩ := X
  have nn : ∀ z : Int32, ¬ z < 0 → z.toInt = (z.toNatClampNeg : Int) := by
    intro z hz
    have hz0 : (0 : Int) ≤ z.toInt := by
      have := Int32.not_lt.mp hz
      simpa using Int32.le_iff_toInt_le.mp this
    show z.toInt = ((z.toInt.toNat : Nat) : Int)
    omega
  have hc0 := hV.1.arq (c := 55) (by omega) (by omega) hk0
  have hc1 := hV.1.arq (c := 55) (by omega) (by omega) hk
  have hfr1 : 1 ≤ R.frames := by omega
  have hlo1 : (rest.map fun v => v.category).sum + (nativeFrameWords "java/lang/System" "arraycopy" 5 + 11) ≤ R.locals := by
    have : nativeFrameWords "java/lang/System" "arraycopy" 5 ≤ 60 := by decide +kernel
    unfold q_cat at hst
    omega
  intro T hT X
  obtain ⟨-, k0, hk0', cm0, hkk0⟩ := (hKq.1.2 5 _ rfl).1 (hL h a0) (fun j => va_rf (hB h a0 j))
  obtain ⟨-, k1, hk1', cm1, hkk1⟩ := (hKq.1.2 5 _ rfl).1 (hL h a) (fun j => va_rf (hB h a j))
  obtain ⟨vm', X', step⟩ := X.arraycopy hx hown (hts _ w1) (hts _ (q_g _ q_oj5.2.1 rfl)) (hts _ (q_g _ q_oj5.1 rfl)) (hts _ (q_g _ q_oj5.2.2 rfl)) (src := a0) (dst := a) (cs := vp_cell (Cy 55) (hL h a0, .inr (.inr (.inr (.inr (hB h a0)))))) (cd := vp_cell (Cy 55) (hL h a, .inr (.inr (.inr (.inr (hB h a)))))) (srcPos := sp) (destPos := dp) (n := m) (by rw [hT]; exact hc0) (by rw [hT]; exact hc1)
    (fun _ h => by cases h) (fun _ h => by cases h) (fun h => by cases h) (fun h => by cases h) hk0' hk1' hkk0 hkk1 rfl h1 h2 h3
    (by rw [nn sp h1, nn m h3]; show ¬ _ > ((arrV (Cy 55) (hL h a0) (fun j => va_rf (hB h a0 j))).slots.size : Int); rw [arrV_size]; omega)
    (by rw [nn dp h2, nn m h3]; show ¬ _ > ((arrV (Cy 55) (hL h a) (fun j => va_rf (hB h a j))).slots.size : Int); rw [arrV_size]; omega)
    (fun vm₁ hal i hi => by
      have e : (vp_cell (Cy 55) (hL h a0, .inr (.inr (.inr (.inr (hB h a0)))))).slots.getD (sp.toNatClampNeg + i) .null = va_rf (hB h a0 (sp.toNatClampNeg + i)) := by
        show (arrV (Cy 55) (hL h a0) (fun j => va_rf (hB h a0 j))).slots.getD _ _ = _
        rw [Array.getD_eq_getD_getElem?, arrV_read _ _ (by omega)]
        rfl
      rw [e]
      cases hy : hB h a0 (sp.toNatClampNeg + i) with
      | none => exact ⟨rfl, trivial⟩
      | some y =>
        have hy2 := hV.2.2.1.2.1 a0 hk0 _ y hy
        obtain ⟨cellV, g1, g2, g3⟩ := va_recv hKq.1 (q_P1 (hV.1.obj (show 2 < 50 by omega) hy2)) (q_klsat 2 (by omega)) (q0 := 0) rfl
        obtain ⟨kA, comp, r1, r2, r3, -⟩ := (hKq.1.2 5 _ rfl).2
        cases hk1'.symm.trans r1
        cases hkk1.symm.trans r2
        obtain ⟨kC, hkC, -⟩ := Vm.findClass_spec g3
        obtain ⟨kE, hkE, -⟩ := Vm.findClass_spec r3
        obtain ⟨kC', hkC', -⟩ := hal.2.2 _ _ hkC
        obtain ⟨kE', hkE', -⟩ := hal.2.2 _ _ hkE
        obtain ⟨c0, t1, f1, f2, f3⟩ := Cond.castable_spec (va_Nw.use (A := args) rfl hKq.2.2.2.2.1)
        cases g3.symm.trans f1
        cases r3.symm.trans f2
        refine ⟨rfl, cellV, (show T.heap[y]? = some cellV by rw [hT]; exact g1), (fun q h => by rw [h] at g2; cases g2), ⟨kC', hkC'⟩, ?_, ?_⟩
        · exact ⟨kE', hkE'⟩
        · show vm₁.assignable _ _ = true
          rw [hal.assignable]
          exact f3)
    (g := F0 mid pc lsA (.int m :: .int dp :: .ref a :: .int sp :: .ref a0 :: rest)) rfl (by show lsA.size = _; rw [hl, hml]) (rest := rest) rfl (by rw [hb]; exact hdg) hfr1 (by show 2 * 0 + _ + _ ≤ _; omega)
  have e1 : copied (vp_cell (Cy 55) (hL h a0, .inr (.inr (.inr (.inr (hB h a0)))))) (vp_cell (Cy 55) (hL h a, .inr (.inr (.inr (.inr (hB h a)))))) sp dp m = vp_cell (Cy 55) (hL h a, .inr (.inr (.inr (.inr (va_cpy (hB h a0) (hB h a) sp.toNatClampNeg dp.toNatClampNeg m.toNatClampNeg))))) := by
    rw [vp_cell_q, vp_cell_q, vp_cell_q]
    exact va_copied (fun z => va_rf z) (Cy 55) (Cy 55) (hB h a0) (hB h a) h4
  rw [e1] at X' step
  have hl2 : a < H.size := (Array.getElem?_eq_some_iff.mp hc1).1
  have hheap : ((T.setVm vm').setCell a (vp_cell (Cy 55) (hL h a, .inr (.inr (.inr (.inr (va_cpy (hB h a0) (hB h a) sp.toNatClampNeg dp.toNatClampNeg m.toNatClampNeg))))))).heap = H.setIfInBounds a (vp_cell (Cy 55) (hL h a, .inr (.inr (.inr (.inr (va_cpy (hB h a0) (hB h a) sp.toNatClampNeg dp.toNatClampNeg m.toNatClampNeg)))))) := by rw [← hT]; rfl
  have oq : ∀ q : Nat, q ≠ a → (H.setIfInBounds a (vp_cell (Cy 55) (hL h a, .inr (.inr (.inr (.inr (va_cpy (hB h a0) (hB h a) sp.toNatClampNeg dp.toNatClampNeg m.toNatClampNeg)))))))[q]? = H[q]? := fun q hq => by simp [Array.getElem?_setIfInBounds, Ne.symm hq]
  have hba : base ≤ a := (hV.1.2.2 a (by omega)).1
  have hS := hV.2.2.2.2.1
  obtain ⟨t, a1, b1⟩ := kk _ _ (hV.stq (k := 55) (by omega) (by omega) hk ⟨by simp; exact hS.1, fun q g1 g2 => by
      rw [oq q (fun e => g2 (by rw [e]; exact hba))]
      exact hS.2.1 q g1 g2, fun q hq => by
      rcases List.mem_append.mp hq with h | h
      · exact hS.2.2 q h
      · obtain ⟨z, -, hz⟩ := List.mem_map.mp h
        rw [← hz]
        exact hba⟩ (by simp) oq (show (H.setIfInBounds a _)[a]? = some _ by simp [Array.getElem?_setIfInBounds, hl2]) (fun _ j y hy => by
      unfold va_cpy at hy
      split at hy
      · exact hV.2.2.1.2.1 a0 hk0 _ y hy
      · exact hV.2.2.1.2.1 a hk _ y hy)) _ hheap X'
  exact ⟨t, step t a1, b1⟩
end QJY
