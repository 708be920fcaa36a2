/-! the JDK's members: rows for the list's fields, arrays -/
section QJR
variable {l : Launch} {base : Nat} {D : va_G} {Cy : Nat → ClassId} {S : Nat → Nat} {Hb : Heap}
variable {p : Program} {e : Env} {R : Room} {s : State} {mid : MethodId} {args : Array Value} {below : List Frame} {meth : Method} {c : Code} {H : Heap} {locs : List Loc} {cells slots : Nat} {Q : State → Prop} {d : Nat} {h : PH} {rest : List Value} {own : String} {cc : ByteArray} {n pc idx a k : Nat} {lsA : Array Slot} {ref : String}
theorem q_jget (X : q_Jc p R s mid args c base D Cy S own cc n d) (hW : q_W base D Cy h H) (hk : hK h a = 12) (h3 : k < 3) (w1 : Cond.fieldLink own idx ref (q_T 12 k).2.1 (q_T 12 k).2.2.1 ∈ gtb) (hs : ∀ x, s.fieldFound? (q_T 12 k).1 (q_T 12 k).2.1 (q_T 12 k).2.2.1 = some x → s.fieldFound? ref (q_T 12 k).2.1 (q_T 12 k).2.2.1 = some x) (hdg : decode cc pc = .ok (.getfield idx, 3))
    (kk : W p l e R s mid args below meth c H locs cells slots Q (F0 mid (pc + 3) lsA (q_fv h 12 a k :: rest))) : W p l e R s mid args below meth c H locs cells slots Q (F0 mid pc lsA (.ref a :: rest)) := by
  obtain ⟨hx, hb, hml, hown, hts, hKq, hbs, hfr, hlo⟩ := X
  have h4 : k < q_nf 12 := h3
  exact va_get (D := D) (ci := 12) (C := q_rn 12) (T := q_T 12) (N := q_nf 12) (v := q_fv h 12 a k) hx hb hts (q_cwa 12 (by omega)) hown hKq.1 (q_P1 (hW.obj (by omega) hk)) 0 rfl (q_klsat 12 (by omega)) k h4 (hts _ w1) hs (by simp [h4]) hdg kk
theorem q_jsame (X : q_Jc p R s mid args c base D Cy S own cc n d) : ∀ x, s.fieldFound? "java/util/AbstractList" "modCount" "I" = some x → s.fieldFound? "java/util/ArrayList" "modCount" "I" = some x := fun x hx => u_same (X.2.2.2.2.1 _ jx_same) x hx
/-- what a field of the list is -/
theorem q_jg0 : q_fv h 12 a 0 = .int (hI h 0 a) := rfl
theorem q_jg1 : q_fv h 12 a 1 = va_rf (hR h 1 a) := rfl
theorem q_jg2 : q_fv h 12 a 2 = .int (hI h 2 a) := rfl
theorem q_jputr {v : Value} (X : q_Jc p R s mid args c base D Cy S own cc n d) (hW : q_W base D Cy h H) (hk : hK h a = 12) (h3 : k < 3) (w1 : Cond.fieldLink own idx ref (q_T 12 k).2.1 (q_T 12 k).2.2.1 ∈ gtb) (hs : ∀ x, s.fieldFound? (q_T 12 k).1 (q_T 12 k).2.1 (q_T 12 k).2.2.1 = some x → s.fieldFound? ref (q_T 12 k).2.1 (q_T 12 k).2.2.1 = some x) (hn : narrow (q_tya 12 k) v = v) (hfit : fits (q_tya 12 k) v = true) (hdg : decode cc pc = .ok (.putfield idx, 3))
    (kk : ∀ (H1 : Heap) (j : Nat), H1.size = H.size → (∀ q, q ≠ a → H1[q]? = H[q]?) → va_at D q_kls (a, .inr (12, ((List.range (q_nf 12)).map (q_fv h 12 a)).set k v)) H1 → W p l e R s mid args below meth c H1 (locs ++ [⟨a, j⟩]) cells slots Q (F0 mid (pc + 3) lsA rest)) : W p l e R s mid args below meth c H locs cells slots Q (F0 mid pc lsA (v :: .ref a :: rest)) := by
  obtain ⟨hx, hb, hml, hown, hts, hKq, hbs, hfr, hlo⟩ := X
  have g3 : k < q_nf 12 := h3
  have hat := hW.obj (by omega) hk
  have hc := q_klsat 12 (by omega)
  have hin := q_cwa 12 (by omega)
  have hlink := hts _ w1
  have hap := va_apart (own := own) hts hin (q_tya 12) (q_tyok 12 (by omega)) (q_nma 12 (by omega)) hKq.1 hc
  have hd := q_tyok 12 (by omega) k g3
  obtain ⟨r, h1, cell, q1, q2, q3, q4⟩ := hat
  have hr2 : r = (q_rn 12, q_T 12, q_nf 12) := Option.some.inj (h1.symm.trans hc)
  subst hr2
  obtain ⟨hS, hfc, kC, hkC, hkind⟩ := hKq.1.1 12 _ hc
  obtain ⟨cf, kf, fi, f, hi, hsl⟩ := hS k g3
  have hst := (u_facts hfc hkC (u_lays hts hin g3) hi).1
  have hsame := hs _ hi
  have hlay := hts _ (hin _ (u_in_lay g3))
  unfold u_lay at hlay
  have hfb : (q_T 12 k).2.2.2 = false := by
    match k, h3 with
    | 0, _ => rfl
    | 1, _ => rfl
    | 2, _ => rfl
  rw [hfb] at hlay
  rw [if_neg (by decide)] at hlay
  have h6 := u_store hfc hkC hkind hlay hi hd hn hfit
  refine W.putK hx hb (f := f) ⟨hown, hlink, ⟨_, _, _, hsame⟩, hst⟩ (by rw [q2]; exact h6) q1 q3 (by rw [hsl]; exact k2_hasslot (q4 k g3)) rfl rfl hdg (fun H' e1 e2 e3 => ?_)
  rw [hsl] at e1
  exact kk H' f.slot e2 e3 ⟨_, hc, t_OB.to (V := updV (vp_V ((List.range (q_nf 12)).map (q_fv h 12 a))) k v) ⟨_, e1, q2, q3, t_set q4 hap g3 v⟩ (fun j _ => vp_updV_set (by simp [g3]) v j)⟩
theorem q_jputI {v : Int32} (X : q_Jc p R s mid args c base D Cy S own cc n d) (hV : q_V base D Cy S Hb s h H locs) (hk : hK h a = 12) (h3 : k = 0 ∨ k = 2) (w1 : Cond.fieldLink own idx ref (q_T 12 k).2.1 (q_T 12 k).2.2.1 ∈ gtb) (hs : ∀ x, s.fieldFound? (q_T 12 k).1 (q_T 12 k).2.1 (q_T 12 k).2.2.1 = some x → s.fieldFound? ref (q_T 12 k).2.1 (q_T 12 k).2.2.1 = some x) (hdg : decode cc pc = .ok (.putfield idx, 3))
    (kk : ∀ (H1 : Heap) (locs1 : List Loc), q_V base D Cy S Hb s (pI h k a v) H1 locs1 → W p l e R s mid args below meth c H1 locs1 cells slots Q (F0 mid (pc + 3) lsA rest)) : W p l e R s mid args below meth c H locs cells slots Q (F0 mid pc lsA (.int v :: .ref a :: rest)) := by
  have hty : q_tya 12 k = .int := by rcases h3 with rfl | rfl <;> rfl
  have hfs : q_fs (hK h a) k = 0 ∨ q_fs (hK h a) k = 1 := by rw [hk]; rcases h3 with rfl | rfl <;> exact Or.inl rfl
  refine q_jputr X hV.1 hk (by omega) w1 hs (by rw [hty]; rfl) (by rw [hty]; rfl) hdg (fun H1 j e1 e2 e3 => ?_)
  refine kk H1 _ (hV.fld (hV.1.upd (a := a) (by omega) rfl rfl (fun b hb _ => q_ceo_I hb) e1 e2 ?_) (hV.2.2.2.2.1.put e1 e2 (hV.1.2.2 a (by omega)).1) rfl rfl rfl rfl rfl)
  rw [q_ce_I (by omega) hfs, hk]
  exact e3
theorem q_jputR {v : Nat} (X : q_Jc p R s mid args c base D Cy S own cc n d) (hV : q_V base D Cy S Hb s h H locs) (hk : hK h a = 12) (w1 : Cond.fieldLink own idx "java/util/ArrayList" "elementData" "[Ljava/lang/Object;" ∈ gtb) (hdg : decode cc pc = .ok (.putfield idx, 3))
    (kk : ∀ (H1 : Heap) (locs1 : List Loc), q_V base D Cy S Hb s (pR h 1 a (some v)) H1 locs1 → W p l e R s mid args below meth c H1 locs1 cells slots Q (F0 mid (pc + 3) lsA rest)) : W p l e R s mid args below meth c H locs cells slots Q (F0 mid pc lsA (.ref v :: .ref a :: rest)) := by
  refine q_jputr (k := 1) X hV.1 hk (by omega) w1 (fun x hx => hx) rfl rfl hdg (fun H1 j e1 e2 e3 => ?_)
  refine kk H1 _ (hV.fld (hV.1.upd (a := a) (by omega) rfl rfl (fun b hb _ => q_ceo_R hb) e1 e2 ?_) (hV.2.2.2.2.1.put e1 e2 (hV.1.2.2 a (by omega)).1) rfl rfl rfl rfl rfl)
  rw [q_ce_R (by omega) (by rw [hk]; rfl), hk]
  exact e3
/-- the length of an array -/
theorem q_jalen (X : q_Jc p R s mid args c base D Cy S own cc n d) (hV : q_V base D Cy S Hb s h H locs) (hk : hK h a = 52 ∨ hK h a = 55) (hdg : decode cc pc = .ok (.arraylength, 1))
    (kk : W p l e R s mid args below meth c H locs cells slots Q (F0 mid (pc + 1) lsA (.int (nI (hL h a)) :: rest))) : W p l e R s mid args below meth c H locs cells slots Q (F0 mid pc lsA (.ref a :: rest)) := by
  obtain ⟨hx, hb, hml, hown, hts, hKq, hbs, hfr, hlo⟩ := X
  rcases hk with hk | hk
  · exact va_alen hx hb hKq.1 (q_P1 (hV.1.arr (c := 52) (by omega) (by omega) hk)) 0 2 rfl rfl rfl hdg kk
  · exact va_alen hx hb hKq.1 (q_P1 (hV.1.arq (c := 55) (by omega) (by omega) hk)) 0 5 rfl rfl rfl hdg kk
theorem q_jaal {i : Int32} (X : q_Jc p R s mid args c base D Cy S own cc n d) (hV : q_V base D Cy S Hb s h H locs) (hk : hK h a = 55) (hin : q_in i (hL h a)) (hdg : decode cc pc = .ok (.aaload, 1))
    (kk : W p l e R s mid args below meth c H locs cells slots Q (F0 mid (pc + 1) lsA (va_rf (hB h a i.toNatClampNeg) :: rest))) : W p l e R s mid args below meth c H locs cells slots Q (F0 mid pc lsA (.int i :: .ref a :: rest)) := by
  obtain ⟨hx, hb, hml, hown, hts, hKq, hbs, hfr, hlo⟩ := X
  exact va_aldq hx hb hKq.1 (q_P1 (hV.1.arq (c := 55) (by omega) (by omega) hk)) 0 5 rfl rfl hin hdg kk
theorem q_jaan {i : Int32} (X : q_Jc p R s mid args c base D Cy S own cc n d) (hV : q_V base D Cy S Hb s h H locs) (hk : hK h a = 55) (hin : q_in i (hL h a)) (hdg : decode cc pc = .ok (.aastore, 1))
    (kk : ∀ (H1 : Heap) (locs1 : List Loc), q_V base D Cy S Hb s (pB h a (va_up (hB h a) i.toNatClampNeg none)) H1 locs1 → W p l e R s mid args below meth c H1 locs1 cells slots Q (F0 mid (pc + 1) lsA rest)) : W p l e R s mid args below meth c H locs cells slots Q (F0 mid pc lsA (.null :: .int i :: .ref a :: rest)) := by
  obtain ⟨hx, hb, hml, hown, hts, hKq, hbs, hfr, hlo⟩ := X
  have hat := hV.1.arq (c := 55) (by omega) (by omega) hk
  refine va_WaastN (C := "java/lang/Object") hx hb hat ((hKq.1.2 5 _ rfl).1 (hL h a) (fun j => va_rf (hB h a j))) (fun h => by cases h) (by show ¬ (i < 0 ∨ (arrV _ _ _).slots.size ≤ _); rw [arrV_size]; exact hin) rfl rfl hdg fun H1 e1 z o => ?_
  rw [show Value.null = va_rf none from rfl, q_set_q] at e1
  refine kk H1 _ (hV.stq (by omega) (by omega) hk (hV.2.2.2.2.1.put z o (hV.1.2.2 a (by omega)).1) z o e1 (fun _ j y hy => ?_))
  unfold va_up at hy
  split at hy
  · cases hy
  · exact hV.2.2.1.2.1 a hk j y hy
theorem q_jaas {i : Int32} {v : Nat} (X : q_Jc p R s mid args c base D Cy S own cc n d) (hV : q_V base D Cy S Hb s h H locs) (hk : hK h a = 55) (hv : hK h v = 2) (hin : q_in i (hL h a)) (hdg : decode cc pc = .ok (.aastore, 1))
    (kk : ∀ (H1 : Heap) (locs1 : List Loc), q_V base D Cy S Hb s (pB h a (va_up (hB h a) i.toNatClampNeg (some v))) H1 locs1 → W p l e R s mid args below meth c H1 locs1 cells slots Q (F0 mid (pc + 1) lsA rest)) : W p l e R s mid args below meth c H locs cells slots Q (F0 mid pc lsA (.ref v :: .int i :: .ref a :: rest)) := by
  obtain ⟨hx, hb, hml, hown, hts, hKq, hbs, hfr, hlo⟩ := X
  have hat := hV.1.arq (c := 55) (by omega) (by omega) hk
  have hav := hV.1.obj (show 2 < 50 by omega) hv
  have hc := q_klsat 2 (by omega)
  obtain ⟨r', hr', cellV, g1, g2, g3, -⟩ := hav
  have hcls := (hKq.1.1 2 _ hc).2
  obtain ⟨kA, comp, k1, k2, k3, -⟩ := (hKq.1.2 5 _ rfl).2
  obtain ⟨kE, hkE, -⟩ := Vm.findClass_spec k3
  obtain ⟨c0, t1, f1, f2, f3⟩ := Cond.castable_spec (va_Nw.use (A := args) rfl hKq.2.2.2.2.1)
  cases hcls.1.symm.trans f1
  cases k3.symm.trans f2
  obtain ⟨kC, hkC, -⟩ := hcls.2
  have hlt : i.toNatClampNeg < hL h a := Nat.not_le.mp fun q => hin (Or.inr q)
  refine W.aast hx hb hat (fun q h => by cases h) (fun h => by cases h) k1 k2 rfl hkE ⟨fun q => hin (Or.inl q), by show _ < (arrV _ _ _).slots.size; rw [arrV_size]; exact hlt⟩ g1 (fun q h => by rw [g3] at h; cases h) (by rw [g2]; exact hkC) (by rw [g2]; exact f3) rfl rfl hdg fun H1 e1 z o => ?_
  rw [show Value.ref v = va_rf (some v) from rfl, q_set_q] at e1
  refine kk H1 _ (hV.stq (by omega) (by omega) hk (hV.2.2.2.2.1.put z o (hV.1.2.2 a (by omega)).1) z o e1 (fun _ j y hy => ?_))
  unfold va_up at hy
  split at hy
  · cases hy; exact hv
  · exact hV.2.2.1.2.1 a hk j y hy
/-- new Object[] -/
theorem q_janew {m : Int32} (X : q_Jc p R s mid args c base D Cy S own cc n d) (hV : q_V base D Cy S Hb s h H locs) (w1 : Cond.classLink own idx "java/lang/Object" ∈ gtb) (hn : ¬ (m < 0 ∨ 1000000 < m.toNatClampNeg)) (hcells : cells + 1 ≤ R.cells) (hslots : slots + m.toNatClampNeg ≤ R.slots) (hdg : decode cc pc = .ok (.anewarray idx, 3))
    (kk : ∀ (H1 : Heap), q_V base D Cy S Hb s (nA h 55 m.toNatClampNeg) H1 locs → W p l e R s mid args below meth c H1 locs (cells + 1) (slots + m.toNatClampNeg) Q (F0 mid (pc + 3) lsA (.ref (hN h) :: rest))) : W p l e R s mid args below meth c H locs cells slots Q (F0 mid pc lsA (.int m :: rest)) := by
  obtain ⟨hx, hb, hml, hown, hts, hKq, hbs, hfr, hlo⟩ := X
  have hsz : H.size = hN h := hV.1.1
  have h4 : m.toNatClampNeg * 4 ≤ 536870912 := by
    have : m.toNatClampNeg ≤ 1000000 := Nat.not_lt.mp fun z => hn (Or.inr z)
    omega
  refine W.anew hx hb hown (hts _ w1) (va_AO.use hKq.2.2.2.2.2.1.2.2) rfl hdg rfl (fun z => hn (Or.inl z)) h4 hcells hslots fun cA kA comp f1 f2 f3 f4 => ?_
  rw [hsz]
  refine kk _ (hV.newa (by omega) (by omega) (by simp [hsz]) (fun q hq => by rw [Array.getElem?_push, if_neg (by omega)]) ?_ (fun _ => Nat.not_lt.mp fun z => hn (Or.inr z)))
  have hCy : cA = Cy 55 := Option.some.inj (f1.symm.trans (hKq.1.2 5 _ rfl).2.choose_spec.choose_spec.2.2.2)
  rw [q_ceQ (by omega), ← hCy]
  show (H.push _)[hN h]? = some (vp_cell _ _)
  rw [← hsz, Array.getElem?_push_size, vp_cell_q, arrV_new]
  rfl
/-- new byte[] -/
theorem q_jbnew {m : Int32} (X : q_Jc p R s mid args c base D Cy S own cc n d) (hV : q_V base D Cy S Hb s h H locs) (hn : ¬ (m < 0 ∨ 1000000 < m.toNatClampNeg)) (hcells : cells + 1 ≤ R.cells) (hslots : slots + m.toNatClampNeg ≤ R.slots) (hdg : decode cc pc = .ok (.newarray .byte, 2))
    (kk : ∀ (H1 : Heap), q_V base D Cy S Hb s (nA h 52 m.toNatClampNeg) H1 locs → W p l e R s mid args below meth c H1 locs (cells + 1) (slots + m.toNatClampNeg) Q (F0 mid (pc + 2) lsA (.ref (hN h) :: rest))) : W p l e R s mid args below meth c H locs cells slots Q (F0 mid pc lsA (.int m :: rest)) := by
  obtain ⟨hx, hb, hml, hown, hts, hKq, hbs, hfr, hlo⟩ := X
  have hsz : H.size = hN h := hV.1.1
  have h7 : m.toNatClampNeg ≤ 1000000 := Nat.not_lt.mp fun z => hn (Or.inr z)
  refine va_newaK hx hb (atype := .byte) (hts _ (q_g _ q_oa_byte rfl)) rfl hdg rfl (fun z => hn (Or.inl z)) rfl ?_ hcells hslots hsz fun H1 cA e1 z1 o1 hAr hNm => kk H1 (hV.newa (by omega) (by omega) z1 o1 ?_ (fun z => by omega))
  · show m.toNatClampNeg * 1 ≤ _
    omega
  · have hCy : cA = Cy 52 := Option.some.inj (hNm.symm.trans (hKq.1.2 2 _ rfl).2)
    rw [q_ceA (by omega) (by omega), ← hCy]
    show H1[hN h]? = some (vp_cell _ _)
    rw [e1]
    rfl
end QJR
