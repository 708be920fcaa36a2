section QR3
variable {p : Program} {l : Launch} {e : Env} {R : Room} {s : State} {mid : MethodId} {args : Array Value} {below : List Frame} {meth : Method} {c : Code} {H : Heap} {locs : List Loc} {cells slots : Nat} {Q : State → Prop}
variable {base : Nat} {D : va_G} {Cy : Nat → ClassId} {S : Nat → Nat} {Hb : Heap} {m : Mt} {g : Nat} {h h' : PH} {pc : Nat} {lsA : Array Slot} {rest : List Value} {a : Nat}
theorem q_set_i (cA : ClassId) (n i : Nat) (f : Nat → Int32) (v : Int32) : (vp_cell cA (n, .inl f)).setSlot i (.int v) = vp_cell cA (n, .inl (upd f i v)) := by
  rw [vp_cell_i, vp_cell_i, arrV_store]
  congr 1
  funext q
  by_cases hq : q = i <;> simp [updV, upd, hq]
theorem q_set_q (cA : ClassId) (n i : Nat) (f : Nat → Option Nat) (v : Option Nat) : (vp_cell cA (n, .inr (.inr (.inr (.inr f))))).setSlot i (va_rf v) = vp_cell cA (n, .inr (.inr (.inr (.inr (va_up f i v))))) := by
  rw [vp_cell_q, vp_cell_q, arrV_store]
  congr 1
  funext q
  by_cases hq : q = i <;> simp [updV, va_up, hq]
/-- the contents of an int array are changed: the picture behind it -/
theorem q_V.sta {H1 : Heap} {locs1 : List Loc} {k : Nat} {f : Nat → Int32} (hV : q_V base D Cy S Hb s h H locs) (h1 : 50 ≤ k) (h2 : k < 53) (hk : hK h a = k) (hs : va_S (fun q => base ≤ q) s.heap H1 locs1) (z : H1.size = H.size) (o : ∀ q, q ≠ a → H1[q]? = H[q]?) (hat : H1[a]? = some (vp_cell (Cy k) (hL h a, .inl f))) (hby : k = 52 → ∀ i, fits .byte (.int (f i)) = true) : q_V base D Cy S Hb s (pA h a f) H1 locs1 := by
  refine hV.of (hV.1.upd (a := a) (by omega) rfl rfl (fun b hb _ => q_ceo_A hb) z o ?_) hs (fun b hb => ?_) ⟨fun b hb i => ?_, fun b hb i y hy => hV.2.2.1.2.1 b hb i y hy, fun b hb => hV.2.2.1.2.2 b hb⟩ rfl
  · rw [q_ce_A (by omega) (by omega), hk]
    exact hat
  · have hb2 : 60 ≤ hK h b := hb
    have hne : b ≠ a := fun z => by subst z; omega
    exact ⟨rfl, rfl, va_up_ne _ _ hne⟩
  · have hb2 : hK h b = 52 := hb
    by_cases hne : b = a
    · subst hne
      have : hA (pA h b f) b = f := va_up_self _ _ _
      rw [this]
      exact hby (by omega) i
    · have : hA (pA h a f) b = hA h b := va_up_ne _ _ hne
      rw [this]
      exact hV.2.2.1.1 b hb2 i
theorem q_V.stq {H1 : Heap} {locs1 : List Loc} {k : Nat} {f : Nat → Option Nat} (hV : q_V base D Cy S Hb s h H locs) (h1 : 53 ≤ k) (h2 : k < 56) (hk : hK h a = k) (hs : va_S (fun q => base ≤ q) s.heap H1 locs1) (z : H1.size = H.size) (o : ∀ q, q ≠ a → H1[q]? = H[q]?) (hat : H1[a]? = some (vp_cell (Cy k) (hL h a, .inr (.inr (.inr (.inr f)))))) (h55 : k = 55 → ∀ i y, f i = some y → hK h y = 2) : q_V base D Cy S Hb s (pB h a f) H1 locs1 := by
  refine hV.of (hV.1.upd (a := a) (by omega) rfl rfl (fun b hb _ => q_ceo_B hb) z o ?_) hs (fun b hb => ⟨rfl, rfl, rfl⟩) ⟨fun b hb i => hV.2.2.1.1 b hb i, fun b hb i y hy => ?_, fun b hb => hV.2.2.1.2.2 b hb⟩ rfl
  · rw [q_ce_B (by omega), hk]
    exact hat
  · have hb2 : hK h b = 55 := hb
    show hK h y = 2
    by_cases hne : b = a
    · subst hne
      have : hB (pB h b f) b = f := va_up_self _ _ _
      rw [this] at hy
      exact h55 (by omega) i y hy
    · have : hB (pB h a f) b = hB h b := va_up_ne _ _ hne
      rw [this] at hy
      exact hV.2.2.1.2.1 b hb2 i y hy
theorem q_ial (X : q_Cx p R s mid args meth c base D Cy S m g) (hV : q_V base D Cy S Hb s h H locs) {i : Int32} (hk : hK h a = 50 ∨ hK h a = 60) (hin : q_in i (hL h a)) (hdg : decode (mC m) pc = .ok (.iaload, 1))
    (kk : W p l e R s mid args below meth c H locs cells slots Q (F0 mid (pc + 1) lsA (.int (hA h a i.toNatClampNeg) :: rest))) : W p l e R s mid args below meth c H locs cells slots Q (F0 mid pc lsA (.int i :: .ref a :: rest)) := by
  obtain ⟨hx, hb, hml, hr, hown, hts, hlocks, hname, hKq, hbs, hfr, hlo⟩ := X
  rcases hk with hk | hk
  · exact va_iald hx hb hKq.1 (q_P1 (hV.1.arr (c := 50) (by omega) (by omega) hk)) 0 0 rfl rfl hin hdg kk
  · obtain ⟨h1, h2⟩ := hV.2.1.1 a hk
    exact va_sld (A := fun q => base ≤ q) hx hb (h2.kept (hV.2.2.2.2.2 a h1)) (by omega) (by omega) hV.2.2.2.2.1 hin hdg kk
theorem q_alen (X : q_Cx p R s mid args meth c base D Cy S m g) (hV : q_V base D Cy S Hb s h H locs) (hk : 50 ≤ hK h a ∧ hK h a ≤ 54 ∨ hK h a = 60) (hdg : decode (mC m) pc = .ok (.arraylength, 1))
    (kk : W p l e R s mid args below meth c H locs cells slots Q (F0 mid (pc + 1) lsA (.int (nI (hL h a)) :: rest))) : W p l e R s mid args below meth c H locs cells slots Q (F0 mid pc lsA (.ref a :: rest)) := by
  obtain ⟨hx, hb, hml, hr, hown, hts, hlocks, hname, hKq, hbs, hfr, hlo⟩ := X
  rcases hk with hk | hk
  · by_cases h3 : hK h a < 53
    · obtain ⟨ty, ht, -⟩ := q_tyat hKq (hK h a - 50) (by omega)
      rw [show 50 + (hK h a - 50) = hK h a by omega] at ht
      exact va_alen hx hb hKq.1 (q_P1 (hV.1.arr (c := hK h a) hk.1 h3 rfl)) 0 _ rfl ht rfl hdg kk
    · obtain ⟨ty, ht, -⟩ := q_tyat hKq (hK h a - 50) (by omega)
      rw [show 50 + (hK h a - 50) = hK h a by omega] at ht
      exact va_alen hx hb hKq.1 (q_P1 (hV.1.arq (c := hK h a) (by omega) (by omega) rfl)) 0 _ rfl ht rfl hdg kk
  · obtain ⟨h1, h2⟩ := hV.2.1.1 a hk
    exact va_slen (A := fun q => base ≤ q) hx hb (h2.kept (hV.2.2.2.2.2 a h1)) (by omega) (by omega) hV.2.2.2.2.1 hdg kk
theorem q_bal (X : q_Cx p R s mid args meth c base D Cy S m g) (hV : q_V base D Cy S Hb s h H locs) {i : Int32} (hk : hK h a = 51 ∨ hK h a = 52) (hin : q_in i (hL h a)) (hdg : decode (mC m) pc = .ok (.baload, 1))
    (kk : W p l e R s mid args below meth c H locs cells slots Q (F0 mid (pc + 1) lsA (.int (hA h a i.toNatClampNeg) :: rest))) : W p l e R s mid args below meth c H locs cells slots Q (F0 mid pc lsA (.int i :: .ref a :: rest)) := by
  obtain ⟨hx, hb, hml, hr, hown, hts, hlocks, hname, hKq, hbs, hfr, hlo⟩ := X
  rcases hk with hk | hk
  · exact va_zald hx hb hKq.1 (q_P1 (hV.1.arr (c := 51) (by omega) (by omega) hk)) 0 1 rfl rfl hin hdg kk
  · exact va_bald hx hb hKq.1 (q_P1 (hV.1.arr (c := 52) (by omega) (by omega) hk)) 0 2 rfl rfl hin hdg kk
theorem q_aal (X : q_Cx p R s mid args meth c base D Cy S m g) (hV : q_V base D Cy S Hb s h H locs) {i : Int32} (hk : hK h a = 53 ∨ hK h a = 54) (hin : q_in i (hL h a)) (hdg : decode (mC m) pc = .ok (.aaload, 1))
    (kk : W p l e R s mid args below meth c H locs cells slots Q (F0 mid (pc + 1) lsA (va_rf (hB h a i.toNatClampNeg) :: rest))) : W p l e R s mid args below meth c H locs cells slots Q (F0 mid pc lsA (.int i :: .ref a :: rest)) := by
  obtain ⟨hx, hb, hml, hr, hown, hts, hlocks, hname, hKq, hbs, hfr, hlo⟩ := X
  rcases hk with hk | hk
  · exact va_aldq hx hb hKq.1 (q_P1 (hV.1.arq (c := 53) (by omega) (by omega) hk)) 0 3 rfl rfl hin hdg kk
  · exact va_aldq hx hb hKq.1 (q_P1 (hV.1.arq (c := 54) (by omega) (by omega) hk)) 0 4 rfl rfl hin hdg kk
theorem q_ias (X : q_Cx p R s mid args meth c base D Cy S m g) (hV : q_V base D Cy S Hb s h H locs) {i v : Int32} (hk : hK h a = 50) (hin : q_in i (hL h a)) (hdg : decode (mC m) pc = .ok (.iastore, 1))
    (kk : ∀ (H1 : Heap) (locs1 : List Loc), q_V base D Cy S Hb s (pA h a (upd (hA h a) i.toNatClampNeg v)) H1 locs1 → W p l e R s mid args below meth c H1 locs1 cells slots Q (F0 mid (pc + 1) lsA rest)) : W p l e R s mid args below meth c H locs cells slots Q (F0 mid pc lsA (.int v :: .int i :: .ref a :: rest)) := by
  obtain ⟨hx, hb, hml, hr, hown, hts, hlocks, hname, hKq, hbs, hfr, hlo⟩ := X
  have hat := hV.1.arr (c := 50) (by omega) (by omega) hk
  refine W.iast hx hb hat ((hKq.1.2 0 _ rfl).1 (hL h a) (fun j => .int (hA h a j))) (fun q => by cases q) (by show ¬ (i < 0 ∨ (arrV _ _ _).slots.size ≤ _); rw [arrV_size]; exact hin) rfl rfl hdg fun H1 e1 z o => ?_
  rw [q_set_i] at e1
  exact kk H1 _ (hV.sta (k := 50) (by omega) (by omega) hk (hV.2.2.2.2.1.put z o (hV.1.2.2 a (by omega)).1) z o e1 (fun z => by cases z))
theorem q_bas (X : q_Cx p R s mid args meth c base D Cy S m g) (hV : q_V base D Cy S Hb s h H locs) {i v : Int32} (hk : hK h a = 52) (hin : q_in i (hL h a)) (hdg : decode (mC m) pc = .ok (.bastore, 1))
    (kk : ∀ (H1 : Heap) (locs1 : List Loc), q_V base D Cy S Hb s (pA h a (upd (hA h a) i.toNatClampNeg v.toInt8.toInt32)) H1 locs1 → W p l e R s mid args below meth c H1 locs1 cells slots Q (F0 mid (pc + 1) lsA rest)) : W p l e R s mid args below meth c H locs cells slots Q (F0 mid pc lsA (.int v :: .int i :: .ref a :: rest)) := by
  obtain ⟨hx, hb, hml, hr, hown, hts, hlocks, hname, hKq, hbs, hfr, hlo⟩ := X
  have hat := hV.1.arr (c := 52) (by omega) (by omega) hk
  refine W.bast hx hb hat ((hKq.1.2 2 _ rfl).1 (hL h a) (fun j => .int (hA h a j))) (fun q => by cases q) (by show ¬ (i < 0 ∨ (arrV _ _ _).slots.size ≤ _); rw [arrV_size]; exact hin) rfl rfl hdg fun H1 e1 z o => ?_
  rw [show narrow .byte (.int v) = .int v.toInt8.toInt32 from rfl, q_set_i] at e1
  refine kk H1 _ (hV.sta (k := 52) (by omega) (by omega) hk (hV.2.2.2.2.1.put z o (hV.1.2.2 a (by omega)).1) z o e1 (fun _ j => ?_))
  by_cases hj : j = i.toNatClampNeg
  · simp only [upd, hj, if_true]
    exact pk_fb v
  · simp only [upd, hj, if_false]
    exact hV.2.2.1.1 a hk j
theorem q_zas (X : q_Cx p R s mid args meth c base D Cy S m g) (hV : q_V base D Cy S Hb s h H locs) {i v : Int32} (hk : hK h a = 51) (hv : v = 0 ∨ v = 1) (hin : q_in i (hL h a)) (hdg : decode (mC m) pc = .ok (.bastore, 1))
    (kk : ∀ (H1 : Heap) (locs1 : List Loc), q_V base D Cy S Hb s (pA h a (upd (hA h a) i.toNatClampNeg v)) H1 locs1 → W p l e R s mid args below meth c H1 locs1 cells slots Q (F0 mid (pc + 1) lsA rest)) : W p l e R s mid args below meth c H locs cells slots Q (F0 mid pc lsA (.int v :: .int i :: .ref a :: rest)) := by
  obtain ⟨hx, hb, hml, hr, hown, hts, hlocks, hname, hKq, hbs, hfr, hlo⟩ := X
  have hat := hV.1.arr (c := 51) (by omega) (by omega) hk
  refine W.zast hx hb hat ((hKq.1.2 1 _ rfl).1 (hL h a) (fun j => .int (hA h a j))) (fun q => by cases q) (by show ¬ (i < 0 ∨ (arrV _ _ _).slots.size ≤ _); rw [arrV_size]; exact hin) rfl rfl hdg fun H1 e1 z o => ?_
  rw [show narrow .boolean (.int v) = .int v by rcases hv with rfl | rfl <;> rfl, q_set_i] at e1
  exact kk H1 _ (hV.sta (k := 51) (by omega) (by omega) hk (hV.2.2.2.2.1.put z o (hV.1.2.2 a (by omega)).1) z o e1 (fun z => by cases z))
theorem q_aas (X : q_Cx p R s mid args meth c base D Cy S m g) (hV : q_V base D Cy S Hb s h H locs) {i : Int32} {v : Nat} (hk : hK h a = 53 ∧ hK h v = 0 ∨ hK h a = 54 ∧ hK h v = 2) (hin : q_in i (hL h a)) (hdg : decode (mC m) pc = .ok (.aastore, 1))
    (kk : ∀ (H1 : Heap) (locs1 : List Loc), q_V base D Cy S Hb s (pB h a (va_up (hB h a) i.toNatClampNeg (some v))) H1 locs1 → W p l e R s mid args below meth c H1 locs1 cells slots Q (F0 mid (pc + 1) lsA rest)) : W p l e R s mid args below meth c H locs cells slots Q (F0 mid pc lsA (.ref v :: .int i :: .ref a :: rest)) := by
  obtain ⟨hx, hb, hml, hr, hown, hts, hlocks, hname, hKq, hbs, hfr, hlo⟩ := X
  have fin : ∀ (k ci t0 : Nat) (C : String), hK h a = k → hK h v = ci → ci < 13 → 53 ≤ k → k < 56 → ¬ k = 55 → q_rn ci = C → (q_ty Cy)[t0]? = some (Cy k, .object C) → W p l e R s mid args below meth c H locs cells slots Q (F0 mid pc lsA (.ref v :: .int i :: .ref a :: rest)) := by
    intro k ci t0 C h1 h2 h3 h4 h5 h9 h6 ht
    have hat := hV.1.arq h4 h5 h1
    have hav := hV.1.obj (show ci < 50 by omega) h2
    have hc := q_klsat ci h3
    subst h6
    obtain ⟨r', hr', cellV, g1, g2, g3, -⟩ := hav
    have hcls := (hKq.1.1 ci _ hc).2
    obtain ⟨kA, comp, k1, k2, k3, -⟩ := (hKq.1.2 t0 _ ht).2
    have hcomp : comp = D.1 ci := Option.some.inj (k3.symm.trans hcls.1)
    subst hcomp
    obtain ⟨kC, hkC, -⟩ := hcls.2
    have hlt : i.toNatClampNeg < hL h a := Nat.not_le.mp fun q => hin (Or.inr q)
    refine W.aast hx hb hat (fun q h => by cases h) (fun h => by cases h) k1 k2 rfl hkC ⟨fun q => hin (Or.inl q), by show _ < (arrV _ _ _).slots.size; rw [arrV_size]; exact hlt⟩ g1 (fun q h => by rw [g3] at h; cases h) (by rw [g2]; exact hkC) (by rw [g2]; exact va_assign hcls) rfl rfl hdg fun H1 e1 z o => ?_
    rw [show Value.ref v = va_rf (some v) from rfl, q_set_q] at e1
    exact kk H1 _ (hV.stq h4 h5 h1 (hV.2.2.2.2.1.put z o (hV.1.2.2 a (by omega)).1) z o e1 (fun z => absurd z h9))
  rcases hk with ⟨z1, z2⟩ | ⟨z1, z2⟩
  · exact fin 53 0 3 _ z1 z2 (by omega) (by omega) (by omega) (by omega) rfl rfl
  · exact fin 54 2 4 _ z1 z2 (by omega) (by omega) (by omega) (by omega) rfl rfl
theorem q_aan (X : q_Cx p R s mid args meth c base D Cy S m g) (hV : q_V base D Cy S Hb s h H locs) {i : Int32} (hk : hK h a = 53 ∨ hK h a = 54) (hin : q_in i (hL h a)) (hdg : decode (mC m) pc = .ok (.aastore, 1))
    (kk : ∀ (H1 : Heap) (locs1 : List Loc), q_V base D Cy S Hb s (pB h a (va_up (hB h a) i.toNatClampNeg none)) H1 locs1 → W p l e R s mid args below meth c H1 locs1 cells slots Q (F0 mid (pc + 1) lsA rest)) : W p l e R s mid args below meth c H locs cells slots Q (F0 mid pc lsA (.null :: .int i :: .ref a :: rest)) := by
  obtain ⟨hx, hb, hml, hr, hown, hts, hlocks, hname, hKq, hbs, hfr, hlo⟩ := X
  have fin : ∀ (k t0 : Nat) (C : String), hK h a = k → 53 ≤ k → k < 56 → ¬ k = 55 → (q_ty Cy)[t0]? = some (Cy k, .object C) → W p l e R s mid args below meth c H locs cells slots Q (F0 mid pc lsA (.null :: .int i :: .ref a :: rest)) := by
    intro k t0 C h1 h4 h5 h9 ht
    have hat := hV.1.arq h4 h5 h1
    refine va_WaastN (C := C) hx hb hat ((hKq.1.2 t0 _ ht).1 (hL h a) (fun j => va_rf (hB h a j))) (fun h => by cases h) (by show ¬ (i < 0 ∨ (arrV _ _ _).slots.size ≤ _); rw [arrV_size]; exact hin) rfl rfl hdg fun H1 e1 z o => ?_
    rw [show Value.null = va_rf none from rfl, q_set_q] at e1
    exact kk H1 _ (hV.stq h4 h5 h1 (hV.2.2.2.2.1.put z o (hV.1.2.2 a (by omega)).1) z o e1 (fun z => absurd z h9))
  rcases hk with z1 | z1
  · exact fin 53 3 _ z1 (by omega) (by omega) (by omega) rfl
  · exact fin 54 4 _ z1 (by omega) (by omega) (by omega) rfl
theorem q_cast (X : q_Cx p R s mid args meth c base D Cy S m g) (hV : q_V base D Cy S Hb s h H locs) {i ci : Nat} (hf : qk_k (mO m) i = some ci) (hk : hK h a = ci) (hdg : decode (mC m) pc = .ok (.checkcast i, 3))
    (kk : W p l e R s mid args below meth c H locs cells slots Q (F0 mid (pc + 3) lsA (.ref a :: rest))) : W p l e R s mid args below meth c H locs cells slots Q (F0 mid pc lsA (.ref a :: rest)) := by
  obtain ⟨hx, hb, hml, hr, hown, hts, hlocks, hname, hKq, hbs, hfr, hlo⟩ := X
  unfold qk_k at hf
  obtain ⟨en, he, rfl⟩ := Option.map_eq_some_iff.mp hf
  have h1 := List.find?_some he
  obtain ⟨g1, g2⟩ := q_okk en (List.mem_of_find?_eq_some he)
  simp only [Bool.and_eq_true, beq_iff_eq] at h1
  rw [h1.1, h1.2] at g1
  have hc := q_klsat en.2.2.1 (by omega)
  have hat := hV.1.obj (show en.2.2.1 < 50 by omega) hk
  exact va_castS hx hb hown (hts _ (q_g _ g1 rfl)) (hKq.1.1 _ _ hc).2 (va_recv hKq.1 (q_P1 hat) hc (q0 := 0) rfl) hdg kk
theorem q_ldcs {tx : String} {index q : Nat} {cc : ByteArray} (hexec : p.tables.exec = Jvm.exec) (hb : c.code = cc) {own : String} (hown : s.vm.findClass own = some mid.cls) (hZ : vk_R own index tx q s) (hdg : decode cc pc = .ok (.ldc_w index, 3))
    (k : W p l e R s mid args below meth c H locs cells slots Q (F0 mid (pc + 3) lsA (.ref q :: rest))) : W p l e R s mid args below meth c H locs cells slots Q (F0 mid pc lsA rest) := by
  intro T hT X
  obtain ⟨t, a1, b1⟩ := k T hT X
  refine ⟨t, ?_, b1⟩
  obtain ⟨k, cf, i, a', hk, hcf, hcp, -, hr, hev'⟩ := Cond.stringRef_spec hown hZ.1
  have hev := hZ.2
  cases hev.symm.trans hev'
  obtain ⟨k', hk', he⟩ := X.warmed.alike.2.2 _ _ hk
  have hr' : k'.resolved[index]? = some (some (.string q)) := by
    rcases X.warmed.entry hk hk' index with h | ⟨h, -⟩
    · rw [h]; exact hr
    · rw [hr] at h; cases h
  subst hb
  jvm_step X.here [hexec, hdg, ldc_w.wp_string (e := e) (s := T) (f := F0 mid pc lsA rest) X.here.top hk' (by rw [he]; exact hcf) hcp hr']
  exact a1
/-- arraycopy of bytes -/
theorem q_copy (X : q_Cx p R s mid args meth c base D Cy S m g) (hV : q_V base D Cy S Hb s h H locs) (hl : lsA.size = mM m) {i a0 : Nat} {sp dp n : Int32} (hj : qk_j (mO m) i = some 5) (hk0 : hK h a0 = 52) (hk : hK h a = 52) (h1 : ¬ sp < 0) (h2 : ¬ dp < 0) (h3 : ¬ n < 0) (h4 : sp.toNatClampNeg + n.toNatClampNeg ≤ hL h a0) (h5 : dp.toNatClampNeg + n.toNatClampNeg ≤ hL h a) (hst : q_cat rest ≤ 20) (hdg : decode (mC m) pc = .ok (.invokestatic i, 3))
    (kk : ∀ (H1 : Heap) (locs1 : List Loc), q_V base D Cy S Hb s (pA h a (va_cpy (hA h a0) (hA h a) sp.toNatClampNeg dp.toNatClampNeg n.toNatClampNeg)) H1 locs1 → W p l e R s mid args below meth c H1 locs1 cells slots Q (F0 mid (pc + 3) lsA rest)) : W p l e R s mid args below meth c H locs cells slots Q (F0 mid pc lsA (.int n :: .int dp :: .ref a :: .int sp :: .ref a0 :: rest)) := by
  obtain ⟨hx, hb, hml, hr, hown, hts, hlocks, hname, hKq, hbs, hfr, hlo⟩ := X
  unfold qk_j at hj
  obtain ⟨en, he, hj2⟩ := Option.map_eq_some_iff.mp hj
  have hf1 := List.find?_some he
  obtain ⟨g1, g2⟩ := q_okj en (List.mem_of_find?_eq_some he)
  simp only [Bool.and_eq_true, beq_iff_eq] at hf1
  rw [hf1.1, hf1.2, hj2] at g1
  have nn : ∀ z : Int32, ¬ z < 0 → z.toInt = (z.toNatClampNeg : Int) := by
    intro z hz
    have hz0 : (0 : Int) ≤ z.toInt := by
      have := Int32.not_lt.mp hz
      simpa using Int32.le_iff_toInt_le.mp this
    show z.toInt = ((z.toInt.toNat : Nat) : Int)
    omega
  have hc0 := hV.1.arr (c := 52) (by omega) (by omega) hk0
  have hc1 := hV.1.arr (c := 52) (by omega) (by omega) hk
  have hfr1 : 1 ≤ R.frames := by unfold q_fr at hfr; omega
  have hlo1 : (rest.map fun v => v.category).sum + (nativeFrameWords "java/lang/System" "arraycopy" 5 + 11) ≤ R.locals := by
    have : nativeFrameWords "java/lang/System" "arraycopy" 5 ≤ 60 := by decide +kernel
    unfold q_cat at hst
    unfold q_lo q_fr at hlo
    omega
  intro T hT X
  obtain ⟨-, k0, hk0', cm0, hkk0⟩ := (hKq.1.2 2 _ rfl).1 (hL h a0) (fun j => .int (hA h a0 j))
  obtain ⟨-, k1, hk1', cm1, hkk1⟩ := (hKq.1.2 2 _ rfl).1 (hL h a) (fun j => .int (hA h a j))
  obtain ⟨vm', X', step⟩ := X.arraycopy hx hown (hts _ (q_g _ g1 rfl)) (hts _ (q_g _ q_oj5.2.1 rfl)) (hts _ (q_g _ q_oj5.1 rfl)) (hts _ (q_g _ q_oj5.2.2 rfl)) (src := a0) (dst := a) (cs := vp_cell (Cy 52) (hL h a0, .inl (hA h a0))) (cd := vp_cell (Cy 52) (hL h a, .inl (hA h a))) (srcPos := sp) (destPos := dp) (n := n) (by rw [hT]; exact hc0) (by rw [hT]; exact hc1)
    (fun _ h => by cases h) (fun _ h => by cases h) (fun h => by cases h) (fun h => by cases h) hk0' hk1' hkk0 hkk1 (by simp [refKind]) h1 h2 h3
    (by rw [nn sp h1, nn n h3]; show ¬ _ > ((arrV (Cy 52) (hL h a0) (fun j => .int (hA h a0 j))).slots.size : Int); rw [arrV_size]; omega)
    (by rw [nn dp h2, nn n h3]; show ¬ _ > ((arrV (Cy 52) (hL h a) (fun j => .int (hA h a j))).slots.size : Int); rw [arrV_size]; omega)
    (fun vm₁ _ i hi => by
      have e : (vp_cell (Cy 52) (hL h a0, .inl (hA h a0))).slots.getD (sp.toNatClampNeg + i) .null = .int (hA h a0 (sp.toNatClampNeg + i)) := by
        show (arrV (Cy 52) (hL h a0) (fun j => .int (hA h a0 j))).slots.getD _ _ = _
        rw [Array.getD_eq_getD_getElem?, arrV_read _ _ (by omega)]
        rfl
      refine ⟨?_, ?_⟩
      · rw [e]
        exact hV.2.2.1.1 a0 hk0 _
      · rw [e]
        exact trivial)
    (g := F0 mid pc lsA (.int n :: .int dp :: .ref a :: .int sp :: .ref a0 :: rest)) rfl (by show lsA.size = _; rw [hl, hml]) (rest := rest) rfl (by rw [hb]; exact hdg) hfr1 (by show 2 * 0 + _ + _ ≤ _; omega)
  have e1 : copied (vp_cell (Cy 52) (hL h a0, .inl (hA h a0))) (vp_cell (Cy 52) (hL h a, .inl (hA h a))) sp dp n = vp_cell (Cy 52) (hL h a, .inl (va_cpy (hA h a0) (hA h a) sp.toNatClampNeg dp.toNatClampNeg n.toNatClampNeg)) := va_copied (fun z => .int z) (Cy 52) (Cy 52) (hA h a0) (hA h a) h4
  rw [e1] at X' step
  have hl2 : a < H.size := (Array.getElem?_eq_some_iff.mp hc1).1
  have hheap : ((T.setVm vm').setCell a (vp_cell (Cy 52) (hL h a, .inl (va_cpy (hA h a0) (hA h a) sp.toNatClampNeg dp.toNatClampNeg n.toNatClampNeg)))).heap = H.setIfInBounds a (vp_cell (Cy 52) (hL h a, .inl (va_cpy (hA h a0) (hA h a) sp.toNatClampNeg dp.toNatClampNeg n.toNatClampNeg))) := by rw [← hT]; rfl
  have oq : ∀ q : Nat, q ≠ a → (H.setIfInBounds a (vp_cell (Cy 52) (hL h a, .inl (va_cpy (hA h a0) (hA h a) sp.toNatClampNeg dp.toNatClampNeg n.toNatClampNeg))))[q]? = H[q]? := fun q hq => by simp [Array.getElem?_setIfInBounds, Ne.symm hq]
  have hba : base ≤ a := (hV.1.2.2 a (by omega)).1
  have hS := hV.2.2.2.2.1
  obtain ⟨t, a1, b1⟩ := kk _ _ (hV.sta (k := 52) (by omega) (by omega) hk ⟨by simp; exact hS.1, fun q g1 g2 => by
      rw [oq q (fun e => g2 (by rw [e]; exact hba))]
      exact hS.2.1 q g1 g2, fun q hq => by
      rcases List.mem_append.mp hq with h | h
      · exact hS.2.2 q h
      · obtain ⟨z, -, hz⟩ := List.mem_map.mp h
        rw [← hz]
        exact hba⟩ (by simp) oq (show (H.setIfInBounds a _)[a]? = some _ by simp [Array.getElem?_setIfInBounds, hl2]) (fun _ j => by
      unfold va_cpy
      split
      · exact hV.2.2.1.1 a0 hk0 _
      · exact hV.2.2.1.1 a hk _)) _ hheap X'
  exact ⟨t, step t a1, b1⟩
end QR3
