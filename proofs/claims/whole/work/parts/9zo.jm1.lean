/-! the JDK's members: texts, small ones -/
section QJE
variable {l : Launch} {base : Nat} {D : va_G} {Cy : Nat → ClassId} {S : Nat → Nat} {Hb : Heap}
theorem q_jmkE {E : State → Prop} {J : Jm} {d : Nat} {h : PH} {as : List Value} {r : Option Value × PH} (hy : q_jok J) (hfit : (lg_sl as).length ≤ J.2.2.1) (hE : q_E h r.2)
    (body : ∀ (p : Program) (e : Env) (R : Room) (s : State) (mid : MethodId) (args : Array Value) (below : List Frame) (meth : Method) (c : Code) (Q : State → Prop) (lsA : Array Slot),
      q_Jc p R s mid args c base D Cy S J.1.cls J.2.1 J.2.2.1 d → E s → q_V base D Cy S Hb s h s.heap [] → lv_has lsA J.2.2.1 (lv_args 0 as) → hN r.2 ≤ s.heap.size + R.cells → hU r.2 ≤ hU h + R.slots → s.heap.size = hN h →
      (∀ (pc' : Nat) (lsB : Array Slot) (H1 : Heap) (locs1 : List Loc) (cells1 slots1 : Nat) (i : Instr), decode J.2.1 pc' = .ok (i, 1) → q_jr J.2.2.2.1 i r.1 → q_V base D Cy S Hb s r.2 H1 locs1 → cells1 + s.heap.size = hN r.2 → slots1 + hU h = hU r.2 → W p l e R s mid args below meth c H1 locs1 cells1 slots1 Q (F0 mid pc' lsB r.1.toList)) →
      W p l e R s mid args below meth c s.heap [] 0 0 Q (F0 mid 0 lsA [])) :
    Met l J.1 (q_jws J) { frames := d, cells := hN r.2 - hN h, slots := hU r.2 - hU h, locals := 60 * d } (fun a U => q_Pc base D Cy S Hb h as a U ∧ E U) (q_Qc base D Cy S r) (hN r.2 - hN h) (hU r.2 - hU h) (fun q => base ≤ q) := by
  refine Met.ofW (cc := J.2.1) (maxL := J.2.2.1) (ret := J.2.2.2.1) hy.1 rfl ?_
  intro p e s mid args below meth c s₁ B hml hv
  obtain ⟨⟨rfl, hW, hX, hBy, hSS, hKq, hold, hbs⟩, hEs⟩ := hv
  have hx := B.exec
  have hb := B.bytes
  have hr := B.returns
  have hts := atoms_spec (ws := q_jws J) B.pre
  have hown : s.vm.findClass J.1.cls = some mid.cls := findClass_of_methodNamed B.named
  have hlocks := B.notSynchronized
  have hsz : s.heap.size = hN h := hW.1
  have e1 := hE.1
  have e2 := hE.2.1
  rw [lg_entry_eq]
  refine body p e _ s mid as.toArray below meth c _ _ ⟨hx, hb, hml, hown, fun w hw => hts w (List.mem_cons_of_mem _ hw), hKq, hbs, Nat.le_refl _, Nat.le_refl _⟩ hEs ⟨hW, hX, hBy, hSS, va_S.rf, hold⟩ (lv_entry as hfit) ?_ ?_ hsz ?_
  · show hN r.2 ≤ s.heap.size + (hN r.2 - hN h)
    omega
  · show hU r.2 ≤ hU h + (hU r.2 - hU h)
    omega
  · intro pc' lsB H1 locs1 cells1 slots1 i hd hro hV hc hu
    have hq : ∀ t : State, t.heap = H1 → s.WarmedH t.vm → q_Qc base D Cy S r as.toArray s (.returned r.1) t := fun t ht _ => ⟨⟨rfl, by rw [ht]; exact hV.1, hV.2.2.1, hV.2.2.2.1⟩, hV.2.2.2.2.1.F ht⟩
    have hc1 : cells1 = hN r.2 - hN h := by omega
    have hu1 : slots1 = hU r.2 - hU h := by omega
    subst hc1 hu1
    have hloc : ∀ q ∈ locs1, base ≤ q.base := hV.2.2.2.2.1.2.2
    obtain ⟨rv, rh⟩ := r
    dsimp only at hro hq ⊢
    rcases hro with ⟨rt, x, rfl, h2, rfl, h4⟩ | ⟨rt, x, rfl, h2, h3, rfl⟩ | ⟨rfl, h2, rfl⟩
    · exact W.zret hx hb (hr.trans h2) h4 hq hloc hd
    · cases x with
      | none => exact W.aret hx hb (hr.trans h2) h3 (Or.inl rfl) hq hloc hd
      | some x => exact W.aret hx hb (hr.trans h2) h3 (Or.inr ⟨x, rfl⟩) hq hloc hd
    · exact W.vret hx hb (hr.trans h2) hq hloc hd
variable {h : PH} {a : Nat}
theorem j_pck {i n : Int32} {x : Option Nat} (h0 : ¬ i < 0) (h1 : i < n) : q_JM l base D Cy S Hb J_pck 0 h [.int i, .int n, va_rf x] (some (.int i), h) := by
  refine q_jmk jo_pck (by cases x <;> exact Nat.le_refl 3) (q_E.rf h) ?_
  intro p e R s mid args below meth c Q lsA X hV hl r1 r2 hsz kk
  dsimp only at r1 r2 kk
  obtain ⟨hx, hb, hml, hown, hts, hKq, hbs, hfr, hlo⟩ := X
  refine lv_iload_n hx hb d_pck_0 rfl (lv_at hl 0 rfl) ?_
  refine lv_if_lt hx hb d_pck_1 (tgt := 9) rfl (fun z => absurd z h0) (fun _ => ?_)
  refine lv_iload_n hx hb d_pck_4 rfl (lv_at hl 0 rfl) ?_
  refine lv_iload_n hx hb d_pck_5 rfl (lv_at hl 1 rfl) ?_
  refine lv_icmp_lt hx hb d_pck_6 (tgt := 16) rfl (fun _ => ?_) (fun z => absurd h1 z)
  refine lv_iload_n hx hb d_pck_16 rfl (lv_at hl 0 rfl) ?_
  exact kk 17 _ _ _ _ _ _ d_pck_17 (Or.inl ⟨_, _, rfl, rfl, rfl, rfl⟩) hV (by omega) (by omega)
theorem j_ock {i n : Int32} (h0 : ¬ i < 0) (h1 : i < n) : q_JM l base D Cy S Hb J_ock 1 h [.int i, .int n] (some (.int i), h) := by
  refine q_jmk jo_ock (Nat.le_refl 2) (q_E.rf h) ?_
  intro p e R s mid args below meth c Q lsA X hV hl r1 r2 hsz kk
  dsimp only at r1 r2 kk
  have X0 := X
  obtain ⟨hx, hb, hml, hown, hts, hKq, hbs, hfr, hlo⟩ := X
  refine lv_iload_n hx hb d_ock_0 rfl (lv_at hl 0 rfl) ?_
  refine lv_iload_n hx hb d_ock_1 rfl (lv_at hl 1 rfl) ?_
  refine lv_null hx hb d_ock_2 ?_
  refine q_jcS X0 hV (j_pck (x := none) h0 h1) (q_E.rf h) jo_pck jl_J15_105 js_pck hl.1 d_ock_3 (by omega) rfl rfl (by decide) (u0 := hU h) (by omega) (by omega) r1 r2 (fun H1 locs1 c1 s1 hV1 hc1 hu1 => ?_)
  exact kk 6 _ _ _ _ _ _ d_ock_6 (Or.inl ⟨_, _, rfl, rfl, rfl, rfl⟩) hV1 hc1 hu1
theorem j_sck {i n : Int32} (h0 : ¬ i < 0) (h1 : i < n) : q_JM l base D Cy S Hb J_sck 1 h [.int i, .int n] (none, h) := by
  refine q_jmk jo_sck (Nat.le_refl 2) (q_E.rf h) ?_
  intro p e R s mid args below meth c Q lsA X hV hl r1 r2 hsz kk
  dsimp only at r1 r2 kk
  have X0 := X
  obtain ⟨hx, hb, hml, hown, hts, hKq, hbs, hfr, hlo⟩ := X
  obtain ⟨x, hZ⟩ := hV.2.1.2.1.2.2.2.2.1
  have hZ2 := hZ.kept (H1 := s.heap) (fun q _ z => hV.2.2.2.2.2 q (by omega))
  refine lv_iload_n hx hb d_sck_0 rfl (lv_at hl 0 rfl) ?_
  refine lv_iload_n hx hb d_sck_1 rfl (lv_at hl 1 rfl) ?_
  refine va_gets hx hb hZ2 hV.2.2.2.2.1 hown (hts _ jf_J0_1053) (fun x z => z) d_sck_2 ?_
  refine q_jcS X0 hV (j_pck (x := x) h0 h1) (q_E.rf h) jo_pck jl_J0_1059 js_pck hl.1 d_sck_5 (by omega) rfl rfl (by decide) (u0 := hU h) (by omega) (by omega) r1 r2 (fun H1 locs1 c1 s1 hV1 hc1 hu1 => ?_)
  refine lv_pop hx hb d_sck_8 rfl ?_
  exact kk 9 _ _ _ _ _ _ d_sck_9 (Or.inr (Or.inr ⟨rfl, rfl, rfl⟩)) hV1 hc1 hu1
/-- what a text is -/
theorem q_jtx {s : State} {H : Heap} {locs : List Loc} (hV : q_V base D Cy S Hb s h H locs) (h1 : 70 ≤ hK h a) (h2 : hK h a < 74) : va_Z "java/lang/String" "COMPACT_STRINGS" "Z" (.int 1) (fun q => base ≤ q) s s.heap ∧ ∃ v, va_O "java/lang/String" a (fun q => base ≤ q) s s.heap ∧ va_OF "java/lang/String" "coder" "B" (.int 0) a (fun q => base ≤ q) s s.heap ∧ va_OF "java/lang/String" "value" "[B" (.ref v) a (fun q => base ≤ q) s s.heap ∧ va_T .byte v (q_sl.getD (hK h a - 70) 0) (fun j => .int ((q_sb.getD (hK h a - 70) []).getD j 0)) (fun q => base ≤ q) s Hb := by
  have hq : ∀ q : Nat, q < Hb.size → ¬ base ≤ q → s.heap[q]? = Hb[q]? := fun q _ z => hV.2.2.2.2.2 q (by omega)
  obtain ⟨⟨adV, g1⟩, g2, -⟩ := hV.2.1.2.1
  obtain ⟨k1, k2, k3, k4⟩ := g1 (hK h a - 70) (by omega)
  have ea := hV.2.1.2.2 a h1 h2
  rw [← ea] at k1 k2 k3
  exact ⟨g2.kept hq, adV _, k1.kept hq, k2.kept hq, k3.kept hq, k4⟩
theorem j_cod (h1 : 70 ≤ hK h a) (h2 : hK h a < 74) : q_JM l base D Cy S Hb J_cod 0 h [.ref a] (some (.int 0), h) := by
  refine q_jmk jo_cod (Nat.le_refl 1) (q_E.rf h) ?_
  intro p e R s mid args below meth c Q lsA X hV hl r1 r2 hsz kk
  dsimp only at r1 r2 kk
  obtain ⟨hx, hb, hml, hown, hts, hKq, hbs, hfr, hlo⟩ := X
  obtain ⟨hZ, v, t1, t2, t3, t4⟩ := q_jtx hV h1 h2
  refine va_gets hx hb hZ hV.2.2.2.2.1 hown (hts _ jf_J0_38) (fun x z => z) d_cod_0 ?_
  refine lv_if_eq hx hb d_cod_3 (tgt := 13) rfl (fun z => absurd z (by decide)) (fun _ => ?_)
  refine lv_aload_n hx hb d_cod_6 rfl (lv_at hl 0 rfl) ?_
  refine vk_getf hx hb t2 hV.2.2.2.2.1 hown (hts _ jf_J0_15) (fun x z => z) d_cod_7 ?_
  refine lv_goto hx hb d_cod_10 (tgt := 14) rfl ?_
  exact kk 14 _ _ _ _ _ _ d_cod_14 (Or.inl ⟨_, _, rfl, rfl, rfl, rfl⟩) hV (by omega) (by omega)
theorem j_lat (h1 : 70 ≤ hK h a) (h2 : hK h a < 74) : q_JM l base D Cy S Hb J_lat 0 h [.ref a] (some (.int 1), h) := by
  refine q_jmk jo_lat (Nat.le_refl 1) (q_E.rf h) ?_
  intro p e R s mid args below meth c Q lsA X hV hl r1 r2 hsz kk
  dsimp only at r1 r2 kk
  obtain ⟨hx, hb, hml, hown, hts, hKq, hbs, hfr, hlo⟩ := X
  obtain ⟨hZ, v, t1, t2, t3, t4⟩ := q_jtx hV h1 h2
  refine va_gets hx hb hZ hV.2.2.2.2.1 hown (hts _ jf_J0_38) (fun x z => z) d_lat_0 ?_
  refine lv_if_eq hx hb d_lat_3 (tgt := 17) rfl (fun z => absurd z (by decide)) (fun _ => ?_)
  refine lv_aload_n hx hb d_lat_6 rfl (lv_at hl 0 rfl) ?_
  refine vk_getf hx hb t2 hV.2.2.2.2.1 hown (hts _ jf_J0_15) (fun x z => z) d_lat_7 ?_
  refine lv_if_ne hx hb d_lat_10 (tgt := 17) rfl (fun z => absurd rfl z) (fun _ => ?_)
  refine lv_iconst hx hb d_lat_13 rfl ?_
  refine lv_goto hx hb d_lat_14 (tgt := 18) rfl ?_
  exact kk 18 _ _ _ _ _ _ d_lat_18 (Or.inl ⟨_, _, rfl, rfl, rfl, rfl⟩) hV (by omega) (by omega)
theorem j_len (h1 : 70 ≤ hK h a) (h2 : hK h a < 74) : q_JM l base D Cy S Hb J_len 1 h [.ref a] (some (.int (nI (q_sl.getD (hK h a - 70) 0))), h) := by
  refine q_jmk jo_len (Nat.le_refl 1) (q_E.rf h) ?_
  intro p e R s mid args below meth c Q lsA X hV hl r1 r2 hsz kk
  dsimp only at r1 r2 kk
  have X0 := X
  obtain ⟨hx, hb, hml, hown, hts, hKq, hbs, hfr, hlo⟩ := X
  obtain ⟨hZ, v, t1, t2, t3, t4⟩ := q_jtx hV h1 h2
  have t5 := t4.kept (H1 := s.heap) (fun q _ z => hV.2.2.2.2.2 q (by omega))
  refine lv_aload_n hx hb d_len_0 rfl (lv_at hl 0 rfl) ?_
  refine vk_getf hx hb t3 hV.2.2.2.2.1 hown (hts _ jf_J0_9) (fun x z => z) d_len_1 ?_
  refine va_tlen hx hb t5 hV.2.2.2.2.1 (v := nI (q_sl.getD (hK h a - 70) 0)) rfl d_len_4 ?_
  refine lv_aload_n hx hb d_len_5 rfl (lv_at hl 0 rfl) ?_
  refine q_jcV (C := RJ0) (as := []) (rest := [.int (nI (q_sl.getD (hK h a - 70) 0))]) X0 hV (j_cod h1 h2) (q_E.rf h) jo_cod jl_J0_335 ji_cod jv_cod (va_Orecv t1 hV.2.2.2.2.1) hl.1 d_len_6 (by omega) rfl rfl (show 1 ≤ 8 by omega) (u0 := hU h) (by omega) (by omega) r1 r2 (fun H1 locs1 c1 s1 hV1 hc1 hu1 => ?_)
  refine lv_ishr hx hb d_len_9 ?_
  rw [sb_shr0]
  exact kk 10 _ _ _ _ _ _ d_len_10 (Or.inl ⟨_, _, rfl, rfl, rfl, rfl⟩) hV1 hc1 hu1
theorem q_jch : ∀ k, k < 4 → ∀ j, j < q_sl.getD k 0 → ((((q_sb.getD k []).getD j 0 &&& 255).toUInt32 % 65536).toInt32 = nI ((q_tx k).getD j 0)) ∧ narrow .char (.int (nI ((q_tx k).getD j 0))) = .int (nI ((q_tx k).getD j 0)) := by decide +kernel
theorem q_jl5 : ∀ k, k < 4 → q_sl.getD k 0 ≤ 5 := by decide +kernel
theorem q_jtl : ∀ k, k < 4 → q_sl.getD k 0 = (q_tx k).length := by decide +kernel
theorem j_lch {v k : Nat} {i : Int32} (hk : k < 4) (hi : q_in i (q_sl.getD k 0)) :
    Met l J_lch.1 (q_jws J_lch) { frames := 2, cells := hN h - hN h, slots := hU h - hU h, locals := 60 * 2 } (fun a U => q_Pc base D Cy S Hb h [.ref v, .int i] a U ∧ va_T .byte v (q_sl.getD k 0) (fun j => .int ((q_sb.getD k []).getD j 0)) (fun q => base ≤ q) U Hb) (q_Qc base D Cy S (some (.int (nI ((q_tx k).getD i.toNatClampNeg 0))), h)) (hN h - hN h) (hU h - hU h) (fun q => base ≤ q) := by
  refine q_jmkE (r := (some (.int (nI ((q_tx k).getD i.toNatClampNeg 0))), h)) jo_lch (Nat.le_refl 2) (q_E.rf h) ?_
  intro p e R s mid args below meth c Q lsA X hT hV hl r1 r2 hsz kk
  dsimp only at r1 r2 kk
  have X0 := X
  obtain ⟨hx, hb, hml, hown, hts, hKq, hbs, hfr, hlo⟩ := X
  have t5 := hT.kept (H1 := s.heap) (fun q _ z => hV.2.2.2.2.2 q (by omega))
  have hlt : i.toNatClampNeg < q_sl.getD k 0 := Nat.not_le.mp fun q => hi (Or.inr q)
  have h0 : ¬ i < 0 := fun q => hi (Or.inl q)
  have hN5 := q_jl5 k hk
  have hin : i < nI (q_sl.getD k 0) := by
    obtain ⟨j, hj, rfl⟩ := nI_of h0
    rw [nI_clamp hj] at hlt
    exact nI_lt hlt (by omega)
  refine lv_iload_n hx hb d_lch_0 rfl (lv_at hl 1 rfl) ?_
  refine lv_aload_n hx hb d_lch_1 rfl (lv_at hl 0 rfl) ?_
  refine va_tlen hx hb t5 hV.2.2.2.2.1 (v := nI (q_sl.getD k 0)) rfl d_lch_2 ?_
  refine q_jcS (rest := []) X0 hV (j_sck h0 hin) (q_E.rf h) jo_sck jl_J1_9 js_sck hl.1 d_lch_3 (by omega) rfl rfl (by decide) (u0 := hU h) (by omega) (by omega) r1 r2 (fun H1 locs1 c1 s1 hV1 hc1 hu1 => ?_)
  refine lv_aload_n hx hb d_lch_6 rfl (lv_at hl 0 rfl) ?_
  refine lv_iload_n hx hb d_lch_7 rfl (lv_at hl 1 rfl) ?_
  refine va_tb hx hb t5 hV1.2.2.2.2.1 hi rfl d_lch_8 ?_
  refine lv_sipush hx hb d_lch_9 (v := 255) (by decide) ?_
  refine lv_iand hx hb d_lch_12 ?_
  refine lv_i2c hx hb d_lch_13 (q_jch k hk _ hlt).1 ?_
  exact kk 14 _ _ _ _ _ _ d_lch_14 (Or.inl ⟨_, _, rfl, rfl, rfl, (q_jch k hk _ hlt).2⟩) hV1 hc1 hu1
theorem j_chA {i : Int32} (h1 : 70 ≤ hK h a) (h2 : hK h a < 74) (hi : q_in i (q_sl.getD (hK h a - 70) 0)) : q_JM l base D Cy S Hb J_chA 3 h [.ref a, .int i] (some (.int (nI ((q_tx (hK h a - 70)).getD i.toNatClampNeg 0))), h) := by
  refine q_jmk jo_chA (Nat.le_refl 2) (q_E.rf h) ?_
  intro p e R s mid args below meth c Q lsA X hV hl r1 r2 hsz kk
  dsimp only at r1 r2 kk
  have X0 := X
  obtain ⟨hx, hb, hml, hown, hts, hKq, hbs, hfr, hlo⟩ := X
  obtain ⟨hZ, v, t1, t2, t3, t4⟩ := q_jtx hV h1 h2
  have hlt : i.toNatClampNeg < q_sl.getD (hK h a - 70) 0 := Nat.not_le.mp fun q => hi (Or.inr q)
  refine lv_aload_n hx hb d_chA_0 rfl (lv_at hl 0 rfl) ?_
  refine q_jcV (C := RJ0) (as := []) (rest := []) X0 hV (j_lat h1 h2) (q_E.rf h) jo_lat jl_J0_492 ji_lat jv_lat (va_Orecv t1 hV.2.2.2.2.1) hl.1 d_chA_1 (by omega) rfl rfl (by decide) (u0 := hU h) (by omega) (by omega) r1 r2 (fun H1 locs1 c1 s1 hV1 hc1 hu1 => ?_)
  refine lv_if_eq hx hb d_chA_4 (tgt := 16) rfl (fun z => absurd z (by decide)) (fun _ => ?_)
  refine lv_aload_n hx hb d_chA_7 rfl (lv_at hl 0 rfl) ?_
  refine vk_getf hx hb t3 hV1.2.2.2.2.1 hown (hts _ jf_J0_9) (fun x z => z) d_chA_8 ?_
  refine lv_iload_n hx hb d_chA_11 rfl (lv_at hl 1 rfl) ?_
  have hpc := q_jpre (as := [.ref v, .int i]) X0 hV1
  have e1 : hN h - hN h = 0 := Nat.sub_self _
  have e2 : hU h - hU h = 0 := Nat.sub_self _
  have hy := jo_lch
  refine q_jgo (r := (some (.int (nI ((q_tx (hK h a - 70)).getD i.toNatClampNeg 0))), h)) (rest := []) (u0 := hU h) hV1 (q_E.rf h) hc1 hu1 (fun H2 locs2 c2 s2 hV2 hc2 hu2 => ?_)
    (va_runS (nL := J_chA.2.2.1) ⟨hx, hb, hml, hown, hts⟩ (j_lch (v := v) (k := hK h a - 70) (by omega) hi) ⟨callB_of J_lch.2.2.2.2 hts (q_jgood hy) rfl rfl rfl (hts _ hy.2.2.1) (hts _ jl_J0_495) hy.2.2.2.1 ⟨by show 2 + 1 ≤ _; omega, by show 8 + (2 + 11) + 60 * 2 ≤ _; omega⟩, hts _ js_lch⟩ ⟨fun a U g mk q => ⟨q_blind _ _ _ _ q.1, q.2.moved (Vm.Alike.refl U.vm)⟩, fun U hU hW => ⟨hpc U hU hW, t4.moved hW.alike⟩⟩ rfl rfl hl.1 rfl (lv_room (by decide)) d_chA_12 ⟨by dsimp only at hc1 ⊢; omega, by dsimp only at hu1 ⊢; omega⟩)
  exact kk 15 _ _ _ _ _ _ d_chA_15 (Or.inl ⟨_, _, rfl, rfl, rfl, (q_jch _ (by omega) _ hlt).2⟩) hV2 hc2 hu2
end QJE
