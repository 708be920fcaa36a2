/-! the JDK's members: add -/
section QJK
variable {l : Launch} {base : Nat} {D : va_G} {Cy : Nat → ClassId} {S : Nat → Nat} {Hb : Heap} {h : PH} {a : Nat}
variable {p : Program} {e : Env} {R : Room} {s : State} {mid : MethodId} {args : Array Value} {below : List Frame} {meth : Method} {c : Code} {H : Heap} {locs : List Loc} {cells slots : Nat} {Q : State → Prop} {lsA : Array Slot}
theorem j_add_tail {b n i v : Nat} (X : q_Jc p R s mid args c base D Cy S J_add.1.cls J_add.2.1 J_add.2.2.1 6) (hV : q_V base D Cy S Hb s h H locs) (hk : hK h a = 12) (h5 : hK h b = 55) (hv : hK h v = 2) (hi : i ≤ n) (hn : n < hL h b) (hn5 : n ≤ 500000) (hl : lv_has lsA 5 [(4, .ref b), (3, .int (nI n)), (0, .ref a), (1, .int (nI i)), (2, .ref v)])
    (K : ∀ (lsB : Array Slot) (H1 : Heap) (locs1 : List Loc), q_V base D Cy S Hb s (pI (pB h b (q_ins (hB h b) n i v)) 2 a (nI (n + 1))) H1 locs1 → W p l e R s mid args below meth c H1 locs1 cells slots Q (F0 mid 64 lsB [])) : W p l e R s mid args below meth c H locs cells slots Q (F0 mid 38 lsA []) := by
  have X0 := X
  obtain ⟨hx, hb, hml, hown, hts, hKq, hbs, hfr, hlo⟩ := X
  have ei : (nI i).toNatClampNeg = i := nI_clamp (by omega)
  have ei1 : (nI (i + 1)).toNatClampNeg = i + 1 := nI_clamp (by omega)
  have en : (nI (n - i)).toNatClampNeg = n - i := nI_clamp (by omega)
  refine lv_aload hx hb d_add_38 (lv_at hl 0 rfl) ?_
  refine lv_iload_n hx hb d_add_40 rfl (lv_at hl 3 rfl) ?_
  refine lv_aload hx hb d_add_41 (lv_at hl 0 rfl) ?_
  refine lv_iload_n hx hb d_add_43 rfl (lv_at hl 3 rfl) ?_
  refine lv_iconst hx hb d_add_44 (v := 1) rfl ?_
  refine lv_iadd hx hb d_add_45 ?_
  rw [nI_1]
  refine lv_iload_n hx hb d_add_46 rfl (lv_at hl 1 rfl) ?_
  refine lv_iload_n hx hb d_add_47 rfl (lv_at hl 3 rfl) ?_
  refine lv_isub hx hb d_add_48 ?_
  rw [pk_sub hi]
  refine q_jcopyQ X0 hV hl.1 jl_Jx4a65c_112 (by omega) h5 h5 (nI_pos (by omega)) (nI_pos (by omega)) (nI_pos (by omega)) (by rw [ei, en]; omega) (by rw [ei1, en]; omega) (by decide) d_add_49 (fun H1 locs1 hV1 => ?_)
  rw [ei, ei1, en] at hV1
  refine lv_aload hx hb d_add_52 (lv_at hl 0 rfl) ?_
  refine lv_iload_n hx hb d_add_54 rfl (lv_at hl 3 rfl) ?_
  refine lv_aload_n hx hb d_add_55 rfl (lv_at hl 4 rfl) ?_
  refine q_jaas X0 hV1 h5 hv (q_jin (show i < hL h b by omega) (by omega)) d_add_56 (fun H2 locs2 hV2 => ?_)
  rw [ei, show hB (pB h b (va_cpy (hB h b) (hB h b) i (i + 1) (n - i))) b = va_cpy (hB h b) (hB h b) i (i + 1) (n - i) from va_up_self _ _ _, pB_pB] at hV2
  refine lv_aload_n hx hb d_add_57 rfl (lv_at hl 2 rfl) ?_
  refine lv_iload_n hx hb d_add_58 rfl (lv_at hl 1 rfl) ?_
  refine lv_iconst hx hb d_add_59 (v := 1) rfl ?_
  refine lv_iadd hx hb d_add_60 ?_
  rw [nI_1]
  refine q_jputI (k := 2) X0 hV2 hk (Or.inr rfl) jf_Jx4a65c_48 (fun x z => z) d_add_61 (fun H3 locs3 hV3 => ?_)
  exact K _ _ _ hV3
theorem j_add_pre {b n v : Nat} {i : Int32} (X : q_Jc p R s mid args c base D Cy S J_add.1.cls J_add.2.1 J_add.2.2.1 6) (hV : q_V base D Cy S Hb s h s.heap []) (hk : hK h a = 12) (hr : hR h 1 a = some b) (hI2 : hI h 2 a = nI n) (h0 : ¬ i < 0) (h1 : ¬ hI h 2 a < i) (hl : lv_has lsA 5 [(0, .ref a), (1, .int i), (2, .ref v)]) (hsz : s.heap.size = hN h) (rc : hN h ≤ s.heap.size + R.cells)
    (K : ∀ (lsB : Array Slot) (H1 : Heap) (locs1 : List Loc), lv_has lsB 5 [(4, .ref b), (3, .int (nI n)), (0, .ref a), (1, .int i), (2, .ref v)] → q_V base D Cy S Hb s (pI h 0 a (hI h 0 a + 1)) H1 locs1 → W p l e R s mid args below meth c H1 locs1 0 0 Q (F0 mid 28 lsB [.ref b, .int (nI n)])) : W p l e R s mid args below meth c s.heap [] 0 0 Q (F0 mid 0 lsA []) := by
  have X0 := X
  obtain ⟨hx, hb, hml, hown, hts, hKq, hbs, hfr, hlo⟩ := X
  refine lv_aload_n hx hb d_add_0 rfl (lv_at hl 0 rfl) ?_
  refine lv_iload_n hx hb d_add_1 rfl (lv_at hl 1 rfl) ?_
  refine q_jcV (C := RJx4a65c) (as := [.int i]) (rest := []) X0 hV (j_rng hk h0 h1) (q_E.rf h) jo_rng jl_Jx4a65c_135 ji_rng jv_rng (va_recv hKq.1 (q_P1 (hV.1.obj (show 12 < 50 by omega) hk)) (q_klsat 12 (by omega)) (q0 := 0) rfl) hl.1 d_add_2 (by omega) rfl rfl (by decide) (u0 := hU h) (by omega) (by omega) rc (by dsimp only; omega) (fun H1 locs1 c1 s1 hV1 hc1 hu1 => ?_)
  have z1 : c1 = 0 := by dsimp only at hc1; omega
  have z2 : s1 = 0 := by dsimp only at hu1; omega
  subst z1 z2
  refine lv_aload_n hx hb d_add_5 rfl (lv_at hl 0 rfl) ?_
  refine lv_dup hx hb d_add_6 rfl ?_
  refine q_jget (k := 0) X0 hV1.1 hk (by omega) jf_Jx4a65c_63 (q_jsame X0) d_add_7 ?_
  refine lv_iconst hx hb d_add_10 (v := 1) rfl ?_
  refine lv_iadd hx hb d_add_11 ?_
  refine q_jputI (k := 0) X0 hV1 hk (Or.inl rfl) jf_Jx4a65c_63 (q_jsame X0) d_add_12 (fun H2 locs2 hV2 => ?_)
  refine lv_aload_n hx hb d_add_15 rfl (lv_at hl 0 rfl) ?_
  refine q_jget (k := 2) X0 hV2.1 hk (by omega) jf_Jx4a65c_48 (fun x z => z) d_add_16 ?_
  rw [q_jg2, show hI (pI h 0 a (hI h 0 a + 1)) 2 a = nI n from hI2]
  refine lv_dup hx hb d_add_19 rfl ?_
  refine lv_istore_n (i := 3) (nL := 5) (lv' := [(3, .int (nI n)), (0, .ref a), (1, .int i), (2, .ref v)]) hx hb d_add_20 rfl hl (by omega) rfl (fun ls1 hl1 => ?_)
  refine lv_aload_n hx hb d_add_21 rfl (lv_at hl1 1 rfl) ?_
  refine q_jget (k := 1) X0 hV2.1 hk (by omega) jf_Jx4a65c_9 (fun x z => z) d_add_22 ?_
  rw [q_jg1, show hR (pI h 0 a (hI h 0 a + 1)) 1 a = some b from hr]
  refine lv_dup hx hb d_add_25 rfl ?_
  refine lv_astore (i := 4) (nL := 5) (lv' := [(4, .ref b), (3, .int (nI n)), (0, .ref a), (1, .int i), (2, .ref v)]) hx hb d_add_26 hl1 (by omega) rfl (fun ls2 hl2 => ?_)
  exact K _ _ _ hl2 hV2
end QJK
theorem q_add_eq2 (h : PH) (a b m : Nat) (x y : Int32) (g : Nat → Option Nat) : pI (pB (pR (q_cpQ (pI h 0 a x) b m) 1 a (some (hN h))) (hN h) g) 2 a y = pR (pI (pI (pB (nA h 55 m) (hN h) g) 0 a x) 2 a y) 1 a (some (hN h)) := by
  have e : va_up (va_up (va_up (hB h) (hN h) (fun _ => none)) (hN h) (va_cpy (hB h b) (fun _ => none) 0 0 (hL h b))) (hN h) g = va_up (va_up (hB h) (hN h) (fun _ => none)) (hN h) g := by
    funext q
    by_cases hq : q = hN h <;> simp [va_up, hq]
  show (hN h + 1, hU h + m, va_up (hK h) (hN h) 55, va_up (hL h) (hN h) m, q_u (q_u (hI h) 0 a x) 2 a y, q_u (hR h) 1 a (some (hN h)), hJ h, va_up (hA h) (hN h) (fun _ => 0), va_up (va_up (va_up (hB h) (hN h) (fun _ => none)) (hN h) (va_cpy (hB h b) (fun _ => none) 0 0 (hL h b))) (hN h) g, hS h) = _
  rw [e]
  rfl
section QJL
variable {l : Launch} {base : Nat} {D : va_G} {Cy : Nat → ClassId} {S : Nat → Nat} {Hb : Heap} {h : PH} {a : Nat}
set_option maxHeartbeats 2000000 in
theorem j_add {i : Int32} {v : Nat} {h' : PH} (hk : hK h a = 12) (hv : hK h v = 2) (he : q_add h a i.toNatClampNeg v (i < 0 ∨ hI h 2 a < i) = some h') : q_JM l base D Cy S Hb J_add 6 h [.ref a, .int i, .ref v] (none, h') := by
  refine q_jmk jo_add (show 3 ≤ 5 by omega) (q_E.add he) ?_
  intro p e R s mid args below meth c Q lsA X hV hl r1 r2 hsz kk
  dsimp only at r1 r2 kk
  have hE := q_E.add he
  have hE1 := hE.1
  have hE2 := hE.2.1
  unfold q_add at he
  cases hr : hR h 1 a with
  | none => rw [hr] at he; cases he
  | some b =>
    rw [hr] at he
    dsimp only at he
    split at he
    · cases he
    · rename_i hbad
      have b1 : ¬ i < 0 := fun z => hbad (Or.inl (Or.inl z))
      have b2 : ¬ hI h 2 a < i := fun z => hbad (Or.inl (Or.inr z))
      have b3 : ¬ (hI h 2 a < 0) ∧ (hI h 2 a).toNatClampNeg ≤ 500000 := by
        have : ¬ q_mb (hI h 2 a) = true := fun z => hbad (Or.inr z)
        simp [q_mb] at this
        exact ⟨fun z => absurd z (Int32.not_lt.mpr this.1), this.2⟩
      obtain ⟨n, hn, en⟩ := nI_of b3.1
      have n5 := b3.2
      rw [en, nI_clamp hn] at n5
      obtain ⟨j, hj, ej⟩ := nI_of b1
      have hjn : j ≤ n := by
        rw [en, ej] at b2
        exact Nat.not_lt.mp fun z => b2 (nI_lt z hj)
      have hX := X
      obtain ⟨hx, hb, hml, hown, hts, hKq, hbs, hfr, hlo⟩ := X
      have ha0 := (hV.1.2.2 a (by omega)).2.1
      have hv0 := (hV.1.2.2 v (by omega)).2.1
      refine j_add_pre hX hV hk hr en b1 b2 hl hsz (by omega) (fun lsB H1 locs1 hl1 hV1 => ?_)
      rw [ej] at hl1
      rw [ej, en, nI_clamp hn, nI_clamp hj] at he
      split at he
      · rename_i hc
        obtain ⟨c1, c2⟩ := hc
        have he := Option.some.inj he
        subst he
        refine q_jalen hX hV1 (Or.inr c1) d_add_28 ?_
        refine lv_icmp_ne hx hb d_add_29 (tgt := 38) rfl (fun _ => ?_) (fun z => ?_)
        · refine j_add_tail hX hV1 hk c1 hv hjn c2 n5 hl1 (fun lsC H2 locs2 hV2 => ?_)
          rw [nI_1] at kk
          exact kk 64 _ _ _ _ _ _ d_add_64 (Or.inr (Or.inr ⟨rfl, rfl, rfl⟩)) hV2 (by show 0 + _ = hN h; omega) (by show 0 + _ = hU h; omega)
        · exact absurd ((nI_eq hn (by have := hV.2.2.1.2.2 b c1; omega)).mp (show nI n = nI (hL h b) from z)) (by omega)
      · split at he
        · rename_i hc
          obtain ⟨c1, c2, c3⟩ := hc
          have he := Option.some.inj he
          rw [← c2] at he
          subst he
          have hb0 := (hV.1.2.2 b (by omega)).2.1
          have r1' : hN h + 1 ≤ s.heap.size + R.cells := r1
          have r2' : hU h + (n + n / 2) ≤ hU h + R.slots := r2
          refine q_jalen hX hV1 (Or.inr c1) d_add_28 ?_
          refine lv_icmp_ne hx hb d_add_29 (tgt := 38) rfl (fun z => absurd (show nI n = nI (hL h b) by rw [← c2]) z) (fun _ => ?_)
          refine lv_aload_n hx hb d_add_32 rfl (lv_at hl1 2 rfl) ?_
          have hE2' : q_E (pI h 0 a (hI h 0 a + 1)) (pR (q_cpQ (pI h 0 a (hI h 0 a + 1)) b (n + n / 2)) 1 a (some (hN h))) := (q_cpQ_E _ b _).tr (q_E.R _ _ _ _)
          have hG : q_JM l base D Cy S Hb J_gr0 5 (pI h 0 a (hI h 0 a + 1)) [.ref a] (some (va_rf (some (hN h))), pR (q_cpQ (pI h 0 a (hI h 0 a + 1)) b (n + n / 2)) 1 a (some (hN h))) := j_gr0 (x := nI (n + 1)) hk (by show hI h 2 a + 1 = _; rw [en, nI_1]) (j_gr1 (n := n) hk hr c1 c2.symm (by omega) n5 hb0 ha0) hE2'
          refine q_jcV (C := RJx4a65c) (as := []) (rest := []) hX hV1 hG hE2' jo_gr0 jl_Jx4a65c_129 ji_gr0 jv_gr0 (va_recv hKq.1 (q_P1 (hV1.1.obj (show 12 < 50 by omega) hk)) (q_klsat 12 (by omega)) (q0 := 0) rfl) hl1.1 d_add_33 (by omega) rfl rfl (by decide) (u0 := hU h) (by show 0 + _ = hN h; omega) (by show 0 + _ = hU h; omega) r1' r2' (fun H2 locs2 k2 s2 hV2 hc2 hu2 => ?_)
          have k1 : hK (pR (q_cpQ (pI h 0 a (hI h 0 a + 1)) b (n + n / 2)) 1 a (some (hN h))) a = 12 := by rw [show hK (pR (q_cpQ (pI h 0 a (hI h 0 a + 1)) b (n + n / 2)) 1 a (some (hN h))) a = hK h a from va_up_ne _ _ (show a ≠ hN h by omega)]; exact hk
          have kv : hK (pR (q_cpQ (pI h 0 a (hI h 0 a + 1)) b (n + n / 2)) 1 a (some (hN h))) v = 2 := by rw [show hK (pR (q_cpQ (pI h 0 a (hI h 0 a + 1)) b (n + n / 2)) 1 a (some (hN h))) v = hK h v from va_up_ne _ _ (show v ≠ hN h by omega)]; exact hv
          have k5 : hK (pR (q_cpQ (pI h 0 a (hI h 0 a + 1)) b (n + n / 2)) 1 a (some (hN h))) (hN h) = 55 := va_up_self _ _ _
          have kl : hL (pR (q_cpQ (pI h 0 a (hI h 0 a + 1)) b (n + n / 2)) 1 a (some (hN h))) (hN h) = n + n / 2 := va_up_self _ _ _
          have kb : hB (pR (q_cpQ (pI h 0 a (hI h 0 a + 1)) b (n + n / 2)) 1 a (some (hN h))) (hN h) = va_cpy (hB h b) (fun _ => none) 0 0 (hL h b) := va_up_self _ _ _
          refine lv_astore (i := 4) (nL := 5) (lv' := [(4, .ref (hN h)), (3, .int (nI n)), (0, .ref a), (1, .int (nI j)), (2, .ref v)]) hx hb d_add_36 hl1 (by omega) rfl (fun ls2 hl2 => ?_)
          refine j_add_tail hX hV2 k1 k5 kv hjn (by rw [kl]; omega) n5 hl2 (fun lsC H3 locs3 hV3 => ?_)
          rw [kb, ← c2, q_add_eq2] at hV3
          rw [nI_1] at kk
          exact kk 64 _ _ _ _ _ _ d_add_64 (Or.inr (Or.inr ⟨rfl, rfl, rfl⟩)) hV3 hc2 hu2
        · split at he
          · rename_i hc
            obtain ⟨c1, c2⟩ := hc
            have he := Option.some.inj he
            have n0 : n = 0 := (nI_eq hn (by decide)).mp (show nI n = nI 0 from c2)
            subst n0
            have j0 : j = 0 := by omega
            subst j0
            subst he
            subst c1
            have r1' : hN h + 1 ≤ s.heap.size + R.cells := r1
            have r2' : hU h + 10 ≤ hU h + R.slots := r2
            have hT := (hV.2.1.2.1.2.2.2.1).kept (H1 := s.heap) (fun q _ z => hV.2.2.2.2.2 q (by omega))
            refine va_tlen hx hb hT hV1.2.2.2.2.1 (v := nI 0) rfl d_add_28 ?_
            refine lv_icmp_ne hx hb d_add_29 (tgt := 38) rfl (fun z => absurd rfl z) (fun _ => ?_)
            refine lv_aload_n hx hb d_add_32 rfl (lv_at hl1 2 rfl) ?_
            have hE2' : q_E (pI h 0 a (hI h 0 a + 1)) (pR (nA (pI h 0 a (hI h 0 a + 1)) 55 10) 1 a (some (hN h))) := (q_E.N _ (by decide)).tr (q_E.R _ _ _ _)
            have hG : q_JM l base D Cy S Hb J_gr0 5 (pI h 0 a (hI h 0 a + 1)) [.ref a] (some (va_rf (some (hN h))), pR (nA (pI h 0 a (hI h 0 a + 1)) 55 10) 1 a (some (hN h))) := j_gr0 (x := nI 1) hk (by show hI h 2 a + 1 = _; rw [en, nI_1]) (j_gr1f hk hr ha0) hE2'
            refine q_jcV (C := RJx4a65c) (as := []) (rest := []) hX hV1 hG hE2' jo_gr0 jl_Jx4a65c_129 ji_gr0 jv_gr0 (va_recv hKq.1 (q_P1 (hV1.1.obj (show 12 < 50 by omega) hk)) (q_klsat 12 (by omega)) (q0 := 0) rfl) hl1.1 d_add_33 (by omega) rfl rfl (by decide) (u0 := hU h) (by show 0 + _ = hN h; omega) (by show 0 + _ = hU h; omega) r1' r2' (fun H2 locs2 k2 s2 hV2 hc2 hu2 => ?_)
            have k1 : hK (pR (nA (pI h 0 a (hI h 0 a + 1)) 55 10) 1 a (some (hN h))) a = 12 := by rw [show hK (pR (nA (pI h 0 a (hI h 0 a + 1)) 55 10) 1 a (some (hN h))) a = hK h a from va_up_ne _ _ (show a ≠ hN h by omega)]; exact hk
            have kv : hK (pR (nA (pI h 0 a (hI h 0 a + 1)) 55 10) 1 a (some (hN h))) v = 2 := by rw [show hK (pR (nA (pI h 0 a (hI h 0 a + 1)) 55 10) 1 a (some (hN h))) v = hK h v from va_up_ne _ _ (show v ≠ hN h by omega)]; exact hv
            have k5 : hK (pR (nA (pI h 0 a (hI h 0 a + 1)) 55 10) 1 a (some (hN h))) (hN h) = 55 := va_up_self _ _ _
            have kl : hL (pR (nA (pI h 0 a (hI h 0 a + 1)) 55 10) 1 a (some (hN h))) (hN h) = 10 := va_up_self _ _ _
            have kb : hB (pR (nA (pI h 0 a (hI h 0 a + 1)) 55 10) 1 a (some (hN h))) (hN h) = (fun _ => none) := va_up_self _ _ _
            refine lv_astore (i := 4) (nL := 5) (lv' := [(4, .ref (hN h)), (3, .int (nI 0)), (0, .ref a), (1, .int (nI 0)), (2, .ref v)]) hx hb d_add_36 hl1 (by omega) rfl (fun ls2 hl2 => ?_)
            refine j_add_tail hX hV2 k1 k5 kv hjn (by rw [kl]; omega) n5 hl2 (fun lsC H3 locs3 hV3 => ?_)
            rw [kb] at hV3
            rw [nI_1] at kk
            exact kk 64 _ _ _ _ _ _ d_add_64 (Or.inr (Or.inr ⟨rfl, rfl, rfl⟩)) hV3 hc2 hu2
          · cases he
end QJL
