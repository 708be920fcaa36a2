/-! the JDK's members: grow, add -/
section QJI
variable {l : Launch} {base : Nat} {D : va_G} {Cy : Nat → ClassId} {S : Nat → Nat} {Hb : Heap} {h : PH} {a : Nat}
theorem j_gr1 {b n : Nat} (hk : hK h a = 12) (hr : hR h 1 a = some b) (h5 : hK h b = 55) (hL5 : hL h b = n) (h2 : 2 ≤ n) (hn : n ≤ 500000) (hbn : b < hN h) (han : a < hN h) : q_JM l base D Cy S Hb J_gr1 4 h [.ref a, .int (nI (n + 1))] (some (va_rf (some (hN h))), pR (q_cpQ h b (n + n / 2)) 1 a (some (hN h))) := by
  have hm1 : n + n / 2 ≤ 1000000 := by omega
  have hm2 : hL h b ≤ n + n / 2 := by omega
  refine q_jmk jo_gr1 (show 2 ≤ 4 by omega) ((q_cpQ_E h b _).tr (q_E.R _ _ _ _)) ?_
  intro p e R s mid args below meth c Q lsA X hV hl r1 r2 hsz kk
  dsimp only at r1 r2 kk
  have X0 := X
  obtain ⟨hx, hb, hml, hown, hts, hKq, hbs, hfr, hlo⟩ := X
  have r1' : hN (q_cpQ h b (n + n / 2)) ≤ s.heap.size + R.cells := r1
  have r2' : hU (q_cpQ h b (n + n / 2)) ≤ hU h + R.slots := r2
  have q1 : hN (q_cpQ h b (n + n / 2)) = hN h + 1 := rfl
  have q2 : hU (q_cpQ h b (n + n / 2)) = hU h + (n + n / 2) := rfl
  refine lv_aload_n hx hb d_gr1_0 rfl (lv_at hl 0 rfl) ?_
  refine q_jget (k := 1) X0 hV.1 hk (by omega) jf_Jx4a65c_9 (fun x z => z) d_gr1_1 ?_
  rw [q_jg1, hr]
  refine q_jalen X0 hV (Or.inr h5) d_gr1_4 ?_
  rw [hL5]
  refine lv_istore_n (i := 2) (nL := 4) (lv' := [(2, .int (nI n)), (0, .ref a), (1, .int (nI (n + 1)))]) hx hb d_gr1_5 rfl hl (by omega) rfl (fun ls1 hl1 => ?_)
  refine lv_iload_n hx hb d_gr1_6 rfl (lv_at hl1 0 rfl) ?_
  refine lv_if_gt hx hb d_gr1_7 (tgt := 20) rfl (fun _ => ?_) (fun z => absurd (show nI 0 < nI n from nI_lt (by omega) (by omega)) z)
  refine lv_iload_n hx hb d_gr1_20 rfl (lv_at hl1 0 rfl) ?_
  refine lv_iload_n hx hb d_gr1_21 rfl (lv_at hl1 2 rfl) ?_
  refine lv_iload_n hx hb d_gr1_22 rfl (lv_at hl1 0 rfl) ?_
  refine lv_isub hx hb d_gr1_23 ?_
  rw [pk_sub (show n ≤ n + 1 by omega), Nat.add_sub_cancel_left]
  refine lv_iload_n hx hb d_gr1_24 rfl (lv_at hl1 0 rfl) ?_
  refine lv_iconst hx hb d_gr1_25 (v := 1) rfl ?_
  refine lv_ishr hx hb d_gr1_26 ?_
  have es : nI n >>> ((1 : Int32) &&& 31) = nI (n / 2) := by
    have k := pk_shrN (n := n) (by omega) ((1 : Int32) &&& 31) 1 (by decide)
    rw [Nat.pow_one] at k
    exact k
  rw [es]
  refine q_jcS (rest := []) X0 hV (j_nle h2 hn) (q_E.rf h) jo_nle jl_Jx4a65c_73 js_nle hl1.1 d_gr1_27 (by omega) rfl rfl (by decide) (u0 := hU h) (by omega) (by omega) (by dsimp only; omega) (by dsimp only; omega) (fun H1 locs1 c1 s1 hV1 hc1 hu1 => ?_)
  refine lv_istore_n (i := 3) (nL := 4) (lv' := [(3, .int (nI (n + n / 2))), (2, .int (nI n)), (0, .ref a), (1, .int (nI (n + 1)))]) hx hb d_gr1_30 rfl hl1 (by omega) rfl (fun ls2 hl2 => ?_)
  refine lv_aload_n hx hb d_gr1_31 rfl (lv_at hl2 2 rfl) ?_
  refine lv_aload_n hx hb d_gr1_32 rfl (lv_at hl2 2 rfl) ?_
  refine q_jget (k := 1) X0 hV1.1 hk (by omega) jf_Jx4a65c_9 (fun x z => z) d_gr1_33 ?_
  rw [q_jg1, hr]
  refine lv_iload_n hx hb d_gr1_36 rfl (lv_at hl2 0 rfl) ?_
  refine q_jcS (rest := [.ref a]) X0 hV1 (j_co2 (h := h) (m := n + n / 2) h5 hm1 hm2 hbn) (q_cpQ_E h b _) jo_co2 jl_Jx4a65c_66 js_co2 hl2.1 d_gr1_37 (by omega) rfl rfl (show 1 ≤ 8 by omega) (u0 := hU h) hc1 hu1 r1' r2' (fun H2 locs2 c2 s2 hV2 hc2 hu2 => ?_)
  have k1 : hK (q_cpQ h b (n + n / 2)) a = 12 := by rw [show hK (q_cpQ h b (n + n / 2)) a = hK h a from va_up_ne _ _ (by omega)]; exact hk
  refine lv_dup_x1 hx hb d_gr1_40 rfl rfl ?_
  refine q_jputR X0 hV2 k1 jf_Jx4a65c_9 d_gr1_41 (fun H3 locs3 hV3 => ?_)
  exact kk 44 _ _ _ _ _ _ d_gr1_44 (Or.inr (Or.inl ⟨_, _, rfl, rfl, Or.inr ⟨_, rfl⟩, rfl⟩)) hV3 hc2 hu2
theorem j_gr1f (hk : hK h a = 12) (hr : hR h 1 a = some (hS h 9)) (han : a < hN h) : q_JM l base D Cy S Hb J_gr1 4 h [.ref a, .int (nI 1)] (some (va_rf (some (hN h))), pR (nA h 55 10) 1 a (some (hN h))) := by
  refine q_jmk jo_gr1 (show 2 ≤ 4 by omega) ((q_E.N h (by decide)).tr (q_E.R _ _ _ _)) ?_
  intro p e R s mid args below meth c Q lsA X hV hl r1 r2 hsz kk
  dsimp only at r1 r2 kk
  have X0 := X
  obtain ⟨hx, hb, hml, hown, hts, hKq, hbs, hfr, hlo⟩ := X
  have r1' : hN h + 1 ≤ s.heap.size + R.cells := r1
  have r2' : hU h + 10 ≤ hU h + R.slots := r2
  have hq : ∀ q : Nat, q < Hb.size → ¬ base ≤ q → s.heap[q]? = Hb[q]? := fun q _ z => hV.2.2.2.2.2 q (by omega)
  have hZ := (hV.2.1.2.1.2.2.1).kept (H1 := s.heap) hq
  have hT := (hV.2.1.2.1.2.2.2.1).kept (H1 := s.heap) hq
  refine lv_aload_n hx hb d_gr1_0 rfl (lv_at hl 0 rfl) ?_
  refine q_jget (k := 1) X0 hV.1 hk (by omega) jf_Jx4a65c_9 (fun x z => z) d_gr1_1 ?_
  rw [q_jg1, hr]
  refine va_tlen hx hb hT hV.2.2.2.2.1 (v := nI 0) rfl d_gr1_4 ?_
  refine lv_istore_n (i := 2) (nL := 4) (lv' := [(2, .int (nI 0)), (0, .ref a), (1, .int (nI 1))]) hx hb d_gr1_5 rfl hl (by omega) rfl (fun ls1 hl1 => ?_)
  refine lv_iload_n hx hb d_gr1_6 rfl (lv_at hl1 0 rfl) ?_
  refine lv_if_gt hx hb d_gr1_7 (tgt := 20) rfl (fun z => absurd z (by decide)) (fun _ => ?_)
  refine lv_aload_n hx hb d_gr1_10 rfl (lv_at hl1 1 rfl) ?_
  refine q_jget (k := 1) X0 hV.1 hk (by omega) jf_Jx4a65c_9 (fun x z => z) d_gr1_11 ?_
  rw [q_jg1, hr]
  refine va_gets hx hb hZ hV.2.2.2.2.1 hown (hts _ jf_Jx4a65c_39) (fun x z => z) d_gr1_14 ?_
  refine lv_acmp_eq (rx := some (hS h 9)) (ry := some (hS h 9)) hx hb d_gr1_17 (tgt := 45) rfl (fun _ => ?_) (fun z => absurd rfl z)
  refine lv_aload_n hx hb d_gr1_45 rfl (lv_at hl1 1 rfl) ?_
  refine lv_bipush hx hb d_gr1_46 (v := 10) (by decide) ?_
  refine lv_iload_n hx hb d_gr1_48 rfl (lv_at hl1 2 rfl) ?_
  refine va_mmax hx hb (by rw [hml]; exact hl1.1.symm) hown (hts _ jl_Jx4a65c_79) (hts _ (q_g _ q_oj1.1 rfl)) (hts _ (q_g _ q_oj1.2.2 rfl)) (hts _ (q_g _ q_oj1.2.1 rfl)) (by omega) (by show 1 + 13 ≤ _; omega) (by omega) (by omega) d_gr1_49 ?_
  rw [if_neg (by decide)]
  have e10 : (10 : Int32).toNatClampNeg = 10 := by decide
  refine q_janew X0 hV jc_Jx4a65c_7 (by decide) (by omega) (by rw [e10]; omega) d_gr1_52 (fun H1 hV1 => ?_)
  rw [e10] at hV1 ⊢
  have k1 : hK (nA h 55 10) a = 12 := by rw [show hK (nA h 55 10) a = hK h a from va_up_ne _ _ (by omega)]; exact hk
  refine lv_dup_x1 hx hb d_gr1_55 rfl rfl ?_
  refine q_jputR X0 hV1 k1 jf_Jx4a65c_9 d_gr1_56 (fun H3 locs3 hV3 => ?_)
  exact kk 59 _ _ _ _ _ _ d_gr1_59 (Or.inr (Or.inl ⟨_, _, rfl, rfl, Or.inr ⟨_, rfl⟩, rfl⟩)) hV3 (by show _ = hN h + 1; omega) (by show _ = hU h + 10; omega)
theorem j_gr0 {x : Int32} {y : Nat} {h' : PH} (hk : hK h a = 12) (hs : hI h 2 a + 1 = x) (hM : q_JM l base D Cy S Hb J_gr1 4 h [.ref a, .int x] (some (va_rf (some y)), h')) (hE : q_E h h') : q_JM l base D Cy S Hb J_gr0 5 h [.ref a] (some (va_rf (some y)), h') := by
  refine q_jmk jo_gr0 (Nat.le_refl 1) hE ?_
  intro p e R s mid args below meth c Q lsA X hV hl r1 r2 hsz kk
  dsimp only at r1 r2 kk
  have X0 := X
  obtain ⟨hx, hb, hml, hown, hts, hKq, hbs, hfr, hlo⟩ := X
  refine lv_aload_n hx hb d_gr0_0 rfl (lv_at hl 0 rfl) ?_
  refine lv_aload_n hx hb d_gr0_1 rfl (lv_at hl 0 rfl) ?_
  refine q_jget (k := 2) X0 hV.1 hk (by omega) jf_Jx4a65c_48 (fun x z => z) d_gr0_2 ?_
  refine lv_iconst hx hb d_gr0_5 (v := 1) rfl ?_
  refine lv_iadd hx hb d_gr0_6 ?_
  rw [hs]
  refine q_jcV (C := RJx4a65c) (as := [.int x]) (rest := []) X0 hV hM hE jo_gr1 jl_Jx4a65c_69 ji_gr1 jv_gr1 (va_recv hKq.1 (q_P1 (hV.1.obj (show 12 < 50 by omega) hk)) (q_klsat 12 (by omega)) (q0 := 0) rfl) hl.1 d_gr0_7 (by omega) rfl rfl (by decide) (u0 := hU h) (by omega) (by omega) r1 r2 (fun H2 locs2 c2 s2 hV2 hc2 hu2 => ?_)
  exact kk 10 _ _ _ _ _ _ d_gr0_10 (Or.inr (Or.inl ⟨_, _, rfl, rfl, Or.inr ⟨_, rfl⟩, rfl⟩)) hV2 hc2 hu2
end QJI
