/-! the JDK's members: the list's constructor, size, get, clear -/
section QJF
variable {l : Launch} {base : Nat} {D : va_G} {Cy : Nat → ClassId} {S : Nat → Nat} {Hb : Heap} {h : PH} {a : Nat}
theorem j_aci (hk : hK h a = 12) : q_JM l base D Cy S Hb J_aci 1 h [.ref a] (none, h) := by
  refine q_jmk jo_aci (Nat.le_refl 1) (q_E.rf h) ?_
  intro p e R s mid args below meth c Q lsA X hV hl r1 r2 hsz kk
  dsimp only at r1 r2 kk
  obtain ⟨hx, hb, hml, hown, hts, hKq, hbs, hfr, hlo⟩ := X
  refine lv_aload_n hx hb d_aci_0 rfl (lv_at hl 0 rfl) ?_
  refine W.objInit hx hb hown (hts _ jl_Jxa1e45_1) (hts _ (q_g _ q_oj0.1 rfl)) (hts _ (q_g _ q_oj0.2 rfl)) rfl (by rw [hml]; exact hl.1) rfl d_aci_1 (by omega) (by show 2 * 0 + 0 + 12 ≤ _; omega) ?_
  exact kk 4 _ _ _ _ _ _ d_aci_4 (Or.inr (Or.inr ⟨rfl, rfl, rfl⟩)) hV (by omega) (by omega)
theorem j_ali (hk : hK h a = 12) : q_JM l base D Cy S Hb J_ali 2 h [.ref a] (none, pI h 0 a 0) := by
  refine q_jmk jo_ali (Nat.le_refl 1) (q_E.I _ _ _ _) ?_
  intro p e R s mid args below meth c Q lsA X hV hl r1 r2 hsz kk
  dsimp only at r1 r2 kk
  have X0 := X
  obtain ⟨hx, hb, hml, hown, hts, hKq, hbs, hfr, hlo⟩ := X
  have e1 : hN (pI h 0 a 0) = hN h := rfl
  have e2 : hU (pI h 0 a 0) = hU h := rfl
  refine lv_aload_n hx hb d_ali_0 rfl (lv_at hl 0 rfl) ?_
  refine q_jcI (as := []) (rest := []) X0 hV (j_aci hk) (q_E.rf h) jo_aci jl_Jxc12de_1 ji_aci ⟨rfl, rfl⟩ hl.1 d_ali_1 (by omega) rfl rfl (by decide) (u0 := hU h) (by omega) (by omega) r1 r2 (fun H1 locs1 c1 s1 hV1 hc1 hu1 => ?_)
  refine lv_aload_n hx hb d_ali_4 rfl (lv_at hl 0 rfl) ?_
  refine lv_iconst hx hb d_ali_5 rfl ?_
  refine q_jputI (k := 0) (ref := "java/util/AbstractList") X0 hV1 hk (Or.inl rfl) jf_Jxc12de_7 (fun x z => z) d_ali_6 (fun H2 locs2 hV2 => ?_)
  exact kk 9 _ _ _ _ _ _ d_ali_9 (Or.inr (Or.inr ⟨rfl, rfl, rfl⟩)) hV2 hc1 hu1
theorem j_ini (hk : hK h a = 12) : q_JM l base D Cy S Hb J_ini 3 h [.ref a] (none, pR (pI h 0 a 0) 1 a (some (hS h 9))) := by
  refine q_jmk jo_ini (Nat.le_refl 1) ((q_E.I _ _ _ _).tr (q_E.R _ _ _ _)) ?_
  intro p e R s mid args below meth c Q lsA X hV hl r1 r2 hsz kk
  dsimp only at r1 r2 kk
  have X0 := X
  obtain ⟨hx, hb, hml, hown, hts, hKq, hbs, hfr, hlo⟩ := X
  refine lv_aload_n hx hb d_ini_0 rfl (lv_at hl 0 rfl) ?_
  refine q_jcI (as := []) (rest := []) X0 hV (j_ali hk) (q_E.I _ _ _ _) jo_ali jl_Jx4a65c_1 ji_ali ⟨rfl, rfl⟩ hl.1 d_ini_1 (by omega) rfl rfl (by decide) (u0 := hU h) (by omega) (by omega) r1 r2 (fun H1 locs1 c1 s1 hV1 hc1 hu1 => ?_)
  have hZ := (hV1.2.1.2.1.2.2.1).kept (H1 := s.heap) (fun q _ z => hV1.2.2.2.2.2 q (by omega))
  refine lv_aload_n hx hb d_ini_4 rfl (lv_at hl 0 rfl) ?_
  refine va_gets hx hb hZ hV1.2.2.2.2.1 hown (hts _ jf_Jx4a65c_39) (fun x z => z) d_ini_5 ?_
  refine q_jputR X0 hV1 hk jf_Jx4a65c_9 d_ini_8 (fun H2 locs2 hV2 => ?_)
  exact kk 11 _ _ _ _ _ _ d_ini_11 (Or.inr (Or.inr ⟨rfl, rfl, rfl⟩)) hV2 hc1 hu1
theorem j_siz (hk : hK h a = 12) : q_JM l base D Cy S Hb J_siz 0 h [.ref a] (some (.int (hI h 2 a)), h) := by
  refine q_jmk jo_siz (Nat.le_refl 1) (q_E.rf h) ?_
  intro p e R s mid args below meth c Q lsA X hV hl r1 r2 hsz kk
  dsimp only at r1 r2 kk
  have X0 := X
  obtain ⟨hx, hb, hml, hown, hts, hKq, hbs, hfr, hlo⟩ := X
  refine lv_aload_n hx hb d_siz_0 rfl (lv_at hl 0 rfl) ?_
  refine q_jget (k := 2) X0 hV.1 hk (by omega) jf_Jx4a65c_48 (fun x z => z) d_siz_1 ?_
  exact kk 4 _ _ _ _ _ _ d_siz_4 (Or.inl ⟨_, _, rfl, rfl, rfl, rfl⟩) hV (by omega) (by omega)
theorem j_eld {i : Int32} {b : Nat} (hk : hK h a = 12) (hr : hR h 1 a = some b) (hb5 : hK h b = 55) (hin : q_in i (hL h b)) : q_JM l base D Cy S Hb J_eld 0 h [.ref a, .int i] (some (va_rf (hB h b i.toNatClampNeg)), h) := by
  refine q_jmk jo_eld (Nat.le_refl 2) (q_E.rf h) ?_
  intro p e R s mid args below meth c Q lsA X hV hl r1 r2 hsz kk
  dsimp only at r1 r2 kk
  have X0 := X
  obtain ⟨hx, hb, hml, hown, hts, hKq, hbs, hfr, hlo⟩ := X
  refine lv_aload_n hx hb d_eld_0 rfl (lv_at hl 0 rfl) ?_
  refine q_jget (k := 1) X0 hV.1 hk (by omega) jf_Jx4a65c_9 (fun x z => z) d_eld_1 ?_
  rw [q_jg1, hr]
  refine lv_iload_n hx hb d_eld_4 rfl (lv_at hl 1 rfl) ?_
  refine q_jaal X0 hV hb5 hin d_eld_5 ?_
  exact kk 6 _ _ _ _ _ _ d_eld_6 (Or.inr (Or.inl ⟨_, _, rfl, rfl, Or.inl ⟨_, rfl⟩, rfl⟩)) hV (by omega) (by omega)
theorem j_get {i : Int32} {b : Nat} (hk : hK h a = 12) (h0 : ¬ i < 0) (h1 : i < hI h 2 a) (hr : hR h 1 a = some b) (hb5 : hK h b = 55) (hin : q_in i (hL h b)) : q_JM l base D Cy S Hb J_get 2 h [.ref a, .int i] (some (va_rf (hB h b i.toNatClampNeg)), h) := by
  refine q_jmk jo_get (Nat.le_refl 2) (q_E.rf h) ?_
  intro p e R s mid args below meth c Q lsA X hV hl r1 r2 hsz kk
  dsimp only at r1 r2 kk
  have X0 := X
  obtain ⟨hx, hb, hml, hown, hts, hKq, hbs, hfr, hlo⟩ := X
  refine lv_iload_n hx hb d_get_0 rfl (lv_at hl 1 rfl) ?_
  refine lv_aload_n hx hb d_get_1 rfl (lv_at hl 0 rfl) ?_
  refine q_jget (k := 2) X0 hV.1 hk (by omega) jf_Jx4a65c_48 (fun x z => z) d_get_2 ?_
  refine q_jcS (rest := []) X0 hV (j_ock h0 h1) (q_E.rf h) jo_ock jl_Jx4a65c_118 js_ock hl.1 d_get_5 (by omega) rfl rfl (by decide) (u0 := hU h) (by omega) (by omega) r1 r2 (fun H1 locs1 c1 s1 hV1 hc1 hu1 => ?_)
  refine lv_pop hx hb d_get_8 rfl ?_
  refine lv_aload_n hx hb d_get_9 rfl (lv_at hl 0 rfl) ?_
  refine lv_iload_n hx hb d_get_10 rfl (lv_at hl 1 rfl) ?_
  refine q_jcV (C := RJx4a65c) (as := [.int i]) (rest := []) X0 hV1 (j_eld hk hr hb5 hin) (q_E.rf h) jo_eld jl_Jx4a65c_123 ji_eld jv_eld (va_recv hKq.1 (q_P1 (hV1.1.obj (show 12 < 50 by omega) hk)) (q_klsat 12 (by omega)) (q0 := 0) rfl) hl.1 d_get_11 (by omega) rfl rfl (by decide) (u0 := hU h) hc1 hu1 r1 r2 (fun H2 locs2 c2 s2 hV2 hc2 hu2 => ?_)
  exact kk 14 _ _ _ _ _ _ d_get_14 (Or.inr (Or.inl ⟨_, _, rfl, rfl, Or.inl ⟨_, rfl⟩, rfl⟩)) hV2 hc2 hu2
theorem j_rng {i : Int32} (hk : hK h a = 12) (h0 : ¬ i < 0) (h1 : ¬ hI h 2 a < i) : q_JM l base D Cy S Hb J_rng 0 h [.ref a, .int i] (none, h) := by
  refine q_jmk jo_rng (Nat.le_refl 2) (q_E.rf h) ?_
  intro p e R s mid args below meth c Q lsA X hV hl r1 r2 hsz kk
  dsimp only at r1 r2 kk
  have X0 := X
  obtain ⟨hx, hb, hml, hown, hts, hKq, hbs, hfr, hlo⟩ := X
  refine lv_iload_n hx hb d_rng_0 rfl (lv_at hl 1 rfl) ?_
  refine lv_aload_n hx hb d_rng_1 rfl (lv_at hl 0 rfl) ?_
  refine q_jget (k := 2) X0 hV.1 hk (by omega) jf_Jx4a65c_48 (fun x z => z) d_rng_2 ?_
  refine lv_icmp_gt hx hb d_rng_5 (tgt := 12) rfl (fun z => absurd z h1) (fun _ => ?_)
  refine lv_iload_n hx hb d_rng_8 rfl (lv_at hl 1 rfl) ?_
  refine lv_if_ge hx hb d_rng_9 (tgt := 25) rfl (fun _ => ?_) (fun z => absurd (Int32.not_lt.mp h0) z)
  exact kk 25 _ _ _ _ _ _ d_rng_25 (Or.inr (Or.inr ⟨rfl, rfl, rfl⟩)) hV (by omega) (by omega)
end QJF
