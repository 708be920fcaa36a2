/-! the JDK's members: how the list grows -/
section QJH
variable {l : Launch} {base : Nat} {D : va_G} {Cy : Nat → ClassId} {S : Nat → Nat} {Hb : Heap} {h : PH} {a : Nat}
theorem j_nle {n : Nat} (h2 : 2 ≤ n) (hn : n ≤ 500000) : q_JM l base D Cy S Hb J_nle 1 h [.int (nI n), .int (nI 1), .int (nI (n / 2))] (some (.int (nI (n + n / 2))), h) := by
  refine q_jmk jo_nle (show 3 ≤ 4 by omega) (q_E.rf h) ?_
  intro p e R s mid args below meth c Q lsA X hV hl r1 r2 hsz kk
  dsimp only at r1 r2 kk
  obtain ⟨hx, hb, hml, hown, hts, hKq, hbs, hfr, hlo⟩ := X
  have em : (if nI 1 < nI (n / 2) then nI (n / 2) else nI 1) = nI (n / 2) := by
    by_cases c : 1 < n / 2
    · rw [if_pos (nI_lt c (by omega))]
    · rw [if_neg (nI_nlt (by omega) (by decide)), show n / 2 = 1 by omega]
  refine lv_iload_n hx hb d_nle_0 rfl (lv_at hl 0 rfl) ?_
  refine lv_iload_n hx hb d_nle_1 rfl (lv_at hl 1 rfl) ?_
  refine lv_iload_n hx hb d_nle_2 rfl (lv_at hl 2 rfl) ?_
  refine va_mmax hx hb (by rw [hml]; exact hl.1.symm) hown (hts _ jl_J8_194) (hts _ (q_g _ q_oj1.1 rfl)) (hts _ (q_g _ q_oj1.2.2 rfl)) (hts _ (q_g _ q_oj1.2.1 rfl)) (by omega) (by show 1 + 13 ≤ _; omega) (by omega) (by omega) d_nle_3 ?_
  rw [em]
  refine lv_iadd hx hb d_nle_6 ?_
  rw [nI_add]
  refine lv_istore_n (i := 3) (nL := 4) (lv' := [(3, .int (nI (n + n / 2))), (0, .int (nI n)), (1, .int (nI 1)), (2, .int (nI (n / 2)))]) hx hb d_nle_7 rfl hl (by omega) rfl (fun ls1 hl1 => ?_)
  refine lv_iconst hx hb d_nle_8 (v := 0) rfl ?_
  refine lv_iload_n hx hb d_nle_9 rfl (lv_at hl1 0 rfl) ?_
  refine lv_icmp_ge hx hb d_nle_10 (tgt := 21) rfl (fun z => absurd z (nI_nle (by omega) (by omega))) (fun _ => ?_)
  refine lv_iload_n hx hb d_nle_13 rfl (lv_at hl1 0 rfl) ?_
  refine lv_ldc hx hb hown (hts _ jx_200) d_nle_14 ?_
  refine lv_icmp_gt hx hb d_nle_16 (tgt := 21) rfl (fun z => absurd z (show ¬ nI 2147483639 < nI (n + n / 2) from nI_nlt (by omega) (by decide))) (fun _ => ?_)
  refine lv_iload_n hx hb d_nle_19 rfl (lv_at hl1 0 rfl) ?_
  exact kk 20 _ _ _ _ _ _ d_nle_20 (Or.inl ⟨_, _, rfl, rfl, rfl, rfl⟩) hV (by omega) (by omega)
/-- an array of n places, made again with m -/
def q_cpQ (h : PH) (b m : Nat) : PH := pB (nA h 55 m) (hN h) (va_cpy (hB h b) (fun _ => none) 0 0 (hL h b))
theorem q_cpQ_E (h : PH) (b m : Nat) : q_E h (q_cpQ h b m) := (q_E.N h (by decide)).tr (q_E.B _ _ _)
theorem j_co3 {b m mi : Nat} (hk : hK h b = 55) (hm : m ≤ 1000000) (hlt : hL h b ≤ m) (hbn : b < hN h) :
    Met l J_co3.1 (q_jws J_co3) { frames := 2, cells := hN (q_cpQ h b m) - hN h, slots := hU (q_cpQ h b m) - hU h, locals := 60 * 2 } (fun a U => q_Pc base D Cy S Hb h [.ref b, .int (nI m), .ref mi] a U ∧ va_Mi "[Ljava/lang/Object;" mi U) (q_Qc base D Cy S (some (va_rf (some (hN h))), q_cpQ h b m)) (hN (q_cpQ h b m) - hN h) (hU (q_cpQ h b m) - hU h) (fun q => base ≤ q) := by
  refine q_jmkE (r := (some (va_rf (some (hN h))), q_cpQ h b m)) jo_co3 (show 3 ≤ 4 by omega) (q_cpQ_E h b m) ?_
  intro p e R s mid args below meth c Q lsA X hMi hV hl r1 r2 hsz kk
  dsimp only at r1 r2 kk
  have X0 := X
  obtain ⟨hx, hb, hml, hown, hts, hKq, hbs, hfr, hlo⟩ := X
  have r1' : hN h + 1 ≤ s.heap.size + R.cells := r1
  have r2' : hU h + m ≤ hU h + R.slots := r2
  have hne : b ≠ hN h := by omega
  have eC : (nI m).toNatClampNeg = m := nI_clamp (by omega)
  refine lv_aload_n hx hb d_co3_0 rfl (lv_at hl 2 rfl) ?_
  refine va_ldcM hx hb hown (hts _ jc_J7_110) hMi d_co3_1 ?_
  refine lv_acmp_ne (rx := some mi) (ry := some mi) hx hb d_co3_3 (tgt := 13) rfl (fun z => absurd rfl z) (fun _ => ?_)
  refine lv_iload_n hx hb d_co3_6 rfl (lv_at hl 1 rfl) ?_
  refine q_janew X0 hV jc_J7_2 (fun z => by
    rcases z with z | z
    · exact nI_pos (by omega) z
    · rw [eC] at z; omega) (by omega) (by rw [eC]; omega) d_co3_7 (fun H1 hV1 => ?_)
  rw [eC] at hV1 ⊢
  have k1 : hK (nA h 55 m) b = 55 := by rw [show hK (nA h 55 m) b = hK h b from va_up_ne _ _ hne]; exact hk
  have k2 : hK (nA h 55 m) (hN h) = 55 := va_up_self _ _ _
  have l1 : hL (nA h 55 m) b = hL h b := va_up_ne _ _ hne
  have l2 : hL (nA h 55 m) (hN h) = m := va_up_self _ _ _
  refine lv_goto hx hb d_co3_10 (tgt := 24) rfl ?_
  refine lv_astore_n (i := 3) (nL := 4) (lv' := [(3, .ref (hN h)), (0, .ref b), (1, .int (nI m)), (2, .ref mi)]) hx hb d_co3_24 rfl hl (by omega) rfl (fun ls1 hl1 => ?_)
  refine lv_aload_n hx hb d_co3_25 rfl (lv_at hl1 1 rfl) ?_
  refine lv_iconst hx hb d_co3_26 (v := 0) rfl ?_
  refine lv_aload_n hx hb d_co3_27 rfl (lv_at hl1 0 rfl) ?_
  refine lv_iconst hx hb d_co3_28 (v := 0) rfl ?_
  refine lv_aload_n hx hb d_co3_29 rfl (lv_at hl1 1 rfl) ?_
  refine q_jalen X0 hV1 (Or.inr k1) d_co3_30 ?_
  rw [l1]
  refine lv_iload_n hx hb d_co3_31 rfl (lv_at hl1 2 rfl) ?_
  refine va_mmin hx hb (by rw [hml]; exact hl1.1.symm) hown (hts _ jl_J7_304) (hts _ (q_g _ q_oj2.1 rfl)) (hts _ (q_g _ q_oj1.2.2 rfl)) (hts _ (q_g _ q_oj2.2 rfl)) (by omega) (by show 4 + 13 ≤ _; omega) (by omega) (by omega) d_co3_32 ?_
  rw [if_neg (nI_nlt (by omega) (by omega))]
  have eL : (nI (hL h b)).toNatClampNeg = hL h b := nI_clamp (by omega)
  refine q_jcopyQ X0 hV1 hl1.1 jl_J7_150 (by omega) k1 k2 (by decide) (by decide) (nI_pos (by omega)) (by rw [eL, l1, sb_cl0]; omega) (by rw [eL, l2, sb_cl0]; omega) (by decide) d_co3_35 (fun H2 locs2 hV2 => ?_)
  rw [eL, sb_cl0, show hB (nA h 55 m) b = hB h b from va_up_ne _ _ hne, show hB (nA h 55 m) (hN h) = (fun _ => none) from va_up_self _ _ _] at hV2
  refine lv_aload_n hx hb d_co3_38 rfl (lv_at hl1 0 rfl) ?_
  exact kk 39 _ _ _ _ _ _ d_co3_39 (Or.inr (Or.inl ⟨_, _, rfl, rfl, Or.inr ⟨_, rfl⟩, rfl⟩)) hV2 (by show _ = hN h + 1; omega) (by show _ = hU h + m; omega)
theorem j_co2 {b m : Nat} (hk : hK h b = 55) (hm : m ≤ 1000000) (hlt : hL h b ≤ m) (hbn : b < hN h) : q_JM l base D Cy S Hb J_co2 3 h [.ref b, .int (nI m)] (some (va_rf (some (hN h))), q_cpQ h b m) := by
  refine q_jmk jo_co2 (show 2 ≤ 2 by omega) (q_cpQ_E h b m) ?_
  intro p e R s mid args below meth c Q lsA X hV hl r1 r2 hsz kk
  dsimp only at r1 r2 kk
  have X0 := X
  obtain ⟨hx, hb, hml, hown, hts, hKq, hbs, hfr, hlo⟩ := X
  have r1' : hN h + 1 ≤ s.heap.size + R.cells := r1
  have r2' : hU h + m ≤ hU h + R.slots := r2
  obtain ⟨mi, hMi⟩ := hV.2.1.2.1.2.2.2.2.2.1
  have hDc := hV.2.1.2.1.2.2.2.2.2.2
  have hcl : s.vm.findClass "[Ljava/lang/Object;" = some (Cy 55) := (hKq.1.2 5 _ rfl).2.choose_spec.choose_spec.2.2.2
  refine lv_aload_n hx hb d_co2_0 rfl (lv_at hl 0 rfl) ?_
  refine lv_iload_n hx hb d_co2_1 rfl (lv_at hl 1 rfl) ?_
  refine lv_aload_n hx hb d_co2_2 rfl (lv_at hl 0 rfl) ?_
  refine va_getC (C := "[Ljava/lang/Object;") hx hb (by rw [hml]; exact hl.1.symm) hown (hts _ jl_J7_86) (va_Dc.use hDc) (hts _ jv_gcl) (hts _ ji_gcl) (hts _ jn_gcl) hMi ⟨_, hV.1.arq (c := 55) (by omega) (by omega) hk, rfl, hcl⟩ (by omega) (by show 2 + 14 ≤ _; omega) d_co2_3 ?_
  have hpc := q_jpre (as := [.ref b, .int (nI m), .ref mi]) X0 hV
  have hy := jo_co3
  have q1 : hN (q_cpQ h b m) = hN h + 1 := rfl
  have q2 : hU (q_cpQ h b m) = hU h + m := rfl
  refine q_jgo (r := (some (va_rf (some (hN h))), q_cpQ h b m)) (rest := []) (u0 := hU h) hV (q_cpQ_E h b m) (by omega) (by omega) (fun H2 locs2 c2 s2 hV2 hc2 hu2 => ?_)
    (va_runS (nL := J_co2.2.2.1) ⟨hx, hb, hml, hown, hts⟩ (j_co3 (mi := mi) hk hm hlt hbn) ⟨callB_of J_co3.2.2.2.2 hts (q_jgood hy) rfl rfl rfl (hts _ hy.2.2.1) (hts _ jl_J7_300) hy.2.2.2.1 ⟨by show 2 + 1 ≤ _; omega, by show 8 + (4 + 11) + 60 * 2 ≤ _; omega⟩, hts _ js_co3⟩ ⟨fun a U g mk q => ⟨q_blind _ _ _ _ q.1, q.2.moved (Vm.Alike.refl U.vm)⟩, fun U hU hW => ⟨hpc U hU hW, hMi.moved hW.alike⟩⟩ rfl rfl hl.1 rfl (lv_room (by decide)) d_co2_6 ⟨by dsimp only; omega, by dsimp only; omega⟩)
  exact kk 9 _ _ _ _ _ _ d_co2_9 (Or.inr (Or.inl ⟨_, _, rfl, rfl, Or.inr ⟨_, rfl⟩, rfl⟩)) hV2 hc2 hu2
end QJH
