/-! the JDK's members: clear, copyOf of bytes -/
theorem pB_pB (h : PH) (e : Nat) (f g : Nat → Option Nat) : pB (pB h e f) e g = pB h e g := by
  show (hN h, hU h, hK h, hL h, hI h, hR h, hJ h, hA h, va_up (va_up (hB h) e f) e g, hS h) = _
  rw [bx_uu]
  rfl
theorem pB_self (h : PH) (e : Nat) : pB h e (hB h e) = h := by
  have : va_up (hB h) e (hB h e) = hB h := by
    funext q
    unfold va_up
    split
    · rename_i z; rw [z]
    · rfl
  show (hN h, hU h, hK h, hL h, hI h, hR h, hJ h, hA h, va_up (hB h) e (hB h e), hS h) = _
  rw [this]
  rfl
theorem q_jin {j N : Nat} (h : j < N) (hj : j < 2 ^ 31) : q_in (nI j) N := by
  intro z
  rcases z with z | z
  · exact nI_pos hj z
  · rw [nI_clamp hj] at z
    omega
section QJG
variable {l : Launch} {base : Nat} {D : va_G} {Cy : Nat → ClassId} {S : Nat → Nat} {Hb : Heap} {h : PH} {a : Nat}
theorem j_clr_loop {p : Program} {e : Env} {R : Room} {s : State} {mid : MethodId} {args : Array Value} {below : List Frame} {meth : Method} {c : Code} {cells slots : Nat} {Q : State → Prop} {d : Nat} (X : q_Jc p R s mid args c base D Cy S J_clr.1.cls J_clr.2.1 J_clr.2.2.1 d) {b n : Nat} {f : Nat → Option Nat} (h5 : hK h b = 55) (hn : n ≤ hL h b) (hn2 : n < 2 ^ 31)
    (K : ∀ (lsA : Array Slot) (H : Heap) (locs : List Loc), q_V base D Cy S Hb s (pB h b (fun i => if i < n then none else f i)) H locs → W p l e R s mid args below meth c H locs cells slots Q (F0 mid 42 lsA [])) :
    ∀ (k j : Nat), j + k = n → ∀ (lsA : Array Slot) (H : Heap) (locs : List Loc), lv_has lsA 4 [(3, .int (nI j)), (2, .int (nI n)), (1, .ref b), (0, .ref a)] → q_V base D Cy S Hb s (pB h b (fun i => if i < j then none else f i)) H locs → W p l e R s mid args below meth c H locs cells slots Q (F0 mid 27 lsA []) := by
  have X0 := X
  obtain ⟨hx, hb, hml, hown, hts, hKq, hbs, hfr, hlo⟩ := X
  intro k
  induction k with
  | zero =>
    intro j hj lsA H locs hl hV
    have hj2 : j = n := by omega
    subst hj2
    refine lv_iload_n hx hb d_clr_27 rfl (lv_at hl 0 rfl) ?_
    refine lv_iload_n hx hb d_clr_28 rfl (lv_at hl 1 rfl) ?_
    refine lv_icmp_ge hx hb d_clr_29 (tgt := 42) rfl (fun _ => K _ _ _ hV) (fun z => absurd (nI_le (Nat.le_refl j) hn2) z)
  | succ k ih =>
    intro j hj lsA H locs hl hV
    refine lv_iload_n hx hb d_clr_27 rfl (lv_at hl 0 rfl) ?_
    refine lv_iload_n hx hb d_clr_28 rfl (lv_at hl 1 rfl) ?_
    refine lv_icmp_ge hx hb d_clr_29 (tgt := 42) rfl (fun z => absurd z (nI_ge (by omega) hn2)) (fun _ => ?_)
    refine lv_aload_n hx hb d_clr_32 rfl (lv_at hl 2 rfl) ?_
    refine lv_iload_n hx hb d_clr_33 rfl (lv_at hl 0 rfl) ?_
    refine lv_null hx hb d_clr_34 ?_
    refine q_jaan X0 hV (a := b) h5 (q_jin (show j < hL h b by omega) (by omega)) d_clr_35 (fun H1 locs1 hV1 => ?_)
    refine lv_iinc (i := 3) (nL := 4) (k := 0) (v := nI (j + 1)) (lv' := [(3, .int (nI (j + 1))), (2, .int (nI n)), (1, .ref b), (0, .ref a)]) hx hb d_clr_36 hl rfl (by rw [nI_succ]; rfl) (by omega) rfl (fun ls' hl' => ?_)
    refine lv_goto hx hb d_clr_39 (tgt := 27) rfl ?_
    refine ih (j + 1) (by omega) ls' H1 locs1 hl' ?_
    have e1 : hB (pB h b (fun i => if i < j then none else f i)) b = fun i => if i < j then none else f i := va_up_self _ _ _
    rw [e1, pB_pB, nI_clamp (by omega)] at hV1
    have e2 : va_up (fun i => if i < j then none else f i) j none = fun i => if i < j + 1 then none else f i := by
      funext i
      unfold va_up
      by_cases h1 : i = j
      · simp [h1]
      · by_cases h2 : i < j
        · simp [h1, h2, show i < j + 1 by omega]
        · simp [h1, h2, show ¬ i < j + 1 by omega]
    rw [e2] at hV1
    exact hV1
theorem j_clr {h' : PH} (hk : hK h a = 12) (he : q_clr h a = some h') : q_JM l base D Cy S Hb J_clr 0 h [.ref a] (none, h') := by
  unfold q_clr at he
  cases hr : hR h 1 a with
  | none => rw [hr] at he; cases he
  | some b =>
    rw [hr] at he
    dsimp only at he
    by_cases hz : hI h 2 a = 0
    · rw [if_pos hz] at he
      have he := Option.some.inj he
      subst he
      refine q_jmk jo_clr (show 1 ≤ 4 by omega) ((q_E.I _ _ _ _).tr (q_E.I _ _ _ _)) ?_
      intro p e R s mid args below meth c Q lsA X hV hl r1 r2 hsz kk
      dsimp only at r1 r2 kk
      have X0 := X
      obtain ⟨hx, hb, hml, hown, hts, hKq, hbs, hfr, hlo⟩ := X
      refine lv_aload_n hx hb d_clr_0 rfl (lv_at hl 0 rfl) ?_
      refine lv_dup hx hb d_clr_1 rfl ?_
      refine q_jget (k := 0) X0 hV.1 hk (by omega) jf_Jx4a65c_63 (q_jsame X0) d_clr_2 ?_
      refine lv_iconst hx hb d_clr_5 (v := 1) rfl ?_
      refine lv_iadd hx hb d_clr_6 ?_
      refine q_jputI (k := 0) X0 hV hk (Or.inl rfl) jf_Jx4a65c_63 (q_jsame X0) d_clr_7 (fun H1 locs1 hV1 => ?_)
      refine lv_aload_n hx hb d_clr_10 rfl (lv_at hl 0 rfl) ?_
      refine q_jget (k := 1) X0 hV1.1 hk (by omega) jf_Jx4a65c_9 (fun x z => z) d_clr_11 ?_
      rw [q_jg1, show hR (pI h 0 a (hI h 0 a + 1)) 1 a = some b from hr]
      refine lv_astore_n (i := 1) (nL := 4) (lv' := [(1, .ref b), (0, .ref a)]) hx hb d_clr_14 rfl hl (by omega) rfl (fun ls1 hl1 => ?_)
      refine lv_aload_n hx hb d_clr_15 rfl (lv_at hl1 1 rfl) ?_
      refine q_jget (k := 2) X0 hV1.1 hk (by omega) jf_Jx4a65c_48 (fun x z => z) d_clr_16 ?_
      rw [q_jg2, show hI (pI h 0 a (hI h 0 a + 1)) 2 a = 0 from hz]
      refine lv_istore_n (i := 2) (nL := 4) (lv' := [(2, .int 0), (1, .ref b), (0, .ref a)]) hx hb d_clr_19 rfl hl1 (by omega) rfl (fun ls2 hl2 => ?_)
      refine lv_aload_n hx hb d_clr_20 rfl (lv_at hl2 2 rfl) ?_
      refine lv_iconst hx hb d_clr_21 (v := 0) rfl ?_
      refine lv_dup_x1 hx hb d_clr_22 rfl rfl ?_
      refine q_jputI (k := 2) X0 hV1 hk (Or.inr rfl) jf_Jx4a65c_48 (fun x z => z) d_clr_23 (fun H2 locs2 hV2 => ?_)
      refine lv_istore_n (i := 3) (nL := 4) (lv' := [(3, .int 0), (2, .int 0), (1, .ref b), (0, .ref a)]) hx hb d_clr_26 rfl hl2 (by omega) rfl (fun ls3 hl3 => ?_)
      refine lv_iload_n hx hb d_clr_27 rfl (lv_at hl3 0 rfl) ?_
      refine lv_iload_n hx hb d_clr_28 rfl (lv_at hl3 1 rfl) ?_
      refine lv_icmp_ge hx hb d_clr_29 (tgt := 42) rfl (fun _ => ?_) (fun z => absurd (Int32.le_refl 0) z)
      exact kk 42 _ _ _ _ _ _ d_clr_42 (Or.inr (Or.inr ⟨rfl, rfl, rfl⟩)) hV2 (by show 0 + _ = hN h; omega) (by show 0 + _ = hU h; omega)
    · rw [if_neg hz] at he
      split at he
      · rename_i hc
        obtain ⟨c1, c2, c3⟩ := hc
        have he := Option.some.inj he
        subst he
        obtain ⟨n, hn, en⟩ := nI_of c2
        rw [en, nI_clamp hn] at c3
        refine q_jmk jo_clr (show 1 ≤ 4 by omega) (((q_E.I _ _ _ _).tr (q_E.I _ _ _ _)).tr (q_E.B _ _ _)) ?_
        intro p e R s mid args below meth c Q lsA X hV hl r1 r2 hsz kk
        dsimp only at r1 r2 kk
        have X0 := X
        obtain ⟨hx, hb, hml, hown, hts, hKq, hbs, hfr, hlo⟩ := X
        refine lv_aload_n hx hb d_clr_0 rfl (lv_at hl 0 rfl) ?_
        refine lv_dup hx hb d_clr_1 rfl ?_
        refine q_jget (k := 0) X0 hV.1 hk (by omega) jf_Jx4a65c_63 (q_jsame X0) d_clr_2 ?_
        refine lv_iconst hx hb d_clr_5 (v := 1) rfl ?_
        refine lv_iadd hx hb d_clr_6 ?_
        refine q_jputI (k := 0) X0 hV hk (Or.inl rfl) jf_Jx4a65c_63 (q_jsame X0) d_clr_7 (fun H1 locs1 hV1 => ?_)
        refine lv_aload_n hx hb d_clr_10 rfl (lv_at hl 0 rfl) ?_
        refine q_jget (k := 1) X0 hV1.1 hk (by omega) jf_Jx4a65c_9 (fun x z => z) d_clr_11 ?_
        rw [q_jg1, show hR (pI h 0 a (hI h 0 a + 1)) 1 a = some b from hr]
        refine lv_astore_n (i := 1) (nL := 4) (lv' := [(1, .ref b), (0, .ref a)]) hx hb d_clr_14 rfl hl (by omega) rfl (fun ls1 hl1 => ?_)
        refine lv_aload_n hx hb d_clr_15 rfl (lv_at hl1 1 rfl) ?_
        refine q_jget (k := 2) X0 hV1.1 hk (by omega) jf_Jx4a65c_48 (fun x z => z) d_clr_16 ?_
        rw [q_jg2, show hI (pI h 0 a (hI h 0 a + 1)) 2 a = nI n from en]
        refine lv_istore_n (i := 2) (nL := 4) (lv' := [(2, .int (nI n)), (1, .ref b), (0, .ref a)]) hx hb d_clr_19 rfl hl1 (by omega) rfl (fun ls2 hl2 => ?_)
        refine lv_aload_n hx hb d_clr_20 rfl (lv_at hl2 2 rfl) ?_
        refine lv_iconst hx hb d_clr_21 (v := 0) rfl ?_
        refine lv_dup_x1 hx hb d_clr_22 rfl rfl ?_
        refine q_jputI (k := 2) X0 hV1 hk (Or.inr rfl) jf_Jx4a65c_48 (fun x z => z) d_clr_23 (fun H2 locs2 hV2 => ?_)
        refine lv_istore_n (i := 3) (nL := 4) (lv' := [(3, .int (nI 0)), (2, .int (nI n)), (1, .ref b), (0, .ref a)]) hx hb d_clr_26 rfl hl2 (by omega) rfl (fun ls3 hl3 => ?_)
        refine j_clr_loop (Hb := Hb) (h := pI (pI h 0 a (hI h 0 a + 1)) 2 a 0) (f := hB h b) (n := n) X0 c1 c3 hn (fun lsB H3 locs3 hV3 => ?_) n 0 (by omega) ls3 H2 locs2 hl3 ?_
        · rw [en, nI_clamp hn] at kk
          exact kk 42 _ _ _ _ _ _ d_clr_42 (Or.inr (Or.inr ⟨rfl, rfl, rfl⟩)) hV3 (by show 0 + _ = hN h; omega) (by show 0 + _ = hU h; omega)
        · have e2 : (fun i => if i < 0 then none else hB h b i) = hB (pI (pI h 0 a (hI h 0 a + 1)) 2 a 0) b := by
            funext i
            rw [if_neg (Nat.not_lt_zero i)]
            rfl
          rw [e2, pB_self]
          exact hV2
      · cases he
theorem j_cob {m : Int32} (hk : hK h a = 52) (hm : q_nb m = false) (hlt : hL h a < m.toNatClampNeg) (ha : a < hN h) : q_JM l base D Cy S Hb J_cob 2 h [.ref a, .int m] (some (va_rf (some (hN h))), pA (nA h 52 m.toNatClampNeg) (hN h) (va_cpy (hA h a) (fun _ => 0) 0 0 (hL h a))) := by
  have hnb : ¬ (m < 0 ∨ 1000000 < m.toNatClampNeg) := fun z => by rw [q_nb_iff.mpr z] at hm; cases hm
  have hm0 : ¬ m < 0 := fun z => hnb (Or.inl z)
  have hm1 : m.toNatClampNeg ≤ 1000000 := Nat.not_lt.mp fun z => hnb (Or.inr z)
  obtain ⟨M, hM, eM⟩ := nI_of hm0
  have eC : m.toNatClampNeg = M := by rw [eM, nI_clamp hM]
  rw [eC] at hlt hm1 ⊢
  have hne : a ≠ hN h := by omega
  refine q_jmk jo_cob (show 2 ≤ 3 by omega) ((q_E.N h (by decide)).tr (q_E.A _ _ (by have : hK (nA h 52 M) (hN h) = 52 := va_up_self _ _ _; omega))) ?_
  intro p e R s mid args below meth c Q lsA X hV hl r1 r2 hsz kk
  dsimp only at r1 r2 kk
  have X0 := X
  obtain ⟨hx, hb, hml, hown, hts, hKq, hbs, hfr, hlo⟩ := X
  have r1' : hN h + 1 ≤ s.heap.size + R.cells := r1
  have r2' : hU h + M ≤ hU h + R.slots := r2
  refine lv_iload_n hx hb d_cob_0 rfl (lv_at hl 1 rfl) ?_
  refine lv_aload_n hx hb d_cob_1 rfl (lv_at hl 0 rfl) ?_
  refine q_jalen X0 hV (Or.inl hk) d_cob_2 ?_
  refine lv_icmp_ne hx hb d_cob_3 (tgt := 14) rfl (fun _ => ?_) (fun z => absurd ((nI_eq hM (by omega)).mp (eM.symm.trans z)) (by omega))
  refine lv_iload_n hx hb d_cob_14 rfl (lv_at hl 1 rfl) ?_
  refine q_jbnew X0 hV hnb (by omega) (by rw [eC]; omega) d_cob_15 (fun H1 hV1 => ?_)
  rw [eC] at hV1 ⊢
  have k1 : hK (nA h 52 M) a = 52 := by rw [show hK (nA h 52 M) a = hK h a from va_up_ne _ _ hne]; exact hk
  have k2 : hK (nA h 52 M) (hN h) = 52 := va_up_self _ _ _
  have l1 : hL (nA h 52 M) a = hL h a := va_up_ne _ _ hne
  have l2 : hL (nA h 52 M) (hN h) = M := va_up_self _ _ _
  refine lv_astore_n (i := 2) (nL := 3) (lv' := [(2, .ref (hN h)), (0, .ref a), (1, .int m)]) hx hb d_cob_17 rfl hl (by omega) rfl (fun ls1 hl1 => ?_)
  refine lv_aload_n hx hb d_cob_18 rfl (lv_at hl1 1 rfl) ?_
  refine lv_iconst hx hb d_cob_19 (v := 0) rfl ?_
  refine lv_aload_n hx hb d_cob_20 rfl (lv_at hl1 0 rfl) ?_
  refine lv_iconst hx hb d_cob_21 (v := 0) rfl ?_
  refine lv_aload_n hx hb d_cob_22 rfl (lv_at hl1 1 rfl) ?_
  refine q_jalen X0 hV1 (Or.inl k1) d_cob_23 ?_
  rw [l1]
  refine lv_iload_n hx hb d_cob_24 rfl (lv_at hl1 2 rfl) ?_
  refine va_mmin hx hb (by rw [hml]; exact hl1.1.symm) hown (hts _ jl_J7_304) (hts _ (q_g _ q_oj2.1 rfl)) (hts _ (q_g _ q_oj1.2.2 rfl)) (hts _ (q_g _ q_oj2.2 rfl)) (by omega) (by show 4 + 13 ≤ _; omega) (by omega) (by omega) d_cob_25 ?_
  rw [if_neg (by rw [eM]; exact nI_nlt (by omega) hM)]
  have eL : (nI (hL h a)).toNatClampNeg = hL h a := nI_clamp (by omega)
  refine q_jcopyB X0 hV1 hl1.1 jl_J7_150 (by omega) k1 k2 (by decide) (by decide) (nI_pos (by omega)) (by rw [eL, l1, sb_cl0]; omega) (by rw [eL, l2, sb_cl0]; omega) (by decide) d_cob_28 (fun H2 locs2 hV2 => ?_)
  rw [eL, sb_cl0, show hA (nA h 52 M) a = hA h a from va_up_ne _ _ hne, show hA (nA h 52 M) (hN h) = (fun _ => 0) from va_up_self _ _ _] at hV2
  refine lv_aload_n hx hb d_cob_31 rfl (lv_at hl1 0 rfl) ?_
  exact kk 32 _ _ _ _ _ _ d_cob_32 (Or.inr (Or.inl ⟨_, _, rfl, rfl, Or.inr ⟨_, rfl⟩, rfl⟩)) hV2 (by show _ = hN h + 1; omega) (by show _ = hU h + M; omega)
end QJG
