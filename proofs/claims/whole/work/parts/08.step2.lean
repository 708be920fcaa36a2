/-- bytes are bytes, an Object[] holds Names -/
def q_By (h : PH) : Prop := (∀ a, hK h a = 52 → ∀ i, fits .byte (.int (hA h a i)) = true) ∧ (∀ a, hK h a = 55 → ∀ i y, hB h a i = some y → hK h y = 2) ∧ ∀ a, hK h a = 55 → hL h a ≤ 1000000
/-- all that holds of a heap within a method that began at s -/
def q_V (base : Nat) (D : va_G) (Cy : Nat → ClassId) (S : Nat → Nat) (Hb : Heap) (s : State) (h : PH) (H : Heap) (locs : List Loc) : Prop :=
  q_W base D Cy h H ∧ q_X base Hb h s ∧ q_By h ∧ hS h = S ∧ va_S (fun q => base ≤ q) s.heap H locs ∧ ∀ q : Nat, q < base → s.heap[q]? = Hb[q]?
section QR2
variable {p : Program} {l : Launch} {e : Env} {R : Room} {s : State} {mid : MethodId} {args : Array Value} {below : List Frame} {meth : Method} {c : Code} {H : Heap} {locs : List Loc} {cells slots : Nat} {Q : State → Prop}
variable {base : Nat} {D : va_G} {Cy : Nat → ClassId} {S : Nat → Nat} {Hb : Heap} {m : Mt} {g : Nat} {h h' : PH} {pc : Nat} {lsA : Array Slot} {rest : List Value} {a : Nat}
theorem q_V.of {H1 : Heap} {locs1 : List Loc} (hV : q_V base D Cy S Hb s h H locs) (hW' : q_W base D Cy h' H1) (hS' : va_S (fun q => base ≤ q) s.heap H1 locs1) (hA' : ∀ b, 60 ≤ hK h' b → hK h b = hK h' b ∧ hL h' b = hL h b ∧ hA h' b = hA h b) (hB' : q_By h') (hs : hS h' = hS h) : q_V base D Cy S Hb s h' H1 locs1 := by
  obtain ⟨v1, v2, v3, v4, v5, v6⟩ := hV
  refine ⟨hW', ⟨fun b hb => ?_, by rw [hs]; exact v2.2.1, fun b h1 h2 => ?_⟩, hB', by rw [hs]; exact v4, hS', v6⟩
  · obtain ⟨g1, g2, g3⟩ := hA' b (by omega)
    rw [g2, g3]
    exact v2.1 b (g1.trans hb)
  · obtain ⟨g1, -⟩ := hA' b (by omega)
    have := v2.2.2 b (by omega) (by omega)
    rw [g1] at this
    rw [hs]
    exact this
theorem q_V.fld {H1 : Heap} {locs1 : List Loc} (hV : q_V base D Cy S Hb s h H locs) (hW' : q_W base D Cy h' H1) (hS' : va_S (fun q => base ≤ q) s.heap H1 locs1) (e1 : hK h' = hK h) (e2 : hL h' = hL h) (e3 : hA h' = hA h) (e4 : hB h' = hB h) (hs : hS h' = hS h) : q_V base D Cy S Hb s h' H1 locs1 := by
  refine hV.of hW' hS' (fun b hb => ?_) ⟨fun b hb i => ?_, fun b hb i y hy => ?_, fun b hb => ?_⟩ hs
  · exact ⟨by rw [e1], by rw [e2], by rw [e3]⟩
  · rw [e1] at hb
    rw [e3]
    exact hV.2.2.1.1 b hb i
  · rw [e1] at hb ⊢
    rw [e4] at hy
    exact hV.2.2.1.2.1 b hb i y hy
  · rw [e1] at hb
    rw [e2]
    exact hV.2.2.1.2.2 b hb
theorem q_fw_same {h h' : PH} {ci b k : Nat} {v : Value} (hw : q_fw h ci b k v = some h') : hN h' = hN h ∧ hU h' = hU h ∧ hK h' = hK h ∧ hL h' = hL h ∧ hA h' = hA h ∧ hB h' = hB h ∧ hS h' = hS h := by
  unfold q_fw at hw
  repeat' (split at hw)
  all_goals first | (cases hw; exact ⟨rfl, rfl, rfl, rfl, rfl, rfl, rfl⟩) | (cases hw)
theorem q_tyat {D : va_G} {Cy : Nat → ClassId} {S : Nat → Nat} {s : State} (hKq : q_K D Cy S s) : ∀ t, t < 6 → ∃ ty, (q_ty Cy)[t]? = some (Cy (50 + t), ty) ∧ ArrOfT s (Cy (50 + t)) ty ∧ va_RA s (Cy (50 + t)) ty := by
  intro t ht
  match t, ht with
  | 0, _ => exact ⟨_, rfl, hKq.1.2 0 _ rfl⟩
  | 1, _ => exact ⟨_, rfl, hKq.1.2 1 _ rfl⟩
  | 2, _ => exact ⟨_, rfl, hKq.1.2 2 _ rfl⟩
  | 3, _ => exact ⟨_, rfl, hKq.1.2 3 _ rfl⟩
  | 4, _ => exact ⟨_, rfl, hKq.1.2 4 _ rfl⟩
  | 5, _ => exact ⟨_, rfl, hKq.1.2 5 _ rfl⟩
theorem q_cen {ci b : Nat} (hb : b ≠ hN h) : q_ce Cy (nO h ci) b = q_ce Cy h b := by
  have e1 : hK (nO h ci) b = hK h b := va_up_ne _ _ hb
  have e2 : ∀ c', q_fv (nO h ci) c' b = q_fv h c' b := by
    intro c'
    funext j
    simp [q_fv, nO, hI, hR, hJ, hb]
  unfold q_ce
  rw [e1, e2]
  rfl
theorem q_cena {ci n b : Nat} (hb : b ≠ hN h) : q_ce Cy (nA h ci n) b = q_ce Cy h b := by
  have e1 : hK (nA h ci n) b = hK h b := va_up_ne _ _ hb
  have e2 : hL (nA h ci n) b = hL h b := va_up_ne _ _ hb
  have e3 : hA (nA h ci n) b = hA h b := va_up_ne _ _ hb
  have e4 : hB (nA h ci n) b = hB h b := va_up_ne _ _ hb
  unfold q_ce
  rw [e1, e2, e3, e4]
  rfl
/-- new -/
theorem q_newr (X : q_Cx p R s mid args meth c base D Cy S m g) (hV : q_V base D Cy S Hb s h H locs) {i ci : Nat} (hf : qk_k (mO m) i = some ci) (hcells : cells + 1 ≤ R.cells) (hslots : slots + q_nf ci ≤ R.slots) (hdg : decode (mC m) pc = .ok (.new i, 3))
    (kk : ∀ (H1 : Heap), q_V base D Cy S Hb s (nO h ci) H1 locs → W p l e R s mid args below meth c H1 locs (cells + 1) (slots + q_nf ci) Q (F0 mid (pc + 3) lsA (.ref (hN h) :: rest))) : W p l e R s mid args below meth c H locs cells slots Q (F0 mid pc lsA rest) := by
  obtain ⟨hx, hb, hml, hr, hown, hts, hlocks, hname, hKq, hbs, hfr, hlo⟩ := X
  unfold qk_k at hf
  obtain ⟨en, he, rfl⟩ := Option.map_eq_some_iff.mp hf
  have h1 := List.find?_some he
  obtain ⟨g1, g2⟩ := q_okk en (List.mem_of_find?_eq_some he)
  simp only [Bool.and_eq_true, beq_iff_eq] at h1
  rw [h1.1, h1.2] at g1
  have hc := q_klsat en.2.2.1 (by omega)
  have hin := q_cwa en.2.2.1 (by omega)
  have hKn := hKq.1.1 _ _ hc
  have hsz : H.size = hN h := hV.1.1
  have hcl := q_g _ g1 (show goodWord _ = true from rfl)
  refine W.newcK hx hb hown (hts _ hcl) (hts _ (q_insta _ (by omega)).1) (hts _ (q_insta _ (by omega)).2) rfl hdg hcells hslots hKn.2.1 hsz fun H1 kC hkC e1 z1 o1 => ?_
  have hnk : ∀ b, b ≠ hN h → hK (nO h en.2.2.1) b = hK h b := fun b hb => va_up_ne _ _ hb
  have hself : hK (nO h en.2.2.1) (hN h) = en.2.2.1 := va_up_self _ _ _
  refine kk H1 (hV.of (hV.1.new (c := en.2.2.1) (by omega) rfl rfl (fun b hb _ => q_cen hb) (by rw [z1, hsz]) (fun q hq => o1 q (by omega)) ?_) ⟨Nat.le_trans hV.2.2.2.2.1.1 (by omega), fun q h1 h2 => (o1 q (by have := hV.2.2.2.2.1.1; omega)).trans (hV.2.2.2.2.1.2.1 q h1 h2), hV.2.2.2.2.1.2.2⟩ (fun b hb => ?_) ⟨fun b hb i => ?_, fun b hb i y hy => ?_, fun b hb => ?_⟩ rfl)
  · unfold q_ce
    rw [hself, if_pos (by omega)]
    refine ⟨_, hc, (u_born (q_tya en.2.2.1) hts hin hKn hkC e1 (q_tyok _ (by omega))).to (fun j hj => ?_)⟩
    obtain ⟨f0, f1, f3, f2, f4⟩ := q_fit en.2.2.1 (by omega) j hj
    have e9 : vp_V ((List.range (q_nf en.2.2.1)).map (q_fv (nO h en.2.2.1) en.2.2.1 (hN h))) j = q_fv (nO h en.2.2.1) en.2.2.1 (hN h) j := by
      have hj' : j < q_nf en.2.2.1 := hj
      simp [vp_V, hj']
    rw [e9]
    rcases (show q_fs en.2.2.1 j = 0 ∨ q_fs en.2.2.1 j = 1 ∨ q_fs en.2.2.1 j = 2 ∨ q_fs en.2.2.1 j = 3 by omega) with z | z | z | z
    · rw [f0 z]; simp [q_fv, z, nO, hI, defaultValue]
    · rw [f1 z]; simp [q_fv, z, nO, hI, defaultValue]
    · have := f2 z
      cases hq : q_tya en.2.2.1 j <;> rw [hq] at this <;> first | (simp [q_fv, z, nO, hR, defaultValue, va_rf]; done) | (exact absurd this (by decide))
    · rw [f3 z]; simp [q_fv, z, nO, hJ, defaultValue]
  · by_cases hbn : b = hN h
    · subst hbn; rw [hself] at hb; omega
    · exact ⟨(hnk b hbn).symm, rfl, rfl⟩
  · by_cases hbn : b = hN h
    · subst hbn; rw [hself] at hb; omega
    · rw [hnk b hbn] at hb; exact hV.2.2.1.1 b hb i
  · by_cases hbn : b = hN h
    · subst hbn; rw [hself] at hb; omega
    · rw [hnk b hbn] at hb
      have h2 := hV.2.2.1.2.1 b hb i y hy
      have h3 := (hV.1.2.2 y (by omega)).2.1
      rw [hnk y (by omega)]
      exact h2
  · by_cases hbn : b = hN h
    · subst hbn; rw [hself] at hb; omega
    · rw [hnk b hbn] at hb
      exact hV.2.2.1.2.2 b hb
/-- an array is made: the picture behind it -/
theorem q_V.newa {H1 : Heap} {k n : Nat} (hV : q_V base D Cy S Hb s h H locs) (hk : 50 ≤ k) (hk2 : k < 56) (z1 : H1.size = hN h + 1) (o1 : ∀ q, q < hN h → H1[q]? = H[q]?) (e1 : va_at D q_kls (hN h, q_ce Cy (nA h k n) (hN h)) H1) (h55 : k = 55 → n ≤ 1000000) : q_V base D Cy S Hb s (nA h k n) H1 locs := by
  have hsz : H.size = hN h := hV.1.1
  have hnk : ∀ b, b ≠ hN h → hK (nA h k n) b = hK h b := fun b hb => va_up_ne _ _ hb
  have hself : hK (nA h k n) (hN h) = k := va_up_self _ _ _
  refine hV.of (hV.1.new (c := k) (by omega) rfl rfl (fun b hb _ => q_cena hb) (by rw [z1, hsz]) (fun q hq => o1 q (by omega)) e1) ⟨Nat.le_trans hV.2.2.2.2.1.1 (by omega), fun q h1 h2 => (o1 q (by have := hV.2.2.2.2.1.1; omega)).trans (hV.2.2.2.2.1.2.1 q h1 h2), hV.2.2.2.2.1.2.2⟩ (fun b hb => ?_) ⟨fun b hb i => ?_, fun b hb i y hy => ?_, fun b hb => ?_⟩ rfl
  · by_cases hbn : b = hN h
    · subst hbn; rw [hself] at hb; omega
    · exact ⟨(hnk b hbn).symm, va_up_ne _ _ hbn, va_up_ne _ _ hbn⟩
  · by_cases hbn : b = hN h
    · subst hbn
      have : hA (nA h k n) (hN h) = fun _ => 0 := va_up_self _ _ _
      rw [this]
      rfl
    · rw [hnk b hbn] at hb
      have : hA (nA h k n) b = hA h b := va_up_ne _ _ hbn
      rw [this]
      exact hV.2.2.1.1 b hb i
  · by_cases hbn : b = hN h
    · subst hbn
      have : hB (nA h k n) (hN h) = fun _ => none := va_up_self _ _ _
      rw [this] at hy
      cases hy
    · rw [hnk b hbn] at hb
      have : hB (nA h k n) b = hB h b := va_up_ne _ _ hbn
      rw [this] at hy
      have h2 := hV.2.2.1.2.1 b hb i y hy
      have h3 := (hV.1.2.2 y (by omega)).2.1
      rw [hnk y (by omega)]
      exact h2
  · by_cases hbn : b = hN h
    · subst hbn
      rw [hself] at hb
      rw [show hL (nA h k n) (hN h) = n from va_up_self _ _ _]
      exact h55 hb
    · rw [hnk b hbn] at hb
      rw [show hL (nA h k n) b = hL h b from va_up_ne _ _ hbn]
      exact hV.2.2.1.2.2 b hb
theorem q_ceA {k n : Nat} (h1 : 50 ≤ k) (h2 : k < 53) : q_ce Cy (nA h k n) (hN h) = .inl (Cy k, n, .inl (fun _ => 0)) := by
  have e0 : hK (nA h k n) (hN h) = k := va_up_self _ _ _
  have e1 : hL (nA h k n) (hN h) = n := va_up_self _ _ _
  have e2 : hA (nA h k n) (hN h) = fun _ => 0 := va_up_self _ _ _
  unfold q_ce
  rw [e0, if_neg (by omega), if_pos h2, e1, e2]
theorem q_ceQ {k n : Nat} (h1 : 53 ≤ k) : q_ce Cy (nA h k n) (hN h) = .inl (Cy k, n, .inr (.inr (.inr (.inr (fun _ => none))))) := by
  have e0 : hK (nA h k n) (hN h) = k := va_up_self _ _ _
  have e1 : hL (nA h k n) (hN h) = n := va_up_self _ _ _
  have e2 : hB (nA h k n) (hN h) = fun _ => none := va_up_self _ _ _
  unfold q_ce
  rw [e0, if_neg (by omega), if_neg (by omega), e1, e2]
/-- newarray -/
theorem q_newar (X : q_Cx p R s mid args meth c base D Cy S m g) (hV : q_V base D Cy S Hb s h H locs) {t : ArrayType} {n : Int32} (ht : q_akind (newarray.typeOf t) < 56) (hn : ¬ (n < 0 ∨ 1000000 < n.toNatClampNeg)) (hcells : cells + 1 ≤ R.cells) (hslots : slots + n.toNatClampNeg ≤ R.slots) (hdg : decode (mC m) pc = .ok (.newarray t, 2))
    (kk : ∀ (H1 : Heap), q_V base D Cy S Hb s (nA h (q_akind (newarray.typeOf t)) n.toNatClampNeg) H1 locs → W p l e R s mid args below meth c H1 locs (cells + 1) (slots + n.toNatClampNeg) Q (F0 mid (pc + 2) lsA (.ref (hN h) :: rest))) : W p l e R s mid args below meth c H locs cells slots Q (F0 mid pc lsA (.int n :: rest)) := by
  obtain ⟨hx, hb, hml, hr, hown, hts, hlocks, hname, hKq, hbs, hfr, hlo⟩ := X
  have hsz : H.size = hN h := hV.1.1
  have hty : newarray.typeOf t = .int ∨ newarray.typeOf t = .boolean ∨ newarray.typeOf t = .byte := by
    cases hq : newarray.typeOf t <;> rw [hq] at ht <;> simp [q_akind] at ht ⊢
  have fin : ∀ (ty : FieldType) (k : Nat), newarray.typeOf t = ty → q_akind ty = k → 50 ≤ k → k < 53 → componentBytes ty ≤ 4 → defaultValue ty = .int 0 → (Cond.arrayClass ty).before args s = true → (∀ cA, s.vm.findClass ("[" ++ ty.toString) = some cA → cA = Cy k) → W p l e R s mid args below meth c H locs cells slots Q (F0 mid pc lsA (.int n :: rest)) := by
    intro ty k h1 h2 h3 h4 h5 h6 h7 h8
    subst h1
    rw [h2] at kk
    refine va_newaK hx hb h7 rfl hdg rfl (fun z => hn (Or.inl z)) rfl ?_ hcells hslots hsz fun H1 cA e1 z1 o1 hAr hNm => kk H1 (hV.newa h3 (by omega) z1 o1 ?_ (fun z => by omega))
    · have : n.toNatClampNeg ≤ 1000000 := Nat.not_lt.mp fun z => hn (Or.inr z)
      calc n.toNatClampNeg * _ ≤ 1000000 * 4 := Nat.mul_le_mul this h5
        _ ≤ 536870912 := by decide
    · rw [q_ceA h3 h4, ← h8 cA hNm]
      show H1[hN h]? = some (vp_cell _ _)
      rw [e1, h6]
      rfl
  rcases hty with z | z | z
  · exact fin .int 50 z rfl (by omega) (by omega) (by decide) rfl (hts _ (q_g _ q_oa_int rfl)) (fun cA h => Option.some.inj (h.symm.trans (hKq.1.2 0 _ rfl).2))
  · exact fin .boolean 51 z rfl (by omega) (by omega) (by decide) rfl (hts _ (q_g _ q_oa_boolean rfl)) (fun cA h => Option.some.inj (h.symm.trans (hKq.1.2 1 _ rfl).2))
  · exact fin .byte 52 z rfl (by omega) (by omega) (by decide) rfl (hts _ (q_g _ q_oa_byte rfl)) (fun cA h => Option.some.inj (h.symm.trans (hKq.1.2 2 _ rfl).2))
/-- anewarray -/
theorem q_anewr (X : q_Cx p R s mid args meth c base D Cy S m g) (hV : q_V base D Cy S Hb s h H locs) {i ci k : Nat} {n : Int32} (hf : qk_k (mO m) i = some ci) (hci : ci = 0 ∧ k = 53 ∨ ci = 2 ∧ k = 54) (hn : ¬ (n < 0 ∨ 1000000 < n.toNatClampNeg)) (hcells : cells + 1 ≤ R.cells) (hslots : slots + n.toNatClampNeg ≤ R.slots) (hdg : decode (mC m) pc = .ok (.anewarray i, 3))
    (kk : ∀ (H1 : Heap), q_V base D Cy S Hb s (nA h k n.toNatClampNeg) H1 locs → W p l e R s mid args below meth c H1 locs (cells + 1) (slots + n.toNatClampNeg) Q (F0 mid (pc + 3) lsA (.ref (hN h) :: rest))) : W p l e R s mid args below meth c H locs cells slots Q (F0 mid pc lsA (.int n :: rest)) := by
  obtain ⟨hx, hb, hml, hr, hown, hts, hlocks, hname, hKq, hbs, hfr, hlo⟩ := X
  have hsz : H.size = hN h := hV.1.1
  unfold qk_k at hf
  obtain ⟨en, he, rfl⟩ := Option.map_eq_some_iff.mp hf
  have h1 := List.find?_some he
  obtain ⟨g1, g2⟩ := q_okk en (List.mem_of_find?_eq_some he)
  simp only [Bool.and_eq_true, beq_iff_eq] at h1
  rw [h1.1, h1.2] at g1
  have hcl := q_g _ g1 (show goodWord _ = true from rfl)
  have h4 : n.toNatClampNeg * 4 ≤ 536870912 := by
    have : n.toNatClampNeg ≤ 1000000 := Nat.not_lt.mp fun z => hn (Or.inr z)
    omega
  have fin : ∀ C, q_rn en.2.2.1 = C → va_AO C s → (∀ cA, s.vm.findClass ("[" ++ (FieldType.object C).toString) = some cA → cA = Cy k) → W p l e R s mid args below meth c H locs cells slots Q (F0 mid pc lsA (.int n :: rest)) := by
    intro C hC hO hCy
    subst hC
    refine W.anew hx hb hown (hts _ hcl) (va_AO.use hO) rfl hdg rfl (fun z => hn (Or.inl z)) h4 hcells hslots fun cA kA comp f1 f2 f3 f4 => ?_
    rw [hsz]
    refine kk _ (hV.newa (by omega) (by omega) (by simp [hsz]) (fun q hq => by rw [Array.getElem?_push, if_neg (by omega)]) ?_ (fun z => by omega))
    rw [q_ceQ (by omega), ← hCy cA f1]
    show (H.push _)[hN h]? = some (vp_cell _ _)
    rw [← hsz, Array.getElem?_push_size, vp_cell_q, arrV_new]
    rfl
  rcases hci with ⟨z, z2⟩ | ⟨z, z2⟩
  · subst z2
    exact fin "PageWeb$Change" (by rw [z]; rfl) hKq.2.2.2.2.2.1.1 (fun cA h => Option.some.inj (h.symm.trans (hKq.1.2 3 _ rfl).2.choose_spec.choose_spec.2.2.2))
  · subst z2
    exact fin "PageWeb$Name" (by rw [z]; rfl) hKq.2.2.2.2.2.1.2.1 (fun cA h => Option.some.inj (h.symm.trans (hKq.1.2 4 _ rfl).2.choose_spec.choose_spec.2.2.2))
end QR2
