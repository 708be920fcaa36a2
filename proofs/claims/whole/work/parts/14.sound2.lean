section QN
variable {l : Launch} {base : Nat} {D : va_G} {Cy : Nat → ClassId} {S : Nat → Nat} {Hb : Heap}
theorem q_gnx {g g' : Nat} {m c : Mt} (h : gnx g m c = some g') : q_fr g' c + 1 ≤ q_fr g m := by
  unfold gnx at h
  unfold q_fr
  split at h
  · cases h; omega
  · split at h
    · cases h
    · split at h
      · cases h; omega
      · cases h
set_option maxHeartbeats 4000000 in
/-- a call of the pure machine is one of the machine -/
theorem q_callW {p : Program} {e : Env} {R : Room} {s : State} {mid : MethodId} {args : Array Value} {below : List Frame} {meth : Method} {c : Code} {H : Heap} {locs : List Loc} {cells slots u0 : Nat} {Q : State → Prop} {m m' : Mt} {g g' : Nat} {h : PH} {pc n : Nat} {lsA : Array Slot} {ls : List (Option Value)} {st as rest : List Value} {i : Instr} {r : Option Value × PH}
    (X : q_Cx p R s mid args meth c base D Cy S m g) (hV : q_V base D Cy S Hb s h H locs) (hl : q_L lsA m ls) (hd : decode (mC m) pc = .ok (i, n)) (hok : q_lok i n = true) (ec : cof m i st h = some (m', as, rest)) (hg : gnx g m m' = some g') (hR : q_Run l base D Cy S Hb g' m' 0 (ent m' as) [] h r) (hE : q_E h r.2)
    (hc : cells + s.heap.size = hN h) (hu : slots + u0 = hU h) (r1 : hN r.2 ≤ s.heap.size + R.cells) (r2 : hU r.2 ≤ u0 + R.slots)
    (kk : ∀ (H1 : Heap) (locs1 : List Loc) (cells1 slots1 : Nat), q_V base D Cy S Hb s r.2 H1 locs1 → cells1 + s.heap.size = hN r.2 → slots1 + u0 = hU r.2 → W p l e R s mid args below meth c H1 locs1 cells1 slots1 Q (F0 mid (pc + 3) lsA (psh r.1 rest))) :
    W p l e R s mid args below meth c H locs cells slots Q (F0 mid pc lsA st) := by
  obtain ⟨hx, hb, hml, hr, hown, hts, hlocks, hname, hKq, hbs, hfr, hlo⟩ := X
  obtain ⟨hn3, k, sk, hm, hr8, hfit, hnl, hcase⟩ := q_cof hok ec
  subst hn3
  obtain ⟨en, hen, e1, e2, e3, okM, hcode⟩ := q_mth hm
  obtain ⟨ok1, ok2, ok3, ok4, ok6, ok7, ok8, ok9, ok10, ok11, ok12, ok13⟩ := okM
  obtain ⟨ok1a, ok1b⟩ := ok1
  rw [e3] at ok1a ok1b ok2 ok3 ok4 ok6 ok7 ok8 ok9 ok10 ok11 ok12
  rw [e2] at ok1a ok1b ok2 ok3 ok4 ok7 ok13
  rw [e1] at ok1a ok1b
  have hM := q_met hR hE ok10 ok8 hfit hnl
  have hE1 := hE.1
  have hE2 := hE.2.1
  have hgn := q_gnx hg
  have hrm : q_fr g' m' + 1 ≤ R.frames ∧ 8 + (mM m' + 11) + q_lo g' m' ≤ R.locals := by
    constructor
    · omega
    · unfold q_lo at hlo ⊢
      omega
  have hroom : cells + (hN r.2 - hN h) ≤ R.cells ∧ slots + (hU r.2 - hU h) ≤ R.slots := by constructor <;> omega
  have hrest : 2 * (F0 mid pc lsA st).monitorRoom + (rest.map fun v => v.category).sum ≤ 8 := lv_room (q_r8_cat hr8)
  have hgood : GoodIn gtb (q_ws m') := q_good (fun w hw => hw) hcode
  have hini := q_g _ ok6 (show goodWord _ = true from rfl)
  have hpc : ∀ U : State, U.heap = H → s.WarmedH U.vm → q_Pc base D Cy S Hb h as as.toArray U := by
    intro U hU hWm
    refine ⟨rfl, by rw [hU]; exact hV.1, hV.2.1.moved hWm.alike, hV.2.2.1, hV.2.2.2.1, hKq.warm hWm, fun q hq => ?_, by rw [hU, hV.1.1]; exact hV.1.2.1⟩
    rw [hU, hV.2.2.2.2.1.2.1 q (by omega) (by omega)]
    exact hV.2.2.2.2.2 q hq
  have hgo : va_Run p l e R s mid args below meth c H locs cells slots (hN r.2 - hN h) (hU r.2 - hU h) (F0 mid pc lsA st) rest (q_Qc base D Cy S r as.toArray) (fun q => base ≤ q) → W p l e R s mid args below meth c H locs cells slots Q (F0 mid pc lsA st) := by
    intro hrun
    refine q_callk hrun hV.2.2.2.2.1 (fun H1 locs1 hW1 hB1 hS1 hs1 => ?_)
    rw [← q_psh]
    exact kk H1 locs1 _ _ (hV.of hW1 hs1 hE.2.2.2.2 hB1 hE.2.2.1) (by omega) (by omega)
  rcases hcase with ⟨hi, hs, hlen, hst⟩ | ⟨b, As, has, hlen, hst, hcase⟩
  · subst hi hs
    have w1 := q_g _ (ok1a (by decide)) (show goodWord _ = true from rfl)
    have w2 := q_g _ (ok2 rfl) (show goodWord _ = true from rfl)
    refine hgo (va_runS (nL := mM m) ⟨hx, hb, hml, hown, hts⟩ hM ⟨callB_of (mP m') hts hgood rfl rfl rfl (hts _ hini) (hts _ w1) ok9 hrm, hts _ w2⟩ ⟨q_blind, hpc⟩ rfl hlen hl.1.1 hst hrest hd hroom)
  · subst has
    rcases hcase with ⟨hi, hs, hk⟩ | ⟨hi, hs⟩
    · subst hi hs
      have w1 := q_g _ (ok1a (by decide)) (show goodWord _ = true from rfl)
      have w2 := q_g _ (ok3 (by decide)) (show goodWord _ = true from rfl)
      have w3 := q_g _ (ok4 rfl) (show goodWord _ = true from rfl)
      have hat := hV.1.obj (show mO m' < 50 by omega) hk
      refine hgo (va_runV (nL := mM m) (C := q_rn (mO m')) ⟨hx, hb, hml, hown, hts⟩ hM ⟨callB_of (mP m') hts hgood rfl rfl rfl (hts _ hini) (hts _ w1) ok9 hrm, hts _ w2, hts _ w3⟩ ⟨q_blind, va_recv hKq.1 (q_P1 hat) (q_klsat _ (by omega)) (q0 := 0) rfl, hpc⟩ rfl hlen hl.1.1 hst hrest hd hroom)
    · subst hi
      have w2 := q_g _ (ok3 (by rcases hs with z | z <;> rw [z] <;> decide)) (show goodWord _ = true from rfl)
      have hin := ok7 (by omega)
      rcases hs with hs | hs
      · subst hs
        have w1 := q_g _ (ok1a (by decide)) (show goodWord _ = true from rfl)
        rw [hin.2] at hcode
        have hcb := callB_of (R := R) (ws := q_ws m') (ws' := gtb) (rm := { frames := q_fr g' m', cells := hN r.2 - hN h, slots := hU r.2 - hU h, locals := q_lo g' m' }) (mP m') hts hgood (by unfold q_ws; rfl) rfl rfl (hts _ hini) (hts _ w1) ok9 hrm
        rw [hin.2] at hcb
        exact hgo (va_runI (nL := mM m) ⟨hx, hb, hml, hown, hts⟩ hM ⟨hcb, hin.1, hts _ w2⟩ ⟨q_blind, hpc⟩ rfl hlen hl.1.1 hst hrest hd hroom)
      · subst hs
        obtain ⟨hc10, hmem⟩ := ok1b rfl
        have hnest : va_Nw (.methodLinkNest (q_rn (mO m)) k (mY m') "PageWeb") s := by
          rw [hc10]
          simp only [List.mem_cons, Prod.mk.injEq, List.not_mem_nil, or_false] at hmem
          rcases hmem with ⟨z1, z2⟩ | ⟨z1, z2⟩ | ⟨z1, z2⟩
          · rw [z1, z2]; exact hKq.2.1
          · rw [z1, z2]; exact hKq.2.2.1
          · rw [z1, z2]; exact hKq.2.2.2.1
        have hcb := va_cnB (R := R) (ws := q_ws m') (ws' := gtb) (rm := { frames := q_fr g' m', cells := hN r.2 - hN h, slots := hU r.2 - hU h, locals := q_lo g' m' }) (mP m') hts hgood (by unfold q_ws; rfl) rfl rfl hnest (hts _ hini) ok9 hrm
        rw [hin.2] at hcb
        exact hgo (va_runIN (nL := mM m) ⟨hx, hb, hml, hown, hts⟩ hM ⟨hcb, hin.1, hts _ w2⟩ ⟨q_blind, hpc⟩ rfl hlen hl.1.1 hst hrest hd hroom)
set_option maxHeartbeats 4000000 in
/-- THE PURE MACHINE IS THE MACHINE -/
theorem q_sound (hJ : ∀ j, j < 12 → q_JR l base D Cy S Hb j) {g : Nat} {m : Mt} {pc : Nat} {ls : List (Option Value)} {st : List Value} {h : PH} {r : Option Value × PH} (e : ev g m pc ls st h = some r) : q_E h r.2 ∧ q_Run l base D Cy S Hb g m pc ls st h r := by
  refine ev.partial_correctness (fun g m pc ls st h r => q_E h r.2 ∧ q_Run l base D Cy S Hb g m pc ls st h r) ?_ g m pc ls st h r e
  intro f IH g m pc ls st h r e
  split at e
  · cases e
  · rename_i d hd
    obtain ⟨i, n⟩ := d
    dsimp only at e
    split at e
    · rename_i hok
      split at e
      · rename_i rv hro
        cases e
        refine ⟨q_E.rf _, ?_⟩
        intro p e R s mid args below meth c H locs cells slots u0 Q lsA X hV hl hc hu r1 r2 hret
        have hst := q_rof hro
        subst hst
        exact hret pc lsA H locs cells slots n i hd hok hro hV hc hu
      · split at e
        · rename_i cc hcof
          obtain ⟨m', as, rest⟩ := cc
          dsimp only at e
          split at e
          · cases e
          · rename_i g' hg
            obtain ⟨q1, h1, h2⟩ := Option.bind_eq_some_iff.mp e
            obtain ⟨a1, a2⟩ := IH _ _ _ _ _ _ _ h1
            obtain ⟨b1, b2⟩ := IH _ _ _ _ _ _ _ h2
            refine ⟨a1.tr b1, ?_⟩
            intro p e R s mid args below meth c H locs cells slots u0 Q lsA X hV hl hc hu r1 r2 hret
            have := b1.1
            have := b1.2.1
            exact q_callW X hV hl hd hok hcof hg a2 a1 hc hu (by omega) (by omega) (fun H1 locs1 cells1 slots1 hV1 hc1 hu1 => b2 p e R s mid args below meth c H1 locs1 cells1 slots1 u0 Q lsA X hV1 hl hc1 hu1 r1 r2 hret)
        · split at e
          · cases e
          · rename_i q hq
            obtain ⟨b1, b2⟩ := IH _ _ _ _ _ _ _ e
            refine ⟨(q_E.sim hq).tr b1, ?_⟩
            intro p e R s mid args below meth c H locs cells slots u0 Q lsA X hV hl hc hu r1 r2 hret
            have := b1.1
            have := b1.2.1
            exact q_simW X hV hl hJ hd hok hq hc hu (by omega) (by omega) (fun H1 locs1 lsB cells1 slots1 hV1 hl1 hc1 hu1 => b2 p e R s mid args below meth c H1 locs1 cells1 slots1 u0 Q lsB X hV1 hl1 hc1 hu1 r1 r2 hret)
    · cases e
end QN
