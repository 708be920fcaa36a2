/-! THE START: what the pure machine is told of the machine's first heap -/
def q_tm (i : Nat) : Term := ([Term.string "PageWeb$Reader" 11, Term.string "PageWeb$Reader" 71, Term.string "PageWeb" 323, Term.string "PageWeb" 325] : List Term).getD i (Term.string "PageWeb$Reader" 11)
def q_fl : List Jvm.Cond := flatC (Jvm.Cond.and given_1 narrow_1)
theorem qn_ex : ∀ i, i < 4 → Cond.exactly (q_tm i) "java/lang/String" ∈ q_fl := by decide +kernel
theorem qn_co : ∀ i, i < 4 → Cond.eq (.field (q_tm i) "java/lang/String" "coder" "B") (.int 0) ∈ q_fl := by decide +kernel
theorem qn_ar : ∀ i, i < 4 → Cond.arrayOf (.field (q_tm i) "java/lang/String" "value" "[B") .byte ∈ q_fl := by decide +kernel
theorem qn_le : ∀ i, i < 4 → Cond.eq (.length (.field (q_tm i) "java/lang/String" "value" "[B")) (.int (Int32.ofNat (q_sl.getD i 0))) ∈ q_fl := by decide +kernel
theorem qn_el : ∀ i, i < 4 → ∀ j, j < q_sl.getD i 0 → Cond.eq (.elem (.field (q_tm i) "java/lang/String" "value" "[B") (.int (Int32.ofNat j))) (.int ((q_sb.getD i []).getD j 0)) ∈ q_fl := by decide +kernel
theorem qn_ne : ∀ i, i < 4 → ∀ j, j < 4 → i ≠ j → Cond.not (Cond.eq (q_tm i) (q_tm j)) ∈ q_fl ∨ Cond.not (Cond.eq (q_tm j) (q_tm i)) ∈ q_fl := by decide +kernel
theorem qn_cs : Cond.eq (.static "java/lang/String" "COMPACT_STRINGS" "Z") (.int 1) ∈ q_fl := by decide +kernel
theorem qn_da : Cond.arrayOf (.static "java/util/ArrayList" "DEFAULTCAPACITY_EMPTY_ELEMENTDATA" "[Ljava/lang/Object;") (.object "java/lang/Object") ∈ q_fl := by decide +kernel
theorem qn_dl : Cond.eq (.length (.static "java/util/ArrayList" "DEFAULTCAPACITY_EMPTY_ELEMENTDATA" "[Ljava/lang/Object;")) (.int 0) ∈ q_fl := by decide +kernel
theorem qn_si : Cond.isRef (.static "jdk/internal/util/Preconditions" "SIOOBE_FORMATTER" "Ljava/util/function/BiFunction;") ∈ q_fl := by decide +kernel
theorem qn_mi : Cond.isRef (.mirror "[Ljava/lang/Object;") ∈ q_fl := by decide +kernel
theorem qn_e0 : Cond.eq (.string "PageWeb$Reader" 11) (.string "PageWeb$Name" 22) ∈ q_fl := by decide +kernel
theorem qn_e1 : Cond.eq (.string "PageWeb$Reader" 71) (.string "PageWeb" 317) ∈ q_fl := by decide +kernel
theorem qw_n0 : Cond.methodLinkNest RX10 41 yX5_init "PageWeb" ∈ lw_tbl := List.mem_of_getElem? (i := 137) (by decide +kernel)
theorem qw_n1 : Cond.methodLinkNest RX10 48 yX9_init "PageWeb" ∈ lw_tbl := List.mem_of_getElem? (i := 161) (by decide +kernel)
theorem qw_n2 : Cond.methodLinkNest RX10 71 yX3_init "PageWeb" ∈ lw_tbl := List.mem_of_getElem? (i := 245) (by decide +kernel)
theorem qw_ca : Cond.castable "PageWeb$Name" "java/lang/Object" ∈ lw_tbl := List.mem_of_getElem? (i := 1527) (by decide +kernel)
theorem qw_a0 : Cond.arrayOver (.object "PageWeb$Change") ∈ lw_tbl := List.mem_of_getElem? (i := 166) (by decide +kernel)
theorem qw_a1 : Cond.arrayOver (.object "PageWeb$Name") ∈ lw_tbl := List.mem_of_getElem? (i := 168) (by decide +kernel)
theorem qw_a2 : Cond.arrayOver (.object "java/lang/Object") ∈ lw_tbl := List.mem_of_getElem? (i := 1028) (by decide +kernel)
theorem qw_dc : Cond.declares ⟨"java/lang/Object", "getClass", "()Ljava/lang/Class;"⟩ ∈ lw_tbl := List.mem_of_getElem? (i := 1542) (by decide +kernel)
theorem qw_l0 : Cond.laysStatic "java/lang/String" "COMPACT_STRINGS" "Z" ∈ lw_tbl := List.mem_of_getElem? (i := 152) (by decide +kernel)
theorem qw_l1 : Cond.laysStatic "java/util/ArrayList" "DEFAULTCAPACITY_EMPTY_ELEMENTDATA" "[Ljava/lang/Object;" ∈ lw_tbl := List.mem_of_getElem? (i := 262) (by decide +kernel)
theorem qw_l2 : Cond.laysStatic "jdk/internal/util/Preconditions" "SIOOBE_FORMATTER" "Ljava/util/function/BiFunction;" ∈ lw_tbl := List.mem_of_getElem? (i := 399) (by decide +kernel)
theorem qw_i0 : Cond.initialized "java/lang/String" ∈ lw_tbl := List.mem_of_getElem? (i := 81) (by decide +kernel)
theorem qw_i1 : Cond.initialized "java/util/ArrayList" ∈ lw_tbl := List.mem_of_getElem? (i := 88) (by decide +kernel)
theorem qw_i2 : Cond.initialized "jdk/internal/util/Preconditions" ∈ lw_tbl := List.mem_of_getElem? (i := 92) (by decide +kernel)
theorem qw_s : ∀ e ∈ ql_s, Cond.stringRef (q_rn e.1) e.2.1 (q_txt e.2.2.1) ∈ lw_tbl := by
  have h : ∀ e ∈ ql_s, lw_tbl[e.2.2.2]? = some (Cond.stringRef (q_rn e.1) e.2.1 (q_txt e.2.2.1)) := by decide +kernel
  exact fun e he => List.mem_of_getElem? (h e he)
theorem q_arC {args : Array Value} {s : State} {t : FieldType} (h : (Cond.arrayClass t).before args s = true) : ∃ c : ClassId, ArrOfT s c t ∧ s.vm.findClass ("[" ++ t.toString) = some c := by
  obtain ⟨c, kA, comp, h1, h2, h3⟩ := Cond.arrayClass_spec h
  exact ⟨c, fun n z => ⟨fun q h => (by cases h), kA, h2, comp, h3⟩, h1⟩
theorem q_arO {args : Array Value} {s : State} {C : String} (h : (Cond.arrayOver (.object C)).before args s = true) : ∃ c : ClassId, ArrOfT s c (.object C) ∧ va_RA s c (.object C) := by
  obtain ⟨comp, c, kA, h1, h2, h3, h4, h5⟩ := Cond.arrayOver_spec h
  exact ⟨c, fun n z => ⟨fun q h => (by cases h), kA, h3, comp, h4⟩, kA, comp, h3, h4, h1, h5⟩
theorem q_stY {args : Array Value} {s : State} (hts : ∀ w ∈ lw_tbl, w.before args s = true) : ∃ Cy : Nat → ClassId, ∀ (k : Nat) (q : ClassId × FieldType), (q_ty Cy)[k]? = some q → ArrOfT s q.1 q.2 ∧ va_RA s q.1 q.2 := by
  obtain ⟨c0, a0, b0⟩ := q_arC (hts _ (List.mem_of_getElem? q_oa_int))
  obtain ⟨c1, a1, b1⟩ := q_arC (hts _ (List.mem_of_getElem? q_oa_boolean))
  obtain ⟨c2, a2, b2⟩ := q_arC (hts _ (List.mem_of_getElem? q_oa_byte))
  obtain ⟨c3, a3, b3⟩ := q_arO (hts _ qw_a0)
  obtain ⟨c4, a4, b4⟩ := q_arO (hts _ qw_a1)
  obtain ⟨c5, a5, b5⟩ := q_arO (hts _ qw_a2)
  refine ⟨fun k => ([c0, c1, c2, c3, c4, c5] : List ClassId).getD (k - 50) c0, fun k q hq => ?_⟩
  match k, hq with
  | 0, hq =>
    have e : q = (c0, .int) := (Option.some.inj (show some (c0, .int) = some q from hq)).symm
    subst e
    exact ⟨a0, b0⟩
  | 1, hq =>
    have e : q = (c1, .boolean) := (Option.some.inj (show some (c1, .boolean) = some q from hq)).symm
    subst e
    exact ⟨a1, b1⟩
  | 2, hq =>
    have e : q = (c2, .byte) := (Option.some.inj (show some (c2, .byte) = some q from hq)).symm
    subst e
    exact ⟨a2, b2⟩
  | 3, hq =>
    have e : q = (c3, .object "PageWeb$Change") := (Option.some.inj (show some (c3, .object "PageWeb$Change") = some q from hq)).symm
    subst e
    exact ⟨a3, b3⟩
  | 4, hq =>
    have e : q = (c4, .object "PageWeb$Name") := (Option.some.inj (show some (c4, .object "PageWeb$Name") = some q from hq)).symm
    subst e
    exact ⟨a4, b4⟩
  | 5, hq =>
    have e : q = (c5, .object "java/lang/Object") := (Option.some.inj (show some (c5, .object "java/lang/Object") = some q from hq)).symm
    subst e
    exact ⟨a5, b5⟩
  | k + 6, hq => simp [q_ty] at hq
theorem q_stD {args : Array Value} {s : State} (hts : ∀ w ∈ gtb, w.before args s = true) : ∃ D : va_G, ∀ (c : Nat) (q : vw_C), q_kls[c]? = some q → u_Kn s q.1 q.2.1 q.2.2 (D.1 c) (D.2 c) := by
  obtain ⟨c0, i0, -⟩ := u_known hts (q_cwa 0 (by omega)) (hts _ (q_insta 0 (by omega)).1)
  have h : ∀ c : Nat, ∃ q : ClassId × (Nat → Nat), c < 13 → u_Kn s (q_rn c) (q_T c) (q_nf c) q.1 q.2 := by
    intro c
    by_cases hc : c < 13
    · obtain ⟨cC, iS, hk⟩ := u_known hts (q_cwa c hc) (hts _ (q_insta c hc).1)
      exact ⟨(cC, iS), fun _ => hk⟩
    · exact ⟨(c0, i0), fun h => absurd h hc⟩
  refine ⟨(fun c => (Classical.choose (h c)).1, fun c => (Classical.choose (h c)).2), fun c q hq => ?_⟩
  have hc : c < 13 := (List.getElem?_eq_some_iff.mp hq).1
  rw [q_klsat c hc] at hq
  cases hq
  exact Classical.choose_spec (h c) hc
theorem q_start {s : State} {b L : Nat} {xs : Nat → Int32} (hts : ∀ w ∈ lw_tbl, w.before #[Value.ref b] s = true) (hX : va_X b L xs s s.heap) (hgv : (Jvm.Cond.and given_1 narrow_1).before #[Value.ref b] s = true) :
    ∃ (D : va_G) (Cy : Nat → ClassId) (S : Nat → Nat), q_K D Cy S s ∧ q_Jx s.heap.size s.heap S s ∧ (∀ i j, i < 4 → j < 4 → S i = S j → i = j) ∧ (∀ i, i < 4 → S i ≠ b ∧ S i < s.heap.size) ∧ S 9 < s.heap.size := by
  have hs : ∀ w ∈ q_fl, w.before #[Value.ref b] s = true := flat_of_before _ hgv
  have hA : ∀ a : Nat, a < s.heap.size → ¬ (fun q => s.heap.size ≤ q) a := fun a h z => absurd h (Nat.not_lt.mpr z)
  obtain ⟨D, hD⟩ := q_stD (fun w hw => hts w (List.mem_filter.mp hw).1)
  obtain ⟨Cy, hY⟩ := q_stY hts
  obtain ⟨adK, adV, hS, hev⟩ := vk_Sof (args := #[Value.ref b]) (s := s) (tm := q_tm) (len := q_sl) (byt := q_sb) (N := 4) (A := fun q => s.heap.size ≤ q) (fun i hi => Nat.lt_of_le_of_lt (q_jl5 i hi) (by decide)) (fun i hi => hs _ (qn_ex i hi)) (fun i hi => hs _ (qn_co i hi)) (fun i hi => hs _ (qn_ar i hi)) (fun i hi => hs _ (qn_le i hi)) (fun i hi j hj => hs _ (qn_el i hi j hj)) (fun i j hi hj hij => (qn_ne i hi j hj hij).imp (fun z => hs _ z) (fun z => hs _ z)) hA
  obtain ⟨a9, ha9, hT9⟩ := va_Tof (tm := .static "java/util/ArrayList" "DEFAULTCAPACITY_EMPTY_ELEMENTDATA" "[Ljava/lang/Object;") (ty := .object "java/lang/Object") (N := 0) (f := fun _ => .null) (A := fun q => s.heap.size ≤ q) (by decide) (hs _ qn_da) (va_eqt (hs _ qn_dl)) (fun j hj => absurd hj (Nat.not_lt_zero j)) hA
  have eS : ∀ i, i < 4 → (fun i => if i = 9 then a9 else adK i) i = adK i := fun i hi => if_neg (by omega)
  have v0 := hev 0 (by omega)
  have v1 := hev 1 (by omega)
  have v2 := hev 2 (by omega)
  have v3 := hev 3 (by omega)
  refine ⟨D, Cy, fun i => if i = 9 then a9 else adK i, ⟨⟨hD, hY⟩, va_Nw.of rfl (hts _ qw_n0), va_Nw.of rfl (hts _ qw_n1), va_Nw.of rfl (hts _ qw_n2), va_Nw.of rfl (hts _ qw_ca), ⟨va_AO.of (hts _ qw_a0), va_AO.of (hts _ qw_a1), va_AO.of (hts _ qw_a2)⟩, fun e he => ?_⟩, ⟨⟨adV, fun i hi => ?_⟩, va_Zof (hts _ qw_l0) (hts _ qw_i0) (va_eqi (hs _ qn_cs)) hA, va_Zof (hts _ qw_l1) (hts _ qw_i1) ha9 hA, hT9, ?_, va_Mi.of (hs _ qn_mi), va_Dc.of (hts _ qw_dc)⟩, fun i j hi hj h => ?_, fun i hi => ?_, ?_⟩
  · refine vk_R.of (hts _ (qw_s e he)) ?_
    simp only [ql_s, List.mem_cons, List.not_mem_nil, or_false] at he
    rcases he with rfl | rfl | rfl | rfl | rfl | rfl
    · exact v0
    · exact v1
    · exact v2
    · exact va_eqR (hs _ qn_e0) v0
    · exact va_eqR (hs _ qn_e1) v1
    · exact v3
  · rw [eS i hi]
    exact hS.1 i hi
  · rcases va_Zqof (hts _ qw_l2) (hts _ qw_i2) (hs _ qn_si) hA with z | ⟨t, z⟩
    · exact ⟨none, z⟩
    · exact ⟨some t, z⟩
  · rw [eS i hi, eS j hj] at h
    exact hS.2 i j hi hj h
  · rw [eS i hi]
    obtain ⟨cf, k, fi, f, cell, g1, g2, g3, g4, g5, g6⟩ := (hS.1 i hi).2.2.1
    refine ⟨fun z => ?_, Nat.not_le.mp g6⟩
    obtain ⟨scr, x1, x2, x3, x4, x5⟩ := hX
    rw [z] at g3
    have ec : scr = cell := Option.some.inj (x1.symm.trans g3)
    rw [← ec] at g5
    have hlt : f.slot < scr.slots.size := (Array.getElem?_eq_some_iff.mp g5).1
    rw [x4] at hlt
    have := x5 _ hlt
    rw [g5] at this
    cases this
  · obtain ⟨cell, t1, t2, t3, t4, t5, t6, t7⟩ := hT9
    exact Nat.not_le.mp t7
/-- the first heap -/
def q_k0 (b : Nat) (S : Nat → Nat) (a : Nat) : Nat := if a = b then 60 else if a = S 0 then 70 else if a = S 1 then 71 else if a = S 2 then 72 else if a = S 3 then 73 else 99
def q_h0 (N b L : Nat) (xs : Nat → Int32) (S : Nat → Nat) : PH := (N, 0, q_k0 b S, fun _ => L, fun _ _ => 0, fun _ _ => none, fun _ _ => 0, fun _ => xs, fun _ _ => none, S)
theorem q_k0_ge (b : Nat) (S : Nat → Nat) (a : Nat) : 60 ≤ q_k0 b S a := by
  unfold q_k0
  repeat' split
  all_goals omega
theorem q_k0_60 {b a : Nat} {S : Nat → Nat} (h : q_k0 b S a = 60) : a = b := by
  unfold q_k0 at h
  repeat' (split at h)
  all_goals first | assumption | omega
theorem q_k0_70 {b a : Nat} {S : Nat → Nat} (h1 : 70 ≤ q_k0 b S a) (h2 : q_k0 b S a < 74) : a = S (q_k0 b S a - 70) := by
  unfold q_k0 at h1 h2 ⊢
  by_cases c0 : a = b
  · rw [if_pos c0] at h1; omega
  · rw [if_neg c0] at h1 h2 ⊢
    by_cases c1 : a = S 0
    · rw [if_pos c1]; exact c1
    · rw [if_neg c1] at h1 h2 ⊢
      by_cases c2 : a = S 1
      · rw [if_pos c2]; exact c2
      · rw [if_neg c2] at h1 h2 ⊢
        by_cases c3 : a = S 2
        · rw [if_pos c3]; exact c3
        · rw [if_neg c3] at h1 h2 ⊢
          by_cases c4 : a = S 3
          · rw [if_pos c4]; exact c4
          · rw [if_neg c4] at h2; omega
theorem q_k0_S {b : Nat} {S : Nat → Nat} (hi : ∀ i j, i < 4 → j < 4 → S i = S j → i = j) (hb : ∀ i, i < 4 → S i ≠ b) : ∀ k, k < 4 → q_k0 b S (S k) = 70 + k := by
  intro k hk
  have nb := hb k hk
  unfold q_k0
  rw [if_neg nb]
  match k, hk with
  | 0, _ => rw [if_pos rfl]
  | 1, _ => rw [if_neg (fun z => by have := hi 1 0 (by omega) (by omega) z; omega), if_pos rfl]
  | 2, _ => rw [if_neg (fun z => by have := hi 2 0 (by omega) (by omega) z; omega), if_neg (fun z => by have := hi 2 1 (by omega) (by omega) z; omega), if_pos rfl]
  | 3, _ => rw [if_neg (fun z => by have := hi 3 0 (by omega) (by omega) z; omega), if_neg (fun z => by have := hi 3 1 (by omega) (by omega) z; omega), if_neg (fun z => by have := hi 3 2 (by omega) (by omega) z; omega), if_pos rfl]
