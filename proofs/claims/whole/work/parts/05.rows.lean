/-! THE PURE MACHINE IS THE MACHINE: rows for its steps -/
theorem q_u_same {α : Type} (f : Nat → Nat → α) (k a : Nat) (v : α) : q_u f k a v k a = v := by simp [q_u]
/-- the cell at an address, as the kit says it -/
def q_ce (Cy : Nat → ClassId) (h : PH) (a : Nat) : va_E :=
  if hK h a < 50 then .inr (hK h a, (List.range (q_nf (hK h a))).map (q_fv h (hK h a) a))
  else if hK h a < 53 then .inl (Cy (hK h a), hL h a, .inl (hA h a))
  else .inl (Cy (hK h a), hL h a, .inr (.inr (.inr (.inr (hB h a)))))
/-- the heap's picture: from 'base' on it is ours -/
def q_W (base : Nat) (D : va_G) (Cy : Nat → ClassId) (h : PH) (H : Heap) : Prop :=
  H.size = hN h ∧ base ≤ hN h ∧ ∀ a, hK h a < 60 → base ≤ a ∧ a < hN h ∧ hK h a < 56 ∧ va_at D q_kls (a, q_ce Cy h a) H
def q_ty (Cy : Nat → ClassId) : List (ClassId × FieldType) := [(Cy 50, .int), (Cy 51, .boolean), (Cy 52, .byte), (Cy 53, .object "PageWeb$Change"), (Cy 54, .object "PageWeb$Name"), (Cy 55, .object "java/lang/Object")]
def q_txt (k : Nat) : String := (["kind:", "#to ", "[[", "]]"] : List String).getD k ""
/-- what the tables say -/
def q_K (D : va_G) (Cy : Nat → ClassId) (S : Nat → Nat) (U : State) : Prop :=
  va_K D q_kls (q_ty Cy) U ∧ va_Nw (.methodLinkNest RX10 41 yX5_init "PageWeb") U ∧ va_Nw (.methodLinkNest RX10 48 yX9_init "PageWeb") U ∧ va_Nw (.methodLinkNest RX10 71 yX3_init "PageWeb") U ∧
  va_Nw (.castable "PageWeb$Name" "java/lang/Object") U ∧ (va_AO "PageWeb$Change" U ∧ va_AO "PageWeb$Name" U ∧ va_AO "java/lang/Object" U) ∧ ∀ e ∈ ql_s, vk_R (q_rn e.1) e.2.1 (q_txt e.2.2.1) (S e.2.2.1) U
/-- lengths and bytes of the texts -/
def q_sl : List Nat := [5, 4, 2, 2]
def q_sb : List (List Int32) := [[107, 105, 110, 100, 58], [35, 116, 111, 32], [91, 91], [93, 93]]
/-- what the JDK's members read: the texts' cells, statics, the class object of Object[] -/
def q_Jx (base : Nat) (Hb : Heap) (S : Nat → Nat) (U : State) : Prop :=
  (∃ adV : Nat → Nat, ∀ i, i < 4 → va_O "java/lang/String" (S i) (fun q => base ≤ q) U Hb ∧ va_OF "java/lang/String" "coder" "B" (.int 0) (S i) (fun q => base ≤ q) U Hb ∧ va_OF "java/lang/String" "value" "[B" (.ref (adV i)) (S i) (fun q => base ≤ q) U Hb ∧ va_T .byte (adV i) (q_sl.getD i 0) (fun j => .int ((q_sb.getD i []).getD j 0)) (fun q => base ≤ q) U Hb) ∧
  va_Z "java/lang/String" "COMPACT_STRINGS" "Z" (.int 1) (fun q => base ≤ q) U Hb ∧ va_Z "java/util/ArrayList" "DEFAULTCAPACITY_EMPTY_ELEMENTDATA" "[Ljava/lang/Object;" (.ref (S 9)) (fun q => base ≤ q) U Hb ∧ va_T (.object "java/lang/Object") (S 9) 0 (fun _ => .null) (fun q => base ≤ q) U Hb ∧
  (∃ x : Option Nat, va_Z "jdk/internal/util/Preconditions" "SIOOBE_FORMATTER" "Ljava/util/function/BiFunction;" (va_rf x) (fun q => base ≤ q) U Hb) ∧ (∃ mi, va_Mi "[Ljava/lang/Object;" mi U) ∧ va_Dc U
theorem q_Jx.moved {base : Nat} {Hb : Heap} {S : Nat → Nat} {s U : State} (hv : s.vm.Alike U.vm) (h : q_Jx base Hb S s) : q_Jx base Hb S U := by
  obtain ⟨⟨adV, h1⟩, h2, h3, h4, ⟨x, h5⟩, ⟨mi, h6⟩, h7⟩ := h
  exact ⟨⟨adV, fun i hi => ⟨va_O.moved hv (h1 i hi).1, va_OF.moved hv (h1 i hi).2.1, va_OF.moved hv (h1 i hi).2.2.1, va_T.moved hv (h1 i hi).2.2.2⟩⟩, va_Z.moved hv h2, va_Z.moved hv h3, va_T.moved hv h4, ⟨x, va_Z.moved hv h5⟩, ⟨mi, va_Mi.moved hv h6⟩, va_Dc.moved hv h7⟩
/-- the script, the texts -/
def q_X (base : Nat) (Hb : Heap) (h : PH) (U : State) : Prop := (∀ a, hK h a = 60 → a < base ∧ va_X a (hL h a) (hA h a) U Hb) ∧ q_Jx base Hb (hS h) U ∧ ∀ a, 70 ≤ hK h a → hK h a < 74 → a = hS h (hK h a - 70)
theorem q_K.warm {D : va_G} {Cy : Nat → ClassId} {S : Nat → Nat} {s U : State} (hW : s.WarmedH U.vm) (h : q_K D Cy S s) : q_K D Cy S U := by
  obtain ⟨h1, h2, h3, h4, h5, ⟨h6, h7, h8⟩, h9⟩ := h
  refine ⟨va_K.moved hW.alike h1, va_Nw.warmM hW h2, va_Nw.warmM hW h3, va_Nw.warmM hW h4, va_Nw.warmC hW h5, ⟨va_AO.moved hW.alike h6, va_AO.moved hW.alike h7, va_AO.moved hW.alike h8⟩, fun e he => vk_R.warm hW (h9 e he)⟩
theorem q_X.moved {base : Nat} {Hb : Heap} {h : PH} {s U : State} (hv : s.vm.Alike U.vm) (hx : q_X base Hb h s) : q_X base Hb h U := ⟨fun a ha => ⟨(hx.1 a ha).1, (hx.1 a ha).2.moved hv⟩, hx.2.1.moved hv, hx.2.2⟩
theorem q_okfa : ∀ (c : Nat), ∀ e ∈ ql_fa c, e.1 = c ∧ lw_tbl[e.2.2.2.2]? = some (.fieldLink (q_rn e.1) e.2.1 (q_rn e.2.2.1) (q_T e.2.2.1 e.2.2.2.1).2.1 (q_T e.2.2.1 e.2.2.2.1).2.2.1) ∧ e.2.2.1 < 12 ∧ e.2.2.2.1 < q_nf e.2.2.1 := by
  intro c
  match c with
  | 0 => exact q_okf0
  | 1 => exact q_okf1
  | 2 => exact q_okf2
  | 3 => exact q_okf3
  | 4 => exact q_okf4
  | 5 => exact q_okf5
  | 6 => exact q_okf6
  | 7 => exact q_okf7
  | 8 => exact q_okf8
  | 9 => exact q_okf9
  | 10 => exact q_okf10
  | 11 => exact q_okf11
  | 12 => exact q_okf12
  | 13 => exact q_okf13
  | n + 14 => intro e he; simp [ql_fa] at he
theorem q_fld {c i : Nat} {f : Nat × Nat} (h : qk_f c i = some f) : Cond.fieldLink (q_rn c) i (q_rn f.1) (q_T f.1 f.2).2.1 (q_T f.1 f.2).2.2.1 ∈ gtb ∧ f.1 < 12 ∧ f.2 < q_nf f.1 := by
  unfold qk_f at h
  obtain ⟨e, he, rfl⟩ := Option.map_eq_some_iff.mp h
  have h1 := List.find?_some he
  obtain ⟨g1, g2, g3, g4⟩ := q_okfa c e (List.mem_of_find?_eq_some he)
  have h2 : e.2.1 = i := by simpa using h1
  refine ⟨?_, g3, g4⟩
  rw [g1, h2] at g2
  exact q_g _ g2 rfl
theorem q_okma : ∀ (c : Nat), ∀ e ∈ ql_ma c, q_okM c e ∧ Cond.code (mY e.2.2.1) (mC e.2.2.1) (mM e.2.2.1) (mT e.2.2.1) ∈ lw_tbl := by
  intro c
  match c with
  | 0 => exact fun e h => ⟨q_okm0 e h, q_cdm0 e h⟩
  | 1 => exact fun e h => ⟨q_okm1 e h, q_cdm1 e h⟩
  | 2 => exact fun e h => ⟨q_okm2 e h, q_cdm2 e h⟩
  | 3 => exact fun e h => ⟨q_okm3 e h, q_cdm3 e h⟩
  | 4 => exact fun e h => ⟨q_okm4 e h, q_cdm4 e h⟩
  | 5 => exact fun e h => ⟨q_okm5 e h, q_cdm5 e h⟩
  | 6 => exact fun e h => ⟨q_okm6 e h, q_cdm6 e h⟩
  | 7 => exact fun e h => ⟨q_okm7 e h, q_cdm7 e h⟩
  | 8 => exact fun e h => ⟨q_okm8 e h, q_cdm8 e h⟩
  | 9 => exact fun e h => ⟨q_okm9 e h, q_cdm9 e h⟩
  | 10 => exact fun e h => ⟨q_okm10 e h, q_cdm10 e h⟩
  | 11 => exact fun e h => ⟨q_okm11 e h, q_cdm11 e h⟩
  | 12 => exact fun e h => ⟨q_okm12 e h, q_cdm12 e h⟩
  | 13 => exact fun e h => ⟨q_okm13 e h, q_cdm13 e h⟩
  | n + 14 => intro e he; simp [ql_ma] at he
/-- a method entry -/
theorem q_mth {c i k : Nat} {m : Mt} (h : qk_m c i = some (k, m)) : ∃ e, e ∈ ql_ma c ∧ e.1 = i ∧ e.2.1 = k ∧ e.2.2.1 = m ∧ q_okM c e ∧ Cond.code (mY m) (mC m) (mM m) (mT m) ∈ gtb := by
  unfold qk_m at h
  obtain ⟨e, he, h3⟩ := Option.map_eq_some_iff.mp h
  have h1 := List.find?_some he
  have h2 : e.1 = i := by simpa using h1
  have hm := List.mem_of_find?_eq_some he
  have h4 : e.2.1 = k := congrArg Prod.fst h3
  have h5 : e.2.2.1 = m := congrArg Prod.snd h3
  subst h5
  exact ⟨e, hm, h2, h4, rfl, (q_okma c e hm).1, List.mem_filter.mpr ⟨(q_okma c e hm).2, rfl⟩⟩
/-- what a method is told: its own code, and all words of the tables that stay -/
def q_ws (m : Mt) : List Jvm.Cond := Cond.code (mY m) (mC m) (mM m) (mT m) :: gtb
theorem q_good {big : List Jvm.Cond} (hb : ∀ w ∈ gtb, w ∈ big) {m : Mt} (hm : Cond.code (mY m) (mC m) (mM m) (mT m) ∈ gtb) : GoodIn big (q_ws m) := by
  intro w hw
  rcases List.mem_cons.mp hw with rfl | hw
  · exact ⟨hb _ hm, good_of_word rfl⟩
  · exact ⟨hb _ hw, good_of_word (List.mem_filter.mp hw).2⟩
/-! locals -/
def q_pr (ls : List (Option Value)) : List (Nat × Value) := ls.zipIdx.filterMap (fun q => q.1.map (fun v => (q.2, v)))
theorem q_pr_mem {ls : List (Option Value)} {i : Nat} {v : Value} : (i, v) ∈ q_pr ls ↔ ls[i]? = some (some v) := by
  unfold q_pr
  rw [List.mem_filterMap]
  constructor
  · rintro ⟨⟨o, j⟩, hm, he⟩
    have h1 := List.mem_zipIdx_iff_getElem?.mp hm
    cases o with
    | none => simp at he
    | some w =>
      simp at he
      obtain ⟨rfl, rfl⟩ := he
      exact h1
  · intro h
    exact ⟨(some v, i), List.mem_zipIdx_iff_getElem?.mpr h, by simp⟩
def q_L (lsA : Array Slot) (m : Mt) (ls : List (Option Value)) : Prop := lv_has lsA (mM m) (q_pr ls) ∧ ls.length = mM m ∧ (mG m = false → ∀ v, some v ∈ ls → q_lng v = false)
theorem q_L.at {lsA : Array Slot} {m : Mt} {ls : List (Option Value)} (h : q_L lsA m ls) {k : Nat} {v : Value} (e : q_get ls k = some v) : lsA[k]? = some (.val v) := by
  have h1 : ls[k]? = some (some v) := by
    unfold q_get at e
    cases hk : ls[k]? with
    | none => rw [hk] at e; simp at e
    | some o => rw [hk] at e; simp at e; rw [e]
  exact h.1.2.2 (k, v) (q_pr_mem.mpr h1)
theorem q_lng_cat (v : Value) : q_lng v = true ↔ v.category = 2 := by cases v <;> simp [q_lng, Value.category]
theorem q_get_eq {ls : List (Option Value)} {k : Nat} {v : Value} (h : ls[k]? = some (some v)) : q_get ls k = some v := by simp [q_get, h]
theorem q_L.st1 {lsA : Array Slot} {m : Mt} {ls ls' : List (Option Value)} {k : Nat} {v : Value} (h : q_L lsA m ls) (hv : q_lng v = false) (e : q_st1 m ls k v = some ls') :
    k < mM m ∧ ∀ lsB, lv_has lsB (mM m) ((k, v) :: (q_pr ls).filter (fun q => !(q.1 == k) && !(q.1 + 1 == k && q.2.category == 2))) → q_L lsB m ls' := by
  obtain ⟨h1, h2, h3⟩ := h
  unfold q_st1 at e
  by_cases hk : k < ls.length
  · rw [if_pos hk] at e
    by_cases hc : (mG m && q_bf ls k) = true
    · rw [if_pos hc] at e; cases e
    · rw [if_neg hc] at e
      cases e
      refine ⟨by rw [← h2]; exact hk, fun lsB hB => ⟨⟨hB.1, hB.2.1, fun q hq => ?_⟩, by rw [List.length_set]; exact h2, fun hg w hw => ?_⟩⟩
      · obtain ⟨j, w⟩ := q
        have hj := q_pr_mem.mp hq
        rw [List.getElem?_set] at hj
        by_cases hjk : k = j
        · subst hjk
          rw [if_pos rfl, if_pos hk] at hj
          simp at hj
          subst hj
          exact hB.2.2 (k, v) List.mem_cons_self
        · rw [if_neg hjk] at hj
          refine hB.2.2 (j, w) (List.mem_cons_of_mem _ (List.mem_filter.mpr ⟨q_pr_mem.mpr hj, ?_⟩))
          have n1 : (j == k) = false := by simpa using fun z : j = k => hjk z.symm
          rw [n1]
          by_cases h5 : j + 1 = k
          · subst h5
            have n2 : q_lng w = false := by
              cases hg : mG m with
              | false => exact h3 hg w (List.mem_of_getElem? hj)
              | true =>
                rw [hg] at hc
                have := q_get_eq hj
                simp [q_bf, this] at hc
                exact hc
            have n3 : (w.category == 2) = false := by
              cases w <;> simp_all [q_lng, Value.category]
            simp [n3]
          · have n4 : (j + 1 == k) = false := by simpa using h5
            simp [n4]
      · rcases List.mem_or_eq_of_mem_set hw with h | h
        · exact h3 hg w h
        · cases h; exact hv
  · rw [if_neg hk] at e; cases e
theorem q_L.st2 {lsA : Array Slot} {m : Mt} {ls ls' : List (Option Value)} {k : Nat} {v : Value} (h : q_L lsA m ls) (e : q_st2 m ls k v = some ls') :
    k + 1 < mM m ∧ ∀ lsB, lv_has lsB (mM m) ((k, v) :: (q_pr ls).filter (fun q => !(q.1 == k) && (!(q.1 == k + 1) && !(q.1 + 1 == k && q.2.category == 2)))) → q_L lsB m ls' := by
  obtain ⟨h1, h2, h3⟩ := h
  unfold q_st2 at e
  by_cases hk : k + 1 < ls.length ∧ mG m = true
  · rw [if_pos hk] at e
    by_cases hc : q_bf ls k = true
    · rw [if_pos hc] at e; cases e
    · rw [if_neg hc] at e
      cases e
      refine ⟨by rw [← h2]; exact hk.1, fun lsB hB => ⟨⟨hB.1, hB.2.1, fun q hq => ?_⟩, by rw [List.length_set, List.length_set]; exact h2, fun hg w hw => ?_⟩⟩
      · obtain ⟨j, w⟩ := q
        have hj := q_pr_mem.mp hq
        rw [List.getElem?_set] at hj
        by_cases hjk : k + 1 = j
        · subst hjk
          rw [if_pos rfl] at hj
          simp [hk.1] at hj
        · rw [if_neg hjk, List.getElem?_set] at hj
          by_cases hjk2 : k = j
          · subst hjk2
            rw [if_pos rfl, if_pos (by omega)] at hj
            simp at hj
            subst hj
            exact hB.2.2 (k, v) List.mem_cons_self
          · rw [if_neg hjk2] at hj
            refine hB.2.2 (j, w) (List.mem_cons_of_mem _ (List.mem_filter.mpr ⟨q_pr_mem.mpr hj, ?_⟩))
            have n1 : (j == k) = false := by simpa using fun z : j = k => hjk2 z.symm
            have n5 : (j == k + 1) = false := by simpa using fun z : j = k + 1 => hjk z.symm
            rw [n1, n5]
            by_cases h5 : j + 1 = k
            · subst h5
              have n2 : q_lng w = false := by
                have := q_get_eq hj
                simp [q_bf, this] at hc
                exact hc
              have n3 : (w.category == 2) = false := by
                cases w <;> simp_all [q_lng, Value.category]
              simp [n3]
            · have n4 : (j + 1 == k) = false := by simpa using h5
              simp [n4]
      · rw [hk.2] at hg; cases hg
  · rw [if_neg hk] at e; cases e
