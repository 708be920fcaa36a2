/-! THE PURE MACHINE IS THE MACHINE: rows for its steps -/
theorem q_u_same {α : Type} (f : Nat → Nat → α) (k a : Nat) (v : α) : q_u f k a v k a = v := by simp [q_u]
/-- the cell at an address, as the kit says it -/
def q_ce (Cy : Nat → ClassId) (h : PH) (a : Nat) : va_E :=
  if hK h a < 50 then .inr (hK h a, (List.range (q_nf (hK h a))).map (q_fv h (hK h a) a))
  else if hK h a < 53 then .inl (Cy (hK h a), hL h a, .inl (hA h a))
  else .inl (Cy (hK h a), hL h a, .inr (.inr (.inr (.inr (hB h a)))))
/-- the heap's picture: from 'base' on it is ours -/
def q_W (base : Nat) (D : va_G) (Cy : Nat → ClassId) (h : PH) (H : Heap) : Prop :=
  H.size = hN h ∧ base ≤ hN h ∧ ∀ a, hK h a < 60 → base ≤ a ∧ a < hN h ∧ hK h a < 56 ∧ va_at D q_kls (a, q_ce Cy h a) H
def q_ty (Cy : Nat → ClassId) : List (ClassId × FieldType) := [(Cy 50, .int), (Cy 51, .boolean), (Cy 52, .byte), (Cy 53, .object "PageWeb$Change"), (Cy 54, .object "PageWeb$Name"), (Cy 55, .object "java/lang/Object")]
def q_txt (k : Nat) : String := (["kind:", "#to ", "[[", "]]"] : List String).getD k ""
/-- what the tables say -/
def q_K (D : va_G) (Cy : Nat → ClassId) (S : Nat → Nat) (U : State) : Prop :=
  va_K D q_kls (q_ty Cy) U ∧ va_Nw (.methodLinkNest RX10 41 yX5_init "PageWeb") U ∧ va_Nw (.methodLinkNest RX10 48 yX9_init "PageWeb") U ∧ va_Nw (.methodLinkNest RX10 71 yX3_init "PageWeb") U ∧
  va_Nw (.castable "PageWeb$Name" "java/lang/Object") U ∧ (va_AO "PageWeb$Change" U ∧ va_AO "PageWeb$Name" U ∧ va_AO "java/lang/Object" U) ∧ ∀ e ∈ ql_s, vk_R (q_rn e.1) e.2.1 (q_txt e.2.2.1) (S e.2.2.1) U
/-- the script -/
def q_X (base : Nat) (Hb : Heap) (h : PH) (U : State) : Prop := ∀ a, hK h a = 60 → a < base ∧ va_X a (hL h a) (hA h a) U Hb
theorem q_K.warm {D : va_G} {Cy : Nat → ClassId} {S : Nat → Nat} {s U : State} (hW : s.WarmedH U.vm) (h : q_K D Cy S s) : q_K D Cy S U := by
  obtain ⟨h1, h2, h3, h4, h5, ⟨h6, h7, h8⟩, h9⟩ := h
  refine ⟨va_K.moved hW.alike h1, va_Nw.warmM hW h2, va_Nw.warmM hW h3, va_Nw.warmM hW h4, va_Nw.warmC hW h5, ⟨va_AO.moved hW.alike h6, va_AO.moved hW.alike h7, va_AO.moved hW.alike h8⟩, fun e he => vk_R.warm hW (h9 e he)⟩
