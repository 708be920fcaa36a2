/-! frames; PageWeb$Row -/
/-- behind h comes h': cells that were there stay as they were, but those of P -/
def sm (P : Nat → Prop) (h h' : PH) : Prop := hN h ≤ hN h' ∧ hS h' = hS h ∧ ∀ x, x < hN h → hK h' x = hK h x ∧ hL h' x = hL h x ∧ (¬ P x → (∀ k, hI h' k x = hI h k x) ∧ (∀ k, hR h' k x = hR h k x) ∧ (∀ k, hJ h' k x = hJ h k x) ∧ hA h' x = hA h x ∧ hB h' x = hB h x)
theorem sm.rf {P : Nat → Prop} (h : PH) : sm P h h := ⟨Nat.le_refl _, rfl, fun _ _ => ⟨rfl, rfl, fun _ => ⟨fun _ => rfl, fun _ => rfl, fun _ => rfl, rfl, rfl⟩⟩⟩
theorem sm.tr {P : Nat → Prop} {h1 h2 h3 : PH} (a : sm P h1 h2) (b : sm P h2 h3) : sm P h1 h3 := by
  obtain ⟨a1, a2, a3⟩ := a
  obtain ⟨b1, b2, b3⟩ := b
  refine ⟨Nat.le_trans a1 b1, b2.trans a2, fun x hx => ?_⟩
  obtain ⟨p1, p2, p3⟩ := a3 x hx
  obtain ⟨q1, q2, q3⟩ := b3 x (by omega)
  refine ⟨q1.trans p1, q2.trans p2, fun hP => ?_⟩
  obtain ⟨r1, r2, r3, r4, r5⟩ := p3 hP
  obtain ⟨s1, s2, s3, s4, s5⟩ := q3 hP
  exact ⟨fun k => (s1 k).trans (r1 k), fun k => (s2 k).trans (r2 k), fun k => (s3 k).trans (r3 k), s4.trans r4, s5.trans r5⟩
theorem sm.mono {P Q : Nat → Prop} {h h' : PH} (a : sm P h h') (hq : ∀ x, x < hN h → P x → Q x) : sm Q h h' :=
  ⟨a.1, a.2.1, fun x hx => ⟨(a.2.2 x hx).1, (a.2.2 x hx).2.1, fun hn => (a.2.2 x hx).2.2 (fun z => hn (hq x hx z))⟩⟩
theorem sm.I {P : Nat → Prop} (h : PH) {k a : Nat} (v : Int32) (hp : P a) : sm P h (pI h k a v) := by
  refine ⟨Nat.le_refl _, rfl, fun x _ => ⟨rfl, rfl, fun hn => ⟨fun j => ?_, fun _ => rfl, fun _ => rfl, rfl, rfl⟩⟩⟩
  have : x ≠ a := fun z => hn (z ▸ hp)
  simp only [u_II, this, if_false]
  split <;> simp_all
theorem sm.R {P : Nat → Prop} (h : PH) {k a : Nat} (v : Option Nat) (hp : P a) : sm P h (pR h k a v) := by
  refine ⟨Nat.le_refl _, rfl, fun x _ => ⟨rfl, rfl, fun hn => ⟨fun _ => rfl, fun j => ?_, fun _ => rfl, rfl, rfl⟩⟩⟩
  have : x ≠ a := fun z => hn (z ▸ hp)
  simp only [u_RR, this, if_false]
  split <;> simp_all
theorem sm.J {P : Nat → Prop} (h : PH) {k a : Nat} (v : Int64) (hp : P a) : sm P h (pJ h k a v) := by
  refine ⟨Nat.le_refl _, rfl, fun x _ => ⟨rfl, rfl, fun hn => ⟨fun _ => rfl, fun _ => rfl, fun j => ?_, rfl, rfl⟩⟩⟩
  have : x ≠ a := fun z => hn (z ▸ hp)
  simp only [u_JJ, this, if_false]
  split <;> simp_all
theorem sm.A {P : Nat → Prop} (h : PH) {a : Nat} (f : Nat → Int32) (hp : P a) : sm P h (pA h a f) := by
  refine ⟨Nat.le_refl _, rfl, fun x _ => ⟨rfl, rfl, fun hn => ⟨fun _ => rfl, fun _ => rfl, fun _ => rfl, ?_, rfl⟩⟩⟩
  have : x ≠ a := fun z => hn (z ▸ hp)
  simp only [u_AA, this, if_false]
theorem sm.B {P : Nat → Prop} (h : PH) {a : Nat} (f : Nat → Option Nat) (hp : P a) : sm P h (pB h a f) := by
  refine ⟨Nat.le_refl _, rfl, fun x _ => ⟨rfl, rfl, fun hn => ⟨fun _ => rfl, fun _ => rfl, fun _ => rfl, rfl, ?_⟩⟩⟩
  have : x ≠ a := fun z => hn (z ▸ hp)
  simp only [u_BB, this, if_false]
theorem sm.O {P : Nat → Prop} (h : PH) (c : Nat) : sm P h (nO h c) := by
  refine ⟨Nat.le_succ _, rfl, fun x hx => ?_⟩
  have : x ≠ hN h := by omega
  simp only [u_KO, u_IO, u_RO, u_JO, u_hL_nO, u_hA_nO, u_hB_nO, this, if_false, implies_true, and_self]
theorem sm.N {P : Nat → Prop} (h : PH) (c n : Nat) : sm P h (nA h c n) := by
  refine ⟨Nat.le_succ _, rfl, fun x hx => ?_⟩
  have : x ≠ hN h := by omega
  simp only [u_KN, u_LN, u_AN, u_BN, u_hI_nA, u_hR_nA, u_hJ_nA, this, if_false, implies_true, and_self]
theorem sm.I1 (h : PH) {k a : Nat} (v : Int32) : sm (fun x => x = a) h (pI h k a v) := sm.I h v rfl
theorem sm.R1 (h : PH) {k a : Nat} (v : Option Nat) : sm (fun x => x = a) h (pR h k a v) := sm.R h v rfl
theorem sm.J1 (h : PH) {k a : Nat} (v : Int64) : sm (fun x => x = a) h (pJ h k a v) := sm.J h v rfl
theorem sm.A1 (h : PH) {a : Nat} (f : Nat → Int32) : sm (fun x => x = a) h (pA h a f) := sm.A h f rfl
theorem sm.B1 (h : PH) {a : Nat} (f : Nat → Option Nat) : sm (fun x => x = a) h (pB h a f) := sm.B h f rfl
/-- a Row at a, its array at b: its bytes are l -/
def rw_ (h : PH) (a b cap bd : Nat) (l : List Nat) (o : Int32) : Prop :=
  (hK h a = 6 ∧ hR h 0 a = some b ∧ hK h b = 52 ∧ hL h b = cap) ∧ (hI h 1 a = nI l.length ∧ hI h 2 a = nI bd ∧ hI h 3 a = o) ∧ (l.length ≤ bd ∧ bd ≤ cap ∧ cap < 1000000) ∧ (∀ i, i < l.length → hA h b i = sb_b (l.getD i 0)) ∧ ∀ x ∈ l, x < 256
theorem rw_.keep {h h' : PH} {a b cap bd : Nat} {l : List Nat} {o : Int32} {P : Nat → Prop} (r : rw_ h a b cap bd l o) (s : sm P h h') (ha : a < hN h) (hb : b < hN h) (na : ¬ P a) (nb : ¬ P b) : rw_ h' a b cap bd l o := by
  obtain ⟨⟨r1, r2, r3, r4⟩, ⟨r5, r6, r7⟩, r8, r9, r10⟩ := r
  obtain ⟨p1, p2, p3⟩ := s.2.2 a ha
  obtain ⟨q1, q2, q3⟩ := s.2.2 b hb
  obtain ⟨p4, p5, -⟩ := p3 na
  obtain ⟨-, -, -, q4, -⟩ := q3 nb
  exact ⟨⟨by rw [p1]; exact r1, by rw [p5]; exact r2, by rw [q1]; exact r3, by rw [q2]; exact r4⟩, ⟨by rw [p4]; exact r5, by rw [p4]; exact r6, by rw [p4]; exact r7⟩, r8, fun i hi => by rw [q4]; exact r9 i hi, r10⟩
/-- byte i of a list of bytes, -1 if there is none such -/
def rb (l : List Nat) (i : Int32) : Int32 := if i < 0 ∨ l.length ≤ i.toNatClampNeg then -1 else nI (l.getD i.toNatClampNeg 0)
theorem rb_nI {l : List Nat} {j : Nat} (hj : j < 2 ^ 31) : rb l (nI j) = if j < l.length then nI (l.getD j 0) else -1 := by
  unfold rb
  rw [nI_clamp hj]
  by_cases z : j < l.length
  · rw [if_neg, if_pos z]
    intro w
    rcases w with w | w
    · exact nI_pos hj w
    · omega
  · rw [if_pos (Or.inr (by omega)), if_neg z]
theorem nI_cases (i : Int32) : i < 0 ∨ ∃ j, j < 2 ^ 31 ∧ i = nI j := by
  by_cases z : i < 0
  · exact Or.inl z
  · exact Or.inr (nI_of z)
theorem getD_mem {l : List Nat} {i : Nat} (h : i < l.length) : l.getD i 0 ∈ l := by
  rw [List.getD_eq_getElem?_getD, List.getElem?_eq_getElem h]
  exact List.getElem_mem h
theorem r_length {g : Nat} {h : PH} {a : Nat} (hk : hK h a = 6) : cal g mX6_length [va_rf (some a)] h = some (some (.int (hI h 1 a)), h) := by
  rw [n_X6_length]
  simp only [e_X6_length_0, e_X6_length_1, e_X6_length_4, hk, if_true]
theorem r_len {g : Nat} {h : PH} {a b cap bd : Nat} {l : List Nat} {o : Int32} (r : rw_ h a b cap bd l o) : cal g mX6_length [va_rf (some a)] h = some (some (.int (nI l.length)), h) := by
  rw [r_length r.1.1, r.2.1.1]
theorem r_byteAt {g : Nat} {h : PH} {a b cap bd : Nat} {l : List Nat} {o : Int32} {i : Int32} (r : rw_ h a b cap bd l o) : cal g mX6_byteAt [va_rf (some a), .int i] h = some (some (.int (rb l i)), h) := by
  obtain ⟨⟨r1, r2, r3, r4⟩, ⟨r5, r6, r7⟩, ⟨r8, r8b, r8c⟩, r9, r10⟩ := r
  rw [n_X6_byteAt]
  simp only [e_X6_byteAt_0, e_X6_byteAt_1, e_X6_byteAt_4, e_X6_byteAt_5, e_X6_byteAt_6, e_X6_byteAt_9, e_X6_byteAt_12, e_X6_byteAt_13, e_X6_byteAt_14, e_X6_byteAt_17, e_X6_byteAt_18, e_X6_byteAt_21, e_X6_byteAt_22, e_X6_byteAt_23, e_X6_byteAt_24, e_X6_byteAt_27, e_X6_byteAt_28, e_X6_byteAt_29, e_X6_byteAt_32, e_X6_byteAt_33, r1, r2, r3, r4, r5, if_true]
  rcases nI_cases i with z | ⟨j, hj, rfl⟩
  · simp [z, rb]
  · rw [rb_nI hj]
    have z0 : ¬ nI j < 0 := nI_pos hj
    by_cases z1 : j < l.length
    · have z2 : ¬ nI l.length ≤ nI j := nI_ge z1 (by omega)
      have z3 : nI j < nI cap := nI_lt (by omega) (by omega)
      have z4 : q_in (nI j) cap := vp_in_nI (by omega) (by omega)
      rw [if_neg z0, if_neg z2, if_pos (by decide), if_pos z3, if_pos ⟨Or.inr trivial, z4⟩, if_pos z1, nI_clamp hj, r9 j z1, (sb_byte _ (r10 _ (getD_mem z1))).1]
    · have z2 : nI l.length ≤ nI j := nI_le (by omega) hj
      rw [if_neg z0, if_pos z2, if_neg z1]
