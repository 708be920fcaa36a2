/-! the heap's picture under the stores and makings -/
theorem q_klsat : ∀ c, c < 13 → q_kls[c]? = some (q_rn c, q_T c, q_nf c) := by
  intro c hc
  match c, hc with
  | 0, _ => rfl
  | 1, _ => rfl
  | 2, _ => rfl
  | 3, _ => rfl
  | 4, _ => rfl
  | 5, _ => rfl
  | 6, _ => rfl
  | 7, _ => rfl
  | 8, _ => rfl
  | 9, _ => rfl
  | 10, _ => rfl
  | 11, _ => rfl
  | 12, _ => rfl
theorem q_cwa : ∀ c, c < 13 → ∀ w ∈ u_ws (q_rn c) (q_T c) (q_nf c), w ∈ gtb := by
  intro c hc
  match c, hc with
  | 0, _ => exact q_cw0
  | 1, _ => exact q_cw1
  | 2, _ => exact q_cw2
  | 3, _ => exact q_cw3
  | 4, _ => exact q_cw4
  | 5, _ => exact q_cw5
  | 6, _ => exact q_cw6
  | 7, _ => exact q_cw7
  | 8, _ => exact q_cw8
  | 9, _ => exact q_cw9
  | 10, _ => exact q_cw10
  | 11, _ => exact q_cw11
  | 12, _ => exact q_cw12
theorem q_insta : ∀ c, c < 13 → Cond.instantiable (q_rn c) (q_nf c) ∈ gtb ∧ Cond.initialized (q_rn c) ∈ gtb := by
  intro c hc
  match c, hc with
  | 0, _ => exact ⟨q_g _ q_in0.1 rfl, q_g _ q_in0.2 rfl⟩
  | 1, _ => exact ⟨q_g _ q_in1.1 rfl, q_g _ q_in1.2 rfl⟩
  | 2, _ => exact ⟨q_g _ q_in2.1 rfl, q_g _ q_in2.2 rfl⟩
  | 3, _ => exact ⟨q_g _ q_in3.1 rfl, q_g _ q_in3.2 rfl⟩
  | 4, _ => exact ⟨q_g _ q_in4.1 rfl, q_g _ q_in4.2 rfl⟩
  | 5, _ => exact ⟨q_g _ q_in5.1 rfl, q_g _ q_in5.2 rfl⟩
  | 6, _ => exact ⟨q_g _ q_in6.1 rfl, q_g _ q_in6.2 rfl⟩
  | 7, _ => exact ⟨q_g _ q_in7.1 rfl, q_g _ q_in7.2 rfl⟩
  | 8, _ => exact ⟨q_g _ q_in8.1 rfl, q_g _ q_in8.2 rfl⟩
  | 9, _ => exact ⟨q_g _ q_in9.1 rfl, q_g _ q_in9.2 rfl⟩
  | 10, _ => exact ⟨q_g _ q_in10.1 rfl, q_g _ q_in10.2 rfl⟩
  | 11, _ => exact ⟨q_g _ q_in11.1 rfl, q_g _ q_in11.2 rfl⟩
  | 12, _ => exact ⟨q_g _ q_in12.1 rfl, q_g _ q_in12.2 rfl⟩
def q_tya (c : Nat) : Nat → FieldType := ([tyX0, tyX1, tyX2, tyX3, tyX4, tyX5, tyX6, tyX7, tyX8, tyX9, tyX10, tyX11, tyJx4a65c] : List (Nat → FieldType)).getD c tyX0
theorem q_tyok : ∀ c, c < 13 → ∀ k, k < q_nf c → parseFieldDescriptor (q_T c k).2.2.1 = some (q_tya c k) := by
  intro c hc
  match c, hc with
  | 0, _ => exact tyX0_ok
  | 1, _ => exact tyX1_ok
  | 2, _ => exact tyX2_ok
  | 3, _ => exact tyX3_ok
  | 4, _ => exact tyX4_ok
  | 5, _ => exact tyX5_ok
  | 6, _ => exact tyX6_ok
  | 7, _ => exact tyX7_ok
  | 8, _ => exact tyX8_ok
  | 9, _ => exact tyX9_ok
  | 10, _ => exact tyX10_ok
  | 11, _ => exact tyX11_ok
  | 12, _ => exact tyJx4a65c_ok
theorem q_nma : ∀ c, c < 13 → ∀ a, a < q_nf c → ∀ b, b < q_nf c → a ≠ b → (q_T c a).2.1 ≠ (q_T c b).2.1 := by
  intro c hc
  match c, hc with
  | 0, _ => exact nmX0
  | 1, _ => exact nmX1
  | 2, _ => exact nmX2
  | 3, _ => exact nmX3
  | 4, _ => exact nmX4
  | 5, _ => exact nmX5
  | 6, _ => exact nmX6
  | 7, _ => exact nmX7
  | 8, _ => exact nmX8
  | 9, _ => exact nmX9
  | 10, _ => exact nmX10
  | 11, _ => exact nmX11
  | 12, _ => exact nmJx4a65c
def q_isref : FieldType → Bool
  | .object _ => true
  | .array _ => true
  | _ => false
theorem q_fit : ∀ c, c < 13 → ∀ k, k < q_nf c → (q_fs c k = 0 → q_tya c k = .int) ∧ (q_fs c k = 1 → q_tya c k = .boolean) ∧ (q_fs c k = 3 → q_tya c k = .long) ∧ (q_fs c k = 2 → q_isref (q_tya c k) = true) ∧ q_fs c k < 4 := by decide +kernel
theorem q_decl : ∀ c, c < 12 → ∀ k, k < q_nf c → (q_T c k).1 = q_rn c := by decide +kernel
section QH
variable {base : Nat} {D : va_G} {Cy : Nat → ClassId} {h h' : PH} {H H1 : Heap} {a : Nat}
theorem q_W.upd (hW : q_W base D Cy h H) (ha : hK h a < 60) (hN' : hN h' = hN h) (hK' : hK h' = hK h) (hce : ∀ b, b ≠ a → hK h b < 60 → q_ce Cy h' b = q_ce Cy h b) (hs : H1.size = H.size) (ho : ∀ q, q ≠ a → H1[q]? = H[q]?) (hat : va_at D q_kls (a, q_ce Cy h' a) H1) : q_W base D Cy h' H1 := by
  obtain ⟨w1, w2, w3⟩ := hW
  refine ⟨by rw [hs, hN']; exact w1, by rw [hN']; exact w2, fun b hb => ?_⟩
  rw [hK'] at hb ⊢
  obtain ⟨g1, g2, g3, g4⟩ := w3 b hb
  refine ⟨g1, by rw [hN']; exact g2, g3, ?_⟩
  by_cases hba : b = a
  · subst hba; exact hat
  · rw [hce b hba hb]
    exact g4.kept (ho b hba)
theorem q_W.new {c : Nat} (hW : q_W base D Cy h H) (hc : c < 56) (hN' : hN h' = hN h + 1) (hK' : hK h' = va_up (hK h) (hN h) c) (hce : ∀ b, b ≠ hN h → hK h b < 60 → q_ce Cy h' b = q_ce Cy h b) (hs : H1.size = H.size + 1) (ho : ∀ q, q < H.size → H1[q]? = H[q]?) (hat : va_at D q_kls (hN h, q_ce Cy h' (hN h)) H1) : q_W base D Cy h' H1 := by
  obtain ⟨w1, w2, w3⟩ := hW
  refine ⟨by rw [hs, hN', w1], by rw [hN']; omega, fun b hb => ?_⟩
  by_cases hba : b = hN h
  · subst hba
    rw [hK'] at hb ⊢
    rw [va_up_self]
    exact ⟨w2, by rw [hN']; omega, hc, hat⟩
  · rw [hK'] at hb ⊢
    rw [va_up_ne _ _ hba] at hb ⊢
    obtain ⟨g1, g2, g3, g4⟩ := w3 b hb
    refine ⟨g1, by rw [hN']; omega, g3, ?_⟩
    rw [hce b hba hb]
    exact g4.kept (ho b (by rw [w1]; exact g2))
/-- the object at a -/
theorem q_W.obj (hW : q_W base D Cy h H) {c : Nat} (hc : c < 50) (hk : hK h a = c) : va_at D q_kls (a, .inr (c, (List.range (q_nf c)).map (q_fv h c a))) H := by
  obtain ⟨-, -, -, g4⟩ := hW.2.2 a (by omega)
  unfold q_ce at g4
  rw [if_pos (by omega), hk] at g4
  exact g4
theorem q_W.arr (hW : q_W base D Cy h H) {c : Nat} (h1 : 50 ≤ c) (h2 : c < 53) (hk : hK h a = c) : va_at D q_kls (a, .inl (Cy c, hL h a, .inl (hA h a))) H := by
  obtain ⟨-, -, -, g4⟩ := hW.2.2 a (by omega)
  unfold q_ce at g4
  rw [if_neg (by omega), if_pos (by omega), hk] at g4
  exact g4
theorem q_W.arq (hW : q_W base D Cy h H) {c : Nat} (h1 : 53 ≤ c) (h2 : c < 56) (hk : hK h a = c) : va_at D q_kls (a, .inl (Cy c, hL h a, .inr (.inr (.inr (.inr (hB h a)))))) H := by
  obtain ⟨-, -, -, g4⟩ := hW.2.2 a (by omega)
  unfold q_ce at g4
  rw [if_neg (by omega), if_neg (by omega), hk] at g4
  exact g4
theorem q_P1 {D : va_G} {cl : List vw_C} {q : Nat × va_E} {H : Heap} (h : va_at D cl q H) : va_P D cl [q] H := by
  intro k r hk
  match k, hk with
  | 0, hk => cases hk; exact h
  | k + 1, hk => simp at hk
theorem q_mapset {n k : Nat} (f f' : Nat → Value) (v : Value) (hk : f' k = v) (ho : ∀ j, j ≠ k → f' j = f j) : (List.range n).map f' = ((List.range n).map f).set k v := by
  apply List.ext_getElem?
  intro j
  rw [List.getElem?_set]
  by_cases hj : k = j
  · subst hj
    by_cases hl : k < n
    · simp [hl, hk]
    · simp [hl]
  · simp only [hj, if_false, List.getElem?_map]
    by_cases hl : j < n
    · simp [hl, ho j (fun e => hj e.symm)]
    · simp [hl]
/-- a field written: the picture behind it -/
theorem q_ce_I {k : Nat} {v : Int32} (hk : hK h a < 50) (hs : q_fs (hK h a) k = 0 ∨ q_fs (hK h a) k = 1) : q_ce Cy (pI h k a v) a = .inr (hK h a, ((List.range (q_nf (hK h a))).map (q_fv h (hK h a) a)).set k (.int v)) := by
  have e : hK (pI h k a v) = hK h := rfl
  unfold q_ce
  rw [e, if_pos hk]
  congr 2
  refine q_mapset _ _ _ ?_ ?_
  · simp [q_fv, hs, pI, hI, q_u]
  · intro j hj
    simp [q_fv, pI, hI, hR, hJ, q_u, hj]
theorem q_ce_R {k : Nat} {v : Option Nat} (hk : hK h a < 50) (hs : q_fs (hK h a) k = 2) : q_ce Cy (pR h k a v) a = .inr (hK h a, ((List.range (q_nf (hK h a))).map (q_fv h (hK h a) a)).set k (va_rf v)) := by
  have e : hK (pR h k a v) = hK h := rfl
  unfold q_ce
  rw [e, if_pos hk]
  congr 2
  refine q_mapset _ _ _ ?_ ?_
  · simp [q_fv, hs, pR, hR, q_u]
  · intro j hj
    simp [q_fv, pR, hI, hR, hJ, q_u, hj]
theorem q_ce_J {k : Nat} {v : Int64} (hk : hK h a < 50) (hs : q_fs (hK h a) k = 3) : q_ce Cy (pJ h k a v) a = .inr (hK h a, ((List.range (q_nf (hK h a))).map (q_fv h (hK h a) a)).set k (.long v)) := by
  have e : hK (pJ h k a v) = hK h := rfl
  unfold q_ce
  rw [e, if_pos hk]
  congr 2
  refine q_mapset _ _ _ ?_ ?_
  · simp [q_fv, hs, pJ, hJ, q_u]
  · intro j hj
    simp [q_fv, pJ, hI, hR, hJ, q_u, hj]
theorem q_ceo_I {k b : Nat} {v : Int32} (hb : b ≠ a) : q_ce Cy (pI h k a v) b = q_ce Cy h b := by
  unfold q_ce
  have e : hK (pI h k a v) = hK h := rfl
  rw [e]
  have e2 : q_fv (pI h k a v) (hK h b) b = q_fv h (hK h b) b := by
    funext j
    by_cases hj : j = k <;> simp [q_fv, pI, hI, hR, hJ, q_u, hb, hj]
  rw [e2]
  rfl
theorem q_ceo_R {k b : Nat} {v : Option Nat} (hb : b ≠ a) : q_ce Cy (pR h k a v) b = q_ce Cy h b := by
  unfold q_ce
  have e : hK (pR h k a v) = hK h := rfl
  rw [e]
  have e2 : q_fv (pR h k a v) (hK h b) b = q_fv h (hK h b) b := by
    funext j
    by_cases hj : j = k <;> simp [q_fv, pR, hI, hR, hJ, q_u, hb, hj]
  rw [e2]
  rfl
theorem q_ceo_J {k b : Nat} {v : Int64} (hb : b ≠ a) : q_ce Cy (pJ h k a v) b = q_ce Cy h b := by
  unfold q_ce
  have e : hK (pJ h k a v) = hK h := rfl
  rw [e]
  have e2 : q_fv (pJ h k a v) (hK h b) b = q_fv h (hK h b) b := by
    funext j
    by_cases hj : j = k <;> simp [q_fv, pJ, hI, hR, hJ, q_u, hb, hj]
  rw [e2]
  rfl
theorem q_ceo_A {b : Nat} {f : Nat → Int32} (hb : b ≠ a) : q_ce Cy (pA h a f) b = q_ce Cy h b := by
  have e : hA (pA h a f) b = hA h b := va_up_ne _ _ hb
  unfold q_ce
  rw [e]
  rfl
theorem q_ceo_B {b : Nat} {f : Nat → Option Nat} (hb : b ≠ a) : q_ce Cy (pB h a f) b = q_ce Cy h b := by
  have e : hB (pB h a f) b = hB h b := va_up_ne _ _ hb
  unfold q_ce
  rw [e]
  rfl
theorem q_ce_A {f : Nat → Int32} (h1 : 50 ≤ hK h a) (h2 : hK h a < 53) : q_ce Cy (pA h a f) a = .inl (Cy (hK h a), hL h a, .inl f) := by
  have e : hA (pA h a f) a = f := va_up_self _ _ _
  unfold q_ce
  rw [e]
  have e2 : hK (pA h a f) = hK h := rfl
  rw [e2, if_neg (by omega), if_pos h2]
  rfl
theorem q_ce_B {f : Nat → Option Nat} (h1 : 53 ≤ hK h a) : q_ce Cy (pB h a f) a = .inl (Cy (hK h a), hL h a, .inr (.inr (.inr (.inr f)))) := by
  have e : hB (pB h a f) a = f := va_up_self _ _ _
  unfold q_ce
  rw [e]
  have e2 : hK (pB h a f) = hK h := rfl
  rw [e2, if_neg (by omega), if_neg (by omega)]
  rfl
end QH
