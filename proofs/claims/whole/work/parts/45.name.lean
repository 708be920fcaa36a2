/-! PageWeb$Name: a NAME is its kind and its bytes (behind kind:) -/
/-- eight bytes as a number, the first the highest -/
def pk8 (f : Nat → Nat) : Nat := ((((((f 0 * 256 + f 1) * 256 + f 2) * 256 + f 3) * 256 + f 4) * 256 + f 5) * 256 + f 6) * 256 + f 7
def nhd (w : List Nat) : Nat := pk8 (fun i => w.getD i 0)
def ntl (w : List Nat) : Nat := pk8 (fun i => w.getD (8 + i) 0)
/-- a byte that NAMES have -/
def nby (x : Nat) : Prop := (97 ≤ x ∧ x ≤ 122) ∨ (48 ≤ x ∧ x ≤ 57) ∨ x = 32
def nok (w : List Nat) : Prop := 1 ≤ w.length ∧ w.length ≤ 16 ∧ ∀ x ∈ w, nby x
theorem nok_lt {w : List Nat} (h : nok w) (i : Nat) : w.getD i 0 < 123 := by
  by_cases hi : i < w.length
  · have := h.2.2 _ (getD_mem hi)
    unfold nby at this
    omega
  · rw [List.getD_eq_getElem?_getD, List.getElem?_eq_none (by omega)]
    decide
theorem nok_pos {w : List Nat} (h : nok w) {i : Nat} (hi : i < w.length) : 0 < w.getD i 0 := by
  have := h.2.2 _ (getD_mem hi)
  unfold nby at this
  omega
theorem getD_out {w : List Nat} {i : Nat} (hi : w.length ≤ i) : w.getD i 0 = 0 := by
  rw [List.getD_eq_getElem?_getD, List.getElem?_eq_none hi]
  rfl
theorem pk8_lt {f : Nat → Nat} (h : ∀ i, f i < 123) : pk8 f < 2 ^ 63 := by
  unfold pk8
  have h0 := h 0
  have h1 := h 1
  have h2 := h 2
  have h3 := h 3
  have h4 := h 4
  have h5 := h 5
  have h6 := h 6
  have h7 := h 7
  omega
theorem pk8_inj {f k : Nat → Nat} (hf : ∀ i, f i < 123) (hk : ∀ i, k i < 123) (e : pk8 f = pk8 k) : ∀ i, i < 8 → f i = k i := by
  unfold pk8 at e
  have h0 := hf 0
  have h1 := hf 1
  have h2 := hf 2
  have h3 := hf 3
  have h4 := hf 4
  have h5 := hf 5
  have h6 := hf 6
  have h7 := hf 7
  have g0 := hk 0
  have g1 := hk 1
  have g2 := hk 2
  have g3 := hk 3
  have g4 := hk 4
  have g5 := hk 5
  have g6 := hk 6
  have g7 := hk 7
  intro i hi
  have : i = 0 ∨ i = 1 ∨ i = 2 ∨ i = 3 ∨ i = 4 ∨ i = 5 ∨ i = 6 ∨ i = 7 := by omega
  rcases this with rfl | rfl | rfl | rfl | rfl | rfl | rfl | rfl <;> omega
theorem name_inj {w v : List Nat} (hw : nok w) (hv : nok v) (h1 : nhd w = nhd v) (h2 : ntl w = ntl v) : w = v := by
  have e : ∀ i, i < 16 → w.getD i 0 = v.getD i 0 := by
    intro i hi
    by_cases z : i < 8
    · exact pk8_inj (nok_lt hw) (nok_lt hv) h1 i z
    · have := pk8_inj (f := fun i => w.getD (8 + i) 0) (k := fun i => v.getD (8 + i) 0) (fun i => nok_lt hw _) (fun i => nok_lt hv _) h2 (i - 8) (by omega)
      rwa [show 8 + (i - 8) = i by omega] at this
  have hl : w.length = v.length := by
    have a1 := hw.2.1
    have a2 := hv.2.1
    rcases Nat.lt_trichotomy w.length v.length with z | z | z
    · have := e w.length (by omega)
      rw [getD_out (Nat.le_refl _)] at this
      have := nok_pos hv z
      omega
    · exact z
    · have := e v.length (by omega)
      rw [getD_out (w := v) (Nat.le_refl _)] at this
      have := nok_pos hw z
      omega
  apply List.ext_getElem? 
  intro i
  by_cases z : i < w.length
  · have := e i (by have := hw.2.1; omega)
    rw [List.getD_eq_getElem?_getD, List.getD_eq_getElem?_getD, List.getElem?_eq_getElem z, List.getElem?_eq_getElem (by omega)] at this
    rw [List.getElem?_eq_getElem z, List.getElem?_eq_getElem (by omega)]
    exact congrArg some this
  · rw [List.getElem?_eq_none (by omega), List.getElem?_eq_none (by omega)]
theorem lN_inj {a b : Nat} (ha : a < 2 ^ 63) (hb : b < 2 ^ 63) : lN a = lN b ↔ a = b := pk_lEQ ha hb
/-- a Name at a -/
def nm_ (h : PH) (a : Nat) (kd : Bool) (w : List Nat) : Prop := hK h a = 2 ∧ hI h 0 a = (if kd then 1 else 0) ∧ hJ h 1 a = lN (nhd w) ∧ hJ h 2 a = lN (ntl w) ∧ nok w
theorem nm_.keep {h h' : PH} {a : Nat} {kd : Bool} {w : List Nat} {P : Nat → Prop} (r : nm_ h a kd w) (s : sm P h h') (ha : a < hN h) (na : ¬ P a) : nm_ h' a kd w := by
  obtain ⟨r1, r2, r3, r4, r5⟩ := r
  obtain ⟨p1, p2, p3⟩ := s.2.2 a ha
  obtain ⟨p4, p5, p6, -⟩ := p3 na
  exact ⟨by rw [p1]; exact r1, by rw [p4]; exact r2, by rw [p6]; exact r3, by rw [p6]; exact r4, r5⟩
theorem lg_cmp_lN {a b : Nat} (ha : a < 2 ^ 63) (hb : b < 2 ^ 63) : lg_cmp (lN a) (lN b) = if a < b then -1 else if a = b then 0 else 1 := by
  unfold lg_cmp
  have h1 := pk_lLT hb ha
  have h2 := pk_lLT ha hb
  have h3 := pk_lEQ ha hb
  by_cases z1 : a < b
  · simp [h1, h2, h3, z1, show ¬ b < a by omega, show ¬ a = b by omega]
  · by_cases z2 : a = b
    · subst z2; simp
    · simp [h1, h2, h3, z1, z2, show b < a by omega]
theorem cmp0 {a b : Nat} : ((if a < b then (-1 : Int32) else if a = b then 0 else 1) = 0) ↔ a = b := by
  by_cases z1 : a < b
  · simp [z1, show ¬ a = b by omega]
  · by_cases z2 : a = b
    · simp [z2]
    · simp [z1, z2]
theorem bit_inj {k k' : Bool} : ((if k = true then (1 : Int32) else 0) = if k' = true then 1 else 0) ↔ k = k' := by cases k <;> cases k' <;> decide
theorem name_iff {w v : List Nat} (hw : nok w) (hv : nok v) : (nhd w = nhd v ∧ ntl w = ntl v) ↔ w = v := ⟨fun h => name_inj hw hv h.1 h.2, fun h => by subst h; exact ⟨rfl, rfl⟩⟩
theorem nhd_lt {w : List Nat} (h : nok w) : nhd w < 2 ^ 63 := pk8_lt (nok_lt h)
theorem ntl_lt {w : List Nat} (h : nok w) : ntl w < 2 ^ 63 := pk8_lt (f := fun i => w.getD (8 + i) 0) (fun i => nok_lt h _)
/-- same(): of two Names -/
theorem n_same {g : Nat} {h : PH} {a b : Nat} {kd kd' : Bool} {w v : List Nat} (r : nm_ h a kd w) (s : nm_ h b kd' v) : cal g mX2_same [va_rf (some a), va_rf (some b)] h = some (some (.int (if kd = kd' ∧ w = v then 1 else 0)), h) := by
  obtain ⟨r1, r2, r3, r4, r5⟩ := r
  obtain ⟨s1, s2, s3, s4, s5⟩ := s
  rw [n_X2_same]
  simp (decide := true) only [e_X2_same_0, e_X2_same_1, e_X2_same_4, e_X2_same_5, e_X2_same_8, e_X2_same_9, e_X2_same_12, e_X2_same_15, e_X2_same_16, e_X2_same_19, e_X2_same_20, e_X2_same_23, e_X2_same_24, e_X2_same_27, e_X2_same_28, e_X2_same_31, e_X2_same_32, e_X2_same_35, e_X2_same_36, e_X2_same_39, e_X2_same_40, e_X2_same_43, e_X2_same_44, r1, r2, r3, r4, s1, s2, s3, s4, if_true, if_false, reduceCtorEq, Nat.reduceAdd, true_and, and_true, false_and, and_false, true_or, or_true, false_or, or_false, not_true_eq_false, not_false_eq_true, Option.bind_eq_bind, Option.bind_some, psh, eq_self, lg_cmp_lN (nhd_lt r5) (nhd_lt s5), lg_cmp_lN (ntl_lt r5) (ntl_lt s5), cmp0, bit_inj]
  by_cases zw : w = v
  · subst zw
    by_cases z1 : kd = kd' <;> simp [z1]
  · have zn : ¬ (nhd w = nhd v ∧ ntl w = ntl v) := fun z => zw ((name_iff r5 s5).mp z)
    by_cases z1 : kd = kd'
    · by_cases z2 : nhd w = nhd v
      · by_cases z3 : ntl w = ntl v
        · exact absurd ⟨z2, z3⟩ zn
        · simp [z1, z2, z3, zw]
      · simp [z1, z2, zw]
    · simp [z1]
theorem n_sameN {g : Nat} {h : PH} {a : Nat} : cal g mX2_same [va_rf (some a), va_rf none] h = some (some (.int 0), h) := by
  rw [n_X2_same]
  simp (decide := true) only [e_X2_same_0, e_X2_same_1, e_X2_same_4, e_X2_same_5, e_X2_same_8, e_X2_same_9, e_X2_same_12, e_X2_same_15, e_X2_same_16, e_X2_same_19, e_X2_same_20, e_X2_same_23, e_X2_same_24, e_X2_same_27, e_X2_same_28, e_X2_same_31, e_X2_same_32, e_X2_same_35, e_X2_same_36, e_X2_same_39, e_X2_same_40, e_X2_same_43, e_X2_same_44, if_true, if_false, reduceCtorEq, Nat.reduceAdd, true_and, and_true, false_and, and_false, true_or, or_true, false_or, or_false, not_true_eq_false, not_false_eq_true, Option.bind_eq_bind, Option.bind_some, psh, eq_self]
/-- isBefore(): by the two numbers -/
abbrev nlt (w v : List Nat) : Prop := nhd w < nhd v ∨ nhd w = nhd v ∧ ntl w < ntl v
theorem cmplt {a b : Nat} : ((if a < b then (-1 : Int32) else if a = b then 0 else 1) < 0) ↔ a < b := by
  by_cases z1 : a < b
  · simp (decide := true) [z1]
  · by_cases z2 : a = b
    · simp (decide := true) [z2]
    · simp (decide := true) [z1, z2]
theorem cmpge {a b : Nat} : (0 ≤ (if a < b then (-1 : Int32) else if a = b then 0 else 1)) ↔ ¬ a < b := by
  by_cases z1 : a < b
  · simp (decide := true) [z1]
  · by_cases z2 : a = b
    · simp (decide := true) [z2]
    · simp (decide := true) [z1, z2]
theorem n_isBefore {g : Nat} {h : PH} {a b : Nat} {kd kd' : Bool} {w v : List Nat} (r : nm_ h a kd w) (s : nm_ h b kd' v) : cal g mX2_isBefore [va_rf (some a), va_rf (some b)] h = some (some (.int (if nlt w v then 1 else 0)), h) := by
  obtain ⟨r1, r2, r3, r4, r5⟩ := r
  obtain ⟨s1, s2, s3, s4, s5⟩ := s
  rw [n_X2_isBefore]
  simp (decide := true) only [e_X2_isBefore_0, e_X2_isBefore_1, e_X2_isBefore_4, e_X2_isBefore_5, e_X2_isBefore_8, e_X2_isBefore_9, e_X2_isBefore_12, e_X2_isBefore_13, e_X2_isBefore_16, e_X2_isBefore_17, e_X2_isBefore_20, e_X2_isBefore_21, e_X2_isBefore_24, e_X2_isBefore_25, e_X2_isBefore_28, e_X2_isBefore_29, e_X2_isBefore_32, e_X2_isBefore_33, e_X2_isBefore_36, e_X2_isBefore_37, e_X2_isBefore_40, e_X2_isBefore_41, r1, r2, r3, r4, s1, s2, s3, s4, if_true, if_false, reduceCtorEq, Nat.reduceAdd, true_and, and_true, false_and, and_false, true_or, or_true, false_or, or_false, not_true_eq_false, not_false_eq_true, Option.bind_eq_bind, Option.bind_some, psh, eq_self, lg_cmp_lN (nhd_lt r5) (nhd_lt s5), lg_cmp_lN (ntl_lt r5) (ntl_lt s5), cmp0, cmplt, cmpge]
  by_cases z1 : nhd w < nhd v
  · simp [z1]
  · by_cases z2 : nhd w = nhd v
    · by_cases z3 : ntl w < ntl v <;> simp [z1, z2, z3]
    · simp [z1, z2]
theorem l_byte {n s : Nat} (hn : n < 2 ^ 63) (k : UInt64) (hk : k.toBitVec.toNat % 64 = s) : ((lN n).toUInt64 >>> k).toInt64.toInt32 &&& 255 = nI (n / 2 ^ s % 256) := by
  rw [pk_and _ 8 (by decide)]
  congr 1
  have e1 : ((lN n).toUInt64 >>> k).toBitVec.toNat = n / 2 ^ s := by
    rw [UInt64.toBitVec_shiftRight, BitVec.ushiftRight_eq', BitVec.toNat_ushiftRight, BitVec.toNat_umod, show (64 : BitVec 64).toNat = 64 from rfl, hk, Nat.shiftRight_eq_div_pow]
    congr 1
    show (BitVec.ofNat 64 n).toNat = n
    rw [BitVec.toNat_ofNat]
    omega
  show (((lN n).toUInt64 >>> k).toBitVec.signExtend 32).toNat % 2 ^ 8 = _
  rw [BitVec.signExtend_eq_setWidth_of_le _ (by decide), BitVec.toNat_setWidth, e1]
  omega
theorem pk8_at {f : Nat → Nat} (h : ∀ i, f i < 123) : ∀ i, i < 8 → pk8 f / 2 ^ (56 - 8 * i) % 256 = f i := by
  unfold pk8
  have h0 := h 0
  have h1 := h 1
  have h2 := h 2
  have h3 := h 3
  have h4 := h 4
  have h5 := h 5
  have h6 := h 6
  have h7 := h 7
  intro i hi
  have : i = 0 ∨ i = 1 ∨ i = 2 ∨ i = 3 ∨ i = 4 ∨ i = 5 ∨ i = 6 ∨ i = 7 := by omega
  rcases this with rfl | rfl | rfl | rfl | rfl | rfl | rfl | rfl <;> simp <;> omega
theorem n_byteAt {g : Nat} {h : PH} {a i : Nat} {kd : Bool} {w : List Nat} (r : nm_ h a kd w) (hi : i < 16) : cal g mX2_byteAt [va_rf (some a), .int (nI i)] h = some (some (.int (nI (w.getD i 0))), h) := by
  obtain ⟨r1, r2, r3, r4, r5⟩ := r
  rw [n_X2_byteAt]
  simp (decide := true) only [e_X2_byteAt_0, e_X2_byteAt_1, e_X2_byteAt_3, e_X2_byteAt_6, e_X2_byteAt_7, e_X2_byteAt_10, e_X2_byteAt_13, e_X2_byteAt_14, e_X2_byteAt_17, e_X2_byteAt_18, e_X2_byteAt_19, e_X2_byteAt_21, e_X2_byteAt_23, e_X2_byteAt_24, e_X2_byteAt_26, e_X2_byteAt_27, e_X2_byteAt_28, e_X2_byteAt_29, e_X2_byteAt_30, e_X2_byteAt_31, e_X2_byteAt_34, e_X2_byteAt_35, r1, r3, r4, if_true, if_false, reduceCtorEq, Nat.reduceAdd, true_and, and_true, false_and, and_false, true_or, or_true, false_or, or_false, not_true_eq_false, not_false_eq_true, Option.bind_eq_bind, Option.bind_some, psh, eq_self]
  have a1 := nhd_lt r5
  have a2 := ntl_lt r5
  have b1 := pk8_at (nok_lt r5)
  have b2 := pk8_at (f := fun i => w.getD (8 + i) 0) (fun i => nok_lt r5 _)
  have e1 : ∀ j, j < 8 → ∀ n, n < 2 ^ 63 → ((lN n).toUInt64 >>> (((56 - 8 * (nI j &&& 7) : Int32).toInt64.toUInt64) &&& Int64.toUInt64 63)).toInt64.toInt32 &&& 255 = nI (n / 2 ^ (56 - 8 * j) % 256) := by
    intro j hj n hn
    refine l_byte hn _ ?_
    have : j = 0 ∨ j = 1 ∨ j = 2 ∨ j = 3 ∨ j = 4 ∨ j = 5 ∨ j = 6 ∨ j = 7 := by omega
    rcases this with rfl | rfl | rfl | rfl | rfl | rfl | rfl | rfl <;> decide
  by_cases z : i < 8
  · have z1 : ¬ (8 : Int32) ≤ nI i := nI_ge (b := 8) z (by omega)
    simp only [z1, if_false]
    rw [e1 i z _ a1, show nhd w = pk8 (fun i => w.getD i 0) from rfl, b1 i z]
  · have z1 : (8 : Int32) ≤ nI i := nI_le (a := 8) (by omega) (by omega)
    have e2 : (nI i &&& 7) = (nI (i - 8) &&& 7) := by
      have : i = 8 ∨ i = 9 ∨ i = 10 ∨ i = 11 ∨ i = 12 ∨ i = 13 ∨ i = 14 ∨ i = 15 := by omega
      rcases this with rfl | rfl | rfl | rfl | rfl | rfl | rfl | rfl <;> decide
    simp only [z1, if_true]
    rw [e2, e1 (i - 8) (by omega) _ a2, show ntl w = pk8 (fun i => w.getD (8 + i) 0) from rfl, b2 (i - 8) (by omega)]
    rw [show 8 + (i - 8) = i by omega]
