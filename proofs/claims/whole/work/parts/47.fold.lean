/-! folding NAMES: what it is, and Reader's part of it -/
def nbb (x : Nat) : Bool := decide ((97 ≤ x ∧ x ≤ 122) ∨ (48 ≤ x ∧ x ≤ 57) ∨ x = 32)
theorem nbb_iff {x : Nat} : nbb x = true ↔ nby x := by simp [nbb, nby]
def low (b : Nat) : Nat := if 65 ≤ b ∧ b ≤ 90 then b + 32 else b
/-- one byte more: what is folded so far, and whether a blank waits -/
def fs1 (s : List Nat × Bool) (b : Nat) : List Nat × Bool := if b = 32 ∨ b = 95 then (s.1, true) else ((if s.2 = true ∧ s.1 ≠ [] then s.1 ++ [32] else s.1) ++ [low b], false)
def fz (bs : List Nat) : List Nat := (bs.foldl fs1 ([], false)).1
/-- what stands behind kind: -/
def fkd (z : List Nat) : Bool := decide (z.take 5 = q_tx 0)
def fwd (z : List Nat) : List Nat := if fkd z = true then (if z.getD 5 0 = 32 then z.drop 6 else z.drop 5) else z
def fnm (z : List Nat) : Option (Bool × List Nat) := if 1 ≤ (fwd z).length ∧ (fwd z).length ≤ 16 ∧ (fwd z).all nbb = true then some (fkd z, fwd z) else none
/-- FOLDED: the NAME that bytes are, if they are one -/
def fold (bs : List Nat) : Option (Bool × List Nat) := fnm (fz bs)
theorem fnm_nok {z : List Nat} {q : Bool × List Nat} (h : fnm z = some q) : nok q.2 := by
  unfold fnm at h
  split at h
  · rename_i c
    cases h
    exact ⟨c.1, c.2.1, fun x hx => nbb_iff.mp (List.all_eq_true.mp c.2.2 x hx)⟩
  · cases h
theorem f_isNameByte {g : Nat} {h : PH} {b : Nat} (hb : b < 256) : cal g mX5_isNameByte [.int (nI b)] h = some (some (.int (if nbb b = true then 1 else 0)), h) := by
  rw [n_X5_isNameByte]
  simp (decide := true) only [e_X5_isNameByte_0, e_X5_isNameByte_1, e_X5_isNameByte_3, e_X5_isNameByte_6, e_X5_isNameByte_7, e_X5_isNameByte_9, e_X5_isNameByte_12, e_X5_isNameByte_13, e_X5_isNameByte_15, e_X5_isNameByte_18, e_X5_isNameByte_19, e_X5_isNameByte_21, e_X5_isNameByte_24, e_X5_isNameByte_25, e_X5_isNameByte_27, e_X5_isNameByte_30, e_X5_isNameByte_31, e_X5_isNameByte_34, e_X5_isNameByte_35, if_true, if_false, reduceCtorEq, Nat.reduceAdd, true_and, and_true, false_and, and_false, true_or, or_true, false_or, or_false, not_true_eq_false, not_false_eq_true, Option.bind_eq_bind, Option.bind_some, psh, eq_self]
  have c1 : ((97 : Int32) ≤ nI b) ↔ 97 ≤ b := nI_leI (a := 97) (by omega) (by omega)
  have c1' : (nI b < (97 : Int32)) ↔ b < 97 := nI_ltI (b := 97) (by omega) (by omega)
  have c2 : (nI b ≤ (122 : Int32)) ↔ b ≤ 122 := nI_leI (b := 122) (by omega) (by omega)
  have c2' : ((122 : Int32) < nI b) ↔ 122 < b := nI_ltI (a := 122) (by omega) (by omega)
  have c3 : ((48 : Int32) ≤ nI b) ↔ 48 ≤ b := nI_leI (a := 48) (by omega) (by omega)
  have c3' : (nI b < (48 : Int32)) ↔ b < 48 := nI_ltI (b := 48) (by omega) (by omega)
  have c4 : (nI b ≤ (57 : Int32)) ↔ b ≤ 57 := nI_leI (b := 57) (by omega) (by omega)
  have c4' : ((57 : Int32) < nI b) ↔ 57 < b := nI_ltI (a := 57) (by omega) (by omega)
  have c5 : (nI b = (32 : Int32)) ↔ b = 32 := nI_eq (b := 32) (by omega) (by omega)
  simp only [c1, c1', c2, c2', c3, c3', c4, c4', c5]
  by_cases z1 : 97 ≤ b ∧ b ≤ 122
  · have : nbb b = true := nbb_iff.mpr (Or.inl z1)
    simp [this, z1, show ¬ b < 97 by omega, show ¬ 122 < b by omega]
  · by_cases z2 : 48 ≤ b ∧ b ≤ 57
    · have : nbb b = true := nbb_iff.mpr (Or.inr (Or.inl z2))
      simp [this, z2, show ¬ b < 48 by omega, show ¬ 57 < b by omega]
    · by_cases z3 : b = 32
      · subst z3; simp (decide := true)
      · have : ¬ nbb b = true := fun z => by have := nbb_iff.mp z; unfold nby at this; omega
        simp only [this, z3, if_false]
        split <;> split <;> first | rfl | (split <;> first | rfl | (split <;> first | rfl | omega) | omega) | omega
theorem rb5 {z : List Nat} {i : Nat} (hi : i < 2 ^ 31) : rb z (nI i) = if i < z.length then nI (z.getD i 0) else -1 := rb_nI hi
/-- foldedIsKind() -/
theorem f_isKind_loop {g : Nat} {h : PH} {ro fa fb bd cap : Nat} {z : List Nat} {o : Int32} (ho : hK h ro = 5) (hf : hR h 0 ro = some fa) (r : rw_ h fa fb cap bd z o) (ht : hK h (hS h 0) = 70) :
    ∀ (n i : Nat), n + i = 5 → ev g mX5_foldedIsKind 2 [some (va_rf (some ro)), some (.int (nI i))] [] h = some (some (.int (if (z.drop i).take (5 - i) = (q_tx 0).drop i then 1 else 0)), h) := by
  intro n
  induction n with
  | zero =>
    intro i hi
    have : i = 5 := by omega
    subst this
    rw [e_X5_foldedIsKind_2]
    simp (decide := true) only [e_X5_foldedIsKind_0, e_X5_foldedIsKind_1, e_X5_foldedIsKind_3, e_X5_foldedIsKind_5, e_X5_foldedIsKind_8, e_X5_foldedIsKind_11, e_X5_foldedIsKind_12, e_X5_foldedIsKind_15, e_X5_foldedIsKind_16, e_X5_foldedIsKind_19, e_X5_foldedIsKind_21, e_X5_foldedIsKind_22, e_X5_foldedIsKind_25, e_X5_foldedIsKind_28, e_X5_foldedIsKind_29, e_X5_foldedIsKind_30, e_X5_foldedIsKind_33, e_X5_foldedIsKind_36, e_X5_foldedIsKind_37, if_true, if_false, reduceCtorEq, Nat.reduceAdd, true_and, and_true, false_and, and_false, true_or, or_true, false_or, or_false, not_true_eq_false, not_false_eq_true, Option.bind_eq_bind, Option.bind_some, psh, eq_self, j3_eq, ht]
    simp
    exact Nat.le_refl _
  | succ n ih =>
    intro i hi
    have z1 : ¬ nI (q_tx (70 - 70)).length ≤ nI i := nI_ge (show i < 5 by omega) (by decide)
    have k3 : q_in (nI i) (q_tx (70 - 70)).length = True := eq_true (vp_in_nI (show i < 5 by omega) (by decide))
    have k4 : (nI i).toNatClampNeg = i := nI_clamp (by omega)
    have hx : (q_tx 0).getD i 0 < 256 := (q_tx_len 0 (by decide)).2 _ (getD_mem (show i < (q_tx 0).length from by show i < 5; omega))
    have hx0 : 0 < (q_tx 0).getD i 0 := by
      have : i = 0 ∨ i = 1 ∨ i = 2 ∨ i = 3 ∨ i = 4 := by omega
      rcases this with rfl | rfl | rfl | rfl | rfl <;> decide
    rw [e_X5_foldedIsKind_2]
    simp (decide := true) only [e_X5_foldedIsKind_0, e_X5_foldedIsKind_1, e_X5_foldedIsKind_3, e_X5_foldedIsKind_5, e_X5_foldedIsKind_8, e_X5_foldedIsKind_11, e_X5_foldedIsKind_12, e_X5_foldedIsKind_15, e_X5_foldedIsKind_16, e_X5_foldedIsKind_19, e_X5_foldedIsKind_21, e_X5_foldedIsKind_22, e_X5_foldedIsKind_25, e_X5_foldedIsKind_28, e_X5_foldedIsKind_29, e_X5_foldedIsKind_30, e_X5_foldedIsKind_33, e_X5_foldedIsKind_36, e_X5_foldedIsKind_37, if_true, if_false, reduceCtorEq, Nat.reduceAdd, true_and, and_true, false_and, and_false, true_or, or_true, false_or, or_false, not_true_eq_false, not_false_eq_true, Option.bind_eq_bind, Option.bind_some, psh, eq_self, j3_eq, j4_eq, ht, z1, k3, k4, ho, hf, r.1.1, r_byteAt r, rb5 (show i < 2 ^ 31 by omega), nI_1]
    rw [show q_tx (70 - 70) = q_tx 0 from rfl]
    have hd : (q_tx 0).drop i = (q_tx 0).getD i 0 :: (q_tx 0).drop (i + 1) := drop_cons (show i < (q_tx 0).length from by show i < 5; omega)
    by_cases zl : i < z.length
    · have hz : z.getD i 0 < 256 := r.2.2.2.2 _ (getD_mem zl)
      rw [if_pos zl, drop_cons zl, hd, show 5 - i = (5 - (i + 1)) + 1 by omega, List.take_succ_cons]
      by_cases ze : z.getD i 0 = (q_tx 0).getD i 0
      · rw [if_pos (by rw [ze]), ih (i + 1) (by omega), ze]
        simp
      · rw [if_neg (fun w => ze ((nI_eq (by omega) (by omega)).mp w)), if_neg (fun w => ze (List.cons.inj w).1)]
    · rw [if_neg zl, if_neg, List.drop_of_length_le (by omega), hd]
      · simp
      · intro w
        have := congrArg Int32.toInt w
        rw [nI_toInt (by omega)] at this
        have e : (-1 : Int32).toInt = -1 := by decide
        omega
theorem f_isKind {g : Nat} {h : PH} {ro fa fb bd cap : Nat} {z : List Nat} {o : Int32} (ho : hK h ro = 5) (hf : hR h 0 ro = some fa) (r : rw_ h fa fb cap bd z o) (ht : hK h (hS h 0) = 70) : cal g mX5_foldedIsKind [va_rf (some ro)] h = some (some (.int (if fkd z = true then 1 else 0)), h) := by
  rw [n_X5_foldedIsKind]
  simp (decide := true) only [e_X5_foldedIsKind_0, e_X5_foldedIsKind_1, e_X5_foldedIsKind_3, e_X5_foldedIsKind_5, e_X5_foldedIsKind_8, e_X5_foldedIsKind_11, e_X5_foldedIsKind_12, e_X5_foldedIsKind_15, e_X5_foldedIsKind_16, e_X5_foldedIsKind_19, e_X5_foldedIsKind_21, e_X5_foldedIsKind_22, e_X5_foldedIsKind_25, e_X5_foldedIsKind_28, e_X5_foldedIsKind_29, e_X5_foldedIsKind_30, e_X5_foldedIsKind_33, e_X5_foldedIsKind_36, e_X5_foldedIsKind_37]
  have := f_isKind_loop (g := g) ho hf r ht 5 0 rfl
  rw [nI_0] at this
  rw [this]
  simp [fkd]
