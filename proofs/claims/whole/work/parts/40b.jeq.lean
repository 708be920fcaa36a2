/-! the JDK's members over references written va_rf -/
section QJE
variable {pc : Nat} {ls : List (Option Value)} {h : PH} {r : List Value} {a b : Nat}
theorem j3_eq : q_j3 pc ls (va_rf (some a) :: r) h = if 70 ≤ hK h a ∧ hK h a < 74 then some (pc + 3, ls, .int (nI (q_tx (hK h a - 70)).length) :: r, h) else none := id rfl
theorem j4_eq {i : Int32} : q_j4 pc ls (.int i :: va_rf (some a) :: r) h = if 70 ≤ hK h a ∧ hK h a < 74 ∧ q_in i (q_tx (hK h a - 70)).length then some (pc + 3, ls, .int (nI ((q_tx (hK h a - 70)).getD i.toNatClampNeg 0)) :: r, h) else none := id rfl
theorem j5_eq {n dp sp : Int32} : q_j5 pc ls (.int n :: .int dp :: va_rf (some b) :: .int sp :: va_rf (some a) :: r) h = if hK h a = 52 ∧ hK h b = 52 ∧ ¬ sp < 0 ∧ ¬ dp < 0 ∧ ¬ n < 0 ∧ sp.toNatClampNeg + n.toNatClampNeg ≤ hL h a ∧ dp.toNatClampNeg + n.toNatClampNeg ≤ hL h b then some (pc + 3, ls, r, pA h b (va_cpy (hA h a) (hA h b) sp.toNatClampNeg dp.toNatClampNeg n.toNatClampNeg)) else none := id rfl
theorem j6_eq : q_j6 pc ls (va_rf (some a) :: r) h = if hK h a = 12 then some (pc + 3, ls, r, pR (pI h 0 a 0) 1 a (some (hS h 9))) else none := id rfl
theorem j7_eq {i : Int32} {v : Nat} : q_j7 pc ls (va_rf (some v) :: .int i :: va_rf (some a) :: r) h = if hK h a = 12 ∧ hK h v = 2 then (match q_add h a i.toNatClampNeg v (i < 0 ∨ hI h 2 a < i) with | some h' => some (pc + 3, ls, r, h') | none => none) else none := id rfl
theorem j8_eq : q_j8 pc ls (va_rf (some a) :: r) h = if hK h a = 12 then (match q_clr h a with | some h' => some (pc + 3, ls, r, h') | none => none) else none := id rfl
theorem j9_eq {i : Int32} : q_j9 pc ls (.int i :: va_rf (some a) :: r) h = if hK h a = 12 ∧ ¬ i < 0 ∧ i < hI h 2 a then (match hR h 1 a with | some e => if hK h e = 55 ∧ i.toNatClampNeg < hL h e then some (pc + 3, ls, va_rf (hB h e i.toNatClampNeg) :: r, h) else none | none => none) else none := id rfl
theorem j10_eq : q_j10 pc ls (va_rf (some a) :: r) h = if hK h a = 12 then some (pc + 3, ls, .int (hI h 2 a) :: r, h) else none := id rfl
theorem j11_eq {n : Int32} : q_j11 pc ls (.int n :: va_rf (some a) :: r) h = if hK h a = 52 ∧ q_nb n = false ∧ hL h a < n.toNatClampNeg then some (pc + 3, ls, va_rf (some (hN h)) :: r, pA (nA h 52 n.toNatClampNeg) (hN h) (va_cpy (hA h a) (fun _ => 0) 0 0 (hL h a))) else none := id rfl
end QJE
