/-- what a Name writes -/
def nby' (kd : Bool) (w : List Nat) : List Nat := (if kd then q_tx 0 else []) ++ w
/-- the count of bytes that aren't 0, from place i on -/
theorem n_length_loop {g : Nat} {h : PH} {a : Nat} {kd : Bool} {w : List Nat} (r : nm_ h a kd w) : ∀ (n i : Nat) (c : Nat), n + i = 16 →
    ev g mX2_length 19 [some (va_rf (some a)), some (.int (nI c)), some (.int (nI i))] [] h = some (some (.int (nI (c + (w.length - i)))), h) := by
  have hl := r.2.2.2.2.2.1
  intro n
  induction n with
  | zero =>
    intro i c hi
    have z1 : (16 : Int32) ≤ nI i := nI_le (a := 16) (by omega) (by omega)
    rw [e_X2_length_19]
    simp (decide := true) only [e_X2_length_0, e_X2_length_1, e_X2_length_4, e_X2_length_7, e_X2_length_9, e_X2_length_12, e_X2_length_15, e_X2_length_16, e_X2_length_17, e_X2_length_18, e_X2_length_20, e_X2_length_22, e_X2_length_25, e_X2_length_26, e_X2_length_27, e_X2_length_30, e_X2_length_33, e_X2_length_36, e_X2_length_39, e_X2_length_42, e_X2_length_43, z1, if_true, if_false, reduceCtorEq, Nat.reduceAdd, true_and, and_true, false_and, and_false, true_or, or_true, false_or, or_false, not_true_eq_false, not_false_eq_true, Option.bind_eq_bind, Option.bind_some, psh, eq_self]
    rw [show w.length - i = 0 by omega]
    rfl
  | succ n ih =>
    intro i c hi
    have z1 : ¬ (16 : Int32) ≤ nI i := nI_ge (b := 16) (by omega) (by omega)
    rw [e_X2_length_19]
    simp (decide := true) only [e_X2_length_0, e_X2_length_1, e_X2_length_4, e_X2_length_7, e_X2_length_9, e_X2_length_12, e_X2_length_15, e_X2_length_16, e_X2_length_17, e_X2_length_18, e_X2_length_20, e_X2_length_22, e_X2_length_25, e_X2_length_26, e_X2_length_27, e_X2_length_30, e_X2_length_33, e_X2_length_36, e_X2_length_39, e_X2_length_42, e_X2_length_43, z1, r.1, n_byteAt r (show i < 16 by omega), if_true, if_false, reduceCtorEq, Nat.reduceAdd, true_and, and_true, false_and, and_false, true_or, or_true, false_or, or_false, not_true_eq_false, not_false_eq_true, Option.bind_eq_bind, Option.bind_some, psh, eq_self, nI_1]
    by_cases z : i < w.length
    · have hp := nok_pos r.2.2.2.2 z
      have hb := nok_lt r.2.2.2.2 i
      have z2 : ¬ nI (w.getD i 0) = 0 := nI_ne0 hp (by omega)
      simp only [z2, if_false]
      rw [ih (i + 1) (c + 1) (by omega)]
      congr 5
      omega
    · have z2 : nI (w.getD i 0) = 0 := by rw [getD_out (by omega)]; rfl
      simp only [z2, if_true]
      rw [ih (i + 1) c (by omega)]
      congr 5
      omega
theorem n_length {g : Nat} {h : PH} {a : Nat} {kd : Bool} {w : List Nat} (r : nm_ h a kd w) (ht : hK h (hS h 0) = 70) : cal g mX2_length [va_rf (some a)] h = some (some (.int (nI (nby' kd w).length)), h) := by
  rw [n_X2_length]
  cases kd with
  | true =>
    have r2 : hI h 0 a = 1 := r.2.1
    simp (decide := true) only [e_X2_length_0, e_X2_length_1, e_X2_length_4, e_X2_length_7, e_X2_length_9, e_X2_length_12, e_X2_length_15, e_X2_length_16, e_X2_length_17, e_X2_length_18, e_X2_length_20, e_X2_length_22, e_X2_length_25, e_X2_length_26, e_X2_length_27, e_X2_length_30, e_X2_length_33, e_X2_length_36, e_X2_length_39, e_X2_length_42, e_X2_length_43, r.1, r2, if_true, if_false, reduceCtorEq, Nat.reduceAdd, true_and, and_true, false_and, and_false, true_or, or_true, false_or, or_false, not_true_eq_false, not_false_eq_true, Option.bind_eq_bind, Option.bind_some, psh, eq_self, j3_eq, ht]
    have := n_length_loop (g := g) r 16 0 5 rfl
    rw [nI_0] at this
    rw [show nI (q_tx (70 - 70)).length = nI 5 from rfl, this]
    simp [nby', q_tx]
    congr 1
    omega
  | false =>
    have r2 : hI h 0 a = 0 := r.2.1
    simp (decide := true) only [e_X2_length_0, e_X2_length_1, e_X2_length_4, e_X2_length_7, e_X2_length_9, e_X2_length_12, e_X2_length_15, e_X2_length_16, e_X2_length_17, e_X2_length_18, e_X2_length_20, e_X2_length_22, e_X2_length_25, e_X2_length_26, e_X2_length_27, e_X2_length_30, e_X2_length_33, e_X2_length_36, e_X2_length_39, e_X2_length_42, e_X2_length_43, r.1, r2, if_true, if_false, reduceCtorEq, Nat.reduceAdd, true_and, and_true, false_and, and_false, true_or, or_true, false_or, or_false, not_true_eq_false, not_false_eq_true, Option.bind_eq_bind, Option.bind_some, psh, eq_self]
    have := n_length_loop (g := g) r 16 0 0 rfl
    rw [nI_0] at this
    rw [this]
    simp [nby']
theorem drop_cons {w : List Nat} {i : Nat} (hi : i < w.length) : w.drop i = w.getD i 0 :: w.drop (i + 1) := by
  rw [List.drop_eq_getElem_cons hi, List.getD_eq_getElem?_getD, List.getElem?_eq_getElem hi]
  rfl
theorem n_writeTo_loop {g : Nat} {a q b cap bd : Nat} {kd : Bool} {w : List Nat} : ∀ (n i : Nat) (h : PH) (l : List Nat) (o : Int32) (d : Option Value), n + i = 16 → nm_ h a kd w → rw_ h q b cap bd l o → a < hN h → a ≠ q → a ≠ b →
    ∃ h', ev g mX2_writeTo 15 [some (va_rf (some a)), some (va_rf (some q)), some (.int (nI i)), d] [] h = some (none, h') ∧ rw_ h' q b cap bd (pls l (w.drop i) bd) (pos l (w.drop i) bd o) ∧ sm (rP q b) h h' ∧ hN h' = hN h ∧ hU h' = hU h := by
  intro n
  induction n with
  | zero =>
    intro i h l o d hi r s ha h1 h2
    have hl := r.2.2.2.2.2.1
    have z1 : (16 : Int32) ≤ nI i := nI_le (a := 16) (by omega) (by omega)
    rw [e_X2_writeTo_15]
    simp (decide := true) only [e_X2_writeTo_0, e_X2_writeTo_1, e_X2_writeTo_4, e_X2_writeTo_7, e_X2_writeTo_8, e_X2_writeTo_10, e_X2_writeTo_13, e_X2_writeTo_14, e_X2_writeTo_16, e_X2_writeTo_18, e_X2_writeTo_21, e_X2_writeTo_22, e_X2_writeTo_23, e_X2_writeTo_26, e_X2_writeTo_27, e_X2_writeTo_28, e_X2_writeTo_31, e_X2_writeTo_32, e_X2_writeTo_33, e_X2_writeTo_36, e_X2_writeTo_39, e_X2_writeTo_42, z1, if_true, if_false, reduceCtorEq, Nat.reduceAdd, true_and, and_true, false_and, and_false, true_or, or_true, false_or, or_false, not_true_eq_false, not_false_eq_true, Option.bind_eq_bind, Option.bind_some, psh, eq_self]
    rw [List.drop_of_length_le (by omega), pls_nil, pos_nil s.2.2.1.1]
    exact ⟨h, rfl, s, sm.rf _, rfl, rfl⟩
  | succ n ih =>
    intro i h l o d hi r s ha h1 h2
    have hl := r.2.2.2.2.2.1
    have z1 : ¬ (16 : Int32) ≤ nI i := nI_ge (b := 16) (by omega) (by omega)
    rw [e_X2_writeTo_15]
    simp (decide := true) only [e_X2_writeTo_0, e_X2_writeTo_1, e_X2_writeTo_4, e_X2_writeTo_7, e_X2_writeTo_8, e_X2_writeTo_10, e_X2_writeTo_13, e_X2_writeTo_14, e_X2_writeTo_16, e_X2_writeTo_18, e_X2_writeTo_21, e_X2_writeTo_22, e_X2_writeTo_23, e_X2_writeTo_26, e_X2_writeTo_27, e_X2_writeTo_28, e_X2_writeTo_31, e_X2_writeTo_32, e_X2_writeTo_33, e_X2_writeTo_36, e_X2_writeTo_39, e_X2_writeTo_42, z1, r.1, n_byteAt r (show i < 16 by omega), if_true, if_false, reduceCtorEq, Nat.reduceAdd, true_and, and_true, false_and, and_false, true_or, or_true, false_or, or_false, not_true_eq_false, not_false_eq_true, Option.bind_eq_bind, Option.bind_some, psh, eq_self, nI_1]
    by_cases z : i < w.length
    · have hp := nok_pos r.2.2.2.2 z
      have hb := nok_lt r.2.2.2.2 i
      have z2 : ¬ nI (w.getD i 0) = 0 := nI_ne0 hp (by omega)
      obtain ⟨h1', e1, r1, s1, n1, u1⟩ := r_put (g := g) (v := nI (w.getD i 0)) s
      rw [bt_nI (by omega)] at r1
      simp (decide := true) only [z2, s.1.1, e1, if_true, if_false, reduceCtorEq, Nat.reduceAdd, true_and, and_true, false_and, and_false, true_or, or_true, false_or, or_false, not_true_eq_false, not_false_eq_true, Option.bind_eq_bind, Option.bind_some, psh, eq_self, e_X2_writeTo_0, e_X2_writeTo_1, e_X2_writeTo_4, e_X2_writeTo_7, e_X2_writeTo_8, e_X2_writeTo_10, e_X2_writeTo_13, e_X2_writeTo_14, e_X2_writeTo_16, e_X2_writeTo_18, e_X2_writeTo_21, e_X2_writeTo_22, e_X2_writeTo_23, e_X2_writeTo_26, e_X2_writeTo_27, e_X2_writeTo_28, e_X2_writeTo_31, e_X2_writeTo_32, e_X2_writeTo_33, e_X2_writeTo_36, e_X2_writeTo_39, e_X2_writeTo_42, nI_1]
      have r' := r.keep s1 ha (fun z => z.elim h1 h2)
      obtain ⟨h2', e2, r2, s2, n2, u2⟩ := ih (i + 1) h1' _ _ (some (.int (nI (w.getD i 0)))) (by omega) r' r1 (by omega) h1 h2
      rw [pls_cons s.2.2.1.1, pos_cons s.2.2.1.1, ← drop_cons z] at r2
      exact ⟨h2', e2, r2, s1.tr s2, by omega, by omega⟩
    · have z2 : nI (w.getD i 0) = 0 := by rw [getD_out (by omega)]; rfl
      simp only [z2, if_true]
      obtain ⟨h2', e2, r2, s2, n2, u2⟩ := ih (i + 1) h _ _ (some (.int 0)) (by omega) r s ha h1 h2
      rw [List.drop_of_length_le (by omega)] at r2 ⊢
      exact ⟨h2', e2, r2, s2, n2, u2⟩
theorem pls_app {l t u : List Nat} {bd : Nat} (h : l.length ≤ bd) : pls (pls l t bd) u bd = pls l (t ++ u) bd := by
  unfold pls
  rw [List.append_assoc]
  congr 1
  rw [List.take_append]
  congr 1
  simp
  omega
theorem pos_app {l t u : List Nat} {bd : Nat} {o : Int32} (h : l.length ≤ bd) : pos (pls l t bd) u bd (pos l t bd o) = pos l (t ++ u) bd o := by
  unfold pos pls
  simp only [List.length_append, List.length_take]
  by_cases z1 : l.length + t.length ≤ bd
  · rw [if_pos z1]
    congr 1
    simp
    omega
  · rw [if_neg z1, if_neg (by omega : ¬ l.length + (t.length + u.length) ≤ bd)]
    split <;> rfl
/-- writeTo(row) -/
theorem n_writeTo {g : Nat} {h : PH} {a q b cap bd : Nat} {kd : Bool} {w l : List Nat} {o : Int32} (r : nm_ h a kd w) (s : rw_ h q b cap bd l o) (ha : a < hN h) (ht : hK h (hS h 0) = 70) (hlt : hS h 0 < hN h) :
    ∃ h', cal g mX2_writeTo [va_rf (some a), va_rf (some q)] h = some (none, h') ∧ rw_ h' q b cap bd (pls l (nby' kd w) bd) (pos l (nby' kd w) bd o) ∧ sm (rP q b) h h' ∧ hN h' = hN h ∧ hU h' = hU h := by
  have h1 : a ≠ q := fun z => by have := r.1; rw [z, s.1.1] at this; omega
  have h2 : a ≠ b := fun z => by have := r.1; rw [z, s.1.2.2.1] at this; omega
  rw [n_X2_writeTo]
  cases kd with
  | true =>
    have r2 : hI h 0 a = 1 := r.2.1
    obtain ⟨h1', e1, r1, s1, n1, u1⟩ := r_putText (g := g) s (k := 0) (by decide) ht hlt
    simp (decide := true) only [e_X2_writeTo_0, e_X2_writeTo_1, e_X2_writeTo_4, e_X2_writeTo_7, e_X2_writeTo_8, e_X2_writeTo_10, e_X2_writeTo_13, e_X2_writeTo_14, e_X2_writeTo_16, e_X2_writeTo_18, e_X2_writeTo_21, e_X2_writeTo_22, e_X2_writeTo_23, e_X2_writeTo_26, e_X2_writeTo_27, e_X2_writeTo_28, e_X2_writeTo_31, e_X2_writeTo_32, e_X2_writeTo_33, e_X2_writeTo_36, e_X2_writeTo_39, e_X2_writeTo_42, r.1, r2, if_true, if_false, reduceCtorEq, Nat.reduceAdd, true_and, and_true, false_and, and_false, true_or, or_true, false_or, or_false, not_true_eq_false, not_false_eq_true, Option.bind_eq_bind, Option.bind_some, psh, eq_self, s.1.1, e1]
    have r' := r.keep s1 ha (fun z => z.elim h1 h2)
    obtain ⟨h2', e2, r3, s2, n2, u2⟩ := n_writeTo_loop (g := g) 16 0 h1' _ _ none rfl r' r1 (by omega) h1 h2
    rw [nI_0] at e2
    rw [List.drop_zero, pls_app s.2.2.1.1, pos_app s.2.2.1.1] at r3
    exact ⟨h2', e2, r3, s1.tr s2, by omega, by omega⟩
  | false =>
    have r2 : hI h 0 a = 0 := r.2.1
    simp (decide := true) only [e_X2_writeTo_0, e_X2_writeTo_1, e_X2_writeTo_4, e_X2_writeTo_7, e_X2_writeTo_8, e_X2_writeTo_10, e_X2_writeTo_13, e_X2_writeTo_14, e_X2_writeTo_16, e_X2_writeTo_18, e_X2_writeTo_21, e_X2_writeTo_22, e_X2_writeTo_23, e_X2_writeTo_26, e_X2_writeTo_27, e_X2_writeTo_28, e_X2_writeTo_31, e_X2_writeTo_32, e_X2_writeTo_33, e_X2_writeTo_36, e_X2_writeTo_39, e_X2_writeTo_42, r.1, r2, if_true, if_false, reduceCtorEq, Nat.reduceAdd, true_and, and_true, false_and, and_false, true_or, or_true, false_or, or_false, not_true_eq_false, not_false_eq_true, Option.bind_eq_bind, Option.bind_some, psh, eq_self]
    obtain ⟨h2', e2, r3, s2, n2, u2⟩ := n_writeTo_loop (g := g) 16 0 h _ _ none rfl r s ha h1 h2
    rw [nI_0] at e2
    rw [List.drop_zero] at r3
    exact ⟨h2', e2, r3, s2, n2, u2⟩
/-- a new Name -/
theorem n_init {g : Nat} {h : PH} {a : Nat} {kd : Bool} {w : List Nat} (ha : hK h a = 2) (hw : nok w) :
    ∃ h', cal g mX2_init [va_rf (some a), .int (if kd then 1 else 0), .long (lN (nhd w)), .long (lN (ntl w))] h = some (none, h') ∧ nm_ h' a kd w ∧ sm (fun x => x = a) h h' ∧ hN h' = hN h ∧ hU h' = hU h := by
  rw [n_X2_init]
  have hb : ((if kd = true then (1 : Int32) else 0) = 0 ∨ (if kd = true then (1 : Int32) else 0) = 1) = True := by cases kd <;> simp
  simp (decide := true) only [e_X2_init_0, e_X2_init_1, e_X2_init_4, e_X2_init_5, e_X2_init_6, e_X2_init_9, e_X2_init_10, e_X2_init_11, e_X2_init_14, e_X2_init_15, e_X2_init_17, e_X2_init_20, ha, if_true, if_false, reduceCtorEq, Nat.reduceAdd, true_and, and_true, false_and, and_false, true_or, or_true, false_or, or_false, not_true_eq_false, not_false_eq_true, Option.bind_eq_bind, Option.bind_some, psh, eq_self, u_hN_pI, u_hU_pI, u_hK_pI, u_hL_pI, u_hR_pI, u_hJ_pI, u_hA_pI, u_hB_pI, u_hS_pI, u_hN_pR, u_hU_pR, u_hK_pR, u_hL_pR, u_hI_pR, u_hJ_pR, u_hA_pR, u_hB_pR, u_hS_pR, u_hN_pJ, u_hU_pJ, u_hK_pJ, u_hL_pJ, u_hI_pJ, u_hR_pJ, u_hA_pJ, u_hB_pJ, u_hS_pJ, u_hN_pA, u_hU_pA, u_hK_pA, u_hL_pA, u_hI_pA, u_hR_pA, u_hJ_pA, u_hB_pA, u_hS_pA, u_hN_pB, u_hU_pB, u_hK_pB, u_hL_pB, u_hI_pB, u_hR_pB, u_hJ_pB, u_hA_pB, u_hS_pB, u_hL_nO, u_hA_nO, u_hB_nO, u_hS_nO, u_hI_nA, u_hR_nA, u_hJ_nA, u_hS_nA, u_II, u_RR, u_JJ, u_AA, u_BB, u_NO, u_UO, u_KO, u_IO, u_RO, u_JO, u_NN, u_UN, u_KN, u_LN, u_AN, u_BN, hb]
  refine ⟨_, rfl, ?_, ?_, ?_, ?_⟩
  · refine ⟨?_, ?_, ?_, ?_, hw⟩
    · simp only [u_hN_pI, u_hU_pI, u_hK_pI, u_hL_pI, u_hR_pI, u_hJ_pI, u_hA_pI, u_hB_pI, u_hS_pI, u_hN_pR, u_hU_pR, u_hK_pR, u_hL_pR, u_hI_pR, u_hJ_pR, u_hA_pR, u_hB_pR, u_hS_pR, u_hN_pJ, u_hU_pJ, u_hK_pJ, u_hL_pJ, u_hI_pJ, u_hR_pJ, u_hA_pJ, u_hB_pJ, u_hS_pJ, u_hN_pA, u_hU_pA, u_hK_pA, u_hL_pA, u_hI_pA, u_hR_pA, u_hJ_pA, u_hB_pA, u_hS_pA, u_hN_pB, u_hU_pB, u_hK_pB, u_hL_pB, u_hI_pB, u_hR_pB, u_hJ_pB, u_hA_pB, u_hS_pB, u_hL_nO, u_hA_nO, u_hB_nO, u_hS_nO, u_hI_nA, u_hR_nA, u_hJ_nA, u_hS_nA, u_II, u_RR, u_JJ, u_AA, u_BB, u_NO, u_UO, u_KO, u_IO, u_RO, u_JO, u_NN, u_UN, u_KN, u_LN, u_AN, u_BN]; exact ha
    · simp (decide := true) only [u_hN_pI, u_hU_pI, u_hK_pI, u_hL_pI, u_hR_pI, u_hJ_pI, u_hA_pI, u_hB_pI, u_hS_pI, u_hN_pR, u_hU_pR, u_hK_pR, u_hL_pR, u_hI_pR, u_hJ_pR, u_hA_pR, u_hB_pR, u_hS_pR, u_hN_pJ, u_hU_pJ, u_hK_pJ, u_hL_pJ, u_hI_pJ, u_hR_pJ, u_hA_pJ, u_hB_pJ, u_hS_pJ, u_hN_pA, u_hU_pA, u_hK_pA, u_hL_pA, u_hI_pA, u_hR_pA, u_hJ_pA, u_hB_pA, u_hS_pA, u_hN_pB, u_hU_pB, u_hK_pB, u_hL_pB, u_hI_pB, u_hR_pB, u_hJ_pB, u_hA_pB, u_hS_pB, u_hL_nO, u_hA_nO, u_hB_nO, u_hS_nO, u_hI_nA, u_hR_nA, u_hJ_nA, u_hS_nA, u_II, u_RR, u_JJ, u_AA, u_BB, u_NO, u_UO, u_KO, u_IO, u_RO, u_JO, u_NN, u_UN, u_KN, u_LN, u_AN, u_BN, if_true, if_false, reduceCtorEq, Nat.reduceAdd, true_and, and_true, false_and, and_false, true_or, or_true, false_or, or_false, not_true_eq_false, not_false_eq_true, Option.bind_eq_bind, Option.bind_some, psh, eq_self]
    · simp (decide := true) only [u_hN_pI, u_hU_pI, u_hK_pI, u_hL_pI, u_hR_pI, u_hJ_pI, u_hA_pI, u_hB_pI, u_hS_pI, u_hN_pR, u_hU_pR, u_hK_pR, u_hL_pR, u_hI_pR, u_hJ_pR, u_hA_pR, u_hB_pR, u_hS_pR, u_hN_pJ, u_hU_pJ, u_hK_pJ, u_hL_pJ, u_hI_pJ, u_hR_pJ, u_hA_pJ, u_hB_pJ, u_hS_pJ, u_hN_pA, u_hU_pA, u_hK_pA, u_hL_pA, u_hI_pA, u_hR_pA, u_hJ_pA, u_hB_pA, u_hS_pA, u_hN_pB, u_hU_pB, u_hK_pB, u_hL_pB, u_hI_pB, u_hR_pB, u_hJ_pB, u_hA_pB, u_hS_pB, u_hL_nO, u_hA_nO, u_hB_nO, u_hS_nO, u_hI_nA, u_hR_nA, u_hJ_nA, u_hS_nA, u_II, u_RR, u_JJ, u_AA, u_BB, u_NO, u_UO, u_KO, u_IO, u_RO, u_JO, u_NN, u_UN, u_KN, u_LN, u_AN, u_BN, if_true, if_false, reduceCtorEq, Nat.reduceAdd, true_and, and_true, false_and, and_false, true_or, or_true, false_or, or_false, not_true_eq_false, not_false_eq_true, Option.bind_eq_bind, Option.bind_some, psh, eq_self]
    · simp (decide := true) only [u_hN_pI, u_hU_pI, u_hK_pI, u_hL_pI, u_hR_pI, u_hJ_pI, u_hA_pI, u_hB_pI, u_hS_pI, u_hN_pR, u_hU_pR, u_hK_pR, u_hL_pR, u_hI_pR, u_hJ_pR, u_hA_pR, u_hB_pR, u_hS_pR, u_hN_pJ, u_hU_pJ, u_hK_pJ, u_hL_pJ, u_hI_pJ, u_hR_pJ, u_hA_pJ, u_hB_pJ, u_hS_pJ, u_hN_pA, u_hU_pA, u_hK_pA, u_hL_pA, u_hI_pA, u_hR_pA, u_hJ_pA, u_hB_pA, u_hS_pA, u_hN_pB, u_hU_pB, u_hK_pB, u_hL_pB, u_hI_pB, u_hR_pB, u_hJ_pB, u_hA_pB, u_hS_pB, u_hL_nO, u_hA_nO, u_hB_nO, u_hS_nO, u_hI_nA, u_hR_nA, u_hJ_nA, u_hS_nA, u_II, u_RR, u_JJ, u_AA, u_BB, u_NO, u_UO, u_KO, u_IO, u_RO, u_JO, u_NN, u_UN, u_KN, u_LN, u_AN, u_BN, if_true, if_false, reduceCtorEq, Nat.reduceAdd, true_and, and_true, false_and, and_false, true_or, or_true, false_or, or_false, not_true_eq_false, not_false_eq_true, Option.bind_eq_bind, Option.bind_some, psh, eq_self]
  · exact ((sm.I1 _ _).tr (sm.J1 _ _)).tr (sm.J1 _ _)
  · rfl
  · rfl
