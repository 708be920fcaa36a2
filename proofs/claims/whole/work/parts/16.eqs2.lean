section QEQ2
variable {g : Nat} {m : Mt} {pc : Nat} {ls : List (Option Value)} {st : List Value} {h : PH} {a : Nat}
theorem q_lng_int (v : Int32) : q_lng (.int v) = false := rfl
theorem q_lng_rf (r : Option Nat) : q_lng (va_rf r) = false := by cases r <;> rfl
theorem ev_if {i : Instr} {n : Nat} {p : Prop} {hp : Decidable p} {q : PS} (hd : decode (mC m) pc = .ok (i, n)) (hok : q_lok i n = true) (hr : rof m i st = none) (hc : cof m i st h = none) (hs : sim m i pc ls st h = if p then some q else none) : ev g m pc ls st h = if p then ev g m q.1 q.2.1 q.2.2.1 q.2.2.2 else none := by
  by_cases z : p
  · rw [if_pos z] at hs ⊢
    exact ev_sim hd hok hr hc hs
  · rw [if_neg z] at hs ⊢
    exact ev_simN hd hok hr hc hs
theorem ev_getI {i c k : Nat} (hd : decode (mC m) pc = .ok (.getfield i, 3)) (hf : qk_f (mO m) i = some (c, k)) (hs : q_fs c k = 0 ∨ q_fs c k = 1) : ev g m pc ls (va_rf (some a) :: st) h = if hK h a = c then ev g m (pc + 3) ls (.int (hI h k a) :: st) h else none := by
  have e : q_fv h c a k = .int (hI h k a) := by unfold q_fv; rw [if_pos hs]
  refine ev_if (q := (pc + 3, ls, .int (hI h k a) :: st, h)) hd rfl rfl rfl ?_
  rw [← e]
  simp only [sim, hf, va_rf]
theorem ev_getR {i c k : Nat} (hd : decode (mC m) pc = .ok (.getfield i, 3)) (hf : qk_f (mO m) i = some (c, k)) (hs : q_fs c k = 2) : ev g m pc ls (va_rf (some a) :: st) h = if hK h a = c then ev g m (pc + 3) ls (va_rf (hR h k a) :: st) h else none := by
  have e : q_fv h c a k = va_rf (hR h k a) := by unfold q_fv; simp [hs]
  refine ev_if (q := (pc + 3, ls, va_rf (hR h k a) :: st, h)) hd rfl rfl rfl ?_
  rw [← e]
  simp only [sim, hf, va_rf]
theorem ev_getJ {i c k : Nat} (hd : decode (mC m) pc = .ok (.getfield i, 3)) (hf : qk_f (mO m) i = some (c, k)) (hs : q_fs c k = 3) : ev g m pc ls (va_rf (some a) :: st) h = if hK h a = c then ev g m (pc + 3) ls (.long (hJ h k a) :: st) h else none := by
  have e : q_fv h c a k = .long (hJ h k a) := by unfold q_fv; simp [hs]
  refine ev_if (q := (pc + 3, ls, .long (hJ h k a) :: st, h)) hd rfl rfl rfl ?_
  rw [← e]
  simp only [sim, hf, va_rf]
theorem ev_putI {i c k : Nat} {v : Int32} (hd : decode (mC m) pc = .ok (.putfield i, 3)) (hf : qk_f (mO m) i = some (c, k)) (hs : q_fs c k = 0) (hn : q_fin m c k = true) : ev g m pc ls (.int v :: va_rf (some a) :: st) h = if hK h a = c then ev g m (pc + 3) ls st (pI h k a v) else none := by
  refine ev_if (q := (pc + 3, ls, st, pI h k a v)) hd rfl rfl rfl ?_
  simp only [sim, hf, va_rf, hn, and_true, q_fw, hs, if_true]
theorem ev_putZ {i c k : Nat} {v : Int32} (hd : decode (mC m) pc = .ok (.putfield i, 3)) (hf : qk_f (mO m) i = some (c, k)) (hs : q_fs c k = 1) (hn : q_fin m c k = true) : ev g m pc ls (.int v :: va_rf (some a) :: st) h = if hK h a = c ∧ (v = 0 ∨ v = 1) then ev g m (pc + 3) ls st (pI h k a v) else none := by
  refine ev_if (q := (pc + 3, ls, st, pI h k a v)) hd rfl rfl rfl ?_
  simp only [sim, hf, va_rf, hn, and_true, q_fw, hs]
  by_cases z1 : hK h a = c <;> by_cases z2 : v = 0 ∨ v = 1 <;> simp [z1, z2]
theorem ev_putR {i c k : Nat} {r : Option Nat} (hd : decode (mC m) pc = .ok (.putfield i, 3)) (hf : qk_f (mO m) i = some (c, k)) (hs : q_fs c k = 2) (hn : q_fin m c k = true) : ev g m pc ls (va_rf r :: va_rf (some a) :: st) h = if hK h a = c then ev g m (pc + 3) ls st (pR h k a r) else none := by
  refine ev_if (q := (pc + 3, ls, st, pR h k a r)) hd rfl rfl rfl ?_
  cases r <;> simp only [sim, hf, va_rf, hn, and_true, q_fw, hs, if_true]
theorem ev_putJ {i c k : Nat} {v : Int64} (hd : decode (mC m) pc = .ok (.putfield i, 3)) (hf : qk_f (mO m) i = some (c, k)) (hs : q_fs c k = 3) (hn : q_fin m c k = true) : ev g m pc ls (.long v :: va_rf (some a) :: st) h = if hK h a = c then ev g m (pc + 3) ls st (pJ h k a v) else none := by
  refine ev_if (q := (pc + 3, ls, st, pJ h k a v)) hd rfl rfl rfl ?_
  simp only [sim, hf, va_rf, hn, and_true, q_fw, hs, if_true]
theorem ev_new {i c : Nat} (hd : decode (mC m) pc = .ok (.new i, 3)) (hf : qk_k (mO m) i = some c) : ev g m pc ls st h = ev g m (pc + 3) ls (va_rf (some (hN h)) :: st) (nO h c) :=
  ev_sim (q := (pc + 3, ls, va_rf (some (hN h)) :: st, nO h c)) hd rfl rfl rfl (by simp only [sim, hf, va_rf])
theorem ev_newa {t : ArrayType} {n : Int32} {k : Nat} (hd : decode (mC m) pc = .ok (.newarray t, 2)) (hk : q_akind (newarray.typeOf t) = k) (hk2 : k < 56) : ev g m pc ls (.int n :: st) h = if q_nb n = false then ev g m (pc + 2) ls (va_rf (some (hN h)) :: st) (nA h k n.toNatClampNeg) else none := by
  refine ev_if (q := (pc + 2, ls, va_rf (some (hN h)) :: st, nA h k n.toNatClampNeg)) hd rfl rfl rfl ?_
  simp only [sim, hk, hk2, va_rf, if_true]
  cases z : q_nb n <;> simp [z]
theorem ev_anew {i c k : Nat} {n : Int32} (hd : decode (mC m) pc = .ok (.anewarray i, 3)) (hf : qk_k (mO m) i = some c) (hk : c = 0 ∧ k = 53 ∨ c = 2 ∧ k = 54) : ev g m pc ls (.int n :: st) h = if q_nb n = false then ev g m (pc + 3) ls (va_rf (some (hN h)) :: st) (nA h k n.toNatClampNeg) else none := by
  refine ev_if (q := (pc + 3, ls, va_rf (some (hN h)) :: st, nA h k n.toNatClampNeg)) hd rfl rfl rfl ?_
  rcases hk with ⟨rfl, rfl⟩ | ⟨rfl, rfl⟩ <;> cases z : q_nb n <;> simp [sim, hf, va_rf, z]
theorem ev_alen (hd : decode (mC m) pc = .ok (.arraylength, 1)) : ev g m pc ls (va_rf (some a) :: st) h = if 50 ≤ hK h a ∧ hK h a ≤ 54 ∨ hK h a = 60 then ev g m (pc + 1) ls (.int (nI (hL h a)) :: st) h else none :=
  ev_if (q := (pc + 1, ls, .int (nI (hL h a)) :: st, h)) hd rfl rfl rfl (by simp only [sim, va_rf])
theorem ev_iald {i : Int32} (hd : decode (mC m) pc = .ok (.iaload, 1)) : ev g m pc ls (.int i :: va_rf (some a) :: st) h = if (hK h a = 50 ∨ hK h a = 60) ∧ q_in i (hL h a) then ev g m (pc + 1) ls (.int (hA h a i.toNatClampNeg) :: st) h else none :=
  ev_if (q := (pc + 1, ls, .int (hA h a i.toNatClampNeg) :: st, h)) hd rfl rfl rfl (by simp only [sim, va_rf])
theorem ev_bald {i : Int32} (hd : decode (mC m) pc = .ok (.baload, 1)) : ev g m pc ls (.int i :: va_rf (some a) :: st) h = if (hK h a = 51 ∨ hK h a = 52) ∧ q_in i (hL h a) then ev g m (pc + 1) ls (.int (hA h a i.toNatClampNeg) :: st) h else none :=
  ev_if (q := (pc + 1, ls, .int (hA h a i.toNatClampNeg) :: st, h)) hd rfl rfl rfl (by simp only [sim, va_rf])
theorem ev_aald {i : Int32} (hd : decode (mC m) pc = .ok (.aaload, 1)) : ev g m pc ls (.int i :: va_rf (some a) :: st) h = if (hK h a = 53 ∨ hK h a = 54) ∧ q_in i (hL h a) then ev g m (pc + 1) ls (va_rf (hB h a i.toNatClampNeg) :: st) h else none :=
  ev_if (q := (pc + 1, ls, va_rf (hB h a i.toNatClampNeg) :: st, h)) hd rfl rfl rfl (by simp only [sim, va_rf])
theorem ev_iast {i v : Int32} (hd : decode (mC m) pc = .ok (.iastore, 1)) : ev g m pc ls (.int v :: .int i :: va_rf (some a) :: st) h = if hK h a = 50 ∧ q_in i (hL h a) then ev g m (pc + 1) ls st (pA h a (upd (hA h a) i.toNatClampNeg v)) else none :=
  ev_if (q := (pc + 1, ls, st, pA h a (upd (hA h a) i.toNatClampNeg v))) hd rfl rfl rfl (by simp only [sim, va_rf])
/-- what a byte or a boolean array takes -/
def q_bv (k : Nat) (v : Int32) : Int32 := if k = 52 then v.toInt8.toInt32 else v
theorem ev_bast {i v : Int32} (hd : decode (mC m) pc = .ok (.bastore, 1)) : ev g m pc ls (.int v :: .int i :: va_rf (some a) :: st) h = if q_in i (hL h a) ∧ (hK h a = 52 ∨ hK h a = 51 ∧ (v = 0 ∨ v = 1)) then ev g m (pc + 1) ls st (pA h a (upd (hA h a) i.toNatClampNeg (q_bv (hK h a) v))) else none := by
  refine ev_if (q := (pc + 1, ls, st, pA h a (upd (hA h a) i.toNatClampNeg (q_bv (hK h a) v)))) hd rfl rfl rfl ?_
  simp only [sim, va_rf]
  by_cases z1 : q_in i (hL h a)
  · rw [if_neg (fun z => z z1)]
    by_cases z2 : hK h a = 52
    · rw [if_pos z2, if_pos ⟨z1, Or.inl z2⟩]
      unfold q_bv
      rw [if_pos z2]
    · rw [if_neg z2]
      by_cases z3 : hK h a = 51 ∧ (v = 0 ∨ v = 1)
      · rw [if_pos z3, if_pos ⟨z1, Or.inr z3⟩]
        unfold q_bv
        rw [if_neg z2]
      · rw [if_neg z3, if_neg (fun z => z.2.elim z2 z3)]
  · rw [if_pos z1, if_neg (fun z => z1 z.1)]
theorem ev_aast {i : Int32} {r : Option Nat} (hd : decode (mC m) pc = .ok (.aastore, 1)) : ev g m pc ls (va_rf r :: .int i :: va_rf (some a) :: st) h = if q_in i (hL h a) ∧ (hK h a = 53 ∨ hK h a = 54) ∧ (∀ v, v ∈ r → hK h a = 53 ∧ hK h v = 0 ∨ hK h a = 54 ∧ hK h v = 2) then ev g m (pc + 1) ls st (pB h a (va_up (hB h a) i.toNatClampNeg r)) else none := by
  cases r with
  | none =>
    refine ev_if (q := (pc + 1, ls, st, pB h a (va_up (hB h a) i.toNatClampNeg none))) hd rfl rfl rfl ?_
    simp only [sim, va_rf]
    by_cases z1 : q_in i (hL h a) <;> by_cases z2 : hK h a = 53 ∨ hK h a = 54 <;> simp [z1, z2]
  | some v =>
    refine ev_if (q := (pc + 1, ls, st, pB h a (va_up (hB h a) i.toNatClampNeg (some v)))) hd rfl rfl rfl ?_
    simp only [sim, va_rf]
    by_cases z1 : q_in i (hL h a)
    · by_cases z2 : hK h a = 53 ∧ hK h v = 0 ∨ hK h a = 54 ∧ hK h v = 2
      · have z3 : hK h a = 53 ∨ hK h a = 54 := by omega
        simp only [z1, z2, z3, true_and, if_true, Option.mem_def, Option.some.injEq, forall_eq']
      · simp only [z1, z2, true_and, if_false, Option.mem_def, Option.some.injEq, forall_eq', and_false]
    · simp only [z1, false_and, if_false]
theorem ev_cast {i c : Nat} {r : Option Nat} (hd : decode (mC m) pc = .ok (.checkcast i, 3)) (hf : qk_k (mO m) i = some c) : ev g m pc ls (va_rf r :: st) h = if ∀ v, v ∈ r → hK h v = c then ev g m (pc + 3) ls (va_rf r :: st) h else none := by
  refine ev_if (q := (pc + 3, ls, va_rf r :: st, h)) hd rfl rfl rfl ?_
  cases r <;> simp [sim, va_rf, hf]
theorem ev_iret {v : Int32} (hd : decode (mC m) pc = .ok (.ireturn, 1)) (ht : mT m = some .int) : ev g m pc ls [.int v] h = some (some (.int v), h) := by
  rw [ev, hd]
  simp [q_lok, rof, ht]
theorem ev_zret {v : Int32} (hd : decode (mC m) pc = .ok (.ireturn, 1)) (ht : mT m = some .boolean) : ev g m pc ls [.int v] h = if v = 0 ∨ v = 1 then some (some (.int v), h) else none := by
  rw [ev, hd]
  by_cases z : v = 0 ∨ v = 1
  · simp [q_lok, rof, ht, z]
  · simp [q_lok, rof, ht, z, cof, q_iof, sim]
theorem ev_aret {r : Option Nat} (hd : decode (mC m) pc = .ok (.areturn, 1)) (ht : q_rft (mT m) = true) : ev g m pc ls [va_rf r] h = some (some (va_rf r), h) := by
  rw [ev, hd]
  cases r <;> simp [q_lok, rof, ht, va_rf]
theorem ev_vret (hd : decode (mC m) pc = .ok (.return_, 1)) (ht : mT m = none) : ev g m pc ls [] h = some (none, h) := by
  rw [ev, hd]
  simp [q_lok, rof, ht]
theorem q_dt {As : List Value} {c : Mt} {r : List Value} (hl : As.length = mP c) : (As.reverse ++ r).drop (mP c) = r ∧ (As.reverse ++ r).take (mP c) = As.reverse ∧ mP c ≤ (As.reverse ++ r).length := by
  rw [← hl, ← List.length_reverse (as := As)]
  simp
theorem ev_callV {k : Nat} {c : Mt} {As rest : List Value} {b : Nat} (hd : decode (mC m) pc = .ok (.invokevirtual k, 3)) (hm : qk_m (mO m) k = some (0, c)) (hj : qk_j (mO m) k = none) (hr : mR c < mR m) (hl : As.length = mP c) (h8 : q_r8 rest = true) (hn : As.reverse.all (fun v => mG c || !q_lng v) = true) (hf : q_fitA c (va_rf (some b) :: As) = true) :
    ev g m pc ls (As.reverse ++ va_rf (some b) :: rest) h = if hK h b = mO c then (cal g c (va_rf (some b) :: As) h >>= fun q => ev g m (pc + 3) ls (psh q.1 rest) q.2) else none := by
  obtain ⟨e1, e2, e4⟩ := q_dt (r := Value.ref b :: rest) hl
  have e3 : cof m (.invokevirtual k) (As.reverse ++ Value.ref b :: rest) h = if hK h b = mO c then some (c, .ref b :: As, rest) else none := by
    have hf' : q_fitA c (.ref b :: As) = true := hf
    unfold cof
    simp only [q_iof, hm, e1, e2, List.mem_singleton, if_true, if_neg (show ¬ (0 = 1) by decide), h8, hn, List.reverse_reverse, hf', true_and, forall_const, e4]
  rw [ev, hd]
  simp only [q_lok, beq_self_eq_true, if_true, rof, va_rf, e3]
  by_cases z : hK h b = mO c
  · simp only [z, if_true, gnx, hr, cal]
  · simp only [z, if_false, sim, hj]
theorem ev_callR {g : Nat} {k : Nat} {c : Mt} {As rest : List Value} {b : Nat} (hd : decode (mC m) pc = .ok (.invokevirtual k, 3)) (hm : qk_m (mO m) k = some (0, c)) (hj : qk_j (mO m) k = none) (hr : ¬ mR c < mR m) (hr2 : mR c < 30) (hl : As.length = mP c) (h8 : q_r8 rest = true) (hn : As.reverse.all (fun v => mG c || !q_lng v) = true) (hf : q_fitA c (va_rf (some b) :: As) = true) :
    ev (g + 1) m pc ls (As.reverse ++ va_rf (some b) :: rest) h = if hK h b = mO c then (cal g c (va_rf (some b) :: As) h >>= fun q => ev (g + 1) m (pc + 3) ls (psh q.1 rest) q.2) else none := by
  obtain ⟨e1, e2, e4⟩ := q_dt (r := Value.ref b :: rest) hl
  have e3 : cof m (.invokevirtual k) (As.reverse ++ Value.ref b :: rest) h = if hK h b = mO c then some (c, .ref b :: As, rest) else none := by
    have hf' : q_fitA c (.ref b :: As) = true := hf
    unfold cof
    simp only [q_iof, hm, e1, e2, List.mem_singleton, if_true, if_neg (show ¬ (0 = 1) by decide), h8, hn, List.reverse_reverse, hf', true_and, forall_const, e4]
  rw [ev, hd]
  simp only [q_lok, beq_self_eq_true, if_true, rof, va_rf, e3]
  by_cases z : hK h b = mO c
  · simp only [z, if_true, gnx, hr, hr2, if_false, cal]
  · simp only [z, if_false, sim, hj]
theorem ev_callS {k : Nat} {c : Mt} {As rest : List Value} (hd : decode (mC m) pc = .ok (.invokestatic k, 3)) (hm : qk_m (mO m) k = some (1, c)) (hr : mR c < mR m) (hl : As.length = mP c) (h8 : q_r8 rest = true) (hn : As.reverse.all (fun v => mG c || !q_lng v) = true) (hf : q_fitA c As = true) :
    ev g m pc ls (As.reverse ++ rest) h = (cal g c As h >>= fun q => ev g m (pc + 3) ls (psh q.1 rest) q.2) := by
  obtain ⟨e1, e2, e4⟩ := q_dt (r := rest) hl
  have e3 : cof m (.invokestatic k) (As.reverse ++ rest) h = some (c, As, rest) := by
    unfold cof
    simp only [q_iof, hm, e1, e2, List.mem_singleton, if_true, h8, hn, List.reverse_reverse, hf, e4, and_self]
  rw [ev, hd]
  simp only [q_lok, beq_self_eq_true, if_true, rof, e3, gnx, hr, cal]
theorem ev_callI {k s : Nat} {c : Mt} {As rest : List Value} {b : Nat} (hd : decode (mC m) pc = .ok (.invokespecial k, 3)) (hm : qk_m (mO m) k = some (s, c)) (hs : s = 2 ∨ s = 3) (hr : mR c < mR m) (hl : As.length = mP c) (h8 : q_r8 rest = true) (hn : As.reverse.all (fun v => mG c || !q_lng v) = true) (hf : q_fitA c (va_rf (some b) :: As) = true) :
    ev g m pc ls (As.reverse ++ va_rf (some b) :: rest) h = (cal g c (va_rf (some b) :: As) h >>= fun q => ev g m (pc + 3) ls (psh q.1 rest) q.2) := by
  obtain ⟨e1, e2, e4⟩ := q_dt (r := Value.ref b :: rest) hl
  have e3 : cof m (.invokespecial k) (As.reverse ++ Value.ref b :: rest) h = some (c, .ref b :: As, rest) := by
    have hf' : q_fitA c (.ref b :: As) = true := hf
    unfold cof
    rcases hs with rfl | rfl <;> simp [q_iof, hm, e1, e2, h8, hn, hf', e4] <;> omega
  rw [ev, hd]
  simp only [q_lok, beq_self_eq_true, if_true, rof, va_rf, e3, gnx, hr, cal]
theorem ev_ldcI {k : Nat} {v : Int32} (hd : decode (mC m) pc = .ok (.ldc k, 2)) (hk : qk_c (mO m) k = some v) : ev g m pc ls st h = ev g m (pc + 2) ls (.int v :: st) h :=
  ev_sim (q := (pc + 2, ls, .int v :: st, h)) hd rfl rfl rfl (by simp only [sim, hk])
theorem ev_ldcS {k t : Nat} (hd : decode (mC m) pc = .ok (.ldc k, 2)) (hc : qk_c (mO m) k = none) (hk : qk_s (mO m) k = some t) : ev g m pc ls st h = ev g m (pc + 2) ls (va_rf (some (hS h t)) :: st) h :=
  ev_sim (q := (pc + 2, ls, va_rf (some (hS h t)) :: st, h)) hd rfl rfl rfl (by simp only [sim, hc, hk, va_rf])
theorem ev_ldcW {k t : Nat} (hd : decode (mC m) pc = .ok (.ldc_w k, 3)) (hk : qk_s (mO m) k = some t) : ev g m pc ls st h = ev g m (pc + 3) ls (va_rf (some (hS h t)) :: st) h :=
  ev_sim (q := (pc + 3, ls, va_rf (some (hS h t)) :: st, h)) hd rfl rfl rfl (by simp only [sim, hk, va_rf])
theorem ev_tab {d lo hi : Int} {offs : Array Int} {n : Nat} {y : Int32} (hd : decode (mC m) pc = .ok (.tableswitch d lo hi offs, n)) {t : Nat} (ht : (if y.toInt < lo ∨ hi < y.toInt then q_tg pc d else (offs[(y.toInt - lo).toNat]?).bind (q_tg pc)) = some t) : ev g m pc ls (.int y :: st) h = ev g m t ls st h := by
  refine ev_sim (q := (t, ls, st, h)) hd rfl rfl rfl ?_
  simp only [sim]
  by_cases z : y.toInt < lo ∨ hi < y.toInt
  · rw [if_pos z] at ht ⊢
    rw [ht]
  · rw [if_neg z] at ht ⊢
    obtain ⟨off, h1, h2⟩ := Option.bind_eq_some_iff.mp ht
    rw [h1]
    simp only [h2]
theorem ev_jdk {k j : Nat} {i : Instr} (hd : decode (mC m) pc = .ok (i, 3)) (hi : i = .invokespecial k ∧ (j = 0 ∨ j = 6) ∨ i = .invokestatic k ∧ (j = 1 ∨ j = 2 ∨ j = 5 ∨ j = 11) ∨ i = .invokevirtual k ∧ (j = 3 ∨ j = 4 ∨ j = 7 ∨ j = 8 ∨ j = 9 ∨ j = 10)) (hm : qk_m (mO m) k = none) (hj : qk_j (mO m) k = some j) (hl : st.length ≤ 5) : ev g m pc ls st h = (q_jdk j pc ls st h >>= fun q => ev g m q.1 q.2.1 q.2.2.1 q.2.2.2) := by
  have hs : sim m i pc ls st h = q_jdk j pc ls st h := by
    rcases hi with ⟨rfl, z⟩ | ⟨rfl, z⟩ | ⟨rfl, z⟩ <;> simp only [sim, hj, z, hl, and_self, if_true]
  have hc : cof m i st h = none := by
    rcases hi with ⟨rfl, z⟩ | ⟨rfl, z⟩ | ⟨rfl, z⟩ <;> simp only [cof, q_iof, hm]
  have hr : rof m i st = none := by rcases hi with ⟨rfl, z⟩ | ⟨rfl, z⟩ | ⟨rfl, z⟩ <;> rfl
  have hok : q_lok i 3 = true := by rcases hi with ⟨rfl, z⟩ | ⟨rfl, z⟩ | ⟨rfl, z⟩ <;> rfl
  cases hq : q_jdk j pc ls st h with
  | none => exact ev_simN hd hok hr hc (hs.trans hq)
  | some q => exact ev_sim hd hok hr hc (hs.trans hq)
end QEQ2
