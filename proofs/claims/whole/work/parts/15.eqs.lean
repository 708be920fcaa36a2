/-! equations of ev, an instruction each -/
section QEQ
variable {g : Nat} {m : Mt} {pc : Nat} {ls : List (Option Value)} {st : List Value} {h : PH}
theorem ev_sim {i : Instr} {n : Nat} {q : PS} (hd : decode (mC m) pc = .ok (i, n)) (hok : q_lok i n = true) (hr : rof m i st = none) (hc : cof m i st h = none) (hs : sim m i pc ls st h = some q) : ev g m pc ls st h = ev g m q.1 q.2.1 q.2.2.1 q.2.2.2 := by
  rw [ev, hd]
  simp only [hok, hr, hc, hs, if_true]
theorem ev_simN {i : Instr} {n : Nat} (hd : decode (mC m) pc = .ok (i, n)) (hok : q_lok i n = true) (hr : rof m i st = none) (hc : cof m i st h = none) (hs : sim m i pc ls st h = none) : ev g m pc ls st h = none := by
  rw [ev, hd]
  simp only [hok, hr, hc, hs, if_true]
theorem ev_iconst {n : Int} {v : Int32} (hd : decode (mC m) pc = .ok (.iconst n, 1)) (hv : Int32.ofInt n = v) : ev g m pc ls st h = ev g m (pc + 1) ls (.int v :: st) h := by rw [← hv]; exact ev_sim (q := ((pc + 1), ls, .int _ :: st, h)) hd rfl rfl rfl rfl
theorem ev_bipush {n : Int} {v : Int32} (hd : decode (mC m) pc = .ok (.bipush n, 2)) (hv : (Int8.ofInt n).toInt32 = v) : ev g m pc ls st h = ev g m (pc + 2) ls (.int v :: st) h := by rw [← hv]; exact ev_sim (q := ((pc + 2), ls, .int _ :: st, h)) hd rfl rfl rfl rfl
theorem ev_sipush {n : Int} {v : Int32} (hd : decode (mC m) pc = .ok (.sipush n, 3)) (hv : (Int16.ofInt n).toInt32 = v) : ev g m pc ls st h = ev g m (pc + 3) ls (.int v :: st) h := by rw [← hv]; exact ev_sim (q := ((pc + 3), ls, .int _ :: st, h)) hd rfl rfl rfl rfl
theorem ev_aconst (hd : decode (mC m) pc = .ok (.aconst_null, 1)) : ev g m pc ls st h = ev g m (pc + 1) ls (va_rf none :: st) h := ev_sim (q := ((pc + 1), ls, (va_rf none :: st), h)) hd rfl rfl rfl rfl
theorem ev_iload {x : Int32} (k : Nat) {i : Instr} {n : Nat} (hi : i = .iload k ∧ n = 2 ∨ ∃ f : Fin 4, i = .iload_n f ∧ f.val = k ∧ n = 1) (hd : decode (mC m) pc = .ok (i, n)) (hl : q_get ls k = some (.int x)) : ev g m pc ls st h = ev g m (pc + n) ls (.int x :: st) h := by
  rcases hi with ⟨rfl, rfl⟩ | ⟨f, rfl, rfl, rfl⟩
  · exact ev_sim (q := (pc + 2, ls, .int x :: st, h)) hd rfl rfl rfl (by show q_ldI ls k (pc + 2) st h = _; unfold q_ldI; rw [hl])
  · exact ev_sim (q := (pc + 1, ls, .int x :: st, h)) hd rfl rfl rfl (by show q_ldI ls f (pc + 1) st h = _; unfold q_ldI; rw [hl])
theorem ev_aload {r : Option Nat} (k : Nat) {i : Instr} {n : Nat} (hi : i = .aload k ∧ n = 2 ∨ ∃ f : Fin 4, i = .aload_n f ∧ f.val = k ∧ n = 1) (hd : decode (mC m) pc = .ok (i, n)) (hl : q_get ls k = some (va_rf r)) : ev g m pc ls st h = ev g m (pc + n) ls (va_rf r :: st) h := by
  rcases hi with ⟨rfl, rfl⟩ | ⟨f, rfl, rfl, rfl⟩
  · exact ev_sim (q := (pc + 2, ls, va_rf r :: st, h)) hd rfl rfl rfl (by show q_ldA ls k (pc + 2) st h = _; unfold q_ldA; rw [hl]; cases r <;> rfl)
  · exact ev_sim (q := (pc + 1, ls, va_rf r :: st, h)) hd rfl rfl rfl (by show q_ldA ls f (pc + 1) st h = _; unfold q_ldA; rw [hl]; cases r <;> rfl)
theorem ev_istore {x : Int32} (k : Nat) {i : Instr} {n : Nat} (hi : i = .istore k ∧ n = 2 ∨ ∃ f : Fin 4, i = .istore_n f ∧ f.val = k ∧ n = 1) (hd : decode (mC m) pc = .ok (i, n)) (hg : mG m = false) (hl : k < ls.length) : ev g m pc ls (.int x :: st) h = ev g m (pc + n) (ls.set k (some (.int x))) st h := by
  have e : q_st1 m ls k (.int x) = some (ls.set k (some (.int x))) := by unfold q_st1; rw [if_pos hl, hg]; rfl
  rcases hi with ⟨rfl, rfl⟩ | ⟨f, rfl, rfl, rfl⟩
  · exact ev_sim (q := (pc + 2, ls.set k (some (.int x)), st, h)) hd rfl rfl rfl (by show q_stI m ls k (pc + 2) (.int x :: st) h = _; unfold q_stI; simp only [e])
  · exact ev_sim (q := (pc + 1, ls.set f (some (.int x)), st, h)) hd rfl rfl rfl (by show q_stI m ls f (pc + 1) (.int x :: st) h = _; unfold q_stI; simp only [e])
theorem ev_astore {r : Option Nat} (k : Nat) {i : Instr} {n : Nat} (hi : i = .astore k ∧ n = 2 ∨ ∃ f : Fin 4, i = .astore_n f ∧ f.val = k ∧ n = 1) (hd : decode (mC m) pc = .ok (i, n)) (hg : mG m = false) (hl : k < ls.length) : ev g m pc ls (va_rf r :: st) h = ev g m (pc + n) (ls.set k (some (va_rf r))) st h := by
  have e : ∀ v, q_st1 m ls k v = some (ls.set k (some v)) := fun v => by unfold q_st1; rw [if_pos hl, hg]; rfl
  rcases hi with ⟨rfl, rfl⟩ | ⟨f, rfl, rfl, rfl⟩
  · exact ev_sim (q := (pc + 2, ls.set k (some (va_rf r)), st, h)) hd rfl rfl rfl (by show q_stA m ls k (pc + 2) (va_rf r :: st) h = _; unfold q_stA; cases r <;> simp only [va_rf, e])
  · exact ev_sim (q := (pc + 1, ls.set f (some (va_rf r)), st, h)) hd rfl rfl rfl (by show q_stA m ls f (pc + 1) (va_rf r :: st) h = _; unfold q_stA; cases r <;> simp only [va_rf, e])
theorem ev_iinc {x v : Int32} {k : Nat} {n : Int} (hd : decode (mC m) pc = .ok (.iinc k n, 3)) (hg : mG m = false) (hl : q_get ls k = some (.int x)) (hv : Int32.ofInt n = v) : ev g m pc ls st h = ev g m (pc + 3) (ls.set k (some (.int (x + v)))) st h := by
  subst hv
  have hk : k < ls.length := by
    have := q_getE hl
    exact (List.getElem?_eq_some_iff.mp this).1
  have e : ∀ v, q_st1 m ls k v = some (ls.set k (some v)) := fun v => by unfold q_st1; rw [if_pos hk, hg]; rfl
  exact ev_sim (q := (pc + 3, ls.set k (some (.int (x + Int32.ofInt n))), st, h)) hd rfl rfl rfl (by simp only [sim, hl, e])
theorem ev_iadd {y z : Int32} (hd : decode (mC m) pc = .ok (.iadd, 1)) : ev g m pc ls (.int y :: .int z :: st) h = ev g m (pc + 1) ls (.int (z + y) :: st) h := ev_sim (q := ((pc + 1), ls, (.int (z + y) :: st), h)) hd rfl rfl rfl rfl
theorem ev_isub {y z : Int32} (hd : decode (mC m) pc = .ok (.isub, 1)) : ev g m pc ls (.int y :: .int z :: st) h = ev g m (pc + 1) ls (.int (z - y) :: st) h := ev_sim (q := ((pc + 1), ls, (.int (z - y) :: st), h)) hd rfl rfl rfl rfl
theorem ev_imul {y z : Int32} (hd : decode (mC m) pc = .ok (.imul, 1)) : ev g m pc ls (.int y :: .int z :: st) h = ev g m (pc + 1) ls (.int (z * y) :: st) h := ev_sim (q := ((pc + 1), ls, (.int (z * y) :: st), h)) hd rfl rfl rfl rfl
theorem ev_iand {y z : Int32} (hd : decode (mC m) pc = .ok (.iand, 1)) : ev g m pc ls (.int y :: .int z :: st) h = ev g m (pc + 1) ls (.int (z &&& y) :: st) h := ev_sim (q := ((pc + 1), ls, (.int (z &&& y) :: st), h)) hd rfl rfl rfl rfl
theorem ev_ior {y z : Int32} (hd : decode (mC m) pc = .ok (.ior, 1)) : ev g m pc ls (.int y :: .int z :: st) h = ev g m (pc + 1) ls (.int (z ||| y) :: st) h := ev_sim (q := ((pc + 1), ls, (.int (z ||| y) :: st), h)) hd rfl rfl rfl rfl
theorem ev_ishl {y z : Int32} (hd : decode (mC m) pc = .ok (.ishl, 1)) : ev g m pc ls (.int y :: .int z :: st) h = ev g m (pc + 1) ls (.int (z <<< (y &&& 31)) :: st) h := ev_sim (q := ((pc + 1), ls, (.int (z <<< (y &&& 31)) :: st), h)) hd rfl rfl rfl rfl
theorem ev_ishr {y z : Int32} (hd : decode (mC m) pc = .ok (.ishr, 1)) : ev g m pc ls (.int y :: .int z :: st) h = ev g m (pc + 1) ls (.int (z >>> (y &&& 31)) :: st) h := ev_sim (q := ((pc + 1), ls, (.int (z >>> (y &&& 31)) :: st), h)) hd rfl rfl rfl rfl
theorem ev_iushr {y z : Int32} (hd : decode (mC m) pc = .ok (.iushr, 1)) : ev g m pc ls (.int y :: .int z :: st) h = ev g m (pc + 1) ls (.int (z.toUInt32 >>> (y.toUInt32 &&& Int32.toUInt32 31)).toInt32 :: st) h := ev_sim (q := ((pc + 1), ls, (.int (z.toUInt32 >>> (y.toUInt32 &&& Int32.toUInt32 31)).toInt32 :: st), h)) hd rfl rfl rfl rfl
theorem ev_idiv {y z : Int32} (hd : decode (mC m) pc = .ok (.idiv, 1)) (hy : ¬ y = 0) : ev g m pc ls (.int y :: .int z :: st) h = ev g m (pc + 1) ls (.int (z / y) :: st) h := ev_sim (q := ((pc + 1), ls, (.int (z / y) :: st), h)) hd rfl rfl rfl (by simp only [sim, hy, if_false])
theorem ev_irem {y z : Int32} (hd : decode (mC m) pc = .ok (.irem, 1)) (hy : ¬ y = 0) : ev g m pc ls (.int y :: .int z :: st) h = ev g m (pc + 1) ls (.int (z - z / y * y) :: st) h := ev_sim (q := ((pc + 1), ls, (.int (z - z / y * y) :: st), h)) hd rfl rfl rfl (by simp only [sim, hy, if_false])
theorem ev_i2b {y : Int32} (hd : decode (mC m) pc = .ok (.i2b, 1)) : ev g m pc ls (.int y :: st) h = ev g m (pc + 1) ls (.int y.toInt8.toInt32 :: st) h := ev_sim (q := ((pc + 1), ls, (.int y.toInt8.toInt32 :: st), h)) hd rfl rfl rfl rfl
theorem ev_i2l {y : Int32} (hd : decode (mC m) pc = .ok (.i2l, 1)) : ev g m pc ls (.int y :: st) h = ev g m (pc + 1) ls (.long y.toInt64 :: st) h := ev_sim (q := ((pc + 1), ls, (.long y.toInt64 :: st), h)) hd rfl rfl rfl rfl
theorem ev_l2i {y : Int64} (hd : decode (mC m) pc = .ok (.l2i, 1)) : ev g m pc ls (.long y :: st) h = ev g m (pc + 1) ls (.int y.toInt32 :: st) h := ev_sim (q := ((pc + 1), ls, (.int y.toInt32 :: st), h)) hd rfl rfl rfl rfl
theorem ev_lcmp {y z : Int64} (hd : decode (mC m) pc = .ok (.lcmp, 1)) : ev g m pc ls (.long y :: .long z :: st) h = ev g m (pc + 1) ls (.int (lg_cmp z y) :: st) h := ev_sim (q := ((pc + 1), ls, (.int (lg_cmp z y) :: st), h)) hd rfl rfl rfl rfl
theorem ev_dupI {y : Int32} (hd : decode (mC m) pc = .ok (.dup, 1)) : ev g m pc ls (.int y :: st) h = ev g m (pc + 1) ls (.int y :: .int y :: st) h := ev_sim (q := ((pc + 1), ls, (.int y :: .int y :: st), h)) hd rfl rfl rfl rfl
theorem ev_dupA {r : Option Nat} (hd : decode (mC m) pc = .ok (.dup, 1)) : ev g m pc ls (va_rf r :: st) h = ev g m (pc + 1) ls (va_rf r :: va_rf r :: st) h := ev_sim (q := ((pc + 1), ls, (va_rf r :: va_rf r :: st), h)) hd rfl rfl rfl (by cases r <;> rfl)
theorem ev_popI {y : Int32} (hd : decode (mC m) pc = .ok (.pop, 1)) : ev g m pc ls (.int y :: st) h = ev g m (pc + 1) ls st h := ev_sim (q := ((pc + 1), ls, st, h)) hd rfl rfl rfl rfl
theorem ev_popA {r : Option Nat} (hd : decode (mC m) pc = .ok (.pop, 1)) : ev g m pc ls (va_rf r :: st) h = ev g m (pc + 1) ls st h := ev_sim (q := ((pc + 1), ls, st, h)) hd rfl rfl rfl (by cases r <;> rfl)
theorem ev_dup2 {r : Option Nat} {y : Int32} (hd : decode (mC m) pc = .ok (.dup2, 1)) : ev g m pc ls (.int y :: va_rf r :: st) h = ev g m (pc + 1) ls (.int y :: va_rf r :: .int y :: va_rf r :: st) h := ev_sim (q := ((pc + 1), ls, (.int y :: va_rf r :: .int y :: va_rf r :: st), h)) hd rfl rfl rfl (by cases r <;> rfl)
theorem ev_goto {off : Int} {t : Nat} (hd : decode (mC m) pc = .ok (.goto off, 3)) (ht : q_tg pc off = some t) : ev g m pc ls st h = ev g m t ls st h := ev_sim (q := (t, ls, st, h)) hd rfl rfl rfl (by simp only [sim, ht])
theorem ev_br {i : Instr} {off : Int} {t : Nat} {b : Bool} {st' : List Value} (hd : decode (mC m) pc = .ok (i, 3)) (hok : q_lok i 3 = true) (hr : rof m i st' = none) (hc : cof m i st' h = none) (hs : sim m i pc ls st' h = q_br pc off b ls st h) (ht : q_tg pc off = some t) : ev g m pc ls st' h = if b = true then ev g m t ls st h else ev g m (pc + 3) ls st h := by
  have e : sim m i pc ls st' h = some (if b = true then t else pc + 3, ls, st, h) := by
    rw [hs]
    unfold q_br
    rw [ht]
    cases b <;> rfl
  rw [ev_sim hd hok hr hc e]
  cases b <;> rfl
theorem ev_ifeq {off : Int} {t : Nat} {y : Int32} (hd : decode (mC m) pc = .ok (.ifCond .eq off, 3)) (ht : q_tg pc off = some t) : ev g m pc ls (.int y :: st) h = if y = 0 then ev g m t ls st h else ev g m (pc + 3) ls st h := by
  rw [ev_br hd rfl rfl rfl rfl ht]; simp [q_cmp]
theorem ev_ifne {off : Int} {t : Nat} {y : Int32} (hd : decode (mC m) pc = .ok (.ifCond .ne off, 3)) (ht : q_tg pc off = some t) : ev g m pc ls (.int y :: st) h = if y = 0 then ev g m (pc + 3) ls st h else ev g m t ls st h := by
  rw [ev_br hd rfl rfl rfl rfl ht]; by_cases hy : y = 0 <;> simp [q_cmp, hy]
theorem ev_iflt {off : Int} {t : Nat} {y : Int32} (hd : decode (mC m) pc = .ok (.ifCond .lt off, 3)) (ht : q_tg pc off = some t) : ev g m pc ls (.int y :: st) h = if y < 0 then ev g m t ls st h else ev g m (pc + 3) ls st h := by
  rw [ev_br hd rfl rfl rfl rfl ht]; simp [q_cmp]
theorem ev_ifge {off : Int} {t : Nat} {y : Int32} (hd : decode (mC m) pc = .ok (.ifCond .ge off, 3)) (ht : q_tg pc off = some t) : ev g m pc ls (.int y :: st) h = if 0 ≤ y then ev g m t ls st h else ev g m (pc + 3) ls st h := by
  rw [ev_br hd rfl rfl rfl rfl ht]; simp [q_cmp]
theorem ev_ifgt {off : Int} {t : Nat} {y : Int32} (hd : decode (mC m) pc = .ok (.ifCond .gt off, 3)) (ht : q_tg pc off = some t) : ev g m pc ls (.int y :: st) h = if 0 < y then ev g m t ls st h else ev g m (pc + 3) ls st h := by
  rw [ev_br hd rfl rfl rfl rfl ht]; simp [q_cmp]
theorem ev_ifle {off : Int} {t : Nat} {y : Int32} (hd : decode (mC m) pc = .ok (.ifCond .le off, 3)) (ht : q_tg pc off = some t) : ev g m pc ls (.int y :: st) h = if y ≤ 0 then ev g m t ls st h else ev g m (pc + 3) ls st h := by
  rw [ev_br hd rfl rfl rfl rfl ht]; simp [q_cmp]
theorem ev_iceq {off : Int} {t : Nat} {y z : Int32} (hd : decode (mC m) pc = .ok (.if_icmp .eq off, 3)) (ht : q_tg pc off = some t) : ev g m pc ls (.int y :: .int z :: st) h = if z = y then ev g m t ls st h else ev g m (pc + 3) ls st h := by
  rw [ev_br hd rfl rfl rfl rfl ht]; simp [q_cmp]
theorem ev_icne {off : Int} {t : Nat} {y z : Int32} (hd : decode (mC m) pc = .ok (.if_icmp .ne off, 3)) (ht : q_tg pc off = some t) : ev g m pc ls (.int y :: .int z :: st) h = if z = y then ev g m (pc + 3) ls st h else ev g m t ls st h := by
  rw [ev_br hd rfl rfl rfl rfl ht]; by_cases hy : z = y <;> simp [q_cmp, hy]
theorem ev_iclt {off : Int} {t : Nat} {y z : Int32} (hd : decode (mC m) pc = .ok (.if_icmp .lt off, 3)) (ht : q_tg pc off = some t) : ev g m pc ls (.int y :: .int z :: st) h = if z < y then ev g m t ls st h else ev g m (pc + 3) ls st h := by
  rw [ev_br hd rfl rfl rfl rfl ht]; simp [q_cmp]
theorem ev_icge {off : Int} {t : Nat} {y z : Int32} (hd : decode (mC m) pc = .ok (.if_icmp .ge off, 3)) (ht : q_tg pc off = some t) : ev g m pc ls (.int y :: .int z :: st) h = if y ≤ z then ev g m t ls st h else ev g m (pc + 3) ls st h := by
  rw [ev_br hd rfl rfl rfl rfl ht]; simp [q_cmp]
theorem ev_icgt {off : Int} {t : Nat} {y z : Int32} (hd : decode (mC m) pc = .ok (.if_icmp .gt off, 3)) (ht : q_tg pc off = some t) : ev g m pc ls (.int y :: .int z :: st) h = if y < z then ev g m t ls st h else ev g m (pc + 3) ls st h := by
  rw [ev_br hd rfl rfl rfl rfl ht]; simp [q_cmp]
theorem ev_icle {off : Int} {t : Nat} {y z : Int32} (hd : decode (mC m) pc = .ok (.if_icmp .le off, 3)) (ht : q_tg pc off = some t) : ev g m pc ls (.int y :: .int z :: st) h = if z ≤ y then ev g m t ls st h else ev g m (pc + 3) ls st h := by
  rw [ev_br hd rfl rfl rfl rfl ht]; simp [q_cmp]
theorem ev_ifnull {off : Int} {t : Nat} {r : Option Nat} (hd : decode (mC m) pc = .ok (.ifnull off, 3)) (ht : q_tg pc off = some t) : ev g m pc ls (va_rf r :: st) h = if r = none then ev g m t ls st h else ev g m (pc + 3) ls st h := by
  cases r
  · rw [ev_br (b := true) hd rfl rfl rfl rfl ht]; simp
  · rw [ev_br (b := false) hd rfl rfl rfl rfl ht]; simp
theorem ev_ifnonnull {off : Int} {t : Nat} {r : Option Nat} (hd : decode (mC m) pc = .ok (.ifnonnull off, 3)) (ht : q_tg pc off = some t) : ev g m pc ls (va_rf r :: st) h = if r = none then ev g m (pc + 3) ls st h else ev g m t ls st h := by
  cases r
  · rw [ev_br (b := false) hd rfl rfl rfl rfl ht]; simp
  · rw [ev_br (b := true) hd rfl rfl rfl rfl ht]; simp
end QEQ
