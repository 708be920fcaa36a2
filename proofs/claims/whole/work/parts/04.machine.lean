/-! THE PURE MACHINE: a heap of typed maps, one step, and what a method comes to (ev). All later rows speak of ev; part 04 ties it to the machine. -/
/-- next address, slots used, kind of a cell (below 50: an object of that class; 50 int[], 51 boolean[], 52 byte[], 53 Change[], 54 Name[], 55 Object[]; 60 the script, 70 + k the text k), length of an array; int fields (field, address), references, longs; int arrays (address, place), arrays of references; addresses of texts -/
abbrev PH : Type := Nat × Nat × (Nat → Nat) × (Nat → Nat) × (Nat → Nat → Int32) × (Nat → Nat → Option Nat) × (Nat → Nat → Int64) × (Nat → Nat → Int32) × (Nat → Nat → Option Nat) × (Nat → Nat)
def hN (h : PH) : Nat := h.1
def hU (h : PH) : Nat := h.2.1
def hK (h : PH) : Nat → Nat := h.2.2.1
def hL (h : PH) : Nat → Nat := h.2.2.2.1
def hI (h : PH) : Nat → Nat → Int32 := h.2.2.2.2.1
def hR (h : PH) : Nat → Nat → Option Nat := h.2.2.2.2.2.1
def hJ (h : PH) : Nat → Nat → Int64 := h.2.2.2.2.2.2.1
def hA (h : PH) : Nat → Nat → Int32 := h.2.2.2.2.2.2.2.1
def hB (h : PH) : Nat → Nat → Option Nat := h.2.2.2.2.2.2.2.2.1
def hS (h : PH) : Nat → Nat := h.2.2.2.2.2.2.2.2.2
def q_u {α : Type} (f : Nat → Nat → α) (k a : Nat) (v : α) : Nat → Nat → α := fun k' a' => if k' = k then (if a' = a then v else f k a') else f k' a'
def pI (h : PH) (k a : Nat) (v : Int32) : PH := (hN h, hU h, hK h, hL h, q_u (hI h) k a v, hR h, hJ h, hA h, hB h, hS h)
def pR (h : PH) (k a : Nat) (v : Option Nat) : PH := (hN h, hU h, hK h, hL h, hI h, q_u (hR h) k a v, hJ h, hA h, hB h, hS h)
def pJ (h : PH) (k a : Nat) (v : Int64) : PH := (hN h, hU h, hK h, hL h, hI h, hR h, q_u (hJ h) k a v, hA h, hB h, hS h)
/-- the contents of an int array, of an array of references -/
def pA (h : PH) (a : Nat) (f : Nat → Int32) : PH := (hN h, hU h, hK h, hL h, hI h, hR h, hJ h, va_up (hA h) a f, hB h, hS h)
def pB (h : PH) (a : Nat) (f : Nat → Option Nat) : PH := (hN h, hU h, hK h, hL h, hI h, hR h, hJ h, hA h, va_up (hB h) a f, hS h)
def nO (h : PH) (c : Nat) : PH := (hN h + 1, hU h + q_nf c, va_up (hK h) (hN h) c, hL h, fun k a => if a = hN h then 0 else hI h k a, fun k a => if a = hN h then none else hR h k a, fun k a => if a = hN h then 0 else hJ h k a, hA h, hB h, hS h)
def nA (h : PH) (c n : Nat) : PH := (hN h + 1, hU h + n, va_up (hK h) (hN h) c, va_up (hL h) (hN h) n, hI h, hR h, hJ h, va_up (hA h) (hN h) (fun _ => 0), va_up (hB h) (hN h) (fun _ => none), hS h)
def q_lng : Value → Bool
  | .long _ => true
  | .double _ => true
  | _ => false
def q_get (ls : List (Option Value)) (k : Nat) : Option Value := (ls[k]?).join
/-- a long stands in the place before -/
def q_bf (ls : List (Option Value)) (k : Nat) : Bool := k != 0 && (match q_get ls (k - 1) with | some w => q_lng w | none => false)
/-- storing one word: where a method has longs, none may stand in the place before it -/
def q_st1 (m : Mt) (ls : List (Option Value)) (k : Nat) (v : Value) : Option (List (Option Value)) :=
  if k < ls.length then (if (mG m && q_bf ls k) = true then none else some (ls.set k (some v))) else none
def q_st2 (m : Mt) (ls : List (Option Value)) (k : Nat) (v : Value) : Option (List (Option Value)) :=
  if k + 1 < ls.length ∧ mG m = true then (if q_bf ls k = true then none else some ((ls.set k (some v)).set (k + 1) none)) else none
def q_tg (pc : Nat) (off : Int) : Option Nat := if 0 ≤ (pc : Int) + off then some ((pc : Int) + off).toNat else none
def q_cmp (c : ClassFile.Cond) (y z : Int32) : Bool := match c with
  | .eq => decide (y = z)
  | .ne => decide (¬ y = z)
  | .lt => decide (y < z)
  | .ge => decide (z ≤ y)
  | .gt => decide (z < y)
  | .le => decide (y ≤ z)
abbrev PS : Type := Nat × List (Option Value) × List Value × PH
def q_br (pc : Nat) (off : Int) (b : Bool) (ls : List (Option Value)) (st : List Value) (h : PH) : Option PS := match q_tg pc off with
  | some t => if b = true then some (t, ls, st, h) else some (pc + 3, ls, st, h)
  | none => none
def q_ldI (ls : List (Option Value)) (k pc : Nat) (st : List Value) (h : PH) : Option PS := match q_get ls k with
  | some (.int v) => some (pc, ls, .int v :: st, h)
  | _ => none
def q_ldL (ls : List (Option Value)) (k pc : Nat) (st : List Value) (h : PH) : Option PS := match q_get ls k with
  | some (.long v) => some (pc, ls, .long v :: st, h)
  | _ => none
def q_ldA (ls : List (Option Value)) (k pc : Nat) (st : List Value) (h : PH) : Option PS := match q_get ls k with
  | some (.ref v) => some (pc, ls, .ref v :: st, h)
  | some .null => some (pc, ls, .null :: st, h)
  | _ => none
def q_stI (m : Mt) (ls : List (Option Value)) (k pc : Nat) (st : List Value) (h : PH) : Option PS := match st with
  | .int v :: r => (match q_st1 m ls k (.int v) with | some l => some (pc, l, r, h) | none => none)
  | _ => none
def q_stL (m : Mt) (ls : List (Option Value)) (k pc : Nat) (st : List Value) (h : PH) : Option PS := match st with
  | .long v :: r => (match q_st2 m ls k (.long v) with | some l => some (pc, l, r, h) | none => none)
  | _ => none
def q_stA (m : Mt) (ls : List (Option Value)) (k pc : Nat) (st : List Value) (h : PH) : Option PS := match st with
  | .ref v :: r => (match q_st1 m ls k (.ref v) with | some l => some (pc, l, r, h) | none => none)
  | .null :: r => (match q_st1 m ls k .null with | some l => some (pc, l, r, h) | none => none)
  | _ => none
/-- what a field holds -/
def q_fv (h : PH) (c a k : Nat) : Value := if q_fs c k = 0 ∨ q_fs c k = 1 then .int (hI h k a) else if q_fs c k = 2 then va_rf (hR h k a) else .long (hJ h k a)
/-- what is written into it; none: that doesn't fit -/
def q_fw (h : PH) (c a k : Nat) (v : Value) : Option PH := match v with
  | .int w => if q_fs c k = 0 then some (pI h k a w) else if q_fs c k = 1 ∧ (w = 0 ∨ w = 1) then some (pI h k a w) else none
  | .ref w => if q_fs c k = 2 then some (pR h k a (some w)) else none
  | .null => if q_fs c k = 2 then some (pR h k a none) else none
  | .long w => if q_fs c k = 3 then some (pJ h k a w) else none
  | _ => none
/-- may this method write this field: a final one in a constructor of its class alone -/
def q_fin (m : Mt) (c k : Nat) : Bool := match q_kls[c]? with
  | some r => !(r.2.1 k).2.2.2 || ((mY m).name == "<init>" && mO m == c)
  | none => false
/-- too long for an array here -/
def q_nb (n : Int32) : Bool := decide (n < 0) || decide (1000000 < n.toNatClampNeg)
theorem q_nb_iff {n : Int32} : q_nb n = true ↔ n < 0 ∨ 1000000 < n.toNatClampNeg := by simp [q_nb]
def q_mb (n : Int32) : Bool := decide (n < 0) || decide (500000 < n.toNatClampNeg)
def q_akind (t : FieldType) : Nat := match t with
  | .int => 50
  | .boolean => 51
  | .byte => 52
  | _ => 99
/-- a place of an array -/
abbrev q_in (i : Int32) (n : Nat) : Prop := ¬ (i < 0 ∨ n ≤ i.toNatClampNeg)
/-- ArrayList.add(i, v): the text of its array, a new array where it is full -/
def q_ins (f : Nat → Option Nat) (n i v : Nat) : Nat → Option Nat := va_up (va_cpy f f i (i + 1) (n - i)) i (some v)
def q_add (h : PH) (a i v : Nat) (bad : Prop) [Decidable bad] : Option PH := match hR h 1 a with
  | none => none
  | some e =>
    if bad ∨ q_mb (hI h 2 a) = true then none
    else if hK h e = 55 ∧ (hI h 2 a).toNatClampNeg < hL h e then some (pI (pI (pB h e (q_ins (hB h e) (hI h 2 a).toNatClampNeg i v)) 0 a (hI h 0 a + 1)) 2 a (hI h 2 a + 1))
    else if hK h e = 55 ∧ (hI h 2 a).toNatClampNeg = hL h e ∧ 2 ≤ hL h e then some (pR (pI (pI (pB (nA h 55 (hL h e + hL h e / 2)) (hN h) (q_ins (va_cpy (hB h e) (fun _ => none) 0 0 (hL h e)) (hI h 2 a).toNatClampNeg i v)) 0 a (hI h 0 a + 1)) 2 a (hI h 2 a + 1)) 1 a (some (hN h)))
    else if e = hS h 9 ∧ hI h 2 a = 0 then some (pR (pI (pI (pB (nA h 55 10) (hN h) (q_ins (fun _ => none) 0 i v)) 0 a (hI h 0 a + 1)) 2 a (hI h 2 a + 1)) 1 a (some (hN h)))
    else none
def q_clr (h : PH) (a : Nat) : Option PH := match hR h 1 a with
  | none => none
  | some e => if hI h 2 a = 0 then some (pI (pI h 0 a (hI h 0 a + 1)) 2 a 0)
    else if hK h e = 55 ∧ ¬ hI h 2 a < 0 ∧ (hI h 2 a).toNatClampNeg ≤ hL h e then some (pB (pI (pI h 0 a (hI h 0 a + 1)) 2 a 0) e (fun i => if i < (hI h 2 a).toNatClampNeg then none else hB h e i)) else none
def q_j0 (pc : Nat) (ls : List (Option Value)) (st : List Value) (h : PH) : Option PS := match st with | .ref _ :: r => some (pc + 3, ls, r, h) | _ => none
def q_j1 (pc : Nat) (ls : List (Option Value)) (st : List Value) (h : PH) : Option PS := match st with | .int y :: .int z :: r => some (pc + 3, ls, .int (if z < y then y else z) :: r, h) | _ => none
def q_j2 (pc : Nat) (ls : List (Option Value)) (st : List Value) (h : PH) : Option PS := match st with | .int y :: .int z :: r => some (pc + 3, ls, .int (if y < z then y else z) :: r, h) | _ => none
def q_j3 (pc : Nat) (ls : List (Option Value)) (st : List Value) (h : PH) : Option PS := match st with | .ref a :: r => if 70 ≤ hK h a ∧ hK h a < 74 then some (pc + 3, ls, .int (nI (q_tx (hK h a - 70)).length) :: r, h) else none | _ => none
def q_j4 (pc : Nat) (ls : List (Option Value)) (st : List Value) (h : PH) : Option PS := match st with | .int i :: .ref a :: r => if 70 ≤ hK h a ∧ hK h a < 74 ∧ q_in i (q_tx (hK h a - 70)).length then some (pc + 3, ls, .int (nI ((q_tx (hK h a - 70)).getD i.toNatClampNeg 0)) :: r, h) else none | _ => none
def q_j5 (pc : Nat) (ls : List (Option Value)) (st : List Value) (h : PH) : Option PS := match st with
      | .int n :: .int dp :: .ref b :: .int sp :: .ref a :: r => if hK h a = 52 ∧ hK h b = 52 ∧ ¬ sp < 0 ∧ ¬ dp < 0 ∧ ¬ n < 0 ∧ sp.toNatClampNeg + n.toNatClampNeg ≤ hL h a ∧ dp.toNatClampNeg + n.toNatClampNeg ≤ hL h b
          then some (pc + 3, ls, r, pA h b (va_cpy (hA h a) (hA h b) sp.toNatClampNeg dp.toNatClampNeg n.toNatClampNeg)) else none
      | _ => none
def q_j6 (pc : Nat) (ls : List (Option Value)) (st : List Value) (h : PH) : Option PS := match st with | .ref a :: r => if hK h a = 12 then some (pc + 3, ls, r, pR (pI h 0 a 0) 1 a (some (hS h 9))) else none | _ => none
def q_j7 (pc : Nat) (ls : List (Option Value)) (st : List Value) (h : PH) : Option PS := match st with
      | .ref v :: .int i :: .ref a :: r => if hK h a = 12 ∧ hK h v = 2 then (match q_add h a i.toNatClampNeg v (i < 0 ∨ hI h 2 a < i) with | some h' => some (pc + 3, ls, r, h') | none => none) else none
      | _ => none
def q_j8 (pc : Nat) (ls : List (Option Value)) (st : List Value) (h : PH) : Option PS := match st with | .ref a :: r => if hK h a = 12 then (match q_clr h a with | some h' => some (pc + 3, ls, r, h') | none => none) else none | _ => none
def q_j9 (pc : Nat) (ls : List (Option Value)) (st : List Value) (h : PH) : Option PS := match st with
      | .int i :: .ref a :: r => if hK h a = 12 ∧ ¬ i < 0 ∧ i < hI h 2 a then (match hR h 1 a with | some e => if hK h e = 55 ∧ i.toNatClampNeg < hL h e then some (pc + 3, ls, va_rf (hB h e i.toNatClampNeg) :: r, h) else none | none => none) else none
      | _ => none
def q_j10 (pc : Nat) (ls : List (Option Value)) (st : List Value) (h : PH) : Option PS := match st with | .ref a :: r => if hK h a = 12 then some (pc + 3, ls, .int (hI h 2 a) :: r, h) else none | _ => none
def q_j11 (pc : Nat) (ls : List (Option Value)) (st : List Value) (h : PH) : Option PS := match st with
      | .int n :: .ref a :: r => if hK h a = 52 ∧ q_nb n = false ∧ hL h a < n.toNatClampNeg then some (pc + 3, ls, .ref (hN h) :: r, pA (nA h 52 n.toNatClampNeg) (hN h) (va_cpy (hA h a) (fun _ => 0) 0 0 (hL h a))) else none
      | _ => none
/-- members of the JDK, by their numbers -/
def q_jdk (j pc : Nat) (ls : List (Option Value)) (st : List Value) (h : PH) : Option PS := match j with
  | 0 => q_j0 pc ls st h
  | 1 => q_j1 pc ls st h
  | 2 => q_j2 pc ls st h
  | 3 => q_j3 pc ls st h
  | 4 => q_j4 pc ls st h
  | 5 => q_j5 pc ls st h
  | 6 => q_j6 pc ls st h
  | 7 => q_j7 pc ls st h
  | 8 => q_j8 pc ls st h
  | 9 => q_j9 pc ls st h
  | 10 => q_j10 pc ls st h
  | 11 => q_j11 pc ls st h
  | _ => none
def q_cat (st : List Value) : Nat := (st.map fun v => v.category).sum
/-- at most eight words -/
def q_r8 (st : List Value) : Bool := decide (st.length ≤ 8) && st.all (fun v => !q_lng v)
/-- one step that neither calls nor returns -/
def sim (m : Mt) (i : Instr) (pc : Nat) (ls : List (Option Value)) (st : List Value) (h : PH) : Option PS := match i with
  | .iconst n => some (pc + 1, ls, .int (Int32.ofInt n) :: st, h)
  | .bipush n => some (pc + 2, ls, .int (Int8.ofInt n).toInt32 :: st, h)
  | .sipush n => some (pc + 3, ls, .int (Int16.ofInt n).toInt32 :: st, h)
  | .lconst n => some (pc + 1, ls, .long (Int64.ofNat n) :: st, h)
  | .aconst_null => some (pc + 1, ls, .null :: st, h)
  | .ldc k => (match qk_c (mO m) k with
      | some v => some (pc + 2, ls, .int v :: st, h)
      | none => (match qk_s (mO m) k with | some t => some (pc + 2, ls, .ref (hS h t) :: st, h) | none => none))
  | .ldc_w k => (match qk_s (mO m) k with | some t => some (pc + 3, ls, .ref (hS h t) :: st, h) | none => none)
  | .iload_n k => q_ldI ls k (pc + 1) st h
  | .iload k => q_ldI ls k (pc + 2) st h
  | .lload_n k => q_ldL ls k (pc + 1) st h
  | .lload k => q_ldL ls k (pc + 2) st h
  | .aload_n k => q_ldA ls k (pc + 1) st h
  | .aload k => q_ldA ls k (pc + 2) st h
  | .istore_n k => q_stI m ls k (pc + 1) st h
  | .istore k => q_stI m ls k (pc + 2) st h
  | .lstore_n k => q_stL m ls k (pc + 1) st h
  | .lstore k => q_stL m ls k (pc + 2) st h
  | .astore_n k => q_stA m ls k (pc + 1) st h
  | .astore k => q_stA m ls k (pc + 2) st h
  | .iinc k n => (match q_get ls k with
      | some (.int v) => (match q_st1 m ls k (.int (v + Int32.ofInt n)) with | some l => some (pc + 3, l, st, h) | none => none)
      | _ => none)
  | .iadd => (match st with | .int y :: .int z :: r => some (pc + 1, ls, .int (z + y) :: r, h) | _ => none)
  | .isub => (match st with | .int y :: .int z :: r => some (pc + 1, ls, .int (z - y) :: r, h) | _ => none)
  | .imul => (match st with | .int y :: .int z :: r => some (pc + 1, ls, .int (z * y) :: r, h) | _ => none)
  | .idiv => (match st with | .int y :: .int z :: r => if y = 0 then none else some (pc + 1, ls, .int (z / y) :: r, h) | _ => none)
  | .irem => (match st with | .int y :: .int z :: r => if y = 0 then none else some (pc + 1, ls, .int (z - z / y * y) :: r, h) | _ => none)
  | .iand => (match st with | .int y :: .int z :: r => some (pc + 1, ls, .int (z &&& y) :: r, h) | _ => none)
  | .ior => (match st with | .int y :: .int z :: r => some (pc + 1, ls, .int (z ||| y) :: r, h) | _ => none)
  | .ishl => (match st with | .int y :: .int z :: r => some (pc + 1, ls, .int (z <<< (y &&& 31)) :: r, h) | _ => none)
  | .ishr => (match st with | .int y :: .int z :: r => some (pc + 1, ls, .int (z >>> (y &&& 31)) :: r, h) | _ => none)
  | .iushr => (match st with | .int y :: .int z :: r => some (pc + 1, ls, .int (z.toUInt32 >>> (y.toUInt32 &&& Int32.toUInt32 31)).toInt32 :: r, h) | _ => none)
  | .lshl => (match st with | .int y :: .long z :: r => some (pc + 1, ls, .long (z <<< (y.toInt64 &&& 63)) :: r, h) | _ => none)
  | .lushr => (match st with | .int y :: .long z :: r => some (pc + 1, ls, .long (z.toUInt64 >>> (y.toInt64.toUInt64 &&& Int64.toUInt64 63)).toInt64 :: r, h) | _ => none)
  | .lor => (match st with | .long y :: .long z :: r => some (pc + 1, ls, .long (z ||| y) :: r, h) | _ => none)
  | .i2l => (match st with | .int y :: r => some (pc + 1, ls, .long y.toInt64 :: r, h) | _ => none)
  | .l2i => (match st with | .long y :: r => some (pc + 1, ls, .int y.toInt32 :: r, h) | _ => none)
  | .i2b => (match st with | .int y :: r => some (pc + 1, ls, .int y.toInt8.toInt32 :: r, h) | _ => none)
  | .lcmp => (match st with | .long y :: .long z :: r => some (pc + 1, ls, .int (lg_cmp z y) :: r, h) | _ => none)
  | .dup => (match st with | v :: r => if q_lng v = true then none else some (pc + 1, ls, v :: v :: r, h) | _ => none)
  | .dup2 => (match st with | v :: w :: r => if q_lng v = true ∨ q_lng w = true then none else some (pc + 1, ls, v :: w :: v :: w :: r, h) | _ => none)
  | .pop => (match st with | v :: r => if q_lng v = true then none else some (pc + 1, ls, r, h) | _ => none)
  | .ifCond c off => (match st with | .int y :: r => q_br pc off (q_cmp c y 0) ls r h | _ => none)
  | .if_icmp c off => (match st with | .int y :: .int z :: r => q_br pc off (q_cmp c z y) ls r h | _ => none)
  | .ifnull off => (match st with | .ref _ :: r => q_br pc off false ls r h | .null :: r => q_br pc off true ls r h | _ => none)
  | .ifnonnull off => (match st with | .ref _ :: r => q_br pc off true ls r h | .null :: r => q_br pc off false ls r h | _ => none)
  | .goto off => (match q_tg pc off with | some t => some (t, ls, st, h) | none => none)
  | .tableswitch d lo hi offs => (match st with
      | .int y :: r => if y.toInt < lo ∨ hi < y.toInt then (match q_tg pc d with | some t => some (t, ls, r, h) | none => none)
          else (match offs[(y.toInt - lo).toNat]? with | some off => (match q_tg pc off with | some t => some (t, ls, r, h) | none => none) | none => none)
      | _ => none)
  | .getfield k => (match qk_f (mO m) k with
      | some f => (match st with | .ref a :: r => if hK h a = f.1 then some (pc + 3, ls, q_fv h f.1 a f.2 :: r, h) else none | _ => none)
      | none => none)
  | .putfield k => (match qk_f (mO m) k with
      | some f => (match st with | v :: .ref a :: r => if hK h a = f.1 ∧ q_fin m f.1 f.2 = true then (match q_fw h f.1 a f.2 v with | some h' => some (pc + 3, ls, r, h') | none => none) else none | _ => none)
      | none => none)
  | .new k => (match qk_k (mO m) k with | some c => some (pc + 3, ls, .ref (hN h) :: st, nO h c) | none => none)
  | .newarray t => (match st with | .int n :: r => if q_nb n = true then none else if q_akind (newarray.typeOf t) < 56 then some (pc + 2, ls, .ref (hN h) :: r, nA h (q_akind (newarray.typeOf t)) n.toNatClampNeg) else none | _ => none)
  | .anewarray k => (match qk_k (mO m) k with
      | some c => (match st with | .int n :: r => if q_nb n = true then none else if c = 0 then some (pc + 3, ls, .ref (hN h) :: r, nA h 53 n.toNatClampNeg) else if c = 2 then some (pc + 3, ls, .ref (hN h) :: r, nA h 54 n.toNatClampNeg) else none | _ => none)
      | none => none)
  | .arraylength => (match st with | .ref a :: r => if 50 ≤ hK h a ∧ hK h a ≤ 54 ∨ hK h a = 60 then some (pc + 1, ls, .int (nI (hL h a)) :: r, h) else none | _ => none)
  | .iaload => (match st with | .int i :: .ref a :: r => if (hK h a = 50 ∨ hK h a = 60) ∧ q_in i (hL h a) then some (pc + 1, ls, .int (hA h a i.toNatClampNeg) :: r, h) else none | _ => none)
  | .baload => (match st with | .int i :: .ref a :: r => if (hK h a = 51 ∨ hK h a = 52) ∧ q_in i (hL h a) then some (pc + 1, ls, .int (hA h a i.toNatClampNeg) :: r, h) else none | _ => none)
  | .aaload => (match st with | .int i :: .ref a :: r => if (hK h a = 53 ∨ hK h a = 54) ∧ q_in i (hL h a) then some (pc + 1, ls, va_rf (hB h a i.toNatClampNeg) :: r, h) else none | _ => none)
  | .iastore => (match st with | .int v :: .int i :: .ref a :: r => if hK h a = 50 ∧ q_in i (hL h a) then some (pc + 1, ls, r, pA h a (upd (hA h a) i.toNatClampNeg v)) else none | _ => none)
  | .bastore => (match st with
      | .int v :: .int i :: .ref a :: r => if ¬ q_in i (hL h a) then none else if hK h a = 52 then some (pc + 1, ls, r, pA h a (upd (hA h a) i.toNatClampNeg v.toInt8.toInt32)) else if hK h a = 51 ∧ (v = 0 ∨ v = 1) then some (pc + 1, ls, r, pA h a (upd (hA h a) i.toNatClampNeg v)) else none
      | _ => none)
  | .aastore => (match st with
      | .ref v :: .int i :: .ref a :: r => if q_in i (hL h a) ∧ (hK h a = 53 ∧ hK h v = 0 ∨ hK h a = 54 ∧ hK h v = 2) then some (pc + 1, ls, r, pB h a (va_up (hB h a) i.toNatClampNeg (some v))) else none
      | .null :: .int i :: .ref a :: r => if q_in i (hL h a) ∧ (hK h a = 53 ∨ hK h a = 54) then some (pc + 1, ls, r, pB h a (va_up (hB h a) i.toNatClampNeg none)) else none
      | _ => none)
  | .checkcast k => (match qk_k (mO m) k with
      | some c => (match st with | .ref a :: r => if hK h a = c then some (pc + 3, ls, .ref a :: r, h) else none | .null :: r => some (pc + 3, ls, .null :: r, h) | _ => none)
      | none => none)
  | .invokespecial k => (match qk_j (mO m) k with | some j => if (j = 0 ∨ j = 6) ∧ st.length ≤ 5 then q_jdk j pc ls st h else none | none => none)
  | .invokestatic k => (match qk_j (mO m) k with | some j => if (j = 1 ∨ j = 2 ∨ j = 5 ∨ j = 11) ∧ st.length ≤ 5 then q_jdk j pc ls st h else none | none => none)
  | .invokevirtual k => (match qk_j (mO m) k with | some j => if (j = 3 ∨ j = 4 ∨ j = 7 ∨ j = 8 ∨ j = 9 ∨ j = 10) ∧ st.length ≤ 5 then q_jdk j pc ls st h else none | none => none)
  | _ => none
/-- a type of references -/
def q_rft (t : Option FieldType) : Bool := match t with
  | some (.object _) => true
  | some (.array _) => true
  | _ => false
/-- a return -/
def rof (m : Mt) (i : Instr) (st : List Value) : Option (Option Value) := match i with
  | .ireturn => (match st with | [.int v] => if mT m = some .int ∨ mT m = some .boolean ∧ (v = 0 ∨ v = 1) then some (some (.int v)) else none | _ => none)
  | .areturn => if q_rft (mT m) = true then (match st with | [.ref a] => some (some (.ref a)) | [.null] => some (some .null) | _ => none) else none
  | .return_ => if mT m = none then (match st with | [] => some none | _ => none) else none
  | _ => none
/-- which sort of call an instruction is -/
def q_iof (i : Instr) : Option (Nat × List Nat) := match i with
  | .invokevirtual k => some (k, [0])
  | .invokestatic k => some (k, [1])
  | .invokespecial k => some (k, [2, 3])
  | _ => none
def q_lay (as : List Value) : List (Option Value) := as.flatMap (fun v => if q_lng v = true then [some v, none] else [some v])
/-- the arguments have room -/
def q_fitA (c : Mt) (as : List Value) : Bool := if mG c = true then decide ((q_lay as).length ≤ mM c) else decide (as.length ≤ mM c)
/-- a call: whom, with what, and what is left -/
def cof (m : Mt) (i : Instr) (st : List Value) (h : PH) : Option (Mt × List Value × List Value) := match q_iof i with
  | none => none
  | some (k, ks) => (match qk_m (mO m) k with
      | none => none
      | some (s, c) =>
        if s ∈ ks then
          (if s = 1 then
            (if mP c ≤ st.length ∧ q_r8 (st.drop (mP c)) = true ∧ ((st.take (mP c)).all (fun v => mG c || !q_lng v)) = true ∧ q_fitA c (st.take (mP c)).reverse = true then some (c, (st.take (mP c)).reverse, st.drop (mP c)) else none)
          else (match (st.drop (mP c)) with
            | .ref b :: r => if mP c ≤ st.length ∧ q_r8 r = true ∧ ((st.take (mP c)).all (fun v => mG c || !q_lng v)) = true ∧ q_fitA c (.ref b :: (st.take (mP c)).reverse) = true ∧ (s = 0 → hK h b = mO c) then some (c, .ref b :: (st.take (mP c)).reverse, r) else none
            | _ => none))
        else none)
/-- the locals with which a method begins -/
def ent (m : Mt) (as : List Value) : List (Option Value) := if mG m = true then q_lay as ++ List.replicate (mM m - (q_lay as).length) none else as.map some ++ List.replicate (mM m - as.length) none
/-- the depth that is left: calls go down in rank; a call that doesn't costs one -/
def gnx (g : Nat) (m c : Mt) : Option Nat := if mR c < mR m then some g else (match g with | 0 => none | g + 1 => if mR c < 30 then some g else none)
def psh (r : Option Value) (st : List Value) : List Value := match r with
  | some v => v :: st
  | none => st
/-- the lengths of the instructions -/
def q_lok (i : Instr) (n : Nat) : Bool := match i with
  | .iconst _ => n == 1
  | .lconst _ => n == 1
  | .aconst_null => n == 1
  | .iload_n _ => n == 1
  | .lload_n _ => n == 1
  | .aload_n _ => n == 1
  | .istore_n _ => n == 1
  | .lstore_n _ => n == 1
  | .astore_n _ => n == 1
  | .iadd => n == 1
  | .isub => n == 1
  | .imul => n == 1
  | .idiv => n == 1
  | .irem => n == 1
  | .iand => n == 1
  | .ior => n == 1
  | .ishl => n == 1
  | .ishr => n == 1
  | .iushr => n == 1
  | .lshl => n == 1
  | .lushr => n == 1
  | .lor => n == 1
  | .i2l => n == 1
  | .l2i => n == 1
  | .i2b => n == 1
  | .lcmp => n == 1
  | .dup => n == 1
  | .dup2 => n == 1
  | .pop => n == 1
  | .arraylength => n == 1
  | .iaload => n == 1
  | .baload => n == 1
  | .aaload => n == 1
  | .iastore => n == 1
  | .bastore => n == 1
  | .aastore => n == 1
  | .ireturn => n == 1
  | .areturn => n == 1
  | .return_ => n == 1
  | .bipush _ => n == 2
  | .ldc _ => n == 2
  | .iload _ => n == 2
  | .lload _ => n == 2
  | .aload _ => n == 2
  | .istore _ => n == 2
  | .lstore _ => n == 2
  | .astore _ => n == 2
  | .newarray _ => n == 2
  | .sipush _ => n == 3
  | .ldc_w _ => n == 3
  | .iinc _ _ => n == 3
  | .ifCond _ _ => n == 3
  | .if_icmp _ _ => n == 3
  | .ifnull _ => n == 3
  | .ifnonnull _ => n == 3
  | .goto _ => n == 3
  | .getfield _ => n == 3
  | .putfield _ => n == 3
  | .new _ => n == 3
  | .anewarray _ => n == 3
  | .checkcast _ => n == 3
  | .invokespecial _ => n == 3
  | .invokestatic _ => n == 3
  | .invokevirtual _ => n == 3
  | .tableswitch _ _ _ _ => true
  | _ => false
/-- what comes of it: the value returned, the heap behind it -/
noncomputable def ev (g : Nat) (m : Mt) (pc : Nat) (ls : List (Option Value)) (st : List Value) (h : PH) : Option (Option Value × PH) :=
  match decode (mC m) pc with
  | .error _ => none
  | .ok d =>
    if q_lok d.1 d.2 = true then
    match rof m d.1 st with
    | some r => some (r, h)
    | none =>
      match cof m d.1 st h with
      | some c =>
        match gnx g m c.1 with
        | none => none
        | some g' =>
          ev g' c.1 0 (ent c.1 c.2.1) [] h >>= fun q => ev g m (pc + 3) ls (psh q.1 c.2.2) q.2
      | none =>
        match sim m d.1 pc ls st h with
        | none => none
        | some q => ev g m q.1 q.2.1 q.2.2.1 q.2.2.2
    else none
partial_fixpoint
/-- a call -/
noncomputable def cal (g : Nat) (m : Mt) (as : List Value) (h : PH) : Option (Option Value × PH) := ev g m 0 (ent m as) [] h
