theorem l_shl {n b : Nat} (hn : n < 2 ^ 55) (hb : b < 256) : (lN n <<< ((8 : Int32).toInt64 &&& 63)) ||| (nI b).toInt64 = lN (n * 256 + b) := by
  rw [nI_l (by omega)]
  apply Int64.toBitVec_inj.mp
  rw [Int64.toBitVec_or, Int64.toBitVec_shiftLeft]
  have e : (((8 : Int32).toInt64 &&& 63).toBitVec.smod 64) = 8#64 := by decide
  rw [e]
  apply BitVec.eq_of_toNat_eq
  rw [BitVec.toNat_or, BitVec.shiftLeft_eq', BitVec.toNat_shiftLeft]
  have t : ∀ k, k < 2 ^ 63 → (lN k).toBitVec.toNat = k := by
    intro k hk
    show (BitVec.ofNat 64 k).toNat = k
    rw [BitVec.toNat_ofNat]
    omega
  rw [t n (by omega), t b (by omega), t (n * 256 + b) (by omega), show (8#64).toNat = 8 from rfl]
  rw [Nat.mod_eq_of_lt (by rw [Nat.shiftLeft_eq]; omega), ← Nat.shiftLeft_add_eq_or_of_lt (show b < 2 ^ 8 by omega), Nat.shiftLeft_eq]
/-- bytes one after the other as a number -/
def hp (f : Nat → Nat) : Nat → Nat
  | 0 => 0
  | n + 1 => hp f n * 256 + f n
theorem hp8 (f : Nat → Nat) : hp f 8 = pk8 f := by simp [hp, pk8]
theorem hp_lt7 {f : Nat → Nat} {n : Nat} (h : ∀ i, i < n → f i < 123) (hn : n < 8) : hp f n < 2 ^ 55 := by
  have : n = 0 ∨ n = 1 ∨ n = 2 ∨ n = 3 ∨ n = 4 ∨ n = 5 ∨ n = 6 ∨ n = 7 := by omega
  rcases this with rfl | rfl | rfl | rfl | rfl | rfl | rfl | rfl
  · simp [hp]
  · have h0 := h 0 (by decide)
    simp [hp]; omega
  · have h0 := h 0 (by decide)
    have h1 := h 1 (by decide)
    simp [hp]; omega
  · have h0 := h 0 (by decide)
    have h1 := h 1 (by decide)
    have h2 := h 2 (by decide)
    simp [hp]; omega
  · have h0 := h 0 (by decide)
    have h1 := h 1 (by decide)
    have h2 := h 2 (by decide)
    have h3 := h 3 (by decide)
    simp [hp]; omega
  · have h0 := h 0 (by decide)
    have h1 := h 1 (by decide)
    have h2 := h 2 (by decide)
    have h3 := h 3 (by decide)
    have h4 := h 4 (by decide)
    simp [hp]; omega
  · have h0 := h 0 (by decide)
    have h1 := h 1 (by decide)
    have h2 := h 2 (by decide)
    have h3 := h 3 (by decide)
    have h4 := h 4 (by decide)
    have h5 := h 5 (by decide)
    simp [hp]; omega
  · have h0 := h 0 (by decide)
    have h1 := h 1 (by decide)
    have h2 := h 2 (by decide)
    have h3 := h 3 (by decide)
    have h4 := h 4 (by decide)
    have h5 := h 5 (by decide)
    have h6 := h 6 (by decide)
    simp [hp]; omega
theorem getD_drop (z : List Nat) (s i : Nat) : (z.drop s).getD i 0 = z.getD (s + i) 0 := by
  simp [List.getD_eq_getElem?_getD, List.getElem?_drop]
/-- what packed() answers -/
def pkd (h : PH) (kd : Bool) (w : List Nat) (v : Option Nat) (h' : PH) : Prop :=
  if w.all nbb = true then v = some (hN h) ∧ nm_ h' (hN h) kd w ∧ sm (fun _ => False) h h' ∧ hN h' = hN h + 1 ∧ hU h' = hU h + 3 else v = none ∧ h' = h
theorem nbb_lt {x : Nat} (h : nbb x = true) : x < 123 := by have := nbb_iff.mp h; unfold nby at this; omega
theorem f_packed_loop {g : Nat} {h : PH} {ro fa fb bd cap s : Nat} {z : List Nat} {o : Int32} {kd : Bool} (ho : hK h ro = 5) (hf : hR h 0 ro = some fa) (r : rw_ h fa fb cap bd z o) (h1 : 1 ≤ (z.drop s).length) (h2 : (z.drop s).length ≤ 16) (hroN : ro < hN h) :
    ∀ (n i : Nat) (d : Option Value), n + i = 16 → (∀ j, j < i → j < (z.drop s).length → nbb ((z.drop s).getD j 0) = true) →
    ∃ v h', ev g mX5_packed 32 [some (va_rf (some ro)), some (.int (if kd = true then 1 else 0)), some (.int (nI s)), some (.int (nI (z.drop s).length)), some (.long (lN (hp (fun j => (z.drop s).getD j 0) (min i 8)))), none, some (.long (lN (hp (fun j => (z.drop s).getD (8 + j) 0) (i - 8)))), none, some (.int (nI i)), d] [] h =
      some (some (va_rf v), h') ∧ pkd h kd (z.drop s) v h' := by
  generalize hw : z.drop s = w at h1 h2 ⊢
  intro n
  induction n with
  | zero =>
    intro i d hi hall
    have : i = 16 := by omega
    subst this
    rw [e_X5_packed_32]
    have hal : w.all nbb = true := by
      rw [List.all_eq_true]
      intro x hx
      obtain ⟨j, hj, rfl⟩ := List.getElem_of_mem hx
      have := hall j (by omega) hj
      rwa [List.getD_eq_getElem?_getD, List.getElem?_eq_getElem hj] at this
    have hnok : nok w := ⟨h1, h2, fun x hx => nbb_iff.mp (List.all_eq_true.mp hal x hx)⟩
    obtain ⟨h', e1, n1, s1, c1, u1⟩ := n_init (g := g) (h := nO h 2) (a := hN h) (kd := kd) (w := w) (by simp only [u_KO, if_true]) hnok
    rw [show min 16 8 = 8 from rfl, show 16 - 8 = 8 from rfl, hp8, hp8]
    have e1' : cal g mX2_init [va_rf (some (hN h)), .int (if kd = true then 1 else 0), .long (lN (pk8 fun j => w.getD j 0)), .long (lN (pk8 fun j => w.getD (8 + j) 0))] (nO h 2) = some (none, h') := e1
    simp (decide := true) only [e_X5_packed_0, e_X5_packed_1, e_X5_packed_4, e_X5_packed_7, e_X5_packed_8, e_X5_packed_9, e_X5_packed_10, e_X5_packed_11, e_X5_packed_12, e_X5_packed_15, e_X5_packed_16, e_X5_packed_18, e_X5_packed_21, e_X5_packed_22, e_X5_packed_23, e_X5_packed_24, e_X5_packed_26, e_X5_packed_27, e_X5_packed_29, e_X5_packed_30, e_X5_packed_34, e_X5_packed_36, e_X5_packed_39, e_X5_packed_41, e_X5_packed_42, e_X5_packed_45, e_X5_packed_46, e_X5_packed_49, e_X5_packed_50, e_X5_packed_52, e_X5_packed_53, e_X5_packed_56, e_X5_packed_59, e_X5_packed_60, e_X5_packed_62, e_X5_packed_64, e_X5_packed_65, e_X5_packed_68, e_X5_packed_70, e_X5_packed_73, e_X5_packed_76, e_X5_packed_77, e_X5_packed_78, e_X5_packed_80, e_X5_packed_82, e_X5_packed_85, e_X5_packed_87, e_X5_packed_89, e_X5_packed_90, e_X5_packed_92, e_X5_packed_93, e_X5_packed_94, e_X5_packed_96, e_X5_packed_99, e_X5_packed_101, e_X5_packed_103, e_X5_packed_104, e_X5_packed_106, e_X5_packed_107, e_X5_packed_108, e_X5_packed_110, e_X5_packed_113, e_X5_packed_116, e_X5_packed_119, e_X5_packed_120, e_X5_packed_121, e_X5_packed_123, e_X5_packed_125, e_X5_packed_128, if_true, if_false, reduceCtorEq, Nat.reduceAdd, true_and, and_true, false_and, and_false, true_or, or_true, false_or, or_false, not_true_eq_false, not_false_eq_true, Option.bind_eq_bind, Option.bind_some, psh, eq_self, e1']
    refine ⟨_, h', rfl, ?_⟩
    unfold pkd
    rw [if_pos hal]
    refine ⟨rfl, n1, ?_, by rw [c1]; rfl, by rw [u1]; rfl⟩
    have t := (sm.O (P := fun x => x = hN h) h 2).tr s1
    exact t.mono (fun x hx hz => by omega)
  | succ n ih =>
    intro i d hi hall
    have z1 : ¬ (16 : Int32) ≤ nI i := nI_ge (b := 16) (by omega) (by omega)
    have b1 : ∀ x ∈ z, x < 256 := r.2.2.2.2
    have hlt : ∀ j, j < i → w.getD j 0 < 123 := by
      intro j hj
      by_cases hjl : j < w.length
      · exact nbb_lt (hall j hj hjl)
      · rw [getD_out (by omega)]; decide
    have go : ∀ b, b < 256 → w.getD i 0 = b → (i < w.length → nbb b = true) → ∃ v h', (if (8 : Int32) ≤ nI i then
        ev g mX5_packed 32 [some (va_rf (some ro)), some (.int (if kd = true then 1 else 0)), some (.int (nI s)), some (.int (nI w.length)), some (.long (lN (hp (fun j => w.getD j 0) (min i 8)))), none, some (.long (lN (hp (fun j => w.getD (8 + j) 0) (i - 8)) <<< (Int32.toInt64 8 &&& 63) ||| (nI b).toInt64)), none, some (.int (nI i + 1)), some (.int (nI b))] [] h
      else ev g mX5_packed 32 [some (va_rf (some ro)), some (.int (if kd = true then 1 else 0)), some (.int (nI s)), some (.int (nI w.length)), some (.long (lN (hp (fun j => w.getD j 0) (min i 8)) <<< (Int32.toInt64 8 &&& 63) ||| (nI b).toInt64)), none, some (.long (lN (hp (fun j => w.getD (8 + j) 0) (i - 8)))), none, some (.int (nI i + 1)), some (.int (nI b))] [] h) = some (some (va_rf v), h') ∧ pkd h kd w v h' := by
      intro b hb hwb hnb
      have hall' : ∀ j, j < i + 1 → j < w.length → nbb (w.getD j 0) = true := by
        intro j hj hjl
        by_cases hji : j = i
        · subst hji; rw [hwb]; exact hnb hjl
        · exact hall j (by omega) hjl
      obtain ⟨v, h', e, pk⟩ := ih (i + 1) (some (.int (nI b))) (by omega) hall'
      refine ⟨v, h', ?_, pk⟩
      rw [← e]
      by_cases z8 : i < 8
      · have z8' : ¬ (8 : Int32) ≤ nI i := nI_ge (b := 8) z8 (by omega)
        have l1 := l_shl (n := hp (fun j => w.getD j 0) i) (b := b) (hp_lt7 hlt z8) hb
        rw [if_neg z8', show min i 8 = i by omega, show min (i + 1) 8 = i + 1 by omega, show i - 8 = 0 by omega, show i + 1 - 8 = 0 by omega, l1, nI_1, ← hwb]
        rfl
      · have z8' : (8 : Int32) ≤ nI i := nI_le (a := 8) (by omega) (by omega)
        have l1 := l_shl (n := hp (fun j => w.getD (8 + j) 0) (i - 8)) (b := b) (hp_lt7 (fun j hj => hlt (8 + j) (by omega)) (by omega)) hb
        rw [if_pos z8', show min i 8 = 8 by omega, show min (i + 1) 8 = 8 by omega, show i + 1 - 8 = (i - 8) + 1 by omega, l1, nI_1]
        have : hp (fun j => w.getD (8 + j) 0) (i - 8 + 1) = hp (fun j => w.getD (8 + j) 0) (i - 8) * 256 + b := by
          show _ * 256 + w.getD (8 + (i - 8)) 0 = _
          rw [show 8 + (i - 8) = i by omega, hwb]
        rw [this]
    rw [e_X5_packed_32]
    by_cases zl : i < w.length
    · have z2 : ¬ nI w.length ≤ nI i := nI_ge zl (by omega)
      have hsi : s + i < z.length := by rw [← hw] at zl; simp at zl; omega
      have e1 : nI s + nI i = nI (s + i) := nI_add s i
      have hc : z.length < 1000000 := by have := r.2.2.1; omega
      have e2 : rb z (nI (s + i)) = nI (w.getD i 0) := by rw [rb_nI (by omega), if_pos hsi, ← hw, getD_drop]
      have hx : w.getD i 0 < 256 := by rw [← hw, getD_drop]; exact b1 _ (getD_mem hsi)
      simp (decide := true) only [e_X5_packed_0, e_X5_packed_1, e_X5_packed_4, e_X5_packed_7, e_X5_packed_8, e_X5_packed_9, e_X5_packed_10, e_X5_packed_11, e_X5_packed_12, e_X5_packed_15, e_X5_packed_16, e_X5_packed_18, e_X5_packed_21, e_X5_packed_22, e_X5_packed_23, e_X5_packed_24, e_X5_packed_26, e_X5_packed_27, e_X5_packed_29, e_X5_packed_30, e_X5_packed_34, e_X5_packed_36, e_X5_packed_39, e_X5_packed_41, e_X5_packed_42, e_X5_packed_45, e_X5_packed_46, e_X5_packed_49, e_X5_packed_50, e_X5_packed_52, e_X5_packed_53, e_X5_packed_56, e_X5_packed_59, e_X5_packed_60, e_X5_packed_62, e_X5_packed_64, e_X5_packed_65, e_X5_packed_68, e_X5_packed_70, e_X5_packed_73, e_X5_packed_76, e_X5_packed_77, e_X5_packed_78, e_X5_packed_80, e_X5_packed_82, e_X5_packed_85, e_X5_packed_87, e_X5_packed_89, e_X5_packed_90, e_X5_packed_92, e_X5_packed_93, e_X5_packed_94, e_X5_packed_96, e_X5_packed_99, e_X5_packed_101, e_X5_packed_103, e_X5_packed_104, e_X5_packed_106, e_X5_packed_107, e_X5_packed_108, e_X5_packed_110, e_X5_packed_113, e_X5_packed_116, e_X5_packed_119, e_X5_packed_120, e_X5_packed_121, e_X5_packed_123, e_X5_packed_125, e_X5_packed_128, z1, z2, if_true, if_false, reduceCtorEq, Nat.reduceAdd, true_and, and_true, false_and, and_false, true_or, or_true, false_or, or_false, not_true_eq_false, not_false_eq_true, Option.bind_eq_bind, Option.bind_some, psh, eq_self, ho, hf, r.1.1, r_byteAt r, e1, e2, f_isNameByte hx]
      by_cases zn : nbb (w.getD i 0) = true
      · rw [if_neg (by rw [if_pos zn]; decide)]
        exact go _ hx rfl (fun _ => zn)
      · rw [if_pos (by rw [if_neg zn])]
        refine ⟨none, h, rfl, ?_⟩
        unfold pkd
        rw [if_neg]
        · exact ⟨rfl, rfl⟩
        · intro hal
          exact zn (List.all_eq_true.mp hal _ (getD_mem zl))
    · have z2 : nI w.length ≤ nI i := nI_le (by omega) (by omega)
      simp (decide := true) only [e_X5_packed_0, e_X5_packed_1, e_X5_packed_4, e_X5_packed_7, e_X5_packed_8, e_X5_packed_9, e_X5_packed_10, e_X5_packed_11, e_X5_packed_12, e_X5_packed_15, e_X5_packed_16, e_X5_packed_18, e_X5_packed_21, e_X5_packed_22, e_X5_packed_23, e_X5_packed_24, e_X5_packed_26, e_X5_packed_27, e_X5_packed_29, e_X5_packed_30, e_X5_packed_34, e_X5_packed_36, e_X5_packed_39, e_X5_packed_41, e_X5_packed_42, e_X5_packed_45, e_X5_packed_46, e_X5_packed_49, e_X5_packed_50, e_X5_packed_52, e_X5_packed_53, e_X5_packed_56, e_X5_packed_59, e_X5_packed_60, e_X5_packed_62, e_X5_packed_64, e_X5_packed_65, e_X5_packed_68, e_X5_packed_70, e_X5_packed_73, e_X5_packed_76, e_X5_packed_77, e_X5_packed_78, e_X5_packed_80, e_X5_packed_82, e_X5_packed_85, e_X5_packed_87, e_X5_packed_89, e_X5_packed_90, e_X5_packed_92, e_X5_packed_93, e_X5_packed_94, e_X5_packed_96, e_X5_packed_99, e_X5_packed_101, e_X5_packed_103, e_X5_packed_104, e_X5_packed_106, e_X5_packed_107, e_X5_packed_108, e_X5_packed_110, e_X5_packed_113, e_X5_packed_116, e_X5_packed_119, e_X5_packed_120, e_X5_packed_121, e_X5_packed_123, e_X5_packed_125, e_X5_packed_128, z1, z2, if_true, if_false, reduceCtorEq, Nat.reduceAdd, true_and, and_true, false_and, and_false, true_or, or_true, false_or, or_false, not_true_eq_false, not_false_eq_true, Option.bind_eq_bind, Option.bind_some, psh, eq_self]
      exact go 0 (by decide) (getD_out (by omega)) (fun z => absurd z zl)
/-- packed(kind, start) -/
theorem f_packed {g : Nat} {h : PH} {ro fa fb bd cap s : Nat} {z : List Nat} {o : Int32} {kd : Bool} (ho : hK h ro = 5) (hf : hR h 0 ro = some fa) (r : rw_ h fa fb cap bd z o) (hs : s ≤ z.length) (hroN : ro < hN h) :
    ∃ v h', cal g mX5_packed [va_rf (some ro), .int (if kd = true then 1 else 0), .int (nI s)] h = some (some (va_rf v), h') ∧ (if 1 ≤ (z.drop s).length ∧ (z.drop s).length ≤ 16 then pkd h kd (z.drop s) v h' else v = none ∧ h' = h) := by
  have hc : z.length < 1000000 := by have := r.2.2.1; omega
  have e1 : nI z.length - nI s = nI (z.length - s) := pk_sub hs
  have e2 : (z.drop s).length = z.length - s := by simp
  rw [n_X5_packed]
  simp (decide := true) only [e_X5_packed_0, e_X5_packed_1, e_X5_packed_4, e_X5_packed_7, e_X5_packed_8, e_X5_packed_9, e_X5_packed_10, e_X5_packed_11, e_X5_packed_12, e_X5_packed_15, e_X5_packed_16, e_X5_packed_18, e_X5_packed_21, e_X5_packed_22, e_X5_packed_23, e_X5_packed_24, e_X5_packed_26, e_X5_packed_27, e_X5_packed_29, e_X5_packed_30, e_X5_packed_34, e_X5_packed_36, e_X5_packed_39, e_X5_packed_41, e_X5_packed_42, e_X5_packed_45, e_X5_packed_46, e_X5_packed_49, e_X5_packed_50, e_X5_packed_52, e_X5_packed_53, e_X5_packed_56, e_X5_packed_59, e_X5_packed_60, e_X5_packed_62, e_X5_packed_64, e_X5_packed_65, e_X5_packed_68, e_X5_packed_70, e_X5_packed_73, e_X5_packed_76, e_X5_packed_77, e_X5_packed_78, e_X5_packed_80, e_X5_packed_82, e_X5_packed_85, e_X5_packed_87, e_X5_packed_89, e_X5_packed_90, e_X5_packed_92, e_X5_packed_93, e_X5_packed_94, e_X5_packed_96, e_X5_packed_99, e_X5_packed_101, e_X5_packed_103, e_X5_packed_104, e_X5_packed_106, e_X5_packed_107, e_X5_packed_108, e_X5_packed_110, e_X5_packed_113, e_X5_packed_116, e_X5_packed_119, e_X5_packed_120, e_X5_packed_121, e_X5_packed_123, e_X5_packed_125, e_X5_packed_128, if_true, if_false, reduceCtorEq, Nat.reduceAdd, true_and, and_true, false_and, and_false, true_or, or_true, false_or, or_false, not_true_eq_false, not_false_eq_true, Option.bind_eq_bind, Option.bind_some, psh, eq_self, ho, hf, r.1.1, r_len r, e1]
  have c1 : (nI (z.length - s) < (1 : Int32)) ↔ z.length - s < 1 := nI_ltI (b := 1) (by omega) (by omega)
  have c2 : (nI (z.length - s) ≤ (16 : Int32)) ↔ z.length - s ≤ 16 := nI_leI (b := 16) (by omega) (by omega)
  simp only [c1, c2]
  by_cases z1 : z.length - s < 1
  · simp only [z1, if_true]
    refine ⟨none, h, rfl, ?_⟩
    rw [e2, if_neg (by omega)]
    exact ⟨rfl, rfl⟩
  · by_cases z2 : z.length - s ≤ 16
    · simp only [z1, z2, if_true, if_false]
      obtain ⟨v, h', e, pk⟩ := f_packed_loop (g := g) (kd := kd) ho hf r (s := s) (by omega) (by omega) hroN 16 0 none rfl (fun j hj => absurd hj (by omega))
      rw [e2, nI_0] at e
      refine ⟨v, h', e, ?_⟩
      rw [e2, if_pos (by omega)]
      exact pk
    · simp only [z1, z2, if_false]
      refine ⟨none, h, rfl, ?_⟩
      rw [e2, if_neg (by omega)]
      exact ⟨rfl, rfl⟩
