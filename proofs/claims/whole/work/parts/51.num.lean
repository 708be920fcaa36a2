/-! numbers: every int of the code that isn't negative is nI of a number, the small negative ones nM -/
def nM (k : Nat) : Int32 := Int32.ofInt (-(k : Int))
theorem nM_toInt {k : Nat} (h : k < 2 ^ 31) : (nM k).toInt = -(k : Int) := by
  unfold nM
  rw [Int32.toInt_ofInt_of_le (by omega) (by omega)]
theorem m_n1 : (-(nI 1) : Int32) = nM 1 := by decide
theorem m_n2 : (-(nI 2) : Int32) = nM 2 := by decide
theorem m_n3 : (-(nI 3) : Int32) = nM 3 := by decide
theorem m_1 : (-1 : Int32) = nM 1 := by decide
theorem m_2 : (-2 : Int32) = nM 2 := by decide
theorem m_3 : (-3 : Int32) = nM 3 := by decide
theorem nI_mul (a b : Nat) : nI a * nI b = nI (a * b) := by
  unfold nI
  exact (Int32.ofNat_mul a b).symm
theorem nI_sub {a b : Nat} (h : b ≤ a) : nI a - nI b = nI (a - b) := pk_sub h
theorem nI_ltT {a b : Nat} (h : a < b) (hb : b < 2 ^ 31) : (nI a < nI b) = True := eq_true (nI_lt h hb)
theorem nI_ltF {a b : Nat} (h : b ≤ a) (ha : a < 2 ^ 31) : (nI a < nI b) = False := eq_false (nI_nlt h ha)
theorem nI_leT {a b : Nat} (h : a ≤ b) (hb : b < 2 ^ 31) : (nI a ≤ nI b) = True := eq_true (nI_le h hb)
theorem nI_leF {a b : Nat} (h : b < a) (ha : a < 2 ^ 31) : (nI a ≤ nI b) = False := eq_false (nI_ge h ha)
theorem nI_eqT {a b : Nat} (h : a = b) : (nI a = nI b) = True := by subst h; exact eq_true rfl
theorem nI_eqF {a b : Nat} (h : ¬ a = b) (ha : a < 2 ^ 31) (hb : b < 2 ^ 31) : (nI a = nI b) = False := eq_false (fun z => h ((nI_eq ha hb).mp z))
theorem nI_inT {a n : Nat} (h : a < n) (hn : n < 2 ^ 31) : (q_in (nI a) n) = True := eq_true (vp_in_nI h hn)
theorem nI_nM {a k : Nat} (ha : a < 2 ^ 31) (h0 : 0 < k) (hk : k < 2 ^ 31) : (nI a = nM k) = False := by
  refine eq_false (fun z => ?_)
  have := congrArg Int32.toInt z
  rw [nI_toInt ha, nM_toInt hk] at this
  omega
theorem nM_nI {a k : Nat} (ha : a < 2 ^ 31) (h0 : 0 < k) (hk : k < 2 ^ 31) : (nM k = nI a) = False := by
  refine eq_false (fun z => ?_)
  have := congrArg Int32.toInt z
  rw [nI_toInt ha, nM_toInt hk] at this
  omega
theorem nM_eq {a k : Nat} (ha : a < 2 ^ 31) (hk : k < 2 ^ 31) : (nM k = nM a) = (k = a) := by
  refine propext ⟨fun z => ?_, fun z => by rw [z]⟩
  have := congrArg Int32.toInt z
  rw [nM_toInt ha, nM_toInt hk] at this
  omega
theorem nM_lt {a k : Nat} (ha : a < 2 ^ 31) (h0 : 0 < k) (hk : k < 2 ^ 31) : (nM k < nI a) = True := by
  refine eq_true (Int32.lt_iff_toInt_lt.mpr ?_)
  rw [nI_toInt ha, nM_toInt hk]
  omega
theorem nM_le {a k : Nat} (ha : a < 2 ^ 31) (h0 : 0 < k) (hk : k < 2 ^ 31) : (nM k ≤ nI a) = True := by
  refine eq_true (Int32.le_iff_toInt_le.mpr ?_)
  rw [nI_toInt ha, nM_toInt hk]
  omega
theorem nI_ltM {a k : Nat} (ha : a < 2 ^ 31) (h0 : 0 < k) (hk : k < 2 ^ 31) : (nI a < nM k) = False := by
  refine eq_false (fun z => ?_)
  have := Int32.lt_iff_toInt_lt.mp z
  rw [nI_toInt ha, nM_toInt hk] at this
  omega
theorem nI_leM {a k : Nat} (ha : a < 2 ^ 31) (h0 : 0 < k) (hk : k < 2 ^ 31) : (nI a ≤ nM k) = False := by
  refine eq_false (fun z => ?_)
  have := Int32.le_iff_toInt_le.mp z
  rw [nI_toInt ha, nM_toInt hk] at this
  omega
theorem l_0 : (0 : Int32) = nI 0 := id rfl
theorem l_1 : (1 : Int32) = nI 1 := id rfl
theorem l_2 : (2 : Int32) = nI 2 := id rfl
theorem l_3 : (3 : Int32) = nI 3 := id rfl
theorem l_4 : (4 : Int32) = nI 4 := id rfl
theorem l_5 : (5 : Int32) = nI 5 := id rfl
theorem l_6 : (6 : Int32) = nI 6 := id rfl
theorem l_7 : (7 : Int32) = nI 7 := id rfl
theorem l_8 : (8 : Int32) = nI 8 := id rfl
theorem l_9 : (9 : Int32) = nI 9 := id rfl
theorem l_10 : (10 : Int32) = nI 10 := id rfl
theorem l_11 : (11 : Int32) = nI 11 := id rfl
theorem l_12 : (12 : Int32) = nI 12 := id rfl
theorem l_13 : (13 : Int32) = nI 13 := id rfl
theorem l_14 : (14 : Int32) = nI 14 := id rfl
theorem l_15 : (15 : Int32) = nI 15 := id rfl
theorem l_16 : (16 : Int32) = nI 16 := id rfl
theorem l_17 : (17 : Int32) = nI 17 := id rfl
theorem l_18 : (18 : Int32) = nI 18 := id rfl
theorem l_19 : (19 : Int32) = nI 19 := id rfl
theorem l_20 : (20 : Int32) = nI 20 := id rfl
theorem l_24 : (24 : Int32) = nI 24 := id rfl
theorem l_31 : (31 : Int32) = nI 31 := id rfl
theorem l_32 : (32 : Int32) = nI 32 := id rfl
theorem l_33 : (33 : Int32) = nI 33 := id rfl
theorem l_35 : (35 : Int32) = nI 35 := id rfl
theorem l_36 : (36 : Int32) = nI 36 := id rfl
theorem l_48 : (48 : Int32) = nI 48 := id rfl
theorem l_56 : (56 : Int32) = nI 56 := id rfl
theorem l_57 : (57 : Int32) = nI 57 := id rfl
theorem l_58 : (58 : Int32) = nI 58 := id rfl
theorem l_63 : (63 : Int32) = nI 63 := id rfl
theorem l_65 : (65 : Int32) = nI 65 := id rfl
theorem l_80 : (80 : Int32) = nI 80 := id rfl
theorem l_81 : (81 : Int32) = nI 81 := id rfl
theorem l_90 : (90 : Int32) = nI 90 := id rfl
theorem l_91 : (91 : Int32) = nI 91 := id rfl
theorem l_93 : (93 : Int32) = nI 93 := id rfl
theorem l_94 : (94 : Int32) = nI 94 := id rfl
theorem l_95 : (95 : Int32) = nI 95 := id rfl
theorem l_97 : (97 : Int32) = nI 97 := id rfl
theorem l_100 : (100 : Int32) = nI 100 := id rfl
theorem l_105 : (105 : Int32) = nI 105 := id rfl
theorem l_107 : (107 : Int32) = nI 107 := id rfl
theorem l_110 : (110 : Int32) = nI 110 := id rfl
theorem l_111 : (111 : Int32) = nI 111 := id rfl
theorem l_116 : (116 : Int32) = nI 116 := id rfl
theorem l_120 : (120 : Int32) = nI 120 := id rfl
theorem l_121 : (121 : Int32) = nI 121 := id rfl
theorem l_122 : (122 : Int32) = nI 122 := id rfl
theorem l_123 : (123 : Int32) = nI 123 := id rfl
theorem l_124 : (124 : Int32) = nI 124 := id rfl
theorem l_125 : (125 : Int32) = nI 125 := id rfl
theorem l_126 : (126 : Int32) = nI 126 := id rfl
theorem l_162 : (162 : Int32) = nI 162 := id rfl
theorem l_255 : (255 : Int32) = nI 255 := id rfl
theorem l_300 : (300 : Int32) = nI 300 := id rfl
theorem l_400 : (400 : Int32) = nI 400 := id rfl
theorem l_420 : (420 : Int32) = nI 420 := id rfl
theorem l_432 : (432 : Int32) = nI 432 := id rfl
theorem l_1000 : (1000 : Int32) = nI 1000 := id rfl
theorem l_1400 : (1400 : Int32) = nI 1400 := id rfl
theorem l_1936 : (1936 : Int32) = nI 1936 := id rfl
theorem l_2000 : (2000 : Int32) = nI 2000 := id rfl
theorem l_2100 : (2100 : Int32) = nI 2100 := id rfl
theorem l_2400 : (2400 : Int32) = nI 2400 := id rfl
theorem l_24000 : (24000 : Int32) = nI 24000 := id rfl
