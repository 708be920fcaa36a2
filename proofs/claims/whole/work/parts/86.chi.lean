/-! PageWeb$Change -/
theorem c_alikeB {g wa wb wc wd ia ib ic id' : Nat} {h : PH} {w t : List Nat} {o o2 : Int32} (r : rw_ h wa wb wc wd w o) (s : rw_ h ia ib ic id' t o2) (hw : w.length ≤ 400) (ht : t.length ≤ 400) :
    cal g mX0_alikeAtBeginning [va_rf (some wa), va_rf (some ia)] h = some (some (.int (nI (cpl w t))), h) := by
  rw [n_X0_alikeAtBeginning]
  have k1 := r.1.1
  have k2 := s.1.1
  have e1 := r_len (g := g) r
  have e2 := r_len (g := g) s
  have b1 : by_ w := r.2.2.2.2
  have b2 : by_ t := s.2.2.2.2
  have key : ∀ j k, j + k = min w.length t.length → ev g mX0_alikeAtBeginning 14 [some (va_rf (some wa)), some (va_rf (some ia)), some (.int (nI (min w.length t.length))), some (.int (nI k))] [] h = some (some (.int (nI (k + cpl (w.drop k) (t.drop k)))), h) := by
    intro j
    induction j with
    | zero =>
      intro k hk
      have e : cpl (w.drop k) (t.drop k) = 0 := by
        by_cases c : w.length ≤ k
        · rw [List.drop_of_length_le c]; rfl
        · rw [List.drop_of_length_le (show t.length ≤ k by omega)]
          cases w.drop k <;> rfl
      rw [e_X0_alikeAtBeginning_14, e]
      have : k = min w.length t.length := by omega
      subst this
      simp (decide := true) (disch := omega) only [e_X0_alikeAtBeginning_0, e_X0_alikeAtBeginning_1, e_X0_alikeAtBeginning_4, e_X0_alikeAtBeginning_5, e_X0_alikeAtBeginning_8, e_X0_alikeAtBeginning_11, e_X0_alikeAtBeginning_12, e_X0_alikeAtBeginning_13, e_X0_alikeAtBeginning_15, e_X0_alikeAtBeginning_16, e_X0_alikeAtBeginning_19, e_X0_alikeAtBeginning_20, e_X0_alikeAtBeginning_21, e_X0_alikeAtBeginning_24, e_X0_alikeAtBeginning_25, e_X0_alikeAtBeginning_26, e_X0_alikeAtBeginning_29, e_X0_alikeAtBeginning_32, e_X0_alikeAtBeginning_33, e_X0_alikeAtBeginning_34, e_X0_alikeAtBeginning_37, e_X0_alikeAtBeginning_40, e_X0_alikeAtBeginning_41, ↓reduceIte, if_true, if_false, reduceCtorEq, Nat.reduceAdd, true_and, and_true, false_and, and_false, true_or, or_true, false_or, or_false, not_true_eq_false, not_false_eq_true, Option.bind_eq_bind, Option.bind_some, psh, eq_self, l_0, l_1, l_2, l_3, l_4, l_5, l_6, l_7, l_8, l_9, l_10, l_11, l_12, l_13, l_14, l_15, l_16, l_17, l_18, l_19, l_20, l_24, l_31, l_32, l_33, l_35, l_36, l_48, l_56, l_57, l_58, l_63, l_65, l_80, l_81, l_90, l_91, l_93, l_94, l_95, l_97, l_100, l_105, l_107, l_110, l_111, l_116, l_120, l_121, l_122, l_123, l_124, l_125, l_126, l_162, l_255, l_300, l_400, l_420, l_432, l_1000, l_1400, l_1936, l_2000, l_2100, l_2400, l_24000, m_n1, m_n2, m_n3, nI_mul, nI_add, nI_sub, nI_ltT, nI_ltF, nI_leT, nI_leF, nI_eqT, nI_eqF, nI_nM, nM_nI, nM_eq, nM_lt, nM_le, nI_ltM, nI_leM, nI_inT, nI_dec, pk_rem, nI_ltI, nI_leI, nI_eq, nI_clamp, Nat.add_assoc, q_bv51, Nat.add_left_cancel_iff, Nat.add_zero]
    | succ j ih =>
      intro k hk
      have eb1 := r_byteAt (g := g) (i := nI k) r
      have eb2 := r_byteAt (g := g) (i := nI k) s
      rw [rbT (by omega) (by omega)] at eb1 eb2
      have c1 := b1.g k
      have c2 := b2.g k
      rw [e_X0_alikeAtBeginning_14, drop_cons (show k < w.length by omega), drop_cons (show k < t.length by omega), cpl]
      by_cases c : w.getD k 0 = t.getD k 0
      · rw [if_pos c, show k + (cpl (w.drop (k + 1)) (t.drop (k + 1)) + 1) = k + 1 + cpl (w.drop (k + 1)) (t.drop (k + 1)) by omega, ← ih (k + 1) (by omega)]
        rw [c] at eb1
        simp (decide := true) (disch := omega) only [e_X0_alikeAtBeginning_0, e_X0_alikeAtBeginning_1, e_X0_alikeAtBeginning_4, e_X0_alikeAtBeginning_5, e_X0_alikeAtBeginning_8, e_X0_alikeAtBeginning_11, e_X0_alikeAtBeginning_12, e_X0_alikeAtBeginning_13, e_X0_alikeAtBeginning_15, e_X0_alikeAtBeginning_16, e_X0_alikeAtBeginning_19, e_X0_alikeAtBeginning_20, e_X0_alikeAtBeginning_21, e_X0_alikeAtBeginning_24, e_X0_alikeAtBeginning_25, e_X0_alikeAtBeginning_26, e_X0_alikeAtBeginning_29, e_X0_alikeAtBeginning_32, e_X0_alikeAtBeginning_33, e_X0_alikeAtBeginning_34, e_X0_alikeAtBeginning_37, e_X0_alikeAtBeginning_40, e_X0_alikeAtBeginning_41, ↓reduceIte, if_true, if_false, reduceCtorEq, Nat.reduceAdd, true_and, and_true, false_and, and_false, true_or, or_true, false_or, or_false, not_true_eq_false, not_false_eq_true, Option.bind_eq_bind, Option.bind_some, psh, eq_self, l_0, l_1, l_2, l_3, l_4, l_5, l_6, l_7, l_8, l_9, l_10, l_11, l_12, l_13, l_14, l_15, l_16, l_17, l_18, l_19, l_20, l_24, l_31, l_32, l_33, l_35, l_36, l_48, l_56, l_57, l_58, l_63, l_65, l_80, l_81, l_90, l_91, l_93, l_94, l_95, l_97, l_100, l_105, l_107, l_110, l_111, l_116, l_120, l_121, l_122, l_123, l_124, l_125, l_126, l_162, l_255, l_300, l_400, l_420, l_432, l_1000, l_1400, l_1936, l_2000, l_2100, l_2400, l_24000, m_n1, m_n2, m_n3, nI_mul, nI_add, nI_sub, nI_ltT, nI_ltF, nI_leT, nI_leF, nI_eqT, nI_eqF, nI_nM, nM_nI, nM_eq, nM_lt, nM_le, nI_ltM, nI_leM, nI_inT, nI_dec, pk_rem, nI_ltI, nI_leI, nI_eq, nI_clamp, Nat.add_assoc, q_bv51, Nat.add_left_cancel_iff, k1, k2, eb1, eb2]
      · rw [if_neg c]
        generalize w.getD k 0 = y1 at *
        generalize t.getD k 0 = y2 at *
        simp (decide := true) (disch := omega) only [e_X0_alikeAtBeginning_0, e_X0_alikeAtBeginning_1, e_X0_alikeAtBeginning_4, e_X0_alikeAtBeginning_5, e_X0_alikeAtBeginning_8, e_X0_alikeAtBeginning_11, e_X0_alikeAtBeginning_12, e_X0_alikeAtBeginning_13, e_X0_alikeAtBeginning_15, e_X0_alikeAtBeginning_16, e_X0_alikeAtBeginning_19, e_X0_alikeAtBeginning_20, e_X0_alikeAtBeginning_21, e_X0_alikeAtBeginning_24, e_X0_alikeAtBeginning_25, e_X0_alikeAtBeginning_26, e_X0_alikeAtBeginning_29, e_X0_alikeAtBeginning_32, e_X0_alikeAtBeginning_33, e_X0_alikeAtBeginning_34, e_X0_alikeAtBeginning_37, e_X0_alikeAtBeginning_40, e_X0_alikeAtBeginning_41, ↓reduceIte, if_true, if_false, reduceCtorEq, Nat.reduceAdd, true_and, and_true, false_and, and_false, true_or, or_true, false_or, or_false, not_true_eq_false, not_false_eq_true, Option.bind_eq_bind, Option.bind_some, psh, eq_self, l_0, l_1, l_2, l_3, l_4, l_5, l_6, l_7, l_8, l_9, l_10, l_11, l_12, l_13, l_14, l_15, l_16, l_17, l_18, l_19, l_20, l_24, l_31, l_32, l_33, l_35, l_36, l_48, l_56, l_57, l_58, l_63, l_65, l_80, l_81, l_90, l_91, l_93, l_94, l_95, l_97, l_100, l_105, l_107, l_110, l_111, l_116, l_120, l_121, l_122, l_123, l_124, l_125, l_126, l_162, l_255, l_300, l_400, l_420, l_432, l_1000, l_1400, l_1936, l_2000, l_2100, l_2400, l_24000, m_n1, m_n2, m_n3, nI_mul, nI_add, nI_sub, nI_ltT, nI_ltF, nI_leT, nI_leF, nI_eqT, nI_eqF, nI_nM, nM_nI, nM_eq, nM_lt, nM_le, nI_ltM, nI_leM, nI_inT, nI_dec, pk_rem, nI_ltI, nI_leI, nI_eq, nI_clamp, Nat.add_assoc, q_bv51, Nat.add_left_cancel_iff, k1, k2, eb1, eb2, Nat.add_zero]
  have := key (min w.length t.length) 0 (by omega)
  rw [List.drop_zero, List.drop_zero, Nat.zero_add] at this
  rw [← this]
  by_cases c : w.length < t.length
  · rw [Nat.min_eq_left (by omega)]
    simp (decide := true) (disch := omega) only [e_X0_alikeAtBeginning_0, e_X0_alikeAtBeginning_1, e_X0_alikeAtBeginning_4, e_X0_alikeAtBeginning_5, e_X0_alikeAtBeginning_8, e_X0_alikeAtBeginning_11, e_X0_alikeAtBeginning_12, e_X0_alikeAtBeginning_13, e_X0_alikeAtBeginning_15, e_X0_alikeAtBeginning_16, e_X0_alikeAtBeginning_19, e_X0_alikeAtBeginning_20, e_X0_alikeAtBeginning_21, e_X0_alikeAtBeginning_24, e_X0_alikeAtBeginning_25, e_X0_alikeAtBeginning_26, e_X0_alikeAtBeginning_29, e_X0_alikeAtBeginning_32, e_X0_alikeAtBeginning_33, e_X0_alikeAtBeginning_34, e_X0_alikeAtBeginning_37, e_X0_alikeAtBeginning_40, e_X0_alikeAtBeginning_41, ↓reduceIte, if_true, if_false, reduceCtorEq, Nat.reduceAdd, true_and, and_true, false_and, and_false, true_or, or_true, false_or, or_false, not_true_eq_false, not_false_eq_true, Option.bind_eq_bind, Option.bind_some, psh, eq_self, l_0, l_1, l_2, l_3, l_4, l_5, l_6, l_7, l_8, l_9, l_10, l_11, l_12, l_13, l_14, l_15, l_16, l_17, l_18, l_19, l_20, l_24, l_31, l_32, l_33, l_35, l_36, l_48, l_56, l_57, l_58, l_63, l_65, l_80, l_81, l_90, l_91, l_93, l_94, l_95, l_97, l_100, l_105, l_107, l_110, l_111, l_116, l_120, l_121, l_122, l_123, l_124, l_125, l_126, l_162, l_255, l_300, l_400, l_420, l_432, l_1000, l_1400, l_1936, l_2000, l_2100, l_2400, l_24000, m_n1, m_n2, m_n3, nI_mul, nI_add, nI_sub, nI_ltT, nI_ltF, nI_leT, nI_leF, nI_eqT, nI_eqF, nI_nM, nM_nI, nM_eq, nM_lt, nM_le, nI_ltM, nI_leM, nI_inT, nI_dec, pk_rem, nI_ltI, nI_leI, nI_eq, nI_clamp, Nat.add_assoc, q_bv51, Nat.add_left_cancel_iff, k1, k2, e1, e2]
  · rw [Nat.min_eq_right (by omega)]
    by_cases c2 : t.length < w.length
    · simp (decide := true) (disch := omega) only [e_X0_alikeAtBeginning_0, e_X0_alikeAtBeginning_1, e_X0_alikeAtBeginning_4, e_X0_alikeAtBeginning_5, e_X0_alikeAtBeginning_8, e_X0_alikeAtBeginning_11, e_X0_alikeAtBeginning_12, e_X0_alikeAtBeginning_13, e_X0_alikeAtBeginning_15, e_X0_alikeAtBeginning_16, e_X0_alikeAtBeginning_19, e_X0_alikeAtBeginning_20, e_X0_alikeAtBeginning_21, e_X0_alikeAtBeginning_24, e_X0_alikeAtBeginning_25, e_X0_alikeAtBeginning_26, e_X0_alikeAtBeginning_29, e_X0_alikeAtBeginning_32, e_X0_alikeAtBeginning_33, e_X0_alikeAtBeginning_34, e_X0_alikeAtBeginning_37, e_X0_alikeAtBeginning_40, e_X0_alikeAtBeginning_41, ↓reduceIte, if_true, if_false, reduceCtorEq, Nat.reduceAdd, true_and, and_true, false_and, and_false, true_or, or_true, false_or, or_false, not_true_eq_false, not_false_eq_true, Option.bind_eq_bind, Option.bind_some, psh, eq_self, l_0, l_1, l_2, l_3, l_4, l_5, l_6, l_7, l_8, l_9, l_10, l_11, l_12, l_13, l_14, l_15, l_16, l_17, l_18, l_19, l_20, l_24, l_31, l_32, l_33, l_35, l_36, l_48, l_56, l_57, l_58, l_63, l_65, l_80, l_81, l_90, l_91, l_93, l_94, l_95, l_97, l_100, l_105, l_107, l_110, l_111, l_116, l_120, l_121, l_122, l_123, l_124, l_125, l_126, l_162, l_255, l_300, l_400, l_420, l_432, l_1000, l_1400, l_1936, l_2000, l_2100, l_2400, l_24000, m_n1, m_n2, m_n3, nI_mul, nI_add, nI_sub, nI_ltT, nI_ltF, nI_leT, nI_leF, nI_eqT, nI_eqF, nI_nM, nM_nI, nM_eq, nM_lt, nM_le, nI_ltM, nI_leM, nI_inT, nI_dec, pk_rem, nI_ltI, nI_leI, nI_eq, nI_clamp, Nat.add_assoc, q_bv51, Nat.add_left_cancel_iff, k1, k2, e1, e2]
    · have c3 : w.length = t.length := by omega
      rw [c3] at e1
      simp (decide := true) (disch := omega) only [e_X0_alikeAtBeginning_0, e_X0_alikeAtBeginning_1, e_X0_alikeAtBeginning_4, e_X0_alikeAtBeginning_5, e_X0_alikeAtBeginning_8, e_X0_alikeAtBeginning_11, e_X0_alikeAtBeginning_12, e_X0_alikeAtBeginning_13, e_X0_alikeAtBeginning_15, e_X0_alikeAtBeginning_16, e_X0_alikeAtBeginning_19, e_X0_alikeAtBeginning_20, e_X0_alikeAtBeginning_21, e_X0_alikeAtBeginning_24, e_X0_alikeAtBeginning_25, e_X0_alikeAtBeginning_26, e_X0_alikeAtBeginning_29, e_X0_alikeAtBeginning_32, e_X0_alikeAtBeginning_33, e_X0_alikeAtBeginning_34, e_X0_alikeAtBeginning_37, e_X0_alikeAtBeginning_40, e_X0_alikeAtBeginning_41, ↓reduceIte, if_true, if_false, reduceCtorEq, Nat.reduceAdd, true_and, and_true, false_and, and_false, true_or, or_true, false_or, or_false, not_true_eq_false, not_false_eq_true, Option.bind_eq_bind, Option.bind_some, psh, eq_self, l_0, l_1, l_2, l_3, l_4, l_5, l_6, l_7, l_8, l_9, l_10, l_11, l_12, l_13, l_14, l_15, l_16, l_17, l_18, l_19, l_20, l_24, l_31, l_32, l_33, l_35, l_36, l_48, l_56, l_57, l_58, l_63, l_65, l_80, l_81, l_90, l_91, l_93, l_94, l_95, l_97, l_100, l_105, l_107, l_110, l_111, l_116, l_120, l_121, l_122, l_123, l_124, l_125, l_126, l_162, l_255, l_300, l_400, l_420, l_432, l_1000, l_1400, l_1936, l_2000, l_2100, l_2400, l_24000, m_n1, m_n2, m_n3, nI_mul, nI_add, nI_sub, nI_ltT, nI_ltF, nI_leT, nI_leF, nI_eqT, nI_eqF, nI_nM, nM_nI, nM_eq, nM_lt, nM_le, nI_ltM, nI_leM, nI_inT, nI_dec, pk_rem, nI_ltI, nI_leI, nI_eq, nI_clamp, Nat.add_assoc, q_bv51, Nat.add_left_cancel_iff, k1, k2, e1, e2]
theorem c_alikeE {g wa wb wc wd ia ib ic id' s0 : Nat} {h : PH} {w t : List Nat} {o o2 : Int32} (r : rw_ h wa wb wc wd w o) (s : rw_ h ia ib ic id' t o2) (hw : w.length ≤ 400) (ht : t.length ≤ 400) (h1 : s0 ≤ w.length) (h2 : s0 ≤ t.length) :
    cal g mX0_alikeAtEnd [va_rf (some wa), va_rf (some ia), .int (nI s0)] h = some (some (.int (nI (csl w t s0))), h) := by
  rw [n_X0_alikeAtEnd]
  have k1 := r.1.1
  have k2 := s.1.1
  have e1 := r_len (g := g) r
  have e2 := r_len (g := g) s
  have b1 : by_ w := r.2.2.2.2
  have b2 : by_ t := s.2.2.2.2
  have key : ∀ j k, j + k = min w.length t.length - s0 → ev g mX0_alikeAtEnd 17 [some (va_rf (some wa)), some (va_rf (some ia)), some (.int (nI s0)), some (.int (nI (min w.length t.length - s0))), some (.int (nI k))] [] h = some (some (.int (nI (k + cpl ((w.drop s0).reverse.drop k) ((t.drop s0).reverse.drop k)))), h) := by
    intro j
    induction j with
    | zero =>
      intro k hk
      have e : cpl ((w.drop s0).reverse.drop k) ((t.drop s0).reverse.drop k) = 0 := by
        by_cases c : w.length - s0 ≤ k
        · rw [List.drop_of_length_le (show (w.drop s0).reverse.length ≤ k by simp; omega)]; rfl
        · rw [List.drop_of_length_le (show (t.drop s0).reverse.length ≤ k by simp; omega)]
          cases (w.drop s0).reverse.drop k <;> rfl
      rw [e_X0_alikeAtEnd_17, e]
      have : k = min w.length t.length - s0 := by omega
      rw [← this]
      simp (decide := true) (disch := omega) only [e_X0_alikeAtEnd_0, e_X0_alikeAtEnd_1, e_X0_alikeAtEnd_4, e_X0_alikeAtEnd_5, e_X0_alikeAtEnd_8, e_X0_alikeAtEnd_11, e_X0_alikeAtEnd_12, e_X0_alikeAtEnd_13, e_X0_alikeAtEnd_14, e_X0_alikeAtEnd_15, e_X0_alikeAtEnd_19, e_X0_alikeAtEnd_20, e_X0_alikeAtEnd_23, e_X0_alikeAtEnd_24, e_X0_alikeAtEnd_25, e_X0_alikeAtEnd_28, e_X0_alikeAtEnd_29, e_X0_alikeAtEnd_30, e_X0_alikeAtEnd_32, e_X0_alikeAtEnd_33, e_X0_alikeAtEnd_36, e_X0_alikeAtEnd_37, e_X0_alikeAtEnd_38, e_X0_alikeAtEnd_41, e_X0_alikeAtEnd_42, e_X0_alikeAtEnd_43, e_X0_alikeAtEnd_45, e_X0_alikeAtEnd_46, e_X0_alikeAtEnd_49, e_X0_alikeAtEnd_52, e_X0_alikeAtEnd_54, e_X0_alikeAtEnd_55, e_X0_alikeAtEnd_58, e_X0_alikeAtEnd_61, e_X0_alikeAtEnd_62, ↓reduceIte, if_true, if_false, reduceCtorEq, Nat.reduceAdd, true_and, and_true, false_and, and_false, true_or, or_true, false_or, or_false, not_true_eq_false, not_false_eq_true, Option.bind_eq_bind, Option.bind_some, psh, eq_self, l_0, l_1, l_2, l_3, l_4, l_5, l_6, l_7, l_8, l_9, l_10, l_11, l_12, l_13, l_14, l_15, l_16, l_17, l_18, l_19, l_20, l_24, l_31, l_32, l_33, l_35, l_36, l_48, l_56, l_57, l_58, l_63, l_65, l_80, l_81, l_90, l_91, l_93, l_94, l_95, l_97, l_100, l_105, l_107, l_110, l_111, l_116, l_120, l_121, l_122, l_123, l_124, l_125, l_126, l_162, l_255, l_300, l_400, l_420, l_432, l_1000, l_1400, l_1936, l_2000, l_2100, l_2400, l_24000, m_n1, m_n2, m_n3, nI_mul, nI_add, nI_sub, nI_ltT, nI_ltF, nI_leT, nI_leF, nI_eqT, nI_eqF, nI_nM, nM_nI, nM_eq, nM_lt, nM_le, nI_ltM, nI_leM, nI_inT, nI_dec, pk_rem, nI_ltI, nI_leI, nI_eq, nI_clamp, Nat.add_assoc, q_bv51, Nat.add_left_cancel_iff, Nat.add_zero]
    | succ j ih =>
      intro k hk
      have eb1 := r_byteAt (g := g) (i := nI (w.length - 1 - k)) r
      have eb2 := r_byteAt (g := g) (i := nI (t.length - 1 - k)) s
      rw [rbT (by omega) (by omega)] at eb1 eb2
      have c1 := b1.g (w.length - 1 - k)
      have c2 := b2.g (t.length - 1 - k)
      rw [e_X0_alikeAtEnd_17, drop_rev (show k < w.length - s0 by omega), drop_rev (show k < t.length - s0 by omega), cpl]
      generalize w.getD (w.length - 1 - k) 0 = y1 at *
      generalize t.getD (t.length - 1 - k) 0 = y2 at *
      by_cases c : y1 = y2
      · rw [if_pos c, show k + (cpl ((w.drop s0).reverse.drop (k + 1)) ((t.drop s0).reverse.drop (k + 1)) + 1) = k + 1 + cpl ((w.drop s0).reverse.drop (k + 1)) ((t.drop s0).reverse.drop (k + 1)) by omega, ← ih (k + 1) (by omega)]
        simp (decide := true) (disch := omega) only [e_X0_alikeAtEnd_0, e_X0_alikeAtEnd_1, e_X0_alikeAtEnd_4, e_X0_alikeAtEnd_5, e_X0_alikeAtEnd_8, e_X0_alikeAtEnd_11, e_X0_alikeAtEnd_12, e_X0_alikeAtEnd_13, e_X0_alikeAtEnd_14, e_X0_alikeAtEnd_15, e_X0_alikeAtEnd_19, e_X0_alikeAtEnd_20, e_X0_alikeAtEnd_23, e_X0_alikeAtEnd_24, e_X0_alikeAtEnd_25, e_X0_alikeAtEnd_28, e_X0_alikeAtEnd_29, e_X0_alikeAtEnd_30, e_X0_alikeAtEnd_32, e_X0_alikeAtEnd_33, e_X0_alikeAtEnd_36, e_X0_alikeAtEnd_37, e_X0_alikeAtEnd_38, e_X0_alikeAtEnd_41, e_X0_alikeAtEnd_42, e_X0_alikeAtEnd_43, e_X0_alikeAtEnd_45, e_X0_alikeAtEnd_46, e_X0_alikeAtEnd_49, e_X0_alikeAtEnd_52, e_X0_alikeAtEnd_54, e_X0_alikeAtEnd_55, e_X0_alikeAtEnd_58, e_X0_alikeAtEnd_61, e_X0_alikeAtEnd_62, ↓reduceIte, if_true, if_false, reduceCtorEq, Nat.reduceAdd, true_and, and_true, false_and, and_false, true_or, or_true, false_or, or_false, not_true_eq_false, not_false_eq_true, Option.bind_eq_bind, Option.bind_some, psh, eq_self, l_0, l_1, l_2, l_3, l_4, l_5, l_6, l_7, l_8, l_9, l_10, l_11, l_12, l_13, l_14, l_15, l_16, l_17, l_18, l_19, l_20, l_24, l_31, l_32, l_33, l_35, l_36, l_48, l_56, l_57, l_58, l_63, l_65, l_80, l_81, l_90, l_91, l_93, l_94, l_95, l_97, l_100, l_105, l_107, l_110, l_111, l_116, l_120, l_121, l_122, l_123, l_124, l_125, l_126, l_162, l_255, l_300, l_400, l_420, l_432, l_1000, l_1400, l_1936, l_2000, l_2100, l_2400, l_24000, m_n1, m_n2, m_n3, nI_mul, nI_add, nI_sub, nI_ltT, nI_ltF, nI_leT, nI_leF, nI_eqT, nI_eqF, nI_nM, nM_nI, nM_eq, nM_lt, nM_le, nI_ltM, nI_leM, nI_inT, nI_dec, pk_rem, nI_ltI, nI_leI, nI_eq, nI_clamp, Nat.add_assoc, q_bv51, Nat.add_left_cancel_iff, k1, k2, e1, e2, eb1, eb2]
      · rw [if_neg c]
        simp (decide := true) (disch := omega) only [e_X0_alikeAtEnd_0, e_X0_alikeAtEnd_1, e_X0_alikeAtEnd_4, e_X0_alikeAtEnd_5, e_X0_alikeAtEnd_8, e_X0_alikeAtEnd_11, e_X0_alikeAtEnd_12, e_X0_alikeAtEnd_13, e_X0_alikeAtEnd_14, e_X0_alikeAtEnd_15, e_X0_alikeAtEnd_19, e_X0_alikeAtEnd_20, e_X0_alikeAtEnd_23, e_X0_alikeAtEnd_24, e_X0_alikeAtEnd_25, e_X0_alikeAtEnd_28, e_X0_alikeAtEnd_29, e_X0_alikeAtEnd_30, e_X0_alikeAtEnd_32, e_X0_alikeAtEnd_33, e_X0_alikeAtEnd_36, e_X0_alikeAtEnd_37, e_X0_alikeAtEnd_38, e_X0_alikeAtEnd_41, e_X0_alikeAtEnd_42, e_X0_alikeAtEnd_43, e_X0_alikeAtEnd_45, e_X0_alikeAtEnd_46, e_X0_alikeAtEnd_49, e_X0_alikeAtEnd_52, e_X0_alikeAtEnd_54, e_X0_alikeAtEnd_55, e_X0_alikeAtEnd_58, e_X0_alikeAtEnd_61, e_X0_alikeAtEnd_62, ↓reduceIte, if_true, if_false, reduceCtorEq, Nat.reduceAdd, true_and, and_true, false_and, and_false, true_or, or_true, false_or, or_false, not_true_eq_false, not_false_eq_true, Option.bind_eq_bind, Option.bind_some, psh, eq_self, l_0, l_1, l_2, l_3, l_4, l_5, l_6, l_7, l_8, l_9, l_10, l_11, l_12, l_13, l_14, l_15, l_16, l_17, l_18, l_19, l_20, l_24, l_31, l_32, l_33, l_35, l_36, l_48, l_56, l_57, l_58, l_63, l_65, l_80, l_81, l_90, l_91, l_93, l_94, l_95, l_97, l_100, l_105, l_107, l_110, l_111, l_116, l_120, l_121, l_122, l_123, l_124, l_125, l_126, l_162, l_255, l_300, l_400, l_420, l_432, l_1000, l_1400, l_1936, l_2000, l_2100, l_2400, l_24000, m_n1, m_n2, m_n3, nI_mul, nI_add, nI_sub, nI_ltT, nI_ltF, nI_leT, nI_leF, nI_eqT, nI_eqF, nI_nM, nM_nI, nM_eq, nM_lt, nM_le, nI_ltM, nI_leM, nI_inT, nI_dec, pk_rem, nI_ltI, nI_leI, nI_eq, nI_clamp, Nat.add_assoc, q_bv51, Nat.add_left_cancel_iff, k1, k2, e1, e2, eb1, eb2, Nat.add_zero]
  have := key (min w.length t.length - s0) 0 (by omega)
  rw [List.drop_zero, List.drop_zero, Nat.zero_add] at this
  have e9 : csl w t s0 = cpl (w.drop s0).reverse (t.drop s0).reverse := rfl
  rw [e9, ← this]
  by_cases c : w.length < t.length
  · rw [Nat.min_eq_left (by omega)]
    simp (decide := true) (disch := omega) only [e_X0_alikeAtEnd_0, e_X0_alikeAtEnd_1, e_X0_alikeAtEnd_4, e_X0_alikeAtEnd_5, e_X0_alikeAtEnd_8, e_X0_alikeAtEnd_11, e_X0_alikeAtEnd_12, e_X0_alikeAtEnd_13, e_X0_alikeAtEnd_14, e_X0_alikeAtEnd_15, e_X0_alikeAtEnd_19, e_X0_alikeAtEnd_20, e_X0_alikeAtEnd_23, e_X0_alikeAtEnd_24, e_X0_alikeAtEnd_25, e_X0_alikeAtEnd_28, e_X0_alikeAtEnd_29, e_X0_alikeAtEnd_30, e_X0_alikeAtEnd_32, e_X0_alikeAtEnd_33, e_X0_alikeAtEnd_36, e_X0_alikeAtEnd_37, e_X0_alikeAtEnd_38, e_X0_alikeAtEnd_41, e_X0_alikeAtEnd_42, e_X0_alikeAtEnd_43, e_X0_alikeAtEnd_45, e_X0_alikeAtEnd_46, e_X0_alikeAtEnd_49, e_X0_alikeAtEnd_52, e_X0_alikeAtEnd_54, e_X0_alikeAtEnd_55, e_X0_alikeAtEnd_58, e_X0_alikeAtEnd_61, e_X0_alikeAtEnd_62, ↓reduceIte, if_true, if_false, reduceCtorEq, Nat.reduceAdd, true_and, and_true, false_and, and_false, true_or, or_true, false_or, or_false, not_true_eq_false, not_false_eq_true, Option.bind_eq_bind, Option.bind_some, psh, eq_self, l_0, l_1, l_2, l_3, l_4, l_5, l_6, l_7, l_8, l_9, l_10, l_11, l_12, l_13, l_14, l_15, l_16, l_17, l_18, l_19, l_20, l_24, l_31, l_32, l_33, l_35, l_36, l_48, l_56, l_57, l_58, l_63, l_65, l_80, l_81, l_90, l_91, l_93, l_94, l_95, l_97, l_100, l_105, l_107, l_110, l_111, l_116, l_120, l_121, l_122, l_123, l_124, l_125, l_126, l_162, l_255, l_300, l_400, l_420, l_432, l_1000, l_1400, l_1936, l_2000, l_2100, l_2400, l_24000, m_n1, m_n2, m_n3, nI_mul, nI_add, nI_sub, nI_ltT, nI_ltF, nI_leT, nI_leF, nI_eqT, nI_eqF, nI_nM, nM_nI, nM_eq, nM_lt, nM_le, nI_ltM, nI_leM, nI_inT, nI_dec, pk_rem, nI_ltI, nI_leI, nI_eq, nI_clamp, Nat.add_assoc, q_bv51, Nat.add_left_cancel_iff, k1, k2, e1, e2]
  · rw [Nat.min_eq_right (by omega)]
    by_cases c2 : t.length < w.length
    · simp (decide := true) (disch := omega) only [e_X0_alikeAtEnd_0, e_X0_alikeAtEnd_1, e_X0_alikeAtEnd_4, e_X0_alikeAtEnd_5, e_X0_alikeAtEnd_8, e_X0_alikeAtEnd_11, e_X0_alikeAtEnd_12, e_X0_alikeAtEnd_13, e_X0_alikeAtEnd_14, e_X0_alikeAtEnd_15, e_X0_alikeAtEnd_19, e_X0_alikeAtEnd_20, e_X0_alikeAtEnd_23, e_X0_alikeAtEnd_24, e_X0_alikeAtEnd_25, e_X0_alikeAtEnd_28, e_X0_alikeAtEnd_29, e_X0_alikeAtEnd_30, e_X0_alikeAtEnd_32, e_X0_alikeAtEnd_33, e_X0_alikeAtEnd_36, e_X0_alikeAtEnd_37, e_X0_alikeAtEnd_38, e_X0_alikeAtEnd_41, e_X0_alikeAtEnd_42, e_X0_alikeAtEnd_43, e_X0_alikeAtEnd_45, e_X0_alikeAtEnd_46, e_X0_alikeAtEnd_49, e_X0_alikeAtEnd_52, e_X0_alikeAtEnd_54, e_X0_alikeAtEnd_55, e_X0_alikeAtEnd_58, e_X0_alikeAtEnd_61, e_X0_alikeAtEnd_62, ↓reduceIte, if_true, if_false, reduceCtorEq, Nat.reduceAdd, true_and, and_true, false_and, and_false, true_or, or_true, false_or, or_false, not_true_eq_false, not_false_eq_true, Option.bind_eq_bind, Option.bind_some, psh, eq_self, l_0, l_1, l_2, l_3, l_4, l_5, l_6, l_7, l_8, l_9, l_10, l_11, l_12, l_13, l_14, l_15, l_16, l_17, l_18, l_19, l_20, l_24, l_31, l_32, l_33, l_35, l_36, l_48, l_56, l_57, l_58, l_63, l_65, l_80, l_81, l_90, l_91, l_93, l_94, l_95, l_97, l_100, l_105, l_107, l_110, l_111, l_116, l_120, l_121, l_122, l_123, l_124, l_125, l_126, l_162, l_255, l_300, l_400, l_420, l_432, l_1000, l_1400, l_1936, l_2000, l_2100, l_2400, l_24000, m_n1, m_n2, m_n3, nI_mul, nI_add, nI_sub, nI_ltT, nI_ltF, nI_leT, nI_leF, nI_eqT, nI_eqF, nI_nM, nM_nI, nM_eq, nM_lt, nM_le, nI_ltM, nI_leM, nI_inT, nI_dec, pk_rem, nI_ltI, nI_leI, nI_eq, nI_clamp, Nat.add_assoc, q_bv51, Nat.add_left_cancel_iff, k1, k2, e1, e2]
    · have c3 : w.length = t.length := by omega
      rw [c3] at e1
      simp (decide := true) (disch := omega) only [e_X0_alikeAtEnd_0, e_X0_alikeAtEnd_1, e_X0_alikeAtEnd_4, e_X0_alikeAtEnd_5, e_X0_alikeAtEnd_8, e_X0_alikeAtEnd_11, e_X0_alikeAtEnd_12, e_X0_alikeAtEnd_13, e_X0_alikeAtEnd_14, e_X0_alikeAtEnd_15, e_X0_alikeAtEnd_19, e_X0_alikeAtEnd_20, e_X0_alikeAtEnd_23, e_X0_alikeAtEnd_24, e_X0_alikeAtEnd_25, e_X0_alikeAtEnd_28, e_X0_alikeAtEnd_29, e_X0_alikeAtEnd_30, e_X0_alikeAtEnd_32, e_X0_alikeAtEnd_33, e_X0_alikeAtEnd_36, e_X0_alikeAtEnd_37, e_X0_alikeAtEnd_38, e_X0_alikeAtEnd_41, e_X0_alikeAtEnd_42, e_X0_alikeAtEnd_43, e_X0_alikeAtEnd_45, e_X0_alikeAtEnd_46, e_X0_alikeAtEnd_49, e_X0_alikeAtEnd_52, e_X0_alikeAtEnd_54, e_X0_alikeAtEnd_55, e_X0_alikeAtEnd_58, e_X0_alikeAtEnd_61, e_X0_alikeAtEnd_62, ↓reduceIte, if_true, if_false, reduceCtorEq, Nat.reduceAdd, true_and, and_true, false_and, and_false, true_or, or_true, false_or, or_false, not_true_eq_false, not_false_eq_true, Option.bind_eq_bind, Option.bind_some, psh, eq_self, l_0, l_1, l_2, l_3, l_4, l_5, l_6, l_7, l_8, l_9, l_10, l_11, l_12, l_13, l_14, l_15, l_16, l_17, l_18, l_19, l_20, l_24, l_31, l_32, l_33, l_35, l_36, l_48, l_56, l_57, l_58, l_63, l_65, l_80, l_81, l_90, l_91, l_93, l_94, l_95, l_97, l_100, l_105, l_107, l_110, l_111, l_116, l_120, l_121, l_122, l_123, l_124, l_125, l_126, l_162, l_255, l_300, l_400, l_420, l_432, l_1000, l_1400, l_1936, l_2000, l_2100, l_2400, l_24000, m_n1, m_n2, m_n3, nI_mul, nI_add, nI_sub, nI_ltT, nI_ltF, nI_leT, nI_leF, nI_eqT, nI_eqF, nI_nM, nM_nI, nM_eq, nM_lt, nM_le, nI_ltM, nI_leM, nI_inT, nI_dec, pk_rem, nI_ltI, nI_leI, nI_eq, nI_clamp, Nat.add_assoc, q_bv51, Nat.add_left_cancel_iff, k1, k2, e1, e2]
/-- the loop that puts the number -/
theorem c_chi_loop {g a nu pa pb n' : Nat} {m : Nat} {l2 l3 l4 l5 l6 l7 l8 l9 : Option Value} (hnu : nu < 256) (hm : m ≤ 400) : ∀ j k (h : PH) (l : List Nat), j + k = m → hK h a = 0 → hI h 6 a = nI m → hR h 7 a = some pa → rw_ h pa pb n' n' l 0 → a < hN h → a ≠ pa → a ≠ pb → l.length + j ≤ n' →
    ∃ h', ev g mX0_init 158 [some (va_rf (some a)), some (.int (nI nu)), l2, l3, l4, l5, l6, l7, l8, l9, some (.int (nI k))] [] h = ev g mX0_init 181 [some (va_rf (some a)), some (.int (nI nu)), l2, l3, l4, l5, l6, l7, l8, l9, some (.int (nI m))] [] h' ∧ sm (rP pa pb) h h' ∧ hN h' = hN h ∧ hU h' = hU h ∧ rw_ h' pa pb n' n' (l ++ List.replicate j nu) 0 := by
  intro j
  induction j with
  | zero =>
    intro k h l hk ka i6 r7 r ha na nb hl
    have : k = m := by omega
    subst this
    refine ⟨h, ?_, sm.rf _, rfl, rfl, by simpa using r⟩
    rw [e_X0_init_158]
    simp (decide := true) (disch := omega) only [e_X0_init_160, e_X0_init_161, e_X0_init_164, e_X0_init_167, e_X0_init_168, e_X0_init_171, e_X0_init_172, e_X0_init_175, e_X0_init_178, ↓reduceIte, if_true, if_false, reduceCtorEq, Nat.reduceAdd, true_and, and_true, false_and, and_false, true_or, or_true, false_or, or_false, not_true_eq_false, not_false_eq_true, Option.bind_eq_bind, Option.bind_some, psh, eq_self, l_0, l_1, l_2, l_3, l_4, l_5, l_6, l_7, l_8, l_9, l_10, l_11, l_12, l_13, l_14, l_15, l_16, l_17, l_18, l_19, l_20, l_24, l_31, l_32, l_33, l_35, l_36, l_48, l_56, l_57, l_58, l_63, l_65, l_80, l_81, l_90, l_91, l_93, l_94, l_95, l_97, l_100, l_105, l_107, l_110, l_111, l_116, l_120, l_121, l_122, l_123, l_124, l_125, l_126, l_162, l_255, l_300, l_400, l_420, l_432, l_1000, l_1400, l_1936, l_2000, l_2100, l_2400, l_24000, m_n1, m_n2, m_n3, nI_mul, nI_add, nI_sub, nI_ltT, nI_ltF, nI_leT, nI_leF, nI_eqT, nI_eqF, nI_nM, nM_nI, nM_eq, nM_lt, nM_le, nI_ltM, nI_leM, nI_inT, nI_dec, pk_rem, nI_ltI, nI_leI, nI_eq, nI_clamp, Nat.add_assoc, q_bv51, Nat.add_left_cancel_iff, ka, i6]
  | succ j ih =>
    intro k h l hk ka i6 r7 r ha na nb hl
    obtain ⟨h1, e1, r1, s1, n1, u1⟩ := r_put (g := g) (v := nI nu) r
    rw [if_pos (by omega), if_pos (by omega), bt_nI hnu] at r1
    have k6 := r.1.1
    obtain ⟨p1, p2, p3⟩ := s1.2.2 a ha
    obtain ⟨p4, p5, -⟩ := p3 (by unfold rP; omega)
    obtain ⟨h2, e2, s2, n2, u2, r2⟩ := ih (k + 1) h1 _ (by omega) (by rw [p1]; exact ka) (by rw [p4]; exact i6) (by rw [p5]; exact r7) r1 (by omega) na nb (by simp; omega)
    refine ⟨h2, ?_, s1.tr s2, by omega, by omega, ?_⟩
    · rw [← e2, e_X0_init_158]
      simp (decide := true) (disch := omega) only [e_X0_init_160, e_X0_init_161, e_X0_init_164, e_X0_init_167, e_X0_init_168, e_X0_init_171, e_X0_init_172, e_X0_init_175, e_X0_init_178, ↓reduceIte, if_true, if_false, reduceCtorEq, Nat.reduceAdd, true_and, and_true, false_and, and_false, true_or, or_true, false_or, or_false, not_true_eq_false, not_false_eq_true, Option.bind_eq_bind, Option.bind_some, psh, eq_self, l_0, l_1, l_2, l_3, l_4, l_5, l_6, l_7, l_8, l_9, l_10, l_11, l_12, l_13, l_14, l_15, l_16, l_17, l_18, l_19, l_20, l_24, l_31, l_32, l_33, l_35, l_36, l_48, l_56, l_57, l_58, l_63, l_65, l_80, l_81, l_90, l_91, l_93, l_94, l_95, l_97, l_100, l_105, l_107, l_110, l_111, l_116, l_120, l_121, l_122, l_123, l_124, l_125, l_126, l_162, l_255, l_300, l_400, l_420, l_432, l_1000, l_1400, l_1936, l_2000, l_2100, l_2400, l_24000, m_n1, m_n2, m_n3, nI_mul, nI_add, nI_sub, nI_ltT, nI_ltF, nI_leT, nI_leF, nI_eqT, nI_eqF, nI_nM, nM_nI, nM_eq, nM_lt, nM_le, nI_ltM, nI_leM, nI_inT, nI_dec, pk_rem, nI_ltI, nI_leI, nI_eq, nI_clamp, Nat.add_assoc, q_bv51, Nat.add_left_cancel_iff, ka, i6, r7, k6, e1]
    · rw [List.append_assoc] at r2
      exact r2
theorem pll_take {l : List Nat} {n s : Nat} (h1 : s ≤ l.length) (h2 : s ≤ n) : pll [] l n 0 s = l.take s ∧ plo [] l n 0 s 0 = 0 := by
  unfold pll plo
  by_cases c : 0 < s
  · rw [if_pos (by simp; omega), if_neg (by simp; omega)]
    simp
  · have : s = 0 := by omega
    subst this
    simp
theorem pll_drop {x l : List Nat} {n e : Nat} (h1 : e ≤ l.length) (h2 : x.length + e ≤ n) : pll x l n (l.length - e) l.length = x ++ l.drop (l.length - e) ∧ plo x l n (l.length - e) l.length 0 = 0 := by
  unfold pll plo
  by_cases c : 0 < e
  · rw [if_pos (by omega), if_neg (by omega)]
    refine ⟨?_, rfl⟩
    rw [List.take_of_length_le (by simp)]
  · have : e = 0 := by omega
    subst this
    rw [if_neg (by omega), if_neg (by omega)]
    simp
/-- before: the CHANGE that the page was as of -/
def bfr (Q : Nat → Prop) (h : PH) (bf : Option Nat) (w ob : List Nat) : Prop := match bf with
  | none => w = [] ∧ ob = []
  | some b => ∃ c, chg Q h b c ∧ w = ct c ∧ ob = cb c
theorem c_chinit {g a nu p hn tb : Nat} {bf : Option Nat} {h : PH} {Q : Nat → Prop} {t w ob : List Nat} {gn : Bool} (ka : hK h a = 0) (ha : a < hN h) (hQ : ∀ x, Q x → x < hN h ∧ x ≠ a) (htx : txt Q h tb t) (hbf : bfr Q h bf w ob) (ht : t.length ≤ 300) (hw : w.length ≤ 300) (hob : ob.length = w.length) (hnu : nu < 256) :
    ∃ h', cal g mX0_init [va_rf (some a), .int (nI nu), .int (nI p), .int (nI hn), va_rf bf, va_rf (some tb), .int (bI gn)] h = some (none, h') ∧ sm (fun x => x = a) h h' ∧ hN h' ≤ hN h + 4 ∧ hU h' ≤ hU h + 8 + t.length ∧ chg (fun x => Q x ∨ x = a ∨ hN h ≤ x ∧ x < hN h') h' a (mkc nu p hn gn t w ob) := by
  rw [n_X0_init]
  have hb' : (bI gn = nI 0 ∨ bI gn = nI 1) = True := by cases gn <;> simp [bI]
  have s1 : sm (fun x => x = a) h (pR (pI (pI (pI h 0 a (nI p)) 1 a (nI hn)) 2 a (bI gn)) 3 a (some tb)) := (((sm.I1 _ _).tr (sm.I1 _ _)).tr (sm.I1 _ _)).tr (sm.R1 _ _)
  have g1 : hI (pR (pI (pI (pI h 0 a (nI p)) 1 a (nI hn)) 2 a (bI gn)) 3 a (some tb)) 0 a = nI p ∧ hI (pR (pI (pI (pI h 0 a (nI p)) 1 a (nI hn)) 2 a (bI gn)) 3 a (some tb)) 1 a = nI hn ∧ hI (pR (pI (pI (pI h 0 a (nI p)) 1 a (nI hn)) 2 a (bI gn)) 3 a (some tb)) 2 a = bI gn ∧ hR (pR (pI (pI (pI h 0 a (nI p)) 1 a (nI hn)) 2 a (bI gn)) 3 a (some tb)) 3 a = some tb := by
    simp (decide := true) only [u_hN_pI, u_hU_pI, u_hK_pI, u_hL_pI, u_hR_pI, u_hJ_pI, u_hA_pI, u_hB_pI, u_hS_pI, u_hN_pR, u_hU_pR, u_hK_pR, u_hL_pR, u_hI_pR, u_hJ_pR, u_hA_pR, u_hB_pR, u_hS_pR, u_hN_pJ, u_hU_pJ, u_hK_pJ, u_hL_pJ, u_hI_pJ, u_hR_pJ, u_hA_pJ, u_hB_pJ, u_hS_pJ, u_hN_pA, u_hU_pA, u_hK_pA, u_hL_pA, u_hI_pA, u_hR_pA, u_hJ_pA, u_hB_pA, u_hS_pA, u_hN_pB, u_hU_pB, u_hK_pB, u_hL_pB, u_hI_pB, u_hR_pB, u_hJ_pB, u_hA_pB, u_hS_pB, u_hL_nO, u_hA_nO, u_hB_nO, u_hS_nO, u_hI_nA, u_hR_nA, u_hJ_nA, u_hS_nA, u_II, u_RR, u_JJ, u_AA, u_BB, u_NO, u_UO, u_KO, u_IO, u_RO, u_JO, u_NN, u_UN, u_KN, u_LN, u_AN, u_BN, if_true, if_false, and_self]
  have hd1 : ev g mX0_init 0 [some (va_rf (some a)), some (.int (nI nu)), some (.int (nI p)), some (.int (nI hn)), some (va_rf bf), some (va_rf (some tb)), some (.int (bI gn)), none, none, none, none] [] h = ev g mX0_init 26 [some (va_rf (some a)), some (.int (nI nu)), some (.int (nI p)), some (.int (nI hn)), some (va_rf bf), some (va_rf (some tb)), some (.int (bI gn)), none, none, none, none] [] (pR (pI (pI (pI h 0 a (nI p)) 1 a (nI hn)) 2 a (bI gn)) 3 a (some tb)) := by
    simp (decide := true) (disch := omega) only [e_X0_init_0, e_X0_init_1, e_X0_init_4, e_X0_init_5, e_X0_init_6, e_X0_init_9, e_X0_init_10, e_X0_init_11, e_X0_init_14, e_X0_init_15, e_X0_init_17, e_X0_init_20, e_X0_init_21, e_X0_init_23, ↓reduceIte, if_true, if_false, reduceCtorEq, Nat.reduceAdd, true_and, and_true, false_and, and_false, true_or, or_true, false_or, or_false, not_true_eq_false, not_false_eq_true, Option.bind_eq_bind, Option.bind_some, psh, eq_self, l_0, l_1, l_2, l_3, l_4, l_5, l_6, l_7, l_8, l_9, l_10, l_11, l_12, l_13, l_14, l_15, l_16, l_17, l_18, l_19, l_20, l_24, l_31, l_32, l_33, l_35, l_36, l_48, l_56, l_57, l_58, l_63, l_65, l_80, l_81, l_90, l_91, l_93, l_94, l_95, l_97, l_100, l_105, l_107, l_110, l_111, l_116, l_120, l_121, l_122, l_123, l_124, l_125, l_126, l_162, l_255, l_300, l_400, l_420, l_432, l_1000, l_1400, l_1936, l_2000, l_2100, l_2400, l_24000, m_n1, m_n2, m_n3, nI_mul, nI_add, nI_sub, nI_ltT, nI_ltF, nI_leT, nI_leF, nI_eqT, nI_eqF, nI_nM, nM_nI, nM_eq, nM_lt, nM_le, nI_ltM, nI_leM, nI_inT, nI_dec, pk_rem, nI_ltI, nI_leI, nI_eq, nI_clamp, Nat.add_assoc, q_bv51, Nat.add_left_cancel_iff, ka, hb', u_hN_pI, u_hU_pI, u_hK_pI, u_hL_pI, u_hR_pI, u_hJ_pI, u_hA_pI, u_hB_pI, u_hS_pI, u_hN_pR, u_hU_pR, u_hK_pR, u_hL_pR, u_hI_pR, u_hJ_pR, u_hA_pR, u_hB_pR, u_hS_pR, u_hN_pJ, u_hU_pJ, u_hK_pJ, u_hL_pJ, u_hI_pJ, u_hR_pJ, u_hA_pJ, u_hB_pJ, u_hS_pJ, u_hN_pA, u_hU_pA, u_hK_pA, u_hL_pA, u_hI_pA, u_hR_pA, u_hJ_pA, u_hB_pA, u_hS_pA, u_hN_pB, u_hU_pB, u_hK_pB, u_hL_pB, u_hI_pB, u_hR_pB, u_hJ_pB, u_hA_pB, u_hS_pB, u_hL_nO, u_hA_nO, u_hB_nO, u_hS_nO, u_hI_nA, u_hR_nA, u_hJ_nA, u_hS_nA, u_II, u_RR, u_JJ, u_AA, u_BB, u_NO, u_UO, u_KO, u_IO, u_RO, u_JO, u_NN, u_UN, u_KN, u_LN, u_AN, u_BN]
  have n1 : hN (pR (pI (pI (pI h 0 a (nI p)) 1 a (nI hn)) 2 a (bI gn)) 3 a (some tb)) = hN h := rfl
  have u1 : hU (pR (pI (pI (pI h 0 a (nI p)) 1 a (nI hn)) 2 a (bI gn)) 3 a (some tb)) = hU h := rfl
  rw [hd1]
  generalize pR (pI (pI (pI h 0 a (nI p)) 1 a (nI hn)) 2 a (bI gn)) 3 a (some tb) = h1 at *
  have ka1 : hK h1 a = 0 := by rw [(s1.2.2 a ha).1]; exact ka
  have hQ1 : ∀ x, Q x → x < hN h ∧ ¬ x = a ∧ Q x := fun x hx => ⟨(hQ x hx).1, (hQ x hx).2, hx⟩
  -- what was
  have sW : ∃ h2 wa wb wc wd o, ev g mX0_init 26 [some (va_rf (some a)), some (.int (nI nu)), some (.int (nI p)), some (.int (nI hn)), some (va_rf bf), some (va_rf (some tb)), some (.int (bI gn)), none, none, none, none] [] h1 = ev g mX0_init 50 [some (va_rf (some a)), some (.int (nI nu)), some (.int (nI p)), some (.int (nI hn)), some (va_rf bf), some (va_rf (some tb)), some (.int (bI gn)), none, none, none, none] [va_rf (some wa)] h2 ∧ rw_ h2 wa wb wc wd w o ∧ sm (fun _ => False) h1 h2 ∧ hN h2 ≤ hN h1 + 2 ∧ hU h2 ≤ hU h1 + 4 ∧ wa ≠ a ∧ wb ≠ a ∧ wa < hN h2 ∧ wb < hN h2 := by
    cases bf with
    | none =>
      obtain ⟨b1, b2⟩ := hbf
      subst b1
      obtain ⟨h2, e2, r2, s2, n2, u2⟩ := r_init (g := g) (h := nO h1 6) (a := hN h1) (k := 0) (by simp only [u_hN_pI, u_hU_pI, u_hK_pI, u_hL_pI, u_hR_pI, u_hJ_pI, u_hA_pI, u_hB_pI, u_hS_pI, u_hN_pR, u_hU_pR, u_hK_pR, u_hL_pR, u_hI_pR, u_hJ_pR, u_hA_pR, u_hB_pR, u_hS_pR, u_hN_pJ, u_hU_pJ, u_hK_pJ, u_hL_pJ, u_hI_pJ, u_hR_pJ, u_hA_pJ, u_hB_pJ, u_hS_pJ, u_hN_pA, u_hU_pA, u_hK_pA, u_hL_pA, u_hI_pA, u_hR_pA, u_hJ_pA, u_hB_pA, u_hS_pA, u_hN_pB, u_hU_pB, u_hK_pB, u_hL_pB, u_hI_pB, u_hR_pB, u_hJ_pB, u_hA_pB, u_hS_pB, u_hL_nO, u_hA_nO, u_hB_nO, u_hS_nO, u_hI_nA, u_hR_nA, u_hJ_nA, u_hS_nA, u_II, u_RR, u_JJ, u_AA, u_BB, u_NO, u_UO, u_KO, u_IO, u_RO, u_JO, u_NN, u_UN, u_KN, u_LN, u_AN, u_BN, if_true]) (by omega) (by rw [u_NO]; omega)
      have sA : sm (fun x => x = hN h1) h1 h2 := (sm.O (P := fun x => x = hN h1) h1 6).tr s2
      rw [u_NO] at r2 n2
      rw [u_UO, show q_nf 6 = 4 from rfl] at u2
      refine ⟨h2, hN h1, hN h1 + 1, 0, 0, 0, ?_, r2, sA.mono (fun x hx z => by omega), by omega, by omega, by omega, by omega, by omega, by omega⟩
      simp (decide := true) (disch := omega) only [e_X0_init_26, e_X0_init_28, e_X0_init_31, e_X0_init_34, e_X0_init_35, e_X0_init_36, e_X0_init_39, e_X0_init_42, e_X0_init_44, e_X0_init_47, ↓reduceIte, if_true, if_false, reduceCtorEq, Nat.reduceAdd, true_and, and_true, false_and, and_false, true_or, or_true, false_or, or_false, not_true_eq_false, not_false_eq_true, Option.bind_eq_bind, Option.bind_some, psh, eq_self, l_0, l_1, l_2, l_3, l_4, l_5, l_6, l_7, l_8, l_9, l_10, l_11, l_12, l_13, l_14, l_15, l_16, l_17, l_18, l_19, l_20, l_24, l_31, l_32, l_33, l_35, l_36, l_48, l_56, l_57, l_58, l_63, l_65, l_80, l_81, l_90, l_91, l_93, l_94, l_95, l_97, l_100, l_105, l_107, l_110, l_111, l_116, l_120, l_121, l_122, l_123, l_124, l_125, l_126, l_162, l_255, l_300, l_400, l_420, l_432, l_1000, l_1400, l_1936, l_2000, l_2100, l_2400, l_24000, m_n1, m_n2, m_n3, nI_mul, nI_add, nI_sub, nI_ltT, nI_ltF, nI_leT, nI_leF, nI_eqT, nI_eqF, nI_nM, nM_nI, nM_eq, nM_lt, nM_le, nI_ltM, nI_leM, nI_inT, nI_dec, pk_rem, nI_ltI, nI_leI, nI_eq, nI_clamp, Nat.add_assoc, q_bv51, Nat.add_left_cancel_iff, e2]
    | some b =>
      obtain ⟨c, hcg, b1, b2⟩ := hbf
      have cg1 := hcg.keep s1 hQ1
      obtain ⟨⟨q1, k0, -⟩, ⟨tb', t1, ⟨⟨q2, k8⟩, ⟨wa, wb, w1, w2, w3, w4⟩, -⟩⟩, -⟩ := cg1
      rw [← b1] at w4
      refine ⟨h1, wa, wb, _, _, _, ?_, w4, sm.rf _, by omega, by omega, (hQ wa w2).2, (hQ wb w3).2, by have := (hQ wa w2).1; omega, by have := (hQ wb w3).1; omega⟩
      simp (decide := true) (disch := omega) only [e_X0_init_26, e_X0_init_28, e_X0_init_31, e_X0_init_34, e_X0_init_35, e_X0_init_36, e_X0_init_39, e_X0_init_42, e_X0_init_44, e_X0_init_47, ↓reduceIte, if_true, if_false, reduceCtorEq, Nat.reduceAdd, true_and, and_true, false_and, and_false, true_or, or_true, false_or, or_false, not_true_eq_false, not_false_eq_true, Option.bind_eq_bind, Option.bind_some, psh, eq_self, l_0, l_1, l_2, l_3, l_4, l_5, l_6, l_7, l_8, l_9, l_10, l_11, l_12, l_13, l_14, l_15, l_16, l_17, l_18, l_19, l_20, l_24, l_31, l_32, l_33, l_35, l_36, l_48, l_56, l_57, l_58, l_63, l_65, l_80, l_81, l_90, l_91, l_93, l_94, l_95, l_97, l_100, l_105, l_107, l_110, l_111, l_116, l_120, l_121, l_122, l_123, l_124, l_125, l_126, l_162, l_255, l_300, l_400, l_420, l_432, l_1000, l_1400, l_1936, l_2000, l_2100, l_2400, l_24000, m_n1, m_n2, m_n3, nI_mul, nI_add, nI_sub, nI_ltT, nI_ltF, nI_leT, nI_leF, nI_eqT, nI_eqF, nI_nM, nM_nI, nM_eq, nM_lt, nM_le, nI_ltM, nI_leM, nI_inT, nI_dec, pk_rem, nI_ltI, nI_leI, nI_eq, nI_clamp, Nat.add_assoc, q_bv51, Nat.add_left_cancel_iff, reduceCtorEq, k0, t1, k8, w1]
  obtain ⟨h2, wa, wb, wc, wd, wo, e2, r2, s2, n2, u2, na, nb, wa2, wb2⟩ := sW
  rw [e2]
  have ms2 : hN h1 ≤ hN h2 := s2.1
  have s02 : sm (fun x => x = a) h h2 := s1.tr (s2.mono (fun x _ z => z.elim))
  have tx2 := htx.keep s02 hQ1
  obtain ⟨⟨qt, kt⟩, ⟨ia, ib, t1, t2, t3, t4⟩, -⟩ := tx2
  obtain ⟨p1, p2, p3⟩ := s2.2.2 a (by omega)
  obtain ⟨p4, p5, -⟩ := p3 (fun z => z)
  have ka2 : hK h2 a = 0 := by rw [p1]; exact ka1
  have eB := c_alikeB (g := g) r2 t4 (by omega) (by omega)
  have cl1 := cpl_le w t
  have s3 : sm (fun x => x = a) h2 (pI h2 4 a (nI (cpl w t))) := sm.I1 _ _
  have r3 := r2.keep s3 wa2 wb2 na nb
  have iaN : ia < hN h2 := by have := (hQ ia t2).1; have := s02.1; omega
  have ibN : ib < hN h2 := by have := (hQ ib t3).1; have := s02.1; omega
  have t43 := t4.keep s3 iaN ibN (hQ ia t2).2 (hQ ib t3).2
  have eE := c_alikeE (g := g) (s0 := cpl w t) r3 t43 (by omega) (by omega) cl1.1 cl1.2
  have cl2 := csl_le w t (cpl w t)
  have kt2 : hK h2 tb = 8 := kt
  generalize hs : cpl w t = s at *
  generalize he : csl w t s = e at *
  -- start, replaced, came
  have s4 : sm (fun x => x = a) h2 (pI (pI (pI h2 4 a (nI s)) 5 a (nI (w.length - s - e))) 6 a (nI (t.length - s - e))) := ((sm.I1 _ _).tr (sm.I1 _ _)).tr (sm.I1 _ _)
  have g4 : hI (pI (pI (pI h2 4 a (nI s)) 5 a (nI (w.length - s - e))) 6 a (nI (t.length - s - e))) 4 a = nI s ∧ hI (pI (pI (pI h2 4 a (nI s)) 5 a (nI (w.length - s - e))) 6 a (nI (t.length - s - e))) 5 a = nI (w.length - s - e) ∧ hI (pI (pI (pI h2 4 a (nI s)) 5 a (nI (w.length - s - e))) 6 a (nI (t.length - s - e))) 6 a = nI (t.length - s - e) ∧ hI (pI (pI (pI h2 4 a (nI s)) 5 a (nI (w.length - s - e))) 6 a (nI (t.length - s - e))) 0 a = nI p ∧ hI (pI (pI (pI h2 4 a (nI s)) 5 a (nI (w.length - s - e))) 6 a (nI (t.length - s - e))) 1 a = nI hn ∧ hI (pI (pI (pI h2 4 a (nI s)) 5 a (nI (w.length - s - e))) 6 a (nI (t.length - s - e))) 2 a = bI gn ∧ hR (pI (pI (pI h2 4 a (nI s)) 5 a (nI (w.length - s - e))) 6 a (nI (t.length - s - e))) 3 a = some tb := by
    refine ⟨?_, ?_, ?_, ?_, ?_, ?_, ?_⟩
    · simp (decide := true) only [u_hN_pI, u_hU_pI, u_hK_pI, u_hL_pI, u_hR_pI, u_hJ_pI, u_hA_pI, u_hB_pI, u_hS_pI, u_hN_pR, u_hU_pR, u_hK_pR, u_hL_pR, u_hI_pR, u_hJ_pR, u_hA_pR, u_hB_pR, u_hS_pR, u_hN_pJ, u_hU_pJ, u_hK_pJ, u_hL_pJ, u_hI_pJ, u_hR_pJ, u_hA_pJ, u_hB_pJ, u_hS_pJ, u_hN_pA, u_hU_pA, u_hK_pA, u_hL_pA, u_hI_pA, u_hR_pA, u_hJ_pA, u_hB_pA, u_hS_pA, u_hN_pB, u_hU_pB, u_hK_pB, u_hL_pB, u_hI_pB, u_hR_pB, u_hJ_pB, u_hA_pB, u_hS_pB, u_hL_nO, u_hA_nO, u_hB_nO, u_hS_nO, u_hI_nA, u_hR_nA, u_hJ_nA, u_hS_nA, u_II, u_RR, u_JJ, u_AA, u_BB, u_NO, u_UO, u_KO, u_IO, u_RO, u_JO, u_NN, u_UN, u_KN, u_LN, u_AN, u_BN, if_true, if_false]
    · simp (decide := true) only [u_hN_pI, u_hU_pI, u_hK_pI, u_hL_pI, u_hR_pI, u_hJ_pI, u_hA_pI, u_hB_pI, u_hS_pI, u_hN_pR, u_hU_pR, u_hK_pR, u_hL_pR, u_hI_pR, u_hJ_pR, u_hA_pR, u_hB_pR, u_hS_pR, u_hN_pJ, u_hU_pJ, u_hK_pJ, u_hL_pJ, u_hI_pJ, u_hR_pJ, u_hA_pJ, u_hB_pJ, u_hS_pJ, u_hN_pA, u_hU_pA, u_hK_pA, u_hL_pA, u_hI_pA, u_hR_pA, u_hJ_pA, u_hB_pA, u_hS_pA, u_hN_pB, u_hU_pB, u_hK_pB, u_hL_pB, u_hI_pB, u_hR_pB, u_hJ_pB, u_hA_pB, u_hS_pB, u_hL_nO, u_hA_nO, u_hB_nO, u_hS_nO, u_hI_nA, u_hR_nA, u_hJ_nA, u_hS_nA, u_II, u_RR, u_JJ, u_AA, u_BB, u_NO, u_UO, u_KO, u_IO, u_RO, u_JO, u_NN, u_UN, u_KN, u_LN, u_AN, u_BN, if_true, if_false]
    · simp (decide := true) only [u_hN_pI, u_hU_pI, u_hK_pI, u_hL_pI, u_hR_pI, u_hJ_pI, u_hA_pI, u_hB_pI, u_hS_pI, u_hN_pR, u_hU_pR, u_hK_pR, u_hL_pR, u_hI_pR, u_hJ_pR, u_hA_pR, u_hB_pR, u_hS_pR, u_hN_pJ, u_hU_pJ, u_hK_pJ, u_hL_pJ, u_hI_pJ, u_hR_pJ, u_hA_pJ, u_hB_pJ, u_hS_pJ, u_hN_pA, u_hU_pA, u_hK_pA, u_hL_pA, u_hI_pA, u_hR_pA, u_hJ_pA, u_hB_pA, u_hS_pA, u_hN_pB, u_hU_pB, u_hK_pB, u_hL_pB, u_hI_pB, u_hR_pB, u_hJ_pB, u_hA_pB, u_hS_pB, u_hL_nO, u_hA_nO, u_hB_nO, u_hS_nO, u_hI_nA, u_hR_nA, u_hJ_nA, u_hS_nA, u_II, u_RR, u_JJ, u_AA, u_BB, u_NO, u_UO, u_KO, u_IO, u_RO, u_JO, u_NN, u_UN, u_KN, u_LN, u_AN, u_BN, if_true, if_false]
    · simp (decide := true) only [u_hN_pI, u_hU_pI, u_hK_pI, u_hL_pI, u_hR_pI, u_hJ_pI, u_hA_pI, u_hB_pI, u_hS_pI, u_hN_pR, u_hU_pR, u_hK_pR, u_hL_pR, u_hI_pR, u_hJ_pR, u_hA_pR, u_hB_pR, u_hS_pR, u_hN_pJ, u_hU_pJ, u_hK_pJ, u_hL_pJ, u_hI_pJ, u_hR_pJ, u_hA_pJ, u_hB_pJ, u_hS_pJ, u_hN_pA, u_hU_pA, u_hK_pA, u_hL_pA, u_hI_pA, u_hR_pA, u_hJ_pA, u_hB_pA, u_hS_pA, u_hN_pB, u_hU_pB, u_hK_pB, u_hL_pB, u_hI_pB, u_hR_pB, u_hJ_pB, u_hA_pB, u_hS_pB, u_hL_nO, u_hA_nO, u_hB_nO, u_hS_nO, u_hI_nA, u_hR_nA, u_hJ_nA, u_hS_nA, u_II, u_RR, u_JJ, u_AA, u_BB, u_NO, u_UO, u_KO, u_IO, u_RO, u_JO, u_NN, u_UN, u_KN, u_LN, u_AN, u_BN, if_true, if_false]; rw [p4]; exact g1.1
    · simp (decide := true) only [u_hN_pI, u_hU_pI, u_hK_pI, u_hL_pI, u_hR_pI, u_hJ_pI, u_hA_pI, u_hB_pI, u_hS_pI, u_hN_pR, u_hU_pR, u_hK_pR, u_hL_pR, u_hI_pR, u_hJ_pR, u_hA_pR, u_hB_pR, u_hS_pR, u_hN_pJ, u_hU_pJ, u_hK_pJ, u_hL_pJ, u_hI_pJ, u_hR_pJ, u_hA_pJ, u_hB_pJ, u_hS_pJ, u_hN_pA, u_hU_pA, u_hK_pA, u_hL_pA, u_hI_pA, u_hR_pA, u_hJ_pA, u_hB_pA, u_hS_pA, u_hN_pB, u_hU_pB, u_hK_pB, u_hL_pB, u_hI_pB, u_hR_pB, u_hJ_pB, u_hA_pB, u_hS_pB, u_hL_nO, u_hA_nO, u_hB_nO, u_hS_nO, u_hI_nA, u_hR_nA, u_hJ_nA, u_hS_nA, u_II, u_RR, u_JJ, u_AA, u_BB, u_NO, u_UO, u_KO, u_IO, u_RO, u_JO, u_NN, u_UN, u_KN, u_LN, u_AN, u_BN, if_true, if_false]; rw [p4]; exact g1.2.1
    · simp (decide := true) only [u_hN_pI, u_hU_pI, u_hK_pI, u_hL_pI, u_hR_pI, u_hJ_pI, u_hA_pI, u_hB_pI, u_hS_pI, u_hN_pR, u_hU_pR, u_hK_pR, u_hL_pR, u_hI_pR, u_hJ_pR, u_hA_pR, u_hB_pR, u_hS_pR, u_hN_pJ, u_hU_pJ, u_hK_pJ, u_hL_pJ, u_hI_pJ, u_hR_pJ, u_hA_pJ, u_hB_pJ, u_hS_pJ, u_hN_pA, u_hU_pA, u_hK_pA, u_hL_pA, u_hI_pA, u_hR_pA, u_hJ_pA, u_hB_pA, u_hS_pA, u_hN_pB, u_hU_pB, u_hK_pB, u_hL_pB, u_hI_pB, u_hR_pB, u_hJ_pB, u_hA_pB, u_hS_pB, u_hL_nO, u_hA_nO, u_hB_nO, u_hS_nO, u_hI_nA, u_hR_nA, u_hJ_nA, u_hS_nA, u_II, u_RR, u_JJ, u_AA, u_BB, u_NO, u_UO, u_KO, u_IO, u_RO, u_JO, u_NN, u_UN, u_KN, u_LN, u_AN, u_BN, if_true, if_false]; rw [p4]; exact g1.2.2.1
    · simp (decide := true) only [u_hN_pI, u_hU_pI, u_hK_pI, u_hL_pI, u_hR_pI, u_hJ_pI, u_hA_pI, u_hB_pI, u_hS_pI, u_hN_pR, u_hU_pR, u_hK_pR, u_hL_pR, u_hI_pR, u_hJ_pR, u_hA_pR, u_hB_pR, u_hS_pR, u_hN_pJ, u_hU_pJ, u_hK_pJ, u_hL_pJ, u_hI_pJ, u_hR_pJ, u_hA_pJ, u_hB_pJ, u_hS_pJ, u_hN_pA, u_hU_pA, u_hK_pA, u_hL_pA, u_hI_pA, u_hR_pA, u_hJ_pA, u_hB_pA, u_hS_pA, u_hN_pB, u_hU_pB, u_hK_pB, u_hL_pB, u_hI_pB, u_hR_pB, u_hJ_pB, u_hA_pB, u_hS_pB, u_hL_nO, u_hA_nO, u_hB_nO, u_hS_nO, u_hI_nA, u_hR_nA, u_hJ_nA, u_hS_nA, u_II, u_RR, u_JJ, u_AA, u_BB, u_NO, u_UO, u_KO, u_IO, u_RO, u_JO, u_NN, u_UN, u_KN, u_LN, u_AN, u_BN, if_true, if_false]; rw [p5]; exact g1.2.2.2
  have el3 := r_len (g := g) r3
  have k63 := r3.1.1
  have s35 : sm (fun x => x = a) (pI h2 4 a (nI s)) (pI (pI h2 4 a (nI s)) 5 a (nI (w.length - s - e))) := sm.I1 _ _
  have t45 := t43.keep s35 iaN ibN (hQ ia t2).2 (hQ ib t3).2
  have el5 := r_len (g := g) t45
  have k65 := t45.1.1
  have k62 := r2.1.1
  have k6t := t4.1.1
  have hd2 : ev g mX0_init 50 [some (va_rf (some a)), some (.int (nI nu)), some (.int (nI p)), some (.int (nI hn)), some (va_rf bf), some (va_rf (some tb)), some (.int (bI gn)), none, none, none, none] [va_rf (some wa)] h2 = ev g mX0_init 117 [some (va_rf (some a)), some (.int (nI nu)), some (.int (nI p)), some (.int (nI hn)), some (va_rf bf), some (va_rf (some tb)), some (.int (bI gn)), some (va_rf (some wa)), some (va_rf (some ia)), some (.int (nI e)), none] [] (pI (pI (pI h2 4 a (nI s)) 5 a (nI (w.length - s - e))) 6 a (nI (t.length - s - e))) := by
    simp (decide := true) (disch := omega) only [e_X0_init_50, e_X0_init_52, e_X0_init_54, e_X0_init_57, e_X0_init_59, e_X0_init_60, e_X0_init_62, e_X0_init_64, e_X0_init_67, e_X0_init_70, e_X0_init_72, e_X0_init_74, e_X0_init_75, e_X0_init_78, e_X0_init_81, e_X0_init_83, e_X0_init_84, e_X0_init_86, e_X0_init_89, e_X0_init_90, e_X0_init_93, e_X0_init_94, e_X0_init_96, e_X0_init_97, e_X0_init_100, e_X0_init_101, e_X0_init_103, e_X0_init_106, e_X0_init_107, e_X0_init_110, e_X0_init_111, e_X0_init_113, e_X0_init_114, ↓reduceIte, if_true, if_false, reduceCtorEq, Nat.reduceAdd, true_and, and_true, false_and, and_false, true_or, or_true, false_or, or_false, not_true_eq_false, not_false_eq_true, Option.bind_eq_bind, Option.bind_some, psh, eq_self, l_0, l_1, l_2, l_3, l_4, l_5, l_6, l_7, l_8, l_9, l_10, l_11, l_12, l_13, l_14, l_15, l_16, l_17, l_18, l_19, l_20, l_24, l_31, l_32, l_33, l_35, l_36, l_48, l_56, l_57, l_58, l_63, l_65, l_80, l_81, l_90, l_91, l_93, l_94, l_95, l_97, l_100, l_105, l_107, l_110, l_111, l_116, l_120, l_121, l_122, l_123, l_124, l_125, l_126, l_162, l_255, l_300, l_400, l_420, l_432, l_1000, l_1400, l_1936, l_2000, l_2100, l_2400, l_24000, m_n1, m_n2, m_n3, nI_mul, nI_add, nI_sub, nI_ltT, nI_ltF, nI_leT, nI_leF, nI_eqT, nI_eqF, nI_nM, nM_nI, nM_eq, nM_lt, nM_le, nI_ltM, nI_leM, nI_inT, nI_dec, pk_rem, nI_ltI, nI_leI, nI_eq, nI_clamp, Nat.add_assoc, q_bv51, Nat.add_left_cancel_iff, kt2, t1, eB, ka2, u_hN_pI, u_hU_pI, u_hK_pI, u_hL_pI, u_hR_pI, u_hJ_pI, u_hA_pI, u_hB_pI, u_hS_pI, u_hN_pR, u_hU_pR, u_hK_pR, u_hL_pR, u_hI_pR, u_hJ_pR, u_hA_pR, u_hB_pR, u_hS_pR, u_hN_pJ, u_hU_pJ, u_hK_pJ, u_hL_pJ, u_hI_pJ, u_hR_pJ, u_hA_pJ, u_hB_pJ, u_hS_pJ, u_hN_pA, u_hU_pA, u_hK_pA, u_hL_pA, u_hI_pA, u_hR_pA, u_hJ_pA, u_hB_pA, u_hS_pA, u_hN_pB, u_hU_pB, u_hK_pB, u_hL_pB, u_hI_pB, u_hR_pB, u_hJ_pB, u_hA_pB, u_hS_pB, u_hL_nO, u_hA_nO, u_hB_nO, u_hS_nO, u_hI_nA, u_hR_nA, u_hJ_nA, u_hS_nA, u_II, u_RR, u_JJ, u_AA, u_BB, u_NO, u_UO, u_KO, u_IO, u_RO, u_JO, u_NN, u_UN, u_KN, u_LN, u_AN, u_BN, eE, k62, k6t, el3, el5]
  rw [hd2]
  have n4 : hN (pI (pI (pI h2 4 a (nI s)) 5 a (nI (w.length - s - e))) 6 a (nI (t.length - s - e))) = hN h2 := rfl
  have u4 : hU (pI (pI (pI h2 4 a (nI s)) 5 a (nI (w.length - s - e))) 6 a (nI (t.length - s - e))) = hU h2 := rfl
  generalize pI (pI (pI h2 4 a (nI s)) 5 a (nI (w.length - s - e))) 6 a (nI (t.length - s - e)) = h4 at *
  have ka4 : hK h4 a = 0 := by rw [(s4.2.2 a (by omega)).1]; exact ka2
  have r4 := r2.keep s4 wa2 wb2 na nb
  have t44 := t4.keep s4 iaN ibN (hQ ia t2).2 (hQ ib t3).2
  -- the blames
  have t4O := t44.keep (sm.O (P := fun _ => False) h4 6) (by omega) (by omega) (fun z => z) (fun z => z)
  have elO := r_len (g := g) t4O
  have k6O := t4O.1.1
  obtain ⟨h5, e5, r5, s5, n5, u5⟩ := r_init (g := g) (h := nO h4 6) (a := hN h4) (k := t.length) (by simp only [u_hN_pI, u_hU_pI, u_hK_pI, u_hL_pI, u_hR_pI, u_hJ_pI, u_hA_pI, u_hB_pI, u_hS_pI, u_hN_pR, u_hU_pR, u_hK_pR, u_hL_pR, u_hI_pR, u_hJ_pR, u_hA_pR, u_hB_pR, u_hS_pR, u_hN_pJ, u_hU_pJ, u_hK_pJ, u_hL_pJ, u_hI_pJ, u_hR_pJ, u_hA_pJ, u_hB_pJ, u_hS_pJ, u_hN_pA, u_hU_pA, u_hK_pA, u_hL_pA, u_hI_pA, u_hR_pA, u_hJ_pA, u_hB_pA, u_hS_pA, u_hN_pB, u_hU_pB, u_hK_pB, u_hL_pB, u_hI_pB, u_hR_pB, u_hJ_pB, u_hA_pB, u_hS_pB, u_hL_nO, u_hA_nO, u_hB_nO, u_hS_nO, u_hI_nA, u_hR_nA, u_hJ_nA, u_hS_nA, u_II, u_RR, u_JJ, u_AA, u_BB, u_NO, u_UO, u_KO, u_IO, u_RO, u_JO, u_NN, u_UN, u_KN, u_LN, u_AN, u_BN, if_true]) (by omega) (by rw [u_NO]; omega)
  have sA5 : sm (fun x => x = hN h4) h4 h5 := (sm.O (P := fun x => x = hN h4) h4 6).tr s5
  rw [u_NO] at r5 n5
  rw [u_UO, show q_nf 6 = 4 from rfl] at u5
  have ka5 : hK h5 a = 0 := by rw [(sA5.2.2 a (by omega)).1]; exact ka4
  have s6 : sm (fun x => x = a) h5 (pR h5 7 a (some (hN h4))) := sm.R1 _ _
  have hd3 : ev g mX0_init 117 [some (va_rf (some a)), some (.int (nI nu)), some (.int (nI p)), some (.int (nI hn)), some (va_rf bf), some (va_rf (some tb)), some (.int (bI gn)), some (va_rf (some wa)), some (va_rf (some ia)), some (.int (nI e)), none] [] h4 = ev g mX0_init 133 [some (va_rf (some a)), some (.int (nI nu)), some (.int (nI p)), some (.int (nI hn)), some (va_rf bf), some (va_rf (some tb)), some (.int (bI gn)), some (va_rf (some wa)), some (va_rf (some ia)), some (.int (nI e)), none] [] (pR h5 7 a (some (hN h4))) := by
    simp (decide := true) (disch := omega) only [e_X0_init_117, e_X0_init_118, e_X0_init_121, e_X0_init_122, e_X0_init_124, e_X0_init_127, e_X0_init_130, ↓reduceIte, if_true, if_false, reduceCtorEq, Nat.reduceAdd, true_and, and_true, false_and, and_false, true_or, or_true, false_or, or_false, not_true_eq_false, not_false_eq_true, Option.bind_eq_bind, Option.bind_some, psh, eq_self, l_0, l_1, l_2, l_3, l_4, l_5, l_6, l_7, l_8, l_9, l_10, l_11, l_12, l_13, l_14, l_15, l_16, l_17, l_18, l_19, l_20, l_24, l_31, l_32, l_33, l_35, l_36, l_48, l_56, l_57, l_58, l_63, l_65, l_80, l_81, l_90, l_91, l_93, l_94, l_95, l_97, l_100, l_105, l_107, l_110, l_111, l_116, l_120, l_121, l_122, l_123, l_124, l_125, l_126, l_162, l_255, l_300, l_400, l_420, l_432, l_1000, l_1400, l_1936, l_2000, l_2100, l_2400, l_24000, m_n1, m_n2, m_n3, nI_mul, nI_add, nI_sub, nI_ltT, nI_ltF, nI_leT, nI_leF, nI_eqT, nI_eqF, nI_nM, nM_nI, nM_eq, nM_lt, nM_le, nI_ltM, nI_leM, nI_inT, nI_dec, pk_rem, nI_ltI, nI_leI, nI_eq, nI_clamp, Nat.add_assoc, q_bv51, Nat.add_left_cancel_iff, k6O, elO, e5, ka5]
  rw [hd3]
  have r6 := r5.keep s6 (by omega) (by omega) (by omega) (by omega)
  have g6 : hR (pR h5 7 a (some (hN h4))) 7 a = some (hN h4) := by simp (decide := true) only [u_hN_pI, u_hU_pI, u_hK_pI, u_hL_pI, u_hR_pI, u_hJ_pI, u_hA_pI, u_hB_pI, u_hS_pI, u_hN_pR, u_hU_pR, u_hK_pR, u_hL_pR, u_hI_pR, u_hJ_pR, u_hA_pR, u_hB_pR, u_hS_pR, u_hN_pJ, u_hU_pJ, u_hK_pJ, u_hL_pJ, u_hI_pJ, u_hR_pJ, u_hA_pJ, u_hB_pJ, u_hS_pJ, u_hN_pA, u_hU_pA, u_hK_pA, u_hL_pA, u_hI_pA, u_hR_pA, u_hJ_pA, u_hB_pA, u_hS_pA, u_hN_pB, u_hU_pB, u_hK_pB, u_hL_pB, u_hI_pB, u_hR_pB, u_hJ_pB, u_hA_pB, u_hS_pB, u_hL_nO, u_hA_nO, u_hB_nO, u_hS_nO, u_hI_nA, u_hR_nA, u_hJ_nA, u_hS_nA, u_II, u_RR, u_JJ, u_AA, u_BB, u_NO, u_UO, u_KO, u_IO, u_RO, u_JO, u_NN, u_UN, u_KN, u_LN, u_AN, u_BN, if_true, if_false]
  have n6 : hN (pR h5 7 a (some (hN h4))) = hN h5 := rfl
  have u6 : hU (pR h5 7 a (some (hN h4))) = hU h5 := rfl
  have s46 : sm (fun x => x = a) h4 (pR h5 7 a (some (hN h4))) := (sA5.mono (fun x hx z => by omega)).tr s6
  have ka6 : hK (pR h5 7 a (some (hN h4))) a = 0 := ka5
  have f6 : ∀ k, hI (pR h5 7 a (some (hN h4))) k a = hI h4 k a := fun k => by
    have := ((sA5.2.2 a (by omega)).2.2 (by omega)).1 k
    simp only [u_hN_pI, u_hU_pI, u_hK_pI, u_hL_pI, u_hR_pI, u_hJ_pI, u_hA_pI, u_hB_pI, u_hS_pI, u_hN_pR, u_hU_pR, u_hK_pR, u_hL_pR, u_hI_pR, u_hJ_pR, u_hA_pR, u_hB_pR, u_hS_pR, u_hN_pJ, u_hU_pJ, u_hK_pJ, u_hL_pJ, u_hI_pJ, u_hR_pJ, u_hA_pJ, u_hB_pJ, u_hS_pJ, u_hN_pA, u_hU_pA, u_hK_pA, u_hL_pA, u_hI_pA, u_hR_pA, u_hJ_pA, u_hB_pA, u_hS_pA, u_hN_pB, u_hU_pB, u_hK_pB, u_hL_pB, u_hI_pB, u_hR_pB, u_hJ_pB, u_hA_pB, u_hS_pB, u_hL_nO, u_hA_nO, u_hB_nO, u_hS_nO, u_hI_nA, u_hR_nA, u_hJ_nA, u_hS_nA, u_II, u_RR, u_JJ, u_AA, u_BB, u_NO, u_UO, u_KO, u_IO, u_RO, u_JO, u_NN, u_UN, u_KN, u_LN, u_AN, u_BN]
    exact this
  have f6R : hR (pR h5 7 a (some (hN h4))) 3 a = hR h4 3 a := by
    have := ((sA5.2.2 a (by omega)).2.2 (by omega)).2.1 3
    simp (decide := true) only [u_hN_pI, u_hU_pI, u_hK_pI, u_hL_pI, u_hR_pI, u_hJ_pI, u_hA_pI, u_hB_pI, u_hS_pI, u_hN_pR, u_hU_pR, u_hK_pR, u_hL_pR, u_hI_pR, u_hJ_pR, u_hA_pR, u_hB_pR, u_hS_pR, u_hN_pJ, u_hU_pJ, u_hK_pJ, u_hL_pJ, u_hI_pJ, u_hR_pJ, u_hA_pJ, u_hB_pJ, u_hS_pJ, u_hN_pA, u_hU_pA, u_hK_pA, u_hL_pA, u_hI_pA, u_hR_pA, u_hJ_pA, u_hB_pA, u_hS_pA, u_hN_pB, u_hU_pB, u_hK_pB, u_hL_pB, u_hI_pB, u_hR_pB, u_hJ_pB, u_hA_pB, u_hS_pB, u_hL_nO, u_hA_nO, u_hB_nO, u_hS_nO, u_hI_nA, u_hR_nA, u_hJ_nA, u_hS_nA, u_II, u_RR, u_JJ, u_AA, u_BB, u_NO, u_UO, u_KO, u_IO, u_RO, u_JO, u_NN, u_UN, u_KN, u_LN, u_AN, u_BN, if_true, if_false]
    exact this
  generalize pR h5 7 a (some (hN h4)) = h6 at *
  have s06 : sm (fun x => x = a) h h6 := (s02.tr s4).tr s46
  -- of the old ones, at the beginning
  have sP : ∃ h7, ev g mX0_init 133 [some (va_rf (some a)), some (.int (nI nu)), some (.int (nI p)), some (.int (nI hn)), some (va_rf bf), some (va_rf (some tb)), some (.int (bI gn)), some (va_rf (some wa)), some (va_rf (some ia)), some (.int (nI e)), none] [] h6 = ev g mX0_init 155 [some (va_rf (some a)), some (.int (nI nu)), some (.int (nI p)), some (.int (nI hn)), some (va_rf bf), some (va_rf (some tb)), some (.int (bI gn)), some (va_rf (some wa)), some (va_rf (some ia)), some (.int (nI e)), none] [] h7 ∧ rw_ h7 (hN h4) (hN h4 + 1) t.length t.length (ob.take s) 0 ∧ sm (rP (hN h4) (hN h4 + 1)) h6 h7 ∧ hN h7 = hN h6 ∧ hU h7 = hU h6 := by
    cases bf with
    | none =>
      obtain ⟨b1, b2⟩ := hbf
      subst b2
      refine ⟨h6, ?_, by simpa using r6, sm.rf _, rfl, rfl⟩
      simp (decide := true) (disch := omega) only [e_X0_init_133, e_X0_init_135, e_X0_init_138, e_X0_init_139, e_X0_init_142, e_X0_init_144, e_X0_init_147, e_X0_init_148, e_X0_init_149, e_X0_init_152, ↓reduceIte, if_true, if_false, reduceCtorEq, Nat.reduceAdd, true_and, and_true, false_and, and_false, true_or, or_true, false_or, or_false, not_true_eq_false, not_false_eq_true, Option.bind_eq_bind, Option.bind_some, psh, eq_self, l_0, l_1, l_2, l_3, l_4, l_5, l_6, l_7, l_8, l_9, l_10, l_11, l_12, l_13, l_14, l_15, l_16, l_17, l_18, l_19, l_20, l_24, l_31, l_32, l_33, l_35, l_36, l_48, l_56, l_57, l_58, l_63, l_65, l_80, l_81, l_90, l_91, l_93, l_94, l_95, l_97, l_100, l_105, l_107, l_110, l_111, l_116, l_120, l_121, l_122, l_123, l_124, l_125, l_126, l_162, l_255, l_300, l_400, l_420, l_432, l_1000, l_1400, l_1936, l_2000, l_2100, l_2400, l_24000, m_n1, m_n2, m_n3, nI_mul, nI_add, nI_sub, nI_ltT, nI_ltF, nI_leT, nI_leF, nI_eqT, nI_eqF, nI_nM, nM_nI, nM_eq, nM_lt, nM_le, nI_ltM, nI_leM, nI_inT, nI_dec, pk_rem, nI_ltI, nI_leI, nI_eq, nI_clamp, Nat.add_assoc, q_bv51, Nat.add_left_cancel_iff]
    | some b =>
      obtain ⟨c, hcg, b1, b2⟩ := hbf
      have cg6 := hcg.keep s06 hQ1
      obtain ⟨⟨q1, k0, -⟩, -, ⟨oa, ob', w1, w2, w3, w4⟩⟩ := cg6
      rw [← b2] at w4
      have i4 : hI h6 4 a = nI s := by rw [f6]; exact g4.1
      obtain ⟨h7, e7, r7, s7, n7, u7⟩ := r_putAll (g := g) (i := 0) (j := s) r6 w4 (by omega) (by omega)
      have pt := pll_take (l := ob) (n := t.length) (s := s) (by omega) (by omega)
      rw [pt.1, pt.2] at r7
      have k6h := r6.1.1
      refine ⟨h7, ?_, r7, s7, n7, u7⟩
      simp (decide := true) (disch := omega) only [e_X0_init_133, e_X0_init_135, e_X0_init_138, e_X0_init_139, e_X0_init_142, e_X0_init_144, e_X0_init_147, e_X0_init_148, e_X0_init_149, e_X0_init_152, ↓reduceIte, if_true, if_false, reduceCtorEq, Nat.reduceAdd, true_and, and_true, false_and, and_false, true_or, or_true, false_or, or_false, not_true_eq_false, not_false_eq_true, Option.bind_eq_bind, Option.bind_some, psh, eq_self, l_0, l_1, l_2, l_3, l_4, l_5, l_6, l_7, l_8, l_9, l_10, l_11, l_12, l_13, l_14, l_15, l_16, l_17, l_18, l_19, l_20, l_24, l_31, l_32, l_33, l_35, l_36, l_48, l_56, l_57, l_58, l_63, l_65, l_80, l_81, l_90, l_91, l_93, l_94, l_95, l_97, l_100, l_105, l_107, l_110, l_111, l_116, l_120, l_121, l_122, l_123, l_124, l_125, l_126, l_162, l_255, l_300, l_400, l_420, l_432, l_1000, l_1400, l_1936, l_2000, l_2100, l_2400, l_24000, m_n1, m_n2, m_n3, nI_mul, nI_add, nI_sub, nI_ltT, nI_ltF, nI_leT, nI_leF, nI_eqT, nI_eqF, nI_nM, nM_nI, nM_eq, nM_lt, nM_le, nI_ltM, nI_leM, nI_inT, nI_dec, pk_rem, nI_ltI, nI_leI, nI_eq, nI_clamp, Nat.add_assoc, q_bv51, Nat.add_left_cancel_iff, reduceCtorEq, ka6, g6, k0, w1, i4, k6h, e7]
  obtain ⟨h7, e7, r7, s7, n7, u7⟩ := sP
  rw [e7]
  obtain ⟨v1, v2, v3⟩ := s7.2.2 a (by omega)
  obtain ⟨v4, v5, -⟩ := v3 (by unfold rP; omega)
  have hd4 : ev g mX0_init 155 [some (va_rf (some a)), some (.int (nI nu)), some (.int (nI p)), some (.int (nI hn)), some (va_rf bf), some (va_rf (some tb)), some (.int (bI gn)), some (va_rf (some wa)), some (va_rf (some ia)), some (.int (nI e)), none] [] h7 = ev g mX0_init 158 [some (va_rf (some a)), some (.int (nI nu)), some (.int (nI p)), some (.int (nI hn)), some (va_rf bf), some (va_rf (some tb)), some (.int (bI gn)), some (va_rf (some wa)), some (va_rf (some ia)), some (.int (nI e)), some (.int (nI 0))] [] h7 := by
    simp (decide := true) (disch := omega) only [e_X0_init_155, e_X0_init_156, ↓reduceIte, if_true, if_false, reduceCtorEq, Nat.reduceAdd, true_and, and_true, false_and, and_false, true_or, or_true, false_or, or_false, not_true_eq_false, not_false_eq_true, Option.bind_eq_bind, Option.bind_some, psh, eq_self, l_0, l_1, l_2, l_3, l_4, l_5, l_6, l_7, l_8, l_9, l_10, l_11, l_12, l_13, l_14, l_15, l_16, l_17, l_18, l_19, l_20, l_24, l_31, l_32, l_33, l_35, l_36, l_48, l_56, l_57, l_58, l_63, l_65, l_80, l_81, l_90, l_91, l_93, l_94, l_95, l_97, l_100, l_105, l_107, l_110, l_111, l_116, l_120, l_121, l_122, l_123, l_124, l_125, l_126, l_162, l_255, l_300, l_400, l_420, l_432, l_1000, l_1400, l_1936, l_2000, l_2100, l_2400, l_24000, m_n1, m_n2, m_n3, nI_mul, nI_add, nI_sub, nI_ltT, nI_ltF, nI_leT, nI_leF, nI_eqT, nI_eqF, nI_nM, nM_nI, nM_eq, nM_lt, nM_le, nI_ltM, nI_leM, nI_inT, nI_dec, pk_rem, nI_ltI, nI_leI, nI_eq, nI_clamp, Nat.add_assoc, q_bv51, Nat.add_left_cancel_iff]
  obtain ⟨h8, e8, s8, n8, u8, r8⟩ := c_chi_loop (g := g) (a := a) (nu := nu) (m := t.length - s - e) (l2 := some (.int (nI p))) (l3 := some (.int (nI hn))) (l4 := some (va_rf bf)) (l5 := some (va_rf (some tb))) (l6 := some (.int (bI gn))) (l7 := some (va_rf (some wa))) (l8 := some (va_rf (some ia))) (l9 := some (.int (nI e))) hnu (by omega) (t.length - s - e) 0 h7 _ (by omega) (by rw [v1]; exact ka6) (by rw [v4, f6]; exact g4.2.2.1) (by rw [v5]; exact g6) r7 (by omega) (by omega) (by omega) (by simp; omega)
  rw [hd4, e8]
  have s68 := s7.tr s8
  have s48 : sm (fun x => x = a ∨ hN h4 ≤ x) h4 h8 := (s46.mono (fun x _ z => Or.inl z)).tr (s68.mono (fun x _ z => by unfold rP at z; exact Or.inr (by omega)))
  have s08 : sm (fun x => x = a ∨ hN h4 ≤ x) h h8 := (s02.mono (fun x _ z => Or.inl z)).tr ((s4.mono (fun x _ z => Or.inl z)).tr s48)
  have s08' : sm (fun x => x = a) h h8 := s08.mono (fun x hx z => by rcases z with z | z; exact z; have := s02.1; have := s4.1; omega)
  have r48 := r4.keep s48 (by omega) (by omega) (by omega) (by omega)
  obtain ⟨x1, x2, x3⟩ := s68.2.2 a (by omega)
  obtain ⟨x4, x5, -⟩ := x3 (by unfold rP; omega)
  have ka8 : hK h8 a = 0 := by rw [x1]; exact ka6
  have g78 : hR h8 7 a = some (hN h4) := by rw [x5]; exact g6
  -- and at the end
  have sE : ∃ h9, ev g mX0_init 181 [some (va_rf (some a)), some (.int (nI nu)), some (.int (nI p)), some (.int (nI hn)), some (va_rf bf), some (va_rf (some tb)), some (.int (bI gn)), some (va_rf (some wa)), some (va_rf (some ia)), some (.int (nI e)), some (.int (nI (t.length - s - e)))] [] h8 = some (none, h9) ∧ rw_ h9 (hN h4) (hN h4 + 1) t.length t.length (blm ob s (t.length - s - e) e nu) 0 ∧ sm (rP (hN h4) (hN h4 + 1)) h8 h9 ∧ hN h9 = hN h8 ∧ hU h9 = hU h8 := by
    cases bf with
    | none =>
      obtain ⟨b1, b2⟩ := hbf
      subst b2
      refine ⟨h8, ?_, by simpa [blm] using r8, sm.rf _, rfl, rfl⟩
      simp (decide := true) (disch := omega) only [e_X0_init_181, e_X0_init_183, e_X0_init_186, e_X0_init_187, e_X0_init_190, e_X0_init_192, e_X0_init_195, e_X0_init_197, e_X0_init_200, e_X0_init_202, e_X0_init_203, e_X0_init_205, e_X0_init_208, e_X0_init_211, ↓reduceIte, if_true, if_false, reduceCtorEq, Nat.reduceAdd, true_and, and_true, false_and, and_false, true_or, or_true, false_or, or_false, not_true_eq_false, not_false_eq_true, Option.bind_eq_bind, Option.bind_some, psh, eq_self, l_0, l_1, l_2, l_3, l_4, l_5, l_6, l_7, l_8, l_9, l_10, l_11, l_12, l_13, l_14, l_15, l_16, l_17, l_18, l_19, l_20, l_24, l_31, l_32, l_33, l_35, l_36, l_48, l_56, l_57, l_58, l_63, l_65, l_80, l_81, l_90, l_91, l_93, l_94, l_95, l_97, l_100, l_105, l_107, l_110, l_111, l_116, l_120, l_121, l_122, l_123, l_124, l_125, l_126, l_162, l_255, l_300, l_400, l_420, l_432, l_1000, l_1400, l_1936, l_2000, l_2100, l_2400, l_24000, m_n1, m_n2, m_n3, nI_mul, nI_add, nI_sub, nI_ltT, nI_ltF, nI_leT, nI_leF, nI_eqT, nI_eqF, nI_nM, nM_nI, nM_eq, nM_lt, nM_le, nI_ltM, nI_leM, nI_inT, nI_dec, pk_rem, nI_ltI, nI_leI, nI_eq, nI_clamp, Nat.add_assoc, q_bv51, Nat.add_left_cancel_iff]
    | some b =>
      obtain ⟨c, hcg, b1, b2⟩ := hbf
      have cg8 := hcg.keep s08' hQ1
      obtain ⟨⟨q1, k0, -⟩, -, ⟨oa, ob', w1, w2, w3, w4⟩⟩ := cg8
      rw [← b2] at w4
      have el8 := r_len (g := g) r48
      have k68 := r48.1.1
      obtain ⟨h9, e9, r9, s9, n9, u9⟩ := r_putAll (g := g) (i := ob.length - e) (j := ob.length) r8 w4 (by omega) (by omega)
      have pd := pll_drop (x := ob.take s ++ List.replicate (t.length - s - e) nu) (l := ob) (n := t.length) (e := e) (by omega) (by simp; omega)
      rw [pd.1, pd.2] at r9
      have k6h := r8.1.1
      rw [hob] at e9
      refine ⟨h9, ?_, ?_, s9, n9, u9⟩
      · simp (decide := true) (disch := omega) only [e_X0_init_181, e_X0_init_183, e_X0_init_186, e_X0_init_187, e_X0_init_190, e_X0_init_192, e_X0_init_195, e_X0_init_197, e_X0_init_200, e_X0_init_202, e_X0_init_203, e_X0_init_205, e_X0_init_208, e_X0_init_211, ↓reduceIte, if_true, if_false, reduceCtorEq, Nat.reduceAdd, true_and, and_true, false_and, and_false, true_or, or_true, false_or, or_false, not_true_eq_false, not_false_eq_true, Option.bind_eq_bind, Option.bind_some, psh, eq_self, l_0, l_1, l_2, l_3, l_4, l_5, l_6, l_7, l_8, l_9, l_10, l_11, l_12, l_13, l_14, l_15, l_16, l_17, l_18, l_19, l_20, l_24, l_31, l_32, l_33, l_35, l_36, l_48, l_56, l_57, l_58, l_63, l_65, l_80, l_81, l_90, l_91, l_93, l_94, l_95, l_97, l_100, l_105, l_107, l_110, l_111, l_116, l_120, l_121, l_122, l_123, l_124, l_125, l_126, l_162, l_255, l_300, l_400, l_420, l_432, l_1000, l_1400, l_1936, l_2000, l_2100, l_2400, l_24000, m_n1, m_n2, m_n3, nI_mul, nI_add, nI_sub, nI_ltT, nI_ltF, nI_leT, nI_leF, nI_eqT, nI_eqF, nI_nM, nM_nI, nM_eq, nM_lt, nM_le, nI_ltM, nI_leM, nI_inT, nI_dec, pk_rem, nI_ltI, nI_leI, nI_eq, nI_clamp, Nat.add_assoc, q_bv51, Nat.add_left_cancel_iff, reduceCtorEq, ka8, g78, k0, w1, k68, el8, k6h, e9]
      · rw [List.append_assoc] at r9
        exact r9
  obtain ⟨h9, e9, r9, s9, n9, u9⟩ := sE
  rw [e9]
  have s09 : sm (fun x => x = a) h h9 := (s08.tr (s9.mono (Q := fun x => x = a ∨ hN h4 ≤ x) (fun x _ z => by unfold rP at z; exact Or.inr (by omega)))).mono (fun x hx z => by rcases z with z | z; exact z; omega)
  -- (cells below h8 but new ones)
  obtain ⟨y1, y2, y3⟩ := s9.2.2 a (by omega)
  obtain ⟨y4, y5, -⟩ := y3 (by unfold rP; omega)
  have fin : ∀ k, hI h9 k a = hI h4 k a := fun k => by rw [y4, x4, f6]
  have finR : hR h9 3 a = some tb := by rw [y5, x5, f6R]; exact g4.2.2.2.2.2.2
  have eN : hN h9 ≤ hN h + 4 := by omega
  refine ⟨h9, rfl, s09, eN, by omega, ?_⟩
  have hQ9 : ∀ x, Q x → x < hN h ∧ ¬ x = a ∧ (Q x ∨ x = a ∨ hN h ≤ x ∧ x < hN h9) := fun x hx => ⟨(hQ x hx).1, (hQ x hx).2, Or.inl hx⟩
  have hs02 := s02.1
  unfold mkc
  rw [hs, he]
  refine ⟨⟨Or.inr (Or.inl rfl), by rw [y1]; exact ka8, ?_, ?_, ?_, ?_, ?_, ?_⟩, ⟨tb, finR, htx.keep s09 hQ9⟩, ?_⟩
  · rw [fin]; exact g4.2.2.2.1
  · rw [fin]; exact g4.2.2.2.2.1
  · rw [fin]; exact g4.2.2.2.2.2.1
  · rw [fin]; exact g4.1
  · rw [fin]; exact g4.2.1
  · rw [fin]; exact g4.2.2.1
  · have lb : (blm ob s (t.length - s - e) e nu).length = t.length := by rw [blm_len (by omega) (by omega)]; omega
    refine ⟨hN h4, hN h4 + 1, by rw [y5, x5]; exact g6, Or.inr (Or.inr ⟨by omega, by omega⟩), Or.inr (Or.inr ⟨by omega, by omega⟩), ?_⟩
    show rw_ h9 _ _ (blm ob s (t.length - s - e) e nu).length (blm ob s (t.length - s - e) e nu).length (blm ob s (t.length - s - e) e nu) 0
    rw [lb]
    exact r9
