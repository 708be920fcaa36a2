/-! exact heaps of simple loops -/
theorem nI_dec {a : Nat} (h : 1 ≤ a) : nI a + nM 1 = nI (a - 1) := by
  obtain ⟨b, rfl⟩ := Nat.exists_eq_add_of_le h
  rw [show nM 1 = (-1 : Int32) from by decide, Nat.add_comm, pk_m1]
  rfl
theorem c_AA (h : PH) (x : Nat) (f f' : Nat → Int32) : pA (pA h x f) x f' = pA h x f' := by
  show (_, _, _, _, _, _, _, _, _, _) = (_, _, _, _, _, _, _, _, _, _)
  have : va_up (hA (pA h x f)) x f' = va_up (hA h) x f' := by
    funext y
    show va_up (va_up (hA h) x f) x f' y = _
    unfold va_up
    split <;> rfl
  rw [this]
  rfl
theorem c_A0 (h : PH) (x : Nat) : pA h x (hA h x) = h := by
  have : va_up (hA h) x (hA h x) = hA h := by
    funext y
    unfold va_up
    split
    · rename_i z; rw [z]
    · rfl
  show (_, _, _, _, _, _, _, _, _, _) = _
  rw [this]
  rfl
theorem c_II (h : PH) (k a : Nat) (v w : Int32) : pI (pI h k a v) k a w = pI h k a w := by
  have : q_u (hI (pI h k a v)) k a w = q_u (hI h) k a w := by
    funext k' a'
    show q_u (q_u (hI h) k a v) k a w k' a' = _
    unfold q_u
    split
    · split <;> simp_all
    · rfl
  show (_, _, _, _, _, _, _, _, _, _) = (_, _, _, _, _, _, _, _, _, _)
  rw [this]
  rfl
theorem c_I0 (h : PH) (k a : Nat) : pI h k a (hI h k a) = h := by
  have : q_u (hI h) k a (hI h k a) = hI h := by
    funext k' a'
    unfold q_u
    split
    · rename_i z; subst z
      split
      · rename_i z; rw [z]
      · rfl
    · rfl
  show (_, _, _, _, _, _, _, _, _, _) = _
  rw [this]
  rfl
theorem c_AI (h : PH) (k a x : Nat) (v : Int32) (f : Nat → Int32) : pA (pI h k a v) x f = pI (pA h x f) k a v := id rfl
/-- several ints from place o on -/
def ups (f : Nat → Int32) (o : Nat) (l : List Int32) : Nat → Int32 := fun j => if o ≤ j ∧ j < o + l.length then l.getD (j - o) 0 else f j
theorem ups_nil (f : Nat → Int32) (o : Nat) : ups f o [] = f := by
  funext j
  unfold ups
  rw [if_neg]
  simp
theorem ups_snoc (f : Nat → Int32) (o : Nat) (l : List Int32) (x : Int32) : upd (ups f o l) (o + l.length) x = ups f o (l ++ [x]) := by
  funext j
  unfold upd ups
  simp only [List.length_append, List.length_cons, List.length_nil]
  by_cases z : j = o + l.length
  · subst z
    rw [if_pos rfl, if_pos (by omega)]
    simp [List.getD_eq_getElem?_getD]
  · rw [if_neg z]
    by_cases w : o ≤ j ∧ j < o + l.length
    · rw [if_pos w, if_pos (by omega)]
      simp [List.getD_eq_getElem?_getD, List.getElem?_append_left (show j - o < l.length by omega)]
    · rw [if_neg w, if_neg (by omega)]
theorem ups_out {f : Nat → Int32} {o : Nat} {l : List Int32} {j : Nat} (h : j < o ∨ o + l.length ≤ j) : ups f o l j = f j := by
  unfold ups
  rw [if_neg (by omega)]
theorem ups_in {f : Nat → Int32} {o : Nat} {l : List Nat} {j : Nat} (h : j < l.length) : ups f o (l.map nI) (o + j) = nI (l.getD j 0) := by
  unfold ups
  rw [if_pos (by simp; omega)]
  simp [List.getD_eq_getElem?_getD, h]
theorem ups_in0 {f : Nat → Int32} {l : List Nat} {j : Nat} (h : j < l.length) : ups f 0 (l.map nI) j = nI (l.getD j 0) := by
  have := ups_in (f := f) (o := 0) h
  rwa [Nat.zero_add] at this
theorem take_succ_getD {l : List Nat} {k : Nat} (h : k < l.length) : l.take (k + 1) = l.take k ++ [l.getD k 0] := by
  rw [List.take_add_one, List.getElem?_eq_getElem h, List.getD_eq_getElem?_getD, List.getElem?_eq_getElem h]
  rfl
/-- one step of a loop that lays l from place o on -/
theorem ups_step {f : Nat → Int32} {o : Nat} {l : List Nat} {k : Nat} (h : k < l.length) : upd (ups f o ((l.take k).map nI)) (o + k) (nI (l.getD k 0)) = ups f o ((l.take (k + 1)).map nI) := by
  have e : k = ((l.take k).map nI).length := by simp; omega
  rw [take_succ_getD h, List.map_append]
  rw [show [l.getD k 0].map nI = [nI (l.getD k 0)] from rfl, ← ups_snoc]
  rw [← e]
theorem ups_step0 {f : Nat → Int32} {l : List Nat} {k : Nat} (h : k < l.length) : upd (ups f 0 ((l.take k).map nI)) k (nI (l.getD k 0)) = ups f 0 ((l.take (k + 1)).map nI) := by
  have := ups_step (f := f) (o := 0) h
  rwa [Nat.zero_add] at this
/-! PageWebModel: time, textOf, isThere .. -/
theorem m_time {g M n : Nat} {h : PH} {ch : Nat → Ch} {a : Option Nat} (d : md h M) (hc : mCh h M n ch) (ha : mAs h M a) (hn : ∀ t, a = some t → t ≤ n) : cal g mX11_time [va_rf (some M)] h = some (some (.int (nI (tm a n))), h) := by
  rw [n_X11_time]
  have h0 : hI h 0 M = nI n := hc.1
  have hn' := hc.2.1
  cases a with
  | none =>
    have h1 : hI h 13 M = nM 1 := ha
    simp (decide := true) (disch := omega) only [e_X11_time_0, e_X11_time_1, e_X11_time_4, e_X11_time_5, e_X11_time_8, e_X11_time_9, e_X11_time_12, e_X11_time_15, e_X11_time_16, e_X11_time_19, if_true, if_false, reduceCtorEq, Nat.reduceAdd, true_and, and_true, false_and, and_false, true_or, or_true, false_or, or_false, not_true_eq_false, not_false_eq_true, Option.bind_eq_bind, Option.bind_some, psh, eq_self, l_0, l_1, l_2, l_3, l_4, l_5, l_6, l_7, l_8, l_9, l_10, l_11, l_12, l_13, l_14, l_15, l_16, l_17, l_18, l_19, l_20, l_24, l_31, l_32, l_33, l_35, l_36, l_48, l_56, l_57, l_58, l_63, l_65, l_80, l_81, l_90, l_91, l_93, l_94, l_95, l_97, l_100, l_105, l_107, l_110, l_111, l_116, l_120, l_121, l_122, l_123, l_124, l_125, l_126, l_162, l_255, l_300, l_400, l_420, l_432, l_1000, l_1400, l_1936, l_2000, l_2100, l_2400, l_24000, m_n1, m_n2, m_n3, nI_mul, nI_add, nI_sub, nI_ltT, nI_ltF, nI_leT, nI_leF, nI_eqT, nI_eqF, nI_nM, nM_nI, nM_eq, nM_lt, nM_le, nI_ltM, nI_leM, nI_inT, nI_dec, pk_rem, nI_ltI, nI_leI, nI_eq, nI_clamp, Nat.add_assoc, mdR_text d, mdK_text d, mdL_text d, mdR_blamed d, mdK_blamed d, mdL_blamed d, mdR_length d, mdK_length d, mdL_length d, mdR_isGone d, mdK_isGone d, mdL_isGone d, mdR_pageOf d, mdK_pageOf d, mdL_pageOf d, mdR_handOf d, mdK_handOf d, mdL_handOf d, mdR_begin d, mdK_begin d, mdL_begin d, mdR_went d, mdK_went d, mdL_went d, mdR_came d, mdK_came d, mdL_came d, mdR_nameAt d, mdK_nameAt d, mdL_nameAt d, mdR_nameLong d, mdK_nameLong d, mdL_nameLong d, mdR_tape d, mdK_tape d, mdL_tape d, mdR_out d, mdK_out d, mdL_out d, mdR_fold d, mdK_fold d, mdL_fold d, mdR_hand d, mdK_hand d, mdL_hand d, mdR_passed d, mdK_passed d, mdL_passed d, mdR_mark d, mdK_mark d, mdL_mark d, mdR_next d, mdK_next d, mdL_next d, mdR_goal d, mdK_goal d, mdL_goal d, mdR_foundPage d, mdK_foundPage d, mdL_foundPage d, mdR_pile d, mdK_pile d, mdL_pile d, mdR_place d, mdK_place d, mdL_place d, mdR_many d, mdK_many d, mdL_many d, mdR_word d, mdK_word d, mdL_word d, mdR_wordLong d, mdK_wordLong d, mdL_wordLong d, mdR_made d, mdK_made d, mdL_made d, mdR_list d, mdK_list d, mdL_list d, mdR_listLong d, mdK_listLong d, mdL_listLong d, mdR_steps d, mdK_steps d, mdL_steps d, d.1, h0, h1, tm]
  | some t =>
    have h1 : hI h 13 M = nI t := ha
    have := hn t rfl
    simp (decide := true) (disch := omega) only [e_X11_time_0, e_X11_time_1, e_X11_time_4, e_X11_time_5, e_X11_time_8, e_X11_time_9, e_X11_time_12, e_X11_time_15, e_X11_time_16, e_X11_time_19, if_true, if_false, reduceCtorEq, Nat.reduceAdd, true_and, and_true, false_and, and_false, true_or, or_true, false_or, or_false, not_true_eq_false, not_false_eq_true, Option.bind_eq_bind, Option.bind_some, psh, eq_self, l_0, l_1, l_2, l_3, l_4, l_5, l_6, l_7, l_8, l_9, l_10, l_11, l_12, l_13, l_14, l_15, l_16, l_17, l_18, l_19, l_20, l_24, l_31, l_32, l_33, l_35, l_36, l_48, l_56, l_57, l_58, l_63, l_65, l_80, l_81, l_90, l_91, l_93, l_94, l_95, l_97, l_100, l_105, l_107, l_110, l_111, l_116, l_120, l_121, l_122, l_123, l_124, l_125, l_126, l_162, l_255, l_300, l_400, l_420, l_432, l_1000, l_1400, l_1936, l_2000, l_2100, l_2400, l_24000, m_n1, m_n2, m_n3, nI_mul, nI_add, nI_sub, nI_ltT, nI_ltF, nI_leT, nI_leF, nI_eqT, nI_eqF, nI_nM, nM_nI, nM_eq, nM_lt, nM_le, nI_ltM, nI_leM, nI_inT, nI_dec, pk_rem, nI_ltI, nI_leI, nI_eq, nI_clamp, Nat.add_assoc, mdR_text d, mdK_text d, mdL_text d, mdR_blamed d, mdK_blamed d, mdL_blamed d, mdR_length d, mdK_length d, mdL_length d, mdR_isGone d, mdK_isGone d, mdL_isGone d, mdR_pageOf d, mdK_pageOf d, mdL_pageOf d, mdR_handOf d, mdK_handOf d, mdL_handOf d, mdR_begin d, mdK_begin d, mdL_begin d, mdR_went d, mdK_went d, mdL_went d, mdR_came d, mdK_came d, mdL_came d, mdR_nameAt d, mdK_nameAt d, mdL_nameAt d, mdR_nameLong d, mdK_nameLong d, mdL_nameLong d, mdR_tape d, mdK_tape d, mdL_tape d, mdR_out d, mdK_out d, mdL_out d, mdR_fold d, mdK_fold d, mdL_fold d, mdR_hand d, mdK_hand d, mdL_hand d, mdR_passed d, mdK_passed d, mdL_passed d, mdR_mark d, mdK_mark d, mdL_mark d, mdR_next d, mdK_next d, mdL_next d, mdR_goal d, mdK_goal d, mdL_goal d, mdR_foundPage d, mdK_foundPage d, mdL_foundPage d, mdR_pile d, mdK_pile d, mdL_pile d, mdR_place d, mdK_place d, mdL_place d, mdR_many d, mdK_many d, mdL_many d, mdR_word d, mdK_word d, mdL_word d, mdR_wordLong d, mdK_wordLong d, mdL_wordLong d, mdR_made d, mdK_made d, mdL_made d, mdR_list d, mdK_list d, mdL_list d, mdR_listLong d, mdK_listLong d, mdL_listLong d, mdR_steps d, mdK_steps d, mdL_steps d, d.1, h0, h1, tm]
theorem m_textOf_loop {g M n p : Nat} {h : PH} {ch : Nat → Ch} {v : Option Value} (d : md h M) (hc : mCh h M n ch) (hp : p < 2 ^ 20) :
    ∀ t, t ≤ n → ev g mX11_textOf 2 [some (va_rf (some M)), some (.int (nI p)), v, some (.int (nI t))] [] h = some (some (.int (oN (thr ch p t))), h) := by
  have hn := hc.2.1
  intro t
  induction t with
  | zero =>
    intro ht
    rw [e_X11_textOf_2]
    simp (decide := true) (disch := omega) only [e_X11_textOf_0, e_X11_textOf_1, e_X11_textOf_3, e_X11_textOf_6, e_X11_textOf_7, e_X11_textOf_10, e_X11_textOf_11, e_X11_textOf_12, e_X11_textOf_13, e_X11_textOf_16, e_X11_textOf_17, e_X11_textOf_20, e_X11_textOf_21, e_X11_textOf_22, e_X11_textOf_25, e_X11_textOf_26, e_X11_textOf_29, e_X11_textOf_30, e_X11_textOf_31, e_X11_textOf_34, e_X11_textOf_37, e_X11_textOf_38, if_true, if_false, reduceCtorEq, Nat.reduceAdd, true_and, and_true, false_and, and_false, true_or, or_true, false_or, or_false, not_true_eq_false, not_false_eq_true, Option.bind_eq_bind, Option.bind_some, psh, eq_self, l_0, l_1, l_2, l_3, l_4, l_5, l_6, l_7, l_8, l_9, l_10, l_11, l_12, l_13, l_14, l_15, l_16, l_17, l_18, l_19, l_20, l_24, l_31, l_32, l_33, l_35, l_36, l_48, l_56, l_57, l_58, l_63, l_65, l_80, l_81, l_90, l_91, l_93, l_94, l_95, l_97, l_100, l_105, l_107, l_110, l_111, l_116, l_120, l_121, l_122, l_123, l_124, l_125, l_126, l_162, l_255, l_300, l_400, l_420, l_432, l_1000, l_1400, l_1936, l_2000, l_2100, l_2400, l_24000, m_n1, m_n2, m_n3, nI_mul, nI_add, nI_sub, nI_ltT, nI_ltF, nI_leT, nI_leF, nI_eqT, nI_eqF, nI_nM, nM_nI, nM_eq, nM_lt, nM_le, nI_ltM, nI_leM, nI_inT, nI_dec, pk_rem, nI_ltI, nI_leI, nI_eq, nI_clamp, Nat.add_assoc, mdR_text d, mdK_text d, mdL_text d, mdR_blamed d, mdK_blamed d, mdL_blamed d, mdR_length d, mdK_length d, mdL_length d, mdR_isGone d, mdK_isGone d, mdL_isGone d, mdR_pageOf d, mdK_pageOf d, mdL_pageOf d, mdR_handOf d, mdK_handOf d, mdL_handOf d, mdR_begin d, mdK_begin d, mdL_begin d, mdR_went d, mdK_went d, mdL_went d, mdR_came d, mdK_came d, mdL_came d, mdR_nameAt d, mdK_nameAt d, mdL_nameAt d, mdR_nameLong d, mdK_nameLong d, mdL_nameLong d, mdR_tape d, mdK_tape d, mdL_tape d, mdR_out d, mdK_out d, mdL_out d, mdR_fold d, mdK_fold d, mdL_fold d, mdR_hand d, mdK_hand d, mdL_hand d, mdR_passed d, mdK_passed d, mdL_passed d, mdR_mark d, mdK_mark d, mdL_mark d, mdR_next d, mdK_next d, mdL_next d, mdR_goal d, mdK_goal d, mdL_goal d, mdR_foundPage d, mdK_foundPage d, mdL_foundPage d, mdR_pile d, mdK_pile d, mdL_pile d, mdR_place d, mdK_place d, mdL_place d, mdR_many d, mdK_many d, mdL_many d, mdR_word d, mdK_word d, mdL_word d, mdR_wordLong d, mdK_wordLong d, mdL_wordLong d, mdR_made d, mdK_made d, mdL_made d, mdR_list d, mdK_list d, mdL_list d, mdR_listLong d, mdK_listLong d, mdL_listLong d, mdR_steps d, mdK_steps d, mdL_steps d, d.1]
    rfl
  | succ t ih =>
    intro ht
    obtain ⟨-, -, h4, h5, -, -, -, -, h6, -⟩ := hc.2.2 (t + 1) (by omega) ht
    rw [e_X11_textOf_2]
    by_cases z : cp (ch (t + 1)) = p
    · have e : lst ch p (t + 1) = t + 1 := by rw [lst, if_pos z]
      cases zg : cg (ch (t + 1)) with
      | true =>
        rw [zg, bI_t] at h4
        simp (decide := true) (disch := omega) only [e_X11_textOf_0, e_X11_textOf_1, e_X11_textOf_3, e_X11_textOf_6, e_X11_textOf_7, e_X11_textOf_10, e_X11_textOf_11, e_X11_textOf_12, e_X11_textOf_13, e_X11_textOf_16, e_X11_textOf_17, e_X11_textOf_20, e_X11_textOf_21, e_X11_textOf_22, e_X11_textOf_25, e_X11_textOf_26, e_X11_textOf_29, e_X11_textOf_30, e_X11_textOf_31, e_X11_textOf_34, e_X11_textOf_37, e_X11_textOf_38, if_true, if_false, reduceCtorEq, Nat.reduceAdd, true_and, and_true, false_and, and_false, true_or, or_true, false_or, or_false, not_true_eq_false, not_false_eq_true, Option.bind_eq_bind, Option.bind_some, psh, eq_self, l_0, l_1, l_2, l_3, l_4, l_5, l_6, l_7, l_8, l_9, l_10, l_11, l_12, l_13, l_14, l_15, l_16, l_17, l_18, l_19, l_20, l_24, l_31, l_32, l_33, l_35, l_36, l_48, l_56, l_57, l_58, l_63, l_65, l_80, l_81, l_90, l_91, l_93, l_94, l_95, l_97, l_100, l_105, l_107, l_110, l_111, l_116, l_120, l_121, l_122, l_123, l_124, l_125, l_126, l_162, l_255, l_300, l_400, l_420, l_432, l_1000, l_1400, l_1936, l_2000, l_2100, l_2400, l_24000, m_n1, m_n2, m_n3, nI_mul, nI_add, nI_sub, nI_ltT, nI_ltF, nI_leT, nI_leF, nI_eqT, nI_eqF, nI_nM, nM_nI, nM_eq, nM_lt, nM_le, nI_ltM, nI_leM, nI_inT, nI_dec, pk_rem, nI_ltI, nI_leI, nI_eq, nI_clamp, Nat.add_assoc, mdR_text d, mdK_text d, mdL_text d, mdR_blamed d, mdK_blamed d, mdL_blamed d, mdR_length d, mdK_length d, mdL_length d, mdR_isGone d, mdK_isGone d, mdL_isGone d, mdR_pageOf d, mdK_pageOf d, mdL_pageOf d, mdR_handOf d, mdK_handOf d, mdL_handOf d, mdR_begin d, mdK_begin d, mdL_begin d, mdR_went d, mdK_went d, mdL_went d, mdR_came d, mdK_came d, mdL_came d, mdR_nameAt d, mdK_nameAt d, mdL_nameAt d, mdR_nameLong d, mdK_nameLong d, mdL_nameLong d, mdR_tape d, mdK_tape d, mdL_tape d, mdR_out d, mdK_out d, mdL_out d, mdR_fold d, mdK_fold d, mdL_fold d, mdR_hand d, mdK_hand d, mdL_hand d, mdR_passed d, mdK_passed d, mdL_passed d, mdR_mark d, mdK_mark d, mdL_mark d, mdR_next d, mdK_next d, mdL_next d, mdR_goal d, mdK_goal d, mdL_goal d, mdR_foundPage d, mdK_foundPage d, mdL_foundPage d, mdR_pile d, mdK_pile d, mdL_pile d, mdR_place d, mdK_place d, mdL_place d, mdR_many d, mdK_many d, mdL_many d, mdR_word d, mdK_word d, mdL_word d, mdR_wordLong d, mdK_wordLong d, mdL_wordLong d, mdR_made d, mdK_made d, mdL_made d, mdR_list d, mdK_list d, mdL_list d, mdR_listLong d, mdK_listLong d, mdL_listLong d, mdR_steps d, mdK_steps d, mdL_steps d, d.1, h4, h5]
        simp [thr, e, zg, oN]
      | false =>
        rw [zg, bI_f] at h4
        simp (decide := true) (disch := omega) only [e_X11_textOf_0, e_X11_textOf_1, e_X11_textOf_3, e_X11_textOf_6, e_X11_textOf_7, e_X11_textOf_10, e_X11_textOf_11, e_X11_textOf_12, e_X11_textOf_13, e_X11_textOf_16, e_X11_textOf_17, e_X11_textOf_20, e_X11_textOf_21, e_X11_textOf_22, e_X11_textOf_25, e_X11_textOf_26, e_X11_textOf_29, e_X11_textOf_30, e_X11_textOf_31, e_X11_textOf_34, e_X11_textOf_37, e_X11_textOf_38, if_true, if_false, reduceCtorEq, Nat.reduceAdd, true_and, and_true, false_and, and_false, true_or, or_true, false_or, or_false, not_true_eq_false, not_false_eq_true, Option.bind_eq_bind, Option.bind_some, psh, eq_self, l_0, l_1, l_2, l_3, l_4, l_5, l_6, l_7, l_8, l_9, l_10, l_11, l_12, l_13, l_14, l_15, l_16, l_17, l_18, l_19, l_20, l_24, l_31, l_32, l_33, l_35, l_36, l_48, l_56, l_57, l_58, l_63, l_65, l_80, l_81, l_90, l_91, l_93, l_94, l_95, l_97, l_100, l_105, l_107, l_110, l_111, l_116, l_120, l_121, l_122, l_123, l_124, l_125, l_126, l_162, l_255, l_300, l_400, l_420, l_432, l_1000, l_1400, l_1936, l_2000, l_2100, l_2400, l_24000, m_n1, m_n2, m_n3, nI_mul, nI_add, nI_sub, nI_ltT, nI_ltF, nI_leT, nI_leF, nI_eqT, nI_eqF, nI_nM, nM_nI, nM_eq, nM_lt, nM_le, nI_ltM, nI_leM, nI_inT, nI_dec, pk_rem, nI_ltI, nI_leI, nI_eq, nI_clamp, Nat.add_assoc, mdR_text d, mdK_text d, mdL_text d, mdR_blamed d, mdK_blamed d, mdL_blamed d, mdR_length d, mdK_length d, mdL_length d, mdR_isGone d, mdK_isGone d, mdL_isGone d, mdR_pageOf d, mdK_pageOf d, mdL_pageOf d, mdR_handOf d, mdK_handOf d, mdL_handOf d, mdR_begin d, mdK_begin d, mdL_begin d, mdR_went d, mdK_went d, mdL_went d, mdR_came d, mdK_came d, mdL_came d, mdR_nameAt d, mdK_nameAt d, mdL_nameAt d, mdR_nameLong d, mdK_nameLong d, mdL_nameLong d, mdR_tape d, mdK_tape d, mdL_tape d, mdR_out d, mdK_out d, mdL_out d, mdR_fold d, mdK_fold d, mdL_fold d, mdR_hand d, mdK_hand d, mdL_hand d, mdR_passed d, mdK_passed d, mdL_passed d, mdR_mark d, mdK_mark d, mdL_mark d, mdR_next d, mdK_next d, mdL_next d, mdR_goal d, mdK_goal d, mdL_goal d, mdR_foundPage d, mdK_foundPage d, mdL_foundPage d, mdR_pile d, mdK_pile d, mdL_pile d, mdR_place d, mdK_place d, mdL_place d, mdR_many d, mdK_many d, mdL_many d, mdR_word d, mdK_word d, mdL_word d, mdR_wordLong d, mdK_wordLong d, mdL_wordLong d, mdR_made d, mdK_made d, mdL_made d, mdR_list d, mdK_list d, mdL_list d, mdR_listLong d, mdK_listLong d, mdL_listLong d, mdR_steps d, mdK_steps d, mdL_steps d, d.1, h4, h5]
        simp [thr, e, zg, oN]
    · have e : lst ch p (t + 1) = lst ch p t := by rw [lst, if_neg z]
      simp (decide := true) (disch := omega) only [e_X11_textOf_0, e_X11_textOf_1, e_X11_textOf_3, e_X11_textOf_6, e_X11_textOf_7, e_X11_textOf_10, e_X11_textOf_11, e_X11_textOf_12, e_X11_textOf_13, e_X11_textOf_16, e_X11_textOf_17, e_X11_textOf_20, e_X11_textOf_21, e_X11_textOf_22, e_X11_textOf_25, e_X11_textOf_26, e_X11_textOf_29, e_X11_textOf_30, e_X11_textOf_31, e_X11_textOf_34, e_X11_textOf_37, e_X11_textOf_38, if_true, if_false, reduceCtorEq, Nat.reduceAdd, true_and, and_true, false_and, and_false, true_or, or_true, false_or, or_false, not_true_eq_false, not_false_eq_true, Option.bind_eq_bind, Option.bind_some, psh, eq_self, l_0, l_1, l_2, l_3, l_4, l_5, l_6, l_7, l_8, l_9, l_10, l_11, l_12, l_13, l_14, l_15, l_16, l_17, l_18, l_19, l_20, l_24, l_31, l_32, l_33, l_35, l_36, l_48, l_56, l_57, l_58, l_63, l_65, l_80, l_81, l_90, l_91, l_93, l_94, l_95, l_97, l_100, l_105, l_107, l_110, l_111, l_116, l_120, l_121, l_122, l_123, l_124, l_125, l_126, l_162, l_255, l_300, l_400, l_420, l_432, l_1000, l_1400, l_1936, l_2000, l_2100, l_2400, l_24000, m_n1, m_n2, m_n3, nI_mul, nI_add, nI_sub, nI_ltT, nI_ltF, nI_leT, nI_leF, nI_eqT, nI_eqF, nI_nM, nM_nI, nM_eq, nM_lt, nM_le, nI_ltM, nI_leM, nI_inT, nI_dec, pk_rem, nI_ltI, nI_leI, nI_eq, nI_clamp, Nat.add_assoc, mdR_text d, mdK_text d, mdL_text d, mdR_blamed d, mdK_blamed d, mdL_blamed d, mdR_length d, mdK_length d, mdL_length d, mdR_isGone d, mdK_isGone d, mdL_isGone d, mdR_pageOf d, mdK_pageOf d, mdL_pageOf d, mdR_handOf d, mdK_handOf d, mdL_handOf d, mdR_begin d, mdK_begin d, mdL_begin d, mdR_went d, mdK_went d, mdL_went d, mdR_came d, mdK_came d, mdL_came d, mdR_nameAt d, mdK_nameAt d, mdL_nameAt d, mdR_nameLong d, mdK_nameLong d, mdL_nameLong d, mdR_tape d, mdK_tape d, mdL_tape d, mdR_out d, mdK_out d, mdL_out d, mdR_fold d, mdK_fold d, mdL_fold d, mdR_hand d, mdK_hand d, mdL_hand d, mdR_passed d, mdK_passed d, mdL_passed d, mdR_mark d, mdK_mark d, mdL_mark d, mdR_next d, mdK_next d, mdL_next d, mdR_goal d, mdK_goal d, mdL_goal d, mdR_foundPage d, mdK_foundPage d, mdL_foundPage d, mdR_pile d, mdK_pile d, mdL_pile d, mdR_place d, mdK_place d, mdL_place d, mdR_many d, mdK_many d, mdL_many d, mdR_word d, mdK_word d, mdL_word d, mdR_wordLong d, mdK_wordLong d, mdL_wordLong d, mdR_made d, mdK_made d, mdL_made d, mdR_list d, mdK_list d, mdL_list d, mdR_listLong d, mdK_listLong d, mdL_listLong d, mdR_steps d, mdK_steps d, mdL_steps d, d.1, h5]
      rw [show t + 1 - 1 = t from rfl, ih (by omega)]
      simp [thr, e]
theorem m_textOf {g M n p t : Nat} {h : PH} {ch : Nat → Ch} (d : md h M) (hc : mCh h M n ch) (hp : p < 2 ^ 20) (ht : t ≤ n) : cal g mX11_textOf [va_rf (some M), .int (nI p), .int (nI t)] h = some (some (.int (oN (thr ch p t))), h) := by
  rw [n_X11_textOf]
  simp (decide := true) (disch := omega) only [e_X11_textOf_0, e_X11_textOf_1, e_X11_textOf_3, e_X11_textOf_6, e_X11_textOf_7, e_X11_textOf_10, e_X11_textOf_11, e_X11_textOf_12, e_X11_textOf_13, e_X11_textOf_16, e_X11_textOf_17, e_X11_textOf_20, e_X11_textOf_21, e_X11_textOf_22, e_X11_textOf_25, e_X11_textOf_26, e_X11_textOf_29, e_X11_textOf_30, e_X11_textOf_31, e_X11_textOf_34, e_X11_textOf_37, e_X11_textOf_38, if_true, if_false, reduceCtorEq, Nat.reduceAdd, true_and, and_true, false_and, and_false, true_or, or_true, false_or, or_false, not_true_eq_false, not_false_eq_true, Option.bind_eq_bind, Option.bind_some, psh, eq_self, l_0, l_1, l_2, l_3, l_4, l_5, l_6, l_7, l_8, l_9, l_10, l_11, l_12, l_13, l_14, l_15, l_16, l_17, l_18, l_19, l_20, l_24, l_31, l_32, l_33, l_35, l_36, l_48, l_56, l_57, l_58, l_63, l_65, l_80, l_81, l_90, l_91, l_93, l_94, l_95, l_97, l_100, l_105, l_107, l_110, l_111, l_116, l_120, l_121, l_122, l_123, l_124, l_125, l_126, l_162, l_255, l_300, l_400, l_420, l_432, l_1000, l_1400, l_1936, l_2000, l_2100, l_2400, l_24000, m_n1, m_n2, m_n3, nI_mul, nI_add, nI_sub, nI_ltT, nI_ltF, nI_leT, nI_leF, nI_eqT, nI_eqF, nI_nM, nM_nI, nM_eq, nM_lt, nM_le, nI_ltM, nI_leM, nI_inT, nI_dec, pk_rem, nI_ltI, nI_leI, nI_eq, nI_clamp, Nat.add_assoc, mdR_text d, mdK_text d, mdL_text d, mdR_blamed d, mdK_blamed d, mdL_blamed d, mdR_length d, mdK_length d, mdL_length d, mdR_isGone d, mdK_isGone d, mdL_isGone d, mdR_pageOf d, mdK_pageOf d, mdL_pageOf d, mdR_handOf d, mdK_handOf d, mdL_handOf d, mdR_begin d, mdK_begin d, mdL_begin d, mdR_went d, mdK_went d, mdL_went d, mdR_came d, mdK_came d, mdL_came d, mdR_nameAt d, mdK_nameAt d, mdL_nameAt d, mdR_nameLong d, mdK_nameLong d, mdL_nameLong d, mdR_tape d, mdK_tape d, mdL_tape d, mdR_out d, mdK_out d, mdL_out d, mdR_fold d, mdK_fold d, mdL_fold d, mdR_hand d, mdK_hand d, mdL_hand d, mdR_passed d, mdK_passed d, mdL_passed d, mdR_mark d, mdK_mark d, mdL_mark d, mdR_next d, mdK_next d, mdL_next d, mdR_goal d, mdK_goal d, mdL_goal d, mdR_foundPage d, mdK_foundPage d, mdL_foundPage d, mdR_pile d, mdK_pile d, mdL_pile d, mdR_place d, mdK_place d, mdL_place d, mdR_many d, mdK_many d, mdL_many d, mdR_word d, mdK_word d, mdL_word d, mdR_wordLong d, mdK_wordLong d, mdL_wordLong d, mdR_made d, mdK_made d, mdL_made d, mdR_list d, mdK_list d, mdL_list d, mdR_listLong d, mdK_listLong d, mdL_listLong d, mdR_steps d, mdK_steps d, mdL_steps d, d.1]
  exact m_textOf_loop d hc hp t ht
/-- the CHANGE that the page is as of which an int names -/
def thI (ch : Nat → Ch) (nn t : Nat) (x : Int32) : Option Nat := if x < 0 ∨ nn ≤ x.toNatClampNeg then none else thr ch x.toNatClampNeg t
theorem thI_neg {ch : Nat → Ch} {nn t : Nat} {x : Int32} (h : x < 0) : thI ch nn t x = none := if_pos (Or.inl h)
theorem thI_nI {ch : Nat → Ch} {nn t p : Nat} (h : p < nn) (hn : nn < 2 ^ 31) : thI ch nn t (nI p) = thr ch p t := by
  unfold thI
  rw [nI_clamp (by omega), if_neg]
  intro z
  rcases z with z | z
  · exact nI_pos (by omega) z
  · omega
theorem thI_big {ch : Nat → Ch} {nn t : Nat} {x : Int32} (h : nI nn ≤ x) (hn : nn < 2 ^ 31) : thI ch nn t x = none := by
  unfold thI
  by_cases z : x < 0
  · exact if_pos (Or.inl z)
  · obtain ⟨j, hj, rfl⟩ := nI_of z
    rw [nI_clamp hj]
    exact if_pos (Or.inr ((nI_leI hn hj).mp h))
theorem thI_some {ch : Nat → Ch} {nn t c : Nat} {x : Int32} (h : thI ch nn t x = some c) (hn : nn < 2 ^ 31) : ∃ p, p < nn ∧ x = nI p ∧ thr ch p t = some c := by
  rcases pk_ix x hn with z | z | ⟨j, hj, rfl⟩
  · rw [thI_neg z] at h; cases h
  · rw [thI_big z hn] at h; cases h
  · rw [thI_nI hj hn] at h
    exact ⟨j, hj, rfl, h⟩
theorem tm_le {a : Option Nat} {n : Nat} (hn : ∀ t, a = some t → t ≤ n) : tm a n ≤ n := by
  cases a with
  | none => exact Nat.le_refl _
  | some t => exact hn t rfl
theorem m_isThere {g M n nn : Nat} {h : PH} {ch : Nat → Ch} {nm : Nat → Nm} {a : Option Nat} {x : Int32} (d : md h M) (hc : mCh h M n ch) (hm : mNm h M nn nm) (ha : mAs h M a) (hn : ∀ t, a = some t → t ≤ n) : cal g mX11_isThere [va_rf (some M), .int x] h = some (some (.int (bI (thI ch nn (tm a n) x).isSome)), h) := by
  rw [n_X11_isThere]
  have h1 := hm.1
  have h2 := hm.2.1
  have ht := m_time (g := g) d hc ha hn
  have hl := tm_le hn
  rcases pk_ix x (n := nn) (by omega) with z | z | ⟨p, hp, rfl⟩
  · have z' : x < nI 0 := z
    rw [thI_neg z]
    simp (decide := true) (disch := omega) only [e_X11_isThere_0, e_X11_isThere_1, e_X11_isThere_4, e_X11_isThere_5, e_X11_isThere_6, e_X11_isThere_9, e_X11_isThere_12, e_X11_isThere_13, e_X11_isThere_14, e_X11_isThere_15, e_X11_isThere_18, e_X11_isThere_21, e_X11_isThere_22, e_X11_isThere_25, e_X11_isThere_26, e_X11_isThere_29, e_X11_isThere_30, if_true, if_false, reduceCtorEq, Nat.reduceAdd, true_and, and_true, false_and, and_false, true_or, or_true, false_or, or_false, not_true_eq_false, not_false_eq_true, Option.bind_eq_bind, Option.bind_some, psh, eq_self, l_0, l_1, l_2, l_3, l_4, l_5, l_6, l_7, l_8, l_9, l_10, l_11, l_12, l_13, l_14, l_15, l_16, l_17, l_18, l_19, l_20, l_24, l_31, l_32, l_33, l_35, l_36, l_48, l_56, l_57, l_58, l_63, l_65, l_80, l_81, l_90, l_91, l_93, l_94, l_95, l_97, l_100, l_105, l_107, l_110, l_111, l_116, l_120, l_121, l_122, l_123, l_124, l_125, l_126, l_162, l_255, l_300, l_400, l_420, l_432, l_1000, l_1400, l_1936, l_2000, l_2100, l_2400, l_24000, m_n1, m_n2, m_n3, nI_mul, nI_add, nI_sub, nI_ltT, nI_ltF, nI_leT, nI_leF, nI_eqT, nI_eqF, nI_nM, nM_nI, nM_eq, nM_lt, nM_le, nI_ltM, nI_leM, nI_inT, nI_dec, pk_rem, nI_ltI, nI_leI, nI_eq, nI_clamp, Nat.add_assoc, mdR_text d, mdK_text d, mdL_text d, mdR_blamed d, mdK_blamed d, mdL_blamed d, mdR_length d, mdK_length d, mdL_length d, mdR_isGone d, mdK_isGone d, mdL_isGone d, mdR_pageOf d, mdK_pageOf d, mdL_pageOf d, mdR_handOf d, mdK_handOf d, mdL_handOf d, mdR_begin d, mdK_begin d, mdL_begin d, mdR_went d, mdK_went d, mdL_went d, mdR_came d, mdK_came d, mdL_came d, mdR_nameAt d, mdK_nameAt d, mdL_nameAt d, mdR_nameLong d, mdK_nameLong d, mdL_nameLong d, mdR_tape d, mdK_tape d, mdL_tape d, mdR_out d, mdK_out d, mdL_out d, mdR_fold d, mdK_fold d, mdL_fold d, mdR_hand d, mdK_hand d, mdL_hand d, mdR_passed d, mdK_passed d, mdL_passed d, mdR_mark d, mdK_mark d, mdL_mark d, mdR_next d, mdK_next d, mdL_next d, mdR_goal d, mdK_goal d, mdL_goal d, mdR_foundPage d, mdK_foundPage d, mdL_foundPage d, mdR_pile d, mdK_pile d, mdL_pile d, mdR_place d, mdK_place d, mdL_place d, mdR_many d, mdK_many d, mdL_many d, mdR_word d, mdK_word d, mdL_word d, mdR_wordLong d, mdK_wordLong d, mdL_wordLong d, mdR_made d, mdK_made d, mdL_made d, mdR_list d, mdK_list d, mdL_list d, mdR_listLong d, mdK_listLong d, mdL_listLong d, mdR_steps d, mdK_steps d, mdL_steps d, d.1, z', h1]
    rfl
  · rw [thI_big z (by omega)]
    simp (decide := true) (disch := omega) only [e_X11_isThere_0, e_X11_isThere_1, e_X11_isThere_4, e_X11_isThere_5, e_X11_isThere_6, e_X11_isThere_9, e_X11_isThere_12, e_X11_isThere_13, e_X11_isThere_14, e_X11_isThere_15, e_X11_isThere_18, e_X11_isThere_21, e_X11_isThere_22, e_X11_isThere_25, e_X11_isThere_26, e_X11_isThere_29, e_X11_isThere_30, if_true, if_false, reduceCtorEq, Nat.reduceAdd, true_and, and_true, false_and, and_false, true_or, or_true, false_or, or_false, not_true_eq_false, not_false_eq_true, Option.bind_eq_bind, Option.bind_some, psh, eq_self, l_0, l_1, l_2, l_3, l_4, l_5, l_6, l_7, l_8, l_9, l_10, l_11, l_12, l_13, l_14, l_15, l_16, l_17, l_18, l_19, l_20, l_24, l_31, l_32, l_33, l_35, l_36, l_48, l_56, l_57, l_58, l_63, l_65, l_80, l_81, l_90, l_91, l_93, l_94, l_95, l_97, l_100, l_105, l_107, l_110, l_111, l_116, l_120, l_121, l_122, l_123, l_124, l_125, l_126, l_162, l_255, l_300, l_400, l_420, l_432, l_1000, l_1400, l_1936, l_2000, l_2100, l_2400, l_24000, m_n1, m_n2, m_n3, nI_mul, nI_add, nI_sub, nI_ltT, nI_ltF, nI_leT, nI_leF, nI_eqT, nI_eqF, nI_nM, nM_nI, nM_eq, nM_lt, nM_le, nI_ltM, nI_leM, nI_inT, nI_dec, pk_rem, nI_ltI, nI_leI, nI_eq, nI_clamp, Nat.add_assoc, mdR_text d, mdK_text d, mdL_text d, mdR_blamed d, mdK_blamed d, mdL_blamed d, mdR_length d, mdK_length d, mdL_length d, mdR_isGone d, mdK_isGone d, mdL_isGone d, mdR_pageOf d, mdK_pageOf d, mdL_pageOf d, mdR_handOf d, mdK_handOf d, mdL_handOf d, mdR_begin d, mdK_begin d, mdL_begin d, mdR_went d, mdK_went d, mdL_went d, mdR_came d, mdK_came d, mdL_came d, mdR_nameAt d, mdK_nameAt d, mdL_nameAt d, mdR_nameLong d, mdK_nameLong d, mdL_nameLong d, mdR_tape d, mdK_tape d, mdL_tape d, mdR_out d, mdK_out d, mdL_out d, mdR_fold d, mdK_fold d, mdL_fold d, mdR_hand d, mdK_hand d, mdL_hand d, mdR_passed d, mdK_passed d, mdL_passed d, mdR_mark d, mdK_mark d, mdL_mark d, mdR_next d, mdK_next d, mdL_next d, mdR_goal d, mdK_goal d, mdL_goal d, mdR_foundPage d, mdK_foundPage d, mdL_foundPage d, mdR_pile d, mdK_pile d, mdL_pile d, mdR_place d, mdK_place d, mdL_place d, mdR_many d, mdK_many d, mdL_many d, mdR_word d, mdK_word d, mdL_word d, mdR_wordLong d, mdK_wordLong d, mdL_wordLong d, mdR_made d, mdK_made d, mdL_made d, mdR_list d, mdK_list d, mdL_list d, mdR_listLong d, mdK_listLong d, mdL_listLong d, mdR_steps d, mdK_steps d, mdL_steps d, d.1, z, h1, ite_self]
    rfl
  · rw [thI_nI hp (by omega)]
    have htx := m_textOf (g := g) (p := p) (t := tm a n) d hc (by omega) hl
    cases e : thr ch p (tm a n) with
    | none =>
      rw [e, oN] at htx
      simp (decide := true) (disch := omega) only [e_X11_isThere_0, e_X11_isThere_1, e_X11_isThere_4, e_X11_isThere_5, e_X11_isThere_6, e_X11_isThere_9, e_X11_isThere_12, e_X11_isThere_13, e_X11_isThere_14, e_X11_isThere_15, e_X11_isThere_18, e_X11_isThere_21, e_X11_isThere_22, e_X11_isThere_25, e_X11_isThere_26, e_X11_isThere_29, e_X11_isThere_30, if_true, if_false, reduceCtorEq, Nat.reduceAdd, true_and, and_true, false_and, and_false, true_or, or_true, false_or, or_false, not_true_eq_false, not_false_eq_true, Option.bind_eq_bind, Option.bind_some, psh, eq_self, l_0, l_1, l_2, l_3, l_4, l_5, l_6, l_7, l_8, l_9, l_10, l_11, l_12, l_13, l_14, l_15, l_16, l_17, l_18, l_19, l_20, l_24, l_31, l_32, l_33, l_35, l_36, l_48, l_56, l_57, l_58, l_63, l_65, l_80, l_81, l_90, l_91, l_93, l_94, l_95, l_97, l_100, l_105, l_107, l_110, l_111, l_116, l_120, l_121, l_122, l_123, l_124, l_125, l_126, l_162, l_255, l_300, l_400, l_420, l_432, l_1000, l_1400, l_1936, l_2000, l_2100, l_2400, l_24000, m_n1, m_n2, m_n3, nI_mul, nI_add, nI_sub, nI_ltT, nI_ltF, nI_leT, nI_leF, nI_eqT, nI_eqF, nI_nM, nM_nI, nM_eq, nM_lt, nM_le, nI_ltM, nI_leM, nI_inT, nI_dec, pk_rem, nI_ltI, nI_leI, nI_eq, nI_clamp, Nat.add_assoc, mdR_text d, mdK_text d, mdL_text d, mdR_blamed d, mdK_blamed d, mdL_blamed d, mdR_length d, mdK_length d, mdL_length d, mdR_isGone d, mdK_isGone d, mdL_isGone d, mdR_pageOf d, mdK_pageOf d, mdL_pageOf d, mdR_handOf d, mdK_handOf d, mdL_handOf d, mdR_begin d, mdK_begin d, mdL_begin d, mdR_went d, mdK_went d, mdL_went d, mdR_came d, mdK_came d, mdL_came d, mdR_nameAt d, mdK_nameAt d, mdL_nameAt d, mdR_nameLong d, mdK_nameLong d, mdL_nameLong d, mdR_tape d, mdK_tape d, mdL_tape d, mdR_out d, mdK_out d, mdL_out d, mdR_fold d, mdK_fold d, mdL_fold d, mdR_hand d, mdK_hand d, mdL_hand d, mdR_passed d, mdK_passed d, mdL_passed d, mdR_mark d, mdK_mark d, mdL_mark d, mdR_next d, mdK_next d, mdL_next d, mdR_goal d, mdK_goal d, mdL_goal d, mdR_foundPage d, mdK_foundPage d, mdL_foundPage d, mdR_pile d, mdK_pile d, mdL_pile d, mdR_place d, mdK_place d, mdL_place d, mdR_many d, mdK_many d, mdL_many d, mdR_word d, mdK_word d, mdL_word d, mdR_wordLong d, mdK_wordLong d, mdL_wordLong d, mdR_made d, mdK_made d, mdL_made d, mdR_list d, mdK_list d, mdL_list d, mdR_listLong d, mdK_listLong d, mdL_listLong d, mdR_steps d, mdK_steps d, mdL_steps d, d.1, h1, ht, htx]
      rfl
    | some c =>
      rw [e, oN] at htx
      have := (thr_some e).2.1
      have := hc.2.1
      simp (decide := true) (disch := omega) only [e_X11_isThere_0, e_X11_isThere_1, e_X11_isThere_4, e_X11_isThere_5, e_X11_isThere_6, e_X11_isThere_9, e_X11_isThere_12, e_X11_isThere_13, e_X11_isThere_14, e_X11_isThere_15, e_X11_isThere_18, e_X11_isThere_21, e_X11_isThere_22, e_X11_isThere_25, e_X11_isThere_26, e_X11_isThere_29, e_X11_isThere_30, if_true, if_false, reduceCtorEq, Nat.reduceAdd, true_and, and_true, false_and, and_false, true_or, or_true, false_or, or_false, not_true_eq_false, not_false_eq_true, Option.bind_eq_bind, Option.bind_some, psh, eq_self, l_0, l_1, l_2, l_3, l_4, l_5, l_6, l_7, l_8, l_9, l_10, l_11, l_12, l_13, l_14, l_15, l_16, l_17, l_18, l_19, l_20, l_24, l_31, l_32, l_33, l_35, l_36, l_48, l_56, l_57, l_58, l_63, l_65, l_80, l_81, l_90, l_91, l_93, l_94, l_95, l_97, l_100, l_105, l_107, l_110, l_111, l_116, l_120, l_121, l_122, l_123, l_124, l_125, l_126, l_162, l_255, l_300, l_400, l_420, l_432, l_1000, l_1400, l_1936, l_2000, l_2100, l_2400, l_24000, m_n1, m_n2, m_n3, nI_mul, nI_add, nI_sub, nI_ltT, nI_ltF, nI_leT, nI_leF, nI_eqT, nI_eqF, nI_nM, nM_nI, nM_eq, nM_lt, nM_le, nI_ltM, nI_leM, nI_inT, nI_dec, pk_rem, nI_ltI, nI_leI, nI_eq, nI_clamp, Nat.add_assoc, mdR_text d, mdK_text d, mdL_text d, mdR_blamed d, mdK_blamed d, mdL_blamed d, mdR_length d, mdK_length d, mdL_length d, mdR_isGone d, mdK_isGone d, mdL_isGone d, mdR_pageOf d, mdK_pageOf d, mdL_pageOf d, mdR_handOf d, mdK_handOf d, mdL_handOf d, mdR_begin d, mdK_begin d, mdL_begin d, mdR_went d, mdK_went d, mdL_went d, mdR_came d, mdK_came d, mdL_came d, mdR_nameAt d, mdK_nameAt d, mdL_nameAt d, mdR_nameLong d, mdK_nameLong d, mdL_nameLong d, mdR_tape d, mdK_tape d, mdL_tape d, mdR_out d, mdK_out d, mdL_out d, mdR_fold d, mdK_fold d, mdL_fold d, mdR_hand d, mdK_hand d, mdL_hand d, mdR_passed d, mdK_passed d, mdL_passed d, mdR_mark d, mdK_mark d, mdL_mark d, mdR_next d, mdK_next d, mdL_next d, mdR_goal d, mdK_goal d, mdL_goal d, mdR_foundPage d, mdK_foundPage d, mdL_foundPage d, mdR_pile d, mdK_pile d, mdL_pile d, mdR_place d, mdK_place d, mdL_place d, mdR_many d, mdK_many d, mdL_many d, mdR_word d, mdK_word d, mdL_word d, mdR_wordLong d, mdK_wordLong d, mdL_wordLong d, mdR_made d, mdK_made d, mdL_made d, mdR_list d, mdK_list d, mdL_list d, mdR_listLong d, mdK_listLong d, mdL_listLong d, mdR_steps d, mdK_steps d, mdL_steps d, d.1, h1, ht, htx]
      rfl
