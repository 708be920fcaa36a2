/-! PageWebModel: tells, wanted, kindsAt, kindsOf, within, members -/
def tlB (L : List Le) : Nat := (L.map (fun x => (nz x.1).length + 1)).sum
def tlT (L : List Le) : List Nat := L.flatMap (fun x => nz x.1 ++ [10])
theorem tlT_len : ∀ L : List Le, (tlT L).length = tlB L
  | [] => rfl
  | x :: L => by
    have := tlT_len L
    unfold tlT tlB at *
    simp only [List.flatMap_cons, List.length_append, List.map_cons, List.sum_cons, List.length_cons, List.length_nil]
    omega
theorem Ldrop {L : List Le} {k : Nat} (h : k < L.length) : L.drop k = L.getD k ld0 :: L.drop (k + 1) := by
  rw [List.drop_eq_getElem_cons h, List.getD_eq_getElem?_getD, List.getElem?_eq_getElem h]
  rfl
theorem tlB_drop {L : List Le} {k : Nat} (h : k < L.length) : tlB (L.drop k) = (nz (L.getD k ld0).1).length + 1 + tlB (L.drop (k + 1)) := by
  rw [Ldrop h]
  simp [tlB]
theorem tlB_le {L : List Le} (h : ∀ x ∈ L, nok x.1.2) : tlB L ≤ 22 * L.length := by
  induction L with
  | nil => exact Nat.le_refl _
  | cons x L ih =>
    have h1 := nz_len (h x List.mem_cons_self)
    have h2 := ih (fun y hy => h y (List.mem_cons_of_mem _ hy))
    unfold tlB at *
    simp only [List.map_cons, List.sum_cons, List.length_cons]
    omega
theorem m_tells_1 {g M : Nat} {h : PH} {L : List Le} {l3 : Option Value} (d : md h M) (hl : mLs h M L) :
    ∀ j k n, j + k = L.length → n ≤ 22 * k → ev g mX11_tells 4 [some (va_rf (some M)), some (.int (nI n)), some (.int (nI k)), l3] [] h = ev g mX11_tells 29 [some (va_rf (some M)), some (.int (nI (n + tlB (L.drop k)))), some (.int (nI L.length)), l3] [] h := by
  obtain ⟨r1, r2, r3, r4⟩ := hl
  intro j
  induction j with
  | zero =>
    intro k n hk hn
    have : k = L.length := by omega
    subst this
    rw [e_X11_tells_4, List.drop_length]
    simp (decide := true) (disch := omega) only [e_X11_tells_5, e_X11_tells_6, e_X11_tells_9, e_X11_tells_12, e_X11_tells_13, e_X11_tells_14, e_X11_tells_17, e_X11_tells_18, e_X11_tells_19, e_X11_tells_20, e_X11_tells_21, e_X11_tells_22, e_X11_tells_23, e_X11_tells_26, ↓reduceIte, if_true, if_false, reduceCtorEq, Nat.reduceAdd, true_and, and_true, false_and, and_false, true_or, or_true, false_or, or_false, not_true_eq_false, not_false_eq_true, Option.bind_eq_bind, Option.bind_some, psh, eq_self, l_0, l_1, l_2, l_3, l_4, l_5, l_6, l_7, l_8, l_9, l_10, l_11, l_12, l_13, l_14, l_15, l_16, l_17, l_18, l_19, l_20, l_24, l_31, l_32, l_33, l_35, l_36, l_48, l_56, l_57, l_58, l_63, l_65, l_80, l_81, l_90, l_91, l_93, l_94, l_95, l_97, l_100, l_105, l_107, l_110, l_111, l_116, l_120, l_121, l_122, l_123, l_124, l_125, l_126, l_162, l_255, l_300, l_400, l_420, l_432, l_1000, l_1400, l_1936, l_2000, l_2100, l_2400, l_24000, m_n1, m_n2, m_n3, nI_mul, nI_add, nI_sub, nI_ltT, nI_ltF, nI_leT, nI_leF, nI_eqT, nI_eqF, nI_nM, nM_nI, nM_eq, nM_lt, nM_le, nI_ltM, nI_leM, nI_inT, nI_dec, pk_rem, nI_ltI, nI_leI, nI_eq, nI_clamp, Nat.add_assoc, q_bv51, Nat.add_left_cancel_iff, mdR_text d, mdK_text d, mdL_text d, mdR_blamed d, mdK_blamed d, mdL_blamed d, mdR_length d, mdK_length d, mdL_length d, mdR_isGone d, mdK_isGone d, mdL_isGone d, mdR_pageOf d, mdK_pageOf d, mdL_pageOf d, mdR_handOf d, mdK_handOf d, mdL_handOf d, mdR_begin d, mdK_begin d, mdL_begin d, mdR_went d, mdK_went d, mdL_went d, mdR_came d, mdK_came d, mdL_came d, mdR_nameAt d, mdK_nameAt d, mdL_nameAt d, mdR_nameLong d, mdK_nameLong d, mdL_nameLong d, mdR_tape d, mdK_tape d, mdL_tape d, mdR_out d, mdK_out d, mdL_out d, mdR_fold d, mdK_fold d, mdL_fold d, mdR_hand d, mdK_hand d, mdL_hand d, mdR_passed d, mdK_passed d, mdL_passed d, mdR_mark d, mdK_mark d, mdL_mark d, mdR_next d, mdK_next d, mdL_next d, mdR_goal d, mdK_goal d, mdL_goal d, mdR_foundPage d, mdK_foundPage d, mdL_foundPage d, mdR_pile d, mdK_pile d, mdL_pile d, mdR_place d, mdK_place d, mdL_place d, mdR_many d, mdK_many d, mdL_many d, mdR_word d, mdK_word d, mdL_word d, mdR_wordLong d, mdK_wordLong d, mdL_wordLong d, mdR_made d, mdK_made d, mdL_made d, mdR_list d, mdK_list d, mdL_list d, mdR_listLong d, mdK_listLong d, mdL_listLong d, mdR_steps d, mdK_steps d, mdL_steps d, d.1, r1]
    rfl
  | succ j ih =>
    intro k n hk hn
    have hk' : k < L.length := by omega
    obtain ⟨x1, x2, x3⟩ := r3 k hk'
    have n1 := nz_len (r4 _ (Lmem hk')).1
    rw [tlB_drop hk', e_X11_tells_4, show n + ((nz (L.getD k ld0).1).length + 1 + tlB (L.drop (k + 1))) = n + ((nz (L.getD k ld0).1).length + 1) + tlB (L.drop (k + 1)) by omega, ← ih (k + 1) _ (by omega) (by omega)]
    simp (decide := true) (disch := omega) only [e_X11_tells_5, e_X11_tells_6, e_X11_tells_9, e_X11_tells_12, e_X11_tells_13, e_X11_tells_14, e_X11_tells_17, e_X11_tells_18, e_X11_tells_19, e_X11_tells_20, e_X11_tells_21, e_X11_tells_22, e_X11_tells_23, e_X11_tells_26, ↓reduceIte, if_true, if_false, reduceCtorEq, Nat.reduceAdd, true_and, and_true, false_and, and_false, true_or, or_true, false_or, or_false, not_true_eq_false, not_false_eq_true, Option.bind_eq_bind, Option.bind_some, psh, eq_self, l_0, l_1, l_2, l_3, l_4, l_5, l_6, l_7, l_8, l_9, l_10, l_11, l_12, l_13, l_14, l_15, l_16, l_17, l_18, l_19, l_20, l_24, l_31, l_32, l_33, l_35, l_36, l_48, l_56, l_57, l_58, l_63, l_65, l_80, l_81, l_90, l_91, l_93, l_94, l_95, l_97, l_100, l_105, l_107, l_110, l_111, l_116, l_120, l_121, l_122, l_123, l_124, l_125, l_126, l_162, l_255, l_300, l_400, l_420, l_432, l_1000, l_1400, l_1936, l_2000, l_2100, l_2400, l_24000, m_n1, m_n2, m_n3, nI_mul, nI_add, nI_sub, nI_ltT, nI_ltF, nI_leT, nI_leF, nI_eqT, nI_eqF, nI_nM, nM_nI, nM_eq, nM_lt, nM_le, nI_ltM, nI_leM, nI_inT, nI_dec, pk_rem, nI_ltI, nI_leI, nI_eq, nI_clamp, Nat.add_assoc, q_bv51, Nat.add_left_cancel_iff, mdR_text d, mdK_text d, mdL_text d, mdR_blamed d, mdK_blamed d, mdL_blamed d, mdR_length d, mdK_length d, mdL_length d, mdR_isGone d, mdK_isGone d, mdL_isGone d, mdR_pageOf d, mdK_pageOf d, mdL_pageOf d, mdR_handOf d, mdK_handOf d, mdL_handOf d, mdR_begin d, mdK_begin d, mdL_begin d, mdR_went d, mdK_went d, mdL_went d, mdR_came d, mdK_came d, mdL_came d, mdR_nameAt d, mdK_nameAt d, mdL_nameAt d, mdR_nameLong d, mdK_nameLong d, mdL_nameLong d, mdR_tape d, mdK_tape d, mdL_tape d, mdR_out d, mdK_out d, mdL_out d, mdR_fold d, mdK_fold d, mdL_fold d, mdR_hand d, mdK_hand d, mdL_hand d, mdR_passed d, mdK_passed d, mdL_passed d, mdR_mark d, mdK_mark d, mdL_mark d, mdR_next d, mdK_next d, mdL_next d, mdR_goal d, mdK_goal d, mdL_goal d, mdR_foundPage d, mdK_foundPage d, mdL_foundPage d, mdR_pile d, mdK_pile d, mdL_pile d, mdR_place d, mdK_place d, mdL_place d, mdR_many d, mdK_many d, mdL_many d, mdR_word d, mdK_word d, mdL_word d, mdR_wordLong d, mdK_wordLong d, mdL_wordLong d, mdR_made d, mdK_made d, mdL_made d, mdR_list d, mdK_list d, mdL_list d, mdR_listLong d, mdK_listLong d, mdL_listLong d, mdR_steps d, mdK_steps d, mdL_steps d, d.1, r1, x1]
theorem mOu.add {h : PH} {M : Nat} {l : List Nat} {b : Nat} (r : mOu h M l) (hl : l.length < 2000) (hb : b < 256) : mOu (pI (pA h (M + 13) (upd (hA h (M + 13)) l.length (nI b))) 17 M (nI (l.length + 1))) M (l ++ [b]) := by
  obtain ⟨r1, r2, r3, r4⟩ := r
  refine ⟨?_, ?_, by simp; omega, ?_⟩
  · simp (decide := true) only [u_hN_pI, u_hU_pI, u_hK_pI, u_hL_pI, u_hR_pI, u_hJ_pI, u_hA_pI, u_hB_pI, u_hS_pI, u_hN_pR, u_hU_pR, u_hK_pR, u_hL_pR, u_hI_pR, u_hJ_pR, u_hA_pR, u_hB_pR, u_hS_pR, u_hN_pJ, u_hU_pJ, u_hK_pJ, u_hL_pJ, u_hI_pJ, u_hR_pJ, u_hA_pJ, u_hB_pJ, u_hS_pJ, u_hN_pA, u_hU_pA, u_hK_pA, u_hL_pA, u_hI_pA, u_hR_pA, u_hJ_pA, u_hB_pA, u_hS_pA, u_hN_pB, u_hU_pB, u_hK_pB, u_hL_pB, u_hI_pB, u_hR_pB, u_hJ_pB, u_hA_pB, u_hS_pB, u_hL_nO, u_hA_nO, u_hB_nO, u_hS_nO, u_hI_nA, u_hR_nA, u_hJ_nA, u_hS_nA, u_II, u_RR, u_JJ, u_AA, u_BB, u_NO, u_UO, u_KO, u_IO, u_RO, u_JO, u_NN, u_UN, u_KN, u_LN, u_AN, u_BN, if_true, if_false, List.length_append, List.length_cons, List.length_nil]
  · intro k hk
    simp (decide := true) only [u_hN_pI, u_hU_pI, u_hK_pI, u_hL_pI, u_hR_pI, u_hJ_pI, u_hA_pI, u_hB_pI, u_hS_pI, u_hN_pR, u_hU_pR, u_hK_pR, u_hL_pR, u_hI_pR, u_hJ_pR, u_hA_pR, u_hB_pR, u_hS_pR, u_hN_pJ, u_hU_pJ, u_hK_pJ, u_hL_pJ, u_hI_pJ, u_hR_pJ, u_hA_pJ, u_hB_pJ, u_hS_pJ, u_hN_pA, u_hU_pA, u_hK_pA, u_hL_pA, u_hI_pA, u_hR_pA, u_hJ_pA, u_hB_pA, u_hS_pA, u_hN_pB, u_hU_pB, u_hK_pB, u_hL_pB, u_hI_pB, u_hR_pB, u_hJ_pB, u_hA_pB, u_hS_pB, u_hL_nO, u_hA_nO, u_hB_nO, u_hS_nO, u_hI_nA, u_hR_nA, u_hJ_nA, u_hS_nA, u_II, u_RR, u_JJ, u_AA, u_BB, u_NO, u_UO, u_KO, u_IO, u_RO, u_JO, u_NN, u_UN, u_KN, u_LN, u_AN, u_BN, if_true, if_false]
    simp only [List.length_append, List.length_cons, List.length_nil] at hk
    by_cases c : k = l.length
    · subst c
      rw [pk_us, getD_append_ge (Nat.le_refl _), Nat.sub_self]
      rfl
    · rw [pk_un c, getD_append_lt (by omega), r2 k (by omega)]
  · intro x hx
    rcases List.mem_append.mp hx with w | w
    · exact r4 x w
    · simp at w; rw [w]; exact hb
theorem m_tells_3 {g M k : Nat} {x : Le} {l1 : Option Value} (hk : k < 1000) (hx : nok x.1.2) : ∀ j i (h : PH) (ou : List Nat), j + i = (nz x.1).length + 1 → md h M → en h M k x → mOu h M ou → ou.length + j ≤ 2000 →
    ∃ h' v3, ev g mX11_tells 56 [some (va_rf (some M)), l1, some (.int (nI k)), some (.int (nI i))] [] h = ev g mX11_tells 117 [some (va_rf (some M)), l1, some (.int (nI k)), v3] [] h' ∧ mf [17] [13] M h h' ∧ mOu h' M (ou ++ (nz x.1 ++ [10]).drop i) := by
  have hz := nz_len hx
  have hb := nz_by hx
  intro j
  induction j with
  | zero =>
    intro i h ou hi d he ho hl
    have : i = (nz x.1).length + 1 := by omega
    subst this
    have x1 := he.1
    refine ⟨h, some (.int (nI ((nz x.1).length + 1))), ?_, mf.rf _, by rw [List.drop_of_length_le (by simp), List.append_nil]; exact ho⟩
    rw [e_X11_tells_56]
    simp (decide := true) (disch := omega) only [e_X11_tells_57, e_X11_tells_58, e_X11_tells_61, e_X11_tells_62, e_X11_tells_63, e_X11_tells_66, e_X11_tells_67, e_X11_tells_70, e_X11_tells_71, e_X11_tells_74, e_X11_tells_75, e_X11_tells_76, e_X11_tells_79, e_X11_tells_80, e_X11_tells_81, e_X11_tells_84, e_X11_tells_86, e_X11_tells_89, e_X11_tells_90, e_X11_tells_93, e_X11_tells_95, e_X11_tells_96, e_X11_tells_97, e_X11_tells_98, e_X11_tells_99, e_X11_tells_100, e_X11_tells_101, e_X11_tells_102, e_X11_tells_103, e_X11_tells_106, e_X11_tells_107, e_X11_tells_108, e_X11_tells_111, e_X11_tells_114, ↓reduceIte, if_true, if_false, reduceCtorEq, Nat.reduceAdd, true_and, and_true, false_and, and_false, true_or, or_true, false_or, or_false, not_true_eq_false, not_false_eq_true, Option.bind_eq_bind, Option.bind_some, psh, eq_self, l_0, l_1, l_2, l_3, l_4, l_5, l_6, l_7, l_8, l_9, l_10, l_11, l_12, l_13, l_14, l_15, l_16, l_17, l_18, l_19, l_20, l_24, l_31, l_32, l_33, l_35, l_36, l_48, l_56, l_57, l_58, l_63, l_65, l_80, l_81, l_90, l_91, l_93, l_94, l_95, l_97, l_100, l_105, l_107, l_110, l_111, l_116, l_120, l_121, l_122, l_123, l_124, l_125, l_126, l_162, l_255, l_300, l_400, l_420, l_432, l_1000, l_1400, l_1936, l_2000, l_2100, l_2400, l_24000, m_n1, m_n2, m_n3, nI_mul, nI_add, nI_sub, nI_ltT, nI_ltF, nI_leT, nI_leF, nI_eqT, nI_eqF, nI_nM, nM_nI, nM_eq, nM_lt, nM_le, nI_ltM, nI_leM, nI_inT, nI_dec, pk_rem, nI_ltI, nI_leI, nI_eq, nI_clamp, Nat.add_assoc, q_bv51, Nat.add_left_cancel_iff, mdR_text d, mdK_text d, mdL_text d, mdR_blamed d, mdK_blamed d, mdL_blamed d, mdR_length d, mdK_length d, mdL_length d, mdR_isGone d, mdK_isGone d, mdL_isGone d, mdR_pageOf d, mdK_pageOf d, mdL_pageOf d, mdR_handOf d, mdK_handOf d, mdL_handOf d, mdR_begin d, mdK_begin d, mdL_begin d, mdR_went d, mdK_went d, mdL_went d, mdR_came d, mdK_came d, mdL_came d, mdR_nameAt d, mdK_nameAt d, mdL_nameAt d, mdR_nameLong d, mdK_nameLong d, mdL_nameLong d, mdR_tape d, mdK_tape d, mdL_tape d, mdR_out d, mdK_out d, mdL_out d, mdR_fold d, mdK_fold d, mdL_fold d, mdR_hand d, mdK_hand d, mdL_hand d, mdR_passed d, mdK_passed d, mdL_passed d, mdR_mark d, mdK_mark d, mdL_mark d, mdR_next d, mdK_next d, mdL_next d, mdR_goal d, mdK_goal d, mdL_goal d, mdR_foundPage d, mdK_foundPage d, mdL_foundPage d, mdR_pile d, mdK_pile d, mdL_pile d, mdR_place d, mdK_place d, mdL_place d, mdR_many d, mdK_many d, mdL_many d, mdR_word d, mdK_word d, mdL_word d, mdR_wordLong d, mdK_wordLong d, mdL_wordLong d, mdR_made d, mdK_made d, mdL_made d, mdR_list d, mdK_list d, mdL_list d, mdR_listLong d, mdK_listLong d, mdL_listLong d, mdR_steps d, mdK_steps d, mdL_steps d, d.1, x1]
  | succ j ih =>
    intro i h ou hi d he ho hl
    have x1 := he.1
    have h17 := ho.1
    have hdr : (nz x.1 ++ [10]).drop i = (nz x.1 ++ [10]).getD i 0 :: (nz x.1 ++ [10]).drop (i + 1) := drop_cons (by simp; omega)
    by_cases c : i = (nz x.1).length
    · have gi : (nz x.1 ++ [10]).getD i 0 = 10 := by rw [c, getD_append_ge (Nat.le_refl _), Nat.sub_self]; rfl
      rw [gi] at hdr
      have f1 : mf [17] [13] M h (pI (pA h (M + 13) (upd (hA h (M + 13)) ou.length (nI 10))) 17 M (nI (ou.length + 1))) := (mf.pA _ 13 _ (by decide)).tr (mf.pI _ 17 _ (by decide))
      obtain ⟨h', v3, e2, f2, o2⟩ := ih (i + 1) _ (ou ++ [10]) (by omega) (f1.d d) (he.keep f1 (by decide) (by decide) (by decide)) (ho.add (by omega) (by decide)) (by simp; omega)
      rw [hdr]
      rw [List.append_assoc] at o2
      refine ⟨h', v3, ?_, f1.tr f2, o2⟩
      rw [← e2, e_X11_tells_56]
      simp (decide := true) (disch := omega) only [e_X11_tells_57, e_X11_tells_58, e_X11_tells_61, e_X11_tells_62, e_X11_tells_63, e_X11_tells_66, e_X11_tells_67, e_X11_tells_70, e_X11_tells_71, e_X11_tells_74, e_X11_tells_75, e_X11_tells_76, e_X11_tells_79, e_X11_tells_80, e_X11_tells_81, e_X11_tells_84, e_X11_tells_86, e_X11_tells_89, e_X11_tells_90, e_X11_tells_93, e_X11_tells_95, e_X11_tells_96, e_X11_tells_97, e_X11_tells_98, e_X11_tells_99, e_X11_tells_100, e_X11_tells_101, e_X11_tells_102, e_X11_tells_103, e_X11_tells_106, e_X11_tells_107, e_X11_tells_108, e_X11_tells_111, e_X11_tells_114, ↓reduceIte, if_true, if_false, reduceCtorEq, Nat.reduceAdd, true_and, and_true, false_and, and_false, true_or, or_true, false_or, or_false, not_true_eq_false, not_false_eq_true, Option.bind_eq_bind, Option.bind_some, psh, eq_self, l_0, l_1, l_2, l_3, l_4, l_5, l_6, l_7, l_8, l_9, l_10, l_11, l_12, l_13, l_14, l_15, l_16, l_17, l_18, l_19, l_20, l_24, l_31, l_32, l_33, l_35, l_36, l_48, l_56, l_57, l_58, l_63, l_65, l_80, l_81, l_90, l_91, l_93, l_94, l_95, l_97, l_100, l_105, l_107, l_110, l_111, l_116, l_120, l_121, l_122, l_123, l_124, l_125, l_126, l_162, l_255, l_300, l_400, l_420, l_432, l_1000, l_1400, l_1936, l_2000, l_2100, l_2400, l_24000, m_n1, m_n2, m_n3, nI_mul, nI_add, nI_sub, nI_ltT, nI_ltF, nI_leT, nI_leF, nI_eqT, nI_eqF, nI_nM, nM_nI, nM_eq, nM_lt, nM_le, nI_ltM, nI_leM, nI_inT, nI_dec, pk_rem, nI_ltI, nI_leI, nI_eq, nI_clamp, Nat.add_assoc, q_bv51, Nat.add_left_cancel_iff, mdR_text d, mdK_text d, mdL_text d, mdR_blamed d, mdK_blamed d, mdL_blamed d, mdR_length d, mdK_length d, mdL_length d, mdR_isGone d, mdK_isGone d, mdL_isGone d, mdR_pageOf d, mdK_pageOf d, mdL_pageOf d, mdR_handOf d, mdK_handOf d, mdL_handOf d, mdR_begin d, mdK_begin d, mdL_begin d, mdR_went d, mdK_went d, mdL_went d, mdR_came d, mdK_came d, mdL_came d, mdR_nameAt d, mdK_nameAt d, mdL_nameAt d, mdR_nameLong d, mdK_nameLong d, mdL_nameLong d, mdR_tape d, mdK_tape d, mdL_tape d, mdR_out d, mdK_out d, mdL_out d, mdR_fold d, mdK_fold d, mdL_fold d, mdR_hand d, mdK_hand d, mdL_hand d, mdR_passed d, mdK_passed d, mdL_passed d, mdR_mark d, mdK_mark d, mdL_mark d, mdR_next d, mdK_next d, mdL_next d, mdR_goal d, mdK_goal d, mdL_goal d, mdR_foundPage d, mdK_foundPage d, mdL_foundPage d, mdR_pile d, mdK_pile d, mdL_pile d, mdR_place d, mdK_place d, mdL_place d, mdR_many d, mdK_many d, mdL_many d, mdR_word d, mdK_word d, mdL_word d, mdR_wordLong d, mdK_wordLong d, mdL_wordLong d, mdR_made d, mdK_made d, mdL_made d, mdR_list d, mdK_list d, mdL_list d, mdR_listLong d, mdK_listLong d, mdL_listLong d, mdR_steps d, mdK_steps d, mdL_steps d, d.1, x1, h17, u_hN_pI, u_hU_pI, u_hK_pI, u_hL_pI, u_hR_pI, u_hJ_pI, u_hA_pI, u_hB_pI, u_hS_pI, u_hN_pR, u_hU_pR, u_hK_pR, u_hL_pR, u_hI_pR, u_hJ_pR, u_hA_pR, u_hB_pR, u_hS_pR, u_hN_pJ, u_hU_pJ, u_hK_pJ, u_hL_pJ, u_hI_pJ, u_hR_pJ, u_hA_pJ, u_hB_pJ, u_hS_pJ, u_hN_pA, u_hU_pA, u_hK_pA, u_hL_pA, u_hI_pA, u_hR_pA, u_hJ_pA, u_hB_pA, u_hS_pA, u_hN_pB, u_hU_pB, u_hK_pB, u_hL_pB, u_hI_pB, u_hR_pB, u_hJ_pB, u_hA_pB, u_hS_pB, u_hL_nO, u_hA_nO, u_hB_nO, u_hS_nO, u_hI_nA, u_hR_nA, u_hJ_nA, u_hS_nA, u_II, u_RR, u_JJ, u_AA, u_BB, u_NO, u_UO, u_KO, u_IO, u_RO, u_JO, u_NN, u_UN, u_KN, u_LN, u_AN, u_BN]
    · have a1 := he.2.1 i (by omega)
      have b1 := hb.g i
      have gi : (nz x.1 ++ [10]).getD i 0 = (nz x.1).getD i 0 := getD_append_lt (by omega)
      rw [gi] at hdr
      have f1 : mf [17] [13] M h (pI (pA h (M + 13) (upd (hA h (M + 13)) ou.length (nI ((nz x.1).getD i 0)))) 17 M (nI (ou.length + 1))) := (mf.pA _ 13 _ (by decide)).tr (mf.pI _ 17 _ (by decide))
      obtain ⟨h', v3, e2, f2, o2⟩ := ih (i + 1) _ (ou ++ [(nz x.1).getD i 0]) (by omega) (f1.d d) (he.keep f1 (by decide) (by decide) (by decide)) (ho.add (by omega) b1) (by simp; omega)
      rw [hdr]
      rw [List.append_assoc] at o2
      refine ⟨h', v3, ?_, f1.tr f2, o2⟩
      rw [← e2, e_X11_tells_56]
      simp (decide := true) (disch := omega) only [e_X11_tells_57, e_X11_tells_58, e_X11_tells_61, e_X11_tells_62, e_X11_tells_63, e_X11_tells_66, e_X11_tells_67, e_X11_tells_70, e_X11_tells_71, e_X11_tells_74, e_X11_tells_75, e_X11_tells_76, e_X11_tells_79, e_X11_tells_80, e_X11_tells_81, e_X11_tells_84, e_X11_tells_86, e_X11_tells_89, e_X11_tells_90, e_X11_tells_93, e_X11_tells_95, e_X11_tells_96, e_X11_tells_97, e_X11_tells_98, e_X11_tells_99, e_X11_tells_100, e_X11_tells_101, e_X11_tells_102, e_X11_tells_103, e_X11_tells_106, e_X11_tells_107, e_X11_tells_108, e_X11_tells_111, e_X11_tells_114, ↓reduceIte, if_true, if_false, reduceCtorEq, Nat.reduceAdd, true_and, and_true, false_and, and_false, true_or, or_true, false_or, or_false, not_true_eq_false, not_false_eq_true, Option.bind_eq_bind, Option.bind_some, psh, eq_self, l_0, l_1, l_2, l_3, l_4, l_5, l_6, l_7, l_8, l_9, l_10, l_11, l_12, l_13, l_14, l_15, l_16, l_17, l_18, l_19, l_20, l_24, l_31, l_32, l_33, l_35, l_36, l_48, l_56, l_57, l_58, l_63, l_65, l_80, l_81, l_90, l_91, l_93, l_94, l_95, l_97, l_100, l_105, l_107, l_110, l_111, l_116, l_120, l_121, l_122, l_123, l_124, l_125, l_126, l_162, l_255, l_300, l_400, l_420, l_432, l_1000, l_1400, l_1936, l_2000, l_2100, l_2400, l_24000, m_n1, m_n2, m_n3, nI_mul, nI_add, nI_sub, nI_ltT, nI_ltF, nI_leT, nI_leF, nI_eqT, nI_eqF, nI_nM, nM_nI, nM_eq, nM_lt, nM_le, nI_ltM, nI_leM, nI_inT, nI_dec, pk_rem, nI_ltI, nI_leI, nI_eq, nI_clamp, Nat.add_assoc, q_bv51, Nat.add_left_cancel_iff, mdR_text d, mdK_text d, mdL_text d, mdR_blamed d, mdK_blamed d, mdL_blamed d, mdR_length d, mdK_length d, mdL_length d, mdR_isGone d, mdK_isGone d, mdL_isGone d, mdR_pageOf d, mdK_pageOf d, mdL_pageOf d, mdR_handOf d, mdK_handOf d, mdL_handOf d, mdR_begin d, mdK_begin d, mdL_begin d, mdR_went d, mdK_went d, mdL_went d, mdR_came d, mdK_came d, mdL_came d, mdR_nameAt d, mdK_nameAt d, mdL_nameAt d, mdR_nameLong d, mdK_nameLong d, mdL_nameLong d, mdR_tape d, mdK_tape d, mdL_tape d, mdR_out d, mdK_out d, mdL_out d, mdR_fold d, mdK_fold d, mdL_fold d, mdR_hand d, mdK_hand d, mdL_hand d, mdR_passed d, mdK_passed d, mdL_passed d, mdR_mark d, mdK_mark d, mdL_mark d, mdR_next d, mdK_next d, mdL_next d, mdR_goal d, mdK_goal d, mdL_goal d, mdR_foundPage d, mdK_foundPage d, mdL_foundPage d, mdR_pile d, mdK_pile d, mdL_pile d, mdR_place d, mdK_place d, mdL_place d, mdR_many d, mdK_many d, mdL_many d, mdR_word d, mdK_word d, mdL_word d, mdR_wordLong d, mdK_wordLong d, mdL_wordLong d, mdR_made d, mdK_made d, mdL_made d, mdR_list d, mdK_list d, mdL_list d, mdR_listLong d, mdK_listLong d, mdL_listLong d, mdR_steps d, mdK_steps d, mdL_steps d, d.1, x1, h17, a1, u_hN_pI, u_hU_pI, u_hK_pI, u_hL_pI, u_hR_pI, u_hJ_pI, u_hA_pI, u_hB_pI, u_hS_pI, u_hN_pR, u_hU_pR, u_hK_pR, u_hL_pR, u_hI_pR, u_hJ_pR, u_hA_pR, u_hB_pR, u_hS_pR, u_hN_pJ, u_hU_pJ, u_hK_pJ, u_hL_pJ, u_hI_pJ, u_hR_pJ, u_hA_pJ, u_hB_pJ, u_hS_pJ, u_hN_pA, u_hU_pA, u_hK_pA, u_hL_pA, u_hI_pA, u_hR_pA, u_hJ_pA, u_hB_pA, u_hS_pA, u_hN_pB, u_hU_pB, u_hK_pB, u_hL_pB, u_hI_pB, u_hR_pB, u_hJ_pB, u_hA_pB, u_hS_pB, u_hL_nO, u_hA_nO, u_hB_nO, u_hS_nO, u_hI_nA, u_hR_nA, u_hJ_nA, u_hS_nA, u_II, u_RR, u_JJ, u_AA, u_BB, u_NO, u_UO, u_KO, u_IO, u_RO, u_JO, u_NN, u_UN, u_KN, u_LN, u_AN, u_BN]
theorem m_tells_2 {g M : Nat} {L : List Le} {l1 : Option Value} : ∀ j k (h : PH) (ou : List Nat) (l3 : Option Value), j + k = L.length → md h M → mLs h M L → mOu h M ou → ou.length + tlB (L.drop k) ≤ 2000 →
    ∃ h', ev g mX11_tells 46 [some (va_rf (some M)), l1, some (.int (nI k)), l3] [] h = some (some (.int (nI L.length)), h') ∧ mf [17] [13] M h h' ∧ mOu h' M (ou ++ tlT (L.drop k)) := by
  intro j
  induction j with
  | zero =>
    intro k h ou l3 hk d hl ho hb
    obtain ⟨r1, r2, r3, r4⟩ := hl
    have : k = L.length := by omega
    subst this
    refine ⟨h, ?_, mf.rf _, by rw [List.drop_length]; simpa [tlT] using ho⟩
    rw [e_X11_tells_46]
    simp (decide := true) (disch := omega) only [e_X11_tells_47, e_X11_tells_48, e_X11_tells_51, e_X11_tells_54, e_X11_tells_55, e_X11_tells_57, e_X11_tells_58, e_X11_tells_61, e_X11_tells_62, e_X11_tells_63, e_X11_tells_66, e_X11_tells_67, e_X11_tells_70, e_X11_tells_71, e_X11_tells_74, e_X11_tells_75, e_X11_tells_76, e_X11_tells_79, e_X11_tells_80, e_X11_tells_81, e_X11_tells_84, e_X11_tells_86, e_X11_tells_89, e_X11_tells_90, e_X11_tells_93, e_X11_tells_95, e_X11_tells_96, e_X11_tells_97, e_X11_tells_98, e_X11_tells_99, e_X11_tells_100, e_X11_tells_101, e_X11_tells_102, e_X11_tells_103, e_X11_tells_106, e_X11_tells_107, e_X11_tells_108, e_X11_tells_111, e_X11_tells_114, e_X11_tells_117, e_X11_tells_120, e_X11_tells_123, e_X11_tells_124, e_X11_tells_127, ↓reduceIte, if_true, if_false, reduceCtorEq, Nat.reduceAdd, true_and, and_true, false_and, and_false, true_or, or_true, false_or, or_false, not_true_eq_false, not_false_eq_true, Option.bind_eq_bind, Option.bind_some, psh, eq_self, l_0, l_1, l_2, l_3, l_4, l_5, l_6, l_7, l_8, l_9, l_10, l_11, l_12, l_13, l_14, l_15, l_16, l_17, l_18, l_19, l_20, l_24, l_31, l_32, l_33, l_35, l_36, l_48, l_56, l_57, l_58, l_63, l_65, l_80, l_81, l_90, l_91, l_93, l_94, l_95, l_97, l_100, l_105, l_107, l_110, l_111, l_116, l_120, l_121, l_122, l_123, l_124, l_125, l_126, l_162, l_255, l_300, l_400, l_420, l_432, l_1000, l_1400, l_1936, l_2000, l_2100, l_2400, l_24000, m_n1, m_n2, m_n3, nI_mul, nI_add, nI_sub, nI_ltT, nI_ltF, nI_leT, nI_leF, nI_eqT, nI_eqF, nI_nM, nM_nI, nM_eq, nM_lt, nM_le, nI_ltM, nI_leM, nI_inT, nI_dec, pk_rem, nI_ltI, nI_leI, nI_eq, nI_clamp, Nat.add_assoc, q_bv51, Nat.add_left_cancel_iff, mdR_text d, mdK_text d, mdL_text d, mdR_blamed d, mdK_blamed d, mdL_blamed d, mdR_length d, mdK_length d, mdL_length d, mdR_isGone d, mdK_isGone d, mdL_isGone d, mdR_pageOf d, mdK_pageOf d, mdL_pageOf d, mdR_handOf d, mdK_handOf d, mdL_handOf d, mdR_begin d, mdK_begin d, mdL_begin d, mdR_went d, mdK_went d, mdL_went d, mdR_came d, mdK_came d, mdL_came d, mdR_nameAt d, mdK_nameAt d, mdL_nameAt d, mdR_nameLong d, mdK_nameLong d, mdL_nameLong d, mdR_tape d, mdK_tape d, mdL_tape d, mdR_out d, mdK_out d, mdL_out d, mdR_fold d, mdK_fold d, mdL_fold d, mdR_hand d, mdK_hand d, mdL_hand d, mdR_passed d, mdK_passed d, mdL_passed d, mdR_mark d, mdK_mark d, mdL_mark d, mdR_next d, mdK_next d, mdL_next d, mdR_goal d, mdK_goal d, mdL_goal d, mdR_foundPage d, mdK_foundPage d, mdL_foundPage d, mdR_pile d, mdK_pile d, mdL_pile d, mdR_place d, mdK_place d, mdL_place d, mdR_many d, mdK_many d, mdL_many d, mdR_word d, mdK_word d, mdL_word d, mdR_wordLong d, mdK_wordLong d, mdL_wordLong d, mdR_made d, mdK_made d, mdL_made d, mdR_list d, mdK_list d, mdL_list d, mdR_listLong d, mdK_listLong d, mdL_listLong d, mdR_steps d, mdK_steps d, mdL_steps d, d.1, r1]
  | succ j ih =>
    intro k h ou l3 hk d hl ho hb
    have hl0 := hl
    obtain ⟨r1, r2, r3, r4⟩ := hl
    have hk' : k < L.length := by omega
    have n1 := nz_len (r4 _ (Lmem hk')).1
    rw [tlB_drop hk'] at hb
    obtain ⟨h1, v3, e1, f1, o1⟩ := m_tells_3 (g := g) (M := M) (k := k) (x := L.getD k ld0) (l1 := l1) (by omega) (r4 _ (Lmem hk')).1 _ 0 h ou rfl d (r3 k hk') ho (by omega)
    rw [List.drop_zero] at o1
    have d1 := f1.d d
    obtain ⟨h2, e2, f2, o2⟩ := ih (k + 1) h1 _ v3 (by omega) d1 (hl0.keep f1 (by decide) (by decide) (by decide) (by decide)) o1 (by simp only [List.length_append, List.length_cons, List.length_nil]; omega)
    refine ⟨h2, ?_, f1.tr f2, ?_⟩
    · rw [← e2, e_X11_tells_46]
      simp (decide := true) (disch := omega) only [e_X11_tells_47, e_X11_tells_48, e_X11_tells_51, e_X11_tells_54, e_X11_tells_55, ↓reduceIte, if_true, if_false, reduceCtorEq, Nat.reduceAdd, true_and, and_true, false_and, and_false, true_or, or_true, false_or, or_false, not_true_eq_false, not_false_eq_true, Option.bind_eq_bind, Option.bind_some, psh, eq_self, l_0, l_1, l_2, l_3, l_4, l_5, l_6, l_7, l_8, l_9, l_10, l_11, l_12, l_13, l_14, l_15, l_16, l_17, l_18, l_19, l_20, l_24, l_31, l_32, l_33, l_35, l_36, l_48, l_56, l_57, l_58, l_63, l_65, l_80, l_81, l_90, l_91, l_93, l_94, l_95, l_97, l_100, l_105, l_107, l_110, l_111, l_116, l_120, l_121, l_122, l_123, l_124, l_125, l_126, l_162, l_255, l_300, l_400, l_420, l_432, l_1000, l_1400, l_1936, l_2000, l_2100, l_2400, l_24000, m_n1, m_n2, m_n3, nI_mul, nI_add, nI_sub, nI_ltT, nI_ltF, nI_leT, nI_leF, nI_eqT, nI_eqF, nI_nM, nM_nI, nM_eq, nM_lt, nM_le, nI_ltM, nI_leM, nI_inT, nI_dec, pk_rem, nI_ltI, nI_leI, nI_eq, nI_clamp, Nat.add_assoc, q_bv51, Nat.add_left_cancel_iff, mdR_text d, mdK_text d, mdL_text d, mdR_blamed d, mdK_blamed d, mdL_blamed d, mdR_length d, mdK_length d, mdL_length d, mdR_isGone d, mdK_isGone d, mdL_isGone d, mdR_pageOf d, mdK_pageOf d, mdL_pageOf d, mdR_handOf d, mdK_handOf d, mdL_handOf d, mdR_begin d, mdK_begin d, mdL_begin d, mdR_went d, mdK_went d, mdL_went d, mdR_came d, mdK_came d, mdL_came d, mdR_nameAt d, mdK_nameAt d, mdL_nameAt d, mdR_nameLong d, mdK_nameLong d, mdL_nameLong d, mdR_tape d, mdK_tape d, mdL_tape d, mdR_out d, mdK_out d, mdL_out d, mdR_fold d, mdK_fold d, mdL_fold d, mdR_hand d, mdK_hand d, mdL_hand d, mdR_passed d, mdK_passed d, mdL_passed d, mdR_mark d, mdK_mark d, mdL_mark d, mdR_next d, mdK_next d, mdL_next d, mdR_goal d, mdK_goal d, mdL_goal d, mdR_foundPage d, mdK_foundPage d, mdL_foundPage d, mdR_pile d, mdK_pile d, mdL_pile d, mdR_place d, mdK_place d, mdL_place d, mdR_many d, mdK_many d, mdL_many d, mdR_word d, mdK_word d, mdL_word d, mdR_wordLong d, mdK_wordLong d, mdL_wordLong d, mdR_made d, mdK_made d, mdL_made d, mdR_list d, mdK_list d, mdL_list d, mdR_listLong d, mdK_listLong d, mdL_listLong d, mdR_steps d, mdK_steps d, mdL_steps d, d.1, r1]
      rw [e1]
      simp (decide := true) (disch := omega) only [e_X11_tells_117, e_X11_tells_120, ↓reduceIte, if_true, if_false, reduceCtorEq, Nat.reduceAdd, true_and, and_true, false_and, and_false, true_or, or_true, false_or, or_false, not_true_eq_false, not_false_eq_true, Option.bind_eq_bind, Option.bind_some, psh, eq_self, l_0, l_1, l_2, l_3, l_4, l_5, l_6, l_7, l_8, l_9, l_10, l_11, l_12, l_13, l_14, l_15, l_16, l_17, l_18, l_19, l_20, l_24, l_31, l_32, l_33, l_35, l_36, l_48, l_56, l_57, l_58, l_63, l_65, l_80, l_81, l_90, l_91, l_93, l_94, l_95, l_97, l_100, l_105, l_107, l_110, l_111, l_116, l_120, l_121, l_122, l_123, l_124, l_125, l_126, l_162, l_255, l_300, l_400, l_420, l_432, l_1000, l_1400, l_1936, l_2000, l_2100, l_2400, l_24000, m_n1, m_n2, m_n3, nI_mul, nI_add, nI_sub, nI_ltT, nI_ltF, nI_leT, nI_leF, nI_eqT, nI_eqF, nI_nM, nM_nI, nM_eq, nM_lt, nM_le, nI_ltM, nI_leM, nI_inT, nI_dec, pk_rem, nI_ltI, nI_leI, nI_eq, nI_clamp, Nat.add_assoc, q_bv51, Nat.add_left_cancel_iff, mdR_text d1, mdK_text d1, mdL_text d1, mdR_blamed d1, mdK_blamed d1, mdL_blamed d1, mdR_length d1, mdK_length d1, mdL_length d1, mdR_isGone d1, mdK_isGone d1, mdL_isGone d1, mdR_pageOf d1, mdK_pageOf d1, mdL_pageOf d1, mdR_handOf d1, mdK_handOf d1, mdL_handOf d1, mdR_begin d1, mdK_begin d1, mdL_begin d1, mdR_went d1, mdK_went d1, mdL_went d1, mdR_came d1, mdK_came d1, mdL_came d1, mdR_nameAt d1, mdK_nameAt d1, mdL_nameAt d1, mdR_nameLong d1, mdK_nameLong d1, mdL_nameLong d1, mdR_tape d1, mdK_tape d1, mdL_tape d1, mdR_out d1, mdK_out d1, mdL_out d1, mdR_fold d1, mdK_fold d1, mdL_fold d1, mdR_hand d1, mdK_hand d1, mdL_hand d1, mdR_passed d1, mdK_passed d1, mdL_passed d1, mdR_mark d1, mdK_mark d1, mdL_mark d1, mdR_next d1, mdK_next d1, mdL_next d1, mdR_goal d1, mdK_goal d1, mdL_goal d1, mdR_foundPage d1, mdK_foundPage d1, mdL_foundPage d1, mdR_pile d1, mdK_pile d1, mdL_pile d1, mdR_place d1, mdK_place d1, mdL_place d1, mdR_many d1, mdK_many d1, mdL_many d1, mdR_word d1, mdK_word d1, mdL_word d1, mdR_wordLong d1, mdK_wordLong d1, mdL_wordLong d1, mdR_made d1, mdK_made d1, mdL_made d1, mdR_list d1, mdK_list d1, mdL_list d1, mdR_listLong d1, mdK_listLong d1, mdL_listLong d1, mdR_steps d1, mdK_steps d1, mdL_steps d1, d1.1]
    · rw [Ldrop hk']
      rw [List.append_assoc] at o2
      simpa [tlT] using o2
/-- the answer of a list, and OUT -/
def sTell (ou : List Nat) (L : List Le) : Int32 × List Nat := if 2000 < tlB L then (nM 2, ou) else (nI L.length, tlT L)
theorem m_tells {g M : Nat} {h : PH} {ou : List Nat} {L : List Le} (d : md h M) (hl : mLs h M L) (ho : mOu h M ou) :
    ∃ h', cal g mX11_tells [va_rf (some M)] h = some (some (.int (sTell ou L).1), h') ∧ mf [17] [13] M h h' ∧ mOu h' M (sTell ou L).2 := by
  rw [n_X11_tells]
  have e1 := m_tells_1 (g := g) (l3 := none) d hl L.length 0 0 rfl (Nat.le_refl _)
  rw [List.drop_zero, Nat.zero_add] at e1
  have hb := tlB_le (fun x hx => (hl.2.2.2 x hx).1)
  have hl2 := hl.2.1
  have hd : ev g mX11_tells 0 [some (va_rf (some M)), none, none, none] [] h = ev g mX11_tells 29 [some (va_rf (some M)), some (.int (nI (tlB L))), some (.int (nI L.length)), none] [] h := by
    rw [← e1]
    simp (decide := true) (disch := omega) only [e_X11_tells_0, e_X11_tells_1, e_X11_tells_2, e_X11_tells_3, ↓reduceIte, if_true, if_false, reduceCtorEq, Nat.reduceAdd, true_and, and_true, false_and, and_false, true_or, or_true, false_or, or_false, not_true_eq_false, not_false_eq_true, Option.bind_eq_bind, Option.bind_some, psh, eq_self, l_0, l_1, l_2, l_3, l_4, l_5, l_6, l_7, l_8, l_9, l_10, l_11, l_12, l_13, l_14, l_15, l_16, l_17, l_18, l_19, l_20, l_24, l_31, l_32, l_33, l_35, l_36, l_48, l_56, l_57, l_58, l_63, l_65, l_80, l_81, l_90, l_91, l_93, l_94, l_95, l_97, l_100, l_105, l_107, l_110, l_111, l_116, l_120, l_121, l_122, l_123, l_124, l_125, l_126, l_162, l_255, l_300, l_400, l_420, l_432, l_1000, l_1400, l_1936, l_2000, l_2100, l_2400, l_24000, m_n1, m_n2, m_n3, nI_mul, nI_add, nI_sub, nI_ltT, nI_ltF, nI_leT, nI_leF, nI_eqT, nI_eqF, nI_nM, nM_nI, nM_eq, nM_lt, nM_le, nI_ltM, nI_leM, nI_inT, nI_dec, pk_rem, nI_ltI, nI_leI, nI_eq, nI_clamp, Nat.add_assoc, q_bv51, Nat.add_left_cancel_iff, mdR_text d, mdK_text d, mdL_text d, mdR_blamed d, mdK_blamed d, mdL_blamed d, mdR_length d, mdK_length d, mdL_length d, mdR_isGone d, mdK_isGone d, mdL_isGone d, mdR_pageOf d, mdK_pageOf d, mdL_pageOf d, mdR_handOf d, mdK_handOf d, mdL_handOf d, mdR_begin d, mdK_begin d, mdL_begin d, mdR_went d, mdK_went d, mdL_went d, mdR_came d, mdK_came d, mdL_came d, mdR_nameAt d, mdK_nameAt d, mdL_nameAt d, mdR_nameLong d, mdK_nameLong d, mdL_nameLong d, mdR_tape d, mdK_tape d, mdL_tape d, mdR_out d, mdK_out d, mdL_out d, mdR_fold d, mdK_fold d, mdL_fold d, mdR_hand d, mdK_hand d, mdL_hand d, mdR_passed d, mdK_passed d, mdL_passed d, mdR_mark d, mdK_mark d, mdL_mark d, mdR_next d, mdK_next d, mdL_next d, mdR_goal d, mdK_goal d, mdL_goal d, mdR_foundPage d, mdK_foundPage d, mdL_foundPage d, mdR_pile d, mdK_pile d, mdL_pile d, mdR_place d, mdK_place d, mdL_place d, mdR_many d, mdK_many d, mdL_many d, mdR_word d, mdK_word d, mdL_word d, mdR_wordLong d, mdK_wordLong d, mdL_wordLong d, mdR_made d, mdK_made d, mdL_made d, mdR_list d, mdK_list d, mdL_list d, mdR_listLong d, mdK_listLong d, mdL_listLong d, mdR_steps d, mdK_steps d, mdL_steps d, d.1]
  rw [hd]
  unfold sTell
  by_cases c : 2000 < tlB L
  · rw [if_pos c]
    simp (decide := true) (disch := omega) only [e_X11_tells_29, e_X11_tells_30, e_X11_tells_33, e_X11_tells_36, e_X11_tells_38, ↓reduceIte, if_true, if_false, reduceCtorEq, Nat.reduceAdd, true_and, and_true, false_and, and_false, true_or, or_true, false_or, or_false, not_true_eq_false, not_false_eq_true, Option.bind_eq_bind, Option.bind_some, psh, eq_self, l_0, l_1, l_2, l_3, l_4, l_5, l_6, l_7, l_8, l_9, l_10, l_11, l_12, l_13, l_14, l_15, l_16, l_17, l_18, l_19, l_20, l_24, l_31, l_32, l_33, l_35, l_36, l_48, l_56, l_57, l_58, l_63, l_65, l_80, l_81, l_90, l_91, l_93, l_94, l_95, l_97, l_100, l_105, l_107, l_110, l_111, l_116, l_120, l_121, l_122, l_123, l_124, l_125, l_126, l_162, l_255, l_300, l_400, l_420, l_432, l_1000, l_1400, l_1936, l_2000, l_2100, l_2400, l_24000, m_n1, m_n2, m_n3, nI_mul, nI_add, nI_sub, nI_ltT, nI_ltF, nI_leT, nI_leF, nI_eqT, nI_eqF, nI_nM, nM_nI, nM_eq, nM_lt, nM_le, nI_ltM, nI_leM, nI_inT, nI_dec, pk_rem, nI_ltI, nI_leI, nI_eq, nI_clamp, Nat.add_assoc, q_bv51, Nat.add_left_cancel_iff, mdR_text d, mdK_text d, mdL_text d, mdR_blamed d, mdK_blamed d, mdL_blamed d, mdR_length d, mdK_length d, mdL_length d, mdR_isGone d, mdK_isGone d, mdL_isGone d, mdR_pageOf d, mdK_pageOf d, mdL_pageOf d, mdR_handOf d, mdK_handOf d, mdL_handOf d, mdR_begin d, mdK_begin d, mdL_begin d, mdR_went d, mdK_went d, mdL_went d, mdR_came d, mdK_came d, mdL_came d, mdR_nameAt d, mdK_nameAt d, mdL_nameAt d, mdR_nameLong d, mdK_nameLong d, mdL_nameLong d, mdR_tape d, mdK_tape d, mdL_tape d, mdR_out d, mdK_out d, mdL_out d, mdR_fold d, mdK_fold d, mdL_fold d, mdR_hand d, mdK_hand d, mdL_hand d, mdR_passed d, mdK_passed d, mdL_passed d, mdR_mark d, mdK_mark d, mdL_mark d, mdR_next d, mdK_next d, mdL_next d, mdR_goal d, mdK_goal d, mdL_goal d, mdR_foundPage d, mdK_foundPage d, mdL_foundPage d, mdR_pile d, mdK_pile d, mdL_pile d, mdR_place d, mdK_place d, mdL_place d, mdR_many d, mdK_many d, mdL_many d, mdR_word d, mdK_word d, mdL_word d, mdR_wordLong d, mdK_wordLong d, mdL_wordLong d, mdR_made d, mdK_made d, mdL_made d, mdR_list d, mdK_list d, mdL_list d, mdR_listLong d, mdK_listLong d, mdL_listLong d, mdR_steps d, mdK_steps d, mdL_steps d, d.1]
    exact ⟨h, rfl, mf.rf _, ho⟩
  · rw [if_neg c]
    have f1 : mf [17] [13] M h (pI h 17 M (nI 0)) := mf.pI _ 17 _ (by decide)
    have o1 : mOu (pI h 17 M (nI 0)) M [] := ⟨by simp only [u_hN_pI, u_hU_pI, u_hK_pI, u_hL_pI, u_hR_pI, u_hJ_pI, u_hA_pI, u_hB_pI, u_hS_pI, u_hN_pR, u_hU_pR, u_hK_pR, u_hL_pR, u_hI_pR, u_hJ_pR, u_hA_pR, u_hB_pR, u_hS_pR, u_hN_pJ, u_hU_pJ, u_hK_pJ, u_hL_pJ, u_hI_pJ, u_hR_pJ, u_hA_pJ, u_hB_pJ, u_hS_pJ, u_hN_pA, u_hU_pA, u_hK_pA, u_hL_pA, u_hI_pA, u_hR_pA, u_hJ_pA, u_hB_pA, u_hS_pA, u_hN_pB, u_hU_pB, u_hK_pB, u_hL_pB, u_hI_pB, u_hR_pB, u_hJ_pB, u_hA_pB, u_hS_pB, u_hL_nO, u_hA_nO, u_hB_nO, u_hS_nO, u_hI_nA, u_hR_nA, u_hJ_nA, u_hS_nA, u_II, u_RR, u_JJ, u_AA, u_BB, u_NO, u_UO, u_KO, u_IO, u_RO, u_JO, u_NN, u_UN, u_KN, u_LN, u_AN, u_BN, if_true]; rfl, fun k hk => absurd hk (Nat.not_lt_zero _), Nat.zero_le _, fun x hx => absurd hx List.not_mem_nil⟩
    obtain ⟨h2, e2, f2, o2⟩ := m_tells_2 (g := g) (M := M) (L := L) (l1 := some (.int (nI (tlB L)))) L.length 0 _ [] none rfl (f1.d d) (hl.keep f1 (by decide) (by decide) (by decide) (by decide)) o1 (by rw [List.drop_zero, List.length_nil]; omega)
    rw [List.drop_zero, List.nil_append] at o2
    refine ⟨h2, ?_, f1.tr f2, o2⟩
    rw [← e2]
    simp (decide := true) (disch := omega) only [e_X11_tells_29, e_X11_tells_30, e_X11_tells_33, e_X11_tells_36, e_X11_tells_38, e_X11_tells_39, e_X11_tells_40, e_X11_tells_41, e_X11_tells_44, e_X11_tells_45, ↓reduceIte, if_true, if_false, reduceCtorEq, Nat.reduceAdd, true_and, and_true, false_and, and_false, true_or, or_true, false_or, or_false, not_true_eq_false, not_false_eq_true, Option.bind_eq_bind, Option.bind_some, psh, eq_self, l_0, l_1, l_2, l_3, l_4, l_5, l_6, l_7, l_8, l_9, l_10, l_11, l_12, l_13, l_14, l_15, l_16, l_17, l_18, l_19, l_20, l_24, l_31, l_32, l_33, l_35, l_36, l_48, l_56, l_57, l_58, l_63, l_65, l_80, l_81, l_90, l_91, l_93, l_94, l_95, l_97, l_100, l_105, l_107, l_110, l_111, l_116, l_120, l_121, l_122, l_123, l_124, l_125, l_126, l_162, l_255, l_300, l_400, l_420, l_432, l_1000, l_1400, l_1936, l_2000, l_2100, l_2400, l_24000, m_n1, m_n2, m_n3, nI_mul, nI_add, nI_sub, nI_ltT, nI_ltF, nI_leT, nI_leF, nI_eqT, nI_eqF, nI_nM, nM_nI, nM_eq, nM_lt, nM_le, nI_ltM, nI_leM, nI_inT, nI_dec, pk_rem, nI_ltI, nI_leI, nI_eq, nI_clamp, Nat.add_assoc, q_bv51, Nat.add_left_cancel_iff, mdR_text d, mdK_text d, mdL_text d, mdR_blamed d, mdK_blamed d, mdL_blamed d, mdR_length d, mdK_length d, mdL_length d, mdR_isGone d, mdK_isGone d, mdL_isGone d, mdR_pageOf d, mdK_pageOf d, mdL_pageOf d, mdR_handOf d, mdK_handOf d, mdL_handOf d, mdR_begin d, mdK_begin d, mdL_begin d, mdR_went d, mdK_went d, mdL_went d, mdR_came d, mdK_came d, mdL_came d, mdR_nameAt d, mdK_nameAt d, mdL_nameAt d, mdR_nameLong d, mdK_nameLong d, mdL_nameLong d, mdR_tape d, mdK_tape d, mdL_tape d, mdR_out d, mdK_out d, mdL_out d, mdR_fold d, mdK_fold d, mdL_fold d, mdR_hand d, mdK_hand d, mdL_hand d, mdR_passed d, mdK_passed d, mdL_passed d, mdR_mark d, mdK_mark d, mdL_mark d, mdR_next d, mdK_next d, mdL_next d, mdR_goal d, mdK_goal d, mdL_goal d, mdR_foundPage d, mdK_foundPage d, mdL_foundPage d, mdR_pile d, mdK_pile d, mdL_pile d, mdR_place d, mdK_place d, mdL_place d, mdR_many d, mdK_many d, mdL_many d, mdR_word d, mdK_word d, mdL_word d, mdR_wordLong d, mdK_wordLong d, mdL_wordLong d, mdR_made d, mdK_made d, mdL_made d, mdR_list d, mdK_list d, mdL_list d, mdR_listLong d, mdK_listLong d, mdL_listLong d, mdR_steps d, mdK_steps d, mdL_steps d, d.1]
/-! all NAMES that are linked, and why a list is never full -/
def lnk (t : List Nat) : List Nm := (tkl t).filterMap (fun e => match e.2 with | none => none | some r => some r.2.2.2)
def lnkA (ch : Nat → Ch) (nn T : Nat) : List Nm := (List.range nn).flatMap (fun p => lnk (wasT ch p T))
theorem lnk_len' {t : List Nat} : ∀ k i, i ≤ t.length → 5 * ((tks t k i).filterMap (fun e => match e.2 with | none => none | some r => some r.2.2.2)).length ≤ t.length - i
  | 0, i, _ => by simp [tks]
  | k + 1, i, h => by
    rw [tks]
    split
    · rename_i c
      have h2 := nxt_gt t i
      have h3 := nxt_le c
      have h4 := lnk_len' (t := t) k (nxt t i) h3
      rw [List.filterMap_cons]
      unfold nxt at h2 h3 h4
      unfold nxt
      cases e : tok t i with
      | none =>
        rw [e] at h2 h3 h4
        simp only at h2 h3 h4 ⊢
        omega
      | some r =>
        obtain ⟨s, j, b, q⟩ := r
        have := tok_len9 e
        rw [e] at h2 h3 h4
        simp only at h2 h3 h4 ⊢
        simp only [List.length_cons]
        omega
    · simp
theorem lnk_len (t : List Nat) : 5 * (lnk t).length ≤ t.length := by
  have := lnk_len' (t := t) t.length 0 (Nat.zero_le _)
  unfold lnk tkl
  omega
theorem lnkA_len {ch : Nat → Ch} {nn T : Nat} (h : ∀ p, p < nn → (wasT ch p T).length ≤ 300) : (lnkA ch nn T).length ≤ 60 * nn := by
  unfold lnkA
  induction nn with
  | zero => simp
  | succ nn ih =>
    rw [List.range_succ, List.flatMap_append, List.length_append]
    have h1 := ih (fun p hp => h p (by omega))
    have h2 := lnk_len (wasT ch nn T)
    have h3 := h nn (by omega)
    simp only [List.flatMap_cons, List.flatMap_nil, List.append_nil]
    omega
theorem nodup_sub {α : Type} [DecidableEq α] : ∀ {l m : List α}, l.Nodup → (∀ x ∈ l, x ∈ m) → l.length ≤ m.length
  | [], m, _, _ => Nat.zero_le _
  | a :: l, m, hd, h => by
    obtain ⟨h1, h2⟩ := List.nodup_cons.mp hd
    have h3 := h a List.mem_cons_self
    have h4 := nodup_sub (m := m.erase a) h2 (fun x hx => by
      have : x ≠ a := fun z => h1 (z ▸ hx)
      exact (List.mem_erase_of_ne this).mpr (h x (List.mem_cons_of_mem _ hx)))
    have h5 := List.length_erase_of_mem h3
    have h6 := List.length_pos_of_mem h3
    simp only [List.length_cons]
    omega
/-- a list of NAMES out of A, none twice -/
def lsN (A : List Nm) (L : List Le) : Prop := (L.map Prod.fst).Nodup ∧ ∀ x ∈ L, x.1 ∈ A
theorem lsA_mem {L : List Le} {x y : Le} : y ∈ lsA L x ↔ y ∈ L ∨ (y = x ∧ ¬ x.1 ∈ L.map Prod.fst) := by
  unfold lsA
  by_cases c : x.1 ∈ L.map Prod.fst
  · rw [if_pos c]
    simp [c]
  · rw [if_neg c, List.mem_append, List.mem_cons]
    constructor
    · rintro (z | z | z)
      · exact Or.inl (List.mem_of_mem_take z)
      · exact Or.inr ⟨z, c⟩
      · exact Or.inl (List.mem_of_mem_drop z)
    · rintro (z | z)
      · rw [← List.take_append_drop (lsp L x L.length) L] at z
        rcases List.mem_append.mp z with z | z
        · exact Or.inl z
        · exact Or.inr (Or.inr z)
      · exact Or.inr (Or.inl z.1)
theorem lsA_N {A : List Nm} {L : List Le} {x : Le} (h : lsN A L) (hx : x.1 ∈ A) : lsN A (lsA L x) := by
  refine ⟨?_, fun y hy => ?_⟩
  · unfold lsA
    by_cases c : x.1 ∈ L.map Prod.fst
    · rw [if_pos c]; exact h.1
    · rw [if_neg c]
      have e : L.map Prod.fst = (L.take (lsp L x L.length)).map Prod.fst ++ (L.drop (lsp L x L.length)).map Prod.fst := by rw [← List.map_append, List.take_append_drop]
      have h1 := h.1
      rw [e] at h1 c
      rw [List.map_append, List.map_cons]
      rw [List.nodup_append] at h1 ⊢
      obtain ⟨a1, a2, a3⟩ := h1
      refine ⟨a1, List.nodup_cons.mpr ⟨fun z => c (List.mem_append_right _ z), a2⟩, fun u hu v hv => ?_⟩
      rcases List.mem_cons.mp hv with z | z
      · intro w
        exact c (List.mem_append_left _ (by rw [← z, ← w]; exact hu))
      · exact a3 u hu v z
  · rcases lsA_mem.mp hy with z | z
    · exact h.2 y z
    · rw [z.1]; exact hx
theorem lsN_lt {A : List Nm} {L : List Le} {q : Nm} (h : lsN A L) (hq : q ∈ A) (hA : A.length ≤ 960) (c : ¬ q ∈ L.map Prod.fst) : L.length < 1000 := by
  have := nodup_sub (l := q :: L.map Prod.fst) (m := A) (List.nodup_cons.mpr ⟨c, h.1⟩) (fun x hx => by
    rcases List.mem_cons.mp hx with z | z
    · rw [z]; exact hq
    · obtain ⟨y, hy, e⟩ := List.mem_map.mp z
      rw [← e]; exact h.2 y hy)
  simp at this
  omega
theorem tks_lnk {t : List Nat} {q : Nm} {s j b : Nat} : ∀ k i x, (x, some (s, j, b, q)) ∈ tks t k i → q ∈ (tks t k i).filterMap (fun e => match e.2 with | none => none | some r => some r.2.2.2) := by
  intro k i x hx
  exact List.mem_filterMap.mpr ⟨_, hx, rfl⟩
theorem lnkA_mem {ch : Nat → Ch} {nn T p : Nat} {q : Nm} (hp : p < nn) (hq : q ∈ lnk (wasT ch p T)) : q ∈ lnkA ch nn T := List.mem_flatMap.mpr ⟨p, List.mem_range.mpr hp, hq⟩
/-- the tokens from i on are among all -/
theorem tks_suf {t : List Nat} : ∀ {k i : Nat} {e : Tk}, e ∈ tks t k (nxt t i) → i < t.length → e ∈ tks t (k + 1) i := by
  intro k i e he hi
  rw [tks, if_pos hi]
  exact List.mem_cons_of_mem _ he
/-- LINKS that are wanted -/
def wt1 (ch : Nat → Ch) (nm : Nat → Nm) (nn T : Nat) (L : List Le) (e : Tk) : List Le := match e.2 with
  | none => L
  | some (s, _, _, q) => if s = 1 ∧ q.1 = false ∧ pof ch nm nn q T = none then lsA L (q, 0) else L
/-- KINDS that a TEXT puts its page into -/
def kn1 (st : Nat) (L : List Le) (e : Tk) : List Le := match e.2 with
  | none => L
  | some (s, _, _, q) => if s = 1 ∧ q.1 = true then lsA L (q, st) else L
abbrev kF : List Nat := [19, 20, 24, 25, 26, 27, 28, 45]
abbrev kA : List Nat := [14, 27, 28, 29]
theorem wasT_eq {ch : Nat → Ch} {p T c : Nat} (h : thr ch p T = some c) : wasT ch p T = ct (ch c) := by unfold wasT; rw [h]
theorem m_kindsAt_loop {g M n c st : Nat} {ch : Nat → Ch} {A : List Nm} {l1 : Option Value} (hst : st ≤ 2000) (hA : A.length ≤ 960) (hc1 : 1 ≤ c) (hcn : c ≤ n) (hAq : ∀ q ∈ lnk (ct (ch c)), q ∈ A) :
    ∀ m i (h : PH) (L : List Le), (ct (ch c)).length ≤ i + m → i ≤ (ct (ch c)).length → (∀ e ∈ tks (ct (ch c)) m i, e ∈ tkl (ct (ch c))) → md h M → mCh h M n ch → mLs h M L → lsN A L →
    ∃ h', ev g mX11_kindsAt 13 [some (va_rf (some M)), l1, some (.int (nI st)), some (.int (nI c)), some (.int (nI i))] [] h = some (none, h') ∧ mf kF kA M h h' ∧ mLs h' M ((tks (ct (ch c)) m i).foldl (kn1 st) L) ∧ lsN A ((tks (ct (ch c)) m i).foldl (kn1 st) L) := by
  intro m
  induction m with
  | zero =>
    intro i h L h1 h2 hsub d hc hl hN
    have hn := hc.2.1
    obtain ⟨⟨c1, c2, c3, c4, c5⟩, c6, -⟩ := hc.2.2 c hc1 hcn
    have : i = (ct (ch c)).length := by omega
    subst this
    refine ⟨h, ?_, mf.rf _, hl, hN⟩
    rw [e_X11_kindsAt_13]
    simp (decide := true) (disch := omega) only [e_X11_kindsAt_15, e_X11_kindsAt_16, e_X11_kindsAt_19, e_X11_kindsAt_20, e_X11_kindsAt_21, e_X11_kindsAt_24, e_X11_kindsAt_25, e_X11_kindsAt_26, e_X11_kindsAt_28, e_X11_kindsAt_31, e_X11_kindsAt_32, e_X11_kindsAt_35, e_X11_kindsAt_36, e_X11_kindsAt_39, e_X11_kindsAt_40, e_X11_kindsAt_43, e_X11_kindsAt_46, e_X11_kindsAt_47, e_X11_kindsAt_48, e_X11_kindsAt_51, e_X11_kindsAt_52, e_X11_kindsAt_53, e_X11_kindsAt_56, e_X11_kindsAt_58, e_X11_kindsAt_61, ↓reduceIte, if_true, if_false, reduceCtorEq, Nat.reduceAdd, true_and, and_true, false_and, and_false, true_or, or_true, false_or, or_false, not_true_eq_false, not_false_eq_true, Option.bind_eq_bind, Option.bind_some, psh, eq_self, l_0, l_1, l_2, l_3, l_4, l_5, l_6, l_7, l_8, l_9, l_10, l_11, l_12, l_13, l_14, l_15, l_16, l_17, l_18, l_19, l_20, l_24, l_31, l_32, l_33, l_35, l_36, l_48, l_56, l_57, l_58, l_63, l_65, l_80, l_81, l_90, l_91, l_93, l_94, l_95, l_97, l_100, l_105, l_107, l_110, l_111, l_116, l_120, l_121, l_122, l_123, l_124, l_125, l_126, l_162, l_255, l_300, l_400, l_420, l_432, l_1000, l_1400, l_1936, l_2000, l_2100, l_2400, l_24000, m_n1, m_n2, m_n3, nI_mul, nI_add, nI_sub, nI_ltT, nI_ltF, nI_leT, nI_leF, nI_eqT, nI_eqF, nI_nM, nM_nI, nM_eq, nM_lt, nM_le, nI_ltM, nI_leM, nI_inT, nI_dec, pk_rem, nI_ltI, nI_leI, nI_eq, nI_clamp, Nat.add_assoc, q_bv51, Nat.add_left_cancel_iff, mdR_text d, mdK_text d, mdL_text d, mdR_blamed d, mdK_blamed d, mdL_blamed d, mdR_length d, mdK_length d, mdL_length d, mdR_isGone d, mdK_isGone d, mdL_isGone d, mdR_pageOf d, mdK_pageOf d, mdL_pageOf d, mdR_handOf d, mdK_handOf d, mdL_handOf d, mdR_begin d, mdK_begin d, mdL_begin d, mdR_went d, mdK_went d, mdL_went d, mdR_came d, mdK_came d, mdL_came d, mdR_nameAt d, mdK_nameAt d, mdL_nameAt d, mdR_nameLong d, mdK_nameLong d, mdL_nameLong d, mdR_tape d, mdK_tape d, mdL_tape d, mdR_out d, mdK_out d, mdL_out d, mdR_fold d, mdK_fold d, mdL_fold d, mdR_hand d, mdK_hand d, mdL_hand d, mdR_passed d, mdK_passed d, mdL_passed d, mdR_mark d, mdK_mark d, mdL_mark d, mdR_next d, mdK_next d, mdL_next d, mdR_goal d, mdK_goal d, mdL_goal d, mdR_foundPage d, mdK_foundPage d, mdL_foundPage d, mdR_pile d, mdK_pile d, mdL_pile d, mdR_place d, mdK_place d, mdL_place d, mdR_many d, mdK_many d, mdL_many d, mdR_word d, mdK_word d, mdL_word d, mdR_wordLong d, mdK_wordLong d, mdL_wordLong d, mdR_made d, mdK_made d, mdL_made d, mdR_list d, mdK_list d, mdL_list d, mdR_listLong d, mdK_listLong d, mdL_listLong d, mdR_steps d, mdK_steps d, mdL_steps d, d.1, c6]
  | succ m ih =>
    intro i h L h1 h2 hsub d hc hl hN
    have hn := hc.2.1
    obtain ⟨⟨c1, c2, c3, c4, c5⟩, c6, -⟩ := hc.2.2 c hc1 hcn
    by_cases ci : i < (ct (ch c)).length
    · obtain ⟨h1', e1, f1, r1⟩ := m_reads (g := g) (i := i) d (by omega) c1 c6 c5 c4 ci
      have d1 := f1.d d
      have f1' := f1.mono (F' := kF) (A' := kA) (by decide) (by decide)
      have hng := nxt_gt (ct (ch c)) i
      have hnl := nxt_le ci
      have hl1 := hl.keep f1 (by decide) (by decide) (by decide) (by decide)
      rw [tks, if_pos ci, List.foldl_cons]
      have hin : (i, tok (ct (ch c)) i) ∈ tkl (ct (ch c)) := hsub _ (by rw [tks, if_pos ci]; exact List.mem_cons_self)
      have go : ∀ (h2 : PH) (L2 : List Le), mf kF kA M h h2 → mLs h2 M L2 → lsN A L2 → kn1 st L (i, tok (ct (ch c)) i) = L2 → hI h2 25 M = nI (nxt (ct (ch c)) i) → ev g mX11_kindsAt 13 [some (va_rf (some M)), l1, some (.int (nI st)), some (.int (nI c)), some (.int (nI i))] [] h = ev g mX11_kindsAt 52 [some (va_rf (some M)), l1, some (.int (nI st)), some (.int (nI c)), some (.int (nI i))] [] h2 → ∃ h', ev g mX11_kindsAt 13 [some (va_rf (some M)), l1, some (.int (nI st)), some (.int (nI c)), some (.int (nI i))] [] h = some (none, h') ∧ mf kF kA M h h' ∧ mLs h' M ((tks (ct (ch c)) m (nxt (ct (ch c)) i)).foldl (kn1 st) (kn1 st L (i, tok (ct (ch c)) i))) ∧ lsN A ((tks (ct (ch c)) m (nxt (ct (ch c)) i)).foldl (kn1 st) (kn1 st L (i, tok (ct (ch c)) i))) := by
        intro h2 L2 f2 l2 n2 ek h25 e2
        obtain ⟨h3, e3, f3, l3, n3⟩ := ih (nxt (ct (ch c)) i) h2 L2 (by omega) hnl (fun e he => hsub e (tks_suf he ci)) (f2.d d) (hc.kp f2 (by decide) (by decide)) l2 n2
        rw [ek]
        refine ⟨h3, ?_, f2.tr f3, l3, n3⟩
        have d2 := f2.d d
        rw [e2, ← e3]
        simp (decide := true) (disch := omega) only [e_X11_kindsAt_52, e_X11_kindsAt_53, e_X11_kindsAt_56, e_X11_kindsAt_58, ↓reduceIte, if_true, if_false, reduceCtorEq, Nat.reduceAdd, true_and, and_true, false_and, and_false, true_or, or_true, false_or, or_false, not_true_eq_false, not_false_eq_true, Option.bind_eq_bind, Option.bind_some, psh, eq_self, l_0, l_1, l_2, l_3, l_4, l_5, l_6, l_7, l_8, l_9, l_10, l_11, l_12, l_13, l_14, l_15, l_16, l_17, l_18, l_19, l_20, l_24, l_31, l_32, l_33, l_35, l_36, l_48, l_56, l_57, l_58, l_63, l_65, l_80, l_81, l_90, l_91, l_93, l_94, l_95, l_97, l_100, l_105, l_107, l_110, l_111, l_116, l_120, l_121, l_122, l_123, l_124, l_125, l_126, l_162, l_255, l_300, l_400, l_420, l_432, l_1000, l_1400, l_1936, l_2000, l_2100, l_2400, l_24000, m_n1, m_n2, m_n3, nI_mul, nI_add, nI_sub, nI_ltT, nI_ltF, nI_leT, nI_leF, nI_eqT, nI_eqF, nI_nM, nM_nI, nM_eq, nM_lt, nM_le, nI_ltM, nI_leM, nI_inT, nI_dec, pk_rem, nI_ltI, nI_leI, nI_eq, nI_clamp, Nat.add_assoc, q_bv51, Nat.add_left_cancel_iff, mdR_text d2, mdK_text d2, mdL_text d2, mdR_blamed d2, mdK_blamed d2, mdL_blamed d2, mdR_length d2, mdK_length d2, mdL_length d2, mdR_isGone d2, mdK_isGone d2, mdL_isGone d2, mdR_pageOf d2, mdK_pageOf d2, mdL_pageOf d2, mdR_handOf d2, mdK_handOf d2, mdL_handOf d2, mdR_begin d2, mdK_begin d2, mdL_begin d2, mdR_went d2, mdK_went d2, mdL_went d2, mdR_came d2, mdK_came d2, mdL_came d2, mdR_nameAt d2, mdK_nameAt d2, mdL_nameAt d2, mdR_nameLong d2, mdK_nameLong d2, mdL_nameLong d2, mdR_tape d2, mdK_tape d2, mdL_tape d2, mdR_out d2, mdK_out d2, mdL_out d2, mdR_fold d2, mdK_fold d2, mdL_fold d2, mdR_hand d2, mdK_hand d2, mdL_hand d2, mdR_passed d2, mdK_passed d2, mdL_passed d2, mdR_mark d2, mdK_mark d2, mdL_mark d2, mdR_next d2, mdK_next d2, mdL_next d2, mdR_goal d2, mdK_goal d2, mdL_goal d2, mdR_foundPage d2, mdK_foundPage d2, mdL_foundPage d2, mdR_pile d2, mdK_pile d2, mdL_pile d2, mdR_place d2, mdK_place d2, mdL_place d2, mdR_many d2, mdK_many d2, mdL_many d2, mdR_word d2, mdK_word d2, mdL_word d2, mdR_wordLong d2, mdK_wordLong d2, mdL_wordLong d2, mdR_made d2, mdK_made d2, mdL_made d2, mdR_list d2, mdK_list d2, mdL_list d2, mdR_listLong d2, mdK_listLong d2, mdL_listLong d2, mdR_steps d2, mdK_steps d2, mdL_steps d2, d2.1, h25]
      unfold rds at r1
      cases et : tok (ct (ch c)) i with
      | none =>
        rw [et] at r1 go
        obtain ⟨r24, r25⟩ := r1
        have en' : nxt (ct (ch c)) i = i + 1 := by unfold nxt; rw [et]
        refine go h1' L f1' hl1 hN rfl (by rw [en']; exact r25) ?_
        rw [e_X11_kindsAt_13]
        simp (decide := true) (disch := omega) only [e_X11_kindsAt_15, e_X11_kindsAt_16, e_X11_kindsAt_19, e_X11_kindsAt_20, e_X11_kindsAt_21, e_X11_kindsAt_24, e_X11_kindsAt_25, e_X11_kindsAt_26, e_X11_kindsAt_28, ↓reduceIte, if_true, if_false, reduceCtorEq, Nat.reduceAdd, true_and, and_true, false_and, and_false, true_or, or_true, false_or, or_false, not_true_eq_false, not_false_eq_true, Option.bind_eq_bind, Option.bind_some, psh, eq_self, l_0, l_1, l_2, l_3, l_4, l_5, l_6, l_7, l_8, l_9, l_10, l_11, l_12, l_13, l_14, l_15, l_16, l_17, l_18, l_19, l_20, l_24, l_31, l_32, l_33, l_35, l_36, l_48, l_56, l_57, l_58, l_63, l_65, l_80, l_81, l_90, l_91, l_93, l_94, l_95, l_97, l_100, l_105, l_107, l_110, l_111, l_116, l_120, l_121, l_122, l_123, l_124, l_125, l_126, l_162, l_255, l_300, l_400, l_420, l_432, l_1000, l_1400, l_1936, l_2000, l_2100, l_2400, l_24000, m_n1, m_n2, m_n3, nI_mul, nI_add, nI_sub, nI_ltT, nI_ltF, nI_leT, nI_leF, nI_eqT, nI_eqF, nI_nM, nM_nI, nM_eq, nM_lt, nM_le, nI_ltM, nI_leM, nI_inT, nI_dec, pk_rem, nI_ltI, nI_leI, nI_eq, nI_clamp, Nat.add_assoc, q_bv51, Nat.add_left_cancel_iff, mdR_text d, mdK_text d, mdL_text d, mdR_blamed d, mdK_blamed d, mdL_blamed d, mdR_length d, mdK_length d, mdL_length d, mdR_isGone d, mdK_isGone d, mdL_isGone d, mdR_pageOf d, mdK_pageOf d, mdL_pageOf d, mdR_handOf d, mdK_handOf d, mdL_handOf d, mdR_begin d, mdK_begin d, mdL_begin d, mdR_went d, mdK_went d, mdL_went d, mdR_came d, mdK_came d, mdL_came d, mdR_nameAt d, mdK_nameAt d, mdL_nameAt d, mdR_nameLong d, mdK_nameLong d, mdL_nameLong d, mdR_tape d, mdK_tape d, mdL_tape d, mdR_out d, mdK_out d, mdL_out d, mdR_fold d, mdK_fold d, mdL_fold d, mdR_hand d, mdK_hand d, mdL_hand d, mdR_passed d, mdK_passed d, mdL_passed d, mdR_mark d, mdK_mark d, mdL_mark d, mdR_next d, mdK_next d, mdL_next d, mdR_goal d, mdK_goal d, mdL_goal d, mdR_foundPage d, mdK_foundPage d, mdL_foundPage d, mdR_pile d, mdK_pile d, mdL_pile d, mdR_place d, mdK_place d, mdL_place d, mdR_many d, mdK_many d, mdL_many d, mdR_word d, mdK_word d, mdL_word d, mdR_wordLong d, mdK_wordLong d, mdL_wordLong d, mdR_made d, mdK_made d, mdL_made d, mdR_list d, mdK_list d, mdL_list d, mdR_listLong d, mdK_listLong d, mdL_listLong d, mdR_steps d, mdK_steps d, mdL_steps d, d.1, c6, e1]
        simp (decide := true) (disch := omega) only [e_X11_kindsAt_31, e_X11_kindsAt_32, e_X11_kindsAt_35, e_X11_kindsAt_36, e_X11_kindsAt_39, e_X11_kindsAt_40, e_X11_kindsAt_43, e_X11_kindsAt_46, e_X11_kindsAt_47, e_X11_kindsAt_48, e_X11_kindsAt_51, ↓reduceIte, if_true, if_false, reduceCtorEq, Nat.reduceAdd, true_and, and_true, false_and, and_false, true_or, or_true, false_or, or_false, not_true_eq_false, not_false_eq_true, Option.bind_eq_bind, Option.bind_some, psh, eq_self, l_0, l_1, l_2, l_3, l_4, l_5, l_6, l_7, l_8, l_9, l_10, l_11, l_12, l_13, l_14, l_15, l_16, l_17, l_18, l_19, l_20, l_24, l_31, l_32, l_33, l_35, l_36, l_48, l_56, l_57, l_58, l_63, l_65, l_80, l_81, l_90, l_91, l_93, l_94, l_95, l_97, l_100, l_105, l_107, l_110, l_111, l_116, l_120, l_121, l_122, l_123, l_124, l_125, l_126, l_162, l_255, l_300, l_400, l_420, l_432, l_1000, l_1400, l_1936, l_2000, l_2100, l_2400, l_24000, m_n1, m_n2, m_n3, nI_mul, nI_add, nI_sub, nI_ltT, nI_ltF, nI_leT, nI_leF, nI_eqT, nI_eqF, nI_nM, nM_nI, nM_eq, nM_lt, nM_le, nI_ltM, nI_leM, nI_inT, nI_dec, pk_rem, nI_ltI, nI_leI, nI_eq, nI_clamp, Nat.add_assoc, q_bv51, Nat.add_left_cancel_iff, mdR_text d1, mdK_text d1, mdL_text d1, mdR_blamed d1, mdK_blamed d1, mdL_blamed d1, mdR_length d1, mdK_length d1, mdL_length d1, mdR_isGone d1, mdK_isGone d1, mdL_isGone d1, mdR_pageOf d1, mdK_pageOf d1, mdL_pageOf d1, mdR_handOf d1, mdK_handOf d1, mdL_handOf d1, mdR_begin d1, mdK_begin d1, mdL_begin d1, mdR_went d1, mdK_went d1, mdL_went d1, mdR_came d1, mdK_came d1, mdL_came d1, mdR_nameAt d1, mdK_nameAt d1, mdL_nameAt d1, mdR_nameLong d1, mdK_nameLong d1, mdL_nameLong d1, mdR_tape d1, mdK_tape d1, mdL_tape d1, mdR_out d1, mdK_out d1, mdL_out d1, mdR_fold d1, mdK_fold d1, mdL_fold d1, mdR_hand d1, mdK_hand d1, mdL_hand d1, mdR_passed d1, mdK_passed d1, mdL_passed d1, mdR_mark d1, mdK_mark d1, mdL_mark d1, mdR_next d1, mdK_next d1, mdL_next d1, mdR_goal d1, mdK_goal d1, mdL_goal d1, mdR_foundPage d1, mdK_foundPage d1, mdL_foundPage d1, mdR_pile d1, mdK_pile d1, mdL_pile d1, mdR_place d1, mdK_place d1, mdL_place d1, mdR_many d1, mdK_many d1, mdL_many d1, mdR_word d1, mdK_word d1, mdL_word d1, mdR_wordLong d1, mdK_wordLong d1, mdL_wordLong d1, mdR_made d1, mdK_made d1, mdL_made d1, mdR_list d1, mdK_list d1, mdL_list d1, mdR_listLong d1, mdK_listLong d1, mdL_listLong d1, mdR_steps d1, mdK_steps d1, mdL_steps d1, d1.1, r24]
      | some r =>
        obtain ⟨s, j, b, q⟩ := r
        rw [et] at r1 go hin
        obtain ⟨r24, r25, r26, r27, r28, rq⟩ := r1
        have tl := tok_len et
        have en' : nxt (ct (ch c)) i = j + 2 := by unfold nxt; rw [et]
        have hd1 : ev g mX11_kindsAt 13 [some (va_rf (some M)), l1, some (.int (nI st)), some (.int (nI c)), some (.int (nI i))] [] h = ev g mX11_kindsAt 31 [some (va_rf (some M)), l1, some (.int (nI st)), some (.int (nI c)), some (.int (nI i))] [] h1' := by
          rw [e_X11_kindsAt_13]
          simp (decide := true) (disch := omega) only [e_X11_kindsAt_15, e_X11_kindsAt_16, e_X11_kindsAt_19, e_X11_kindsAt_20, e_X11_kindsAt_21, e_X11_kindsAt_24, e_X11_kindsAt_25, e_X11_kindsAt_26, e_X11_kindsAt_28, ↓reduceIte, if_true, if_false, reduceCtorEq, Nat.reduceAdd, true_and, and_true, false_and, and_false, true_or, or_true, false_or, or_false, not_true_eq_false, not_false_eq_true, Option.bind_eq_bind, Option.bind_some, psh, eq_self, l_0, l_1, l_2, l_3, l_4, l_5, l_6, l_7, l_8, l_9, l_10, l_11, l_12, l_13, l_14, l_15, l_16, l_17, l_18, l_19, l_20, l_24, l_31, l_32, l_33, l_35, l_36, l_48, l_56, l_57, l_58, l_63, l_65, l_80, l_81, l_90, l_91, l_93, l_94, l_95, l_97, l_100, l_105, l_107, l_110, l_111, l_116, l_120, l_121, l_122, l_123, l_124, l_125, l_126, l_162, l_255, l_300, l_400, l_420, l_432, l_1000, l_1400, l_1936, l_2000, l_2100, l_2400, l_24000, m_n1, m_n2, m_n3, nI_mul, nI_add, nI_sub, nI_ltT, nI_ltF, nI_leT, nI_leF, nI_eqT, nI_eqF, nI_nM, nM_nI, nM_eq, nM_lt, nM_le, nI_ltM, nI_leM, nI_inT, nI_dec, pk_rem, nI_ltI, nI_leI, nI_eq, nI_clamp, Nat.add_assoc, q_bv51, Nat.add_left_cancel_iff, mdR_text d, mdK_text d, mdL_text d, mdR_blamed d, mdK_blamed d, mdL_blamed d, mdR_length d, mdK_length d, mdL_length d, mdR_isGone d, mdK_isGone d, mdL_isGone d, mdR_pageOf d, mdK_pageOf d, mdL_pageOf d, mdR_handOf d, mdK_handOf d, mdL_handOf d, mdR_begin d, mdK_begin d, mdL_begin d, mdR_went d, mdK_went d, mdL_went d, mdR_came d, mdK_came d, mdL_came d, mdR_nameAt d, mdK_nameAt d, mdL_nameAt d, mdR_nameLong d, mdK_nameLong d, mdL_nameLong d, mdR_tape d, mdK_tape d, mdL_tape d, mdR_out d, mdK_out d, mdL_out d, mdR_fold d, mdK_fold d, mdL_fold d, mdR_hand d, mdK_hand d, mdL_hand d, mdR_passed d, mdK_passed d, mdL_passed d, mdR_mark d, mdK_mark d, mdL_mark d, mdR_next d, mdK_next d, mdL_next d, mdR_goal d, mdK_goal d, mdL_goal d, mdR_foundPage d, mdK_foundPage d, mdL_foundPage d, mdR_pile d, mdK_pile d, mdL_pile d, mdR_place d, mdK_place d, mdL_place d, mdR_many d, mdK_many d, mdL_many d, mdR_word d, mdK_word d, mdL_word d, mdR_wordLong d, mdK_wordLong d, mdL_wordLong d, mdR_made d, mdK_made d, mdL_made d, mdR_list d, mdK_list d, mdL_list d, mdR_listLong d, mdK_listLong d, mdL_listLong d, mdR_steps d, mdK_steps d, mdL_steps d, d.1, c6, e1]
        have i20 := rq.2.1
        by_cases cs : s = 1
        · subst cs
          cases ck : q.1 with
          | true =>
            rw [ck, bI_t] at i20
            have hqA : q ∈ A := hAq q (List.mem_filterMap.mpr ⟨_, hin, rfl⟩)
            obtain ⟨h2, v, e2, f2, l2⟩ := m_lists (g := g) (st := st) d1 rq.z hl1 hst (fun z => lsN_lt hN hqA hA z)
            refine go h2 (lsA L (q, st)) (f1'.tr (f2.mono (by decide) (by decide))) l2 (lsA_N hN hqA) (by simp [kn1, ck]) (by rw [en', f2.i 25 (by decide)]; exact r25) ?_
            rw [hd1]
            simp (decide := true) (disch := omega) only [e_X11_kindsAt_31, e_X11_kindsAt_32, e_X11_kindsAt_35, e_X11_kindsAt_36, e_X11_kindsAt_39, e_X11_kindsAt_40, e_X11_kindsAt_43, e_X11_kindsAt_46, e_X11_kindsAt_47, e_X11_kindsAt_48, e_X11_kindsAt_51, ↓reduceIte, if_true, if_false, reduceCtorEq, Nat.reduceAdd, true_and, and_true, false_and, and_false, true_or, or_true, false_or, or_false, not_true_eq_false, not_false_eq_true, Option.bind_eq_bind, Option.bind_some, psh, eq_self, l_0, l_1, l_2, l_3, l_4, l_5, l_6, l_7, l_8, l_9, l_10, l_11, l_12, l_13, l_14, l_15, l_16, l_17, l_18, l_19, l_20, l_24, l_31, l_32, l_33, l_35, l_36, l_48, l_56, l_57, l_58, l_63, l_65, l_80, l_81, l_90, l_91, l_93, l_94, l_95, l_97, l_100, l_105, l_107, l_110, l_111, l_116, l_120, l_121, l_122, l_123, l_124, l_125, l_126, l_162, l_255, l_300, l_400, l_420, l_432, l_1000, l_1400, l_1936, l_2000, l_2100, l_2400, l_24000, m_n1, m_n2, m_n3, nI_mul, nI_add, nI_sub, nI_ltT, nI_ltF, nI_leT, nI_leF, nI_eqT, nI_eqF, nI_nM, nM_nI, nM_eq, nM_lt, nM_le, nI_ltM, nI_leM, nI_inT, nI_dec, pk_rem, nI_ltI, nI_leI, nI_eq, nI_clamp, Nat.add_assoc, q_bv51, Nat.add_left_cancel_iff, mdR_text d1, mdK_text d1, mdL_text d1, mdR_blamed d1, mdK_blamed d1, mdL_blamed d1, mdR_length d1, mdK_length d1, mdL_length d1, mdR_isGone d1, mdK_isGone d1, mdL_isGone d1, mdR_pageOf d1, mdK_pageOf d1, mdL_pageOf d1, mdR_handOf d1, mdK_handOf d1, mdL_handOf d1, mdR_begin d1, mdK_begin d1, mdL_begin d1, mdR_went d1, mdK_went d1, mdL_went d1, mdR_came d1, mdK_came d1, mdL_came d1, mdR_nameAt d1, mdK_nameAt d1, mdL_nameAt d1, mdR_nameLong d1, mdK_nameLong d1, mdL_nameLong d1, mdR_tape d1, mdK_tape d1, mdL_tape d1, mdR_out d1, mdK_out d1, mdL_out d1, mdR_fold d1, mdK_fold d1, mdL_fold d1, mdR_hand d1, mdK_hand d1, mdL_hand d1, mdR_passed d1, mdK_passed d1, mdL_passed d1, mdR_mark d1, mdK_mark d1, mdL_mark d1, mdR_next d1, mdK_next d1, mdL_next d1, mdR_goal d1, mdK_goal d1, mdL_goal d1, mdR_foundPage d1, mdK_foundPage d1, mdL_foundPage d1, mdR_pile d1, mdK_pile d1, mdL_pile d1, mdR_place d1, mdK_place d1, mdL_place d1, mdR_many d1, mdK_many d1, mdL_many d1, mdR_word d1, mdK_word d1, mdL_word d1, mdR_wordLong d1, mdK_wordLong d1, mdL_wordLong d1, mdR_made d1, mdK_made d1, mdL_made d1, mdR_list d1, mdK_list d1, mdL_list d1, mdR_listLong d1, mdK_listLong d1, mdL_listLong d1, mdR_steps d1, mdK_steps d1, mdL_steps d1, d1.1, r24, i20, e2]
          | false =>
            rw [ck, bI_f] at i20
            refine go h1' L f1' hl1 hN (by simp [kn1, ck]) (by rw [en']; exact r25) ?_
            rw [hd1]
            simp (decide := true) (disch := omega) only [e_X11_kindsAt_31, e_X11_kindsAt_32, e_X11_kindsAt_35, e_X11_kindsAt_36, e_X11_kindsAt_39, e_X11_kindsAt_40, e_X11_kindsAt_43, e_X11_kindsAt_46, e_X11_kindsAt_47, e_X11_kindsAt_48, e_X11_kindsAt_51, ↓reduceIte, if_true, if_false, reduceCtorEq, Nat.reduceAdd, true_and, and_true, false_and, and_false, true_or, or_true, false_or, or_false, not_true_eq_false, not_false_eq_true, Option.bind_eq_bind, Option.bind_some, psh, eq_self, l_0, l_1, l_2, l_3, l_4, l_5, l_6, l_7, l_8, l_9, l_10, l_11, l_12, l_13, l_14, l_15, l_16, l_17, l_18, l_19, l_20, l_24, l_31, l_32, l_33, l_35, l_36, l_48, l_56, l_57, l_58, l_63, l_65, l_80, l_81, l_90, l_91, l_93, l_94, l_95, l_97, l_100, l_105, l_107, l_110, l_111, l_116, l_120, l_121, l_122, l_123, l_124, l_125, l_126, l_162, l_255, l_300, l_400, l_420, l_432, l_1000, l_1400, l_1936, l_2000, l_2100, l_2400, l_24000, m_n1, m_n2, m_n3, nI_mul, nI_add, nI_sub, nI_ltT, nI_ltF, nI_leT, nI_leF, nI_eqT, nI_eqF, nI_nM, nM_nI, nM_eq, nM_lt, nM_le, nI_ltM, nI_leM, nI_inT, nI_dec, pk_rem, nI_ltI, nI_leI, nI_eq, nI_clamp, Nat.add_assoc, q_bv51, Nat.add_left_cancel_iff, mdR_text d1, mdK_text d1, mdL_text d1, mdR_blamed d1, mdK_blamed d1, mdL_blamed d1, mdR_length d1, mdK_length d1, mdL_length d1, mdR_isGone d1, mdK_isGone d1, mdL_isGone d1, mdR_pageOf d1, mdK_pageOf d1, mdL_pageOf d1, mdR_handOf d1, mdK_handOf d1, mdL_handOf d1, mdR_begin d1, mdK_begin d1, mdL_begin d1, mdR_went d1, mdK_went d1, mdL_went d1, mdR_came d1, mdK_came d1, mdL_came d1, mdR_nameAt d1, mdK_nameAt d1, mdL_nameAt d1, mdR_nameLong d1, mdK_nameLong d1, mdL_nameLong d1, mdR_tape d1, mdK_tape d1, mdL_tape d1, mdR_out d1, mdK_out d1, mdL_out d1, mdR_fold d1, mdK_fold d1, mdL_fold d1, mdR_hand d1, mdK_hand d1, mdL_hand d1, mdR_passed d1, mdK_passed d1, mdL_passed d1, mdR_mark d1, mdK_mark d1, mdL_mark d1, mdR_next d1, mdK_next d1, mdL_next d1, mdR_goal d1, mdK_goal d1, mdL_goal d1, mdR_foundPage d1, mdK_foundPage d1, mdL_foundPage d1, mdR_pile d1, mdK_pile d1, mdL_pile d1, mdR_place d1, mdK_place d1, mdL_place d1, mdR_many d1, mdK_many d1, mdL_many d1, mdR_word d1, mdK_word d1, mdL_word d1, mdR_wordLong d1, mdK_wordLong d1, mdL_wordLong d1, mdR_made d1, mdK_made d1, mdL_made d1, mdR_list d1, mdK_list d1, mdL_list d1, mdR_listLong d1, mdK_listLong d1, mdL_listLong d1, mdR_steps d1, mdK_steps d1, mdL_steps d1, d1.1, r24, i20]
        · refine go h1' L f1' hl1 hN (by simp [kn1, cs]) (by rw [en']; exact r25) ?_
          have cs2 : s = 2 := by omega
          subst cs2
          rw [hd1]
          simp (decide := true) (disch := omega) only [e_X11_kindsAt_31, e_X11_kindsAt_32, e_X11_kindsAt_35, e_X11_kindsAt_36, e_X11_kindsAt_39, e_X11_kindsAt_40, e_X11_kindsAt_43, e_X11_kindsAt_46, e_X11_kindsAt_47, e_X11_kindsAt_48, e_X11_kindsAt_51, ↓reduceIte, if_true, if_false, reduceCtorEq, Nat.reduceAdd, true_and, and_true, false_and, and_false, true_or, or_true, false_or, or_false, not_true_eq_false, not_false_eq_true, Option.bind_eq_bind, Option.bind_some, psh, eq_self, l_0, l_1, l_2, l_3, l_4, l_5, l_6, l_7, l_8, l_9, l_10, l_11, l_12, l_13, l_14, l_15, l_16, l_17, l_18, l_19, l_20, l_24, l_31, l_32, l_33, l_35, l_36, l_48, l_56, l_57, l_58, l_63, l_65, l_80, l_81, l_90, l_91, l_93, l_94, l_95, l_97, l_100, l_105, l_107, l_110, l_111, l_116, l_120, l_121, l_122, l_123, l_124, l_125, l_126, l_162, l_255, l_300, l_400, l_420, l_432, l_1000, l_1400, l_1936, l_2000, l_2100, l_2400, l_24000, m_n1, m_n2, m_n3, nI_mul, nI_add, nI_sub, nI_ltT, nI_ltF, nI_leT, nI_leF, nI_eqT, nI_eqF, nI_nM, nM_nI, nM_eq, nM_lt, nM_le, nI_ltM, nI_leM, nI_inT, nI_dec, pk_rem, nI_ltI, nI_leI, nI_eq, nI_clamp, Nat.add_assoc, q_bv51, Nat.add_left_cancel_iff, mdR_text d1, mdK_text d1, mdL_text d1, mdR_blamed d1, mdK_blamed d1, mdL_blamed d1, mdR_length d1, mdK_length d1, mdL_length d1, mdR_isGone d1, mdK_isGone d1, mdL_isGone d1, mdR_pageOf d1, mdK_pageOf d1, mdL_pageOf d1, mdR_handOf d1, mdK_handOf d1, mdL_handOf d1, mdR_begin d1, mdK_begin d1, mdL_begin d1, mdR_went d1, mdK_went d1, mdL_went d1, mdR_came d1, mdK_came d1, mdL_came d1, mdR_nameAt d1, mdK_nameAt d1, mdL_nameAt d1, mdR_nameLong d1, mdK_nameLong d1, mdL_nameLong d1, mdR_tape d1, mdK_tape d1, mdL_tape d1, mdR_out d1, mdK_out d1, mdL_out d1, mdR_fold d1, mdK_fold d1, mdL_fold d1, mdR_hand d1, mdK_hand d1, mdL_hand d1, mdR_passed d1, mdK_passed d1, mdL_passed d1, mdR_mark d1, mdK_mark d1, mdL_mark d1, mdR_next d1, mdK_next d1, mdL_next d1, mdR_goal d1, mdK_goal d1, mdL_goal d1, mdR_foundPage d1, mdK_foundPage d1, mdL_foundPage d1, mdR_pile d1, mdK_pile d1, mdL_pile d1, mdR_place d1, mdK_place d1, mdL_place d1, mdR_many d1, mdK_many d1, mdL_many d1, mdR_word d1, mdK_word d1, mdL_word d1, mdR_wordLong d1, mdK_wordLong d1, mdL_wordLong d1, mdR_made d1, mdK_made d1, mdL_made d1, mdR_list d1, mdK_list d1, mdL_list d1, mdR_listLong d1, mdK_listLong d1, mdL_listLong d1, mdR_steps d1, mdK_steps d1, mdL_steps d1, d1.1, r24]
    · have : i = (ct (ch c)).length := by omega
      subst this
      refine ⟨h, ?_, mf.rf _, by rw [tks, if_neg ci]; exact hl, by rw [tks, if_neg ci]; exact hN⟩
      rw [e_X11_kindsAt_13]
      simp (decide := true) (disch := omega) only [e_X11_kindsAt_15, e_X11_kindsAt_16, e_X11_kindsAt_19, e_X11_kindsAt_20, e_X11_kindsAt_21, e_X11_kindsAt_24, e_X11_kindsAt_25, e_X11_kindsAt_26, e_X11_kindsAt_28, e_X11_kindsAt_31, e_X11_kindsAt_32, e_X11_kindsAt_35, e_X11_kindsAt_36, e_X11_kindsAt_39, e_X11_kindsAt_40, e_X11_kindsAt_43, e_X11_kindsAt_46, e_X11_kindsAt_47, e_X11_kindsAt_48, e_X11_kindsAt_51, e_X11_kindsAt_52, e_X11_kindsAt_53, e_X11_kindsAt_56, e_X11_kindsAt_58, e_X11_kindsAt_61, ↓reduceIte, if_true, if_false, reduceCtorEq, Nat.reduceAdd, true_and, and_true, false_and, and_false, true_or, or_true, false_or, or_false, not_true_eq_false, not_false_eq_true, Option.bind_eq_bind, Option.bind_some, psh, eq_self, l_0, l_1, l_2, l_3, l_4, l_5, l_6, l_7, l_8, l_9, l_10, l_11, l_12, l_13, l_14, l_15, l_16, l_17, l_18, l_19, l_20, l_24, l_31, l_32, l_33, l_35, l_36, l_48, l_56, l_57, l_58, l_63, l_65, l_80, l_81, l_90, l_91, l_93, l_94, l_95, l_97, l_100, l_105, l_107, l_110, l_111, l_116, l_120, l_121, l_122, l_123, l_124, l_125, l_126, l_162, l_255, l_300, l_400, l_420, l_432, l_1000, l_1400, l_1936, l_2000, l_2100, l_2400, l_24000, m_n1, m_n2, m_n3, nI_mul, nI_add, nI_sub, nI_ltT, nI_ltF, nI_leT, nI_leF, nI_eqT, nI_eqF, nI_nM, nM_nI, nM_eq, nM_lt, nM_le, nI_ltM, nI_leM, nI_inT, nI_dec, pk_rem, nI_ltI, nI_leI, nI_eq, nI_clamp, Nat.add_assoc, q_bv51, Nat.add_left_cancel_iff, mdR_text d, mdK_text d, mdL_text d, mdR_blamed d, mdK_blamed d, mdL_blamed d, mdR_length d, mdK_length d, mdL_length d, mdR_isGone d, mdK_isGone d, mdL_isGone d, mdR_pageOf d, mdK_pageOf d, mdL_pageOf d, mdR_handOf d, mdK_handOf d, mdL_handOf d, mdR_begin d, mdK_begin d, mdL_begin d, mdR_went d, mdK_went d, mdL_went d, mdR_came d, mdK_came d, mdL_came d, mdR_nameAt d, mdK_nameAt d, mdL_nameAt d, mdR_nameLong d, mdK_nameLong d, mdL_nameLong d, mdR_tape d, mdK_tape d, mdL_tape d, mdR_out d, mdK_out d, mdL_out d, mdR_fold d, mdK_fold d, mdL_fold d, mdR_hand d, mdK_hand d, mdL_hand d, mdR_passed d, mdK_passed d, mdL_passed d, mdR_mark d, mdK_mark d, mdL_mark d, mdR_next d, mdK_next d, mdL_next d, mdR_goal d, mdK_goal d, mdL_goal d, mdR_foundPage d, mdK_foundPage d, mdL_foundPage d, mdR_pile d, mdK_pile d, mdL_pile d, mdR_place d, mdK_place d, mdL_place d, mdR_many d, mdK_many d, mdL_many d, mdR_word d, mdK_word d, mdL_word d, mdR_wordLong d, mdK_wordLong d, mdL_wordLong d, mdR_made d, mdK_made d, mdL_made d, mdR_list d, mdK_list d, mdL_list d, mdR_listLong d, mdK_listLong d, mdL_listLong d, mdR_steps d, mdK_steps d, mdL_steps d, d.1, c6]
def kn2 (st : Nat) (L : List Le) (t : List Nat) : List Le := (tkl t).foldl (kn1 st) L
theorem m_kindsAt {g M n c p st : Nat} {h : PH} {ch : Nat → Ch} {a : Option Nat} {A : List Nm} {L : List Le} (hst : st ≤ 2000) (hA : A.length ≤ 960) (d : md h M) (hc : mCh h M n ch) (has : mAs h M a) (hta : ∀ t, a = some t → t ≤ n) (hp : p < 2 ^ 20) (hth : thr ch p (tm a n) = some c) (hAq : ∀ q ∈ lnk (wasT ch p (tm a n)), q ∈ A) (hl : mLs h M L) (hN : lsN A L) :
    ∃ h', cal g mX11_kindsAt [va_rf (some M), .int (nI p), .int (nI st)] h = some (none, h') ∧ mf kF kA M h h' ∧ mLs h' M (kn2 st L (wasT ch p (tm a n))) ∧ lsN A (kn2 st L (wasT ch p (tm a n))) := by
  rw [n_X11_kindsAt]
  have htl := tm_le hta
  obtain ⟨t1, t2, t3, t4, t5⟩ := thr_some hth
  have ex := m_textOf (g := g) (p := p) d hc hp htl
  rw [hth, oN] at ex
  have em := m_time (g := g) d hc has hta
  rw [wasT_eq hth] at hAq ⊢
  obtain ⟨h1, e1, f1, l1, n1⟩ := m_kindsAt_loop (g := g) (M := M) (st := st) (l1 := some (.int (nI p))) hst hA t1 (show c ≤ n by omega) hAq (ct (ch c)).length 0 h L (by omega) (Nat.zero_le _) (fun e he => he) d hc hl hN
  refine ⟨h1, ?_, f1, l1, n1⟩
  rw [← e1]
  simp (decide := true) (disch := omega) only [e_X11_kindsAt_0, e_X11_kindsAt_1, e_X11_kindsAt_2, e_X11_kindsAt_3, e_X11_kindsAt_6, e_X11_kindsAt_9, e_X11_kindsAt_10, e_X11_kindsAt_11, ↓reduceIte, if_true, if_false, reduceCtorEq, Nat.reduceAdd, true_and, and_true, false_and, and_false, true_or, or_true, false_or, or_false, not_true_eq_false, not_false_eq_true, Option.bind_eq_bind, Option.bind_some, psh, eq_self, l_0, l_1, l_2, l_3, l_4, l_5, l_6, l_7, l_8, l_9, l_10, l_11, l_12, l_13, l_14, l_15, l_16, l_17, l_18, l_19, l_20, l_24, l_31, l_32, l_33, l_35, l_36, l_48, l_56, l_57, l_58, l_63, l_65, l_80, l_81, l_90, l_91, l_93, l_94, l_95, l_97, l_100, l_105, l_107, l_110, l_111, l_116, l_120, l_121, l_122, l_123, l_124, l_125, l_126, l_162, l_255, l_300, l_400, l_420, l_432, l_1000, l_1400, l_1936, l_2000, l_2100, l_2400, l_24000, m_n1, m_n2, m_n3, nI_mul, nI_add, nI_sub, nI_ltT, nI_ltF, nI_leT, nI_leF, nI_eqT, nI_eqF, nI_nM, nM_nI, nM_eq, nM_lt, nM_le, nI_ltM, nI_leM, nI_inT, nI_dec, pk_rem, nI_ltI, nI_leI, nI_eq, nI_clamp, Nat.add_assoc, q_bv51, Nat.add_left_cancel_iff, mdR_text d, mdK_text d, mdL_text d, mdR_blamed d, mdK_blamed d, mdL_blamed d, mdR_length d, mdK_length d, mdL_length d, mdR_isGone d, mdK_isGone d, mdL_isGone d, mdR_pageOf d, mdK_pageOf d, mdL_pageOf d, mdR_handOf d, mdK_handOf d, mdL_handOf d, mdR_begin d, mdK_begin d, mdL_begin d, mdR_went d, mdK_went d, mdL_went d, mdR_came d, mdK_came d, mdL_came d, mdR_nameAt d, mdK_nameAt d, mdL_nameAt d, mdR_nameLong d, mdK_nameLong d, mdL_nameLong d, mdR_tape d, mdK_tape d, mdL_tape d, mdR_out d, mdK_out d, mdL_out d, mdR_fold d, mdK_fold d, mdL_fold d, mdR_hand d, mdK_hand d, mdL_hand d, mdR_passed d, mdK_passed d, mdL_passed d, mdR_mark d, mdK_mark d, mdL_mark d, mdR_next d, mdK_next d, mdL_next d, mdR_goal d, mdK_goal d, mdL_goal d, mdR_foundPage d, mdK_foundPage d, mdL_foundPage d, mdR_pile d, mdK_pile d, mdL_pile d, mdR_place d, mdK_place d, mdL_place d, mdR_many d, mdK_many d, mdL_many d, mdR_word d, mdK_word d, mdL_word d, mdR_wordLong d, mdK_wordLong d, mdL_wordLong d, mdR_made d, mdK_made d, mdL_made d, mdR_list d, mdK_list d, mdL_list d, mdR_listLong d, mdK_listLong d, mdL_listLong d, mdR_steps d, mdK_steps d, mdL_steps d, d.1, em, ex]
