/-! ONWARD: what it is, and the model's two searches -/
theorem q_bv51 (v : Int32) : q_bv 51 v = v := id rfl
theorem mC1.kp {F A : List Nat} {M c : Nat} {x : Ch} {h h' : PH} (r : mC1 h M c x) (s : mf F A M h h') (hA' : ∀ a ∈ A, 9 < a) : mC1 h' M c x := r.keep s (fun a _ h2 h3 => by have := hA' a h3; omega)
theorem mCh.kp {F A : List Nat} {M n : Nat} {ch : Nat → Ch} {h h' : PH} (r : mCh h M n ch) (s : mf F A M h h') (hF : 0 ∉ F) (hA' : ∀ a ∈ A, 9 < a) : mCh h' M n ch := r.keep s hF (fun a _ h2 h3 => by have := hA' a h3; omega)
/-- the page and TEXT of a NAME at a time -/
def wtx (ch : Nat → Ch) (nm : Nat → Nm) (nn t : Nat) (q : Nm) : Option (Nat × List Nat) := match pof ch nm nn q t with
  | none => none
  | some p => some (p, ct (ch (lst ch p t)))
def wnx (ch : Nat → Ch) (nm : Nat → Nm) (nn t : Nat) (q : Nm) : Option Nm := match wtx ch nm nn t q with
  | none => none
  | some r => mvd r.2
/-- what comes ONWARD from a NAME in so many looks: a page, missing (-2), or a ring (-3) -/
def onw (ch : Nat → Ch) (nm : Nat → Nm) (nn t : Nat) : Nat → Nm → Int32
  | 0, _ => nM 3
  | k + 1, q => match wtx ch nm nn t q with
    | none => nM 2
    | some r => (match mvd r.2 with
      | none => nI r.1
      | some q' => onw ch nm nn t k q')
/-- whether on the way from a NAME, in so many looks, stands a goal or a marked page -/
def cby (ch : Nat → Ch) (nm : Nat → Nm) (nn t : Nat) (mk : Nat → Bool) (goal : Nm) : Nat → Nm → Bool
  | 0, _ => false
  | k + 1, q => decide (q = goal) || (match wtx ch nm nn t q with
    | none => false
    | some r => mk r.1 || (match mvd r.2 with
      | none => false
      | some q' => cby ch nm nn t mk goal k q'))
theorem nodup_lt : ∀ {n : Nat} {l : List Nat}, l.Nodup → (∀ x ∈ l, x < n) → l.length ≤ n
  | 0, l, _, h => by
    cases l with
    | nil => exact Nat.le_refl _
    | cons a l => exact absurd (h a List.mem_cons_self) (by omega)
  | n + 1, l, hd, h => by
    by_cases z : n ∈ l
    · have h1 : (l.erase n).length ≤ n := nodup_lt (hd.erase n) (fun x hx => by
        have := (List.Nodup.mem_erase_iff hd).mp hx
        have := h x this.2
        omega)
      have h2 := List.length_erase_of_mem z
      omega
    · have := nodup_lt (n := n) hd (fun x hx => by
        have := h x hx
        have : x ≠ n := fun w => z (w ▸ hx)
        omega)
      omega
theorem onw_ring {ch : Nat → Ch} {nm : Nat → Nm} {nn t : Nat} {V : List Nm} (hV : ∀ v ∈ V, ∃ v', wnx ch nm nn t v = some v' ∧ v' ∈ V) : ∀ k v, v ∈ V → onw ch nm nn t k v = nM 3 := by
  intro k
  induction k with
  | zero => intro v _; rfl
  | succ k ih =>
    intro v hv
    obtain ⟨v', e, h⟩ := hV v hv
    unfold wnx at e
    unfold onw
    cases e2 : wtx ch nm nn t v with
    | none => rw [e2] at e; cases e
    | some r =>
      rw [e2] at e
      simp only at e ⊢
      rw [e]
      exact ih v' h
theorem cby_ring {ch : Nat → Ch} {nm : Nat → Nm} {nn t : Nat} {mk : Nat → Bool} {goal : Nm} {V : List Nm} (hV : ∀ v ∈ V, ∃ v', wnx ch nm nn t v = some v' ∧ v' ∈ V) (hg : ∀ v ∈ V, v ≠ goal ∧ ∀ r, wtx ch nm nn t v = some r → mk r.1 = false) : ∀ k v, v ∈ V → cby ch nm nn t mk goal k v = false := by
  intro k
  induction k with
  | zero => intro v _; rfl
  | succ k ih =>
    intro v hv
    obtain ⟨v', e, h⟩ := hV v hv
    obtain ⟨g1, g2⟩ := hg v hv
    unfold wnx at e
    unfold cby
    cases e2 : wtx ch nm nn t v with
    | none => rw [e2] at e; cases e
    | some r =>
      rw [e2] at e
      simp only at e ⊢
      rw [e, g2 r e2, decide_eq_false g1, Bool.false_or, Bool.false_or]
      exact ih v' h
/-- the model's marks of pages passed -/
def mps (h : PH) (M : Nat) (ps : List Nat) : Prop := ∀ p, p < 18 → hA h (M + 16) p = bI (decide (p ∈ ps))
theorem mps.keep {F A : List Nat} {M : Nat} {ps : List Nat} {h h' : PH} (r : mps h M ps) (s : mf F A M h h') (hA' : 16 ∉ A) : mps h' M ps := by
  unfold mps at *
  rw [s.a _ hA']; exact r
theorem m_onw_1 {g M : Nat} {l1 : Option Value} : ∀ j k (h : PH), j + k = 18 → md h M → (∀ p, p < k → hA h (M + 16) p = nI 0) → ∃ h' v2, ev g mX11_onwardOfFold 2 [some (va_rf (some M)), l1, some (.int (nI k))] [] h = ev g mX11_onwardOfFold 21 [some (va_rf (some M)), l1, v2] [] h' ∧ mf [] [16] M h h' ∧ mps h' M [] := by
  intro j
  induction j with
  | zero =>
    intro k h hk d hp
    refine ⟨h, some (.int (nI k)), ?_, mf.rf _, fun p hp' => by rw [hp p (by omega)]; rfl⟩
    rw [e_X11_onwardOfFold_2]
    simp (decide := true) (disch := omega) only [e_X11_onwardOfFold_3, e_X11_onwardOfFold_5, e_X11_onwardOfFold_8, e_X11_onwardOfFold_9, e_X11_onwardOfFold_12, e_X11_onwardOfFold_13, e_X11_onwardOfFold_14, e_X11_onwardOfFold_15, e_X11_onwardOfFold_18, ↓reduceIte, if_true, if_false, reduceCtorEq, Nat.reduceAdd, true_and, and_true, false_and, and_false, true_or, or_true, false_or, or_false, not_true_eq_false, not_false_eq_true, Option.bind_eq_bind, Option.bind_some, psh, eq_self, l_0, l_1, l_2, l_3, l_4, l_5, l_6, l_7, l_8, l_9, l_10, l_11, l_12, l_13, l_14, l_15, l_16, l_17, l_18, l_19, l_20, l_24, l_31, l_32, l_33, l_35, l_36, l_48, l_56, l_57, l_58, l_63, l_65, l_80, l_81, l_90, l_91, l_93, l_94, l_95, l_97, l_100, l_105, l_107, l_110, l_111, l_116, l_120, l_121, l_122, l_123, l_124, l_125, l_126, l_162, l_255, l_300, l_400, l_420, l_432, l_1000, l_1400, l_1936, l_2000, l_2100, l_2400, l_24000, m_n1, m_n2, m_n3, nI_mul, nI_add, nI_sub, nI_ltT, nI_ltF, nI_leT, nI_leF, nI_eqT, nI_eqF, nI_nM, nM_nI, nM_eq, nM_lt, nM_le, nI_ltM, nI_leM, nI_inT, nI_dec, pk_rem, nI_ltI, nI_leI, nI_eq, nI_clamp, Nat.add_assoc, q_bv51, mdR_text d, mdK_text d, mdL_text d, mdR_blamed d, mdK_blamed d, mdL_blamed d, mdR_length d, mdK_length d, mdL_length d, mdR_isGone d, mdK_isGone d, mdL_isGone d, mdR_pageOf d, mdK_pageOf d, mdL_pageOf d, mdR_handOf d, mdK_handOf d, mdL_handOf d, mdR_begin d, mdK_begin d, mdL_begin d, mdR_went d, mdK_went d, mdL_went d, mdR_came d, mdK_came d, mdL_came d, mdR_nameAt d, mdK_nameAt d, mdL_nameAt d, mdR_nameLong d, mdK_nameLong d, mdL_nameLong d, mdR_tape d, mdK_tape d, mdL_tape d, mdR_out d, mdK_out d, mdL_out d, mdR_fold d, mdK_fold d, mdL_fold d, mdR_hand d, mdK_hand d, mdL_hand d, mdR_passed d, mdK_passed d, mdL_passed d, mdR_mark d, mdK_mark d, mdL_mark d, mdR_next d, mdK_next d, mdL_next d, mdR_goal d, mdK_goal d, mdL_goal d, mdR_foundPage d, mdK_foundPage d, mdL_foundPage d, mdR_pile d, mdK_pile d, mdL_pile d, mdR_place d, mdK_place d, mdL_place d, mdR_many d, mdK_many d, mdL_many d, mdR_word d, mdK_word d, mdL_word d, mdR_wordLong d, mdK_wordLong d, mdL_wordLong d, mdR_made d, mdK_made d, mdL_made d, mdR_list d, mdK_list d, mdL_list d, mdR_listLong d, mdK_listLong d, mdL_listLong d, mdR_steps d, mdK_steps d, mdL_steps d, d.1]
  | succ j ih =>
    intro k h hk d hp
    have f1 : mf [] [16] M h (pA h (M + 16) (upd (hA h (M + 16)) k (nI 0))) := mf.pA _ 16 _ (by decide)
    obtain ⟨h', v2, e1, e2, e3⟩ := ih (k + 1) (pA h (M + 16) (upd (hA h (M + 16)) k (nI 0))) (by omega) (f1.d d) (by
      intro p hp'
      simp only [u_hN_pI, u_hU_pI, u_hK_pI, u_hL_pI, u_hR_pI, u_hJ_pI, u_hA_pI, u_hB_pI, u_hS_pI, u_hN_pR, u_hU_pR, u_hK_pR, u_hL_pR, u_hI_pR, u_hJ_pR, u_hA_pR, u_hB_pR, u_hS_pR, u_hN_pJ, u_hU_pJ, u_hK_pJ, u_hL_pJ, u_hI_pJ, u_hR_pJ, u_hA_pJ, u_hB_pJ, u_hS_pJ, u_hN_pA, u_hU_pA, u_hK_pA, u_hL_pA, u_hI_pA, u_hR_pA, u_hJ_pA, u_hB_pA, u_hS_pA, u_hN_pB, u_hU_pB, u_hK_pB, u_hL_pB, u_hI_pB, u_hR_pB, u_hJ_pB, u_hA_pB, u_hS_pB, u_hL_nO, u_hA_nO, u_hB_nO, u_hS_nO, u_hI_nA, u_hR_nA, u_hJ_nA, u_hS_nA, u_II, u_RR, u_JJ, u_AA, u_BB, u_NO, u_UO, u_KO, u_IO, u_RO, u_JO, u_NN, u_UN, u_KN, u_LN, u_AN, u_BN, if_true]
      by_cases c : p = k
      · rw [c, pk_us]
      · rw [pk_un c]; exact hp p (by omega))
    refine ⟨h', v2, ?_, f1.tr e2, e3⟩
    rw [e_X11_onwardOfFold_2, ← e1]
    simp (decide := true) (disch := omega) only [e_X11_onwardOfFold_3, e_X11_onwardOfFold_5, e_X11_onwardOfFold_8, e_X11_onwardOfFold_9, e_X11_onwardOfFold_12, e_X11_onwardOfFold_13, e_X11_onwardOfFold_14, e_X11_onwardOfFold_15, e_X11_onwardOfFold_18, ↓reduceIte, if_true, if_false, reduceCtorEq, Nat.reduceAdd, true_and, and_true, false_and, and_false, true_or, or_true, false_or, or_false, not_true_eq_false, not_false_eq_true, Option.bind_eq_bind, Option.bind_some, psh, eq_self, l_0, l_1, l_2, l_3, l_4, l_5, l_6, l_7, l_8, l_9, l_10, l_11, l_12, l_13, l_14, l_15, l_16, l_17, l_18, l_19, l_20, l_24, l_31, l_32, l_33, l_35, l_36, l_48, l_56, l_57, l_58, l_63, l_65, l_80, l_81, l_90, l_91, l_93, l_94, l_95, l_97, l_100, l_105, l_107, l_110, l_111, l_116, l_120, l_121, l_122, l_123, l_124, l_125, l_126, l_162, l_255, l_300, l_400, l_420, l_432, l_1000, l_1400, l_1936, l_2000, l_2100, l_2400, l_24000, m_n1, m_n2, m_n3, nI_mul, nI_add, nI_sub, nI_ltT, nI_ltF, nI_leT, nI_leF, nI_eqT, nI_eqF, nI_nM, nM_nI, nM_eq, nM_lt, nM_le, nI_ltM, nI_leM, nI_inT, nI_dec, pk_rem, nI_ltI, nI_leI, nI_eq, nI_clamp, Nat.add_assoc, q_bv51, mdR_text d, mdK_text d, mdL_text d, mdR_blamed d, mdK_blamed d, mdL_blamed d, mdR_length d, mdK_length d, mdL_length d, mdR_isGone d, mdK_isGone d, mdL_isGone d, mdR_pageOf d, mdK_pageOf d, mdL_pageOf d, mdR_handOf d, mdK_handOf d, mdL_handOf d, mdR_begin d, mdK_begin d, mdL_begin d, mdR_went d, mdK_went d, mdL_went d, mdR_came d, mdK_came d, mdL_came d, mdR_nameAt d, mdK_nameAt d, mdL_nameAt d, mdR_nameLong d, mdK_nameLong d, mdL_nameLong d, mdR_tape d, mdK_tape d, mdL_tape d, mdR_out d, mdK_out d, mdL_out d, mdR_fold d, mdK_fold d, mdL_fold d, mdR_hand d, mdK_hand d, mdL_hand d, mdR_passed d, mdK_passed d, mdL_passed d, mdR_mark d, mdK_mark d, mdL_mark d, mdR_next d, mdK_next d, mdL_next d, mdR_goal d, mdK_goal d, mdL_goal d, mdR_foundPage d, mdK_foundPage d, mdL_foundPage d, mdR_pile d, mdK_pile d, mdL_pile d, mdR_place d, mdK_place d, mdL_place d, mdR_many d, mdK_many d, mdL_many d, mdR_word d, mdK_word d, mdL_word d, mdR_wordLong d, mdK_wordLong d, mdL_wordLong d, mdR_made d, mdK_made d, mdL_made d, mdR_list d, mdK_list d, mdL_list d, mdR_listLong d, mdK_listLong d, mdL_listLong d, mdR_steps d, mdK_steps d, mdL_steps d, d.1]
theorem m_cby_1 {g M : Nat} {l1 l2 : Option Value} : ∀ j k (h : PH), j + k = 18 → md h M → (∀ p, p < k → hA h (M + 16) p = nI 0) → ∃ h' v2, ev g mX11_comesBy 2 [some (va_rf (some M)), l1, l2, some (.int (nI k))] [] h = ev g mX11_comesBy 21 [some (va_rf (some M)), l1, l2, v2] [] h' ∧ mf [] [16] M h h' ∧ mps h' M [] := by
  intro j
  induction j with
  | zero =>
    intro k h hk d hp
    refine ⟨h, some (.int (nI k)), ?_, mf.rf _, fun p hp' => by rw [hp p (by omega)]; rfl⟩
    rw [e_X11_comesBy_2]
    simp (decide := true) (disch := omega) only [e_X11_comesBy_3, e_X11_comesBy_5, e_X11_comesBy_8, e_X11_comesBy_9, e_X11_comesBy_12, e_X11_comesBy_13, e_X11_comesBy_14, e_X11_comesBy_15, e_X11_comesBy_18, ↓reduceIte, if_true, if_false, reduceCtorEq, Nat.reduceAdd, true_and, and_true, false_and, and_false, true_or, or_true, false_or, or_false, not_true_eq_false, not_false_eq_true, Option.bind_eq_bind, Option.bind_some, psh, eq_self, l_0, l_1, l_2, l_3, l_4, l_5, l_6, l_7, l_8, l_9, l_10, l_11, l_12, l_13, l_14, l_15, l_16, l_17, l_18, l_19, l_20, l_24, l_31, l_32, l_33, l_35, l_36, l_48, l_56, l_57, l_58, l_63, l_65, l_80, l_81, l_90, l_91, l_93, l_94, l_95, l_97, l_100, l_105, l_107, l_110, l_111, l_116, l_120, l_121, l_122, l_123, l_124, l_125, l_126, l_162, l_255, l_300, l_400, l_420, l_432, l_1000, l_1400, l_1936, l_2000, l_2100, l_2400, l_24000, m_n1, m_n2, m_n3, nI_mul, nI_add, nI_sub, nI_ltT, nI_ltF, nI_leT, nI_leF, nI_eqT, nI_eqF, nI_nM, nM_nI, nM_eq, nM_lt, nM_le, nI_ltM, nI_leM, nI_inT, nI_dec, pk_rem, nI_ltI, nI_leI, nI_eq, nI_clamp, Nat.add_assoc, q_bv51, mdR_text d, mdK_text d, mdL_text d, mdR_blamed d, mdK_blamed d, mdL_blamed d, mdR_length d, mdK_length d, mdL_length d, mdR_isGone d, mdK_isGone d, mdL_isGone d, mdR_pageOf d, mdK_pageOf d, mdL_pageOf d, mdR_handOf d, mdK_handOf d, mdL_handOf d, mdR_begin d, mdK_begin d, mdL_begin d, mdR_went d, mdK_went d, mdL_went d, mdR_came d, mdK_came d, mdL_came d, mdR_nameAt d, mdK_nameAt d, mdL_nameAt d, mdR_nameLong d, mdK_nameLong d, mdL_nameLong d, mdR_tape d, mdK_tape d, mdL_tape d, mdR_out d, mdK_out d, mdL_out d, mdR_fold d, mdK_fold d, mdL_fold d, mdR_hand d, mdK_hand d, mdL_hand d, mdR_passed d, mdK_passed d, mdL_passed d, mdR_mark d, mdK_mark d, mdL_mark d, mdR_next d, mdK_next d, mdL_next d, mdR_goal d, mdK_goal d, mdL_goal d, mdR_foundPage d, mdK_foundPage d, mdL_foundPage d, mdR_pile d, mdK_pile d, mdL_pile d, mdR_place d, mdK_place d, mdL_place d, mdR_many d, mdK_many d, mdL_many d, mdR_word d, mdK_word d, mdL_word d, mdR_wordLong d, mdK_wordLong d, mdL_wordLong d, mdR_made d, mdK_made d, mdL_made d, mdR_list d, mdK_list d, mdL_list d, mdR_listLong d, mdK_listLong d, mdL_listLong d, mdR_steps d, mdK_steps d, mdL_steps d, d.1]
  | succ j ih =>
    intro k h hk d hp
    have f1 : mf [] [16] M h (pA h (M + 16) (upd (hA h (M + 16)) k (nI 0))) := mf.pA _ 16 _ (by decide)
    obtain ⟨h', v2, e1, e2, e3⟩ := ih (k + 1) (pA h (M + 16) (upd (hA h (M + 16)) k (nI 0))) (by omega) (f1.d d) (by
      intro p hp'
      simp only [u_hN_pI, u_hU_pI, u_hK_pI, u_hL_pI, u_hR_pI, u_hJ_pI, u_hA_pI, u_hB_pI, u_hS_pI, u_hN_pR, u_hU_pR, u_hK_pR, u_hL_pR, u_hI_pR, u_hJ_pR, u_hA_pR, u_hB_pR, u_hS_pR, u_hN_pJ, u_hU_pJ, u_hK_pJ, u_hL_pJ, u_hI_pJ, u_hR_pJ, u_hA_pJ, u_hB_pJ, u_hS_pJ, u_hN_pA, u_hU_pA, u_hK_pA, u_hL_pA, u_hI_pA, u_hR_pA, u_hJ_pA, u_hB_pA, u_hS_pA, u_hN_pB, u_hU_pB, u_hK_pB, u_hL_pB, u_hI_pB, u_hR_pB, u_hJ_pB, u_hA_pB, u_hS_pB, u_hL_nO, u_hA_nO, u_hB_nO, u_hS_nO, u_hI_nA, u_hR_nA, u_hJ_nA, u_hS_nA, u_II, u_RR, u_JJ, u_AA, u_BB, u_NO, u_UO, u_KO, u_IO, u_RO, u_JO, u_NN, u_UN, u_KN, u_LN, u_AN, u_BN, if_true]
      by_cases c : p = k
      · rw [c, pk_us]
      · rw [pk_un c]; exact hp p (by omega))
    refine ⟨h', v2, ?_, f1.tr e2, e3⟩
    rw [e_X11_comesBy_2, ← e1]
    simp (decide := true) (disch := omega) only [e_X11_comesBy_3, e_X11_comesBy_5, e_X11_comesBy_8, e_X11_comesBy_9, e_X11_comesBy_12, e_X11_comesBy_13, e_X11_comesBy_14, e_X11_comesBy_15, e_X11_comesBy_18, ↓reduceIte, if_true, if_false, reduceCtorEq, Nat.reduceAdd, true_and, and_true, false_and, and_false, true_or, or_true, false_or, or_false, not_true_eq_false, not_false_eq_true, Option.bind_eq_bind, Option.bind_some, psh, eq_self, l_0, l_1, l_2, l_3, l_4, l_5, l_6, l_7, l_8, l_9, l_10, l_11, l_12, l_13, l_14, l_15, l_16, l_17, l_18, l_19, l_20, l_24, l_31, l_32, l_33, l_35, l_36, l_48, l_56, l_57, l_58, l_63, l_65, l_80, l_81, l_90, l_91, l_93, l_94, l_95, l_97, l_100, l_105, l_107, l_110, l_111, l_116, l_120, l_121, l_122, l_123, l_124, l_125, l_126, l_162, l_255, l_300, l_400, l_420, l_432, l_1000, l_1400, l_1936, l_2000, l_2100, l_2400, l_24000, m_n1, m_n2, m_n3, nI_mul, nI_add, nI_sub, nI_ltT, nI_ltF, nI_leT, nI_leF, nI_eqT, nI_eqF, nI_nM, nM_nI, nM_eq, nM_lt, nM_le, nI_ltM, nI_leM, nI_inT, nI_dec, pk_rem, nI_ltI, nI_leI, nI_eq, nI_clamp, Nat.add_assoc, q_bv51, mdR_text d, mdK_text d, mdL_text d, mdR_blamed d, mdK_blamed d, mdL_blamed d, mdR_length d, mdK_length d, mdL_length d, mdR_isGone d, mdK_isGone d, mdL_isGone d, mdR_pageOf d, mdK_pageOf d, mdL_pageOf d, mdR_handOf d, mdK_handOf d, mdL_handOf d, mdR_begin d, mdK_begin d, mdL_begin d, mdR_went d, mdK_went d, mdL_went d, mdR_came d, mdK_came d, mdL_came d, mdR_nameAt d, mdK_nameAt d, mdL_nameAt d, mdR_nameLong d, mdK_nameLong d, mdL_nameLong d, mdR_tape d, mdK_tape d, mdL_tape d, mdR_out d, mdK_out d, mdL_out d, mdR_fold d, mdK_fold d, mdL_fold d, mdR_hand d, mdK_hand d, mdL_hand d, mdR_passed d, mdK_passed d, mdL_passed d, mdR_mark d, mdK_mark d, mdL_mark d, mdR_next d, mdK_next d, mdL_next d, mdR_goal d, mdK_goal d, mdL_goal d, mdR_foundPage d, mdK_foundPage d, mdL_foundPage d, mdR_pile d, mdK_pile d, mdL_pile d, mdR_place d, mdK_place d, mdL_place d, mdR_many d, mdK_many d, mdL_many d, mdR_word d, mdK_word d, mdL_word d, mdR_wordLong d, mdK_wordLong d, mdL_wordLong d, mdR_made d, mdK_made d, mdL_made d, mdR_list d, mdK_list d, mdL_list d, mdR_listLong d, mdK_listLong d, mdL_listLong d, mdR_steps d, mdK_steps d, mdL_steps d, d.1]
theorem mps.add {h : PH} {M : Nat} {ps : List Nat} {p : Nat} (r : mps h M ps) : mps (pA h (M + 16) (upd (hA h (M + 16)) p (nI 1))) M (p :: ps) := by
  intro x hx
  simp only [u_hN_pI, u_hU_pI, u_hK_pI, u_hL_pI, u_hR_pI, u_hJ_pI, u_hA_pI, u_hB_pI, u_hS_pI, u_hN_pR, u_hU_pR, u_hK_pR, u_hL_pR, u_hI_pR, u_hJ_pR, u_hA_pR, u_hB_pR, u_hS_pR, u_hN_pJ, u_hU_pJ, u_hK_pJ, u_hL_pJ, u_hI_pJ, u_hR_pJ, u_hA_pJ, u_hB_pJ, u_hS_pJ, u_hN_pA, u_hU_pA, u_hK_pA, u_hL_pA, u_hI_pA, u_hR_pA, u_hJ_pA, u_hB_pA, u_hS_pA, u_hN_pB, u_hU_pB, u_hK_pB, u_hL_pB, u_hI_pB, u_hR_pB, u_hJ_pB, u_hA_pB, u_hS_pB, u_hL_nO, u_hA_nO, u_hB_nO, u_hS_nO, u_hI_nA, u_hR_nA, u_hJ_nA, u_hS_nA, u_II, u_RR, u_JJ, u_AA, u_BB, u_NO, u_UO, u_KO, u_IO, u_RO, u_JO, u_NN, u_UN, u_KN, u_LN, u_AN, u_BN, if_true]
  by_cases c : x = p
  · rw [c, pk_us]; simp [bI]
  · rw [pk_un c, r x hx]; simp [c]
/-- the fields and arrays that a search along moves changes -/
abbrev sF : List Nat := [19, 20, 24, 25, 26, 27, 28]
abbrev sA : List Nat := [14, 16]
theorem m_onw_2 {g M n nn t : Nat} {ch : Nat → Ch} {nm : Nat → Nm} {q0 : Nm} (ht : t ≤ n) (hnn : nn ≤ 16) :
    ∀ j (ps : List Nat) (q : Nm) (h : PH) v2, j + ps.length = nn + 1 → md h M → mCh h M n ch → mNm h M nn nm → fis h M q → mps h M ps → ps.Nodup → (∀ p ∈ ps, p < nn) → (∀ k, onw ch nm nn t (k + ps.length) q0 = onw ch nm nn t k q) → (∀ v ∈ ps.map nm, ∃ v', wnx ch nm nn t v = some v' ∧ (v' ∈ ps.map nm ∨ v' = q)) →
      ∃ h', ev g mX11_onwardOfFold 21 [some (va_rf (some M)), some (.int (nI t)), v2] [] h = some (some (.int (onw ch nm nn t 17 q0)), h') ∧ mf sF sA M h h' := by
  intro j
  induction j with
  | zero =>
    intro ps q h v2 hj d hc hm hf hp hnd hlt h1 h2
    have := nodup_lt hnd hlt
    omega
  | succ j ih =>
    intro ps q h v2 hj d hc hm hf hp hnd hlt h1 h2
    have hle := nodup_lt hnd hlt
    have e1 := m_pof (g := g) d hf hm hc ht
    have e17 := h1 (17 - ps.length)
    rw [show 17 - ps.length + ps.length = 17 by omega] at e17
    rw [e17, show 17 - ps.length = (16 - ps.length) + 1 by omega, onw]
    cases ep : pof ch nm nn q t with
    | none =>
      rw [ep, oN] at e1
      have ew : wtx ch nm nn t q = none := by unfold wtx; rw [ep]
      rw [e_X11_onwardOfFold_21, ew]
      simp (decide := true) (disch := omega) only [e_X11_onwardOfFold_22, e_X11_onwardOfFold_23, e_X11_onwardOfFold_26, e_X11_onwardOfFold_27, e_X11_onwardOfFold_28, e_X11_onwardOfFold_29, e_X11_onwardOfFold_32, e_X11_onwardOfFold_34, e_X11_onwardOfFold_35, e_X11_onwardOfFold_36, e_X11_onwardOfFold_39, e_X11_onwardOfFold_40, e_X11_onwardOfFold_41, e_X11_onwardOfFold_44, e_X11_onwardOfFold_46, e_X11_onwardOfFold_47, e_X11_onwardOfFold_48, e_X11_onwardOfFold_51, e_X11_onwardOfFold_52, e_X11_onwardOfFold_53, e_X11_onwardOfFold_54, e_X11_onwardOfFold_55, e_X11_onwardOfFold_56, e_X11_onwardOfFold_57, e_X11_onwardOfFold_58, e_X11_onwardOfFold_61, e_X11_onwardOfFold_64, e_X11_onwardOfFold_67, e_X11_onwardOfFold_68, e_X11_onwardOfFold_69, ↓reduceIte, if_true, if_false, reduceCtorEq, Nat.reduceAdd, true_and, and_true, false_and, and_false, true_or, or_true, false_or, or_false, not_true_eq_false, not_false_eq_true, Option.bind_eq_bind, Option.bind_some, psh, eq_self, l_0, l_1, l_2, l_3, l_4, l_5, l_6, l_7, l_8, l_9, l_10, l_11, l_12, l_13, l_14, l_15, l_16, l_17, l_18, l_19, l_20, l_24, l_31, l_32, l_33, l_35, l_36, l_48, l_56, l_57, l_58, l_63, l_65, l_80, l_81, l_90, l_91, l_93, l_94, l_95, l_97, l_100, l_105, l_107, l_110, l_111, l_116, l_120, l_121, l_122, l_123, l_124, l_125, l_126, l_162, l_255, l_300, l_400, l_420, l_432, l_1000, l_1400, l_1936, l_2000, l_2100, l_2400, l_24000, m_n1, m_n2, m_n3, nI_mul, nI_add, nI_sub, nI_ltT, nI_ltF, nI_leT, nI_leF, nI_eqT, nI_eqF, nI_nM, nM_nI, nM_eq, nM_lt, nM_le, nI_ltM, nI_leM, nI_inT, nI_dec, pk_rem, nI_ltI, nI_leI, nI_eq, nI_clamp, Nat.add_assoc, q_bv51, mdR_text d, mdK_text d, mdL_text d, mdR_blamed d, mdK_blamed d, mdL_blamed d, mdR_length d, mdK_length d, mdL_length d, mdR_isGone d, mdK_isGone d, mdL_isGone d, mdR_pageOf d, mdK_pageOf d, mdL_pageOf d, mdR_handOf d, mdK_handOf d, mdL_handOf d, mdR_begin d, mdK_begin d, mdL_begin d, mdR_went d, mdK_went d, mdL_went d, mdR_came d, mdK_came d, mdL_came d, mdR_nameAt d, mdK_nameAt d, mdL_nameAt d, mdR_nameLong d, mdK_nameLong d, mdL_nameLong d, mdR_tape d, mdK_tape d, mdL_tape d, mdR_out d, mdK_out d, mdL_out d, mdR_fold d, mdK_fold d, mdL_fold d, mdR_hand d, mdK_hand d, mdL_hand d, mdR_passed d, mdK_passed d, mdL_passed d, mdR_mark d, mdK_mark d, mdL_mark d, mdR_next d, mdK_next d, mdL_next d, mdR_goal d, mdK_goal d, mdL_goal d, mdR_foundPage d, mdK_foundPage d, mdL_foundPage d, mdR_pile d, mdK_pile d, mdL_pile d, mdR_place d, mdK_place d, mdL_place d, mdR_many d, mdK_many d, mdL_many d, mdR_word d, mdK_word d, mdL_word d, mdR_wordLong d, mdK_wordLong d, mdL_wordLong d, mdR_made d, mdK_made d, mdL_made d, mdR_list d, mdK_list d, mdL_list d, mdR_listLong d, mdK_listLong d, mdL_listLong d, mdR_steps d, mdK_steps d, mdL_steps d, d.1, e1]
      exact ⟨h, rfl, mf.rf _⟩
    | some p =>
      obtain ⟨p1, p2, c, p3⟩ := pof_lt ep
      obtain ⟨c1, c2, c3, c4, c5⟩ := thr_some p3
      rw [ep, oN] at e1
      have ew : wtx ch nm nn t q = some (p, ct (ch c)) := by unfold wtx; rw [ep, c5]
      have et := m_textOf (g := g) (p := p) (t := t) d hc (by omega) ht
      rw [p3, oN] at et
      have hpp := hp p (by omega)
      by_cases cp' : p ∈ ps
      · have hq : q ∈ ps.map nm := by rw [← p2]; exact List.mem_map_of_mem cp'
        have : onw ch nm nn t (16 - ps.length + 1) q = nM 3 := onw_ring (V := ps.map nm) (fun v hv => by
          obtain ⟨v', w1, w2⟩ := h2 v hv
          refine ⟨v', w1, ?_⟩
          rcases w2 with w2 | w2
          · exact w2
          · rw [w2]; exact hq) _ _ hq
        rw [onw] at this
        rw [this]
        rw [decide_eq_true cp', bI_t] at hpp
        rw [e_X11_onwardOfFold_21]
        simp (decide := true) (disch := omega) only [e_X11_onwardOfFold_22, e_X11_onwardOfFold_23, e_X11_onwardOfFold_26, e_X11_onwardOfFold_27, e_X11_onwardOfFold_28, e_X11_onwardOfFold_29, e_X11_onwardOfFold_32, e_X11_onwardOfFold_34, e_X11_onwardOfFold_35, e_X11_onwardOfFold_36, e_X11_onwardOfFold_39, e_X11_onwardOfFold_40, e_X11_onwardOfFold_41, e_X11_onwardOfFold_44, e_X11_onwardOfFold_46, e_X11_onwardOfFold_47, e_X11_onwardOfFold_48, e_X11_onwardOfFold_51, e_X11_onwardOfFold_52, e_X11_onwardOfFold_53, e_X11_onwardOfFold_54, e_X11_onwardOfFold_55, e_X11_onwardOfFold_56, e_X11_onwardOfFold_57, e_X11_onwardOfFold_58, e_X11_onwardOfFold_61, e_X11_onwardOfFold_64, e_X11_onwardOfFold_67, e_X11_onwardOfFold_68, e_X11_onwardOfFold_69, ↓reduceIte, if_true, if_false, reduceCtorEq, Nat.reduceAdd, true_and, and_true, false_and, and_false, true_or, or_true, false_or, or_false, not_true_eq_false, not_false_eq_true, Option.bind_eq_bind, Option.bind_some, psh, eq_self, l_0, l_1, l_2, l_3, l_4, l_5, l_6, l_7, l_8, l_9, l_10, l_11, l_12, l_13, l_14, l_15, l_16, l_17, l_18, l_19, l_20, l_24, l_31, l_32, l_33, l_35, l_36, l_48, l_56, l_57, l_58, l_63, l_65, l_80, l_81, l_90, l_91, l_93, l_94, l_95, l_97, l_100, l_105, l_107, l_110, l_111, l_116, l_120, l_121, l_122, l_123, l_124, l_125, l_126, l_162, l_255, l_300, l_400, l_420, l_432, l_1000, l_1400, l_1936, l_2000, l_2100, l_2400, l_24000, m_n1, m_n2, m_n3, nI_mul, nI_add, nI_sub, nI_ltT, nI_ltF, nI_leT, nI_leF, nI_eqT, nI_eqF, nI_nM, nM_nI, nM_eq, nM_lt, nM_le, nI_ltM, nI_leM, nI_inT, nI_dec, pk_rem, nI_ltI, nI_leI, nI_eq, nI_clamp, Nat.add_assoc, q_bv51, mdR_text d, mdK_text d, mdL_text d, mdR_blamed d, mdK_blamed d, mdL_blamed d, mdR_length d, mdK_length d, mdL_length d, mdR_isGone d, mdK_isGone d, mdL_isGone d, mdR_pageOf d, mdK_pageOf d, mdL_pageOf d, mdR_handOf d, mdK_handOf d, mdL_handOf d, mdR_begin d, mdK_begin d, mdL_begin d, mdR_went d, mdK_went d, mdL_went d, mdR_came d, mdK_came d, mdL_came d, mdR_nameAt d, mdK_nameAt d, mdL_nameAt d, mdR_nameLong d, mdK_nameLong d, mdL_nameLong d, mdR_tape d, mdK_tape d, mdL_tape d, mdR_out d, mdK_out d, mdL_out d, mdR_fold d, mdK_fold d, mdL_fold d, mdR_hand d, mdK_hand d, mdL_hand d, mdR_passed d, mdK_passed d, mdL_passed d, mdR_mark d, mdK_mark d, mdL_mark d, mdR_next d, mdK_next d, mdL_next d, mdR_goal d, mdK_goal d, mdL_goal d, mdR_foundPage d, mdK_foundPage d, mdL_foundPage d, mdR_pile d, mdK_pile d, mdL_pile d, mdR_place d, mdK_place d, mdL_place d, mdR_many d, mdK_many d, mdL_many d, mdR_word d, mdK_word d, mdL_word d, mdR_wordLong d, mdK_wordLong d, mdL_wordLong d, mdR_made d, mdK_made d, mdL_made d, mdR_list d, mdK_list d, mdL_list d, mdR_listLong d, mdK_listLong d, mdL_listLong d, mdR_steps d, mdK_steps d, mdL_steps d, d.1, e1, hpp]
        exact ⟨h, rfl, mf.rf _⟩
      · rw [decide_eq_false cp', bI_f] at hpp
        have f1 : mf sF sA M h (pA h (M + 16) (upd (hA h (M + 16)) p (nI 1))) := mf.pA _ 16 _ (by decide)
        have d1 := f1.d d
        have hcc := hc.2.2 c c1 (by omega)
        have hc1 := hcc.kp f1 (by decide)
        have et1 := m_textOf (g := g) (p := p) (t := t) d1 (hc.kp f1 (by decide) (by decide)) (by omega) ht
        rw [p3, oN] at et1
        have hn := hc.2.1
        obtain ⟨h', e3, f3, r3⟩ := m_isMoved (g := g) (c := c) d1 (by omega) hc1.1.1 hc1.2.1 hc1.1.2.2.2.2 hc1.1.2.2.2.1
        rw [ew]
        simp only
        cases em : mvd (ct (ch c)) with
        | none =>
          rw [em] at e3
          have e3' : cal g mX11_isMoved [va_rf (some M), .int (nI c)] (pA h (M + 16) (upd (hA h (M + 16)) p (nI 1))) = some (some (.int (nI 0)), h') := e3
          rw [e_X11_onwardOfFold_21]
          simp (decide := true) (disch := omega) only [e_X11_onwardOfFold_22, e_X11_onwardOfFold_23, e_X11_onwardOfFold_26, e_X11_onwardOfFold_27, e_X11_onwardOfFold_28, e_X11_onwardOfFold_29, e_X11_onwardOfFold_32, e_X11_onwardOfFold_34, e_X11_onwardOfFold_35, e_X11_onwardOfFold_36, e_X11_onwardOfFold_39, e_X11_onwardOfFold_40, e_X11_onwardOfFold_41, e_X11_onwardOfFold_44, e_X11_onwardOfFold_46, e_X11_onwardOfFold_47, e_X11_onwardOfFold_48, e_X11_onwardOfFold_51, e_X11_onwardOfFold_52, e_X11_onwardOfFold_53, e_X11_onwardOfFold_54, e_X11_onwardOfFold_55, e_X11_onwardOfFold_56, e_X11_onwardOfFold_57, e_X11_onwardOfFold_58, e_X11_onwardOfFold_61, e_X11_onwardOfFold_64, e_X11_onwardOfFold_67, e_X11_onwardOfFold_68, e_X11_onwardOfFold_69, ↓reduceIte, if_true, if_false, reduceCtorEq, Nat.reduceAdd, true_and, and_true, false_and, and_false, true_or, or_true, false_or, or_false, not_true_eq_false, not_false_eq_true, Option.bind_eq_bind, Option.bind_some, psh, eq_self, l_0, l_1, l_2, l_3, l_4, l_5, l_6, l_7, l_8, l_9, l_10, l_11, l_12, l_13, l_14, l_15, l_16, l_17, l_18, l_19, l_20, l_24, l_31, l_32, l_33, l_35, l_36, l_48, l_56, l_57, l_58, l_63, l_65, l_80, l_81, l_90, l_91, l_93, l_94, l_95, l_97, l_100, l_105, l_107, l_110, l_111, l_116, l_120, l_121, l_122, l_123, l_124, l_125, l_126, l_162, l_255, l_300, l_400, l_420, l_432, l_1000, l_1400, l_1936, l_2000, l_2100, l_2400, l_24000, m_n1, m_n2, m_n3, nI_mul, nI_add, nI_sub, nI_ltT, nI_ltF, nI_leT, nI_leF, nI_eqT, nI_eqF, nI_nM, nM_nI, nM_eq, nM_lt, nM_le, nI_ltM, nI_leM, nI_inT, nI_dec, pk_rem, nI_ltI, nI_leI, nI_eq, nI_clamp, Nat.add_assoc, q_bv51, mdR_text d, mdK_text d, mdL_text d, mdR_blamed d, mdK_blamed d, mdL_blamed d, mdR_length d, mdK_length d, mdL_length d, mdR_isGone d, mdK_isGone d, mdL_isGone d, mdR_pageOf d, mdK_pageOf d, mdL_pageOf d, mdR_handOf d, mdK_handOf d, mdL_handOf d, mdR_begin d, mdK_begin d, mdL_begin d, mdR_went d, mdK_went d, mdL_went d, mdR_came d, mdK_came d, mdL_came d, mdR_nameAt d, mdK_nameAt d, mdL_nameAt d, mdR_nameLong d, mdK_nameLong d, mdL_nameLong d, mdR_tape d, mdK_tape d, mdL_tape d, mdR_out d, mdK_out d, mdL_out d, mdR_fold d, mdK_fold d, mdL_fold d, mdR_hand d, mdK_hand d, mdL_hand d, mdR_passed d, mdK_passed d, mdL_passed d, mdR_mark d, mdK_mark d, mdL_mark d, mdR_next d, mdK_next d, mdL_next d, mdR_goal d, mdK_goal d, mdL_goal d, mdR_foundPage d, mdK_foundPage d, mdL_foundPage d, mdR_pile d, mdK_pile d, mdL_pile d, mdR_place d, mdK_place d, mdL_place d, mdR_many d, mdK_many d, mdL_many d, mdR_word d, mdK_word d, mdL_word d, mdR_wordLong d, mdK_wordLong d, mdL_wordLong d, mdR_made d, mdK_made d, mdL_made d, mdR_list d, mdK_list d, mdL_list d, mdR_listLong d, mdK_listLong d, mdL_listLong d, mdR_steps d, mdK_steps d, mdL_steps d, d.1, e1, hpp, u_hN_pI, u_hU_pI, u_hK_pI, u_hL_pI, u_hR_pI, u_hJ_pI, u_hA_pI, u_hB_pI, u_hS_pI, u_hN_pR, u_hU_pR, u_hK_pR, u_hL_pR, u_hI_pR, u_hJ_pR, u_hA_pR, u_hB_pR, u_hS_pR, u_hN_pJ, u_hU_pJ, u_hK_pJ, u_hL_pJ, u_hI_pJ, u_hR_pJ, u_hA_pJ, u_hB_pJ, u_hS_pJ, u_hN_pA, u_hU_pA, u_hK_pA, u_hL_pA, u_hI_pA, u_hR_pA, u_hJ_pA, u_hB_pA, u_hS_pA, u_hN_pB, u_hU_pB, u_hK_pB, u_hL_pB, u_hI_pB, u_hR_pB, u_hJ_pB, u_hA_pB, u_hS_pB, u_hL_nO, u_hA_nO, u_hB_nO, u_hS_nO, u_hI_nA, u_hR_nA, u_hJ_nA, u_hS_nA, u_II, u_RR, u_JJ, u_AA, u_BB, u_NO, u_UO, u_KO, u_IO, u_RO, u_JO, u_NN, u_UN, u_KN, u_LN, u_AN, u_BN, et1, e3']
          exact ⟨h', rfl, f1.tr (f3.mono (by decide) (by decide))⟩
        | some q' =>
          rw [em] at e3
          have e3' : cal g mX11_isMoved [va_rf (some M), .int (nI c)] (pA h (M + 16) (upd (hA h (M + 16)) p (nI 1))) = some (some (.int (nI 1)), h') := e3
          have f4 := f1.tr (f3.mono (by decide) (by decide))
          have ewn : wnx ch nm nn t q = some q' := by unfold wnx; rw [ew]; exact em
          obtain ⟨h'', e5, f5⟩ := ih (p :: ps) q' h' (some (.int (nI p))) (by simp; omega) (f4.d d) (hc.kp f4 (by decide) (by decide)) (hm.keep f4 (by decide) (by decide) (by decide)) (r3 q' em) (hp.add.keep f3 (by decide)) (List.nodup_cons.mpr ⟨cp', hnd⟩) (by
            intro x hx
            rcases List.mem_cons.mp hx with w | w
            · rw [w]; exact p1
            · exact hlt x w) (by
            intro k
            have := h1 (k + 1)
            rw [List.length_cons, show k + (ps.length + 1) = k + 1 + ps.length by omega, this, onw, ew]
            simp only [em]) (by
            intro v hv
            rw [List.map_cons, p2] at hv ⊢
            rcases List.mem_cons.mp hv with w | w
            · rw [w]; exact ⟨q', ewn, Or.inr rfl⟩
            · obtain ⟨v', w1, w2⟩ := h2 v w
              refine ⟨v', w1, ?_⟩
              rcases w2 with w2 | w2
              · exact Or.inl (List.mem_cons_of_mem _ w2)
              · rw [w2]; exact Or.inl List.mem_cons_self)
          have e17' : onw ch nm nn t 17 q0 = onw ch nm nn t (16 - ps.length) q' := by
            rw [e17, show 17 - ps.length = (16 - ps.length) + 1 by omega, onw, ew]
            simp only [em]
          simp only
          rw [← e17']
          rw [e_X11_onwardOfFold_21]
          simp (decide := true) (disch := omega) only [e_X11_onwardOfFold_22, e_X11_onwardOfFold_23, e_X11_onwardOfFold_26, e_X11_onwardOfFold_27, e_X11_onwardOfFold_28, e_X11_onwardOfFold_29, e_X11_onwardOfFold_32, e_X11_onwardOfFold_34, e_X11_onwardOfFold_35, e_X11_onwardOfFold_36, e_X11_onwardOfFold_39, e_X11_onwardOfFold_40, e_X11_onwardOfFold_41, e_X11_onwardOfFold_44, e_X11_onwardOfFold_46, e_X11_onwardOfFold_47, e_X11_onwardOfFold_48, e_X11_onwardOfFold_51, e_X11_onwardOfFold_52, e_X11_onwardOfFold_53, e_X11_onwardOfFold_54, e_X11_onwardOfFold_55, e_X11_onwardOfFold_56, e_X11_onwardOfFold_57, e_X11_onwardOfFold_58, e_X11_onwardOfFold_61, e_X11_onwardOfFold_64, e_X11_onwardOfFold_67, e_X11_onwardOfFold_68, e_X11_onwardOfFold_69, ↓reduceIte, if_true, if_false, reduceCtorEq, Nat.reduceAdd, true_and, and_true, false_and, and_false, true_or, or_true, false_or, or_false, not_true_eq_false, not_false_eq_true, Option.bind_eq_bind, Option.bind_some, psh, eq_self, l_0, l_1, l_2, l_3, l_4, l_5, l_6, l_7, l_8, l_9, l_10, l_11, l_12, l_13, l_14, l_15, l_16, l_17, l_18, l_19, l_20, l_24, l_31, l_32, l_33, l_35, l_36, l_48, l_56, l_57, l_58, l_63, l_65, l_80, l_81, l_90, l_91, l_93, l_94, l_95, l_97, l_100, l_105, l_107, l_110, l_111, l_116, l_120, l_121, l_122, l_123, l_124, l_125, l_126, l_162, l_255, l_300, l_400, l_420, l_432, l_1000, l_1400, l_1936, l_2000, l_2100, l_2400, l_24000, m_n1, m_n2, m_n3, nI_mul, nI_add, nI_sub, nI_ltT, nI_ltF, nI_leT, nI_leF, nI_eqT, nI_eqF, nI_nM, nM_nI, nM_eq, nM_lt, nM_le, nI_ltM, nI_leM, nI_inT, nI_dec, pk_rem, nI_ltI, nI_leI, nI_eq, nI_clamp, Nat.add_assoc, q_bv51, mdR_text d, mdK_text d, mdL_text d, mdR_blamed d, mdK_blamed d, mdL_blamed d, mdR_length d, mdK_length d, mdL_length d, mdR_isGone d, mdK_isGone d, mdL_isGone d, mdR_pageOf d, mdK_pageOf d, mdL_pageOf d, mdR_handOf d, mdK_handOf d, mdL_handOf d, mdR_begin d, mdK_begin d, mdL_begin d, mdR_went d, mdK_went d, mdL_went d, mdR_came d, mdK_came d, mdL_came d, mdR_nameAt d, mdK_nameAt d, mdL_nameAt d, mdR_nameLong d, mdK_nameLong d, mdL_nameLong d, mdR_tape d, mdK_tape d, mdL_tape d, mdR_out d, mdK_out d, mdL_out d, mdR_fold d, mdK_fold d, mdL_fold d, mdR_hand d, mdK_hand d, mdL_hand d, mdR_passed d, mdK_passed d, mdL_passed d, mdR_mark d, mdK_mark d, mdL_mark d, mdR_next d, mdK_next d, mdL_next d, mdR_goal d, mdK_goal d, mdL_goal d, mdR_foundPage d, mdK_foundPage d, mdL_foundPage d, mdR_pile d, mdK_pile d, mdL_pile d, mdR_place d, mdK_place d, mdL_place d, mdR_many d, mdK_many d, mdL_many d, mdR_word d, mdK_word d, mdL_word d, mdR_wordLong d, mdK_wordLong d, mdL_wordLong d, mdR_made d, mdK_made d, mdL_made d, mdR_list d, mdK_list d, mdL_list d, mdR_listLong d, mdK_listLong d, mdL_listLong d, mdR_steps d, mdK_steps d, mdL_steps d, d.1, e1, hpp, u_hN_pI, u_hU_pI, u_hK_pI, u_hL_pI, u_hR_pI, u_hJ_pI, u_hA_pI, u_hB_pI, u_hS_pI, u_hN_pR, u_hU_pR, u_hK_pR, u_hL_pR, u_hI_pR, u_hJ_pR, u_hA_pR, u_hB_pR, u_hS_pR, u_hN_pJ, u_hU_pJ, u_hK_pJ, u_hL_pJ, u_hI_pJ, u_hR_pJ, u_hA_pJ, u_hB_pJ, u_hS_pJ, u_hN_pA, u_hU_pA, u_hK_pA, u_hL_pA, u_hI_pA, u_hR_pA, u_hJ_pA, u_hB_pA, u_hS_pA, u_hN_pB, u_hU_pB, u_hK_pB, u_hL_pB, u_hI_pB, u_hR_pB, u_hJ_pB, u_hA_pB, u_hS_pB, u_hL_nO, u_hA_nO, u_hB_nO, u_hS_nO, u_hI_nA, u_hR_nA, u_hJ_nA, u_hS_nA, u_II, u_RR, u_JJ, u_AA, u_BB, u_NO, u_UO, u_KO, u_IO, u_RO, u_JO, u_NN, u_UN, u_KN, u_LN, u_AN, u_BN, et1, e3']
          exact ⟨h'', e5, f4.tr f5⟩
theorem m_onw {g M n nn t : Nat} {h : PH} {ch : Nat → Ch} {nm : Nat → Nm} {q : Nm} (d : md h M) (hc : mCh h M n ch) (hm : mNm h M nn nm) (ht : t ≤ n) (hnn : nn ≤ 16) (hf : fis h M q) :
    ∃ h', cal g mX11_onwardOfFold [va_rf (some M), .int (nI t)] h = some (some (.int (onw ch nm nn t 17 q)), h') ∧ mf sF sA M h h' := by
  rw [n_X11_onwardOfFold]
  obtain ⟨h1, v2, e1, f1, r1⟩ := m_onw_1 (g := g) (M := M) (l1 := some (.int (nI t))) 18 0 h rfl d (fun p hp => absurd hp (Nat.not_lt_zero _))
  obtain ⟨h2, e2, f2⟩ := m_onw_2 (g := g) (q0 := q) ht hnn (nn + 1) [] q h1 v2 rfl (f1.d d) (hc.kp f1 (by decide) (by decide)) (hm.keep f1 (by decide) (by decide) (by decide)) (hf.keep f1 (by decide) (by decide) (by decide)) r1 List.nodup_nil (fun p hp => absurd hp List.not_mem_nil) (fun k => rfl) (fun v hv => absurd hv List.not_mem_nil)
  refine ⟨h2, ?_, (f1.mono (by decide) (by decide)).tr f2⟩
  rw [← e2, ← e1]
  simp (decide := true) (disch := omega) only [e_X11_onwardOfFold_0, e_X11_onwardOfFold_1, ↓reduceIte, if_true, if_false, reduceCtorEq, Nat.reduceAdd, true_and, and_true, false_and, and_false, true_or, or_true, false_or, or_false, not_true_eq_false, not_false_eq_true, Option.bind_eq_bind, Option.bind_some, psh, eq_self, l_0, l_1, l_2, l_3, l_4, l_5, l_6, l_7, l_8, l_9, l_10, l_11, l_12, l_13, l_14, l_15, l_16, l_17, l_18, l_19, l_20, l_24, l_31, l_32, l_33, l_35, l_36, l_48, l_56, l_57, l_58, l_63, l_65, l_80, l_81, l_90, l_91, l_93, l_94, l_95, l_97, l_100, l_105, l_107, l_110, l_111, l_116, l_120, l_121, l_122, l_123, l_124, l_125, l_126, l_162, l_255, l_300, l_400, l_420, l_432, l_1000, l_1400, l_1936, l_2000, l_2100, l_2400, l_24000, m_n1, m_n2, m_n3, nI_mul, nI_add, nI_sub, nI_ltT, nI_ltF, nI_leT, nI_leF, nI_eqT, nI_eqF, nI_nM, nM_nI, nM_eq, nM_lt, nM_le, nI_ltM, nI_leM, nI_inT, nI_dec, pk_rem, nI_ltI, nI_leI, nI_eq, nI_clamp, Nat.add_assoc, q_bv51, mdR_text d, mdK_text d, mdL_text d, mdR_blamed d, mdK_blamed d, mdL_blamed d, mdR_length d, mdK_length d, mdL_length d, mdR_isGone d, mdK_isGone d, mdL_isGone d, mdR_pageOf d, mdK_pageOf d, mdL_pageOf d, mdR_handOf d, mdK_handOf d, mdL_handOf d, mdR_begin d, mdK_begin d, mdL_begin d, mdR_went d, mdK_went d, mdL_went d, mdR_came d, mdK_came d, mdL_came d, mdR_nameAt d, mdK_nameAt d, mdL_nameAt d, mdR_nameLong d, mdK_nameLong d, mdL_nameLong d, mdR_tape d, mdK_tape d, mdL_tape d, mdR_out d, mdK_out d, mdL_out d, mdR_fold d, mdK_fold d, mdL_fold d, mdR_hand d, mdK_hand d, mdL_hand d, mdR_passed d, mdK_passed d, mdL_passed d, mdR_mark d, mdK_mark d, mdL_mark d, mdR_next d, mdK_next d, mdL_next d, mdR_goal d, mdK_goal d, mdL_goal d, mdR_foundPage d, mdK_foundPage d, mdL_foundPage d, mdR_pile d, mdK_pile d, mdL_pile d, mdR_place d, mdK_place d, mdL_place d, mdR_many d, mdK_many d, mdL_many d, mdR_word d, mdK_word d, mdL_word d, mdR_wordLong d, mdK_wordLong d, mdL_wordLong d, mdR_made d, mdK_made d, mdL_made d, mdR_list d, mdK_list d, mdL_list d, mdR_listLong d, mdK_listLong d, mdL_listLong d, mdR_steps d, mdK_steps d, mdL_steps d, d.1]
/-- the model's marks -/
def mmk (h : PH) (M : Nat) (mk : Nat → Bool) : Prop := ∀ p, p < 18 → hA h (M + 17) p = bI (mk p)
theorem mmk.keep {F A : List Nat} {M : Nat} {mk : Nat → Bool} {h h' : PH} (r : mmk h M mk) (s : mf F A M h h') (hA' : 17 ∉ A) : mmk h' M mk := by
  unfold mmk at *
  rw [s.a _ hA']; exact r
theorem m_cby_2 {g M n nn t : Nat} {ch : Nat → Ch} {nm : Nat → Nm} {q0 goal : Nm} {mk : Nat → Bool} {b : Bool} (ht : t ≤ n) (hnn : nn ≤ 16) :
    ∀ j (ps : List Nat) (q : Nm) (h : PH) v2, j + ps.length = nn + 1 → md h M → mCh h M n ch → mNm h M nn nm → mHd h M (some goal) → mmk h M mk → fis h M q → mps h M ps → ps.Nodup → (∀ p ∈ ps, p < nn) → (∀ k, cby ch nm nn t (fun p => b && mk p) goal (k + ps.length) q0 = cby ch nm nn t (fun p => b && mk p) goal k q) → (∀ v ∈ ps.map nm, (∃ v', wnx ch nm nn t v = some v' ∧ (v' ∈ ps.map nm ∨ v' = q)) ∧ v ≠ goal ∧ ∀ r, wtx ch nm nn t v = some r → (b && mk r.1) = false) →
      ∃ h', ev g mX11_comesBy 21 [some (va_rf (some M)), some (.int (nI t)), some (.int (bI b)), v2] [] h = some (some (.int (bI (cby ch nm nn t (fun p => b && mk p) goal 17 q0))), h') ∧ mf sF sA M h h' := by
  intro j
  induction j with
  | zero =>
    intro ps q h v2 hj d hc hm hh hk hf hp hnd hlt h1 h2
    have := nodup_lt hnd hlt
    omega
  | succ j ih =>
    intro ps q h v2 hj d hc hm hh hk hf hp hnd hlt h1 h2
    have hle := nodup_lt hnd hlt
    have e1 := m_pof (g := g) d hf hm hc ht
    have eh := m_isHand (g := g) d hf hh
    have e17 := h1 (17 - ps.length)
    rw [show 17 - ps.length + ps.length = 17 by omega] at e17
    rw [e17, show 17 - ps.length = (16 - ps.length) + 1 by omega]
    by_cases cg : q = goal
    · rw [decide_eq_true cg, bI_t] at eh
      have : cby ch nm nn t (fun p => b && mk p) goal (16 - ps.length + 1) q = true := by rw [cby, decide_eq_true cg, Bool.true_or]
      rw [this, e_X11_comesBy_21]
      simp (decide := true) (disch := omega) only [e_X11_comesBy_22, e_X11_comesBy_25, e_X11_comesBy_28, e_X11_comesBy_29, e_X11_comesBy_30, e_X11_comesBy_31, e_X11_comesBy_32, e_X11_comesBy_35, e_X11_comesBy_36, e_X11_comesBy_37, e_X11_comesBy_38, e_X11_comesBy_41, e_X11_comesBy_42, e_X11_comesBy_45, e_X11_comesBy_46, e_X11_comesBy_47, e_X11_comesBy_50, e_X11_comesBy_51, e_X11_comesBy_52, e_X11_comesBy_53, e_X11_comesBy_56, e_X11_comesBy_57, e_X11_comesBy_60, e_X11_comesBy_61, e_X11_comesBy_62, e_X11_comesBy_65, e_X11_comesBy_66, e_X11_comesBy_67, e_X11_comesBy_68, e_X11_comesBy_71, e_X11_comesBy_72, e_X11_comesBy_73, e_X11_comesBy_74, e_X11_comesBy_75, e_X11_comesBy_76, e_X11_comesBy_77, e_X11_comesBy_78, e_X11_comesBy_81, e_X11_comesBy_84, e_X11_comesBy_87, e_X11_comesBy_88, e_X11_comesBy_89, ↓reduceIte, if_true, if_false, reduceCtorEq, Nat.reduceAdd, true_and, and_true, false_and, and_false, true_or, or_true, false_or, or_false, not_true_eq_false, not_false_eq_true, Option.bind_eq_bind, Option.bind_some, psh, eq_self, l_0, l_1, l_2, l_3, l_4, l_5, l_6, l_7, l_8, l_9, l_10, l_11, l_12, l_13, l_14, l_15, l_16, l_17, l_18, l_19, l_20, l_24, l_31, l_32, l_33, l_35, l_36, l_48, l_56, l_57, l_58, l_63, l_65, l_80, l_81, l_90, l_91, l_93, l_94, l_95, l_97, l_100, l_105, l_107, l_110, l_111, l_116, l_120, l_121, l_122, l_123, l_124, l_125, l_126, l_162, l_255, l_300, l_400, l_420, l_432, l_1000, l_1400, l_1936, l_2000, l_2100, l_2400, l_24000, m_n1, m_n2, m_n3, nI_mul, nI_add, nI_sub, nI_ltT, nI_ltF, nI_leT, nI_leF, nI_eqT, nI_eqF, nI_nM, nM_nI, nM_eq, nM_lt, nM_le, nI_ltM, nI_leM, nI_inT, nI_dec, pk_rem, nI_ltI, nI_leI, nI_eq, nI_clamp, Nat.add_assoc, q_bv51, mdR_text d, mdK_text d, mdL_text d, mdR_blamed d, mdK_blamed d, mdL_blamed d, mdR_length d, mdK_length d, mdL_length d, mdR_isGone d, mdK_isGone d, mdL_isGone d, mdR_pageOf d, mdK_pageOf d, mdL_pageOf d, mdR_handOf d, mdK_handOf d, mdL_handOf d, mdR_begin d, mdK_begin d, mdL_begin d, mdR_went d, mdK_went d, mdL_went d, mdR_came d, mdK_came d, mdL_came d, mdR_nameAt d, mdK_nameAt d, mdL_nameAt d, mdR_nameLong d, mdK_nameLong d, mdL_nameLong d, mdR_tape d, mdK_tape d, mdL_tape d, mdR_out d, mdK_out d, mdL_out d, mdR_fold d, mdK_fold d, mdL_fold d, mdR_hand d, mdK_hand d, mdL_hand d, mdR_passed d, mdK_passed d, mdL_passed d, mdR_mark d, mdK_mark d, mdL_mark d, mdR_next d, mdK_next d, mdL_next d, mdR_goal d, mdK_goal d, mdL_goal d, mdR_foundPage d, mdK_foundPage d, mdL_foundPage d, mdR_pile d, mdK_pile d, mdL_pile d, mdR_place d, mdK_place d, mdL_place d, mdR_many d, mdK_many d, mdL_many d, mdR_word d, mdK_word d, mdL_word d, mdR_wordLong d, mdK_wordLong d, mdL_wordLong d, mdR_made d, mdK_made d, mdL_made d, mdR_list d, mdK_list d, mdL_list d, mdR_listLong d, mdK_listLong d, mdL_listLong d, mdR_steps d, mdK_steps d, mdL_steps d, d.1, eh]
      exact ⟨h, rfl, mf.rf _⟩
    · rw [decide_eq_false cg, bI_f] at eh
      cases ep : pof ch nm nn q t with
      | none =>
        rw [ep, oN] at e1
        have ew : wtx ch nm nn t q = none := by unfold wtx; rw [ep]
        have : cby ch nm nn t (fun p => b && mk p) goal (16 - ps.length + 1) q = false := by rw [cby, decide_eq_false cg, ew]; rfl
        rw [this, e_X11_comesBy_21]
        simp (decide := true) (disch := omega) only [e_X11_comesBy_22, e_X11_comesBy_25, e_X11_comesBy_28, e_X11_comesBy_29, e_X11_comesBy_30, e_X11_comesBy_31, e_X11_comesBy_32, e_X11_comesBy_35, e_X11_comesBy_36, e_X11_comesBy_37, e_X11_comesBy_38, e_X11_comesBy_41, e_X11_comesBy_42, e_X11_comesBy_45, e_X11_comesBy_46, e_X11_comesBy_47, e_X11_comesBy_50, e_X11_comesBy_51, e_X11_comesBy_52, e_X11_comesBy_53, e_X11_comesBy_56, e_X11_comesBy_57, e_X11_comesBy_60, e_X11_comesBy_61, e_X11_comesBy_62, e_X11_comesBy_65, e_X11_comesBy_66, e_X11_comesBy_67, e_X11_comesBy_68, e_X11_comesBy_71, e_X11_comesBy_72, e_X11_comesBy_73, e_X11_comesBy_74, e_X11_comesBy_75, e_X11_comesBy_76, e_X11_comesBy_77, e_X11_comesBy_78, e_X11_comesBy_81, e_X11_comesBy_84, e_X11_comesBy_87, e_X11_comesBy_88, e_X11_comesBy_89, ↓reduceIte, if_true, if_false, reduceCtorEq, Nat.reduceAdd, true_and, and_true, false_and, and_false, true_or, or_true, false_or, or_false, not_true_eq_false, not_false_eq_true, Option.bind_eq_bind, Option.bind_some, psh, eq_self, l_0, l_1, l_2, l_3, l_4, l_5, l_6, l_7, l_8, l_9, l_10, l_11, l_12, l_13, l_14, l_15, l_16, l_17, l_18, l_19, l_20, l_24, l_31, l_32, l_33, l_35, l_36, l_48, l_56, l_57, l_58, l_63, l_65, l_80, l_81, l_90, l_91, l_93, l_94, l_95, l_97, l_100, l_105, l_107, l_110, l_111, l_116, l_120, l_121, l_122, l_123, l_124, l_125, l_126, l_162, l_255, l_300, l_400, l_420, l_432, l_1000, l_1400, l_1936, l_2000, l_2100, l_2400, l_24000, m_n1, m_n2, m_n3, nI_mul, nI_add, nI_sub, nI_ltT, nI_ltF, nI_leT, nI_leF, nI_eqT, nI_eqF, nI_nM, nM_nI, nM_eq, nM_lt, nM_le, nI_ltM, nI_leM, nI_inT, nI_dec, pk_rem, nI_ltI, nI_leI, nI_eq, nI_clamp, Nat.add_assoc, q_bv51, mdR_text d, mdK_text d, mdL_text d, mdR_blamed d, mdK_blamed d, mdL_blamed d, mdR_length d, mdK_length d, mdL_length d, mdR_isGone d, mdK_isGone d, mdL_isGone d, mdR_pageOf d, mdK_pageOf d, mdL_pageOf d, mdR_handOf d, mdK_handOf d, mdL_handOf d, mdR_begin d, mdK_begin d, mdL_begin d, mdR_went d, mdK_went d, mdL_went d, mdR_came d, mdK_came d, mdL_came d, mdR_nameAt d, mdK_nameAt d, mdL_nameAt d, mdR_nameLong d, mdK_nameLong d, mdL_nameLong d, mdR_tape d, mdK_tape d, mdL_tape d, mdR_out d, mdK_out d, mdL_out d, mdR_fold d, mdK_fold d, mdL_fold d, mdR_hand d, mdK_hand d, mdL_hand d, mdR_passed d, mdK_passed d, mdL_passed d, mdR_mark d, mdK_mark d, mdL_mark d, mdR_next d, mdK_next d, mdL_next d, mdR_goal d, mdK_goal d, mdL_goal d, mdR_foundPage d, mdK_foundPage d, mdL_foundPage d, mdR_pile d, mdK_pile d, mdL_pile d, mdR_place d, mdK_place d, mdL_place d, mdR_many d, mdK_many d, mdL_many d, mdR_word d, mdK_word d, mdL_word d, mdR_wordLong d, mdK_wordLong d, mdL_wordLong d, mdR_made d, mdK_made d, mdL_made d, mdR_list d, mdK_list d, mdL_list d, mdR_listLong d, mdK_listLong d, mdL_listLong d, mdR_steps d, mdK_steps d, mdL_steps d, d.1, eh, e1]
        exact ⟨h, rfl, mf.rf _⟩
      | some p =>
        obtain ⟨p1, p2, c, p3⟩ := pof_lt ep
        obtain ⟨c1, c2, c3, c4, c5⟩ := thr_some p3
        rw [ep, oN] at e1
        have ew : wtx ch nm nn t q = some (p, ct (ch c)) := by unfold wtx; rw [ep, c5]
        have et := m_textOf (g := g) (p := p) (t := t) d hc (by omega) ht
        rw [p3, oN] at et
        have hpp := hp p (by omega)
        have hkk := hk p (by omega)
        by_cases cp' : p ∈ ps
        · have hq : q ∈ ps.map nm := by rw [← p2]; exact List.mem_map_of_mem cp'
          have : cby ch nm nn t (fun p => b && mk p) goal (16 - ps.length + 1) q = false := cby_ring (V := ps.map nm) (fun v hv => by
            obtain ⟨⟨v', w1, w2⟩, -⟩ := h2 v hv
            refine ⟨v', w1, ?_⟩
            rcases w2 with w2 | w2
            · exact w2
            · rw [w2]; exact hq) (fun v hv => (h2 v hv).2) _ _ hq
          rw [this]
          rw [decide_eq_true cp', bI_t] at hpp
          rw [e_X11_comesBy_21]
          simp (decide := true) (disch := omega) only [e_X11_comesBy_22, e_X11_comesBy_25, e_X11_comesBy_28, e_X11_comesBy_29, e_X11_comesBy_30, e_X11_comesBy_31, e_X11_comesBy_32, e_X11_comesBy_35, e_X11_comesBy_36, e_X11_comesBy_37, e_X11_comesBy_38, e_X11_comesBy_41, e_X11_comesBy_42, e_X11_comesBy_45, e_X11_comesBy_46, e_X11_comesBy_47, e_X11_comesBy_50, e_X11_comesBy_51, e_X11_comesBy_52, e_X11_comesBy_53, e_X11_comesBy_56, e_X11_comesBy_57, e_X11_comesBy_60, e_X11_comesBy_61, e_X11_comesBy_62, e_X11_comesBy_65, e_X11_comesBy_66, e_X11_comesBy_67, e_X11_comesBy_68, e_X11_comesBy_71, e_X11_comesBy_72, e_X11_comesBy_73, e_X11_comesBy_74, e_X11_comesBy_75, e_X11_comesBy_76, e_X11_comesBy_77, e_X11_comesBy_78, e_X11_comesBy_81, e_X11_comesBy_84, e_X11_comesBy_87, e_X11_comesBy_88, e_X11_comesBy_89, ↓reduceIte, if_true, if_false, reduceCtorEq, Nat.reduceAdd, true_and, and_true, false_and, and_false, true_or, or_true, false_or, or_false, not_true_eq_false, not_false_eq_true, Option.bind_eq_bind, Option.bind_some, psh, eq_self, l_0, l_1, l_2, l_3, l_4, l_5, l_6, l_7, l_8, l_9, l_10, l_11, l_12, l_13, l_14, l_15, l_16, l_17, l_18, l_19, l_20, l_24, l_31, l_32, l_33, l_35, l_36, l_48, l_56, l_57, l_58, l_63, l_65, l_80, l_81, l_90, l_91, l_93, l_94, l_95, l_97, l_100, l_105, l_107, l_110, l_111, l_116, l_120, l_121, l_122, l_123, l_124, l_125, l_126, l_162, l_255, l_300, l_400, l_420, l_432, l_1000, l_1400, l_1936, l_2000, l_2100, l_2400, l_24000, m_n1, m_n2, m_n3, nI_mul, nI_add, nI_sub, nI_ltT, nI_ltF, nI_leT, nI_leF, nI_eqT, nI_eqF, nI_nM, nM_nI, nM_eq, nM_lt, nM_le, nI_ltM, nI_leM, nI_inT, nI_dec, pk_rem, nI_ltI, nI_leI, nI_eq, nI_clamp, Nat.add_assoc, q_bv51, mdR_text d, mdK_text d, mdL_text d, mdR_blamed d, mdK_blamed d, mdL_blamed d, mdR_length d, mdK_length d, mdL_length d, mdR_isGone d, mdK_isGone d, mdL_isGone d, mdR_pageOf d, mdK_pageOf d, mdL_pageOf d, mdR_handOf d, mdK_handOf d, mdL_handOf d, mdR_begin d, mdK_begin d, mdL_begin d, mdR_went d, mdK_went d, mdL_went d, mdR_came d, mdK_came d, mdL_came d, mdR_nameAt d, mdK_nameAt d, mdL_nameAt d, mdR_nameLong d, mdK_nameLong d, mdL_nameLong d, mdR_tape d, mdK_tape d, mdL_tape d, mdR_out d, mdK_out d, mdL_out d, mdR_fold d, mdK_fold d, mdL_fold d, mdR_hand d, mdK_hand d, mdL_hand d, mdR_passed d, mdK_passed d, mdL_passed d, mdR_mark d, mdK_mark d, mdL_mark d, mdR_next d, mdK_next d, mdL_next d, mdR_goal d, mdK_goal d, mdL_goal d, mdR_foundPage d, mdK_foundPage d, mdL_foundPage d, mdR_pile d, mdK_pile d, mdL_pile d, mdR_place d, mdK_place d, mdL_place d, mdR_many d, mdK_many d, mdL_many d, mdR_word d, mdK_word d, mdL_word d, mdR_wordLong d, mdK_wordLong d, mdL_wordLong d, mdR_made d, mdK_made d, mdL_made d, mdR_list d, mdK_list d, mdL_list d, mdR_listLong d, mdK_listLong d, mdL_listLong d, mdR_steps d, mdK_steps d, mdL_steps d, d.1, eh, e1, hpp]
          exact ⟨h, rfl, mf.rf _⟩
        · rw [decide_eq_false cp', bI_f] at hpp
          cases bm : (b && mk p) with
          | true =>
            have hb : b = true := by cases b <;> simp_all
            have hmk : mk p = true := by cases e : mk p <;> simp_all
            have : cby ch nm nn t (fun p => b && mk p) goal (16 - ps.length + 1) q = true := by rw [cby, decide_eq_false cg, ew]; simp only [bm, Bool.true_or, Bool.false_or]
            rw [this, hb, e_X11_comesBy_21]
            rw [hmk, bI_t] at hkk
            simp (decide := true) (disch := omega) only [e_X11_comesBy_22, e_X11_comesBy_25, e_X11_comesBy_28, e_X11_comesBy_29, e_X11_comesBy_30, e_X11_comesBy_31, e_X11_comesBy_32, e_X11_comesBy_35, e_X11_comesBy_36, e_X11_comesBy_37, e_X11_comesBy_38, e_X11_comesBy_41, e_X11_comesBy_42, e_X11_comesBy_45, e_X11_comesBy_46, e_X11_comesBy_47, e_X11_comesBy_50, e_X11_comesBy_51, e_X11_comesBy_52, e_X11_comesBy_53, e_X11_comesBy_56, e_X11_comesBy_57, e_X11_comesBy_60, e_X11_comesBy_61, e_X11_comesBy_62, e_X11_comesBy_65, e_X11_comesBy_66, e_X11_comesBy_67, e_X11_comesBy_68, e_X11_comesBy_71, e_X11_comesBy_72, e_X11_comesBy_73, e_X11_comesBy_74, e_X11_comesBy_75, e_X11_comesBy_76, e_X11_comesBy_77, e_X11_comesBy_78, e_X11_comesBy_81, e_X11_comesBy_84, e_X11_comesBy_87, e_X11_comesBy_88, e_X11_comesBy_89, ↓reduceIte, if_true, if_false, reduceCtorEq, Nat.reduceAdd, true_and, and_true, false_and, and_false, true_or, or_true, false_or, or_false, not_true_eq_false, not_false_eq_true, Option.bind_eq_bind, Option.bind_some, psh, eq_self, l_0, l_1, l_2, l_3, l_4, l_5, l_6, l_7, l_8, l_9, l_10, l_11, l_12, l_13, l_14, l_15, l_16, l_17, l_18, l_19, l_20, l_24, l_31, l_32, l_33, l_35, l_36, l_48, l_56, l_57, l_58, l_63, l_65, l_80, l_81, l_90, l_91, l_93, l_94, l_95, l_97, l_100, l_105, l_107, l_110, l_111, l_116, l_120, l_121, l_122, l_123, l_124, l_125, l_126, l_162, l_255, l_300, l_400, l_420, l_432, l_1000, l_1400, l_1936, l_2000, l_2100, l_2400, l_24000, m_n1, m_n2, m_n3, nI_mul, nI_add, nI_sub, nI_ltT, nI_ltF, nI_leT, nI_leF, nI_eqT, nI_eqF, nI_nM, nM_nI, nM_eq, nM_lt, nM_le, nI_ltM, nI_leM, nI_inT, nI_dec, pk_rem, nI_ltI, nI_leI, nI_eq, nI_clamp, Nat.add_assoc, q_bv51, mdR_text d, mdK_text d, mdL_text d, mdR_blamed d, mdK_blamed d, mdL_blamed d, mdR_length d, mdK_length d, mdL_length d, mdR_isGone d, mdK_isGone d, mdL_isGone d, mdR_pageOf d, mdK_pageOf d, mdL_pageOf d, mdR_handOf d, mdK_handOf d, mdL_handOf d, mdR_begin d, mdK_begin d, mdL_begin d, mdR_went d, mdK_went d, mdL_went d, mdR_came d, mdK_came d, mdL_came d, mdR_nameAt d, mdK_nameAt d, mdL_nameAt d, mdR_nameLong d, mdK_nameLong d, mdL_nameLong d, mdR_tape d, mdK_tape d, mdL_tape d, mdR_out d, mdK_out d, mdL_out d, mdR_fold d, mdK_fold d, mdL_fold d, mdR_hand d, mdK_hand d, mdL_hand d, mdR_passed d, mdK_passed d, mdL_passed d, mdR_mark d, mdK_mark d, mdL_mark d, mdR_next d, mdK_next d, mdL_next d, mdR_goal d, mdK_goal d, mdL_goal d, mdR_foundPage d, mdK_foundPage d, mdL_foundPage d, mdR_pile d, mdK_pile d, mdL_pile d, mdR_place d, mdK_place d, mdL_place d, mdR_many d, mdK_many d, mdL_many d, mdR_word d, mdK_word d, mdL_word d, mdR_wordLong d, mdK_wordLong d, mdL_wordLong d, mdR_made d, mdK_made d, mdL_made d, mdR_list d, mdK_list d, mdL_list d, mdR_listLong d, mdK_listLong d, mdL_listLong d, mdR_steps d, mdK_steps d, mdL_steps d, d.1, eh, e1, hpp, bI_t, hkk]
            exact ⟨h, rfl, mf.rf _⟩
          | false =>
            have f1 : mf sF sA M h (pA h (M + 16) (upd (hA h (M + 16)) p (nI 1))) := mf.pA _ 16 _ (by decide)
            have d1 := f1.d d
            have hcc := hc.2.2 c c1 (by omega)
            have hc1 := hcc.kp f1 (by decide)
            have et1 := m_textOf (g := g) (p := p) (t := t) d1 (hc.kp f1 (by decide) (by decide)) (by omega) ht
            rw [p3, oN] at et1
            have hn := hc.2.1
            obtain ⟨h', e3, f3, r3⟩ := m_isMoved (g := g) (c := c) d1 (by omega) hc1.1.1 hc1.2.1 hc1.1.2.2.2.2 hc1.1.2.2.2.1
            have ecb : cby ch nm nn t (fun p => b && mk p) goal (16 - ps.length + 1) q = (match mvd (ct (ch c)) with
              | none => false
              | some q' => cby ch nm nn t (fun p => b && mk p) goal (16 - ps.length) q') := by
              rw [cby, decide_eq_false cg, ew]; simp only [bm, Bool.false_or]
            rw [ecb]
            have head : ∀ r, cal g mX11_isMoved [va_rf (some M), .int (nI c)] (pA h (M + 16) (upd (hA h (M + 16)) p (nI 1))) = some (some (.int (bI r)), h') → ev g mX11_comesBy 21 [some (va_rf (some M)), some (.int (nI t)), some (.int (bI b)), v2] [] h = ev g mX11_comesBy 84 [some (va_rf (some M)), some (.int (nI t)), some (.int (bI b)), some (.int (nI p))] [.int (bI r)] h' := by
              intro r e3'
              rw [e_X11_comesBy_21]
              cases hb : b with
              | false =>
                simp (decide := true) (disch := omega) only [e_X11_comesBy_22, e_X11_comesBy_25, e_X11_comesBy_28, e_X11_comesBy_29, e_X11_comesBy_30, e_X11_comesBy_31, e_X11_comesBy_32, e_X11_comesBy_35, e_X11_comesBy_36, e_X11_comesBy_37, e_X11_comesBy_38, e_X11_comesBy_41, e_X11_comesBy_42, e_X11_comesBy_45, e_X11_comesBy_46, e_X11_comesBy_47, e_X11_comesBy_50, e_X11_comesBy_51, e_X11_comesBy_52, e_X11_comesBy_53, e_X11_comesBy_56, e_X11_comesBy_57, e_X11_comesBy_60, e_X11_comesBy_61, e_X11_comesBy_62, e_X11_comesBy_65, e_X11_comesBy_66, e_X11_comesBy_67, e_X11_comesBy_68, e_X11_comesBy_71, e_X11_comesBy_72, e_X11_comesBy_73, e_X11_comesBy_74, e_X11_comesBy_75, e_X11_comesBy_76, e_X11_comesBy_77, e_X11_comesBy_78, e_X11_comesBy_81, ↓reduceIte, if_true, if_false, reduceCtorEq, Nat.reduceAdd, true_and, and_true, false_and, and_false, true_or, or_true, false_or, or_false, not_true_eq_false, not_false_eq_true, Option.bind_eq_bind, Option.bind_some, psh, eq_self, l_0, l_1, l_2, l_3, l_4, l_5, l_6, l_7, l_8, l_9, l_10, l_11, l_12, l_13, l_14, l_15, l_16, l_17, l_18, l_19, l_20, l_24, l_31, l_32, l_33, l_35, l_36, l_48, l_56, l_57, l_58, l_63, l_65, l_80, l_81, l_90, l_91, l_93, l_94, l_95, l_97, l_100, l_105, l_107, l_110, l_111, l_116, l_120, l_121, l_122, l_123, l_124, l_125, l_126, l_162, l_255, l_300, l_400, l_420, l_432, l_1000, l_1400, l_1936, l_2000, l_2100, l_2400, l_24000, m_n1, m_n2, m_n3, nI_mul, nI_add, nI_sub, nI_ltT, nI_ltF, nI_leT, nI_leF, nI_eqT, nI_eqF, nI_nM, nM_nI, nM_eq, nM_lt, nM_le, nI_ltM, nI_leM, nI_inT, nI_dec, pk_rem, nI_ltI, nI_leI, nI_eq, nI_clamp, Nat.add_assoc, q_bv51, mdR_text d, mdK_text d, mdL_text d, mdR_blamed d, mdK_blamed d, mdL_blamed d, mdR_length d, mdK_length d, mdL_length d, mdR_isGone d, mdK_isGone d, mdL_isGone d, mdR_pageOf d, mdK_pageOf d, mdL_pageOf d, mdR_handOf d, mdK_handOf d, mdL_handOf d, mdR_begin d, mdK_begin d, mdL_begin d, mdR_went d, mdK_went d, mdL_went d, mdR_came d, mdK_came d, mdL_came d, mdR_nameAt d, mdK_nameAt d, mdL_nameAt d, mdR_nameLong d, mdK_nameLong d, mdL_nameLong d, mdR_tape d, mdK_tape d, mdL_tape d, mdR_out d, mdK_out d, mdL_out d, mdR_fold d, mdK_fold d, mdL_fold d, mdR_hand d, mdK_hand d, mdL_hand d, mdR_passed d, mdK_passed d, mdL_passed d, mdR_mark d, mdK_mark d, mdL_mark d, mdR_next d, mdK_next d, mdL_next d, mdR_goal d, mdK_goal d, mdL_goal d, mdR_foundPage d, mdK_foundPage d, mdL_foundPage d, mdR_pile d, mdK_pile d, mdL_pile d, mdR_place d, mdK_place d, mdL_place d, mdR_many d, mdK_many d, mdL_many d, mdR_word d, mdK_word d, mdL_word d, mdR_wordLong d, mdK_wordLong d, mdL_wordLong d, mdR_made d, mdK_made d, mdL_made d, mdR_list d, mdK_list d, mdL_list d, mdR_listLong d, mdK_listLong d, mdL_listLong d, mdR_steps d, mdK_steps d, mdL_steps d, d.1, eh, e1, hpp, bI_f, u_hN_pI, u_hU_pI, u_hK_pI, u_hL_pI, u_hR_pI, u_hJ_pI, u_hA_pI, u_hB_pI, u_hS_pI, u_hN_pR, u_hU_pR, u_hK_pR, u_hL_pR, u_hI_pR, u_hJ_pR, u_hA_pR, u_hB_pR, u_hS_pR, u_hN_pJ, u_hU_pJ, u_hK_pJ, u_hL_pJ, u_hI_pJ, u_hR_pJ, u_hA_pJ, u_hB_pJ, u_hS_pJ, u_hN_pA, u_hU_pA, u_hK_pA, u_hL_pA, u_hI_pA, u_hR_pA, u_hJ_pA, u_hB_pA, u_hS_pA, u_hN_pB, u_hU_pB, u_hK_pB, u_hL_pB, u_hI_pB, u_hR_pB, u_hJ_pB, u_hA_pB, u_hS_pB, u_hL_nO, u_hA_nO, u_hB_nO, u_hS_nO, u_hI_nA, u_hR_nA, u_hJ_nA, u_hS_nA, u_II, u_RR, u_JJ, u_AA, u_BB, u_NO, u_UO, u_KO, u_IO, u_RO, u_JO, u_NN, u_UN, u_KN, u_LN, u_AN, u_BN, et1, e3']
              | true =>
                have hmk : mk p = false := by cases e : mk p <;> simp_all
                rw [hmk, bI_f] at hkk
                simp (decide := true) (disch := omega) only [e_X11_comesBy_22, e_X11_comesBy_25, e_X11_comesBy_28, e_X11_comesBy_29, e_X11_comesBy_30, e_X11_comesBy_31, e_X11_comesBy_32, e_X11_comesBy_35, e_X11_comesBy_36, e_X11_comesBy_37, e_X11_comesBy_38, e_X11_comesBy_41, e_X11_comesBy_42, e_X11_comesBy_45, e_X11_comesBy_46, e_X11_comesBy_47, e_X11_comesBy_50, e_X11_comesBy_51, e_X11_comesBy_52, e_X11_comesBy_53, e_X11_comesBy_56, e_X11_comesBy_57, e_X11_comesBy_60, e_X11_comesBy_61, e_X11_comesBy_62, e_X11_comesBy_65, e_X11_comesBy_66, e_X11_comesBy_67, e_X11_comesBy_68, e_X11_comesBy_71, e_X11_comesBy_72, e_X11_comesBy_73, e_X11_comesBy_74, e_X11_comesBy_75, e_X11_comesBy_76, e_X11_comesBy_77, e_X11_comesBy_78, e_X11_comesBy_81, ↓reduceIte, if_true, if_false, reduceCtorEq, Nat.reduceAdd, true_and, and_true, false_and, and_false, true_or, or_true, false_or, or_false, not_true_eq_false, not_false_eq_true, Option.bind_eq_bind, Option.bind_some, psh, eq_self, l_0, l_1, l_2, l_3, l_4, l_5, l_6, l_7, l_8, l_9, l_10, l_11, l_12, l_13, l_14, l_15, l_16, l_17, l_18, l_19, l_20, l_24, l_31, l_32, l_33, l_35, l_36, l_48, l_56, l_57, l_58, l_63, l_65, l_80, l_81, l_90, l_91, l_93, l_94, l_95, l_97, l_100, l_105, l_107, l_110, l_111, l_116, l_120, l_121, l_122, l_123, l_124, l_125, l_126, l_162, l_255, l_300, l_400, l_420, l_432, l_1000, l_1400, l_1936, l_2000, l_2100, l_2400, l_24000, m_n1, m_n2, m_n3, nI_mul, nI_add, nI_sub, nI_ltT, nI_ltF, nI_leT, nI_leF, nI_eqT, nI_eqF, nI_nM, nM_nI, nM_eq, nM_lt, nM_le, nI_ltM, nI_leM, nI_inT, nI_dec, pk_rem, nI_ltI, nI_leI, nI_eq, nI_clamp, Nat.add_assoc, q_bv51, mdR_text d, mdK_text d, mdL_text d, mdR_blamed d, mdK_blamed d, mdL_blamed d, mdR_length d, mdK_length d, mdL_length d, mdR_isGone d, mdK_isGone d, mdL_isGone d, mdR_pageOf d, mdK_pageOf d, mdL_pageOf d, mdR_handOf d, mdK_handOf d, mdL_handOf d, mdR_begin d, mdK_begin d, mdL_begin d, mdR_went d, mdK_went d, mdL_went d, mdR_came d, mdK_came d, mdL_came d, mdR_nameAt d, mdK_nameAt d, mdL_nameAt d, mdR_nameLong d, mdK_nameLong d, mdL_nameLong d, mdR_tape d, mdK_tape d, mdL_tape d, mdR_out d, mdK_out d, mdL_out d, mdR_fold d, mdK_fold d, mdL_fold d, mdR_hand d, mdK_hand d, mdL_hand d, mdR_passed d, mdK_passed d, mdL_passed d, mdR_mark d, mdK_mark d, mdL_mark d, mdR_next d, mdK_next d, mdL_next d, mdR_goal d, mdK_goal d, mdL_goal d, mdR_foundPage d, mdK_foundPage d, mdL_foundPage d, mdR_pile d, mdK_pile d, mdL_pile d, mdR_place d, mdK_place d, mdL_place d, mdR_many d, mdK_many d, mdL_many d, mdR_word d, mdK_word d, mdL_word d, mdR_wordLong d, mdK_wordLong d, mdL_wordLong d, mdR_made d, mdK_made d, mdL_made d, mdR_list d, mdK_list d, mdL_list d, mdR_listLong d, mdK_listLong d, mdL_listLong d, mdR_steps d, mdK_steps d, mdL_steps d, d.1, eh, e1, hpp, bI_t, hkk, u_hN_pI, u_hU_pI, u_hK_pI, u_hL_pI, u_hR_pI, u_hJ_pI, u_hA_pI, u_hB_pI, u_hS_pI, u_hN_pR, u_hU_pR, u_hK_pR, u_hL_pR, u_hI_pR, u_hJ_pR, u_hA_pR, u_hB_pR, u_hS_pR, u_hN_pJ, u_hU_pJ, u_hK_pJ, u_hL_pJ, u_hI_pJ, u_hR_pJ, u_hA_pJ, u_hB_pJ, u_hS_pJ, u_hN_pA, u_hU_pA, u_hK_pA, u_hL_pA, u_hI_pA, u_hR_pA, u_hJ_pA, u_hB_pA, u_hS_pA, u_hN_pB, u_hU_pB, u_hK_pB, u_hL_pB, u_hI_pB, u_hR_pB, u_hJ_pB, u_hA_pB, u_hS_pB, u_hL_nO, u_hA_nO, u_hB_nO, u_hS_nO, u_hI_nA, u_hR_nA, u_hJ_nA, u_hS_nA, u_II, u_RR, u_JJ, u_AA, u_BB, u_NO, u_UO, u_KO, u_IO, u_RO, u_JO, u_NN, u_UN, u_KN, u_LN, u_AN, u_BN, et1, e3']
            cases em : mvd (ct (ch c)) with
            | none =>
              rw [em] at e3
              rw [head false e3]
              simp (decide := true) (disch := omega) only [e_X11_comesBy_84, e_X11_comesBy_87, e_X11_comesBy_88, e_X11_comesBy_89, ↓reduceIte, if_true, if_false, reduceCtorEq, Nat.reduceAdd, true_and, and_true, false_and, and_false, true_or, or_true, false_or, or_false, not_true_eq_false, not_false_eq_true, Option.bind_eq_bind, Option.bind_some, psh, eq_self, l_0, l_1, l_2, l_3, l_4, l_5, l_6, l_7, l_8, l_9, l_10, l_11, l_12, l_13, l_14, l_15, l_16, l_17, l_18, l_19, l_20, l_24, l_31, l_32, l_33, l_35, l_36, l_48, l_56, l_57, l_58, l_63, l_65, l_80, l_81, l_90, l_91, l_93, l_94, l_95, l_97, l_100, l_105, l_107, l_110, l_111, l_116, l_120, l_121, l_122, l_123, l_124, l_125, l_126, l_162, l_255, l_300, l_400, l_420, l_432, l_1000, l_1400, l_1936, l_2000, l_2100, l_2400, l_24000, m_n1, m_n2, m_n3, nI_mul, nI_add, nI_sub, nI_ltT, nI_ltF, nI_leT, nI_leF, nI_eqT, nI_eqF, nI_nM, nM_nI, nM_eq, nM_lt, nM_le, nI_ltM, nI_leM, nI_inT, nI_dec, pk_rem, nI_ltI, nI_leI, nI_eq, nI_clamp, Nat.add_assoc, q_bv51, bI_f]
              exact ⟨h', rfl, f1.tr (f3.mono (by decide) (by decide))⟩
            | some q' =>
              rw [em] at e3
              rw [head true e3]
              have f4 := f1.tr (f3.mono (by decide) (by decide))
              have ewn : wnx ch nm nn t q = some q' := by unfold wnx; rw [ew]; exact em
              obtain ⟨h'', e5, f5⟩ := ih (p :: ps) q' h' (some (.int (nI p))) (by simp; omega) (f4.d d) (hc.kp f4 (by decide) (by decide)) (hm.keep f4 (by decide) (by decide) (by decide)) (hh.keep f4 (by decide) (by decide) (by decide)) (hk.keep f4 (by decide)) (r3 q' em) (hp.add.keep f3 (by decide)) (List.nodup_cons.mpr ⟨cp', hnd⟩) (by
                intro x hx
                rcases List.mem_cons.mp hx with w | w
                · rw [w]; exact p1
                · exact hlt x w) (by
                intro k
                have := h1 (k + 1)
                rw [List.length_cons, show k + (ps.length + 1) = k + 1 + ps.length by omega, this, cby, decide_eq_false cg, ew]
                simp only [em, bm, Bool.false_or]) (by
                intro v hv
                rw [List.map_cons, p2] at hv ⊢
                rcases List.mem_cons.mp hv with w | w
                · rw [w]
                  refine ⟨⟨q', ewn, Or.inr rfl⟩, cg, fun r hr => ?_⟩
                  rw [ew] at hr
                  cases hr
                  exact bm
                · obtain ⟨⟨v', w1, w2⟩, w3⟩ := h2 v w
                  refine ⟨⟨v', w1, ?_⟩, w3⟩
                  rcases w2 with w2 | w2
                  · exact Or.inl (List.mem_cons_of_mem _ w2)
                  · rw [w2]; exact Or.inl List.mem_cons_self)
              have e17' : cby ch nm nn t (fun p => b && mk p) goal 17 q0 = cby ch nm nn t (fun p => b && mk p) goal (16 - ps.length) q' := by
                rw [e17, show 17 - ps.length = (16 - ps.length) + 1 by omega, ecb, em]
              simp only
              rw [← e17']
              simp (decide := true) (disch := omega) only [e_X11_comesBy_84, e_X11_comesBy_87, e_X11_comesBy_88, e_X11_comesBy_89, ↓reduceIte, if_true, if_false, reduceCtorEq, Nat.reduceAdd, true_and, and_true, false_and, and_false, true_or, or_true, false_or, or_false, not_true_eq_false, not_false_eq_true, Option.bind_eq_bind, Option.bind_some, psh, eq_self, l_0, l_1, l_2, l_3, l_4, l_5, l_6, l_7, l_8, l_9, l_10, l_11, l_12, l_13, l_14, l_15, l_16, l_17, l_18, l_19, l_20, l_24, l_31, l_32, l_33, l_35, l_36, l_48, l_56, l_57, l_58, l_63, l_65, l_80, l_81, l_90, l_91, l_93, l_94, l_95, l_97, l_100, l_105, l_107, l_110, l_111, l_116, l_120, l_121, l_122, l_123, l_124, l_125, l_126, l_162, l_255, l_300, l_400, l_420, l_432, l_1000, l_1400, l_1936, l_2000, l_2100, l_2400, l_24000, m_n1, m_n2, m_n3, nI_mul, nI_add, nI_sub, nI_ltT, nI_ltF, nI_leT, nI_leF, nI_eqT, nI_eqF, nI_nM, nM_nI, nM_eq, nM_lt, nM_le, nI_ltM, nI_leM, nI_inT, nI_dec, pk_rem, nI_ltI, nI_leI, nI_eq, nI_clamp, Nat.add_assoc, q_bv51, bI_t]
              exact ⟨h'', e5, f4.tr f5⟩
theorem m_cby {g M n nn t : Nat} {h : PH} {ch : Nat → Ch} {nm : Nat → Nm} {q goal : Nm} {mk : Nat → Bool} {b : Bool} (d : md h M) (hc : mCh h M n ch) (hm : mNm h M nn nm) (ht : t ≤ n) (hnn : nn ≤ 16) (hf : fis h M q) (hh : mHd h M (some goal)) (hk : mmk h M mk) :
    ∃ h', cal g mX11_comesBy [va_rf (some M), .int (nI t), .int (bI b)] h = some (some (.int (bI (cby ch nm nn t (fun p => b && mk p) goal 17 q))), h') ∧ mf sF sA M h h' := by
  rw [n_X11_comesBy]
  obtain ⟨h1, v2, e1, f1, r1⟩ := m_cby_1 (g := g) (M := M) (l1 := some (.int (nI t))) (l2 := some (.int (bI b))) 18 0 h rfl d (fun p hp => absurd hp (Nat.not_lt_zero _))
  obtain ⟨h2, e2, f2⟩ := m_cby_2 (g := g) (q0 := q) (goal := goal) (mk := mk) (b := b) ht hnn (nn + 1) [] q h1 v2 rfl (f1.d d) (hc.kp f1 (by decide) (by decide)) (hm.keep f1 (by decide) (by decide) (by decide)) (hh.keep f1 (by decide) (by decide) (by decide)) (hk.keep f1 (by decide)) (hf.keep f1 (by decide) (by decide) (by decide)) r1 List.nodup_nil (fun p hp => absurd hp List.not_mem_nil) (fun k => rfl) (fun v hv => absurd hv List.not_mem_nil)
  refine ⟨h2, ?_, (f1.mono (by decide) (by decide)).tr f2⟩
  rw [← e2, ← e1]
  simp (decide := true) (disch := omega) only [e_X11_comesBy_0, e_X11_comesBy_1, ↓reduceIte, if_true, if_false, reduceCtorEq, Nat.reduceAdd, true_and, and_true, false_and, and_false, true_or, or_true, false_or, or_false, not_true_eq_false, not_false_eq_true, Option.bind_eq_bind, Option.bind_some, psh, eq_self, l_0, l_1, l_2, l_3, l_4, l_5, l_6, l_7, l_8, l_9, l_10, l_11, l_12, l_13, l_14, l_15, l_16, l_17, l_18, l_19, l_20, l_24, l_31, l_32, l_33, l_35, l_36, l_48, l_56, l_57, l_58, l_63, l_65, l_80, l_81, l_90, l_91, l_93, l_94, l_95, l_97, l_100, l_105, l_107, l_110, l_111, l_116, l_120, l_121, l_122, l_123, l_124, l_125, l_126, l_162, l_255, l_300, l_400, l_420, l_432, l_1000, l_1400, l_1936, l_2000, l_2100, l_2400, l_24000, m_n1, m_n2, m_n3, nI_mul, nI_add, nI_sub, nI_ltT, nI_ltF, nI_leT, nI_leF, nI_eqT, nI_eqF, nI_nM, nM_nI, nM_eq, nM_lt, nM_le, nI_ltM, nI_leM, nI_inT, nI_dec, pk_rem, nI_ltI, nI_leI, nI_eq, nI_clamp, Nat.add_assoc, q_bv51, mdR_text d, mdK_text d, mdL_text d, mdR_blamed d, mdK_blamed d, mdL_blamed d, mdR_length d, mdK_length d, mdL_length d, mdR_isGone d, mdK_isGone d, mdL_isGone d, mdR_pageOf d, mdK_pageOf d, mdL_pageOf d, mdR_handOf d, mdK_handOf d, mdL_handOf d, mdR_begin d, mdK_begin d, mdL_begin d, mdR_went d, mdK_went d, mdL_went d, mdR_came d, mdK_came d, mdL_came d, mdR_nameAt d, mdK_nameAt d, mdL_nameAt d, mdR_nameLong d, mdK_nameLong d, mdL_nameLong d, mdR_tape d, mdK_tape d, mdL_tape d, mdR_out d, mdK_out d, mdL_out d, mdR_fold d, mdK_fold d, mdL_fold d, mdR_hand d, mdK_hand d, mdL_hand d, mdR_passed d, mdK_passed d, mdL_passed d, mdR_mark d, mdK_mark d, mdL_mark d, mdR_next d, mdK_next d, mdL_next d, mdR_goal d, mdK_goal d, mdL_goal d, mdR_foundPage d, mdK_foundPage d, mdL_foundPage d, mdR_pile d, mdK_pile d, mdL_pile d, mdR_place d, mdK_place d, mdL_place d, mdR_many d, mdK_many d, mdL_many d, mdR_word d, mdK_word d, mdL_word d, mdR_wordLong d, mdK_wordLong d, mdL_wordLong d, mdR_made d, mdK_made d, mdL_made d, mdR_list d, mdK_list d, mdL_list d, mdR_listLong d, mdK_listLong d, mdL_listLong d, mdR_steps d, mdK_steps d, mdL_steps d, d.1]
