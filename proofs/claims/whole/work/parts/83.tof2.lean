/-! PageWeb$Text: append; PageWeb$Reader: movedBy, textOf -/
/-- a Text at a while it is made: its parts, with cells in Q, from N0 on -/
def bld (N0 : Nat) (Q : Nat → Prop) (h : PH) (a : Nat) (es : List Pt) : Prop := (hK h a = 8 ∧ a < N0 ∧ N0 ≤ hN h ∧ ∀ x, Q x → N0 ≤ x ∧ x < hN h) ∧ ((es = [] ∧ hR h 1 a = none ∧ hR h 2 a = none) ∨ ∃ es0 e la Q0, es = es0 ++ [e] ∧ (∀ x, Q0 x → Q x) ∧ ¬ Q0 la ∧ hR h 2 a = some la ∧ sgm Q0 h (hR h 1 a) es0 (some la) ∧ pt1 Q h la e ∧ hR h 5 la = none)
theorem bld.sg {N0 : Nat} {Q : Nat → Prop} {h : PH} {a : Nat} {es : List Pt} (b : bld N0 Q h a es) : sgm Q h (hR h 1 a) es none := by
  obtain ⟨⟨b1, b2, b3, b4⟩, b5⟩ := b
  rcases b5 with ⟨c1, c2, c3⟩ | ⟨es0, e, la, Q0, c1, c2, c3, c4, c5, c6, c7⟩
  · subst c1
    exact c2
  · subst c1
    refine sgm.app (sgm.keep (P := fun _ => False) (sm.rf h) (fun x hx => ⟨(b4 x (c2 x hx)).2, fun z => z, c2 x hx⟩) c5) ?_
    exact ⟨la, rfl, c6, c7⟩
theorem bld.keep {N0 : Nat} {P Q : Nat → Prop} {h h' : PH} {a : Nat} {es : List Pt} (b : bld N0 Q h a es) (s : sm P h h') (ha : ¬ P a) (hP : ∀ x, Q x → ¬ P x) : bld N0 Q h' a es := by
  obtain ⟨⟨b1, b2, b3, b4⟩, b5⟩ := b
  obtain ⟨s1, s2, s3⟩ := s.2.2 a (by omega)
  obtain ⟨-, s5, -⟩ := s3 ha
  have hn := s.1
  refine ⟨⟨by rw [s1]; exact b1, b2, by omega, fun x hx => by have := b4 x hx; omega⟩, ?_⟩
  rcases b5 with ⟨c1, c2, c3⟩ | ⟨es0, e, la, Q0, c1, c2, c3, c4, c5, c6, c7⟩
  · exact Or.inl ⟨c1, by rw [s5]; exact c2, by rw [s5]; exact c3⟩
  · refine Or.inr ⟨es0, e, la, Q0, c1, c2, c3, by rw [s5]; exact c4, ?_, ?_, ?_⟩
    · rw [s5]
      exact sgm.keep s (fun x hx => ⟨(b4 x (c2 x hx)).2, hP x (c2 x hx), hx⟩) c5
    · exact c6.keep s (fun x hx => ⟨(b4 x hx).2, hP x hx, hx⟩)
    · have := c6.1.1
      rw [((s.2.2 la (b4 la this).2).2.2 (hP la this)).2.1]
      exact c7
theorem c_append {g N0 a b : Nat} {Q Qb : Nat → Prop} {h : PH} {es : List Pt} {e : Pt} (B : bld N0 Q h a es) (hQb : ∀ x, Qb x → ¬ Q x ∧ N0 ≤ x ∧ x < hN h) (p : pt1 Qb h b e) (hn : hR h 5 b = none) :
    ∃ h', cal g mX8_append [va_rf (some a), va_rf (some b)] h = some (none, h') ∧ sm (fun x => x = a ∨ Q x) h h' ∧ hN h' = hN h ∧ hU h' = hU h ∧ bld N0 (fun x => Q x ∨ Qb x) h' a (es ++ [e]) ∧ hR h' 0 a = hR h 0 a ∧ hR h' 3 a = hR h 3 a := by
  rw [n_X8_append]
  obtain ⟨⟨b1, b2, b3, b4⟩, b5⟩ := B
  obtain ⟨nb1, nb2, nb3⟩ := hQb b p.1.1
  have hall : ∀ x, Q x ∨ Qb x → N0 ≤ x ∧ x < hN h := fun x hx => by
    rcases hx with z | z
    · exact b4 x z
    · exact (hQb x z).2
  have nba : b ≠ a := by omega
  rcases b5 with ⟨c1, c2, c3⟩ | ⟨es0, e', la, Q0, c1, c2, c3, c4, c5, c6, c7⟩
  · subst c1
    simp (decide := true) (disch := omega) only [e_X8_append_0, e_X8_append_1, e_X8_append_4, e_X8_append_7, e_X8_append_8, e_X8_append_9, e_X8_append_12, e_X8_append_15, e_X8_append_16, e_X8_append_19, e_X8_append_20, e_X8_append_23, e_X8_append_24, e_X8_append_25, e_X8_append_28, ↓reduceIte, if_true, if_false, reduceCtorEq, Nat.reduceAdd, true_and, and_true, false_and, and_false, true_or, or_true, false_or, or_false, not_true_eq_false, not_false_eq_true, Option.bind_eq_bind, Option.bind_some, psh, eq_self, l_0, l_1, l_2, l_3, l_4, l_5, l_6, l_7, l_8, l_9, l_10, l_11, l_12, l_13, l_14, l_15, l_16, l_17, l_18, l_19, l_20, l_24, l_31, l_32, l_33, l_35, l_36, l_48, l_56, l_57, l_58, l_63, l_65, l_80, l_81, l_90, l_91, l_93, l_94, l_95, l_97, l_100, l_105, l_107, l_110, l_111, l_116, l_120, l_121, l_122, l_123, l_124, l_125, l_126, l_162, l_255, l_300, l_400, l_420, l_432, l_1000, l_1400, l_1936, l_2000, l_2100, l_2400, l_24000, m_n1, m_n2, m_n3, nI_mul, nI_add, nI_sub, nI_ltT, nI_ltF, nI_leT, nI_leF, nI_eqT, nI_eqF, nI_nM, nM_nI, nM_eq, nM_lt, nM_le, nI_ltM, nI_leM, nI_inT, nI_dec, pk_rem, nI_ltI, nI_leI, nI_eq, nI_clamp, Nat.add_assoc, q_bv51, Nat.add_left_cancel_iff, b1, c3, u_hN_pI, u_hU_pI, u_hK_pI, u_hL_pI, u_hR_pI, u_hJ_pI, u_hA_pI, u_hB_pI, u_hS_pI, u_hN_pR, u_hU_pR, u_hK_pR, u_hL_pR, u_hI_pR, u_hJ_pR, u_hA_pR, u_hB_pR, u_hS_pR, u_hN_pJ, u_hU_pJ, u_hK_pJ, u_hL_pJ, u_hI_pJ, u_hR_pJ, u_hA_pJ, u_hB_pJ, u_hS_pJ, u_hN_pA, u_hU_pA, u_hK_pA, u_hL_pA, u_hI_pA, u_hR_pA, u_hJ_pA, u_hB_pA, u_hS_pA, u_hN_pB, u_hU_pB, u_hK_pB, u_hL_pB, u_hI_pB, u_hR_pB, u_hJ_pB, u_hA_pB, u_hS_pB, u_hL_nO, u_hA_nO, u_hB_nO, u_hS_nO, u_hI_nA, u_hR_nA, u_hJ_nA, u_hS_nA, u_II, u_RR, u_JJ, u_AA, u_BB, u_NO, u_UO, u_KO, u_IO, u_RO, u_JO, u_NN, u_UN, u_KN, u_LN, u_AN, u_BN]
    refine ⟨_, rfl, ((sm.R _ _ (Or.inl rfl)).tr (sm.R _ _ (Or.inl rfl))), rfl, rfl, ⟨⟨b1, b2, b3, hall⟩, Or.inr ⟨[], e, b, fun _ => False, rfl, fun x hx => hx.elim, fun z => z, ?_, ?_, ?_, ?_⟩⟩, ?_, ?_⟩
    · simp (decide := true) only [u_hN_pI, u_hU_pI, u_hK_pI, u_hL_pI, u_hR_pI, u_hJ_pI, u_hA_pI, u_hB_pI, u_hS_pI, u_hN_pR, u_hU_pR, u_hK_pR, u_hL_pR, u_hI_pR, u_hJ_pR, u_hA_pR, u_hB_pR, u_hS_pR, u_hN_pJ, u_hU_pJ, u_hK_pJ, u_hL_pJ, u_hI_pJ, u_hR_pJ, u_hA_pJ, u_hB_pJ, u_hS_pJ, u_hN_pA, u_hU_pA, u_hK_pA, u_hL_pA, u_hI_pA, u_hR_pA, u_hJ_pA, u_hB_pA, u_hS_pA, u_hN_pB, u_hU_pB, u_hK_pB, u_hL_pB, u_hI_pB, u_hR_pB, u_hJ_pB, u_hA_pB, u_hS_pB, u_hL_nO, u_hA_nO, u_hB_nO, u_hS_nO, u_hI_nA, u_hR_nA, u_hJ_nA, u_hS_nA, u_II, u_RR, u_JJ, u_AA, u_BB, u_NO, u_UO, u_KO, u_IO, u_RO, u_JO, u_NN, u_UN, u_KN, u_LN, u_AN, u_BN, if_true, if_false]
    · show _ = _
      simp (decide := true) only [u_hN_pI, u_hU_pI, u_hK_pI, u_hL_pI, u_hR_pI, u_hJ_pI, u_hA_pI, u_hB_pI, u_hS_pI, u_hN_pR, u_hU_pR, u_hK_pR, u_hL_pR, u_hI_pR, u_hJ_pR, u_hA_pR, u_hB_pR, u_hS_pR, u_hN_pJ, u_hU_pJ, u_hK_pJ, u_hL_pJ, u_hI_pJ, u_hR_pJ, u_hA_pJ, u_hB_pJ, u_hS_pJ, u_hN_pA, u_hU_pA, u_hK_pA, u_hL_pA, u_hI_pA, u_hR_pA, u_hJ_pA, u_hB_pA, u_hS_pA, u_hN_pB, u_hU_pB, u_hK_pB, u_hL_pB, u_hI_pB, u_hR_pB, u_hJ_pB, u_hA_pB, u_hS_pB, u_hL_nO, u_hA_nO, u_hB_nO, u_hS_nO, u_hI_nA, u_hR_nA, u_hJ_nA, u_hS_nA, u_II, u_RR, u_JJ, u_AA, u_BB, u_NO, u_UO, u_KO, u_IO, u_RO, u_JO, u_NN, u_UN, u_KN, u_LN, u_AN, u_BN, if_true, if_false]
    · refine p.keep (P := fun x => x = a) ((sm.R1 _ _).tr (sm.R1 _ _)) (fun x hx => ⟨(hQb x hx).2.2, by have := (hQb x hx).2.1; omega, Or.inr hx⟩)
    · simp (decide := true) only [u_hN_pI, u_hU_pI, u_hK_pI, u_hL_pI, u_hR_pI, u_hJ_pI, u_hA_pI, u_hB_pI, u_hS_pI, u_hN_pR, u_hU_pR, u_hK_pR, u_hL_pR, u_hI_pR, u_hJ_pR, u_hA_pR, u_hB_pR, u_hS_pR, u_hN_pJ, u_hU_pJ, u_hK_pJ, u_hL_pJ, u_hI_pJ, u_hR_pJ, u_hA_pJ, u_hB_pJ, u_hS_pJ, u_hN_pA, u_hU_pA, u_hK_pA, u_hL_pA, u_hI_pA, u_hR_pA, u_hJ_pA, u_hB_pA, u_hS_pA, u_hN_pB, u_hU_pB, u_hK_pB, u_hL_pB, u_hI_pB, u_hR_pB, u_hJ_pB, u_hA_pB, u_hS_pB, u_hL_nO, u_hA_nO, u_hB_nO, u_hS_nO, u_hI_nA, u_hR_nA, u_hJ_nA, u_hS_nA, u_II, u_RR, u_JJ, u_AA, u_BB, u_NO, u_UO, u_KO, u_IO, u_RO, u_JO, u_NN, u_UN, u_KN, u_LN, u_AN, u_BN, if_true, if_false]; exact hn
    · simp (decide := true) only [u_hN_pI, u_hU_pI, u_hK_pI, u_hL_pI, u_hR_pI, u_hJ_pI, u_hA_pI, u_hB_pI, u_hS_pI, u_hN_pR, u_hU_pR, u_hK_pR, u_hL_pR, u_hI_pR, u_hJ_pR, u_hA_pR, u_hB_pR, u_hS_pR, u_hN_pJ, u_hU_pJ, u_hK_pJ, u_hL_pJ, u_hI_pJ, u_hR_pJ, u_hA_pJ, u_hB_pJ, u_hS_pJ, u_hN_pA, u_hU_pA, u_hK_pA, u_hL_pA, u_hI_pA, u_hR_pA, u_hJ_pA, u_hB_pA, u_hS_pA, u_hN_pB, u_hU_pB, u_hK_pB, u_hL_pB, u_hI_pB, u_hR_pB, u_hJ_pB, u_hA_pB, u_hS_pB, u_hL_nO, u_hA_nO, u_hB_nO, u_hS_nO, u_hI_nA, u_hR_nA, u_hJ_nA, u_hS_nA, u_II, u_RR, u_JJ, u_AA, u_BB, u_NO, u_UO, u_KO, u_IO, u_RO, u_JO, u_NN, u_UN, u_KN, u_LN, u_AN, u_BN, if_true, if_false]
    · simp (decide := true) only [u_hN_pI, u_hU_pI, u_hK_pI, u_hL_pI, u_hR_pI, u_hJ_pI, u_hA_pI, u_hB_pI, u_hS_pI, u_hN_pR, u_hU_pR, u_hK_pR, u_hL_pR, u_hI_pR, u_hJ_pR, u_hA_pR, u_hB_pR, u_hS_pR, u_hN_pJ, u_hU_pJ, u_hK_pJ, u_hL_pJ, u_hI_pJ, u_hR_pJ, u_hA_pJ, u_hB_pJ, u_hS_pJ, u_hN_pA, u_hU_pA, u_hK_pA, u_hL_pA, u_hI_pA, u_hR_pA, u_hJ_pA, u_hB_pA, u_hS_pA, u_hN_pB, u_hU_pB, u_hK_pB, u_hL_pB, u_hI_pB, u_hR_pB, u_hJ_pB, u_hA_pB, u_hS_pB, u_hL_nO, u_hA_nO, u_hB_nO, u_hS_nO, u_hI_nA, u_hR_nA, u_hJ_nA, u_hS_nA, u_II, u_RR, u_JJ, u_AA, u_BB, u_NO, u_UO, u_KO, u_IO, u_RO, u_JO, u_NN, u_UN, u_KN, u_LN, u_AN, u_BN, if_true, if_false]
  · subst c1
    have k4 := c6.1.2.1
    have l1 := c6.1.1
    have na : la ≠ a := by have := b4 la l1; omega
    have nlb : b ≠ la := fun z => nb1 (z ▸ l1)
    simp (decide := true) (disch := omega) only [e_X8_append_0, e_X8_append_1, e_X8_append_4, e_X8_append_7, e_X8_append_8, e_X8_append_9, e_X8_append_12, e_X8_append_15, e_X8_append_16, e_X8_append_19, e_X8_append_20, e_X8_append_23, e_X8_append_24, e_X8_append_25, e_X8_append_28, ↓reduceIte, if_true, if_false, reduceCtorEq, Nat.reduceAdd, true_and, and_true, false_and, and_false, true_or, or_true, false_or, or_false, not_true_eq_false, not_false_eq_true, Option.bind_eq_bind, Option.bind_some, psh, eq_self, l_0, l_1, l_2, l_3, l_4, l_5, l_6, l_7, l_8, l_9, l_10, l_11, l_12, l_13, l_14, l_15, l_16, l_17, l_18, l_19, l_20, l_24, l_31, l_32, l_33, l_35, l_36, l_48, l_56, l_57, l_58, l_63, l_65, l_80, l_81, l_90, l_91, l_93, l_94, l_95, l_97, l_100, l_105, l_107, l_110, l_111, l_116, l_120, l_121, l_122, l_123, l_124, l_125, l_126, l_162, l_255, l_300, l_400, l_420, l_432, l_1000, l_1400, l_1936, l_2000, l_2100, l_2400, l_24000, m_n1, m_n2, m_n3, nI_mul, nI_add, nI_sub, nI_ltT, nI_ltF, nI_leT, nI_leF, nI_eqT, nI_eqF, nI_nM, nM_nI, nM_eq, nM_lt, nM_le, nI_ltM, nI_leM, nI_inT, nI_dec, pk_rem, nI_ltI, nI_leI, nI_eq, nI_clamp, Nat.add_assoc, q_bv51, Nat.add_left_cancel_iff, b1, c4, k4, u_hN_pI, u_hU_pI, u_hK_pI, u_hL_pI, u_hR_pI, u_hJ_pI, u_hA_pI, u_hB_pI, u_hS_pI, u_hN_pR, u_hU_pR, u_hK_pR, u_hL_pR, u_hI_pR, u_hJ_pR, u_hA_pR, u_hB_pR, u_hS_pR, u_hN_pJ, u_hU_pJ, u_hK_pJ, u_hL_pJ, u_hI_pJ, u_hR_pJ, u_hA_pJ, u_hB_pJ, u_hS_pJ, u_hN_pA, u_hU_pA, u_hK_pA, u_hL_pA, u_hI_pA, u_hR_pA, u_hJ_pA, u_hB_pA, u_hS_pA, u_hN_pB, u_hU_pB, u_hK_pB, u_hL_pB, u_hI_pB, u_hR_pB, u_hJ_pB, u_hA_pB, u_hS_pB, u_hL_nO, u_hA_nO, u_hB_nO, u_hS_nO, u_hI_nA, u_hR_nA, u_hJ_nA, u_hS_nA, u_II, u_RR, u_JJ, u_AA, u_BB, u_NO, u_UO, u_KO, u_IO, u_RO, u_JO, u_NN, u_UN, u_KN, u_LN, u_AN, u_BN, reduceCtorEq]
    have f1 : sm (fun x => x = la ∨ x = a) h (pR (pR h 5 la (some b)) 2 a (some b)) := (sm.R _ _ (Or.inl rfl)).tr (sm.R _ _ (Or.inr rfl))
    refine ⟨_, rfl, f1.mono (fun x _ z => by rcases z with z | z; exact Or.inr (z ▸ l1); exact Or.inl z), rfl, rfl, ⟨⟨b1, b2, b3, hall⟩, Or.inr ⟨es0 ++ [e'], e, b, Q, rfl, fun x hx => Or.inl hx, nb1, ?_, ?_, ?_, ?_⟩⟩, ?_, ?_⟩
    · simp (decide := true) only [u_hN_pI, u_hU_pI, u_hK_pI, u_hL_pI, u_hR_pI, u_hJ_pI, u_hA_pI, u_hB_pI, u_hS_pI, u_hN_pR, u_hU_pR, u_hK_pR, u_hL_pR, u_hI_pR, u_hJ_pR, u_hA_pR, u_hB_pR, u_hS_pR, u_hN_pJ, u_hU_pJ, u_hK_pJ, u_hL_pJ, u_hI_pJ, u_hR_pJ, u_hA_pJ, u_hB_pJ, u_hS_pJ, u_hN_pA, u_hU_pA, u_hK_pA, u_hL_pA, u_hI_pA, u_hR_pA, u_hJ_pA, u_hB_pA, u_hS_pA, u_hN_pB, u_hU_pB, u_hK_pB, u_hL_pB, u_hI_pB, u_hR_pB, u_hJ_pB, u_hA_pB, u_hS_pB, u_hL_nO, u_hA_nO, u_hB_nO, u_hS_nO, u_hI_nA, u_hR_nA, u_hJ_nA, u_hS_nA, u_II, u_RR, u_JJ, u_AA, u_BB, u_NO, u_UO, u_KO, u_IO, u_RO, u_JO, u_NN, u_UN, u_KN, u_LN, u_AN, u_BN, if_true, if_false]
    · have g1 : hR (pR (pR h 5 la (some b)) 2 a (some b)) 1 a = hR h 1 a := by simp (decide := true) only [u_hN_pI, u_hU_pI, u_hK_pI, u_hL_pI, u_hR_pI, u_hJ_pI, u_hA_pI, u_hB_pI, u_hS_pI, u_hN_pR, u_hU_pR, u_hK_pR, u_hL_pR, u_hI_pR, u_hJ_pR, u_hA_pR, u_hB_pR, u_hS_pR, u_hN_pJ, u_hU_pJ, u_hK_pJ, u_hL_pJ, u_hI_pJ, u_hR_pJ, u_hA_pJ, u_hB_pJ, u_hS_pJ, u_hN_pA, u_hU_pA, u_hK_pA, u_hL_pA, u_hI_pA, u_hR_pA, u_hJ_pA, u_hB_pA, u_hS_pA, u_hN_pB, u_hU_pB, u_hK_pB, u_hL_pB, u_hI_pB, u_hR_pB, u_hJ_pB, u_hA_pB, u_hS_pB, u_hL_nO, u_hA_nO, u_hB_nO, u_hS_nO, u_hI_nA, u_hR_nA, u_hJ_nA, u_hS_nA, u_II, u_RR, u_JJ, u_AA, u_BB, u_NO, u_UO, u_KO, u_IO, u_RO, u_JO, u_NN, u_UN, u_KN, u_LN, u_AN, u_BN, if_true, if_false]
      rw [g1]
      refine sgm.app (sgm.keep f1 (fun x hx => ⟨(b4 x (c2 x hx)).2, by
        rintro (z | z)
        · exact c3 (z ▸ hx)
        · have := b4 x (c2 x hx); omega, c2 x hx⟩) c5) ⟨la, rfl, ?_, ?_⟩
      · obtain ⟨⟨r1, r2, r3, r4, r5, r6⟩, r7⟩ := c6
        refine ⟨⟨r1, r2, ?_, ?_, ?_, ?_⟩, ?_⟩
        · simp (decide := true) only [u_hN_pI, u_hU_pI, u_hK_pI, u_hL_pI, u_hR_pI, u_hJ_pI, u_hA_pI, u_hB_pI, u_hS_pI, u_hN_pR, u_hU_pR, u_hK_pR, u_hL_pR, u_hI_pR, u_hJ_pR, u_hA_pR, u_hB_pR, u_hS_pR, u_hN_pJ, u_hU_pJ, u_hK_pJ, u_hL_pJ, u_hI_pJ, u_hR_pJ, u_hA_pJ, u_hB_pJ, u_hS_pJ, u_hN_pA, u_hU_pA, u_hK_pA, u_hL_pA, u_hI_pA, u_hR_pA, u_hJ_pA, u_hB_pA, u_hS_pA, u_hN_pB, u_hU_pB, u_hK_pB, u_hL_pB, u_hI_pB, u_hR_pB, u_hJ_pB, u_hA_pB, u_hS_pB, u_hL_nO, u_hA_nO, u_hB_nO, u_hS_nO, u_hI_nA, u_hR_nA, u_hJ_nA, u_hS_nA, u_II, u_RR, u_JJ, u_AA, u_BB, u_NO, u_UO, u_KO, u_IO, u_RO, u_JO, u_NN, u_UN, u_KN, u_LN, u_AN, u_BN]; exact r3
        · simp (decide := true) only [u_hN_pI, u_hU_pI, u_hK_pI, u_hL_pI, u_hR_pI, u_hJ_pI, u_hA_pI, u_hB_pI, u_hS_pI, u_hN_pR, u_hU_pR, u_hK_pR, u_hL_pR, u_hI_pR, u_hJ_pR, u_hA_pR, u_hB_pR, u_hS_pR, u_hN_pJ, u_hU_pJ, u_hK_pJ, u_hL_pJ, u_hI_pJ, u_hR_pJ, u_hA_pJ, u_hB_pJ, u_hS_pJ, u_hN_pA, u_hU_pA, u_hK_pA, u_hL_pA, u_hI_pA, u_hR_pA, u_hJ_pA, u_hB_pA, u_hS_pA, u_hN_pB, u_hU_pB, u_hK_pB, u_hL_pB, u_hI_pB, u_hR_pB, u_hJ_pB, u_hA_pB, u_hS_pB, u_hL_nO, u_hA_nO, u_hB_nO, u_hS_nO, u_hI_nA, u_hR_nA, u_hJ_nA, u_hS_nA, u_II, u_RR, u_JJ, u_AA, u_BB, u_NO, u_UO, u_KO, u_IO, u_RO, u_JO, u_NN, u_UN, u_KN, u_LN, u_AN, u_BN]; exact r4
        · simp (decide := true) only [u_hN_pI, u_hU_pI, u_hK_pI, u_hL_pI, u_hR_pI, u_hJ_pI, u_hA_pI, u_hB_pI, u_hS_pI, u_hN_pR, u_hU_pR, u_hK_pR, u_hL_pR, u_hI_pR, u_hJ_pR, u_hA_pR, u_hB_pR, u_hS_pR, u_hN_pJ, u_hU_pJ, u_hK_pJ, u_hL_pJ, u_hI_pJ, u_hR_pJ, u_hA_pJ, u_hB_pJ, u_hS_pJ, u_hN_pA, u_hU_pA, u_hK_pA, u_hL_pA, u_hI_pA, u_hR_pA, u_hJ_pA, u_hB_pA, u_hS_pA, u_hN_pB, u_hU_pB, u_hK_pB, u_hL_pB, u_hI_pB, u_hR_pB, u_hJ_pB, u_hA_pB, u_hS_pB, u_hL_nO, u_hA_nO, u_hB_nO, u_hS_nO, u_hI_nA, u_hR_nA, u_hJ_nA, u_hS_nA, u_II, u_RR, u_JJ, u_AA, u_BB, u_NO, u_UO, u_KO, u_IO, u_RO, u_JO, u_NN, u_UN, u_KN, u_LN, u_AN, u_BN]; exact r5
        · simp (decide := true) only [u_hN_pI, u_hU_pI, u_hK_pI, u_hL_pI, u_hR_pI, u_hJ_pI, u_hA_pI, u_hB_pI, u_hS_pI, u_hN_pR, u_hU_pR, u_hK_pR, u_hL_pR, u_hI_pR, u_hJ_pR, u_hA_pR, u_hB_pR, u_hS_pR, u_hN_pJ, u_hU_pJ, u_hK_pJ, u_hL_pJ, u_hI_pJ, u_hR_pJ, u_hA_pJ, u_hB_pJ, u_hS_pJ, u_hN_pA, u_hU_pA, u_hK_pA, u_hL_pA, u_hI_pA, u_hR_pA, u_hJ_pA, u_hB_pA, u_hS_pA, u_hN_pB, u_hU_pB, u_hK_pB, u_hL_pB, u_hI_pB, u_hR_pB, u_hJ_pB, u_hA_pB, u_hS_pB, u_hL_nO, u_hA_nO, u_hB_nO, u_hS_nO, u_hI_nA, u_hR_nA, u_hJ_nA, u_hS_nA, u_II, u_RR, u_JJ, u_AA, u_BB, u_NO, u_UO, u_KO, u_IO, u_RO, u_JO, u_NN, u_UN, u_KN, u_LN, u_AN, u_BN]; exact r6
        · have g4 : hR (pR (pR h 5 la (some b)) 2 a (some b)) 4 la = hR h 4 la := by simp (decide := true) only [u_hN_pI, u_hU_pI, u_hK_pI, u_hL_pI, u_hR_pI, u_hJ_pI, u_hA_pI, u_hB_pI, u_hS_pI, u_hN_pR, u_hU_pR, u_hK_pR, u_hL_pR, u_hI_pR, u_hJ_pR, u_hA_pR, u_hB_pR, u_hS_pR, u_hN_pJ, u_hU_pJ, u_hK_pJ, u_hL_pJ, u_hI_pJ, u_hR_pJ, u_hA_pJ, u_hB_pJ, u_hS_pJ, u_hN_pA, u_hU_pA, u_hK_pA, u_hL_pA, u_hI_pA, u_hR_pA, u_hJ_pA, u_hB_pA, u_hS_pA, u_hN_pB, u_hU_pB, u_hK_pB, u_hL_pB, u_hI_pB, u_hR_pB, u_hJ_pB, u_hA_pB, u_hS_pB, u_hL_nO, u_hA_nO, u_hB_nO, u_hS_nO, u_hI_nA, u_hR_nA, u_hJ_nA, u_hS_nA, u_II, u_RR, u_JJ, u_AA, u_BB, u_NO, u_UO, u_KO, u_IO, u_RO, u_JO, u_NN, u_UN, u_KN, u_LN, u_AN, u_BN, if_true, if_false]
          rw [g4]
          cases eq : e'.2.2.2.2 with
          | none => rw [eq] at r7; exact r7
          | some q =>
            rw [eq] at r7
            obtain ⟨u, u1, u2, u3⟩ := r7
            have nu : u ≠ la := fun z => by have := u3.1; rw [z, r2] at this; omega
            have := b4 u u2
            exact ⟨u, u1, u2, u3.keep f1 (by omega) (by omega)⟩
      · have g5 : hR (pR (pR h 5 la (some b)) 2 a (some b)) 5 la = some b := by simp (decide := true) only [u_hN_pI, u_hU_pI, u_hK_pI, u_hL_pI, u_hR_pI, u_hJ_pI, u_hA_pI, u_hB_pI, u_hS_pI, u_hN_pR, u_hU_pR, u_hK_pR, u_hL_pR, u_hI_pR, u_hJ_pR, u_hA_pR, u_hB_pR, u_hS_pR, u_hN_pJ, u_hU_pJ, u_hK_pJ, u_hL_pJ, u_hI_pJ, u_hR_pJ, u_hA_pJ, u_hB_pJ, u_hS_pJ, u_hN_pA, u_hU_pA, u_hK_pA, u_hL_pA, u_hI_pA, u_hR_pA, u_hJ_pA, u_hB_pA, u_hS_pA, u_hN_pB, u_hU_pB, u_hK_pB, u_hL_pB, u_hI_pB, u_hR_pB, u_hJ_pB, u_hA_pB, u_hS_pB, u_hL_nO, u_hA_nO, u_hB_nO, u_hS_nO, u_hI_nA, u_hR_nA, u_hJ_nA, u_hS_nA, u_II, u_RR, u_JJ, u_AA, u_BB, u_NO, u_UO, u_KO, u_IO, u_RO, u_JO, u_NN, u_UN, u_KN, u_LN, u_AN, u_BN, if_true, if_false]
        rw [g5]
        rfl
    · exact p.keep f1 (fun x hx => ⟨(hQb x hx).2.2, by
        rintro (z | z)
        · exact (hQb x hx).1 (z ▸ l1)
        · have := (hQb x hx).2.1; omega, Or.inr hx⟩)
    · simp (decide := true) only [u_hN_pI, u_hU_pI, u_hK_pI, u_hL_pI, u_hR_pI, u_hJ_pI, u_hA_pI, u_hB_pI, u_hS_pI, u_hN_pR, u_hU_pR, u_hK_pR, u_hL_pR, u_hI_pR, u_hJ_pR, u_hA_pR, u_hB_pR, u_hS_pR, u_hN_pJ, u_hU_pJ, u_hK_pJ, u_hL_pJ, u_hI_pJ, u_hR_pJ, u_hA_pJ, u_hB_pJ, u_hS_pJ, u_hN_pA, u_hU_pA, u_hK_pA, u_hL_pA, u_hI_pA, u_hR_pA, u_hJ_pA, u_hB_pA, u_hS_pA, u_hN_pB, u_hU_pB, u_hK_pB, u_hL_pB, u_hI_pB, u_hR_pB, u_hJ_pB, u_hA_pB, u_hS_pB, u_hL_nO, u_hA_nO, u_hB_nO, u_hS_nO, u_hI_nA, u_hR_nA, u_hJ_nA, u_hS_nA, u_II, u_RR, u_JJ, u_AA, u_BB, u_NO, u_UO, u_KO, u_IO, u_RO, u_JO, u_NN, u_UN, u_KN, u_LN, u_AN, u_BN, if_true, if_false]
      rw [if_neg nlb]
      exact hn
    · simp (decide := true) only [u_hN_pI, u_hU_pI, u_hK_pI, u_hL_pI, u_hR_pI, u_hJ_pI, u_hA_pI, u_hB_pI, u_hS_pI, u_hN_pR, u_hU_pR, u_hK_pR, u_hL_pR, u_hI_pR, u_hJ_pR, u_hA_pR, u_hB_pR, u_hS_pR, u_hN_pJ, u_hU_pJ, u_hK_pJ, u_hL_pJ, u_hI_pJ, u_hR_pJ, u_hA_pJ, u_hB_pJ, u_hS_pJ, u_hN_pA, u_hU_pA, u_hK_pA, u_hL_pA, u_hI_pA, u_hR_pA, u_hJ_pA, u_hB_pA, u_hS_pA, u_hN_pB, u_hU_pB, u_hK_pB, u_hL_pB, u_hI_pB, u_hR_pB, u_hJ_pB, u_hA_pB, u_hS_pB, u_hL_nO, u_hA_nO, u_hB_nO, u_hS_nO, u_hI_nA, u_hR_nA, u_hJ_nA, u_hS_nA, u_II, u_RR, u_JJ, u_AA, u_BB, u_NO, u_UO, u_KO, u_IO, u_RO, u_JO, u_NN, u_UN, u_KN, u_LN, u_AN, u_BN, if_true, if_false]
    · simp (decide := true) only [u_hN_pI, u_hU_pI, u_hK_pI, u_hL_pI, u_hR_pI, u_hJ_pI, u_hA_pI, u_hB_pI, u_hS_pI, u_hN_pR, u_hU_pR, u_hK_pR, u_hL_pR, u_hI_pR, u_hJ_pR, u_hA_pR, u_hB_pR, u_hS_pR, u_hN_pJ, u_hU_pJ, u_hK_pJ, u_hL_pJ, u_hI_pJ, u_hR_pJ, u_hA_pJ, u_hB_pJ, u_hS_pJ, u_hN_pA, u_hU_pA, u_hK_pA, u_hL_pA, u_hI_pA, u_hR_pA, u_hJ_pA, u_hB_pA, u_hS_pA, u_hN_pB, u_hU_pB, u_hK_pB, u_hL_pB, u_hI_pB, u_hR_pB, u_hJ_pB, u_hA_pB, u_hS_pB, u_hL_nO, u_hA_nO, u_hB_nO, u_hS_nO, u_hI_nA, u_hR_nA, u_hJ_nA, u_hS_nA, u_II, u_RR, u_JJ, u_AA, u_BB, u_NO, u_UO, u_KO, u_IO, u_RO, u_JO, u_NN, u_UN, u_KN, u_LN, u_AN, u_BN, if_true, if_false]
theorem c_appendPlain {g N0 a f t : Nat} {Q : Nat → Prop} {h : PH} {es : List Pt} (B : bld N0 Q h a es) (hf : f < 1000) (ht : t < 1000) :
    ∃ h' Q', cal g mX8_appendPlain [va_rf (some a), .int (nI f), .int (nI t)] h = some (none, h') ∧ sm (fun x => x = a ∨ Q x) h h' ∧ hN h' ≤ hN h + 1 ∧ hU h' ≤ hU h + 6 ∧ bld N0 Q' h' a (es ++ (if f < t then [(2, f, t, t, none)] else [])) ∧ hR h' 0 a = hR h 0 a ∧ hR h' 3 a = hR h 3 a ∧ (∀ x, Q x → Q' x) ∧ (∀ x, Q' x → Q x ∨ hN h ≤ x) := by
  rw [n_X8_appendPlain]
  by_cases c : f < t
  · rw [if_pos c]
    obtain ⟨h1, e1, s1, n1, u1, p1, p2, p3, p4, p5, p6, p7⟩ := p_init (g := g) (h := nO h 4) (a := hN h) (s := 2) (f := f) (t := t) (b := t) (go := none) (by simp only [u_hN_pI, u_hU_pI, u_hK_pI, u_hL_pI, u_hR_pI, u_hJ_pI, u_hA_pI, u_hB_pI, u_hS_pI, u_hN_pR, u_hU_pR, u_hK_pR, u_hL_pR, u_hI_pR, u_hJ_pR, u_hA_pR, u_hB_pR, u_hS_pR, u_hN_pJ, u_hU_pJ, u_hK_pJ, u_hL_pJ, u_hI_pJ, u_hR_pJ, u_hA_pJ, u_hB_pJ, u_hS_pJ, u_hN_pA, u_hU_pA, u_hK_pA, u_hL_pA, u_hI_pA, u_hR_pA, u_hJ_pA, u_hB_pA, u_hS_pA, u_hN_pB, u_hU_pB, u_hK_pB, u_hL_pB, u_hI_pB, u_hR_pB, u_hJ_pB, u_hA_pB, u_hS_pB, u_hL_nO, u_hA_nO, u_hB_nO, u_hS_nO, u_hI_nA, u_hR_nA, u_hJ_nA, u_hS_nA, u_II, u_RR, u_JJ, u_AA, u_BB, u_NO, u_UO, u_KO, u_IO, u_RO, u_JO, u_NN, u_UN, u_KN, u_LN, u_AN, u_BN, if_true])
    have sA : sm (fun x => x = hN h) h h1 := (sm.O (P := fun x => x = hN h) h 4).tr s1
    have k8 := B.1.1
    have hB4 := B.1.2.2.2
    have aN := B.1.2.1
    have N0N := B.1.2.2.1
    have B1 := B.keep sA (by omega) (fun x hx => by have := hB4 x hx; omega)
    have eN : hN h1 = hN h + 1 := by rw [n1, u_NO]
    have eU : hU h1 = hU h + 6 := by rw [u1, u_UO]; rfl
    obtain ⟨h2, e2, s2, n2, u2, B2, q0, q3⟩ := c_append (g := g) (b := hN h) (Qb := fun x => x = hN h) (e := (2, f, t, t, none)) B1 (fun x hx => ⟨fun z => by have := hB4 x z; omega, by omega, by omega⟩) ⟨⟨rfl, p1, p2, p3, p4, p5⟩, p6⟩ p7
    have k81 : hK h1 a = 8 := B1.1.1
    refine ⟨h2, _, ?_, (sA.mono (fun x hx z => by omega)).tr s2, by omega, by omega, B2, ?_, ?_, fun x hx => Or.inl hx, fun x hx => by rcases hx with z | z; exact Or.inl z; exact Or.inr (by omega)⟩
    · simp (decide := true) (disch := omega) only [e_X8_appendPlain_0, e_X8_appendPlain_1, e_X8_appendPlain_2, e_X8_appendPlain_5, e_X8_appendPlain_6, e_X8_appendPlain_9, e_X8_appendPlain_10, e_X8_appendPlain_11, e_X8_appendPlain_12, e_X8_appendPlain_13, e_X8_appendPlain_14, e_X8_appendPlain_15, e_X8_appendPlain_18, e_X8_appendPlain_21, ↓reduceIte, if_true, if_false, reduceCtorEq, Nat.reduceAdd, true_and, and_true, false_and, and_false, true_or, or_true, false_or, or_false, not_true_eq_false, not_false_eq_true, Option.bind_eq_bind, Option.bind_some, psh, eq_self, l_0, l_1, l_2, l_3, l_4, l_5, l_6, l_7, l_8, l_9, l_10, l_11, l_12, l_13, l_14, l_15, l_16, l_17, l_18, l_19, l_20, l_24, l_31, l_32, l_33, l_35, l_36, l_48, l_56, l_57, l_58, l_63, l_65, l_80, l_81, l_90, l_91, l_93, l_94, l_95, l_97, l_100, l_105, l_107, l_110, l_111, l_116, l_120, l_121, l_122, l_123, l_124, l_125, l_126, l_162, l_255, l_300, l_400, l_420, l_432, l_1000, l_1400, l_1936, l_2000, l_2100, l_2400, l_24000, m_n1, m_n2, m_n3, nI_mul, nI_add, nI_sub, nI_ltT, nI_ltF, nI_leT, nI_leF, nI_eqT, nI_eqF, nI_nM, nM_nI, nM_eq, nM_lt, nM_le, nI_ltM, nI_leM, nI_inT, nI_dec, pk_rem, nI_ltI, nI_leI, nI_eq, nI_clamp, Nat.add_assoc, q_bv51, Nat.add_left_cancel_iff, e1, k81, e2]
    · rw [q0, ((sA.2.2 a (by omega)).2.2 (by omega)).2.1]
    · rw [q3, ((sA.2.2 a (by omega)).2.2 (by omega)).2.1]
  · rw [if_neg c, List.append_nil]
    refine ⟨h, Q, ?_, sm.rf _, by omega, by omega, B, rfl, rfl, fun x hx => hx, fun x hx => Or.inl hx⟩
    simp (decide := true) (disch := omega) only [e_X8_appendPlain_0, e_X8_appendPlain_1, e_X8_appendPlain_2, e_X8_appendPlain_5, e_X8_appendPlain_6, e_X8_appendPlain_9, e_X8_appendPlain_10, e_X8_appendPlain_11, e_X8_appendPlain_12, e_X8_appendPlain_13, e_X8_appendPlain_14, e_X8_appendPlain_15, e_X8_appendPlain_18, e_X8_appendPlain_21, ↓reduceIte, if_true, if_false, reduceCtorEq, Nat.reduceAdd, true_and, and_true, false_and, and_false, true_or, or_true, false_or, or_false, not_true_eq_false, not_false_eq_true, Option.bind_eq_bind, Option.bind_some, psh, eq_self, l_0, l_1, l_2, l_3, l_4, l_5, l_6, l_7, l_8, l_9, l_10, l_11, l_12, l_13, l_14, l_15, l_16, l_17, l_18, l_19, l_20, l_24, l_31, l_32, l_33, l_35, l_36, l_48, l_56, l_57, l_58, l_63, l_65, l_80, l_81, l_90, l_91, l_93, l_94, l_95, l_97, l_100, l_105, l_107, l_110, l_111, l_116, l_120, l_121, l_122, l_123, l_124, l_125, l_126, l_162, l_255, l_300, l_400, l_420, l_432, l_1000, l_1400, l_1936, l_2000, l_2100, l_2400, l_24000, m_n1, m_n2, m_n3, nI_mul, nI_add, nI_sub, nI_ltT, nI_ltF, nI_leT, nI_leF, nI_eqT, nI_eqF, nI_nM, nM_nI, nM_eq, nM_lt, nM_le, nI_ltM, nI_leM, nI_inT, nI_dec, pk_rem, nI_ltI, nI_leI, nI_eq, nI_clamp, Nat.add_assoc, q_bv51, Nat.add_left_cancel_iff]
/-- MOVED, out of the parts -/
def mvP (t : List Nat) (es : List Pt) : Option Nm := match es with
  | [e, l] => if e.1 = 2 ∧ e.2.2.1 = 4 ∧ t.take 4 = q_tx 1 ∧ l.1 = 0 then (match l.2.2.2.2 with | none => none | some q => if q.1 = false then some q else none) else none
  | _ => none
theorem tok_b {t : List Nat} {i : Nat} (h1 : t.getD i 0 ≠ 91) (h2 : t.getD i 0 ≠ 123) : tok t i = none := by
  unfold tok
  rw [if_neg (fun z => by rcases z.1.1 with w | w; exact h1 w; exact h2 w)]
/-- a run of plain bytes ends where a token is -/
theorem pln_run {t : List Nat} : ∀ {m b i : Nat}, t.length ≤ b + m → b ≤ i → i ≤ t.length → (∀ k, b ≤ k → k < i → tok t k = none) → (i < t.length → tok t i ≠ none) → pln t m b = i
  | 0, b, i, h1, h2, h3, h4, h5 => by rw [pln]; omega
  | m + 1, b, i, h1, h2, h3, h4, h5 => by
    rw [pln]
    by_cases c : b = i
    · subst c
      rw [if_neg]
      rintro ⟨z1, z2⟩
      exact h5 z1 (Option.isNone_iff_eq_none.mp z2)
    · rw [if_pos ⟨by omega, by rw [h4 b (Nat.le_refl _) (by omega)]; rfl⟩]
      exact pln_run (by omega) (by omega) h3 (fun k hk1 hk2 => h4 k (by omega) hk2) h5
theorem pts_fuel {t : List Nat} : ∀ {k k' i : Nat}, t.length ≤ i + k → t.length ≤ i + k' → pts t k i = pts t k' i
  | 0, 0, _, _, _ => rfl
  | 0, k' + 1, i, h, _ => by rw [pts, pts, if_neg (by omega)]
  | k + 1, 0, i, _, h => by rw [pts, pts, if_neg (by omega)]
  | k + 1, k' + 1, i, h1, h2 => by
    rw [pts, pts]
    by_cases c : i < t.length
    · rw [if_pos c, if_pos c]
      cases e : tok t i with
      | none =>
        have : i < pln t t.length i := by
          obtain ⟨k0, hk0⟩ : ∃ k0, t.length = k0 + 1 := ⟨t.length - 1, by omega⟩
          have : pln t (k0 + 1) i = pln t k0 (i + 1) := by rw [pln, if_pos ⟨c, by rw [e]; rfl⟩]
          rw [hk0, this]
          exact pln_ge
        simp only
        rw [pts_fuel (k := k) (k' := k') (by omega) (by omega)]
      | some r =>
        obtain ⟨s, j, b, q⟩ := r
        have := tok_len e
        simp only
        rw [pts_fuel (k := k) (k' := k') (by omega) (by omega)]
    · rw [if_neg c, if_neg c]
theorem mvd_ptl (t : List Nat) : mvd t = mvP t (ptl t) := by
  unfold mvd
  by_cases c : t.take 4 = q_tx 1
  · rw [if_pos c]
    have hl : 4 ≤ t.length := by
      have := congrArg List.length c
      rw [show (q_tx 1).length = 4 from rfl] at this
      simp at this
      omega
    have e4 := take4 hl
    rw [c] at e4
    have e5 : ([35, 116, 111, 32] : List Nat) = [t.getD 0 0, t.getD 1 0, t.getD 2 0, t.getD 3 0] := e4
    simp only [List.cons.injEq, and_true] at e5
    obtain ⟨g0, g1, g2, g3⟩ := e5
    have no : ∀ k, 0 ≤ k → k < 4 → tok t k = none := by
      intro k _ hk
      have : k = 0 ∨ k = 1 ∨ k = 2 ∨ k = 3 := by omega
      rcases this with rfl | rfl | rfl | rfl
      · exact tok_b (by omega) (by omega)
      · exact tok_b (by omega) (by omega)
      · exact tok_b (by omega) (by omega)
      · exact tok_b (by omega) (by omega)
    obtain ⟨L, hL⟩ : ∃ L, t.length = L + 2 := ⟨t.length - 2, by omega⟩
    have ep : ptl t = (2, 0, pln t t.length 0, pln t t.length 0, none) :: pts t (L + 1) (pln t t.length 0) := by
      show pts t t.length 0 = _
      have : pts t t.length 0 = pts t (L + 1 + 1) 0 := by rw [hL]
      rw [this, pts, if_pos (by omega), no 0 (by omega) (by omega)]
    rw [ep]
    cases et : tok t 4 with
    | none =>
      simp only
      by_cases c4 : t.length = 4
      · have : pln t t.length 0 = 4 := pln_run (by omega) (by omega) hl no (fun z => by omega)
        rw [this, pts, if_neg (by omega)]
        rfl
      · have hp : pln t t.length 0 ≠ 4 := by
          intro z
          obtain ⟨k, hk⟩ : ∃ k, t.length = k + 5 := ⟨t.length - 5, by omega⟩
          have w2 : pln t (k + 5) 0 = pln t k 5 := by
            rw [pln, if_pos ⟨by omega, by rw [no 0 (by omega) (by omega)]; rfl⟩, pln, if_pos ⟨by omega, by rw [no 1 (by omega) (by omega)]; rfl⟩, pln, if_pos ⟨by omega, by rw [no 2 (by omega) (by omega)]; rfl⟩, pln, if_pos ⟨by omega, by rw [no 3 (by omega) (by omega)]; rfl⟩, pln, if_pos ⟨by omega, by rw [et]; rfl⟩]
          rw [hk, w2] at z
          have := pln_ge (t := t) (m := k) (i := 5)
          omega
        unfold mvP
        split
        · rename_i e l hel
          injection hel with h1 h2
          rw [if_neg]
          rintro ⟨-, z, -⟩
          rw [← h1] at z
          exact hp z
        · rfl
    | some r =>
      obtain ⟨s, j, b, q⟩ := r
      have tl := tok_len et
      have : pln t t.length 0 = 4 := pln_run (by omega) (by omega) hl no (fun _ z => by rw [et] at z; cases z)
      rw [this, pts, if_pos (by omega), et]
      simp only
      by_cases cj : j + 2 = t.length
      · have en : pts t L (j + 2) = [] := by
          cases L with
          | zero => rfl
          | succ L => rw [pts, if_neg (by omega)]
        rw [en]
        by_cases cs : s = 1
        · subst cs
          cases ck : q.1 with
          | true => simp [mvP, c, ck]
          | false => simp [mvP, c, ck, cj]
        · have cs2 : s = 2 := by omega
          subst cs2
          simp [mvP]
      · obtain ⟨L', hL'⟩ : ∃ L', L = L' + 1 := ⟨L - 1, by omega⟩
        have en : ∃ x xs, pts t L (j + 2) = x :: xs := by
          rw [hL', pts, if_pos (by omega)]
          cases e9 : tok t (j + 2) with
          | none => exact ⟨_, _, rfl⟩
          | some r => obtain ⟨s', j', b', q'⟩ := r; exact ⟨_, _, rfl⟩
        obtain ⟨x, xs, en⟩ := en
        rw [en]
        have : mvP t ((2, 0, 4, 4, none) :: (s - 1, 4, j + 2, b, some q) :: x :: xs) = none := rfl
        rw [this]
        split
        · rename_i j' b' q' he
          cases he
          rw [if_neg (fun z => cj z.2)]
        · rfl
  · rw [if_neg c]
    unfold mvP
    split
    · rw [if_neg (fun z => c z.2.2.1)]
    · rfl
