/-! PageWeb$Search: isMember, leadsOn, spread -/
/-- whether a part is of this sort and leads on -/
def lq2 (w : Wd) (T : Nat) (so : Nat) (al : Bool) (mk : Nat → Bool) (goal : Nm) (e : Pt) : Bool := match e.2.2.2.2 with
  | none => false
  | some q => decide (e.1 = so) && (if so = 1 then cby w.2.1 w.2.2.2 w.2.2.1 T mk goal 17 q else (decide (q = goal) || (al && (q.1 && mko mk (pof w.2.1 w.2.2.2 w.2.2.1 q T)))))
section
variable {g X T : Nat} {Q : Nat → Prop} {h : PH} {w : Wd} {goal : Nm} {mk : Nat → Bool}
theorem s_isMember {v : Nat} {e : Pt} {q : Nm} {al : Bool} (d : cl h X) (W : web Q h X w) (S : ss Q h X goal T mk) (hT : T ≤ w.1) (p1 : pt1 Q h v e) (he : e.1 = 0) (eq : e.2.2.2.2 = some q) : cal g mX7_isMember [va_rf (some (X + 23)), va_rf (some v), .int (bI al)] h = some (some (.int (bI (decide (q = goal) || (al && (q.1 && mko mk (pof w.2.1 w.2.2.2 w.2.2.1 q T)))))), h) := by
  rw [n_X7_isMember]
  obtain ⟨gb, g1, g2, g3⟩ := S.1
  have sT := S.2.1
  have hn := W.1.2.2.2
  have ep := p_isLinkTo (g := g) p1 (by omega) g3
  have ek := p_isLinkToKind (g := g) p1 (by omega)
  have hl2 : isL e goal = decide (q = goal) := by unfold isL; rw [eq]; simp only [Option.some.injEq, he, true_and]
  obtain ⟨⟨-, k4, i0, -⟩, pg⟩ := p1
  rw [eq] at pg
  obtain ⟨qb, q1, q2, q3⟩ := pg
  have e1 := w_pageOf (g := g) d W q3 hT
  have em := s_isMarked (g := g) (o := pof w.2.1 w.2.2.2 w.2.2.1 q T) d S (fun p z => by have := (pof_lt z).1; omega)
  rw [hl2] at ep
  by_cases cq : q = goal
  · rw [decide_eq_true cq, bI_t] at ep
    rw [decide_eq_true cq, Bool.true_or, bI_t]
    simp (decide := true) (disch := omega) only [e_X7_isMember_0, e_X7_isMember_1, e_X7_isMember_2, e_X7_isMember_5, e_X7_isMember_8, e_X7_isMember_11, e_X7_isMember_12, e_X7_isMember_15, e_X7_isMember_16, e_X7_isMember_19, e_X7_isMember_22, e_X7_isMember_23, e_X7_isMember_24, e_X7_isMember_27, e_X7_isMember_28, e_X7_isMember_31, e_X7_isMember_32, e_X7_isMember_35, e_X7_isMember_38, e_X7_isMember_41, e_X7_isMember_44, e_X7_isMember_45, e_X7_isMember_48, e_X7_isMember_49, ↓reduceIte, if_true, if_false, reduceCtorEq, Nat.reduceAdd, true_and, and_true, false_and, and_false, true_or, or_true, false_or, or_false, not_true_eq_false, not_false_eq_true, Option.bind_eq_bind, Option.bind_some, psh, eq_self, l_0, l_1, l_2, l_3, l_4, l_5, l_6, l_7, l_8, l_9, l_10, l_11, l_12, l_13, l_14, l_15, l_16, l_17, l_18, l_19, l_20, l_24, l_31, l_32, l_33, l_35, l_36, l_48, l_56, l_57, l_58, l_63, l_65, l_80, l_81, l_90, l_91, l_93, l_94, l_95, l_97, l_100, l_105, l_107, l_110, l_111, l_116, l_120, l_121, l_122, l_123, l_124, l_125, l_126, l_162, l_255, l_300, l_400, l_420, l_432, l_1000, l_1400, l_1936, l_2000, l_2100, l_2400, l_24000, m_n1, m_n2, m_n3, nI_mul, nI_add, nI_sub, nI_ltT, nI_ltF, nI_leT, nI_leF, nI_eqT, nI_eqF, nI_nM, nM_nI, nM_eq, nM_lt, nM_le, nI_ltM, nI_leM, nI_inT, nI_dec, pk_rem, nI_ltI, nI_leI, nI_eq, nI_clamp, Nat.add_assoc, q_bv51, Nat.add_left_cancel_iff, clK_0 d, clK_1 d, clK_3 d, clK_5 d, clK_7 d, clK_8 d, clK_9 d, clK_11 d, clK_12 d, clK_13 d, clK_14 d, clK_15 d, clK_16 d, clK_18 d, clK_20 d, clK_21 d, clK_22 d, clK_23 d, clK_24 d, clK_25 d, clK_26 d, clR_0_0 d, clR_1_0 d, clR_2_0 d, clR_3_0 d, clR_7_0 d, clR_8_0 d, clR_9_0 d, clR_10_0 d, clR_11_0 d, clR_0_8 d, clR_0_11 d, clR_1_11 d, clR_2_11 d, clR_0_15 d, clR_1_15 d, clR_2_15 d, clR_3_15 d, clR_4_15 d, clR_5_15 d, clR_0_23 d, clR_1_23 d, clR_0_25 d, clL_7 d, clL_12 d, clL_13 d, clL_14 d, clL_20 d, clL_21 d, clL_22 d, clL_24 d, clS_0 d, clS_1 d, clS_2 d, clS_3 d, g1, k4, ep]
  · rw [decide_eq_false cq, bI_f] at ep
    rw [decide_eq_false cq, Bool.false_or]
    cases al with
    | false =>
      rw [Bool.false_and, bI_f]
      simp (decide := true) (disch := omega) only [e_X7_isMember_0, e_X7_isMember_1, e_X7_isMember_2, e_X7_isMember_5, e_X7_isMember_8, e_X7_isMember_11, e_X7_isMember_12, e_X7_isMember_15, e_X7_isMember_16, e_X7_isMember_19, e_X7_isMember_22, e_X7_isMember_23, e_X7_isMember_24, e_X7_isMember_27, e_X7_isMember_28, e_X7_isMember_31, e_X7_isMember_32, e_X7_isMember_35, e_X7_isMember_38, e_X7_isMember_41, e_X7_isMember_44, e_X7_isMember_45, e_X7_isMember_48, e_X7_isMember_49, ↓reduceIte, if_true, if_false, reduceCtorEq, Nat.reduceAdd, true_and, and_true, false_and, and_false, true_or, or_true, false_or, or_false, not_true_eq_false, not_false_eq_true, Option.bind_eq_bind, Option.bind_some, psh, eq_self, l_0, l_1, l_2, l_3, l_4, l_5, l_6, l_7, l_8, l_9, l_10, l_11, l_12, l_13, l_14, l_15, l_16, l_17, l_18, l_19, l_20, l_24, l_31, l_32, l_33, l_35, l_36, l_48, l_56, l_57, l_58, l_63, l_65, l_80, l_81, l_90, l_91, l_93, l_94, l_95, l_97, l_100, l_105, l_107, l_110, l_111, l_116, l_120, l_121, l_122, l_123, l_124, l_125, l_126, l_162, l_255, l_300, l_400, l_420, l_432, l_1000, l_1400, l_1936, l_2000, l_2100, l_2400, l_24000, m_n1, m_n2, m_n3, nI_mul, nI_add, nI_sub, nI_ltT, nI_ltF, nI_leT, nI_leF, nI_eqT, nI_eqF, nI_nM, nM_nI, nM_eq, nM_lt, nM_le, nI_ltM, nI_leM, nI_inT, nI_dec, pk_rem, nI_ltI, nI_leI, nI_eq, nI_clamp, Nat.add_assoc, q_bv51, Nat.add_left_cancel_iff, clK_0 d, clK_1 d, clK_3 d, clK_5 d, clK_7 d, clK_8 d, clK_9 d, clK_11 d, clK_12 d, clK_13 d, clK_14 d, clK_15 d, clK_16 d, clK_18 d, clK_20 d, clK_21 d, clK_22 d, clK_23 d, clK_24 d, clK_25 d, clK_26 d, clR_0_0 d, clR_1_0 d, clR_2_0 d, clR_3_0 d, clR_7_0 d, clR_8_0 d, clR_9_0 d, clR_10_0 d, clR_11_0 d, clR_0_8 d, clR_0_11 d, clR_1_11 d, clR_2_11 d, clR_0_15 d, clR_1_15 d, clR_2_15 d, clR_3_15 d, clR_4_15 d, clR_5_15 d, clR_0_23 d, clR_1_23 d, clR_0_25 d, clL_7 d, clL_12 d, clL_13 d, clL_14 d, clL_20 d, clL_21 d, clL_22 d, clL_24 d, clS_0 d, clS_1 d, clS_2 d, clS_3 d, g1, k4, ep]
    | true =>
      rw [Bool.true_and]
      have hp : isP e true = q.1 := by
        unfold isP
        rw [eq, he]
        cases hz : q.1 <;> simp [hz]
      rw [hp] at ek
      cases ekq : q.1 with
      | false =>
        rw [ekq, bI_f] at ek
        rw [Bool.false_and, bI_f]
        simp (decide := true) (disch := omega) only [e_X7_isMember_0, e_X7_isMember_1, e_X7_isMember_2, e_X7_isMember_5, e_X7_isMember_8, e_X7_isMember_11, e_X7_isMember_12, e_X7_isMember_15, e_X7_isMember_16, e_X7_isMember_19, e_X7_isMember_22, e_X7_isMember_23, e_X7_isMember_24, e_X7_isMember_27, e_X7_isMember_28, e_X7_isMember_31, e_X7_isMember_32, e_X7_isMember_35, e_X7_isMember_38, e_X7_isMember_41, e_X7_isMember_44, e_X7_isMember_45, e_X7_isMember_48, e_X7_isMember_49, ↓reduceIte, if_true, if_false, reduceCtorEq, Nat.reduceAdd, true_and, and_true, false_and, and_false, true_or, or_true, false_or, or_false, not_true_eq_false, not_false_eq_true, Option.bind_eq_bind, Option.bind_some, psh, eq_self, l_0, l_1, l_2, l_3, l_4, l_5, l_6, l_7, l_8, l_9, l_10, l_11, l_12, l_13, l_14, l_15, l_16, l_17, l_18, l_19, l_20, l_24, l_31, l_32, l_33, l_35, l_36, l_48, l_56, l_57, l_58, l_63, l_65, l_80, l_81, l_90, l_91, l_93, l_94, l_95, l_97, l_100, l_105, l_107, l_110, l_111, l_116, l_120, l_121, l_122, l_123, l_124, l_125, l_126, l_162, l_255, l_300, l_400, l_420, l_432, l_1000, l_1400, l_1936, l_2000, l_2100, l_2400, l_24000, m_n1, m_n2, m_n3, nI_mul, nI_add, nI_sub, nI_ltT, nI_ltF, nI_leT, nI_leF, nI_eqT, nI_eqF, nI_nM, nM_nI, nM_eq, nM_lt, nM_le, nI_ltM, nI_leM, nI_inT, nI_dec, pk_rem, nI_ltI, nI_leI, nI_eq, nI_clamp, Nat.add_assoc, q_bv51, Nat.add_left_cancel_iff, clK_0 d, clK_1 d, clK_3 d, clK_5 d, clK_7 d, clK_8 d, clK_9 d, clK_11 d, clK_12 d, clK_13 d, clK_14 d, clK_15 d, clK_16 d, clK_18 d, clK_20 d, clK_21 d, clK_22 d, clK_23 d, clK_24 d, clK_25 d, clK_26 d, clR_0_0 d, clR_1_0 d, clR_2_0 d, clR_3_0 d, clR_7_0 d, clR_8_0 d, clR_9_0 d, clR_10_0 d, clR_11_0 d, clR_0_8 d, clR_0_11 d, clR_1_11 d, clR_2_11 d, clR_0_15 d, clR_1_15 d, clR_2_15 d, clR_3_15 d, clR_4_15 d, clR_5_15 d, clR_0_23 d, clR_1_23 d, clR_0_25 d, clL_7 d, clL_12 d, clL_13 d, clL_14 d, clL_20 d, clL_21 d, clL_22 d, clL_24 d, clS_0 d, clS_1 d, clS_2 d, clS_3 d, g1, k4, ep, bI_t, ek]
      | true =>
        rw [ekq, bI_t] at ek
        rw [Bool.true_and]
        cases emk : mko mk (pof w.2.1 w.2.2.2 w.2.2.1 q T) with
        | false =>
          rw [emk, bI_f] at em
          rw [bI_f]
          simp (decide := true) (disch := omega) only [e_X7_isMember_0, e_X7_isMember_1, e_X7_isMember_2, e_X7_isMember_5, e_X7_isMember_8, e_X7_isMember_11, e_X7_isMember_12, e_X7_isMember_15, e_X7_isMember_16, e_X7_isMember_19, e_X7_isMember_22, e_X7_isMember_23, e_X7_isMember_24, e_X7_isMember_27, e_X7_isMember_28, e_X7_isMember_31, e_X7_isMember_32, e_X7_isMember_35, e_X7_isMember_38, e_X7_isMember_41, e_X7_isMember_44, e_X7_isMember_45, e_X7_isMember_48, e_X7_isMember_49, ↓reduceIte, if_true, if_false, reduceCtorEq, Nat.reduceAdd, true_and, and_true, false_and, and_false, true_or, or_true, false_or, or_false, not_true_eq_false, not_false_eq_true, Option.bind_eq_bind, Option.bind_some, psh, eq_self, l_0, l_1, l_2, l_3, l_4, l_5, l_6, l_7, l_8, l_9, l_10, l_11, l_12, l_13, l_14, l_15, l_16, l_17, l_18, l_19, l_20, l_24, l_31, l_32, l_33, l_35, l_36, l_48, l_56, l_57, l_58, l_63, l_65, l_80, l_81, l_90, l_91, l_93, l_94, l_95, l_97, l_100, l_105, l_107, l_110, l_111, l_116, l_120, l_121, l_122, l_123, l_124, l_125, l_126, l_162, l_255, l_300, l_400, l_420, l_432, l_1000, l_1400, l_1936, l_2000, l_2100, l_2400, l_24000, m_n1, m_n2, m_n3, nI_mul, nI_add, nI_sub, nI_ltT, nI_ltF, nI_leT, nI_leF, nI_eqT, nI_eqF, nI_nM, nM_nI, nM_eq, nM_lt, nM_le, nI_ltM, nI_leM, nI_inT, nI_dec, pk_rem, nI_ltI, nI_leI, nI_eq, nI_clamp, Nat.add_assoc, q_bv51, Nat.add_left_cancel_iff, clK_0 d, clK_1 d, clK_3 d, clK_5 d, clK_7 d, clK_8 d, clK_9 d, clK_11 d, clK_12 d, clK_13 d, clK_14 d, clK_15 d, clK_16 d, clK_18 d, clK_20 d, clK_21 d, clK_22 d, clK_23 d, clK_24 d, clK_25 d, clK_26 d, clR_0_0 d, clR_1_0 d, clR_2_0 d, clR_3_0 d, clR_7_0 d, clR_8_0 d, clR_9_0 d, clR_10_0 d, clR_11_0 d, clR_0_8 d, clR_0_11 d, clR_1_11 d, clR_2_11 d, clR_0_15 d, clR_1_15 d, clR_2_15 d, clR_3_15 d, clR_4_15 d, clR_5_15 d, clR_0_23 d, clR_1_23 d, clR_0_25 d, clL_7 d, clL_12 d, clL_13 d, clL_14 d, clL_20 d, clL_21 d, clL_22 d, clL_24 d, clS_0 d, clS_1 d, clS_2 d, clS_3 d, g1, k4, ep, bI_t, ek, q1, sT, e1, em]
        | true =>
          rw [emk, bI_t] at em
          rw [bI_t]
          simp (decide := true) (disch := omega) only [e_X7_isMember_0, e_X7_isMember_1, e_X7_isMember_2, e_X7_isMember_5, e_X7_isMember_8, e_X7_isMember_11, e_X7_isMember_12, e_X7_isMember_15, e_X7_isMember_16, e_X7_isMember_19, e_X7_isMember_22, e_X7_isMember_23, e_X7_isMember_24, e_X7_isMember_27, e_X7_isMember_28, e_X7_isMember_31, e_X7_isMember_32, e_X7_isMember_35, e_X7_isMember_38, e_X7_isMember_41, e_X7_isMember_44, e_X7_isMember_45, e_X7_isMember_48, e_X7_isMember_49, ↓reduceIte, if_true, if_false, reduceCtorEq, Nat.reduceAdd, true_and, and_true, false_and, and_false, true_or, or_true, false_or, or_false, not_true_eq_false, not_false_eq_true, Option.bind_eq_bind, Option.bind_some, psh, eq_self, l_0, l_1, l_2, l_3, l_4, l_5, l_6, l_7, l_8, l_9, l_10, l_11, l_12, l_13, l_14, l_15, l_16, l_17, l_18, l_19, l_20, l_24, l_31, l_32, l_33, l_35, l_36, l_48, l_56, l_57, l_58, l_63, l_65, l_80, l_81, l_90, l_91, l_93, l_94, l_95, l_97, l_100, l_105, l_107, l_110, l_111, l_116, l_120, l_121, l_122, l_123, l_124, l_125, l_126, l_162, l_255, l_300, l_400, l_420, l_432, l_1000, l_1400, l_1936, l_2000, l_2100, l_2400, l_24000, m_n1, m_n2, m_n3, nI_mul, nI_add, nI_sub, nI_ltT, nI_ltF, nI_leT, nI_leF, nI_eqT, nI_eqF, nI_nM, nM_nI, nM_eq, nM_lt, nM_le, nI_ltM, nI_leM, nI_inT, nI_dec, pk_rem, nI_ltI, nI_leI, nI_eq, nI_clamp, Nat.add_assoc, q_bv51, Nat.add_left_cancel_iff, clK_0 d, clK_1 d, clK_3 d, clK_5 d, clK_7 d, clK_8 d, clK_9 d, clK_11 d, clK_12 d, clK_13 d, clK_14 d, clK_15 d, clK_16 d, clK_18 d, clK_20 d, clK_21 d, clK_22 d, clK_23 d, clK_24 d, clK_25 d, clK_26 d, clR_0_0 d, clR_1_0 d, clR_2_0 d, clR_3_0 d, clR_7_0 d, clR_8_0 d, clR_9_0 d, clR_10_0 d, clR_11_0 d, clR_0_8 d, clR_0_11 d, clR_1_11 d, clR_2_11 d, clR_0_15 d, clR_1_15 d, clR_2_15 d, clR_3_15 d, clR_4_15 d, clR_5_15 d, clR_0_23 d, clR_1_23 d, clR_0_25 d, clL_7 d, clL_12 d, clL_13 d, clL_14 d, clL_20 d, clL_21 d, clL_22 d, clL_24 d, clS_0 d, clS_1 d, clS_2 d, clS_3 d, g1, k4, ep, bI_t, ek, q1, sT, e1, em]
theorem s_leadsOn {b so : Nat} {t : List Nat} {al : Bool} (d : cl h X) (W : web Q h X w) (S : ss Q h X goal T mk) (hT : T ≤ w.1) (hso : so = 0 ∨ so = 1) (Tx : txt Q h b t) : cal g mX7_leadsOn [va_rf (some (X + 23)), va_rf (some b), .int (nI so), .int (bI al)] h = some (some (.int (bI ((ptl t).any (lq2 w T so al mk goal)))), h) := by
  rw [n_X7_leadsOn]
  obtain ⟨⟨-, k8⟩, -, T1, -⟩ := Tx
  have key : ∀ (es : List Pt) (r : Option Nat), sgm Q h r es none → (∀ e ∈ es, e ∈ ptl t) → ev g mX7_leadsOn 6 [some (va_rf (some (X + 23))), some (va_rf (some b)), some (.int (nI so)), some (.int (bI al)), some (va_rf r)] [] h = some (some (.int (bI (es.any (lq2 w T so al mk goal)))), h) := by
    intro es
    induction es with
    | nil =>
      intro r hs _
      have : r = none := hs
      subst this
      rw [e_X7_leadsOn_6]
      simp (decide := true) (disch := omega) only [e_X7_leadsOn_0, e_X7_leadsOn_1, e_X7_leadsOn_4, e_X7_leadsOn_8, e_X7_leadsOn_11, e_X7_leadsOn_13, e_X7_leadsOn_16, e_X7_leadsOn_17, e_X7_leadsOn_20, e_X7_leadsOn_23, e_X7_leadsOn_24, e_X7_leadsOn_25, e_X7_leadsOn_28, e_X7_leadsOn_29, e_X7_leadsOn_31, e_X7_leadsOn_34, e_X7_leadsOn_37, e_X7_leadsOn_40, e_X7_leadsOn_43, e_X7_leadsOn_44, e_X7_leadsOn_46, e_X7_leadsOn_47, e_X7_leadsOn_50, e_X7_leadsOn_53, e_X7_leadsOn_54, e_X7_leadsOn_55, e_X7_leadsOn_57, e_X7_leadsOn_60, e_X7_leadsOn_62, e_X7_leadsOn_65, e_X7_leadsOn_66, ↓reduceIte, if_true, if_false, reduceCtorEq, Nat.reduceAdd, true_and, and_true, false_and, and_false, true_or, or_true, false_or, or_false, not_true_eq_false, not_false_eq_true, Option.bind_eq_bind, Option.bind_some, psh, eq_self, l_0, l_1, l_2, l_3, l_4, l_5, l_6, l_7, l_8, l_9, l_10, l_11, l_12, l_13, l_14, l_15, l_16, l_17, l_18, l_19, l_20, l_24, l_31, l_32, l_33, l_35, l_36, l_48, l_56, l_57, l_58, l_63, l_65, l_80, l_81, l_90, l_91, l_93, l_94, l_95, l_97, l_100, l_105, l_107, l_110, l_111, l_116, l_120, l_121, l_122, l_123, l_124, l_125, l_126, l_162, l_255, l_300, l_400, l_420, l_432, l_1000, l_1400, l_1936, l_2000, l_2100, l_2400, l_24000, m_n1, m_n2, m_n3, nI_mul, nI_add, nI_sub, nI_ltT, nI_ltF, nI_leT, nI_leF, nI_eqT, nI_eqF, nI_nM, nM_nI, nM_eq, nM_lt, nM_le, nI_ltM, nI_leM, nI_inT, nI_dec, pk_rem, nI_ltI, nI_leI, nI_eq, nI_clamp, Nat.add_assoc, q_bv51, Nat.add_left_cancel_iff]
      rfl
    | cons e es ih =>
      intro r hs hin
      obtain ⟨v, rfl, p1, hs2⟩ := hs
      have sr := ptl_sort (hin e List.mem_cons_self)
      have i := ih (hR h 5 v) hs2 (fun x hx => hin x (List.mem_cons_of_mem _ hx))
      have p1' := p1
      obtain ⟨⟨-, k4, i0, -⟩, pg⟩ := p1
      have so1 := sr.1
      rw [e_X7_leadsOn_6, List.any_cons]
      by_cases c0 : e.1 = so
      · cases eq : e.2.2.2.2 with
        | none =>
          exfalso
          obtain ⟨-, s, j, b', q', et, e2⟩ := sr.2.2.2.2.1 (by omega)
          rw [e2] at eq
          cases eq
        | some q =>
          rw [eq] at pg
          obtain ⟨qb, q1, q2, q3⟩ := pg
          have hl : lq2 w T so al mk goal e = (if so = 1 then cby w.2.1 w.2.2.2 w.2.2.1 T mk goal 17 q else (decide (q = goal) || (al && (q.1 && mko mk (pof w.2.1 w.2.2.2 w.2.2.1 q T))))) := by
            unfold lq2
            rw [eq]
            simp only
            rw [decide_eq_true c0, Bool.true_and]
          rw [c0] at i0
          rcases hso with rfl | rfl
          · have em := s_isMember (g := g) (al := al) d W S hT p1' c0 eq
            rw [if_neg (by omega)] at hl
            rw [← hl] at em
            cases el : lq2 w T 0 al mk goal e with
            | false =>
              rw [el, bI_f] at em
              rw [Bool.false_or, ← i]
              simp (decide := true) (disch := omega) only [e_X7_leadsOn_0, e_X7_leadsOn_1, e_X7_leadsOn_4, e_X7_leadsOn_8, e_X7_leadsOn_11, e_X7_leadsOn_13, e_X7_leadsOn_16, e_X7_leadsOn_17, e_X7_leadsOn_20, e_X7_leadsOn_23, e_X7_leadsOn_24, e_X7_leadsOn_25, e_X7_leadsOn_28, e_X7_leadsOn_29, e_X7_leadsOn_31, e_X7_leadsOn_34, e_X7_leadsOn_37, e_X7_leadsOn_40, e_X7_leadsOn_43, e_X7_leadsOn_44, e_X7_leadsOn_46, e_X7_leadsOn_47, e_X7_leadsOn_50, e_X7_leadsOn_53, e_X7_leadsOn_54, e_X7_leadsOn_55, e_X7_leadsOn_57, e_X7_leadsOn_60, e_X7_leadsOn_62, e_X7_leadsOn_65, e_X7_leadsOn_66, ↓reduceIte, if_true, if_false, reduceCtorEq, Nat.reduceAdd, true_and, and_true, false_and, and_false, true_or, or_true, false_or, or_false, not_true_eq_false, not_false_eq_true, Option.bind_eq_bind, Option.bind_some, psh, eq_self, l_0, l_1, l_2, l_3, l_4, l_5, l_6, l_7, l_8, l_9, l_10, l_11, l_12, l_13, l_14, l_15, l_16, l_17, l_18, l_19, l_20, l_24, l_31, l_32, l_33, l_35, l_36, l_48, l_56, l_57, l_58, l_63, l_65, l_80, l_81, l_90, l_91, l_93, l_94, l_95, l_97, l_100, l_105, l_107, l_110, l_111, l_116, l_120, l_121, l_122, l_123, l_124, l_125, l_126, l_162, l_255, l_300, l_400, l_420, l_432, l_1000, l_1400, l_1936, l_2000, l_2100, l_2400, l_24000, m_n1, m_n2, m_n3, nI_mul, nI_add, nI_sub, nI_ltT, nI_ltF, nI_leT, nI_leF, nI_eqT, nI_eqF, nI_nM, nM_nI, nM_eq, nM_lt, nM_le, nI_ltM, nI_leM, nI_inT, nI_dec, pk_rem, nI_ltI, nI_leI, nI_eq, nI_clamp, Nat.add_assoc, q_bv51, Nat.add_left_cancel_iff, clK_0 d, clK_1 d, clK_3 d, clK_5 d, clK_7 d, clK_8 d, clK_9 d, clK_11 d, clK_12 d, clK_13 d, clK_14 d, clK_15 d, clK_16 d, clK_18 d, clK_20 d, clK_21 d, clK_22 d, clK_23 d, clK_24 d, clK_25 d, clK_26 d, clR_0_0 d, clR_1_0 d, clR_2_0 d, clR_3_0 d, clR_7_0 d, clR_8_0 d, clR_9_0 d, clR_10_0 d, clR_11_0 d, clR_0_8 d, clR_0_11 d, clR_1_11 d, clR_2_11 d, clR_0_15 d, clR_1_15 d, clR_2_15 d, clR_3_15 d, clR_4_15 d, clR_5_15 d, clR_0_23 d, clR_1_23 d, clR_0_25 d, clL_7 d, clL_12 d, clL_13 d, clL_14 d, clL_20 d, clL_21 d, clL_22 d, clL_24 d, clS_0 d, clS_1 d, clS_2 d, clS_3 d, reduceCtorEq, k4, i0, em]
            | true =>
              rw [el, bI_t] at em
              rw [Bool.true_or, bI_t]
              simp (decide := true) (disch := omega) only [e_X7_leadsOn_0, e_X7_leadsOn_1, e_X7_leadsOn_4, e_X7_leadsOn_8, e_X7_leadsOn_11, e_X7_leadsOn_13, e_X7_leadsOn_16, e_X7_leadsOn_17, e_X7_leadsOn_20, e_X7_leadsOn_23, e_X7_leadsOn_24, e_X7_leadsOn_25, e_X7_leadsOn_28, e_X7_leadsOn_29, e_X7_leadsOn_31, e_X7_leadsOn_34, e_X7_leadsOn_37, e_X7_leadsOn_40, e_X7_leadsOn_43, e_X7_leadsOn_44, e_X7_leadsOn_46, e_X7_leadsOn_47, e_X7_leadsOn_50, e_X7_leadsOn_53, e_X7_leadsOn_54, e_X7_leadsOn_55, e_X7_leadsOn_57, e_X7_leadsOn_60, e_X7_leadsOn_62, e_X7_leadsOn_65, e_X7_leadsOn_66, ↓reduceIte, if_true, if_false, reduceCtorEq, Nat.reduceAdd, true_and, and_true, false_and, and_false, true_or, or_true, false_or, or_false, not_true_eq_false, not_false_eq_true, Option.bind_eq_bind, Option.bind_some, psh, eq_self, l_0, l_1, l_2, l_3, l_4, l_5, l_6, l_7, l_8, l_9, l_10, l_11, l_12, l_13, l_14, l_15, l_16, l_17, l_18, l_19, l_20, l_24, l_31, l_32, l_33, l_35, l_36, l_48, l_56, l_57, l_58, l_63, l_65, l_80, l_81, l_90, l_91, l_93, l_94, l_95, l_97, l_100, l_105, l_107, l_110, l_111, l_116, l_120, l_121, l_122, l_123, l_124, l_125, l_126, l_162, l_255, l_300, l_400, l_420, l_432, l_1000, l_1400, l_1936, l_2000, l_2100, l_2400, l_24000, m_n1, m_n2, m_n3, nI_mul, nI_add, nI_sub, nI_ltT, nI_ltF, nI_leT, nI_leF, nI_eqT, nI_eqF, nI_nM, nM_nI, nM_eq, nM_lt, nM_le, nI_ltM, nI_leM, nI_inT, nI_dec, pk_rem, nI_ltI, nI_leI, nI_eq, nI_clamp, Nat.add_assoc, q_bv51, Nat.add_left_cancel_iff, clK_0 d, clK_1 d, clK_3 d, clK_5 d, clK_7 d, clK_8 d, clK_9 d, clK_11 d, clK_12 d, clK_13 d, clK_14 d, clK_15 d, clK_16 d, clK_18 d, clK_20 d, clK_21 d, clK_22 d, clK_23 d, clK_24 d, clK_25 d, clK_26 d, clR_0_0 d, clR_1_0 d, clR_2_0 d, clR_3_0 d, clR_7_0 d, clR_8_0 d, clR_9_0 d, clR_10_0 d, clR_11_0 d, clR_0_8 d, clR_0_11 d, clR_1_11 d, clR_2_11 d, clR_0_15 d, clR_1_15 d, clR_2_15 d, clR_3_15 d, clR_4_15 d, clR_5_15 d, clR_0_23 d, clR_1_23 d, clR_0_25 d, clL_7 d, clL_12 d, clL_13 d, clL_14 d, clL_20 d, clL_21 d, clL_22 d, clL_24 d, clS_0 d, clS_1 d, clS_2 d, clS_3 d, reduceCtorEq, k4, i0, em]
          · have em := s_passes (g := g) d W S hT q2 q3
            rw [if_pos rfl] at hl
            rw [← hl] at em
            cases el : lq2 w T 1 al mk goal e with
            | false =>
              rw [el, bI_f] at em
              rw [Bool.false_or, ← i]
              simp (decide := true) (disch := omega) only [e_X7_leadsOn_0, e_X7_leadsOn_1, e_X7_leadsOn_4, e_X7_leadsOn_8, e_X7_leadsOn_11, e_X7_leadsOn_13, e_X7_leadsOn_16, e_X7_leadsOn_17, e_X7_leadsOn_20, e_X7_leadsOn_23, e_X7_leadsOn_24, e_X7_leadsOn_25, e_X7_leadsOn_28, e_X7_leadsOn_29, e_X7_leadsOn_31, e_X7_leadsOn_34, e_X7_leadsOn_37, e_X7_leadsOn_40, e_X7_leadsOn_43, e_X7_leadsOn_44, e_X7_leadsOn_46, e_X7_leadsOn_47, e_X7_leadsOn_50, e_X7_leadsOn_53, e_X7_leadsOn_54, e_X7_leadsOn_55, e_X7_leadsOn_57, e_X7_leadsOn_60, e_X7_leadsOn_62, e_X7_leadsOn_65, e_X7_leadsOn_66, ↓reduceIte, if_true, if_false, reduceCtorEq, Nat.reduceAdd, true_and, and_true, false_and, and_false, true_or, or_true, false_or, or_false, not_true_eq_false, not_false_eq_true, Option.bind_eq_bind, Option.bind_some, psh, eq_self, l_0, l_1, l_2, l_3, l_4, l_5, l_6, l_7, l_8, l_9, l_10, l_11, l_12, l_13, l_14, l_15, l_16, l_17, l_18, l_19, l_20, l_24, l_31, l_32, l_33, l_35, l_36, l_48, l_56, l_57, l_58, l_63, l_65, l_80, l_81, l_90, l_91, l_93, l_94, l_95, l_97, l_100, l_105, l_107, l_110, l_111, l_116, l_120, l_121, l_122, l_123, l_124, l_125, l_126, l_162, l_255, l_300, l_400, l_420, l_432, l_1000, l_1400, l_1936, l_2000, l_2100, l_2400, l_24000, m_n1, m_n2, m_n3, nI_mul, nI_add, nI_sub, nI_ltT, nI_ltF, nI_leT, nI_leF, nI_eqT, nI_eqF, nI_nM, nM_nI, nM_eq, nM_lt, nM_le, nI_ltM, nI_leM, nI_inT, nI_dec, pk_rem, nI_ltI, nI_leI, nI_eq, nI_clamp, Nat.add_assoc, q_bv51, Nat.add_left_cancel_iff, clK_0 d, clK_1 d, clK_3 d, clK_5 d, clK_7 d, clK_8 d, clK_9 d, clK_11 d, clK_12 d, clK_13 d, clK_14 d, clK_15 d, clK_16 d, clK_18 d, clK_20 d, clK_21 d, clK_22 d, clK_23 d, clK_24 d, clK_25 d, clK_26 d, clR_0_0 d, clR_1_0 d, clR_2_0 d, clR_3_0 d, clR_7_0 d, clR_8_0 d, clR_9_0 d, clR_10_0 d, clR_11_0 d, clR_0_8 d, clR_0_11 d, clR_1_11 d, clR_2_11 d, clR_0_15 d, clR_1_15 d, clR_2_15 d, clR_3_15 d, clR_4_15 d, clR_5_15 d, clR_0_23 d, clR_1_23 d, clR_0_25 d, clL_7 d, clL_12 d, clL_13 d, clL_14 d, clL_20 d, clL_21 d, clL_22 d, clL_24 d, clS_0 d, clS_1 d, clS_2 d, clS_3 d, reduceCtorEq, k4, i0, q1, em]
            | true =>
              rw [el, bI_t] at em
              rw [Bool.true_or, bI_t]
              simp (decide := true) (disch := omega) only [e_X7_leadsOn_0, e_X7_leadsOn_1, e_X7_leadsOn_4, e_X7_leadsOn_8, e_X7_leadsOn_11, e_X7_leadsOn_13, e_X7_leadsOn_16, e_X7_leadsOn_17, e_X7_leadsOn_20, e_X7_leadsOn_23, e_X7_leadsOn_24, e_X7_leadsOn_25, e_X7_leadsOn_28, e_X7_leadsOn_29, e_X7_leadsOn_31, e_X7_leadsOn_34, e_X7_leadsOn_37, e_X7_leadsOn_40, e_X7_leadsOn_43, e_X7_leadsOn_44, e_X7_leadsOn_46, e_X7_leadsOn_47, e_X7_leadsOn_50, e_X7_leadsOn_53, e_X7_leadsOn_54, e_X7_leadsOn_55, e_X7_leadsOn_57, e_X7_leadsOn_60, e_X7_leadsOn_62, e_X7_leadsOn_65, e_X7_leadsOn_66, ↓reduceIte, if_true, if_false, reduceCtorEq, Nat.reduceAdd, true_and, and_true, false_and, and_false, true_or, or_true, false_or, or_false, not_true_eq_false, not_false_eq_true, Option.bind_eq_bind, Option.bind_some, psh, eq_self, l_0, l_1, l_2, l_3, l_4, l_5, l_6, l_7, l_8, l_9, l_10, l_11, l_12, l_13, l_14, l_15, l_16, l_17, l_18, l_19, l_20, l_24, l_31, l_32, l_33, l_35, l_36, l_48, l_56, l_57, l_58, l_63, l_65, l_80, l_81, l_90, l_91, l_93, l_94, l_95, l_97, l_100, l_105, l_107, l_110, l_111, l_116, l_120, l_121, l_122, l_123, l_124, l_125, l_126, l_162, l_255, l_300, l_400, l_420, l_432, l_1000, l_1400, l_1936, l_2000, l_2100, l_2400, l_24000, m_n1, m_n2, m_n3, nI_mul, nI_add, nI_sub, nI_ltT, nI_ltF, nI_leT, nI_leF, nI_eqT, nI_eqF, nI_nM, nM_nI, nM_eq, nM_lt, nM_le, nI_ltM, nI_leM, nI_inT, nI_dec, pk_rem, nI_ltI, nI_leI, nI_eq, nI_clamp, Nat.add_assoc, q_bv51, Nat.add_left_cancel_iff, clK_0 d, clK_1 d, clK_3 d, clK_5 d, clK_7 d, clK_8 d, clK_9 d, clK_11 d, clK_12 d, clK_13 d, clK_14 d, clK_15 d, clK_16 d, clK_18 d, clK_20 d, clK_21 d, clK_22 d, clK_23 d, clK_24 d, clK_25 d, clK_26 d, clR_0_0 d, clR_1_0 d, clR_2_0 d, clR_3_0 d, clR_7_0 d, clR_8_0 d, clR_9_0 d, clR_10_0 d, clR_11_0 d, clR_0_8 d, clR_0_11 d, clR_1_11 d, clR_2_11 d, clR_0_15 d, clR_1_15 d, clR_2_15 d, clR_3_15 d, clR_4_15 d, clR_5_15 d, clR_0_23 d, clR_1_23 d, clR_0_25 d, clL_7 d, clL_12 d, clL_13 d, clL_14 d, clL_20 d, clL_21 d, clL_22 d, clL_24 d, clS_0 d, clS_1 d, clS_2 d, clS_3 d, reduceCtorEq, k4, i0, q1, em]
      · have hl : lq2 w T so al mk goal e = false := by
          unfold lq2
          split
          · rfl
          · rw [decide_eq_false c0, Bool.false_and]
        rw [hl, Bool.false_or, ← i]
        have hso2 : so ≤ 1 := by omega
        simp (decide := true) (disch := omega) only [e_X7_leadsOn_0, e_X7_leadsOn_1, e_X7_leadsOn_4, e_X7_leadsOn_8, e_X7_leadsOn_11, e_X7_leadsOn_13, e_X7_leadsOn_16, e_X7_leadsOn_17, e_X7_leadsOn_20, e_X7_leadsOn_23, e_X7_leadsOn_24, e_X7_leadsOn_25, e_X7_leadsOn_28, e_X7_leadsOn_29, e_X7_leadsOn_31, e_X7_leadsOn_34, e_X7_leadsOn_37, e_X7_leadsOn_40, e_X7_leadsOn_43, e_X7_leadsOn_44, e_X7_leadsOn_46, e_X7_leadsOn_47, e_X7_leadsOn_50, e_X7_leadsOn_53, e_X7_leadsOn_54, e_X7_leadsOn_55, e_X7_leadsOn_57, e_X7_leadsOn_60, e_X7_leadsOn_62, e_X7_leadsOn_65, e_X7_leadsOn_66, ↓reduceIte, if_true, if_false, reduceCtorEq, Nat.reduceAdd, true_and, and_true, false_and, and_false, true_or, or_true, false_or, or_false, not_true_eq_false, not_false_eq_true, Option.bind_eq_bind, Option.bind_some, psh, eq_self, l_0, l_1, l_2, l_3, l_4, l_5, l_6, l_7, l_8, l_9, l_10, l_11, l_12, l_13, l_14, l_15, l_16, l_17, l_18, l_19, l_20, l_24, l_31, l_32, l_33, l_35, l_36, l_48, l_56, l_57, l_58, l_63, l_65, l_80, l_81, l_90, l_91, l_93, l_94, l_95, l_97, l_100, l_105, l_107, l_110, l_111, l_116, l_120, l_121, l_122, l_123, l_124, l_125, l_126, l_162, l_255, l_300, l_400, l_420, l_432, l_1000, l_1400, l_1936, l_2000, l_2100, l_2400, l_24000, m_n1, m_n2, m_n3, nI_mul, nI_add, nI_sub, nI_ltT, nI_ltF, nI_leT, nI_leF, nI_eqT, nI_eqF, nI_nM, nM_nI, nM_eq, nM_lt, nM_le, nI_ltM, nI_leM, nI_inT, nI_dec, pk_rem, nI_ltI, nI_leI, nI_eq, nI_clamp, Nat.add_assoc, q_bv51, Nat.add_left_cancel_iff, clK_0 d, clK_1 d, clK_3 d, clK_5 d, clK_7 d, clK_8 d, clK_9 d, clK_11 d, clK_12 d, clK_13 d, clK_14 d, clK_15 d, clK_16 d, clK_18 d, clK_20 d, clK_21 d, clK_22 d, clK_23 d, clK_24 d, clK_25 d, clK_26 d, clR_0_0 d, clR_1_0 d, clR_2_0 d, clR_3_0 d, clR_7_0 d, clR_8_0 d, clR_9_0 d, clR_10_0 d, clR_11_0 d, clR_0_8 d, clR_0_11 d, clR_1_11 d, clR_2_11 d, clR_0_15 d, clR_1_15 d, clR_2_15 d, clR_3_15 d, clR_4_15 d, clR_5_15 d, clR_0_23 d, clR_1_23 d, clR_0_25 d, clL_7 d, clL_12 d, clL_13 d, clL_14 d, clL_20 d, clL_21 d, clL_22 d, clL_24 d, clS_0 d, clS_1 d, clS_2 d, clS_3 d, reduceCtorEq, k4, i0]
  rw [← key (ptl t) (hR h 1 b) T1 (fun e he => he)]
  simp (decide := true) (disch := omega) only [e_X7_leadsOn_0, e_X7_leadsOn_1, e_X7_leadsOn_4, ↓reduceIte, if_true, if_false, reduceCtorEq, Nat.reduceAdd, true_and, and_true, false_and, and_false, true_or, or_true, false_or, or_false, not_true_eq_false, not_false_eq_true, Option.bind_eq_bind, Option.bind_some, psh, eq_self, l_0, l_1, l_2, l_3, l_4, l_5, l_6, l_7, l_8, l_9, l_10, l_11, l_12, l_13, l_14, l_15, l_16, l_17, l_18, l_19, l_20, l_24, l_31, l_32, l_33, l_35, l_36, l_48, l_56, l_57, l_58, l_63, l_65, l_80, l_81, l_90, l_91, l_93, l_94, l_95, l_97, l_100, l_105, l_107, l_110, l_111, l_116, l_120, l_121, l_122, l_123, l_124, l_125, l_126, l_162, l_255, l_300, l_400, l_420, l_432, l_1000, l_1400, l_1936, l_2000, l_2100, l_2400, l_24000, m_n1, m_n2, m_n3, nI_mul, nI_add, nI_sub, nI_ltT, nI_ltF, nI_leT, nI_leF, nI_eqT, nI_eqF, nI_nM, nM_nI, nM_eq, nM_lt, nM_le, nI_ltM, nI_leM, nI_inT, nI_dec, pk_rem, nI_ltI, nI_leI, nI_eq, nI_clamp, Nat.add_assoc, q_bv51, Nat.add_left_cancel_iff, k8]
/-- what leads on from a page -/
def lqP (w : Wd) (T so : Nat) (al : Bool) (goal : Nm) (mk : Nat → Bool) (p : Nat) : Bool := match thr w.2.1 p T with
  | none => false
  | some c => (ptl (ct (w.2.1 c))).any (lq2 w T so al mk goal)
theorem lqP_1 {w : Wd} {T : Nat} {al : Bool} {goal : Nm} {mk : Nat → Bool} {p : Nat} : lqP w T 1 al goal mk p = ldP w.2.1 w.2.2.2 w.2.2.1 T 2 true mk goal p := by
  unfold lqP
  cases e : thr w.2.1 p T with
  | none => unfold ldP; rw [e]
  | some c =>
    rw [ldP_ptl e]
    simp only
    congr 1
    funext x
    unfold lq2 lq
    cases x.2.2.2.2 with
    | none => rfl
    | some q =>
      simp only [if_true]
      congr 1
      exact decide_eq_decide.mpr ⟨fun z => by omega, fun z => by omega⟩
end
