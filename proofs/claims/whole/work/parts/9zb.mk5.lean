/-! PageWeb$Maker: make; PageWeb: show -/
section
variable {g X T : Nat} {Q : Nat → Prop} {h : PH} {tp ou fo : List Nat} {hd : Option Nm} {a : Option Nat} {w : Wd}
/-- bytes into the made text -/
theorem k_fill_made {dp ra rb' f e wb cap bd sh : Nat} {t acc wl pl : List Nat} {ws : List (List Nat)} {E : Nat → Nat} {L : Nat} (hdp : dp < 8) (ht : t.length ≤ 300) (hra : Q ra) (hrb : Q rb') (hf : f ≤ e) (he : e ≤ t.length) (I : cIk Q h X tp ou fo hd a w) (S : kS Q h X T wb cap bd wl pl (some (acc, sh))) (rt : rw_ h ra rb' t.length t.length t 0) (W0 : wSt h X dp ws E wl) :
    ∃ h', cal g mX1_fill [va_rf (some (X + 15)), va_rf (some (X + 16)), va_rf (some ra), .int (nI f), .int (nI e), .int (nI dp)] h = some (none, h') ∧ mOK X wb cap wb cap h h' ∧ eK X L h h' ∧ cIk Q h' X tp ou fo hd a w ∧ kS Q h' X T wb cap bd wl pl (pus (some (acc, sh)) (fil ws (slc t f e))) := by
  have d := I.1.1
  have dN := d.1
  have hQ := I.1.2.1
  have S0 := S
  obtain ⟨⟨rK, k1, k2, k3, k4⟩, ⟨t6, t22⟩, rm, h7, h8, hsh⟩ := S
  have hw1 : (wb = X + 19 ∨ X + 57 ≤ wb) ∧ wb ≠ ra ∧ wb ≠ rb' := ⟨k3, fun z => k1 (z ▸ hra), fun z => k1 (z ▸ hrb)⟩
  have F1 : fW h X wb wl.length wl false acc := by
    unfold fW
    rw [if_neg (by decide)]
    exact ⟨_, _, _, _, rK, List.take_length, Nat.le_refl _⟩
  obtain ⟨h', l', o', E1, c1, n1, u1, fx, f8, r1, ⟨y, hy⟩, q3, q4⟩ := k_fill (g := g) (X := X) (tw := false) (ta := X + 16) (tb := X + 17) (f := f) (e := e) hw1 (Or.inl ⟨rfl, rfl, rfl⟩) he hf (W0.fH d hQ hra hrb rt hdp ht) k2 rm F1 h8
  have cm : cfm X (kF' X wb) h h' := c1.mono (fun x _ z => by unfold rP at z; unfold kF'; omega)
  have S1 := S0.kp c1.1 dN (fx 6 (by decide))
  refine ⟨h', E1, mOK.of cm n1 u1, eK.of c1.1 dN (by unfold rP; omega) (by unfold rP; omega), I.kp S0.W cm, S1.1, S1.2, ?_⟩
  by_cases c : acc.length + (fil ws (slc t f e)).length ≤ 2000
  · obtain ⟨z1, z2⟩ := q3 c
    rw [pus_T c]
    subst z2
    subst z1
    exact ⟨r1, by rw [fx 7 (by decide)]; exact h7, f8, hsh⟩
  · have z2 := q4 (by omega)
    rw [pus_F (by omega)]
    subst z2
    exact ⟨⟨_, _, r1⟩, f8⟩
theorem k_make_step {lv dp : Nat} (hlv : dp + lv = 7) (hT : T ≤ w.1) (IH : ∀ lv', lv = lv' + 1 → kMC Q X tp ou fo hd a w T lv' (dp + 1)) : kMC Q X tp ou fo hd a w T lv dp := by
  intro g h wb cap bd p c wl pl ws E acc sh hg hp hc hpl hwl I S W0
  have d := I.1.1
  have dN := d.1
  have hQ := I.1.2.1
  have W := I.1.2.2.1
  have hnn := W.1.2.2.2
  have et := w_there (g := g) (x := nI p) d W hT
  have aT := adr_thI (x := nI p) W hT
  rw [thI_nI hp (by omega), hc] at et aT
  obtain ⟨v, b1, ⟨⟨qv, k0, -⟩, ⟨tb, t1, ⟨qt, k8⟩, ⟨ra, rb', r1, hra, hrb, rt⟩, T1, -⟩, -⟩, ok, -⟩ := aT
  rw [b1] at et
  have ht : (ct (w.2.1 c)).length ≤ 300 := ok.1
  have h6 := S.2.1.1
  obtain ⟨o1, ek1, I1, S1⟩ := S.mark (p := p) (b := true) (pl' := pl ++ [p]) (L := dp + 1) I (fun x => by
    by_cases z : x = p
    · rw [if_pos z]; exact decide_eq_true (by rw [z]; simp)
    · rw [if_neg z]
      exact decide_eq_decide.mpr ⟨fun y => by rcases List.mem_append.mp y with q | q; exact q; exact absurd (List.mem_singleton.mp q) z, fun y => List.mem_append_left _ y⟩)
  rw [bI_t] at o1 ek1 I1 S1
  -- the parts
  have loop : ∀ (es : List Pt) (h : PH) (r : Option Nat) (wb cap bd : Nat) (st : St), cIk Q h X tp ou fo hd a w → kS Q h X T wb cap bd wl (pl ++ [p]) st → wSt h X dp ws E wl → rw_ h ra rb' (ct (w.2.1 c)).length (ct (w.2.1 c)).length (ct (w.2.1 c)) 0 → sgm Q h r es none → (∀ x ∈ es, x ∈ ptl (ct (w.2.1 c))) →
      ∃ h' wb' cap' bd' l5, ev g mX1_make 58 [some (va_rf (some (X + 15))), some (.int (nI p)), some (.int (nI dp)), some (va_rf (some v)), some (va_rf (some ra)), some (va_rf r)] [] h = ev g mX1_make 130 [some (va_rf (some (X + 15))), some (.int (nI p)), some (.int (nI dp)), some (va_rf (some v)), some (va_rf (some ra)), l5] [] h' ∧ mOK X wb cap wb' cap' h h' ∧ eK X (dp + 1) h h' ∧ cIk Q h' X tp ou fo hd a w ∧ kS Q h' X T wb' cap' bd' wl (pl ++ [p]) (es.foldl (mkE w.2.1 w.2.2.2 w.2.2.1 T (fO w.2.1 w.2.2.2 w.2.2.1 T lv) (pl ++ [p]) ws (ct (w.2.1 c))) st) := by
    intro es
    induction es with
    | nil =>
      intro h r wb cap bd st I S W0 rt hs _
      have : r = none := hs
      subst this
      refine ⟨h, wb, cap, bd, some (va_rf none), ?_, mOK.rf, eK.rf, I, S⟩
      rw [e_X1_make_58]
      simp (decide := true) (disch := omega) only [e_X1_make_60, e_X1_make_63, e_X1_make_64, e_X1_make_67, e_X1_make_70, e_X1_make_72, e_X1_make_75, e_X1_make_76, e_X1_make_79, e_X1_make_80, e_X1_make_82, e_X1_make_84, e_X1_make_85, e_X1_make_88, e_X1_make_91, e_X1_make_93, e_X1_make_96, e_X1_make_99, e_X1_make_100, e_X1_make_101, e_X1_make_104, e_X1_make_106, e_X1_make_108, e_X1_make_111, e_X1_make_113, e_X1_make_116, e_X1_make_117, e_X1_make_120, e_X1_make_122, e_X1_make_125, e_X1_make_127, ↓reduceIte, if_true, if_false, reduceCtorEq, Nat.reduceAdd, true_and, and_true, false_and, and_false, true_or, or_true, false_or, or_false, not_true_eq_false, not_false_eq_true, Option.bind_eq_bind, Option.bind_some, psh, eq_self, l_0, l_1, l_2, l_3, l_4, l_5, l_6, l_7, l_8, l_9, l_10, l_11, l_12, l_13, l_14, l_15, l_16, l_17, l_18, l_19, l_20, l_24, l_31, l_32, l_33, l_35, l_36, l_48, l_56, l_57, l_58, l_63, l_65, l_80, l_81, l_90, l_91, l_93, l_94, l_95, l_97, l_100, l_105, l_107, l_110, l_111, l_116, l_120, l_121, l_122, l_123, l_124, l_125, l_126, l_162, l_255, l_300, l_400, l_420, l_432, l_1000, l_1400, l_1936, l_2000, l_2100, l_2400, l_24000, m_n1, m_n2, m_n3, nI_mul, nI_add, nI_sub, nI_ltT, nI_ltF, nI_leT, nI_leF, nI_eqT, nI_eqF, nI_nM, nM_nI, nM_eq, nM_lt, nM_le, nI_ltM, nI_leM, nI_inT, nI_dec, pk_rem, nI_ltI, nI_leI, nI_eq, nI_clamp, Nat.add_assoc, q_bv51, Nat.add_left_cancel_iff]
    | cons x es ih =>
      intro h r wb cap bd st I S W0 rt hs hin
      obtain ⟨u, rfl, p1, hs2⟩ := hs
      have d := I.1.1
      have dN := d.1
      have hQ := I.1.2.1
      have hin' : ∀ y ∈ es, y ∈ ptl (ct (w.2.1 c)) := fun y hy => hin y (List.mem_cons_of_mem _ hy)
      have hx := hin x List.mem_cons_self
      have sr := ptl_sort hx
      have k4 := p1.1.2.1
      have i0 := p1.1.2.2.1
      have qu := p1.1.1
      rw [List.foldl_cons]
      cases st with
      | none =>
        have e0 : mkE w.2.1 w.2.2.2 w.2.2.1 T (fO w.2.1 w.2.2.2 w.2.2.1 T lv) (pl ++ [p]) ws (ct (w.2.1 c)) none x = none := rfl
        rw [e0, mkE_none]
        have h8 := S.2.2.2
        refine ⟨h, wb, cap, bd, some (va_rf (some u)), ?_, mOK.rf, eK.rf, I, S⟩
        rw [e_X1_make_58]
        simp (decide := true) (disch := omega) only [e_X1_make_60, e_X1_make_63, e_X1_make_64, e_X1_make_67, e_X1_make_70, e_X1_make_72, e_X1_make_75, e_X1_make_76, e_X1_make_79, e_X1_make_80, e_X1_make_82, e_X1_make_84, e_X1_make_85, e_X1_make_88, e_X1_make_91, e_X1_make_93, e_X1_make_96, e_X1_make_99, e_X1_make_100, e_X1_make_101, e_X1_make_104, e_X1_make_106, e_X1_make_108, e_X1_make_111, e_X1_make_113, e_X1_make_116, e_X1_make_117, e_X1_make_120, e_X1_make_122, e_X1_make_125, e_X1_make_127, ↓reduceIte, if_true, if_false, reduceCtorEq, Nat.reduceAdd, true_and, and_true, false_and, and_false, true_or, or_true, false_or, or_false, not_true_eq_false, not_false_eq_true, Option.bind_eq_bind, Option.bind_some, psh, eq_self, l_0, l_1, l_2, l_3, l_4, l_5, l_6, l_7, l_8, l_9, l_10, l_11, l_12, l_13, l_14, l_15, l_16, l_17, l_18, l_19, l_20, l_24, l_31, l_32, l_33, l_35, l_36, l_48, l_56, l_57, l_58, l_63, l_65, l_80, l_81, l_90, l_91, l_93, l_94, l_95, l_97, l_100, l_105, l_107, l_110, l_111, l_116, l_120, l_121, l_122, l_123, l_124, l_125, l_126, l_162, l_255, l_300, l_400, l_420, l_432, l_1000, l_1400, l_1936, l_2000, l_2100, l_2400, l_24000, m_n1, m_n2, m_n3, nI_mul, nI_add, nI_sub, nI_ltT, nI_ltF, nI_leT, nI_leF, nI_eqT, nI_eqF, nI_nM, nM_nI, nM_eq, nM_lt, nM_le, nI_ltM, nI_leM, nI_inT, nI_dec, pk_rem, nI_ltI, nI_leI, nI_eq, nI_clamp, Nat.add_assoc, q_bv51, Nat.add_left_cancel_iff, clK_0 d, clK_1 d, clK_3 d, clK_5 d, clK_7 d, clK_8 d, clK_9 d, clK_11 d, clK_12 d, clK_13 d, clK_14 d, clK_15 d, clK_16 d, clK_18 d, clK_20 d, clK_21 d, clK_22 d, clK_23 d, clK_24 d, clK_25 d, clK_26 d, clR_0_0 d, clR_1_0 d, clR_2_0 d, clR_3_0 d, clR_7_0 d, clR_8_0 d, clR_9_0 d, clR_10_0 d, clR_11_0 d, clR_0_8 d, clR_0_11 d, clR_1_11 d, clR_2_11 d, clR_0_15 d, clR_1_15 d, clR_2_15 d, clR_3_15 d, clR_4_15 d, clR_5_15 d, clR_0_23 d, clR_1_23 d, clR_0_25 d, clL_7 d, clL_12 d, clL_13 d, clL_14 d, clL_20 d, clL_21 d, clL_22 d, clL_24 d, clS_0 d, clS_1 d, clS_2 d, clS_3 d, reduceCtorEq, h8]
      | some st =>
        obtain ⟨acc, sh⟩ := st
        have h8 := S.2.2.2.2.1
        -- behind one part
        have next : ∀ (h1 : PH) (wb1 cap1 bd1 : Nat), (ev g mX1_make 58 [some (va_rf (some (X + 15))), some (.int (nI p)), some (.int (nI dp)), some (va_rf (some v)), some (va_rf (some ra)), some (va_rf (some u))] [] h = ev g mX1_make 120 [some (va_rf (some (X + 15))), some (.int (nI p)), some (.int (nI dp)), some (va_rf (some v)), some (va_rf (some ra)), some (va_rf (some u))] [] h1) → mOK X wb cap wb1 cap1 h h1 → eK X (dp + 1) h h1 → cIk Q h1 X tp ou fo hd a w → kS Q h1 X T wb1 cap1 bd1 wl (pl ++ [p]) (mkE w.2.1 w.2.2.2 w.2.2.1 T (fO w.2.1 w.2.2.2 w.2.2.1 T lv) (pl ++ [p]) ws (ct (w.2.1 c)) (some (acc, sh)) x) →
            ∃ h' wb' cap' bd' l5, ev g mX1_make 58 [some (va_rf (some (X + 15))), some (.int (nI p)), some (.int (nI dp)), some (va_rf (some v)), some (va_rf (some ra)), some (va_rf (some u))] [] h = ev g mX1_make 130 [some (va_rf (some (X + 15))), some (.int (nI p)), some (.int (nI dp)), some (va_rf (some v)), some (va_rf (some ra)), l5] [] h' ∧ mOK X wb cap wb' cap' h h' ∧ eK X (dp + 1) h h' ∧ cIk Q h' X tp ou fo hd a w ∧ kS Q h' X T wb' cap' bd' wl (pl ++ [p]) (es.foldl (mkE w.2.1 w.2.2.2 w.2.2.1 T (fO w.2.1 w.2.2.2 w.2.2.1 T lv) (pl ++ [p]) ws (ct (w.2.1 c))) (mkE w.2.1 w.2.2.2 w.2.2.1 T (fO w.2.1 w.2.2.2 w.2.2.1 T lv) (pl ++ [p]) ws (ct (w.2.1 c)) (some (acc, sh)) x)) := by
          intro h1 wb1 cap1 bd1 go o1 ek1 I1 S1
          have s1 := o1.1.1
          have nQ : ∀ y, Q y → y < hN h ∧ ¬ kF' X wb y ∧ Q y := fun y hy => ⟨(hQ y hy).2, fun z => by
            have := hQ y hy
            have : y ≠ wb := fun q => S.1.2.1 (q ▸ hy)
            unfold kF' at z
            omega, hy⟩
          have tu := s1.2.2 u (nQ u qu).1
          have k4' : hK h1 u = 4 := by rw [tu.1]; exact k4
          obtain ⟨h', wb', cap', bd', l5, E2, o2, ek2, I2, S2⟩ := ih h1 (hR h1 5 u) wb1 cap1 bd1 _ I1 S1 (W0.kp ek1 (by omega)) (rt.keep s1 (nQ ra hra).1 (nQ rb' hrb).1 (nQ ra hra).2.1 (nQ rb' hrb).2.1) (by
            rw [(tu.2.2 (nQ u qu).2.1).2.1]
            exact sgm.keep s1 nQ hs2) hin'
          refine ⟨h', wb', cap', bd', l5, ?_, o1.tr o2, ek1.tr ek2, I2, S2⟩
          rw [go, ← E2]
          simp (decide := true) (disch := omega) only [e_X1_make_120, e_X1_make_122, e_X1_make_125, e_X1_make_127, ↓reduceIte, if_true, if_false, reduceCtorEq, Nat.reduceAdd, true_and, and_true, false_and, and_false, true_or, or_true, false_or, or_false, not_true_eq_false, not_false_eq_true, Option.bind_eq_bind, Option.bind_some, psh, eq_self, l_0, l_1, l_2, l_3, l_4, l_5, l_6, l_7, l_8, l_9, l_10, l_11, l_12, l_13, l_14, l_15, l_16, l_17, l_18, l_19, l_20, l_24, l_31, l_32, l_33, l_35, l_36, l_48, l_56, l_57, l_58, l_63, l_65, l_80, l_81, l_90, l_91, l_93, l_94, l_95, l_97, l_100, l_105, l_107, l_110, l_111, l_116, l_120, l_121, l_122, l_123, l_124, l_125, l_126, l_162, l_255, l_300, l_400, l_420, l_432, l_1000, l_1400, l_1936, l_2000, l_2100, l_2400, l_24000, m_n1, m_n2, m_n3, nI_mul, nI_add, nI_sub, nI_ltT, nI_ltF, nI_leT, nI_leF, nI_eqT, nI_eqF, nI_nM, nM_nI, nM_eq, nM_lt, nM_le, nI_ltM, nI_leM, nI_inT, nI_dec, pk_rem, nI_ltI, nI_leI, nI_eq, nI_clamp, Nat.add_assoc, q_bv51, Nat.add_left_cancel_iff, k4']
        by_cases c1 : x.1 = 1
        · obtain ⟨h1, wb1, cap1, bd1, E1, o1, ek1, I1, S1⟩ := k_makeShowing (g := g) hlv IH hg hT ht hra hrb hwl I S rt W0 p1 hx c1
          refine next h1 wb1 cap1 bd1 ?_ o1 ek1 I1 S1
          rw [e_X1_make_58]
          simp (decide := true) (disch := omega) only [e_X1_make_60, e_X1_make_63, e_X1_make_64, e_X1_make_67, e_X1_make_70, e_X1_make_72, e_X1_make_75, e_X1_make_76, e_X1_make_79, e_X1_make_80, e_X1_make_82, e_X1_make_84, e_X1_make_85, e_X1_make_88, e_X1_make_91, e_X1_make_93, e_X1_make_96, e_X1_make_99, e_X1_make_100, e_X1_make_101, e_X1_make_104, e_X1_make_106, e_X1_make_108, e_X1_make_111, e_X1_make_113, e_X1_make_116, e_X1_make_117, ↓reduceIte, if_true, if_false, reduceCtorEq, Nat.reduceAdd, true_and, and_true, false_and, and_false, true_or, or_true, false_or, or_false, not_true_eq_false, not_false_eq_true, Option.bind_eq_bind, Option.bind_some, psh, eq_self, l_0, l_1, l_2, l_3, l_4, l_5, l_6, l_7, l_8, l_9, l_10, l_11, l_12, l_13, l_14, l_15, l_16, l_17, l_18, l_19, l_20, l_24, l_31, l_32, l_33, l_35, l_36, l_48, l_56, l_57, l_58, l_63, l_65, l_80, l_81, l_90, l_91, l_93, l_94, l_95, l_97, l_100, l_105, l_107, l_110, l_111, l_116, l_120, l_121, l_122, l_123, l_124, l_125, l_126, l_162, l_255, l_300, l_400, l_420, l_432, l_1000, l_1400, l_1936, l_2000, l_2100, l_2400, l_24000, m_n1, m_n2, m_n3, nI_mul, nI_add, nI_sub, nI_ltT, nI_ltF, nI_leT, nI_leF, nI_eqT, nI_eqF, nI_nM, nM_nI, nM_eq, nM_lt, nM_le, nI_ltM, nI_leM, nI_inT, nI_dec, pk_rem, nI_ltI, nI_leI, nI_eq, nI_clamp, Nat.add_assoc, q_bv51, Nat.add_left_cancel_iff, clK_0 d, clK_1 d, clK_3 d, clK_5 d, clK_7 d, clK_8 d, clK_9 d, clK_11 d, clK_12 d, clK_13 d, clK_14 d, clK_15 d, clK_16 d, clK_18 d, clK_20 d, clK_21 d, clK_22 d, clK_23 d, clK_24 d, clK_25 d, clK_26 d, clR_0_0 d, clR_1_0 d, clR_2_0 d, clR_3_0 d, clR_7_0 d, clR_8_0 d, clR_9_0 d, clR_10_0 d, clR_11_0 d, clR_0_8 d, clR_0_11 d, clR_1_11 d, clR_2_11 d, clR_0_15 d, clR_1_15 d, clR_2_15 d, clR_3_15 d, clR_4_15 d, clR_5_15 d, clR_0_23 d, clR_1_23 d, clR_0_25 d, clL_7 d, clL_12 d, clL_13 d, clL_14 d, clL_20 d, clL_21 d, clL_22 d, clL_24 d, clS_0 d, clS_1 d, clS_2 d, clS_3 d, reduceCtorEq, h8, k4, i0, E1]
        · have ek := p_isLinkToKind (g := g) p1 sr.1
          cases ez : isP x true with
          | true =>
            rw [ez, bI_t] at ek
            have em : mkE w.2.1 w.2.2.2 w.2.2.1 T (fO w.2.1 w.2.2.2 w.2.2.1 T lv) (pl ++ [p]) ws (ct (w.2.1 c)) (some (acc, sh)) x = some (acc, sh) := by
              unfold isP at ez
              unfold mkE
              simp only
              cases eq : x.2.2.2.2 with
              | none => rw [eq] at ez; simp at ez
              | some q =>
                rw [eq] at ez
                simp only [Bool.and_eq_true, decide_eq_true_eq, beq_iff_eq] at ez
                rw [if_neg (by omega)]
                simp only
                rw [if_pos ez.1, if_pos ez.2]
            refine next h wb cap bd ?_ mOK.rf eK.rf I (by rw [em]; exact S)
            rw [e_X1_make_58]
            simp (decide := true) (disch := omega) only [e_X1_make_60, e_X1_make_63, e_X1_make_64, e_X1_make_67, e_X1_make_70, e_X1_make_72, e_X1_make_75, e_X1_make_76, e_X1_make_79, e_X1_make_80, e_X1_make_82, e_X1_make_84, e_X1_make_85, e_X1_make_88, e_X1_make_91, e_X1_make_93, e_X1_make_96, e_X1_make_99, e_X1_make_100, e_X1_make_101, e_X1_make_104, e_X1_make_106, e_X1_make_108, e_X1_make_111, e_X1_make_113, e_X1_make_116, e_X1_make_117, ↓reduceIte, if_true, if_false, reduceCtorEq, Nat.reduceAdd, true_and, and_true, false_and, and_false, true_or, or_true, false_or, or_false, not_true_eq_false, not_false_eq_true, Option.bind_eq_bind, Option.bind_some, psh, eq_self, l_0, l_1, l_2, l_3, l_4, l_5, l_6, l_7, l_8, l_9, l_10, l_11, l_12, l_13, l_14, l_15, l_16, l_17, l_18, l_19, l_20, l_24, l_31, l_32, l_33, l_35, l_36, l_48, l_56, l_57, l_58, l_63, l_65, l_80, l_81, l_90, l_91, l_93, l_94, l_95, l_97, l_100, l_105, l_107, l_110, l_111, l_116, l_120, l_121, l_122, l_123, l_124, l_125, l_126, l_162, l_255, l_300, l_400, l_420, l_432, l_1000, l_1400, l_1936, l_2000, l_2100, l_2400, l_24000, m_n1, m_n2, m_n3, nI_mul, nI_add, nI_sub, nI_ltT, nI_ltF, nI_leT, nI_leF, nI_eqT, nI_eqF, nI_nM, nM_nI, nM_eq, nM_lt, nM_le, nI_ltM, nI_leM, nI_inT, nI_dec, pk_rem, nI_ltI, nI_leI, nI_eq, nI_clamp, Nat.add_assoc, q_bv51, Nat.add_left_cancel_iff, clK_0 d, clK_1 d, clK_3 d, clK_5 d, clK_7 d, clK_8 d, clK_9 d, clK_11 d, clK_12 d, clK_13 d, clK_14 d, clK_15 d, clK_16 d, clK_18 d, clK_20 d, clK_21 d, clK_22 d, clK_23 d, clK_24 d, clK_25 d, clK_26 d, clR_0_0 d, clR_1_0 d, clR_2_0 d, clR_3_0 d, clR_7_0 d, clR_8_0 d, clR_9_0 d, clR_10_0 d, clR_11_0 d, clR_0_8 d, clR_0_11 d, clR_1_11 d, clR_2_11 d, clR_0_15 d, clR_1_15 d, clR_2_15 d, clR_3_15 d, clR_4_15 d, clR_5_15 d, clR_0_23 d, clR_1_23 d, clR_0_25 d, clL_7 d, clL_12 d, clL_13 d, clL_14 d, clL_20 d, clL_21 d, clL_22 d, clL_24 d, clS_0 d, clS_1 d, clS_2 d, clS_3 d, reduceCtorEq, h8, k4, i0, ek]
          | false =>
            rw [ez, bI_f] at ek
            have hb4 : x.1 ≠ 2 → 4 ≤ x.2.2.1 := fun z => by have := (sr.2.2.2.2.1 z).1; omega
            have ef := p_shownFrom (g := g) p1 sr.1 (by omega) (fun z => by have := hb4 z; omega) (by omega) (by omega)
            have ei := p_insideEnd (g := g) p1 sr.1 (by omega) (fun z => by have := hb4 z; omega)
            have hle : (if x.1 = 2 then x.2.1 else if x.2.2.2.1 < x.2.2.1 - 2 then x.2.2.2.1 + 1 else x.2.1 + 2) ≤ (if x.1 = 2 then x.2.2.1 else x.2.2.1 - 2) := by
              by_cases z : x.1 = 2
              · rw [if_pos z, if_pos z]; omega
              · rw [if_neg z, if_neg z]
                have := (sr.2.2.2.2.1 z).1
                split <;> omega
            have hle2 : (if x.1 = 2 then x.2.2.1 else x.2.2.1 - 2) ≤ (ct (w.2.1 c)).length := by split <;> omega
            have em : mkE w.2.1 w.2.2.2 w.2.2.1 T (fO w.2.1 w.2.2.2 w.2.2.1 T lv) (pl ++ [p]) ws (ct (w.2.1 c)) (some (acc, sh)) x = pus (some (acc, sh)) (fil ws (slc (ct (w.2.1 c)) (if x.1 = 2 then x.2.1 else if x.2.2.2.1 < x.2.2.1 - 2 then x.2.2.2.1 + 1 else x.2.1 + 2) (if x.1 = 2 then x.2.2.1 else x.2.2.1 - 2))) := by
              unfold isP at ez
              unfold mkE
              simp only
              by_cases z : x.1 = 2
              · rw [if_pos z, if_pos z, if_pos z]
              · rw [if_neg z, if_neg z, if_neg z]
                have z0 : x.1 = 0 := by have := sr.1; omega
                cases eq : x.2.2.2.2 with
                | none =>
                  exfalso
                  obtain ⟨-, s, j, b, q, -, e2⟩ := sr.2.2.2.2.1 z
                  rw [e2] at eq
                  cases eq
                | some q =>
                  rw [eq] at ez
                  simp only [Bool.and_eq_false_iff, decide_eq_false_iff_not] at ez
                  simp only
                  rw [if_pos z0, if_neg]
                  intro y
                  rcases ez with q' | q'
                  · exact q' z0
                  · rw [y] at q'; cases q'
            rw [em] at next
            rw [em]
            generalize (if x.1 = 2 then x.2.1 else if x.2.2.2.1 < x.2.2.1 - 2 then x.2.2.2.1 + 1 else x.2.1 + 2) = ff at *
            generalize (if x.1 = 2 then x.2.2.1 else x.2.2.1 - 2) = ee at *
            obtain ⟨h1, E1, o1, ek1, I1, S1⟩ := k_fill_made (g := g) (L := dp + 1) (show dp < 8 by omega) ht hra hrb hle hle2 I S rt W0
            refine next h1 wb cap bd ?_ o1 ek1 I1 S1
            rw [e_X1_make_58]
            simp (decide := true) (disch := omega) only [e_X1_make_60, e_X1_make_63, e_X1_make_64, e_X1_make_67, e_X1_make_70, e_X1_make_72, e_X1_make_75, e_X1_make_76, e_X1_make_79, e_X1_make_80, e_X1_make_82, e_X1_make_84, e_X1_make_85, e_X1_make_88, e_X1_make_91, e_X1_make_93, e_X1_make_96, e_X1_make_99, e_X1_make_100, e_X1_make_101, e_X1_make_104, e_X1_make_106, e_X1_make_108, e_X1_make_111, e_X1_make_113, e_X1_make_116, e_X1_make_117, ↓reduceIte, if_true, if_false, reduceCtorEq, Nat.reduceAdd, true_and, and_true, false_and, and_false, true_or, or_true, false_or, or_false, not_true_eq_false, not_false_eq_true, Option.bind_eq_bind, Option.bind_some, psh, eq_self, l_0, l_1, l_2, l_3, l_4, l_5, l_6, l_7, l_8, l_9, l_10, l_11, l_12, l_13, l_14, l_15, l_16, l_17, l_18, l_19, l_20, l_24, l_31, l_32, l_33, l_35, l_36, l_48, l_56, l_57, l_58, l_63, l_65, l_80, l_81, l_90, l_91, l_93, l_94, l_95, l_97, l_100, l_105, l_107, l_110, l_111, l_116, l_120, l_121, l_122, l_123, l_124, l_125, l_126, l_162, l_255, l_300, l_400, l_420, l_432, l_1000, l_1400, l_1936, l_2000, l_2100, l_2400, l_24000, m_n1, m_n2, m_n3, nI_mul, nI_add, nI_sub, nI_ltT, nI_ltF, nI_leT, nI_leF, nI_eqT, nI_eqF, nI_nM, nM_nI, nM_eq, nM_lt, nM_le, nI_ltM, nI_leM, nI_inT, nI_dec, pk_rem, nI_ltI, nI_leI, nI_eq, nI_clamp, Nat.add_assoc, q_bv51, Nat.add_left_cancel_iff, clK_0 d, clK_1 d, clK_3 d, clK_5 d, clK_7 d, clK_8 d, clK_9 d, clK_11 d, clK_12 d, clK_13 d, clK_14 d, clK_15 d, clK_16 d, clK_18 d, clK_20 d, clK_21 d, clK_22 d, clK_23 d, clK_24 d, clK_25 d, clK_26 d, clR_0_0 d, clR_1_0 d, clR_2_0 d, clR_3_0 d, clR_7_0 d, clR_8_0 d, clR_9_0 d, clR_10_0 d, clR_11_0 d, clR_0_8 d, clR_0_11 d, clR_1_11 d, clR_2_11 d, clR_0_15 d, clR_1_15 d, clR_2_15 d, clR_3_15 d, clR_4_15 d, clR_5_15 d, clR_0_23 d, clR_1_23 d, clR_0_25 d, clL_7 d, clL_12 d, clL_13 d, clL_14 d, clL_20 d, clL_21 d, clL_22 d, clL_24 d, clS_0 d, clS_1 d, clS_2 d, clS_3 d, reduceCtorEq, h8, k4, i0, ek, ef, ei, E1]
  have s1 : sm (fun x => x = X + 22) h (pA h (X + 22) (upd (hA h (X + 22)) p (nI 1))) := sm.A1 _ _
  have nQ : ∀ y, Q y → y < hN h ∧ ¬ y = X + 22 ∧ Q y := fun y hy => ⟨(hQ y hy).2, by have := hQ y hy; omega, hy⟩
  obtain ⟨h2, wb2, cap2, bd2, l5, E2, o2, ek2, I2, S2⟩ := loop (ptl (ct (w.2.1 c))) _ (hR h 1 tb) wb cap bd (some (acc, sh)) I1 S1 (W0.kp ek1 (by omega)) (rt.keep s1 (nQ ra hra).1 (nQ rb' hrb).1 (nQ ra hra).2.1 (nQ rb' hrb).2.1) (sgm.keep s1 nQ T1) (fun x hx => hx)
  rw [← mkT_eq] at S2
  obtain ⟨o3, ek3, I3, S3⟩ := S2.mark (p := p) (b := false) (pl' := pl) (L := dp + 1) I2 (fun x => by
    by_cases z : x = p
    · rw [if_pos z]; exact decide_eq_false (by rw [z]; exact hpl)
    · rw [if_neg z]
      exact decide_eq_decide.mpr ⟨fun y => List.mem_append_left _ y, fun y => by rcases List.mem_append.mp y with q | q; exact q; exact absurd (List.mem_singleton.mp q) z⟩)
  rw [bI_f] at o3 ek3 I3 S3
  refine ⟨_, wb2, cap2, bd2, ?_, (o1.tr o2).tr o3, (ek1.tr ek2).tr ek3, I3, S3⟩
  have d1 := I1.1.1
  have d2 := I2.1.1
  have k0' : hK (pA h (X + 22) (upd (hA h (X + 22)) p (nI 1))) v = 0 := k0
  have k8' : hK (pA h (X + 22) (upd (hA h (X + 22)) p (nI 1))) tb = 8 := k8
  have t1' : hR (pA h (X + 22) (upd (hA h (X + 22)) p (nI 1))) 3 v = some tb := t1
  have r1' : hR (pA h (X + 22) (upd (hA h (X + 22)) p (nI 1))) 0 tb = some ra := r1
  have hd : ev g mX1_make 0 [some (va_rf (some (X + 15))), some (.int (nI p)), some (.int (nI dp)), none, none, none] [] h = ev g mX1_make 58 [some (va_rf (some (X + 15))), some (.int (nI p)), some (.int (nI dp)), some (va_rf (some v)), some (va_rf (some ra)), some (va_rf (hR h 1 tb))] [] (pA h (X + 22) (upd (hA h (X + 22)) p (nI 1))) := by
    simp (decide := true) (disch := omega) only [e_X1_make_0, e_X1_make_1, e_X1_make_4, e_X1_make_5, e_X1_make_6, e_X1_make_9, e_X1_make_12, e_X1_make_13, e_X1_make_14, e_X1_make_17, e_X1_make_18, e_X1_make_19, e_X1_make_22, e_X1_make_23, e_X1_make_26, e_X1_make_27, e_X1_make_29, e_X1_make_32, e_X1_make_33, e_X1_make_34, e_X1_make_37, e_X1_make_38, e_X1_make_39, e_X1_make_40, e_X1_make_41, e_X1_make_44, e_X1_make_47, e_X1_make_49, e_X1_make_50, e_X1_make_53, e_X1_make_56, ↓reduceIte, if_true, if_false, reduceCtorEq, Nat.reduceAdd, true_and, and_true, false_and, and_false, true_or, or_true, false_or, or_false, not_true_eq_false, not_false_eq_true, Option.bind_eq_bind, Option.bind_some, psh, eq_self, l_0, l_1, l_2, l_3, l_4, l_5, l_6, l_7, l_8, l_9, l_10, l_11, l_12, l_13, l_14, l_15, l_16, l_17, l_18, l_19, l_20, l_24, l_31, l_32, l_33, l_35, l_36, l_48, l_56, l_57, l_58, l_63, l_65, l_80, l_81, l_90, l_91, l_93, l_94, l_95, l_97, l_100, l_105, l_107, l_110, l_111, l_116, l_120, l_121, l_122, l_123, l_124, l_125, l_126, l_162, l_255, l_300, l_400, l_420, l_432, l_1000, l_1400, l_1936, l_2000, l_2100, l_2400, l_24000, m_n1, m_n2, m_n3, nI_mul, nI_add, nI_sub, nI_ltT, nI_ltF, nI_leT, nI_leF, nI_eqT, nI_eqF, nI_nM, nM_nI, nM_eq, nM_lt, nM_le, nI_ltM, nI_leM, nI_inT, nI_dec, pk_rem, nI_ltI, nI_leI, nI_eq, nI_clamp, Nat.add_assoc, q_bv51, Nat.add_left_cancel_iff, clK_0 d, clK_1 d, clK_3 d, clK_5 d, clK_7 d, clK_8 d, clK_9 d, clK_11 d, clK_12 d, clK_13 d, clK_14 d, clK_15 d, clK_16 d, clK_18 d, clK_20 d, clK_21 d, clK_22 d, clK_23 d, clK_24 d, clK_25 d, clK_26 d, clR_0_0 d, clR_1_0 d, clR_2_0 d, clR_3_0 d, clR_7_0 d, clR_8_0 d, clR_9_0 d, clR_10_0 d, clR_11_0 d, clR_0_8 d, clR_0_11 d, clR_1_11 d, clR_2_11 d, clR_0_15 d, clR_1_15 d, clR_2_15 d, clR_3_15 d, clR_4_15 d, clR_5_15 d, clR_0_23 d, clR_1_23 d, clR_0_25 d, clL_7 d, clL_12 d, clL_13 d, clL_14 d, clL_20 d, clL_21 d, clL_22 d, clL_24 d, clS_0 d, clS_1 d, clS_2 d, clS_3 d, h6, et, reduceCtorEq, clK_0 d1, clK_1 d1, clK_3 d1, clK_5 d1, clK_7 d1, clK_8 d1, clK_9 d1, clK_11 d1, clK_12 d1, clK_13 d1, clK_14 d1, clK_15 d1, clK_16 d1, clK_18 d1, clK_20 d1, clK_21 d1, clK_22 d1, clK_23 d1, clK_24 d1, clK_25 d1, clK_26 d1, clR_0_0 d1, clR_1_0 d1, clR_2_0 d1, clR_3_0 d1, clR_7_0 d1, clR_8_0 d1, clR_9_0 d1, clR_10_0 d1, clR_11_0 d1, clR_0_8 d1, clR_0_11 d1, clR_1_11 d1, clR_2_11 d1, clR_0_15 d1, clR_1_15 d1, clR_2_15 d1, clR_3_15 d1, clR_4_15 d1, clR_5_15 d1, clR_0_23 d1, clR_1_23 d1, clR_0_25 d1, clL_7 d1, clL_12 d1, clL_13 d1, clL_14 d1, clL_20 d1, clL_21 d1, clL_22 d1, clL_24 d1, clS_0 d1, clS_1 d1, clS_2 d1, clS_3 d1, k0', t1', k8', r1', u_hR_pA]
  rw [n_X1_make, hd, E2]
  simp (decide := true) (disch := omega) only [e_X1_make_130, e_X1_make_131, e_X1_make_134, e_X1_make_135, e_X1_make_136, e_X1_make_137, ↓reduceIte, if_true, if_false, reduceCtorEq, Nat.reduceAdd, true_and, and_true, false_and, and_false, true_or, or_true, false_or, or_false, not_true_eq_false, not_false_eq_true, Option.bind_eq_bind, Option.bind_some, psh, eq_self, l_0, l_1, l_2, l_3, l_4, l_5, l_6, l_7, l_8, l_9, l_10, l_11, l_12, l_13, l_14, l_15, l_16, l_17, l_18, l_19, l_20, l_24, l_31, l_32, l_33, l_35, l_36, l_48, l_56, l_57, l_58, l_63, l_65, l_80, l_81, l_90, l_91, l_93, l_94, l_95, l_97, l_100, l_105, l_107, l_110, l_111, l_116, l_120, l_121, l_122, l_123, l_124, l_125, l_126, l_162, l_255, l_300, l_400, l_420, l_432, l_1000, l_1400, l_1936, l_2000, l_2100, l_2400, l_24000, m_n1, m_n2, m_n3, nI_mul, nI_add, nI_sub, nI_ltT, nI_ltF, nI_leT, nI_leF, nI_eqT, nI_eqF, nI_nM, nM_nI, nM_eq, nM_lt, nM_le, nI_ltM, nI_leM, nI_inT, nI_dec, pk_rem, nI_ltI, nI_leI, nI_eq, nI_clamp, Nat.add_assoc, q_bv51, Nat.add_left_cancel_iff, clK_0 d2, clK_1 d2, clK_3 d2, clK_5 d2, clK_7 d2, clK_8 d2, clK_9 d2, clK_11 d2, clK_12 d2, clK_13 d2, clK_14 d2, clK_15 d2, clK_16 d2, clK_18 d2, clK_20 d2, clK_21 d2, clK_22 d2, clK_23 d2, clK_24 d2, clK_25 d2, clK_26 d2, clR_0_0 d2, clR_1_0 d2, clR_2_0 d2, clR_3_0 d2, clR_7_0 d2, clR_8_0 d2, clR_9_0 d2, clR_10_0 d2, clR_11_0 d2, clR_0_8 d2, clR_0_11 d2, clR_1_11 d2, clR_2_11 d2, clR_0_15 d2, clR_1_15 d2, clR_2_15 d2, clR_3_15 d2, clR_4_15 d2, clR_5_15 d2, clR_0_23 d2, clR_1_23 d2, clR_0_25 d2, clL_7 d2, clL_12 d2, clL_13 d2, clL_14 d2, clL_20 d2, clL_21 d2, clL_22 d2, clL_24 d2, clS_0 d2, clS_1 d2, clS_2 d2, clS_3 d2]
theorem k_make (hT : T ≤ w.1) : ∀ lv dp, dp + lv = 7 → kMC Q X tp ou fo hd a w T lv dp := by
  intro lv
  induction lv with
  | zero => intro dp h; exact k_make_step h hT (fun lv' z => by cases z)
  | succ lv ih => intro dp h; exact k_make_step h hT (fun lv' z => by cases z; exact ih (dp + 1) (by omega))
end
