/-! the law: class and model side by side -/
section
variable {g M : Nat} {h h' : PH} {tp ou fo : List Nat} {hd : Option Nm} {a : Option Nat} {w : Wd}
theorem mI_tp {tp' : List Nat} (I : mI h M tp ou fo hd a w) {F A : List Nat} (s : mf F A M h h') (hF : ∀ k ∈ F, k ∈ [15, 19, 20]) (hA' : ∀ k ∈ A, k ∈ [12, 14]) (ho : mTp h' M tp') : mI h' M tp' ou fo hd a w := by
  obtain ⟨⟨d, ht, hou, hfo⟩, hhd, has, ⟨hc, hn⟩, ⟨hm, hnn⟩, hta⟩ := I
  have s' := s.mono hF hA'
  exact ⟨⟨s'.d d, ho, hou.keep s' (by decide) (by decide), hfo.keep s' (by decide) (by decide)⟩, hhd.keep s' (by decide) (by decide) (by decide), has.keep s' (by decide), ⟨hc.kp s' (by decide) (by decide), hn⟩, ⟨hm.keep s' (by decide) (by decide) (by decide), hnn⟩, hta⟩
theorem M_feed {x1 x2 x3 x4 x5 : Int32} (I : mI h M tp ou fo hd a w) : ∃ h', cal g mX11_feed [va_rf (some M), .int x1, .int x2, .int x3, .int x4, .int x5] h = some (some (.int (if tp.length ≤ 380 then nI (tp.length + 20) else nM 1)), h') ∧ mf [15] [12] M h h' ∧ mI h' M (if tp.length ≤ 380 then tp ++ fd x1 x2 x3 x4 x5 else tp) ou fo hd a w := by
  obtain ⟨h', e, f, r⟩ := m_feed (g := g) (a := x1) (b := x2) (c := x3) (d' := x4) (e := x5) I.1.1 I.1.2.1
  exact ⟨h', e, f, mI_tp I f (by decide) (by decide) r⟩
theorem M_end {x : Int32} (I : mI h M tp ou fo hd a w) : ∃ h', cal g mX11_end [va_rf (some M), .int x] h = some (some (.int (if x < 0 ∨ nI tp.length < x then nI 0 else nI 1)), h') ∧ mf [15] [] M h h' ∧ mI h' M (if x < 0 ∨ nI tp.length < x then tp else tp.take x.toNatClampNeg) ou fo hd a w := by
  obtain ⟨h', e, f, r⟩ := m_end (g := g) (x := x) I.1.1 I.1.2.1
  exact ⟨h', e, f, mI_tp I f (by decide) (by decide) r⟩
theorem M_take (I : mI h M tp ou fo hd a w) : ∃ h', cal g mX11_take [va_rf (some M)] h = some (some (.int (nI (min ou.length 400))), h') ∧ mf [15] [12] M h h' ∧ mI h' M (ou.take 400) ou fo hd a w := by
  obtain ⟨h', e, f, r⟩ := m_take (g := g) I.1.1 I.1.2.2.1
  exact ⟨h', e, f, mI_tp I f (by decide) (by decide) r⟩
theorem asI_le {n : Nat} {x : Int32} {b : Option Nat} (e : asI n x = some b) : ∀ t, b = some t → t ≤ n := by
  intro t ht
  unfold asI at e
  split at e
  · cases e; cases ht
  · split at e
    · cases e
    · rename_i z
      cases e
      cases ht
      omega
theorem M_as {x : Int32} (I : mI h M tp ou fo hd a w) : ∃ h', cal g mX11_as [va_rf (some M), .int x] h = some (some (.int (if (asI w.1 x).isSome then nI 1 else nI 0)), h') ∧ mf [13] [] M h h' ∧ mI h' M tp ou fo hd (match asI w.1 x with | some b => b | none => a) w := by
  obtain ⟨⟨d, ht, hou, hfo⟩, hhd, has, ⟨hc, hn⟩, ⟨hm, hnn⟩, hta⟩ := I
  obtain ⟨h', e, f, r⟩ := m_as (g := g) (x := x) d hc has
  refine ⟨h', e, f, ⟨f.d d, ht.keep f (by decide) (by decide), hou.keep f (by decide) (by decide), hfo.keep f (by decide) (by decide)⟩, hhd.keep f (by decide) (by decide) (by decide), r, ⟨hc.kp f (by decide) (by decide), hn⟩, ⟨hm.keep f (by decide) (by decide) (by decide), hnn⟩, ?_⟩
  cases ea : asI w.1 x with
  | none => exact hta
  | some b => exact asI_le ea
theorem M_name (I : mI h M tp ou fo hd a w) : ∃ h', cal g mX11_name [va_rf (some M)] h = some (some (.int (sNameR tp a w)), h') ∧ mf [15, 19, 20, 22, 23] [14, 15] M h h' ∧ mI h' M [] ou fo (sNameH tp hd) a w := by
  have I0 := I
  obtain ⟨⟨d, ht, hou, hfo⟩, hhd, has, ⟨hc, hn⟩, ⟨hm, hnn⟩, hta⟩ := I
  unfold sNameR sNameH
  cases ef : fold tp with
  | none =>
    obtain ⟨h1, h2, h3, h4⟩ := ht
    have f1 : mf [15] [] M h (pI h 15 M (nI 0)) := mf.pI _ 15 _ (by decide)
    have d1 := f1.d d
    have hL' := mdL_tape d1
    obtain ⟨h2', e2, f2, r2⟩ := m_folds (g := g) (x := M + 12) (o := 0) (bs := tp) (v1 := tp.length) d1 (by omega) (mdK_tape d1) (by omega) (by omega) (fun k hk => by rw [Nat.zero_add]; exact h2 k hk) h4 (by omega) (by omega)
    rw [ef] at e2
    have e2' : cal g mX11_folds [va_rf (some M), va_rf (some (M + 12)), .int (nI 0), .int (nI tp.length)] (pI h 15 M (nI 0)) = some (some (.int (nI 0)), h2') := e2
    have f12 : mf [15, 19, 20] [14] M h h2' := (f1.mono (by decide) (by decide)).tr (f2.mono (by decide) (by decide))
    refine ⟨h2', ?_, f12.mono (by decide) (by decide), mI_tp I0 f12 (by decide) (by decide) ⟨?_, fun k hk => absurd hk (Nat.not_lt_zero _), Nat.zero_le _, fun x hx => absurd hx List.not_mem_nil⟩⟩
    · rw [n_X11_name]
      simp (decide := true) (disch := omega) only [e_X11_name_0, e_X11_name_1, e_X11_name_4, e_X11_name_5, e_X11_name_6, e_X11_name_7, e_X11_name_10, e_X11_name_11, e_X11_name_12, e_X11_name_15, e_X11_name_16, e_X11_name_17, e_X11_name_20, e_X11_name_23, e_X11_name_24, e_X11_name_25, e_X11_name_26, e_X11_name_28, e_X11_name_29, e_X11_name_32, e_X11_name_35, e_X11_name_36, e_X11_name_39, e_X11_name_40, e_X11_name_41, e_X11_name_44, e_X11_name_45, e_X11_name_46, e_X11_name_47, e_X11_name_50, e_X11_name_53, e_X11_name_54, e_X11_name_55, e_X11_name_58, e_X11_name_61, e_X11_name_62, e_X11_name_63, e_X11_name_66, e_X11_name_69, e_X11_name_70, e_X11_name_71, e_X11_name_74, e_X11_name_77, e_X11_name_78, e_X11_name_79, e_X11_name_80, e_X11_name_83, e_X11_name_85, e_X11_name_88, e_X11_name_89, ↓reduceIte, if_true, if_false, reduceCtorEq, Nat.reduceAdd, true_and, and_true, false_and, and_false, true_or, or_true, false_or, or_false, not_true_eq_false, not_false_eq_true, Option.bind_eq_bind, Option.bind_some, psh, eq_self, l_0, l_1, l_2, l_3, l_4, l_5, l_6, l_7, l_8, l_9, l_10, l_11, l_12, l_13, l_14, l_15, l_16, l_17, l_18, l_19, l_20, l_24, l_31, l_32, l_33, l_35, l_36, l_48, l_56, l_57, l_58, l_63, l_65, l_80, l_81, l_90, l_91, l_93, l_94, l_95, l_97, l_100, l_105, l_107, l_110, l_111, l_116, l_120, l_121, l_122, l_123, l_124, l_125, l_126, l_162, l_255, l_300, l_400, l_420, l_432, l_1000, l_1400, l_1936, l_2000, l_2100, l_2400, l_24000, m_n1, m_n2, m_n3, nI_mul, nI_add, nI_sub, nI_ltT, nI_ltF, nI_leT, nI_leF, nI_eqT, nI_eqF, nI_nM, nM_nI, nM_eq, nM_lt, nM_le, nI_ltM, nI_leM, nI_inT, nI_dec, pk_rem, nI_ltI, nI_leI, nI_eq, nI_clamp, Nat.add_assoc, q_bv51, Nat.add_left_cancel_iff, mdR_text d, mdK_text d, mdL_text d, mdR_blamed d, mdK_blamed d, mdL_blamed d, mdR_length d, mdK_length d, mdL_length d, mdR_isGone d, mdK_isGone d, mdL_isGone d, mdR_pageOf d, mdK_pageOf d, mdL_pageOf d, mdR_handOf d, mdK_handOf d, mdL_handOf d, mdR_begin d, mdK_begin d, mdL_begin d, mdR_went d, mdK_went d, mdL_went d, mdR_came d, mdK_came d, mdL_came d, mdR_nameAt d, mdK_nameAt d, mdL_nameAt d, mdR_nameLong d, mdK_nameLong d, mdL_nameLong d, mdR_tape d, mdK_tape d, mdL_tape d, mdR_out d, mdK_out d, mdL_out d, mdR_fold d, mdK_fold d, mdL_fold d, mdR_hand d, mdK_hand d, mdL_hand d, mdR_passed d, mdK_passed d, mdL_passed d, mdR_mark d, mdK_mark d, mdL_mark d, mdR_next d, mdK_next d, mdL_next d, mdR_goal d, mdK_goal d, mdL_goal d, mdR_foundPage d, mdK_foundPage d, mdL_foundPage d, mdR_pile d, mdK_pile d, mdL_pile d, mdR_place d, mdK_place d, mdL_place d, mdR_many d, mdK_many d, mdL_many d, mdR_word d, mdK_word d, mdL_word d, mdR_wordLong d, mdK_wordLong d, mdL_wordLong d, mdR_made d, mdK_made d, mdL_made d, mdR_list d, mdK_list d, mdL_list d, mdR_listLong d, mdK_listLong d, mdL_listLong d, mdR_steps d, mdK_steps d, mdL_steps d, d.1, h1, u_hN_pI, u_hU_pI, u_hK_pI, u_hL_pI, u_hR_pI, u_hJ_pI, u_hA_pI, u_hB_pI, u_hS_pI, u_hN_pR, u_hU_pR, u_hK_pR, u_hL_pR, u_hI_pR, u_hJ_pR, u_hA_pR, u_hB_pR, u_hS_pR, u_hN_pJ, u_hU_pJ, u_hK_pJ, u_hL_pJ, u_hI_pJ, u_hR_pJ, u_hA_pJ, u_hB_pJ, u_hS_pJ, u_hN_pA, u_hU_pA, u_hK_pA, u_hL_pA, u_hI_pA, u_hR_pA, u_hJ_pA, u_hB_pA, u_hS_pA, u_hN_pB, u_hU_pB, u_hK_pB, u_hL_pB, u_hI_pB, u_hR_pB, u_hJ_pB, u_hA_pB, u_hS_pB, u_hL_nO, u_hA_nO, u_hB_nO, u_hS_nO, u_hI_nA, u_hR_nA, u_hJ_nA, u_hS_nA, u_II, u_RR, u_JJ, u_AA, u_BB, u_NO, u_UO, u_KO, u_IO, u_RO, u_JO, u_NN, u_UN, u_KN, u_LN, u_AN, u_BN, e2']
    · rw [f2.i 15 (by decide)]
      simp only [u_hN_pI, u_hU_pI, u_hK_pI, u_hL_pI, u_hR_pI, u_hJ_pI, u_hA_pI, u_hB_pI, u_hS_pI, u_hN_pR, u_hU_pR, u_hK_pR, u_hL_pR, u_hI_pR, u_hJ_pR, u_hA_pR, u_hB_pR, u_hS_pR, u_hN_pJ, u_hU_pJ, u_hK_pJ, u_hL_pJ, u_hI_pJ, u_hR_pJ, u_hA_pJ, u_hB_pJ, u_hS_pJ, u_hN_pA, u_hU_pA, u_hK_pA, u_hL_pA, u_hI_pA, u_hR_pA, u_hJ_pA, u_hB_pA, u_hS_pA, u_hN_pB, u_hU_pB, u_hK_pB, u_hL_pB, u_hI_pB, u_hR_pB, u_hJ_pB, u_hA_pB, u_hS_pB, u_hL_nO, u_hA_nO, u_hB_nO, u_hS_nO, u_hI_nA, u_hR_nA, u_hJ_nA, u_hS_nA, u_II, u_RR, u_JJ, u_AA, u_BB, u_NO, u_UO, u_KO, u_IO, u_RO, u_JO, u_NN, u_UN, u_KN, u_LN, u_AN, u_BN, if_true]
      rfl
  | some q =>
    obtain ⟨h', e, f, r1, r2⟩ := m_name (g := g) d hc hm has hta ht
    rw [ef] at e
    refine ⟨h', e, f, ⟨f.d d, r1, hou.keep f (by decide) (by decide), hfo.keep f (by decide) (by decide)⟩, r2 q ef, has.keep f (by decide), ⟨hc.kp f (by decide) (by decide), hn⟩, ⟨hm.keep f (by decide) (by decide) (by decide), hnn⟩, hta⟩
/-- what the class does leaves the model alone -/
def mEq (M : Nat) (h h' : PH) : Prop := (∀ k, k < 30 → hK h' (M + k) = hK h (M + k) ∧ hL h' (M + k) = hL h (M + k) ∧ hA h' (M + k) = hA h (M + k)) ∧ (∀ k, hI h' k M = hI h k M) ∧ ∀ k, hR h' k M = hR h k M
theorem mI_eq (I : mI h M tp ou fo hd a w) (e : mEq M h h') : mI h' M tp ou fo hd a w := by
  obtain ⟨⟨d, ht, hou, hfo⟩, hhd, has, ⟨hc, hn⟩, ⟨hm, hnn⟩, hta⟩ := I
  obtain ⟨e1, e2, e3⟩ := e
  have eA : ∀ k, k < 30 → hA h' (M + k) = hA h (M + k) := fun k hk => (e1 k hk).2.2
  refine ⟨⟨⟨(e1 0 (by decide)).1.trans d.1, fun x hx => ?_⟩, ?_, ?_, ?_⟩, ?_, ?_, ⟨?_, hn⟩, ⟨?_, hnn⟩, hta⟩
  · have hlt : ∀ x ∈ mtab, x.2.1 < 30 := by decide
    obtain ⟨d1, d2, d3⟩ := d.2 x hx
    have := e1 x.2.1 (hlt x hx)
    exact ⟨(e3 _).trans d1, this.1.trans d2, this.2.1.trans d3⟩
  · unfold mTp sg at *; rw [e2, eA 12 (by decide)]; exact ht
  · unfold mOu sg at *; rw [e2, eA 13 (by decide)]; exact hou
  · unfold mFo sg at *; rw [e2, eA 20 (by decide)]; exact hfo
  · cases hd with
    | none => exact (e2 _).trans hhd
    | some q => unfold mHd sg at *; simp only at hhd ⊢; rw [e2, e2, eA 15 (by decide)]; exact hhd
  · unfold mAs at *; rw [e2]; exact has
  · obtain ⟨c1, c2, c3⟩ := hc
    refine ⟨(e2 _).trans c1, c2, fun c h1 h2 => ?_⟩
    have := c3 c h1 h2
    unfold mC1 seg at *
    rw [eA 1 (by decide), eA 2 (by decide), eA 3 (by decide), eA 4 (by decide), eA 5 (by decide), eA 6 (by decide), eA 7 (by decide), eA 8 (by decide), eA 9 (by decide)]
    exact this
  · obtain ⟨c1, c2, c3⟩ := hm
    refine ⟨(e2 _).trans c1, c2, fun c h1 => ?_⟩
    have := c3 c h1
    unfold seg at *
    rw [eA 10 (by decide), eA 11 (by decide)]
    exact this
end
/-! what holds of all CHANGES is kept; their number grows -/
def wk (n : Nat) (v : Cw) : Prop := n ≤ v.1 ∧ wok v.1 v.2
theorem wk_cmt {n p hn : Nat} {t : List Nat} {v : Cw} (k : wk n v) : wk n (cmt v p hn t) := ⟨Nat.le_succ_of_le k.1, wok_add k.2⟩
theorem wk_mv1 {n : Nat} {held : Nm} {mt : List Nat} {hn : Nat} : ∀ m q (v : Cw), wk n v → wk n (mv1 held mt hn m q v)
  | 0, _, _, k => k
  | m + 1, q, v, k => by
    rw [mv1]
    refine wk_mv1 m (q + 1) _ ?_
    split
    · exact k
    · split
      · exact wk_cmt k
      · exact k
theorem wk_mv2 {n : Nat} {held goal : Nm} {hn : Nat} : ∀ m q (v : Cw), wk n v → wk n (mv2 held goal hn m q v).2
  | 0, _, _, k => k
  | m + 1, q, v, k => by
    rw [mv2]
    split
    · exact wk_mv2 m (q + 1) v k
    · split
      · exact wk_mv2 m (q + 1) v k
      · split
        · exact wk_mv2 m (q + 1) _ (wk_cmt k)
        · exact k
/-- the world behind a call -/
def wG (w w' : Wd) : Prop := w.1 ≤ w'.1 ∧ wok w'.1 w'.2.1
theorem wG.rf {w : Wd} (k : wok w.1 w.2.1) : wG w w := ⟨Nat.le_refl _, k⟩
theorem wG_write {tp : List Nat} {hd : Option Nm} {w : Wd} {x : Int32} (k : wok w.1 w.2.1) : wG w (sWrite tp hd w x).2 := by
  unfold sWrite
  split
  · exact wG.rf k
  · split
    · exact wG.rf k
    · split
      · exact wG.rf k
      · split
        · exact wG.rf k
        · exact ⟨Nat.le_succ _, wok_add k⟩
theorem wG_gone {hd : Option Nm} {w : Wd} {x : Int32} (k : wok w.1 w.2.1) : wG w (sGone hd w x).2 := by
  unfold sGone
  split
  · exact wG.rf k
  · split
    · exact wG.rf k
    · split
      · exact wG.rf k
      · split
        · exact wG.rf k
        · exact ⟨Nat.le_succ _, wok_add k⟩
theorem wG_back {w : Wd} {x y : Int32} (k : wok w.1 w.2.1) : wG w (sBack w x y).2 := by
  unfold sBack
  repeat' split
  all_goals first | exact wG.rf k | exact ⟨Nat.le_succ _, wok_add k⟩
theorem wG_moving {lk : Bool} {tp : List Nat} {hd : Option Nm} {w : Wd} {x : Int32} (k : wok w.1 w.2.1) : wG w (sMoving lk tp hd w x).2 := by
  have ks : ∀ (held goal : Nm) (p hn : Nat), wG w (sMoves lk held goal p hn w).2 := by
    intro held goal p hn
    have k0 : wk w.1 ((w.1, w.2.1) : Cw) := ⟨Nat.le_refl _, k⟩
    unfold sMoves
    split
    · exact wk_mv2 _ _ _ (wk_mv1 _ _ _ (wk_cmt (wk_cmt k0)))
    · exact wk_mv1 _ _ _ (wk_cmt (wk_cmt k0))
  unfold sMoving
  repeat' split
  all_goals first | exact wG.rf k | exact ks _ _ _ _
/-! the law's invariant -/
def lI (X sc L N0 U0 k : Nat) (xs : Nat → Int32) (h : PH) (tp ou fo : List Nat) (hd : Option Nm) (a : Option Nat) (w : Wd) : Prop :=
  (∃ Q, cI Q h X tp ou fo hd a w) ∧ mI h (X + 27) tp ou fo hd a w ∧ (∃ mk, mmk h (X + 27) mk) ∧ wok w.1 w.2.1 ∧ (hK h sc = 60 ∧ hL h sc = L ∧ hA h sc = xs ∧ sc < X) ∧ hN h ≤ N0 + pot h X + 4 * k + 1000 * w.1 ∧ hU h ≤ U0 + 4 * pot h X + 4 * k + 13000 * w.1
section
variable {g X sc L N0 U0 k : Nat} {xs : Nat → Int32} {h h1 h2 : PH} {tp ou fo tp' ou' fo' : List Nat} {hd hd' : Option Nm} {a a' : Option Nat} {w w' : Wd}
/-- between the two calls -/
def lM (X sc L N0 U0 k : Nat) (xs : Nat → Int32) (h : PH) (tp ou fo : List Nat) (hd : Option Nm) (a : Option Nat) (w : Wd) (tp' ou' fo' : List Nat) (hd' : Option Nm) (a' : Option Nat) (w' : Wd) : Prop :=
  (∃ Q, cI Q h X tp' ou' fo' hd' a' w') ∧ mI h (X + 27) tp ou fo hd a w ∧ (∃ mk, mmk h (X + 27) mk) ∧ (hK h sc = 60 ∧ hL h sc = L ∧ hA h sc = xs ∧ sc < X) ∧ hN h ≤ N0 + pot h X + 4 * k + 1000 * w'.1 ∧ hU h ≤ U0 + 4 * pot h X + 4 * k + 13000 * w'.1
theorem cW.up {c n c' n' : Nat} (s : cW X h h1 c n) (hc : c ≤ c') (hn : n ≤ n') : cW X h h1 c' n' := ⟨s.1, by have := s.2.1; omega, by have := s.2.2; omega⟩
theorem l_class {Q : Nat → Prop} {n : Nat} (I : lI X sc L N0 U0 k xs h tp ou fo hd a w) (J : cI Q h1 X tp' ou' fo' hd' a' w') (s : cW X h h1 4 n) (hn : w.1 + n ≤ w'.1) : lM X sc L N0 U0 (k + 1) xs h1 tp ou fo hd a w tp' ou' fo' hd' a' w' := by
  obtain ⟨⟨Q0, I1⟩, I2, ⟨mk, I3⟩, I4, ⟨c1, c2, c3, c4⟩, b1, b2⟩ := I
  obtain ⟨s1, s2, s3⟩ := s
  have dN := I1.1.1.1
  have mE : mEq (X + 27) h h1 := by
    refine ⟨fun j hj => ?_, fun j => ?_, fun j => ?_⟩
    · have := s1.1.2.2 (X + 27 + j) (by omega)
      exact ⟨this.1, this.2.1, (this.2.2 (by unfold dP; omega)).2.2.2.1⟩
    · exact ((s1.1.2.2 (X + 27) (by omega)).2.2 (by unfold dP; omega)).1 j
    · exact ((s1.1.2.2 (X + 27) (by omega)).2.2 (by unfold dP; omega)).2.1 j
  have ss := s1.1.2.2 sc (by omega)
  have sp : ¬ dP h X sc := by unfold dP; omega
  refine ⟨⟨Q, J⟩, mI_eq I2 mE, ⟨mk, fun p hp => ?_⟩, ⟨ss.1.trans c1, ss.2.1.trans c2, ((ss.2.2 sp).2.2.2.1).trans c3, c4⟩, by omega, by omega⟩
  rw [(mE.1 17 (by decide)).2.2]
  exact I3 p hp
theorem l_model {F A : List Nat} (I : lM X sc L N0 U0 k xs h1 tp ou fo hd a w tp' ou' fo' hd' a' w') (f : mf F A (X + 27) h1 h2) (hA' : ∀ x ∈ A, x < 30) (J : mI h2 (X + 27) tp' ou' fo' hd' a' w') (hk : ∃ mk, mmk h2 (X + 27) mk) (hw : wok w'.1 w'.2.1) : lI X sc L N0 U0 k xs h2 tp' ou' fo' hd' a' w' := by
  obtain ⟨⟨Q, I1⟩, I2, I3, ⟨c1, c2, c3, c4⟩, b1, b2⟩ := I
  have sm0 := f.sm hA'
  have dN := I1.1.1.1
  have c : cfm X (mP' (X + 27)) h1 h2 := cfm.of sm0 dN (fun j hj => by unfold crO at hj; unfold mP'; omega)
  obtain ⟨u1, u2, u3, u4, u5, u6, u7, u8, u9, u10, u11, u12⟩ := I1.kp (Q' := Q) [] c (fun j hj _ z => by unfold mP' at z; omega) (fun x hx _ z => by unfold mP' at z; omega) (fun x hx z => by unfold mP' at z; omega) (fun x hx => hx) (fun x hx => Or.inl hx)
  have J1 : cI Q h2 X tp' ou' fo' hd' a' w' := ⟨⟨u1, u2, u3 (fun _ _ _ => List.not_mem_nil), I1.1.2.2.2⟩, ⟨u4 List.not_mem_nil List.not_mem_nil, u5 List.not_mem_nil List.not_mem_nil, u6 List.not_mem_nil List.not_mem_nil, u7 List.not_mem_nil List.not_mem_nil⟩, ⟨u8 List.not_mem_nil List.not_mem_nil, u9 List.not_mem_nil, u10 List.not_mem_nil⟩, u11 List.not_mem_nil List.not_mem_nil List.not_mem_nil List.not_mem_nil, u12 List.not_mem_nil⟩
  have ep : pot h2 X = pot h1 X := by
    unfold pot lcap wcap
    rw [f.1.2.2.2.2.1, f.1.2.2.1, f.1.2.2.2.1]
  have n2 := f.1.1
  have v2 := f.1.2.1
  refine ⟨⟨Q, J1⟩, J, hk, hw, ⟨by rw [f.1.2.2.1]; exact c1, by rw [f.1.2.2.2.1]; exact c2, ?_, c4⟩, by rw [ep]; omega, by rw [ep]; omega⟩
  rw [f.2.2 sc (fun x hx z => by have := hA' x hx; omega)]
  exact c3
theorem l_mk {F A : List Nat} (I : lM X sc L N0 U0 k xs h1 tp ou fo hd a w tp' ou' fo' hd' a' w') (f : mf F A (X + 27) h1 h2) (h17 : 17 ∉ A) : ∃ mk, mmk h2 (X + 27) mk := by
  obtain ⟨mk, m⟩ := I.2.2.1
  exact ⟨mk, m.keep f h17⟩
end
