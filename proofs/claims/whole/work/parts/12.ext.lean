/-! what a run never changes -/
def q_E (h h' : PH) : Prop := hN h ≤ hN h' ∧ hU h ≤ hU h' ∧ hS h' = hS h ∧ (∀ a, a < hN h → hK h' a = hK h a ∧ hL h' a = hL h a) ∧ ∀ a, 60 ≤ hK h' a → hK h a = hK h' a ∧ hL h' a = hL h a ∧ hA h' a = hA h a
theorem q_E.rf (h : PH) : q_E h h := ⟨Nat.le_refl _, Nat.le_refl _, rfl, fun _ _ => ⟨rfl, rfl⟩, fun _ _ => ⟨rfl, rfl, rfl⟩⟩
theorem q_E.tr {h1 h2 h3 : PH} (a : q_E h1 h2) (b : q_E h2 h3) : q_E h1 h3 := by
  obtain ⟨a1, a2, a3, a4, a5⟩ := a
  obtain ⟨b1, b2, b3, b4, b5⟩ := b
  refine ⟨Nat.le_trans a1 b1, Nat.le_trans a2 b2, b3.trans a3, fun x hx => ?_, fun x hx => ?_⟩
  · obtain ⟨p1, p2⟩ := a4 x hx
    obtain ⟨q1, q2⟩ := b4 x (by omega)
    exact ⟨q1.trans p1, q2.trans p2⟩
  · obtain ⟨p1, p2, p3⟩ := b5 x hx
    obtain ⟨q1, q2, q3⟩ := a5 x (by rw [p1]; exact hx)
    exact ⟨q1.trans p1, p2.trans q2, p3.trans q3⟩
theorem q_E.fl {h h' : PH} (e0 : hN h' = hN h) (e1 : hU h' = hU h) (e2 : hK h' = hK h) (e3 : hL h' = hL h) (e4 : hA h' = hA h) (e5 : hS h' = hS h) : q_E h h' := by
  refine ⟨by omega, by omega, e5, fun _ _ => ⟨by rw [e2], by rw [e3]⟩, fun a ha => ⟨by rw [e2], by rw [e3], by rw [e4]⟩⟩
theorem q_E.I (h : PH) (k a : Nat) (v : Int32) : q_E h (pI h k a v) := q_E.fl rfl rfl rfl rfl rfl rfl
theorem q_E.R (h : PH) (k a : Nat) (v : Option Nat) : q_E h (pR h k a v) := q_E.fl rfl rfl rfl rfl rfl rfl
theorem q_E.J (h : PH) (k a : Nat) (v : Int64) : q_E h (pJ h k a v) := q_E.fl rfl rfl rfl rfl rfl rfl
theorem q_E.B (h : PH) (a : Nat) (f : Nat → Option Nat) : q_E h (pB h a f) := q_E.fl rfl rfl rfl rfl rfl rfl
theorem q_E.A (h : PH) {a : Nat} (f : Nat → Int32) (ha : hK h a < 60) : q_E h (pA h a f) := by
  refine ⟨Nat.le_refl _, Nat.le_refl _, rfl, fun _ _ => ⟨rfl, rfl⟩, fun b hb => ⟨rfl, rfl, ?_⟩⟩
  have hb2 : 60 ≤ hK h b := hb
  exact va_up_ne _ _ (fun z => by subst z; omega)
theorem q_E.O (h : PH) {c : Nat} (hc : c < 60) : q_E h (nO h c) := by
  refine ⟨Nat.le_succ _, Nat.le_add_right _ _, rfl, fun a ha => ⟨va_up_ne _ _ (by omega), rfl⟩, fun b hb => ?_⟩
  by_cases hbn : b = hN h
  · subst hbn
    have : hK (nO h c) (hN h) = c := va_up_self _ _ _
    omega
  · have : hK (nO h c) b = hK h b := va_up_ne _ _ hbn
    exact ⟨this.symm, rfl, rfl⟩
theorem q_E.N (h : PH) {c n : Nat} (hc : c < 60) : q_E h (nA h c n) := by
  refine ⟨Nat.le_succ _, Nat.le_add_right _ _, rfl, fun a ha => ⟨va_up_ne _ _ (by omega), va_up_ne _ _ (by omega)⟩, fun b hb => ?_⟩
  by_cases hbn : b = hN h
  · subst hbn
    have : hK (nA h c n) (hN h) = c := va_up_self _ _ _
    omega
  · have : hK (nA h c n) b = hK h b := va_up_ne _ _ hbn
    exact ⟨this.symm, va_up_ne _ _ hbn, va_up_ne _ _ hbn⟩
theorem q_E.w {h h' : PH} {ci b k : Nat} {v : Value} (hw : q_fw h ci b k v = some h') : q_E h h' := by
  obtain ⟨w1, w2, w3, w4, w5, w6, w7⟩ := q_fw_same hw
  exact q_E.fl w1 w2 w3 w4 w5 w7
theorem q_E.add {h h' : PH} {a i v : Nat} {bad : Prop} {hb : Decidable bad} (e : q_add h a i v bad = some h') : q_E h h' := by
  unfold q_add at e
  split at e
  · cases e
  · split at e
    · cases e
    · split at e
      · have e := Option.some.inj e
        subst e
        exact ((q_E.B _ _ _).tr (q_E.I _ _ _ _)).tr (q_E.I _ _ _ _)
      · split at e
        · have e := Option.some.inj e
          subst e
          exact ((((q_E.N h (c := 55) (by decide)).tr (q_E.B _ _ _)).tr (q_E.I _ _ _ _)).tr (q_E.I _ _ _ _)).tr (q_E.R _ _ _ _)
        · split at e
          · have e := Option.some.inj e
            subst e
            exact ((((q_E.N h (c := 55) (by decide)).tr (q_E.B _ _ _)).tr (q_E.I _ _ _ _)).tr (q_E.I _ _ _ _)).tr (q_E.R _ _ _ _)
          · cases e
theorem q_E.clr {h h' : PH} {a : Nat} (e : q_clr h a = some h') : q_E h h' := by
  unfold q_clr at e
  split at e
  · cases e
  · split at e
    · have e := Option.some.inj e
      subst e
      exact (q_E.I _ _ _ _).tr (q_E.I _ _ _ _)
    · split at e
      · have e := Option.some.inj e
        subst e
        exact ((q_E.I _ _ _ _).tr (q_E.I _ _ _ _)).tr (q_E.B _ _ _)
      · cases e
theorem q_E.jdk {j pc : Nat} {ls : List (Option Value)} {st : List Value} {h : PH} {q : PS} (e : q_jdk j pc ls st h = some q) : q_E h q.2.2.2 := by
  unfold q_jdk at e
  split at e
  · unfold q_j0 at e
    repeat' (split at e)
    all_goals first | (cases e; exact q_E.rf _) | (cases e)
  · unfold q_j1 at e
    split at e
    all_goals first | (cases e; exact q_E.rf _) | (cases e)
  · unfold q_j2 at e
    split at e
    all_goals first | (cases e; exact q_E.rf _) | (cases e)
  · unfold q_j3 at e
    repeat' (split at e)
    all_goals first | (cases e; exact q_E.rf _) | (cases e)
  · unfold q_j4 at e
    repeat' (split at e)
    all_goals first | (cases e; exact q_E.rf _) | (cases e)
  · unfold q_j5 at e
    split at e
    · split at e
      · rename_i hc; cases e; exact q_E.A _ _ (by omega)
      · cases e
    · cases e
  · unfold q_j6 at e
    split at e
    · split at e
      · cases e; exact (q_E.I _ _ _ _).tr (q_E.R _ _ _ _)
      · cases e
    · cases e
  · unfold q_j7 at e
    split at e
    · split at e
      · split at e
        · rename_i h' he; cases e; exact q_E.add he
        · cases e
      · cases e
    · cases e
  · unfold q_j8 at e
    split at e
    · split at e
      · split at e
        · rename_i h' he; cases e; exact q_E.clr he
        · cases e
      · cases e
    · cases e
  · unfold q_j9 at e
    repeat' (split at e)
    all_goals first | (cases e; exact q_E.rf _) | (cases e)
  · unfold q_j10 at e
    repeat' (split at e)
    all_goals first | (cases e; exact q_E.rf _) | (cases e)
  · unfold q_j11 at e
    split at e
    · split at e
      · cases e
        exact (q_E.N _ (by decide)).tr (q_E.A _ _ (by rw [show hK (nA h 52 _) (hN h) = 52 from va_up_self _ _ _]; decide))
      · cases e
    · cases e
  · cases e
theorem q_E.br {pc : Nat} {off : Int} {b : Bool} {ls : List (Option Value)} {st : List Value} {h : PH} {q : PS} (e : q_br pc off b ls st h = some q) : q_E h q.2.2.2 := by
  unfold q_br at e
  repeat' (split at e)
  all_goals first | (cases e; exact q_E.rf _) | (cases e)
theorem q_E.ldI {k pc : Nat} {ls : List (Option Value)} {st : List Value} {h : PH} {q : PS} (e : q_ldI ls k pc st h = some q) : q_E h q.2.2.2 := by
  unfold q_ldI at e
  split at e
  all_goals first | (cases e; exact q_E.rf _) | (cases e)
theorem q_E.ldL {k pc : Nat} {ls : List (Option Value)} {st : List Value} {h : PH} {q : PS} (e : q_ldL ls k pc st h = some q) : q_E h q.2.2.2 := by
  unfold q_ldL at e
  split at e
  all_goals first | (cases e; exact q_E.rf _) | (cases e)
theorem q_E.ldA {k pc : Nat} {ls : List (Option Value)} {st : List Value} {h : PH} {q : PS} (e : q_ldA ls k pc st h = some q) : q_E h q.2.2.2 := by
  unfold q_ldA at e
  split at e
  all_goals first | (cases e; exact q_E.rf _) | (cases e)
theorem q_E.stI {m : Mt} {k pc : Nat} {ls : List (Option Value)} {st : List Value} {h : PH} {q : PS} (e : q_stI m ls k pc st h = some q) : q_E h q.2.2.2 := by
  unfold q_stI at e
  repeat' (split at e)
  all_goals first | (cases e; exact q_E.rf _) | (cases e)
theorem q_E.stL {m : Mt} {k pc : Nat} {ls : List (Option Value)} {st : List Value} {h : PH} {q : PS} (e : q_stL m ls k pc st h = some q) : q_E h q.2.2.2 := by
  unfold q_stL at e
  repeat' (split at e)
  all_goals first | (cases e; exact q_E.rf _) | (cases e)
theorem q_E.stA {m : Mt} {k pc : Nat} {ls : List (Option Value)} {st : List Value} {h : PH} {q : PS} (e : q_stA m ls k pc st h = some q) : q_E h q.2.2.2 := by
  unfold q_stA at e
  repeat' (split at e)
  all_goals first | (cases e; exact q_E.rf _) | (cases e)
theorem q_kne {c i t : Nat} (h : qk_k c i = some t) : t < 60 := by have := q_klt h; omega
set_option maxHeartbeats 4000000 in
theorem q_E.sim {m : Mt} {i : Instr} {pc : Nat} {ls : List (Option Value)} {st : List Value} {h : PH} {q : PS} (e : sim m i pc ls st h = some q) : q_E h q.2.2.2 := by
  unfold Jvm.Pilot.CPageWebLaw_law_r9253_57cdf4.sim at e
  split at e
  all_goals first
    | (exact q_E.ldI e) | (exact q_E.ldL e) | (exact q_E.ldA e) | (exact q_E.stI e) | (exact q_E.stL e) | (exact q_E.stA e) | (exact q_E.br e) | (exact q_E.jdk e)
    | (cases e; exact q_E.rf _)
    | (cases e; exact q_E.w (by assumption))
    | (cases e; exact q_E.O _ (q_kne (by assumption)))
    | (cases e; exact q_E.N _ (c := 53) (by decide))
    | (cases e; exact q_E.N _ (c := 54) (by decide))
    | (cases e; exact q_E.N _ (Nat.lt_trans (by assumption) (by decide)))
    | (cases e; exact q_E.A _ _ (by omega))
    | (cases e; exact q_E.B _ _ _)
    | (cases e; done)
    | skip
  all_goals (split at e)
  all_goals first
    | (exact q_E.ldI e) | (exact q_E.ldL e) | (exact q_E.ldA e) | (exact q_E.stI e) | (exact q_E.stL e) | (exact q_E.stA e) | (exact q_E.br e) | (exact q_E.jdk e)
    | (cases e; exact q_E.rf _)
    | (cases e; exact q_E.w (by assumption))
    | (cases e; exact q_E.O _ (q_kne (by assumption)))
    | (cases e; exact q_E.N _ (c := 53) (by decide))
    | (cases e; exact q_E.N _ (c := 54) (by decide))
    | (cases e; exact q_E.N _ (Nat.lt_trans (by assumption) (by decide)))
    | (cases e; exact q_E.A _ _ (by omega))
    | (cases e; exact q_E.B _ _ _)
    | (cases e; done)
    | skip
  all_goals (split at e)
  all_goals first
    | (exact q_E.ldI e) | (exact q_E.ldL e) | (exact q_E.ldA e) | (exact q_E.stI e) | (exact q_E.stL e) | (exact q_E.stA e) | (exact q_E.br e) | (exact q_E.jdk e)
    | (cases e; exact q_E.rf _)
    | (cases e; exact q_E.w (by assumption))
    | (cases e; exact q_E.O _ (q_kne (by assumption)))
    | (cases e; exact q_E.N _ (c := 53) (by decide))
    | (cases e; exact q_E.N _ (c := 54) (by decide))
    | (cases e; exact q_E.N _ (Nat.lt_trans (by assumption) (by decide)))
    | (cases e; exact q_E.A _ _ (by omega))
    | (cases e; exact q_E.B _ _ _)
    | (cases e; done)
    | skip
  all_goals (split at e)
  all_goals first
    | (exact q_E.ldI e) | (exact q_E.ldL e) | (exact q_E.ldA e) | (exact q_E.stI e) | (exact q_E.stL e) | (exact q_E.stA e) | (exact q_E.br e) | (exact q_E.jdk e)
    | (cases e; exact q_E.rf _)
    | (cases e; exact q_E.w (by assumption))
    | (cases e; exact q_E.O _ (q_kne (by assumption)))
    | (cases e; exact q_E.N _ (c := 53) (by decide))
    | (cases e; exact q_E.N _ (c := 54) (by decide))
    | (cases e; exact q_E.N _ (Nat.lt_trans (by assumption) (by decide)))
    | (cases e; exact q_E.A _ _ (by omega))
    | (cases e; exact q_E.B _ _ _)
    | (cases e; done)
    | skip
  all_goals (split at e)
  all_goals first
    | (exact q_E.ldI e) | (exact q_E.ldL e) | (exact q_E.ldA e) | (exact q_E.stI e) | (exact q_E.stL e) | (exact q_E.stA e) | (exact q_E.br e) | (exact q_E.jdk e)
    | (cases e; exact q_E.rf _)
    | (cases e; exact q_E.w (by assumption))
    | (cases e; exact q_E.O _ (q_kne (by assumption)))
    | (cases e; exact q_E.N _ (c := 53) (by decide))
    | (cases e; exact q_E.N _ (c := 54) (by decide))
    | (cases e; exact q_E.N _ (Nat.lt_trans (by assumption) (by decide)))
    | (cases e; exact q_E.A _ _ (by omega))
    | (cases e; exact q_E.B _ _ _)
    | (cases e; done)
    | skip
  all_goals (split at e)
  all_goals first
    | (exact q_E.ldI e) | (exact q_E.ldL e) | (exact q_E.ldA e) | (exact q_E.stI e) | (exact q_E.stL e) | (exact q_E.stA e) | (exact q_E.br e) | (exact q_E.jdk e)
    | (cases e; exact q_E.rf _)
    | (cases e; exact q_E.w (by assumption))
    | (cases e; exact q_E.O _ (q_kne (by assumption)))
    | (cases e; exact q_E.N _ (c := 53) (by decide))
    | (cases e; exact q_E.N _ (c := 54) (by decide))
    | (cases e; exact q_E.N _ (Nat.lt_trans (by assumption) (by decide)))
    | (cases e; exact q_E.A _ _ (by omega))
    | (cases e; exact q_E.B _ _ _)
    | (cases e; done)
    | skip
