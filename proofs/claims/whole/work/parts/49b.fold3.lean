/-- what fold() answers: a new Name, or null -/
def fld (h : PH) (fa fb : Nat) (q : Option (Bool × List Nat)) (v : Option Nat) (h' : PH) : Prop :=
  match q with
  | none => v = none ∧ sm (rP fa fb) h h' ∧ hN h' = hN h ∧ hU h' = hU h
  | some p => v = some (hN h) ∧ nm_ h' (hN h) p.1 p.2 ∧ sm (rP fa fb) h h' ∧ hN h' = hN h + 1 ∧ hU h' = hU h + 3
theorem fnm_long {z : List Nat} (h : 22 < z.length) : fnm z = none := by
  unfold fnm
  rw [if_neg]
  intro c
  have := c.2.1
  unfold fwd at this
  split at this
  · split at this <;> simp at this <;> omega
  · omega
theorem fs1_head {s : List Nat × Bool} {b : Nat} (hs : s.1.getD 0 0 ≠ 32) : (fs1 s b).1.getD 0 0 ≠ 32 := by
  unfold fs1
  split
  · exact hs
  · rename_i hb
    have hl : low b ≠ 32 := by unfold low; split <;> omega
    cases hc : s.1 with
    | nil => simpa using hl
    | cons y t =>
      rw [hc] at hs
      simp at hs
      split <;> simpa using hs
theorem fz_head (bs : List Nat) : (fz bs).getD 0 0 ≠ 32 := by
  unfold fz
  suffices ∀ (bs : List Nat) (s : List Nat × Bool), s.1.getD 0 0 ≠ 32 → (bs.foldl fs1 s).1.getD 0 0 ≠ 32 from this bs ([], false) (by decide)
  intro bs
  induction bs with
  | nil => intro s hs; exact hs
  | cons b t ih => intro s hs; exact ih _ (fs1_head hs)
/-- fold(row, i, j) -/
theorem f_fold {g ro fa fb sa sb cap bd i j : Nat} {h : PH} {l z0 : List Nat} {o o0 : Int32} (hij : i ≤ j) (hj : j ≤ l.length) (ho : hK h ro = 5) (hf : hR h 0 ro = some fa) (r : rw_ h fa fb 22 22 z0 o0) (s : rw_ h sa sb cap bd l o) (h1 : sa ≠ fa) (h2 : sb ≠ fb) (hro : ro < hN h) (hsa : sa < hN h) (hsb : sb < hN h) (ht : hK h (hS h 0) = 70) (hlt : hS h 0 < hN h) (hfa : fa < hN h) (hfb : fb < hN h) :
    ∃ v h', cal g mX5_fold [va_rf (some ro), va_rf (some sa), .int (nI i), .int (nI j)] h = some (some (va_rf v), h') ∧ fld h fa fb (fold ((l.drop i).take (j - i))) v h' ∧ (∃ z1 o1, rw_ h' fa fb 22 22 z1 o1) := by
  have fab := r_ab r
  have nro : ¬ rP fa fb ro := by
    intro z
    rcases z with z | z
    · rw [z, r.1.1] at ho; omega
    · rw [z, r.1.2.2.1] at ho; omega
  have sab : ¬ rP fa fb sa := by
    intro z
    rcases z with z | z
    · exact h1 z
    · have := s.1.1; rw [z, r.1.2.2.1] at this; omega
  have sbb : ¬ rP fa fb sb := by
    intro z
    rcases z with z | z
    · have := s.1.2.2.1; rw [z, r.1.1] at this; omega
    · exact h2 z
  obtain ⟨hA', eA, rA, sA, nA', uA⟩ := r_cut (g := g) (k := 0) r (by decide)
  have sA2 : sm (rP fa fb) h hA' := sA.mono (fun x _ hx => Or.inl hx)
  have rA' : fr_ hA' fa fb [] := by unfold fr_; simpa using rA
  have hoA : hK hA' ro = 5 := by rw [(sA2.2.2 ro hro).1]; exact ho
  have hfA : hR hA' 0 ro = some fa := by rw [((sA2.2.2 ro hro).2.2 nro).2.1]; exact hf
  have sS := s.keep sA2 hsa hsb sab sbb
  obtain ⟨hB', d', eB, rB, sB, nB, uB⟩ := f_fold_loop (g := g) (ro := ro) (x2 := nI i) hj (j - i) i hA' [] false none (by omega) hoA hfA rA' sS h1 h2 (by omega) (by omega) (by omega)
  have t2 := sA2.tr sB
  have hoB : hK hB' ro = 5 := by rw [(t2.2.2 ro hro).1]; exact ho
  have hfB : hR hB' 0 ro = some fa := by rw [((t2.2.2 ro hro).2.2 nro).2.1]; exact hf
  have htB : hK hB' (hS hB' 0) = 70 := by rw [t2.2.1, (t2.2.2 _ hlt).1]; exact ht
  rw [n_X5_fold]
  have eA0 : cal g mX6_cut [va_rf (some fa), .int 0] h = some (none, hA') := eA
  have eB0 : ev g mX5_fold 14 [some (va_rf (some ro)), some (va_rf (some sa)), some (.int (nI i)), some (.int (nI j)), some (.int 0), some (.int (nI i)), none] [] hA' = _ := eB
  simp (decide := true) only [e_X5_fold_0, e_X5_fold_1, e_X5_fold_4, e_X5_fold_5, e_X5_fold_8, e_X5_fold_9, e_X5_fold_11, e_X5_fold_12, if_true, if_false, reduceCtorEq, Nat.reduceAdd, true_and, and_true, false_and, and_false, true_or, or_true, false_or, or_false, not_true_eq_false, not_false_eq_true, Option.bind_eq_bind, Option.bind_some, psh, eq_self, ho, hf, r.1.1, eA0, eB0]
  have hz : (((l.drop i).take (j - i)).foldl fs1 ([], false)).1 = fz ((l.drop i).take (j - i)) := rfl
  generalize hzz : fz ((l.drop i).take (j - i)) = z at hz
  rw [hz] at rB
  have fold_eq : fold ((l.drop i).take (j - i)) = fnm z := by unfold fold; rw [hzz]
  rw [fold_eq]
  unfold fr_ at rB
  by_cases zl : z.length ≤ 22
  · rw [if_pos zl, List.take_of_length_le zl] at rB
    have ov : hI hB' 3 fa = 0 := rB.2.1.2.2
    have kd := f_isKind (g := g) hoB hfB rB htB
    have hzc : z.length < 1000000 := by omega
    have fin : ∀ st, st ≤ z.length → fwd z = z.drop st → ∃ v h', cal g mX5_packed [va_rf (some ro), .int (if fkd z = true then 1 else 0), .int (nI st)] hB' = some (some (va_rf v), h') ∧ fld h fa fb (fnm z) v h' ∧ ∃ z1 o1, rw_ h' fa fb 22 22 z1 o1 := by
      intro st hst hfw
      obtain ⟨v, h', e, p⟩ := f_packed (g := g) (kd := fkd z) hoB hfB rB hst (by omega)
      refine ⟨v, h', e, ?_⟩
      rw [← hfw] at p
      unfold fnm
      by_cases c1 : 1 ≤ (fwd z).length ∧ (fwd z).length ≤ 16
      · rw [if_pos c1] at p
        unfold pkd at p
        by_cases c2 : (fwd z).all nbb = true
        · rw [if_pos c2] at p
          obtain ⟨p1, p2, p3, p4, p5⟩ := p
          rw [if_pos ⟨c1.1, c1.2, c2⟩]
          have t3 : sm (rP fa fb) hB' h' := p3.mono (fun _ _ z => z.elim)
          have e9 : hN hB' = hN h := by omega
          rw [e9] at p1 p2
          exact ⟨⟨p1, p2, t2.tr t3, by omega, by omega⟩, _, _, rB.keep p3 (by omega) (by omega) (fun z => z) (fun z => z)⟩
        · rw [if_neg c2] at p
          rw [if_neg (fun z => c2 z.2.2)]
          obtain ⟨p1, p2⟩ := p
          subst p2
          exact ⟨⟨p1, t2, by omega, by omega⟩, _, _, rB⟩
      · rw [if_neg c1] at p
        rw [if_neg (fun z => c1 ⟨z.1, z.2.1⟩)]
        obtain ⟨p1, p2⟩ := p
        subst p2
        exact ⟨⟨p1, t2, by omega, by omega⟩, _, _, rB⟩
    cases hk : fkd z with
    | false =>
      rw [hk] at fin kd
      have e0 : rb z 0 = if 0 < z.length then nI (z.getD 0 0) else -1 := by
        have := rb_nI (l := z) (j := 0) (by decide)
        rwa [nI_0] at this
      have hh : ¬ rb z 0 = 32 := by
        rw [e0]
        split
        · rename_i hp
          have hx := rB.2.2.2.2 _ (getD_mem hp)
          intro w
          have := (nI_eq (b := 32) (by omega) (by omega)).mp w
          have h9 := fz_head ((l.drop i).take (j - i))
          rw [hzz] at h9
          exact h9 this
        · decide
      have kd' : cal g mX5_foldedIsKind [va_rf (some ro)] hB' = some (some (.int 0), hB') := kd
      simp (decide := true) only [e_X5_fold_112, e_X5_fold_113, e_X5_fold_116, e_X5_fold_119, e_X5_fold_122, e_X5_fold_123, e_X5_fold_124, e_X5_fold_125, e_X5_fold_128, e_X5_fold_130, e_X5_fold_132, e_X5_fold_135, e_X5_fold_137, e_X5_fold_140, e_X5_fold_143, e_X5_fold_144, e_X5_fold_146, e_X5_fold_147, e_X5_fold_149, e_X5_fold_150, e_X5_fold_153, e_X5_fold_155, e_X5_fold_158, e_X5_fold_160, e_X5_fold_163, e_X5_fold_165, e_X5_fold_166, e_X5_fold_167, e_X5_fold_170, e_X5_fold_172, e_X5_fold_175, if_true, if_false, reduceCtorEq, Nat.reduceAdd, true_and, and_true, false_and, and_false, true_or, or_true, false_or, or_false, not_true_eq_false, not_false_eq_true, Option.bind_eq_bind, Option.bind_some, psh, eq_self, hoB, hfB, rB.1.1, ov, kd', r_byteAt rB, hh]
      obtain ⟨v, h', e, f1, f2⟩ := fin 0 (Nat.zero_le _) (by unfold fwd; rw [hk]; simp)
      have e' : cal g mX5_packed [va_rf (some ro), .int 0, .int 0] hB' = some (some (va_rf v), h') := e
      simp (decide := true) only [e', if_true, if_false, reduceCtorEq, Nat.reduceAdd, true_and, and_true, false_and, and_false, true_or, or_true, false_or, or_false, not_true_eq_false, not_false_eq_true, Option.bind_eq_bind, Option.bind_some, psh, eq_self, e_X5_fold_112, e_X5_fold_113, e_X5_fold_116, e_X5_fold_119, e_X5_fold_122, e_X5_fold_123, e_X5_fold_124, e_X5_fold_125, e_X5_fold_128, e_X5_fold_130, e_X5_fold_132, e_X5_fold_135, e_X5_fold_137, e_X5_fold_140, e_X5_fold_143, e_X5_fold_144, e_X5_fold_146, e_X5_fold_147, e_X5_fold_149, e_X5_fold_150, e_X5_fold_153, e_X5_fold_155, e_X5_fold_158, e_X5_fold_160, e_X5_fold_163, e_X5_fold_165, e_X5_fold_166, e_X5_fold_167, e_X5_fold_170, e_X5_fold_172, e_X5_fold_175]
      exact ⟨v, h', rfl, f1, f2⟩
    | true =>
      rw [hk] at fin kd
      have hl5 : 5 ≤ z.length := by
        unfold fkd at hk
        have := congrArg List.length (of_decide_eq_true hk)
        rw [show (q_tx 0).length = 5 from rfl] at this
        simp at this
        omega
      have e0 : rb z (nI 5) = if 5 < z.length then nI (z.getD 5 0) else -1 := rb_nI (by decide)
      have kd' : cal g mX5_foldedIsKind [va_rf (some ro)] hB' = some (some (.int 1), hB') := kd
      have e5 : nI (q_tx (70 - 70)).length = nI 5 := rfl
      simp (decide := true) only [e_X5_fold_112, e_X5_fold_113, e_X5_fold_116, e_X5_fold_119, e_X5_fold_122, e_X5_fold_123, e_X5_fold_124, e_X5_fold_125, e_X5_fold_128, e_X5_fold_130, e_X5_fold_132, e_X5_fold_135, e_X5_fold_137, e_X5_fold_140, e_X5_fold_143, e_X5_fold_144, e_X5_fold_146, e_X5_fold_147, e_X5_fold_149, e_X5_fold_150, e_X5_fold_153, e_X5_fold_155, e_X5_fold_158, e_X5_fold_160, e_X5_fold_163, e_X5_fold_165, e_X5_fold_166, e_X5_fold_167, e_X5_fold_170, e_X5_fold_172, e_X5_fold_175, if_true, if_false, reduceCtorEq, Nat.reduceAdd, true_and, and_true, false_and, and_false, true_or, or_true, false_or, or_false, not_true_eq_false, not_false_eq_true, Option.bind_eq_bind, Option.bind_some, psh, eq_self, hoB, hfB, rB.1.1, ov, kd', j3_eq, htB, e5, r_byteAt rB]
      by_cases c5 : z.getD 5 0 = 32
      · have hp : 5 < z.length := by
          by_cases w : 5 < z.length
          · exact w
          · rw [getD_out (by omega)] at c5; omega
        have hh : rb z (nI 5) = 32 := by rw [e0, if_pos hp, c5]; rfl
        obtain ⟨v, h', e, f1, f2⟩ := fin 6 (by omega) (by unfold fwd; rw [hk, if_pos rfl, if_pos c5])
        have e' : cal g mX5_packed [va_rf (some ro), .int 1, .int (nI 5 + 1)] hB' = some (some (va_rf v), h') := e
        simp (decide := true) only [hh, e', if_true, if_false, reduceCtorEq, Nat.reduceAdd, true_and, and_true, false_and, and_false, true_or, or_true, false_or, or_false, not_true_eq_false, not_false_eq_true, Option.bind_eq_bind, Option.bind_some, psh, eq_self, e_X5_fold_112, e_X5_fold_113, e_X5_fold_116, e_X5_fold_119, e_X5_fold_122, e_X5_fold_123, e_X5_fold_124, e_X5_fold_125, e_X5_fold_128, e_X5_fold_130, e_X5_fold_132, e_X5_fold_135, e_X5_fold_137, e_X5_fold_140, e_X5_fold_143, e_X5_fold_144, e_X5_fold_146, e_X5_fold_147, e_X5_fold_149, e_X5_fold_150, e_X5_fold_153, e_X5_fold_155, e_X5_fold_158, e_X5_fold_160, e_X5_fold_163, e_X5_fold_165, e_X5_fold_166, e_X5_fold_167, e_X5_fold_170, e_X5_fold_172, e_X5_fold_175]
        exact ⟨v, h', rfl, f1, f2⟩
      · have hh : ¬ rb z (nI 5) = 32 := by
          rw [e0]
          split
          · rename_i hp
            have hx := rB.2.2.2.2 _ (getD_mem hp)
            intro w
            exact c5 ((nI_eq (b := 32) (by omega) (by omega)).mp w)
          · decide
        obtain ⟨v, h', e, f1, f2⟩ := fin 5 (by omega) (by unfold fwd; rw [hk, if_pos rfl, if_neg c5])
        have e' : cal g mX5_packed [va_rf (some ro), .int 1, .int (nI 5)] hB' = some (some (va_rf v), h') := e
        simp (decide := true) only [hh, e', if_true, if_false, reduceCtorEq, Nat.reduceAdd, true_and, and_true, false_and, and_false, true_or, or_true, false_or, or_false, not_true_eq_false, not_false_eq_true, Option.bind_eq_bind, Option.bind_some, psh, eq_self, e_X5_fold_112, e_X5_fold_113, e_X5_fold_116, e_X5_fold_119, e_X5_fold_122, e_X5_fold_123, e_X5_fold_124, e_X5_fold_125, e_X5_fold_128, e_X5_fold_130, e_X5_fold_132, e_X5_fold_135, e_X5_fold_137, e_X5_fold_140, e_X5_fold_143, e_X5_fold_144, e_X5_fold_146, e_X5_fold_147, e_X5_fold_149, e_X5_fold_150, e_X5_fold_153, e_X5_fold_155, e_X5_fold_158, e_X5_fold_160, e_X5_fold_163, e_X5_fold_165, e_X5_fold_166, e_X5_fold_167, e_X5_fold_170, e_X5_fold_172, e_X5_fold_175]
        exact ⟨v, h', rfl, f1, f2⟩
  · rw [if_neg zl] at rB
    have ov : hI hB' 3 fa = 1 := rB.2.1.2.2
    simp (decide := true) only [e_X5_fold_112, e_X5_fold_113, e_X5_fold_116, e_X5_fold_119, e_X5_fold_122, e_X5_fold_123, e_X5_fold_124, e_X5_fold_125, e_X5_fold_128, e_X5_fold_130, e_X5_fold_132, e_X5_fold_135, e_X5_fold_137, e_X5_fold_140, e_X5_fold_143, e_X5_fold_144, e_X5_fold_146, e_X5_fold_147, e_X5_fold_149, e_X5_fold_150, e_X5_fold_153, e_X5_fold_155, e_X5_fold_158, e_X5_fold_160, e_X5_fold_163, e_X5_fold_165, e_X5_fold_166, e_X5_fold_167, e_X5_fold_170, e_X5_fold_172, e_X5_fold_175, if_true, if_false, reduceCtorEq, Nat.reduceAdd, true_and, and_true, false_and, and_false, true_or, or_true, false_or, or_false, not_true_eq_false, not_false_eq_true, Option.bind_eq_bind, Option.bind_some, psh, eq_self, hoB, hfB, rB.1.1, ov]
    rw [fnm_long (by omega)]
    exact ⟨none, hB', rfl, ⟨rfl, t2, by omega, by omega⟩, _, _, rB⟩
