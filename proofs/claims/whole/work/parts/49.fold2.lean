/-- the folded row while acc is folded -/
def fr_ (h : PH) (fa fb : Nat) (acc : List Nat) : Prop := rw_ h fa fb 22 22 (acc.take 22) (if acc.length ≤ 22 then 0 else 1)
theorem fr_put {g : Nat} {h : PH} {fa fb x : Nat} {acc : List Nat} (r : fr_ h fa fb acc) (hx : x < 256) :
    ∃ h', cal g mX6_put [va_rf (some fa), .int (nI x)] h = some (none, h') ∧ fr_ h' fa fb (acc ++ [x]) ∧ sm (rP fa fb) h h' ∧ hN h' = hN h ∧ hU h' = hU h := by
  obtain ⟨h', e, r1, s1, n1, u1⟩ := r_put (g := g) (v := nI x) r
  refine ⟨h', e, ?_, s1, n1, u1⟩
  rw [bt_nI hx] at r1
  unfold fr_
  by_cases z : acc.length < 22
  · rw [if_pos (by simp; omega), if_pos (by simp; omega), if_pos (by omega), List.take_of_length_le (by omega)] at r1
    rw [List.take_of_length_le (by simp; omega), if_pos (by simp; omega)]
    exact r1
  · rw [if_neg (by simp; omega), if_neg (by simp; omega)] at r1
    rw [List.take_append_of_le_length (by omega), if_neg (by simp; omega)]
    exact r1
theorem fs1_lt {s : List Nat × Bool} {b : Nat} (hs : ∀ x ∈ s.1, x < 256) (hb : b < 256) : ∀ x ∈ (fs1 s b).1, x < 256 := by
  unfold fs1
  split
  · exact hs
  · intro x hx
    rcases List.mem_append.mp hx with h1 | h1
    · split at h1
      · rcases List.mem_append.mp h1 with h2 | h2
        · exact hs x h2
        · simp at h2; omega
      · exact hs x h1
    · simp at h1
      unfold low at h1
      split at h1 <;> omega
set_option maxHeartbeats 1000000 in
/-- fold(): the loop -/
theorem f_fold_loop {g ro fa fb sa sb cap bd j : Nat} {l : List Nat} {o x2 : Int32} (hj : j ≤ l.length) :
    ∀ (n i : Nat) (h : PH) (acc : List Nat) (bl : Bool) (d : Option Value), n + i = j → hK h ro = 5 → hR h 0 ro = some fa → fr_ h fa fb acc → rw_ h sa sb cap bd l o → sa ≠ fa → sb ≠ fb → ro < hN h → sa < hN h → sb < hN h →
    ∃ h' d', ev g mX5_fold 14 [some (va_rf (some ro)), some (va_rf (some sa)), some (.int x2), some (.int (nI j)), some (.int (if bl = true then 1 else 0)), some (.int (nI i)), d] [] h =
        ev g mX5_fold 112 [some (va_rf (some ro)), some (va_rf (some sa)), some (.int x2), some (.int (nI j)), some (.int (if (((l.drop i).take (j - i)).foldl fs1 (acc, bl)).2 = true then 1 else 0)), some (.int (nI j)), d'] [] h' ∧
      fr_ h' fa fb (((l.drop i).take (j - i)).foldl fs1 (acc, bl)).1 ∧ sm (rP fa fb) h h' ∧ hN h' = hN h ∧ hU h' = hU h := by
  intro n
  induction n with
  | zero =>
    intro i h acc bl d hi ho hf r s h1 h2 hro hsa hsb
    have hc : l.length < 1000000 := by have := s.2.2.1; omega
    have : i = j := by omega
    subst this
    have z1 : nI i ≤ nI i := nI_le (Nat.le_refl _) (by omega)
    rw [e_X5_fold_14]
    simp (decide := true) only [e_X5_fold_16, e_X5_fold_17, z1, if_true, if_false, reduceCtorEq, Nat.reduceAdd, true_and, and_true, false_and, and_false, true_or, or_true, false_or, or_false, not_true_eq_false, not_false_eq_true, Option.bind_eq_bind, Option.bind_some, psh, eq_self]
    refine ⟨h, d, ?_, ?_, sm.rf _, rfl, rfl⟩
    · simp
    · simpa using r
  | succ n ih =>
    intro i h acc bl d hi ho hf r s h1 h2 hro hsa hsb
    have hc : l.length < 1000000 := by have := s.2.2.1; omega
    have z1 : ¬ nI j ≤ nI i := nI_ge (by omega) (by omega)
    have hil : i < l.length := by omega
    have hx : l.getD i 0 < 256 := s.2.2.2.2 _ (getD_mem hil)
    have e2 : rb l (nI i) = nI (l.getD i 0) := by rw [rb_nI (by omega), if_pos hil]
    have hd : (l.drop i).take (j - i) = l.getD i 0 :: (l.drop (i + 1)).take (j - (i + 1)) := by
      rw [drop_cons hil, show j - i = (j - (i + 1)) + 1 by omega, List.take_succ_cons]
    rw [hd, List.foldl_cons]
    generalize hxe : l.getD i 0 = x at hx e2
    have fak : hK h fa = 6 := r.1.1
    have c1 : (nI x = (32 : Int32)) ↔ x = 32 := nI_eq (b := 32) (by omega) (by omega)
    have c2 : (nI x = (95 : Int32)) ↔ x = 95 := nI_eq (b := 95) (by omega) (by omega)
    have c3 : (nI x < (65 : Int32)) ↔ x < 65 := nI_ltI (b := 65) (by omega) (by omega)
    have c4 : ((90 : Int32) < nI x) ↔ 90 < x := nI_ltI (a := 90) (by omega) (by omega)
    rw [e_X5_fold_14]
    simp (decide := true) only [e_X5_fold_16, e_X5_fold_17, e_X5_fold_20, e_X5_fold_21, e_X5_fold_23, e_X5_fold_26, e_X5_fold_28, e_X5_fold_30, e_X5_fold_32, e_X5_fold_35, e_X5_fold_37, e_X5_fold_39, e_X5_fold_42, e_X5_fold_43, e_X5_fold_45, e_X5_fold_48, e_X5_fold_50, z1, if_true, if_false, reduceCtorEq, Nat.reduceAdd, true_and, and_true, false_and, and_false, true_or, or_true, false_or, or_false, not_true_eq_false, not_false_eq_true, Option.bind_eq_bind, Option.bind_some, psh, eq_self, s.1.1, r_byteAt s, e2, c1, c2]
    by_cases zb : x = 32 ∨ x = 95
    · have e5 : fs1 (acc, bl) x = (acc, true) := by unfold fs1; rw [if_pos zb]
      rw [e5]
      have := ih (i + 1) h acc true (some (.int (nI x))) (by omega) ho hf r s h1 h2 hro hsa hsb
      rcases zb with zb | zb
      · simp (decide := true) only [zb, if_true, if_false, reduceCtorEq, Nat.reduceAdd, true_and, and_true, false_and, and_false, true_or, or_true, false_or, or_false, not_true_eq_false, not_false_eq_true, Option.bind_eq_bind, Option.bind_some, psh, eq_self, e_X5_fold_42, e_X5_fold_43, e_X5_fold_45, e_X5_fold_48, e_X5_fold_50, e_X5_fold_106, e_X5_fold_109, nI_1]
        rw [zb] at this
        exact this
      · simp (decide := true) only [zb, if_true, if_false, reduceCtorEq, Nat.reduceAdd, true_and, and_true, false_and, and_false, true_or, or_true, false_or, or_false, not_true_eq_false, not_false_eq_true, Option.bind_eq_bind, Option.bind_some, psh, eq_self, e_X5_fold_42, e_X5_fold_43, e_X5_fold_45, e_X5_fold_48, e_X5_fold_50, e_X5_fold_106, e_X5_fold_109, nI_1]
        rw [zb] at this
        exact this
    · have zb1 : ¬ x = 32 := fun z => zb (Or.inl z)
      have zb2 : ¬ x = 95 := fun z => zb (Or.inr z)
      simp (decide := true) only [zb1, zb2, if_true, if_false, reduceCtorEq, Nat.reduceAdd, true_and, and_true, false_and, and_false, true_or, or_true, false_or, or_false, not_true_eq_false, not_false_eq_true, Option.bind_eq_bind, Option.bind_some, psh, eq_self]
      -- the second half: the byte itself
      have tail : ∀ (h1' : PH) (acc1 : List Nat), fr_ h1' fa fb acc1 → sm (rP fa fb) h h1' → hN h1' = hN h → hU h1' = hU h → acc1 = (if bl = true ∧ acc ≠ [] then acc ++ [32] else acc) →
          ∃ h' d', ev g mX5_fold 72 [some (va_rf (some ro)), some (va_rf (some sa)), some (.int x2), some (.int (nI j)), some (.int (if bl = true then 1 else 0)), some (.int (nI i)), some (.int (nI x))] [] h1' =
              ev g mX5_fold 112 [some (va_rf (some ro)), some (va_rf (some sa)), some (.int x2), some (.int (nI j)), some (.int (if (((l.drop (i + 1)).take (j - (i + 1))).foldl fs1 (fs1 (acc, bl) x)).2 = true then 1 else 0)), some (.int (nI j)), d'] [] h' ∧
            fr_ h' fa fb (((l.drop (i + 1)).take (j - (i + 1))).foldl fs1 (fs1 (acc, bl) x)).1 ∧ sm (rP fa fb) h h' ∧ hN h' = hN h ∧ hU h' = hU h := by
        intro h1' acc1 r1 s1 n1 u1 ea
        have nro : ¬ rP fa fb ro := by
          intro z
          rcases z with z | z
          · rw [z, r.1.1] at ho; omega
          · rw [z, r.1.2.2.1] at ho; omega
        obtain ⟨k1, k2, k3⟩ := s1.2.2 ro hro
        obtain ⟨-, k5, -⟩ := k3 nro
        have ho1 : hK h1' ro = 5 := by rw [k1]; exact ho
        have hf1 : hR h1' 0 ro = some fa := by rw [k5]; exact hf
        have hlx : low x < 256 := by unfold low; split <;> omega
        obtain ⟨h2', e3, r2, s2, n2, u2⟩ := fr_put (g := g) r1 hlx
        have t2 := s1.tr s2
        have ho2 : hK h2' ro = 5 := by rw [(t2.2.2 ro hro).1]; exact ho
        have hf2 : hR h2' 0 ro = some fa := by rw [((t2.2.2 ro hro).2.2 nro).2.1]; exact hf
        have sab : ¬ rP fa fb sa := by
          intro z
          rcases z with z | z
          · exact h1 z
          · have := s.1.1; rw [z, r.1.2.2.1] at this; omega
        have sbb : ¬ rP fa fb sb := by
          intro z
          rcases z with z | z
          · have := s.1.2.2.1; rw [z, r.1.1] at this; omega
          · exact h2 z
        have sS := s.keep t2 hsa hsb sab sbb
        have e5 : fs1 (acc, bl) x = (acc1 ++ [low x], false) := by unfold fs1; rw [if_neg zb, ea]
        rw [e5]
        obtain ⟨h3', d', e6, r3, s3, n3, u3⟩ := ih (i + 1) h2' (acc1 ++ [low x]) false (some (.int (nI x))) (by omega) ho2 hf2 r2 sS h1 h2 (by omega) (by omega) (by omega)
        refine ⟨h3', d', ?_, r3, t2.tr s3, by omega, by omega⟩
        rw [← e6]
        have e7 : nI x + 32 = nI (x + 32) := nI_add x 32
        by_cases zu : 65 ≤ x ∧ x ≤ 90
        · have el : low x = x + 32 := by unfold low; rw [if_pos zu]
          rw [el] at e3
          simp (decide := true) only [e_X5_fold_72, e_X5_fold_73, e_X5_fold_75, e_X5_fold_76, e_X5_fold_79, e_X5_fold_81, e_X5_fold_83, e_X5_fold_86, e_X5_fold_88, e_X5_fold_90, e_X5_fold_93, e_X5_fold_95, e_X5_fold_97, e_X5_fold_98, e_X5_fold_101, e_X5_fold_103, e_X5_fold_106, e_X5_fold_109, if_true, if_false, reduceCtorEq, Nat.reduceAdd, true_and, and_true, false_and, and_false, true_or, or_true, false_or, or_false, not_true_eq_false, not_false_eq_true, Option.bind_eq_bind, Option.bind_some, psh, eq_self, ho1, hf1, c3, c4, show ¬ x < 65 by omega, show ¬ 90 < x by omega, e7, e3, r1.1.1, nI_1]
        · have el : low x = x := by unfold low; rw [if_neg zu]
          rw [el] at e3
          by_cases zu1 : x < 65
          · simp (decide := true) only [e_X5_fold_72, e_X5_fold_73, e_X5_fold_75, e_X5_fold_76, e_X5_fold_79, e_X5_fold_81, e_X5_fold_83, e_X5_fold_86, e_X5_fold_88, e_X5_fold_90, e_X5_fold_93, e_X5_fold_95, e_X5_fold_97, e_X5_fold_98, e_X5_fold_101, e_X5_fold_103, e_X5_fold_106, e_X5_fold_109, if_true, if_false, reduceCtorEq, Nat.reduceAdd, true_and, and_true, false_and, and_false, true_or, or_true, false_or, or_false, not_true_eq_false, not_false_eq_true, Option.bind_eq_bind, Option.bind_some, psh, eq_self, ho1, hf1, c3, c4, zu1, e3, r1.1.1, nI_1]
          · simp (decide := true) only [e_X5_fold_72, e_X5_fold_73, e_X5_fold_75, e_X5_fold_76, e_X5_fold_79, e_X5_fold_81, e_X5_fold_83, e_X5_fold_86, e_X5_fold_88, e_X5_fold_90, e_X5_fold_93, e_X5_fold_95, e_X5_fold_97, e_X5_fold_98, e_X5_fold_101, e_X5_fold_103, e_X5_fold_106, e_X5_fold_109, if_true, if_false, reduceCtorEq, Nat.reduceAdd, true_and, and_true, false_and, and_false, true_or, or_true, false_or, or_false, not_true_eq_false, not_false_eq_true, Option.bind_eq_bind, Option.bind_some, psh, eq_self, ho1, hf1, c3, c4, zu1, show 90 < x by omega, e3, r1.1.1, nI_1]
      cases bl with
      | false =>
        simp (decide := true) only [if_true, if_false, reduceCtorEq, Nat.reduceAdd, true_and, and_true, false_and, and_false, true_or, or_true, false_or, or_false, not_true_eq_false, not_false_eq_true, Option.bind_eq_bind, Option.bind_some, psh, eq_self, e_X5_fold_48, e_X5_fold_50, e_X5_fold_53, e_X5_fold_54, e_X5_fold_57, e_X5_fold_60, e_X5_fold_63, e_X5_fold_64, e_X5_fold_67, e_X5_fold_69]
        exact tail h acc r (sm.rf _) rfl rfl (by simp)
      | true =>
        have hle : (acc.take 22).length < 2 ^ 31 := by simp; omega
        have c6 : (nI (acc.take 22).length ≤ (0 : Int32)) ↔ acc = [] := by
          have := nI_leI (a := (acc.take 22).length) (b := 0) hle (by omega)
          rw [nI_0] at this
          rw [this]
          cases acc with
          | nil => simp
          | cons y t => simp
        simp (decide := true) only [if_true, if_false, reduceCtorEq, Nat.reduceAdd, true_and, and_true, false_and, and_false, true_or, or_true, false_or, or_false, not_true_eq_false, not_false_eq_true, Option.bind_eq_bind, Option.bind_some, psh, eq_self, e_X5_fold_48, e_X5_fold_50, e_X5_fold_53, e_X5_fold_54, e_X5_fold_57, e_X5_fold_60, e_X5_fold_63, e_X5_fold_64, e_X5_fold_67, e_X5_fold_69, ho, hf, fak, r_len r, c6]
        by_cases zn : acc = []
        · rw [if_pos zn]
          exact tail h acc r (sm.rf _) rfl rfl (by simp [zn])
        · obtain ⟨h2', e3, r2, s2, n2, u2⟩ := fr_put (g := g) (x := 32) r (by decide)
          have e3' : cal g mX6_put [va_rf (some fa), .int 32] h = some (none, h2') := e3
          simp (decide := true) only [zn, if_true, if_false, reduceCtorEq, Nat.reduceAdd, true_and, and_true, false_and, and_false, true_or, or_true, false_or, or_false, not_true_eq_false, not_false_eq_true, Option.bind_eq_bind, Option.bind_some, psh, eq_self, e_X5_fold_63, e_X5_fold_64, e_X5_fold_67, e_X5_fold_69, ho, hf, fak, e3']
          exact tail h2' (acc ++ [32]) r2 s2 n2 u2 (by simp [zn])
