/-! ArrayList.add(i, v) in the list's cells; NameList.add -/
theorem mb_nI {k : Nat} (hk : k < 500000) : q_mb (nI k) = false := by
  unfold q_mb
  rw [nI_clamp (by omega)]
  simp only [Bool.or_eq_false_iff, decide_eq_false_iff_not]
  exact ⟨nI_pos (by omega), by omega⟩
def aP (h : PH) (X e : Nat) : Nat → Prop := fun x => x = X + 26 ∨ (x = e ∧ hK h e = 55)
theorem cfm_pR26 {X : Nat} {P : Nat → Prop} (h : PH) (v : Option Nat) (hp : P (X + 26)) : cfm X P h (pR h 1 (X + 26) v) := by
  have : ∀ e ∈ crt, ¬ (e.1 = 1 ∧ e.2.1 = 26) := by decide
  exact cfm.pR _ _ hp (fun e he z => this e he ⟨z.1, by omega⟩)
theorem cfm_nA {X : Nat} {P : Nat → Prop} (h : PH) (c n : Nat) : cfm X P h (nA h c n) := ⟨sm.N h c n, fun _ _ => rfl⟩
theorem lcap_eq {h : PH} {X e : Nat} (r : hR h 1 (X + 26) = some e) (k : hK h e = 55) : lcap h X = hL h e := by
  unfold lcap
  rw [r]
  simp only
  rw [if_pos k]
theorem lcap_0 {h : PH} {X e : Nat} (r : hR h 1 (X + 26) = some e) (k : hK h e = 55 → hL h e = 0) : lcap h X = 0 := by
  unfold lcap
  rw [r]
  simp only
  split
  · rename_i z; exact k z
  · rfl
theorem q_add_ok {X e k v : Nat} {h : PH} {l : List Nat} (a : als h X l e) (dN : X + 57 ≤ hN h) (he : e < hN h) (he2 : e < X ∨ X + 57 ≤ e) (hk : k ≤ l.length) (hl : l.length ≤ 1100) :
    ∃ h1 e1, (∀ (bad : Prop) [Decidable bad], ¬ bad → q_add h (X + 26) k v bad = some h1) ∧ cfm X (aP h X e) h h1 ∧ als h1 X (l.take k ++ v :: l.drop k) e1 ∧ (e1 = e ∨ hN h ≤ e1) ∧ e1 < hN h1 ∧ (e1 < X ∨ X + 57 ≤ e1) ∧ hN h1 + lcap h X ≤ hN h + lcap h1 X ∧ hU h1 + 4 * lcap h X ≤ hU h + 4 * lcap h1 X := by
  obtain ⟨⟨a1, a2⟩, a3⟩ := a
  have hlen : (l.take k ++ v :: l.drop k).length = l.length + 1 := by simp; omega
  have hc : (hI h 2 (X + 26)).toNatClampNeg = l.length := by rw [a1]; exact nI_clamp (by omega)
  have hm : q_mb (hI h 2 (X + 26)) = false := by rw [a1]; exact mb_nI (by omega)
  have hs : hI h 2 (X + 26) + 1 = nI (l.length + 1) := by rw [a1, l_1, nI_add]
  have hb' : ∀ (bad : Prop), ¬ bad → ¬ (bad ∨ q_mb (hI h 2 (X + 26)) = true) := fun bad hb z => by
    rcases z with z | z
    · exact hb z
    · rw [hm] at z; cases z
  have nX : X + 26 ≠ hN h := by omega
  have ne : e ≠ hN h := by omega
  rcases a3 with ⟨z1, z2, z3⟩ | ⟨z1, z2, z3, z4, z5, z6⟩
  · subst z1
    have k0 : k = 0 := by simpa using hk
    subst k0
    have n1 : ¬ (hK h e = 55 ∧ (hI h 2 (X + 26)).toNatClampNeg < hL h e) := fun z => by have := z3 z.1; omega
    have n2 : ¬ (hK h e = 55 ∧ (hI h 2 (X + 26)).toNatClampNeg = hL h e ∧ 2 ≤ hL h e) := fun z => by have := z3 z.1; omega
    have r1 : hR (pR (pI (pI (pB (nA h 55 10) (hN h) (q_ins (fun _ => none) 0 0 v)) 0 (X + 26) (hI h 0 (X + 26) + 1)) 2 (X + 26) (hI h 2 (X + 26) + 1)) 1 (X + 26) (some (hN h))) 1 (X + 26) = some (hN h) := by
      simp (decide := true) only [u_hN_pI, u_hU_pI, u_hK_pI, u_hL_pI, u_hR_pI, u_hJ_pI, u_hA_pI, u_hB_pI, u_hS_pI, u_hN_pR, u_hU_pR, u_hK_pR, u_hL_pR, u_hI_pR, u_hJ_pR, u_hA_pR, u_hB_pR, u_hS_pR, u_hN_pJ, u_hU_pJ, u_hK_pJ, u_hL_pJ, u_hI_pJ, u_hR_pJ, u_hA_pJ, u_hB_pJ, u_hS_pJ, u_hN_pA, u_hU_pA, u_hK_pA, u_hL_pA, u_hI_pA, u_hR_pA, u_hJ_pA, u_hB_pA, u_hS_pA, u_hN_pB, u_hU_pB, u_hK_pB, u_hL_pB, u_hI_pB, u_hR_pB, u_hJ_pB, u_hA_pB, u_hS_pB, u_hL_nO, u_hA_nO, u_hB_nO, u_hS_nO, u_hI_nA, u_hR_nA, u_hJ_nA, u_hS_nA, u_II, u_RR, u_JJ, u_AA, u_BB, u_NO, u_UO, u_KO, u_IO, u_RO, u_JO, u_NN, u_UN, u_KN, u_LN, u_AN, u_BN, if_true]
    have k1 : hK (pR (pI (pI (pB (nA h 55 10) (hN h) (q_ins (fun _ => none) 0 0 v)) 0 (X + 26) (hI h 0 (X + 26) + 1)) 2 (X + 26) (hI h 2 (X + 26) + 1)) 1 (X + 26) (some (hN h))) (hN h) = 55 := by
      simp (decide := true) only [u_hN_pI, u_hU_pI, u_hK_pI, u_hL_pI, u_hR_pI, u_hJ_pI, u_hA_pI, u_hB_pI, u_hS_pI, u_hN_pR, u_hU_pR, u_hK_pR, u_hL_pR, u_hI_pR, u_hJ_pR, u_hA_pR, u_hB_pR, u_hS_pR, u_hN_pJ, u_hU_pJ, u_hK_pJ, u_hL_pJ, u_hI_pJ, u_hR_pJ, u_hA_pJ, u_hB_pJ, u_hS_pJ, u_hN_pA, u_hU_pA, u_hK_pA, u_hL_pA, u_hI_pA, u_hR_pA, u_hJ_pA, u_hB_pA, u_hS_pA, u_hN_pB, u_hU_pB, u_hK_pB, u_hL_pB, u_hI_pB, u_hR_pB, u_hJ_pB, u_hA_pB, u_hS_pB, u_hL_nO, u_hA_nO, u_hB_nO, u_hS_nO, u_hI_nA, u_hR_nA, u_hJ_nA, u_hS_nA, u_II, u_RR, u_JJ, u_AA, u_BB, u_NO, u_UO, u_KO, u_IO, u_RO, u_JO, u_NN, u_UN, u_KN, u_LN, u_AN, u_BN, if_true]
    have l1 : hL (pR (pI (pI (pB (nA h 55 10) (hN h) (q_ins (fun _ => none) 0 0 v)) 0 (X + 26) (hI h 0 (X + 26) + 1)) 2 (X + 26) (hI h 2 (X + 26) + 1)) 1 (X + 26) (some (hN h))) (hN h) = 10 := by
      simp (decide := true) only [u_hN_pI, u_hU_pI, u_hK_pI, u_hL_pI, u_hR_pI, u_hJ_pI, u_hA_pI, u_hB_pI, u_hS_pI, u_hN_pR, u_hU_pR, u_hK_pR, u_hL_pR, u_hI_pR, u_hJ_pR, u_hA_pR, u_hB_pR, u_hS_pR, u_hN_pJ, u_hU_pJ, u_hK_pJ, u_hL_pJ, u_hI_pJ, u_hR_pJ, u_hA_pJ, u_hB_pJ, u_hS_pJ, u_hN_pA, u_hU_pA, u_hK_pA, u_hL_pA, u_hI_pA, u_hR_pA, u_hJ_pA, u_hB_pA, u_hS_pA, u_hN_pB, u_hU_pB, u_hK_pB, u_hL_pB, u_hI_pB, u_hR_pB, u_hJ_pB, u_hA_pB, u_hS_pB, u_hL_nO, u_hA_nO, u_hB_nO, u_hS_nO, u_hI_nA, u_hR_nA, u_hJ_nA, u_hS_nA, u_II, u_RR, u_JJ, u_AA, u_BB, u_NO, u_UO, u_KO, u_IO, u_RO, u_JO, u_NN, u_UN, u_KN, u_LN, u_AN, u_BN, if_true]
    refine ⟨pR (pI (pI (pB (nA h 55 10) (hN h) (q_ins (fun _ => none) 0 0 v)) 0 (X + 26) (hI h 0 (X + 26) + 1)) 2 (X + 26) (hI h 2 (X + 26) + 1)) 1 (X + 26) (some (hN h)), hN h, fun bad _ hb => ?_, ?_, ⟨⟨?_, r1⟩, Or.inr ⟨k1, ?_, ?_, ?_, by omega, fun i hi => ?_⟩⟩, Or.inr (Nat.le_refl _), ?_, Or.inr dN, ?_, ?_⟩
    · unfold q_add
      rw [a2]
      simp only
      rw [if_neg (hb' bad hb), if_neg n1, if_neg n2, if_pos ⟨z2, a1⟩]
    · have c : cfm X (fun x => aP h X e x ∨ x = hN h) h (pR (pI (pI (pB (nA h 55 10) (hN h) (q_ins (fun _ => none) 0 0 v)) 0 (X + 26) (hI h 0 (X + 26) + 1)) 2 (X + 26) (hI h 2 (X + 26) + 1)) 1 (X + 26) (some (hN h))) :=
        ((((cfm_nA h 55 10).tr (cfm.pB _ _ (Or.inr rfl))).tr (cfm.pI _ _ (Or.inl (Or.inl rfl)))).tr (cfm.pI _ _ (Or.inl (Or.inl rfl)))).tr (cfm_pR26 _ _ (Or.inl (Or.inl rfl)))
      exact c.mono (fun x hx z => by rcases z with z | z; exact z; omega)
    · rw [hlen, ← hs]
      simp (decide := true) only [u_hN_pI, u_hU_pI, u_hK_pI, u_hL_pI, u_hR_pI, u_hJ_pI, u_hA_pI, u_hB_pI, u_hS_pI, u_hN_pR, u_hU_pR, u_hK_pR, u_hL_pR, u_hI_pR, u_hJ_pR, u_hA_pR, u_hB_pR, u_hS_pR, u_hN_pJ, u_hU_pJ, u_hK_pJ, u_hL_pJ, u_hI_pJ, u_hR_pJ, u_hA_pJ, u_hB_pJ, u_hS_pJ, u_hN_pA, u_hU_pA, u_hK_pA, u_hL_pA, u_hI_pA, u_hR_pA, u_hJ_pA, u_hB_pA, u_hS_pA, u_hN_pB, u_hU_pB, u_hK_pB, u_hL_pB, u_hI_pB, u_hR_pB, u_hJ_pB, u_hA_pB, u_hS_pB, u_hL_nO, u_hA_nO, u_hB_nO, u_hS_nO, u_hI_nA, u_hR_nA, u_hJ_nA, u_hS_nA, u_II, u_RR, u_JJ, u_AA, u_BB, u_NO, u_UO, u_KO, u_IO, u_RO, u_JO, u_NN, u_UN, u_KN, u_LN, u_AN, u_BN, if_true]
    · rw [hlen, l1]
      simp
    · rw [l1]; omega
    · rw [l1]; omega
    · have := q_ins_at (l := []) (f := fun _ => none) (k := 0) (v := v) (Nat.le_refl _) (fun i hi => absurd hi (Nat.not_lt_zero _)) i hi
      simp (decide := true) only [u_hN_pI, u_hU_pI, u_hK_pI, u_hL_pI, u_hR_pI, u_hJ_pI, u_hA_pI, u_hB_pI, u_hS_pI, u_hN_pR, u_hU_pR, u_hK_pR, u_hL_pR, u_hI_pR, u_hJ_pR, u_hA_pR, u_hB_pR, u_hS_pR, u_hN_pJ, u_hU_pJ, u_hK_pJ, u_hL_pJ, u_hI_pJ, u_hR_pJ, u_hA_pJ, u_hB_pJ, u_hS_pJ, u_hN_pA, u_hU_pA, u_hK_pA, u_hL_pA, u_hI_pA, u_hR_pA, u_hJ_pA, u_hB_pA, u_hS_pA, u_hN_pB, u_hU_pB, u_hK_pB, u_hL_pB, u_hI_pB, u_hR_pB, u_hJ_pB, u_hA_pB, u_hS_pB, u_hL_nO, u_hA_nO, u_hB_nO, u_hS_nO, u_hI_nA, u_hR_nA, u_hJ_nA, u_hS_nA, u_II, u_RR, u_JJ, u_AA, u_BB, u_NO, u_UO, u_KO, u_IO, u_RO, u_JO, u_NN, u_UN, u_KN, u_LN, u_AN, u_BN, if_true]
      exact this
    · show hN h < hN h + 1
      omega
    · rw [lcap_eq r1 k1, l1, lcap_0 a2 z3]
      show hN h + 1 + 0 ≤ _
      omega
    · rw [lcap_eq r1 k1, l1, lcap_0 a2 z3]
      show hU h + 10 + 4 * 0 ≤ _
      omega
  · by_cases c : l.length < hL h e
    · refine ⟨pI (pI (pB h e (q_ins (hB h e) (hI h 2 (X + 26)).toNatClampNeg k v)) 0 (X + 26) (hI h 0 (X + 26) + 1)) 2 (X + 26) (hI h 2 (X + 26) + 1), e, fun bad _ hb => ?_, ?_, ⟨⟨?_, a2⟩, Or.inr ⟨z1, ?_, z3, z4, z5, fun i hi => ?_⟩⟩, Or.inl rfl, he, he2, ?_, ?_⟩
      · unfold q_add
        rw [a2]
        simp only
        rw [if_neg (hb' bad hb), if_pos ⟨z1, by omega⟩]
      · exact ((cfm.pB _ _ (Or.inr ⟨rfl, z1⟩)).tr (cfm.pI _ _ (Or.inl rfl))).tr (cfm.pI _ _ (Or.inl rfl))
      · rw [hlen, ← hs]
        simp (decide := true) only [u_hN_pI, u_hU_pI, u_hK_pI, u_hL_pI, u_hR_pI, u_hJ_pI, u_hA_pI, u_hB_pI, u_hS_pI, u_hN_pR, u_hU_pR, u_hK_pR, u_hL_pR, u_hI_pR, u_hJ_pR, u_hA_pR, u_hB_pR, u_hS_pR, u_hN_pJ, u_hU_pJ, u_hK_pJ, u_hL_pJ, u_hI_pJ, u_hR_pJ, u_hA_pJ, u_hB_pJ, u_hS_pJ, u_hN_pA, u_hU_pA, u_hK_pA, u_hL_pA, u_hI_pA, u_hR_pA, u_hJ_pA, u_hB_pA, u_hS_pA, u_hN_pB, u_hU_pB, u_hK_pB, u_hL_pB, u_hI_pB, u_hR_pB, u_hJ_pB, u_hA_pB, u_hS_pB, u_hL_nO, u_hA_nO, u_hB_nO, u_hS_nO, u_hI_nA, u_hR_nA, u_hJ_nA, u_hS_nA, u_II, u_RR, u_JJ, u_AA, u_BB, u_NO, u_UO, u_KO, u_IO, u_RO, u_JO, u_NN, u_UN, u_KN, u_LN, u_AN, u_BN, if_true]
      · rw [hlen]
        exact c
      · have := q_ins_at (v := v) hk z6 i hi
        rw [← hc] at this
        simp (decide := true) only [u_hN_pI, u_hU_pI, u_hK_pI, u_hL_pI, u_hR_pI, u_hJ_pI, u_hA_pI, u_hB_pI, u_hS_pI, u_hN_pR, u_hU_pR, u_hK_pR, u_hL_pR, u_hI_pR, u_hJ_pR, u_hA_pR, u_hB_pR, u_hS_pR, u_hN_pJ, u_hU_pJ, u_hK_pJ, u_hL_pJ, u_hI_pJ, u_hR_pJ, u_hA_pJ, u_hB_pJ, u_hS_pJ, u_hN_pA, u_hU_pA, u_hK_pA, u_hL_pA, u_hI_pA, u_hR_pA, u_hJ_pA, u_hB_pA, u_hS_pA, u_hN_pB, u_hU_pB, u_hK_pB, u_hL_pB, u_hI_pB, u_hR_pB, u_hJ_pB, u_hA_pB, u_hS_pB, u_hL_nO, u_hA_nO, u_hB_nO, u_hS_nO, u_hI_nA, u_hR_nA, u_hJ_nA, u_hS_nA, u_II, u_RR, u_JJ, u_AA, u_BB, u_NO, u_UO, u_KO, u_IO, u_RO, u_JO, u_NN, u_UN, u_KN, u_LN, u_AN, u_BN, if_true]
        exact this
      · rw [lcap_eq a2 z1, lcap_eq (h := pI (pI (pB h e (q_ins (hB h e) (hI h 2 (X + 26)).toNatClampNeg k v)) 0 (X + 26) (hI h 0 (X + 26) + 1)) 2 (X + 26) (hI h 2 (X + 26) + 1)) a2 z1]
        exact Nat.le_refl _
      · rw [lcap_eq a2 z1, lcap_eq (h := pI (pI (pB h e (q_ins (hB h e) (hI h 2 (X + 26)).toNatClampNeg k v)) 0 (X + 26) (hI h 0 (X + 26) + 1)) 2 (X + 26) (hI h 2 (X + 26) + 1)) a2 z1]
        exact Nat.le_refl _
    · have ce : l.length = hL h e := by omega
      have n1 : ¬ (hK h e = 55 ∧ (hI h 2 (X + 26)).toNatClampNeg < hL h e) := fun z => by omega
      generalize hf : q_ins (va_cpy (hB h e) (fun _ => none) 0 0 (hL h e)) (hI h 2 (X + 26)).toNatClampNeg k v = f
      have r1 : hR (pR (pI (pI (pB (nA h 55 (hL h e + hL h e / 2)) (hN h) f) 0 (X + 26) (hI h 0 (X + 26) + 1)) 2 (X + 26) (hI h 2 (X + 26) + 1)) 1 (X + 26) (some (hN h))) 1 (X + 26) = some (hN h) := by
        simp (decide := true) only [u_hN_pI, u_hU_pI, u_hK_pI, u_hL_pI, u_hR_pI, u_hJ_pI, u_hA_pI, u_hB_pI, u_hS_pI, u_hN_pR, u_hU_pR, u_hK_pR, u_hL_pR, u_hI_pR, u_hJ_pR, u_hA_pR, u_hB_pR, u_hS_pR, u_hN_pJ, u_hU_pJ, u_hK_pJ, u_hL_pJ, u_hI_pJ, u_hR_pJ, u_hA_pJ, u_hB_pJ, u_hS_pJ, u_hN_pA, u_hU_pA, u_hK_pA, u_hL_pA, u_hI_pA, u_hR_pA, u_hJ_pA, u_hB_pA, u_hS_pA, u_hN_pB, u_hU_pB, u_hK_pB, u_hL_pB, u_hI_pB, u_hR_pB, u_hJ_pB, u_hA_pB, u_hS_pB, u_hL_nO, u_hA_nO, u_hB_nO, u_hS_nO, u_hI_nA, u_hR_nA, u_hJ_nA, u_hS_nA, u_II, u_RR, u_JJ, u_AA, u_BB, u_NO, u_UO, u_KO, u_IO, u_RO, u_JO, u_NN, u_UN, u_KN, u_LN, u_AN, u_BN, if_true]
      have k1 : hK (pR (pI (pI (pB (nA h 55 (hL h e + hL h e / 2)) (hN h) f) 0 (X + 26) (hI h 0 (X + 26) + 1)) 2 (X + 26) (hI h 2 (X + 26) + 1)) 1 (X + 26) (some (hN h))) (hN h) = 55 := by
        simp (decide := true) only [u_hN_pI, u_hU_pI, u_hK_pI, u_hL_pI, u_hR_pI, u_hJ_pI, u_hA_pI, u_hB_pI, u_hS_pI, u_hN_pR, u_hU_pR, u_hK_pR, u_hL_pR, u_hI_pR, u_hJ_pR, u_hA_pR, u_hB_pR, u_hS_pR, u_hN_pJ, u_hU_pJ, u_hK_pJ, u_hL_pJ, u_hI_pJ, u_hR_pJ, u_hA_pJ, u_hB_pJ, u_hS_pJ, u_hN_pA, u_hU_pA, u_hK_pA, u_hL_pA, u_hI_pA, u_hR_pA, u_hJ_pA, u_hB_pA, u_hS_pA, u_hN_pB, u_hU_pB, u_hK_pB, u_hL_pB, u_hI_pB, u_hR_pB, u_hJ_pB, u_hA_pB, u_hS_pB, u_hL_nO, u_hA_nO, u_hB_nO, u_hS_nO, u_hI_nA, u_hR_nA, u_hJ_nA, u_hS_nA, u_II, u_RR, u_JJ, u_AA, u_BB, u_NO, u_UO, u_KO, u_IO, u_RO, u_JO, u_NN, u_UN, u_KN, u_LN, u_AN, u_BN, if_true]
      have l1 : hL (pR (pI (pI (pB (nA h 55 (hL h e + hL h e / 2)) (hN h) f) 0 (X + 26) (hI h 0 (X + 26) + 1)) 2 (X + 26) (hI h 2 (X + 26) + 1)) 1 (X + 26) (some (hN h))) (hN h) = hL h e + hL h e / 2 := by
        simp (decide := true) only [u_hN_pI, u_hU_pI, u_hK_pI, u_hL_pI, u_hR_pI, u_hJ_pI, u_hA_pI, u_hB_pI, u_hS_pI, u_hN_pR, u_hU_pR, u_hK_pR, u_hL_pR, u_hI_pR, u_hJ_pR, u_hA_pR, u_hB_pR, u_hS_pR, u_hN_pJ, u_hU_pJ, u_hK_pJ, u_hL_pJ, u_hI_pJ, u_hR_pJ, u_hA_pJ, u_hB_pJ, u_hS_pJ, u_hN_pA, u_hU_pA, u_hK_pA, u_hL_pA, u_hI_pA, u_hR_pA, u_hJ_pA, u_hB_pA, u_hS_pA, u_hN_pB, u_hU_pB, u_hK_pB, u_hL_pB, u_hI_pB, u_hR_pB, u_hJ_pB, u_hA_pB, u_hS_pB, u_hL_nO, u_hA_nO, u_hB_nO, u_hS_nO, u_hI_nA, u_hR_nA, u_hJ_nA, u_hS_nA, u_II, u_RR, u_JJ, u_AA, u_BB, u_NO, u_UO, u_KO, u_IO, u_RO, u_JO, u_NN, u_UN, u_KN, u_LN, u_AN, u_BN, if_true]
      refine ⟨pR (pI (pI (pB (nA h 55 (hL h e + hL h e / 2)) (hN h) f) 0 (X + 26) (hI h 0 (X + 26) + 1)) 2 (X + 26) (hI h 2 (X + 26) + 1)) 1 (X + 26) (some (hN h)), hN h, fun bad _ hb => ?_, ?_, ⟨⟨?_, r1⟩, Or.inr ⟨k1, ?_, ?_, ?_, by omega, fun i hi => ?_⟩⟩, Or.inr (Nat.le_refl _), ?_, Or.inr dN, ?_, ?_⟩
      · unfold q_add
        rw [a2]
        simp only
        rw [if_neg (hb' bad hb), if_neg n1, if_pos ⟨z1, by omega, by omega⟩, hf]
      · have c : cfm X (fun x => aP h X e x ∨ x = hN h) h (pR (pI (pI (pB (nA h 55 (hL h e + hL h e / 2)) (hN h) f) 0 (X + 26) (hI h 0 (X + 26) + 1)) 2 (X + 26) (hI h 2 (X + 26) + 1)) 1 (X + 26) (some (hN h))) :=
          ((((cfm_nA h 55 _).tr (cfm.pB _ _ (Or.inr rfl))).tr (cfm.pI _ _ (Or.inl (Or.inl rfl)))).tr (cfm.pI _ _ (Or.inl (Or.inl rfl)))).tr (cfm_pR26 _ _ (Or.inl (Or.inl rfl)))
        exact c.mono (fun x hx z => by rcases z with z | z; exact z; omega)
      · rw [hlen, ← hs]
        simp (decide := true) only [u_hN_pI, u_hU_pI, u_hK_pI, u_hL_pI, u_hR_pI, u_hJ_pI, u_hA_pI, u_hB_pI, u_hS_pI, u_hN_pR, u_hU_pR, u_hK_pR, u_hL_pR, u_hI_pR, u_hJ_pR, u_hA_pR, u_hB_pR, u_hS_pR, u_hN_pJ, u_hU_pJ, u_hK_pJ, u_hL_pJ, u_hI_pJ, u_hR_pJ, u_hA_pJ, u_hB_pJ, u_hS_pJ, u_hN_pA, u_hU_pA, u_hK_pA, u_hL_pA, u_hI_pA, u_hR_pA, u_hJ_pA, u_hB_pA, u_hS_pA, u_hN_pB, u_hU_pB, u_hK_pB, u_hL_pB, u_hI_pB, u_hR_pB, u_hJ_pB, u_hA_pB, u_hS_pB, u_hL_nO, u_hA_nO, u_hB_nO, u_hS_nO, u_hI_nA, u_hR_nA, u_hJ_nA, u_hS_nA, u_II, u_RR, u_JJ, u_AA, u_BB, u_NO, u_UO, u_KO, u_IO, u_RO, u_JO, u_NN, u_UN, u_KN, u_LN, u_AN, u_BN, if_true]
      · rw [hlen, l1]
        omega
      · rw [l1]; omega
      · rw [l1]; omega
      · have := q_ins_at (v := v) (f := va_cpy (hB h e) (fun _ => none) 0 0 (hL h e)) hk (fun i hi => by
          have := z6 i hi
          unfold va_cpy
          rw [if_pos ⟨by omega, by omega⟩, show 0 + (i - 0) = i by omega]
          exact this) i hi
        rw [← hc, hf] at this
        simp (decide := true) only [u_hN_pI, u_hU_pI, u_hK_pI, u_hL_pI, u_hR_pI, u_hJ_pI, u_hA_pI, u_hB_pI, u_hS_pI, u_hN_pR, u_hU_pR, u_hK_pR, u_hL_pR, u_hI_pR, u_hJ_pR, u_hA_pR, u_hB_pR, u_hS_pR, u_hN_pJ, u_hU_pJ, u_hK_pJ, u_hL_pJ, u_hI_pJ, u_hR_pJ, u_hA_pJ, u_hB_pJ, u_hS_pJ, u_hN_pA, u_hU_pA, u_hK_pA, u_hL_pA, u_hI_pA, u_hR_pA, u_hJ_pA, u_hB_pA, u_hS_pA, u_hN_pB, u_hU_pB, u_hK_pB, u_hL_pB, u_hI_pB, u_hR_pB, u_hJ_pB, u_hA_pB, u_hS_pB, u_hL_nO, u_hA_nO, u_hB_nO, u_hS_nO, u_hI_nA, u_hR_nA, u_hJ_nA, u_hS_nA, u_II, u_RR, u_JJ, u_AA, u_BB, u_NO, u_UO, u_KO, u_IO, u_RO, u_JO, u_NN, u_UN, u_KN, u_LN, u_AN, u_BN, if_true]
        exact this
      · show hN h < hN h + 1
        omega
      · rw [lcap_eq r1 k1, l1, lcap_eq a2 z1]
        show hN h + 1 + _ ≤ _
        omega
      · rw [lcap_eq r1 k1, l1, lcap_eq a2 z1]
        show hU h + (hL h e + hL h e / 2) + _ ≤ _
        omega
theorem ins_getD {α : Type} {l : List α} {d x : α} {p : Nat} (hp : p ≤ l.length) (k : Nat) : (l.take p ++ x :: l.drop p).getD k d = if k < p then l.getD k d else if k = p then x else l.getD (k - 1) d := by
  simp only [List.getD_eq_getElem?_getD]
  by_cases c1 : k < p
  · rw [if_pos c1, List.getElem?_append_left (by simp; omega), List.getElem?_take_of_lt c1]
  · rw [if_neg c1, List.getElem?_append_right (by simp; omega)]
    have e : k - (l.take p).length = k - p := by simp; omega
    rw [e]
    by_cases c2 : k = p
    · rw [if_pos c2, c2, Nat.sub_self]
      rfl
    · rw [if_neg c2, show k - p = (k - 1 - p) + 1 by omega, List.getElem?_cons_succ, List.getElem?_drop, show p + (k - 1 - p) = k - 1 by omega]
theorem bsr_le {L : List Nm} {q : Nm} : ∀ k lo hi, lo ≤ hi → lo ≤ bsr L q k lo hi ∧ bsr L q k lo hi ≤ hi := by
  intro k
  induction k with
  | zero => intro lo hi h; exact ⟨Nat.le_refl _, h⟩
  | succ k ih =>
    intro lo hi h
    rw [bsr]
    by_cases c : lo < hi
    · rw [if_pos c]
      split
      · have := ih ((lo + hi) / 2 + 1) hi (by omega)
        omega
      · have := ih lo ((lo + hi) / 2) (by omega)
        omega
    · rw [if_neg c]
      exact ⟨Nat.le_refl _, h⟩
/-- NameList.add: NAMES and bytes behind it -/
def cAd (gf : Nat) (S : List Nm × Nat) (q : Nm) : List Nm × Nat := if 2000 < S.2 ∨ q ∈ S.1.take gf then S else
  if bsr S.1 q 32 gf S.1.length < S.1.length ∧ q = S.1.getD (bsr S.1 q 32 gf S.1.length) nm0 then S
  else (S.1.take (bsr S.1 q 32 gf S.1.length) ++ q :: S.1.drop (bsr S.1 q 32 gf S.1.length), S.2 + ((nz q).length + 1))
theorem nz_len2 {q : Nm} (h : nok q.2) : 1 ≤ (nz q).length ∧ (nz q).length ≤ 21 := by
  unfold nz nby'
  have h1 := h.1
  have h2 := h.2.1
  cases q.1 with
  | false => simp; omega
  | true =>
    have : (q_tx 0).length = 5 := by decide
    simp [this]; omega
section
variable {g X e gf bs : Nat} {Q : Nat → Prop} {h : PH} {l : List Nat} {L : List Nm}
/-- what the list's calls leave: where the array may be, what was used -/
def lOK (X e e' : Nat) (h h' : PH) : Prop := cfm X (lP h X e) h h' ∧ (e' = e ∨ hN h ≤ e') ∧ hN h' + lcap h X ≤ hN h + lcap h' X ∧ hU h' + 4 * lcap h X ≤ hU h + 4 * lcap h' X
theorem lOK.rf : lOK X e e h h := ⟨cfm.rf _, Or.inl rfl, Nat.le_refl _, Nat.le_refl _⟩
theorem lOK.tr {e1 e2 : Nat} {h1 h2 : PH} (a : lOK X e e1 h h1) (b : lOK X e1 e2 h1 h2) (he : e < hN h) : lOK X e e2 h h2 := by
  obtain ⟨a1, a2, a3, a4⟩ := a
  obtain ⟨b1, b2, b3, b4⟩ := b
  have n1 := a1.1.1
  have n2 := b1.1.1
  have ke := (a1.1.2.2 e he).1
  refine ⟨?_, by omega, by omega, by omega⟩
  have b1' : cfm X (fun x => lP h X e x ∨ hN h ≤ x) h1 h2 := b1.mono (fun x hx z => by
    unfold lP at z ⊢
    rcases z with z | z | z
    · exact Or.inl (Or.inl z)
    · exact Or.inl (Or.inr (Or.inl z))
    · rcases a2 with y | y
      · rw [y, ke] at z
        exact Or.inl (Or.inr (Or.inr z))
      · exact Or.inr (by omega))
  exact ((a1.mono (fun x _ z => Or.inl z)).tr b1').mono (fun x hx z => by rcases z with z | z; exact z; omega)
theorem l_add {u : Nat} {q : Nm} (d : cl h X) (hQ : ∀ x, Q x → X + 57 ≤ x ∧ x < hN h) (N : nls Q h X l e L gf bs) (hu : Q u) (hq : nm_ h u q.1 q.2) :
    ∃ h' l' e', cal g mX3_add [va_rf (some (X + 25)), va_rf (some u)] h = some (none, h') ∧ lOK X e e' h h' ∧ nls Q h' X l' e' (cAd gf (L, bs) q).1 gf (cAd gf (L, bs) q).2 := by
  have N0 := N
  have et := l_tooLong (g := g) d N
  have ec := l_isInClosed (g := g) d N hq
  have dN := d.1
  have k2 := hq.1
  rw [n_X3_add]
  unfold cAd
  simp only
  by_cases c1 : 2000 < bs
  · rw [if_pos (Or.inl c1)]
    refine ⟨h, l, e, ?_, lOK.rf, N⟩
    rw [decide_eq_true c1, bI_t] at et
    simp (decide := true) (disch := omega) only [e_X3_add_0, e_X3_add_1, e_X3_add_4, e_X3_add_5, e_X3_add_8, e_X3_add_11, e_X3_add_12, e_X3_add_13, e_X3_add_16, e_X3_add_19, e_X3_add_20, ↓reduceIte, if_true, if_false, reduceCtorEq, Nat.reduceAdd, true_and, and_true, false_and, and_false, true_or, or_true, false_or, or_false, not_true_eq_false, not_false_eq_true, Option.bind_eq_bind, Option.bind_some, psh, eq_self, l_0, l_1, l_2, l_3, l_4, l_5, l_6, l_7, l_8, l_9, l_10, l_11, l_12, l_13, l_14, l_15, l_16, l_17, l_18, l_19, l_20, l_24, l_31, l_32, l_33, l_35, l_36, l_48, l_56, l_57, l_58, l_63, l_65, l_80, l_81, l_90, l_91, l_93, l_94, l_95, l_97, l_100, l_105, l_107, l_110, l_111, l_116, l_120, l_121, l_122, l_123, l_124, l_125, l_126, l_162, l_255, l_300, l_400, l_420, l_432, l_1000, l_1400, l_1936, l_2000, l_2100, l_2400, l_24000, m_n1, m_n2, m_n3, nI_mul, nI_add, nI_sub, nI_ltT, nI_ltF, nI_leT, nI_leF, nI_eqT, nI_eqF, nI_nM, nM_nI, nM_eq, nM_lt, nM_le, nI_ltM, nI_leM, nI_inT, nI_dec, pk_rem, nI_ltI, nI_leI, nI_eq, nI_clamp, Nat.add_assoc, q_bv51, Nat.add_left_cancel_iff, clK_0 d, clK_1 d, clK_3 d, clK_5 d, clK_7 d, clK_8 d, clK_9 d, clK_11 d, clK_12 d, clK_13 d, clK_14 d, clK_15 d, clK_16 d, clK_18 d, clK_20 d, clK_21 d, clK_22 d, clK_23 d, clK_24 d, clK_25 d, clK_26 d, clR_0_0 d, clR_1_0 d, clR_2_0 d, clR_3_0 d, clR_7_0 d, clR_8_0 d, clR_9_0 d, clR_10_0 d, clR_11_0 d, clR_0_8 d, clR_0_11 d, clR_1_11 d, clR_2_11 d, clR_0_15 d, clR_1_15 d, clR_2_15 d, clR_3_15 d, clR_4_15 d, clR_5_15 d, clR_0_23 d, clR_1_23 d, clR_0_25 d, clL_7 d, clL_12 d, clL_13 d, clL_14 d, clL_20 d, clL_21 d, clL_22 d, clL_24 d, clS_0 d, clS_1 d, clS_2 d, clS_3 d, reduceCtorEq, et]
  · rw [decide_eq_false c1, bI_f] at et
    by_cases c2 : q ∈ L.take gf
    · rw [if_pos (Or.inr c2)]
      refine ⟨h, l, e, ?_, lOK.rf, N⟩
      rw [decide_eq_true c2, bI_t] at ec
      simp (decide := true) (disch := omega) only [e_X3_add_0, e_X3_add_1, e_X3_add_4, e_X3_add_5, e_X3_add_8, e_X3_add_11, e_X3_add_12, e_X3_add_13, e_X3_add_16, e_X3_add_19, e_X3_add_20, ↓reduceIte, if_true, if_false, reduceCtorEq, Nat.reduceAdd, true_and, and_true, false_and, and_false, true_or, or_true, false_or, or_false, not_true_eq_false, not_false_eq_true, Option.bind_eq_bind, Option.bind_some, psh, eq_self, l_0, l_1, l_2, l_3, l_4, l_5, l_6, l_7, l_8, l_9, l_10, l_11, l_12, l_13, l_14, l_15, l_16, l_17, l_18, l_19, l_20, l_24, l_31, l_32, l_33, l_35, l_36, l_48, l_56, l_57, l_58, l_63, l_65, l_80, l_81, l_90, l_91, l_93, l_94, l_95, l_97, l_100, l_105, l_107, l_110, l_111, l_116, l_120, l_121, l_122, l_123, l_124, l_125, l_126, l_162, l_255, l_300, l_400, l_420, l_432, l_1000, l_1400, l_1936, l_2000, l_2100, l_2400, l_24000, m_n1, m_n2, m_n3, nI_mul, nI_add, nI_sub, nI_ltT, nI_ltF, nI_leT, nI_leF, nI_eqT, nI_eqF, nI_nM, nM_nI, nM_eq, nM_lt, nM_le, nI_ltM, nI_leM, nI_inT, nI_dec, pk_rem, nI_ltI, nI_leI, nI_eq, nI_clamp, Nat.add_assoc, q_bv51, Nat.add_left_cancel_iff, clK_0 d, clK_1 d, clK_3 d, clK_5 d, clK_7 d, clK_8 d, clK_9 d, clK_11 d, clK_12 d, clK_13 d, clK_14 d, clK_15 d, clK_16 d, clK_18 d, clK_20 d, clK_21 d, clK_22 d, clK_23 d, clK_24 d, clK_25 d, clK_26 d, clR_0_0 d, clR_1_0 d, clR_2_0 d, clR_3_0 d, clR_7_0 d, clR_8_0 d, clR_9_0 d, clR_10_0 d, clR_11_0 d, clR_0_8 d, clR_0_11 d, clR_1_11 d, clR_2_11 d, clR_0_15 d, clR_1_15 d, clR_2_15 d, clR_3_15 d, clR_4_15 d, clR_5_15 d, clR_0_23 d, clR_1_23 d, clR_0_25 d, clL_7 d, clL_12 d, clL_13 d, clL_14 d, clL_20 d, clL_21 d, clL_22 d, clL_24 d, clS_0 d, clS_1 d, clS_2 d, clS_3 d, reduceCtorEq, et, ec]
    · rw [decide_eq_false c2, bI_f] at ec
      rw [if_neg (by rintro (z | z); exact c1 z; exact c2 z)]
      obtain ⟨⟨A, e1, e2, e3⟩, ⟨b1, b2⟩, ⟨g1, g2⟩, g3, g4, g5⟩ := N
      have a1 := A.1.1
      rw [b1] at a1
      obtain ⟨hi', s', l5', l6', eb⟩ := l_bs (g := g) d N0 hq 32 0 gf L.length none none (by omega) g3 (Nat.le_refl _)
      obtain ⟨p1, p2⟩ := bsr_le (L := L) (q := q) 32 gf L.length g3
      generalize bsr L q 32 gf L.length = p at *
      have en := l_nameAt (g := g) (k := p) d N0 (by omega)
      have j0 := j10 (pc := 29) (ls := [some (va_rf (some (X + 25))), some (va_rf (some u)), some (.int (nI gf)), none, none, none, none]) (r := []) (clK_26 d)
      rw [a1] at j0
      have hd : ev g mX3_add 0 [some (va_rf (some (X + 25))), some (va_rf (some u)), none, none, none, none, none] [] h = ev g mX3_add 94 [some (va_rf (some (X + 25))), some (va_rf (some u)), some (.int (nI p)), hi', s', l5', l6'] [] h := by
        rw [← eb]
        simp (decide := true) (disch := omega) only [e_X3_add_0, e_X3_add_1, e_X3_add_4, e_X3_add_5, e_X3_add_8, e_X3_add_11, e_X3_add_12, e_X3_add_13, e_X3_add_16, e_X3_add_19, e_X3_add_20, e_X3_add_21, e_X3_add_24, e_X3_add_25, e_X3_add_26, e_X3_add_29, e_X3_add_32, e_X3_add_33, e_X3_add_34, ↓reduceIte, if_true, if_false, reduceCtorEq, Nat.reduceAdd, true_and, and_true, false_and, and_false, true_or, or_true, false_or, or_false, not_true_eq_false, not_false_eq_true, Option.bind_eq_bind, Option.bind_some, psh, eq_self, l_0, l_1, l_2, l_3, l_4, l_5, l_6, l_7, l_8, l_9, l_10, l_11, l_12, l_13, l_14, l_15, l_16, l_17, l_18, l_19, l_20, l_24, l_31, l_32, l_33, l_35, l_36, l_48, l_56, l_57, l_58, l_63, l_65, l_80, l_81, l_90, l_91, l_93, l_94, l_95, l_97, l_100, l_105, l_107, l_110, l_111, l_116, l_120, l_121, l_122, l_123, l_124, l_125, l_126, l_162, l_255, l_300, l_400, l_420, l_432, l_1000, l_1400, l_1936, l_2000, l_2100, l_2400, l_24000, m_n1, m_n2, m_n3, nI_mul, nI_add, nI_sub, nI_ltT, nI_ltF, nI_leT, nI_leF, nI_eqT, nI_eqF, nI_nM, nM_nI, nM_eq, nM_lt, nM_le, nI_ltM, nI_leM, nI_inT, nI_dec, pk_rem, nI_ltI, nI_leI, nI_eq, nI_clamp, Nat.add_assoc, q_bv51, Nat.add_left_cancel_iff, clK_0 d, clK_1 d, clK_3 d, clK_5 d, clK_7 d, clK_8 d, clK_9 d, clK_11 d, clK_12 d, clK_13 d, clK_14 d, clK_15 d, clK_16 d, clK_18 d, clK_20 d, clK_21 d, clK_22 d, clK_23 d, clK_24 d, clK_25 d, clK_26 d, clR_0_0 d, clR_1_0 d, clR_2_0 d, clR_3_0 d, clR_7_0 d, clR_8_0 d, clR_9_0 d, clR_10_0 d, clR_11_0 d, clR_0_8 d, clR_0_11 d, clR_1_11 d, clR_2_11 d, clR_0_15 d, clR_1_15 d, clR_2_15 d, clR_3_15 d, clR_4_15 d, clR_5_15 d, clR_0_23 d, clR_1_23 d, clR_0_25 d, clL_7 d, clL_12 d, clL_13 d, clL_14 d, clL_20 d, clL_21 d, clL_22 d, clL_24 d, clS_0 d, clS_1 d, clS_2 d, clS_3 d, reduceCtorEq, et, ec, g1, j0]
      rw [hd]
      have j1 : ∀ ls r, q_j10 115 ls (va_rf (some (X + 26)) :: r) h = some (118, ls, .int (nI L.length) :: r, h) := fun ls r => by
        have := j10 (pc := 115) (ls := ls) (r := r) (clK_26 d)
        rw [a1] at this
        exact this
      by_cases c3 : p < L.length ∧ q = L.getD p nm0
      · rw [if_pos c3]
        refine ⟨h, l, e, ?_, lOK.rf, N0⟩
        rw [if_pos c3.1] at en
        obtain ⟨q1, q2⟩ := b2 p c3.1
        have es := n_same (g := g) hq q2
        rw [if_pos (by rw [← c3.2]; exact ⟨rfl, rfl⟩)] at es
        simp (decide := true) (disch := omega) only [e_X3_add_94, e_X3_add_95, e_X3_add_96, e_X3_add_97, e_X3_add_100, e_X3_add_103, e_X3_add_106, e_X3_add_107, e_X3_add_110, e_X3_add_111, e_X3_add_112, e_X3_add_115, e_X3_add_118, e_X3_add_121, e_X3_add_122, e_X3_add_125, e_X3_add_126, e_X3_add_127, e_X3_add_130, e_X3_add_131, e_X3_add_132, e_X3_add_135, e_X3_add_136, e_X3_add_139, e_X3_add_140, e_X3_add_141, e_X3_add_142, e_X3_add_145, ↓reduceIte, if_true, if_false, reduceCtorEq, Nat.reduceAdd, true_and, and_true, false_and, and_false, true_or, or_true, false_or, or_false, not_true_eq_false, not_false_eq_true, Option.bind_eq_bind, Option.bind_some, psh, eq_self, l_0, l_1, l_2, l_3, l_4, l_5, l_6, l_7, l_8, l_9, l_10, l_11, l_12, l_13, l_14, l_15, l_16, l_17, l_18, l_19, l_20, l_24, l_31, l_32, l_33, l_35, l_36, l_48, l_56, l_57, l_58, l_63, l_65, l_80, l_81, l_90, l_91, l_93, l_94, l_95, l_97, l_100, l_105, l_107, l_110, l_111, l_116, l_120, l_121, l_122, l_123, l_124, l_125, l_126, l_162, l_255, l_300, l_400, l_420, l_432, l_1000, l_1400, l_1936, l_2000, l_2100, l_2400, l_24000, m_n1, m_n2, m_n3, nI_mul, nI_add, nI_sub, nI_ltT, nI_ltF, nI_leT, nI_leF, nI_eqT, nI_eqF, nI_nM, nM_nI, nM_eq, nM_lt, nM_le, nI_ltM, nI_leM, nI_inT, nI_dec, pk_rem, nI_ltI, nI_leI, nI_eq, nI_clamp, Nat.add_assoc, q_bv51, Nat.add_left_cancel_iff, clK_0 d, clK_1 d, clK_3 d, clK_5 d, clK_7 d, clK_8 d, clK_9 d, clK_11 d, clK_12 d, clK_13 d, clK_14 d, clK_15 d, clK_16 d, clK_18 d, clK_20 d, clK_21 d, clK_22 d, clK_23 d, clK_24 d, clK_25 d, clK_26 d, clR_0_0 d, clR_1_0 d, clR_2_0 d, clR_3_0 d, clR_7_0 d, clR_8_0 d, clR_9_0 d, clR_10_0 d, clR_11_0 d, clR_0_8 d, clR_0_11 d, clR_1_11 d, clR_2_11 d, clR_0_15 d, clR_1_15 d, clR_2_15 d, clR_3_15 d, clR_4_15 d, clR_5_15 d, clR_0_23 d, clR_1_23 d, clR_0_25 d, clL_7 d, clL_12 d, clL_13 d, clL_14 d, clL_20 d, clL_21 d, clL_22 d, clL_24 d, clS_0 d, clS_1 d, clS_2 d, clS_3 d, en, k2, es]
      · rw [if_neg c3]
        have es : cal g mX2_same [va_rf (some u), va_rf (if p < L.length then some (l.getD p 0) else none)] h = some (some (.int (nI 0)), h) := by
          by_cases c4 : p < L.length
          · rw [if_pos c4]
            obtain ⟨q1, q2⟩ := b2 p c4
            have es := n_same (g := g) hq q2
            rw [if_neg (fun z => c3 ⟨c4, Prod.ext z.1 z.2⟩)] at es
            exact es
          · rw [if_neg c4]
            exact n_sameN
        obtain ⟨h1, e', ea, s1, A1, f1, f2, f3, n1, u1⟩ := q_add_ok (v := u) A dN e2 e3 (k := p) (by omega) (by omega)
        have d1 := d.keep s1
        have P25 : ¬ aP h X e (X + 25) := by unfold aP; omega
        have t25 := ((s1.1.2.2 (X + 25) (by omega)).2.2 P25).1
        have hQe : ∀ x, Q x → ¬ lP h X e x := fun x hx z => by
          have := hQ x hx
          unfold lP at z
          rcases z with z | z | z
          · omega
          · omega
          · rw [z.1] at hx; exact e1 hx
        have s1' : cfm X (lP h X e) h h1 := s1.mono (fun x _ z => Or.inr z)
        have hq1 := hq.keep s1'.1 (hQ u hu).2 (hQe u hu)
        have k2' := hq1.1
        have el := n_length (g := g) hq1 (clS_0 d1)
        have g2' : hI h1 2 (X + 25) = nI bs := by rw [t25]; exact g2
        have j7 : ∀ ls, q_j7 127 ls [va_rf (some u), .int (nI p), va_rf (some (X + 26))] h = some (130, ls, [], h1) := fun ls => by
          rw [j7_eq, if_pos ⟨clK_26 d, k2⟩, nI_clamp (by omega), ea _ (by
            rw [a1]
            rintro (z | z)
            · exact nI_pos (by omega) z
            · rw [nI_ltF (by omega) (by omega)] at z; exact z)]
        have s2 : cfm X (lP h X e) h (pI h1 2 (X + 25) (nI (bs + ((nz q).length + 1)))) := s1'.tr (cfm.pI _ _ (Or.inl rfl))
        have hnz := nz_len2 hq.2.2.2.2
        refine ⟨pI h1 2 (X + 25) (nI (bs + ((nz q).length + 1))), l.take p ++ u :: l.drop p, e', ?_, ⟨s2, f1, ?_, ?_⟩, ⟨⟨⟨⟨?_, A1.1.2⟩, A1.2⟩, ?_, f2, f3⟩, ⟨?_, fun k hk => ?_⟩, ⟨?_, ?_⟩, ?_, ?_, by omega⟩⟩
        · simp (decide := true) (disch := omega) only [e_X3_add_94, e_X3_add_95, e_X3_add_96, e_X3_add_97, e_X3_add_100, e_X3_add_103, e_X3_add_106, e_X3_add_107, e_X3_add_110, e_X3_add_111, e_X3_add_112, e_X3_add_115, e_X3_add_118, e_X3_add_121, e_X3_add_122, e_X3_add_125, e_X3_add_126, e_X3_add_127, e_X3_add_130, e_X3_add_131, e_X3_add_132, e_X3_add_135, e_X3_add_136, e_X3_add_139, e_X3_add_140, e_X3_add_141, e_X3_add_142, e_X3_add_145, ↓reduceIte, if_true, if_false, reduceCtorEq, Nat.reduceAdd, true_and, and_true, false_and, and_false, true_or, or_true, false_or, or_false, not_true_eq_false, not_false_eq_true, Option.bind_eq_bind, Option.bind_some, psh, eq_self, l_0, l_1, l_2, l_3, l_4, l_5, l_6, l_7, l_8, l_9, l_10, l_11, l_12, l_13, l_14, l_15, l_16, l_17, l_18, l_19, l_20, l_24, l_31, l_32, l_33, l_35, l_36, l_48, l_56, l_57, l_58, l_63, l_65, l_80, l_81, l_90, l_91, l_93, l_94, l_95, l_97, l_100, l_105, l_107, l_110, l_111, l_116, l_120, l_121, l_122, l_123, l_124, l_125, l_126, l_162, l_255, l_300, l_400, l_420, l_432, l_1000, l_1400, l_1936, l_2000, l_2100, l_2400, l_24000, m_n1, m_n2, m_n3, nI_mul, nI_add, nI_sub, nI_ltT, nI_ltF, nI_leT, nI_leF, nI_eqT, nI_eqF, nI_nM, nM_nI, nM_eq, nM_lt, nM_le, nI_ltM, nI_leM, nI_inT, nI_dec, pk_rem, nI_ltI, nI_leI, nI_eq, nI_clamp, Nat.add_assoc, q_bv51, Nat.add_left_cancel_iff, clK_0 d, clK_1 d, clK_3 d, clK_5 d, clK_7 d, clK_8 d, clK_9 d, clK_11 d, clK_12 d, clK_13 d, clK_14 d, clK_15 d, clK_16 d, clK_18 d, clK_20 d, clK_21 d, clK_22 d, clK_23 d, clK_24 d, clK_25 d, clK_26 d, clR_0_0 d, clR_1_0 d, clR_2_0 d, clR_3_0 d, clR_7_0 d, clR_8_0 d, clR_9_0 d, clR_10_0 d, clR_11_0 d, clR_0_8 d, clR_0_11 d, clR_1_11 d, clR_2_11 d, clR_0_15 d, clR_1_15 d, clR_2_15 d, clR_3_15 d, clR_4_15 d, clR_5_15 d, clR_0_23 d, clR_1_23 d, clR_0_25 d, clL_7 d, clL_12 d, clL_13 d, clL_14 d, clL_20 d, clL_21 d, clL_22 d, clL_24 d, clS_0 d, clS_1 d, clS_2 d, clS_3 d, en, k2, es, j1, j7, clK_0 d1, clK_1 d1, clK_3 d1, clK_5 d1, clK_7 d1, clK_8 d1, clK_9 d1, clK_11 d1, clK_12 d1, clK_13 d1, clK_14 d1, clK_15 d1, clK_16 d1, clK_18 d1, clK_20 d1, clK_21 d1, clK_22 d1, clK_23 d1, clK_24 d1, clK_25 d1, clK_26 d1, clR_0_0 d1, clR_1_0 d1, clR_2_0 d1, clR_3_0 d1, clR_7_0 d1, clR_8_0 d1, clR_9_0 d1, clR_10_0 d1, clR_11_0 d1, clR_0_8 d1, clR_0_11 d1, clR_1_11 d1, clR_2_11 d1, clR_0_15 d1, clR_1_15 d1, clR_2_15 d1, clR_3_15 d1, clR_4_15 d1, clR_5_15 d1, clR_0_23 d1, clR_1_23 d1, clR_0_25 d1, clL_7 d1, clL_12 d1, clL_13 d1, clL_14 d1, clL_20 d1, clL_21 d1, clL_22 d1, clL_24 d1, clS_0 d1, clS_1 d1, clS_2 d1, clS_3 d1, g2', k2', el]
          rfl
        · exact n1
        · exact u1
        · have := A1.1.1
          simp (decide := true) only [u_hN_pI, u_hU_pI, u_hK_pI, u_hL_pI, u_hR_pI, u_hJ_pI, u_hA_pI, u_hB_pI, u_hS_pI, u_hN_pR, u_hU_pR, u_hK_pR, u_hL_pR, u_hI_pR, u_hJ_pR, u_hA_pR, u_hB_pR, u_hS_pR, u_hN_pJ, u_hU_pJ, u_hK_pJ, u_hL_pJ, u_hI_pJ, u_hR_pJ, u_hA_pJ, u_hB_pJ, u_hS_pJ, u_hN_pA, u_hU_pA, u_hK_pA, u_hL_pA, u_hI_pA, u_hR_pA, u_hJ_pA, u_hB_pA, u_hS_pA, u_hN_pB, u_hU_pB, u_hK_pB, u_hL_pB, u_hI_pB, u_hR_pB, u_hJ_pB, u_hA_pB, u_hS_pB, u_hL_nO, u_hA_nO, u_hB_nO, u_hS_nO, u_hI_nA, u_hR_nA, u_hJ_nA, u_hS_nA, u_II, u_RR, u_JJ, u_AA, u_BB, u_NO, u_UO, u_KO, u_IO, u_RO, u_JO, u_NN, u_UN, u_KN, u_LN, u_AN, u_BN, if_true, if_false, show ¬ (X + 26 = X + 25) by omega]
          exact this
        · rcases f1 with z | z
          · rw [z]; exact e1
          · intro y; have := hQ e' y; omega
        · simp only [List.length_append, List.length_take, List.length_cons, List.length_drop]; omega
        · have hp' : p ≤ l.length := by omega
          rw [ins_getD hp', ins_getD p2]
          simp only [List.length_append, List.length_take, List.length_cons, List.length_drop] at hk
          have go : ∀ j, j < L.length → Q (l.getD j 0) ∧ nm_ (pI h1 2 (X + 25) (nI (bs + ((nz q).length + 1)))) (l.getD j 0) (L.getD j nm0).1 (L.getD j nm0).2 := fun j hj => by
            obtain ⟨q1, q2⟩ := b2 j hj
            exact ⟨q1, q2.keep s2.1 (hQ _ q1).2 (hQe _ q1)⟩
          by_cases c4 : k < p
          · rw [if_pos c4, if_pos c4]
            exact go k (by omega)
          · rw [if_neg c4, if_neg c4]
            by_cases c5 : k = p
            · rw [if_pos c5, if_pos c5]
              exact ⟨hu, hq.keep s2.1 (hQ u hu).2 (hQe u hu)⟩
            · rw [if_neg c5, if_neg c5]
              exact go (k - 1) (by omega)
        · simp (decide := true) only [u_hN_pI, u_hU_pI, u_hK_pI, u_hL_pI, u_hR_pI, u_hJ_pI, u_hA_pI, u_hB_pI, u_hS_pI, u_hN_pR, u_hU_pR, u_hK_pR, u_hL_pR, u_hI_pR, u_hJ_pR, u_hA_pR, u_hB_pR, u_hS_pR, u_hN_pJ, u_hU_pJ, u_hK_pJ, u_hL_pJ, u_hI_pJ, u_hR_pJ, u_hA_pJ, u_hB_pJ, u_hS_pJ, u_hN_pA, u_hU_pA, u_hK_pA, u_hL_pA, u_hI_pA, u_hR_pA, u_hJ_pA, u_hB_pA, u_hS_pA, u_hN_pB, u_hU_pB, u_hK_pB, u_hL_pB, u_hI_pB, u_hR_pB, u_hJ_pB, u_hA_pB, u_hS_pB, u_hL_nO, u_hA_nO, u_hB_nO, u_hS_nO, u_hI_nA, u_hR_nA, u_hJ_nA, u_hS_nA, u_II, u_RR, u_JJ, u_AA, u_BB, u_NO, u_UO, u_KO, u_IO, u_RO, u_JO, u_NN, u_UN, u_KN, u_LN, u_AN, u_BN, if_true, if_false]
          rw [t25]
          exact g1
        · simp (decide := true) only [u_hN_pI, u_hU_pI, u_hK_pI, u_hL_pI, u_hR_pI, u_hJ_pI, u_hA_pI, u_hB_pI, u_hS_pI, u_hN_pR, u_hU_pR, u_hK_pR, u_hL_pR, u_hI_pR, u_hJ_pR, u_hA_pR, u_hB_pR, u_hS_pR, u_hN_pJ, u_hU_pJ, u_hK_pJ, u_hL_pJ, u_hI_pJ, u_hR_pJ, u_hA_pJ, u_hB_pJ, u_hS_pJ, u_hN_pA, u_hU_pA, u_hK_pA, u_hL_pA, u_hI_pA, u_hR_pA, u_hJ_pA, u_hB_pA, u_hS_pA, u_hN_pB, u_hU_pB, u_hK_pB, u_hL_pB, u_hI_pB, u_hR_pB, u_hJ_pB, u_hA_pB, u_hS_pB, u_hL_nO, u_hA_nO, u_hB_nO, u_hS_nO, u_hI_nA, u_hR_nA, u_hJ_nA, u_hS_nA, u_II, u_RR, u_JJ, u_AA, u_BB, u_NO, u_UO, u_KO, u_IO, u_RO, u_JO, u_NN, u_UN, u_KN, u_LN, u_AN, u_BN, if_true]
        · simp only [List.length_append, List.length_take, List.length_cons, List.length_drop]; omega
        · simp only [List.length_append, List.length_take, List.length_cons, List.length_drop]; omega
end
