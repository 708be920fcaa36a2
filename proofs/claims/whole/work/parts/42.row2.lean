/-- the byte that an int is stored as -/
def bt (v : Int32) : Nat := v.toBitVec.toNat % 256
theorem bt_lt (v : Int32) : bt v < 256 := Nat.mod_lt _ (by decide)
theorem bt_nI {n : Nat} (h : n < 256) : bt (nI n) = n := by
  unfold bt
  rw [pk_tn (by omega)]
  exact Nat.mod_eq_of_lt h
theorem bt_b (v : Int32) : v.toInt8.toInt32 = sb_b (bt v) := by
  unfold sb_b bt
  congr 1
  apply Int8.toBitVec_inj.mp
  show v.toBitVec.signExtend 8 = (nI (v.toBitVec.toNat % 256)).toBitVec.signExtend 8
  rw [BitVec.signExtend_eq_setWidth_of_le _ (by decide), BitVec.signExtend_eq_setWidth_of_le _ (by decide)]
  apply BitVec.eq_of_toNat_eq
  rw [BitVec.toNat_setWidth, BitVec.toNat_setWidth, pk_tn (by omega)]
  omega
theorem r_ab {h : PH} {a b cap bd : Nat} {l : List Nat} {o : Int32} (r : rw_ h a b cap bd l o) : a ≠ b := fun z => by
  have h1 := r.1.1
  have h2 := r.1.2.2.1
  rw [z] at h1
  omega
/-- a row's own cells -/
def rP (a b : Nat) : Nat → Prop := fun x => x = a ∨ x = b
theorem getD_append_lt {l t : List Nat} {i : Nat} (h : i < l.length) : (l ++ t).getD i 0 = l.getD i 0 := by
  simp [List.getD_eq_getElem?_getD, List.getElem?_append_left h]
theorem getD_append_ge {l t : List Nat} {i : Nat} (h : l.length ≤ i) : (l ++ t).getD i 0 = t.getD (i - l.length) 0 := by
  simp [List.getD_eq_getElem?_getD, List.getElem?_append_right h]
theorem r_put {g : Nat} {h : PH} {a b cap bd : Nat} {l : List Nat} {o v : Int32} (r : rw_ h a b cap bd l o) :
    ∃ h', cal g mX6_put [va_rf (some a), .int v] h = some (none, h') ∧ rw_ h' a b cap bd (if l.length < bd then l ++ [bt v] else l) (if l.length < bd then o else 1) ∧ sm (rP a b) h h' ∧ hN h' = hN h ∧ hU h' = hU h := by
  have hab := r_ab r
  obtain ⟨⟨r1, r2, r3, r4⟩, ⟨r5, r6, r7⟩, ⟨r8, r8b, r8c⟩, r9, r10⟩ := r
  rw [n_X6_put]
  simp only [e_X6_put_0, e_X6_put_1, e_X6_put_4, e_X6_put_5, e_X6_put_8, e_X6_put_11, e_X6_put_12, e_X6_put_15, e_X6_put_16, e_X6_put_19, e_X6_put_20, e_X6_put_23, e_X6_put_24, e_X6_put_25, e_X6_put_28, e_X6_put_29, e_X6_put_30, e_X6_put_33, e_X6_put_34, e_X6_put_37, e_X6_put_38, e_X6_put_39, e_X6_put_40, e_X6_put_41, e_X6_put_42, e_X6_put_45, e_X6_put_46, e_X6_put_47, e_X6_put_50, r1, r2, r3, r4, r5, r6, if_true, u_hN_pI, u_hU_pI, u_hK_pI, u_hL_pI, u_hR_pI, u_hJ_pI, u_hA_pI, u_hB_pI, u_hS_pI, u_hN_pR, u_hU_pR, u_hK_pR, u_hL_pR, u_hI_pR, u_hJ_pR, u_hA_pR, u_hB_pR, u_hS_pR, u_hN_pJ, u_hU_pJ, u_hK_pJ, u_hL_pJ, u_hI_pJ, u_hR_pJ, u_hA_pJ, u_hB_pJ, u_hS_pJ, u_hN_pA, u_hU_pA, u_hK_pA, u_hL_pA, u_hI_pA, u_hR_pA, u_hJ_pA, u_hB_pA, u_hS_pA, u_hN_pB, u_hU_pB, u_hK_pB, u_hL_pB, u_hI_pB, u_hR_pB, u_hJ_pB, u_hA_pB, u_hS_pB, u_hL_nO, u_hA_nO, u_hB_nO, u_hS_nO, u_hI_nA, u_hR_nA, u_hJ_nA, u_hS_nA, u_II, u_RR, u_JJ, u_AA, u_BB, u_NO, u_UO, u_KO, u_IO, u_RO, u_JO, u_NN, u_UN, u_KN, u_LN, u_AN, u_BN]
  by_cases z : l.length < bd
  · have z1 : ¬ nI bd ≤ nI l.length := nI_ge z (by omega)
    have z2 : nI l.length < nI cap := nI_lt (by omega) (by omega)
    have z4 : q_in (nI l.length) cap = True := eq_true (vp_in_nI (by omega) (by omega))
    have e1 : (nI l.length).toNatClampNeg = l.length := nI_clamp (by omega)
    have e2 : v.toInt8.toInt32.toInt8.toInt32 = v.toInt8.toInt32 := pk_vb v
    simp (decide := true) only [z, z1, z2, z4, if_true, if_false, e1, e2, hab.symm, hab, q_bv, true_and, true_or]
    refine ⟨_, rfl, ⟨⟨r1, r2, r3, r4⟩, ⟨?_, ?_, ?_⟩, ⟨by simp; omega, r8b, r8c⟩, fun i hi => ?_, fun x hx => ?_⟩, ?_, rfl, rfl⟩
    · simp only [u_hN_pI, u_hU_pI, u_hK_pI, u_hL_pI, u_hR_pI, u_hJ_pI, u_hA_pI, u_hB_pI, u_hS_pI, u_hN_pR, u_hU_pR, u_hK_pR, u_hL_pR, u_hI_pR, u_hJ_pR, u_hA_pR, u_hB_pR, u_hS_pR, u_hN_pJ, u_hU_pJ, u_hK_pJ, u_hL_pJ, u_hI_pJ, u_hR_pJ, u_hA_pJ, u_hB_pJ, u_hS_pJ, u_hN_pA, u_hU_pA, u_hK_pA, u_hL_pA, u_hI_pA, u_hR_pA, u_hJ_pA, u_hB_pA, u_hS_pA, u_hN_pB, u_hU_pB, u_hK_pB, u_hL_pB, u_hI_pB, u_hR_pB, u_hJ_pB, u_hA_pB, u_hS_pB, u_hL_nO, u_hA_nO, u_hB_nO, u_hS_nO, u_hI_nA, u_hR_nA, u_hJ_nA, u_hS_nA, u_II, u_RR, u_JJ, u_AA, u_BB, u_NO, u_UO, u_KO, u_IO, u_RO, u_JO, u_NN, u_UN, u_KN, u_LN, u_AN, u_BN]
      simp [r5, nI_1]
    · simp only [u_hN_pI, u_hU_pI, u_hK_pI, u_hL_pI, u_hR_pI, u_hJ_pI, u_hA_pI, u_hB_pI, u_hS_pI, u_hN_pR, u_hU_pR, u_hK_pR, u_hL_pR, u_hI_pR, u_hJ_pR, u_hA_pR, u_hB_pR, u_hS_pR, u_hN_pJ, u_hU_pJ, u_hK_pJ, u_hL_pJ, u_hI_pJ, u_hR_pJ, u_hA_pJ, u_hB_pJ, u_hS_pJ, u_hN_pA, u_hU_pA, u_hK_pA, u_hL_pA, u_hI_pA, u_hR_pA, u_hJ_pA, u_hB_pA, u_hS_pA, u_hN_pB, u_hU_pB, u_hK_pB, u_hL_pB, u_hI_pB, u_hR_pB, u_hJ_pB, u_hA_pB, u_hS_pB, u_hL_nO, u_hA_nO, u_hB_nO, u_hS_nO, u_hI_nA, u_hR_nA, u_hJ_nA, u_hS_nA, u_II, u_RR, u_JJ, u_AA, u_BB, u_NO, u_UO, u_KO, u_IO, u_RO, u_JO, u_NN, u_UN, u_KN, u_LN, u_AN, u_BN]
      simp [r6]
    · simp only [u_hN_pI, u_hU_pI, u_hK_pI, u_hL_pI, u_hR_pI, u_hJ_pI, u_hA_pI, u_hB_pI, u_hS_pI, u_hN_pR, u_hU_pR, u_hK_pR, u_hL_pR, u_hI_pR, u_hJ_pR, u_hA_pR, u_hB_pR, u_hS_pR, u_hN_pJ, u_hU_pJ, u_hK_pJ, u_hL_pJ, u_hI_pJ, u_hR_pJ, u_hA_pJ, u_hB_pJ, u_hS_pJ, u_hN_pA, u_hU_pA, u_hK_pA, u_hL_pA, u_hI_pA, u_hR_pA, u_hJ_pA, u_hB_pA, u_hS_pA, u_hN_pB, u_hU_pB, u_hK_pB, u_hL_pB, u_hI_pB, u_hR_pB, u_hJ_pB, u_hA_pB, u_hS_pB, u_hL_nO, u_hA_nO, u_hB_nO, u_hS_nO, u_hI_nA, u_hR_nA, u_hJ_nA, u_hS_nA, u_II, u_RR, u_JJ, u_AA, u_BB, u_NO, u_UO, u_KO, u_IO, u_RO, u_JO, u_NN, u_UN, u_KN, u_LN, u_AN, u_BN]
      simp [r7]
    · simp only [u_hN_pI, u_hU_pI, u_hK_pI, u_hL_pI, u_hR_pI, u_hJ_pI, u_hA_pI, u_hB_pI, u_hS_pI, u_hN_pR, u_hU_pR, u_hK_pR, u_hL_pR, u_hI_pR, u_hJ_pR, u_hA_pR, u_hB_pR, u_hS_pR, u_hN_pJ, u_hU_pJ, u_hK_pJ, u_hL_pJ, u_hI_pJ, u_hR_pJ, u_hA_pJ, u_hB_pJ, u_hS_pJ, u_hN_pA, u_hU_pA, u_hK_pA, u_hL_pA, u_hI_pA, u_hR_pA, u_hJ_pA, u_hB_pA, u_hS_pA, u_hN_pB, u_hU_pB, u_hK_pB, u_hL_pB, u_hI_pB, u_hR_pB, u_hJ_pB, u_hA_pB, u_hS_pB, u_hL_nO, u_hA_nO, u_hB_nO, u_hS_nO, u_hI_nA, u_hR_nA, u_hJ_nA, u_hS_nA, u_II, u_RR, u_JJ, u_AA, u_BB, u_NO, u_UO, u_KO, u_IO, u_RO, u_JO, u_NN, u_UN, u_KN, u_LN, u_AN, u_BN, if_true, upd, r3]
      by_cases hi2 : i = l.length
      · rw [if_pos hi2, getD_append_ge (by omega), hi2]
        simp [bt_b]
      · have hi3 : i < l.length := by simp at hi; omega
        rw [if_neg hi2, getD_append_lt hi3]
        exact r9 i hi3
    · rcases List.mem_append.mp hx with h1 | h1
      · exact r10 x h1
      · simp at h1; rw [h1]; exact bt_lt v
    · exact (sm.A _ _ (Or.inr rfl)).tr (sm.I _ _ (Or.inl rfl))
  · have z1 : nI bd ≤ nI l.length := nI_le (by omega) (by omega)
    simp only [z1, z, if_true, if_false]
    refine ⟨_, rfl, ⟨⟨r1, r2, r3, r4⟩, ⟨?_, ?_, ?_⟩, ⟨r8, r8b, r8c⟩, r9, r10⟩, sm.I _ _ (Or.inl rfl), rfl, rfl⟩
    · simp only [u_hN_pI, u_hU_pI, u_hK_pI, u_hL_pI, u_hR_pI, u_hJ_pI, u_hA_pI, u_hB_pI, u_hS_pI, u_hN_pR, u_hU_pR, u_hK_pR, u_hL_pR, u_hI_pR, u_hJ_pR, u_hA_pR, u_hB_pR, u_hS_pR, u_hN_pJ, u_hU_pJ, u_hK_pJ, u_hL_pJ, u_hI_pJ, u_hR_pJ, u_hA_pJ, u_hB_pJ, u_hS_pJ, u_hN_pA, u_hU_pA, u_hK_pA, u_hL_pA, u_hI_pA, u_hR_pA, u_hJ_pA, u_hB_pA, u_hS_pA, u_hN_pB, u_hU_pB, u_hK_pB, u_hL_pB, u_hI_pB, u_hR_pB, u_hJ_pB, u_hA_pB, u_hS_pB, u_hL_nO, u_hA_nO, u_hB_nO, u_hS_nO, u_hI_nA, u_hR_nA, u_hJ_nA, u_hS_nA, u_II, u_RR, u_JJ, u_AA, u_BB, u_NO, u_UO, u_KO, u_IO, u_RO, u_JO, u_NN, u_UN, u_KN, u_LN, u_AN, u_BN]; simp [r5]
    · simp only [u_hN_pI, u_hU_pI, u_hK_pI, u_hL_pI, u_hR_pI, u_hJ_pI, u_hA_pI, u_hB_pI, u_hS_pI, u_hN_pR, u_hU_pR, u_hK_pR, u_hL_pR, u_hI_pR, u_hJ_pR, u_hA_pR, u_hB_pR, u_hS_pR, u_hN_pJ, u_hU_pJ, u_hK_pJ, u_hL_pJ, u_hI_pJ, u_hR_pJ, u_hA_pJ, u_hB_pJ, u_hS_pJ, u_hN_pA, u_hU_pA, u_hK_pA, u_hL_pA, u_hI_pA, u_hR_pA, u_hJ_pA, u_hB_pA, u_hS_pA, u_hN_pB, u_hU_pB, u_hK_pB, u_hL_pB, u_hI_pB, u_hR_pB, u_hJ_pB, u_hA_pB, u_hS_pB, u_hL_nO, u_hA_nO, u_hB_nO, u_hS_nO, u_hI_nA, u_hR_nA, u_hJ_nA, u_hS_nA, u_II, u_RR, u_JJ, u_AA, u_BB, u_NO, u_UO, u_KO, u_IO, u_RO, u_JO, u_NN, u_UN, u_KN, u_LN, u_AN, u_BN]; simp [r6]
    · simp only [u_hN_pI, u_hU_pI, u_hK_pI, u_hL_pI, u_hR_pI, u_hJ_pI, u_hA_pI, u_hB_pI, u_hS_pI, u_hN_pR, u_hU_pR, u_hK_pR, u_hL_pR, u_hI_pR, u_hJ_pR, u_hA_pR, u_hB_pR, u_hS_pR, u_hN_pJ, u_hU_pJ, u_hK_pJ, u_hL_pJ, u_hI_pJ, u_hR_pJ, u_hA_pJ, u_hB_pJ, u_hS_pJ, u_hN_pA, u_hU_pA, u_hK_pA, u_hL_pA, u_hI_pA, u_hR_pA, u_hJ_pA, u_hB_pA, u_hS_pA, u_hN_pB, u_hU_pB, u_hK_pB, u_hL_pB, u_hI_pB, u_hR_pB, u_hJ_pB, u_hA_pB, u_hS_pB, u_hL_nO, u_hA_nO, u_hB_nO, u_hS_nO, u_hI_nA, u_hR_nA, u_hJ_nA, u_hS_nA, u_II, u_RR, u_JJ, u_AA, u_BB, u_NO, u_UO, u_KO, u_IO, u_RO, u_JO, u_NN, u_UN, u_KN, u_LN, u_AN, u_BN]; simp
