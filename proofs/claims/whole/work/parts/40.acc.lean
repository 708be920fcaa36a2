/-! what is seen behind each change of the heap (by program: wip/whole/gen4.py) -/
section QU
variable (h : PH)
theorem u_hN_pI (k a : Nat) (v : Int32) : hN (pI h k a v) = hN h := id rfl
theorem u_hU_pI (k a : Nat) (v : Int32) : hU (pI h k a v) = hU h := id rfl
theorem u_hK_pI (k a : Nat) (v : Int32) : hK (pI h k a v) = hK h := id rfl
theorem u_hL_pI (k a : Nat) (v : Int32) : hL (pI h k a v) = hL h := id rfl
theorem u_hR_pI (k a : Nat) (v : Int32) : hR (pI h k a v) = hR h := id rfl
theorem u_hJ_pI (k a : Nat) (v : Int32) : hJ (pI h k a v) = hJ h := id rfl
theorem u_hA_pI (k a : Nat) (v : Int32) : hA (pI h k a v) = hA h := id rfl
theorem u_hB_pI (k a : Nat) (v : Int32) : hB (pI h k a v) = hB h := id rfl
theorem u_hS_pI (k a : Nat) (v : Int32) : hS (pI h k a v) = hS h := id rfl
theorem u_hN_pR (k a : Nat) (v : Option Nat) : hN (pR h k a v) = hN h := id rfl
theorem u_hU_pR (k a : Nat) (v : Option Nat) : hU (pR h k a v) = hU h := id rfl
theorem u_hK_pR (k a : Nat) (v : Option Nat) : hK (pR h k a v) = hK h := id rfl
theorem u_hL_pR (k a : Nat) (v : Option Nat) : hL (pR h k a v) = hL h := id rfl
theorem u_hI_pR (k a : Nat) (v : Option Nat) : hI (pR h k a v) = hI h := id rfl
theorem u_hJ_pR (k a : Nat) (v : Option Nat) : hJ (pR h k a v) = hJ h := id rfl
theorem u_hA_pR (k a : Nat) (v : Option Nat) : hA (pR h k a v) = hA h := id rfl
theorem u_hB_pR (k a : Nat) (v : Option Nat) : hB (pR h k a v) = hB h := id rfl
theorem u_hS_pR (k a : Nat) (v : Option Nat) : hS (pR h k a v) = hS h := id rfl
theorem u_hN_pJ (k a : Nat) (v : Int64) : hN (pJ h k a v) = hN h := id rfl
theorem u_hU_pJ (k a : Nat) (v : Int64) : hU (pJ h k a v) = hU h := id rfl
theorem u_hK_pJ (k a : Nat) (v : Int64) : hK (pJ h k a v) = hK h := id rfl
theorem u_hL_pJ (k a : Nat) (v : Int64) : hL (pJ h k a v) = hL h := id rfl
theorem u_hI_pJ (k a : Nat) (v : Int64) : hI (pJ h k a v) = hI h := id rfl
theorem u_hR_pJ (k a : Nat) (v : Int64) : hR (pJ h k a v) = hR h := id rfl
theorem u_hA_pJ (k a : Nat) (v : Int64) : hA (pJ h k a v) = hA h := id rfl
theorem u_hB_pJ (k a : Nat) (v : Int64) : hB (pJ h k a v) = hB h := id rfl
theorem u_hS_pJ (k a : Nat) (v : Int64) : hS (pJ h k a v) = hS h := id rfl
theorem u_hN_pA (a : Nat) (f : Nat → Int32) : hN (pA h a f) = hN h := id rfl
theorem u_hU_pA (a : Nat) (f : Nat → Int32) : hU (pA h a f) = hU h := id rfl
theorem u_hK_pA (a : Nat) (f : Nat → Int32) : hK (pA h a f) = hK h := id rfl
theorem u_hL_pA (a : Nat) (f : Nat → Int32) : hL (pA h a f) = hL h := id rfl
theorem u_hI_pA (a : Nat) (f : Nat → Int32) : hI (pA h a f) = hI h := id rfl
theorem u_hR_pA (a : Nat) (f : Nat → Int32) : hR (pA h a f) = hR h := id rfl
theorem u_hJ_pA (a : Nat) (f : Nat → Int32) : hJ (pA h a f) = hJ h := id rfl
theorem u_hB_pA (a : Nat) (f : Nat → Int32) : hB (pA h a f) = hB h := id rfl
theorem u_hS_pA (a : Nat) (f : Nat → Int32) : hS (pA h a f) = hS h := id rfl
theorem u_hN_pB (a : Nat) (f : Nat → Option Nat) : hN (pB h a f) = hN h := id rfl
theorem u_hU_pB (a : Nat) (f : Nat → Option Nat) : hU (pB h a f) = hU h := id rfl
theorem u_hK_pB (a : Nat) (f : Nat → Option Nat) : hK (pB h a f) = hK h := id rfl
theorem u_hL_pB (a : Nat) (f : Nat → Option Nat) : hL (pB h a f) = hL h := id rfl
theorem u_hI_pB (a : Nat) (f : Nat → Option Nat) : hI (pB h a f) = hI h := id rfl
theorem u_hR_pB (a : Nat) (f : Nat → Option Nat) : hR (pB h a f) = hR h := id rfl
theorem u_hJ_pB (a : Nat) (f : Nat → Option Nat) : hJ (pB h a f) = hJ h := id rfl
theorem u_hA_pB (a : Nat) (f : Nat → Option Nat) : hA (pB h a f) = hA h := id rfl
theorem u_hS_pB (a : Nat) (f : Nat → Option Nat) : hS (pB h a f) = hS h := id rfl
theorem u_hL_nO (c : Nat) : hL (nO h c) = hL h := id rfl
theorem u_hA_nO (c : Nat) : hA (nO h c) = hA h := id rfl
theorem u_hB_nO (c : Nat) : hB (nO h c) = hB h := id rfl
theorem u_hS_nO (c : Nat) : hS (nO h c) = hS h := id rfl
theorem u_hI_nA (c n : Nat) : hI (nA h c n) = hI h := id rfl
theorem u_hR_nA (c n : Nat) : hR (nA h c n) = hR h := id rfl
theorem u_hJ_nA (c n : Nat) : hJ (nA h c n) = hJ h := id rfl
theorem u_hS_nA (c n : Nat) : hS (nA h c n) = hS h := id rfl
theorem u_II (k a : Nat) (v : Int32) (j b : Nat) : hI (pI h k a v) j b = if j = k then (if b = a then v else hI h k b) else hI h j b := id rfl
theorem u_RR (k a : Nat) (v : Option Nat) (j b : Nat) : hR (pR h k a v) j b = if j = k then (if b = a then v else hR h k b) else hR h j b := id rfl
theorem u_JJ (k a : Nat) (v : Int64) (j b : Nat) : hJ (pJ h k a v) j b = if j = k then (if b = a then v else hJ h k b) else hJ h j b := id rfl
theorem u_AA (a : Nat) (f : Nat → Int32) (b : Nat) : hA (pA h a f) b = if b = a then f else hA h b := id rfl
theorem u_BB (a : Nat) (f : Nat → Option Nat) (b : Nat) : hB (pB h a f) b = if b = a then f else hB h b := id rfl
theorem u_NO (c : Nat) : hN (nO h c) = hN h + 1 := id rfl
theorem u_UO (c : Nat) : hU (nO h c) = hU h + q_nf c := id rfl
theorem u_KO (c b : Nat) : hK (nO h c) b = if b = hN h then c else hK h b := id rfl
theorem u_IO (c k b : Nat) : hI (nO h c) k b = if b = hN h then 0 else hI h k b := id rfl
theorem u_RO (c k b : Nat) : hR (nO h c) k b = if b = hN h then none else hR h k b := id rfl
theorem u_JO (c k b : Nat) : hJ (nO h c) k b = if b = hN h then 0 else hJ h k b := id rfl
theorem u_NN (c n : Nat) : hN (nA h c n) = hN h + 1 := id rfl
theorem u_UN (c n : Nat) : hU (nA h c n) = hU h + n := id rfl
theorem u_KN (c n b : Nat) : hK (nA h c n) b = if b = hN h then c else hK h b := id rfl
theorem u_LN (c n b : Nat) : hL (nA h c n) b = if b = hN h then n else hL h b := id rfl
theorem u_AN (c n b : Nat) : hA (nA h c n) b = if b = hN h then (fun _ => 0) else hA h b := id rfl
theorem u_BN (c n b : Nat) : hB (nA h c n) b = if b = hN h then (fun _ => none) else hB h b := id rfl
end QU
