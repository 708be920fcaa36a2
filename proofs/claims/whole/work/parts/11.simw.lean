/-! the step -/
section QS
variable {p : Program} {l : Launch} {e : Env} {R : Room} {s : State} {mid : MethodId} {args : Array Value} {below : List Frame} {meth : Method} {c : Code} {H : Heap} {locs : List Loc} {cells slots u0 : Nat} {Q : State → Prop}
variable {base : Nat} {D : va_G} {Cy : Nat → ClassId} {S : Nat → Nat} {Hb : Heap} {m : Mt} {g : Nat} {h : PH} {pc : Nat} {lsA : Array Slot} {ls : List (Option Value)} {st : List Value}
theorem q_tgs {pc t : Nat} {off : Int} (h : q_tg pc off = some t) : (pc : Int) + off = (t : Int) := by
  unfold q_tg at h
  split at h
  · cases h; omega
  · cases h
theorem q_one {n k : Nat} (h : (n == k) = true) : n = k := by simpa using h
theorem q_cnst {c i : Nat} {v : Int32} (hj : qk_c c i = some v) : Cond.constant (q_rn c) i v ∈ gtb := by
  unfold qk_c at hj
  obtain ⟨en, he, rfl⟩ := Option.map_eq_some_iff.mp hj
  have hf1 := List.find?_some he
  have g1 := q_okc en (List.mem_of_find?_eq_some he)
  simp only [Bool.and_eq_true, beq_iff_eq] at hf1
  rw [hf1.1, hf1.2] at g1
  exact q_g _ g1 rfl
theorem q_strs {c i t : Nat} (hK : q_K D Cy S s) (hj : qk_s c i = some t) : vk_R (q_rn c) i (q_txt t) (S t) s := by
  unfold qk_s at hj
  obtain ⟨en, he, rfl⟩ := Option.map_eq_some_iff.mp hj
  have hf1 := List.find?_some he
  have g1 := hK.2.2.2.2.2.2 en (List.mem_of_find?_eq_some he)
  simp only [Bool.and_eq_true, beq_iff_eq] at hf1
  rw [hf1.1, hf1.2] at g1
  exact g1
theorem q_klt {c i t : Nat} (hj : qk_k c i = some t) : t < 13 := by
  unfold qk_k at hj
  obtain ⟨en, he, rfl⟩ := Option.map_eq_some_iff.mp hj
  exact (q_okk en (List.mem_of_find?_eq_some he)).2
theorem q_getE {ls : List (Option Value)} {k : Nat} {v : Value} (e : q_get ls k = some v) : ls[k]? = some (some v) := by
  unfold q_get at e
  cases hk : ls[k]? with
  | none => rw [hk] at e; simp at e
  | some o => rw [hk] at e; simp at e; rw [e]
theorem q_cat1 {v : Value} (h : ¬ q_lng v = true) : v.category = 1 := by cases v <;> simp_all [q_lng, Value.category]
theorem q_jls {j pc : Nat} {ls : List (Option Value)} {st : List Value} {h : PH} {q : PS} (e : q_jdk j pc ls st h = some q) : q.2.1 = ls := by
  unfold q_jdk at e
  split at e
  · unfold q_j0 at e
    repeat' (split at e)
    all_goals first | (cases e; rfl) | (cases e)
  · unfold q_j1 at e
    repeat' (split at e)
    all_goals first | (cases e; rfl) | (cases e)
  · unfold q_j2 at e
    repeat' (split at e)
    all_goals first | (cases e; rfl) | (cases e)
  · unfold q_j3 at e
    repeat' (split at e)
    all_goals first | (cases e; rfl) | (cases e)
  · unfold q_j4 at e
    repeat' (split at e)
    all_goals first | (cases e; rfl) | (cases e)
  · unfold q_j5 at e
    repeat' (split at e)
    all_goals first | (cases e; rfl) | (cases e)
  · unfold q_j6 at e
    repeat' (split at e)
    all_goals first | (cases e; rfl) | (cases e)
  · unfold q_j7 at e
    repeat' (split at e)
    all_goals first | (cases e; rfl) | (cases e)
  · unfold q_j8 at e
    repeat' (split at e)
    all_goals first | (cases e; rfl) | (cases e)
  · unfold q_j9 at e
    repeat' (split at e)
    all_goals first | (cases e; rfl) | (cases e)
  · unfold q_j10 at e
    repeat' (split at e)
    all_goals first | (cases e; rfl) | (cases e)
  · unfold q_j11 at e
    repeat' (split at e)
    all_goals first | (cases e; rfl) | (cases e)
  · cases e
set_option maxHeartbeats 4000000 in
theorem q_simW (X : q_Cx p R s mid args meth c base D Cy S m g) (hV : q_V base D Cy S Hb s h H locs) (hl : q_L lsA m ls) (hJ : ∀ j, j < 12 → q_JR l base D Cy S Hb j) {i : Instr} {n : Nat} {q : PS} (hd : decode (mC m) pc = .ok (i, n)) (hok : q_lok i n = true) (es : sim m i pc ls st h = some q)
    (hc : cells + s.heap.size = hN h) (hu : slots + u0 = hU h) (r1 : hN q.2.2.2 ≤ s.heap.size + R.cells) (r2 : hU q.2.2.2 ≤ u0 + R.slots)
    (kk : ∀ (H1 : Heap) (locs1 : List Loc) (lsB : Array Slot) (cells1 slots1 : Nat), q_V base D Cy S Hb s q.2.2.2 H1 locs1 → q_L lsB m q.2.1 → cells1 + s.heap.size = hN q.2.2.2 → slots1 + u0 = hU q.2.2.2 → W p l e R s mid args below meth c H1 locs1 cells1 slots1 Q (F0 mid q.1 lsB q.2.2.1)) :
    W p l e R s mid args below meth c H locs cells slots Q (F0 mid pc lsA st) := by
  have XX := X
  obtain ⟨hx, hb, hml, hr, hown, hts, hlocks, hname, hKq, hbs, hfr, hlo⟩ := X
  have hSS : hS h = S := hV.2.2.2.1
  unfold sim at es
  split at es
  · obtain rfl := q_one hok
    cases es
    exact lv_iconst hx hb hd rfl (kk _ _ _ _ _ hV hl hc hu)
  · obtain rfl := q_one hok
    cases es
    exact lv_bipush hx hb hd rfl (kk _ _ _ _ _ hV hl hc hu)
  · obtain rfl := q_one hok
    cases es
    exact lv_sipush hx hb hd rfl (kk _ _ _ _ _ hV hl hc hu)
  · obtain rfl := q_one hok
    cases es
    exact lv_lconst hx hb hd rfl (kk _ _ _ _ _ hV hl hc hu)
  · obtain rfl := q_one hok
    cases es
    exact lv_null hx hb hd (kk _ _ _ _ _ hV hl hc hu)
  · obtain rfl := q_one hok
    split at es
    · rename_i v hv
      cases es
      exact lv_ldc hx hb hown (hts _ (q_cnst hv)) hd (kk _ _ _ _ _ hV hl hc hu)
    · split at es
      · rename_i t ht
        cases es
        rw [hSS] at kk
        exact va_ldcS hx hb hown (q_strs hKq ht) hd (kk _ _ _ _ _ hV hl hc hu)
      · cases es
  · obtain rfl := q_one hok
    split at es
    · rename_i t ht
      cases es
      rw [hSS] at kk
      exact q_ldcs hx hb hown (q_strs hKq ht) hd (kk _ _ _ _ _ hV hl hc hu)
    · cases es
  · obtain rfl := q_one hok
    unfold q_ldI at es
    split at es
    · rename_i v hv
      cases es
      exact lv_iload_n hx hb hd rfl (hl.at hv) (kk _ _ _ _ _ hV hl hc hu)
    · cases es
  · obtain rfl := q_one hok
    unfold q_ldI at es
    split at es
    · rename_i v hv
      cases es
      exact lv_iload hx hb hd (hl.at hv) (kk _ _ _ _ _ hV hl hc hu)
    · cases es
  · obtain rfl := q_one hok
    unfold q_ldL at es
    split at es
    · rename_i v hv
      cases es
      exact lv_lload_n hx hb hd rfl (hl.at hv) (kk _ _ _ _ _ hV hl hc hu)
    · cases es
  · obtain rfl := q_one hok
    unfold q_ldL at es
    split at es
    · rename_i v hv
      cases es
      exact lv_lload hx hb hd (hl.at hv) (kk _ _ _ _ _ hV hl hc hu)
    · cases es
  · obtain rfl := q_one hok
    unfold q_ldA at es
    split at es
    · rename_i v hv
      cases es
      exact lv_aload_n hx hb hd rfl (hl.at hv) (kk _ _ _ _ _ hV hl hc hu)
    · rename_i hv
      cases es
      exact lv_aload_nN hx hb hd rfl (hl.at hv) (kk _ _ _ _ _ hV hl hc hu)
    · cases es
  · obtain rfl := q_one hok
    unfold q_ldA at es
    split at es
    · rename_i v hv
      cases es
      exact lv_aload hx hb hd (hl.at hv) (kk _ _ _ _ _ hV hl hc hu)
    · rename_i hv
      cases es
      exact lv_aloadN hx hb hd (hl.at hv) (kk _ _ _ _ _ hV hl hc hu)
    · cases es
  · obtain rfl := q_one hok
    unfold q_stI at es
    split at es
    · split at es
      · rename_i lb hlb
        cases es
        obtain ⟨k1, k2⟩ := hl.st1 rfl hlb
        exact lv_istore_n hx hb hd rfl hl.1 k1 rfl (fun lsB hB => kk _ _ lsB _ _ hV (k2 lsB hB) hc hu)
      · cases es
    · cases es
  · obtain rfl := q_one hok
    unfold q_stI at es
    split at es
    · split at es
      · rename_i lb hlb
        cases es
        obtain ⟨k1, k2⟩ := hl.st1 rfl hlb
        exact lv_istore hx hb hd hl.1 k1 rfl (fun lsB hB => kk _ _ lsB _ _ hV (k2 lsB hB) hc hu)
      · cases es
    · cases es
  · obtain rfl := q_one hok
    unfold q_stL at es
    split at es
    · split at es
      · rename_i lb hlb
        cases es
        obtain ⟨k1, k2⟩ := hl.st2 hlb
        exact lv_lstore_n hx hb hd rfl hl.1 k1 rfl (fun lsB hB => kk _ _ lsB _ _ hV (k2 lsB hB) hc hu)
      · cases es
    · cases es
  · obtain rfl := q_one hok
    unfold q_stL at es
    split at es
    · split at es
      · rename_i lb hlb
        cases es
        obtain ⟨k1, k2⟩ := hl.st2 hlb
        exact lv_lstore hx hb hd hl.1 k1 rfl (fun lsB hB => kk _ _ lsB _ _ hV (k2 lsB hB) hc hu)
      · cases es
    · cases es
  · obtain rfl := q_one hok
    unfold q_stA at es
    split at es
    · split at es
      · rename_i lb hlb
        cases es
        obtain ⟨k1, k2⟩ := hl.st1 rfl hlb
        exact lv_astore_n hx hb hd rfl hl.1 k1 rfl (fun lsB hB => kk _ _ lsB _ _ hV (k2 lsB hB) hc hu)
      · cases es
    · split at es
      · rename_i lb hlb
        cases es
        obtain ⟨k1, k2⟩ := hl.st1 rfl hlb
        exact lv_astore_nN hx hb hd rfl hl.1 k1 rfl (fun lsB hB => kk _ _ lsB _ _ hV (k2 lsB hB) hc hu)
      · cases es
    · cases es
  · obtain rfl := q_one hok
    unfold q_stA at es
    split at es
    · split at es
      · rename_i lb hlb
        cases es
        obtain ⟨k1, k2⟩ := hl.st1 rfl hlb
        exact lv_astore hx hb hd hl.1 k1 rfl (fun lsB hB => kk _ _ lsB _ _ hV (k2 lsB hB) hc hu)
      · cases es
    · split at es
      · rename_i lb hlb
        cases es
        obtain ⟨k1, k2⟩ := hl.st1 rfl hlb
        exact lv_astoreN hx hb hd hl.1 k1 rfl (fun lsB hB => kk _ _ lsB _ _ hV (k2 lsB hB) hc hu)
      · cases es
    · cases es
  · obtain rfl := q_one hok
    split at es
    · rename_i v hv
      split at es
      · rename_i lb hlb
        cases es
        obtain ⟨k1, k2⟩ := hl.st1 rfl hlb
        have hgl : ∃ kx : Nat, (q_pr ls)[kx]? = some (_, Value.int v) := List.getElem?_of_mem (q_pr_mem.mpr (q_getE hv))
        obtain ⟨kx, hkx⟩ := hgl
        exact lv_iinc hx hb hd hl.1 hkx rfl k1 rfl (fun lsB hB => kk _ _ lsB _ _ hV (k2 lsB hB) hc hu)
      · cases es
    · cases es
  · obtain rfl := q_one hok
    split at es
    · cases es
      exact lv_iadd hx hb hd (kk _ _ _ _ _ hV hl hc hu)
    · cases es
  · obtain rfl := q_one hok
    split at es
    · cases es
      exact lv_isub hx hb hd (kk _ _ _ _ _ hV hl hc hu)
    · cases es
  · obtain rfl := q_one hok
    split at es
    · cases es
      exact lv_imul hx hb hd (kk _ _ _ _ _ hV hl hc hu)
    · cases es
  · obtain rfl := q_one hok
    split at es
    · split at es
      · cases es
      · rename_i hy
        cases es
        exact lv_idiv hx hb hd hy (kk _ _ _ _ _ hV hl hc hu)
    · cases es
  · obtain rfl := q_one hok
    split at es
    · split at es
      · cases es
      · rename_i hy
        cases es
        exact lv_irem hx hb hd hy (kk _ _ _ _ _ hV hl hc hu)
    · cases es
  · obtain rfl := q_one hok
    split at es
    · cases es
      exact lv_iand hx hb hd (kk _ _ _ _ _ hV hl hc hu)
    · cases es
  · obtain rfl := q_one hok
    split at es
    · cases es
      exact lv_ior hx hb hd (kk _ _ _ _ _ hV hl hc hu)
    · cases es
  · obtain rfl := q_one hok
    split at es
    · cases es
      exact lv_ishl hx hb hd (kk _ _ _ _ _ hV hl hc hu)
    · cases es
  · obtain rfl := q_one hok
    split at es
    · cases es
      exact lv_ishr hx hb hd (kk _ _ _ _ _ hV hl hc hu)
    · cases es
  · obtain rfl := q_one hok
    split at es
    · cases es
      exact lv_iushr hx hb hd rfl (kk _ _ _ _ _ hV hl hc hu)
    · cases es
  · obtain rfl := q_one hok
    split at es
    · cases es
      exact lv_lshl hx hb hd rfl (kk _ _ _ _ _ hV hl hc hu)
    · cases es
  · obtain rfl := q_one hok
    split at es
    · cases es
      exact lv_lushr hx hb hd rfl (kk _ _ _ _ _ hV hl hc hu)
    · cases es
  · obtain rfl := q_one hok
    split at es
    · cases es
      exact lv_lor hx hb hd (kk _ _ _ _ _ hV hl hc hu)
    · cases es
  · obtain rfl := q_one hok
    split at es
    · cases es
      exact lv_i2l hx hb hd rfl (kk _ _ _ _ _ hV hl hc hu)
    · cases es
  · obtain rfl := q_one hok
    split at es
    · cases es
      exact lv_l2i hx hb hd rfl (kk _ _ _ _ _ hV hl hc hu)
    · cases es
  · obtain rfl := q_one hok
    split at es
    · cases es
      exact lv_i2b hx hb hd rfl (kk _ _ _ _ _ hV hl hc hu)
    · cases es
  · obtain rfl := q_one hok
    split at es
    · cases es
      exact W.lcmp hx hb hd (kk _ _ _ _ _ hV hl hc hu)
    · cases es
  · obtain rfl := q_one hok
    split at es
    · split at es
      · cases es
      · rename_i hv
        cases es
        exact lv_dup hx hb hd (q_cat1 hv) (kk _ _ _ _ _ hV hl hc hu)
    · cases es
  · obtain rfl := q_one hok
    split at es
    · split at es
      · cases es
      · rename_i hv
        cases es
        exact lv_dup2_11 hx hb hd (q_cat1 (fun z => hv (Or.inl z))) (q_cat1 (fun z => hv (Or.inr z))) (kk _ _ _ _ _ hV hl hc hu)
    · cases es
  · obtain rfl := q_one hok
    split at es
    · split at es
      · cases es
      · rename_i hv
        cases es
        exact lv_pop hx hb hd (q_cat1 hv) (kk _ _ _ _ _ hV hl hc hu)
    · cases es
  · obtain rfl := q_one hok
    split at es
    · rename_i cnd off xx y r
      unfold q_br at es
      split at es
      · rename_i t ht
        have htg := q_tgs ht
        split at es
        · rename_i hcm
          cases es
          cases cnd <;> simp only [q_cmp, decide_eq_true_eq] at hcm
          · exact lv_if_eq hx hb hd htg (fun _ => kk _ _ _ _ _ hV hl hc hu) (fun z => absurd hcm z)
          · exact lv_if_ne hx hb hd htg (fun _ => kk _ _ _ _ _ hV hl hc hu) (fun z => absurd z hcm)
          · exact lv_if_lt hx hb hd htg (fun _ => kk _ _ _ _ _ hV hl hc hu) (fun z => absurd hcm z)
          · exact lv_if_ge hx hb hd htg (fun _ => kk _ _ _ _ _ hV hl hc hu) (fun z => absurd hcm z)
          · exact lv_if_gt hx hb hd htg (fun _ => kk _ _ _ _ _ hV hl hc hu) (fun z => absurd hcm z)
          · exact lv_if_le hx hb hd htg (fun _ => kk _ _ _ _ _ hV hl hc hu) (fun z => absurd hcm z)
        · rename_i hcm
          cases es
          cases cnd <;> simp only [q_cmp, decide_eq_true_eq] at hcm
          · exact lv_if_eq hx hb hd htg (fun z => absurd z hcm) (fun _ => kk _ _ _ _ _ hV hl hc hu)
          · exact lv_if_ne hx hb hd htg (fun z => absurd z hcm) (fun _ => kk _ _ _ _ _ hV hl hc hu)
          · exact lv_if_lt hx hb hd htg (fun z => absurd z hcm) (fun _ => kk _ _ _ _ _ hV hl hc hu)
          · exact lv_if_ge hx hb hd htg (fun z => absurd z hcm) (fun _ => kk _ _ _ _ _ hV hl hc hu)
          · exact lv_if_gt hx hb hd htg (fun z => absurd z hcm) (fun _ => kk _ _ _ _ _ hV hl hc hu)
          · exact lv_if_le hx hb hd htg (fun z => absurd z hcm) (fun _ => kk _ _ _ _ _ hV hl hc hu)
      · cases es
    · cases es
  · obtain rfl := q_one hok
    split at es
    · rename_i cnd off xx y z r
      unfold q_br at es
      split at es
      · rename_i t ht
        have htg := q_tgs ht
        split at es
        · rename_i hcm
          cases es
          cases cnd <;> simp only [q_cmp, decide_eq_true_eq] at hcm
          · exact lv_icmp_eq hx hb hd htg (fun _ => kk _ _ _ _ _ hV hl hc hu) (fun z => absurd hcm z)
          · exact lv_icmp_ne hx hb hd htg (fun _ => kk _ _ _ _ _ hV hl hc hu) (fun z => absurd z hcm)
          · exact lv_icmp_lt hx hb hd htg (fun _ => kk _ _ _ _ _ hV hl hc hu) (fun z => absurd hcm z)
          · exact lv_icmp_ge hx hb hd htg (fun _ => kk _ _ _ _ _ hV hl hc hu) (fun z => absurd hcm z)
          · exact lv_icmp_gt hx hb hd htg (fun _ => kk _ _ _ _ _ hV hl hc hu) (fun z => absurd hcm z)
          · exact lv_icmp_le hx hb hd htg (fun _ => kk _ _ _ _ _ hV hl hc hu) (fun z => absurd hcm z)
        · rename_i hcm
          cases es
          cases cnd <;> simp only [q_cmp, decide_eq_true_eq] at hcm
          · exact lv_icmp_eq hx hb hd htg (fun z => absurd z hcm) (fun _ => kk _ _ _ _ _ hV hl hc hu)
          · exact lv_icmp_ne hx hb hd htg (fun z => absurd z hcm) (fun _ => kk _ _ _ _ _ hV hl hc hu)
          · exact lv_icmp_lt hx hb hd htg (fun z => absurd z hcm) (fun _ => kk _ _ _ _ _ hV hl hc hu)
          · exact lv_icmp_ge hx hb hd htg (fun z => absurd z hcm) (fun _ => kk _ _ _ _ _ hV hl hc hu)
          · exact lv_icmp_gt hx hb hd htg (fun z => absurd z hcm) (fun _ => kk _ _ _ _ _ hV hl hc hu)
          · exact lv_icmp_le hx hb hd htg (fun z => absurd z hcm) (fun _ => kk _ _ _ _ _ hV hl hc hu)
      · cases es
    · cases es
  · obtain rfl := q_one hok
    split at es
    · unfold q_br at es
      split at es
      · rw [if_neg (by decide)] at es
        cases es
        exact lv_ifnull hx hb hd (kk _ _ _ _ _ hV hl hc hu)
      · cases es
    · unfold q_br at es
      split at es
      · rename_i t ht
        have htg := q_tgs ht
        rw [if_pos rfl] at es
        cases es
        exact lv_ifnullN hx hb hd htg (kk _ _ _ _ _ hV hl hc hu)
      · cases es
    · cases es
  · obtain rfl := q_one hok
    split at es
    · unfold q_br at es
      split at es
      · rename_i t ht
        have htg := q_tgs ht
        rw [if_pos rfl] at es
        cases es
        exact lv_ifnonnull hx hb hd htg (kk _ _ _ _ _ hV hl hc hu)
      · cases es
    · unfold q_br at es
      split at es
      · rw [if_neg (by decide)] at es
        cases es
        exact lv_ifnonnullN hx hb hd (kk _ _ _ _ _ hV hl hc hu)
      · cases es
    · cases es
  · obtain rfl := q_one hok
    split at es
    · rename_i t ht
      cases es
      exact lv_goto hx hb hd (q_tgs ht) (kk _ _ _ _ _ hV hl hc hu)
    · cases es
  · split at es
    · split at es
      · rename_i hcm
        split at es
        · rename_i t ht
          cases es
          exact lv_tableOut hx hb hd hcm (q_tgs ht) (kk _ _ _ _ _ hV hl hc hu)
        · cases es
      · rename_i hcm
        split at es
        · rename_i off ho
          split at es
          · rename_i t ht
            cases es
            exact lv_tableIn hx hb hd (fun z => hcm (Or.inl z)) (fun z => hcm (Or.inr z)) ho (q_tgs ht) (kk _ _ _ _ _ hV hl hc hu)
          · cases es
        · cases es
    · cases es
  · obtain rfl := q_one hok
    split at es
    · rename_i f hf
      split at es
      · split at es
        · rename_i hk
          cases es
          exact q_getf XX hV.1 hf hk hd (kk _ _ _ _ _ hV hl hc hu)
        · cases es
      · cases es
    · cases es
  · obtain rfl := q_one hok
    split at es
    · rename_i f hf
      split at es
      · split at es
        · rename_i hk
          split at es
          · rename_i h2 hw
            cases es
            obtain ⟨w1, w2, w3, w4, w5, w6, w7⟩ := q_fw_same hw
            exact q_putf XX hV.1 hV.2.2.2.2.1 hf hk.1 hk.2 hw hd (fun H1 locs1 hW1 hS1 => kk H1 locs1 lsA cells slots (hV.fld hW1 hS1 w3 w4 w5 w6 w7) hl (hc.trans w1.symm) (hu.trans w2.symm))
          · cases es
        · cases es
      · cases es
    · cases es
  · obtain rfl := q_one hok
    split at es
    · rename_i ci hf
      cases es
      have e1 : hN (nO h ci) = hN h + 1 := rfl
      have e2 : hU (nO h ci) = hU h + q_nf ci := rfl
      dsimp only at r1 r2
      exact q_newr XX hV hf (by omega) (by omega) hd (fun H1 hV1 => kk H1 locs lsA _ _ hV1 hl (by dsimp only; omega) (by dsimp only; omega))
    · cases es
  · obtain rfl := q_one hok
    split at es
    · rename_i t xx n r
      split at es
      · cases es
      · rename_i hn
        split at es
        · rename_i ht
          cases es
          have e1 : hN (nA h (q_akind (newarray.typeOf t)) n.toNatClampNeg) = hN h + 1 := rfl
          have e2 : hU (nA h (q_akind (newarray.typeOf t)) n.toNatClampNeg) = hU h + n.toNatClampNeg := rfl
          dsimp only at r1 r2
          exact q_newar XX hV ht (fun z => hn (q_nb_iff.mpr z)) (by omega) (by omega) hd (fun H1 hV1 => kk H1 locs lsA _ _ hV1 hl (by dsimp only; omega) (by dsimp only; omega))
        · cases es
    · cases es
  · obtain rfl := q_one hok
    split at es
    · rename_i ci hf
      split at es
      · rename_i n r
        split at es
        · cases es
        · rename_i hn
          split at es
          · rename_i hci
            cases es
            have e1 : hN (nA h 53 n.toNatClampNeg) = hN h + 1 := rfl
            have e2 : hU (nA h 53 n.toNatClampNeg) = hU h + n.toNatClampNeg := rfl
            dsimp only at r1 r2
            exact q_anewr XX hV hf (Or.inl ⟨hci, rfl⟩) (fun z => hn (q_nb_iff.mpr z)) (by omega) (by omega) hd (fun H1 hV1 => kk H1 locs lsA _ _ hV1 hl (by dsimp only; omega) (by dsimp only; omega))
          · split at es
            · rename_i hci
              cases es
              have e1 : hN (nA h 54 n.toNatClampNeg) = hN h + 1 := rfl
              have e2 : hU (nA h 54 n.toNatClampNeg) = hU h + n.toNatClampNeg := rfl
              dsimp only at r1 r2
              exact q_anewr XX hV hf (Or.inr ⟨hci, rfl⟩) (fun z => hn (q_nb_iff.mpr z)) (by omega) (by omega) hd (fun H1 hV1 => kk H1 locs lsA _ _ hV1 hl (by dsimp only; omega) (by dsimp only; omega))
            · cases es
      · cases es
    · cases es
  · obtain rfl := q_one hok
    split at es
    · split at es
      · rename_i hk
        cases es
        exact q_alen XX hV hk hd (kk _ _ _ _ _ hV hl hc hu)
      · cases es
    · cases es
  · obtain rfl := q_one hok
    split at es
    · split at es
      · rename_i hk
        cases es
        exact q_ial XX hV hk.1 hk.2 hd (kk _ _ _ _ _ hV hl hc hu)
      · cases es
    · cases es
  · obtain rfl := q_one hok
    split at es
    · split at es
      · rename_i hk
        cases es
        exact q_bal XX hV hk.1 hk.2 hd (kk _ _ _ _ _ hV hl hc hu)
      · cases es
    · cases es
  · obtain rfl := q_one hok
    split at es
    · split at es
      · rename_i hk
        cases es
        exact q_aal XX hV hk.1 hk.2 hd (kk _ _ _ _ _ hV hl hc hu)
      · cases es
    · cases es
  · obtain rfl := q_one hok
    split at es
    · split at es
      · rename_i hk
        cases es
        exact q_ias XX hV hk.1 hk.2 hd (fun H1 locs1 hV1 => kk H1 locs1 lsA _ _ hV1 hl hc hu)
      · cases es
    · cases es
  · obtain rfl := q_one hok
    split at es
    · split at es
      · cases es
      · rename_i hin
        split at es
        · rename_i hk
          cases es
          exact q_bas XX hV hk (Decidable.not_not.mp hin) hd (fun H1 locs1 hV1 => kk H1 locs1 lsA _ _ hV1 hl hc hu)
        · split at es
          · rename_i hk
            cases es
            exact q_zas XX hV hk.1 hk.2 (Decidable.not_not.mp hin) hd (fun H1 locs1 hV1 => kk H1 locs1 lsA _ _ hV1 hl hc hu)
          · cases es
    · cases es
  · obtain rfl := q_one hok
    split at es
    · split at es
      · rename_i hk
        cases es
        exact q_aas XX hV hk.2 hk.1 hd (fun H1 locs1 hV1 => kk H1 locs1 lsA _ _ hV1 hl hc hu)
      · cases es
    · split at es
      · rename_i hk
        cases es
        exact q_aan XX hV hk.2 hk.1 hd (fun H1 locs1 hV1 => kk H1 locs1 lsA _ _ hV1 hl hc hu)
      · cases es
    · cases es
  · obtain rfl := q_one hok
    split at es
    · rename_i ci hf
      split at es
      · split at es
        · rename_i hk
          cases es
          exact q_cast XX hV hf hk hd (kk _ _ _ _ _ hV hl hc hu)
        · cases es
      · cases es
        exact lv_castN hx hb hd (kk _ _ _ _ _ hV hl hc hu)
      · cases es
    · cases es
  · obtain rfl := q_one hok
    split at es
    · rename_i j hj
      split at es
      · rename_i hj2
        refine hJ j (q_jln hj).2 _ _ _ _ _ _ _ _ _ _ _ _ _ u0 _ _ _ _ _ _ ls _ _ _ q XX hV (by rw [hl.1.1]) hj hd (Or.inl ⟨rfl, hj2.1⟩) hj2.2 es hc hu r1 r2 (fun H1 locs1 cells1 slots1 hV1 hc1 hu1 => kk H1 locs1 lsA cells1 slots1 hV1 ?_ hc1 hu1)
        rw [q_jls es]
        exact hl
      · cases es
    · cases es
  · obtain rfl := q_one hok
    split at es
    · rename_i j hj
      split at es
      · rename_i hj2
        refine hJ j (q_jln hj).2 _ _ _ _ _ _ _ _ _ _ _ _ _ u0 _ _ _ _ _ _ ls _ _ _ q XX hV (by rw [hl.1.1]) hj hd (Or.inr (Or.inl ⟨rfl, hj2.1⟩)) hj2.2 es hc hu r1 r2 (fun H1 locs1 cells1 slots1 hV1 hc1 hu1 => kk H1 locs1 lsA cells1 slots1 hV1 ?_ hc1 hu1)
        rw [q_jls es]
        exact hl
      · cases es
    · cases es
  · obtain rfl := q_one hok
    split at es
    · rename_i j hj
      split at es
      · rename_i hj2
        refine hJ j (q_jln hj).2 _ _ _ _ _ _ _ _ _ _ _ _ _ u0 _ _ _ _ _ _ ls _ _ _ q XX hV (by rw [hl.1.1]) hj hd (Or.inr (Or.inr ⟨rfl, hj2.1⟩)) hj2.2 es hc hu r1 r2 (fun H1 locs1 cells1 slots1 hV1 hc1 hu1 => kk H1 locs1 lsA cells1 slots1 hV1 ?_ hc1 hu1)
        rw [q_jls es]
        exact hl
      · cases es
    · cases es
  · cases es
end QS
