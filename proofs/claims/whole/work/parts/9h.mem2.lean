/-! PageWeb: members -/
section
variable {T : Nat} {w : Wd} {goal : Nm} {mk : Nat → Bool} {al : Bool}
/-- a token that is LINK to the goal, or to a kind that is marked -/
def lt2 (w : Wd) (T : Nat) (al : Bool) (mk : Nat → Bool) (goal : Nm) (e : Tk) : Bool := match e.2 with
  | none => false
  | some (s, _, _, q) => decide (s = 1) && (decide (q = goal) || (al && (q.1 && mko mk (pof w.2.1 w.2.2.2 w.2.2.1 q T))))
theorem lq2_any {t : List Nat} : (ptl t).any (lq2 w T 0 al mk goal) = (tkl t).any (lt2 w T al mk goal) := by
  rw [← ptl_flat, exq_any]
  congr 1
  funext e
  unfold exq lq2
  cases eq : e.2.2.2.2 with
  | none => exact (any_none (fun i => rfl) _).symm
  | some q =>
    simp only [List.any_cons, List.any_nil, Bool.or_false, lt2]
    rw [if_neg (by omega)]
    congr 1
    exact decide_eq_decide.mpr ⟨fun z => by omega, fun z => by omega⟩
theorem lqP_kl (hg : goal.1 = true) {p : Nat} : lqP w T 0 al goal mk p = true ↔ goal ∈ kl (wasT w.2.1 p T) ∨ (al = true ∧ ∃ k ∈ kl (wasT w.2.1 p T), mko mk (pof w.2.1 w.2.2.2 w.2.2.1 k T) = true) := by
  unfold lqP wasT
  cases e : thr w.2.1 p T with
  | none =>
    have hk : kl [] = [] := rfl
    simp [hk]
  | some c =>
    simp only
    rw [lq2_any]
    unfold kl
    generalize tkl (ct (w.2.1 c)) = es
    constructor
    · intro h
      obtain ⟨x, hx, hl⟩ := List.any_eq_true.mp h
      unfold lt2 at hl
      cases ex : x.2 with
      | none => rw [ex] at hl; cases hl
      | some r =>
        obtain ⟨s, j, b, q⟩ := r
        rw [ex] at hl
        simp only [Bool.and_eq_true, Bool.or_eq_true, decide_eq_true_eq] at hl
        obtain ⟨rfl, h1⟩ := hl
        have hm : q.1 = true → q ∈ es.filterMap kl1 := fun hq => List.mem_filterMap.mpr ⟨x, hx, by unfold kl1; rw [ex]; simp only; rw [if_pos ⟨trivial, hq⟩]⟩
        rcases h1 with z | ⟨z1, z2, z3⟩
        · exact Or.inl (by rw [← z]; exact hm (by rw [z]; exact hg))
        · exact Or.inr ⟨z1, q, hm z2, z3⟩
    · intro h
      have hm : ∀ q, q ∈ es.filterMap kl1 → q.1 = true ∧ ∃ x ∈ es, ∃ j b, x.2 = some (1, j, b, q) := by
        intro q hq
        obtain ⟨x, hx, hk⟩ := List.mem_filterMap.mp hq
        unfold kl1 at hk
        cases ex : x.2 with
        | none => rw [ex] at hk; cases hk
        | some r =>
          obtain ⟨s, j, b, q'⟩ := r
          rw [ex] at hk
          simp only at hk
          split at hk
          · rename_i c1
            cases hk
            exact ⟨c1.2, x, hx, j, b, by rw [ex, c1.1]⟩
          · cases hk
      apply List.any_eq_true.mpr
      rcases h with z | ⟨z1, q, z2, z3⟩
      · obtain ⟨-, x, hx, j, b, ex⟩ := hm _ z
        refine ⟨x, hx, ?_⟩
        unfold lt2
        rw [ex]
        simp
      · obtain ⟨hq, x, hx, j, b, ex⟩ := hm _ z2
        refine ⟨x, hx, ?_⟩
        unfold lt2
        rw [ex]
        simp [z1, hq, z3]
theorem kl_lnk {t : List Nat} {y : Nm} (h : y ∈ kl t) : y ∈ lnk t := by
  unfold kl at h
  unfold lnk
  obtain ⟨x, hx, hk⟩ := List.mem_filterMap.mp h
  refine List.mem_filterMap.mpr ⟨x, hx, ?_⟩
  unfold kl1 at hk
  cases ex : x.2 with
  | none => rw [ex] at hk; cases hk
  | some r =>
    obtain ⟨s, j, b, q'⟩ := r
    rw [ex] at hk
    simp only at hk ⊢
    split at hk
    · exact hk
    · cases hk
theorem mbM_mbP (hg : goal.1 = true) (hnn : w.2.2.1 ≤ 16) (ht : ∀ p, p < w.2.2.1 → (wasT w.2.1 p T).length ≤ 300) {p : Nat} (hp : p < w.2.2.1) : mbM w T al goal p = mbP w.2.1 w.2.2.2 w.2.2.1 T al goal p := by
  have hu : ∀ p, p < w.2.2.1 → ∀ y ∈ kl (wasT w.2.1 p T), y ∈ lnkA w.2.1 w.2.2.1 T := fun p hp y hy => lnkA_mem hp (kl_lnk hy)
  have hU : (lnkA w.2.1 w.2.2.1 T).length ≤ 960 := by
    have := lnkA_len (ch := w.2.1) (nn := w.2.2.1) (T := T) ht
    omega
  obtain ⟨k1, k2⟩ := kinL_rch (nm := w.2.2.2) hu hU hp
  have hkl : ∀ y, y ∈ kl (wasT w.2.1 p T) → ¬ thr w.2.1 p T = none := by
    intro y hy z
    unfold wasT at hy
    rw [z] at hy
    have hk : kl [] = [] := rfl
    rw [hk] at hy
    cases hy
  -- what is marked
  have hM : mbM w T al goal p = true ↔ (if al = true then ∃ n, rch w.2.1 w.2.2.2 w.2.2.1 T n p goal else goal ∈ kl (wasT w.2.1 p T)) := by
    have fix : ∀ x, x < w.2.2.1 → lqP w T 0 al goal (mbM w T al goal) x = true → mbM w T al goal x = true := trun_fix (Nat.le_trans unm_le hnn)
    constructor
    · intro h
      have inv := trun_inv (f := lqP w T 0 al goal) (nn := w.2.2.1) (Z := fun p => if al = true then ∃ n, rch w.2.1 w.2.2.2 w.2.2.1 T n p goal else goal ∈ kl (wasT w.2.1 p T)) (fun mk' p' hz hl => by
        rcases (lqP_kl hg).mp hl with z | ⟨z1, q, z2, z3⟩
        · split
          · exact ⟨0, z⟩
          · exact z
        · simp only [z1, if_true] at hz ⊢
          cases epp : pof w.2.1 w.2.2.2 w.2.2.1 q T with
          | none => rw [epp] at z3; cases z3
          | some p1 =>
            rw [epp] at z3
            obtain ⟨n, hn⟩ := hz p1 z3
            exact ⟨n + 1, q, p1, z2, epp, hn⟩) (k := 16) (mk := fun _ => false) (fun x hx => by cases hx)
      exact inv p h
    · intro h
      cases al with
      | false =>
        simp only [Bool.false_eq_true, if_false] at h
        exact fix p hp ((lqP_kl hg).mpr (Or.inl h))
      | true =>
        simp only [if_true] at h
        obtain ⟨n, hn⟩ := h
        have go : ∀ n p', p' < w.2.2.1 → rch w.2.1 w.2.2.2 w.2.2.1 T n p' goal → mbM w T true goal p' = true := by
          intro n
          induction n with
          | zero => intro p' hp' hr; exact fix p' hp' ((lqP_kl hg).mpr (Or.inl hr))
          | succ n ih =>
            intro p' hp' hr
            obtain ⟨k, p1, q1, q2, q3⟩ := hr
            have := ih p1 (pof_lt q2).1 q3
            exact fix p' hp' ((lqP_kl hg).mpr (Or.inr ⟨rfl, k, q1, by rw [q2]; exact this⟩))
        exact go n p hp hn
  have hP : mbP w.2.1 w.2.2.2 w.2.2.1 T al goal p = true ↔ (if al = true then ∃ n, rch w.2.1 w.2.2.2 w.2.2.1 T n p goal else goal ∈ kl (wasT w.2.1 p T)) := by
    have hr0 : ∀ n, rch w.2.1 w.2.2.2 w.2.2.1 T n p goal → ¬ thr w.2.1 p T = none := by
      intro n hr
      cases n with
      | zero => exact hkl _ hr
      | succ n => obtain ⟨k, p1, q1, -⟩ := hr; exact hkl _ q1
    unfold mbP
    cases e : thr w.2.1 p T with
    | none =>
      simp only [Bool.false_eq_true, false_iff]
      split
      · rintro ⟨n, hn⟩; exact hr0 n hn e
      · intro z; exact hkl _ z e
    | some c =>
      simp only
      rw [List.any_eq_true]
      cases al with
      | false =>
        simp only [Bool.false_eq_true, if_false, false_or, decide_eq_true_eq]
        rw [← k2]
        constructor
        · rintro ⟨x, hx, e1, e2⟩
          rw [← e1, ← e2]
          exact hx
        · intro h
          exact ⟨_, h, rfl, rfl⟩
      | true =>
        simp only [if_true, true_or, and_true, decide_eq_true_eq]
        rw [← k1]
        constructor
        · rintro ⟨x, hx, e1⟩
          exact List.mem_map.mpr ⟨x, hx, e1⟩
        · intro h
          obtain ⟨x, hx, e1⟩ := List.mem_map.mp h
          exact ⟨x, hx, e1⟩
  cases z : mbP w.2.1 w.2.2.2 w.2.2.1 T al goal p with
  | true => exact hM.mpr (hP.mp z)
  | false =>
    cases y : mbM w T al goal p with
    | false => rfl
    | true => rw [hP.mpr (hM.mp y)] at z; cases z
end
section
variable {g X : Nat} {Q : Nat → Prop} {h : PH} {tp ou fo : List Nat} {hd : Option Nm} {a : Option Nat} {w : Wd}
theorem web_300 {T p : Nat} (W : web Q h X w) (hT : T ≤ w.1) : (wasT w.2.1 p T).length ≤ 300 := by
  unfold wasT
  cases e : thr w.2.1 p T with
  | none => simp
  | some c =>
    obtain ⟨t1, t2, -⟩ := thr_some e
    exact (W.2.1 c t1 (by omega)).2.1
theorem C_members {x : Int32} (I : cI Q h X tp ou fo hd a w) :
    ∃ h', cal g mX10_members [va_rf (some X), .int x] h = some (some (.int (sMembers fo hd a w x).1), h') ∧ cOK X h h' 0 ∧ cI Q h' X tp ou (sMembers fo hd a w x).2 hd a w := by
  have W := I.1.2.2.1
  have hT := tm_le I.1.2.2.2
  have e : sMembers fo hd a w x = sMemC fo hd a w x := by
    unfold sMembers sMemC
    cases hd with
    | none => rfl
    | some q =>
      simp only
      by_cases c : q.1 = false ∨ ixI 2 x = none
      · rw [if_pos c, if_pos c]
      · rw [if_neg c, if_neg c]
        have hg : q.1 = true := by
          cases z : q.1 with
          | true => rfl
          | false => exact absurd (Or.inl z) c
        rw [frm_cg (f := mbP w.2.1 w.2.2.2 w.2.2.1 (tm a w.1) (decide (x = nI 1)) q) (f' := mbM w (tm a w.1) (decide (x = nI 1)) q) (fun p _ hp => (mbM_mbP hg W.1.2.2.2 (fun p _ => web_300 W hT) (by omega)).symm)]
  rw [e]
  exact C_membersC I
end
