/-! PageWebModel: what a call of it leaves as it was -/
/-- only the fields F and the arrays A (as M + a) are changed -/
def mf (F A : List Nat) (M : Nat) (h h' : PH) : Prop :=
  (hN h' = hN h ∧ hU h' = hU h ∧ hK h' = hK h ∧ hL h' = hL h ∧ hR h' = hR h ∧ hJ h' = hJ h ∧ hB h' = hB h ∧ hS h' = hS h) ∧ (∀ k x, ¬ (x = M ∧ k ∈ F) → hI h' k x = hI h k x) ∧ ∀ x, (∀ a ∈ A, x ≠ M + a) → hA h' x = hA h x
theorem mf.rf {F A : List Nat} {M : Nat} (h : PH) : mf F A M h h := ⟨⟨rfl, rfl, rfl, rfl, rfl, rfl, rfl, rfl⟩, fun _ _ _ => rfl, fun _ _ => rfl⟩
theorem mf.tr {F A : List Nat} {M : Nat} {h1 h2 h3 : PH} (a : mf F A M h1 h2) (b : mf F A M h2 h3) : mf F A M h1 h3 := by
  obtain ⟨⟨a1, a2, a3, a4, a5, a6, a7, a8⟩, a9, a10⟩ := a
  obtain ⟨⟨b1, b2, b3, b4, b5, b6, b7, b8⟩, b9, b10⟩ := b
  exact ⟨⟨b1.trans a1, b2.trans a2, b3.trans a3, b4.trans a4, b5.trans a5, b6.trans a6, b7.trans a7, b8.trans a8⟩, fun k x hx => (b9 k x hx).trans (a9 k x hx), fun x hx => (b10 x hx).trans (a10 x hx)⟩
theorem mf.mono {F A F' A' : List Nat} {M : Nat} {h h' : PH} (s : mf F A M h h') (hF : ∀ k ∈ F, k ∈ F') (hA' : ∀ k ∈ A, k ∈ A') : mf F' A' M h h' :=
  ⟨s.1, fun k x hx => s.2.1 k x (fun z => hx ⟨z.1, hF k z.2⟩), fun x hx => s.2.2 x (fun a ha => hx a (hA' a ha))⟩
theorem mf.pI {F A : List Nat} {M : Nat} (h : PH) (k : Nat) (v : Int32) (hk : k ∈ F) : mf F A M h (pI h k M v) := by
  refine ⟨⟨rfl, rfl, rfl, rfl, rfl, rfl, rfl, rfl⟩, fun j x hx => ?_, fun _ _ => rfl⟩
  simp only [u_II]
  by_cases z : j = k
  · subst z
    have : x ≠ M := fun w => hx ⟨w, hk⟩
    simp only [this, if_true, if_false]
  · simp only [z, if_false]
theorem mf.pA {F A : List Nat} {M : Nat} (h : PH) (a : Nat) (f : Nat → Int32) (ha : a ∈ A) : mf F A M h (pA h (M + a) f) := by
  refine ⟨⟨rfl, rfl, rfl, rfl, rfl, rfl, rfl, rfl⟩, fun _ _ _ => rfl, fun x hx => ?_⟩
  simp only [u_AA, hx a ha, if_false]
theorem mf.i {F A : List Nat} {M : Nat} {h h' : PH} (s : mf F A M h h') (k : Nat) (hk : k ∉ F) : hI h' k M = hI h k M := s.2.1 k M (fun z => hk z.2)
theorem mf.a {F A : List Nat} {M : Nat} {h h' : PH} (s : mf F A M h h') (a : Nat) (ha : a ∉ A) : hA h' (M + a) = hA h (M + a) := by
  refine s.2.2 _ (fun b hb z => ha ?_)
  have : a = b := by omega
  rw [this]
  exact hb
theorem mf.d {F A : List Nat} {M : Nat} {h h' : PH} (s : mf F A M h h') (d : md h M) : md h' M := d.keep s.1.2.2.1 s.1.2.2.2.1 s.1.2.2.2.2.1
theorem mf.nu {F A : List Nat} {M : Nat} {h h' : PH} (s : mf F A M h h') : hN h' = hN h ∧ hU h' = hU h := ⟨s.1.1, s.1.2.1⟩
theorem mf.sm {F A : List Nat} {M : Nat} {h h' : PH} (s : mf F A M h h') (hA' : ∀ a ∈ A, a < 30) : sm (mP' M) h h' := by
  obtain ⟨⟨a1, a2, a3, a4, a5, a6, a7, a8⟩, a9, a10⟩ := s
  refine ⟨by omega, a8, fun x hx => ⟨by rw [a3], by rw [a4], fun hn => ⟨fun k => a9 k x (fun z => hn ?_), fun k => by rw [a5], fun k => by rw [a6], a10 x (fun a ha z => hn ?_), by rw [a7]⟩⟩⟩
  · exact ⟨by omega, by omega⟩
  · have := hA' a ha
    exact ⟨by omega, by omega⟩
/-- an array begins with these; an array has these from place o on -/
def sg (h : PH) (x : Nat) (l : List Nat) : Prop := ∀ k, k < l.length → hA h x k = nI (l.getD k 0)
def seg (h : PH) (x o : Nat) (l : List Nat) : Prop := ∀ k, k < l.length → hA h x (o + k) = nI (l.getD k 0)
def by_ (l : List Nat) : Prop := ∀ x ∈ l, x < 256
theorem by_.g {l : List Nat} (h : by_ l) (k : Nat) : l.getD k 0 < 256 := by
  by_cases z : k < l.length
  · exact h _ (getD_mem z)
  · rw [getD_out (by omega)]; decide
def bI (b : Bool) : Int32 := if b = true then nI 1 else nI 0
theorem bI_t : bI true = nI 1 := by decide
theorem bI_f : bI false = nI 0 := by decide
/-- NAMES; a NAME's bytes -/
abbrev Nm : Type := Bool × List Nat
def nz (q : Nm) : List Nat := nby' q.1 q.2
def oN (o : Option Nat) : Int32 := match o with
  | none => nM 1
  | some c => nI c
/-- a CHANGE: page, hand, gone, TEXT, where it begins, how many went, how many came, which CHANGE put each byte -/
abbrev Ch : Type := Nat × Nat × Bool × List Nat × Nat × Nat × Nat × List Nat
def cp (c : Ch) : Nat := c.1
def cd (c : Ch) : Nat := c.2.1
def cg (c : Ch) : Bool := c.2.2.1
def ct (c : Ch) : List Nat := c.2.2.2.1
def cs (c : Ch) : Nat := c.2.2.2.2.1
def cw (c : Ch) : Nat := c.2.2.2.2.2.1
def cc (c : Ch) : Nat := c.2.2.2.2.2.2.1
def cb (c : Ch) : List Nat := c.2.2.2.2.2.2.2
/-- the last CHANGE of a page up to a time, 0 if there is none -/
def lst (ch : Nat → Ch) (p : Nat) : Nat → Nat
  | 0 => 0
  | t + 1 => if cp (ch (t + 1)) = p then t + 1 else lst ch p t
/-- the CHANGE that a page is as of -/
def thr (ch : Nat → Ch) (p t : Nat) : Option Nat := if lst ch p t = 0 ∨ cg (ch (lst ch p t)) = true then none else some (lst ch p t)
theorem lst_le (ch : Nat → Ch) (p : Nat) : ∀ t, lst ch p t ≤ t
  | 0 => Nat.le_refl _
  | t + 1 => by
    unfold lst
    split
    · exact Nat.le_refl _
    · exact Nat.le_succ_of_le (lst_le ch p t)
theorem lst_page (ch : Nat → Ch) (p : Nat) : ∀ t, lst ch p t ≠ 0 → cp (ch (lst ch p t)) = p
  | 0, h => absurd rfl h
  | t + 1, h => by
    unfold lst at h ⊢
    split
    · assumption
    · rename_i z
      rw [if_neg z] at h
      exact lst_page ch p t h
theorem thr_some {ch : Nat → Ch} {p t c : Nat} (h : thr ch p t = some c) : 1 ≤ c ∧ c ≤ t ∧ cp (ch c) = p ∧ cg (ch c) = false ∧ c = lst ch p t := by
  unfold thr at h
  split at h
  · cases h
  · rename_i z
    cases h
    refine ⟨by omega, lst_le _ _ _, lst_page _ _ _ (by omega), ?_, rfl⟩
    cases e : cg (ch (lst ch p t)) with
    | false => rfl
    | true => exact absurd (Or.inr e) z
/-- the first page of that NAME -/
def num (nm : Nat → Nm) (q : Nm) : Nat → Nat → Option Nat
  | 0, _ => none
  | k + 1, p => if nm p = q then some p else num nm q k (p + 1)
def tm (a : Option Nat) (n : Nat) : Nat := match a with
  | none => n
  | some t => t
/-! what the model holds -/
def mTp (h : PH) (M : Nat) (l : List Nat) : Prop := hI h 15 M = nI l.length ∧ sg h (M + 12) l ∧ l.length ≤ 400 ∧ by_ l
def mOu (h : PH) (M : Nat) (l : List Nat) : Prop := hI h 17 M = nI l.length ∧ sg h (M + 13) l ∧ l.length ≤ 2000 ∧ by_ l
def mFo (h : PH) (M : Nat) (l : List Nat) : Prop := hI h 35 M = nI l.length ∧ sg h (M + 20) l ∧ l.length ≤ 16
def mHd (h : PH) (M : Nat) (q : Option Nm) : Prop := match q with
  | none => hI h 22 M = nI 0
  | some q => hI h 22 M = nI (nz q).length ∧ hI h 23 M = bI q.1 ∧ sg h (M + 15) (nz q) ∧ nok q.2
def mAs (h : PH) (M : Nat) (a : Option Nat) : Prop := hI h 13 M = oN a
def mNm (h : PH) (M : Nat) (nn : Nat) (nm : Nat → Nm) : Prop := hI h 10 M = nI nn ∧ nn ≤ 17 ∧ ∀ p, p < nn → seg h (M + 10) (24 * p) (nz (nm p)) ∧ hA h (M + 11) p = nI (nz (nm p)).length ∧ nok (nm p).2
/-- the model's arrays of CHANGE c -/
def mC1 (h : PH) (M c : Nat) (x : Ch) : Prop :=
  (seg h (M + 1) (300 * c) (ct x) ∧ seg h (M + 2) (300 * c) (cb x) ∧ (cb x).length = (ct x).length ∧ (ct x).length ≤ 300 ∧ by_ (ct x)) ∧ hA h (M + 3) c = nI (ct x).length ∧ hA h (M + 4) c = bI (cg x) ∧ hA h (M + 5) c = nI (cp x) ∧ hA h (M + 6) c = nI (cd x) ∧ hA h (M + 7) c = nI (cs x) ∧ hA h (M + 8) c = nI (cw x) ∧ hA h (M + 9) c = nI (cc x) ∧ (cp x < 20 ∧ cs x ≤ 300 ∧ cw x ≤ 300 ∧ cc x ≤ 300 ∧ by_ (cb x))
def mCh (h : PH) (M n : Nat) (ch : Nat → Ch) : Prop := hI h 0 M = nI n ∧ n ≤ 160 ∧ ∀ c, 1 ≤ c → c ≤ n → mC1 h M c (ch c)
theorem mTp.keep {F A : List Nat} {M : Nat} {h h' : PH} {l : List Nat} (r : mTp h M l) (s : mf F A M h h') (hF : 15 ∉ F) (hA' : 12 ∉ A) : mTp h' M l := by
  unfold mTp sg at *
  rw [s.i _ hF, s.a _ hA']; exact r
theorem mOu.keep {F A : List Nat} {M : Nat} {h h' : PH} {l : List Nat} (r : mOu h M l) (s : mf F A M h h') (hF : 17 ∉ F) (hA' : 13 ∉ A) : mOu h' M l := by
  unfold mOu sg at *
  rw [s.i _ hF, s.a _ hA']; exact r
theorem mFo.keep {F A : List Nat} {M : Nat} {h h' : PH} {l : List Nat} (r : mFo h M l) (s : mf F A M h h') (hF : 35 ∉ F) (hA' : 20 ∉ A) : mFo h' M l := by
  unfold mFo sg at *
  rw [s.i _ hF, s.a _ hA']; exact r
theorem mHd.keep {F A : List Nat} {M : Nat} {h h' : PH} {q : Option Nm} (r : mHd h M q) (s : mf F A M h h') (hF : 22 ∉ F) (hF2 : 23 ∉ F) (hA' : 15 ∉ A) : mHd h' M q := by
  cases q <;> (unfold mHd sg at *; simp only [s.i _ hF, s.i _ hF2, s.a _ hA']; exact r)
theorem mAs.keep {F A : List Nat} {M : Nat} {h h' : PH} {a : Option Nat} (r : mAs h M a) (s : mf F A M h h') (hF : 13 ∉ F) : mAs h' M a := by
  unfold mAs at *
  rw [s.i _ hF]; exact r
theorem mNm.keep {F A : List Nat} {M nn : Nat} {nm : Nat → Nm} {h h' : PH} (r : mNm h M nn nm) (s : mf F A M h h') (hF : 10 ∉ F) (hA' : 10 ∉ A) (hA2 : 11 ∉ A) : mNm h' M nn nm := by
  unfold mNm seg at *
  rw [s.i _ hF, s.a _ hA', s.a _ hA2]; exact r
theorem mC1.keep {F A : List Nat} {M c : Nat} {x : Ch} {h h' : PH} (r : mC1 h M c x) (s : mf F A M h h') (hA' : ∀ a, 1 ≤ a → a ≤ 9 → a ∉ A) : mC1 h' M c x := by
  unfold mC1 seg at *
  rw [s.a 1 (hA' 1 (by decide) (by decide)), s.a 2 (hA' 2 (by decide) (by decide)), s.a 3 (hA' 3 (by decide) (by decide)), s.a 4 (hA' 4 (by decide) (by decide)), s.a 5 (hA' 5 (by decide) (by decide)), s.a 6 (hA' 6 (by decide) (by decide)), s.a 7 (hA' 7 (by decide) (by decide)), s.a 8 (hA' 8 (by decide) (by decide)), s.a 9 (hA' 9 (by decide) (by decide))]
  exact r
theorem mCh.keep {F A : List Nat} {M n : Nat} {ch : Nat → Ch} {h h' : PH} (r : mCh h M n ch) (s : mf F A M h h') (hF : 0 ∉ F) (hA' : ∀ a, 1 ≤ a → a ≤ 9 → a ∉ A) : mCh h' M n ch := by
  unfold mCh at *
  rw [s.i _ hF]; exact ⟨r.1, r.2.1, fun c h1 h2 => (r.2.2 c h1 h2).keep s hA'⟩
