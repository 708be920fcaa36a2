/-! PageWeb: its cells lie at X .. X + 26 (by program: wip/whole/gen6.py) -/
def ckt : List (Nat × Nat) := [(0, 10), (1, 6), (3, 6), (5, 6), (7, 50), (8, 5), (9, 6), (11, 9), (12, 53), (13, 50), (14, 54), (15, 1), (16, 6), (18, 6), (20, 50), (21, 50), (22, 51), (23, 7), (24, 51), (25, 3), (26, 12)]
def crt : List (Nat × Nat × Nat) := [(0, 0, 1), (1, 0, 3), (2, 0, 5), (3, 0, 7), (7, 0, 8), (8, 0, 11), (9, 0, 15), (10, 0, 23), (11, 0, 25), (0, 8, 9), (0, 11, 12), (1, 11, 13), (2, 11, 14), (0, 15, 11), (1, 15, 16), (2, 15, 18), (3, 15, 20), (4, 15, 21), (5, 15, 22), (0, 23, 11), (1, 23, 24), (0, 25, 26)]
def clt : List (Nat × Nat) := [(7, 16), (12, 121), (13, 1936), (14, 16), (20, 80), (21, 8), (22, 16), (24, 16)]
def cl (h : PH) (X : Nat) : Prop := X + 57 ≤ hN h ∧ (∀ e ∈ ckt, hK h (X + e.1) = e.2) ∧ (∀ e ∈ crt, hR h e.1 (X + e.2.1) = some (X + e.2.2)) ∧ (∀ e ∈ clt, hL h (X + e.1) = e.2) ∧ ∀ k, k < 4 → hK h (hS h k) = 70 + k ∧ hS h k < X
theorem clK_0 {h : PH} {X : Nat} (d : cl h X) : hK h X = 10 := d.2.1 (0, 10) (by decide)
theorem clK_1 {h : PH} {X : Nat} (d : cl h X) : hK h (X + 1) = 6 := d.2.1 (1, 6) (by decide)
theorem clK_3 {h : PH} {X : Nat} (d : cl h X) : hK h (X + 3) = 6 := d.2.1 (3, 6) (by decide)
theorem clK_5 {h : PH} {X : Nat} (d : cl h X) : hK h (X + 5) = 6 := d.2.1 (5, 6) (by decide)
theorem clK_7 {h : PH} {X : Nat} (d : cl h X) : hK h (X + 7) = 50 := d.2.1 (7, 50) (by decide)
theorem clK_8 {h : PH} {X : Nat} (d : cl h X) : hK h (X + 8) = 5 := d.2.1 (8, 5) (by decide)
theorem clK_9 {h : PH} {X : Nat} (d : cl h X) : hK h (X + 9) = 6 := d.2.1 (9, 6) (by decide)
theorem clK_11 {h : PH} {X : Nat} (d : cl h X) : hK h (X + 11) = 9 := d.2.1 (11, 9) (by decide)
theorem clK_12 {h : PH} {X : Nat} (d : cl h X) : hK h (X + 12) = 53 := d.2.1 (12, 53) (by decide)
theorem clK_13 {h : PH} {X : Nat} (d : cl h X) : hK h (X + 13) = 50 := d.2.1 (13, 50) (by decide)
theorem clK_14 {h : PH} {X : Nat} (d : cl h X) : hK h (X + 14) = 54 := d.2.1 (14, 54) (by decide)
theorem clK_15 {h : PH} {X : Nat} (d : cl h X) : hK h (X + 15) = 1 := d.2.1 (15, 1) (by decide)
theorem clK_16 {h : PH} {X : Nat} (d : cl h X) : hK h (X + 16) = 6 := d.2.1 (16, 6) (by decide)
theorem clK_18 {h : PH} {X : Nat} (d : cl h X) : hK h (X + 18) = 6 := d.2.1 (18, 6) (by decide)
theorem clK_20 {h : PH} {X : Nat} (d : cl h X) : hK h (X + 20) = 50 := d.2.1 (20, 50) (by decide)
theorem clK_21 {h : PH} {X : Nat} (d : cl h X) : hK h (X + 21) = 50 := d.2.1 (21, 50) (by decide)
theorem clK_22 {h : PH} {X : Nat} (d : cl h X) : hK h (X + 22) = 51 := d.2.1 (22, 51) (by decide)
theorem clK_23 {h : PH} {X : Nat} (d : cl h X) : hK h (X + 23) = 7 := d.2.1 (23, 7) (by decide)
theorem clK_24 {h : PH} {X : Nat} (d : cl h X) : hK h (X + 24) = 51 := d.2.1 (24, 51) (by decide)
theorem clK_25 {h : PH} {X : Nat} (d : cl h X) : hK h (X + 25) = 3 := d.2.1 (25, 3) (by decide)
theorem clK_26 {h : PH} {X : Nat} (d : cl h X) : hK h (X + 26) = 12 := d.2.1 (26, 12) (by decide)
theorem clR_0_0 {h : PH} {X : Nat} (d : cl h X) : hR h 0 X = some (X + 1) := d.2.2.1 (0, 0, 1) (by decide)
theorem clR_1_0 {h : PH} {X : Nat} (d : cl h X) : hR h 1 X = some (X + 3) := d.2.2.1 (1, 0, 3) (by decide)
theorem clR_2_0 {h : PH} {X : Nat} (d : cl h X) : hR h 2 X = some (X + 5) := d.2.2.1 (2, 0, 5) (by decide)
theorem clR_3_0 {h : PH} {X : Nat} (d : cl h X) : hR h 3 X = some (X + 7) := d.2.2.1 (3, 0, 7) (by decide)
theorem clR_7_0 {h : PH} {X : Nat} (d : cl h X) : hR h 7 X = some (X + 8) := d.2.2.1 (7, 0, 8) (by decide)
theorem clR_8_0 {h : PH} {X : Nat} (d : cl h X) : hR h 8 X = some (X + 11) := d.2.2.1 (8, 0, 11) (by decide)
theorem clR_9_0 {h : PH} {X : Nat} (d : cl h X) : hR h 9 X = some (X + 15) := d.2.2.1 (9, 0, 15) (by decide)
theorem clR_10_0 {h : PH} {X : Nat} (d : cl h X) : hR h 10 X = some (X + 23) := d.2.2.1 (10, 0, 23) (by decide)
theorem clR_11_0 {h : PH} {X : Nat} (d : cl h X) : hR h 11 X = some (X + 25) := d.2.2.1 (11, 0, 25) (by decide)
theorem clR_0_8 {h : PH} {X : Nat} (d : cl h X) : hR h 0 (X + 8) = some (X + 9) := d.2.2.1 (0, 8, 9) (by decide)
theorem clR_0_11 {h : PH} {X : Nat} (d : cl h X) : hR h 0 (X + 11) = some (X + 12) := d.2.2.1 (0, 11, 12) (by decide)
theorem clR_1_11 {h : PH} {X : Nat} (d : cl h X) : hR h 1 (X + 11) = some (X + 13) := d.2.2.1 (1, 11, 13) (by decide)
theorem clR_2_11 {h : PH} {X : Nat} (d : cl h X) : hR h 2 (X + 11) = some (X + 14) := d.2.2.1 (2, 11, 14) (by decide)
theorem clR_0_15 {h : PH} {X : Nat} (d : cl h X) : hR h 0 (X + 15) = some (X + 11) := d.2.2.1 (0, 15, 11) (by decide)
theorem clR_1_15 {h : PH} {X : Nat} (d : cl h X) : hR h 1 (X + 15) = some (X + 16) := d.2.2.1 (1, 15, 16) (by decide)
theorem clR_2_15 {h : PH} {X : Nat} (d : cl h X) : hR h 2 (X + 15) = some (X + 18) := d.2.2.1 (2, 15, 18) (by decide)
theorem clR_3_15 {h : PH} {X : Nat} (d : cl h X) : hR h 3 (X + 15) = some (X + 20) := d.2.2.1 (3, 15, 20) (by decide)
theorem clR_4_15 {h : PH} {X : Nat} (d : cl h X) : hR h 4 (X + 15) = some (X + 21) := d.2.2.1 (4, 15, 21) (by decide)
theorem clR_5_15 {h : PH} {X : Nat} (d : cl h X) : hR h 5 (X + 15) = some (X + 22) := d.2.2.1 (5, 15, 22) (by decide)
theorem clR_0_23 {h : PH} {X : Nat} (d : cl h X) : hR h 0 (X + 23) = some (X + 11) := d.2.2.1 (0, 23, 11) (by decide)
theorem clR_1_23 {h : PH} {X : Nat} (d : cl h X) : hR h 1 (X + 23) = some (X + 24) := d.2.2.1 (1, 23, 24) (by decide)
theorem clR_0_25 {h : PH} {X : Nat} (d : cl h X) : hR h 0 (X + 25) = some (X + 26) := d.2.2.1 (0, 25, 26) (by decide)
theorem clL_7 {h : PH} {X : Nat} (d : cl h X) : hL h (X + 7) = 16 := d.2.2.2.1 (7, 16) (by decide)
theorem clL_12 {h : PH} {X : Nat} (d : cl h X) : hL h (X + 12) = 121 := d.2.2.2.1 (12, 121) (by decide)
theorem clL_13 {h : PH} {X : Nat} (d : cl h X) : hL h (X + 13) = 1936 := d.2.2.2.1 (13, 1936) (by decide)
theorem clL_14 {h : PH} {X : Nat} (d : cl h X) : hL h (X + 14) = 16 := d.2.2.2.1 (14, 16) (by decide)
theorem clL_20 {h : PH} {X : Nat} (d : cl h X) : hL h (X + 20) = 80 := d.2.2.2.1 (20, 80) (by decide)
theorem clL_21 {h : PH} {X : Nat} (d : cl h X) : hL h (X + 21) = 8 := d.2.2.2.1 (21, 8) (by decide)
theorem clL_22 {h : PH} {X : Nat} (d : cl h X) : hL h (X + 22) = 16 := d.2.2.2.1 (22, 16) (by decide)
theorem clL_24 {h : PH} {X : Nat} (d : cl h X) : hL h (X + 24) = 16 := d.2.2.2.1 (24, 16) (by decide)
theorem clS_0 {h : PH} {X : Nat} (d : cl h X) : hK h (hS h 0) = 70 := (d.2.2.2.2 0 (by decide)).1
theorem clS_1 {h : PH} {X : Nat} (d : cl h X) : hK h (hS h 1) = 71 := (d.2.2.2.2 1 (by decide)).1
theorem clS_2 {h : PH} {X : Nat} (d : cl h X) : hK h (hS h 2) = 72 := (d.2.2.2.2 2 (by decide)).1
theorem clS_3 {h : PH} {X : Nat} (d : cl h X) : hK h (hS h 3) = 73 := (d.2.2.2.2 3 (by decide)).1
/-- what is kept: cells outside of P, and where the parts lie -/
def cfm (X : Nat) (P : Nat → Prop) (h h' : PH) : Prop := sm P h h' ∧ ∀ e ∈ crt, hR h' e.1 (X + e.2.1) = hR h e.1 (X + e.2.1)
theorem cfm.rf {X : Nat} {P : Nat → Prop} (h : PH) : cfm X P h h := ⟨sm.rf _, fun _ _ => rfl⟩
theorem cfm.tr {X : Nat} {P : Nat → Prop} {h1 h2 h3 : PH} (a : cfm X P h1 h2) (b : cfm X P h2 h3) : cfm X P h1 h3 := ⟨a.1.tr b.1, fun e he => (b.2 e he).trans (a.2 e he)⟩
theorem cfm.mono {X : Nat} {P Q : Nat → Prop} {h h' : PH} (a : cfm X P h h') (hq : ∀ x, x < hN h → P x → Q x) : cfm X Q h h' := ⟨a.1.mono hq, a.2⟩
/-- objects that hold references -/
def crO (x : Nat) : Prop := x = 0 ∨ x = 8 ∨ x = 11 ∨ x = 15 ∨ x = 23 ∨ x = 25
theorem crt_O : ∀ e ∈ crt, crO e.2.1 ∧ e.2.1 < 27 := by
  unfold crO
  decide
theorem cfm.of {X : Nat} {P : Nat → Prop} {h h' : PH} (s : sm P h h') (hn : X + 57 ≤ hN h) (hP : ∀ k, crO k → ¬ P (X + k)) : cfm X P h h' := by
  refine ⟨s, fun e he => ?_⟩
  obtain ⟨o1, o2⟩ := crt_O e he
  exact ((s.2.2 (X + e.2.1) (by omega)).2.2 (hP _ o1)).2.1 _
theorem cfm.pI {X : Nat} {P : Nat → Prop} (h : PH) {k a : Nat} (v : Int32) (hp : P a) : cfm X P h (pI h k a v) := ⟨sm.I h v hp, fun _ _ => rfl⟩
theorem cfm.pA {X : Nat} {P : Nat → Prop} (h : PH) {a : Nat} (f : Nat → Int32) (hp : P a) : cfm X P h (pA h a f) := ⟨sm.A h f hp, fun _ _ => rfl⟩
theorem cfm.pB {X : Nat} {P : Nat → Prop} (h : PH) {a : Nat} (f : Nat → Option Nat) (hp : P a) : cfm X P h (pB h a f) := ⟨sm.B h f hp, fun _ _ => rfl⟩
theorem cfm.pR {X : Nat} {P : Nat → Prop} (h : PH) {k a : Nat} (v : Option Nat) (hp : P a) (hk : ∀ e ∈ crt, ¬ (e.1 = k ∧ X + e.2.1 = a)) : cfm X P h (pR h k a v) := by
  refine ⟨sm.R h v hp, fun e he => ?_⟩
  have := hk e he
  simp only [u_RR]
  by_cases c : e.1 = k
  · rw [if_pos c, if_neg (fun z => this ⟨c, z⟩), c]
  · rw [if_neg c]
theorem cl.keep {X : Nat} {P : Nat → Prop} {h h' : PH} (d : cl h X) (s : cfm X P h h') : cl h' X := by
  obtain ⟨d0, d1, d2, d3, d4⟩ := d
  have hk : ∀ e ∈ ckt, e.1 < 27 := by decide
  have hl : ∀ e ∈ clt, e.1 < 27 := by decide
  refine ⟨by have := s.1.1; omega, fun e he => ?_, fun e he => by rw [s.2 e he]; exact d2 e he, fun e he => ?_, fun k hk => ?_⟩
  · rw [(s.1.2.2 _ (by have := hk e he; omega)).1]; exact d1 e he
  · rw [(s.1.2.2 _ (by have := hl e he; omega)).2.1]; exact d3 e he
  · obtain ⟨a1, a2⟩ := d4 k hk
    rw [s.1.2.1]
    exact ⟨by rw [(s.1.2.2 _ (by omega)).1]; exact a1, a2⟩
theorem cl.S {X : Nat} {h : PH} (d : cl h X) (k : Nat) (hk : k < 4) : hS h k < hN h := by have := (d.2.2.2.2 k hk).2; have := d.1; omega
/-! what never changes: parts, TEXTS, CHANGES; Q: their cells -/
def pt1 (Q : Nat → Prop) (h : PH) (a : Nat) (e : Pt) : Prop := (Q a ∧ hK h a = 4 ∧ hI h 0 a = nI e.1 ∧ hI h 1 a = nI e.2.1 ∧ hI h 2 a = nI e.2.2.1 ∧ hI h 3 a = nI e.2.2.2.1) ∧ match e.2.2.2.2 with
  | none => hR h 4 a = none
  | some q => ∃ b, hR h 4 a = some b ∧ Q b ∧ nm_ h b q.1 q.2
theorem pt1.keep {Q Q' P : Nat → Prop} {h h' : PH} {a : Nat} {e : Pt} (r : pt1 Q h a e) (s : sm P h h') (hQ : ∀ x, Q x → x < hN h ∧ ¬ P x ∧ Q' x) : pt1 Q' h' a e := by
  obtain ⟨⟨r1, r2, r3, r4, r5, r6⟩, r7⟩ := r
  obtain ⟨q1, q2, q3⟩ := hQ a r1
  obtain ⟨s1, s2, s3⟩ := s.2.2 a q1
  obtain ⟨s4, s5, -⟩ := s3 q2
  refine ⟨⟨q3, by rw [s1]; exact r2, by rw [s4]; exact r3, by rw [s4]; exact r4, by rw [s4]; exact r5, by rw [s4]; exact r6⟩, ?_⟩
  cases eq : e.2.2.2.2 with
  | none => rw [eq] at r7; show hR h' 4 a = none; rw [s5]; exact r7
  | some q =>
    rw [eq] at r7
    obtain ⟨b, b1, b2, b3⟩ := r7
    obtain ⟨p1, p2, p3⟩ := hQ b b2
    exact ⟨b, by rw [s5]; exact b1, p3, b3.keep s p1 p2⟩
/-- parts one after the other, from r to r' -/
def sgm (Q : Nat → Prop) (h : PH) : Option Nat → List Pt → Option Nat → Prop
  | r, [], r' => r = r'
  | r, e :: es, r' => ∃ a, r = some a ∧ pt1 Q h a e ∧ sgm Q h (hR h 5 a) es r'
theorem sgm.keep {Q Q' P : Nat → Prop} {h h' : PH} (s : sm P h h') (hQ : ∀ x, Q x → x < hN h ∧ ¬ P x ∧ Q' x) : ∀ {es : List Pt} {r r' : Option Nat}, sgm Q h r es r' → sgm Q' h' r es r'
  | [], _, _, h => h
  | e :: es, r, r', hs => by
    obtain ⟨a, h1, h2, h3⟩ := hs
    refine ⟨a, h1, h2.keep s hQ, ?_⟩
    obtain ⟨q1, q2, q3⟩ := hQ a h2.1.1
    rw [((s.2.2 a q1).2.2 q2).2.1 5]
    exact sgm.keep s hQ h3
theorem sgm.app {Q : Nat → Prop} {h : PH} : ∀ {es fs : List Pt} {r r' r'' : Option Nat}, sgm Q h r es r' → sgm Q h r' fs r'' → sgm Q h r (es ++ fs) r''
  | [], _, _, _, _, h1, h2 => by cases h1; exact h2
  | e :: es, fs, r, r', r'', h1, h2 => by
    obtain ⟨a, a1, a2, a3⟩ := h1
    exact ⟨a, a1, a2, sgm.app a3 h2⟩
/-- a row that never changes -/
def rwQ (Q : Nat → Prop) (h : PH) (r : Option Nat) (l : List Nat) : Prop := ∃ a b, r = some a ∧ Q a ∧ Q b ∧ rw_ h a b l.length l.length l 0
theorem rwQ.keep {Q Q' P : Nat → Prop} {h h' : PH} {r : Option Nat} {l : List Nat} (w : rwQ Q h r l) (s : sm P h h') (hQ : ∀ x, Q x → x < hN h ∧ ¬ P x ∧ Q' x) : rwQ Q' h' r l := by
  obtain ⟨a, b, w1, w2, w3, w4⟩ := w
  obtain ⟨p1, p2, p3⟩ := hQ a w2
  obtain ⟨q1, q2, q3⟩ := hQ b w3
  exact ⟨a, b, w1, p3, q3, w4.keep s p1 q1 p2 q2⟩
def nmQ (Q : Nat → Prop) (h : PH) (r : Option Nat) (q : Option Nm) : Prop := match q with
  | none => r = none
  | some q => ∃ b, r = some b ∧ Q b ∧ nm_ h b q.1 q.2
theorem nmQ.keep {Q Q' P : Nat → Prop} {h h' : PH} {r : Option Nat} {q : Option Nm} (w : nmQ Q h r q) (s : sm P h h') (hQ : ∀ x, Q x → x < hN h ∧ ¬ P x ∧ Q' x) : nmQ Q' h' r q := by
  cases q with
  | none => exact w
  | some q =>
    obtain ⟨b, w1, w2, w3⟩ := w
    obtain ⟨p1, p2, p3⟩ := hQ b w2
    exact ⟨b, w1, p3, w3.keep s p1 p2⟩
/-- a Text at a -/
def txt (Q : Nat → Prop) (h : PH) (a : Nat) (t : List Nat) : Prop := (Q a ∧ hK h a = 8) ∧ rwQ Q h (hR h 0 a) t ∧ sgm Q h (hR h 1 a) (ptl t) none ∧ nmQ Q h (hR h 3 a) (mvd t)
theorem txt.keep {Q Q' P : Nat → Prop} {h h' : PH} {a : Nat} {t : List Nat} (w : txt Q h a t) (s : sm P h h') (hQ : ∀ x, Q x → x < hN h ∧ ¬ P x ∧ Q' x) : txt Q' h' a t := by
  obtain ⟨⟨w1, w2⟩, w3, w4, w5⟩ := w
  obtain ⟨p1, p2, p3⟩ := hQ a w1
  obtain ⟨s1, s2, s3⟩ := s.2.2 a p1
  obtain ⟨s4, s5, -⟩ := s3 p2
  refine ⟨⟨p3, by rw [s1]; exact w2⟩, ?_, ?_, ?_⟩
  · rw [s5]; exact w3.keep s hQ
  · rw [s5]; exact sgm.keep s hQ w4
  · rw [s5]; exact w5.keep s hQ
/-- a Change at a -/
def chg (Q : Nat → Prop) (h : PH) (a : Nat) (c : Ch) : Prop := (Q a ∧ hK h a = 0 ∧ hI h 0 a = nI (cp c) ∧ hI h 1 a = nI (cd c) ∧ hI h 2 a = bI (cg c) ∧ hI h 4 a = nI (cs c) ∧ hI h 5 a = nI (cw c) ∧ hI h 6 a = nI (cc c)) ∧ (∃ b, hR h 3 a = some b ∧ txt Q h b (ct c)) ∧ rwQ Q h (hR h 7 a) (cb c)
theorem chg.keep {Q Q' P : Nat → Prop} {h h' : PH} {a : Nat} {c : Ch} (w : chg Q h a c) (s : sm P h h') (hQ : ∀ x, Q x → x < hN h ∧ ¬ P x ∧ Q' x) : chg Q' h' a c := by
  obtain ⟨⟨w1, w2, w3, w4, w5, w6, w7, w8⟩, ⟨b, wb, wt⟩, w9⟩ := w
  obtain ⟨p1, p2, p3⟩ := hQ a w1
  obtain ⟨s1, s2, s3⟩ := s.2.2 a p1
  obtain ⟨s4, s5, -⟩ := s3 p2
  refine ⟨⟨p3, by rw [s1]; exact w2, ?_, ?_, ?_, ?_, ?_, ?_⟩, ⟨b, ?_, wt.keep s hQ⟩, ?_⟩
  · rw [s4]; exact w3
  · rw [s4]; exact w4
  · rw [s4]; exact w5
  · rw [s4]; exact w6
  · rw [s4]; exact w7
  · rw [s4]; exact w8
  · rw [s5]; exact wb
  · rw [s5]; exact w9.keep s hQ

