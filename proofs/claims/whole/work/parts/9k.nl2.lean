/-! what the list's calls leave alone; NameList.clear -/
/-- all but the list -/
def cIl (Q : Nat → Prop) (h : PH) (X : Nat) (tp ou fo : List Nat) (hd : Option Nm) (a : Option Nat) (w : Wd) : Prop :=
  (cl h X ∧ (∀ x, Q x → X + 57 ≤ x ∧ x < hN h) ∧ web Q h X w ∧ ∀ t, a = some t → t ≤ w.1) ∧ (cT h X tp ∧ cO h X ou ∧ cDr h X ∧ cF h X) ∧ (cFo h X fo ∧ nmQ Q h (hR h 5 X) hd ∧ hI h 6 X = oN a) ∧ cMk Q h X
theorem cI.out {Q : Nat → Prop} {h : PH} {X : Nat} {tp ou fo : List Nat} {hd : Option Nm} {a : Option Nat} {w : Wd} (I : cI Q h X tp ou fo hd a w) : cIl Q h X tp ou fo hd a w ∧ cLs Q h X := ⟨⟨I.1, I.2.1, I.2.2.1, I.2.2.2.1⟩, I.2.2.2.2⟩
theorem cIl.back {Q : Nat → Prop} {h : PH} {X : Nat} {tp ou fo : List Nat} {hd : Option Nm} {a : Option Nat} {w : Wd} (I : cIl Q h X tp ou fo hd a w) (c : cLs Q h X) : cI Q h X tp ou fo hd a w := ⟨I.1, I.2.1, I.2.2.1, I.2.2.2, c⟩
theorem nls.ls {Q : Nat → Prop} {h : PH} {X e gf bs : Nat} {l : List Nat} {L : List Nm} (N : nls Q h X l e L gf bs) : cLs Q h X := ⟨l, e, N.1⟩
/-- the list's own cells -/
def lP (X e : Nat) : Nat → Prop := fun x => x = X + 25 ∨ x = X + 26 ∨ x = e
theorem cIl.kp {Q : Nat → Prop} {h h' : PH} {X e : Nat} {tp ou fo : List Nat} {hd : Option Nm} {a : Option Nat} {w : Wd} (I : cIl Q h X tp ou fo hd a w) (s : cfm X (lP X e) h h') (he : ¬ Q e ∧ (e < X ∨ X + 57 ≤ e)) (hk : ¬ hK h e = 52) : cIl Q h' X tp ou fo hd a w := by
  obtain ⟨⟨d, hQ, W, hta⟩, ⟨I1, I2, I3, I4⟩, ⟨I5, I6, I7⟩, ⟨⟨l, o, r⟩, wb, cap, bd, l2, o2, r2, r3, r4, r5, r6⟩⟩ := I
  have hN' := d.1
  have hs := s.1.1
  have hP : nP X (lP X e) [25, 26] := fun k hk hn z => by
    simp only [List.mem_cons, List.not_mem_nil, or_false, not_or] at hn
    unfold lP at z
    omega
  have hQ' : ∀ x, Q x → x < hN h ∧ ¬ lP X e x ∧ Q x := fun x hx => ⟨(hQ x hx).2, fun z => by
    have := hQ x hx
    unfold lP at z
    rcases z with z | z | z
    · omega
    · omega
    · rw [z] at hx; exact he.1 hx, hx⟩
  have c0 : ¬ lP X e X := hP 0 (by omega) (by decide)
  have hwb : ¬ wb = e := fun z => hk (by rw [← z]; exact r2.1.2.2.1)
  refine ⟨⟨d.keep s, fun x hx => by have := hQ x hx; omega, W.keep s.1 hN' (fun k k1 k2 => hP k (by omega) (by simp only [List.mem_cons, List.not_mem_nil, or_false, not_or]; omega)) hQ', hta⟩, ⟨I1.kp s.1 hN' hP (by decide) (by decide), I2.kp s.1 hN' hP (by decide) (by decide), I3.kp s.1 hN' hP (by decide) (by decide), I4.kp s.1 hN' hP (by decide) (by decide)⟩, ⟨I5.kp s.1 hN' hP (by decide) (by decide), ?_, ?_⟩, ⟨⟨l, o, r.keep s.1 (by omega) (by omega) (hP 16 (by omega) (by decide)) (hP 17 (by omega) (by decide))⟩, wb, cap, bd, l2, o2, r2.keep s.1 (by omega) r4 (hP 18 (by omega) (by decide)) ?_, r3, by omega, r5, r6⟩⟩
  · rw [((s.1.2.2 X (by omega)).2.2 c0).2.1]
    exact I6.keep s.1 hQ'
  · rw [((s.1.2.2 X (by omega)).2.2 c0).1]
    exact I7
  · unfold lP
    omega
/-- how long the list's array is -/
def lcap (h : PH) (X : Nat) : Nat := match hR h 1 (X + 26) with | none => 0 | some e => if hK h e = 55 then hL h e else 0
