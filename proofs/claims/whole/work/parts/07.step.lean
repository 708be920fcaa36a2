/-! rows of the machine over the picture -/
def q_fr (g : Nat) (m : Mt) : Nat := g * 40 + mR m + 10
def q_lo (g : Nat) (m : Mt) : Nat := 60 * q_fr g m
def q_Cx (p : Program) (R : Room) (s : State) (mid : MethodId) (args : Array Value) (meth : Method) (c : Code) (base : Nat) (D : va_G) (Cy : Nat → ClassId) (S : Nat → Nat) (m : Mt) (g : Nat) : Prop :=
  p.tables.exec = Jvm.exec ∧ c.code = mC m ∧ c.maxLocals = mM m ∧ meth.sig.returnType = mT m ∧ s.vm.findClass (q_rn (mO m)) = some mid.cls ∧ (∀ w ∈ gtb, w.before args s = true) ∧ meth.locks = false ∧ meth.name = (mY m).name ∧ q_K D Cy S s ∧ base ≤ s.heap.size ∧ q_fr g m ≤ R.frames ∧ q_lo g m ≤ R.locals
section QR
variable {p : Program} {l : Launch} {e : Env} {R : Room} {s : State} {mid : MethodId} {args : Array Value} {below : List Frame} {meth : Method} {c : Code} {H : Heap} {locs : List Loc} {cells slots : Nat} {Q : State → Prop}
variable {base : Nat} {D : va_G} {Cy : Nat → ClassId} {S : Nat → Nat} {Hb : Heap} {m : Mt} {g : Nat} {h : PH} {pc : Nat} {lsA : Array Slot} {rest : List Value} {a : Nat}
theorem q_cons_get {T : u_T} {C : String} {N : Nat} {f : Nat → Value} {k : Nat} (hk : k < N) : ((List.range N).map f)[k]? = some (f k) := by simp [hk]
/-- getfield -/
theorem q_getf (X : q_Cx p R s mid args meth c base D Cy S m g) (hW : q_W base D Cy h H) {i : Nat} {f : Nat × Nat} (hf : qk_f (mO m) i = some f) (hk : hK h a = f.1) (hdg : decode (mC m) pc = .ok (.getfield i, 3))
    (kk : W p l e R s mid args below meth c H locs cells slots Q (F0 mid (pc + 3) lsA (q_fv h f.1 a f.2 :: rest))) : W p l e R s mid args below meth c H locs cells slots Q (F0 mid pc lsA (.ref a :: rest)) := by
  obtain ⟨hx, hb, hml, hr, hown, hts, hlocks, hname, hK, hbs, hfr, hlo⟩ := X
  obtain ⟨g1, g2, g3⟩ := q_fld hf
  have hat := hW.obj (show f.1 < 50 by omega) hk
  refine va_get (D := D) (ci := f.1) (C := q_rn f.1) (T := q_T f.1) (N := q_nf f.1) (v := q_fv h f.1 a f.2) hx hb hts (q_cwa f.1 (by omega)) hown hK.1 (q_P1 hat) 0 rfl (q_klsat f.1 (by omega)) f.2 g3 (hts _ g1) (fun y hy => ?_) (by simp [g3]) hdg kk
  rw [← q_decl f.1 g2 f.2 g3]
  exact hy
/-- a field is written: the machine's row -/
theorem q_putr (X : q_Cx p R s mid args meth c base D Cy S m g) {i ci k : Nat} {fs : List Value} {v : Value} (hf : qk_f (mO m) i = some (ci, k)) (hat : va_at D q_kls (a, .inr (ci, fs)) H) (hfin : q_fin m ci k = true) (hn : narrow (q_tya ci k) v = v) (hfit : fits (q_tya ci k) v = true) (hl : k < fs.length) (hdg : decode (mC m) pc = .ok (.putfield i, 3))
    (kk : ∀ (H1 : Heap) (j : Nat), H1.size = H.size → (∀ q, q ≠ a → H1[q]? = H[q]?) → va_at D q_kls (a, .inr (ci, fs.set k v)) H1 → W p l e R s mid args below meth c H1 (locs ++ [⟨a, j⟩]) cells slots Q (F0 mid (pc + 3) lsA rest)) : W p l e R s mid args below meth c H locs cells slots Q (F0 mid pc lsA (v :: .ref a :: rest)) := by
  obtain ⟨hx, hb, hml, hr, hown, hts, hlocks, hname, hK, hbs, hfr, hlo⟩ := X
  obtain ⟨g1, g2, g3⟩ := q_fld hf
  dsimp only at g1 g2 g3
  have hc := q_klsat ci (by omega)
  have hin := q_cwa ci (by omega)
  have hlink := hts _ g1
  have hap := va_apart (own := q_rn (mO m)) hts hin (q_tya ci) (q_tyok ci (by omega)) (q_nma ci (by omega)) hK.1 hc
  have hd := q_tyok ci (by omega) k g3
  obtain ⟨r, h1, cell, q1, q2, q3, q4⟩ := hat
  have hr2 : r = (q_rn ci, q_T ci, q_nf ci) := Option.some.inj (h1.symm.trans hc)
  subst hr2
  obtain ⟨hS, hfc, kC, hkC, hkind⟩ := hK.1.1 ci _ hc
  obtain ⟨cf, kf, fi, f, hi, hsl⟩ := hS k g3
  have hst := (u_facts hfc hkC (u_lays hts hin g3) hi).1
  have hsame : s.fieldFound? (q_rn ci) (q_T ci k).2.1 (q_T ci k).2.2.1 = some (cf, kf, fi, f) := by rw [← q_decl ci g2 k g3]; exact hi
  have hlay := hts _ (hin _ (u_in_lay g3))
  unfold u_lay at hlay
  have fin : ∀ H' : Heap, H'[a]? = some (cell.setSlot f.slot v) → H'.size = H.size → (∀ q, q ≠ a → H'[q]? = H[q]?) → W p l e R s mid args below meth c H' (locs ++ [⟨a, f.slot⟩]) cells slots Q (F0 mid (pc + 3) lsA rest) := by
    intro H' e1 e2 e3
    rw [hsl] at e1
    exact kk H' f.slot e2 e3 ⟨_, hc, t_OB.to (V := updV (vp_V fs) k v) ⟨_, e1, q2, q3, t_set q4 hap g3 v⟩ (fun j _ => vp_updV_set hl v j)⟩
  cases hfb : (q_T ci k).2.2.2 with
  | false =>
    rw [hfb] at hlay
    rw [if_neg (by decide)] at hlay
    have h6 := u_store hfc hkC hkind hlay hi hd hn hfit
    exact W.putK hx hb (f := f) ⟨hown, hlink, ⟨_, _, _, hsame⟩, hst⟩ (by rw [q2]; exact h6) q1 q3 (by rw [hsl]; exact k2_hasslot (q4 k g3)) rfl rfl hdg fin
  | true =>
    have hq : q_fin m ci k = ((mY m).name == "<init>" && mO m == ci) := by
      unfold q_fin
      rw [hc]
      simp [hfb]
    rw [hq] at hfin
    simp at hfin
    rw [hfb] at hlay
    rw [if_pos rfl] at hlay
    have hcf : mid.cls = cf := by
      obtain ⟨_, _, c', _, _, _, -, -, hf', -, -, -, hown2, -⟩ := Cond.laysFinal_spec hlay
      have e1 : c' = cf := by have := hi.symm.trans hf'; simp at this; exact this.1.symm
      rw [q_decl ci g2 k g3, ← hfin.2] at hown2
      rw [← e1]; exact Option.some.inj (hown.symm.trans hown2)
    have h6 := u_fits hfc hkC hkind (Or.inr hlay) hi hd hn hfit
    exact W.putFinK hx hb hown hlink hsame hst hcf (by rw [hname]; exact hfin.1) (by rw [q2]; exact h6) q1 q3 (by rw [hsl]; exact k2_hasslot (q4 k g3)) rfl rfl hdg fin
/-- putfield -/
theorem q_putf (X : q_Cx p R s mid args meth c base D Cy S m g) (hW : q_W base D Cy h H) (hS0 : va_S (fun q => base ≤ q) s.heap H locs) {i : Nat} {f : Nat × Nat} {v : Value} {h' : PH} (hf : qk_f (mO m) i = some f) (hk : hK h a = f.1) (hfin : q_fin m f.1 f.2 = true) (hw : q_fw h f.1 a f.2 v = some h') (hdg : decode (mC m) pc = .ok (.putfield i, 3))
    (kk : ∀ (H1 : Heap) (locs1 : List Loc), q_W base D Cy h' H1 → va_S (fun q => base ≤ q) s.heap H1 locs1 → W p l e R s mid args below meth c H1 locs1 cells slots Q (F0 mid (pc + 3) lsA rest)) : W p l e R s mid args below meth c H locs cells slots Q (F0 mid pc lsA (v :: .ref a :: rest)) := by
  obtain ⟨ci, k⟩ := f
  dsimp only at hk hfin hw
  obtain ⟨-, g2, g3⟩ := q_fld hf
  dsimp only at g2 g3
  obtain ⟨f0, f1, f3, f2, f4⟩ := q_fit ci (by omega) k g3
  have hat := hW.obj (show ci < 50 by omega) hk
  obtain ⟨hba, -⟩ := hW.2.2 a (by omega)
  have hput : ∀ {H1 : Heap} {j : Nat}, H1.size = H.size → (∀ q, q ≠ a → H1[q]? = H[q]?) → va_S (fun q => base ≤ q) s.heap H1 (locs ++ [⟨a, j⟩]) := fun h1 h2 => hS0.put h1 h2 hba
  subst hk
  cases v with
  | int w =>
    unfold q_fw at hw
    have hs : q_fs (hK h a) k = 0 ∨ q_fs (hK h a) k = 1 := by
      by_cases z0 : q_fs (hK h a) k = 0
      · exact Or.inl z0
      · by_cases z1 : q_fs (hK h a) k = 1
        · exact Or.inr z1
        · simp [z0, z1] at hw
    have hh : h' = pI h k a w := by
      rcases hs with z | z
      · simp [z] at hw; exact hw.symm
      · simp [z] at hw; exact hw.2.symm
    have hnf : narrow (q_tya (hK h a) k) (.int w) = .int w ∧ fits (q_tya (hK h a) k) (.int w) = true := by
      rcases hs with z | z
      · rw [f0 z]; exact ⟨rfl, rfl⟩
      · simp [z] at hw
        rw [f1 z]
        rcases hw.1 with rfl | rfl <;> exact ⟨rfl, rfl⟩
    subst hh
    refine q_putr X hf hat hfin hnf.1 hnf.2 (by simp [g3]) hdg (fun H1 j e1 e2 e3 => ?_)
    refine kk H1 _ (hW.upd (a := a) (by omega) rfl rfl (fun b hb _ => q_ceo_I hb) e1 e2 ?_) (hput e1 e2)
    rw [q_ce_I (by omega) hs]
    exact e3
  | ref w =>
    unfold q_fw at hw
    have hs : q_fs (hK h a) k = 2 := by
      by_cases z0 : q_fs (hK h a) k = 2
      · exact z0
      · simp [z0] at hw
    have hh : h' = pR h k a (some w) := by simp [hs] at hw; exact hw.symm
    have hnf : narrow (q_tya (hK h a) k) (.ref w) = .ref w ∧ fits (q_tya (hK h a) k) (.ref w) = true := by
      have := f2 hs
      cases hq : q_tya (hK h a) k <;> rw [hq] at this <;> first | exact ⟨rfl, rfl⟩ | (exact absurd this (by decide))
    subst hh
    refine q_putr X hf hat hfin hnf.1 hnf.2 (by simp [g3]) hdg (fun H1 j e1 e2 e3 => ?_)
    refine kk H1 _ (hW.upd (a := a) (by omega) rfl rfl (fun b hb _ => q_ceo_R hb) e1 e2 ?_) (hput e1 e2)
    rw [q_ce_R (by omega) hs]
    exact e3
  | null =>
    unfold q_fw at hw
    have hs : q_fs (hK h a) k = 2 := by
      by_cases z0 : q_fs (hK h a) k = 2
      · exact z0
      · simp [z0] at hw
    have hh : h' = pR h k a none := by simp [hs] at hw; exact hw.symm
    have hnf : narrow (q_tya (hK h a) k) .null = .null ∧ fits (q_tya (hK h a) k) .null = true := by
      have := f2 hs
      cases hq : q_tya (hK h a) k <;> rw [hq] at this <;> first | exact ⟨rfl, rfl⟩ | (exact absurd this (by decide))
    subst hh
    refine q_putr X hf hat hfin hnf.1 hnf.2 (by simp [g3]) hdg (fun H1 j e1 e2 e3 => ?_)
    refine kk H1 _ (hW.upd (a := a) (by omega) rfl rfl (fun b hb _ => q_ceo_R hb) e1 e2 ?_) (hput e1 e2)
    rw [q_ce_R (by omega) hs]
    exact e3
  | long w =>
    unfold q_fw at hw
    have hs : q_fs (hK h a) k = 3 := by
      by_cases z0 : q_fs (hK h a) k = 3
      · exact z0
      · simp [z0] at hw
    have hh : h' = pJ h k a w := by simp [hs] at hw; exact hw.symm
    subst hh
    refine q_putr X hf hat hfin (by rw [f3 hs]; rfl) (by rw [f3 hs]; rfl) (by simp [g3]) hdg (fun H1 j e1 e2 e3 => ?_)
    refine kk H1 _ (hW.upd (a := a) (by omega) rfl rfl (fun b hb _ => q_ceo_J hb) e1 e2 ?_) (hput e1 e2)
    rw [q_ce_J (by omega) hs]
    exact e3
  | float _ => simp [q_fw] at hw
  | double _ => simp [q_fw] at hw
  | retAddr _ => simp [q_fw] at hw
end QR
