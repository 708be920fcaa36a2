/-! the JDK's members: their rows -/
section QJN
variable {l : Launch} {base : Nat} {D : va_G} {Cy : Nat → ClassId} {S : Nat → Nat} {Hb : Heap}
theorem q_jr3 : q_JR l base D Cy S Hb 3 := by
  intro p e R s mid args below meth c H locs cells slots u0 Q m g h pc lsA ls st k ins q X hV hl hj hd hi hlen ej hc hu h1 h2 kk
  have hE := q_E.jdk ej
  obtain ⟨hi, -⟩ : ins = .invokevirtual k ∧ True := by
    rcases hi with hi | hi | hi
    · omega
    · omega
    · exact ⟨hi.1, trivial⟩
  subst hi
  change q_j3 pc ls st h = some q at ej
  unfold q_j3 at ej
  split at ej
  · rename_i a r
    split at ej
    · rename_i hcnd
      obtain ⟨c1, c2⟩ := hcnd
      cases ej
      have hq := q_cat_len r
      simp only [List.length_cons] at hlen
      obtain ⟨hZ, v, t1, t2, t3, t4⟩ := q_jtx hV c1 c2
      rw [← q_jtl (hK h a - 70) (by omega)] at kk
      exact q_jcV (C := RJ0) (as := []) (rest := r) X.J hV (j_len c1 c2) (q_E.rf h) jo_len (q_jln hj).1 ji_len jv_len (va_Orecv t1 hV.2.2.2.2.1) hl hd (by omega) rfl rfl (by omega) hc hu h1 h2 kk
    · cases ej
  · cases ej
theorem q_jr4 : q_JR l base D Cy S Hb 4 := by
  intro p e R s mid args below meth c H locs cells slots u0 Q m g h pc lsA ls st k ins q X hV hl hj hd hi hlen ej hc hu h1 h2 kk
  obtain ⟨hi, -⟩ : ins = .invokevirtual k ∧ True := by
    rcases hi with hi | hi | hi
    · omega
    · omega
    · exact ⟨hi.1, trivial⟩
  subst hi
  change q_j4 pc ls st h = some q at ej
  unfold q_j4 at ej
  split at ej
  · rename_i i a r
    split at ej
    · rename_i hcnd
      obtain ⟨c1, c2, c3⟩ := hcnd
      cases ej
      have hq := q_cat_len r
      simp only [List.length_cons] at hlen
      obtain ⟨hZ, v, t1, t2, t3, t4⟩ := q_jtx hV c1 c2
      rw [← q_jtl (hK h a - 70) (by omega)] at c3
      exact q_jcV (C := RJ0) (as := [.int i]) (rest := r) X.J hV (j_chA c1 c2 c3) (q_E.rf h) jo_chA (q_jln hj).1 ji_chA jv_chA (va_Orecv t1 hV.2.2.2.2.1) hl hd (by omega) rfl rfl (by omega) hc hu h1 h2 kk
    · cases ej
  · cases ej
theorem q_jr6 : q_JR l base D Cy S Hb 6 := by
  intro p e R s mid args below meth c H locs cells slots u0 Q m g h pc lsA ls st k ins q X hV hl hj hd hi hlen ej hc hu h1 h2 kk
  have hE := q_E.jdk ej
  obtain ⟨hi, -⟩ : ins = .invokespecial k ∧ True := by
    rcases hi with hi | hi | hi
    · exact ⟨hi.1, trivial⟩
    · omega
    · omega
  subst hi
  change q_j6 pc ls st h = some q at ej
  unfold q_j6 at ej
  split at ej
  · rename_i a r
    split at ej
    · rename_i hcnd
      cases ej
      have hq := q_cat_len r
      simp only [List.length_cons] at hlen
      exact q_jcI (as := []) (rest := r) X.J hV (j_ini hcnd) hE jo_ini (q_jln hj).1 ji_ini ⟨rfl, rfl⟩ hl hd (by omega) rfl rfl (by omega) hc hu h1 h2 kk
    · cases ej
  · cases ej
/-- the list as receiver -/
theorem q_jlr {p : Program} {R : Room} {s : State} {mid : MethodId} {args : Array Value} {meth : Method} {c : Code} {m : Mt} {g a : Nat} {h : PH} {H : Heap} {locs : List Loc} (X : q_Cx p R s mid args meth c base D Cy S m g) (hV : q_V base D Cy S Hb s h H locs) (hk : hK h a = 12) : ∃ cell : Cell, H[a]? = some cell ∧ cell.vm.isStatics = false ∧ s.vm.findClass RJx4a65c = some cell.cls :=
  va_recv X.J.2.2.2.2.2.1.1 (q_P1 (hV.1.obj (show 12 < 50 by omega) hk)) (q_klsat 12 (by omega)) (q0 := 0) rfl
theorem q_jr7 : q_JR l base D Cy S Hb 7 := by
  intro p e R s mid args below meth c H locs cells slots u0 Q m g h pc lsA ls st k ins q X hV hl hj hd hi hlen ej hc hu h1 h2 kk
  have hE := q_E.jdk ej
  obtain ⟨hi, -⟩ : ins = .invokevirtual k ∧ True := by
    rcases hi with hi | hi | hi
    · omega
    · omega
    · exact ⟨hi.1, trivial⟩
  subst hi
  change q_j7 pc ls st h = some q at ej
  unfold q_j7 at ej
  split at ej
  · rename_i v i a r
    split at ej
    · rename_i hcnd
      obtain ⟨c1, c2⟩ := hcnd
      split at ej
      · rename_i h' he
        cases ej
        have hq := q_cat_len r
        simp only [List.length_cons] at hlen
        exact q_jcV (C := RJx4a65c) (as := [.int i, .ref v]) (rest := r) X.J hV (j_add c1 c2 he) hE jo_add (q_jln hj).1 ji_add jv_add (q_jlr X hV c1) hl hd (by omega) rfl rfl (by omega) hc hu h1 h2 kk
      · cases ej
    · cases ej
  · cases ej
theorem q_jr8 : q_JR l base D Cy S Hb 8 := by
  intro p e R s mid args below meth c H locs cells slots u0 Q m g h pc lsA ls st k ins q X hV hl hj hd hi hlen ej hc hu h1 h2 kk
  have hE := q_E.jdk ej
  obtain ⟨hi, -⟩ : ins = .invokevirtual k ∧ True := by
    rcases hi with hi | hi | hi
    · omega
    · omega
    · exact ⟨hi.1, trivial⟩
  subst hi
  change q_j8 pc ls st h = some q at ej
  unfold q_j8 at ej
  split at ej
  · rename_i a r
    split at ej
    · rename_i c1
      split at ej
      · rename_i h' he
        cases ej
        have hq := q_cat_len r
        simp only [List.length_cons] at hlen
        exact q_jcV (C := RJx4a65c) (as := []) (rest := r) X.J hV (j_clr c1 he) hE jo_clr (q_jln hj).1 ji_clr jv_clr (q_jlr X hV c1) hl hd (by omega) rfl rfl (by omega) hc hu h1 h2 kk
      · cases ej
    · cases ej
  · cases ej
theorem q_jr9 : q_JR l base D Cy S Hb 9 := by
  intro p e R s mid args below meth c H locs cells slots u0 Q m g h pc lsA ls st k ins q X hV hl hj hd hi hlen ej hc hu h1 h2 kk
  obtain ⟨hi, -⟩ : ins = .invokevirtual k ∧ True := by
    rcases hi with hi | hi | hi
    · omega
    · omega
    · exact ⟨hi.1, trivial⟩
  subst hi
  change q_j9 pc ls st h = some q at ej
  unfold q_j9 at ej
  split at ej
  · rename_i i a r
    split at ej
    · rename_i hcnd
      obtain ⟨c1, c2, c3⟩ := hcnd
      split at ej
      · rename_i b hb
        split at ej
        · rename_i hcnd2
          obtain ⟨c4, c5⟩ := hcnd2
          cases ej
          have hq := q_cat_len r
          simp only [List.length_cons] at hlen
          have hin : q_in i (hL h b) := fun z => by
            rcases z with z | z
            · exact c2 z
            · omega
          exact q_jcV (C := RJx4a65c) (as := [.int i]) (rest := r) X.J hV (j_get c1 c2 c3 hb c4 hin) (q_E.rf h) jo_get (q_jln hj).1 ji_get jv_get (q_jlr X hV c1) hl hd (by omega) rfl rfl (by omega) hc hu h1 h2 kk
        · cases ej
      · cases ej
    · cases ej
  · cases ej
theorem q_jr10 : q_JR l base D Cy S Hb 10 := by
  intro p e R s mid args below meth c H locs cells slots u0 Q m g h pc lsA ls st k ins q X hV hl hj hd hi hlen ej hc hu h1 h2 kk
  obtain ⟨hi, -⟩ : ins = .invokevirtual k ∧ True := by
    rcases hi with hi | hi | hi
    · omega
    · omega
    · exact ⟨hi.1, trivial⟩
  subst hi
  change q_j10 pc ls st h = some q at ej
  unfold q_j10 at ej
  split at ej
  · rename_i a r
    split at ej
    · rename_i c1
      cases ej
      have hq := q_cat_len r
      simp only [List.length_cons] at hlen
      exact q_jcV (C := RJx4a65c) (as := []) (rest := r) X.J hV (j_siz c1) (q_E.rf h) jo_siz (q_jln hj).1 ji_siz jv_siz (q_jlr X hV c1) hl hd (by omega) rfl rfl (by omega) hc hu h1 h2 kk
    · cases ej
  · cases ej
theorem q_jr11 : q_JR l base D Cy S Hb 11 := by
  intro p e R s mid args below meth c H locs cells slots u0 Q m g h pc lsA ls st k ins q X hV hl hj hd hi hlen ej hc hu h1 h2 kk
  have hE := q_E.jdk ej
  obtain ⟨hi, -⟩ : ins = .invokestatic k ∧ True := by
    rcases hi with hi | hi | hi
    · omega
    · exact ⟨hi.1, trivial⟩
    · omega
  subst hi
  change q_j11 pc ls st h = some q at ej
  unfold q_j11 at ej
  split at ej
  · rename_i n a r
    split at ej
    · rename_i hcnd
      obtain ⟨c1, c2, c3⟩ := hcnd
      cases ej
      have hq := q_cat_len r
      simp only [List.length_cons] at hlen
      have ha := (hV.1.2.2 a (by omega)).2.1
      exact q_jcS (as := [.ref a, .int n]) (rest := r) X.J hV (j_cob c1 c2 c3 ha) hE jo_cob (q_jln hj).1 js_cob hl hd (by omega) rfl rfl (by omega) hc hu h1 h2 kk
    · cases ej
  · cases ej
/-- all rows of the JDK -/
theorem q_jall : ∀ j, j < 12 → q_JR l base D Cy S Hb j := by
  intro j hj
  match j, hj with
  | 0, _ => exact q_jr0
  | 1, _ => exact q_jr1
  | 2, _ => exact q_jr2
  | 3, _ => exact q_jr3
  | 4, _ => exact q_jr4
  | 5, _ => exact q_jr5
  | 6, _ => exact q_jr6
  | 7, _ => exact q_jr7
  | 8, _ => exact q_jr8
  | 9, _ => exact q_jr9
  | 10, _ => exact q_jr10
  | 11, _ => exact q_jr11
end QJN
