/-! PageWebModel: its object at M, its arrays at M + 1 .. M + 29 (by program: wip/whole/gen5.py) -/
def mtab : List (Nat × Nat × Nat × Nat) := [(1, 1, 50, 48600), (2, 2, 50, 48600), (3, 3, 50, 162), (4, 4, 51, 162), (5, 5, 50, 162), (6, 6, 50, 162), (7, 7, 50, 162), (8, 8, 50, 162), (9, 9, 50, 162), (11, 10, 50, 432), (12, 11, 50, 18), (14, 12, 50, 400), (16, 13, 50, 2400), (18, 14, 50, 420), (21, 15, 50, 24), (29, 16, 51, 18), (30, 17, 51, 18), (31, 18, 50, 1400), (33, 19, 50, 24), (36, 20, 50, 18), (37, 21, 50, 9), (38, 22, 50, 9), (39, 23, 50, 9), (40, 24, 50, 162000), (41, 25, 50, 81), (42, 26, 50, 2100), (46, 27, 50, 24000), (47, 28, 50, 1000), (48, 29, 50, 1000)]
def md (h : PH) (M : Nat) : Prop := hK h M = 11 ∧ ∀ e ∈ mtab, hR h e.1 M = some (M + e.2.1) ∧ hK h (M + e.2.1) = e.2.2.1 ∧ hL h (M + e.2.1) = e.2.2.2
theorem mdR_text {h : PH} {M : Nat} (d : md h M) : hR h 1 M = some (M + 1) := (d.2 (1, 1, 50, 48600) (by decide)).1
theorem mdK_text {h : PH} {M : Nat} (d : md h M) : hK h (M + 1) = 50 := (d.2 (1, 1, 50, 48600) (by decide)).2.1
theorem mdL_text {h : PH} {M : Nat} (d : md h M) : hL h (M + 1) = 48600 := (d.2 (1, 1, 50, 48600) (by decide)).2.2
theorem mdR_blamed {h : PH} {M : Nat} (d : md h M) : hR h 2 M = some (M + 2) := (d.2 (2, 2, 50, 48600) (by decide)).1
theorem mdK_blamed {h : PH} {M : Nat} (d : md h M) : hK h (M + 2) = 50 := (d.2 (2, 2, 50, 48600) (by decide)).2.1
theorem mdL_blamed {h : PH} {M : Nat} (d : md h M) : hL h (M + 2) = 48600 := (d.2 (2, 2, 50, 48600) (by decide)).2.2
theorem mdR_length {h : PH} {M : Nat} (d : md h M) : hR h 3 M = some (M + 3) := (d.2 (3, 3, 50, 162) (by decide)).1
theorem mdK_length {h : PH} {M : Nat} (d : md h M) : hK h (M + 3) = 50 := (d.2 (3, 3, 50, 162) (by decide)).2.1
theorem mdL_length {h : PH} {M : Nat} (d : md h M) : hL h (M + 3) = 162 := (d.2 (3, 3, 50, 162) (by decide)).2.2
theorem mdR_isGone {h : PH} {M : Nat} (d : md h M) : hR h 4 M = some (M + 4) := (d.2 (4, 4, 51, 162) (by decide)).1
theorem mdK_isGone {h : PH} {M : Nat} (d : md h M) : hK h (M + 4) = 51 := (d.2 (4, 4, 51, 162) (by decide)).2.1
theorem mdL_isGone {h : PH} {M : Nat} (d : md h M) : hL h (M + 4) = 162 := (d.2 (4, 4, 51, 162) (by decide)).2.2
theorem mdR_pageOf {h : PH} {M : Nat} (d : md h M) : hR h 5 M = some (M + 5) := (d.2 (5, 5, 50, 162) (by decide)).1
theorem mdK_pageOf {h : PH} {M : Nat} (d : md h M) : hK h (M + 5) = 50 := (d.2 (5, 5, 50, 162) (by decide)).2.1
theorem mdL_pageOf {h : PH} {M : Nat} (d : md h M) : hL h (M + 5) = 162 := (d.2 (5, 5, 50, 162) (by decide)).2.2
theorem mdR_handOf {h : PH} {M : Nat} (d : md h M) : hR h 6 M = some (M + 6) := (d.2 (6, 6, 50, 162) (by decide)).1
theorem mdK_handOf {h : PH} {M : Nat} (d : md h M) : hK h (M + 6) = 50 := (d.2 (6, 6, 50, 162) (by decide)).2.1
theorem mdL_handOf {h : PH} {M : Nat} (d : md h M) : hL h (M + 6) = 162 := (d.2 (6, 6, 50, 162) (by decide)).2.2
theorem mdR_begin {h : PH} {M : Nat} (d : md h M) : hR h 7 M = some (M + 7) := (d.2 (7, 7, 50, 162) (by decide)).1
theorem mdK_begin {h : PH} {M : Nat} (d : md h M) : hK h (M + 7) = 50 := (d.2 (7, 7, 50, 162) (by decide)).2.1
theorem mdL_begin {h : PH} {M : Nat} (d : md h M) : hL h (M + 7) = 162 := (d.2 (7, 7, 50, 162) (by decide)).2.2
theorem mdR_went {h : PH} {M : Nat} (d : md h M) : hR h 8 M = some (M + 8) := (d.2 (8, 8, 50, 162) (by decide)).1
theorem mdK_went {h : PH} {M : Nat} (d : md h M) : hK h (M + 8) = 50 := (d.2 (8, 8, 50, 162) (by decide)).2.1
theorem mdL_went {h : PH} {M : Nat} (d : md h M) : hL h (M + 8) = 162 := (d.2 (8, 8, 50, 162) (by decide)).2.2
theorem mdR_came {h : PH} {M : Nat} (d : md h M) : hR h 9 M = some (M + 9) := (d.2 (9, 9, 50, 162) (by decide)).1
theorem mdK_came {h : PH} {M : Nat} (d : md h M) : hK h (M + 9) = 50 := (d.2 (9, 9, 50, 162) (by decide)).2.1
theorem mdL_came {h : PH} {M : Nat} (d : md h M) : hL h (M + 9) = 162 := (d.2 (9, 9, 50, 162) (by decide)).2.2
theorem mdR_nameAt {h : PH} {M : Nat} (d : md h M) : hR h 11 M = some (M + 10) := (d.2 (11, 10, 50, 432) (by decide)).1
theorem mdK_nameAt {h : PH} {M : Nat} (d : md h M) : hK h (M + 10) = 50 := (d.2 (11, 10, 50, 432) (by decide)).2.1
theorem mdL_nameAt {h : PH} {M : Nat} (d : md h M) : hL h (M + 10) = 432 := (d.2 (11, 10, 50, 432) (by decide)).2.2
theorem mdR_nameLong {h : PH} {M : Nat} (d : md h M) : hR h 12 M = some (M + 11) := (d.2 (12, 11, 50, 18) (by decide)).1
theorem mdK_nameLong {h : PH} {M : Nat} (d : md h M) : hK h (M + 11) = 50 := (d.2 (12, 11, 50, 18) (by decide)).2.1
theorem mdL_nameLong {h : PH} {M : Nat} (d : md h M) : hL h (M + 11) = 18 := (d.2 (12, 11, 50, 18) (by decide)).2.2
theorem mdR_tape {h : PH} {M : Nat} (d : md h M) : hR h 14 M = some (M + 12) := (d.2 (14, 12, 50, 400) (by decide)).1
theorem mdK_tape {h : PH} {M : Nat} (d : md h M) : hK h (M + 12) = 50 := (d.2 (14, 12, 50, 400) (by decide)).2.1
theorem mdL_tape {h : PH} {M : Nat} (d : md h M) : hL h (M + 12) = 400 := (d.2 (14, 12, 50, 400) (by decide)).2.2
theorem mdR_out {h : PH} {M : Nat} (d : md h M) : hR h 16 M = some (M + 13) := (d.2 (16, 13, 50, 2400) (by decide)).1
theorem mdK_out {h : PH} {M : Nat} (d : md h M) : hK h (M + 13) = 50 := (d.2 (16, 13, 50, 2400) (by decide)).2.1
theorem mdL_out {h : PH} {M : Nat} (d : md h M) : hL h (M + 13) = 2400 := (d.2 (16, 13, 50, 2400) (by decide)).2.2
theorem mdR_fold {h : PH} {M : Nat} (d : md h M) : hR h 18 M = some (M + 14) := (d.2 (18, 14, 50, 420) (by decide)).1
theorem mdK_fold {h : PH} {M : Nat} (d : md h M) : hK h (M + 14) = 50 := (d.2 (18, 14, 50, 420) (by decide)).2.1
theorem mdL_fold {h : PH} {M : Nat} (d : md h M) : hL h (M + 14) = 420 := (d.2 (18, 14, 50, 420) (by decide)).2.2
theorem mdR_hand {h : PH} {M : Nat} (d : md h M) : hR h 21 M = some (M + 15) := (d.2 (21, 15, 50, 24) (by decide)).1
theorem mdK_hand {h : PH} {M : Nat} (d : md h M) : hK h (M + 15) = 50 := (d.2 (21, 15, 50, 24) (by decide)).2.1
theorem mdL_hand {h : PH} {M : Nat} (d : md h M) : hL h (M + 15) = 24 := (d.2 (21, 15, 50, 24) (by decide)).2.2
theorem mdR_passed {h : PH} {M : Nat} (d : md h M) : hR h 29 M = some (M + 16) := (d.2 (29, 16, 51, 18) (by decide)).1
theorem mdK_passed {h : PH} {M : Nat} (d : md h M) : hK h (M + 16) = 51 := (d.2 (29, 16, 51, 18) (by decide)).2.1
theorem mdL_passed {h : PH} {M : Nat} (d : md h M) : hL h (M + 16) = 18 := (d.2 (29, 16, 51, 18) (by decide)).2.2
theorem mdR_mark {h : PH} {M : Nat} (d : md h M) : hR h 30 M = some (M + 17) := (d.2 (30, 17, 51, 18) (by decide)).1
theorem mdK_mark {h : PH} {M : Nat} (d : md h M) : hK h (M + 17) = 51 := (d.2 (30, 17, 51, 18) (by decide)).2.1
theorem mdL_mark {h : PH} {M : Nat} (d : md h M) : hL h (M + 17) = 18 := (d.2 (30, 17, 51, 18) (by decide)).2.2
theorem mdR_next {h : PH} {M : Nat} (d : md h M) : hR h 31 M = some (M + 18) := (d.2 (31, 18, 50, 1400) (by decide)).1
theorem mdK_next {h : PH} {M : Nat} (d : md h M) : hK h (M + 18) = 50 := (d.2 (31, 18, 50, 1400) (by decide)).2.1
theorem mdL_next {h : PH} {M : Nat} (d : md h M) : hL h (M + 18) = 1400 := (d.2 (31, 18, 50, 1400) (by decide)).2.2
theorem mdR_goal {h : PH} {M : Nat} (d : md h M) : hR h 33 M = some (M + 19) := (d.2 (33, 19, 50, 24) (by decide)).1
theorem mdK_goal {h : PH} {M : Nat} (d : md h M) : hK h (M + 19) = 50 := (d.2 (33, 19, 50, 24) (by decide)).2.1
theorem mdL_goal {h : PH} {M : Nat} (d : md h M) : hL h (M + 19) = 24 := (d.2 (33, 19, 50, 24) (by decide)).2.2
theorem mdR_foundPage {h : PH} {M : Nat} (d : md h M) : hR h 36 M = some (M + 20) := (d.2 (36, 20, 50, 18) (by decide)).1
theorem mdK_foundPage {h : PH} {M : Nat} (d : md h M) : hK h (M + 20) = 50 := (d.2 (36, 20, 50, 18) (by decide)).2.1
theorem mdL_foundPage {h : PH} {M : Nat} (d : md h M) : hL h (M + 20) = 18 := (d.2 (36, 20, 50, 18) (by decide)).2.2
theorem mdR_pile {h : PH} {M : Nat} (d : md h M) : hR h 37 M = some (M + 21) := (d.2 (37, 21, 50, 9) (by decide)).1
theorem mdK_pile {h : PH} {M : Nat} (d : md h M) : hK h (M + 21) = 50 := (d.2 (37, 21, 50, 9) (by decide)).2.1
theorem mdL_pile {h : PH} {M : Nat} (d : md h M) : hL h (M + 21) = 9 := (d.2 (37, 21, 50, 9) (by decide)).2.2
theorem mdR_place {h : PH} {M : Nat} (d : md h M) : hR h 38 M = some (M + 22) := (d.2 (38, 22, 50, 9) (by decide)).1
theorem mdK_place {h : PH} {M : Nat} (d : md h M) : hK h (M + 22) = 50 := (d.2 (38, 22, 50, 9) (by decide)).2.1
theorem mdL_place {h : PH} {M : Nat} (d : md h M) : hL h (M + 22) = 9 := (d.2 (38, 22, 50, 9) (by decide)).2.2
theorem mdR_many {h : PH} {M : Nat} (d : md h M) : hR h 39 M = some (M + 23) := (d.2 (39, 23, 50, 9) (by decide)).1
theorem mdK_many {h : PH} {M : Nat} (d : md h M) : hK h (M + 23) = 50 := (d.2 (39, 23, 50, 9) (by decide)).2.1
theorem mdL_many {h : PH} {M : Nat} (d : md h M) : hL h (M + 23) = 9 := (d.2 (39, 23, 50, 9) (by decide)).2.2
theorem mdR_word {h : PH} {M : Nat} (d : md h M) : hR h 40 M = some (M + 24) := (d.2 (40, 24, 50, 162000) (by decide)).1
theorem mdK_word {h : PH} {M : Nat} (d : md h M) : hK h (M + 24) = 50 := (d.2 (40, 24, 50, 162000) (by decide)).2.1
theorem mdL_word {h : PH} {M : Nat} (d : md h M) : hL h (M + 24) = 162000 := (d.2 (40, 24, 50, 162000) (by decide)).2.2
theorem mdR_wordLong {h : PH} {M : Nat} (d : md h M) : hR h 41 M = some (M + 25) := (d.2 (41, 25, 50, 81) (by decide)).1
theorem mdK_wordLong {h : PH} {M : Nat} (d : md h M) : hK h (M + 25) = 50 := (d.2 (41, 25, 50, 81) (by decide)).2.1
theorem mdL_wordLong {h : PH} {M : Nat} (d : md h M) : hL h (M + 25) = 81 := (d.2 (41, 25, 50, 81) (by decide)).2.2
theorem mdR_made {h : PH} {M : Nat} (d : md h M) : hR h 42 M = some (M + 26) := (d.2 (42, 26, 50, 2100) (by decide)).1
theorem mdK_made {h : PH} {M : Nat} (d : md h M) : hK h (M + 26) = 50 := (d.2 (42, 26, 50, 2100) (by decide)).2.1
theorem mdL_made {h : PH} {M : Nat} (d : md h M) : hL h (M + 26) = 2100 := (d.2 (42, 26, 50, 2100) (by decide)).2.2
theorem mdR_list {h : PH} {M : Nat} (d : md h M) : hR h 46 M = some (M + 27) := (d.2 (46, 27, 50, 24000) (by decide)).1
theorem mdK_list {h : PH} {M : Nat} (d : md h M) : hK h (M + 27) = 50 := (d.2 (46, 27, 50, 24000) (by decide)).2.1
theorem mdL_list {h : PH} {M : Nat} (d : md h M) : hL h (M + 27) = 24000 := (d.2 (46, 27, 50, 24000) (by decide)).2.2
theorem mdR_listLong {h : PH} {M : Nat} (d : md h M) : hR h 47 M = some (M + 28) := (d.2 (47, 28, 50, 1000) (by decide)).1
theorem mdK_listLong {h : PH} {M : Nat} (d : md h M) : hK h (M + 28) = 50 := (d.2 (47, 28, 50, 1000) (by decide)).2.1
theorem mdL_listLong {h : PH} {M : Nat} (d : md h M) : hL h (M + 28) = 1000 := (d.2 (47, 28, 50, 1000) (by decide)).2.2
theorem mdR_steps {h : PH} {M : Nat} (d : md h M) : hR h 48 M = some (M + 29) := (d.2 (48, 29, 50, 1000) (by decide)).1
theorem mdK_steps {h : PH} {M : Nat} (d : md h M) : hK h (M + 29) = 50 := (d.2 (48, 29, 50, 1000) (by decide)).2.1
theorem mdL_steps {h : PH} {M : Nat} (d : md h M) : hL h (M + 29) = 1000 := (d.2 (48, 29, 50, 1000) (by decide)).2.2
/-- the model's cells -/
def mP' (M : Nat) : Nat → Prop := fun x => M ≤ x ∧ x < M + 30
theorem md.keep {h h' : PH} {M : Nat} (d : md h M) (e1 : hK h' = hK h) (e2 : hL h' = hL h) (e3 : hR h' = hR h) : md h' M := by
  refine ⟨by rw [e1]; exact d.1, fun e he => ?_⟩
  rw [e1, e2, e3]
  exact d.2 e he
