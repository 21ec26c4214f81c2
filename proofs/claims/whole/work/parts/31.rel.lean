/-! LAYER 3: the shapes of the two graphs, and what the class's Round and the reference have in common -/
def shm_slot : Nat → Nat := fun i => ([5, 6, 7, 8, 9, 10, 11, 12, 13, 14, 15, 16, 19, 20, 21, 22, 23, 24, 25, 26, 27, 31, 32, 37, 38, 43, 44, 48, 49, 50, 51, 52, 53, 54, 55, 62, 63, 64, 65, 66] : List Nat).getD i 0
def shm_len : Nat → Nat := fun i => ([6, 6, 5, 300, 300, 300, 300, 300, 12, 12, 16, 300, 8, 8, 8, 8, 8, 8, 48, 8, 160, 12, 1920, 161, 7, 6, 161, 300, 300, 300, 12, 12, 16, 40, 8, 7, 31, 4, 4, 160] : List Nat).getD i 0
def SHM (S : SH) : Prop := ∀ i, i < 40 → S.2.2.2 40 (shm_slot i) = some (41 + i) ∧ S.2.2.1 (41 + i) = shm_len i
theorem shm_o5 {S : SH} (h : SHM S) : S.2.2.2 40 5 = some 41 := (h 0 (by decide)).1
theorem shm_p5 {S : SH} (h : SHM S) : pr S 40 5 = 41 := by unfold pr; rw [shm_o5 h]; rfl
theorem shm_l41 {S : SH} (h : SHM S) : S.2.2.1 41 = 6 := (h 0 (by decide)).2
theorem shm_o6 {S : SH} (h : SHM S) : S.2.2.2 40 6 = some 42 := (h 1 (by decide)).1
theorem shm_p6 {S : SH} (h : SHM S) : pr S 40 6 = 42 := by unfold pr; rw [shm_o6 h]; rfl
theorem shm_l42 {S : SH} (h : SHM S) : S.2.2.1 42 = 6 := (h 1 (by decide)).2
theorem shm_o7 {S : SH} (h : SHM S) : S.2.2.2 40 7 = some 43 := (h 2 (by decide)).1
theorem shm_p7 {S : SH} (h : SHM S) : pr S 40 7 = 43 := by unfold pr; rw [shm_o7 h]; rfl
theorem shm_l43 {S : SH} (h : SHM S) : S.2.2.1 43 = 5 := (h 2 (by decide)).2
theorem shm_o8 {S : SH} (h : SHM S) : S.2.2.2 40 8 = some 44 := (h 3 (by decide)).1
theorem shm_p8 {S : SH} (h : SHM S) : pr S 40 8 = 44 := by unfold pr; rw [shm_o8 h]; rfl
theorem shm_l44 {S : SH} (h : SHM S) : S.2.2.1 44 = 300 := (h 3 (by decide)).2
theorem shm_o9 {S : SH} (h : SHM S) : S.2.2.2 40 9 = some 45 := (h 4 (by decide)).1
theorem shm_p9 {S : SH} (h : SHM S) : pr S 40 9 = 45 := by unfold pr; rw [shm_o9 h]; rfl
theorem shm_l45 {S : SH} (h : SHM S) : S.2.2.1 45 = 300 := (h 4 (by decide)).2
theorem shm_o10 {S : SH} (h : SHM S) : S.2.2.2 40 10 = some 46 := (h 5 (by decide)).1
theorem shm_p10 {S : SH} (h : SHM S) : pr S 40 10 = 46 := by unfold pr; rw [shm_o10 h]; rfl
theorem shm_l46 {S : SH} (h : SHM S) : S.2.2.1 46 = 300 := (h 5 (by decide)).2
theorem shm_o11 {S : SH} (h : SHM S) : S.2.2.2 40 11 = some 47 := (h 6 (by decide)).1
theorem shm_p11 {S : SH} (h : SHM S) : pr S 40 11 = 47 := by unfold pr; rw [shm_o11 h]; rfl
theorem shm_l47 {S : SH} (h : SHM S) : S.2.2.1 47 = 300 := (h 6 (by decide)).2
theorem shm_o12 {S : SH} (h : SHM S) : S.2.2.2 40 12 = some 48 := (h 7 (by decide)).1
theorem shm_p12 {S : SH} (h : SHM S) : pr S 40 12 = 48 := by unfold pr; rw [shm_o12 h]; rfl
theorem shm_l48 {S : SH} (h : SHM S) : S.2.2.1 48 = 300 := (h 7 (by decide)).2
theorem shm_o13 {S : SH} (h : SHM S) : S.2.2.2 40 13 = some 49 := (h 8 (by decide)).1
theorem shm_p13 {S : SH} (h : SHM S) : pr S 40 13 = 49 := by unfold pr; rw [shm_o13 h]; rfl
theorem shm_l49 {S : SH} (h : SHM S) : S.2.2.1 49 = 12 := (h 8 (by decide)).2
theorem shm_o14 {S : SH} (h : SHM S) : S.2.2.2 40 14 = some 50 := (h 9 (by decide)).1
theorem shm_p14 {S : SH} (h : SHM S) : pr S 40 14 = 50 := by unfold pr; rw [shm_o14 h]; rfl
theorem shm_l50 {S : SH} (h : SHM S) : S.2.2.1 50 = 12 := (h 9 (by decide)).2
theorem shm_o15 {S : SH} (h : SHM S) : S.2.2.2 40 15 = some 51 := (h 10 (by decide)).1
theorem shm_p15 {S : SH} (h : SHM S) : pr S 40 15 = 51 := by unfold pr; rw [shm_o15 h]; rfl
theorem shm_l51 {S : SH} (h : SHM S) : S.2.2.1 51 = 16 := (h 10 (by decide)).2
theorem shm_o16 {S : SH} (h : SHM S) : S.2.2.2 40 16 = some 52 := (h 11 (by decide)).1
theorem shm_p16 {S : SH} (h : SHM S) : pr S 40 16 = 52 := by unfold pr; rw [shm_o16 h]; rfl
theorem shm_l52 {S : SH} (h : SHM S) : S.2.2.1 52 = 300 := (h 11 (by decide)).2
theorem shm_o19 {S : SH} (h : SHM S) : S.2.2.2 40 19 = some 53 := (h 12 (by decide)).1
theorem shm_p19 {S : SH} (h : SHM S) : pr S 40 19 = 53 := by unfold pr; rw [shm_o19 h]; rfl
theorem shm_l53 {S : SH} (h : SHM S) : S.2.2.1 53 = 8 := (h 12 (by decide)).2
theorem shm_o20 {S : SH} (h : SHM S) : S.2.2.2 40 20 = some 54 := (h 13 (by decide)).1
theorem shm_p20 {S : SH} (h : SHM S) : pr S 40 20 = 54 := by unfold pr; rw [shm_o20 h]; rfl
theorem shm_l54 {S : SH} (h : SHM S) : S.2.2.1 54 = 8 := (h 13 (by decide)).2
theorem shm_o21 {S : SH} (h : SHM S) : S.2.2.2 40 21 = some 55 := (h 14 (by decide)).1
theorem shm_p21 {S : SH} (h : SHM S) : pr S 40 21 = 55 := by unfold pr; rw [shm_o21 h]; rfl
theorem shm_l55 {S : SH} (h : SHM S) : S.2.2.1 55 = 8 := (h 14 (by decide)).2
theorem shm_o22 {S : SH} (h : SHM S) : S.2.2.2 40 22 = some 56 := (h 15 (by decide)).1
theorem shm_p22 {S : SH} (h : SHM S) : pr S 40 22 = 56 := by unfold pr; rw [shm_o22 h]; rfl
theorem shm_l56 {S : SH} (h : SHM S) : S.2.2.1 56 = 8 := (h 15 (by decide)).2
theorem shm_o23 {S : SH} (h : SHM S) : S.2.2.2 40 23 = some 57 := (h 16 (by decide)).1
theorem shm_p23 {S : SH} (h : SHM S) : pr S 40 23 = 57 := by unfold pr; rw [shm_o23 h]; rfl
theorem shm_l57 {S : SH} (h : SHM S) : S.2.2.1 57 = 8 := (h 16 (by decide)).2
theorem shm_o24 {S : SH} (h : SHM S) : S.2.2.2 40 24 = some 58 := (h 17 (by decide)).1
theorem shm_p24 {S : SH} (h : SHM S) : pr S 40 24 = 58 := by unfold pr; rw [shm_o24 h]; rfl
theorem shm_l58 {S : SH} (h : SHM S) : S.2.2.1 58 = 8 := (h 17 (by decide)).2
theorem shm_o25 {S : SH} (h : SHM S) : S.2.2.2 40 25 = some 59 := (h 18 (by decide)).1
theorem shm_p25 {S : SH} (h : SHM S) : pr S 40 25 = 59 := by unfold pr; rw [shm_o25 h]; rfl
theorem shm_l59 {S : SH} (h : SHM S) : S.2.2.1 59 = 48 := (h 18 (by decide)).2
theorem shm_o26 {S : SH} (h : SHM S) : S.2.2.2 40 26 = some 60 := (h 19 (by decide)).1
theorem shm_p26 {S : SH} (h : SHM S) : pr S 40 26 = 60 := by unfold pr; rw [shm_o26 h]; rfl
theorem shm_l60 {S : SH} (h : SHM S) : S.2.2.1 60 = 8 := (h 19 (by decide)).2
theorem shm_o27 {S : SH} (h : SHM S) : S.2.2.2 40 27 = some 61 := (h 20 (by decide)).1
theorem shm_p27 {S : SH} (h : SHM S) : pr S 40 27 = 61 := by unfold pr; rw [shm_o27 h]; rfl
theorem shm_l61 {S : SH} (h : SHM S) : S.2.2.1 61 = 160 := (h 20 (by decide)).2
theorem shm_o31 {S : SH} (h : SHM S) : S.2.2.2 40 31 = some 62 := (h 21 (by decide)).1
theorem shm_p31 {S : SH} (h : SHM S) : pr S 40 31 = 62 := by unfold pr; rw [shm_o31 h]; rfl
theorem shm_l62 {S : SH} (h : SHM S) : S.2.2.1 62 = 12 := (h 21 (by decide)).2
theorem shm_o32 {S : SH} (h : SHM S) : S.2.2.2 40 32 = some 63 := (h 22 (by decide)).1
theorem shm_p32 {S : SH} (h : SHM S) : pr S 40 32 = 63 := by unfold pr; rw [shm_o32 h]; rfl
theorem shm_l63 {S : SH} (h : SHM S) : S.2.2.1 63 = 1920 := (h 22 (by decide)).2
theorem shm_o37 {S : SH} (h : SHM S) : S.2.2.2 40 37 = some 64 := (h 23 (by decide)).1
theorem shm_p37 {S : SH} (h : SHM S) : pr S 40 37 = 64 := by unfold pr; rw [shm_o37 h]; rfl
theorem shm_l64 {S : SH} (h : SHM S) : S.2.2.1 64 = 161 := (h 23 (by decide)).2
theorem shm_o38 {S : SH} (h : SHM S) : S.2.2.2 40 38 = some 65 := (h 24 (by decide)).1
theorem shm_p38 {S : SH} (h : SHM S) : pr S 40 38 = 65 := by unfold pr; rw [shm_o38 h]; rfl
theorem shm_l65 {S : SH} (h : SHM S) : S.2.2.1 65 = 7 := (h 24 (by decide)).2
theorem shm_o43 {S : SH} (h : SHM S) : S.2.2.2 40 43 = some 66 := (h 25 (by decide)).1
theorem shm_p43 {S : SH} (h : SHM S) : pr S 40 43 = 66 := by unfold pr; rw [shm_o43 h]; rfl
theorem shm_l66 {S : SH} (h : SHM S) : S.2.2.1 66 = 6 := (h 25 (by decide)).2
theorem shm_o44 {S : SH} (h : SHM S) : S.2.2.2 40 44 = some 67 := (h 26 (by decide)).1
theorem shm_p44 {S : SH} (h : SHM S) : pr S 40 44 = 67 := by unfold pr; rw [shm_o44 h]; rfl
theorem shm_l67 {S : SH} (h : SHM S) : S.2.2.1 67 = 161 := (h 26 (by decide)).2
theorem shm_o48 {S : SH} (h : SHM S) : S.2.2.2 40 48 = some 68 := (h 27 (by decide)).1
theorem shm_p48 {S : SH} (h : SHM S) : pr S 40 48 = 68 := by unfold pr; rw [shm_o48 h]; rfl
theorem shm_l68 {S : SH} (h : SHM S) : S.2.2.1 68 = 300 := (h 27 (by decide)).2
theorem shm_o49 {S : SH} (h : SHM S) : S.2.2.2 40 49 = some 69 := (h 28 (by decide)).1
theorem shm_p49 {S : SH} (h : SHM S) : pr S 40 49 = 69 := by unfold pr; rw [shm_o49 h]; rfl
theorem shm_l69 {S : SH} (h : SHM S) : S.2.2.1 69 = 300 := (h 28 (by decide)).2
theorem shm_o50 {S : SH} (h : SHM S) : S.2.2.2 40 50 = some 70 := (h 29 (by decide)).1
theorem shm_p50 {S : SH} (h : SHM S) : pr S 40 50 = 70 := by unfold pr; rw [shm_o50 h]; rfl
theorem shm_l70 {S : SH} (h : SHM S) : S.2.2.1 70 = 300 := (h 29 (by decide)).2
theorem shm_o51 {S : SH} (h : SHM S) : S.2.2.2 40 51 = some 71 := (h 30 (by decide)).1
theorem shm_p51 {S : SH} (h : SHM S) : pr S 40 51 = 71 := by unfold pr; rw [shm_o51 h]; rfl
theorem shm_l71 {S : SH} (h : SHM S) : S.2.2.1 71 = 12 := (h 30 (by decide)).2
theorem shm_o52 {S : SH} (h : SHM S) : S.2.2.2 40 52 = some 72 := (h 31 (by decide)).1
theorem shm_p52 {S : SH} (h : SHM S) : pr S 40 52 = 72 := by unfold pr; rw [shm_o52 h]; rfl
theorem shm_l72 {S : SH} (h : SHM S) : S.2.2.1 72 = 12 := (h 31 (by decide)).2
theorem shm_o53 {S : SH} (h : SHM S) : S.2.2.2 40 53 = some 73 := (h 32 (by decide)).1
theorem shm_p53 {S : SH} (h : SHM S) : pr S 40 53 = 73 := by unfold pr; rw [shm_o53 h]; rfl
theorem shm_l73 {S : SH} (h : SHM S) : S.2.2.1 73 = 16 := (h 32 (by decide)).2
theorem shm_o54 {S : SH} (h : SHM S) : S.2.2.2 40 54 = some 74 := (h 33 (by decide)).1
theorem shm_p54 {S : SH} (h : SHM S) : pr S 40 54 = 74 := by unfold pr; rw [shm_o54 h]; rfl
theorem shm_l74 {S : SH} (h : SHM S) : S.2.2.1 74 = 40 := (h 33 (by decide)).2
theorem shm_o55 {S : SH} (h : SHM S) : S.2.2.2 40 55 = some 75 := (h 34 (by decide)).1
theorem shm_p55 {S : SH} (h : SHM S) : pr S 40 55 = 75 := by unfold pr; rw [shm_o55 h]; rfl
theorem shm_l75 {S : SH} (h : SHM S) : S.2.2.1 75 = 8 := (h 34 (by decide)).2
theorem shm_o62 {S : SH} (h : SHM S) : S.2.2.2 40 62 = some 76 := (h 35 (by decide)).1
theorem shm_p62 {S : SH} (h : SHM S) : pr S 40 62 = 76 := by unfold pr; rw [shm_o62 h]; rfl
theorem shm_l76 {S : SH} (h : SHM S) : S.2.2.1 76 = 7 := (h 35 (by decide)).2
theorem shm_o63 {S : SH} (h : SHM S) : S.2.2.2 40 63 = some 77 := (h 36 (by decide)).1
theorem shm_p63 {S : SH} (h : SHM S) : pr S 40 63 = 77 := by unfold pr; rw [shm_o63 h]; rfl
theorem shm_l77 {S : SH} (h : SHM S) : S.2.2.1 77 = 31 := (h 36 (by decide)).2
theorem shm_o64 {S : SH} (h : SHM S) : S.2.2.2 40 64 = some 78 := (h 37 (by decide)).1
theorem shm_p64 {S : SH} (h : SHM S) : pr S 40 64 = 78 := by unfold pr; rw [shm_o64 h]; rfl
theorem shm_l78 {S : SH} (h : SHM S) : S.2.2.1 78 = 4 := (h 37 (by decide)).2
theorem shm_o65 {S : SH} (h : SHM S) : S.2.2.2 40 65 = some 79 := (h 38 (by decide)).1
theorem shm_p65 {S : SH} (h : SHM S) : pr S 40 65 = 79 := by unfold pr; rw [shm_o65 h]; rfl
theorem shm_l79 {S : SH} (h : SHM S) : S.2.2.1 79 = 4 := (h 38 (by decide)).2
theorem shm_o66 {S : SH} (h : SHM S) : S.2.2.2 40 66 = some 80 := (h 39 (by decide)).1
theorem shm_p66 {S : SH} (h : SHM S) : pr S 40 66 = 80 := by unfold pr; rw [shm_o66 h]; rfl
theorem shm_l80 {S : SH} (h : SHM S) : S.2.2.1 80 = 160 := (h 39 (by decide)).2
def sr_tab : List (Nat × Nat × Nat) := [(0, 2, 16), (0, 3, 1), (0, 4, 7), (0, 5, 17), (0, 6, 15), (1, 0, 2), (1, 1, 3), (1, 2, 4), (1, 3, 5), (1, 4, 6), (7, 0, 8), (7, 1, 9), (7, 2, 10), (7, 3, 11), (7, 4, 12), (7, 5, 13), (7, 6, 14), (17, 0, 19), (17, 1, 18)]
def SR (S : SH) (r n : Nat) : Prop := S.2.2.2 r 0 = some 41 ∧ S.2.2.2 r 1 = some 45 ∧ (∀ q ∈ sr_tab, S.2.2.2 (r + q.1) q.2.1 = some (r + q.2.2)) ∧ (∀ q ∈ ([(2, 300), (3, 300), (4, 300), (5, 300), (6, 300), (8, 8), (9, 8), (10, 8), (11, 8), (12, 8), (13, 8), (14, 8), (15, 6), (18, 16)] : List (Nat × Nat)), S.2.2.1 (r + q.1) = q.2) ∧ S.2.2.1 (r + 16) = n ∧ S.2.2.1 (r + 19) = n ∧ 6 ≤ n ∧ n ≤ 12
theorem sr_or0 {S : SH} {r n : Nat} (h : SR S r n) : S.2.2.2 r 0 = some (41) := h.1
theorem sr_r0 {S : SH} {r n : Nat} (h : SR S r n) : pr S r 0 = 41 := by unfold pr; rw [sr_or0 h]; rfl
theorem sr_or1 {S : SH} {r n : Nat} (h : SR S r n) : S.2.2.2 r 1 = some (45) := h.2.1
theorem sr_r1 {S : SH} {r n : Nat} (h : SR S r n) : pr S r 1 = 45 := by unfold pr; rw [sr_or1 h]; rfl
theorem sr_or2 {S : SH} {r n : Nat} (h : SR S r n) : S.2.2.2 r 2 = some (r + 16) := h.2.2.1 (0, 2, 16) (by decide)
theorem sr_r2 {S : SH} {r n : Nat} (h : SR S r n) : pr S r 2 = r + 16 := by unfold pr; rw [sr_or2 h]; rfl
theorem sr_or3 {S : SH} {r n : Nat} (h : SR S r n) : S.2.2.2 r 3 = some (r + 1) := h.2.2.1 (0, 3, 1) (by decide)
theorem sr_r3 {S : SH} {r n : Nat} (h : SR S r n) : pr S r 3 = r + 1 := by unfold pr; rw [sr_or3 h]; rfl
theorem sr_or4 {S : SH} {r n : Nat} (h : SR S r n) : S.2.2.2 r 4 = some (r + 7) := h.2.2.1 (0, 4, 7) (by decide)
theorem sr_r4 {S : SH} {r n : Nat} (h : SR S r n) : pr S r 4 = r + 7 := by unfold pr; rw [sr_or4 h]; rfl
theorem sr_or5 {S : SH} {r n : Nat} (h : SR S r n) : S.2.2.2 r 5 = some (r + 17) := h.2.2.1 (0, 5, 17) (by decide)
theorem sr_r5 {S : SH} {r n : Nat} (h : SR S r n) : pr S r 5 = r + 17 := by unfold pr; rw [sr_or5 h]; rfl
theorem sr_or6 {S : SH} {r n : Nat} (h : SR S r n) : S.2.2.2 r 6 = some (r + 15) := h.2.2.1 (0, 6, 15) (by decide)
theorem sr_r6 {S : SH} {r n : Nat} (h : SR S r n) : pr S r 6 = r + 15 := by unfold pr; rw [sr_or6 h]; rfl
theorem sr_op0 {S : SH} {r n : Nat} (h : SR S r n) : S.2.2.2 (r + 1) 0 = some (r + 2) := h.2.2.1 (1, 0, 2) (by decide)
theorem sr_p0 {S : SH} {r n : Nat} (h : SR S r n) : pr S (r + 1) 0 = r + 2 := by unfold pr; rw [sr_op0 h]; rfl
theorem sr_op1 {S : SH} {r n : Nat} (h : SR S r n) : S.2.2.2 (r + 1) 1 = some (r + 3) := h.2.2.1 (1, 1, 3) (by decide)
theorem sr_p1 {S : SH} {r n : Nat} (h : SR S r n) : pr S (r + 1) 1 = r + 3 := by unfold pr; rw [sr_op1 h]; rfl
theorem sr_op2 {S : SH} {r n : Nat} (h : SR S r n) : S.2.2.2 (r + 1) 2 = some (r + 4) := h.2.2.1 (1, 2, 4) (by decide)
theorem sr_p2 {S : SH} {r n : Nat} (h : SR S r n) : pr S (r + 1) 2 = r + 4 := by unfold pr; rw [sr_op2 h]; rfl
theorem sr_op3 {S : SH} {r n : Nat} (h : SR S r n) : S.2.2.2 (r + 1) 3 = some (r + 5) := h.2.2.1 (1, 3, 5) (by decide)
theorem sr_p3 {S : SH} {r n : Nat} (h : SR S r n) : pr S (r + 1) 3 = r + 5 := by unfold pr; rw [sr_op3 h]; rfl
theorem sr_op4 {S : SH} {r n : Nat} (h : SR S r n) : S.2.2.2 (r + 1) 4 = some (r + 6) := h.2.2.1 (1, 4, 6) (by decide)
theorem sr_p4 {S : SH} {r n : Nat} (h : SR S r n) : pr S (r + 1) 4 = r + 6 := by unfold pr; rw [sr_op4 h]; rfl
theorem sr_os0 {S : SH} {r n : Nat} (h : SR S r n) : S.2.2.2 (r + 7) 0 = some (r + 8) := h.2.2.1 (7, 0, 8) (by decide)
theorem sr_s0 {S : SH} {r n : Nat} (h : SR S r n) : pr S (r + 7) 0 = r + 8 := by unfold pr; rw [sr_os0 h]; rfl
theorem sr_os1 {S : SH} {r n : Nat} (h : SR S r n) : S.2.2.2 (r + 7) 1 = some (r + 9) := h.2.2.1 (7, 1, 9) (by decide)
theorem sr_s1 {S : SH} {r n : Nat} (h : SR S r n) : pr S (r + 7) 1 = r + 9 := by unfold pr; rw [sr_os1 h]; rfl
theorem sr_os2 {S : SH} {r n : Nat} (h : SR S r n) : S.2.2.2 (r + 7) 2 = some (r + 10) := h.2.2.1 (7, 2, 10) (by decide)
theorem sr_s2 {S : SH} {r n : Nat} (h : SR S r n) : pr S (r + 7) 2 = r + 10 := by unfold pr; rw [sr_os2 h]; rfl
theorem sr_os3 {S : SH} {r n : Nat} (h : SR S r n) : S.2.2.2 (r + 7) 3 = some (r + 11) := h.2.2.1 (7, 3, 11) (by decide)
theorem sr_s3 {S : SH} {r n : Nat} (h : SR S r n) : pr S (r + 7) 3 = r + 11 := by unfold pr; rw [sr_os3 h]; rfl
theorem sr_os4 {S : SH} {r n : Nat} (h : SR S r n) : S.2.2.2 (r + 7) 4 = some (r + 12) := h.2.2.1 (7, 4, 12) (by decide)
theorem sr_s4 {S : SH} {r n : Nat} (h : SR S r n) : pr S (r + 7) 4 = r + 12 := by unfold pr; rw [sr_os4 h]; rfl
theorem sr_os5 {S : SH} {r n : Nat} (h : SR S r n) : S.2.2.2 (r + 7) 5 = some (r + 13) := h.2.2.1 (7, 5, 13) (by decide)
theorem sr_s5 {S : SH} {r n : Nat} (h : SR S r n) : pr S (r + 7) 5 = r + 13 := by unfold pr; rw [sr_os5 h]; rfl
theorem sr_os6 {S : SH} {r n : Nat} (h : SR S r n) : S.2.2.2 (r + 7) 6 = some (r + 14) := h.2.2.1 (7, 6, 14) (by decide)
theorem sr_s6 {S : SH} {r n : Nat} (h : SR S r n) : pr S (r + 7) 6 = r + 14 := by unfold pr; rw [sr_os6 h]; rfl
theorem sr_ol0 {S : SH} {r n : Nat} (h : SR S r n) : S.2.2.2 (r + 17) 0 = some (r + 19) := h.2.2.1 (17, 0, 19) (by decide)
theorem sr_l0 {S : SH} {r n : Nat} (h : SR S r n) : pr S (r + 17) 0 = r + 19 := by unfold pr; rw [sr_ol0 h]; rfl
theorem sr_ol1 {S : SH} {r n : Nat} (h : SR S r n) : S.2.2.2 (r + 17) 1 = some (r + 18) := h.2.2.1 (17, 1, 18) (by decide)
theorem sr_l1 {S : SH} {r n : Nat} (h : SR S r n) : pr S (r + 17) 1 = r + 18 := by unfold pr; rw [sr_ol1 h]; rfl
theorem sr_l2 {S : SH} {r n : Nat} (h : SR S r n) : S.2.2.1 (r + 2) = 300 := h.2.2.2.1 (2, 300) (by decide)
theorem sr_l3 {S : SH} {r n : Nat} (h : SR S r n) : S.2.2.1 (r + 3) = 300 := h.2.2.2.1 (3, 300) (by decide)
theorem sr_l4 {S : SH} {r n : Nat} (h : SR S r n) : S.2.2.1 (r + 4) = 300 := h.2.2.2.1 (4, 300) (by decide)
theorem sr_l5 {S : SH} {r n : Nat} (h : SR S r n) : S.2.2.1 (r + 5) = 300 := h.2.2.2.1 (5, 300) (by decide)
theorem sr_l6 {S : SH} {r n : Nat} (h : SR S r n) : S.2.2.1 (r + 6) = 300 := h.2.2.2.1 (6, 300) (by decide)
theorem sr_l8 {S : SH} {r n : Nat} (h : SR S r n) : S.2.2.1 (r + 8) = 8 := h.2.2.2.1 (8, 8) (by decide)
theorem sr_l9 {S : SH} {r n : Nat} (h : SR S r n) : S.2.2.1 (r + 9) = 8 := h.2.2.2.1 (9, 8) (by decide)
theorem sr_l10 {S : SH} {r n : Nat} (h : SR S r n) : S.2.2.1 (r + 10) = 8 := h.2.2.2.1 (10, 8) (by decide)
theorem sr_l11 {S : SH} {r n : Nat} (h : SR S r n) : S.2.2.1 (r + 11) = 8 := h.2.2.2.1 (11, 8) (by decide)
theorem sr_l12 {S : SH} {r n : Nat} (h : SR S r n) : S.2.2.1 (r + 12) = 8 := h.2.2.2.1 (12, 8) (by decide)
theorem sr_l13 {S : SH} {r n : Nat} (h : SR S r n) : S.2.2.1 (r + 13) = 8 := h.2.2.2.1 (13, 8) (by decide)
theorem sr_l14 {S : SH} {r n : Nat} (h : SR S r n) : S.2.2.1 (r + 14) = 8 := h.2.2.2.1 (14, 8) (by decide)
theorem sr_l15 {S : SH} {r n : Nat} (h : SR S r n) : S.2.2.1 (r + 15) = 6 := h.2.2.2.1 (15, 6) (by decide)
theorem sr_l16 {S : SH} {r n : Nat} (h : SR S r n) : S.2.2.1 (r + 16) = n := h.2.2.2.2.1
theorem sr_l18 {S : SH} {r n : Nat} (h : SR S r n) : S.2.2.1 (r + 18) = 16 := h.2.2.2.1 (18, 16) (by decide)
theorem sr_l19 {S : SH} {r n : Nat} (h : SR S r n) : S.2.2.1 (r + 19) = n := h.2.2.2.2.2.1
def sx_tab : List (Nat × Nat × Nat) := [(41, 0, 42), (41, 1, 43), (41, 2, 44), (40, 0, 41), (40, 1, 45), (40, 2, 49), (40, 3, 55), (40, 4, 59), (40, 5, 67), (40, 6, 87), (45, 0, 46), (49, 0, 50), (49, 2, 51), (49, 3, 52), (49, 4, 53), (49, 7, 54), (55, 0, 56), (55, 1, 57), (55, 2, 58), (59, 0, 60), (59, 1, 61), (59, 2, 62), (87, 0, 88), (87, 1, 89), (87, 2, 90)]
def SX (S : SH) : Prop := (∀ q ∈ sx_tab, S.2.2.2 q.1 q.2.1 = some q.2.2) ∧ (∀ q ∈ ([(42, 6), (43, 6), (44, 5), (46, 6), (50, 160), (51, 160), (52, 160), (53, 160), (54, 160), (56, 7), (57, 31), (58, 30), (60, 4), (61, 4), (62, 4), (63, 40), (64, 40), (65, 40), (66, 40), (88, 3), (89, 3), (90, 3), (0, 6), (1, 6), (2, 6), (5, 4), (6, 3), (7, 6), (8, 5), (9, 5), (10, 4), (11, 4), (12, 2), (13, 2), (14, 3), (15, 3)] : List (Nat × Nat)), S.2.2.1 q.1 = q.2)
theorem sx_om0 {S : SH} (h : SX S) : S.2.2.2 41 0 = some 42 := h.1 (41, 0, 42) (by decide)
theorem sx_m0 {S : SH} (h : SX S) : pr S 41 0 = 42 := by unfold pr; rw [sx_om0 h]; rfl
theorem sx_om1 {S : SH} (h : SX S) : S.2.2.2 41 1 = some 43 := h.1 (41, 1, 43) (by decide)
theorem sx_m1 {S : SH} (h : SX S) : pr S 41 1 = 43 := by unfold pr; rw [sx_om1 h]; rfl
theorem sx_om2 {S : SH} (h : SX S) : S.2.2.2 41 2 = some 44 := h.1 (41, 2, 44) (by decide)
theorem sx_m2 {S : SH} (h : SX S) : pr S 41 2 = 44 := by unfold pr; rw [sx_om2 h]; rfl
theorem sx_oc0 {S : SH} (h : SX S) : S.2.2.2 40 0 = some 41 := h.1 (40, 0, 41) (by decide)
theorem sx_c0 {S : SH} (h : SX S) : pr S 40 0 = 41 := by unfold pr; rw [sx_oc0 h]; rfl
theorem sx_oc1 {S : SH} (h : SX S) : S.2.2.2 40 1 = some 45 := h.1 (40, 1, 45) (by decide)
theorem sx_c1 {S : SH} (h : SX S) : pr S 40 1 = 45 := by unfold pr; rw [sx_oc1 h]; rfl
theorem sx_oc2 {S : SH} (h : SX S) : S.2.2.2 40 2 = some 49 := h.1 (40, 2, 49) (by decide)
theorem sx_c2 {S : SH} (h : SX S) : pr S 40 2 = 49 := by unfold pr; rw [sx_oc2 h]; rfl
theorem sx_oc3 {S : SH} (h : SX S) : S.2.2.2 40 3 = some 55 := h.1 (40, 3, 55) (by decide)
theorem sx_c3 {S : SH} (h : SX S) : pr S 40 3 = 55 := by unfold pr; rw [sx_oc3 h]; rfl
theorem sx_oc4 {S : SH} (h : SX S) : S.2.2.2 40 4 = some 59 := h.1 (40, 4, 59) (by decide)
theorem sx_c4 {S : SH} (h : SX S) : pr S 40 4 = 59 := by unfold pr; rw [sx_oc4 h]; rfl
theorem sx_oc5 {S : SH} (h : SX S) : S.2.2.2 40 5 = some 67 := h.1 (40, 5, 67) (by decide)
theorem sx_c5 {S : SH} (h : SX S) : pr S 40 5 = 67 := by unfold pr; rw [sx_oc5 h]; rfl
theorem sx_oc6 {S : SH} (h : SX S) : S.2.2.2 40 6 = some 87 := h.1 (40, 6, 87) (by decide)
theorem sx_c6 {S : SH} (h : SX S) : pr S 40 6 = 87 := by unfold pr; rw [sx_oc6 h]; rfl
theorem sx_ou0 {S : SH} (h : SX S) : S.2.2.2 45 0 = some 46 := h.1 (45, 0, 46) (by decide)
theorem sx_u0 {S : SH} (h : SX S) : pr S 45 0 = 46 := by unfold pr; rw [sx_ou0 h]; rfl
theorem sx_ot0 {S : SH} (h : SX S) : S.2.2.2 49 0 = some 50 := h.1 (49, 0, 50) (by decide)
theorem sx_t0 {S : SH} (h : SX S) : pr S 49 0 = 50 := by unfold pr; rw [sx_ot0 h]; rfl
theorem sx_ot2 {S : SH} (h : SX S) : S.2.2.2 49 2 = some 51 := h.1 (49, 2, 51) (by decide)
theorem sx_t2 {S : SH} (h : SX S) : pr S 49 2 = 51 := by unfold pr; rw [sx_ot2 h]; rfl
theorem sx_ot3 {S : SH} (h : SX S) : S.2.2.2 49 3 = some 52 := h.1 (49, 3, 52) (by decide)
theorem sx_t3 {S : SH} (h : SX S) : pr S 49 3 = 52 := by unfold pr; rw [sx_ot3 h]; rfl
theorem sx_ot4 {S : SH} (h : SX S) : S.2.2.2 49 4 = some 53 := h.1 (49, 4, 53) (by decide)
theorem sx_t4 {S : SH} (h : SX S) : pr S 49 4 = 53 := by unfold pr; rw [sx_ot4 h]; rfl
theorem sx_ot7 {S : SH} (h : SX S) : S.2.2.2 49 7 = some 54 := h.1 (49, 7, 54) (by decide)
theorem sx_t7 {S : SH} (h : SX S) : pr S 49 7 = 54 := by unfold pr; rw [sx_ot7 h]; rfl
theorem sx_of0 {S : SH} (h : SX S) : S.2.2.2 55 0 = some 56 := h.1 (55, 0, 56) (by decide)
theorem sx_f0 {S : SH} (h : SX S) : pr S 55 0 = 56 := by unfold pr; rw [sx_of0 h]; rfl
theorem sx_of1 {S : SH} (h : SX S) : S.2.2.2 55 1 = some 57 := h.1 (55, 1, 57) (by decide)
theorem sx_f1 {S : SH} (h : SX S) : pr S 55 1 = 57 := by unfold pr; rw [sx_of1 h]; rfl
theorem sx_of2 {S : SH} (h : SX S) : S.2.2.2 55 2 = some 58 := h.1 (55, 2, 58) (by decide)
theorem sx_f2 {S : SH} (h : SX S) : pr S 55 2 = 58 := by unfold pr; rw [sx_of2 h]; rfl
theorem sx_oh0 {S : SH} (h : SX S) : S.2.2.2 59 0 = some 60 := h.1 (59, 0, 60) (by decide)
theorem sx_h0 {S : SH} (h : SX S) : pr S 59 0 = 60 := by unfold pr; rw [sx_oh0 h]; rfl
theorem sx_oh1 {S : SH} (h : SX S) : S.2.2.2 59 1 = some 61 := h.1 (59, 1, 61) (by decide)
theorem sx_h1 {S : SH} (h : SX S) : pr S 59 1 = 61 := by unfold pr; rw [sx_oh1 h]; rfl
theorem sx_oh2 {S : SH} (h : SX S) : S.2.2.2 59 2 = some 62 := h.1 (59, 2, 62) (by decide)
theorem sx_h2 {S : SH} (h : SX S) : pr S 59 2 = 62 := by unfold pr; rw [sx_oh2 h]; rfl
theorem sx_og0 {S : SH} (h : SX S) : S.2.2.2 87 0 = some 88 := h.1 (87, 0, 88) (by decide)
theorem sx_g0 {S : SH} (h : SX S) : pr S 87 0 = 88 := by unfold pr; rw [sx_og0 h]; rfl
theorem sx_og1 {S : SH} (h : SX S) : S.2.2.2 87 1 = some 89 := h.1 (87, 1, 89) (by decide)
theorem sx_g1 {S : SH} (h : SX S) : pr S 87 1 = 89 := by unfold pr; rw [sx_og1 h]; rfl
theorem sx_og2 {S : SH} (h : SX S) : S.2.2.2 87 2 = some 90 := h.1 (87, 2, 90) (by decide)
theorem sx_g2 {S : SH} (h : SX S) : pr S 87 2 = 90 := by unfold pr; rw [sx_og2 h]; rfl
theorem sx_l42 {S : SH} (h : SX S) : S.2.2.1 42 = 6 := h.2 (42, 6) (by decide)
theorem sx_l43 {S : SH} (h : SX S) : S.2.2.1 43 = 6 := h.2 (43, 6) (by decide)
theorem sx_l44 {S : SH} (h : SX S) : S.2.2.1 44 = 5 := h.2 (44, 5) (by decide)
theorem sx_l46 {S : SH} (h : SX S) : S.2.2.1 46 = 6 := h.2 (46, 6) (by decide)
theorem sx_l50 {S : SH} (h : SX S) : S.2.2.1 50 = 160 := h.2 (50, 160) (by decide)
theorem sx_l51 {S : SH} (h : SX S) : S.2.2.1 51 = 160 := h.2 (51, 160) (by decide)
theorem sx_l52 {S : SH} (h : SX S) : S.2.2.1 52 = 160 := h.2 (52, 160) (by decide)
theorem sx_l53 {S : SH} (h : SX S) : S.2.2.1 53 = 160 := h.2 (53, 160) (by decide)
theorem sx_l54 {S : SH} (h : SX S) : S.2.2.1 54 = 160 := h.2 (54, 160) (by decide)
theorem sx_l56 {S : SH} (h : SX S) : S.2.2.1 56 = 7 := h.2 (56, 7) (by decide)
theorem sx_l57 {S : SH} (h : SX S) : S.2.2.1 57 = 31 := h.2 (57, 31) (by decide)
theorem sx_l58 {S : SH} (h : SX S) : S.2.2.1 58 = 30 := h.2 (58, 30) (by decide)
theorem sx_l60 {S : SH} (h : SX S) : S.2.2.1 60 = 4 := h.2 (60, 4) (by decide)
theorem sx_l61 {S : SH} (h : SX S) : S.2.2.1 61 = 4 := h.2 (61, 4) (by decide)
theorem sx_l62 {S : SH} (h : SX S) : S.2.2.1 62 = 4 := h.2 (62, 4) (by decide)
theorem sx_l63 {S : SH} (h : SX S) : S.2.2.1 63 = 40 := h.2 (63, 40) (by decide)
theorem sx_l64 {S : SH} (h : SX S) : S.2.2.1 64 = 40 := h.2 (64, 40) (by decide)
theorem sx_l65 {S : SH} (h : SX S) : S.2.2.1 65 = 40 := h.2 (65, 40) (by decide)
theorem sx_l66 {S : SH} (h : SX S) : S.2.2.1 66 = 40 := h.2 (66, 40) (by decide)
theorem sx_l88 {S : SH} (h : SX S) : S.2.2.1 88 = 3 := h.2 (88, 3) (by decide)
theorem sx_l89 {S : SH} (h : SX S) : S.2.2.1 89 = 3 := h.2 (89, 3) (by decide)
theorem sx_l90 {S : SH} (h : SX S) : S.2.2.1 90 = 3 := h.2 (90, 3) (by decide)
theorem sx_l0 {S : SH} (h : SX S) : S.2.2.1 0 = 6 := h.2 (0, 6) (by decide)
theorem sx_l1 {S : SH} (h : SX S) : S.2.2.1 1 = 6 := h.2 (1, 6) (by decide)
theorem sx_l2 {S : SH} (h : SX S) : S.2.2.1 2 = 6 := h.2 (2, 6) (by decide)
theorem sx_l5 {S : SH} (h : SX S) : S.2.2.1 5 = 4 := h.2 (5, 4) (by decide)
theorem sx_l6 {S : SH} (h : SX S) : S.2.2.1 6 = 3 := h.2 (6, 3) (by decide)
theorem sx_l7 {S : SH} (h : SX S) : S.2.2.1 7 = 6 := h.2 (7, 6) (by decide)
theorem sx_l8 {S : SH} (h : SX S) : S.2.2.1 8 = 5 := h.2 (8, 5) (by decide)
theorem sx_l9 {S : SH} (h : SX S) : S.2.2.1 9 = 5 := h.2 (9, 5) (by decide)
theorem sx_l10 {S : SH} (h : SX S) : S.2.2.1 10 = 4 := h.2 (10, 4) (by decide)
theorem sx_l11 {S : SH} (h : SX S) : S.2.2.1 11 = 4 := h.2 (11, 4) (by decide)
theorem sx_l12 {S : SH} (h : SX S) : S.2.2.1 12 = 2 := h.2 (12, 2) (by decide)
theorem sx_l13 {S : SH} (h : SX S) : S.2.2.1 13 = 2 := h.2 (13, 2) (by decide)
theorem sx_l14 {S : SH} (h : SX S) : S.2.2.1 14 = 3 := h.2 (14, 3) (by decide)
theorem sx_l15 {S : SH} (h : SX S) : S.2.2.1 15 = 3 := h.2 (15, 3) (by decide)
/-- where each plate is: on the belt, on a tray, waiting, eaten at a seat, or nowhere -/
def zI (n M K W : Nat) (belt lane q st sp fs took : Nat → Int32) : Prop :=
  (∀ i, i < n → belt i = mO ∨ ∃ p, p < M ∧ belt i = nI p ∧ st p = nI 0 ∧ sp p = nI i) ∧
  (∀ c, c < n → lane c = mO ∨ ∃ p s, p < M ∧ s < K ∧ lane c = nI p ∧ st p = nI 1 ∧ sp p = nI c ∧ fs p = nI s) ∧
  (∀ i, i < W → ∃ p s, p < M ∧ s < K ∧ q i = nI p ∧ st p = nI 1 ∧ sp p = mO ∧ fs p = nI s) ∧
  (∀ i j, i < W → j < W → q i = q j → i = j) ∧
  (∀ s, s < K → took s = mO ∨ ∃ p, p < M ∧ took s = nI p ∧ st p = nI 2 ∧ sp p = nI s) ∧
  (∀ p, p < M → (∃ i, i < n ∧ st p = nI 0 ∧ sp p = nI i ∧ belt i = nI p) ∨ (st p = nI 1 ∧ sp p = mO) ∨ (∃ c, c < n ∧ st p = nI 1 ∧ sp p = nI c ∧ lane c = nI p) ∨ (∃ s, s < K ∧ st p = nI 2 ∧ sp p = nI s) ∨ (∃ k, 3 ≤ k ∧ k ≤ 5 ∧ st p = nI k ∧ sp p = mO))
def zPl (M : Nat) (a2 a3 a5 a6 b44 b45 b47 b48 b52 : Nat → Int32) : Prop :=
  ∀ p, p < M → a2 p = b44 p ∧ a3 p = b45 p ∧ a5 p = b47 p ∧ (∃ d, d < 6 ∧ b44 p = nI d) ∧ (∃ c, c < 5 ∧ b45 p = nI c) ∧ (b47 p = nI 1 → a6 p = b52 p) ∧ (b47 p = nI 2 → a6 p = b48 p)
def zEq (M : Nat) (a b : Nat → Int32) : Prop := ∀ p, p < M → a p = b p
/-- the digits of likes -/
def zLk (a : Int32) (b : Nat → Int32) (s : Nat) : Prop := ∀ d, d < 6 → (a / (exV 2).getD d 0) - (a / (exV 2).getD d 0) / 10 * 10 = b (6 * s + d)
/-- seats: a8 places, a9 kinds, a10 likes, a11 eaten, a12 waited, a13 payers; b53 place, b54 kind, b55 eaten, b56 waited, b57 payer, b58 took, b59 likes, b60 sits -/
def zSe (n K : Nat) (a8 a9 a10 a11 a12 a13 b53 b54 b55 b56 b57 b58 b59 b60 : Nat → Int32) : Prop :=
  ∀ s, s < K → a8 s = b53 s ∧ (∃ q, 1 ≤ q ∧ q < n ∧ b53 s = nI q) ∧ a13 s = b57 s ∧ (b57 s = mO ∨ ∃ t, t < K ∧ b57 s = nI t) ∧
    ((b60 s = nI 1 ∧ a9 s = b54 s ∧ (∃ k, k < 6 ∧ b54 s = nI k) ∧ a11 s = b55 s ∧ a12 s = b56 s ∧ zLk (a10 s) b59 s) ∨ (b60 s = nI 0 ∧ a9 s = mO ∧ b58 s = mO ∧ b57 s = mO))
def zSc (r n : Nat) (x y : DY) (M K W : Nat) : Prop :=
  x.1 (r + 1) 5 = nI M ∧ y.1 40 1 = nI M ∧ M ≤ 300 ∧ x.1 (r + 7) 7 = nI K ∧ y.1 40 18 = nI K ∧ K ≤ 8 ∧ x.1 (r + 17) 2 = nI W ∧ y.1 40 17 = nI W ∧ W ≤ 16 ∧ y.1 40 0 = nI n ∧ 6 ≤ n ∧ n ≤ 12 ∧ x.1 r 7 = y.1 40 2 ∧ x.1 r 8 = y.1 40 3
/-- all but the ages -/
def zR (r n : Nat) (x y : DY) (M K W : Nat) : Prop :=
  zSc r n x y M K W ∧ zPl M (x.1 (r + 2)) (x.1 (r + 3)) (x.1 (r + 5)) (x.1 (r + 6)) (y.1 44) (y.1 45) (y.1 47) (y.1 48) (y.1 52) ∧
  (zEq n (x.1 (r + 16)) (y.1 49) ∧ zEq n (x.1 (r + 19)) (y.1 50) ∧ zEq W (x.1 (r + 18)) (y.1 51) ∧ zEq K (x.1 (r + 14)) (y.1 58)) ∧
  zSe n K (x.1 (r + 8)) (x.1 (r + 9)) (x.1 (r + 10)) (x.1 (r + 11)) (x.1 (r + 12)) (x.1 (r + 13)) (y.1 53) (y.1 54) (y.1 55) (y.1 56) (y.1 57) (y.1 58) (y.1 59) (y.1 60) ∧
  zI n M K W (y.1 49) (y.1 50) (y.1 51) (y.1 47) (y.1 48) (y.1 52) (y.1 58)
def zRR (r n : Nat) (x y : DY) (M K W : Nat) : Prop := zR r n x y M K W ∧ zEq M (x.1 (r + 4)) (y.1 46)
/-- the menu and the statics -/
def zMn (x y : DY) (w : Nat) : Prop :=
  (∀ d, d < 6 → x.1 42 d = y.1 41 d ∧ x.1 43 d = y.1 42 d ∧ ∃ c, c < 5 ∧ y.1 41 d = nI c) ∧ (∀ c, c < 5 → x.1 44 c = y.1 43 c ∧ ∃ v, v ≤ 999 ∧ y.1 43 c = nI v) ∧ x.1 41 3 = nI w ∧ y.1 40 4 = nI w ∧ w ≤ 999
def zEX (x : DY) : Prop := ∀ i, i < 16 → ∀ j, j < (exV i).length → x.1 i j = (exV i).getD j 0
/-! moves of zPl -/
theorem zEq.ud {M : Nat} {a b : Nat → Int32} (h : zEq M a b) (k : Nat) (v : Int32) : zEq M (ud a k v) (ud b k v) := fun p hp => by
  by_cases e : p = k
  · subst e; rw [ud_s, ud_s]
  · rw [ud_n e, ud_n e]; exact h p hp
theorem zPl.set {M p0 : Nat} {a2 a3 a5 a6 b44 b45 b47 b48 b52 : Nat → Int32} {k v w : Int32} (h : zPl M a2 a3 a5 a6 b44 b45 b47 b48 b52) (h1 : k = nI 1 → v = b52 p0) (h2 : k = nI 2 → v = w) : zPl M a2 a3 (ud a5 p0 k) (ud a6 p0 v) b44 b45 (ud b47 p0 k) (ud b48 p0 w) b52 := by
  intro p hp
  obtain ⟨g1, g2, g3, g4, g5, g6, g7⟩ := h p hp
  by_cases e : p = p0
  · subst e
    rw [ud_s, ud_s, ud_s, ud_s]
    exact ⟨g1, g2, rfl, g4, g5, h1, h2⟩
  · rw [ud_n e, ud_n e, ud_n e, ud_n e]
    exact ⟨g1, g2, g3, g4, g5, g6, g7⟩
theorem zPl.spot {M p0 : Nat} {a2 a3 a5 a6 b44 b45 b47 b48 b52 : Nat → Int32} {w : Int32} (h : zPl M a2 a3 a5 a6 b44 b45 b47 b48 b52) (h1 : b47 p0 ≠ nI 2) : zPl M a2 a3 a5 a6 b44 b45 b47 (ud b48 p0 w) b52 := by
  intro p hp
  obtain ⟨g1, g2, g3, g4, g5, g6, g7⟩ := h p hp
  by_cases e : p = p0
  · subst e
    exact ⟨g1, g2, g3, g4, g5, g6, fun q => absurd q h1⟩
  · rw [ud_n e]
    exact ⟨g1, g2, g3, g4, g5, g6, g7⟩
theorem zPl.new {M : Nat} {a2 a3 a5 a6 b44 b45 b47 b48 b52 b52' : Nat → Int32} {d c : Nat} {k v w : Int32} (h : zPl M a2 a3 a5 a6 b44 b45 b47 b48 b52) (hd : d < 6) (hc : c < 5) (hf : ∀ p, p < M → b52' p = b52 p) (h1 : k = nI 1 → v = b52' M) (h2 : k ≠ nI 2) : zPl (M + 1) (ud a2 M (nI d)) (ud a3 M (nI c)) (ud a5 M k) (ud a6 M v) (ud b44 M (nI d)) (ud b45 M (nI c)) (ud b47 M k) (ud b48 M w) b52' := by
  intro p hp
  by_cases e : p = M
  · subst e
    refine ⟨by rw [ud_s, ud_s], by rw [ud_s, ud_s], by rw [ud_s, ud_s], ⟨d, hd, ud_s⟩, ⟨c, hc, ud_s⟩, fun q => ?_, fun q => ?_⟩
    · rw [ud_s] at q; rw [ud_s]; exact h1 q
    · rw [ud_s] at q; exact absurd q h2
  · obtain ⟨g1, g2, g3, g4, g5, g6, g7⟩ := h p (by omega)
    simp only [ud_n e]
    exact ⟨g1, g2, g3, g4, g5, fun q => (hf p (by omega)).symm ▸ g6 q, g7⟩
/-! moves of zI -/
section ZI
variable {n M K W : Nat} {belt lane q st sp fs took : Nat → Int32}
theorem nI_inj {a b : Nat} (h : nI a = nI b) (ha : a < 2147483648) (hb : b < 2147483648) : a = b := (nI_eq ha hb).mp h
theorem nI_mO {a : Nat} (h : nI a = mO) (ha : a < 2147483648) : False := by
  have := w_eqm (a := a) ha
  rw [this] at h
  exact h
/-- a new plate on the belt -/
theorem zI.lay (h : zI n M K W belt lane q st sp fs took) (hM : M < 300) (hn : 0 < n) (h0 : belt 0 = mO) : zI n (M + 1) K W (ud belt 0 (nI M)) lane q (ud st M (nI 0)) (ud sp M (nI 0)) fs took := by
  obtain ⟨h1, h2, h3, h4, h5, h6⟩ := h
  refine ⟨fun i hi => ?_, fun c hc => ?_, fun i hi => ?_, h4, fun s hs => ?_, fun p hp => ?_⟩
  · by_cases e : i = 0
    · subst e; exact Or.inr ⟨M, by omega, ud_s, ud_s, ud_s⟩
    · rw [ud_n e]
      rcases h1 i hi with g | ⟨p, g1, g2, g3, g4⟩
      · exact Or.inl g
      · exact Or.inr ⟨p, by omega, g2, by rw [ud_n (by omega)]; exact g3, by rw [ud_n (by omega)]; exact g4⟩
  · rcases h2 c hc with g | ⟨p, s, g1, g2, g3, g4, g5, g6⟩
    · exact Or.inl g
    · exact Or.inr ⟨p, s, by omega, g2, g3, by rw [ud_n (by omega)]; exact g4, by rw [ud_n (by omega)]; exact g5, g6⟩
  · obtain ⟨p, s, g1, g2, g3, g4, g5, g6⟩ := h3 i hi
    exact ⟨p, s, by omega, g2, g3, by rw [ud_n (by omega)]; exact g4, by rw [ud_n (by omega)]; exact g5, g6⟩
  · rcases h5 s hs with g | ⟨p, g1, g2, g3, g4⟩
    · exact Or.inl g
    · exact Or.inr ⟨p, by omega, g2, by rw [ud_n (by omega)]; exact g3, by rw [ud_n (by omega)]; exact g4⟩
  · by_cases e : p = M
    · subst e; exact Or.inl ⟨0, hn, ud_s, ud_s, ud_s⟩
    · rw [ud_n e, ud_n e]
      rcases h6 p (by omega) with ⟨i, g1, g2, g3, g4⟩ | g | g | g | g
      · refine Or.inl ⟨i, g1, g2, g3, ?_⟩
        rw [ud_n]
        · exact g4
        · rintro rfl; rw [h0] at g4; exact nI_mO g4.symm (by omega)
      · exact Or.inr (Or.inl g)
      · exact Or.inr (Or.inr (Or.inl g))
      · exact Or.inr (Or.inr (Or.inr (Or.inl g)))
      · exact Or.inr (Or.inr (Or.inr (Or.inr g)))
/-- a new plate on a tray that waits -/
theorem zI.order (h : zI n M K W belt lane q st sp fs took) (hM : M < 300) (hn : n ≤ 12) {s0 : Nat} (hs0 : s0 < K) : zI n (M + 1) K (W + 1) belt lane (ud q W (nI M)) (ud st M (nI 1)) (ud sp M mO) (ud fs M (nI s0)) took := by
  obtain ⟨h1, h2, h3, h4, h5, h6⟩ := h
  refine ⟨fun i hi => ?_, fun c hc => ?_, fun i hi => ?_, fun i j hi hj e => ?_, fun s hs => ?_, fun p hp => ?_⟩
  · rcases h1 i hi with g | ⟨p, g1, g2, g3, g4⟩
    · exact Or.inl g
    · exact Or.inr ⟨p, by omega, g2, by rw [ud_n (by omega)]; exact g3, by rw [ud_n (by omega)]; exact g4⟩
  · rcases h2 c hc with g | ⟨p, s, g1, g2, g3, g4, g5, g6⟩
    · exact Or.inl g
    · exact Or.inr ⟨p, s, by omega, g2, g3, by rw [ud_n (by omega)]; exact g4, by rw [ud_n (by omega)]; exact g5, by rw [ud_n (by omega)]; exact g6⟩
  · by_cases e : i = W
    · subst e; exact ⟨M, s0, by omega, hs0, ud_s, ud_s, ud_s, ud_s⟩
    · obtain ⟨p, s, g1, g2, g3, g4, g5, g6⟩ := h3 i (by omega)
      exact ⟨p, s, by omega, g2, by rw [ud_n e]; exact g3, by rw [ud_n (by omega)]; exact g4, by rw [ud_n (by omega)]; exact g5, by rw [ud_n (by omega)]; exact g6⟩
  · have key : ∀ i, i < W → q i = nI M → False := fun i hi e => by
      obtain ⟨p, s, g1, g2, g3, g4, g5, g6⟩ := h3 i hi
      have := nI_inj (g3.symm.trans e) (by omega) (by omega)
      omega
    by_cases e1 : i = W
    · by_cases e2 : j = W
      · omega
      · rw [e1, ud_s, ud_n e2] at e
        exact (key j (by omega) e.symm).elim
    · by_cases e2 : j = W
      · rw [e2, ud_s, ud_n e1] at e
        exact (key i (by omega) e).elim
      · rw [ud_n e1, ud_n e2] at e
        exact h4 i j (by omega) (by omega) e
  · rcases h5 s hs with g | ⟨p, g1, g2, g3, g4⟩
    · exact Or.inl g
    · exact Or.inr ⟨p, by omega, g2, by rw [ud_n (by omega)]; exact g3, by rw [ud_n (by omega)]; exact g4⟩
  · by_cases e : p = M
    · subst e; exact Or.inr (Or.inl ⟨ud_s, ud_s⟩)
    · rw [ud_n e, ud_n e]
      exact h6 p (by omega)
/-- one more seat -/
theorem zI.seat (h : zI n M K W belt lane q st sp fs took) : zI n M (K + 1) W belt lane q st sp fs (ud took K mO) := by
  obtain ⟨h1, h2, h3, h4, h5, h6⟩ := h
  refine ⟨h1, fun c hc => ?_, fun i hi => ?_, h4, fun s hs => ?_, fun p hp => ?_⟩
  · rcases h2 c hc with g | ⟨p, s, g1, g2, g3⟩
    · exact Or.inl g
    · exact Or.inr ⟨p, s, g1, by omega, g3⟩
  · obtain ⟨p, s, g1, g2, g3⟩ := h3 i hi
    exact ⟨p, s, g1, by omega, g3⟩
  · by_cases e : s = K
    · subst e; exact Or.inl ud_s
    · rw [ud_n e]; exact h5 s (by omega)
  · rcases h6 p hp with g | g | g | ⟨s, g1, g2⟩ | g
    · exact Or.inl g
    · exact Or.inr (Or.inl g)
    · exact Or.inr (Or.inr (Or.inl g))
    · exact Or.inr (Or.inr (Or.inr (Or.inl ⟨s, by omega, g2⟩)))
    · exact Or.inr (Or.inr (Or.inr (Or.inr g)))
/-- a guest has taken nothing -/
theorem zI.untook (h : zI n M K W belt lane q st sp fs took) (s0 : Nat) : zI n M K W belt lane q st sp fs (ud took s0 mO) := by
  obtain ⟨h1, h2, h3, h4, h5, h6⟩ := h
  refine ⟨h1, h2, h3, h4, fun s hs => ?_, h6⟩
  by_cases e : s = s0
  · subst e; exact Or.inl ud_s
  · rw [ud_n e]; exact h5 s hs
/-- plate p0 leaves the belt at i0 and is eaten at s0 (k = 2), or gone (k = 3 .. 5) -/
theorem zI.off (h : zI n M K W belt lane q st sp fs took) (hM : M ≤ 300) (hn : n ≤ 12) {i0 p0 k : Nat} {w : Int32} (hi : i0 < n) (hp : p0 < M) (hb : belt i0 = nI p0) (hk : (∃ s, s < K ∧ k = 2 ∧ w = nI s) ∨ (3 ≤ k ∧ k ≤ 5 ∧ w = mO)) : zI n M K W (ud belt i0 mO) lane q (ud st p0 (nI k)) (ud sp p0 w) fs took := by
  obtain ⟨h1, h2, h3, h4, h5, h6⟩ := h
  have hl : st p0 = nI 0 ∧ sp p0 = nI i0 := by
    rcases h1 i0 hi with g | ⟨p, g1, g2, g3, g4⟩
    · rw [hb] at g; exact (nI_mO g (by omega)).elim
    · have := nI_inj (hb.symm.trans g2) (by omega) (by omega)
      subst this; exact ⟨g3, g4⟩
  refine ⟨fun i hi' => ?_, fun c hc => ?_, fun i hi => ?_, h4, fun s hs => ?_, fun p hp' => ?_⟩
  · by_cases e : i = i0
    · subst e; exact Or.inl ud_s
    · rw [ud_n e]
      rcases h1 i hi' with g | ⟨p, g1, g2, g3, g4⟩
      · exact Or.inl g
      · have hne : p ≠ p0 := by
          rintro rfl
          exact e (nI_inj (g4.symm.trans hl.2) (by omega) (by omega))
        exact Or.inr ⟨p, g1, g2, by rw [ud_n hne]; exact g3, by rw [ud_n hne]; exact g4⟩
  · rcases h2 c hc with g | ⟨p, s, g1, g2, g3, g4, g5, g6⟩
    · exact Or.inl g
    · have hne : p ≠ p0 := by
        rintro rfl
        have := nI_inj (g4.symm.trans hl.1) (by omega) (by omega)
        omega
      exact Or.inr ⟨p, s, g1, g2, g3, by rw [ud_n hne]; exact g4, by rw [ud_n hne]; exact g5, g6⟩
  · obtain ⟨p, s, g1, g2, g3, g4, g5, g6⟩ := h3 i hi
    have hne : p ≠ p0 := by
      rintro rfl
      have := nI_inj (g4.symm.trans hl.1) (by omega) (by omega)
      omega
    exact ⟨p, s, g1, g2, g3, by rw [ud_n hne]; exact g4, by rw [ud_n hne]; exact g5, g6⟩
  · rcases h5 s hs with g | ⟨p, g1, g2, g3, g4⟩
    · exact Or.inl g
    · have hne : p ≠ p0 := by
        rintro rfl
        have := nI_inj (g3.symm.trans hl.1) (by omega) (by omega)
        omega
      exact Or.inr ⟨p, g1, g2, by rw [ud_n hne]; exact g3, by rw [ud_n hne]; exact g4⟩
  · by_cases e : p = p0
    · subst e
      rw [ud_s, ud_s]
      rcases hk with ⟨s, a, b, c⟩ | ⟨a, b, c⟩
      · subst b; exact Or.inr (Or.inr (Or.inr (Or.inl ⟨s, a, rfl, c⟩)))
      · exact Or.inr (Or.inr (Or.inr (Or.inr ⟨k, a, b, rfl, c⟩)))
    · rw [ud_n e, ud_n e]
      rcases h6 p hp' with ⟨i, g1, g2, g3, g4⟩ | g | g | g | g
      · refine Or.inl ⟨i, g1, g2, g3, ?_⟩
        rw [ud_n]
        · exact g4
        · rintro rfl
          exact e (nI_inj (g4.symm.trans hb) (by omega) (by omega))
      · exact Or.inr (Or.inl g)
      · exact Or.inr (Or.inr (Or.inl g))
      · exact Or.inr (Or.inr (Or.inr (Or.inl g)))
      · exact Or.inr (Or.inr (Or.inr (Or.inr g)))
/-- plate p0 leaves the lane's cell c0 -/
theorem zI.offL (h : zI n M K W belt lane q st sp fs took) (hM : M ≤ 300) (hn : n ≤ 12) {c0 p0 k : Nat} {w : Int32} (hi : c0 < n) (hp : p0 < M) (hb : lane c0 = nI p0) (hk : (∃ s, s < K ∧ k = 2 ∧ w = nI s) ∨ (3 ≤ k ∧ k ≤ 5 ∧ w = mO)) : zI n M K W belt (ud lane c0 mO) q (ud st p0 (nI k)) (ud sp p0 w) fs took := by
  obtain ⟨h1, h2, h3, h4, h5, h6⟩ := h
  have hl : st p0 = nI 1 ∧ sp p0 = nI c0 := by
    rcases h2 c0 hi with g | ⟨p, s, g1, g2, g3, g4, g5, g6⟩
    · rw [hb] at g; exact (nI_mO g (by omega)).elim
    · have := nI_inj (hb.symm.trans g3) (by omega) (by omega)
      subst this; exact ⟨g4, g5⟩
  refine ⟨fun i hi' => ?_, fun c hc => ?_, fun i hi => ?_, h4, fun s hs => ?_, fun p hp' => ?_⟩
  · rcases h1 i hi' with g | ⟨p, g1, g2, g3, g4⟩
    · exact Or.inl g
    · have hne : p ≠ p0 := by
        rintro rfl
        have := nI_inj (g3.symm.trans hl.1) (by omega) (by omega)
        omega
      exact Or.inr ⟨p, g1, g2, by rw [ud_n hne]; exact g3, by rw [ud_n hne]; exact g4⟩
  · by_cases e : c = c0
    · subst e; exact Or.inl ud_s
    · rw [ud_n e]
      rcases h2 c hc with g | ⟨p, s, g1, g2, g3, g4, g5, g6⟩
      · exact Or.inl g
      · have hne : p ≠ p0 := by
          rintro rfl
          exact e (nI_inj (g5.symm.trans hl.2) (by omega) (by omega))
        exact Or.inr ⟨p, s, g1, g2, g3, by rw [ud_n hne]; exact g4, by rw [ud_n hne]; exact g5, g6⟩
  · obtain ⟨p, s, g1, g2, g3, g4, g5, g6⟩ := h3 i hi
    have hne : p ≠ p0 := by
      rintro rfl
      exact nI_mO (hl.2.symm.trans g5) (by omega)
    exact ⟨p, s, g1, g2, g3, by rw [ud_n hne]; exact g4, by rw [ud_n hne]; exact g5, g6⟩
  · rcases h5 s hs with g | ⟨p, g1, g2, g3, g4⟩
    · exact Or.inl g
    · have hne : p ≠ p0 := by
        rintro rfl
        have := nI_inj (g3.symm.trans hl.1) (by omega) (by omega)
        omega
      exact Or.inr ⟨p, g1, g2, by rw [ud_n hne]; exact g3, by rw [ud_n hne]; exact g4⟩
  · by_cases e : p = p0
    · subst e
      rw [ud_s, ud_s]
      rcases hk with ⟨s, a, b, c⟩ | ⟨a, b, c⟩
      · subst b; exact Or.inr (Or.inr (Or.inr (Or.inl ⟨s, a, rfl, c⟩)))
      · exact Or.inr (Or.inr (Or.inr (Or.inr ⟨k, a, b, rfl, c⟩)))
    · rw [ud_n e, ud_n e]
      rcases h6 p hp' with g | g | ⟨c, g1, g2, g3, g4⟩ | g | g
      · exact Or.inl g
      · exact Or.inr (Or.inl g)
      · refine Or.inr (Or.inr (Or.inl ⟨c, g1, g2, g3, ?_⟩))
        rw [ud_n]
        · exact g4
        · rintro rfl
          exact e (nI_inj (g4.symm.trans hb) (by omega) (by omega))
      · exact Or.inr (Or.inr (Or.inr (Or.inl g)))
      · exact Or.inr (Or.inr (Or.inr (Or.inr g)))
/-- a tray goes one cell on -/
theorem zI.move (h : zI n M K W belt lane q st sp fs took) (hM : M ≤ 300) (hn : n ≤ 12) {c0 p0 : Nat} (hi : c0 + 1 < n) (hp : p0 < M) (hb : lane c0 = nI p0) (hf : lane (c0 + 1) = mO) : zI n M K W belt (ud (ud lane (c0 + 1) (nI p0)) c0 mO) q st (ud sp p0 (nI (c0 + 1))) fs took := by
  obtain ⟨h1, h2, h3, h4, h5, h6⟩ := h
  have hl : st p0 = nI 1 ∧ sp p0 = nI c0 ∧ ∃ s, s < K ∧ fs p0 = nI s := by
    rcases h2 c0 (by omega) with g | ⟨p, s, g1, g2, g3, g4, g5, g6⟩
    · rw [hb] at g; exact (nI_mO g (by omega)).elim
    · have := nI_inj (hb.symm.trans g3) (by omega) (by omega)
      subst this; exact ⟨g4, g5, s, g2, g6⟩
  refine ⟨fun i hi' => ?_, fun c hc => ?_, fun i hi => ?_, h4, fun s hs => ?_, fun p hp' => ?_⟩
  · rcases h1 i hi' with g | ⟨p, g1, g2, g3, g4⟩
    · exact Or.inl g
    · have hne : p ≠ p0 := by
        rintro rfl
        have := nI_inj (g3.symm.trans hl.1) (by omega) (by omega)
        omega
      exact Or.inr ⟨p, g1, g2, g3, by rw [ud_n hne]; exact g4⟩
  · by_cases e : c = c0
    · subst e; exact Or.inl ud_s
    · rw [ud_n e]
      by_cases e1 : c = c0 + 1
      · subst e1
        obtain ⟨s, hs1, hs2⟩ := hl.2.2
        exact Or.inr ⟨p0, s, hp, hs1, ud_s, hl.1, ud_s, hs2⟩
      · rw [ud_n e1]
        rcases h2 c hc with g | ⟨p, s, g1, g2, g3, g4, g5, g6⟩
        · exact Or.inl g
        · have hne : p ≠ p0 := by
            rintro rfl
            exact e (nI_inj (g5.symm.trans hl.2.1) (by omega) (by omega))
          exact Or.inr ⟨p, s, g1, g2, g3, g4, by rw [ud_n hne]; exact g5, g6⟩
  · obtain ⟨p, s, g1, g2, g3, g4, g5, g6⟩ := h3 i hi
    have hne : p ≠ p0 := by
      rintro rfl
      exact nI_mO (hl.2.1.symm.trans g5) (by omega)
    exact ⟨p, s, g1, g2, g3, g4, by rw [ud_n hne]; exact g5, g6⟩
  · rcases h5 s hs with g | ⟨p, g1, g2, g3, g4⟩
    · exact Or.inl g
    · have hne : p ≠ p0 := by
        rintro rfl
        have := nI_inj (g3.symm.trans hl.1) (by omega) (by omega)
        omega
      exact Or.inr ⟨p, g1, g2, g3, by rw [ud_n hne]; exact g4⟩
  · by_cases e : p = p0
    · subst e
      rw [ud_s]
      exact Or.inr (Or.inr (Or.inl ⟨c0 + 1, hi, hl.1, rfl, by rw [ud_n (by omega), ud_s]⟩))
    · rw [ud_n e]
      rcases h6 p hp' with g | g | ⟨c, g1, g2, g3, g4⟩ | g | g
      · exact Or.inl g
      · exact Or.inr (Or.inl g)
      · refine Or.inr (Or.inr (Or.inl ⟨c, g1, g2, g3, ?_⟩))
        rw [ud_n, ud_n]
        · exact g4
        · rintro rfl
          rw [hf] at g4; exact nI_mO g4.symm (by omega)
        · rintro rfl
          exact e (nI_inj (g4.symm.trans hb) (by omega) (by omega))
      · exact Or.inr (Or.inr (Or.inr (Or.inl g)))
      · exact Or.inr (Or.inr (Or.inr (Or.inr g)))
/-- the tray that waits longest comes to cell 0 -/
theorem zI.letIn (h : zI n M K (W + 1) belt lane q st sp fs took) (hM : M ≤ 300) (hn : n ≤ 12) (h0n : 0 < n) {p0 : Nat} {q' : Nat → Int32} (hp : p0 < M) (hq : q 0 = nI p0) (hf : lane 0 = mO) (hq' : ∀ i, i < W → q' i = q (i + 1)) : zI n M K W belt (ud lane 0 (nI p0)) q' st (ud sp p0 (nI 0)) fs took := by
  obtain ⟨h1, h2, h3, h4, h5, h6⟩ := h
  have hl : st p0 = nI 1 ∧ sp p0 = mO ∧ ∃ s, s < K ∧ fs p0 = nI s := by
    obtain ⟨p, s, g1, g2, g3, g4, g5, g6⟩ := h3 0 (by omega)
    have := nI_inj (hq.symm.trans g3) (by omega) (by omega)
    subst this; exact ⟨g4, g5, s, g2, g6⟩
  refine ⟨fun i hi' => ?_, fun c hc => ?_, fun i hi => ?_, fun i j hi hj e => ?_, fun s hs => ?_, fun p hp' => ?_⟩
  · rcases h1 i hi' with g | ⟨p, g1, g2, g3, g4⟩
    · exact Or.inl g
    · have hne : p ≠ p0 := by
        rintro rfl
        have := nI_inj (g3.symm.trans hl.1) (by omega) (by omega)
        omega
      exact Or.inr ⟨p, g1, g2, g3, by rw [ud_n hne]; exact g4⟩
  · by_cases e : c = 0
    · subst e
      obtain ⟨s, hs1, hs2⟩ := hl.2.2
      exact Or.inr ⟨p0, s, hp, hs1, ud_s, hl.1, ud_s, hs2⟩
    · rw [ud_n e]
      rcases h2 c hc with g | ⟨p, s, g1, g2, g3, g4, g5, g6⟩
      · exact Or.inl g
      · have hne : p ≠ p0 := by
          rintro rfl
          exact nI_mO (g5.symm.trans hl.2.1) (by omega)
        exact Or.inr ⟨p, s, g1, g2, g3, g4, by rw [ud_n hne]; exact g5, g6⟩
  · obtain ⟨p, s, g1, g2, g3, g4, g5, g6⟩ := h3 (i + 1) (by omega)
    have hne : p ≠ p0 := by
      rintro rfl
      have := h4 (i + 1) 0 (by omega) (by omega) (g3.trans hq.symm)
      omega
    exact ⟨p, s, g1, g2, by rw [hq' i hi]; exact g3, g4, by rw [ud_n hne]; exact g5, g6⟩
  · rw [hq' i hi, hq' j hj] at e
    have := h4 (i + 1) (j + 1) (by omega) (by omega) e
    omega
  · rcases h5 s hs with g | ⟨p, g1, g2, g3, g4⟩
    · exact Or.inl g
    · have hne : p ≠ p0 := by
        rintro rfl
        have := nI_inj (g3.symm.trans hl.1) (by omega) (by omega)
        omega
      exact Or.inr ⟨p, g1, g2, g3, by rw [ud_n hne]; exact g4⟩
  · by_cases e : p = p0
    · subst e
      rw [ud_s]
      exact Or.inr (Or.inr (Or.inl ⟨0, h0n, hl.1, rfl, ud_s⟩))
    · rw [ud_n e]
      rcases h6 p hp' with g | g | ⟨c, g1, g2, g3, g4⟩ | g | g
      · exact Or.inl g
      · exact Or.inr (Or.inl g)
      · refine Or.inr (Or.inr (Or.inl ⟨c, g1, g2, g3, ?_⟩))
        rw [ud_n]
        · exact g4
        · rintro rfl
          rw [hf] at g4; exact nI_mO g4.symm (by omega)
      · exact Or.inr (Or.inr (Or.inr (Or.inl g)))
      · exact Or.inr (Or.inr (Or.inr (Or.inr g)))
/-- the guest of s0 remembers the plate p0 that is on the bill -/
theorem zI.takes (h : zI n M K W belt lane q st sp fs took) {s0 p0 : Nat} (hp : p0 < M) (h1 : st p0 = nI 2) (h2 : sp p0 = nI s0) : zI n M K W belt lane q st sp fs (ud took s0 (nI p0)) := by
  obtain ⟨h1', h2', h3, h4, h5, h6⟩ := h
  refine ⟨h1', h2', h3, h4, fun s hs => ?_, h6⟩
  by_cases e : s = s0
  · subst e; exact Or.inr ⟨p0, hp, ud_s, h1, h2⟩
  · rw [ud_n e]; exact h5 s hs
/-- a plate is put back on the belt at i0 -/
theorem zI.back (h : zI n M K W belt lane q st sp fs took) (hM : M ≤ 300) (hn : n ≤ 12) (hK : K ≤ 8) {s0 p0 i0 : Nat} (hs0 : s0 < K) (hi0 : i0 < n) (hp : p0 < M) (ht : took s0 = nI p0) (hf : belt i0 = mO) : zI n M K W (ud belt i0 (nI p0)) lane q (ud st p0 (nI 0)) (ud sp p0 (nI i0)) fs (ud took s0 mO) := by
  obtain ⟨h1, h2, h3, h4, h5, h6⟩ := h
  have hl : st p0 = nI 2 ∧ sp p0 = nI s0 := by
    rcases h5 s0 hs0 with g | ⟨p, g1, g2, g3, g4⟩
    · rw [ht] at g; exact (nI_mO g (by omega)).elim
    · have := nI_inj (ht.symm.trans g2) (by omega) (by omega)
      subst this; exact ⟨g3, g4⟩
  refine ⟨fun i hi' => ?_, fun c hc => ?_, fun i hi => ?_, h4, fun s hs => ?_, fun p hp' => ?_⟩
  · by_cases e : i = i0
    · subst e; exact Or.inr ⟨p0, hp, ud_s, ud_s, ud_s⟩
    · rw [ud_n e]
      rcases h1 i hi' with g | ⟨p, g1, g2, g3, g4⟩
      · exact Or.inl g
      · have hne : p ≠ p0 := by
          rintro rfl
          have := nI_inj (g3.symm.trans hl.1) (by omega) (by omega)
          omega
        exact Or.inr ⟨p, g1, g2, by rw [ud_n hne]; exact g3, by rw [ud_n hne]; exact g4⟩
  · rcases h2 c hc with g | ⟨p, s, g1, g2, g3, g4, g5, g6⟩
    · exact Or.inl g
    · have hne : p ≠ p0 := by
        rintro rfl
        have := nI_inj (g4.symm.trans hl.1) (by omega) (by omega)
        omega
      exact Or.inr ⟨p, s, g1, g2, g3, by rw [ud_n hne]; exact g4, by rw [ud_n hne]; exact g5, g6⟩
  · obtain ⟨p, s, g1, g2, g3, g4, g5, g6⟩ := h3 i hi
    have hne : p ≠ p0 := by
      rintro rfl
      have := nI_inj (g4.symm.trans hl.1) (by omega) (by omega)
      omega
    exact ⟨p, s, g1, g2, g3, by rw [ud_n hne]; exact g4, by rw [ud_n hne]; exact g5, g6⟩
  · by_cases e : s = s0
    · subst e; exact Or.inl ud_s
    · rw [ud_n e]
      rcases h5 s hs with g | ⟨p, g1, g2, g3, g4⟩
      · exact Or.inl g
      · have hne : p ≠ p0 := by
          rintro rfl
          exact e (nI_inj (g4.symm.trans hl.2) (by omega) (by omega))
        exact Or.inr ⟨p, g1, g2, by rw [ud_n hne]; exact g3, by rw [ud_n hne]; exact g4⟩
  · by_cases e : p = p0
    · subst e
      exact Or.inl ⟨i0, hi0, ud_s, ud_s, ud_s⟩
    · rw [ud_n e, ud_n e]
      rcases h6 p hp' with ⟨i, g1, g2, g3, g4⟩ | g | g | g | g
      · refine Or.inl ⟨i, g1, g2, g3, ?_⟩
        rw [ud_n]
        · exact g4
        · rintro rfl
          rw [hf] at g4; exact nI_mO g4.symm (by omega)
      · exact Or.inr (Or.inl g)
      · exact Or.inr (Or.inr (Or.inl g))
      · exact Or.inr (Or.inr (Or.inr (Or.inl g)))
      · exact Or.inr (Or.inr (Or.inr (Or.inr g)))
/-- the bill of s0 is paid (k = 3) or goes to t0 -/
theorem zI.leave (h : zI n M K W belt lane q st sp fs took) {s0 : Nat} (hK : K ≤ 8) (hM : M ≤ 300) (hn : n ≤ 12) (hs0 : s0 < K) {st' sp' : Nat → Int32} (h1 : ∀ p, p < M → ¬ (st p = nI 2 ∧ sp p = nI s0) → st' p = st p ∧ sp' p = sp p) (h2 : ∀ p, p < M → st p = nI 2 → sp p = nI s0 → (st' p = nI 3 ∧ sp' p = mO) ∨ ∃ t, t < K ∧ st' p = nI 2 ∧ sp' p = nI t) : zI n M K W belt lane q st' sp' fs (ud took s0 mO) := by
  obtain ⟨g1, g2, g3, g4, g5, g6⟩ := h
  have key : ∀ p k, p < M → k < 2 → st p = nI k → st' p = st p ∧ sp' p = sp p := fun p k hp hk e => h1 p hp (fun q => by
    have := nI_inj (e.symm.trans q.1) (by omega) (by omega)
    omega)
  refine ⟨fun i hi' => ?_, fun c hc => ?_, fun i hi => ?_, g4, fun s hs => ?_, fun p hp => ?_⟩
  · rcases g1 i hi' with g | ⟨p, a, b, c, d⟩
    · exact Or.inl g
    · obtain ⟨k1, k2⟩ := key p 0 a (by omega) c
      exact Or.inr ⟨p, a, b, k1.trans c, k2.trans d⟩
  · rcases g2 c hc with g | ⟨p, s, a, b, c', d, e, f⟩
    · exact Or.inl g
    · obtain ⟨k1, k2⟩ := key p 1 a (by omega) d
      exact Or.inr ⟨p, s, a, b, c', k1.trans d, k2.trans e, f⟩
  · obtain ⟨p, s, a, b, c', d, e, f⟩ := g3 i hi
    obtain ⟨k1, k2⟩ := key p 1 a (by omega) d
    exact ⟨p, s, a, b, c', k1.trans d, k2.trans e, f⟩
  · by_cases e : s = s0
    · subst e; exact Or.inl ud_s
    · rw [ud_n e]
      rcases g5 s hs with g | ⟨p, a, b, c, d⟩
      · exact Or.inl g
      · obtain ⟨k1, k2⟩ := h1 p a (fun q => e (nI_inj (d.symm.trans q.2) (by omega) (by omega)))
        exact Or.inr ⟨p, a, b, k1.trans c, k2.trans d⟩
  · by_cases e : st p = nI 2 ∧ sp p = nI s0
    · rcases h2 p hp e.1 e.2 with ⟨a, b⟩ | ⟨t, a, b, c⟩
      · exact Or.inr (Or.inr (Or.inr (Or.inr ⟨3, by omega, by omega, a, b⟩)))
      · exact Or.inr (Or.inr (Or.inr (Or.inl ⟨t, a, b, c⟩)))
    · obtain ⟨k1, k2⟩ := h1 p hp e
      rw [k1, k2]
      exact g6 p hp
/-- the belt goes one place on -/
theorem zI.turn (h : zI n M K W belt lane q st sp fs took) (hM : M ≤ 300) (hn : n ≤ 12) (h0 : 0 < n) {belt' sp' : Nat → Int32} (hb0 : belt' 0 = belt (n - 1)) (hb : ∀ i, i + 1 < n → belt' (i + 1) = belt i) (h1 : ∀ p, p < M → st p ≠ nI 0 → sp' p = sp p) (h2 : ∀ p i, p < M → i < n → belt' i = nI p → sp' p = nI i) : zI n M K W belt' lane q st sp' fs took := by
  obtain ⟨g1, g2, g3, g4, g5, g6⟩ := h
  have key : ∀ p k, p < M → 0 < k → k < 6 → st p = nI k → sp' p = sp p := fun p k hp hk hk6 e => h1 p hp (fun q => by
    have := nI_inj (e.symm.trans q) (by omega) (by omega)
    omega)
  refine ⟨fun i hi' => ?_, fun c hc => ?_, fun i hi => ?_, g4, fun s hs => ?_, fun p hp => ?_⟩
  · have : ∃ j, j < n ∧ belt' i = belt j := by
      rcases Nat.eq_zero_or_pos i with rfl | hi0
      · exact ⟨n - 1, by omega, hb0⟩
      · refine ⟨i - 1, by omega, ?_⟩
        have := hb (i - 1) (by omega)
        rwa [show i - 1 + 1 = i by omega] at this
    obtain ⟨j, hj, e⟩ := this
    rcases g1 j hj with g | ⟨p, a, b, c, d⟩
    · exact Or.inl (e.trans g)
    · exact Or.inr ⟨p, a, e.trans b, c, h2 p i a hi' (e.trans b)⟩
  · rcases g2 c hc with g | ⟨p, s, a, b, c', d, e, f⟩
    · exact Or.inl g
    · exact Or.inr ⟨p, s, a, b, c', d, (key p 1 a (by omega) (by omega) d).trans e, f⟩
  · obtain ⟨p, s, a, b, c', d, e, f⟩ := g3 i hi
    exact ⟨p, s, a, b, c', d, (key p 1 a (by omega) (by omega) d).trans e, f⟩
  · rcases g5 s hs with g | ⟨p, a, b, c, d⟩
    · exact Or.inl g
    · exact Or.inr ⟨p, a, b, c, (key p 2 a (by omega) (by omega) c).trans d⟩
  · rcases g6 p hp with ⟨i, a, b, c, d⟩ | ⟨a, b⟩ | ⟨c, a, b, c', d⟩ | ⟨s, a, b, c⟩ | ⟨k, a, b, c, d⟩
    · by_cases e : i + 1 < n
      · have hx : belt' (i + 1) = nI p := (hb i e).trans d
        exact Or.inl ⟨i + 1, e, b, h2 p (i + 1) hp e hx, hx⟩
      · have e : i = n - 1 := by omega
        have hx : belt' 0 = nI p := by rw [hb0, ← e]; exact d
        exact Or.inl ⟨0, h0, b, h2 p 0 hp h0 hx, hx⟩
    · exact Or.inr (Or.inl ⟨a, (key p 1 hp (by omega) (by omega) a).trans b⟩)
    · exact Or.inr (Or.inr (Or.inl ⟨c, a, b, (key p 1 hp (by omega) (by omega) b).trans c', d⟩))
    · exact Or.inr (Or.inr (Or.inr (Or.inl ⟨s, a, b, (key p 2 hp (by omega) (by omega) b).trans c⟩)))
    · exact Or.inr (Or.inr (Or.inr (Or.inr ⟨k, a, b, c, (key p k hp (by omega) (by omega) c).trans d⟩)))
end ZI
