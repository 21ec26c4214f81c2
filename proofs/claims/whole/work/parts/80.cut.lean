/-! LAYER 3: texts: the tokens of a row of bytes -/
/-- the letters of the words from their last, less 96 -/
def dgs (k : Nat) : List Nat := match k with
  | 0 => [5, 11, 9, 12]
  | 1 => [5, 7, 1]
  | 2 => [4, 5, 20, 9, 1, 23]
  | 3 => [14, 5, 20, 1, 5]
  | 4 => [5, 3, 9, 18, 16]
  | 5 => [13, 15, 15, 18]
  | 6 => [5, 11, 1, 20]
  | 7 => [15, 7]
  | 8 => [18, 15]
  | 9 => [4, 14, 1]
  | _ => [20, 15, 14]
def mt (B : Nat → Nat) (s : Nat) : Nat → List Nat → Bool
  | q, [] => decide (q = s)
  | q, d :: ds => decide (s < q) && (decide (B (q - 1) = 96 + d) && mt B s (q - 1) ds)
def sp (B : Nat → Nat) (s e k : Nat) : Bool := mt B s e (dgs k)
theorem mt_iff {B : Nat → Nat} {s : Nat} : ∀ (ds : List Nat) (q : Nat), mt B s q ds = true ↔ (q = s + ds.length ∧ ∀ i, i < ds.length → B (q - 1 - i) = 96 + ds.getD i 0)
  | [], q => by
    show decide (q = s) = true ↔ _
    rw [decide_eq_true_iff]
    exact ⟨fun h => ⟨h, fun i hi => absurd hi (Nat.not_lt_zero i)⟩, fun h => h.1⟩
  | d :: ds, q => by
    have ih := mt_iff (B := B) (s := s) ds (q - 1)
    show (decide (s < q) && (decide (B (q - 1) = 96 + d) && mt B s (q - 1) ds)) = true ↔ _
    rw [Bool.and_eq_true, Bool.and_eq_true, decide_eq_true_iff, decide_eq_true_iff, ih, List.length_cons]
    constructor
    · rintro ⟨h1, h2, h3, h4⟩
      refine ⟨by omega, fun i hi => ?_⟩
      cases i with
      | zero => exact h2
      | succ i =>
        have := h4 i (by omega)
        rw [show q - 1 - (i + 1) = q - 1 - 1 - i by omega]; exact this
    · rintro ⟨h1, h2⟩
      refine ⟨by omega, h2 0 (by omega), by omega, fun i hi => ?_⟩
      have := h2 (i + 1) (by omega)
      rw [show q - 1 - (i + 1) = q - 1 - 1 - i by omega] at this; exact this
theorem dgs_ex : ∀ k, k < 11 → ∀ i, i < (dgs k).length → (exV (5 + k)).getD i 0 = nI (96 + (dgs k).getD ((dgs k).length - 1 - i) 0) := by decide +kernel
theorem dgs_len : ∀ k, k < 11 → (exV (5 + k)).length = (dgs k).length ∧ 0 < (dgs k).length ∧ (dgs k).length ≤ 6 ∧ ∀ i, i < 7 → (dgs k).getD i 0 < 32 := by decide +kernel
/-- of a run of letters: the token -/
def wdT (f : Nat → Bool) : ZT := if f 0 = true then (2, 0) else if f 1 = true then (2, 1) else if f 2 = true then (2, 2) else if f 3 = true then (2, 3) else if f 4 = true then (2, 4) else if f 5 = true then (2, 5) else if f 6 = true then (3, 0) else if f 7 = true then (3, 1) else if f 8 = true then (3, 2) else if f 9 = true then (3, 3) else if f 10 = true then (3, 4) else (5, 0)
def nu (B : Nat → Nat) (s : Nat) : Nat → Nat
  | 0 => 0
  | j + 1 => nu B s j * 10 + (B (s + j) - 48)
def isSg (b : Nat) : Bool := decide (b = 40) || (decide (b = 41) || (decide (b = 42) || (decide (b = 43) || (decide (b = 45) || (decide (b = 59) || (decide (b = 60) || decide (b = 61)))))))
/-- the token that begins at i, and where it ends -/
def tkA (B : Nat → Nat) (Z i : Nat) : ZT × Nat :=
  if isLt (B i) = true then (wdT (sp B i (nd isLt B (Z - i) i)), nd isLt B (Z - i) i)
  else if isDg (B i) = true then ((if nd isDg B (Z - i) i - i ≤ 4 then 1 else 5, nu B i (nd isDg B (Z - i) i - i)), nd isDg B (Z - i) i)
  else ((if isSg (B i) = true then (4, B i) else (5, 0)), i + 1)
def lxF (B : Nat → Nat) (Z : Nat) : Nat → Nat → List (ZT × Nat)
  | 0, _ => []
  | n + 1, i => if Z ≤ i then [] else if B i = 32 ∨ B i = 10 then lxF B Z n (i + 1) else ((tkA B Z i).1, i) :: lxF B Z n (tkA B Z i).2
def LX (B : Nat → Nat) (Z i : Nat) : List (ZT × Nat) := lxF B Z (Z - i) i
theorem nd_gt {P : Nat → Bool} {B : Nat → Nat} {Z i : Nat} (hi : i < Z) (h : P (B i) = true) : i < nd P B (Z - i) i ∧ nd P B (Z - i) i ≤ Z := by
  obtain ⟨m, hm⟩ : ∃ m, Z - i = m + 1 := ⟨Z - i - 1, by omega⟩
  have h1 := nd_rng (P := P) (B := B) (Z - i) i
  have h2 := nd_rng (P := P) (B := B) m (i + 1)
  have e : nd P B (Z - i) i = nd P B m (i + 1) := by rw [hm]; exact if_pos h
  omega
theorem nd_all {P : Nat → Bool} {B : Nat → Nat} : ∀ n i j, i ≤ j → j < nd P B n i → P (B j) = true
  | 0, i, j, h1, h2 => by
    have : j < i := h2
    omega
  | n + 1, i, j, h1, h2 => by
    have h2' : j < (if P (B i) = true then nd P B n (i + 1) else i) := h2
    by_cases h : P (B i) = true
    · rw [if_pos h] at h2'
      by_cases e : j = i
      · rw [e]; exact h
      · exact nd_all n (i + 1) j (by omega) h2'
    · rw [if_neg h] at h2'; omega
theorem tk_rng {B : Nat → Nat} {Z i : Nat} (hi : i < Z) : i < (tkA B Z i).2 ∧ (tkA B Z i).2 ≤ Z := by
  unfold tkA
  by_cases h1 : isLt (B i) = true
  · rw [if_pos h1]; exact nd_gt hi h1
  rw [if_neg h1]
  by_cases h2 : isDg (B i) = true
  · rw [if_pos h2]; exact nd_gt hi h2
  rw [if_neg h2]
  exact ⟨Nat.lt_succ_self i, hi⟩
theorem lxF_eq {B : Nat → Nat} {Z : Nat} : ∀ n m i, Z - i ≤ n → Z - i ≤ m → lxF B Z n i = lxF B Z m i
  | 0, 0, i, _, _ => rfl
  | 0, m + 1, i, h1, _ => by
    show [] = (if Z ≤ i then [] else _)
    rw [if_pos (by omega)]
  | n + 1, 0, i, _, h2 => by
    show (if Z ≤ i then [] else _) = []
    rw [if_pos (by omega)]
  | n + 1, m + 1, i, h1, h2 => by
    show (if Z ≤ i then [] else if B i = 32 ∨ B i = 10 then lxF B Z n (i + 1) else ((tkA B Z i).1, i) :: lxF B Z n (tkA B Z i).2) = (if Z ≤ i then [] else if B i = 32 ∨ B i = 10 then lxF B Z m (i + 1) else ((tkA B Z i).1, i) :: lxF B Z m (tkA B Z i).2)
    by_cases e : Z ≤ i
    · rw [if_pos e, if_pos e]
    rw [if_neg e, if_neg e]
    have ht := tk_rng (B := B) (Nat.lt_of_not_le e)
    rw [lxF_eq n m (i + 1) (by omega) (by omega), lxF_eq n m (tkA B Z i).2 (by omega) (by omega)]
theorem LX_end {B : Nat → Nat} {Z i : Nat} (h : Z ≤ i) : LX B Z i = [] := by
  unfold LX
  rw [show Z - i = 0 by omega]; rfl
theorem LX_sk {B : Nat → Nat} {Z i : Nat} (h : i < Z) (hb : B i = 32 ∨ B i = 10) : LX B Z i = LX B Z (i + 1) := by
  obtain ⟨m, hm⟩ : ∃ m, Z - i = m + 1 := ⟨Z - i - 1, by omega⟩
  have e : LX B Z i = (if Z ≤ i then [] else if B i = 32 ∨ B i = 10 then lxF B Z m (i + 1) else ((tkA B Z i).1, i) :: lxF B Z m (tkA B Z i).2) := by unfold LX; rw [hm]; rfl
  rw [e, if_neg (by omega), if_pos hb]
  exact lxF_eq _ _ _ (by omega) (by omega)
theorem LX_tk {B : Nat → Nat} {Z i : Nat} (h : i < Z) (hb : ¬ (B i = 32 ∨ B i = 10)) : LX B Z i = ((tkA B Z i).1, i) :: LX B Z (tkA B Z i).2 := by
  obtain ⟨m, hm⟩ : ∃ m, Z - i = m + 1 := ⟨Z - i - 1, by omega⟩
  have e : LX B Z i = (if Z ≤ i then [] else if B i = 32 ∨ B i = 10 then lxF B Z m (i + 1) else ((tkA B Z i).1, i) :: lxF B Z m (tkA B Z i).2) := by unfold LX; rw [hm]; rfl
  have ht := tk_rng (B := B) h
  rw [e, if_neg (by omega), if_neg hb]
  unfold LX
  rw [lxF_eq m (Z - (tkA B Z i).2) _ (by omega) (by omega)]
theorem wdT_ok (f : Nat → Bool) : zTkOk (wdT f) := by
  unfold wdT
  repeat' split
  all_goals (unfold zTkOk; decide)
theorem nu_lt {B : Nat → Nat} {s : Nat} : ∀ j, (∀ i, i < j → isDg (B (s + i)) = true) → nu B s j < 10 ^ j
  | 0, _ => Nat.one_pos
  | j + 1, h => by
    have ih := nu_lt (B := B) (s := s) j (fun i hi => h i (by omega))
    have hd := h j (by omega)
    unfold isDg at hd
    rw [Bool.and_eq_true, decide_eq_true_iff, decide_eq_true_iff] at hd
    show nu B s j * 10 + (B (s + j) - 48) < 10 ^ (j + 1)
    rw [Nat.pow_succ]
    omega
theorem isSg_iff (b : Nat) : isSg b = true ↔ (b = 40 ∨ b = 41 ∨ b = 42 ∨ b = 43 ∨ b = 45 ∨ b = 59 ∨ b = 60 ∨ b = 61) := by
  unfold isSg
  simp only [Bool.or_eq_true, decide_eq_true_iff]
theorem tk_ok {B : Nat → Nat} {Z i : Nat} (hi : i < Z) : zTkOk (tkA B Z i).1 := by
  unfold tkA
  by_cases h1 : isLt (B i) = true
  · rw [if_pos h1]; exact wdT_ok _
  rw [if_neg h1]
  by_cases h2 : isDg (B i) = true
  · rw [if_pos h2]
    by_cases h3 : nd isDg B (Z - i) i - i ≤ 4
    · rw [if_pos h3]
      have hl := nu_lt (B := B) (s := i) (nd isDg B (Z - i) i - i) (fun j hj => nd_all (Z - i) i (i + j) (Nat.le_add_right i j) (by omega))
      have hp : 10 ^ (nd isDg B (Z - i) i - i) ≤ 10 ^ 4 := Nat.pow_le_pow_right (by omega) h3
      exact Or.inl ⟨rfl, Nat.lt_of_lt_of_le hl hp⟩
    · rw [if_neg h3]
      exact Or.inr (Or.inr (Or.inr (Or.inr rfl)))
  rw [if_neg h2]
  by_cases h3 : isSg (B i) = true
  · rw [if_pos h3]
    have := (isSg_iff (B i)).mp h3
    refine Or.inr (Or.inr (Or.inr (Or.inl ⟨rfl, ?_⟩)))
    show B i = 40 ∨ B i = 41 ∨ B i = 42 ∨ B i = 43 ∨ B i = 45 ∨ B i = 59 ∨ B i = 60 ∨ B i = 61
    omega
  · rw [if_neg h3]
    exact Or.inr (Or.inr (Or.inr (Or.inr rfl)))
section CUT
variable {N : Nat} {S : SH} {x : DY} {B : Nat → Nat} {Z : Nat}
theorem sx_wl (hX : SX S) {k : Nat} (hk : k < 11) : S.2.2.1 (5 + k) = (dgs k).length := by
  obtain rfl | rfl | rfl | rfl | rfl | rfl | rfl | rfl | rfl | rfl | rfl : k = 0 ∨ k = 1 ∨ k = 2 ∨ k = 3 ∨ k = 4 ∨ k = 5 ∨ k = 6 ∨ k = 7 ∨ k = 8 ∨ k = 9 ∨ k = 10 := by omega
  · exact sx_l5 hX
  · exact sx_l6 hX
  · exact sx_l7 hX
  · exact sx_l8 hX
  · exact sx_l9 hX
  · exact sx_l10 hX
  · exact sx_l11 hX
  · exact sx_l12 hX
  · exact sx_l13 hX
  · exact sx_l14 hX
  · exact sx_l15 hX
theorem x_spells (hN : 600 ≤ N) (hX : SX S) (hE : zEX x) (hZ : Z ≤ 160) (h1 : x.1 49 1 = nI Z) (hB : ∀ i, i < Z → B i < 256 ∧ x.1 50 i = nI (B i)) {k : Nat} (hk : k < 11) {s e : Nat} (hse : s ≤ e) (he : e ≤ Z) : f_X5_spells N S 49 (5 + k) (nI s) (nI e) x = some (bI (sp B s e k)) := by
  have hl := sx_wl hX hk
  obtain ⟨d1, d2, d3, d4⟩ := dgs_len k hk
  have hd := dgs_ex k hk
  have hEk := hE (5 + k) (by omega)
  rw [d1] at hEk
  have hiff := mt_iff (B := B) (s := s) (dgs k) e
  have hsp : sp B s e k = mt B s e (dgs k) := rfl
  rw [← hsp] at hiff
  obtain ⟨L, hL⟩ : ∃ L, L = (dgs k).length := ⟨_, rfl⟩
  rw [← hL] at hl d2 d3 hd hEk hiff
  by_cases hq : e = s + L
  · subst hq
    have e1 : f_X5_spells N S 49 (5 + k) (nI s) (nI (s + L)) x = lp_X5_spells_27 N S 49 (5 + k) (nI s) (nI 0) x := by
      simp (disch := (first | omega | (simp only [sx_l42 hX, sx_l43 hX, sx_l44 hX, sx_l46 hX, sx_l50 hX, sx_l51 hX, sx_l52 hX, sx_l53 hX, sx_l54 hX, sx_l56 hX, sx_l57 hX, sx_l58 hX, sx_l60 hX, sx_l61 hX, sx_l62 hX, sx_l63 hX, sx_l64 hX, sx_l65 hX, sx_l66 hX, sx_l88 hX, sx_l89 hX, sx_l90 hX, sx_l0 hX, sx_l1 hX, sx_l2 hX, sx_l5 hX, sx_l6 hX, sx_l7 hX, sx_l8 hX, sx_l9 hX, sx_l10 hX, sx_l11 hX, sx_l12 hX, sx_l13 hX, sx_l14 hX, sx_l15 hX]; omega))) only [f_X5_spells, hl, h1, Nat.add_sub_cancel_left, sx_m0 hX, sx_m1 hX, sx_m2 hX, sx_c0 hX, sx_c1 hX, sx_c2 hX, sx_c3 hX, sx_c4 hX, sx_c5 hX, sx_c6 hX, sx_u0 hX, sx_t0 hX, sx_t2 hX, sx_t3 hX, sx_t4 hX, sx_t7 hX, sx_f0 hX, sx_f1 hX, sx_f2 hX, sx_h0 hX, sx_h1 hX, sx_h2 hX, sx_g0 hX, sx_g1 hX, sx_g2 hX, ↓eM, eL_0, eL_1, eL_2, eL_3, eL_4, eL_5, eL_6, eL_7, eL_8, eL_9, eL_10, eL_11, eL_12, eL_15, eL_16, eL_20, eL_24, eL_30, eL_31, eL_32, eL_39, eL_40, eL_41, eL_42, eL_43, eL_45, eL_47, eL_48, eL_49, eL_50, eL_57, eL_59, eL_60, eL_61, eL_90, eL_96, eL_97, eL_100, eL_122, eL_160, eL_161, eL_255, eL_300, eL_343, eL_999, eL_1000, eL_1920, eL_9999, eL_10000, eL_999999, eL_100000, eL_1000000, ↓reduceIte, ↓bl_e, bd_e, u1_f, u1_s, u2_f, u2_s, w_cl, w_ltT, w_ltF, w_leT, w_leF, w_eqT, w_eqF, w_mlt, w_ltm, w_mle, w_lem, w_eqm, w_meq, w_mltm, nI_add, w_sub, w_addm, up_s, up_n, ud_s, ud_n, ck_n, bz_0, bz_1]
    rw [e1]
    unfold lp_X5_spells_27
    refine z_itr1 (fun j (a : Int32) => a = nI j ∧ ∀ i, i < j → B (s + i) = 96 + (dgs k).getD (L - 1 - i) 0) (fun q => q = some (bI (sp B s (s + L) k))) L ?_ ?_ L 0 _ N (by omega) (by omega) ⟨rfl, fun i hi => absurd hi (Nat.not_lt_zero i)⟩
    · rintro j _ hj ⟨rfl, hp⟩
      obtain ⟨b1, b2⟩ := hB (s + j) (by omega)
      have hw := (hEk j hj).trans (hd j hj)
      have hD := d4 (L - 1 - j) (by omega)
      have hck : ∀ o : Option Int32, ck S (5 + k) (nI j) o = o := fun o => ck_n (by rw [hl]; exact hj) (by omega)
      by_cases hb : B (s + j) = 96 + (dgs k).getD (L - 1 - j) 0
      · refine Or.inl ⟨nI (j + 1), ⟨rfl, fun i hi => ?_⟩, fun back => ?_⟩
        · by_cases e : i = j
          · rw [e]; exact hb
          · exact hp i (by omega)
        · simp (disch := (first | omega | (simp only [sx_l42 hX, sx_l43 hX, sx_l44 hX, sx_l46 hX, sx_l50 hX, sx_l51 hX, sx_l52 hX, sx_l53 hX, sx_l54 hX, sx_l56 hX, sx_l57 hX, sx_l58 hX, sx_l60 hX, sx_l61 hX, sx_l62 hX, sx_l63 hX, sx_l64 hX, sx_l65 hX, sx_l66 hX, sx_l88 hX, sx_l89 hX, sx_l90 hX, sx_l0 hX, sx_l1 hX, sx_l2 hX, sx_l5 hX, sx_l6 hX, sx_l7 hX, sx_l8 hX, sx_l9 hX, sx_l10 hX, sx_l11 hX, sx_l12 hX, sx_l13 hX, sx_l14 hX, sx_l15 hX]; omega))) only [lp_X5_spells_27_b, hl, hck, sx_m0 hX, sx_m1 hX, sx_m2 hX, sx_c0 hX, sx_c1 hX, sx_c2 hX, sx_c3 hX, sx_c4 hX, sx_c5 hX, sx_c6 hX, sx_u0 hX, sx_t0 hX, sx_t2 hX, sx_t3 hX, sx_t4 hX, sx_t7 hX, sx_f0 hX, sx_f1 hX, sx_f2 hX, sx_h0 hX, sx_h1 hX, sx_h2 hX, sx_g0 hX, sx_g1 hX, sx_g2 hX, b2, hw, ↓eM, eL_0, eL_1, eL_2, eL_3, eL_4, eL_5, eL_6, eL_7, eL_8, eL_9, eL_10, eL_11, eL_12, eL_15, eL_16, eL_20, eL_24, eL_30, eL_31, eL_32, eL_39, eL_40, eL_41, eL_42, eL_43, eL_45, eL_47, eL_48, eL_49, eL_50, eL_57, eL_59, eL_60, eL_61, eL_90, eL_96, eL_97, eL_100, eL_122, eL_160, eL_161, eL_255, eL_300, eL_343, eL_999, eL_1000, eL_1920, eL_9999, eL_10000, eL_999999, eL_100000, eL_1000000, ↓reduceIte, ↓bl_e, bd_e, u1_f, u1_s, u2_f, u2_s, w_cl, w_ltT, w_ltF, w_leT, w_leF, w_eqT, w_eqF, w_mlt, w_ltm, w_mle, w_lem, w_eqm, w_meq, w_mltm, nI_add, w_sub, w_addm, up_s, up_n, ud_s, ud_n, ck_n, bz_0, bz_1]
      · refine Or.inr ⟨some (nI 0), ?_, fun back => ?_⟩
        · have : sp B s (s + L) k = false := by
            rw [Bool.eq_false_iff]
            intro h
            have := (hiff.mp h).2 (L - 1 - j) (by omega)
            rw [show s + L - 1 - (L - 1 - j) = s + j by omega] at this
            exact hb this
          rw [this]; rfl
        · simp (disch := (first | omega | (simp only [sx_l42 hX, sx_l43 hX, sx_l44 hX, sx_l46 hX, sx_l50 hX, sx_l51 hX, sx_l52 hX, sx_l53 hX, sx_l54 hX, sx_l56 hX, sx_l57 hX, sx_l58 hX, sx_l60 hX, sx_l61 hX, sx_l62 hX, sx_l63 hX, sx_l64 hX, sx_l65 hX, sx_l66 hX, sx_l88 hX, sx_l89 hX, sx_l90 hX, sx_l0 hX, sx_l1 hX, sx_l2 hX, sx_l5 hX, sx_l6 hX, sx_l7 hX, sx_l8 hX, sx_l9 hX, sx_l10 hX, sx_l11 hX, sx_l12 hX, sx_l13 hX, sx_l14 hX, sx_l15 hX]; omega))) only [lp_X5_spells_27_b, hl, hck, sx_m0 hX, sx_m1 hX, sx_m2 hX, sx_c0 hX, sx_c1 hX, sx_c2 hX, sx_c3 hX, sx_c4 hX, sx_c5 hX, sx_c6 hX, sx_u0 hX, sx_t0 hX, sx_t2 hX, sx_t3 hX, sx_t4 hX, sx_t7 hX, sx_f0 hX, sx_f1 hX, sx_f2 hX, sx_h0 hX, sx_h1 hX, sx_h2 hX, sx_g0 hX, sx_g1 hX, sx_g2 hX, b2, hw, ↓eM, eL_0, eL_1, eL_2, eL_3, eL_4, eL_5, eL_6, eL_7, eL_8, eL_9, eL_10, eL_11, eL_12, eL_15, eL_16, eL_20, eL_24, eL_30, eL_31, eL_32, eL_39, eL_40, eL_41, eL_42, eL_43, eL_45, eL_47, eL_48, eL_49, eL_50, eL_57, eL_59, eL_60, eL_61, eL_90, eL_96, eL_97, eL_100, eL_122, eL_160, eL_161, eL_255, eL_300, eL_343, eL_999, eL_1000, eL_1920, eL_9999, eL_10000, eL_999999, eL_100000, eL_1000000, ↓reduceIte, ↓bl_e, bd_e, u1_f, u1_s, u2_f, u2_s, w_cl, w_ltT, w_ltF, w_leT, w_leF, w_eqT, w_eqF, w_mlt, w_ltm, w_mle, w_lem, w_eqm, w_meq, w_mltm, nI_add, w_sub, w_addm, up_s, up_n, ud_s, ud_n, ck_n, bz_0, bz_1]
    · rintro _ ⟨rfl, hp⟩
      refine ⟨some (nI 1), ?_, fun back => ?_⟩
      · have : sp B s (s + L) k = true := hiff.mpr ⟨rfl, fun i hi => by
          have := hp (L - 1 - i) (by omega)
          rw [show L - 1 - (L - 1 - i) = i by omega] at this
          rw [show s + L - 1 - i = s + (L - 1 - i) by omega]; exact this⟩
        rw [this]; rfl
      · simp (disch := (first | omega | (simp only [sx_l42 hX, sx_l43 hX, sx_l44 hX, sx_l46 hX, sx_l50 hX, sx_l51 hX, sx_l52 hX, sx_l53 hX, sx_l54 hX, sx_l56 hX, sx_l57 hX, sx_l58 hX, sx_l60 hX, sx_l61 hX, sx_l62 hX, sx_l63 hX, sx_l64 hX, sx_l65 hX, sx_l66 hX, sx_l88 hX, sx_l89 hX, sx_l90 hX, sx_l0 hX, sx_l1 hX, sx_l2 hX, sx_l5 hX, sx_l6 hX, sx_l7 hX, sx_l8 hX, sx_l9 hX, sx_l10 hX, sx_l11 hX, sx_l12 hX, sx_l13 hX, sx_l14 hX, sx_l15 hX]; omega))) only [lp_X5_spells_27_b, hl, ↓eM, eL_0, eL_1, eL_2, eL_3, eL_4, eL_5, eL_6, eL_7, eL_8, eL_9, eL_10, eL_11, eL_12, eL_15, eL_16, eL_20, eL_24, eL_30, eL_31, eL_32, eL_39, eL_40, eL_41, eL_42, eL_43, eL_45, eL_47, eL_48, eL_49, eL_50, eL_57, eL_59, eL_60, eL_61, eL_90, eL_96, eL_97, eL_100, eL_122, eL_160, eL_161, eL_255, eL_300, eL_343, eL_999, eL_1000, eL_1920, eL_9999, eL_10000, eL_999999, eL_100000, eL_1000000, ↓reduceIte, ↓bl_e, bd_e, u1_f, u1_s, u2_f, u2_s, w_cl, w_ltT, w_ltF, w_leT, w_leF, w_eqT, w_eqF, w_mlt, w_ltm, w_mle, w_lem, w_eqm, w_meq, w_mltm, nI_add, w_sub, w_addm, up_s, up_n, ud_s, ud_n, ck_n, bz_0, bz_1]
  · have : sp B s e k = false := by
      rw [Bool.eq_false_iff]
      intro h
      exact hq (hiff.mp h).1
    rw [this]
    show _ = some (nI 0)
    simp (disch := (first | omega | (simp only [sx_l42 hX, sx_l43 hX, sx_l44 hX, sx_l46 hX, sx_l50 hX, sx_l51 hX, sx_l52 hX, sx_l53 hX, sx_l54 hX, sx_l56 hX, sx_l57 hX, sx_l58 hX, sx_l60 hX, sx_l61 hX, sx_l62 hX, sx_l63 hX, sx_l64 hX, sx_l65 hX, sx_l66 hX, sx_l88 hX, sx_l89 hX, sx_l90 hX, sx_l0 hX, sx_l1 hX, sx_l2 hX, sx_l5 hX, sx_l6 hX, sx_l7 hX, sx_l8 hX, sx_l9 hX, sx_l10 hX, sx_l11 hX, sx_l12 hX, sx_l13 hX, sx_l14 hX, sx_l15 hX]; omega))) only [f_X5_spells, hl, ↓eM, eL_0, eL_1, eL_2, eL_3, eL_4, eL_5, eL_6, eL_7, eL_8, eL_9, eL_10, eL_11, eL_12, eL_15, eL_16, eL_20, eL_24, eL_30, eL_31, eL_32, eL_39, eL_40, eL_41, eL_42, eL_43, eL_45, eL_47, eL_48, eL_49, eL_50, eL_57, eL_59, eL_60, eL_61, eL_90, eL_96, eL_97, eL_100, eL_122, eL_160, eL_161, eL_255, eL_300, eL_343, eL_999, eL_1000, eL_1920, eL_9999, eL_10000, eL_999999, eL_100000, eL_1000000, ↓reduceIte, ↓bl_e, bd_e, u1_f, u1_s, u2_f, u2_s, w_cl, w_ltT, w_ltF, w_leT, w_leF, w_eqT, w_eqF, w_mlt, w_ltm, w_mle, w_lem, w_eqm, w_meq, w_mltm, nI_add, w_sub, w_addm, up_s, up_n, ud_s, ud_n, ck_n, bz_0, bz_1]
def tkU (x : DY) (c : Nat) (v : Int32) (s : Nat) (w : Int32) : DY := U1 (U1 (U1 (U1 x 51 c v) 52 c (nI s)) 53 c w) 49 5 (nI (c + 1))
theorem x_add (hX : SX S) {c : Nat} (h5 : x.1 49 5 = nI c) (hc : c < 160) (v : Int32) (s : Nat) (w : Int32) : f_X5_addToken N S 49 v (nI s) w x = some (tkU x c v s w) := by
  simp (disch := (first | omega | (simp only [sx_l42 hX, sx_l43 hX, sx_l44 hX, sx_l46 hX, sx_l50 hX, sx_l51 hX, sx_l52 hX, sx_l53 hX, sx_l54 hX, sx_l56 hX, sx_l57 hX, sx_l58 hX, sx_l60 hX, sx_l61 hX, sx_l62 hX, sx_l63 hX, sx_l64 hX, sx_l65 hX, sx_l66 hX, sx_l88 hX, sx_l89 hX, sx_l90 hX, sx_l0 hX, sx_l1 hX, sx_l2 hX, sx_l5 hX, sx_l6 hX, sx_l7 hX, sx_l8 hX, sx_l9 hX, sx_l10 hX, sx_l11 hX, sx_l12 hX, sx_l13 hX, sx_l14 hX, sx_l15 hX]; omega))) only [f_X5_addToken, sx_m0 hX, sx_m1 hX, sx_m2 hX, sx_c0 hX, sx_c1 hX, sx_c2 hX, sx_c3 hX, sx_c4 hX, sx_c5 hX, sx_c6 hX, sx_u0 hX, sx_t0 hX, sx_t2 hX, sx_t3 hX, sx_t4 hX, sx_t7 hX, sx_f0 hX, sx_f1 hX, sx_f2 hX, sx_h0 hX, sx_h1 hX, sx_h2 hX, sx_g0 hX, sx_g1 hX, sx_g2 hX, h5, ↓eM, eL_0, eL_1, eL_2, eL_3, eL_4, eL_5, eL_6, eL_7, eL_8, eL_9, eL_10, eL_11, eL_12, eL_15, eL_16, eL_20, eL_24, eL_30, eL_31, eL_32, eL_39, eL_40, eL_41, eL_42, eL_43, eL_45, eL_47, eL_48, eL_49, eL_50, eL_57, eL_59, eL_60, eL_61, eL_90, eL_96, eL_97, eL_100, eL_122, eL_160, eL_161, eL_255, eL_300, eL_343, eL_999, eL_1000, eL_1920, eL_9999, eL_10000, eL_999999, eL_100000, eL_1000000, ↓reduceIte, ↓bl_e, bd_e, u1_f, u1_s, u2_f, u2_s, w_cl, w_ltT, w_ltF, w_leT, w_leF, w_eqT, w_eqF, w_mlt, w_ltm, w_mle, w_lem, w_eqm, w_meq, w_mltm, nI_add, w_sub, w_addm, up_s, up_n, ud_s, ud_n, ck_n, bz_0, bz_1]
  rfl
theorem x_word (hN : 600 ≤ N) (hX : SX S) (hE : zEX x) (hZ : Z ≤ 160) (h1 : x.1 49 1 = nI Z) (hB : ∀ i, i < Z → B i < 256 ∧ x.1 50 i = nI (B i)) {c : Nat} (h5 : x.1 49 5 = nI c) (hc : c < 160) {s e : Nat} (hse : s ≤ e) (he : e ≤ Z) :
    f_X5_addWord N S 49 (nI s) (nI e) x = some (tkU x c (tkC (some (wdT (sp B s e)))) s (opX (wdT (sp B s e)))) := by
  have hs := fun k (hk : k < 11) => x_spells (N := N) hN hX hE hZ h1 hB hk hse he
  have s0 : f_X5_spells N S 49 5 (nI s) (nI e) x = some (bI (sp B s e 0)) := hs 0 (by omega)
  have s1 : f_X5_spells N S 49 6 (nI s) (nI e) x = some (bI (sp B s e 1)) := hs 1 (by omega)
  have s2 : f_X5_spells N S 49 7 (nI s) (nI e) x = some (bI (sp B s e 2)) := hs 2 (by omega)
  have s3 : f_X5_spells N S 49 8 (nI s) (nI e) x = some (bI (sp B s e 3)) := hs 3 (by omega)
  have s4 : f_X5_spells N S 49 9 (nI s) (nI e) x = some (bI (sp B s e 4)) := hs 4 (by omega)
  have s5 : f_X5_spells N S 49 10 (nI s) (nI e) x = some (bI (sp B s e 5)) := hs 5 (by omega)
  have s6 : f_X5_spells N S 49 11 (nI s) (nI e) x = some (bI (sp B s e 6)) := hs 6 (by omega)
  have s7 : f_X5_spells N S 49 12 (nI s) (nI e) x = some (bI (sp B s e 7)) := hs 7 (by omega)
  have s8 : f_X5_spells N S 49 13 (nI s) (nI e) x = some (bI (sp B s e 8)) := hs 8 (by omega)
  have s9 : f_X5_spells N S 49 14 (nI s) (nI e) x = some (bI (sp B s e 9)) := hs 9 (by omega)
  have s10 : f_X5_spells N S 49 15 (nI s) (nI e) x = some (bI (sp B s e 10)) := hs 10 (by omega)
  have ha := fun v w => x_add (N := N) (S := S) (x := x) hX h5 hc v s w
  have hb : ∀ b : Bool, b = true → bI b = nI 1 := fun b h => by rw [h]; rfl
  have hb0 : ∀ b : Bool, ¬ b = true → bI b = nI 0 := fun b h => if_neg h
  unfold wdT
  generalize sp B s e 0 = f0 at *
  generalize sp B s e 1 = f1 at *
  generalize sp B s e 2 = f2 at *
  generalize sp B s e 3 = f3 at *
  generalize sp B s e 4 = f4 at *
  generalize sp B s e 5 = f5 at *
  generalize sp B s e 6 = f6 at *
  generalize sp B s e 7 = f7 at *
  generalize sp B s e 8 = f8 at *
  generalize sp B s e 9 = f9 at *
  generalize sp B s e 10 = f10 at *
  have n10 : (nI 1 = nI 0) = False := eq_false (by decide)
  by_cases g0 : f0 = true
  · rw [if_pos g0]
    simp (disch := (first | omega | (simp only [sx_l42 hX, sx_l43 hX, sx_l44 hX, sx_l46 hX, sx_l50 hX, sx_l51 hX, sx_l52 hX, sx_l53 hX, sx_l54 hX, sx_l56 hX, sx_l57 hX, sx_l58 hX, sx_l60 hX, sx_l61 hX, sx_l62 hX, sx_l63 hX, sx_l64 hX, sx_l65 hX, sx_l66 hX, sx_l88 hX, sx_l89 hX, sx_l90 hX, sx_l0 hX, sx_l1 hX, sx_l2 hX, sx_l5 hX, sx_l6 hX, sx_l7 hX, sx_l8 hX, sx_l9 hX, sx_l10 hX, sx_l11 hX, sx_l12 hX, sx_l13 hX, sx_l14 hX, sx_l15 hX]; omega))) only [f_X5_addWord, f_X5_nameOf, f_X5_keyOf, s0, s1, s2, s3, s4, s5, s6, s7, s8, s9, s10, hb f0 g0, n10, ha, ↓eM, eL_0, eL_1, eL_2, eL_3, eL_4, eL_5, eL_6, eL_7, eL_8, eL_9, eL_10, eL_11, eL_12, eL_15, eL_16, eL_20, eL_24, eL_30, eL_31, eL_32, eL_39, eL_40, eL_41, eL_42, eL_43, eL_45, eL_47, eL_48, eL_49, eL_50, eL_57, eL_59, eL_60, eL_61, eL_90, eL_96, eL_97, eL_100, eL_122, eL_160, eL_161, eL_255, eL_300, eL_343, eL_999, eL_1000, eL_1920, eL_9999, eL_10000, eL_999999, eL_100000, eL_1000000, ↓reduceIte, ↓bl_e, bd_e, u1_f, u1_s, u2_f, u2_s, w_cl, w_ltT, w_ltF, w_leT, w_leF, w_eqT, w_eqF, w_mlt, w_ltm, w_mle, w_lem, w_eqm, w_meq, w_mltm, nI_add, w_sub, w_addm, up_s, up_n, ud_s, ud_n, ck_n, bz_0, bz_1]
    rfl
  by_cases g1 : f1 = true
  · rw [if_neg g0, if_pos g1]
    simp (disch := (first | omega | (simp only [sx_l42 hX, sx_l43 hX, sx_l44 hX, sx_l46 hX, sx_l50 hX, sx_l51 hX, sx_l52 hX, sx_l53 hX, sx_l54 hX, sx_l56 hX, sx_l57 hX, sx_l58 hX, sx_l60 hX, sx_l61 hX, sx_l62 hX, sx_l63 hX, sx_l64 hX, sx_l65 hX, sx_l66 hX, sx_l88 hX, sx_l89 hX, sx_l90 hX, sx_l0 hX, sx_l1 hX, sx_l2 hX, sx_l5 hX, sx_l6 hX, sx_l7 hX, sx_l8 hX, sx_l9 hX, sx_l10 hX, sx_l11 hX, sx_l12 hX, sx_l13 hX, sx_l14 hX, sx_l15 hX]; omega))) only [f_X5_addWord, f_X5_nameOf, f_X5_keyOf, s0, s1, s2, s3, s4, s5, s6, s7, s8, s9, s10, hb0 f0 g0, hb f1 g1, n10, ha, ↓eM, eL_0, eL_1, eL_2, eL_3, eL_4, eL_5, eL_6, eL_7, eL_8, eL_9, eL_10, eL_11, eL_12, eL_15, eL_16, eL_20, eL_24, eL_30, eL_31, eL_32, eL_39, eL_40, eL_41, eL_42, eL_43, eL_45, eL_47, eL_48, eL_49, eL_50, eL_57, eL_59, eL_60, eL_61, eL_90, eL_96, eL_97, eL_100, eL_122, eL_160, eL_161, eL_255, eL_300, eL_343, eL_999, eL_1000, eL_1920, eL_9999, eL_10000, eL_999999, eL_100000, eL_1000000, ↓reduceIte, ↓bl_e, bd_e, u1_f, u1_s, u2_f, u2_s, w_cl, w_ltT, w_ltF, w_leT, w_leF, w_eqT, w_eqF, w_mlt, w_ltm, w_mle, w_lem, w_eqm, w_meq, w_mltm, nI_add, w_sub, w_addm, up_s, up_n, ud_s, ud_n, ck_n, bz_0, bz_1]
    rfl
  by_cases g2 : f2 = true
  · rw [if_neg g0, if_neg g1, if_pos g2]
    simp (disch := (first | omega | (simp only [sx_l42 hX, sx_l43 hX, sx_l44 hX, sx_l46 hX, sx_l50 hX, sx_l51 hX, sx_l52 hX, sx_l53 hX, sx_l54 hX, sx_l56 hX, sx_l57 hX, sx_l58 hX, sx_l60 hX, sx_l61 hX, sx_l62 hX, sx_l63 hX, sx_l64 hX, sx_l65 hX, sx_l66 hX, sx_l88 hX, sx_l89 hX, sx_l90 hX, sx_l0 hX, sx_l1 hX, sx_l2 hX, sx_l5 hX, sx_l6 hX, sx_l7 hX, sx_l8 hX, sx_l9 hX, sx_l10 hX, sx_l11 hX, sx_l12 hX, sx_l13 hX, sx_l14 hX, sx_l15 hX]; omega))) only [f_X5_addWord, f_X5_nameOf, f_X5_keyOf, s0, s1, s2, s3, s4, s5, s6, s7, s8, s9, s10, hb0 f0 g0, hb0 f1 g1, hb f2 g2, n10, ha, ↓eM, eL_0, eL_1, eL_2, eL_3, eL_4, eL_5, eL_6, eL_7, eL_8, eL_9, eL_10, eL_11, eL_12, eL_15, eL_16, eL_20, eL_24, eL_30, eL_31, eL_32, eL_39, eL_40, eL_41, eL_42, eL_43, eL_45, eL_47, eL_48, eL_49, eL_50, eL_57, eL_59, eL_60, eL_61, eL_90, eL_96, eL_97, eL_100, eL_122, eL_160, eL_161, eL_255, eL_300, eL_343, eL_999, eL_1000, eL_1920, eL_9999, eL_10000, eL_999999, eL_100000, eL_1000000, ↓reduceIte, ↓bl_e, bd_e, u1_f, u1_s, u2_f, u2_s, w_cl, w_ltT, w_ltF, w_leT, w_leF, w_eqT, w_eqF, w_mlt, w_ltm, w_mle, w_lem, w_eqm, w_meq, w_mltm, nI_add, w_sub, w_addm, up_s, up_n, ud_s, ud_n, ck_n, bz_0, bz_1]
    rfl
  by_cases g3 : f3 = true
  · rw [if_neg g0, if_neg g1, if_neg g2, if_pos g3]
    simp (disch := (first | omega | (simp only [sx_l42 hX, sx_l43 hX, sx_l44 hX, sx_l46 hX, sx_l50 hX, sx_l51 hX, sx_l52 hX, sx_l53 hX, sx_l54 hX, sx_l56 hX, sx_l57 hX, sx_l58 hX, sx_l60 hX, sx_l61 hX, sx_l62 hX, sx_l63 hX, sx_l64 hX, sx_l65 hX, sx_l66 hX, sx_l88 hX, sx_l89 hX, sx_l90 hX, sx_l0 hX, sx_l1 hX, sx_l2 hX, sx_l5 hX, sx_l6 hX, sx_l7 hX, sx_l8 hX, sx_l9 hX, sx_l10 hX, sx_l11 hX, sx_l12 hX, sx_l13 hX, sx_l14 hX, sx_l15 hX]; omega))) only [f_X5_addWord, f_X5_nameOf, f_X5_keyOf, s0, s1, s2, s3, s4, s5, s6, s7, s8, s9, s10, hb0 f0 g0, hb0 f1 g1, hb0 f2 g2, hb f3 g3, n10, ha, ↓eM, eL_0, eL_1, eL_2, eL_3, eL_4, eL_5, eL_6, eL_7, eL_8, eL_9, eL_10, eL_11, eL_12, eL_15, eL_16, eL_20, eL_24, eL_30, eL_31, eL_32, eL_39, eL_40, eL_41, eL_42, eL_43, eL_45, eL_47, eL_48, eL_49, eL_50, eL_57, eL_59, eL_60, eL_61, eL_90, eL_96, eL_97, eL_100, eL_122, eL_160, eL_161, eL_255, eL_300, eL_343, eL_999, eL_1000, eL_1920, eL_9999, eL_10000, eL_999999, eL_100000, eL_1000000, ↓reduceIte, ↓bl_e, bd_e, u1_f, u1_s, u2_f, u2_s, w_cl, w_ltT, w_ltF, w_leT, w_leF, w_eqT, w_eqF, w_mlt, w_ltm, w_mle, w_lem, w_eqm, w_meq, w_mltm, nI_add, w_sub, w_addm, up_s, up_n, ud_s, ud_n, ck_n, bz_0, bz_1]
    rfl
  by_cases g4 : f4 = true
  · rw [if_neg g0, if_neg g1, if_neg g2, if_neg g3, if_pos g4]
    simp (disch := (first | omega | (simp only [sx_l42 hX, sx_l43 hX, sx_l44 hX, sx_l46 hX, sx_l50 hX, sx_l51 hX, sx_l52 hX, sx_l53 hX, sx_l54 hX, sx_l56 hX, sx_l57 hX, sx_l58 hX, sx_l60 hX, sx_l61 hX, sx_l62 hX, sx_l63 hX, sx_l64 hX, sx_l65 hX, sx_l66 hX, sx_l88 hX, sx_l89 hX, sx_l90 hX, sx_l0 hX, sx_l1 hX, sx_l2 hX, sx_l5 hX, sx_l6 hX, sx_l7 hX, sx_l8 hX, sx_l9 hX, sx_l10 hX, sx_l11 hX, sx_l12 hX, sx_l13 hX, sx_l14 hX, sx_l15 hX]; omega))) only [f_X5_addWord, f_X5_nameOf, f_X5_keyOf, s0, s1, s2, s3, s4, s5, s6, s7, s8, s9, s10, hb0 f0 g0, hb0 f1 g1, hb0 f2 g2, hb0 f3 g3, hb f4 g4, n10, ha, ↓eM, eL_0, eL_1, eL_2, eL_3, eL_4, eL_5, eL_6, eL_7, eL_8, eL_9, eL_10, eL_11, eL_12, eL_15, eL_16, eL_20, eL_24, eL_30, eL_31, eL_32, eL_39, eL_40, eL_41, eL_42, eL_43, eL_45, eL_47, eL_48, eL_49, eL_50, eL_57, eL_59, eL_60, eL_61, eL_90, eL_96, eL_97, eL_100, eL_122, eL_160, eL_161, eL_255, eL_300, eL_343, eL_999, eL_1000, eL_1920, eL_9999, eL_10000, eL_999999, eL_100000, eL_1000000, ↓reduceIte, ↓bl_e, bd_e, u1_f, u1_s, u2_f, u2_s, w_cl, w_ltT, w_ltF, w_leT, w_leF, w_eqT, w_eqF, w_mlt, w_ltm, w_mle, w_lem, w_eqm, w_meq, w_mltm, nI_add, w_sub, w_addm, up_s, up_n, ud_s, ud_n, ck_n, bz_0, bz_1]
    rfl
  by_cases g5 : f5 = true
  · rw [if_neg g0, if_neg g1, if_neg g2, if_neg g3, if_neg g4, if_pos g5]
    simp (disch := (first | omega | (simp only [sx_l42 hX, sx_l43 hX, sx_l44 hX, sx_l46 hX, sx_l50 hX, sx_l51 hX, sx_l52 hX, sx_l53 hX, sx_l54 hX, sx_l56 hX, sx_l57 hX, sx_l58 hX, sx_l60 hX, sx_l61 hX, sx_l62 hX, sx_l63 hX, sx_l64 hX, sx_l65 hX, sx_l66 hX, sx_l88 hX, sx_l89 hX, sx_l90 hX, sx_l0 hX, sx_l1 hX, sx_l2 hX, sx_l5 hX, sx_l6 hX, sx_l7 hX, sx_l8 hX, sx_l9 hX, sx_l10 hX, sx_l11 hX, sx_l12 hX, sx_l13 hX, sx_l14 hX, sx_l15 hX]; omega))) only [f_X5_addWord, f_X5_nameOf, f_X5_keyOf, s0, s1, s2, s3, s4, s5, s6, s7, s8, s9, s10, hb0 f0 g0, hb0 f1 g1, hb0 f2 g2, hb0 f3 g3, hb0 f4 g4, hb f5 g5, n10, ha, ↓eM, eL_0, eL_1, eL_2, eL_3, eL_4, eL_5, eL_6, eL_7, eL_8, eL_9, eL_10, eL_11, eL_12, eL_15, eL_16, eL_20, eL_24, eL_30, eL_31, eL_32, eL_39, eL_40, eL_41, eL_42, eL_43, eL_45, eL_47, eL_48, eL_49, eL_50, eL_57, eL_59, eL_60, eL_61, eL_90, eL_96, eL_97, eL_100, eL_122, eL_160, eL_161, eL_255, eL_300, eL_343, eL_999, eL_1000, eL_1920, eL_9999, eL_10000, eL_999999, eL_100000, eL_1000000, ↓reduceIte, ↓bl_e, bd_e, u1_f, u1_s, u2_f, u2_s, w_cl, w_ltT, w_ltF, w_leT, w_leF, w_eqT, w_eqF, w_mlt, w_ltm, w_mle, w_lem, w_eqm, w_meq, w_mltm, nI_add, w_sub, w_addm, up_s, up_n, ud_s, ud_n, ck_n, bz_0, bz_1]
    rfl
  by_cases g6 : f6 = true
  · rw [if_neg g0, if_neg g1, if_neg g2, if_neg g3, if_neg g4, if_neg g5, if_pos g6]
    simp (disch := (first | omega | (simp only [sx_l42 hX, sx_l43 hX, sx_l44 hX, sx_l46 hX, sx_l50 hX, sx_l51 hX, sx_l52 hX, sx_l53 hX, sx_l54 hX, sx_l56 hX, sx_l57 hX, sx_l58 hX, sx_l60 hX, sx_l61 hX, sx_l62 hX, sx_l63 hX, sx_l64 hX, sx_l65 hX, sx_l66 hX, sx_l88 hX, sx_l89 hX, sx_l90 hX, sx_l0 hX, sx_l1 hX, sx_l2 hX, sx_l5 hX, sx_l6 hX, sx_l7 hX, sx_l8 hX, sx_l9 hX, sx_l10 hX, sx_l11 hX, sx_l12 hX, sx_l13 hX, sx_l14 hX, sx_l15 hX]; omega))) only [f_X5_addWord, f_X5_nameOf, f_X5_keyOf, s0, s1, s2, s3, s4, s5, s6, s7, s8, s9, s10, hb0 f0 g0, hb0 f1 g1, hb0 f2 g2, hb0 f3 g3, hb0 f4 g4, hb0 f5 g5, hb f6 g6, n10, ha, ↓eM, eL_0, eL_1, eL_2, eL_3, eL_4, eL_5, eL_6, eL_7, eL_8, eL_9, eL_10, eL_11, eL_12, eL_15, eL_16, eL_20, eL_24, eL_30, eL_31, eL_32, eL_39, eL_40, eL_41, eL_42, eL_43, eL_45, eL_47, eL_48, eL_49, eL_50, eL_57, eL_59, eL_60, eL_61, eL_90, eL_96, eL_97, eL_100, eL_122, eL_160, eL_161, eL_255, eL_300, eL_343, eL_999, eL_1000, eL_1920, eL_9999, eL_10000, eL_999999, eL_100000, eL_1000000, ↓reduceIte, ↓bl_e, bd_e, u1_f, u1_s, u2_f, u2_s, w_cl, w_ltT, w_ltF, w_leT, w_leF, w_eqT, w_eqF, w_mlt, w_ltm, w_mle, w_lem, w_eqm, w_meq, w_mltm, nI_add, w_sub, w_addm, up_s, up_n, ud_s, ud_n, ck_n, bz_0, bz_1]
    rfl
  by_cases g7 : f7 = true
  · rw [if_neg g0, if_neg g1, if_neg g2, if_neg g3, if_neg g4, if_neg g5, if_neg g6, if_pos g7]
    simp (disch := (first | omega | (simp only [sx_l42 hX, sx_l43 hX, sx_l44 hX, sx_l46 hX, sx_l50 hX, sx_l51 hX, sx_l52 hX, sx_l53 hX, sx_l54 hX, sx_l56 hX, sx_l57 hX, sx_l58 hX, sx_l60 hX, sx_l61 hX, sx_l62 hX, sx_l63 hX, sx_l64 hX, sx_l65 hX, sx_l66 hX, sx_l88 hX, sx_l89 hX, sx_l90 hX, sx_l0 hX, sx_l1 hX, sx_l2 hX, sx_l5 hX, sx_l6 hX, sx_l7 hX, sx_l8 hX, sx_l9 hX, sx_l10 hX, sx_l11 hX, sx_l12 hX, sx_l13 hX, sx_l14 hX, sx_l15 hX]; omega))) only [f_X5_addWord, f_X5_nameOf, f_X5_keyOf, s0, s1, s2, s3, s4, s5, s6, s7, s8, s9, s10, hb0 f0 g0, hb0 f1 g1, hb0 f2 g2, hb0 f3 g3, hb0 f4 g4, hb0 f5 g5, hb0 f6 g6, hb f7 g7, n10, ha, ↓eM, eL_0, eL_1, eL_2, eL_3, eL_4, eL_5, eL_6, eL_7, eL_8, eL_9, eL_10, eL_11, eL_12, eL_15, eL_16, eL_20, eL_24, eL_30, eL_31, eL_32, eL_39, eL_40, eL_41, eL_42, eL_43, eL_45, eL_47, eL_48, eL_49, eL_50, eL_57, eL_59, eL_60, eL_61, eL_90, eL_96, eL_97, eL_100, eL_122, eL_160, eL_161, eL_255, eL_300, eL_343, eL_999, eL_1000, eL_1920, eL_9999, eL_10000, eL_999999, eL_100000, eL_1000000, ↓reduceIte, ↓bl_e, bd_e, u1_f, u1_s, u2_f, u2_s, w_cl, w_ltT, w_ltF, w_leT, w_leF, w_eqT, w_eqF, w_mlt, w_ltm, w_mle, w_lem, w_eqm, w_meq, w_mltm, nI_add, w_sub, w_addm, up_s, up_n, ud_s, ud_n, ck_n, bz_0, bz_1]
    rfl
  by_cases g8 : f8 = true
  · rw [if_neg g0, if_neg g1, if_neg g2, if_neg g3, if_neg g4, if_neg g5, if_neg g6, if_neg g7, if_pos g8]
    simp (disch := (first | omega | (simp only [sx_l42 hX, sx_l43 hX, sx_l44 hX, sx_l46 hX, sx_l50 hX, sx_l51 hX, sx_l52 hX, sx_l53 hX, sx_l54 hX, sx_l56 hX, sx_l57 hX, sx_l58 hX, sx_l60 hX, sx_l61 hX, sx_l62 hX, sx_l63 hX, sx_l64 hX, sx_l65 hX, sx_l66 hX, sx_l88 hX, sx_l89 hX, sx_l90 hX, sx_l0 hX, sx_l1 hX, sx_l2 hX, sx_l5 hX, sx_l6 hX, sx_l7 hX, sx_l8 hX, sx_l9 hX, sx_l10 hX, sx_l11 hX, sx_l12 hX, sx_l13 hX, sx_l14 hX, sx_l15 hX]; omega))) only [f_X5_addWord, f_X5_nameOf, f_X5_keyOf, s0, s1, s2, s3, s4, s5, s6, s7, s8, s9, s10, hb0 f0 g0, hb0 f1 g1, hb0 f2 g2, hb0 f3 g3, hb0 f4 g4, hb0 f5 g5, hb0 f6 g6, hb0 f7 g7, hb f8 g8, n10, ha, ↓eM, eL_0, eL_1, eL_2, eL_3, eL_4, eL_5, eL_6, eL_7, eL_8, eL_9, eL_10, eL_11, eL_12, eL_15, eL_16, eL_20, eL_24, eL_30, eL_31, eL_32, eL_39, eL_40, eL_41, eL_42, eL_43, eL_45, eL_47, eL_48, eL_49, eL_50, eL_57, eL_59, eL_60, eL_61, eL_90, eL_96, eL_97, eL_100, eL_122, eL_160, eL_161, eL_255, eL_300, eL_343, eL_999, eL_1000, eL_1920, eL_9999, eL_10000, eL_999999, eL_100000, eL_1000000, ↓reduceIte, ↓bl_e, bd_e, u1_f, u1_s, u2_f, u2_s, w_cl, w_ltT, w_ltF, w_leT, w_leF, w_eqT, w_eqF, w_mlt, w_ltm, w_mle, w_lem, w_eqm, w_meq, w_mltm, nI_add, w_sub, w_addm, up_s, up_n, ud_s, ud_n, ck_n, bz_0, bz_1]
    rfl
  by_cases g9 : f9 = true
  · rw [if_neg g0, if_neg g1, if_neg g2, if_neg g3, if_neg g4, if_neg g5, if_neg g6, if_neg g7, if_neg g8, if_pos g9]
    simp (disch := (first | omega | (simp only [sx_l42 hX, sx_l43 hX, sx_l44 hX, sx_l46 hX, sx_l50 hX, sx_l51 hX, sx_l52 hX, sx_l53 hX, sx_l54 hX, sx_l56 hX, sx_l57 hX, sx_l58 hX, sx_l60 hX, sx_l61 hX, sx_l62 hX, sx_l63 hX, sx_l64 hX, sx_l65 hX, sx_l66 hX, sx_l88 hX, sx_l89 hX, sx_l90 hX, sx_l0 hX, sx_l1 hX, sx_l2 hX, sx_l5 hX, sx_l6 hX, sx_l7 hX, sx_l8 hX, sx_l9 hX, sx_l10 hX, sx_l11 hX, sx_l12 hX, sx_l13 hX, sx_l14 hX, sx_l15 hX]; omega))) only [f_X5_addWord, f_X5_nameOf, f_X5_keyOf, s0, s1, s2, s3, s4, s5, s6, s7, s8, s9, s10, hb0 f0 g0, hb0 f1 g1, hb0 f2 g2, hb0 f3 g3, hb0 f4 g4, hb0 f5 g5, hb0 f6 g6, hb0 f7 g7, hb0 f8 g8, hb f9 g9, n10, ha, ↓eM, eL_0, eL_1, eL_2, eL_3, eL_4, eL_5, eL_6, eL_7, eL_8, eL_9, eL_10, eL_11, eL_12, eL_15, eL_16, eL_20, eL_24, eL_30, eL_31, eL_32, eL_39, eL_40, eL_41, eL_42, eL_43, eL_45, eL_47, eL_48, eL_49, eL_50, eL_57, eL_59, eL_60, eL_61, eL_90, eL_96, eL_97, eL_100, eL_122, eL_160, eL_161, eL_255, eL_300, eL_343, eL_999, eL_1000, eL_1920, eL_9999, eL_10000, eL_999999, eL_100000, eL_1000000, ↓reduceIte, ↓bl_e, bd_e, u1_f, u1_s, u2_f, u2_s, w_cl, w_ltT, w_ltF, w_leT, w_leF, w_eqT, w_eqF, w_mlt, w_ltm, w_mle, w_lem, w_eqm, w_meq, w_mltm, nI_add, w_sub, w_addm, up_s, up_n, ud_s, ud_n, ck_n, bz_0, bz_1]
    rfl
  by_cases g10 : f10 = true
  · rw [if_neg g0, if_neg g1, if_neg g2, if_neg g3, if_neg g4, if_neg g5, if_neg g6, if_neg g7, if_neg g8, if_neg g9, if_pos g10]
    simp (disch := (first | omega | (simp only [sx_l42 hX, sx_l43 hX, sx_l44 hX, sx_l46 hX, sx_l50 hX, sx_l51 hX, sx_l52 hX, sx_l53 hX, sx_l54 hX, sx_l56 hX, sx_l57 hX, sx_l58 hX, sx_l60 hX, sx_l61 hX, sx_l62 hX, sx_l63 hX, sx_l64 hX, sx_l65 hX, sx_l66 hX, sx_l88 hX, sx_l89 hX, sx_l90 hX, sx_l0 hX, sx_l1 hX, sx_l2 hX, sx_l5 hX, sx_l6 hX, sx_l7 hX, sx_l8 hX, sx_l9 hX, sx_l10 hX, sx_l11 hX, sx_l12 hX, sx_l13 hX, sx_l14 hX, sx_l15 hX]; omega))) only [f_X5_addWord, f_X5_nameOf, f_X5_keyOf, s0, s1, s2, s3, s4, s5, s6, s7, s8, s9, s10, hb0 f0 g0, hb0 f1 g1, hb0 f2 g2, hb0 f3 g3, hb0 f4 g4, hb0 f5 g5, hb0 f6 g6, hb0 f7 g7, hb0 f8 g8, hb0 f9 g9, hb f10 g10, n10, ha, ↓eM, eL_0, eL_1, eL_2, eL_3, eL_4, eL_5, eL_6, eL_7, eL_8, eL_9, eL_10, eL_11, eL_12, eL_15, eL_16, eL_20, eL_24, eL_30, eL_31, eL_32, eL_39, eL_40, eL_41, eL_42, eL_43, eL_45, eL_47, eL_48, eL_49, eL_50, eL_57, eL_59, eL_60, eL_61, eL_90, eL_96, eL_97, eL_100, eL_122, eL_160, eL_161, eL_255, eL_300, eL_343, eL_999, eL_1000, eL_1920, eL_9999, eL_10000, eL_999999, eL_100000, eL_1000000, ↓reduceIte, ↓bl_e, bd_e, u1_f, u1_s, u2_f, u2_s, w_cl, w_ltT, w_ltF, w_leT, w_leF, w_eqT, w_eqF, w_mlt, w_ltm, w_mle, w_lem, w_eqm, w_meq, w_mltm, nI_add, w_sub, w_addm, up_s, up_n, ud_s, ud_n, ck_n, bz_0, bz_1]
    rfl
  rw [if_neg g0, if_neg g1, if_neg g2, if_neg g3, if_neg g4, if_neg g5, if_neg g6, if_neg g7, if_neg g8, if_neg g9, if_neg g10]
  simp (disch := (first | omega | (simp only [sx_l42 hX, sx_l43 hX, sx_l44 hX, sx_l46 hX, sx_l50 hX, sx_l51 hX, sx_l52 hX, sx_l53 hX, sx_l54 hX, sx_l56 hX, sx_l57 hX, sx_l58 hX, sx_l60 hX, sx_l61 hX, sx_l62 hX, sx_l63 hX, sx_l64 hX, sx_l65 hX, sx_l66 hX, sx_l88 hX, sx_l89 hX, sx_l90 hX, sx_l0 hX, sx_l1 hX, sx_l2 hX, sx_l5 hX, sx_l6 hX, sx_l7 hX, sx_l8 hX, sx_l9 hX, sx_l10 hX, sx_l11 hX, sx_l12 hX, sx_l13 hX, sx_l14 hX, sx_l15 hX]; omega))) only [f_X5_addWord, f_X5_nameOf, f_X5_keyOf, s0, s1, s2, s3, s4, s5, s6, s7, s8, s9, s10, hb0 f0 g0, hb0 f1 g1, hb0 f2 g2, hb0 f3 g3, hb0 f4 g4, hb0 f5 g5, hb0 f6 g6, hb0 f7 g7, hb0 f8 g8, hb0 f9 g9, hb0 f10 g10, n10, ha, ↓eM, eL_0, eL_1, eL_2, eL_3, eL_4, eL_5, eL_6, eL_7, eL_8, eL_9, eL_10, eL_11, eL_12, eL_15, eL_16, eL_20, eL_24, eL_30, eL_31, eL_32, eL_39, eL_40, eL_41, eL_42, eL_43, eL_45, eL_47, eL_48, eL_49, eL_50, eL_57, eL_59, eL_60, eL_61, eL_90, eL_96, eL_97, eL_100, eL_122, eL_160, eL_161, eL_255, eL_300, eL_343, eL_999, eL_1000, eL_1920, eL_9999, eL_10000, eL_999999, eL_100000, eL_1000000, ↓reduceIte, ↓bl_e, bd_e, u1_f, u1_s, u2_f, u2_s, w_cl, w_ltT, w_ltF, w_leT, w_leF, w_eqT, w_eqF, w_mlt, w_ltm, w_mle, w_lem, w_eqm, w_meq, w_mltm, nI_add, w_sub, w_addm, up_s, up_n, ud_s, ud_n, ck_n, bz_0, bz_1]
  rfl
theorem x_num (hN : 600 ≤ N) (hX : SX S) (hZ : Z ≤ 160) (hB : ∀ i, i < Z → B i < 256 ∧ x.1 50 i = nI (B i)) {c : Nat} (h5 : x.1 49 5 = nI c) (hc : c < 160) {s e : Nat} (hse : s ≤ e) (he : e ≤ Z) (hd : ∀ i, s ≤ i → i < e → isDg (B i) = true) :
    f_X5_addNumber N S 49 (nI s) (nI e) x = some (tkU x c (tkC (some (if e - s ≤ 4 then 1 else 5, nu B s (e - s)))) s (opX (if e - s ≤ 4 then 1 else 5, nu B s (e - s)))) := by
  unfold f_X5_addNumber lp_X5_addNumber_5
  refine z_itr1 (fun j (a : Int32 × Int32) => a = (nI (nu B s j), nI (s + j))) (fun q => q = _) (e - s) ?_ ?_ (e - s) 0 _ N (by omega) (by omega) rfl
  · rintro j _ hj rfl
    obtain ⟨b1, b2⟩ := hB (s + j) (by omega)
    have hdj := hd (s + j) (by omega) (by omega)
    unfold isDg at hdj
    rw [Bool.and_eq_true, decide_eq_true_iff, decide_eq_true_iff] at hdj
    have e48 : (48 : Int32) = nI 48 := rfl
    have hv : nu B s j * 10 + B (s + j) - 48 = nu B s (j + 1) := by
      show _ = nu B s j * 10 + (B (s + j) - 48)
      omega
    refine Or.inl ⟨_, rfl, fun back => ?_⟩
    simp (disch := (first | omega | (simp only [sx_l42 hX, sx_l43 hX, sx_l44 hX, sx_l46 hX, sx_l50 hX, sx_l51 hX, sx_l52 hX, sx_l53 hX, sx_l54 hX, sx_l56 hX, sx_l57 hX, sx_l58 hX, sx_l60 hX, sx_l61 hX, sx_l62 hX, sx_l63 hX, sx_l64 hX, sx_l65 hX, sx_l66 hX, sx_l88 hX, sx_l89 hX, sx_l90 hX, sx_l0 hX, sx_l1 hX, sx_l2 hX, sx_l5 hX, sx_l6 hX, sx_l7 hX, sx_l8 hX, sx_l9 hX, sx_l10 hX, sx_l11 hX, sx_l12 hX, sx_l13 hX, sx_l14 hX, sx_l15 hX]; omega))) only [lp_X5_addNumber_5_b, sx_m0 hX, sx_m1 hX, sx_m2 hX, sx_c0 hX, sx_c1 hX, sx_c2 hX, sx_c3 hX, sx_c4 hX, sx_c5 hX, sx_c6 hX, sx_u0 hX, sx_t0 hX, sx_t2 hX, sx_t3 hX, sx_t4 hX, sx_t7 hX, sx_f0 hX, sx_f1 hX, sx_f2 hX, sx_h0 hX, sx_h1 hX, sx_h2 hX, sx_g0 hX, sx_g1 hX, sx_g2 hX, b2, pk_mul, e48, ↓eM, eL_0, eL_1, eL_2, eL_3, eL_4, eL_5, eL_6, eL_7, eL_8, eL_9, eL_10, eL_11, eL_12, eL_15, eL_16, eL_20, eL_24, eL_30, eL_31, eL_32, eL_39, eL_40, eL_41, eL_42, eL_43, eL_45, eL_47, eL_48, eL_49, eL_50, eL_57, eL_59, eL_60, eL_61, eL_90, eL_96, eL_97, eL_100, eL_122, eL_160, eL_161, eL_255, eL_300, eL_343, eL_999, eL_1000, eL_1920, eL_9999, eL_10000, eL_999999, eL_100000, eL_1000000, ↓reduceIte, ↓bl_e, bd_e, u1_f, u1_s, u2_f, u2_s, w_cl, w_ltT, w_ltF, w_leT, w_leF, w_eqT, w_eqF, w_mlt, w_ltm, w_mle, w_lem, w_eqm, w_meq, w_mltm, nI_add, w_sub, w_addm, up_s, up_n, ud_s, ud_n, ck_n, bz_0, bz_1]
    rw [hv, Nat.add_assoc]
  · rintro _ rfl
    have ha := fun v w => x_add (N := N) (S := S) (x := x) hX h5 hc v s w
    have hse2 : s + (e - s) = e := by omega
    rw [hse2]
    by_cases h4 : e - s ≤ 4
    · rw [if_pos h4]
      refine ⟨_, rfl, fun back => ?_⟩
      simp (disch := (first | omega | (simp only [sx_l42 hX, sx_l43 hX, sx_l44 hX, sx_l46 hX, sx_l50 hX, sx_l51 hX, sx_l52 hX, sx_l53 hX, sx_l54 hX, sx_l56 hX, sx_l57 hX, sx_l58 hX, sx_l60 hX, sx_l61 hX, sx_l62 hX, sx_l63 hX, sx_l64 hX, sx_l65 hX, sx_l66 hX, sx_l88 hX, sx_l89 hX, sx_l90 hX, sx_l0 hX, sx_l1 hX, sx_l2 hX, sx_l5 hX, sx_l6 hX, sx_l7 hX, sx_l8 hX, sx_l9 hX, sx_l10 hX, sx_l11 hX, sx_l12 hX, sx_l13 hX, sx_l14 hX, sx_l15 hX]; omega))) only [lp_X5_addNumber_5_b, j_X5_addNumber_48, sx_m0 hX, sx_m1 hX, sx_m2 hX, sx_c0 hX, sx_c1 hX, sx_c2 hX, sx_c3 hX, sx_c4 hX, sx_c5 hX, sx_c6 hX, sx_u0 hX, sx_t0 hX, sx_t2 hX, sx_t3 hX, sx_t4 hX, sx_t7 hX, sx_f0 hX, sx_f1 hX, sx_f2 hX, sx_h0 hX, sx_h1 hX, sx_h2 hX, sx_g0 hX, sx_g1 hX, sx_g2 hX, ha, ↓eM, eL_0, eL_1, eL_2, eL_3, eL_4, eL_5, eL_6, eL_7, eL_8, eL_9, eL_10, eL_11, eL_12, eL_15, eL_16, eL_20, eL_24, eL_30, eL_31, eL_32, eL_39, eL_40, eL_41, eL_42, eL_43, eL_45, eL_47, eL_48, eL_49, eL_50, eL_57, eL_59, eL_60, eL_61, eL_90, eL_96, eL_97, eL_100, eL_122, eL_160, eL_161, eL_255, eL_300, eL_343, eL_999, eL_1000, eL_1920, eL_9999, eL_10000, eL_999999, eL_100000, eL_1000000, ↓reduceIte, ↓bl_e, bd_e, u1_f, u1_s, u2_f, u2_s, w_cl, w_ltT, w_ltF, w_leT, w_leF, w_eqT, w_eqF, w_mlt, w_ltm, w_mle, w_lem, w_eqm, w_meq, w_mltm, nI_add, w_sub, w_addm, up_s, up_n, ud_s, ud_n, ck_n, bz_0, bz_1]
      rfl
    · rw [if_neg h4]
      refine ⟨_, rfl, fun back => ?_⟩
      simp (disch := (first | omega | (simp only [sx_l42 hX, sx_l43 hX, sx_l44 hX, sx_l46 hX, sx_l50 hX, sx_l51 hX, sx_l52 hX, sx_l53 hX, sx_l54 hX, sx_l56 hX, sx_l57 hX, sx_l58 hX, sx_l60 hX, sx_l61 hX, sx_l62 hX, sx_l63 hX, sx_l64 hX, sx_l65 hX, sx_l66 hX, sx_l88 hX, sx_l89 hX, sx_l90 hX, sx_l0 hX, sx_l1 hX, sx_l2 hX, sx_l5 hX, sx_l6 hX, sx_l7 hX, sx_l8 hX, sx_l9 hX, sx_l10 hX, sx_l11 hX, sx_l12 hX, sx_l13 hX, sx_l14 hX, sx_l15 hX]; omega))) only [lp_X5_addNumber_5_b, j_X5_addNumber_48, sx_m0 hX, sx_m1 hX, sx_m2 hX, sx_c0 hX, sx_c1 hX, sx_c2 hX, sx_c3 hX, sx_c4 hX, sx_c5 hX, sx_c6 hX, sx_u0 hX, sx_t0 hX, sx_t2 hX, sx_t3 hX, sx_t4 hX, sx_t7 hX, sx_f0 hX, sx_f1 hX, sx_f2 hX, sx_h0 hX, sx_h1 hX, sx_h2 hX, sx_g0 hX, sx_g1 hX, sx_g2 hX, ha, ↓eM, eL_0, eL_1, eL_2, eL_3, eL_4, eL_5, eL_6, eL_7, eL_8, eL_9, eL_10, eL_11, eL_12, eL_15, eL_16, eL_20, eL_24, eL_30, eL_31, eL_32, eL_39, eL_40, eL_41, eL_42, eL_43, eL_45, eL_47, eL_48, eL_49, eL_50, eL_57, eL_59, eL_60, eL_61, eL_90, eL_96, eL_97, eL_100, eL_122, eL_160, eL_161, eL_255, eL_300, eL_343, eL_999, eL_1000, eL_1920, eL_9999, eL_10000, eL_999999, eL_100000, eL_1000000, ↓reduceIte, ↓bl_e, bd_e, u1_f, u1_s, u2_f, u2_s, w_cl, w_ltT, w_ltF, w_leT, w_leF, w_eqT, w_eqF, w_mlt, w_ltm, w_mle, w_lem, w_eqm, w_meq, w_mltm, nI_add, w_sub, w_addm, up_s, up_n, ud_s, ud_n, ck_n, bz_0, bz_1]
      rfl
end CUT
