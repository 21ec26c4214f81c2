/-! LAYER 3: fish -/
/-- what a piece brings as the next one of l (b = 1: the first one), by the worths u and what is left behind it t -/
def zbv (u t : Nat → Nat) (l b p : Nat) : Nat := (if b = 1 ∨ p = l then u p / 2 else u p) + t (l - p)
/-- the least best piece of 1 .. i + 1 -/
def zbp (u t : Nat → Nat) (l b : Nat) : Nat → Nat
  | 0 => 1
  | i + 1 => if i + 2 ≤ l ∧ zbv u t l b (zbp u t l b i) < zbv u t l b (i + 2) then i + 2 else zbp u t l b i
section PURE
variable {u t : Nat → Nat} {l b : Nat}
theorem zbp_le : ∀ i, 1 ≤ zbp u t l b i ∧ zbp u t l b i ≤ i + 1
  | 0 => ⟨Nat.le_refl _, Nat.le_refl _⟩
  | i + 1 => by
    have h := zbp_le i
    show 1 ≤ (if i + 2 ≤ l ∧ zbv u t l b (zbp u t l b i) < zbv u t l b (i + 2) then i + 2 else zbp u t l b i) ∧ (if i + 2 ≤ l ∧ zbv u t l b (zbp u t l b i) < zbv u t l b (i + 2) then i + 2 else zbp u t l b i) ≤ i + 2
    by_cases e : i + 2 ≤ l ∧ zbv u t l b (zbp u t l b i) < zbv u t l b (i + 2)
    · rw [if_pos e]; omega
    · rw [if_neg e]; omega
theorem zbp_l (hl : 1 ≤ l) : ∀ i, zbp u t l b i ≤ l
  | 0 => hl
  | i + 1 => by
    have h := zbp_l hl i
    show (if _ then i + 2 else zbp u t l b i) ≤ l
    split
    · rename_i e; exact e.1
    · exact h
theorem zbp_max : ∀ i q, 1 ≤ q → q ≤ i + 1 → q ≤ l → zbv u t l b q ≤ zbv u t l b (zbp u t l b i)
  | 0, q, h1, h2, _ => by
    have : q = 1 := by omega
    subst this; exact Nat.le_refl _
  | i + 1, q, h1, h2, h3 => by
    have ih := zbp_max i
    show _ ≤ zbv u t l b (if _ then i + 2 else zbp u t l b i)
    split
    · rename_i e
      by_cases hq : q = i + 2
      · subst hq; exact Nat.le_refl _
      · have := ih q h1 (by omega) h3
        omega
    · rename_i e
      by_cases hq : q = i + 2
      · subst hq
        have : ¬ zbv u t l b (zbp u t l b i) < zbv u t l b (i + 2) := fun h => e ⟨h3, h⟩
        omega
      · exact ih q h1 (by omega) h3
theorem zbp_min : ∀ i q, 1 ≤ q → q < zbp u t l b i → zbv u t l b q < zbv u t l b (zbp u t l b i)
  | 0, q, h1, h2 => by
    have : q < 1 := h2
    omega
  | i + 1, q, h1, h2 => by
    have ih := zbp_min i
    have h2' : q < (if i + 2 ≤ l ∧ zbv u t l b (zbp u t l b i) < zbv u t l b (i + 2) then i + 2 else zbp u t l b i) := h2
    show _ < zbv u t l b (if i + 2 ≤ l ∧ zbv u t l b (zbp u t l b i) < zbv u t l b (i + 2) then i + 2 else zbp u t l b i)
    by_cases e : i + 2 ≤ l ∧ zbv u t l b (zbp u t l b i) < zbv u t l b (i + 2)
    · rw [if_pos e] at h2' ⊢
      have := zbp_max (u := u) (t := t) (l := l) (b := b) i q h1 (by omega) (by omega)
      omega
    · rw [if_neg e] at h2' ⊢
      exact ih q h1 h2'
theorem zbp_stop {i : Nat} (h : l < i + 2) : ∀ j, zbp u t l b (i + j) = zbp u t l b i
  | 0 => rfl
  | j + 1 => by
    have ih := zbp_stop h j
    show (if i + j + 2 ≤ l ∧ _ then i + j + 2 else zbp u t l b (i + j)) = _
    rw [if_neg (fun e => by omega), ih]
def zT (u : Nat → Nat) : Nat → Nat → Nat
  | 0 => fun _ => 0
  | k + 1 => ud (zT u k) (k + 1) (zbv u (zT u k) (k + 1) 0 (zbp u (zT u k) (k + 1) 0 5))
theorem zT_st (u : Nat → Nat) : ∀ j k i, i ≤ k → zT u (k + j) i = zT u k i
  | 0, k, i, _ => rfl
  | j + 1, k, i, h => by
    have ih := zT_st u j k i h
    show ud (zT u (k + j)) (k + j + 1) _ i = _
    rw [ud_n (by omega), ih]
theorem zbv_congr {t' : Nat → Nat} {p : Nat} (h : t (l - p) = t' (l - p)) : zbv u t l b p = zbv u t' l b p := by
  unfold zbv; rw [h]
theorem zbp_congr {t' : Nat → Nat} (hl : 1 ≤ l) (h : ∀ i, i < l → t i = t' i) : ∀ i, zbp u t l b i = zbp u t' l b i
  | 0 => rfl
  | i + 1 => by
    have ih := zbp_congr hl h i
    have hq := zbp_le (u := u) (t := t') (l := l) (b := b) i
    have e1 : zbv u t l b (zbp u t' l b i) = zbv u t' l b (zbp u t' l b i) := zbv_congr (h _ (by omega))
    have e2 : zbv u t l b (i + 2) = zbv u t' l b (i + 2) := zbv_congr (h _ (by omega))
    show (if i + 2 ≤ l ∧ zbv u t l b (zbp u t l b i) < zbv u t l b (i + 2) then i + 2 else zbp u t l b i) = (if i + 2 ≤ l ∧ zbv u t' l b (zbp u t' l b i) < zbv u t' l b (i + 2) then i + 2 else zbp u t' l b i)
    rw [ih, e1, e2]
/-- the table of what is left -/
def zTt (u : Nat → Nat) : Nat → Nat := zT u 30
theorem zTt_0 : zTt u 0 = 0 := zT_st u 30 0 0 (Nat.le_refl _)
theorem zTt_s {k : Nat} (hk : k < 30) : zTt u (k + 1) = zbv u (zTt u) (k + 1) 0 (zbp u (zTt u) (k + 1) 0 5) := by
  have hst : ∀ i, i ≤ k → zTt u i = zT u k i := fun i hi => by
    have := zT_st u (30 - k) k i hi
    rwa [show k + (30 - k) = 30 by omega] at this
  have h1 : zTt u (k + 1) = zT u (k + 1) (k + 1) := by
    have := zT_st u (30 - (k + 1)) (k + 1) (k + 1) (Nat.le_refl _)
    rwa [show k + 1 + (30 - (k + 1)) = 30 by omega] at this
  rw [h1]
  show ud (zT u k) (k + 1) _ (k + 1) = _
  rw [ud_s]
  have e := zbp_congr (u := u) (t := zTt u) (t' := zT u k) (l := k + 1) (b := 0) (by omega) (fun i hi => hst i (by omega)) 5
  rw [e]
  have hq := zbp_le (u := u) (t := zT u k) (l := k + 1) (b := 0) 5
  exact (zbv_congr (hst _ (by omega))).symm
theorem zTt_le (hu : ∀ p, p < 7 → u p ≤ 999) : ∀ k, k ≤ 30 → zTt u k ≤ 999 * k
  | 0, _ => by rw [zTt_0]; omega
  | k + 1, h => by
    rw [zTt_s (by omega)]
    have hq := zbp_le (u := u) (t := zTt u) (l := k + 1) (b := 0) 5
    have hq2 := zbp_l (u := u) (t := zTt u) (l := k + 1) (b := 0) (by omega) 5
    have hr := zTt_le hu (k + 1 - zbp u (zTt u) (k + 1) 0 5) (by omega)
    have hw := hu (zbp u (zTt u) (k + 1) 0 5) (by omega)
    generalize zbp u (zTt u) (k + 1) 0 5 = q at hq hq2 hr hw
    unfold zbv
    split <;> omega
termination_by k => k
decreasing_by
  have := zbp_le (u := u) (t := zTt u) (l := k + 1) (b := 0) 5
  omega
theorem zbv_lt (hu : ∀ p, p < 7 → u p ≤ 999) {p : Nat} (hl : l ≤ 30) (hp : 1 ≤ p) (hp7 : p < 7) : zbv u (zTt u) l b p < 40000 := by
  have h1 := zTt_le hu (l - p) (by omega)
  have h2 := hu p hp7
  unfold zbv
  split <;> omega
end PURE
section FISH
variable {N : Nat} {S Sm : SH} {x y : DY} {u : Nat → Nat}
theorem x_half {v : Nat} (hv : v ≤ 999) : nI v / nI 2 = nI (v / 2) := pk_div (by omega) (by omega) (by omega)
set_option maxHeartbeats 800000 in
theorem f_brings (hX : SX S) (hu : ∀ p, p < 7 → u p ≤ 999) (h56 : ∀ p, p < 7 → x.1 56 p = nI (u p)) {l b p : Nat} (hl : l ≤ 30) (hb : b < 2) (hp : 1 ≤ p) (hp7 : p < 7) (hpl : p ≤ l) (h57 : ∀ i, i < l → x.1 57 i = nI (zTt u i)) : f_X0_bringsWith N S 55 (nI p) (nI l) (nI b) x = some (nI (zbv u (zTt u) l b p)) := by
  have e1 := h56 p hp7
  have e2 := h57 (l - p) (by omega)
  have e3 := x_half (hu p hp7)
  have e4 := hu p hp7
  by_cases h : b = 1 ∨ p = l
  · have e : zbv u (zTt u) l b p = u p / 2 + zTt u (l - p) := by unfold zbv; rw [if_pos h]
    rw [e]
    rcases h with rfl | rfl
    · simp (disch := (first | omega | (simp only [sx_l42 hX, sx_l43 hX, sx_l44 hX, sx_l46 hX, sx_l50 hX, sx_l51 hX, sx_l52 hX, sx_l53 hX, sx_l54 hX, sx_l56 hX, sx_l57 hX, sx_l58 hX, sx_l60 hX, sx_l61 hX, sx_l62 hX, sx_l63 hX, sx_l64 hX, sx_l65 hX, sx_l66 hX, sx_l88 hX, sx_l89 hX, sx_l90 hX, sx_l0 hX, sx_l1 hX, sx_l2 hX, sx_l5 hX, sx_l6 hX, sx_l7 hX, sx_l8 hX, sx_l9 hX, sx_l10 hX, sx_l11 hX, sx_l12 hX, sx_l13 hX, sx_l14 hX, sx_l15 hX]; omega))) only [f_X0_bringsWith, j_X0_bringsWith_31, j_X0_bringsWith_36, j_X0_bringsWith_60, f_X11_within, sx_m0 hX, sx_m1 hX, sx_m2 hX, sx_c0 hX, sx_c1 hX, sx_c2 hX, sx_c3 hX, sx_c4 hX, sx_c5 hX, sx_c6 hX, sx_u0 hX, sx_t0 hX, sx_t2 hX, sx_t3 hX, sx_t4 hX, sx_t7 hX, sx_f0 hX, sx_f1 hX, sx_f2 hX, sx_h0 hX, sx_h1 hX, sx_h2 hX, sx_g0 hX, sx_g1 hX, sx_g2 hX, e1, e2, e3, ↓eM, eL_0, eL_1, eL_2, eL_3, eL_4, eL_5, eL_6, eL_7, eL_8, eL_9, eL_10, eL_11, eL_12, eL_15, eL_16, eL_20, eL_24, eL_30, eL_31, eL_32, eL_39, eL_40, eL_41, eL_42, eL_43, eL_45, eL_47, eL_48, eL_49, eL_50, eL_57, eL_59, eL_60, eL_61, eL_90, eL_96, eL_97, eL_100, eL_122, eL_160, eL_161, eL_255, eL_300, eL_343, eL_999, eL_1000, eL_1920, eL_9999, eL_10000, eL_999999, eL_100000, eL_1000000, ↓reduceIte, ↓bl_e, bd_e, u1_f, u1_s, u2_f, u2_s, w_cl, w_ltT, w_ltF, w_leT, w_leF, w_eqT, w_eqF, w_mlt, w_ltm, w_mle, w_lem, w_eqm, w_meq, w_mltm, nI_add, w_sub, w_addm, up_s, up_n, ud_s, ud_n, ck_n, bz_0, bz_1]
    · obtain rfl | rfl : b = 0 ∨ b = 1 := by omega
      · simp (disch := (first | omega | (simp only [sx_l42 hX, sx_l43 hX, sx_l44 hX, sx_l46 hX, sx_l50 hX, sx_l51 hX, sx_l52 hX, sx_l53 hX, sx_l54 hX, sx_l56 hX, sx_l57 hX, sx_l58 hX, sx_l60 hX, sx_l61 hX, sx_l62 hX, sx_l63 hX, sx_l64 hX, sx_l65 hX, sx_l66 hX, sx_l88 hX, sx_l89 hX, sx_l90 hX, sx_l0 hX, sx_l1 hX, sx_l2 hX, sx_l5 hX, sx_l6 hX, sx_l7 hX, sx_l8 hX, sx_l9 hX, sx_l10 hX, sx_l11 hX, sx_l12 hX, sx_l13 hX, sx_l14 hX, sx_l15 hX]; omega))) only [f_X0_bringsWith, j_X0_bringsWith_31, j_X0_bringsWith_36, j_X0_bringsWith_60, f_X11_within, sx_m0 hX, sx_m1 hX, sx_m2 hX, sx_c0 hX, sx_c1 hX, sx_c2 hX, sx_c3 hX, sx_c4 hX, sx_c5 hX, sx_c6 hX, sx_u0 hX, sx_t0 hX, sx_t2 hX, sx_t3 hX, sx_t4 hX, sx_t7 hX, sx_f0 hX, sx_f1 hX, sx_f2 hX, sx_h0 hX, sx_h1 hX, sx_h2 hX, sx_g0 hX, sx_g1 hX, sx_g2 hX, e1, e2, e3, ↓eM, eL_0, eL_1, eL_2, eL_3, eL_4, eL_5, eL_6, eL_7, eL_8, eL_9, eL_10, eL_11, eL_12, eL_15, eL_16, eL_20, eL_24, eL_30, eL_31, eL_32, eL_39, eL_40, eL_41, eL_42, eL_43, eL_45, eL_47, eL_48, eL_49, eL_50, eL_57, eL_59, eL_60, eL_61, eL_90, eL_96, eL_97, eL_100, eL_122, eL_160, eL_161, eL_255, eL_300, eL_343, eL_999, eL_1000, eL_1920, eL_9999, eL_10000, eL_999999, eL_100000, eL_1000000, ↓reduceIte, ↓bl_e, bd_e, u1_f, u1_s, u2_f, u2_s, w_cl, w_ltT, w_ltF, w_leT, w_leF, w_eqT, w_eqF, w_mlt, w_ltm, w_mle, w_lem, w_eqm, w_meq, w_mltm, nI_add, w_sub, w_addm, up_s, up_n, ud_s, ud_n, ck_n, bz_0, bz_1]
      · simp (disch := (first | omega | (simp only [sx_l42 hX, sx_l43 hX, sx_l44 hX, sx_l46 hX, sx_l50 hX, sx_l51 hX, sx_l52 hX, sx_l53 hX, sx_l54 hX, sx_l56 hX, sx_l57 hX, sx_l58 hX, sx_l60 hX, sx_l61 hX, sx_l62 hX, sx_l63 hX, sx_l64 hX, sx_l65 hX, sx_l66 hX, sx_l88 hX, sx_l89 hX, sx_l90 hX, sx_l0 hX, sx_l1 hX, sx_l2 hX, sx_l5 hX, sx_l6 hX, sx_l7 hX, sx_l8 hX, sx_l9 hX, sx_l10 hX, sx_l11 hX, sx_l12 hX, sx_l13 hX, sx_l14 hX, sx_l15 hX]; omega))) only [f_X0_bringsWith, j_X0_bringsWith_31, j_X0_bringsWith_36, j_X0_bringsWith_60, f_X11_within, sx_m0 hX, sx_m1 hX, sx_m2 hX, sx_c0 hX, sx_c1 hX, sx_c2 hX, sx_c3 hX, sx_c4 hX, sx_c5 hX, sx_c6 hX, sx_u0 hX, sx_t0 hX, sx_t2 hX, sx_t3 hX, sx_t4 hX, sx_t7 hX, sx_f0 hX, sx_f1 hX, sx_f2 hX, sx_h0 hX, sx_h1 hX, sx_h2 hX, sx_g0 hX, sx_g1 hX, sx_g2 hX, e1, e2, e3, ↓eM, eL_0, eL_1, eL_2, eL_3, eL_4, eL_5, eL_6, eL_7, eL_8, eL_9, eL_10, eL_11, eL_12, eL_15, eL_16, eL_20, eL_24, eL_30, eL_31, eL_32, eL_39, eL_40, eL_41, eL_42, eL_43, eL_45, eL_47, eL_48, eL_49, eL_50, eL_57, eL_59, eL_60, eL_61, eL_90, eL_96, eL_97, eL_100, eL_122, eL_160, eL_161, eL_255, eL_300, eL_343, eL_999, eL_1000, eL_1920, eL_9999, eL_10000, eL_999999, eL_100000, eL_1000000, ↓reduceIte, ↓bl_e, bd_e, u1_f, u1_s, u2_f, u2_s, w_cl, w_ltT, w_ltF, w_leT, w_leF, w_eqT, w_eqF, w_mlt, w_ltm, w_mle, w_lem, w_eqm, w_meq, w_mltm, nI_add, w_sub, w_addm, up_s, up_n, ud_s, ud_n, ck_n, bz_0, bz_1]
  · have e : zbv u (zTt u) l b p = u p + zTt u (l - p) := by unfold zbv; rw [if_neg h]
    rw [e]
    have hb0 : b = 0 := by omega
    have hpl2 : ¬ p = l := fun q => h (Or.inr q)
    subst hb0
    simp (disch := (first | omega | (simp only [sx_l42 hX, sx_l43 hX, sx_l44 hX, sx_l46 hX, sx_l50 hX, sx_l51 hX, sx_l52 hX, sx_l53 hX, sx_l54 hX, sx_l56 hX, sx_l57 hX, sx_l58 hX, sx_l60 hX, sx_l61 hX, sx_l62 hX, sx_l63 hX, sx_l64 hX, sx_l65 hX, sx_l66 hX, sx_l88 hX, sx_l89 hX, sx_l90 hX, sx_l0 hX, sx_l1 hX, sx_l2 hX, sx_l5 hX, sx_l6 hX, sx_l7 hX, sx_l8 hX, sx_l9 hX, sx_l10 hX, sx_l11 hX, sx_l12 hX, sx_l13 hX, sx_l14 hX, sx_l15 hX]; omega))) only [f_X0_bringsWith, j_X0_bringsWith_31, j_X0_bringsWith_36, j_X0_bringsWith_60, f_X11_within, sx_m0 hX, sx_m1 hX, sx_m2 hX, sx_c0 hX, sx_c1 hX, sx_c2 hX, sx_c3 hX, sx_c4 hX, sx_c5 hX, sx_c6 hX, sx_u0 hX, sx_t0 hX, sx_t2 hX, sx_t3 hX, sx_t4 hX, sx_t7 hX, sx_f0 hX, sx_f1 hX, sx_f2 hX, sx_h0 hX, sx_h1 hX, sx_h2 hX, sx_g0 hX, sx_g1 hX, sx_g2 hX, e1, e2, e3, ↓eM, eL_0, eL_1, eL_2, eL_3, eL_4, eL_5, eL_6, eL_7, eL_8, eL_9, eL_10, eL_11, eL_12, eL_15, eL_16, eL_20, eL_24, eL_30, eL_31, eL_32, eL_39, eL_40, eL_41, eL_42, eL_43, eL_45, eL_47, eL_48, eL_49, eL_50, eL_57, eL_59, eL_60, eL_61, eL_90, eL_96, eL_97, eL_100, eL_122, eL_160, eL_161, eL_255, eL_300, eL_343, eL_999, eL_1000, eL_1920, eL_9999, eL_10000, eL_999999, eL_100000, eL_1000000, ↓reduceIte, ↓bl_e, bd_e, u1_f, u1_s, u2_f, u2_s, w_cl, w_ltT, w_ltF, w_leT, w_leF, w_eqT, w_eqF, w_mlt, w_ltm, w_mle, w_lem, w_eqm, w_meq, w_mltm, nI_add, w_sub, w_addm, up_s, up_n, ud_s, ud_n, ck_n, bz_0, bz_1]
set_option maxHeartbeats 800000 in
theorem f_best (hN : 600 ≤ N) (hX : SX S) (hu : ∀ p, p < 7 → u p ≤ 999) (h56 : ∀ p, p < 7 → x.1 56 p = nI (u p)) {l b : Nat} (hl1 : 1 ≤ l) (hl : l ≤ 30) (hb : b < 2) (h57 : ∀ i, i < l → x.1 57 i = nI (zTt u i)) : f_X0_bestPiece N S 55 (nI l) (nI b) x = some (nI (zbp u (zTt u) l b 5)) := by
  unfold f_X0_bestPiece lp_X0_bestPiece_5
  refine z_itr1 (fun i a => a = (nI (zbp u (zTt u) l b i), nI (i + 2))) (fun o => o = some (nI (zbp u (zTt u) l b 5))) 5 ?_ ?_ 5 0 _ N (by omega) (by omega) rfl
  · rintro i _ hi rfl
    have hq := zbp_le (u := u) (t := zTt u) (l := l) (b := b) i
    have hq2 := zbp_l (u := u) (t := zTt u) (b := b) hl1 i
    by_cases h : i + 2 ≤ l
    · have b1 := f_brings (N := N) hX hu h56 hl hb (p := i + 2) (by omega) (by omega) h h57
      have b2 := f_brings (N := N) hX hu h56 hl hb (p := zbp u (zTt u) l b i) (by omega) (by omega) hq2 h57
      have v1 := zbv_lt (l := l) (b := b) hu hl (p := i + 2) (by omega) (by omega)
      have v2 := zbv_lt (l := l) (b := b) hu hl (p := zbp u (zTt u) l b i) (by omega) (by omega)
      refine Or.inl ⟨_, rfl, fun back => ?_⟩
      show lp_X0_bestPiece_5_b N S _ _ _ _ _ _ _ = back (nI (if i + 2 ≤ l ∧ zbv u (zTt u) l b (zbp u (zTt u) l b i) < zbv u (zTt u) l b (i + 2) then i + 2 else zbp u (zTt u) l b i), nI (i + 1 + 2))
      by_cases hlt : zbv u (zTt u) l b (zbp u (zTt u) l b i) < zbv u (zTt u) l b (i + 2)
      · rw [if_pos ⟨h, hlt⟩, show i + 1 + 2 = i + 2 + 1 by omega]
        simp (disch := omega) only [lp_X0_bestPiece_5_b, j_X0_bestPiece_39, b1, b2, ↓eM, eL_0, eL_1, eL_2, eL_3, eL_4, eL_5, eL_6, eL_7, eL_8, eL_9, eL_10, eL_11, eL_12, eL_15, eL_16, eL_20, eL_24, eL_30, eL_31, eL_32, eL_39, eL_40, eL_41, eL_42, eL_43, eL_45, eL_47, eL_48, eL_49, eL_50, eL_57, eL_59, eL_60, eL_61, eL_90, eL_96, eL_97, eL_100, eL_122, eL_160, eL_161, eL_255, eL_300, eL_343, eL_999, eL_1000, eL_1920, eL_9999, eL_10000, eL_999999, eL_100000, eL_1000000, ↓reduceIte, ↓bl_e, bd_e, u1_f, u1_s, u2_f, u2_s, w_cl, w_ltT, w_ltF, w_leT, w_leF, w_eqT, w_eqF, w_mlt, w_ltm, w_mle, w_lem, w_eqm, w_meq, w_mltm, nI_add, w_sub, w_addm, up_s, up_n, ud_s, ud_n, ck_n, bz_0, bz_1]
      · rw [if_neg (fun e => hlt e.2), show i + 1 + 2 = i + 2 + 1 by omega]
        simp (disch := omega) only [lp_X0_bestPiece_5_b, j_X0_bestPiece_39, b1, b2, ↓eM, eL_0, eL_1, eL_2, eL_3, eL_4, eL_5, eL_6, eL_7, eL_8, eL_9, eL_10, eL_11, eL_12, eL_15, eL_16, eL_20, eL_24, eL_30, eL_31, eL_32, eL_39, eL_40, eL_41, eL_42, eL_43, eL_45, eL_47, eL_48, eL_49, eL_50, eL_57, eL_59, eL_60, eL_61, eL_90, eL_96, eL_97, eL_100, eL_122, eL_160, eL_161, eL_255, eL_300, eL_343, eL_999, eL_1000, eL_1920, eL_9999, eL_10000, eL_999999, eL_100000, eL_1000000, ↓reduceIte, ↓bl_e, bd_e, u1_f, u1_s, u2_f, u2_s, w_cl, w_ltT, w_ltF, w_leT, w_leF, w_eqT, w_eqF, w_mlt, w_ltm, w_mle, w_lem, w_eqm, w_meq, w_mltm, nI_add, w_sub, w_addm, up_s, up_n, ud_s, ud_n, ck_n, bz_0, bz_1]
    · refine Or.inr ⟨some (nI (zbp u (zTt u) l b i)), ?_, fun back => ?_⟩
      · have := zbp_stop (u := u) (t := zTt u) (l := l) (b := b) (i := i) (by omega) (5 - i)
        rw [show i + (5 - i) = 5 by omega] at this
        rw [this]
      · simp (disch := omega) only [lp_X0_bestPiece_5_b, ↓eM, eL_0, eL_1, eL_2, eL_3, eL_4, eL_5, eL_6, eL_7, eL_8, eL_9, eL_10, eL_11, eL_12, eL_15, eL_16, eL_20, eL_24, eL_30, eL_31, eL_32, eL_39, eL_40, eL_41, eL_42, eL_43, eL_45, eL_47, eL_48, eL_49, eL_50, eL_57, eL_59, eL_60, eL_61, eL_90, eL_96, eL_97, eL_100, eL_122, eL_160, eL_161, eL_255, eL_300, eL_343, eL_999, eL_1000, eL_1920, eL_9999, eL_10000, eL_999999, eL_100000, eL_1000000, ↓reduceIte, ↓bl_e, bd_e, u1_f, u1_s, u2_f, u2_s, w_cl, w_ltT, w_ltF, w_leT, w_leF, w_eqT, w_eqF, w_mlt, w_ltm, w_mle, w_lem, w_eqm, w_meq, w_mltm, nI_add, w_sub, w_addm, up_s, up_n, ud_s, ud_n, ck_n, bz_0, bz_1]
  · rintro _ rfl
    refine ⟨_, rfl, fun back => ?_⟩
    simp (disch := omega) only [lp_X0_bestPiece_5_b, ↓eM, eL_0, eL_1, eL_2, eL_3, eL_4, eL_5, eL_6, eL_7, eL_8, eL_9, eL_10, eL_11, eL_12, eL_15, eL_16, eL_20, eL_24, eL_30, eL_31, eL_32, eL_39, eL_40, eL_41, eL_42, eL_43, eL_45, eL_47, eL_48, eL_49, eL_50, eL_57, eL_59, eL_60, eL_61, eL_90, eL_96, eL_97, eL_100, eL_122, eL_160, eL_161, eL_255, eL_300, eL_343, eL_999, eL_1000, eL_1920, eL_9999, eL_10000, eL_999999, eL_100000, eL_1000000, ↓reduceIte, ↓bl_e, bd_e, u1_f, u1_s, u2_f, u2_s, w_cl, w_ltT, w_ltF, w_leT, w_leF, w_eqT, w_eqF, w_mlt, w_ltm, w_mle, w_lem, w_eqm, w_meq, w_mltm, nI_add, w_sub, w_addm, up_s, up_n, ud_s, ud_n, ck_n, bz_0, bz_1]
set_option maxHeartbeats 800000 in
theorem f_part (hM : SHM Sm) (hu : ∀ p, p < 7 → u p ≤ 999) (h76 : ∀ p, p < 7 → y.1 76 p = nI (u p)) {l b p : Nat} (hl : l ≤ 30) (hb : b < 2) (hp : 1 ≤ p) (hp7 : p < 7) (hpl : p ≤ l) (h77 : ∀ i, 0 < i → i < l → y.1 77 i = nI (zTt u i)) : f_X12_partOf N Sm 40 (nI l) (nI p) (nI b) y = some (nI (zbv u (zTt u) l b p)) := by
  have e1 := h76 p hp7
  have e3 := x_half (hu p hp7)
  have e4 := hu p hp7
  have hT0 : zTt u 0 = 0 := zTt_0
  by_cases h : b = 1 ∨ p = l
  · have e : zbv u (zTt u) l b p = u p / 2 + zTt u (l - p) := by unfold zbv; rw [if_pos h]
    rw [e]
    by_cases hpl2 : p = l
    · subst hpl2
      rw [Nat.sub_self, hT0]
      obtain rfl | rfl : b = 0 ∨ b = 1 := by omega
      · simp (disch := (first | omega | (simp only [shm_l41 hM, shm_l42 hM, shm_l43 hM, shm_l44 hM, shm_l45 hM, shm_l46 hM, shm_l47 hM, shm_l48 hM, shm_l49 hM, shm_l50 hM, shm_l51 hM, shm_l52 hM, shm_l53 hM, shm_l54 hM, shm_l55 hM, shm_l56 hM, shm_l57 hM, shm_l58 hM, shm_l59 hM, shm_l60 hM, shm_l61 hM, shm_l62 hM, shm_l63 hM, shm_l64 hM, shm_l65 hM, shm_l66 hM, shm_l67 hM, shm_l68 hM, shm_l69 hM, shm_l70 hM, shm_l71 hM, shm_l72 hM, shm_l73 hM, shm_l74 hM, shm_l75 hM, shm_l76 hM, shm_l77 hM, shm_l78 hM, shm_l79 hM, shm_l80 hM]; omega))) only [f_X12_partOf, j_X12_partOf_9, j_X12_partOf_26, shm_p5 hM, shm_p6 hM, shm_p7 hM, shm_p8 hM, shm_p9 hM, shm_p10 hM, shm_p11 hM, shm_p12 hM, shm_p13 hM, shm_p14 hM, shm_p15 hM, shm_p16 hM, shm_p19 hM, shm_p20 hM, shm_p21 hM, shm_p22 hM, shm_p23 hM, shm_p24 hM, shm_p25 hM, shm_p26 hM, shm_p27 hM, shm_p31 hM, shm_p32 hM, shm_p37 hM, shm_p38 hM, shm_p43 hM, shm_p44 hM, shm_p48 hM, shm_p49 hM, shm_p50 hM, shm_p51 hM, shm_p52 hM, shm_p53 hM, shm_p54 hM, shm_p55 hM, shm_p62 hM, shm_p63 hM, shm_p64 hM, shm_p65 hM, shm_p66 hM, e1, e3, ↓eM, eL_0, eL_1, eL_2, eL_3, eL_4, eL_5, eL_6, eL_7, eL_8, eL_9, eL_10, eL_11, eL_12, eL_15, eL_16, eL_20, eL_24, eL_30, eL_31, eL_32, eL_39, eL_40, eL_41, eL_42, eL_43, eL_45, eL_47, eL_48, eL_49, eL_50, eL_57, eL_59, eL_60, eL_61, eL_90, eL_96, eL_97, eL_100, eL_122, eL_160, eL_161, eL_255, eL_300, eL_343, eL_999, eL_1000, eL_1920, eL_9999, eL_10000, eL_999999, eL_100000, eL_1000000, ↓reduceIte, ↓bl_e, bd_e, u1_f, u1_s, u2_f, u2_s, w_cl, w_ltT, w_ltF, w_leT, w_leF, w_eqT, w_eqF, w_mlt, w_ltm, w_mle, w_lem, w_eqm, w_meq, w_mltm, nI_add, w_sub, w_addm, up_s, up_n, ud_s, ud_n, ck_n, bz_0, bz_1]
      · simp (disch := (first | omega | (simp only [shm_l41 hM, shm_l42 hM, shm_l43 hM, shm_l44 hM, shm_l45 hM, shm_l46 hM, shm_l47 hM, shm_l48 hM, shm_l49 hM, shm_l50 hM, shm_l51 hM, shm_l52 hM, shm_l53 hM, shm_l54 hM, shm_l55 hM, shm_l56 hM, shm_l57 hM, shm_l58 hM, shm_l59 hM, shm_l60 hM, shm_l61 hM, shm_l62 hM, shm_l63 hM, shm_l64 hM, shm_l65 hM, shm_l66 hM, shm_l67 hM, shm_l68 hM, shm_l69 hM, shm_l70 hM, shm_l71 hM, shm_l72 hM, shm_l73 hM, shm_l74 hM, shm_l75 hM, shm_l76 hM, shm_l77 hM, shm_l78 hM, shm_l79 hM, shm_l80 hM]; omega))) only [f_X12_partOf, j_X12_partOf_9, j_X12_partOf_26, shm_p5 hM, shm_p6 hM, shm_p7 hM, shm_p8 hM, shm_p9 hM, shm_p10 hM, shm_p11 hM, shm_p12 hM, shm_p13 hM, shm_p14 hM, shm_p15 hM, shm_p16 hM, shm_p19 hM, shm_p20 hM, shm_p21 hM, shm_p22 hM, shm_p23 hM, shm_p24 hM, shm_p25 hM, shm_p26 hM, shm_p27 hM, shm_p31 hM, shm_p32 hM, shm_p37 hM, shm_p38 hM, shm_p43 hM, shm_p44 hM, shm_p48 hM, shm_p49 hM, shm_p50 hM, shm_p51 hM, shm_p52 hM, shm_p53 hM, shm_p54 hM, shm_p55 hM, shm_p62 hM, shm_p63 hM, shm_p64 hM, shm_p65 hM, shm_p66 hM, e1, e3, ↓eM, eL_0, eL_1, eL_2, eL_3, eL_4, eL_5, eL_6, eL_7, eL_8, eL_9, eL_10, eL_11, eL_12, eL_15, eL_16, eL_20, eL_24, eL_30, eL_31, eL_32, eL_39, eL_40, eL_41, eL_42, eL_43, eL_45, eL_47, eL_48, eL_49, eL_50, eL_57, eL_59, eL_60, eL_61, eL_90, eL_96, eL_97, eL_100, eL_122, eL_160, eL_161, eL_255, eL_300, eL_343, eL_999, eL_1000, eL_1920, eL_9999, eL_10000, eL_999999, eL_100000, eL_1000000, ↓reduceIte, ↓bl_e, bd_e, u1_f, u1_s, u2_f, u2_s, w_cl, w_ltT, w_ltF, w_leT, w_leF, w_eqT, w_eqF, w_mlt, w_ltm, w_mle, w_lem, w_eqm, w_meq, w_mltm, nI_add, w_sub, w_addm, up_s, up_n, ud_s, ud_n, ck_n, bz_0, bz_1]
    · have e2 := h77 (l - p) (by omega) (by omega)
      obtain rfl : b = 1 := by omega
      simp (disch := (first | omega | (simp only [shm_l41 hM, shm_l42 hM, shm_l43 hM, shm_l44 hM, shm_l45 hM, shm_l46 hM, shm_l47 hM, shm_l48 hM, shm_l49 hM, shm_l50 hM, shm_l51 hM, shm_l52 hM, shm_l53 hM, shm_l54 hM, shm_l55 hM, shm_l56 hM, shm_l57 hM, shm_l58 hM, shm_l59 hM, shm_l60 hM, shm_l61 hM, shm_l62 hM, shm_l63 hM, shm_l64 hM, shm_l65 hM, shm_l66 hM, shm_l67 hM, shm_l68 hM, shm_l69 hM, shm_l70 hM, shm_l71 hM, shm_l72 hM, shm_l73 hM, shm_l74 hM, shm_l75 hM, shm_l76 hM, shm_l77 hM, shm_l78 hM, shm_l79 hM, shm_l80 hM]; omega))) only [f_X12_partOf, j_X12_partOf_9, j_X12_partOf_26, shm_p5 hM, shm_p6 hM, shm_p7 hM, shm_p8 hM, shm_p9 hM, shm_p10 hM, shm_p11 hM, shm_p12 hM, shm_p13 hM, shm_p14 hM, shm_p15 hM, shm_p16 hM, shm_p19 hM, shm_p20 hM, shm_p21 hM, shm_p22 hM, shm_p23 hM, shm_p24 hM, shm_p25 hM, shm_p26 hM, shm_p27 hM, shm_p31 hM, shm_p32 hM, shm_p37 hM, shm_p38 hM, shm_p43 hM, shm_p44 hM, shm_p48 hM, shm_p49 hM, shm_p50 hM, shm_p51 hM, shm_p52 hM, shm_p53 hM, shm_p54 hM, shm_p55 hM, shm_p62 hM, shm_p63 hM, shm_p64 hM, shm_p65 hM, shm_p66 hM, e1, e2, e3, ↓eM, eL_0, eL_1, eL_2, eL_3, eL_4, eL_5, eL_6, eL_7, eL_8, eL_9, eL_10, eL_11, eL_12, eL_15, eL_16, eL_20, eL_24, eL_30, eL_31, eL_32, eL_39, eL_40, eL_41, eL_42, eL_43, eL_45, eL_47, eL_48, eL_49, eL_50, eL_57, eL_59, eL_60, eL_61, eL_90, eL_96, eL_97, eL_100, eL_122, eL_160, eL_161, eL_255, eL_300, eL_343, eL_999, eL_1000, eL_1920, eL_9999, eL_10000, eL_999999, eL_100000, eL_1000000, ↓reduceIte, ↓bl_e, bd_e, u1_f, u1_s, u2_f, u2_s, w_cl, w_ltT, w_ltF, w_leT, w_leF, w_eqT, w_eqF, w_mlt, w_ltm, w_mle, w_lem, w_eqm, w_meq, w_mltm, nI_add, w_sub, w_addm, up_s, up_n, ud_s, ud_n, ck_n, bz_0, bz_1]
  · have e : zbv u (zTt u) l b p = u p + zTt u (l - p) := by unfold zbv; rw [if_neg h]
    rw [e]
    have hb0 : b = 0 := by omega
    have hpl2 : ¬ p = l := fun q => h (Or.inr q)
    have e2 := h77 (l - p) (by omega) (by omega)
    subst hb0
    simp (disch := (first | omega | (simp only [shm_l41 hM, shm_l42 hM, shm_l43 hM, shm_l44 hM, shm_l45 hM, shm_l46 hM, shm_l47 hM, shm_l48 hM, shm_l49 hM, shm_l50 hM, shm_l51 hM, shm_l52 hM, shm_l53 hM, shm_l54 hM, shm_l55 hM, shm_l56 hM, shm_l57 hM, shm_l58 hM, shm_l59 hM, shm_l60 hM, shm_l61 hM, shm_l62 hM, shm_l63 hM, shm_l64 hM, shm_l65 hM, shm_l66 hM, shm_l67 hM, shm_l68 hM, shm_l69 hM, shm_l70 hM, shm_l71 hM, shm_l72 hM, shm_l73 hM, shm_l74 hM, shm_l75 hM, shm_l76 hM, shm_l77 hM, shm_l78 hM, shm_l79 hM, shm_l80 hM]; omega))) only [f_X12_partOf, j_X12_partOf_9, j_X12_partOf_26, shm_p5 hM, shm_p6 hM, shm_p7 hM, shm_p8 hM, shm_p9 hM, shm_p10 hM, shm_p11 hM, shm_p12 hM, shm_p13 hM, shm_p14 hM, shm_p15 hM, shm_p16 hM, shm_p19 hM, shm_p20 hM, shm_p21 hM, shm_p22 hM, shm_p23 hM, shm_p24 hM, shm_p25 hM, shm_p26 hM, shm_p27 hM, shm_p31 hM, shm_p32 hM, shm_p37 hM, shm_p38 hM, shm_p43 hM, shm_p44 hM, shm_p48 hM, shm_p49 hM, shm_p50 hM, shm_p51 hM, shm_p52 hM, shm_p53 hM, shm_p54 hM, shm_p55 hM, shm_p62 hM, shm_p63 hM, shm_p64 hM, shm_p65 hM, shm_p66 hM, e1, e2, ↓eM, eL_0, eL_1, eL_2, eL_3, eL_4, eL_5, eL_6, eL_7, eL_8, eL_9, eL_10, eL_11, eL_12, eL_15, eL_16, eL_20, eL_24, eL_30, eL_31, eL_32, eL_39, eL_40, eL_41, eL_42, eL_43, eL_45, eL_47, eL_48, eL_49, eL_50, eL_57, eL_59, eL_60, eL_61, eL_90, eL_96, eL_97, eL_100, eL_122, eL_160, eL_161, eL_255, eL_300, eL_343, eL_999, eL_1000, eL_1920, eL_9999, eL_10000, eL_999999, eL_100000, eL_1000000, ↓reduceIte, ↓bl_e, bd_e, u1_f, u1_s, u2_f, u2_s, w_cl, w_ltT, w_ltF, w_leT, w_leF, w_eqT, w_eqF, w_mlt, w_ltm, w_mle, w_lem, w_eqm, w_meq, w_mltm, nI_add, w_sub, w_addm, up_s, up_n, ud_s, ud_n, ck_n, bz_0, bz_1]
set_option maxHeartbeats 800000 in
theorem f_most (hN : 600 ≤ N) (hM : SHM Sm) (hu : ∀ p, p < 7 → u p ≤ 999) (h76 : ∀ p, p < 7 → y.1 76 p = nI (u p)) {l b : Nat} (hl1 : 1 ≤ l) (hl : l ≤ 30) (hb : b < 2) (h77 : ∀ i, 0 < i → i < l → y.1 77 i = nI (zTt u i)) : f_X12_most N Sm 40 (nI l) (nI b) y = some (nI (zbv u (zTt u) l b (zbp u (zTt u) l b 5))) := by
  unfold f_X12_most lp_X12_most_5
  refine z_itr1 (fun i a => (i = 0 ∧ a = (nI 0, nI 1)) ∨ (∃ j, i = j + 1 ∧ a = (nI (zbv u (zTt u) l b (zbp u (zTt u) l b j)), nI (j + 2)))) (fun o => o = some (nI (zbv u (zTt u) l b (zbp u (zTt u) l b 5)))) 6 ?_ ?_ 6 0 _ N (by omega) (by omega) (Or.inl ⟨rfl, rfl⟩)
  · rintro i _ hi (⟨rfl, rfl⟩ | ⟨j, rfl, rfl⟩)
    · have b1 := f_part (N := N) hM hu h76 hl hb (p := 1) (by omega) (by omega) hl1 h77
      refine Or.inl ⟨_, Or.inr ⟨0, rfl, rfl⟩, fun back => ?_⟩
      show lp_X12_most_5_b N Sm _ _ _ _ _ _ _ = back (nI (zbv u (zTt u) l b 1), nI 2)
      simp (disch := omega) only [lp_X12_most_5_b, j_X12_most_36, j_X12_most_48, b1, ↓eM, eL_0, eL_1, eL_2, eL_3, eL_4, eL_5, eL_6, eL_7, eL_8, eL_9, eL_10, eL_11, eL_12, eL_15, eL_16, eL_20, eL_24, eL_30, eL_31, eL_32, eL_39, eL_40, eL_41, eL_42, eL_43, eL_45, eL_47, eL_48, eL_49, eL_50, eL_57, eL_59, eL_60, eL_61, eL_90, eL_96, eL_97, eL_100, eL_122, eL_160, eL_161, eL_255, eL_300, eL_343, eL_999, eL_1000, eL_1920, eL_9999, eL_10000, eL_999999, eL_100000, eL_1000000, ↓reduceIte, ↓bl_e, bd_e, u1_f, u1_s, u2_f, u2_s, w_cl, w_ltT, w_ltF, w_leT, w_leF, w_eqT, w_eqF, w_mlt, w_ltm, w_mle, w_lem, w_eqm, w_meq, w_mltm, nI_add, w_sub, w_addm, up_s, up_n, ud_s, ud_n, ck_n, bz_0, bz_1]
    · have hq := zbp_le (u := u) (t := zTt u) (l := l) (b := b) j
      have hq2 := zbp_l (u := u) (t := zTt u) (b := b) hl1 j
      by_cases h : j + 2 ≤ l
      · have b1 := f_part (N := N) hM hu h76 hl hb (p := j + 2) (by omega) (by omega) h h77
        have v1 := zbv_lt (l := l) (b := b) hu hl (p := j + 2) (by omega) (by omega)
        have v2 := zbv_lt (l := l) (b := b) hu hl (p := zbp u (zTt u) l b j) (by omega) (by omega)
        refine Or.inl ⟨_, Or.inr ⟨j + 1, rfl, rfl⟩, fun back => ?_⟩
        show lp_X12_most_5_b N Sm _ _ _ _ _ _ _ = back (nI (zbv u (zTt u) l b (if j + 2 ≤ l ∧ zbv u (zTt u) l b (zbp u (zTt u) l b j) < zbv u (zTt u) l b (j + 2) then j + 2 else zbp u (zTt u) l b j)), nI (j + 1 + 2))
        by_cases hlt : zbv u (zTt u) l b (zbp u (zTt u) l b j) < zbv u (zTt u) l b (j + 2)
        · rw [if_pos ⟨h, hlt⟩, show j + 1 + 2 = j + 2 + 1 by omega]
          simp (disch := omega) only [lp_X12_most_5_b, j_X12_most_36, j_X12_most_48, b1, ↓eM, eL_0, eL_1, eL_2, eL_3, eL_4, eL_5, eL_6, eL_7, eL_8, eL_9, eL_10, eL_11, eL_12, eL_15, eL_16, eL_20, eL_24, eL_30, eL_31, eL_32, eL_39, eL_40, eL_41, eL_42, eL_43, eL_45, eL_47, eL_48, eL_49, eL_50, eL_57, eL_59, eL_60, eL_61, eL_90, eL_96, eL_97, eL_100, eL_122, eL_160, eL_161, eL_255, eL_300, eL_343, eL_999, eL_1000, eL_1920, eL_9999, eL_10000, eL_999999, eL_100000, eL_1000000, ↓reduceIte, ↓bl_e, bd_e, u1_f, u1_s, u2_f, u2_s, w_cl, w_ltT, w_ltF, w_leT, w_leF, w_eqT, w_eqF, w_mlt, w_ltm, w_mle, w_lem, w_eqm, w_meq, w_mltm, nI_add, w_sub, w_addm, up_s, up_n, ud_s, ud_n, ck_n, bz_0, bz_1]
        · rw [if_neg (fun e => hlt e.2), show j + 1 + 2 = j + 2 + 1 by omega]
          simp (disch := omega) only [lp_X12_most_5_b, j_X12_most_36, j_X12_most_48, b1, ↓eM, eL_0, eL_1, eL_2, eL_3, eL_4, eL_5, eL_6, eL_7, eL_8, eL_9, eL_10, eL_11, eL_12, eL_15, eL_16, eL_20, eL_24, eL_30, eL_31, eL_32, eL_39, eL_40, eL_41, eL_42, eL_43, eL_45, eL_47, eL_48, eL_49, eL_50, eL_57, eL_59, eL_60, eL_61, eL_90, eL_96, eL_97, eL_100, eL_122, eL_160, eL_161, eL_255, eL_300, eL_343, eL_999, eL_1000, eL_1920, eL_9999, eL_10000, eL_999999, eL_100000, eL_1000000, ↓reduceIte, ↓bl_e, bd_e, u1_f, u1_s, u2_f, u2_s, w_cl, w_ltT, w_ltF, w_leT, w_leF, w_eqT, w_eqF, w_mlt, w_ltm, w_mle, w_lem, w_eqm, w_meq, w_mltm, nI_add, w_sub, w_addm, up_s, up_n, ud_s, ud_n, ck_n, bz_0, bz_1]
      · have := zbp_stop (u := u) (t := zTt u) (l := l) (b := b) (i := j) (by omega) (5 - j)
        rw [show j + (5 - j) = 5 by omega] at this
        rw [this]
        refine Or.inr ⟨_, rfl, fun back => ?_⟩
        simp (disch := omega) only [lp_X12_most_5_b, ↓eM, eL_0, eL_1, eL_2, eL_3, eL_4, eL_5, eL_6, eL_7, eL_8, eL_9, eL_10, eL_11, eL_12, eL_15, eL_16, eL_20, eL_24, eL_30, eL_31, eL_32, eL_39, eL_40, eL_41, eL_42, eL_43, eL_45, eL_47, eL_48, eL_49, eL_50, eL_57, eL_59, eL_60, eL_61, eL_90, eL_96, eL_97, eL_100, eL_122, eL_160, eL_161, eL_255, eL_300, eL_343, eL_999, eL_1000, eL_1920, eL_9999, eL_10000, eL_999999, eL_100000, eL_1000000, ↓reduceIte, ↓bl_e, bd_e, u1_f, u1_s, u2_f, u2_s, w_cl, w_ltT, w_ltF, w_leT, w_leF, w_eqT, w_eqF, w_mlt, w_ltm, w_mle, w_lem, w_eqm, w_meq, w_mltm, nI_add, w_sub, w_addm, up_s, up_n, ud_s, ud_n, ck_n, bz_0, bz_1]
  · rintro _ (⟨h, rfl⟩ | ⟨j, hj, rfl⟩)
    · omega
    · obtain rfl : j = 5 := by omega
      refine ⟨_, rfl, fun back => ?_⟩
      simp (disch := omega) only [lp_X12_most_5_b, ↓eM, eL_0, eL_1, eL_2, eL_3, eL_4, eL_5, eL_6, eL_7, eL_8, eL_9, eL_10, eL_11, eL_12, eL_15, eL_16, eL_20, eL_24, eL_30, eL_31, eL_32, eL_39, eL_40, eL_41, eL_42, eL_43, eL_45, eL_47, eL_48, eL_49, eL_50, eL_57, eL_59, eL_60, eL_61, eL_90, eL_96, eL_97, eL_100, eL_122, eL_160, eL_161, eL_255, eL_300, eL_343, eL_999, eL_1000, eL_1920, eL_9999, eL_10000, eL_999999, eL_100000, eL_1000000, ↓reduceIte, ↓bl_e, bd_e, u1_f, u1_s, u2_f, u2_s, w_cl, w_ltT, w_ltF, w_leT, w_leF, w_eqT, w_eqF, w_mlt, w_ltm, w_mle, w_lem, w_eqm, w_meq, w_mltm, nI_add, w_sub, w_addm, up_s, up_n, ud_s, ud_n, ck_n, bz_0, bz_1]
end FISH
