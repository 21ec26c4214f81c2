/-! LAYER 3: texts: ends of words and numbers -/
def isLt (b : Nat) : Bool := decide (97 ≤ b) && decide (b ≤ 122)
def isDg (b : Nat) : Bool := decide (48 ≤ b) && decide (b ≤ 57)
/-- where a run of such bytes ends -/
def nd (P : Nat → Bool) (B : Nat → Nat) : Nat → Nat → Nat
  | 0, i => i
  | n + 1, i => if P (B i) = true then nd P B n (i + 1) else i
theorem nd_rng {P : Nat → Bool} {B : Nat → Nat} : ∀ n i, i ≤ nd P B n i ∧ nd P B n i ≤ i + n
  | 0, i => ⟨Nat.le_refl _, Nat.le_refl _⟩
  | n + 1, i => by
    have ih := nd_rng (P := P) (B := B) n (i + 1)
    show i ≤ (if P (B i) = true then nd P B n (i + 1) else i) ∧ (if P (B i) = true then nd P B n (i + 1) else i) ≤ i + (n + 1)
    split <;> omega
section LEX
variable {N : Nat} {S : SH} {x : DY} {B : Nat → Nat} {Z : Nat}
theorem x_letter {b : Nat} (h : b < 256) : f_X5_isLetter N S (nI b) x = some (bI (isLt b)) := by
  unfold isLt
  by_cases h1 : 97 ≤ b
  · by_cases h2 : b ≤ 122
    · rw [decide_eq_true h1, decide_eq_true h2]
      show _ = some (nI 1)
      simp (disch := omega) only [f_X5_isLetter, ↓eM, eL_0, eL_1, eL_2, eL_3, eL_4, eL_5, eL_6, eL_7, eL_8, eL_9, eL_10, eL_11, eL_12, eL_15, eL_16, eL_20, eL_24, eL_30, eL_31, eL_32, eL_39, eL_40, eL_41, eL_42, eL_43, eL_45, eL_47, eL_48, eL_49, eL_50, eL_57, eL_59, eL_60, eL_61, eL_90, eL_96, eL_97, eL_100, eL_122, eL_160, eL_161, eL_255, eL_300, eL_343, eL_999, eL_1000, eL_1920, eL_9999, eL_10000, eL_999999, eL_100000, eL_1000000, ↓reduceIte, ↓bl_e, bd_e, u1_f, u1_s, u2_f, u2_s, w_cl, w_ltT, w_ltF, w_leT, w_leF, w_eqT, w_eqF, w_mlt, w_ltm, w_mle, w_lem, w_eqm, w_meq, w_mltm, nI_add, w_sub, w_addm, up_s, up_n, ud_s, ud_n, ck_n, bz_0, bz_1]
    · rw [decide_eq_true h1, decide_eq_false h2]
      show _ = some (nI 0)
      simp (disch := omega) only [f_X5_isLetter, ↓eM, eL_0, eL_1, eL_2, eL_3, eL_4, eL_5, eL_6, eL_7, eL_8, eL_9, eL_10, eL_11, eL_12, eL_15, eL_16, eL_20, eL_24, eL_30, eL_31, eL_32, eL_39, eL_40, eL_41, eL_42, eL_43, eL_45, eL_47, eL_48, eL_49, eL_50, eL_57, eL_59, eL_60, eL_61, eL_90, eL_96, eL_97, eL_100, eL_122, eL_160, eL_161, eL_255, eL_300, eL_343, eL_999, eL_1000, eL_1920, eL_9999, eL_10000, eL_999999, eL_100000, eL_1000000, ↓reduceIte, ↓bl_e, bd_e, u1_f, u1_s, u2_f, u2_s, w_cl, w_ltT, w_ltF, w_leT, w_leF, w_eqT, w_eqF, w_mlt, w_ltm, w_mle, w_lem, w_eqm, w_meq, w_mltm, nI_add, w_sub, w_addm, up_s, up_n, ud_s, ud_n, ck_n, bz_0, bz_1]
  · rw [decide_eq_false h1]
    show _ = some (nI 0)
    simp (disch := omega) only [f_X5_isLetter, ↓eM, eL_0, eL_1, eL_2, eL_3, eL_4, eL_5, eL_6, eL_7, eL_8, eL_9, eL_10, eL_11, eL_12, eL_15, eL_16, eL_20, eL_24, eL_30, eL_31, eL_32, eL_39, eL_40, eL_41, eL_42, eL_43, eL_45, eL_47, eL_48, eL_49, eL_50, eL_57, eL_59, eL_60, eL_61, eL_90, eL_96, eL_97, eL_100, eL_122, eL_160, eL_161, eL_255, eL_300, eL_343, eL_999, eL_1000, eL_1920, eL_9999, eL_10000, eL_999999, eL_100000, eL_1000000, ↓reduceIte, ↓bl_e, bd_e, u1_f, u1_s, u2_f, u2_s, w_cl, w_ltT, w_ltF, w_leT, w_leF, w_eqT, w_eqF, w_mlt, w_ltm, w_mle, w_lem, w_eqm, w_meq, w_mltm, nI_add, w_sub, w_addm, up_s, up_n, ud_s, ud_n, ck_n, bz_0, bz_1]
theorem x_digit {b : Nat} (h : b < 256) : f_X5_isDigit N S (nI b) x = some (bI (isDg b)) := by
  unfold isDg
  have e48 : (48 : Int32) = nI 48 := rfl
  have e57 : (57 : Int32) = nI 57 := rfl
  by_cases h1 : 48 ≤ b
  · by_cases h2 : b ≤ 57
    · rw [decide_eq_true h1, decide_eq_true h2]
      show _ = some (nI 1)
      simp (disch := omega) only [f_X5_isDigit, e48, e57, ↓eM, eL_0, eL_1, eL_2, eL_3, eL_4, eL_5, eL_6, eL_7, eL_8, eL_9, eL_10, eL_11, eL_12, eL_15, eL_16, eL_20, eL_24, eL_30, eL_31, eL_32, eL_39, eL_40, eL_41, eL_42, eL_43, eL_45, eL_47, eL_48, eL_49, eL_50, eL_57, eL_59, eL_60, eL_61, eL_90, eL_96, eL_97, eL_100, eL_122, eL_160, eL_161, eL_255, eL_300, eL_343, eL_999, eL_1000, eL_1920, eL_9999, eL_10000, eL_999999, eL_100000, eL_1000000, ↓reduceIte, ↓bl_e, bd_e, u1_f, u1_s, u2_f, u2_s, w_cl, w_ltT, w_ltF, w_leT, w_leF, w_eqT, w_eqF, w_mlt, w_ltm, w_mle, w_lem, w_eqm, w_meq, w_mltm, nI_add, w_sub, w_addm, up_s, up_n, ud_s, ud_n, ck_n, bz_0, bz_1]
    · rw [decide_eq_true h1, decide_eq_false h2]
      show _ = some (nI 0)
      simp (disch := omega) only [f_X5_isDigit, e48, e57, ↓eM, eL_0, eL_1, eL_2, eL_3, eL_4, eL_5, eL_6, eL_7, eL_8, eL_9, eL_10, eL_11, eL_12, eL_15, eL_16, eL_20, eL_24, eL_30, eL_31, eL_32, eL_39, eL_40, eL_41, eL_42, eL_43, eL_45, eL_47, eL_48, eL_49, eL_50, eL_57, eL_59, eL_60, eL_61, eL_90, eL_96, eL_97, eL_100, eL_122, eL_160, eL_161, eL_255, eL_300, eL_343, eL_999, eL_1000, eL_1920, eL_9999, eL_10000, eL_999999, eL_100000, eL_1000000, ↓reduceIte, ↓bl_e, bd_e, u1_f, u1_s, u2_f, u2_s, w_cl, w_ltT, w_ltF, w_leT, w_leF, w_eqT, w_eqF, w_mlt, w_ltm, w_mle, w_lem, w_eqm, w_meq, w_mltm, nI_add, w_sub, w_addm, up_s, up_n, ud_s, ud_n, ck_n, bz_0, bz_1]
  · rw [decide_eq_false h1]
    show _ = some (nI 0)
    simp (disch := omega) only [f_X5_isDigit, e48, e57, ↓eM, eL_0, eL_1, eL_2, eL_3, eL_4, eL_5, eL_6, eL_7, eL_8, eL_9, eL_10, eL_11, eL_12, eL_15, eL_16, eL_20, eL_24, eL_30, eL_31, eL_32, eL_39, eL_40, eL_41, eL_42, eL_43, eL_45, eL_47, eL_48, eL_49, eL_50, eL_57, eL_59, eL_60, eL_61, eL_90, eL_96, eL_97, eL_100, eL_122, eL_160, eL_161, eL_255, eL_300, eL_343, eL_999, eL_1000, eL_1920, eL_9999, eL_10000, eL_999999, eL_100000, eL_1000000, ↓reduceIte, ↓bl_e, bd_e, u1_f, u1_s, u2_f, u2_s, w_cl, w_ltT, w_ltF, w_leT, w_leF, w_eqT, w_eqF, w_mlt, w_ltm, w_mle, w_lem, w_eqm, w_meq, w_mltm, nI_add, w_sub, w_addm, up_s, up_n, ud_s, ud_n, ck_n, bz_0, bz_1]
theorem x_wordEnd (hN : 600 ≤ N) (hX : SX S) (hZ : Z ≤ 160) (h1 : x.1 49 1 = nI Z) (hB : ∀ i, i < Z → B i < 256 ∧ x.1 50 i = nI (B i)) {i0 : Nat} (hi : i0 ≤ Z) : f_X5_endOfWord N S 49 (nI i0) x = some (nI (nd isLt B (Z - i0) i0)) := by
  unfold f_X5_endOfWord lp_X5_endOfWord_2
  refine z_itr1 (fun j (a : Int32) => a = nI (i0 + j) ∧ nd isLt B (Z - (i0 + j)) (i0 + j) = nd isLt B (Z - i0) i0) (fun q => q = some (nI (nd isLt B (Z - i0) i0))) (Z - i0) ?_ ?_ (Z - i0) 0 _ N (by omega) (by omega) ⟨rfl, rfl⟩
  · rintro j _ hj ⟨rfl, e⟩
    obtain ⟨b1, b2⟩ := hB (i0 + j) (by omega)
    obtain ⟨m, hm⟩ : ∃ m, Z - (i0 + j) = m + 1 := ⟨Z - (i0 + j) - 1, by omega⟩
    rw [hm] at e
    have e' : (if isLt (B (i0 + j)) = true then nd isLt B m (i0 + j + 1) else i0 + j) = nd isLt B (Z - i0) i0 := e
    have hl := x_letter (N := N) (S := S) (x := x) b1
    by_cases hb : isLt (B (i0 + j)) = true
    · rw [if_pos hb] at e'
      have hl' : f_X5_isLetter N S (nI (B (i0 + j))) x = some (nI 1) := by rw [hl, hb]; rfl
      refine Or.inl ⟨nI (i0 + (j + 1)), ⟨rfl, by rw [show Z - (i0 + (j + 1)) = m by omega]; exact e'⟩, fun back => ?_⟩
      simp (disch := (first | omega | (simp only [sx_l42 hX, sx_l43 hX, sx_l44 hX, sx_l46 hX, sx_l50 hX, sx_l51 hX, sx_l52 hX, sx_l53 hX, sx_l54 hX, sx_l56 hX, sx_l57 hX, sx_l58 hX, sx_l60 hX, sx_l61 hX, sx_l62 hX, sx_l63 hX, sx_l64 hX, sx_l65 hX, sx_l66 hX, sx_l88 hX, sx_l89 hX, sx_l90 hX, sx_l0 hX, sx_l1 hX, sx_l2 hX, sx_l5 hX, sx_l6 hX, sx_l7 hX, sx_l8 hX, sx_l9 hX, sx_l10 hX, sx_l11 hX, sx_l12 hX, sx_l13 hX, sx_l14 hX, sx_l15 hX]; omega))) only [lp_X5_endOfWord_2_b, sx_m0 hX, sx_m1 hX, sx_m2 hX, sx_c0 hX, sx_c1 hX, sx_c2 hX, sx_c3 hX, sx_c4 hX, sx_c5 hX, sx_c6 hX, sx_u0 hX, sx_t0 hX, sx_t2 hX, sx_t3 hX, sx_t4 hX, sx_t7 hX, sx_f0 hX, sx_f1 hX, sx_f2 hX, sx_h0 hX, sx_h1 hX, sx_h2 hX, sx_g0 hX, sx_g1 hX, sx_g2 hX, h1, b2, hl', Nat.add_assoc, ↓eM, eL_0, eL_1, eL_2, eL_3, eL_4, eL_5, eL_6, eL_7, eL_8, eL_9, eL_10, eL_11, eL_12, eL_15, eL_16, eL_20, eL_24, eL_30, eL_31, eL_32, eL_39, eL_40, eL_41, eL_42, eL_43, eL_45, eL_47, eL_48, eL_49, eL_50, eL_57, eL_59, eL_60, eL_61, eL_90, eL_96, eL_97, eL_100, eL_122, eL_160, eL_161, eL_255, eL_300, eL_343, eL_999, eL_1000, eL_1920, eL_9999, eL_10000, eL_999999, eL_100000, eL_1000000, ↓reduceIte, ↓bl_e, bd_e, u1_f, u1_s, u2_f, u2_s, w_cl, w_ltT, w_ltF, w_leT, w_leF, w_eqT, w_eqF, w_mlt, w_ltm, w_mle, w_lem, w_eqm, w_meq, w_mltm, nI_add, w_sub, w_addm, up_s, up_n, ud_s, ud_n, ck_n, bz_0, bz_1]
    · rw [if_neg hb] at e'
      have hl' : f_X5_isLetter N S (nI (B (i0 + j))) x = some (nI 0) := by rw [hl]; simp only [bI, hb, if_false, Bool.false_eq_true]
      refine Or.inr ⟨_, rfl, fun back => ?_⟩
      rw [← e']
      simp (disch := (first | omega | (simp only [sx_l42 hX, sx_l43 hX, sx_l44 hX, sx_l46 hX, sx_l50 hX, sx_l51 hX, sx_l52 hX, sx_l53 hX, sx_l54 hX, sx_l56 hX, sx_l57 hX, sx_l58 hX, sx_l60 hX, sx_l61 hX, sx_l62 hX, sx_l63 hX, sx_l64 hX, sx_l65 hX, sx_l66 hX, sx_l88 hX, sx_l89 hX, sx_l90 hX, sx_l0 hX, sx_l1 hX, sx_l2 hX, sx_l5 hX, sx_l6 hX, sx_l7 hX, sx_l8 hX, sx_l9 hX, sx_l10 hX, sx_l11 hX, sx_l12 hX, sx_l13 hX, sx_l14 hX, sx_l15 hX]; omega))) only [lp_X5_endOfWord_2_b, sx_m0 hX, sx_m1 hX, sx_m2 hX, sx_c0 hX, sx_c1 hX, sx_c2 hX, sx_c3 hX, sx_c4 hX, sx_c5 hX, sx_c6 hX, sx_u0 hX, sx_t0 hX, sx_t2 hX, sx_t3 hX, sx_t4 hX, sx_t7 hX, sx_f0 hX, sx_f1 hX, sx_f2 hX, sx_h0 hX, sx_h1 hX, sx_h2 hX, sx_g0 hX, sx_g1 hX, sx_g2 hX, h1, b2, hl', ↓eM, eL_0, eL_1, eL_2, eL_3, eL_4, eL_5, eL_6, eL_7, eL_8, eL_9, eL_10, eL_11, eL_12, eL_15, eL_16, eL_20, eL_24, eL_30, eL_31, eL_32, eL_39, eL_40, eL_41, eL_42, eL_43, eL_45, eL_47, eL_48, eL_49, eL_50, eL_57, eL_59, eL_60, eL_61, eL_90, eL_96, eL_97, eL_100, eL_122, eL_160, eL_161, eL_255, eL_300, eL_343, eL_999, eL_1000, eL_1920, eL_9999, eL_10000, eL_999999, eL_100000, eL_1000000, ↓reduceIte, ↓bl_e, bd_e, u1_f, u1_s, u2_f, u2_s, w_cl, w_ltT, w_ltF, w_leT, w_leF, w_eqT, w_eqF, w_mlt, w_ltm, w_mle, w_lem, w_eqm, w_meq, w_mltm, nI_add, w_sub, w_addm, up_s, up_n, ud_s, ud_n, ck_n, bz_0, bz_1]
  · rintro _ ⟨rfl, e⟩
    rw [show Z - (i0 + (Z - i0)) = 0 by omega] at e
    have e' : i0 + (Z - i0) = nd isLt B (Z - i0) i0 := e
    refine ⟨_, rfl, fun back => ?_⟩
    rw [← e']
    simp (disch := (first | omega | (simp only [sx_l42 hX, sx_l43 hX, sx_l44 hX, sx_l46 hX, sx_l50 hX, sx_l51 hX, sx_l52 hX, sx_l53 hX, sx_l54 hX, sx_l56 hX, sx_l57 hX, sx_l58 hX, sx_l60 hX, sx_l61 hX, sx_l62 hX, sx_l63 hX, sx_l64 hX, sx_l65 hX, sx_l66 hX, sx_l88 hX, sx_l89 hX, sx_l90 hX, sx_l0 hX, sx_l1 hX, sx_l2 hX, sx_l5 hX, sx_l6 hX, sx_l7 hX, sx_l8 hX, sx_l9 hX, sx_l10 hX, sx_l11 hX, sx_l12 hX, sx_l13 hX, sx_l14 hX, sx_l15 hX]; omega))) only [lp_X5_endOfWord_2_b, h1, ↓eM, eL_0, eL_1, eL_2, eL_3, eL_4, eL_5, eL_6, eL_7, eL_8, eL_9, eL_10, eL_11, eL_12, eL_15, eL_16, eL_20, eL_24, eL_30, eL_31, eL_32, eL_39, eL_40, eL_41, eL_42, eL_43, eL_45, eL_47, eL_48, eL_49, eL_50, eL_57, eL_59, eL_60, eL_61, eL_90, eL_96, eL_97, eL_100, eL_122, eL_160, eL_161, eL_255, eL_300, eL_343, eL_999, eL_1000, eL_1920, eL_9999, eL_10000, eL_999999, eL_100000, eL_1000000, ↓reduceIte, ↓bl_e, bd_e, u1_f, u1_s, u2_f, u2_s, w_cl, w_ltT, w_ltF, w_leT, w_leF, w_eqT, w_eqF, w_mlt, w_ltm, w_mle, w_lem, w_eqm, w_meq, w_mltm, nI_add, w_sub, w_addm, up_s, up_n, ud_s, ud_n, ck_n, bz_0, bz_1]
theorem x_numEnd (hN : 600 ≤ N) (hX : SX S) (hZ : Z ≤ 160) (h1 : x.1 49 1 = nI Z) (hB : ∀ i, i < Z → B i < 256 ∧ x.1 50 i = nI (B i)) {i0 : Nat} (hi : i0 ≤ Z) : f_X5_endOfNumber N S 49 (nI i0) x = some (nI (nd isDg B (Z - i0) i0)) := by
  unfold f_X5_endOfNumber lp_X5_endOfNumber_2
  refine z_itr1 (fun j (a : Int32) => a = nI (i0 + j) ∧ nd isDg B (Z - (i0 + j)) (i0 + j) = nd isDg B (Z - i0) i0) (fun q => q = some (nI (nd isDg B (Z - i0) i0))) (Z - i0) ?_ ?_ (Z - i0) 0 _ N (by omega) (by omega) ⟨rfl, rfl⟩
  · rintro j _ hj ⟨rfl, e⟩
    obtain ⟨b1, b2⟩ := hB (i0 + j) (by omega)
    obtain ⟨m, hm⟩ : ∃ m, Z - (i0 + j) = m + 1 := ⟨Z - (i0 + j) - 1, by omega⟩
    rw [hm] at e
    have e' : (if isDg (B (i0 + j)) = true then nd isDg B m (i0 + j + 1) else i0 + j) = nd isDg B (Z - i0) i0 := e
    have hl := x_digit (N := N) (S := S) (x := x) b1
    by_cases hb : isDg (B (i0 + j)) = true
    · rw [if_pos hb] at e'
      have hl' : f_X5_isDigit N S (nI (B (i0 + j))) x = some (nI 1) := by rw [hl, hb]; rfl
      refine Or.inl ⟨nI (i0 + (j + 1)), ⟨rfl, by rw [show Z - (i0 + (j + 1)) = m by omega]; exact e'⟩, fun back => ?_⟩
      simp (disch := (first | omega | (simp only [sx_l42 hX, sx_l43 hX, sx_l44 hX, sx_l46 hX, sx_l50 hX, sx_l51 hX, sx_l52 hX, sx_l53 hX, sx_l54 hX, sx_l56 hX, sx_l57 hX, sx_l58 hX, sx_l60 hX, sx_l61 hX, sx_l62 hX, sx_l63 hX, sx_l64 hX, sx_l65 hX, sx_l66 hX, sx_l88 hX, sx_l89 hX, sx_l90 hX, sx_l0 hX, sx_l1 hX, sx_l2 hX, sx_l5 hX, sx_l6 hX, sx_l7 hX, sx_l8 hX, sx_l9 hX, sx_l10 hX, sx_l11 hX, sx_l12 hX, sx_l13 hX, sx_l14 hX, sx_l15 hX]; omega))) only [lp_X5_endOfNumber_2_b, sx_m0 hX, sx_m1 hX, sx_m2 hX, sx_c0 hX, sx_c1 hX, sx_c2 hX, sx_c3 hX, sx_c4 hX, sx_c5 hX, sx_c6 hX, sx_u0 hX, sx_t0 hX, sx_t2 hX, sx_t3 hX, sx_t4 hX, sx_t7 hX, sx_f0 hX, sx_f1 hX, sx_f2 hX, sx_h0 hX, sx_h1 hX, sx_h2 hX, sx_g0 hX, sx_g1 hX, sx_g2 hX, h1, b2, hl', Nat.add_assoc, ↓eM, eL_0, eL_1, eL_2, eL_3, eL_4, eL_5, eL_6, eL_7, eL_8, eL_9, eL_10, eL_11, eL_12, eL_15, eL_16, eL_20, eL_24, eL_30, eL_31, eL_32, eL_39, eL_40, eL_41, eL_42, eL_43, eL_45, eL_47, eL_48, eL_49, eL_50, eL_57, eL_59, eL_60, eL_61, eL_90, eL_96, eL_97, eL_100, eL_122, eL_160, eL_161, eL_255, eL_300, eL_343, eL_999, eL_1000, eL_1920, eL_9999, eL_10000, eL_999999, eL_100000, eL_1000000, ↓reduceIte, ↓bl_e, bd_e, u1_f, u1_s, u2_f, u2_s, w_cl, w_ltT, w_ltF, w_leT, w_leF, w_eqT, w_eqF, w_mlt, w_ltm, w_mle, w_lem, w_eqm, w_meq, w_mltm, nI_add, w_sub, w_addm, up_s, up_n, ud_s, ud_n, ck_n, bz_0, bz_1]
    · rw [if_neg hb] at e'
      have hl' : f_X5_isDigit N S (nI (B (i0 + j))) x = some (nI 0) := by rw [hl]; simp only [bI, hb, if_false, Bool.false_eq_true]
      refine Or.inr ⟨_, rfl, fun back => ?_⟩
      rw [← e']
      simp (disch := (first | omega | (simp only [sx_l42 hX, sx_l43 hX, sx_l44 hX, sx_l46 hX, sx_l50 hX, sx_l51 hX, sx_l52 hX, sx_l53 hX, sx_l54 hX, sx_l56 hX, sx_l57 hX, sx_l58 hX, sx_l60 hX, sx_l61 hX, sx_l62 hX, sx_l63 hX, sx_l64 hX, sx_l65 hX, sx_l66 hX, sx_l88 hX, sx_l89 hX, sx_l90 hX, sx_l0 hX, sx_l1 hX, sx_l2 hX, sx_l5 hX, sx_l6 hX, sx_l7 hX, sx_l8 hX, sx_l9 hX, sx_l10 hX, sx_l11 hX, sx_l12 hX, sx_l13 hX, sx_l14 hX, sx_l15 hX]; omega))) only [lp_X5_endOfNumber_2_b, sx_m0 hX, sx_m1 hX, sx_m2 hX, sx_c0 hX, sx_c1 hX, sx_c2 hX, sx_c3 hX, sx_c4 hX, sx_c5 hX, sx_c6 hX, sx_u0 hX, sx_t0 hX, sx_t2 hX, sx_t3 hX, sx_t4 hX, sx_t7 hX, sx_f0 hX, sx_f1 hX, sx_f2 hX, sx_h0 hX, sx_h1 hX, sx_h2 hX, sx_g0 hX, sx_g1 hX, sx_g2 hX, h1, b2, hl', ↓eM, eL_0, eL_1, eL_2, eL_3, eL_4, eL_5, eL_6, eL_7, eL_8, eL_9, eL_10, eL_11, eL_12, eL_15, eL_16, eL_20, eL_24, eL_30, eL_31, eL_32, eL_39, eL_40, eL_41, eL_42, eL_43, eL_45, eL_47, eL_48, eL_49, eL_50, eL_57, eL_59, eL_60, eL_61, eL_90, eL_96, eL_97, eL_100, eL_122, eL_160, eL_161, eL_255, eL_300, eL_343, eL_999, eL_1000, eL_1920, eL_9999, eL_10000, eL_999999, eL_100000, eL_1000000, ↓reduceIte, ↓bl_e, bd_e, u1_f, u1_s, u2_f, u2_s, w_cl, w_ltT, w_ltF, w_leT, w_leF, w_eqT, w_eqF, w_mlt, w_ltm, w_mle, w_lem, w_eqm, w_meq, w_mltm, nI_add, w_sub, w_addm, up_s, up_n, ud_s, ud_n, ck_n, bz_0, bz_1]
  · rintro _ ⟨rfl, e⟩
    rw [show Z - (i0 + (Z - i0)) = 0 by omega] at e
    have e' : i0 + (Z - i0) = nd isDg B (Z - i0) i0 := e
    refine ⟨_, rfl, fun back => ?_⟩
    rw [← e']
    simp (disch := (first | omega | (simp only [sx_l42 hX, sx_l43 hX, sx_l44 hX, sx_l46 hX, sx_l50 hX, sx_l51 hX, sx_l52 hX, sx_l53 hX, sx_l54 hX, sx_l56 hX, sx_l57 hX, sx_l58 hX, sx_l60 hX, sx_l61 hX, sx_l62 hX, sx_l63 hX, sx_l64 hX, sx_l65 hX, sx_l66 hX, sx_l88 hX, sx_l89 hX, sx_l90 hX, sx_l0 hX, sx_l1 hX, sx_l2 hX, sx_l5 hX, sx_l6 hX, sx_l7 hX, sx_l8 hX, sx_l9 hX, sx_l10 hX, sx_l11 hX, sx_l12 hX, sx_l13 hX, sx_l14 hX, sx_l15 hX]; omega))) only [lp_X5_endOfNumber_2_b, h1, ↓eM, eL_0, eL_1, eL_2, eL_3, eL_4, eL_5, eL_6, eL_7, eL_8, eL_9, eL_10, eL_11, eL_12, eL_15, eL_16, eL_20, eL_24, eL_30, eL_31, eL_32, eL_39, eL_40, eL_41, eL_42, eL_43, eL_45, eL_47, eL_48, eL_49, eL_50, eL_57, eL_59, eL_60, eL_61, eL_90, eL_96, eL_97, eL_100, eL_122, eL_160, eL_161, eL_255, eL_300, eL_343, eL_999, eL_1000, eL_1920, eL_9999, eL_10000, eL_999999, eL_100000, eL_1000000, ↓reduceIte, ↓bl_e, bd_e, u1_f, u1_s, u2_f, u2_s, w_cl, w_ltT, w_ltF, w_leT, w_leF, w_eqT, w_eqF, w_mlt, w_ltm, w_mle, w_lem, w_eqm, w_meq, w_mltm, nI_add, w_sub, w_addm, up_s, up_n, ud_s, ud_n, ck_n, bz_0, bz_1]
end LEX
