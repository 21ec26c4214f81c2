/-! LAYER 3: texts: the class cuts the tape into tokens -/
theorem sg_all : ∀ b, b < 256 → (if nI b = 40 then some (1 : Int32) else (if nI b = 41 then some 1 else (if nI b = 42 then some 1 else (if nI b = 43 then some 1 else (if nI b = 44 then some 0 else (if nI b = 45 then some 1 else (if nI b = 46 then some 0 else (if nI b = 47 then some 0 else (if nI b = 48 then some 0 else (if nI b = 49 then some 0 else (if nI b = 50 then some 0 else (if nI b = 51 then some 0 else (if nI b = 52 then some 0 else (if nI b = 53 then some 0 else (if nI b = 54 then some 0 else (if nI b = 55 then some 0 else (if nI b = 56 then some 0 else (if nI b = 57 then some 0 else (if nI b = 58 then some 0 else (if nI b = 59 then some 1 else (if nI b = 60 then some 1 else (if nI b = 61 then some 1 else some 0)))))))))))))))))))))) = some (bI (isSg b)) := by decide +kernel
section TOKS
variable {N : Nat} {S : SH} {x : DY} {B : Nat → Nat} {Z : Nat}
theorem x_isSign {b : Nat} (h : b < 256) : f_X5_isSign N S (nI b) x = some (bI (isSg b)) := sg_all b h
def zCu (B : Nat → Nat) (Z : Nat) (x : DY) (A : List (ZT × Nat)) (i : Nat) (x' : DY) : Prop :=
  (∀ b, b ≠ 49 → b ≠ 51 → b ≠ 52 → b ≠ 53 → x'.1 b = x.1 b) ∧ x'.2 = x.2 ∧ (∀ k, k ≠ 5 → x'.1 49 k = x.1 49 k) ∧ A.length ≤ i ∧ i ≤ Z ∧ A ++ LX B Z i = LX B Z 0 ∧ x'.1 49 5 = nI A.length ∧ ∀ j t s, A[j]? = some (t, s) → x'.1 51 j = tkC (some t) ∧ x'.1 52 j = nI s ∧ x'.1 53 j = opX t
theorem zCu.add {A : List (ZT × Nat)} {i : Nat} {x' : DY} (h : zCu B Z x A i x') (hi : i < Z) (hZ : Z ≤ 160) (hb : ¬ (B i = 32 ∨ B i = 10)) {t : ZT} {e : Nat} (ht : tkA B Z i = (t, e)) : zCu B Z x (A ++ [(t, i)]) e (tkU x' A.length (tkC (some t)) i (opX t)) := by
  obtain ⟨h1, h2, h3, h4, h5, h6, h7, h8⟩ := h
  have hr := tk_rng (B := B) hi
  have hl := LX_tk (B := B) hi hb
  rw [ht] at hr hl
  have hr1 : i < e := hr.1
  have hr2 : e ≤ Z := hr.2
  have hlen : (A ++ [(t, i)]).length = A.length + 1 := by rw [List.length_append]; rfl
  refine ⟨fun b b1 b2 b3 b4 => ?_, h2, fun k hk => ?_, by rw [hlen]; omega, hr2, ?_, ?_, fun j t' s' hj => ?_⟩
  · unfold tkU
    simp (disch := omega) only [u1_f, u1_s, u2_f, u2_s, up_s, up_n, ud_s, ud_n]; exact h1 b b1 b2 b3 b4
  · unfold tkU
    simp (disch := omega) only [u1_f, u1_s, u2_f, u2_s, up_s, up_n, ud_s, ud_n]; exact h3 k hk
  · rw [List.append_assoc, ← h6, hl]; rfl
  · rw [hlen]
    unfold tkU
    simp (disch := omega) only [u1_f, u1_s, u2_f, u2_s, up_s, up_n, ud_s, ud_n]
  · unfold tkU
    simp (disch := omega) only [u1_f, u1_s, u2_f, u2_s, up_s, up_n, ud_s, ud_n]
    by_cases e : j = A.length
    · subst e
      rw [List.getElem?_append_right (Nat.le_refl _), Nat.sub_self] at hj
      have hj' : some (t, i) = some (t', s') := hj
      injection hj' with hj'
      injection hj' with e1 e2
      subst e1; subst e2
      exact ⟨ud_s, ud_s, ud_s⟩
    · have hjl : j < A.length := by
        have : j < (A ++ [(t, i)]).length := by
          rcases Nat.lt_or_ge j (A ++ [(t, i)]).length with h | h
          · exact h
          · rw [List.getElem?_eq_none h] at hj; cases hj
        rw [hlen] at this; omega
      rw [List.getElem?_append_left hjl] at hj
      rw [ud_n e, ud_n e, ud_n e]
      exact h8 j t' s' hj
set_option maxHeartbeats 1600000 in
theorem x_cut (hN : 600 ≤ N) (hX : SX S) (hE : zEX x) (hZ : Z ≤ 160) (h1 : x.1 49 1 = nI Z) (hB : ∀ i, i < Z → B i < 256 ∧ x.1 50 i = nI (B i)) : ∃ x', f_X5_cutTokens N S 49 x = some x' ∧ zCu B Z x (LX B Z 0) Z x' := by
  have e0 : f_X5_cutTokens N S 49 x = lp_X5_cutTokens_9 N S 49 (nI 0) (nI 0) (U1 x 49 5 (nI 0)) := rfl
  rw [e0]
  unfold lp_X5_cutTokens_9
  refine z_itr1 (fun j (a : Int32 × Int32 × DY) => ∃ i x' A, a = (nI i, nI j, x') ∧ j ≤ i ∧ zCu B Z x A i x') (fun q => ∃ x', q = some x' ∧ zCu B Z x (LX B Z 0) Z x') Z ?_ ?_ Z 0 _ N (by omega) (by omega) ⟨0, _, [], rfl, Nat.le_refl _, fun b b1 b2 b3 b4 => by simp (disch := omega) only [u1_f, u1_s, u2_f, u2_s, up_s, up_n, ud_s, ud_n], rfl, fun k hk => by simp (disch := omega) only [u1_f, u1_s, u2_f, u2_s, up_s, up_n, ud_s, ud_n], Nat.le_refl _, Nat.zero_le _, rfl, by simp (disch := omega) only [u1_f, u1_s, u2_f, u2_s, up_s, up_n, ud_s, ud_n]; rfl, fun j t s hj => by cases hj⟩
  · rintro j _ hj ⟨i, x', A, rfl, hji, hc⟩
    have hc' := hc
    obtain ⟨c1, c2, c3, c4, c5, c6, c7, c8⟩ := hc'
    have hz1 : x'.1 49 1 = nI Z := (c3 1 (by omega)).trans h1
    by_cases hi : i < Z
    · have hBx : ∀ i, i < Z → B i < 256 ∧ x'.1 50 i = nI (B i) := fun i hi => by rw [c1 50 (by omega) (by omega) (by omega) (by omega)]; exact hB i hi
      have hEx : zEX x' := fun a ha q hq => by rw [c1 a (by omega) (by omega) (by omega) (by omega)]; exact hE a ha q hq
      obtain ⟨b1, b2⟩ := hBx i hi
      have hlt := x_letter (N := N) (S := S) (x := x') b1
      have hdg := x_digit (N := N) (S := S) (x := x') b1
      have hsg := x_isSign (N := N) (S := S) (x := x') b1
      by_cases g1 : isLt (B i) = true
      · have hnb : ¬ (B i = 32 ∨ B i = 10) := by
          unfold isLt at g1
          rw [Bool.and_eq_true, decide_eq_true_iff, decide_eq_true_iff] at g1
          omega
        have hlt' : f_X5_isLetter N S (nI (B i)) x' = some (nI 1) := by rw [hlt, g1]; rfl
        obtain ⟨r1, r2⟩ := nd_gt (B := B) hi g1
        have he := x_wordEnd (N := N) (x := x') hN hX hZ hz1 hBx (Nat.le_of_lt hi)
        have hw := x_word (N := N) (x := x') hN hX hEx hZ hz1 hBx c7 (by omega) (Nat.le_of_lt r1) r2
        have ht : tkA B Z i = (wdT (sp B i (nd isLt B (Z - i) i)), nd isLt B (Z - i) i) := by unfold tkA; rw [if_pos g1]
        refine Or.inl ⟨_, ⟨_, _, _, rfl, by omega, hc.add hi hZ hnb ht⟩, fun back => ?_⟩
        simp (disch := (first | omega | (simp only [sx_l42 hX, sx_l43 hX, sx_l44 hX, sx_l46 hX, sx_l50 hX, sx_l51 hX, sx_l52 hX, sx_l53 hX, sx_l54 hX, sx_l56 hX, sx_l57 hX, sx_l58 hX, sx_l60 hX, sx_l61 hX, sx_l62 hX, sx_l63 hX, sx_l64 hX, sx_l65 hX, sx_l66 hX, sx_l88 hX, sx_l89 hX, sx_l90 hX, sx_l0 hX, sx_l1 hX, sx_l2 hX, sx_l5 hX, sx_l6 hX, sx_l7 hX, sx_l8 hX, sx_l9 hX, sx_l10 hX, sx_l11 hX, sx_l12 hX, sx_l13 hX, sx_l14 hX, sx_l15 hX]; omega))) only [lp_X5_cutTokens_9_b, j_X5_cutTokens_117, sx_m0 hX, sx_m1 hX, sx_m2 hX, sx_c0 hX, sx_c1 hX, sx_c2 hX, sx_c3 hX, sx_c4 hX, sx_c5 hX, sx_c6 hX, sx_u0 hX, sx_t0 hX, sx_t2 hX, sx_t3 hX, sx_t4 hX, sx_t7 hX, sx_f0 hX, sx_f1 hX, sx_f2 hX, sx_h0 hX, sx_h1 hX, sx_h2 hX, sx_g0 hX, sx_g1 hX, sx_g2 hX, hz1, b2, hlt', he, hw, ↓eM, eL_0, eL_1, eL_2, eL_3, eL_4, eL_5, eL_6, eL_7, eL_8, eL_9, eL_10, eL_11, eL_12, eL_15, eL_16, eL_20, eL_24, eL_30, eL_31, eL_32, eL_39, eL_40, eL_41, eL_42, eL_43, eL_45, eL_47, eL_48, eL_49, eL_50, eL_57, eL_59, eL_60, eL_61, eL_90, eL_96, eL_97, eL_100, eL_122, eL_160, eL_161, eL_255, eL_300, eL_343, eL_999, eL_1000, eL_1920, eL_9999, eL_10000, eL_999999, eL_100000, eL_1000000, ↓reduceIte, ↓bl_e, bd_e, u1_f, u1_s, u2_f, u2_s, w_cl, w_ltT, w_ltF, w_leT, w_leF, w_eqT, w_eqF, w_mlt, w_ltm, w_mle, w_lem, w_eqm, w_meq, w_mltm, nI_add, w_sub, w_addm, up_s, up_n, ud_s, ud_n, ck_n, bz_0, bz_1]
      have hlt' : f_X5_isLetter N S (nI (B i)) x' = some (nI 0) := by rw [hlt]; exact congrArg some (if_neg g1)
      by_cases g2 : isDg (B i) = true
      · have hnb : ¬ (B i = 32 ∨ B i = 10) := by
          unfold isDg at g2
          rw [Bool.and_eq_true, decide_eq_true_iff, decide_eq_true_iff] at g2
          omega
        have hdg' : f_X5_isDigit N S (nI (B i)) x' = some (nI 1) := by rw [hdg, g2]; rfl
        obtain ⟨r1, r2⟩ := nd_gt (B := B) hi g2
        have he := x_numEnd (N := N) (x := x') hN hX hZ hz1 hBx (Nat.le_of_lt hi)
        have hw := x_num (N := N) (x := x') hN hX hZ hBx c7 (by omega) (Nat.le_of_lt r1) r2 (fun q q1 q2 => nd_all _ _ _ q1 q2)
        have ht : tkA B Z i = ((if nd isDg B (Z - i) i - i ≤ 4 then 1 else 5, nu B i (nd isDg B (Z - i) i - i)), nd isDg B (Z - i) i) := by unfold tkA; rw [if_neg g1, if_pos g2]
        refine Or.inl ⟨_, ⟨_, _, _, rfl, by omega, hc.add hi hZ hnb ht⟩, fun back => ?_⟩
        simp (disch := (first | omega | (simp only [sx_l42 hX, sx_l43 hX, sx_l44 hX, sx_l46 hX, sx_l50 hX, sx_l51 hX, sx_l52 hX, sx_l53 hX, sx_l54 hX, sx_l56 hX, sx_l57 hX, sx_l58 hX, sx_l60 hX, sx_l61 hX, sx_l62 hX, sx_l63 hX, sx_l64 hX, sx_l65 hX, sx_l66 hX, sx_l88 hX, sx_l89 hX, sx_l90 hX, sx_l0 hX, sx_l1 hX, sx_l2 hX, sx_l5 hX, sx_l6 hX, sx_l7 hX, sx_l8 hX, sx_l9 hX, sx_l10 hX, sx_l11 hX, sx_l12 hX, sx_l13 hX, sx_l14 hX, sx_l15 hX]; omega))) only [lp_X5_cutTokens_9_b, j_X5_cutTokens_117, sx_m0 hX, sx_m1 hX, sx_m2 hX, sx_c0 hX, sx_c1 hX, sx_c2 hX, sx_c3 hX, sx_c4 hX, sx_c5 hX, sx_c6 hX, sx_u0 hX, sx_t0 hX, sx_t2 hX, sx_t3 hX, sx_t4 hX, sx_t7 hX, sx_f0 hX, sx_f1 hX, sx_f2 hX, sx_h0 hX, sx_h1 hX, sx_h2 hX, sx_g0 hX, sx_g1 hX, sx_g2 hX, hz1, b2, hlt', hdg', he, hw, ↓eM, eL_0, eL_1, eL_2, eL_3, eL_4, eL_5, eL_6, eL_7, eL_8, eL_9, eL_10, eL_11, eL_12, eL_15, eL_16, eL_20, eL_24, eL_30, eL_31, eL_32, eL_39, eL_40, eL_41, eL_42, eL_43, eL_45, eL_47, eL_48, eL_49, eL_50, eL_57, eL_59, eL_60, eL_61, eL_90, eL_96, eL_97, eL_100, eL_122, eL_160, eL_161, eL_255, eL_300, eL_343, eL_999, eL_1000, eL_1920, eL_9999, eL_10000, eL_999999, eL_100000, eL_1000000, ↓reduceIte, ↓bl_e, bd_e, u1_f, u1_s, u2_f, u2_s, w_cl, w_ltT, w_ltF, w_leT, w_leF, w_eqT, w_eqF, w_mlt, w_ltm, w_mle, w_lem, w_eqm, w_meq, w_mltm, nI_add, w_sub, w_addm, up_s, up_n, ud_s, ud_n, ck_n, bz_0, bz_1]
      have hdg' : f_X5_isDigit N S (nI (B i)) x' = some (nI 0) := by rw [hdg]; exact congrArg some (if_neg g2)
      by_cases hnb : B i = 32 ∨ B i = 10
      · refine Or.inl ⟨(nI (i + 1), nI (j + 1), x'), ⟨i + 1, x', A, rfl, by omega, c1, c2, c3, by omega, by omega, by rw [← LX_sk hi hnb]; exact c6, c7, c8⟩, fun back => ?_⟩
        rcases hnb with hb | hb
        · rw [hb] at b2 hlt' hdg'
          simp (disch := (first | omega | (simp only [sx_l42 hX, sx_l43 hX, sx_l44 hX, sx_l46 hX, sx_l50 hX, sx_l51 hX, sx_l52 hX, sx_l53 hX, sx_l54 hX, sx_l56 hX, sx_l57 hX, sx_l58 hX, sx_l60 hX, sx_l61 hX, sx_l62 hX, sx_l63 hX, sx_l64 hX, sx_l65 hX, sx_l66 hX, sx_l88 hX, sx_l89 hX, sx_l90 hX, sx_l0 hX, sx_l1 hX, sx_l2 hX, sx_l5 hX, sx_l6 hX, sx_l7 hX, sx_l8 hX, sx_l9 hX, sx_l10 hX, sx_l11 hX, sx_l12 hX, sx_l13 hX, sx_l14 hX, sx_l15 hX]; omega))) only [lp_X5_cutTokens_9_b, j_X5_cutTokens_117, sx_m0 hX, sx_m1 hX, sx_m2 hX, sx_c0 hX, sx_c1 hX, sx_c2 hX, sx_c3 hX, sx_c4 hX, sx_c5 hX, sx_c6 hX, sx_u0 hX, sx_t0 hX, sx_t2 hX, sx_t3 hX, sx_t4 hX, sx_t7 hX, sx_f0 hX, sx_f1 hX, sx_f2 hX, sx_h0 hX, sx_h1 hX, sx_h2 hX, sx_g0 hX, sx_g1 hX, sx_g2 hX, hz1, b2, hlt', hdg', ↓eM, eL_0, eL_1, eL_2, eL_3, eL_4, eL_5, eL_6, eL_7, eL_8, eL_9, eL_10, eL_11, eL_12, eL_15, eL_16, eL_20, eL_24, eL_30, eL_31, eL_32, eL_39, eL_40, eL_41, eL_42, eL_43, eL_45, eL_47, eL_48, eL_49, eL_50, eL_57, eL_59, eL_60, eL_61, eL_90, eL_96, eL_97, eL_100, eL_122, eL_160, eL_161, eL_255, eL_300, eL_343, eL_999, eL_1000, eL_1920, eL_9999, eL_10000, eL_999999, eL_100000, eL_1000000, ↓reduceIte, ↓bl_e, bd_e, u1_f, u1_s, u2_f, u2_s, w_cl, w_ltT, w_ltF, w_leT, w_leF, w_eqT, w_eqF, w_mlt, w_ltm, w_mle, w_lem, w_eqm, w_meq, w_mltm, nI_add, w_sub, w_addm, up_s, up_n, ud_s, ud_n, ck_n, bz_0, bz_1]
        · rw [hb] at b2 hlt' hdg'
          simp (disch := (first | omega | (simp only [sx_l42 hX, sx_l43 hX, sx_l44 hX, sx_l46 hX, sx_l50 hX, sx_l51 hX, sx_l52 hX, sx_l53 hX, sx_l54 hX, sx_l56 hX, sx_l57 hX, sx_l58 hX, sx_l60 hX, sx_l61 hX, sx_l62 hX, sx_l63 hX, sx_l64 hX, sx_l65 hX, sx_l66 hX, sx_l88 hX, sx_l89 hX, sx_l90 hX, sx_l0 hX, sx_l1 hX, sx_l2 hX, sx_l5 hX, sx_l6 hX, sx_l7 hX, sx_l8 hX, sx_l9 hX, sx_l10 hX, sx_l11 hX, sx_l12 hX, sx_l13 hX, sx_l14 hX, sx_l15 hX]; omega))) only [lp_X5_cutTokens_9_b, j_X5_cutTokens_117, sx_m0 hX, sx_m1 hX, sx_m2 hX, sx_c0 hX, sx_c1 hX, sx_c2 hX, sx_c3 hX, sx_c4 hX, sx_c5 hX, sx_c6 hX, sx_u0 hX, sx_t0 hX, sx_t2 hX, sx_t3 hX, sx_t4 hX, sx_t7 hX, sx_f0 hX, sx_f1 hX, sx_f2 hX, sx_h0 hX, sx_h1 hX, sx_h2 hX, sx_g0 hX, sx_g1 hX, sx_g2 hX, hz1, b2, hlt', hdg', ↓eM, eL_0, eL_1, eL_2, eL_3, eL_4, eL_5, eL_6, eL_7, eL_8, eL_9, eL_10, eL_11, eL_12, eL_15, eL_16, eL_20, eL_24, eL_30, eL_31, eL_32, eL_39, eL_40, eL_41, eL_42, eL_43, eL_45, eL_47, eL_48, eL_49, eL_50, eL_57, eL_59, eL_60, eL_61, eL_90, eL_96, eL_97, eL_100, eL_122, eL_160, eL_161, eL_255, eL_300, eL_343, eL_999, eL_1000, eL_1920, eL_9999, eL_10000, eL_999999, eL_100000, eL_1000000, ↓reduceIte, ↓bl_e, bd_e, u1_f, u1_s, u2_f, u2_s, w_cl, w_ltT, w_ltF, w_leT, w_leF, w_eqT, w_eqF, w_mlt, w_ltm, w_mle, w_lem, w_eqm, w_meq, w_mltm, nI_add, w_sub, w_addm, up_s, up_n, ud_s, ud_n, ck_n, bz_0, bz_1]
      have ha := fun v w => x_add (N := N) (S := S) (x := x') hX c7 (by omega) v i w
      by_cases g3 : isSg (B i) = true
      · have hsg' : f_X5_isSign N S (nI (B i)) x' = some (nI 1) := by rw [hsg, g3]; rfl
        have ht : tkA B Z i = ((4, B i), i + 1) := by unfold tkA; rw [if_neg g1, if_neg g2, if_pos g3]
        refine Or.inl ⟨_, ⟨_, _, _, rfl, by omega, hc.add hi hZ hnb ht⟩, fun back => ?_⟩
        simp (disch := (first | omega | (simp only [sx_l42 hX, sx_l43 hX, sx_l44 hX, sx_l46 hX, sx_l50 hX, sx_l51 hX, sx_l52 hX, sx_l53 hX, sx_l54 hX, sx_l56 hX, sx_l57 hX, sx_l58 hX, sx_l60 hX, sx_l61 hX, sx_l62 hX, sx_l63 hX, sx_l64 hX, sx_l65 hX, sx_l66 hX, sx_l88 hX, sx_l89 hX, sx_l90 hX, sx_l0 hX, sx_l1 hX, sx_l2 hX, sx_l5 hX, sx_l6 hX, sx_l7 hX, sx_l8 hX, sx_l9 hX, sx_l10 hX, sx_l11 hX, sx_l12 hX, sx_l13 hX, sx_l14 hX, sx_l15 hX]; omega))) only [lp_X5_cutTokens_9_b, j_X5_cutTokens_112, j_X5_cutTokens_117, sx_m0 hX, sx_m1 hX, sx_m2 hX, sx_c0 hX, sx_c1 hX, sx_c2 hX, sx_c3 hX, sx_c4 hX, sx_c5 hX, sx_c6 hX, sx_u0 hX, sx_t0 hX, sx_t2 hX, sx_t3 hX, sx_t4 hX, sx_t7 hX, sx_f0 hX, sx_f1 hX, sx_f2 hX, sx_h0 hX, sx_h1 hX, sx_h2 hX, sx_g0 hX, sx_g1 hX, sx_g2 hX, hz1, b2, hlt', hdg', hsg', ha, ↓eM, eL_0, eL_1, eL_2, eL_3, eL_4, eL_5, eL_6, eL_7, eL_8, eL_9, eL_10, eL_11, eL_12, eL_15, eL_16, eL_20, eL_24, eL_30, eL_31, eL_32, eL_39, eL_40, eL_41, eL_42, eL_43, eL_45, eL_47, eL_48, eL_49, eL_50, eL_57, eL_59, eL_60, eL_61, eL_90, eL_96, eL_97, eL_100, eL_122, eL_160, eL_161, eL_255, eL_300, eL_343, eL_999, eL_1000, eL_1920, eL_9999, eL_10000, eL_999999, eL_100000, eL_1000000, ↓reduceIte, ↓bl_e, bd_e, u1_f, u1_s, u2_f, u2_s, w_cl, w_ltT, w_ltF, w_leT, w_leF, w_eqT, w_eqF, w_mlt, w_ltm, w_mle, w_lem, w_eqm, w_meq, w_mltm, nI_add, w_sub, w_addm, up_s, up_n, ud_s, ud_n, ck_n, bz_0, bz_1]
        rfl
      · have hsg' : f_X5_isSign N S (nI (B i)) x' = some (nI 0) := by rw [hsg]; exact congrArg some (if_neg g3)
        have ht : tkA B Z i = ((5, 0), i + 1) := by unfold tkA; rw [if_neg g1, if_neg g2, if_neg g3]
        refine Or.inl ⟨_, ⟨_, _, _, rfl, by omega, hc.add hi hZ hnb ht⟩, fun back => ?_⟩
        simp (disch := (first | omega | (simp only [sx_l42 hX, sx_l43 hX, sx_l44 hX, sx_l46 hX, sx_l50 hX, sx_l51 hX, sx_l52 hX, sx_l53 hX, sx_l54 hX, sx_l56 hX, sx_l57 hX, sx_l58 hX, sx_l60 hX, sx_l61 hX, sx_l62 hX, sx_l63 hX, sx_l64 hX, sx_l65 hX, sx_l66 hX, sx_l88 hX, sx_l89 hX, sx_l90 hX, sx_l0 hX, sx_l1 hX, sx_l2 hX, sx_l5 hX, sx_l6 hX, sx_l7 hX, sx_l8 hX, sx_l9 hX, sx_l10 hX, sx_l11 hX, sx_l12 hX, sx_l13 hX, sx_l14 hX, sx_l15 hX]; omega))) only [lp_X5_cutTokens_9_b, j_X5_cutTokens_112, j_X5_cutTokens_117, sx_m0 hX, sx_m1 hX, sx_m2 hX, sx_c0 hX, sx_c1 hX, sx_c2 hX, sx_c3 hX, sx_c4 hX, sx_c5 hX, sx_c6 hX, sx_u0 hX, sx_t0 hX, sx_t2 hX, sx_t3 hX, sx_t4 hX, sx_t7 hX, sx_f0 hX, sx_f1 hX, sx_f2 hX, sx_h0 hX, sx_h1 hX, sx_h2 hX, sx_g0 hX, sx_g1 hX, sx_g2 hX, hz1, b2, hlt', hdg', hsg', ha, ↓eM, eL_0, eL_1, eL_2, eL_3, eL_4, eL_5, eL_6, eL_7, eL_8, eL_9, eL_10, eL_11, eL_12, eL_15, eL_16, eL_20, eL_24, eL_30, eL_31, eL_32, eL_39, eL_40, eL_41, eL_42, eL_43, eL_45, eL_47, eL_48, eL_49, eL_50, eL_57, eL_59, eL_60, eL_61, eL_90, eL_96, eL_97, eL_100, eL_122, eL_160, eL_161, eL_255, eL_300, eL_343, eL_999, eL_1000, eL_1920, eL_9999, eL_10000, eL_999999, eL_100000, eL_1000000, ↓reduceIte, ↓bl_e, bd_e, u1_f, u1_s, u2_f, u2_s, w_cl, w_ltT, w_ltF, w_leT, w_leF, w_eqT, w_eqF, w_mlt, w_ltm, w_mle, w_lem, w_eqm, w_meq, w_mltm, nI_add, w_sub, w_addm, up_s, up_n, ud_s, ud_n, ck_n, bz_0, bz_1]
        rfl
    · have hiZ : i = Z := by omega
      refine Or.inr ⟨some x', ⟨x', rfl, ?_⟩, fun back => ?_⟩
      · rw [hiZ] at hc c6
        rw [LX_end (Nat.le_refl _), List.append_nil] at c6
        rw [← c6]; exact hc
      · simp (disch := (first | omega | (simp only [sx_l42 hX, sx_l43 hX, sx_l44 hX, sx_l46 hX, sx_l50 hX, sx_l51 hX, sx_l52 hX, sx_l53 hX, sx_l54 hX, sx_l56 hX, sx_l57 hX, sx_l58 hX, sx_l60 hX, sx_l61 hX, sx_l62 hX, sx_l63 hX, sx_l64 hX, sx_l65 hX, sx_l66 hX, sx_l88 hX, sx_l89 hX, sx_l90 hX, sx_l0 hX, sx_l1 hX, sx_l2 hX, sx_l5 hX, sx_l6 hX, sx_l7 hX, sx_l8 hX, sx_l9 hX, sx_l10 hX, sx_l11 hX, sx_l12 hX, sx_l13 hX, sx_l14 hX, sx_l15 hX]; omega))) only [lp_X5_cutTokens_9_b, hz1, ↓eM, eL_0, eL_1, eL_2, eL_3, eL_4, eL_5, eL_6, eL_7, eL_8, eL_9, eL_10, eL_11, eL_12, eL_15, eL_16, eL_20, eL_24, eL_30, eL_31, eL_32, eL_39, eL_40, eL_41, eL_42, eL_43, eL_45, eL_47, eL_48, eL_49, eL_50, eL_57, eL_59, eL_60, eL_61, eL_90, eL_96, eL_97, eL_100, eL_122, eL_160, eL_161, eL_255, eL_300, eL_343, eL_999, eL_1000, eL_1920, eL_9999, eL_10000, eL_999999, eL_100000, eL_1000000, ↓reduceIte, ↓bl_e, bd_e, u1_f, u1_s, u2_f, u2_s, w_cl, w_ltT, w_ltF, w_leT, w_leF, w_eqT, w_eqF, w_mlt, w_ltm, w_mle, w_lem, w_eqm, w_meq, w_mltm, nI_add, w_sub, w_addm, up_s, up_n, ud_s, ud_n, ck_n, bz_0, bz_1]
  · rintro _ ⟨i, x', A, rfl, hji, hc⟩
    have hc' := hc
    obtain ⟨c1, c2, c3, c4, c5, c6, c7, c8⟩ := hc'
    have hz1 : x'.1 49 1 = nI Z := (c3 1 (by omega)).trans h1
    have hiZ : i = Z := by omega
    refine ⟨some x', ⟨x', rfl, ?_⟩, fun back => ?_⟩
    · rw [hiZ] at hc c6
      rw [LX_end (Nat.le_refl _), List.append_nil] at c6
      rw [← c6]; exact hc
    · by_cases h160 : Z = 160
      · simp (disch := (first | omega | (simp only [sx_l42 hX, sx_l43 hX, sx_l44 hX, sx_l46 hX, sx_l50 hX, sx_l51 hX, sx_l52 hX, sx_l53 hX, sx_l54 hX, sx_l56 hX, sx_l57 hX, sx_l58 hX, sx_l60 hX, sx_l61 hX, sx_l62 hX, sx_l63 hX, sx_l64 hX, sx_l65 hX, sx_l66 hX, sx_l88 hX, sx_l89 hX, sx_l90 hX, sx_l0 hX, sx_l1 hX, sx_l2 hX, sx_l5 hX, sx_l6 hX, sx_l7 hX, sx_l8 hX, sx_l9 hX, sx_l10 hX, sx_l11 hX, sx_l12 hX, sx_l13 hX, sx_l14 hX, sx_l15 hX]; omega))) only [lp_X5_cutTokens_9_b, ↓eM, eL_0, eL_1, eL_2, eL_3, eL_4, eL_5, eL_6, eL_7, eL_8, eL_9, eL_10, eL_11, eL_12, eL_15, eL_16, eL_20, eL_24, eL_30, eL_31, eL_32, eL_39, eL_40, eL_41, eL_42, eL_43, eL_45, eL_47, eL_48, eL_49, eL_50, eL_57, eL_59, eL_60, eL_61, eL_90, eL_96, eL_97, eL_100, eL_122, eL_160, eL_161, eL_255, eL_300, eL_343, eL_999, eL_1000, eL_1920, eL_9999, eL_10000, eL_999999, eL_100000, eL_1000000, ↓reduceIte, ↓bl_e, bd_e, u1_f, u1_s, u2_f, u2_s, w_cl, w_ltT, w_ltF, w_leT, w_leF, w_eqT, w_eqF, w_mlt, w_ltm, w_mle, w_lem, w_eqm, w_meq, w_mltm, nI_add, w_sub, w_addm, up_s, up_n, ud_s, ud_n, ck_n, bz_0, bz_1]
      · simp (disch := (first | omega | (simp only [sx_l42 hX, sx_l43 hX, sx_l44 hX, sx_l46 hX, sx_l50 hX, sx_l51 hX, sx_l52 hX, sx_l53 hX, sx_l54 hX, sx_l56 hX, sx_l57 hX, sx_l58 hX, sx_l60 hX, sx_l61 hX, sx_l62 hX, sx_l63 hX, sx_l64 hX, sx_l65 hX, sx_l66 hX, sx_l88 hX, sx_l89 hX, sx_l90 hX, sx_l0 hX, sx_l1 hX, sx_l2 hX, sx_l5 hX, sx_l6 hX, sx_l7 hX, sx_l8 hX, sx_l9 hX, sx_l10 hX, sx_l11 hX, sx_l12 hX, sx_l13 hX, sx_l14 hX, sx_l15 hX]; omega))) only [lp_X5_cutTokens_9_b, hz1, ↓eM, eL_0, eL_1, eL_2, eL_3, eL_4, eL_5, eL_6, eL_7, eL_8, eL_9, eL_10, eL_11, eL_12, eL_15, eL_16, eL_20, eL_24, eL_30, eL_31, eL_32, eL_39, eL_40, eL_41, eL_42, eL_43, eL_45, eL_47, eL_48, eL_49, eL_50, eL_57, eL_59, eL_60, eL_61, eL_90, eL_96, eL_97, eL_100, eL_122, eL_160, eL_161, eL_255, eL_300, eL_343, eL_999, eL_1000, eL_1920, eL_9999, eL_10000, eL_999999, eL_100000, eL_1000000, ↓reduceIte, ↓bl_e, bd_e, u1_f, u1_s, u2_f, u2_s, w_cl, w_ltT, w_ltF, w_leT, w_leF, w_eqT, w_eqF, w_mlt, w_ltm, w_mle, w_lem, w_eqm, w_meq, w_mltm, nI_add, w_sub, w_addm, up_s, up_n, ud_s, ud_n, ck_n, bz_0, bz_1]
end TOKS
