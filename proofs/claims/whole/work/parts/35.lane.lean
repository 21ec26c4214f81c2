/-! LAYER 3: belt and lane go on -/
theorem zSc.rows {r n : Nat} {x y x' y' : DY} {M K W : Nat} (h : zSc r n x y M K W) (h1 : x'.1 (r + 1) 5 = x.1 (r + 1) 5) (h2 : x'.1 (r + 7) 7 = x.1 (r + 7) 7) (h3 : x'.1 (r + 17) 2 = x.1 (r + 17) 2) (h4 : x'.1 r 7 = x.1 r 7) (h5 : x'.1 r 8 = x.1 r 8) (k1 : y'.1 40 1 = y.1 40 1) (k2 : y'.1 40 18 = y.1 40 18) (k3 : y'.1 40 17 = y.1 40 17) (k4 : y'.1 40 0 = y.1 40 0) (k5 : y'.1 40 2 = y.1 40 2) (k6 : y'.1 40 3 = y.1 40 3) : zSc r n x' y' M K W := by
  unfold zSc
  rw [h1, h2, h3, h4, h5, k1, k2, k3, k4, k5, k6]
  exact h
theorem l_sub1 (g : Int64) (w : Nat) : g - lN w + lN (w * 1) = g + lN 0 := by
  rw [Nat.mul_one, Int64.sub_add_cancel, l_add0]
set_option maxHeartbeats 3200000 in
theorem z_round {N : Nat} (hN : 600 ≤ N) {S Sm : SH} {r n M K W w sk : Nat} (hS : SR S r n) (hM : SHM Sm) (hX : SX S) (hr : 45 ≤ r) {x y : DY} (hmn : zMn x y w) (h : zRR r n x y M K W) :
    ∃ x1 x2 y2, f_X6_turnBelt N S r x = some x1 ∧ f_X6_throwStale N S r x1 = some x2 ∧ f_X12_goRound N Sm 40 y = some y2 ∧ zRR r n x2 y2 M K W ∧ zLg r w x y x2 y2 0 1 ∧ zFx r sk x x2 ∧ zFy y y2 := by
  obtain ⟨⟨hsc, hpl, ⟨hq1, hq2, hq3, hq4⟩, hse, hzi⟩, hag⟩ := h
  have hsc' := hsc
  obtain ⟨c1, c2, c3, c4, c5, c6, c7, c8, c9, c10, c11, c12, c13, c14⟩ := hsc'
  obtain ⟨x1, e1, p1, p2, p3, p4, p5⟩ := z_turnX (N := N) hN hS (x := x) c1 c3 (fun i hi => by rw [hq1 i hi]; exact hzi.lt i hi)
  obtain ⟨y1, e2, g1, g2, g3, g4, g5, g6, g7⟩ := z_turnM (N := N) hN hM (y := y) (n := n) (M := M) c10 c11 c12 c3 hzi.lt (fun i j p hi hj hp a b => (hzi.uq c3 c12 i j p hi hj hp a b).1)
  have hB : ∀ i, i < n → ∃ j, j < n ∧ y1.1 49 i = y.1 49 j ∧ x1.1 (r + 16) i = x.1 (r + 16) j := fun i hi => by
    rcases Nat.eq_zero_or_pos i with rfl | hi0
    · exact ⟨n - 1, by omega, g3, p3⟩
    · have a := g4 (i - 1) (by omega)
      have b := p4 (i - 1) (by omega)
      rw [show i - 1 + 1 = i by omega] at a b
      exact ⟨i - 1, by omega, a, b⟩
  have hsp : ∀ p, p < M → y.1 47 p ≠ nI 0 → y1.1 48 p = y.1 48 p := fun p hp hne => g6 p hp (fun i hi e => by
    obtain ⟨j, j1, j2, j3⟩ := hB i hi
    exact hne (hzi.uq c3 c12 j j p j1 j1 hp (j2.symm.trans e) (j2.symm.trans e)).2)
  have y47 : y1.1 47 = y.1 47 := g2 47 (by decide) (by decide) (by decide)
  have hzi1 : zI n M K W (y1.1 49) (y1.1 50) (y1.1 51) (y1.1 47) (y1.1 48) (y1.1 52) (y1.1 58) := by
    rw [g2 50 (by decide) (by decide) (by decide), g2 51 (by decide) (by decide) (by decide), y47, g2 52 (by decide) (by decide) (by decide), g2 58 (by decide) (by decide) (by decide)]
    exact hzi.turn c3 c12 (by omega) g3 g4 hsp g7
  have hpl1 : zPl M (x1.1 (r + 2)) (x1.1 (r + 3)) (x1.1 (r + 5)) (x1.1 (r + 6)) (y1.1 44) (y1.1 45) (y1.1 47) (y1.1 48) (y1.1 52) := by
    rw [p2 (r + 2) (by omega) (by omega), p2 (r + 3) (by omega) (by omega), p2 (r + 5) (by omega) (by omega), p2 (r + 6) (by omega) (by omega), g2 44 (by decide) (by decide) (by decide), g2 45 (by decide) (by decide) (by decide), y47, g2 52 (by decide) (by decide) (by decide)]
    exact hpl.spots (fun p hp e => hsp p hp (fun q => by
      have := nI_inj (e.symm.trans q) (by omega) (by omega)
      omega))
  have hag1 : zEq M (x1.1 (r + 4)) (y1.1 46) := fun p hp => by
    rw [p5 p hp, g5 p hp, hag p hp, zC_congr n hq1]
  have hq11 : zEq n (x1.1 (r + 16)) (y1.1 49) := fun i hi => by
    obtain ⟨j, j1, j2, j3⟩ := hB i hi
    rw [j2, j3]; exact hq1 j j1
  have hR1 : zR r n x1 y1 M K W := by
    refine ⟨hsc.rows (by rw [p2 _ (by omega) (by omega)]) (by rw [p2 _ (by omega) (by omega)]) (by rw [p2 _ (by omega) (by omega)]) (by rw [p2 _ (by omega) (by omega)]) (by rw [p2 _ (by omega) (by omega)]) (by rw [g2 40 (by decide) (by decide) (by decide)]) (by rw [g2 40 (by decide) (by decide) (by decide)]) (by rw [g2 40 (by decide) (by decide) (by decide)]) (by rw [g2 40 (by decide) (by decide) (by decide)]) (by rw [g2 40 (by decide) (by decide) (by decide)]) (by rw [g2 40 (by decide) (by decide) (by decide)]), hpl1, ⟨hq11, ?_, ?_, ?_⟩, ?_, hzi1⟩
    · rw [p2 (r + 19) (by omega) (by omega), g2 50 (by decide) (by decide) (by decide)]; exact hq2
    · rw [p2 (r + 18) (by omega) (by omega), g2 51 (by decide) (by decide) (by decide)]; exact hq3
    · rw [p2 (r + 14) (by omega) (by omega), g2 58 (by decide) (by decide) (by decide)]; exact hq4
    · rw [p2 (r + 8) (by omega) (by omega), p2 (r + 9) (by omega) (by omega), p2 (r + 10) (by omega) (by omega), p2 (r + 11) (by omega) (by omega), p2 (r + 12) (by omega) (by omega), p2 (r + 13) (by omega) (by omega), g2 53 (by decide) (by decide) (by decide), g2 54 (by decide) (by decide) (by decide), g2 55 (by decide) (by decide) (by decide), g2 56 (by decide) (by decide) (by decide), g2 57 (by decide) (by decide) (by decide), g2 58 (by decide) (by decide) (by decide), g2 59 (by decide) (by decide) (by decide), g2 60 (by decide) (by decide) (by decide)]
      exact hse
  have hfx1 : zFx r sk x x1 := ⟨fun b hb _ => p2 b (by omega) (by omega), fun b _ => by rw [p1]⟩
  have hfy1 : zFy y y1 := ⟨fun b hb => g2 b (by omega) (by omega) (by omega), fun k _ => by rw [g2 40 (by decide) (by decide) (by decide)], fun s9 h9 => by rw [g2 60 (by decide) (by decide) (by decide)]; exact h9⟩
  have hlg1 : zLg r w x y x1 y1 0 0 := zLg.same (by rw [p2 _ (by omega) (by omega)]) (by rw [g2 40 (by decide) (by decide) (by decide)]) (by rw [g2 40 (by decide) (by decide) (by decide)]) (by rw [g2 40 (by decide) (by decide) (by decide)]) (by rw [p1])
  have hmn1 : zMn x1 y1 w := by
    unfold zMn
    rw [p2 41 (by omega) (by omega), p2 42 (by omega) (by omega), p2 43 (by omega) (by omega), p2 44 (by omega) (by omega), g2 40 (by decide) (by decide) (by decide), g2 41 (by decide) (by decide) (by decide), g2 42 (by decide) (by decide) (by decide), g2 43 (by decide) (by decide) (by decide)]
    exact hmn
  clear hsp hB p2 p3 p4 p5 g2 g3 g4 g5 g6 g7 y47 hmn hzi hpl hag hq1 hq2 hq3 hq4 hse hsc c1 c2 c4 c5 c7 c8 c10 c13 c14 hzi1 hpl1 hq11 p1 g1
  obtain ⟨hsc, hpl, ⟨hq1, hq2, hq3, hq4⟩, hse, hzi⟩ := hR1
  have hsc' := hsc
  obtain ⟨c1, c2, -, c4, c5, -, c7, c8, -, c10, -, -, c13, c14⟩ := hsc'
  have hx0 := hq1 0 (by omega)
  rcases hzi.lt 0 (by omega) with hv | ⟨p, hp, hv⟩
  · refine ⟨x1, x1, y1, e1, ?_, ?_, ⟨⟨hsc, hpl, ⟨hq1, hq2, hq3, hq4⟩, hse, hzi⟩, hag1⟩, hlg1.wk (Nat.le_refl _) (by omega), hfx1, hfy1⟩
    · rw [hv] at hx0
      simp (disch := (first | omega | (simp only [sr_l2 hS, sr_l3 hS, sr_l4 hS, sr_l5 hS, sr_l6 hS, sr_l8 hS, sr_l9 hS, sr_l10 hS, sr_l11 hS, sr_l12 hS, sr_l13 hS, sr_l14 hS, sr_l15 hS, sr_l16 hS, sr_l18 hS, sr_l19 hS]; omega))) only [f_X6_throwStale, f_X4_has, ↓eM, eL_0, eL_1, eL_2, eL_3, eL_4, eL_5, eL_6, eL_7, eL_8, eL_9, eL_10, eL_11, eL_12, eL_15, eL_16, eL_20, eL_24, eL_30, eL_31, eL_32, eL_39, eL_40, eL_41, eL_42, eL_43, eL_45, eL_47, eL_48, eL_49, eL_50, eL_57, eL_59, eL_60, eL_61, eL_90, eL_96, eL_97, eL_100, eL_122, eL_160, eL_161, eL_255, eL_300, eL_343, eL_999, eL_1000, eL_1920, eL_9999, eL_10000, eL_999999, eL_100000, eL_1000000, sr_r0 hS, sr_r1 hS, sr_r2 hS, sr_r3 hS, sr_r4 hS, sr_r5 hS, sr_r6 hS, sr_p0 hS, sr_p1 hS, sr_p2 hS, sr_p3 hS, sr_p4 hS, sr_s0 hS, sr_s1 hS, sr_s2 hS, sr_s3 hS, sr_s4 hS, sr_s5 hS, sr_s6 hS, sr_l0 hS, sr_l1 hS, hx0, ↓reduceIte, ↓bl_e, bd_e, u1_f, u1_s, u2_f, u2_s, w_cl, w_ltT, w_ltF, w_leT, w_leF, w_eqT, w_eqF, w_mlt, w_ltm, w_mle, w_lem, w_eqm, w_meq, w_mltm, nI_add, w_sub, w_addm, up_s, up_n, ud_s, ud_n, ck_n, bz_0, bz_1]
    · rw [e2]
      simp (disch := (first | omega | (simp only [shm_l41 hM, shm_l42 hM, shm_l43 hM, shm_l44 hM, shm_l45 hM, shm_l46 hM, shm_l47 hM, shm_l48 hM, shm_l49 hM, shm_l50 hM, shm_l51 hM, shm_l52 hM, shm_l53 hM, shm_l54 hM, shm_l55 hM, shm_l56 hM, shm_l57 hM, shm_l58 hM, shm_l59 hM, shm_l60 hM, shm_l61 hM, shm_l62 hM, shm_l63 hM, shm_l64 hM, shm_l65 hM, shm_l66 hM, shm_l67 hM, shm_l68 hM, shm_l69 hM, shm_l70 hM, shm_l71 hM, shm_l72 hM, shm_l73 hM, shm_l74 hM, shm_l75 hM, shm_l76 hM, shm_l77 hM, shm_l78 hM, shm_l79 hM, shm_l80 hM]; omega))) only [zStM, ↓eM, eL_0, eL_1, eL_2, eL_3, eL_4, eL_5, eL_6, eL_7, eL_8, eL_9, eL_10, eL_11, eL_12, eL_15, eL_16, eL_20, eL_24, eL_30, eL_31, eL_32, eL_39, eL_40, eL_41, eL_42, eL_43, eL_45, eL_47, eL_48, eL_49, eL_50, eL_57, eL_59, eL_60, eL_61, eL_90, eL_96, eL_97, eL_100, eL_122, eL_160, eL_161, eL_255, eL_300, eL_343, eL_999, eL_1000, eL_1920, eL_9999, eL_10000, eL_999999, eL_100000, eL_1000000, shm_p13 hM, hv, ↓reduceIte, ↓bl_e, bd_e, u1_f, u1_s, u2_f, u2_s, w_cl, w_ltT, w_ltF, w_leT, w_leF, w_eqT, w_eqF, w_mlt, w_ltm, w_mle, w_lem, w_eqm, w_meq, w_mltm, nI_add, w_sub, w_addm, up_s, up_n, ud_s, ud_n, ck_n, bz_0, bz_1]
  · rw [hv] at hx0
    obtain ⟨i1, i2, i3, ⟨d, hd, i4⟩, i5⟩ := hpl p hp
    rw [i4] at i1
    have i6 := hag1 p hp
    obtain ⟨m1, m2, m3⟩ := hmn1.1 d hd
    obtain ⟨-, -, w1, w2, w3⟩ := hmn1
    by_cases hal : y1.1 46 p ≤ y1.1 42 d
    · have hal2 : (y1.1 42 d < y1.1 46 p) = False := eq_false (Int32.not_lt.mpr hal)
      refine ⟨x1, x1, y1, e1, ?_, ?_, ⟨⟨hsc, hpl, ⟨hq1, hq2, hq3, hq4⟩, hse, hzi⟩, hag1⟩, hlg1.wk (Nat.le_refl _) (by omega), hfx1, hfy1⟩
      · simp (disch := (first | omega | (simp only [sr_l2 hS, sr_l3 hS, sr_l4 hS, sr_l5 hS, sr_l6 hS, sr_l8 hS, sr_l9 hS, sr_l10 hS, sr_l11 hS, sr_l12 hS, sr_l13 hS, sr_l14 hS, sr_l15 hS, sr_l16 hS, sr_l18 hS, sr_l19 hS, sx_l42 hX, sx_l43 hX, sx_l44 hX, sx_l46 hX, sx_l50 hX, sx_l51 hX, sx_l52 hX, sx_l53 hX, sx_l54 hX, sx_l56 hX, sx_l57 hX, sx_l58 hX, sx_l60 hX, sx_l61 hX, sx_l62 hX, sx_l63 hX, sx_l64 hX, sx_l65 hX, sx_l66 hX, sx_l88 hX, sx_l89 hX, sx_l90 hX, sx_l0 hX, sx_l1 hX, sx_l2 hX, sx_l5 hX, sx_l6 hX, sx_l7 hX, sx_l8 hX, sx_l9 hX, sx_l10 hX, sx_l11 hX, sx_l12 hX, sx_l13 hX, sx_l14 hX, sx_l15 hX]; omega))) only [f_X6_throwStale, f_X4_has, f_X11_isDish, ↓eM, eL_0, eL_1, eL_2, eL_3, eL_4, eL_5, eL_6, eL_7, eL_8, eL_9, eL_10, eL_11, eL_12, eL_15, eL_16, eL_20, eL_24, eL_30, eL_31, eL_32, eL_39, eL_40, eL_41, eL_42, eL_43, eL_45, eL_47, eL_48, eL_49, eL_50, eL_57, eL_59, eL_60, eL_61, eL_90, eL_96, eL_97, eL_100, eL_122, eL_160, eL_161, eL_255, eL_300, eL_343, eL_999, eL_1000, eL_1920, eL_9999, eL_10000, eL_999999, eL_100000, eL_1000000, sr_r0 hS, sr_r1 hS, sr_r2 hS, sr_r3 hS, sr_r4 hS, sr_r5 hS, sr_r6 hS, sr_p0 hS, sr_p1 hS, sr_p2 hS, sr_p3 hS, sr_p4 hS, sr_s0 hS, sr_s1 hS, sr_s2 hS, sr_s3 hS, sr_s4 hS, sr_s5 hS, sr_s6 hS, sr_l0 hS, sr_l1 hS, sx_m1 hX, hx0, c1, i1, i6, m2, hal, ↓reduceIte, ↓bl_e, bd_e, u1_f, u1_s, u2_f, u2_s, w_cl, w_ltT, w_ltF, w_leT, w_leF, w_eqT, w_eqF, w_mlt, w_ltm, w_mle, w_lem, w_eqm, w_meq, w_mltm, nI_add, w_sub, w_addm, up_s, up_n, ud_s, ud_n, ck_n, bz_0, bz_1]
      · rw [e2]
        simp (disch := (first | omega | (simp only [shm_l41 hM, shm_l42 hM, shm_l43 hM, shm_l44 hM, shm_l45 hM, shm_l46 hM, shm_l47 hM, shm_l48 hM, shm_l49 hM, shm_l50 hM, shm_l51 hM, shm_l52 hM, shm_l53 hM, shm_l54 hM, shm_l55 hM, shm_l56 hM, shm_l57 hM, shm_l58 hM, shm_l59 hM, shm_l60 hM, shm_l61 hM, shm_l62 hM, shm_l63 hM, shm_l64 hM, shm_l65 hM, shm_l66 hM, shm_l67 hM, shm_l68 hM, shm_l69 hM, shm_l70 hM, shm_l71 hM, shm_l72 hM, shm_l73 hM, shm_l74 hM, shm_l75 hM, shm_l76 hM, shm_l77 hM, shm_l78 hM, shm_l79 hM, shm_l80 hM]; omega))) only [zStM, ↓eM, eL_0, eL_1, eL_2, eL_3, eL_4, eL_5, eL_6, eL_7, eL_8, eL_9, eL_10, eL_11, eL_12, eL_15, eL_16, eL_20, eL_24, eL_30, eL_31, eL_32, eL_39, eL_40, eL_41, eL_42, eL_43, eL_45, eL_47, eL_48, eL_49, eL_50, eL_57, eL_59, eL_60, eL_61, eL_90, eL_96, eL_97, eL_100, eL_122, eL_160, eL_161, eL_255, eL_300, eL_343, eL_999, eL_1000, eL_1920, eL_9999, eL_10000, eL_999999, eL_100000, eL_1000000, shm_p5 hM, shm_p6 hM, shm_p7 hM, shm_p8 hM, shm_p9 hM, shm_p10 hM, shm_p11 hM, shm_p12 hM, shm_p13 hM, shm_p14 hM, shm_p15 hM, shm_p16 hM, shm_p19 hM, shm_p20 hM, shm_p21 hM, shm_p22 hM, shm_p23 hM, shm_p24 hM, shm_p25 hM, shm_p26 hM, shm_p27 hM, shm_p31 hM, shm_p32 hM, shm_p37 hM, shm_p38 hM, shm_p43 hM, shm_p44 hM, shm_p48 hM, shm_p49 hM, shm_p50 hM, shm_p51 hM, shm_p52 hM, shm_p53 hM, shm_p54 hM, shm_p55 hM, shm_p62 hM, shm_p63 hM, shm_p64 hM, shm_p65 hM, shm_p66 hM, hv, i4, hal2, ↓reduceIte, ↓bl_e, bd_e, u1_f, u1_s, u2_f, u2_s, w_cl, w_ltT, w_ltF, w_leT, w_leF, w_eqT, w_eqF, w_mlt, w_ltm, w_mle, w_lem, w_eqm, w_meq, w_mltm, nI_add, w_sub, w_addm, up_s, up_n, ud_s, ud_n, ck_n, bz_0, bz_1]
    · have hal2 : (y1.1 42 d < y1.1 46 p) = True := eq_true (Int32.not_le.mp hal)
      refine ⟨x1, U2 (U1 (U1 (U1 x1 (r + 16) 0 mO) (r + 5) p (nI 4)) (r + 6) p mO) r 10 (x1.2 r 10 - lN w), U1 (U1 (U1 (U1 y1 47 p (nI 4)) 48 p mO) 40 47 (y1.1 40 47 + nI 1)) 49 0 mO, e1, ?_, ?_, ⟨⟨?_, ?_, ⟨?_, ?_, ?_, ?_⟩, ?_, ?_⟩, ?_⟩, ?_, hfx1.trans ⟨fun b hb hbs => ?_, fun b hb => ?_⟩, hfy1.trans ⟨fun b hb => ?_, fun k hk => ?_, fun s9 h9 => by simp (disch := omega) only [u1_f, u1_s, u2_f, u2_s, up_s, up_n, ud_s, ud_n]; exact h9⟩⟩
      · simp (disch := (first | omega | (simp only [sr_l2 hS, sr_l3 hS, sr_l4 hS, sr_l5 hS, sr_l6 hS, sr_l8 hS, sr_l9 hS, sr_l10 hS, sr_l11 hS, sr_l12 hS, sr_l13 hS, sr_l14 hS, sr_l15 hS, sr_l16 hS, sr_l18 hS, sr_l19 hS, sx_l42 hX, sx_l43 hX, sx_l44 hX, sx_l46 hX, sx_l50 hX, sx_l51 hX, sx_l52 hX, sx_l53 hX, sx_l54 hX, sx_l56 hX, sx_l57 hX, sx_l58 hX, sx_l60 hX, sx_l61 hX, sx_l62 hX, sx_l63 hX, sx_l64 hX, sx_l65 hX, sx_l66 hX, sx_l88 hX, sx_l89 hX, sx_l90 hX, sx_l0 hX, sx_l1 hX, sx_l2 hX, sx_l5 hX, sx_l6 hX, sx_l7 hX, sx_l8 hX, sx_l9 hX, sx_l10 hX, sx_l11 hX, sx_l12 hX, sx_l13 hX, sx_l14 hX, sx_l15 hX]; omega))) only [f_X6_throwStale, f_X6_discard, f_X4_become, f_X4_has, f_X11_isDish, ↓eM, eL_0, eL_1, eL_2, eL_3, eL_4, eL_5, eL_6, eL_7, eL_8, eL_9, eL_10, eL_11, eL_12, eL_15, eL_16, eL_20, eL_24, eL_30, eL_31, eL_32, eL_39, eL_40, eL_41, eL_42, eL_43, eL_45, eL_47, eL_48, eL_49, eL_50, eL_57, eL_59, eL_60, eL_61, eL_90, eL_96, eL_97, eL_100, eL_122, eL_160, eL_161, eL_255, eL_300, eL_343, eL_999, eL_1000, eL_1920, eL_9999, eL_10000, eL_999999, eL_100000, eL_1000000, sr_r0 hS, sr_r1 hS, sr_r2 hS, sr_r3 hS, sr_r4 hS, sr_r5 hS, sr_r6 hS, sr_p0 hS, sr_p1 hS, sr_p2 hS, sr_p3 hS, sr_p4 hS, sr_s0 hS, sr_s1 hS, sr_s2 hS, sr_s3 hS, sr_s4 hS, sr_s5 hS, sr_s6 hS, sr_l0 hS, sr_l1 hS, sx_m1 hX, hx0, c1, i1, i6, m2, hal, w1, nI_l, ↓reduceIte, ↓bl_e, bd_e, u1_f, u1_s, u2_f, u2_s, w_cl, w_ltT, w_ltF, w_leT, w_leF, w_eqT, w_eqF, w_mlt, w_ltm, w_mle, w_lem, w_eqm, w_meq, w_mltm, nI_add, w_sub, w_addm, up_s, up_n, ud_s, ud_n, ck_n, bz_0, bz_1]
      · rw [e2]
        simp (disch := (first | omega | (simp only [shm_l41 hM, shm_l42 hM, shm_l43 hM, shm_l44 hM, shm_l45 hM, shm_l46 hM, shm_l47 hM, shm_l48 hM, shm_l49 hM, shm_l50 hM, shm_l51 hM, shm_l52 hM, shm_l53 hM, shm_l54 hM, shm_l55 hM, shm_l56 hM, shm_l57 hM, shm_l58 hM, shm_l59 hM, shm_l60 hM, shm_l61 hM, shm_l62 hM, shm_l63 hM, shm_l64 hM, shm_l65 hM, shm_l66 hM, shm_l67 hM, shm_l68 hM, shm_l69 hM, shm_l70 hM, shm_l71 hM, shm_l72 hM, shm_l73 hM, shm_l74 hM, shm_l75 hM, shm_l76 hM, shm_l77 hM, shm_l78 hM, shm_l79 hM, shm_l80 hM]; omega))) only [zStM, f_X12_ends, ↓eM, eL_0, eL_1, eL_2, eL_3, eL_4, eL_5, eL_6, eL_7, eL_8, eL_9, eL_10, eL_11, eL_12, eL_15, eL_16, eL_20, eL_24, eL_30, eL_31, eL_32, eL_39, eL_40, eL_41, eL_42, eL_43, eL_45, eL_47, eL_48, eL_49, eL_50, eL_57, eL_59, eL_60, eL_61, eL_90, eL_96, eL_97, eL_100, eL_122, eL_160, eL_161, eL_255, eL_300, eL_343, eL_999, eL_1000, eL_1920, eL_9999, eL_10000, eL_999999, eL_100000, eL_1000000, shm_p5 hM, shm_p6 hM, shm_p7 hM, shm_p8 hM, shm_p9 hM, shm_p10 hM, shm_p11 hM, shm_p12 hM, shm_p13 hM, shm_p14 hM, shm_p15 hM, shm_p16 hM, shm_p19 hM, shm_p20 hM, shm_p21 hM, shm_p22 hM, shm_p23 hM, shm_p24 hM, shm_p25 hM, shm_p26 hM, shm_p27 hM, shm_p31 hM, shm_p32 hM, shm_p37 hM, shm_p38 hM, shm_p43 hM, shm_p44 hM, shm_p48 hM, shm_p49 hM, shm_p50 hM, shm_p51 hM, shm_p52 hM, shm_p53 hM, shm_p54 hM, shm_p55 hM, shm_p62 hM, shm_p63 hM, shm_p64 hM, shm_p65 hM, shm_p66 hM, hv, i4, hal2, ↓reduceIte, ↓bl_e, bd_e, u1_f, u1_s, u2_f, u2_s, w_cl, w_ltT, w_ltF, w_leT, w_leF, w_eqT, w_eqF, w_mlt, w_ltm, w_mle, w_lem, w_eqm, w_meq, w_mltm, nI_add, w_sub, w_addm, up_s, up_n, ud_s, ud_n, ck_n, bz_0, bz_1]
      · unfold zSc; simp (disch := omega) only [u1_f, u1_s, u2_f, u2_s, up_s, up_n, ud_s, ud_n]; exact hsc
      · simp (disch := omega) only [u1_f, u1_s, u2_f, u2_s, up_s, up_n, ud_s, ud_n]; exact hpl.set (fun q => absurd q (by decide)) (fun q => absurd q (by decide))
      · simp (disch := omega) only [u1_f, u1_s, u2_f, u2_s, up_s, up_n, ud_s, ud_n]; exact hq1.ud 0 mO
      · simp (disch := omega) only [u1_f, u1_s, u2_f, u2_s, up_s, up_n, ud_s, ud_n]; exact hq2
      · simp (disch := omega) only [u1_f, u1_s, u2_f, u2_s, up_s, up_n, ud_s, ud_n]; exact hq3
      · simp (disch := omega) only [u1_f, u1_s, u2_f, u2_s, up_s, up_n, ud_s, ud_n]; exact hq4
      · simp (disch := omega) only [u1_f, u1_s, u2_f, u2_s, up_s, up_n, ud_s, ud_n]; exact hse
      · simp (disch := omega) only [u1_f, u1_s, u2_f, u2_s, up_s, up_n, ud_s, ud_n]; exact hzi.off c3 c12 (by omega) hp hv (Or.inr ⟨by omega, by omega, rfl⟩)
      · simp (disch := omega) only [u1_f, u1_s, u2_f, u2_s, up_s, up_n, ud_s, ud_n]; exact hag1
      · refine (zLg.trans hlg1 (G2 := 0) (T2 := 1) ⟨0, 0, 1, Nat.le_refl _, Nat.le_refl _, ?_, ?_, ?_, ?_, ?_⟩).wk (by omega) (by omega)
        · simp (disch := omega) only [u1_f, u1_s, u2_f, u2_s, up_s, up_n, ud_s, ud_n, w_add0]
        · simp (disch := omega) only [u1_f, u1_s, u2_f, u2_s, up_s, up_n, ud_s, ud_n, w_add0]
        · simp (disch := omega) only [u1_f, u1_s, u2_f, u2_s, up_s, up_n, ud_s, ud_n, w_add0]
        · simp (disch := omega) only [u1_f, u1_s, u2_f, u2_s, up_s, up_n, ud_s, ud_n]
        · simp (disch := omega) only [u1_f, u1_s, u2_f, u2_s, up_s, up_n, ud_s, ud_n]; exact l_sub1 _ _
      · simp (disch := omega) only [u1_f, u1_s, u2_f, u2_s, up_s, up_n, ud_s, ud_n]
      · simp (disch := omega) only [u1_f, u1_s, u2_f, u2_s, up_s, up_n, ud_s, ud_n]
      · simp (disch := omega) only [u1_f, u1_s, u2_f, u2_s, up_s, up_n, ud_s, ud_n]
      · simp (disch := omega) only [u1_f, u1_s, u2_f, u2_s, up_s, up_n, ud_s, ud_n]
