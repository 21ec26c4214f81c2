/-! LAYER 3: A TICK -/
/-- all that a tick needs to know -/
def zEv (S Sm : SH) (r n : Nat) (x y : DY) (w T c : Nat) : Prop := SR S r n ∧ SHM Sm ∧ SX S ∧ 67 ≤ r ∧ r ≤ 131 ∧ zMn x y w ∧ zEX x ∧ zTx S x y T c
theorem zEv.keepw {S Sm : SH} {r r' n w T c : Nat} {x y x' y' : DY} (h : zEv S Sm r n x y w T c) (fx : zFx r' (sX c) x x') (fy : zFw y y') (hr : 67 ≤ r') (hr2 : r' ≤ 131) : zEv S Sm r n x' y' w T c := by
  obtain ⟨h1, h2, h3, h4, h5, h6, h7, h8⟩ := h
  have hs := sX_ok c
  exact ⟨h1, h2, h3, h4, h5, h6.keepw fx fy (by omega) (by omega), h7.keep fx (by omega) (by omega), h8.keepw fx fy hr hr2⟩
theorem zEv.keep {S Sm : SH} {r r' n w T c : Nat} {x y x' y' : DY} (h : zEv S Sm r n x y w T c) (fx : zFx r' (sX c) x x') (fy : zFy y y') (hr : 67 ≤ r') (hr2 : r' ≤ 131) : zEv S Sm r n x' y' w T c := h.keepw fx fy.w hr hr2
section TICK
variable {N : Nat} {S Sm : SH} {r n M K W w s T c : Nat} {x y : DY}
set_option maxHeartbeats 1600000 in
theorem z_gone (hN : 600 ≤ N) (hv : zEv S Sm r n x y w T c) (h : zRR r n x y M K W) (hs : s < K) :
    ∃ x' y', (∀ k back, lp_X6_goByOnce_67_b N S k back r (nI s) x = back (nI (s + 1)) x') ∧ (∀ k back, lp_X12_goTick_40_b N Sm k back 40 (nI s) y = back (nI (s + 1)) y') ∧ zRR r n x' y' M K W ∧ zLg r w x y x' y' 0 0 ∧ zFx r (sX c) x x' ∧ zFy y y' ∧ y'.1 49 = y.1 49 ∧ y'.1 50 = y.1 50 := by
  have hv' := hv
  obtain ⟨hS, hM, hX, hr, hr2, hmn, hE, hT⟩ := hv'
  have h' := h
  obtain ⟨⟨hsc, hpl, -, hse, hzi⟩, hag⟩ := h'
  obtain ⟨c1, c2, c3, c4, c5, c6, c7, c8, c9, c10, c11, c12, c13, c14⟩ := hsc
  have hsk := sX_ok c
  rcases hse.sat hs with ⟨k, ht⟩ | ⟨t1, t2, t3, t4⟩
  · obtain ⟨v, x1, y1, y2, a1, a2, a3, a4, a5, a6, a7⟩ := z_go (N := N) hN hS hM hX hr hr2 hE hT hs c6 c4 ht
    have h1 : zRR r n x1 y2 M K W := h.of_eq (by omega) a4 a6
    have fx1 : zFx r (sX c) x x1 := zFx.of_eq a4 a5
    have fy1 : zFy y y2 := zFy.of_eq a6
    have lg1 : zLg r w x y x1 y2 0 0 := zLg.of_eq (by omega) a4 a5 a6
    have hk := ht.2.2.2.1
    by_cases hv0 : v = nI 0
    · subst hv0
      refine ⟨x1, y2, fun k back => ?_, fun k back => ?_, h1, lg1, fx1, fy1, a6 49 (by decide) (by decide), a6 50 (by decide) (by decide)⟩
      · simp (disch := (first | omega | (simp only [sr_l2 hS, sr_l3 hS, sr_l4 hS, sr_l5 hS, sr_l6 hS, sr_l8 hS, sr_l9 hS, sr_l10 hS, sr_l11 hS, sr_l12 hS, sr_l13 hS, sr_l14 hS, sr_l15 hS, sr_l16 hS, sr_l18 hS, sr_l19 hS]; omega))) only [lp_X6_goByOnce_67_b, j_X6_goByOnce_102, f_X8_isTaken, ↓eM, eL_0, eL_1, eL_2, eL_3, eL_4, eL_5, eL_6, eL_7, eL_8, eL_9, eL_10, eL_11, eL_12, eL_15, eL_16, eL_20, eL_24, eL_30, eL_31, eL_32, eL_39, eL_40, eL_41, eL_42, eL_43, eL_45, eL_47, eL_48, eL_49, eL_50, eL_57, eL_59, eL_60, eL_61, eL_90, eL_96, eL_97, eL_100, eL_122, eL_160, eL_161, eL_255, eL_300, eL_343, eL_999, eL_1000, eL_1920, eL_9999, eL_10000, eL_999999, eL_100000, eL_1000000, sr_r0 hS, sr_r1 hS, sr_r2 hS, sr_r3 hS, sr_r4 hS, sr_r5 hS, sr_r6 hS, sr_p0 hS, sr_p1 hS, sr_p2 hS, sr_p3 hS, sr_p4 hS, sr_s0 hS, sr_s1 hS, sr_s2 hS, sr_s3 hS, sr_s4 hS, sr_s5 hS, sr_s6 hS, sr_l0 hS, sr_l1 hS, c4, ht.2.1, a1, ↓reduceIte, ↓bl_e, bd_e, u1_f, u1_s, u2_f, u2_s, w_cl, w_ltT, w_ltF, w_leT, w_leF, w_eqT, w_eqF, w_mlt, w_ltm, w_mle, w_lem, w_eqm, w_meq, w_mltm, nI_add, w_sub, w_addm, up_s, up_n, ud_s, ud_n, ck_n, bz_0, bz_1]
      · simp (disch := (first | omega | (simp only [shm_l41 hM, shm_l42 hM, shm_l43 hM, shm_l44 hM, shm_l45 hM, shm_l46 hM, shm_l47 hM, shm_l48 hM, shm_l49 hM, shm_l50 hM, shm_l51 hM, shm_l52 hM, shm_l53 hM, shm_l54 hM, shm_l55 hM, shm_l56 hM, shm_l57 hM, shm_l58 hM, shm_l59 hM, shm_l60 hM, shm_l61 hM, shm_l62 hM, shm_l63 hM, shm_l64 hM, shm_l65 hM, shm_l66 hM, shm_l67 hM, shm_l68 hM, shm_l69 hM, shm_l70 hM, shm_l71 hM, shm_l72 hM, shm_l73 hM, shm_l74 hM, shm_l75 hM, shm_l76 hM, shm_l77 hM, shm_l78 hM, shm_l79 hM, shm_l80 hM]; omega))) only [lp_X12_goTick_40_b, j_X12_goTick_79, ↓eM, eL_0, eL_1, eL_2, eL_3, eL_4, eL_5, eL_6, eL_7, eL_8, eL_9, eL_10, eL_11, eL_12, eL_15, eL_16, eL_20, eL_24, eL_30, eL_31, eL_32, eL_39, eL_40, eL_41, eL_42, eL_43, eL_45, eL_47, eL_48, eL_49, eL_50, eL_57, eL_59, eL_60, eL_61, eL_90, eL_96, eL_97, eL_100, eL_122, eL_160, eL_161, eL_255, eL_300, eL_343, eL_999, eL_1000, eL_1920, eL_9999, eL_10000, eL_999999, eL_100000, eL_1000000, shm_p5 hM, shm_p6 hM, shm_p7 hM, shm_p8 hM, shm_p9 hM, shm_p10 hM, shm_p11 hM, shm_p12 hM, shm_p13 hM, shm_p14 hM, shm_p15 hM, shm_p16 hM, shm_p19 hM, shm_p20 hM, shm_p21 hM, shm_p22 hM, shm_p23 hM, shm_p24 hM, shm_p25 hM, shm_p26 hM, shm_p27 hM, shm_p31 hM, shm_p32 hM, shm_p37 hM, shm_p38 hM, shm_p43 hM, shm_p44 hM, shm_p48 hM, shm_p49 hM, shm_p50 hM, shm_p51 hM, shm_p52 hM, shm_p53 hM, shm_p54 hM, shm_p55 hM, shm_p62 hM, shm_p63 hM, shm_p64 hM, shm_p65 hM, shm_p66 hM, c5, ht.1, a2, a3, ↓reduceIte, ↓bl_e, bd_e, u1_f, u1_s, u2_f, u2_s, w_cl, w_ltT, w_ltF, w_leT, w_leF, w_eqT, w_eqF, w_mlt, w_ltm, w_mle, w_lem, w_eqm, w_meq, w_mltm, nI_add, w_sub, w_addm, up_s, up_n, ud_s, ud_n, ck_n, bz_0, bz_1]
    · obtain ⟨x3, y3, b1, b2, b3, b4, b5, b6, b7, b8⟩ := z_leave (N := N) hN hS hM hX hr hr2 (hmn.keep fx1 fy1 (by omega) (by omega)) h1 hs (sX c)
      have hk := ht.2.2.2.1
      refine ⟨x3, y3, fun k back => ?_, fun k back => ?_, b3, (lg1.trans b4).wk (by omega) (by omega), fx1.trans b5, fy1.trans b6, b7.trans (a6 49 (by decide) (by decide)), b8.trans (a6 50 (by decide) (by decide))⟩
      · simp (disch := (first | omega | (simp only [sr_l2 hS, sr_l3 hS, sr_l4 hS, sr_l5 hS, sr_l6 hS, sr_l8 hS, sr_l9 hS, sr_l10 hS, sr_l11 hS, sr_l12 hS, sr_l13 hS, sr_l14 hS, sr_l15 hS, sr_l16 hS, sr_l18 hS, sr_l19 hS]; omega))) only [lp_X6_goByOnce_67_b, j_X6_goByOnce_102, f_X8_isTaken, ↓eM, eL_0, eL_1, eL_2, eL_3, eL_4, eL_5, eL_6, eL_7, eL_8, eL_9, eL_10, eL_11, eL_12, eL_15, eL_16, eL_20, eL_24, eL_30, eL_31, eL_32, eL_39, eL_40, eL_41, eL_42, eL_43, eL_45, eL_47, eL_48, eL_49, eL_50, eL_57, eL_59, eL_60, eL_61, eL_90, eL_96, eL_97, eL_100, eL_122, eL_160, eL_161, eL_255, eL_300, eL_343, eL_999, eL_1000, eL_1920, eL_9999, eL_10000, eL_999999, eL_100000, eL_1000000, sr_r0 hS, sr_r1 hS, sr_r2 hS, sr_r3 hS, sr_r4 hS, sr_r5 hS, sr_r6 hS, sr_p0 hS, sr_p1 hS, sr_p2 hS, sr_p3 hS, sr_p4 hS, sr_s0 hS, sr_s1 hS, sr_s2 hS, sr_s3 hS, sr_s4 hS, sr_s5 hS, sr_s6 hS, sr_l0 hS, sr_l1 hS, c4, ht.2.1, a1, hv0, b1, ↓reduceIte, ↓bl_e, bd_e, u1_f, u1_s, u2_f, u2_s, w_cl, w_ltT, w_ltF, w_leT, w_leF, w_eqT, w_eqF, w_mlt, w_ltm, w_mle, w_lem, w_eqm, w_meq, w_mltm, nI_add, w_sub, w_addm, up_s, up_n, ud_s, ud_n, ck_n, bz_0, bz_1]
      · simp (disch := (first | omega | (simp only [shm_l41 hM, shm_l42 hM, shm_l43 hM, shm_l44 hM, shm_l45 hM, shm_l46 hM, shm_l47 hM, shm_l48 hM, shm_l49 hM, shm_l50 hM, shm_l51 hM, shm_l52 hM, shm_l53 hM, shm_l54 hM, shm_l55 hM, shm_l56 hM, shm_l57 hM, shm_l58 hM, shm_l59 hM, shm_l60 hM, shm_l61 hM, shm_l62 hM, shm_l63 hM, shm_l64 hM, shm_l65 hM, shm_l66 hM, shm_l67 hM, shm_l68 hM, shm_l69 hM, shm_l70 hM, shm_l71 hM, shm_l72 hM, shm_l73 hM, shm_l74 hM, shm_l75 hM, shm_l76 hM, shm_l77 hM, shm_l78 hM, shm_l79 hM, shm_l80 hM]; omega))) only [lp_X12_goTick_40_b, j_X12_goTick_79, ↓eM, eL_0, eL_1, eL_2, eL_3, eL_4, eL_5, eL_6, eL_7, eL_8, eL_9, eL_10, eL_11, eL_12, eL_15, eL_16, eL_20, eL_24, eL_30, eL_31, eL_32, eL_39, eL_40, eL_41, eL_42, eL_43, eL_45, eL_47, eL_48, eL_49, eL_50, eL_57, eL_59, eL_60, eL_61, eL_90, eL_96, eL_97, eL_100, eL_122, eL_160, eL_161, eL_255, eL_300, eL_343, eL_999, eL_1000, eL_1920, eL_9999, eL_10000, eL_999999, eL_100000, eL_1000000, shm_p5 hM, shm_p6 hM, shm_p7 hM, shm_p8 hM, shm_p9 hM, shm_p10 hM, shm_p11 hM, shm_p12 hM, shm_p13 hM, shm_p14 hM, shm_p15 hM, shm_p16 hM, shm_p19 hM, shm_p20 hM, shm_p21 hM, shm_p22 hM, shm_p23 hM, shm_p24 hM, shm_p25 hM, shm_p26 hM, shm_p27 hM, shm_p31 hM, shm_p32 hM, shm_p37 hM, shm_p38 hM, shm_p43 hM, shm_p44 hM, shm_p48 hM, shm_p49 hM, shm_p50 hM, shm_p51 hM, shm_p52 hM, shm_p53 hM, shm_p54 hM, shm_p55 hM, shm_p62 hM, shm_p63 hM, shm_p64 hM, shm_p65 hM, shm_p66 hM, c5, ht.1, a2, a3, hv0, b2, ↓reduceIte, ↓bl_e, bd_e, u1_f, u1_s, u2_f, u2_s, w_cl, w_ltT, w_ltF, w_leT, w_leF, w_eqT, w_eqF, w_mlt, w_ltm, w_mle, w_lem, w_eqm, w_meq, w_mltm, nI_add, w_sub, w_addm, up_s, up_n, ud_s, ud_n, ck_n, bz_0, bz_1]
  · refine ⟨x, y, fun k back => ?_, fun k back => ?_, h, zLg.rf, zFx.rf, zFy.rf, rfl, rfl⟩
    · simp (disch := (first | omega | (simp only [sr_l2 hS, sr_l3 hS, sr_l4 hS, sr_l5 hS, sr_l6 hS, sr_l8 hS, sr_l9 hS, sr_l10 hS, sr_l11 hS, sr_l12 hS, sr_l13 hS, sr_l14 hS, sr_l15 hS, sr_l16 hS, sr_l18 hS, sr_l19 hS]; omega))) only [lp_X6_goByOnce_67_b, j_X6_goByOnce_102, f_X8_isTaken, ↓eM, eL_0, eL_1, eL_2, eL_3, eL_4, eL_5, eL_6, eL_7, eL_8, eL_9, eL_10, eL_11, eL_12, eL_15, eL_16, eL_20, eL_24, eL_30, eL_31, eL_32, eL_39, eL_40, eL_41, eL_42, eL_43, eL_45, eL_47, eL_48, eL_49, eL_50, eL_57, eL_59, eL_60, eL_61, eL_90, eL_96, eL_97, eL_100, eL_122, eL_160, eL_161, eL_255, eL_300, eL_343, eL_999, eL_1000, eL_1920, eL_9999, eL_10000, eL_999999, eL_100000, eL_1000000, sr_r0 hS, sr_r1 hS, sr_r2 hS, sr_r3 hS, sr_r4 hS, sr_r5 hS, sr_r6 hS, sr_p0 hS, sr_p1 hS, sr_p2 hS, sr_p3 hS, sr_p4 hS, sr_s0 hS, sr_s1 hS, sr_s2 hS, sr_s3 hS, sr_s4 hS, sr_s5 hS, sr_s6 hS, sr_l0 hS, sr_l1 hS, c4, t2, ↓reduceIte, ↓bl_e, bd_e, u1_f, u1_s, u2_f, u2_s, w_cl, w_ltT, w_ltF, w_leT, w_leF, w_eqT, w_eqF, w_mlt, w_ltm, w_mle, w_lem, w_eqm, w_meq, w_mltm, nI_add, w_sub, w_addm, up_s, up_n, ud_s, ud_n, ck_n, bz_0, bz_1]
    · simp (disch := (first | omega | (simp only [shm_l41 hM, shm_l42 hM, shm_l43 hM, shm_l44 hM, shm_l45 hM, shm_l46 hM, shm_l47 hM, shm_l48 hM, shm_l49 hM, shm_l50 hM, shm_l51 hM, shm_l52 hM, shm_l53 hM, shm_l54 hM, shm_l55 hM, shm_l56 hM, shm_l57 hM, shm_l58 hM, shm_l59 hM, shm_l60 hM, shm_l61 hM, shm_l62 hM, shm_l63 hM, shm_l64 hM, shm_l65 hM, shm_l66 hM, shm_l67 hM, shm_l68 hM, shm_l69 hM, shm_l70 hM, shm_l71 hM, shm_l72 hM, shm_l73 hM, shm_l74 hM, shm_l75 hM, shm_l76 hM, shm_l77 hM, shm_l78 hM, shm_l79 hM, shm_l80 hM]; omega))) only [lp_X12_goTick_40_b, j_X12_goTick_79, ↓eM, eL_0, eL_1, eL_2, eL_3, eL_4, eL_5, eL_6, eL_7, eL_8, eL_9, eL_10, eL_11, eL_12, eL_15, eL_16, eL_20, eL_24, eL_30, eL_31, eL_32, eL_39, eL_40, eL_41, eL_42, eL_43, eL_45, eL_47, eL_48, eL_49, eL_50, eL_57, eL_59, eL_60, eL_61, eL_90, eL_96, eL_97, eL_100, eL_122, eL_160, eL_161, eL_255, eL_300, eL_343, eL_999, eL_1000, eL_1920, eL_9999, eL_10000, eL_999999, eL_100000, eL_1000000, shm_p5 hM, shm_p6 hM, shm_p7 hM, shm_p8 hM, shm_p9 hM, shm_p10 hM, shm_p11 hM, shm_p12 hM, shm_p13 hM, shm_p14 hM, shm_p15 hM, shm_p16 hM, shm_p19 hM, shm_p20 hM, shm_p21 hM, shm_p22 hM, shm_p23 hM, shm_p24 hM, shm_p25 hM, shm_p26 hM, shm_p27 hM, shm_p31 hM, shm_p32 hM, shm_p37 hM, shm_p38 hM, shm_p43 hM, shm_p44 hM, shm_p48 hM, shm_p49 hM, shm_p50 hM, shm_p51 hM, shm_p52 hM, shm_p53 hM, shm_p54 hM, shm_p55 hM, shm_p62 hM, shm_p63 hM, shm_p64 hM, shm_p65 hM, shm_p66 hM, c5, t1, ↓reduceIte, ↓bl_e, bd_e, u1_f, u1_s, u2_f, u2_s, w_cl, w_ltT, w_ltF, w_leT, w_leF, w_eqT, w_eqF, w_mlt, w_ltm, w_mle, w_lem, w_eqm, w_meq, w_mltm, nI_add, w_sub, w_addm, up_s, up_n, ud_s, ud_n, ck_n, bz_0, bz_1]
set_option maxHeartbeats 1600000 in
theorem z_tick (hN : 600 ≤ N) (hv : zEv S Sm r n x y w T c) (h : zRR r n x y M K W) :
    zJ (f_X6_goByOnce N S r x) (f_X12_goTick N Sm 40 y) (fun x' y' => (∃ W', zRR r n x' y' M K W') ∧ zLg r w x y x' y' 8000 13 ∧ zFx r (sX c) x x' ∧ zFy y y') := by
  have hv' := hv
  obtain ⟨hS, hM, hX, hr, hr2, hmn, hE, hT⟩ := hv'
  have hsk := sX_ok c
  obtain ⟨x1, x2, y2, e1, e2, e3, h2, lg2, fx2, fy2⟩ := z_round (N := N) (sk := sX c) hN hS hM hX (by omega) hmn h
  have hn := hS.2.2.2.2.2.1
  rw [show f_X6_goByOnce N S r x = Option.bind (f_X6_turnBelt N S r x) (fun r1 => Option.bind (f_X6_throwStale N S r r1) (fun r2 => lp_X6_goByOnce_19 N S (fun y7 => Option.bind (f_X2_letIn N S (pr S r 5) y7) (fun r10 => lp_X6_goByOnce_43 N S (fun y14 => lp_X6_goByOnce_67 N S (fun y23 => some (U1 y23 r 7 ((y23.1 r 7) + 1))) r 0 y14) r 0 r10)) r ((nI (S.2.2.1 (pr S (pr S r 5) 0))) - 1) r2)) from rfl,
    show f_X12_goTick N Sm 40 y = Option.bind (f_X12_goRound N Sm 40 y) (fun r1 => Option.bind (f_X12_goLane N Sm 40 r1) (fun r2 => lp_X12_goTick_10 N Sm (fun y8 => lp_X12_goTick_40 N Sm (fun y18 => some (U1 y18 40 2 ((y18.1 40 2) + 1))) 40 0 y8) 40 0 r2)) from rfl, e1, bd_e, e2, bd_e, e3, bd_e, sr_r5 hS, sr_l0 hS, sr_l19 hS]
  have hv2 := hv.keep fx2 fy2 hr hr2
  obtain ⟨x3, y3, f1, f2, h3, lg3, fx3, fy3⟩ := z_lane (N := N) (sk := sX c) hN hS hM hX (by omega) (by omega) hv2.2.2.2.2.2.1 h2 (fun y7 => Option.bind (f_X2_letIn N S (r + 17) y7) (fun r10 => lp_X6_goByOnce_43 N S (fun y14 => lp_X6_goByOnce_67 N S (fun y23 => some (U1 y23 r 7 ((y23.1 r 7) + 1))) r 0 y14) r 0 r10))
  rw [f1, f2]
  obtain ⟨x4, y4, W', g1, g2, h4, lg4, fx4, fy4⟩ := z_letIn (N := N) (w := w) (sk := sX c) hN hS hM h3
  rw [g1, g2, bd_e, bd_e]
  have lgA := ((lg2.trans lg3).trans lg4).wk (G' := 0) (T' := 13) (by omega) (by omega)
  have fxA := (fx2.trans fx3).trans fx4
  have fyA := (fy2.trans fy3).trans fy4
  clear e1 e2 e3 f1 f2 g1 g2 h2 h3 lg2 lg3 lg4 fx2 fx3 fx4 fy2 fy3 fy4 hv2 hmn hE hT
  have hK : K ≤ 8 := h.1.1.2.2.2.2.2.1
  unfold lp_X6_goByOnce_43 lp_X12_goTick_10
  refine z_loop2 (fun i a b => ∃ x' y', a = (nI i, x') ∧ b = (nI i, y') ∧ zRR r n x' y' M K W' ∧ zLg r w x y x' y' (999 * i) 13 ∧ zFx r (sX c) x x' ∧ zFy y y') K
    (K1 := fun a => lp_X6_goByOnce_67 N S (fun y23 => some (U1 y23 r 7 ((y23.1 r 7) + 1))) r 0 a.2) (K2 := fun b => lp_X12_goTick_40 N Sm (fun y18 => some (U1 y18 40 2 ((y18.1 40 2) + 1))) 40 0 b.2) _ (by omega) (by omega) ⟨x4, y4, rfl, rfl, h4, lgA, fxA, fyA⟩ ?_ ?_ ?_
  · rintro i _ _ hi ⟨x', y', rfl, rfl, k1, k2, k3, k4⟩
    have hv1 := hv.keep k3 k4 hr hr2
    obtain ⟨x'', y'', m1, m2, m3, m4, m5, m6⟩ := z_serve (N := N) hN hS hM hX hr hr2 hv1.2.2.2.2.2.2.1 hv1.2.2.2.2.2.1 hv1.2.2.2.2.2.2.2 k1 hi
    have c4 := k1.1.1.2.2.2.1
    have c5 := k1.1.1.2.2.2.2.1
    refine ⟨(nI (i + 1), x''), (nI (i + 1), y''), ⟨x'', y'', rfl, rfl, m3, (k2.trans m4).wk (by omega) (by omega), k3.trans m5, k4.trans m6⟩, fun back => ?_, fun back => ?_⟩
    · simp (disch := (first | omega | (simp only [sr_l2 hS, sr_l3 hS, sr_l4 hS, sr_l5 hS, sr_l6 hS, sr_l8 hS, sr_l9 hS, sr_l10 hS, sr_l11 hS, sr_l12 hS, sr_l13 hS, sr_l14 hS, sr_l15 hS, sr_l16 hS, sr_l18 hS, sr_l19 hS]; omega))) only [lp_X6_goByOnce_43_b, ↓eM, eL_0, eL_1, eL_2, eL_3, eL_4, eL_5, eL_6, eL_7, eL_8, eL_9, eL_10, eL_11, eL_12, eL_15, eL_16, eL_20, eL_24, eL_30, eL_31, eL_32, eL_39, eL_40, eL_41, eL_42, eL_43, eL_45, eL_47, eL_48, eL_49, eL_50, eL_57, eL_59, eL_60, eL_61, eL_90, eL_96, eL_97, eL_100, eL_122, eL_160, eL_161, eL_255, eL_300, eL_343, eL_999, eL_1000, eL_1920, eL_9999, eL_10000, eL_999999, eL_100000, eL_1000000, sr_r0 hS, sr_r1 hS, sr_r2 hS, sr_r3 hS, sr_r4 hS, sr_r5 hS, sr_r6 hS, sr_p0 hS, sr_p1 hS, sr_p2 hS, sr_p3 hS, sr_p4 hS, sr_s0 hS, sr_s1 hS, sr_s2 hS, sr_s3 hS, sr_s4 hS, sr_s5 hS, sr_s6 hS, sr_l0 hS, sr_l1 hS, c4, m1, ↓reduceIte, ↓bl_e, bd_e, u1_f, u1_s, u2_f, u2_s, w_cl, w_ltT, w_ltF, w_leT, w_leF, w_eqT, w_eqF, w_mlt, w_ltm, w_mle, w_lem, w_eqm, w_meq, w_mltm, nI_add, w_sub, w_addm, up_s, up_n, ud_s, ud_n, ck_n, bz_0, bz_1]
    · rcases m2 with ⟨q1, rfl⟩ | ⟨q1, q2⟩
      · simp (disch := (first | omega | (simp only [shm_l41 hM, shm_l42 hM, shm_l43 hM, shm_l44 hM, shm_l45 hM, shm_l46 hM, shm_l47 hM, shm_l48 hM, shm_l49 hM, shm_l50 hM, shm_l51 hM, shm_l52 hM, shm_l53 hM, shm_l54 hM, shm_l55 hM, shm_l56 hM, shm_l57 hM, shm_l58 hM, shm_l59 hM, shm_l60 hM, shm_l61 hM, shm_l62 hM, shm_l63 hM, shm_l64 hM, shm_l65 hM, shm_l66 hM, shm_l67 hM, shm_l68 hM, shm_l69 hM, shm_l70 hM, shm_l71 hM, shm_l72 hM, shm_l73 hM, shm_l74 hM, shm_l75 hM, shm_l76 hM, shm_l77 hM, shm_l78 hM, shm_l79 hM, shm_l80 hM]; omega))) only [lp_X12_goTick_10_b, j_X12_goTick_32, ↓eM, eL_0, eL_1, eL_2, eL_3, eL_4, eL_5, eL_6, eL_7, eL_8, eL_9, eL_10, eL_11, eL_12, eL_15, eL_16, eL_20, eL_24, eL_30, eL_31, eL_32, eL_39, eL_40, eL_41, eL_42, eL_43, eL_45, eL_47, eL_48, eL_49, eL_50, eL_57, eL_59, eL_60, eL_61, eL_90, eL_96, eL_97, eL_100, eL_122, eL_160, eL_161, eL_255, eL_300, eL_343, eL_999, eL_1000, eL_1920, eL_9999, eL_10000, eL_999999, eL_100000, eL_1000000, shm_p26 hM, c5, q1, ↓reduceIte, ↓bl_e, bd_e, u1_f, u1_s, u2_f, u2_s, w_cl, w_ltT, w_ltF, w_leT, w_leF, w_eqT, w_eqF, w_mlt, w_ltm, w_mle, w_lem, w_eqm, w_meq, w_mltm, nI_add, w_sub, w_addm, up_s, up_n, ud_s, ud_n, ck_n, bz_0, bz_1]
      · simp (disch := (first | omega | (simp only [shm_l41 hM, shm_l42 hM, shm_l43 hM, shm_l44 hM, shm_l45 hM, shm_l46 hM, shm_l47 hM, shm_l48 hM, shm_l49 hM, shm_l50 hM, shm_l51 hM, shm_l52 hM, shm_l53 hM, shm_l54 hM, shm_l55 hM, shm_l56 hM, shm_l57 hM, shm_l58 hM, shm_l59 hM, shm_l60 hM, shm_l61 hM, shm_l62 hM, shm_l63 hM, shm_l64 hM, shm_l65 hM, shm_l66 hM, shm_l67 hM, shm_l68 hM, shm_l69 hM, shm_l70 hM, shm_l71 hM, shm_l72 hM, shm_l73 hM, shm_l74 hM, shm_l75 hM, shm_l76 hM, shm_l77 hM, shm_l78 hM, shm_l79 hM, shm_l80 hM]; omega))) only [lp_X12_goTick_10_b, j_X12_goTick_32, ↓eM, eL_0, eL_1, eL_2, eL_3, eL_4, eL_5, eL_6, eL_7, eL_8, eL_9, eL_10, eL_11, eL_12, eL_15, eL_16, eL_20, eL_24, eL_30, eL_31, eL_32, eL_39, eL_40, eL_41, eL_42, eL_43, eL_45, eL_47, eL_48, eL_49, eL_50, eL_57, eL_59, eL_60, eL_61, eL_90, eL_96, eL_97, eL_100, eL_122, eL_160, eL_161, eL_255, eL_300, eL_343, eL_999, eL_1000, eL_1920, eL_9999, eL_10000, eL_999999, eL_100000, eL_1000000, shm_p26 hM, c5, q1, q2, ↓reduceIte, ↓bl_e, bd_e, u1_f, u1_s, u2_f, u2_s, w_cl, w_ltT, w_ltF, w_leT, w_leF, w_eqT, w_eqF, w_mlt, w_ltm, w_mle, w_lem, w_eqm, w_meq, w_mltm, nI_add, w_sub, w_addm, up_s, up_n, ud_s, ud_n, ck_n, bz_0, bz_1]
  · rintro _ _ ⟨x', y', rfl, rfl, k1, k2, k3, k4⟩
    have c4 := k1.1.1.2.2.2.1
    have c5 := k1.1.1.2.2.2.2.1
    refine ⟨fun back => ?_, fun back => ?_⟩
    · simp (disch := (first | omega | (simp only [sr_l2 hS, sr_l3 hS, sr_l4 hS, sr_l5 hS, sr_l6 hS, sr_l8 hS, sr_l9 hS, sr_l10 hS, sr_l11 hS, sr_l12 hS, sr_l13 hS, sr_l14 hS, sr_l15 hS, sr_l16 hS, sr_l18 hS, sr_l19 hS]; omega))) only [lp_X6_goByOnce_43_b, sr_r4 hS, c4, w_leT, ↓reduceIte]
    · simp (disch := omega) only [lp_X12_goTick_10_b, c5, w_leT, ↓reduceIte]
  · rintro _ _ ⟨x', y', rfl, rfl, k1, k2, k3, k4⟩
    unfold lp_X6_goByOnce_67 lp_X12_goTick_40
    refine z_loop2 (fun i a b => ∃ x' y', a = (nI i, x') ∧ b = (nI i, y') ∧ zRR r n x' y' M K W' ∧ zLg r w x y x' y' (999 * K) 13 ∧ zFx r (sX c) x x' ∧ zFy y y') K
      (K1 := fun a => some (U1 a.2 r 7 ((a.2.1 r 7) + 1))) (K2 := fun b => some (U1 b.2 40 2 ((b.2.1 40 2) + 1))) _ (by omega) (by omega) ⟨x', y', rfl, rfl, k1, k2, k3, k4⟩ ?_ ?_ ?_
    · rintro i _ _ hi ⟨x', y', rfl, rfl, k1, k2, k3, k4⟩
      obtain ⟨x'', y'', m1, m2, m3, m4, m5, m6, -⟩ := z_gone (N := N) hN (hv.keep k3 k4 hr hr2) k1 hi
      exact ⟨(nI (i + 1), x''), (nI (i + 1), y''), ⟨x'', y'', rfl, rfl, m3, (k2.trans m4).wk (by omega) (by omega), k3.trans m5, k4.trans m6⟩, fun back => m1 _ _, fun back => m2 _ _⟩
    · rintro _ _ ⟨x', y', rfl, rfl, k1, k2, k3, k4⟩
      have c4 := k1.1.1.2.2.2.1
      have c5 := k1.1.1.2.2.2.2.1
      refine ⟨fun back => ?_, fun back => ?_⟩
      · simp (disch := (first | omega | (simp only [sr_l2 hS, sr_l3 hS, sr_l4 hS, sr_l5 hS, sr_l6 hS, sr_l8 hS, sr_l9 hS, sr_l10 hS, sr_l11 hS, sr_l12 hS, sr_l13 hS, sr_l14 hS, sr_l15 hS, sr_l16 hS, sr_l18 hS, sr_l19 hS]; omega))) only [lp_X6_goByOnce_67_b, sr_r4 hS, c4, w_leT, ↓reduceIte]
      · simp (disch := omega) only [lp_X12_goTick_40_b, c5, w_leT, ↓reduceIte]
    · rintro _ _ ⟨x', y', rfl, rfl, k1, k2, k3, k4⟩
      have lgE : zLg r w x' y' (U1 x' r 7 (x'.1 r 7 + 1)) (U1 y' 40 2 (y'.1 40 2 + 1)) 0 0 := zLg.same (by simp (disch := omega) only [u1_f, u1_s, u2_f, u2_s, up_s, up_n, ud_s, ud_n]) (by simp (disch := omega) only [u1_f, u1_s, u2_f, u2_s, up_s, up_n, ud_s, ud_n]) (by simp (disch := omega) only [u1_f, u1_s, u2_f, u2_s, up_s, up_n, ud_s, ud_n]) (by simp (disch := omega) only [u1_f, u1_s, u2_f, u2_s, up_s, up_n, ud_s, ud_n]) rfl
      refine zJ.ret ⟨⟨W', ?_⟩, (k2.trans lgE).wk (by omega) (by omega), k3.trans ⟨fun b hb hbs => ?_, fun b hb => rfl⟩, k4.trans ⟨fun b hb => ?_, fun k hk => ?_, fun s9 h9 => by simp (disch := omega) only [u1_f, u1_s, u2_f, u2_s, up_s, up_n, ud_s, ud_n]; exact h9⟩⟩
      · obtain ⟨⟨hsc, hpl, ⟨hq1, hq2, hq3, hq4⟩, hse, hzi⟩, hag⟩ := k1
        obtain ⟨c1, c2, c3, c4, c5, c6, c7, c8, c9, c10, c11, c12, c13, c14⟩ := hsc
        refine ⟨⟨?_, ?_, ⟨?_, ?_, ?_, ?_⟩, ?_, ?_⟩, ?_⟩
        · unfold zSc; simp (disch := omega) only [u1_f, u1_s, u2_f, u2_s, up_s, up_n, ud_s, ud_n]
          exact ⟨c1, c2, c3, c4, c5, c6, c7, c8, c9, c10, c11, c12, by rw [c13], c14⟩
        · simp (disch := omega) only [u1_f, u1_s, u2_f, u2_s, up_s, up_n, ud_s, ud_n]; exact hpl
        · simp (disch := omega) only [u1_f, u1_s, u2_f, u2_s, up_s, up_n, ud_s, ud_n]; exact hq1
        · simp (disch := omega) only [u1_f, u1_s, u2_f, u2_s, up_s, up_n, ud_s, ud_n]; exact hq2
        · simp (disch := omega) only [u1_f, u1_s, u2_f, u2_s, up_s, up_n, ud_s, ud_n]; exact hq3
        · simp (disch := omega) only [u1_f, u1_s, u2_f, u2_s, up_s, up_n, ud_s, ud_n]; exact hq4
        · simp (disch := omega) only [u1_f, u1_s, u2_f, u2_s, up_s, up_n, ud_s, ud_n]; exact hse
        · simp (disch := omega) only [u1_f, u1_s, u2_f, u2_s, up_s, up_n, ud_s, ud_n]; exact hzi
        · simp (disch := omega) only [u1_f, u1_s, u2_f, u2_s, up_s, up_n, ud_s, ud_n]; exact hag
      · simp (disch := omega) only [u1_f, u1_s, u2_f, u2_s, up_s, up_n, ud_s, ud_n]
      · simp (disch := omega) only [u1_f, u1_s, u2_f, u2_s, up_s, up_n, ud_s, ud_n]
      · simp (disch := omega) only [u1_f, u1_s, u2_f, u2_s, up_s, up_n, ud_s, ud_n]
end TICK
