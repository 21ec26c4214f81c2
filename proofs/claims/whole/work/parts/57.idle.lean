/-! LAYER 3: a tick in which nothing can be eaten or thrown -/
def zIdle (n : Nat) (y : DY) : Prop := y.1 40 17 = nI 0 ∧ ∀ i, i < n → y.1 49 i = mO ∧ y.1 50 i = mO
def zIQ (r n M K c : Nat) (x y : DY) (o : Option DY) : Prop := ∃ x' y' W', o = some y' ∧ zRR r n x' y' M K W' ∧ zFx r (sX c) x x' ∧ zFy y y' ∧ zIdle n y' ∧ y'.1 40 46 = y.1 40 46 ∧ y'.1 40 47 = y.1 40 47
section IDLE
variable {N : Nat} {S Sm : SH} {r n M K W w s T c : Nat} {x y : DY}
theorem i_round (hN : 600 ≤ N) (hM : SHM Sm) (h : zRR r n x y M K W) (hi : zIdle n y) : ∃ y1, f_X12_goRound N Sm 40 y = some y1 ∧ zIdle n y1 ∧ y1.1 40 = y.1 40 := by
  obtain ⟨⟨⟨c1, c2, c3, c4, c5, c6, c7, c8, c9, c10, c11, c12, c13, c14⟩, hpl, -, hse, hzi⟩, hag⟩ := h
  obtain ⟨y1, e2, g1, g2, g3, g4, g5, g6, g7⟩ := z_turnM (N := N) hN hM (y := y) (n := n) (M := M) c10 c11 c12 c3 hzi.lt (fun i j p hi hj hp a b => (hzi.uq c3 c12 i j p hi hj hp a b).1)
  have h0 : ∀ i, i < n → y1.1 49 i = mO := fun i hi' => by
    rcases Nat.eq_zero_or_pos i with rfl | h
    · rw [g3]; exact (hi.2 _ (by omega)).1
    · have := g4 (i - 1) (by omega)
      rw [show i - 1 + 1 = i by omega] at this
      rw [this]; exact (hi.2 _ (by omega)).1
  have hv := h0 0 (by omega)
  have e40 := g2 40 (by decide) (by decide) (by decide)
  refine ⟨y1, ?_, ⟨by rw [e40]; exact hi.1, fun i hi' => ⟨h0 i hi', by rw [g2 50 (by decide) (by decide) (by decide)]; exact (hi.2 i hi').2⟩⟩, e40⟩
  rw [e2]
  simp (disch := (first | omega | (simp only [shm_l41 hM, shm_l42 hM, shm_l43 hM, shm_l44 hM, shm_l45 hM, shm_l46 hM, shm_l47 hM, shm_l48 hM, shm_l49 hM, shm_l50 hM, shm_l51 hM, shm_l52 hM, shm_l53 hM, shm_l54 hM, shm_l55 hM, shm_l56 hM, shm_l57 hM, shm_l58 hM, shm_l59 hM, shm_l60 hM, shm_l61 hM, shm_l62 hM, shm_l63 hM, shm_l64 hM, shm_l65 hM, shm_l66 hM, shm_l67 hM, shm_l68 hM, shm_l69 hM, shm_l70 hM, shm_l71 hM, shm_l72 hM, shm_l73 hM, shm_l74 hM, shm_l75 hM, shm_l76 hM, shm_l77 hM, shm_l78 hM, shm_l79 hM, shm_l80 hM]; omega))) only [zStM, ↓eM, eL_0, eL_1, eL_2, eL_3, eL_4, eL_5, eL_6, eL_7, eL_8, eL_9, eL_10, eL_11, eL_12, eL_15, eL_16, eL_20, eL_24, eL_30, eL_31, eL_32, eL_39, eL_40, eL_41, eL_42, eL_43, eL_45, eL_47, eL_48, eL_49, eL_50, eL_57, eL_59, eL_60, eL_61, eL_90, eL_96, eL_97, eL_100, eL_122, eL_160, eL_161, eL_255, eL_300, eL_343, eL_999, eL_1000, eL_1920, eL_9999, eL_10000, eL_999999, eL_100000, eL_1000000, shm_p13 hM, hv, ↓reduceIte, ↓bl_e, bd_e, u1_f, u1_s, u2_f, u2_s, w_cl, w_ltT, w_ltF, w_leT, w_leF, w_eqT, w_eqF, w_mlt, w_ltm, w_mle, w_lem, w_eqm, w_meq, w_mltm, nI_add, w_sub, w_addm, up_s, up_n, ud_s, ud_n, ck_n, bz_0, bz_1]
theorem i_lane (hN : 600 ≤ N) (hM : SHM Sm) (h : zRR r n x y M K W) (hi : zIdle n y) : ∃ y1, f_X12_goLane N Sm 40 y = some y1 ∧ zIdle n y1 ∧ y1.1 40 = y.1 40 := by
  obtain ⟨⟨⟨c1, c2, c3, c4, c5, c6, c7, c8, c9, c10, c11, c12, c13, c14⟩, hpl, -, hse, hzi⟩, hag⟩ := h
  obtain ⟨y0, e0, g1, g2, g3⟩ := z_laneM (N := N) hN hM (y := y) (n := n) (M := M) c10 c11 c12 c3 hzi.ln
  have e40 := g2 40 (by decide)
  have e50 := g2 50 (by decide)
  have h17 : y0.1 40 17 = nI 0 := by rw [e40]; exact hi.1
  refine ⟨y0, ?_, ⟨h17, fun i hi' => by rw [g2 49 (by decide), e50]; exact hi.2 i hi'⟩, e40⟩
  rw [e0]
  unfold lp_X12_goLane_47
  refine z_loop1 (fun i a => a = (nI (n - i) + mO, y0)) n (N1 := N) (K1 := fun a => zLiM N Sm 40 y0) (fun o => o = some y0) (by omega) (by rw [Nat.sub_zero]) ?_ ?_ ?_
  · rintro i _ hi' rfl
    obtain ⟨k, hk⟩ : ∃ k, n - i = k + 1 := ⟨n - i - 1, by omega⟩
    refine ⟨_, rfl, fun back => ?_⟩
    have hc : nI (k + 1) + mO = nI k := pk_m1 k
    have hv : y0.1 50 k = mO := by rw [e50]; exact (hi.2 k (by omega)).2
    rw [hk, show n - (i + 1) = k by omega, hc]
    have hcm : (nI k + (-1) : Int32) = nI k + mO := rfl
    rw [← hcm]
    simp (disch := (first | omega | (simp only [shm_l41 hM, shm_l42 hM, shm_l43 hM, shm_l44 hM, shm_l45 hM, shm_l46 hM, shm_l47 hM, shm_l48 hM, shm_l49 hM, shm_l50 hM, shm_l51 hM, shm_l52 hM, shm_l53 hM, shm_l54 hM, shm_l55 hM, shm_l56 hM, shm_l57 hM, shm_l58 hM, shm_l59 hM, shm_l60 hM, shm_l61 hM, shm_l62 hM, shm_l63 hM, shm_l64 hM, shm_l65 hM, shm_l66 hM, shm_l67 hM, shm_l68 hM, shm_l69 hM, shm_l70 hM, shm_l71 hM, shm_l72 hM, shm_l73 hM, shm_l74 hM, shm_l75 hM, shm_l76 hM, shm_l77 hM, shm_l78 hM, shm_l79 hM, shm_l80 hM]; omega))) only [lp_X12_goLane_47_b, j_X12_goLane_166, ↓eM, eL_0, eL_1, eL_2, eL_3, eL_4, eL_5, eL_6, eL_7, eL_8, eL_9, eL_10, eL_11, eL_12, eL_15, eL_16, eL_20, eL_24, eL_30, eL_31, eL_32, eL_39, eL_40, eL_41, eL_42, eL_43, eL_45, eL_47, eL_48, eL_49, eL_50, eL_57, eL_59, eL_60, eL_61, eL_90, eL_96, eL_97, eL_100, eL_122, eL_160, eL_161, eL_255, eL_300, eL_343, eL_999, eL_1000, eL_1920, eL_9999, eL_10000, eL_999999, eL_100000, eL_1000000, shm_p14 hM, hv, ↓reduceIte, ↓bl_e, bd_e, u1_f, u1_s, u2_f, u2_s, w_cl, w_ltT, w_ltF, w_leT, w_leF, w_eqT, w_eqF, w_mlt, w_ltm, w_mle, w_lem, w_eqm, w_meq, w_mltm, nI_add, w_sub, w_addm, up_s, up_n, ud_s, ud_n, ck_n, bz_0, bz_1]
  · rintro _ rfl back
    have h0 : nI (n - n) + mO = mO := by rw [Nat.sub_self]; exact w_add0m
    have hlt : (mO < nI 0) = True := w_mlt (by omega)
    simp only [h0, lp_X12_goLane_47_b, ↓eM, eL_0, eL_1, eL_2, eL_3, eL_4, eL_5, eL_6, eL_7, eL_8, eL_9, eL_10, eL_11, eL_12, eL_15, eL_16, eL_20, eL_24, eL_30, eL_31, eL_32, eL_39, eL_40, eL_41, eL_42, eL_43, eL_45, eL_47, eL_48, eL_49, eL_50, eL_57, eL_59, eL_60, eL_61, eL_90, eL_96, eL_97, eL_100, eL_122, eL_160, eL_161, eL_255, eL_300, eL_343, eL_999, eL_1000, eL_1920, eL_9999, eL_10000, eL_999999, eL_100000, eL_1000000, hlt, ↓reduceIte]
  · rintro _ rfl
    have hv : y0.1 50 0 = mO := by rw [e50]; exact (hi.2 0 (by omega)).2
    simp (disch := (first | omega | (simp only [shm_l41 hM, shm_l42 hM, shm_l43 hM, shm_l44 hM, shm_l45 hM, shm_l46 hM, shm_l47 hM, shm_l48 hM, shm_l49 hM, shm_l50 hM, shm_l51 hM, shm_l52 hM, shm_l53 hM, shm_l54 hM, shm_l55 hM, shm_l56 hM, shm_l57 hM, shm_l58 hM, shm_l59 hM, shm_l60 hM, shm_l61 hM, shm_l62 hM, shm_l63 hM, shm_l64 hM, shm_l65 hM, shm_l66 hM, shm_l67 hM, shm_l68 hM, shm_l69 hM, shm_l70 hM, shm_l71 hM, shm_l72 hM, shm_l73 hM, shm_l74 hM, shm_l75 hM, shm_l76 hM, shm_l77 hM, shm_l78 hM, shm_l79 hM, shm_l80 hM]; omega))) only [zLiM, ↓eM, eL_0, eL_1, eL_2, eL_3, eL_4, eL_5, eL_6, eL_7, eL_8, eL_9, eL_10, eL_11, eL_12, eL_15, eL_16, eL_20, eL_24, eL_30, eL_31, eL_32, eL_39, eL_40, eL_41, eL_42, eL_43, eL_45, eL_47, eL_48, eL_49, eL_50, eL_57, eL_59, eL_60, eL_61, eL_90, eL_96, eL_97, eL_100, eL_122, eL_160, eL_161, eL_255, eL_300, eL_343, eL_999, eL_1000, eL_1920, eL_9999, eL_10000, eL_999999, eL_100000, eL_1000000, shm_p5 hM, shm_p6 hM, shm_p7 hM, shm_p8 hM, shm_p9 hM, shm_p10 hM, shm_p11 hM, shm_p12 hM, shm_p13 hM, shm_p14 hM, shm_p15 hM, shm_p16 hM, shm_p19 hM, shm_p20 hM, shm_p21 hM, shm_p22 hM, shm_p23 hM, shm_p24 hM, shm_p25 hM, shm_p26 hM, shm_p27 hM, shm_p31 hM, shm_p32 hM, shm_p37 hM, shm_p38 hM, shm_p43 hM, shm_p44 hM, shm_p48 hM, shm_p49 hM, shm_p50 hM, shm_p51 hM, shm_p52 hM, shm_p53 hM, shm_p54 hM, shm_p55 hM, shm_p62 hM, shm_p63 hM, shm_p64 hM, shm_p65 hM, shm_p66 hM, hv, h17, ↓reduceIte, ↓bl_e, bd_e, u1_f, u1_s, u2_f, u2_s, w_cl, w_ltT, w_ltF, w_leT, w_leF, w_eqT, w_eqF, w_mlt, w_ltm, w_mle, w_lem, w_eqm, w_meq, w_mltm, nI_add, w_sub, w_addm, up_s, up_n, ud_s, ud_n, ck_n, bz_0, bz_1]
theorem i_dine (hM : SHM Sm) {q : Nat} (hs : s < 8) (hq : q < 12) (p2 : y.1 53 s = nI q) (h1 : y.1 49 q = mO) (h2 : y.1 50 q = mO) : f_X12_dine N Sm 40 (nI s) y = some (U1 (U1 y 58 s mO) 56 s (y.1 56 s + nI 1)) := by
  simp (disch := (first | omega | (simp only [shm_l41 hM, shm_l42 hM, shm_l43 hM, shm_l44 hM, shm_l45 hM, shm_l46 hM, shm_l47 hM, shm_l48 hM, shm_l49 hM, shm_l50 hM, shm_l51 hM, shm_l52 hM, shm_l53 hM, shm_l54 hM, shm_l55 hM, shm_l56 hM, shm_l57 hM, shm_l58 hM, shm_l59 hM, shm_l60 hM, shm_l61 hM, shm_l62 hM, shm_l63 hM, shm_l64 hM, shm_l65 hM, shm_l66 hM, shm_l67 hM, shm_l68 hM, shm_l69 hM, shm_l70 hM, shm_l71 hM, shm_l72 hM, shm_l73 hM, shm_l74 hM, shm_l75 hM, shm_l76 hM, shm_l77 hM, shm_l78 hM, shm_l79 hM, shm_l80 hM]; omega))) only [f_X12_dine, j_X12_dine_64, j_X12_dine_130, ↓eM, eL_0, eL_1, eL_2, eL_3, eL_4, eL_5, eL_6, eL_7, eL_8, eL_9, eL_10, eL_11, eL_12, eL_15, eL_16, eL_20, eL_24, eL_30, eL_31, eL_32, eL_39, eL_40, eL_41, eL_42, eL_43, eL_45, eL_47, eL_48, eL_49, eL_50, eL_57, eL_59, eL_60, eL_61, eL_90, eL_96, eL_97, eL_100, eL_122, eL_160, eL_161, eL_255, eL_300, eL_343, eL_999, eL_1000, eL_1920, eL_9999, eL_10000, eL_999999, eL_100000, eL_1000000, shm_p5 hM, shm_p6 hM, shm_p7 hM, shm_p8 hM, shm_p9 hM, shm_p10 hM, shm_p11 hM, shm_p12 hM, shm_p13 hM, shm_p14 hM, shm_p15 hM, shm_p16 hM, shm_p19 hM, shm_p20 hM, shm_p21 hM, shm_p22 hM, shm_p23 hM, shm_p24 hM, shm_p25 hM, shm_p26 hM, shm_p27 hM, shm_p31 hM, shm_p32 hM, shm_p37 hM, shm_p38 hM, shm_p43 hM, shm_p44 hM, shm_p48 hM, shm_p49 hM, shm_p50 hM, shm_p51 hM, shm_p52 hM, shm_p53 hM, shm_p54 hM, shm_p55 hM, shm_p62 hM, shm_p63 hM, shm_p64 hM, shm_p65 hM, shm_p66 hM, p2, h1, h2, ↓reduceIte, ↓bl_e, bd_e, u1_f, u1_s, u2_f, u2_s, w_cl, w_ltT, w_ltF, w_leT, w_leF, w_eqT, w_eqF, w_mlt, w_ltm, w_mle, w_lem, w_eqm, w_meq, w_mltm, nI_add, w_sub, w_addm, up_s, up_n, ud_s, ud_n, ck_n, bz_0, bz_1]
set_option maxHeartbeats 1600000 in
theorem z_idle (hN : 600 ≤ N) (hv : zEv S Sm r n x y w T c) (h : zRR r n x y M K W) (hi : zIdle n y) : zIQ r n M K c x y (f_X12_goTick N Sm 40 y) := by
  have hv' := hv
  obtain ⟨hS, hM, hX, hr, hr2, hmn, hE, hT⟩ := hv'
  have hsk := sX_ok c
  obtain ⟨x1, x2, y2, e1, e2, e3, h2, lg2, fx2, fy2⟩ := z_round (N := N) (sk := sX c) hN hS hM hX (by omega) hmn h
  obtain ⟨y2', i1, i2, i3⟩ := i_round (N := N) hN hM h hi
  rw [e3] at i1
  obtain rfl : y2 = y2' := Option.some.inj i1
  rw [show f_X12_goTick N Sm 40 y = Option.bind (f_X12_goRound N Sm 40 y) (fun r1 => Option.bind (f_X12_goLane N Sm 40 r1) (fun r2 => lp_X12_goTick_10 N Sm (fun y8 => lp_X12_goTick_40 N Sm (fun y18 => some (U1 y18 40 2 ((y18.1 40 2) + 1))) 40 0 y8) 40 0 r2)) from rfl, e3, bd_e]
  have hv2 := hv.keep fx2 fy2 hr hr2
  obtain ⟨x3, y3, f1, f2, h3, lg3, fx3, fy3⟩ := z_lane (N := N) (sk := sX c) hN hS hM hX (by omega) (by omega) hv2.2.2.2.2.2.1 h2 (fun _ => none)
  obtain ⟨x4, y4, W', g1, g2, h4, lg4, fx4, fy4⟩ := z_letIn (N := N) (w := w) (sk := sX c) hN hS hM h3
  obtain ⟨y4', j1, j2, j3⟩ := i_lane (N := N) hN hM h2 i2
  rw [f2, g2] at j1
  obtain rfl : y4 = y4' := Option.some.inj j1
  rw [f2, g2, bd_e]
  have fxA := (fx2.trans fx3).trans fx4
  have fyA := (fy2.trans fy3).trans fy4
  have s46 : y4.1 40 46 = y.1 40 46 := by rw [j3, i3]
  have s47 : y4.1 40 47 = y.1 40 47 := by rw [j3, i3]
  clear e1 e2 e3 f1 f2 g1 g2 h2 h3 lg2 lg3 lg4 fx2 fx3 fx4 fy2 fy3 fy4 hv2 hmn hE hT i1 i2 i3 j1 j3
  have hK : K ≤ 8 := h.1.1.2.2.2.2.2.1
  unfold lp_X12_goTick_10
  refine z_loop1 (fun i b => ∃ x' y', b = (nI i, y') ∧ zRR r n x' y' M K W' ∧ zFx r (sX c) x x' ∧ zFy y y' ∧ zIdle n y' ∧ y'.1 40 46 = y.1 40 46 ∧ y'.1 40 47 = y.1 40 47) K (N1 := N) (K1 := fun b => lp_X12_goTick_40 N Sm (fun y18 => some (U1 y18 40 2 ((y18.1 40 2) + 1))) 40 0 b.2) (zIQ r n M K c x y) (by omega) ⟨x4, y4, rfl, h4, fxA, fyA, j2, s46, s47⟩ ?_ ?_ ?_
  · rintro i _ hik ⟨x', y', rfl, k1, k3, k4, k5, k6, k7⟩
    have hv1 := hv.keep k3 k4 hr hr2
    obtain ⟨x'', y'', m1, m2, m3, m4, m5, m6⟩ := z_serve (N := N) hN hS hM hX hr hr2 hv1.2.2.2.2.2.2.1 hv1.2.2.2.2.2.1 hv1.2.2.2.2.2.2.2 k1 hik
    have c5 := k1.1.1.2.2.2.2.1
    have hn12 := k1.1.1.2.2.2.2.2.2.2.2.2.2.2.1
    rcases m2 with ⟨q1, rfl⟩ | ⟨q1, q2⟩
    · refine ⟨(nI (i + 1), y''), ⟨x'', y'', rfl, m3, k3.trans m5, k4.trans m6, k5, k6, k7⟩, fun back => ?_⟩
      simp (disch := (first | omega | (simp only [shm_l41 hM, shm_l42 hM, shm_l43 hM, shm_l44 hM, shm_l45 hM, shm_l46 hM, shm_l47 hM, shm_l48 hM, shm_l49 hM, shm_l50 hM, shm_l51 hM, shm_l52 hM, shm_l53 hM, shm_l54 hM, shm_l55 hM, shm_l56 hM, shm_l57 hM, shm_l58 hM, shm_l59 hM, shm_l60 hM, shm_l61 hM, shm_l62 hM, shm_l63 hM, shm_l64 hM, shm_l65 hM, shm_l66 hM, shm_l67 hM, shm_l68 hM, shm_l69 hM, shm_l70 hM, shm_l71 hM, shm_l72 hM, shm_l73 hM, shm_l74 hM, shm_l75 hM, shm_l76 hM, shm_l77 hM, shm_l78 hM, shm_l79 hM, shm_l80 hM]; omega))) only [lp_X12_goTick_10_b, j_X12_goTick_32, ↓eM, eL_0, eL_1, eL_2, eL_3, eL_4, eL_5, eL_6, eL_7, eL_8, eL_9, eL_10, eL_11, eL_12, eL_15, eL_16, eL_20, eL_24, eL_30, eL_31, eL_32, eL_39, eL_40, eL_41, eL_42, eL_43, eL_45, eL_47, eL_48, eL_49, eL_50, eL_57, eL_59, eL_60, eL_61, eL_90, eL_96, eL_97, eL_100, eL_122, eL_160, eL_161, eL_255, eL_300, eL_343, eL_999, eL_1000, eL_1920, eL_9999, eL_10000, eL_999999, eL_100000, eL_1000000, shm_p26 hM, c5, q1, ↓reduceIte, ↓bl_e, bd_e, u1_f, u1_s, u2_f, u2_s, w_cl, w_ltT, w_ltF, w_leT, w_leF, w_eqT, w_eqF, w_mlt, w_ltm, w_mle, w_lem, w_eqm, w_meq, w_mltm, nI_add, w_sub, w_addm, up_s, up_n, ud_s, ud_n, ck_n, bz_0, bz_1]
    · obtain ⟨-, ⟨q, hq0, hqn, p2⟩, -⟩ := k1.1.2.2.2.1 i hik
      have hd := i_dine (N := N) hM (s := i) (by omega) (by omega) p2 (k5.2 q hqn).1 (k5.2 q hqn).2
      rw [q2] at hd
      obtain rfl := Option.some.inj hd
      refine ⟨(nI (i + 1), U1 (U1 y' 58 i mO) 56 i (y'.1 56 i + nI 1)), ⟨x'', _, rfl, m3, k3.trans m5, k4.trans m6, ⟨by simp (disch := omega) only [u1_f, u1_s, u2_f, u2_s, up_s, up_n, ud_s, ud_n]; exact k5.1, fun j hj => by simp (disch := omega) only [u1_f, u1_s, u2_f, u2_s, up_s, up_n, ud_s, ud_n]; exact k5.2 j hj⟩, by simp (disch := omega) only [u1_f, u1_s, u2_f, u2_s, up_s, up_n, ud_s, ud_n]; exact k6, by simp (disch := omega) only [u1_f, u1_s, u2_f, u2_s, up_s, up_n, ud_s, ud_n]; exact k7⟩, fun back => ?_⟩
      simp (disch := (first | omega | (simp only [shm_l41 hM, shm_l42 hM, shm_l43 hM, shm_l44 hM, shm_l45 hM, shm_l46 hM, shm_l47 hM, shm_l48 hM, shm_l49 hM, shm_l50 hM, shm_l51 hM, shm_l52 hM, shm_l53 hM, shm_l54 hM, shm_l55 hM, shm_l56 hM, shm_l57 hM, shm_l58 hM, shm_l59 hM, shm_l60 hM, shm_l61 hM, shm_l62 hM, shm_l63 hM, shm_l64 hM, shm_l65 hM, shm_l66 hM, shm_l67 hM, shm_l68 hM, shm_l69 hM, shm_l70 hM, shm_l71 hM, shm_l72 hM, shm_l73 hM, shm_l74 hM, shm_l75 hM, shm_l76 hM, shm_l77 hM, shm_l78 hM, shm_l79 hM, shm_l80 hM]; omega))) only [lp_X12_goTick_10_b, j_X12_goTick_32, ↓eM, eL_0, eL_1, eL_2, eL_3, eL_4, eL_5, eL_6, eL_7, eL_8, eL_9, eL_10, eL_11, eL_12, eL_15, eL_16, eL_20, eL_24, eL_30, eL_31, eL_32, eL_39, eL_40, eL_41, eL_42, eL_43, eL_45, eL_47, eL_48, eL_49, eL_50, eL_57, eL_59, eL_60, eL_61, eL_90, eL_96, eL_97, eL_100, eL_122, eL_160, eL_161, eL_255, eL_300, eL_343, eL_999, eL_1000, eL_1920, eL_9999, eL_10000, eL_999999, eL_100000, eL_1000000, shm_p26 hM, c5, q1, q2, ↓reduceIte, ↓bl_e, bd_e, u1_f, u1_s, u2_f, u2_s, w_cl, w_ltT, w_ltF, w_leT, w_leF, w_eqT, w_eqF, w_mlt, w_ltm, w_mle, w_lem, w_eqm, w_meq, w_mltm, nI_add, w_sub, w_addm, up_s, up_n, ud_s, ud_n, ck_n, bz_0, bz_1]
  · rintro _ ⟨x', y', rfl, k1, k3, k4, k5, k6, k7⟩ back
    have c5 := k1.1.1.2.2.2.2.1
    simp (disch := omega) only [lp_X12_goTick_10_b, c5, w_leT, ↓reduceIte]
  · rintro _ ⟨x', y', rfl, k1, k3, k4, k5, k6, k7⟩
    unfold lp_X12_goTick_40
    refine z_loop1 (fun i b => ∃ x' y', b = (nI i, y') ∧ zRR r n x' y' M K W' ∧ zFx r (sX c) x x' ∧ zFy y y' ∧ zIdle n y' ∧ y'.1 40 46 = y.1 40 46 ∧ y'.1 40 47 = y.1 40 47) K (N1 := N) (K1 := fun b => some (U1 b.2 40 2 ((b.2.1 40 2) + 1))) (zIQ r n M K c x y) (by omega) ⟨x', y', rfl, k1, k3, k4, k5, k6, k7⟩ ?_ ?_ ?_
    · rintro i _ hik ⟨x', y', rfl, k1, k3, k4, k5, k6, k7⟩
      obtain ⟨x'', y'', m1, m2, m3, ⟨e, g, t, l1, l2, l3, l4, l5, l6, l7⟩, m5, m6, m7, m8⟩ := z_gone (N := N) hN (hv.keep k3 k4 hr hr2) k1 hik
      obtain rfl : g = 0 := by omega
      obtain rfl : t = 0 := by omega
      have hW0 : W' = 0 := by
        have c8 := k1.1.1.2.2.2.2.2.2.2.1
        have c9 := k1.1.1.2.2.2.2.2.2.2.2.1
        exact nI_inj (c8.symm.trans k5.1) (by omega) (by omega)
      have c8' := m3.1.1.2.2.2.2.2.2.2.1
      refine ⟨(nI (i + 1), y''), ⟨x'', y'', rfl, m3, k3.trans m5, k4.trans m6, ⟨by rw [c8', hW0], fun j hj => by rw [m7, m8]; exact k5.2 j hj⟩, by rw [l5, w_add0]; exact k6, by rw [l6, w_add0]; exact k7⟩, fun back => m2 _ _⟩
    · rintro _ ⟨x', y', rfl, k1, k3, k4, k5, k6, k7⟩ back
      have c5 := k1.1.1.2.2.2.2.1
      simp (disch := omega) only [lp_X12_goTick_40_b, c5, w_leT, ↓reduceIte]
    · rintro _ ⟨x', y', rfl, k1, k3, k4, k5, k6, k7⟩
      refine ⟨U1 x' r 7 ((x'.1 r 7) + 1), _, W', rfl, ?_, k3.trans ⟨fun b hb hbs => by simp (disch := omega) only [u1_f, u1_s, u2_f, u2_s, up_s, up_n, ud_s, ud_n], fun b hb => rfl⟩, k4.trans ⟨fun b hb => by simp (disch := omega) only [u1_f, u1_s, u2_f, u2_s, up_s, up_n, ud_s, ud_n], fun k hk => by simp (disch := omega) only [u1_f, u1_s, u2_f, u2_s, up_s, up_n, ud_s, ud_n], fun s9 h9 => by simp (disch := omega) only [u1_f, u1_s, u2_f, u2_s, up_s, up_n, ud_s, ud_n]; exact h9⟩, ⟨by simp (disch := omega) only [u1_f, u1_s, u2_f, u2_s, up_s, up_n, ud_s, ud_n]; exact k5.1, fun j hj => by simp (disch := omega) only [u1_f, u1_s, u2_f, u2_s, up_s, up_n, ud_s, ud_n]; exact k5.2 j hj⟩, by simp (disch := omega) only [u1_f, u1_s, u2_f, u2_s, up_s, up_n, ud_s, ud_n]; exact k6, by simp (disch := omega) only [u1_f, u1_s, u2_f, u2_s, up_s, up_n, ud_s, ud_n]; exact k7⟩
      obtain ⟨⟨hsc, hpl, ⟨hq1, hq2, hq3, hq4⟩, hse, hzi⟩, hag⟩ := k1
      obtain ⟨c1, c2, c3, c4, c5, c6, c7, c8, c9, c10, c11, c12, c13, c14⟩ := hsc
      refine ⟨⟨?_, ?_, ⟨?_, ?_, ?_, ?_⟩, ?_, ?_⟩, ?_⟩
      · unfold zSc; simp (disch := omega) only [u1_f, u1_s, u2_f, u2_s, up_s, up_n, ud_s, ud_n]
        exact ⟨c1, c2, c3, c4, c5, c6, c7, c8, c9, c10, c11, c12, by rw [c13], c14⟩
      · simp (disch := omega) only [u1_f, u1_s, u2_f, u2_s, up_s, up_n, ud_s, ud_n]; exact hpl
      · simp (disch := omega) only [u1_f, u1_s, u2_f, u2_s, up_s, up_n, ud_s, ud_n]; exact hq1
      · simp (disch := omega) only [u1_f, u1_s, u2_f, u2_s, up_s, up_n, ud_s, ud_n]; exact hq2
      · simp (disch := omega) only [u1_f, u1_s, u2_f, u2_s, up_s, up_n, ud_s, ud_n]; exact hq3
      · simp (disch := omega) only [u1_f, u1_s, u2_f, u2_s, up_s, up_n, ud_s, ud_n]; exact hq4
      · simp (disch := omega) only [u1_f, u1_s, u2_f, u2_s, up_s, up_n, ud_s, ud_n]; exact hse
      · simp (disch := omega) only [u1_f, u1_s, u2_f, u2_s, up_s, up_n, ud_s, ud_n]; exact hzi
      · simp (disch := omega) only [u1_f, u1_s, u2_f, u2_s, up_s, up_n, ud_s, ud_n]; exact hag
end IDLE
