/-! LAYER 3: the lane's loop, and who comes to it -/
theorem z_lane {N : Nat} (hN : 600 ≤ N) {S Sm : SH} {r n M K W w sk : Nat} (hS : SR S r n) (hM : SHM Sm) (hX : SX S) (hr : 45 ≤ r) (hsk : 45 ≤ sk) {x y : DY} (hmn : zMn x y w) (h : zRR r n x y M K W) (k1 : DY → Option DY) :
    ∃ x1 y1, lp_X6_goByOnce_19 N S k1 r (nI n - 1) x = k1 x1 ∧ f_X12_goLane N Sm 40 y = zLiM N Sm 40 y1 ∧ zRR r n x1 y1 M K W ∧ zLg r w x y x1 y1 0 12 ∧ zFx r sk x x1 ∧ zFy y y1 := by
  obtain ⟨hR, hag⟩ := h
  have hR' := hR
  obtain ⟨hsc, hpl, ⟨hq1, hq2, hq3, hq4⟩, hse, hzi⟩ := hR'
  obtain ⟨c1, c2, c3, c4, c5, c6, c7, c8, c9, c10, c11, c12, c13, c14⟩ := hsc
  obtain ⟨y0, e0, g1, g2, g3⟩ := z_laneM (N := N) hN hM (y := y) (n := n) (M := M) c10 c11 c12 c3 hzi.ln
  rw [e0, show nI n - 1 = nI n + mO by rw [Int32.sub_eq_add_neg]; rfl]
  unfold lp_X6_goByOnce_19 lp_X12_goLane_47
  have hn0 : n - 0 = n := Nat.sub_zero n
  refine z_itr2 (fun i a b => ∃ x' y', a = (nI (n - i) + mO, x') ∧ b = (nI (n - i) + mO, y') ∧ zR r n x' y' M K W ∧ zLag (n - i) M (x'.1 (r + 4)) (x'.1 (r + 19)) (y'.1 46) ∧ zLg r w x y x' y' 0 i ∧ zFx r sk x x' ∧ zFy y y') (fun o1 o2 => ∃ x1 y1, o1 = k1 x1 ∧ o2 = zLiM N Sm 40 y1 ∧ zRR r n x1 y1 M K W ∧ zLg r w x y x1 y1 0 12 ∧ zFx r sk x x1 ∧ zFy y y1) n ?_ ?_ n 0 _ _ N N (by omega) (by omega) (by omega) ⟨x, y0, by rw [hn0], by rw [hn0], ?_, ?_, ?_, zFx.rf, ?_⟩
  · rintro i _ _ hi ⟨x', y', rfl, rfl, f1, f2, f3, f4, f5⟩
    obtain ⟨c, hc⟩ : ∃ c, n - i = c + 1 := ⟨n - i - 1, by omega⟩
    rw [hc] at f2 ⊢
    have hcc : nI (c + 1) + mO = nI c := pk_m1 c
    obtain ⟨x2, y2, a1, a2, a3, a4, a5, a6, a7⟩ := z_tray (N := N) (sk := sk) hS hM hX hr (hmn.keep f4 f5 hr hsk) f1 (show c < n by omega) f2
    refine Or.inl ⟨(nI c + mO, x2), (nI c + mO, y2), ⟨x2, y2, by rw [show n - (i + 1) = c by omega], by rw [show n - (i + 1) = c by omega], a3, by rw [show n - (i + 1) = c by omega]; exact a4, (f3.trans a5).wk (by omega) (by omega), f4.trans a6, f5.trans a7⟩, fun back => ?_, fun back => ?_⟩
    · simp (disch := omega) only [hcc, lp_X6_goByOnce_19_b, ↓eM, eL_0, eL_1, eL_2, eL_3, eL_4, eL_5, eL_6, eL_7, eL_8, eL_9, eL_10, eL_11, eL_12, eL_15, eL_16, eL_20, eL_24, eL_30, eL_31, eL_32, eL_39, eL_40, eL_41, eL_42, eL_43, eL_45, eL_47, eL_48, eL_49, eL_50, eL_57, eL_59, eL_60, eL_61, eL_90, eL_96, eL_97, eL_100, eL_122, eL_160, eL_161, eL_255, eL_300, eL_343, eL_999, eL_1000, eL_1920, eL_9999, eL_10000, eL_999999, eL_100000, eL_1000000, a1, ↓reduceIte, ↓bl_e, bd_e, u1_f, u1_s, u2_f, u2_s, w_cl, w_ltT, w_ltF, w_leT, w_leF, w_eqT, w_eqF, w_mlt, w_ltm, w_mle, w_lem, w_eqm, w_meq, w_mltm, nI_add, w_sub, w_addm, up_s, up_n, ud_s, ud_n, ck_n, bz_0, bz_1]
    · show lp_X12_goLane_47_b N Sm (zLiM N Sm 40) (fun p1 y => back (p1, y)) 40 (nI (c + 1) + mO) y' = _
      rw [hcc]; exact a2 _ _
  · rintro _ _ ⟨x', y', rfl, rfl, f1, f2, f3, f4, f5⟩
    have h0 : nI (n - n) + mO = mO := by rw [Nat.sub_self]; exact w_add0m
    have hlt : (mO < nI 0) = True := w_mlt (by omega)
    refine ⟨k1 x', zLiM N Sm 40 y', ⟨x', y', rfl, rfl, ⟨f1, fun p hp => ?_⟩, f3.wk (by omega) (by omega), f4, f5⟩, fun back => ?_, fun back => ?_⟩
    · have := f2 p hp
      rw [Nat.sub_self] at this
      rw [← this]; exact (w_add0 _).symm
    · simp only [h0, lp_X6_goByOnce_19_b, ↓eM, eL_0, eL_1, eL_2, eL_3, eL_4, eL_5, eL_6, eL_7, eL_8, eL_9, eL_10, eL_11, eL_12, eL_15, eL_16, eL_20, eL_24, eL_30, eL_31, eL_32, eL_39, eL_40, eL_41, eL_42, eL_43, eL_45, eL_47, eL_48, eL_49, eL_50, eL_57, eL_59, eL_60, eL_61, eL_90, eL_96, eL_97, eL_100, eL_122, eL_160, eL_161, eL_255, eL_300, eL_343, eL_999, eL_1000, eL_1920, eL_9999, eL_10000, eL_999999, eL_100000, eL_1000000, hlt, ↓reduceIte]
    · simp only [h0, lp_X12_goLane_47_b, ↓eM, eL_0, eL_1, eL_2, eL_3, eL_4, eL_5, eL_6, eL_7, eL_8, eL_9, eL_10, eL_11, eL_12, eL_15, eL_16, eL_20, eL_24, eL_30, eL_31, eL_32, eL_39, eL_40, eL_41, eL_42, eL_43, eL_45, eL_47, eL_48, eL_49, eL_50, eL_57, eL_59, eL_60, eL_61, eL_90, eL_96, eL_97, eL_100, eL_122, eL_160, eL_161, eL_255, eL_300, eL_343, eL_999, eL_1000, eL_1920, eL_9999, eL_10000, eL_999999, eL_100000, eL_1000000, hlt, ↓reduceIte]
  · refine ⟨⟨c1, by rw [g2 40 (by decide)]; exact c2, c3, c4, by rw [g2 40 (by decide)]; exact c5, c6, c7, by rw [g2 40 (by decide)]; exact c8, c9, by rw [g2 40 (by decide)]; exact c10, c11, c12, by rw [g2 40 (by decide)]; exact c13, by rw [g2 40 (by decide)]; exact c14⟩, ?_, ⟨?_, ?_, ?_, ?_⟩, ?_, ?_⟩
    · rw [g2 44 (by decide), g2 45 (by decide), g2 47 (by decide), g2 48 (by decide), g2 52 (by decide)]; exact hpl
    · rw [g2 49 (by decide)]; exact hq1
    · rw [g2 50 (by decide)]; exact hq2
    · rw [g2 51 (by decide)]; exact hq3
    · rw [g2 58 (by decide)]; exact hq4
    · rw [g2 53 (by decide), g2 54 (by decide), g2 55 (by decide), g2 56 (by decide), g2 57 (by decide), g2 58 (by decide), g2 59 (by decide), g2 60 (by decide)]; exact hse
    · rw [g2 47 (by decide), g2 48 (by decide), g2 49 (by decide), g2 50 (by decide), g2 51 (by decide), g2 52 (by decide), g2 58 (by decide)]; exact hzi
  · intro p hp
    rw [hn0, g3 p hp, ← hag p hp, zC_congr n hq2]
  · exact zLg.same rfl (by rw [g2 40 (by decide)]) (by rw [g2 40 (by decide)]) (by rw [g2 40 (by decide)]) rfl
  · exact ⟨fun b hb => g2 b (by omega), fun k _ => by rw [g2 40 (by decide)], fun s9 h9 => by rw [g2 60 (by decide)]; exact h9⟩
set_option maxHeartbeats 3200000 in
theorem z_letIn {N : Nat} (hN : 600 ≤ N) {S Sm : SH} {r n M K W w sk : Nat} (hS : SR S r n) (hM : SHM Sm) {x y : DY} (h : zRR r n x y M K W) :
    ∃ x1 y1 W', f_X2_letIn N S (r + 17) x = some x1 ∧ zLiM N Sm 40 y = some y1 ∧ zRR r n x1 y1 M K W' ∧ zLg r w x y x1 y1 0 0 ∧ zFx r sk x x1 ∧ zFy y y1 := by
  obtain ⟨⟨hsc, hpl, ⟨hq1, hq2, hq3, hq4⟩, hse, hzi⟩, hag⟩ := h
  have hsc' := hsc
  obtain ⟨c1, c2, c3, c4, c5, c6, c7, c8, c9, c10, c11, c12, c13, c14⟩ := hsc'
  have hx0 := hq2 0 (by omega)
  rcases hzi.ln 0 (by omega) with hv | ⟨p, hp, hv⟩
  · rw [hv] at hx0
    rcases Nat.eq_zero_or_pos W with rfl | hW
    · refine ⟨x, y, 0, ?_, ?_, ⟨⟨hsc, hpl, ⟨hq1, hq2, hq3, hq4⟩, hse, hzi⟩, hag⟩, zLg.rf, zFx.rf, zFy.rf⟩
      · simp (disch := (first | omega | (simp only [sr_l2 hS, sr_l3 hS, sr_l4 hS, sr_l5 hS, sr_l6 hS, sr_l8 hS, sr_l9 hS, sr_l10 hS, sr_l11 hS, sr_l12 hS, sr_l13 hS, sr_l14 hS, sr_l15 hS, sr_l16 hS, sr_l18 hS, sr_l19 hS]; omega))) only [f_X2_letIn, f_X2_isFree, ↓eM, eL_0, eL_1, eL_2, eL_3, eL_4, eL_5, eL_6, eL_7, eL_8, eL_9, eL_10, eL_11, eL_12, eL_15, eL_16, eL_20, eL_24, eL_30, eL_31, eL_32, eL_39, eL_40, eL_41, eL_42, eL_43, eL_45, eL_47, eL_48, eL_49, eL_50, eL_57, eL_59, eL_60, eL_61, eL_90, eL_96, eL_97, eL_100, eL_122, eL_160, eL_161, eL_255, eL_300, eL_343, eL_999, eL_1000, eL_1920, eL_9999, eL_10000, eL_999999, eL_100000, eL_1000000, sr_r0 hS, sr_r1 hS, sr_r2 hS, sr_r3 hS, sr_r4 hS, sr_r5 hS, sr_r6 hS, sr_p0 hS, sr_p1 hS, sr_p2 hS, sr_p3 hS, sr_p4 hS, sr_s0 hS, sr_s1 hS, sr_s2 hS, sr_s3 hS, sr_s4 hS, sr_s5 hS, sr_s6 hS, sr_l0 hS, sr_l1 hS, hx0, sr_l19 hS, c7, ↓reduceIte, ↓bl_e, bd_e, u1_f, u1_s, u2_f, u2_s, w_cl, w_ltT, w_ltF, w_leT, w_leF, w_eqT, w_eqF, w_mlt, w_ltm, w_mle, w_lem, w_eqm, w_meq, w_mltm, nI_add, w_sub, w_addm, up_s, up_n, ud_s, ud_n, ck_n, bz_0, bz_1]
      · simp (disch := (first | omega | (simp only [shm_l41 hM, shm_l42 hM, shm_l43 hM, shm_l44 hM, shm_l45 hM, shm_l46 hM, shm_l47 hM, shm_l48 hM, shm_l49 hM, shm_l50 hM, shm_l51 hM, shm_l52 hM, shm_l53 hM, shm_l54 hM, shm_l55 hM, shm_l56 hM, shm_l57 hM, shm_l58 hM, shm_l59 hM, shm_l60 hM, shm_l61 hM, shm_l62 hM, shm_l63 hM, shm_l64 hM, shm_l65 hM, shm_l66 hM, shm_l67 hM, shm_l68 hM, shm_l69 hM, shm_l70 hM, shm_l71 hM, shm_l72 hM, shm_l73 hM, shm_l74 hM, shm_l75 hM, shm_l76 hM, shm_l77 hM, shm_l78 hM, shm_l79 hM, shm_l80 hM]; omega))) only [zLiM, ↓eM, eL_0, eL_1, eL_2, eL_3, eL_4, eL_5, eL_6, eL_7, eL_8, eL_9, eL_10, eL_11, eL_12, eL_15, eL_16, eL_20, eL_24, eL_30, eL_31, eL_32, eL_39, eL_40, eL_41, eL_42, eL_43, eL_45, eL_47, eL_48, eL_49, eL_50, eL_57, eL_59, eL_60, eL_61, eL_90, eL_96, eL_97, eL_100, eL_122, eL_160, eL_161, eL_255, eL_300, eL_343, eL_999, eL_1000, eL_1920, eL_9999, eL_10000, eL_999999, eL_100000, eL_1000000, shm_p5 hM, shm_p6 hM, shm_p7 hM, shm_p8 hM, shm_p9 hM, shm_p10 hM, shm_p11 hM, shm_p12 hM, shm_p13 hM, shm_p14 hM, shm_p15 hM, shm_p16 hM, shm_p19 hM, shm_p20 hM, shm_p21 hM, shm_p22 hM, shm_p23 hM, shm_p24 hM, shm_p25 hM, shm_p26 hM, shm_p27 hM, shm_p31 hM, shm_p32 hM, shm_p37 hM, shm_p38 hM, shm_p43 hM, shm_p44 hM, shm_p48 hM, shm_p49 hM, shm_p50 hM, shm_p51 hM, shm_p52 hM, shm_p53 hM, shm_p54 hM, shm_p55 hM, shm_p62 hM, shm_p63 hM, shm_p64 hM, shm_p65 hM, shm_p66 hM, hv, c8, ↓reduceIte, ↓bl_e, bd_e, u1_f, u1_s, u2_f, u2_s, w_cl, w_ltT, w_ltF, w_leT, w_leF, w_eqT, w_eqF, w_mlt, w_ltm, w_mle, w_lem, w_eqm, w_meq, w_mltm, nI_add, w_sub, w_addm, up_s, up_n, ud_s, ud_n, ck_n, bz_0, bz_1]
    · obtain ⟨W, rfl⟩ : ∃ W', W = W' + 1 := ⟨W - 1, by omega⟩
      obtain ⟨p0, s0, a1, a2, a3, a4, a5, a6⟩ := hzi.2.2.1 0 (by omega)
      have hx18 := hq3 0 (by omega)
      rw [a3] at hx18
      have hcl : ∀ (Y0 : DY), Y0.1 40 17 = nI W → ∃ y1, lp_X12_goLane_225 N Sm 40 (nI 0) Y0 = some y1 ∧ y1.2 = Y0.2 ∧ (∀ b, b ≠ 51 → y1.1 b = Y0.1 b) ∧ (∀ i, i < W → y1.1 51 i = Y0.1 51 (i + 1)) := fun Y0 h17 => by
        unfold lp_X12_goLane_225
        refine z_loop1 (fun k a => ∃ y1, a = (nI k, y1) ∧ y1.2 = Y0.2 ∧ (∀ b, b ≠ 51 → y1.1 b = Y0.1 b) ∧ (∀ i, i < k → y1.1 51 i = Y0.1 51 (i + 1)) ∧ (∀ i, k ≤ i → y1.1 51 i = Y0.1 51 i)) W (N1 := N) (K1 := fun a => some a.2) (fun o => ∃ y1, o = some y1 ∧ y1.2 = Y0.2 ∧ (∀ b, b ≠ 51 → y1.1 b = Y0.1 b) ∧ (∀ i, i < W → y1.1 51 i = Y0.1 51 (i + 1))) (by omega) ⟨Y0, rfl, rfl, fun _ _ => rfl, fun i hi => absurd hi (Nat.not_lt_zero i), fun i _ => rfl⟩ ?_ ?_ ?_
        · rintro k _ hk ⟨y1, rfl, f1, f2, f3, f4⟩
          have h17' : y1.1 40 17 = nI W := by rw [f2 40 (by decide)]; exact h17
          refine ⟨(nI (k + 1), U1 y1 51 k (y1.1 51 (k + 1))), ⟨_, rfl, f1, fun b hb => ?_, fun i hi => ?_, fun i hi => ?_⟩, fun back => ?_⟩
          · rw [u1_f, up_n hb]; exact f2 b hb
          · rw [u1_f, up_s]
            by_cases e : i = k
            · subst e; rw [ud_s]; exact f4 _ (by omega)
            · rw [ud_n e]; exact f3 i (by omega)
          · rw [u1_f, up_s, ud_n (by omega)]; exact f4 i (by omega)
          · simp (disch := (first | omega | (simp only [shm_l41 hM, shm_l42 hM, shm_l43 hM, shm_l44 hM, shm_l45 hM, shm_l46 hM, shm_l47 hM, shm_l48 hM, shm_l49 hM, shm_l50 hM, shm_l51 hM, shm_l52 hM, shm_l53 hM, shm_l54 hM, shm_l55 hM, shm_l56 hM, shm_l57 hM, shm_l58 hM, shm_l59 hM, shm_l60 hM, shm_l61 hM, shm_l62 hM, shm_l63 hM, shm_l64 hM, shm_l65 hM, shm_l66 hM, shm_l67 hM, shm_l68 hM, shm_l69 hM, shm_l70 hM, shm_l71 hM, shm_l72 hM, shm_l73 hM, shm_l74 hM, shm_l75 hM, shm_l76 hM, shm_l77 hM, shm_l78 hM, shm_l79 hM, shm_l80 hM]; omega))) only [lp_X12_goLane_225_b, ↓eM, eL_0, eL_1, eL_2, eL_3, eL_4, eL_5, eL_6, eL_7, eL_8, eL_9, eL_10, eL_11, eL_12, eL_15, eL_16, eL_20, eL_24, eL_30, eL_31, eL_32, eL_39, eL_40, eL_41, eL_42, eL_43, eL_45, eL_47, eL_48, eL_49, eL_50, eL_57, eL_59, eL_60, eL_61, eL_90, eL_96, eL_97, eL_100, eL_122, eL_160, eL_161, eL_255, eL_300, eL_343, eL_999, eL_1000, eL_1920, eL_9999, eL_10000, eL_999999, eL_100000, eL_1000000, shm_p5 hM, shm_p6 hM, shm_p7 hM, shm_p8 hM, shm_p9 hM, shm_p10 hM, shm_p11 hM, shm_p12 hM, shm_p13 hM, shm_p14 hM, shm_p15 hM, shm_p16 hM, shm_p19 hM, shm_p20 hM, shm_p21 hM, shm_p22 hM, shm_p23 hM, shm_p24 hM, shm_p25 hM, shm_p26 hM, shm_p27 hM, shm_p31 hM, shm_p32 hM, shm_p37 hM, shm_p38 hM, shm_p43 hM, shm_p44 hM, shm_p48 hM, shm_p49 hM, shm_p50 hM, shm_p51 hM, shm_p52 hM, shm_p53 hM, shm_p54 hM, shm_p55 hM, shm_p62 hM, shm_p63 hM, shm_p64 hM, shm_p65 hM, shm_p66 hM, h17', ↓reduceIte, ↓bl_e, bd_e, u1_f, u1_s, u2_f, u2_s, w_cl, w_ltT, w_ltF, w_leT, w_leF, w_eqT, w_eqF, w_mlt, w_ltm, w_mle, w_lem, w_eqm, w_meq, w_mltm, nI_add, w_sub, w_addm, up_s, up_n, ud_s, ud_n, ck_n, bz_0, bz_1]
        · rintro _ ⟨y1, rfl, f1, f2, f3, f4⟩ back
          have h17' : y1.1 40 17 = nI W := by rw [f2 40 (by decide)]; exact h17
          simp (disch := (first | omega | (simp only [shm_l41 hM, shm_l42 hM, shm_l43 hM, shm_l44 hM, shm_l45 hM, shm_l46 hM, shm_l47 hM, shm_l48 hM, shm_l49 hM, shm_l50 hM, shm_l51 hM, shm_l52 hM, shm_l53 hM, shm_l54 hM, shm_l55 hM, shm_l56 hM, shm_l57 hM, shm_l58 hM, shm_l59 hM, shm_l60 hM, shm_l61 hM, shm_l62 hM, shm_l63 hM, shm_l64 hM, shm_l65 hM, shm_l66 hM, shm_l67 hM, shm_l68 hM, shm_l69 hM, shm_l70 hM, shm_l71 hM, shm_l72 hM, shm_l73 hM, shm_l74 hM, shm_l75 hM, shm_l76 hM, shm_l77 hM, shm_l78 hM, shm_l79 hM, shm_l80 hM]; omega))) only [lp_X12_goLane_225_b, ↓eM, eL_0, eL_1, eL_2, eL_3, eL_4, eL_5, eL_6, eL_7, eL_8, eL_9, eL_10, eL_11, eL_12, eL_15, eL_16, eL_20, eL_24, eL_30, eL_31, eL_32, eL_39, eL_40, eL_41, eL_42, eL_43, eL_45, eL_47, eL_48, eL_49, eL_50, eL_57, eL_59, eL_60, eL_61, eL_90, eL_96, eL_97, eL_100, eL_122, eL_160, eL_161, eL_255, eL_300, eL_343, eL_999, eL_1000, eL_1920, eL_9999, eL_10000, eL_999999, eL_100000, eL_1000000, h17', ↓reduceIte, ↓bl_e, bd_e, u1_f, u1_s, u2_f, u2_s, w_cl, w_ltT, w_ltF, w_leT, w_leF, w_eqT, w_eqF, w_mlt, w_ltm, w_mle, w_lem, w_eqm, w_meq, w_mltm, nI_add, w_sub, w_addm, up_s, up_n, ud_s, ud_n, ck_n, bz_0, bz_1]
        · rintro _ ⟨y1, rfl, f1, f2, f3, f4⟩
          exact ⟨y1, rfl, f1, f2, f3⟩
      obtain ⟨y1, b1, b2, b3, b4⟩ := hcl (U1 (U1 (U1 y 50 0 (nI p0)) 48 p0 (nI 0)) 40 17 (nI W)) (by simp (disch := omega) only [u1_f, u1_s, u2_f, u2_s, up_s, up_n, ud_s, ud_n])
      refine ⟨cpX S (r + 18) (nI 1) (r + 18) (nI 0) (nI W) (U1 (U1 x (r + 19) 0 (nI p0)) (r + 17) 2 (nI W)), y1, W, ?_, ?_, ⟨⟨?_, ?_, ⟨?_, ?_, ?_, ?_⟩, ?_, ?_⟩, ?_⟩, zLg.same ?_ ?_ ?_ ?_ rfl, ⟨fun b hb hbs => ?_, fun b hb => rfl⟩, ⟨fun b hb => ?_, fun k hk => ?_, fun s9 h9 => by rw [b3 60 (by decide)]; simp (disch := omega) only [u1_f, u1_s, u2_f, u2_s, up_s, up_n, ud_s, ud_n]; exact h9⟩⟩
      · simp (disch := (first | omega | (simp only [sr_l2 hS, sr_l3 hS, sr_l4 hS, sr_l5 hS, sr_l6 hS, sr_l8 hS, sr_l9 hS, sr_l10 hS, sr_l11 hS, sr_l12 hS, sr_l13 hS, sr_l14 hS, sr_l15 hS, sr_l16 hS, sr_l18 hS, sr_l19 hS]; omega))) only [f_X2_letIn, f_X2_isFree, ↓eM, eL_0, eL_1, eL_2, eL_3, eL_4, eL_5, eL_6, eL_7, eL_8, eL_9, eL_10, eL_11, eL_12, eL_15, eL_16, eL_20, eL_24, eL_30, eL_31, eL_32, eL_39, eL_40, eL_41, eL_42, eL_43, eL_45, eL_47, eL_48, eL_49, eL_50, eL_57, eL_59, eL_60, eL_61, eL_90, eL_96, eL_97, eL_100, eL_122, eL_160, eL_161, eL_255, eL_300, eL_343, eL_999, eL_1000, eL_1920, eL_9999, eL_10000, eL_999999, eL_100000, eL_1000000, sr_r0 hS, sr_r1 hS, sr_r2 hS, sr_r3 hS, sr_r4 hS, sr_r5 hS, sr_r6 hS, sr_p0 hS, sr_p1 hS, sr_p2 hS, sr_p3 hS, sr_p4 hS, sr_s0 hS, sr_s1 hS, sr_s2 hS, sr_s3 hS, sr_s4 hS, sr_s5 hS, sr_s6 hS, sr_l0 hS, sr_l1 hS, hx0, sr_l19 hS, sr_l18 hS, c7, hx18, cpk_n, Nat.add_sub_cancel, ↓reduceIte, ↓bl_e, bd_e, u1_f, u1_s, u2_f, u2_s, w_cl, w_ltT, w_ltF, w_leT, w_leF, w_eqT, w_eqF, w_mlt, w_ltm, w_mle, w_lem, w_eqm, w_meq, w_mltm, nI_add, w_sub, w_addm, up_s, up_n, ud_s, ud_n, ck_n, bz_0, bz_1]
      · simp (disch := (first | omega | (simp only [shm_l41 hM, shm_l42 hM, shm_l43 hM, shm_l44 hM, shm_l45 hM, shm_l46 hM, shm_l47 hM, shm_l48 hM, shm_l49 hM, shm_l50 hM, shm_l51 hM, shm_l52 hM, shm_l53 hM, shm_l54 hM, shm_l55 hM, shm_l56 hM, shm_l57 hM, shm_l58 hM, shm_l59 hM, shm_l60 hM, shm_l61 hM, shm_l62 hM, shm_l63 hM, shm_l64 hM, shm_l65 hM, shm_l66 hM, shm_l67 hM, shm_l68 hM, shm_l69 hM, shm_l70 hM, shm_l71 hM, shm_l72 hM, shm_l73 hM, shm_l74 hM, shm_l75 hM, shm_l76 hM, shm_l77 hM, shm_l78 hM, shm_l79 hM, shm_l80 hM]; omega))) only [zLiM, ↓eM, eL_0, eL_1, eL_2, eL_3, eL_4, eL_5, eL_6, eL_7, eL_8, eL_9, eL_10, eL_11, eL_12, eL_15, eL_16, eL_20, eL_24, eL_30, eL_31, eL_32, eL_39, eL_40, eL_41, eL_42, eL_43, eL_45, eL_47, eL_48, eL_49, eL_50, eL_57, eL_59, eL_60, eL_61, eL_90, eL_96, eL_97, eL_100, eL_122, eL_160, eL_161, eL_255, eL_300, eL_343, eL_999, eL_1000, eL_1920, eL_9999, eL_10000, eL_999999, eL_100000, eL_1000000, shm_p5 hM, shm_p6 hM, shm_p7 hM, shm_p8 hM, shm_p9 hM, shm_p10 hM, shm_p11 hM, shm_p12 hM, shm_p13 hM, shm_p14 hM, shm_p15 hM, shm_p16 hM, shm_p19 hM, shm_p20 hM, shm_p21 hM, shm_p22 hM, shm_p23 hM, shm_p24 hM, shm_p25 hM, shm_p26 hM, shm_p27 hM, shm_p31 hM, shm_p32 hM, shm_p37 hM, shm_p38 hM, shm_p43 hM, shm_p44 hM, shm_p48 hM, shm_p49 hM, shm_p50 hM, shm_p51 hM, shm_p52 hM, shm_p53 hM, shm_p54 hM, shm_p55 hM, shm_p62 hM, shm_p63 hM, shm_p64 hM, shm_p65 hM, shm_p66 hM, hv, c8, a3, b1, Nat.add_sub_cancel, ↓reduceIte, ↓bl_e, bd_e, u1_f, u1_s, u2_f, u2_s, w_cl, w_ltT, w_ltF, w_leT, w_leF, w_eqT, w_eqF, w_mlt, w_ltm, w_mle, w_lem, w_eqm, w_meq, w_mltm, nI_add, w_sub, w_addm, up_s, up_n, ud_s, ud_n, ck_n, bz_0, bz_1]
      · unfold zSc
        rw [b3 40 (by decide)]
        simp (disch := omega) only [u1_f, u1_s, u2_f, u2_s, up_s, up_n, ud_s, ud_n, cpX_n]
        exact ⟨c1, c2, c3, c4, c5, c6, trivial, trivial, by omega, c10, c11, c12, c13, c14⟩
      · rw [b3 44 (by decide), b3 45 (by decide), b3 47 (by decide), b3 48 (by decide), b3 52 (by decide)]
        simp (disch := omega) only [u1_f, u1_s, u2_f, u2_s, up_s, up_n, ud_s, ud_n, cpX_n]
        exact hpl.spot (by rw [a4]; decide)
      · rw [b3 49 (by decide)]; simp (disch := omega) only [u1_f, u1_s, u2_f, u2_s, up_s, up_n, ud_s, ud_n, cpX_n]; exact hq1
      · rw [b3 50 (by decide)]; simp (disch := omega) only [u1_f, u1_s, u2_f, u2_s, up_s, up_n, ud_s, ud_n, cpX_n]; exact hq2.ud 0 (nI p0)
      · intro i hi
        rw [b4 i hi]
        simp (disch := omega) only [u1_f, u1_s, u2_f, u2_s, up_s, up_n, ud_s, ud_n, cpX_s, w_cl]
        rw [pk_cpy_in (by omega) (by omega), ← hq3 (i + 1) (by omega)]
        rw [show 1 + (i - 0) = i + 1 by omega]
      · rw [b3 58 (by decide)]; simp (disch := omega) only [u1_f, u1_s, u2_f, u2_s, up_s, up_n, ud_s, ud_n, cpX_n]; exact hq4
      · rw [b3 53 (by decide), b3 54 (by decide), b3 55 (by decide), b3 56 (by decide), b3 57 (by decide), b3 58 (by decide), b3 59 (by decide), b3 60 (by decide)]; simp (disch := omega) only [u1_f, u1_s, u2_f, u2_s, up_s, up_n, ud_s, ud_n, cpX_n]; exact hse
      · rw [b3 47 (by decide), b3 48 (by decide), b3 49 (by decide), b3 50 (by decide), b3 52 (by decide), b3 58 (by decide)]
        simp (disch := omega) only [u1_f, u1_s, u2_f, u2_s, up_s, up_n, ud_s, ud_n]
        exact hzi.letIn c3 c12 (by omega) a1 a3 hv (fun i hi => by rw [b4 i hi]; simp (disch := omega) only [u1_f, u1_s, u2_f, u2_s, up_s, up_n, ud_s, ud_n])
      · rw [b3 46 (by decide)]; simp (disch := omega) only [u1_f, u1_s, u2_f, u2_s, up_s, up_n, ud_s, ud_n, cpX_n]; exact hag
      · simp (disch := omega) only [u1_f, u1_s, u2_f, u2_s, up_s, up_n, ud_s, ud_n, cpX_n]
      · rw [b3 40 (by decide)]; simp (disch := omega) only [u1_f, u1_s, u2_f, u2_s, up_s, up_n, ud_s, ud_n]
      · rw [b3 40 (by decide)]; simp (disch := omega) only [u1_f, u1_s, u2_f, u2_s, up_s, up_n, ud_s, ud_n]
      · rw [b3 40 (by decide)]; simp (disch := omega) only [u1_f, u1_s, u2_f, u2_s, up_s, up_n, ud_s, ud_n]
      · simp (disch := omega) only [u1_f, u1_s, u2_f, u2_s, up_s, up_n, ud_s, ud_n, cpX_n]
      · rw [b3 b (by omega)]; simp (disch := omega) only [u1_f, u1_s, u2_f, u2_s, up_s, up_n, ud_s, ud_n]
      · rw [b3 40 (by decide)]; simp (disch := omega) only [u1_f, u1_s, u2_f, u2_s, up_s, up_n, ud_s, ud_n]
  · rw [hv] at hx0
    refine ⟨x, y, W, ?_, ?_, ⟨⟨hsc, hpl, ⟨hq1, hq2, hq3, hq4⟩, hse, hzi⟩, hag⟩, zLg.rf, zFx.rf, zFy.rf⟩
    · simp (disch := (first | omega | (simp only [sr_l2 hS, sr_l3 hS, sr_l4 hS, sr_l5 hS, sr_l6 hS, sr_l8 hS, sr_l9 hS, sr_l10 hS, sr_l11 hS, sr_l12 hS, sr_l13 hS, sr_l14 hS, sr_l15 hS, sr_l16 hS, sr_l18 hS, sr_l19 hS]; omega))) only [f_X2_letIn, f_X2_isFree, ↓eM, eL_0, eL_1, eL_2, eL_3, eL_4, eL_5, eL_6, eL_7, eL_8, eL_9, eL_10, eL_11, eL_12, eL_15, eL_16, eL_20, eL_24, eL_30, eL_31, eL_32, eL_39, eL_40, eL_41, eL_42, eL_43, eL_45, eL_47, eL_48, eL_49, eL_50, eL_57, eL_59, eL_60, eL_61, eL_90, eL_96, eL_97, eL_100, eL_122, eL_160, eL_161, eL_255, eL_300, eL_343, eL_999, eL_1000, eL_1920, eL_9999, eL_10000, eL_999999, eL_100000, eL_1000000, sr_r0 hS, sr_r1 hS, sr_r2 hS, sr_r3 hS, sr_r4 hS, sr_r5 hS, sr_r6 hS, sr_p0 hS, sr_p1 hS, sr_p2 hS, sr_p3 hS, sr_p4 hS, sr_s0 hS, sr_s1 hS, sr_s2 hS, sr_s3 hS, sr_s4 hS, sr_s5 hS, sr_s6 hS, sr_l0 hS, sr_l1 hS, hx0, sr_l19 hS, ↓reduceIte, ↓bl_e, bd_e, u1_f, u1_s, u2_f, u2_s, w_cl, w_ltT, w_ltF, w_leT, w_leF, w_eqT, w_eqF, w_mlt, w_ltm, w_mle, w_lem, w_eqm, w_meq, w_mltm, nI_add, w_sub, w_addm, up_s, up_n, ud_s, ud_n, ck_n, bz_0, bz_1]
    · simp (disch := (first | omega | (simp only [shm_l41 hM, shm_l42 hM, shm_l43 hM, shm_l44 hM, shm_l45 hM, shm_l46 hM, shm_l47 hM, shm_l48 hM, shm_l49 hM, shm_l50 hM, shm_l51 hM, shm_l52 hM, shm_l53 hM, shm_l54 hM, shm_l55 hM, shm_l56 hM, shm_l57 hM, shm_l58 hM, shm_l59 hM, shm_l60 hM, shm_l61 hM, shm_l62 hM, shm_l63 hM, shm_l64 hM, shm_l65 hM, shm_l66 hM, shm_l67 hM, shm_l68 hM, shm_l69 hM, shm_l70 hM, shm_l71 hM, shm_l72 hM, shm_l73 hM, shm_l74 hM, shm_l75 hM, shm_l76 hM, shm_l77 hM, shm_l78 hM, shm_l79 hM, shm_l80 hM]; omega))) only [zLiM, ↓eM, eL_0, eL_1, eL_2, eL_3, eL_4, eL_5, eL_6, eL_7, eL_8, eL_9, eL_10, eL_11, eL_12, eL_15, eL_16, eL_20, eL_24, eL_30, eL_31, eL_32, eL_39, eL_40, eL_41, eL_42, eL_43, eL_45, eL_47, eL_48, eL_49, eL_50, eL_57, eL_59, eL_60, eL_61, eL_90, eL_96, eL_97, eL_100, eL_122, eL_160, eL_161, eL_255, eL_300, eL_343, eL_999, eL_1000, eL_1920, eL_9999, eL_10000, eL_999999, eL_100000, eL_1000000, shm_p5 hM, shm_p6 hM, shm_p7 hM, shm_p8 hM, shm_p9 hM, shm_p10 hM, shm_p11 hM, shm_p12 hM, shm_p13 hM, shm_p14 hM, shm_p15 hM, shm_p16 hM, shm_p19 hM, shm_p20 hM, shm_p21 hM, shm_p22 hM, shm_p23 hM, shm_p24 hM, shm_p25 hM, shm_p26 hM, shm_p27 hM, shm_p31 hM, shm_p32 hM, shm_p37 hM, shm_p38 hM, shm_p43 hM, shm_p44 hM, shm_p48 hM, shm_p49 hM, shm_p50 hM, shm_p51 hM, shm_p52 hM, shm_p53 hM, shm_p54 hM, shm_p55 hM, shm_p62 hM, shm_p63 hM, shm_p64 hM, shm_p65 hM, shm_p66 hM, hv, ↓reduceIte, ↓bl_e, bd_e, u1_f, u1_s, u2_f, u2_s, w_cl, w_ltT, w_ltF, w_leT, w_leF, w_eqT, w_eqF, w_mlt, w_ltm, w_mle, w_lem, w_eqm, w_meq, w_mltm, nI_add, w_sub, w_addm, up_s, up_n, ud_s, ud_n, ck_n, bz_0, bz_1]
