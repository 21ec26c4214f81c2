/-! LAYER 3: who eats -/
theorem zSe.upd {n K : Nat} {a8 a9 a10 a11 a12 a13 b53 b54 b55 b56 b57 b58 b59 b60 a11' a12' b55' b56' b58' : Nat → Int32} (h : zSe n K a8 a9 a10 a11 a12 a13 b53 b54 b55 b56 b57 b58 b59 b60) (h1 : ∀ s, s < K → a11 s = b55 s → a11' s = b55' s) (h2 : ∀ s, s < K → a12 s = b56 s → a12' s = b56' s) (h3 : ∀ s, s < K → b60 s = nI 0 → b58 s = mO → b58' s = mO) : zSe n K a8 a9 a10 a11' a12' a13 b53 b54 b55' b56' b57 b58' b59 b60 := by
  intro s hs
  obtain ⟨g1, g2, g3, g4, g5⟩ := h s hs
  refine ⟨g1, g2, g3, g4, ?_⟩
  rcases g5 with ⟨t1, t2, t3, t4, t5, t6⟩ | ⟨t1, t2, t3, t4⟩
  · exact Or.inl ⟨t1, t2, t3, h1 s hs t4, h2 s hs t5, t6⟩
  · exact Or.inr ⟨t1, t2, h3 s hs t1 t3, t4⟩
theorem ud_same {a b : Nat → Int32} {s0 : Nat} {v : Int32} (K : Nat) : ∀ s, s < K → a s = b s → ud a s0 v s = ud b s0 v s := fun s _ h => by
  by_cases e : s = s0
  · subst e; rw [ud_s, ud_s]
  · rw [ud_n e, ud_n e]; exact h
theorem zRR.of_eq {r n M K W sk : Nat} {x y x' y' : DY} (h : zRR r n x y M K W) (hsk : sk < r ∨ r + 20 ≤ sk) (hx : ∀ q, q ≠ sk → q ≠ r + 15 → x'.1 q = x.1 q) (hy : ∀ q, q ≠ 67 → q ≠ 66 → y'.1 q = y.1 q) : zRR r n x' y' M K W := by
  unfold zRR zR zSc at h ⊢
  rw [hx r (by omega) (by omega), hx (r + 1) (by omega) (by omega), hx (r + 2) (by omega) (by omega), hx (r + 3) (by omega) (by omega), hx (r + 4) (by omega) (by omega), hx (r + 5) (by omega) (by omega), hx (r + 6) (by omega) (by omega), hx (r + 7) (by omega) (by omega), hx (r + 8) (by omega) (by omega), hx (r + 9) (by omega) (by omega), hx (r + 10) (by omega) (by omega), hx (r + 11) (by omega) (by omega), hx (r + 12) (by omega) (by omega), hx (r + 13) (by omega) (by omega), hx (r + 14) (by omega) (by omega), hx (r + 16) (by omega) (by omega), hx (r + 17) (by omega) (by omega), hx (r + 18) (by omega) (by omega), hx (r + 19) (by omega) (by omega),
    hy 40 (by decide) (by decide), hy 44 (by decide) (by decide), hy 45 (by decide) (by decide), hy 46 (by decide) (by decide), hy 47 (by decide) (by decide), hy 48 (by decide) (by decide), hy 49 (by decide) (by decide), hy 50 (by decide) (by decide), hy 51 (by decide) (by decide), hy 52 (by decide) (by decide), hy 53 (by decide) (by decide), hy 54 (by decide) (by decide), hy 55 (by decide) (by decide), hy 56 (by decide) (by decide), hy 57 (by decide) (by decide), hy 58 (by decide) (by decide), hy 59 (by decide) (by decide), hy 60 (by decide) (by decide)]
  exact h
theorem zFx.of_eq {r sk : Nat} {x x' : DY} (hx : ∀ q, q ≠ sk → q ≠ r + 15 → x'.1 q = x.1 q) (h2 : x'.2 = x.2) : zFx r sk x x' := ⟨fun b hb hs => hx b hs (by omega), fun b _ => by rw [h2]⟩
theorem zFy.of_eq {y y' : DY} (hy : ∀ q, q ≠ 67 → q ≠ 66 → y'.1 q = y.1 q) : zFy y y' := ⟨fun b hb => hy b (by omega) (by omega), fun k _ => by rw [hy 40 (by decide) (by decide)], fun s9 h9 => by rw [hy 60 (by decide) (by decide)]; exact h9⟩
theorem zLg.of_eq {r w sk G T : Nat} {x y x' y' : DY} (hsk : sk < r ∨ r + 20 ≤ sk) (hx : ∀ q, q ≠ sk → q ≠ r + 15 → x'.1 q = x.1 q) (h2 : x'.2 = x.2) (hy : ∀ q, q ≠ 67 → q ≠ 66 → y'.1 q = y.1 q) : zLg r w x y x' y' G T := zLg.same (by rw [hx r (by omega) (by omega)]) (by rw [hy 40 (by decide) (by decide)]) (by rw [hy 40 (by decide) (by decide)]) (by rw [hy 40 (by decide) (by decide)]) (by rw [h2])
theorem zSat.of_eq {r s k sk : Nat} {x y x' y' : DY} (h : zSat x y r s k) (hsk : sk < r ∨ r + 20 ≤ sk) (hx : ∀ q, q ≠ sk → q ≠ r + 15 → x'.1 q = x.1 q) (hy : ∀ q, q ≠ 67 → q ≠ 66 → y'.1 q = y.1 q) : zSat x' y' r s k := by
  unfold zSat at h ⊢
  rw [hx (r + 9) (by omega) (by omega), hx (r + 10) (by omega) (by omega), hx (r + 11) (by omega) (by omega), hx (r + 12) (by omega) (by omega), hy 54 (by decide) (by decide), hy 55 (by decide) (by decide), hy 56 (by decide) (by decide), hy 59 (by decide) (by decide), hy 60 (by decide) (by decide)]
  exact h
/-- the guest of a seat, or none -/
theorem zSe.sat {n K r : Nat} {x y : DY} (h : zSe n K (x.1 (r + 8)) (x.1 (r + 9)) (x.1 (r + 10)) (x.1 (r + 11)) (x.1 (r + 12)) (x.1 (r + 13)) (y.1 53) (y.1 54) (y.1 55) (y.1 56) (y.1 57) (y.1 58) (y.1 59) (y.1 60)) {s : Nat} (hs : s < K) : (∃ k, zSat x y r s k) ∨ (y.1 60 s = nI 0 ∧ x.1 (r + 9) s = mO ∧ y.1 58 s = mO ∧ y.1 57 s = mO) := by
  obtain ⟨-, -, -, -, g⟩ := h s hs
  rcases g with ⟨t1, t2, ⟨k, hk, t3⟩, t4, t5, t6⟩ | g
  · exact Or.inl ⟨k, t1, t2.trans t3, t3, hk, t4, t5, t6⟩
  · exact Or.inr g
set_option maxHeartbeats 1600000 in
theorem z_wait {N : Nat} {S Sm : SH} {r n M K W w sk s k : Nat} (hS : SR S r n) (hM : SHM Sm) {x y : DY} (h : zRR r n x y M K W) (hs : s < K) (ht : zSat x y r s k) :
    ∃ x' y', j_X6_serve_151 N S r (nI s) x = some x' ∧ j_X12_dine_130 N Sm 40 (nI s) y = some y' ∧ zRR r n x' y' M K W ∧ zLg r w x y x' y' 0 0 ∧ zFx r sk x x' ∧ zFy y y' := by
  obtain ⟨⟨hsc, hpl, ⟨hq1, hq2, hq3, hq4⟩, hse, hzi⟩, hag⟩ := h
  have hsc' := hsc
  obtain ⟨c1, c2, c3, c4, c5, c6, c7, c8, c9, c10, c11, c12, c13, c14⟩ := hsc'
  obtain ⟨t0, t1, t2, hk, t3, t4, t5⟩ := ht
  refine ⟨U1 x (r + 12) s (y.1 56 s + nI 1), U1 y 56 s (y.1 56 s + nI 1), ?_, ?_, ⟨⟨?_, ?_, ⟨?_, ?_, ?_, ?_⟩, ?_, ?_⟩, ?_⟩, zLg.same ?_ ?_ ?_ ?_ rfl, ⟨fun b hb hbs => ?_, fun b hb => rfl⟩, ⟨fun b hb => ?_, fun k hk => ?_, fun s9 h9 => by simp (disch := omega) only [u1_f, u1_s, u2_f, u2_s, up_s, up_n, ud_s, ud_n]; exact h9⟩⟩
  · simp (disch := (first | omega | (simp only [sr_l2 hS, sr_l3 hS, sr_l4 hS, sr_l5 hS, sr_l6 hS, sr_l8 hS, sr_l9 hS, sr_l10 hS, sr_l11 hS, sr_l12 hS, sr_l13 hS, sr_l14 hS, sr_l15 hS, sr_l16 hS, sr_l18 hS, sr_l19 hS]; omega))) only [j_X6_serve_151, ↓eM, eL_0, eL_1, eL_2, eL_3, eL_4, eL_5, eL_6, eL_7, eL_8, eL_9, eL_10, eL_11, eL_12, eL_15, eL_16, eL_20, eL_24, eL_30, eL_31, eL_32, eL_39, eL_40, eL_41, eL_42, eL_43, eL_45, eL_47, eL_48, eL_49, eL_50, eL_57, eL_59, eL_60, eL_61, eL_90, eL_96, eL_97, eL_100, eL_122, eL_160, eL_161, eL_255, eL_300, eL_343, eL_999, eL_1000, eL_1920, eL_9999, eL_10000, eL_999999, eL_100000, eL_1000000, sr_r0 hS, sr_r1 hS, sr_r2 hS, sr_r3 hS, sr_r4 hS, sr_r5 hS, sr_r6 hS, sr_p0 hS, sr_p1 hS, sr_p2 hS, sr_p3 hS, sr_p4 hS, sr_s0 hS, sr_s1 hS, sr_s2 hS, sr_s3 hS, sr_s4 hS, sr_s5 hS, sr_s6 hS, sr_l0 hS, sr_l1 hS, t4, ↓reduceIte, ↓bl_e, bd_e, u1_f, u1_s, u2_f, u2_s, w_cl, w_ltT, w_ltF, w_leT, w_leF, w_eqT, w_eqF, w_mlt, w_ltm, w_mle, w_lem, w_eqm, w_meq, w_mltm, nI_add, w_sub, w_addm, up_s, up_n, ud_s, ud_n, ck_n, bz_0, bz_1]
  · simp (disch := (first | omega | (simp only [shm_l41 hM, shm_l42 hM, shm_l43 hM, shm_l44 hM, shm_l45 hM, shm_l46 hM, shm_l47 hM, shm_l48 hM, shm_l49 hM, shm_l50 hM, shm_l51 hM, shm_l52 hM, shm_l53 hM, shm_l54 hM, shm_l55 hM, shm_l56 hM, shm_l57 hM, shm_l58 hM, shm_l59 hM, shm_l60 hM, shm_l61 hM, shm_l62 hM, shm_l63 hM, shm_l64 hM, shm_l65 hM, shm_l66 hM, shm_l67 hM, shm_l68 hM, shm_l69 hM, shm_l70 hM, shm_l71 hM, shm_l72 hM, shm_l73 hM, shm_l74 hM, shm_l75 hM, shm_l76 hM, shm_l77 hM, shm_l78 hM, shm_l79 hM, shm_l80 hM]; omega))) only [j_X12_dine_130, ↓eM, eL_0, eL_1, eL_2, eL_3, eL_4, eL_5, eL_6, eL_7, eL_8, eL_9, eL_10, eL_11, eL_12, eL_15, eL_16, eL_20, eL_24, eL_30, eL_31, eL_32, eL_39, eL_40, eL_41, eL_42, eL_43, eL_45, eL_47, eL_48, eL_49, eL_50, eL_57, eL_59, eL_60, eL_61, eL_90, eL_96, eL_97, eL_100, eL_122, eL_160, eL_161, eL_255, eL_300, eL_343, eL_999, eL_1000, eL_1920, eL_9999, eL_10000, eL_999999, eL_100000, eL_1000000, shm_p5 hM, shm_p6 hM, shm_p7 hM, shm_p8 hM, shm_p9 hM, shm_p10 hM, shm_p11 hM, shm_p12 hM, shm_p13 hM, shm_p14 hM, shm_p15 hM, shm_p16 hM, shm_p19 hM, shm_p20 hM, shm_p21 hM, shm_p22 hM, shm_p23 hM, shm_p24 hM, shm_p25 hM, shm_p26 hM, shm_p27 hM, shm_p31 hM, shm_p32 hM, shm_p37 hM, shm_p38 hM, shm_p43 hM, shm_p44 hM, shm_p48 hM, shm_p49 hM, shm_p50 hM, shm_p51 hM, shm_p52 hM, shm_p53 hM, shm_p54 hM, shm_p55 hM, shm_p62 hM, shm_p63 hM, shm_p64 hM, shm_p65 hM, shm_p66 hM, ↓reduceIte, ↓bl_e, bd_e, u1_f, u1_s, u2_f, u2_s, w_cl, w_ltT, w_ltF, w_leT, w_leF, w_eqT, w_eqF, w_mlt, w_ltm, w_mle, w_lem, w_eqm, w_meq, w_mltm, nI_add, w_sub, w_addm, up_s, up_n, ud_s, ud_n, ck_n, bz_0, bz_1]
  · unfold zSc; simp (disch := omega) only [u1_f, u1_s, u2_f, u2_s, up_s, up_n, ud_s, ud_n]; exact hsc
  · simp (disch := omega) only [u1_f, u1_s, u2_f, u2_s, up_s, up_n, ud_s, ud_n]; exact hpl
  · simp (disch := omega) only [u1_f, u1_s, u2_f, u2_s, up_s, up_n, ud_s, ud_n]; exact hq1
  · simp (disch := omega) only [u1_f, u1_s, u2_f, u2_s, up_s, up_n, ud_s, ud_n]; exact hq2
  · simp (disch := omega) only [u1_f, u1_s, u2_f, u2_s, up_s, up_n, ud_s, ud_n]; exact hq3
  · simp (disch := omega) only [u1_f, u1_s, u2_f, u2_s, up_s, up_n, ud_s, ud_n]; exact hq4
  · simp (disch := omega) only [u1_f, u1_s, u2_f, u2_s, up_s, up_n, ud_s, ud_n]; exact hse.upd (fun s hs e => e) (ud_same K) (fun s hs _ e => e)
  · simp (disch := omega) only [u1_f, u1_s, u2_f, u2_s, up_s, up_n, ud_s, ud_n]; exact hzi
  · simp (disch := omega) only [u1_f, u1_s, u2_f, u2_s, up_s, up_n, ud_s, ud_n]; exact hag
  · simp (disch := omega) only [u1_f, u1_s, u2_f, u2_s, up_s, up_n, ud_s, ud_n]
  · simp (disch := omega) only [u1_f, u1_s, u2_f, u2_s, up_s, up_n, ud_s, ud_n]
  · simp (disch := omega) only [u1_f, u1_s, u2_f, u2_s, up_s, up_n, ud_s, ud_n]
  · simp (disch := omega) only [u1_f, u1_s, u2_f, u2_s, up_s, up_n, ud_s, ud_n]
  · simp (disch := omega) only [u1_f, u1_s, u2_f, u2_s, up_s, up_n, ud_s, ud_n]
  · simp (disch := omega) only [u1_f, u1_s, u2_f, u2_s, up_s, up_n, ud_s, ud_n]
  · simp (disch := omega) only [u1_f, u1_s, u2_f, u2_s, up_s, up_n, ud_s, ud_n]
theorem e_eat {N : Nat} {S : SH} {r n M K s p co v0 : Nat} (hS : SR S r n) (hX : SX S) {x : DY} (c1 : x.1 (r + 1) 5 = nI M) (hM3 : M ≤ 300) (hK : K ≤ 8) (hs : s < K) (hp : p < M) (i2 : x.1 (r + 3) p = nI co) (hco : co < 5) (m3 : x.1 44 co = nI v0) (hv0 : v0 ≤ 999) (hr : 67 ≤ r) :
    f_X6_eat N S r (nI s) (nI p) x = some (U2 (U1 (U1 (U1 (U1 (U1 x (r + 5) p (nI 2)) (r + 6) p (nI s)) (r + 11) s (x.1 (r + 11) s + nI 1)) (r + 12) s (nI 0)) r 9 (x.1 r 9 + nI 1)) r 10 (x.2 r 10 + lN v0)) := by
  simp (disch := (first | omega | (simp only [sr_l2 hS, sr_l3 hS, sr_l4 hS, sr_l5 hS, sr_l6 hS, sr_l8 hS, sr_l9 hS, sr_l10 hS, sr_l11 hS, sr_l12 hS, sr_l13 hS, sr_l14 hS, sr_l15 hS, sr_l16 hS, sr_l18 hS, sr_l19 hS, sx_l42 hX, sx_l43 hX, sx_l44 hX, sx_l46 hX, sx_l50 hX, sx_l51 hX, sx_l52 hX, sx_l53 hX, sx_l54 hX, sx_l56 hX, sx_l57 hX, sx_l58 hX, sx_l60 hX, sx_l61 hX, sx_l62 hX, sx_l63 hX, sx_l64 hX, sx_l65 hX, sx_l66 hX, sx_l88 hX, sx_l89 hX, sx_l90 hX, sx_l0 hX, sx_l1 hX, sx_l2 hX, sx_l5 hX, sx_l6 hX, sx_l7 hX, sx_l8 hX, sx_l9 hX, sx_l10 hX, sx_l11 hX, sx_l12 hX, sx_l13 hX, sx_l14 hX, sx_l15 hX]; omega))) only [f_X6_eat, f_X4_become, f_X6_priceOf, j_X6_priceOf_24, f_X4_has, f_X11_isColour, ↓eM, eL_0, eL_1, eL_2, eL_3, eL_4, eL_5, eL_6, eL_7, eL_8, eL_9, eL_10, eL_11, eL_12, eL_15, eL_16, eL_20, eL_24, eL_30, eL_31, eL_32, eL_39, eL_40, eL_41, eL_42, eL_43, eL_45, eL_47, eL_48, eL_49, eL_50, eL_57, eL_59, eL_60, eL_61, eL_90, eL_96, eL_97, eL_100, eL_122, eL_160, eL_161, eL_255, eL_300, eL_343, eL_999, eL_1000, eL_1920, eL_9999, eL_10000, eL_999999, eL_100000, eL_1000000, sr_r0 hS, sr_r1 hS, sr_r2 hS, sr_r3 hS, sr_r4 hS, sr_r5 hS, sr_r6 hS, sr_p0 hS, sr_p1 hS, sr_p2 hS, sr_p3 hS, sr_p4 hS, sr_s0 hS, sr_s1 hS, sr_s2 hS, sr_s3 hS, sr_s4 hS, sr_s5 hS, sr_s6 hS, sr_l0 hS, sr_l1 hS, sx_m2 hX, c1, i2, m3, nI_l, ↓reduceIte, ↓bl_e, bd_e, u1_f, u1_s, u2_f, u2_s, w_cl, w_ltT, w_ltF, w_leT, w_leF, w_eqT, w_eqF, w_mlt, w_ltm, w_mle, w_lem, w_eqm, w_meq, w_mltm, nI_add, w_sub, w_addm, up_s, up_n, ud_s, ud_n, ck_n, bz_0, bz_1]
theorem e_eats {N : Nat} {Sm : SH} {M K s p co v0 : Nat} (hM : SHM Sm) {y : DY} (hM3 : M ≤ 300) (hK : K ≤ 8) (hs : s < K) (hp : p < M) (i2 : y.1 45 p = nI co) (hco : co < 5) (m3 : y.1 43 co = nI v0) (hv0 : v0 ≤ 999) :
    f_X12_eats N Sm 40 (nI s) (nI p) y = some (U1 (U1 (U1 (U1 (U1 y 47 p (nI 2)) 48 p (nI s)) 55 s (y.1 55 s + nI 1)) 40 45 (y.1 40 45 + nI 1)) 40 46 (y.1 40 46 + nI v0)) := by
  simp (disch := (first | omega | (simp only [shm_l41 hM, shm_l42 hM, shm_l43 hM, shm_l44 hM, shm_l45 hM, shm_l46 hM, shm_l47 hM, shm_l48 hM, shm_l49 hM, shm_l50 hM, shm_l51 hM, shm_l52 hM, shm_l53 hM, shm_l54 hM, shm_l55 hM, shm_l56 hM, shm_l57 hM, shm_l58 hM, shm_l59 hM, shm_l60 hM, shm_l61 hM, shm_l62 hM, shm_l63 hM, shm_l64 hM, shm_l65 hM, shm_l66 hM, shm_l67 hM, shm_l68 hM, shm_l69 hM, shm_l70 hM, shm_l71 hM, shm_l72 hM, shm_l73 hM, shm_l74 hM, shm_l75 hM, shm_l76 hM, shm_l77 hM, shm_l78 hM, shm_l79 hM, shm_l80 hM]; omega))) only [f_X12_eats, ↓eM, eL_0, eL_1, eL_2, eL_3, eL_4, eL_5, eL_6, eL_7, eL_8, eL_9, eL_10, eL_11, eL_12, eL_15, eL_16, eL_20, eL_24, eL_30, eL_31, eL_32, eL_39, eL_40, eL_41, eL_42, eL_43, eL_45, eL_47, eL_48, eL_49, eL_50, eL_57, eL_59, eL_60, eL_61, eL_90, eL_96, eL_97, eL_100, eL_122, eL_160, eL_161, eL_255, eL_300, eL_343, eL_999, eL_1000, eL_1920, eL_9999, eL_10000, eL_999999, eL_100000, eL_1000000, shm_p5 hM, shm_p6 hM, shm_p7 hM, shm_p8 hM, shm_p9 hM, shm_p10 hM, shm_p11 hM, shm_p12 hM, shm_p13 hM, shm_p14 hM, shm_p15 hM, shm_p16 hM, shm_p19 hM, shm_p20 hM, shm_p21 hM, shm_p22 hM, shm_p23 hM, shm_p24 hM, shm_p25 hM, shm_p26 hM, shm_p27 hM, shm_p31 hM, shm_p32 hM, shm_p37 hM, shm_p38 hM, shm_p43 hM, shm_p44 hM, shm_p48 hM, shm_p49 hM, shm_p50 hM, shm_p51 hM, shm_p52 hM, shm_p53 hM, shm_p54 hM, shm_p55 hM, shm_p62 hM, shm_p63 hM, shm_p64 hM, shm_p65 hM, shm_p66 hM, i2, m3, ↓reduceIte, ↓bl_e, bd_e, u1_f, u1_s, u2_f, u2_s, w_cl, w_ltT, w_ltF, w_leT, w_leF, w_eqT, w_eqF, w_mlt, w_ltm, w_mle, w_lem, w_eqm, w_meq, w_mltm, nI_add, w_sub, w_addm, up_s, up_n, ud_s, ud_n, ck_n, bz_0, bz_1]
set_option maxHeartbeats 3200000 in
/-- from the belt -/
theorem z_eatB {N : Nat} {S Sm : SH} {r n M K W w sk s k q p : Nat} (hS : SR S r n) (hM : SHM Sm) (hX : SX S) (hr : 67 ≤ r) {x y : DY} (hmn : zMn x y w) (h : zRR r n x y M K W) (hs : s < K) (ht : zSat x y r s k) (hp : p < M) (hqn : q < n) (hb : y.1 49 q = nI p) :
    ∃ x' y1, f_X6_eat N S r (nI s) (nI p) (U1 (U1 x (r + 16) q mO) (r + 14) s (nI p)) = some x' ∧ f_X12_eats N Sm 40 (nI s) (nI p) (U1 y 58 s (nI p)) = some y1 ∧ zRR r n x' (U1 (U1 y1 49 q mO) 56 s (nI 0)) M K W ∧ zLg r w x y x' (U1 (U1 y1 49 q mO) 56 s (nI 0)) 999 0 ∧ zFx r sk x x' ∧ zFy y (U1 (U1 y1 49 q mO) 56 s (nI 0)) ∧ y1.1 49 = y.1 49 := by
  obtain ⟨⟨hsc, hpl, ⟨hq1, hq2, hq3, hq4⟩, hse, hzi⟩, hag⟩ := h
  have hsc' := hsc
  obtain ⟨c1, c2, c3, c4, c5, c6, c7, c8, c9, c10, c11, c12, c13, c14⟩ := hsc'
  obtain ⟨t0, t1, t2, hk, t3, t4, t5⟩ := ht
  obtain ⟨i1, i2, i3, i4, ⟨co, hco, i5⟩, i6⟩ := hpl p hp
  rw [i5] at i2
  obtain ⟨-, m2, -⟩ := hmn
  obtain ⟨m3, v0, hv0, m4⟩ := m2 co hco
  rw [m4] at m3
  refine ⟨_, _, e_eat (N := N) hS hX (M := M) (K := K) (co := co) (v0 := v0) (by simp (disch := omega) only [u1_f, u1_s, u2_f, u2_s, up_s, up_n, ud_s, ud_n]; exact c1) c3 c6 hs hp (by simp (disch := omega) only [u1_f, u1_s, u2_f, u2_s, up_s, up_n, ud_s, ud_n]; exact i2) hco (by simp (disch := omega) only [u1_f, u1_s, u2_f, u2_s, up_s, up_n, ud_s, ud_n]; exact m3) hv0 hr, e_eats (N := N) hM (M := M) (K := K) (co := co) (v0 := v0) c3 c6 hs hp (by simp (disch := omega) only [u1_f, u1_s, u2_f, u2_s, up_s, up_n, ud_s, ud_n]; exact i5) hco (by simp (disch := omega) only [u1_f, u1_s, u2_f, u2_s, up_s, up_n, ud_s, ud_n]; exact m4) hv0, ⟨⟨?_, ?_, ⟨?_, ?_, ?_, ?_⟩, ?_, ?_⟩, ?_⟩, ⟨1, v0, 0, hv0, Nat.le_refl _, ?_, ?_, ?_, ?_, ?_⟩, ⟨fun b hb hbs => ?_, fun b hb => ?_⟩, ⟨fun b hb => ?_, fun k hk => ?_, fun s9 h9 => by simp (disch := omega) only [u1_f, u1_s, u2_f, u2_s, up_s, up_n, ud_s, ud_n]; exact h9⟩, ?_⟩
  · unfold zSc; simp (disch := omega) only [u1_f, u1_s, u2_f, u2_s, up_s, up_n, ud_s, ud_n]; exact hsc
  · simp (disch := omega) only [u1_f, u1_s, u2_f, u2_s, up_s, up_n, ud_s, ud_n]; exact hpl.set (fun e => absurd e (by decide)) (fun _ => rfl)
  · simp (disch := omega) only [u1_f, u1_s, u2_f, u2_s, up_s, up_n, ud_s, ud_n]; exact hq1.ud q mO
  · simp (disch := omega) only [u1_f, u1_s, u2_f, u2_s, up_s, up_n, ud_s, ud_n]; exact hq2
  · simp (disch := omega) only [u1_f, u1_s, u2_f, u2_s, up_s, up_n, ud_s, ud_n]; exact hq3
  · simp (disch := omega) only [u1_f, u1_s, u2_f, u2_s, up_s, up_n, ud_s, ud_n]; exact hq4.ud s (nI p)
  · simp (disch := omega) only [u1_f, u1_s, u2_f, u2_s, up_s, up_n, ud_s, ud_n]; rw [t3]
    exact hse.upd (ud_same K) (ud_same K) (fun s' hs' e1 e2 => by
      by_cases e : s' = s
      · subst e; rw [t0] at e1; exact absurd e1 (by decide)
      · rw [ud_n e]; exact e2)
  · simp (disch := omega) only [u1_f, u1_s, u2_f, u2_s, up_s, up_n, ud_s, ud_n]
    exact (hzi.off c3 c12 hqn hp hb (k := 2) (w := nI s) (Or.inl ⟨s, hs, rfl, rfl⟩)).takes hp ud_s ud_s
  · simp (disch := omega) only [u1_f, u1_s, u2_f, u2_s, up_s, up_n, ud_s, ud_n]; exact hag
  · simp (disch := omega) only [u1_f, u1_s, u2_f, u2_s, up_s, up_n, ud_s, ud_n]
  · simp (disch := omega) only [u1_f, u1_s, u2_f, u2_s, up_s, up_n, ud_s, ud_n]
  · simp (disch := omega) only [u1_f, u1_s, u2_f, u2_s, up_s, up_n, ud_s, ud_n]
  · simp (disch := omega) only [u1_f, u1_s, u2_f, u2_s, up_s, up_n, ud_s, ud_n]; exact (w_add0 _).symm
  · simp (disch := omega) only [u1_f, u1_s, u2_f, u2_s, up_s, up_n, ud_s, ud_n]; rw [Nat.mul_zero, l_add0]
  · simp (disch := omega) only [u1_f, u1_s, u2_f, u2_s, up_s, up_n, ud_s, ud_n]
  · simp (disch := omega) only [u1_f, u1_s, u2_f, u2_s, up_s, up_n, ud_s, ud_n]
  · simp (disch := omega) only [u1_f, u1_s, u2_f, u2_s, up_s, up_n, ud_s, ud_n]
  · simp (disch := omega) only [u1_f, u1_s, u2_f, u2_s, up_s, up_n, ud_s, ud_n]
  · simp (disch := omega) only [u1_f, u1_s, u2_f, u2_s, up_s, up_n, ud_s, ud_n]
set_option maxHeartbeats 3200000 in
/-- from a tray -/
theorem z_eatL {N : Nat} {S Sm : SH} {r n M K W w sk s k q p : Nat} (hS : SR S r n) (hM : SHM Sm) (hX : SX S) (hr : 67 ≤ r) {x y : DY} (hmn : zMn x y w) (h : zRR r n x y M K W) (hs : s < K) (ht : zSat x y r s k) (hp : p < M) (hqn : q < n) (hb : y.1 50 q = nI p) :
    ∃ x' y1, f_X6_eat N S r (nI s) (nI p) (U1 x (r + 19) q mO) = some x' ∧ f_X12_eats N Sm 40 (nI s) (nI p) y = some y1 ∧ zRR r n x' (U1 (U1 y1 50 q mO) 56 s (nI 0)) M K W ∧ zLg r w x y x' (U1 (U1 y1 50 q mO) 56 s (nI 0)) 999 0 ∧ zFx r sk x x' ∧ zFy y (U1 (U1 y1 50 q mO) 56 s (nI 0)) := by
  obtain ⟨⟨hsc, hpl, ⟨hq1, hq2, hq3, hq4⟩, hse, hzi⟩, hag⟩ := h
  have hsc' := hsc
  obtain ⟨c1, c2, c3, c4, c5, c6, c7, c8, c9, c10, c11, c12, c13, c14⟩ := hsc'
  obtain ⟨t0, t1, t2, hk, t3, t4, t5⟩ := ht
  obtain ⟨i1, i2, i3, i4, ⟨co, hco, i5⟩, i6⟩ := hpl p hp
  rw [i5] at i2
  obtain ⟨-, m2, -⟩ := hmn
  obtain ⟨m3, v0, hv0, m4⟩ := m2 co hco
  rw [m4] at m3
  refine ⟨_, _, e_eat (N := N) hS hX (M := M) (K := K) (co := co) (v0 := v0) (by simp (disch := omega) only [u1_f, u1_s, u2_f, u2_s, up_s, up_n, ud_s, ud_n]; exact c1) c3 c6 hs hp (by simp (disch := omega) only [u1_f, u1_s, u2_f, u2_s, up_s, up_n, ud_s, ud_n]; exact i2) hco (by simp (disch := omega) only [u1_f, u1_s, u2_f, u2_s, up_s, up_n, ud_s, ud_n]; exact m3) hv0 hr, e_eats (N := N) hM (M := M) (K := K) (co := co) (v0 := v0) c3 c6 hs hp i5 hco m4 hv0, ⟨⟨?_, ?_, ⟨?_, ?_, ?_, ?_⟩, ?_, ?_⟩, ?_⟩, ⟨1, v0, 0, hv0, Nat.le_refl _, ?_, ?_, ?_, ?_, ?_⟩, ⟨fun b hb hbs => ?_, fun b hb => ?_⟩, ⟨fun b hb => ?_, fun k hk => ?_, fun s9 h9 => by simp (disch := omega) only [u1_f, u1_s, u2_f, u2_s, up_s, up_n, ud_s, ud_n]; exact h9⟩⟩
  · unfold zSc; simp (disch := omega) only [u1_f, u1_s, u2_f, u2_s, up_s, up_n, ud_s, ud_n]; exact hsc
  · simp (disch := omega) only [u1_f, u1_s, u2_f, u2_s, up_s, up_n, ud_s, ud_n]; exact hpl.set (fun e => absurd e (by decide)) (fun _ => rfl)
  · simp (disch := omega) only [u1_f, u1_s, u2_f, u2_s, up_s, up_n, ud_s, ud_n]; exact hq1
  · simp (disch := omega) only [u1_f, u1_s, u2_f, u2_s, up_s, up_n, ud_s, ud_n]; exact hq2.ud q mO
  · simp (disch := omega) only [u1_f, u1_s, u2_f, u2_s, up_s, up_n, ud_s, ud_n]; exact hq3
  · simp (disch := omega) only [u1_f, u1_s, u2_f, u2_s, up_s, up_n, ud_s, ud_n]; exact hq4
  · simp (disch := omega) only [u1_f, u1_s, u2_f, u2_s, up_s, up_n, ud_s, ud_n]; rw [t3]
    exact hse.upd (ud_same K) (ud_same K) (fun s' hs' e1 e2 => e2)
  · simp (disch := omega) only [u1_f, u1_s, u2_f, u2_s, up_s, up_n, ud_s, ud_n]
    exact hzi.offL c3 c12 hqn hp hb (k := 2) (w := nI s) (Or.inl ⟨s, hs, rfl, rfl⟩)
  · simp (disch := omega) only [u1_f, u1_s, u2_f, u2_s, up_s, up_n, ud_s, ud_n]; exact hag
  · simp (disch := omega) only [u1_f, u1_s, u2_f, u2_s, up_s, up_n, ud_s, ud_n]
  · simp (disch := omega) only [u1_f, u1_s, u2_f, u2_s, up_s, up_n, ud_s, ud_n]
  · simp (disch := omega) only [u1_f, u1_s, u2_f, u2_s, up_s, up_n, ud_s, ud_n]
  · simp (disch := omega) only [u1_f, u1_s, u2_f, u2_s, up_s, up_n, ud_s, ud_n]; exact (w_add0 _).symm
  · simp (disch := omega) only [u1_f, u1_s, u2_f, u2_s, up_s, up_n, ud_s, ud_n]; rw [Nat.mul_zero, l_add0]
  · simp (disch := omega) only [u1_f, u1_s, u2_f, u2_s, up_s, up_n, ud_s, ud_n]
  · simp (disch := omega) only [u1_f, u1_s, u2_f, u2_s, up_s, up_n, ud_s, ud_n]
  · simp (disch := omega) only [u1_f, u1_s, u2_f, u2_s, up_s, up_n, ud_s, ud_n]
  · simp (disch := omega) only [u1_f, u1_s, u2_f, u2_s, up_s, up_n, ud_s, ud_n]
