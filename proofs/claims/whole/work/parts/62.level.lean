/-! LAYER 3: looking ahead: one level of the class's search -/
theorem zR_MW {r n K M W M' W' : Nat} {x y y' : DY} (h : zRR r n x y M K W) (h' : zRR r n x y' M' K W') : M' = M ∧ W' = W := by
  obtain ⟨⟨⟨c1, -, c3, -, -, -, c7, -, c9, -⟩, -⟩, -⟩ := h
  obtain ⟨⟨⟨d1, -, d3, -, -, -, d7, -, d9, -⟩, -⟩, -⟩ := h'
  exact ⟨nI_inj (d1.symm.trans c1) (by omega) (by omega), nI_inj (d7.symm.trans c7) (by omega) (by omega)⟩
section LEVEL
variable {N : Nat} {S Sm : SH} {n K w T c M0 k t : Nat}
set_option maxHeartbeats 1600000 in
theorem d_one (hN : 600 ≤ N) (hk : k ≤ 3) {m : Nat} {rc : Nat → Nat → Int32 → Int32 → Int32 → DY → Option DY} (hc : zCh N S Sm n K w T c M0 k t m rc)
    {L r off i l : Nat} {M W : Nat} {x y0 xa : DY} {ba : Int × Nat} (hS' : SR S (91 + 20 * L) n)
    (hL : L + (m + 1) = k) (hr : (r = 67 ∧ L = 0) ∨ (r = 71 + 20 * L ∧ 1 ≤ L)) (hv : zEv S Sm r n x y0 w T c) (hR : zRR r n x y0 M K W) (hM0 : M0 ≤ M) (b1 : -20000 * (L : Int) ≤ (x.2 r 10).toInt) (b2 : (x.2 r 10).toInt ≤ 20000 * (L : Int)) (ho : off % 7 ^ (m + 1) = 0) (hd : ∀ row i, off ≤ row → row < off + 7 ^ (m + 1) → i < L → x.1 89 i = nI (dg k row i))
    (hi : i ≤ l) (hl : l ≤ 6) (hf : zFc L c x xa) (hb : zBest k xa ba) :
    ∃ (V : Nat → Int) (xb : DY), (∀ bk : Int32 → DY → Option DY, lp_X1_tryChoices_72_b N rc S bk 87 r (nI L) (nI k) (nI t) (91 + 20 * L) (nI l) (nI i) xa = bk (nI (i + 1)) xb) ∧ (∀ y, zEv S Sm r n x y w T c → zRR r n x y M K W → ∀ s, s < 7 ^ m → zRV N Sm t w M0 (m + 1) (i * 7 ^ m + s) y (V s)) ∧ zBest k xb (zFo (fun row => (x.2 r 10).toInt + V (row - (off + i * 7 ^ m))) (off + i * 7 ^ m) ba (7 ^ m)) ∧ zFc L c x xb := by
  have hs := sX_ok c
  have hp : 0 < 7 ^ m := Nat.pow_pos (by omega)
  have h7 : 7 ^ (m + 1) = 7 ^ m * 7 := Nat.pow_succ 7 m
  have hi7 : i * 7 ^ m + 7 ^ m ≤ 7 ^ (m + 1) := by
    have : (i + 1) * 7 ^ m ≤ 7 * 7 ^ m := Nat.mul_le_mul_right _ (by omega)
    rw [Nat.succ_mul] at this
    omega
  have hS := hv.1
  have hX := hv.2.2.1
  have hrr := hv.2.2.2.1
  have hf1 : zFc L c xa (U1 xa 89 L (nI i)) := ⟨fun b h1 h2 => by simp (disch := omega) only [u1_f, u1_s, u2_f, u2_s, up_s, up_n, ud_s, ud_n], fun p hp => by simp (disch := omega) only [u1_f, u1_s, u2_f, u2_s, up_s, up_n, ud_s, ud_n], fun b h1 h2 => rfl⟩
  have hf2 := hf.trans hf1
  have hRa : ∀ y, zRR r n x y M K W → zRR r n (U1 xa 89 L (nI i)) y M K W := fun y h => h.kx (fun q h1 h2 => hf2.1 q (by omega) (by omega))
  obtain ⟨xc, ec, hRc, gc, fc1, fc2⟩ := z_copy (N := N) hS hS' (by omega) (hRa y0 hR)
  have gxa : (U1 xa 89 L (nI i)).2 r 10 = x.2 r 10 := by rw [hf2.2.2 r (by omega) (by omega)]
  have gxc : xc.2 (91 + 20 * L) 10 = x.2 r 10 := gc.trans gxa
  have hf3 : zFc L c x xc := hf2.trans ⟨fun b h1 h2 => fc1 b (by omega), fun p hp => by rw [fc1 89 (by omega)], fun b h1 h2 => fc2 b (by omega)⟩
  have hvc : ∀ y, zEv S Sm r n x y w T c → zEv S Sm (91 + 20 * L) n xc y w T c := fun y h => (h.kc hf3).at hS' (by omega) (by omega)
  have hRc' : ∀ y, zRR r n x y M K W → zRR (91 + 20 * L) n xc y M K W := fun y h => by
    obtain ⟨xc', ec', hRc', -⟩ := z_copy (N := N) hS hS' (by omega) (hRa y h)
    rw [ec] at ec'
    obtain rfl := Option.some.inj ec'
    exact hRc'
  obtain ⟨v, x1, x2, y1, y2, M', W', e1, e2, e3, e4, h2, m2, g2, gb, fx, fr, -⟩ := t_step (N := N) (M0 := M0) (ch := i) hN (hvc y0 hv) hRc hM0 (by omega) (by rw [gxc]; omega)
  rw [gxc] at gb g2
  have hv2 := (hvc y0 hv).keepw fx fr.1 (by omega) (by omega)
  have hf4 : zFc L c x x2 := hf3.trans (fx.fc rfl (by omega))
  have d89 : x2.1 89 L = nI i := by rw [fx.1 89 (by omega) (by omega), fc1 89 (by omega)]; simp (disch := omega) only [u1_f, u1_s, u2_f, u2_s, up_s, up_n, ud_s, ud_n]
  have hb2 : zBest k x2 ba := by
    refine ⟨?_, fun h j hj => ?_⟩
    · rw [fx.2 87 (by omega), fc2 87 (by omega)]; exact hb.1
    · rw [fx.1 90 (by omega) (by omega), fc1 90 (by omega)]; simp (disch := omega) only [u1_f, u1_s, u2_f, u2_s, up_s, up_n, ud_s, ud_n]; exact hb.2 h j hj
  have hdg : ∀ row j, off + i * 7 ^ m ≤ row → row < off + i * 7 ^ m + 7 ^ m → j < L + 1 → x2.1 89 j = nI (dg k row j) := fun row j h1 h2 hj => by
    by_cases e : j = L
    · subst e
      rw [d89]
      unfold dg
      rw [show k - 1 - j = m by omega, dg_mid (s := row - (off + i * 7 ^ m)) ho (by omega : i ≤ 6) (by omega) (by omega)]
    · rw [hf4.2.1 j (by omega)]
      exact hd row j (by omega) (by omega) (by omega)
  have ho2 : (off + i * 7 ^ m) % 7 ^ m = 0 := by
    rw [Nat.add_mul_mod_self_right]
    exact Nat.mod_eq_zero_of_dvd (Nat.dvd_trans ⟨7, h7⟩ (Nat.dvd_of_mod_eq_zero ho))
  obtain ⟨V, x3, q1, q2, q3, q4⟩ := hc L (91 + 20 * L) x2 y2 M' W' (off + i * 7 ^ m) ba (nI l) (nI i) r (by omega) rfl hv2 h2 m2 (by omega) (by omega) ho2 hdg hb2
  refine ⟨fun s => ((x2.2 (91 + 20 * L) 10).toInt - (x.2 r 10).toInt) + V s, x3, fun bk => ?_, fun y hvy hRy s hs => ?_, ?_, hf4.trans q4⟩
  · have q1' := q1 (fun y => bk (nI (i + 1)) y)
    unfold zPc at q1'
    have hck : (nI k ≤ nI (L + 1)) = (m = 0) := by
      by_cases h0 : m = 0
      · rw [w_leT (by omega) (by omega)]; simp only [h0]
      · rw [w_leF (by omega) (by omega)]; simp only [h0]
    have hstep : ∀ bb : Int32 → DY → Option DY, lp_X1_tryChoices_72_b N rc S bb 87 r (nI L) (nI k) (nI t) (91 + 20 * L) (nI l) (nI i) xa = if m = 0 then lp_X1_tryChoices_131 N S (fun y25 => j_X1_tryChoices_157 N S bb 87 r (nI L) (nI k) (nI t) (91 + 20 * L) (nI l) (nI i) y25) 87 r (nI L) (nI k) (nI t) (91 + 20 * L) (nI l) (nI i) (nI 0) x2 else Option.bind (rc 87 (91 + 20 * L) (nI (L + 1)) (nI k) (nI t) x2) (fun r29 => j_X1_tryChoices_166 N S bb 87 r (nI L) (nI k) (nI t) (91 + 20 * L) (nI l) (nI i) r29) := fun bb => by
      simp (disch := (first | omega | (simp only [sx_l42 hX, sx_l43 hX, sx_l44 hX, sx_l46 hX, sx_l50 hX, sx_l51 hX, sx_l52 hX, sx_l53 hX, sx_l54 hX, sx_l56 hX, sx_l57 hX, sx_l58 hX, sx_l60 hX, sx_l61 hX, sx_l62 hX, sx_l63 hX, sx_l64 hX, sx_l65 hX, sx_l66 hX, sx_l88 hX, sx_l89 hX, sx_l90 hX, sx_l0 hX, sx_l1 hX, sx_l2 hX, sx_l5 hX, sx_l6 hX, sx_l7 hX, sx_l8 hX, sx_l9 hX, sx_l10 hX, sx_l11 hX, sx_l12 hX, sx_l13 hX, sx_l14 hX, sx_l15 hX]; omega))) only [lp_X1_tryChoices_72_b, sx_m0 hX, sx_m1 hX, sx_m2 hX, sx_c0 hX, sx_c1 hX, sx_c2 hX, sx_c3 hX, sx_c4 hX, sx_c5 hX, sx_c6 hX, sx_u0 hX, sx_t0 hX, sx_t2 hX, sx_t3 hX, sx_t4 hX, sx_t7 hX, sx_f0 hX, sx_f1 hX, sx_f2 hX, sx_h0 hX, sx_h1 hX, sx_h2 hX, sx_g0 hX, sx_g1 hX, sx_g2 hX, ec, e1, e2, hck, ↓eM, eL_0, eL_1, eL_2, eL_3, eL_4, eL_5, eL_6, eL_7, eL_8, eL_9, eL_10, eL_11, eL_12, eL_15, eL_16, eL_20, eL_24, eL_30, eL_31, eL_32, eL_39, eL_40, eL_41, eL_42, eL_43, eL_45, eL_47, eL_48, eL_49, eL_50, eL_57, eL_59, eL_60, eL_61, eL_90, eL_96, eL_97, eL_100, eL_122, eL_160, eL_161, eL_255, eL_300, eL_343, eL_999, eL_1000, eL_1920, eL_9999, eL_10000, eL_999999, eL_100000, eL_1000000, ↓reduceIte, ↓bl_e, bd_e, u1_f, u1_s, u2_f, u2_s, w_cl, w_ltT, w_ltF, w_leT, w_leF, w_eqT, w_eqF, w_mlt, w_ltm, w_mle, w_lem, w_eqm, w_meq, w_mltm, nI_add, w_sub, w_addm, up_s, up_n, ud_s, ud_n, ck_n, bz_0, bz_1]
    rw [hstep bk]
    have ej : ∀ z, j_X1_tryChoices_166 N S bk 87 r (nI L) (nI k) (nI t) (91 + 20 * L) (nI l) (nI i) z = bk (nI (i + 1)) z := fun z => by
      show bk (nI i + 1) z = _
      rw [show (1 : Int32) = nI 1 from rfl, nI_add]
    have ej2 : ∀ z, j_X1_tryChoices_157 N S bk 87 r (nI L) (nI k) (nI t) (91 + 20 * L) (nI l) (nI i) z = Option.bind (f_X1_keepBest N S 87 (z.2 (91 + 20 * L) 10) z) (fun y => bk (nI (i + 1)) y) := fun z => by
      unfold j_X1_tryChoices_157
      rw [funext ej]
    rw [funext ej2, funext ej]
    exact q1'
  · obtain ⟨v', x1', x2', y1', y2', M'', W'', d1, d2, d3, d4, d5, d6, d7, d8, d9, d10, -⟩ := t_step (N := N) (M0 := M0) (ch := i) hN (hvc y hvy) (hRc' y hRy) hM0 (by omega) (by rw [gxc]; omega)
    rw [e1] at d1
    obtain ⟨-, rfl⟩ := Prod.mk.inj (Option.some.inj d1)
    rw [e2] at d2
    obtain rfl := Option.some.inj d2
    obtain ⟨rfl, rfl⟩ := zR_MW h2 d5
    obtain ⟨y', z1, z2, z3⟩ := q2 y2' ((hvc y hvy).keepw d9 d10.1 (by omega) (by omega)) d5 s hs
    refine ⟨y', ?_, ?_, d10.trans z3⟩
    · show Option.bind (zLd N Sm ((i * 7 ^ m + s) / 7 ^ m % 7) y) (fun y1 => Option.bind (f_X12_goTick N Sm 40 y1) (fun y2 => zRun N Sm t m ((i * 7 ^ m + s) % 7 ^ m) y2)) = _
      rw [show (i * 7 ^ m + s) / 7 ^ m % 7 = i by rw [Nat.add_comm, Nat.add_mul_div_right _ _ hp, Nat.div_eq_of_lt hs]; omega, show (i * 7 ^ m + s) % 7 ^ m = s by rw [Nat.mul_add_mod_self_right, Nat.mod_eq_of_lt hs]]
      rw [d3, bd_e, d4, bd_e]
      exact z1
    · rw [gxc] at d7
      have := d7.trans z2
      rw [show m + 1 + t = 1 + (m + t) by omega]
      exact this
  · rw [zFo_congr (U' := fun row => (x2.2 (91 + 20 * L) 10).toInt + V (row - (off + i * 7 ^ m))) _ (fun j hj => ?_)]
    · exact q3
    · show (x.2 r 10).toInt + ((x2.2 (91 + 20 * L) 10).toInt - (x.2 r 10).toInt + V (off + i * 7 ^ m + j - (off + i * 7 ^ m))) = (x2.2 (91 + 20 * L) 10).toInt + V (off + i * 7 ^ m + j - (off + i * 7 ^ m))
      omega
set_option maxHeartbeats 800000 in
theorem d_loop (hN : 600 ≤ N) (hk : k ≤ 3) {m : Nat} {rc : Nat → Nat → Int32 → Int32 → Int32 → DY → Option DY} (hc : zCh N S Sm n K w T c M0 k t m rc)
    {L r off l : Nat} {M W : Nat} {x y0 : DY} {b : Int × Nat} (hS' : SR S (91 + 20 * L) n)
    (hL : L + (m + 1) = k) (hr : (r = 67 ∧ L = 0) ∨ (r = 71 + 20 * L ∧ 1 ≤ L)) (hv : zEv S Sm r n x y0 w T c) (hR : zRR r n x y0 M K W) (hM0 : M0 ≤ M) (b1 : -20000 * (L : Int) ≤ (x.2 r 10).toInt) (b2 : (x.2 r 10).toInt ≤ 20000 * (L : Int)) (ho : off % 7 ^ (m + 1) = 0) (hd : ∀ row i, off ≤ row → row < off + 7 ^ (m + 1) → i < L → x.1 89 i = nI (dg k row i))
    (hl : l ≤ 6) (hb : zBest k x b) :
    ∃ (V : Nat → Int) (x' : DY), lp_X1_tryChoices_72 N rc S 87 r (nI L) (nI k) (nI t) (91 + 20 * L) (nI l) (nI 0) x = some x' ∧ (∀ y, zEv S Sm r n x y w T c → zRR r n x y M K W → ∀ s, s < (l + 1) * 7 ^ m → zRV N Sm t w M0 (m + 1) s y (V s)) ∧ zBest k x' (zFo (fun row => (x.2 r 10).toInt + V (row - off)) off b ((l + 1) * 7 ^ m)) ∧ zFc L c x x' := by
  have hp : 0 < 7 ^ m := Nat.pow_pos (by omega)
  unfold lp_X1_tryChoices_72
  refine z_itr1 (fun i a => ∃ (V : Nat → Int) (xa : DY), a = (nI i, xa) ∧ (∀ y, zEv S Sm r n x y w T c → zRR r n x y M K W → ∀ s, s < i * 7 ^ m → zRV N Sm t w M0 (m + 1) s y (V s)) ∧ zBest k xa (zFo (fun row => (x.2 r 10).toInt + V (row - off)) off b (i * 7 ^ m)) ∧ zFc L c x xa)
    (fun o => ∃ (V : Nat → Int) (x' : DY), o = some x' ∧ (∀ y, zEv S Sm r n x y w T c → zRR r n x y M K W → ∀ s, s < (l + 1) * 7 ^ m → zRV N Sm t w M0 (m + 1) s y (V s)) ∧ zBest k x' (zFo (fun row => (x.2 r 10).toInt + V (row - off)) off b ((l + 1) * 7 ^ m)) ∧ zFc L c x x') (l + 1) ?_ ?_ (l + 1) 0 _ N (by omega) (by omega) ⟨fun _ => 0, x, rfl, fun y _ _ s hs => absurd hs (by rw [Nat.zero_mul]; exact Nat.not_lt_zero s), by rw [Nat.zero_mul]; exact hb, zFc.rf⟩
  · rintro i _ hi ⟨V, xa, rfl, v1, v2, v3⟩
    obtain ⟨Vc, xb, q1, q2, q3, q4⟩ := d_one (N := N) hN hk hc hS' hL hr hv hR hM0 b1 b2 ho hd (by omega : i ≤ l) hl v3 v2
    have e7 : (i + 1) * 7 ^ m = i * 7 ^ m + 7 ^ m := Nat.succ_mul i _
    refine Or.inl ⟨(nI (i + 1), xb), ⟨fun s => if s < i * 7 ^ m then V s else Vc (s - i * 7 ^ m), xb, rfl, fun y hvy hRy s hs => ?_, ?_, q4⟩, fun back => q1 (fun p8 y => back (p8, y))⟩
    · show zRV N Sm t w M0 (m + 1) s y (if s < i * 7 ^ m then V s else Vc (s - i * 7 ^ m))
      by_cases e : s < i * 7 ^ m
      · rw [if_pos e]; exact v1 y hvy hRy s e
      · rw [if_neg e]
        have := q2 y hvy hRy (s - i * 7 ^ m) (by omega)
        rw [show i * 7 ^ m + (s - i * 7 ^ m) = s by omega] at this
        exact this
    · rw [e7, zFo_add]
      rw [zFo_congr (U' := fun row => (x.2 r 10).toInt + V (row - off)) (i * 7 ^ m) (fun j hj => ?_), zFo_congr (U' := fun row => (x.2 r 10).toInt + Vc (row - (off + i * 7 ^ m))) (7 ^ m) (fun j hj => ?_)]
      · exact q3
      · show (x.2 r 10).toInt + (if off + i * 7 ^ m + j - off < i * 7 ^ m then V (off + i * 7 ^ m + j - off) else Vc (off + i * 7 ^ m + j - off - i * 7 ^ m)) = (x.2 r 10).toInt + Vc (off + i * 7 ^ m + j - (off + i * 7 ^ m))
        rw [if_neg (by omega)]
        rw [show off + i * 7 ^ m + j - off - i * 7 ^ m = off + i * 7 ^ m + j - (off + i * 7 ^ m) by omega]
      · show (x.2 r 10).toInt + (if off + j - off < i * 7 ^ m then V (off + j - off) else Vc (off + j - off - i * 7 ^ m)) = (x.2 r 10).toInt + V (off + j - off)
        rw [if_pos (by omega)]
  · rintro _ ⟨V, xa, rfl, v1, v2, v3⟩
    refine ⟨some xa, ⟨V, xa, rfl, v1, v2, v3⟩, fun back => ?_⟩
    simp (disch := omega) only [lp_X1_tryChoices_72_b, ↓eM, eL_0, eL_1, eL_2, eL_3, eL_4, eL_5, eL_6, eL_7, eL_8, eL_9, eL_10, eL_11, eL_12, eL_15, eL_16, eL_20, eL_24, eL_30, eL_31, eL_32, eL_39, eL_40, eL_41, eL_42, eL_43, eL_45, eL_47, eL_48, eL_49, eL_50, eL_57, eL_59, eL_60, eL_61, eL_90, eL_96, eL_97, eL_100, eL_122, eL_160, eL_161, eL_255, eL_300, eL_343, eL_999, eL_1000, eL_1920, eL_9999, eL_10000, eL_999999, eL_100000, eL_1000000, ↓reduceIte, ↓bl_e, bd_e, u1_f, u1_s, u2_f, u2_s, w_cl, w_ltT, w_ltF, w_leT, w_leF, w_eqT, w_eqF, w_mlt, w_ltm, w_mle, w_lem, w_eqm, w_meq, w_mltm, nI_add, w_sub, w_addm, up_s, up_n, ud_s, ud_n, ck_n, bz_0, bz_1]
/-- one level of the search -/
theorem d_level (hN : 600 ≤ N) (hk : k ≤ 3) (hSP : ∀ L, L < 3 → SR S (91 + 20 * L) n ∧ S.2.2.2 88 L = some (91 + 20 * L)) {m : Nat} {rc : Nat → Nat → Int32 → Int32 → Int32 → DY → Option DY} (hc : zCh N S Sm n K w T c M0 k t m rc) : zDs N S Sm n K w T c M0 k t (m + 1) (f_X1_tryChoices N rc S) := by
  intro L r x y0 M W off b hL hr hv hR hM0 b1 b2 ho hd hb
  have hS := hv.1
  have hX := hv.2.2.1
  obtain ⟨hS', hcp⟩ := hSP L (by omega)
  have hp : 0 < 7 ^ m := Nat.pow_pos (by omega)
  have h7 : 7 ^ (m + 1) = 7 * 7 ^ m := by rw [Nat.pow_succ, Nat.mul_comm]
  have hR' := hR
  obtain ⟨⟨⟨c1, c2, c3, c4, c5, c6, c7, c8, c9, c10, c11, c12, c13, c14⟩, hpl, ⟨hq1, hq2, hq3, hq4⟩, hse, hzi⟩, hag⟩ := hR'
  by_cases ha : y0.1 49 0 = mO ∧ M < 300
  · obtain ⟨V, x', q1, q2, q3, q4⟩ := d_loop (N := N) (l := 6) hN hk hc hS' hL hr hv hR hM0 b1 b2 ho hd (by omega) hb
    refine ⟨V, x', ?_, fun y h1 h2 s hs => q2 y h1 h2 s (by rw [← h7]; exact hs), ?_, q4⟩
    · have hb0 : x.1 (r + 16) 0 = mO := (hq1 0 (by omega)).trans ha.1
      have hM3 := ha.2
      rw [← q1]
      simp (disch := (first | omega | (simp only [sr_l2 hS, sr_l3 hS, sr_l4 hS, sr_l5 hS, sr_l6 hS, sr_l8 hS, sr_l9 hS, sr_l10 hS, sr_l11 hS, sr_l12 hS, sr_l13 hS, sr_l14 hS, sr_l15 hS, sr_l16 hS, sr_l18 hS, sr_l19 hS, sx_l42 hX, sx_l43 hX, sx_l44 hX, sx_l46 hX, sx_l50 hX, sx_l51 hX, sx_l52 hX, sx_l53 hX, sx_l54 hX, sx_l56 hX, sx_l57 hX, sx_l58 hX, sx_l60 hX, sx_l61 hX, sx_l62 hX, sx_l63 hX, sx_l64 hX, sx_l65 hX, sx_l66 hX, sx_l88 hX, sx_l89 hX, sx_l90 hX, sx_l0 hX, sx_l1 hX, sx_l2 hX, sx_l5 hX, sx_l6 hX, sx_l7 hX, sx_l8 hX, sx_l9 hX, sx_l10 hX, sx_l11 hX, sx_l12 hX, sx_l13 hX, sx_l14 hX, sx_l15 hX]; omega))) only [f_X1_tryChoices, f_X4_areFull, j_X1_tryChoices_54, j_X1_tryChoices_67, sx_m0 hX, sx_m1 hX, sx_m2 hX, sx_c0 hX, sx_c1 hX, sx_c2 hX, sx_c3 hX, sx_c4 hX, sx_c5 hX, sx_c6 hX, sx_u0 hX, sx_t0 hX, sx_t2 hX, sx_t3 hX, sx_t4 hX, sx_t7 hX, sx_f0 hX, sx_f1 hX, sx_f2 hX, sx_h0 hX, sx_h1 hX, sx_h2 hX, sx_g0 hX, sx_g1 hX, sx_g2 hX, sr_r0 hS, sr_r1 hS, sr_r2 hS, sr_r3 hS, sr_r4 hS, sr_r5 hS, sr_r6 hS, sr_p0 hS, sr_p1 hS, sr_p2 hS, sr_p3 hS, sr_p4 hS, sr_s0 hS, sr_s1 hS, sr_s2 hS, sr_s3 hS, sr_s4 hS, sr_s5 hS, sr_s6 hS, sr_l0 hS, sr_l1 hS, sr_l16 hS, hcp, rfk_s, hb0, c1, ↓eM, eL_0, eL_1, eL_2, eL_3, eL_4, eL_5, eL_6, eL_7, eL_8, eL_9, eL_10, eL_11, eL_12, eL_15, eL_16, eL_20, eL_24, eL_30, eL_31, eL_32, eL_39, eL_40, eL_41, eL_42, eL_43, eL_45, eL_47, eL_48, eL_49, eL_50, eL_57, eL_59, eL_60, eL_61, eL_90, eL_96, eL_97, eL_100, eL_122, eL_160, eL_161, eL_255, eL_300, eL_343, eL_999, eL_1000, eL_1920, eL_9999, eL_10000, eL_999999, eL_100000, eL_1000000, ↓reduceIte, ↓bl_e, bd_e, u1_f, u1_s, u2_f, u2_s, w_cl, w_ltT, w_ltF, w_leT, w_leF, w_eqT, w_eqF, w_mlt, w_ltm, w_mle, w_lem, w_eqm, w_meq, w_mltm, nI_add, w_sub, w_addm, up_s, up_n, ud_s, ud_n, ck_n, bz_0, bz_1]
    · rw [h7]; exact q3
  · obtain ⟨V0, x', q1, q2, q3, q4⟩ := d_loop (N := N) (l := 0) hN hk hc hS' hL hr hv hR hM0 b1 b2 ho hd (by omega) hb
    rw [Nat.zero_add, Nat.one_mul] at q2 q3
    have hal : ∀ y, zRR r n x y M K W → y.1 49 0 ≠ mO ∨ M = 300 := fun y hy => by
      obtain ⟨⟨-, -, ⟨g1, -⟩, -⟩, -⟩ := hy
      by_cases e : M = 300
      · exact Or.inr e
      · refine Or.inl (fun e2 => ha ⟨?_, by omega⟩)
        rw [← hq1 0 (by omega), g1 0 (by omega), e2]
    refine ⟨fun s => V0 (s % 7 ^ m), x', ?_, fun y h1 h2 s hs => ?_, ?_, q4⟩
    · rw [← q1]
      by_cases hb0 : x.1 (r + 16) 0 = mO
      · have hM3 : M = 300 := by
          have : y0.1 49 0 = mO := by rw [← hq1 0 (by omega)]; exact hb0
          by_cases e : M < 300
          · exact absurd ⟨this, e⟩ ha
          · omega
        subst hM3
        simp (disch := (first | omega | (simp only [sr_l2 hS, sr_l3 hS, sr_l4 hS, sr_l5 hS, sr_l6 hS, sr_l8 hS, sr_l9 hS, sr_l10 hS, sr_l11 hS, sr_l12 hS, sr_l13 hS, sr_l14 hS, sr_l15 hS, sr_l16 hS, sr_l18 hS, sr_l19 hS, sx_l42 hX, sx_l43 hX, sx_l44 hX, sx_l46 hX, sx_l50 hX, sx_l51 hX, sx_l52 hX, sx_l53 hX, sx_l54 hX, sx_l56 hX, sx_l57 hX, sx_l58 hX, sx_l60 hX, sx_l61 hX, sx_l62 hX, sx_l63 hX, sx_l64 hX, sx_l65 hX, sx_l66 hX, sx_l88 hX, sx_l89 hX, sx_l90 hX, sx_l0 hX, sx_l1 hX, sx_l2 hX, sx_l5 hX, sx_l6 hX, sx_l7 hX, sx_l8 hX, sx_l9 hX, sx_l10 hX, sx_l11 hX, sx_l12 hX, sx_l13 hX, sx_l14 hX, sx_l15 hX]; omega))) only [f_X1_tryChoices, f_X4_areFull, j_X1_tryChoices_49, j_X1_tryChoices_54, j_X1_tryChoices_67, sx_m0 hX, sx_m1 hX, sx_m2 hX, sx_c0 hX, sx_c1 hX, sx_c2 hX, sx_c3 hX, sx_c4 hX, sx_c5 hX, sx_c6 hX, sx_u0 hX, sx_t0 hX, sx_t2 hX, sx_t3 hX, sx_t4 hX, sx_t7 hX, sx_f0 hX, sx_f1 hX, sx_f2 hX, sx_h0 hX, sx_h1 hX, sx_h2 hX, sx_g0 hX, sx_g1 hX, sx_g2 hX, sr_r0 hS, sr_r1 hS, sr_r2 hS, sr_r3 hS, sr_r4 hS, sr_r5 hS, sr_r6 hS, sr_p0 hS, sr_p1 hS, sr_p2 hS, sr_p3 hS, sr_p4 hS, sr_s0 hS, sr_s1 hS, sr_s2 hS, sr_s3 hS, sr_s4 hS, sr_s5 hS, sr_s6 hS, sr_l0 hS, sr_l1 hS, sr_l16 hS, hcp, rfk_s, hb0, c1, ↓eM, eL_0, eL_1, eL_2, eL_3, eL_4, eL_5, eL_6, eL_7, eL_8, eL_9, eL_10, eL_11, eL_12, eL_15, eL_16, eL_20, eL_24, eL_30, eL_31, eL_32, eL_39, eL_40, eL_41, eL_42, eL_43, eL_45, eL_47, eL_48, eL_49, eL_50, eL_57, eL_59, eL_60, eL_61, eL_90, eL_96, eL_97, eL_100, eL_122, eL_160, eL_161, eL_255, eL_300, eL_343, eL_999, eL_1000, eL_1920, eL_9999, eL_10000, eL_999999, eL_100000, eL_1000000, ↓reduceIte, ↓bl_e, bd_e, u1_f, u1_s, u2_f, u2_s, w_cl, w_ltT, w_ltF, w_leT, w_leF, w_eqT, w_eqF, w_mlt, w_ltm, w_mle, w_lem, w_eqm, w_meq, w_mltm, nI_add, w_sub, w_addm, up_s, up_n, ud_s, ud_n, ck_n, bz_0, bz_1]
      · simp (disch := (first | omega | (simp only [sr_l2 hS, sr_l3 hS, sr_l4 hS, sr_l5 hS, sr_l6 hS, sr_l8 hS, sr_l9 hS, sr_l10 hS, sr_l11 hS, sr_l12 hS, sr_l13 hS, sr_l14 hS, sr_l15 hS, sr_l16 hS, sr_l18 hS, sr_l19 hS, sx_l42 hX, sx_l43 hX, sx_l44 hX, sx_l46 hX, sx_l50 hX, sx_l51 hX, sx_l52 hX, sx_l53 hX, sx_l54 hX, sx_l56 hX, sx_l57 hX, sx_l58 hX, sx_l60 hX, sx_l61 hX, sx_l62 hX, sx_l63 hX, sx_l64 hX, sx_l65 hX, sx_l66 hX, sx_l88 hX, sx_l89 hX, sx_l90 hX, sx_l0 hX, sx_l1 hX, sx_l2 hX, sx_l5 hX, sx_l6 hX, sx_l7 hX, sx_l8 hX, sx_l9 hX, sx_l10 hX, sx_l11 hX, sx_l12 hX, sx_l13 hX, sx_l14 hX, sx_l15 hX]; omega))) only [f_X1_tryChoices, f_X4_areFull, j_X1_tryChoices_49, j_X1_tryChoices_54, j_X1_tryChoices_67, sx_m0 hX, sx_m1 hX, sx_m2 hX, sx_c0 hX, sx_c1 hX, sx_c2 hX, sx_c3 hX, sx_c4 hX, sx_c5 hX, sx_c6 hX, sx_u0 hX, sx_t0 hX, sx_t2 hX, sx_t3 hX, sx_t4 hX, sx_t7 hX, sx_f0 hX, sx_f1 hX, sx_f2 hX, sx_h0 hX, sx_h1 hX, sx_h2 hX, sx_g0 hX, sx_g1 hX, sx_g2 hX, sr_r0 hS, sr_r1 hS, sr_r2 hS, sr_r3 hS, sr_r4 hS, sr_r5 hS, sr_r6 hS, sr_p0 hS, sr_p1 hS, sr_p2 hS, sr_p3 hS, sr_p4 hS, sr_s0 hS, sr_s1 hS, sr_s2 hS, sr_s3 hS, sr_s4 hS, sr_s5 hS, sr_s6 hS, sr_l0 hS, sr_l1 hS, sr_l16 hS, hcp, rfk_s, hb0, ↓eM, eL_0, eL_1, eL_2, eL_3, eL_4, eL_5, eL_6, eL_7, eL_8, eL_9, eL_10, eL_11, eL_12, eL_15, eL_16, eL_20, eL_24, eL_30, eL_31, eL_32, eL_39, eL_40, eL_41, eL_42, eL_43, eL_45, eL_47, eL_48, eL_49, eL_50, eL_57, eL_59, eL_60, eL_61, eL_90, eL_96, eL_97, eL_100, eL_122, eL_160, eL_161, eL_255, eL_300, eL_343, eL_999, eL_1000, eL_1920, eL_9999, eL_10000, eL_999999, eL_100000, eL_1000000, ↓reduceIte, ↓bl_e, bd_e, u1_f, u1_s, u2_f, u2_s, w_cl, w_ltT, w_ltF, w_leT, w_leF, w_eqT, w_eqF, w_mlt, w_ltm, w_mle, w_lem, w_eqm, w_meq, w_mltm, nI_add, w_sub, w_addm, up_s, up_n, ud_s, ud_n, ck_n, bz_0, bz_1]
    · obtain ⟨y', z1, z2, z3⟩ := q2 y h1 h2 (s % 7 ^ m) (Nat.mod_lt _ hp)
      refine ⟨y', ?_, z2, z3⟩
      rw [← z1]
      show Option.bind (zLd N Sm (s / 7 ^ m % 7) y) (fun y1 => Option.bind (f_X12_goTick N Sm 40 y1) (fun y2 => zRun N Sm t m (s % 7 ^ m) y2)) = Option.bind (zLd N Sm (s % 7 ^ m / 7 ^ m % 7) y) (fun y1 => Option.bind (f_X12_goTick N Sm 40 y1) (fun y2 => zRun N Sm t m (s % 7 ^ m % 7 ^ m) y2))
      rw [ld_alike h1 h2 (hal y h2), ld_alike h1 h2 (hal y h2), Nat.mod_mod]
    · have e7 : 7 ^ (m + 1) = 7 ^ m + 6 * 7 ^ m := by omega
      rw [e7, zFo_add]
      have hcg : zFo (fun row => (x.2 r 10).toInt + V0 ((row - off) % 7 ^ m)) off b (7 ^ m) = zFo (fun row => (x.2 r 10).toInt + V0 (row - off)) off b (7 ^ m) := zFo_congr _ (fun j hj => by
        show (x.2 r 10).toInt + V0 ((off + j - off) % 7 ^ m) = (x.2 r 10).toInt + V0 (off + j - off)
        rw [Nat.mod_eq_of_lt (by omega)])
      rw [hcg, zFo_stay]
      · exact q3
      · intro j hj
        have hh := (zFo_ge (U := fun row => (x.2 r 10).toInt + V0 (row - off)) (off := off) (b := b) (7 ^ m)).2 (j % 7 ^ m) (Nat.mod_lt _ hp)
        have e1 : (off + j % 7 ^ m - off) = j % 7 ^ m := by omega
        have e2 : (off + 7 ^ m + j - off) % 7 ^ m = j % 7 ^ m := by rw [show off + 7 ^ m + j - off = j + 7 ^ m by omega, Nat.add_mod_right]
        simp only [e1] at hh
        show (x.2 r 10).toInt + V0 ((off + 7 ^ m + j - off) % 7 ^ m) ≤ _
        rw [e2]
        exact hh
/-- the whole search -/
theorem d_all (hN : 600 ≤ N) (hk : k ≤ 3) (ht : t ≤ 24) (hSP : ∀ L, L < 3 → SR S (91 + 20 * L) n ∧ S.2.2.2 88 L = some (91 + 20 * L)) : ∀ m f, m ≤ f → zDs N S Sm n K w T c M0 k t (m + 1) (fK_X1_tryChoices N S (f + 1))
  | 0, f, _ => d_level hN hk hSP (ch_leaf hN hk ht _)
  | m + 1, 0, h => absurd h (by omega)
  | m + 1, f + 1, h => d_level hN hk hSP (ch_of_d (d_all hN hk ht hSP m f (by omega)))
end LEVEL
