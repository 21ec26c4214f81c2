/-! LAYER 3: a guest leaves: what stands then -/
section LEAVE
variable {N : Nat} {S Sm : SH} {r n M K W w s T c : Nat} {x y X Y : DY}
set_option maxHeartbeats 800000 in
theorem z_lvfin (h : zRR r n x y M K W) (hs : s < K) {kv v w' : Int32}
    (hX : ∀ b, b ≠ r → b ≠ r + 5 → b ≠ r + 6 → (b < r + 9 ∨ r + 14 < b) → X.1 b = x.1 b) (X9 : X.1 (r + 9) = ud (x.1 (r + 9)) s mO) (X10 : X.1 (r + 10) = ud (x.1 (r + 10)) s (nI 0)) (X11 : X.1 (r + 11) = ud (x.1 (r + 11)) s (nI 0)) (X12 : X.1 (r + 12) = ud (x.1 (r + 12)) s (nI 0)) (X14 : X.1 (r + 14) = ud (x.1 (r + 14)) s mO) (X13 : ∀ o, o < K → X.1 (r + 13) o = zp (ud (x.1 (r + 13)) s mO) s o) (Xr7 : X.1 r 7 = x.1 r 7) (Xr8 : X.1 r 8 = Y.1 40 3)
    (hY : ∀ b, b ≠ 40 → b ≠ 47 → b ≠ 48 → b ≠ 57 → b ≠ 58 → b ≠ 60 → Y.1 b = y.1 b) (Yk : ∀ k, k ≠ 3 → Y.1 40 k = y.1 40 k) (Y58 : Y.1 58 = ud (y.1 58) s mO) (Y60 : Y.1 60 = ud (y.1 60) s (nI 0)) (Y57 : ∀ o, o < K → Y.1 57 o = zp (ud (y.1 57) s mO) s o)
    (hX5 : ∀ p, p < M → zOb y s p → X.1 (r + 5) p = kv ∧ X.1 (r + 6) p = v) (hXn : ∀ p, p < M → ¬ zOb y s p → X.1 (r + 5) p = x.1 (r + 5) p ∧ X.1 (r + 6) p = x.1 (r + 6) p)
    (hY5 : ∀ p, p < M → zOb y s p → Y.1 47 p = kv ∧ Y.1 48 p = w') (hYn : ∀ p, p < M → ¬ zOb y s p → Y.1 47 p = y.1 47 p ∧ Y.1 48 p = y.1 48 p)
    (hk : (kv = nI 3 ∧ w' = mO) ∨ ∃ t, t < K ∧ kv = nI 2 ∧ v = nI t ∧ w' = nI t) : zRR r n X Y M K W := by
  obtain ⟨⟨hsc, hpl, ⟨hq1, hq2, hq3, hq4⟩, hse, hzi⟩, hag⟩ := h
  obtain ⟨c1, c2, c3, c4, c5, c6, c7, c8, c9, c10, c11, c12, c13, c14⟩ := hsc
  refine ⟨⟨⟨?_, ?_, c3, ?_, ?_, c6, ?_, ?_, c9, ?_, c11, c12, ?_, ?_⟩, ?_, ⟨?_, ?_, ?_, ?_⟩, ?_, ?_⟩, ?_⟩
  · rw [hX _ (by omega) (by omega) (by omega) (by omega)]; exact c1
  · rw [Yk _ (by decide)]; exact c2
  · rw [hX _ (by omega) (by omega) (by omega) (by omega)]; exact c4
  · rw [Yk _ (by decide)]; exact c5
  · rw [hX _ (by omega) (by omega) (by omega) (by omega)]; exact c7
  · rw [Yk _ (by decide)]; exact c8
  · rw [Yk _ (by decide)]; exact c10
  · rw [Xr7, Yk _ (by decide)]; exact c13
  · exact Xr8
  · rw [hX (r + 2) (by omega) (by omega) (by omega) (by omega), hX (r + 3) (by omega) (by omega) (by omega) (by omega), hY 44 (by decide) (by decide) (by decide) (by decide) (by decide) (by decide), hY 45 (by decide) (by decide) (by decide) (by decide) (by decide) (by decide), hY 52 (by decide) (by decide) (by decide) (by decide) (by decide) (by decide)]
    intro p hp
    obtain ⟨g1, g2, g3, g4, g5, g6, g7⟩ := hpl p hp
    rcases zOb_dec y s p with ho | ho
    · obtain ⟨a1, a2⟩ := hX5 p hp ho
      obtain ⟨b1, b2⟩ := hY5 p hp ho
      rw [a1, a2, b1, b2]
      refine ⟨g1, g2, rfl, g4, g5, fun e => ?_, fun e => ?_⟩
      · rcases hk with ⟨k1, k2⟩ | ⟨t, k0, k1, k2, k3⟩
        · rw [k1] at e; exact absurd e (by decide)
        · rw [k1] at e; exact absurd e (by decide)
      · rcases hk with ⟨k1, k2⟩ | ⟨t, k0, k1, k2, k3⟩
        · rw [k1] at e; exact absurd e (by decide)
        · rw [k2, k3]
    · obtain ⟨a1, a2⟩ := hXn p hp ho
      obtain ⟨b1, b2⟩ := hYn p hp ho
      rw [a1, a2, b1, b2]
      exact ⟨g1, g2, g3, g4, g5, g6, g7⟩
  · rw [hX _ (by omega) (by omega) (by omega) (by omega), hY 49 (by decide) (by decide) (by decide) (by decide) (by decide) (by decide)]; exact hq1
  · rw [hX _ (by omega) (by omega) (by omega) (by omega), hY 50 (by decide) (by decide) (by decide) (by decide) (by decide) (by decide)]; exact hq2
  · rw [hX _ (by omega) (by omega) (by omega) (by omega), hY 51 (by decide) (by decide) (by decide) (by decide) (by decide) (by decide)]; exact hq3
  · rw [X14, Y58]; exact hq4.ud s mO
  · rw [hX (r + 8) (by omega) (by omega) (by omega) (by omega), X9, X10, X11, X12, hY 53 (by decide) (by decide) (by decide) (by decide) (by decide) (by decide), hY 54 (by decide) (by decide) (by decide) (by decide) (by decide) (by decide), hY 55 (by decide) (by decide) (by decide) (by decide) (by decide) (by decide), hY 56 (by decide) (by decide) (by decide) (by decide) (by decide) (by decide), hY 59 (by decide) (by decide) (by decide) (by decide) (by decide) (by decide), Y58, Y60]
    intro o ho
    obtain ⟨g1, g2, g3, g4, g5⟩ := hse o ho
    by_cases e : o = s
    · subst e
      have e1 : zp (ud (x.1 (r + 13)) o mO) o o = mO := by
        unfold zp; rw [ud_s, if_neg (fun q => nI_mO q.symm (by omega))]
      have e2 : zp (ud (y.1 57) o mO) o o = mO := by
        unfold zp; rw [ud_s, if_neg (fun q => nI_mO q.symm (by omega))]
      refine ⟨g1, g2, ?_, Or.inl ?_, Or.inr ⟨ud_s, ud_s, ud_s, ?_⟩⟩
      · rw [X13 o ho, Y57 o ho, e1, e2]
      · rw [Y57 o ho, e2]
      · rw [Y57 o ho, e2]
    · have e1 : X.1 (r + 13) o = Y.1 57 o := by
        rw [X13 o ho, Y57 o ho]; unfold zp
        rw [ud_n e, ud_n e, g3]
      have e2 : Y.1 57 o = if y.1 57 o = nI s then mO else y.1 57 o := by
        rw [Y57 o ho]; unfold zp
        rw [ud_n e]
      refine ⟨g1, g2, e1, ?_, ?_⟩
      · rw [e2]
        by_cases h1 : y.1 57 o = nI s
        · rw [if_pos h1]; exact Or.inl rfl
        · rw [if_neg h1]; exact g4
      · rw [ud_n e, ud_n e, ud_n e, ud_n e, ud_n e, ud_n e, e2]
        rcases g5 with g5 | ⟨k1, k2, k3, k4⟩
        · exact Or.inl g5
        · refine Or.inr ⟨k1, k2, k3, ?_⟩
          rw [k4, if_neg (fun q => nI_mO q.symm (by omega))]
  · rw [hY 49 (by decide) (by decide) (by decide) (by decide) (by decide) (by decide), hY 50 (by decide) (by decide) (by decide) (by decide) (by decide) (by decide), hY 51 (by decide) (by decide) (by decide) (by decide) (by decide) (by decide), hY 52 (by decide) (by decide) (by decide) (by decide) (by decide) (by decide), Y58]
    refine hzi.leave c6 c3 c12 hs (fun p hp q => hYn p hp q) (fun p hp h1 h2 => ?_)
    obtain ⟨b1, b2⟩ := hY5 p hp ⟨h1, h2⟩
    rcases hk with ⟨k1, k2⟩ | ⟨t, k0, k1, k2, k3⟩
    · exact Or.inl ⟨b1.trans k1, b2.trans k2⟩
    · exact Or.inr ⟨t, k0, b1.trans k1, b2.trans k3⟩
  · rw [hX _ (by omega) (by omega) (by omega) (by omega), hY 46 (by decide) (by decide) (by decide) (by decide) (by decide) (by decide)]; exact hag
set_option maxHeartbeats 3200000 in
theorem z_leave (hN : 600 ≤ N) (hS : SR S r n) (hM : SHM Sm) (hX : SX S) (hr : 67 ≤ r) (hr2 : r ≤ 131) (hmn : zMn x y w) (h : zRR r n x y M K W) (hs : s < K) (sk : Nat) :
    ∃ x' y', f_X6_leave N S r (nI s) x = some x' ∧ f_X12_leave N Sm 40 (nI s) y = some y' ∧ zRR r n x' y' M K W ∧ zLg r w x y x' y' 0 0 ∧ zFx r sk x x' ∧ zFy y y' ∧ y'.1 49 = y.1 49 ∧ y'.1 50 = y.1 50 := by
  have h' := h
  obtain ⟨⟨hsc, hpl, ⟨hq1, hq2, hq3, hq4⟩, hse, hzi⟩, hag⟩ := h'
  obtain ⟨c1, c2, c3, c4, c5, c6, c7, c8, c9, c10, c11, c12, c13, c14⟩ := hsc
  obtain ⟨-, -, p1, p2, -⟩ := hse s hs
  have hcol : ∀ p, p < M → ∃ co, co < 5 ∧ y.1 45 p = nI co := fun p hp => (hpl p hp).2.2.2.2.1
  have hleave : f_X12_leave N Sm 40 (nI s) y = lp_X12_leave_9 N Sm (zLvM N Sm (nI s)) 40 (nI s) (y.1 57 s) 0 y := by
    rw [show f_X12_leave N Sm 40 (nI s) y = ck Sm (pr Sm 40 23) (nI s) (lp_X12_leave_9 N Sm (zLvM N Sm (nI s)) 40 (nI s) (y.1 (pr Sm 40 23) (nI s).toNatClampNeg) 0 y) from rfl, shm_p23 hM, ck_n (by rw [shm_l57 hM]; omega) (by omega), w_cl (by omega)]
  have main : ∀ (t : Option Nat), (match t with | none => y.1 57 s = mO ∨ ∃ t', t' < K ∧ y.1 57 s = nI t' ∧ y.1 60 t' = nI 0 | some t' => t' < K ∧ y.1 57 s = nI t' ∧ y.1 60 t' = nI 1) → ∃ x' y', f_X6_leave N S r (nI s) x = some x' ∧ f_X12_leave N Sm 40 (nI s) y = some y' ∧ zRR r n x' y' M K W ∧ zLg r w x y x' y' 0 0 ∧ zFx r sk x x' ∧ zFy y y' ∧ y'.1 49 = y.1 49 ∧ y'.1 50 = y.1 50 := by
    intro t ht
    obtain ⟨y1, a1, a2, a3, a4, a5, a6, a7⟩ := z_lv9 (N := N) hN hM c3 c6 c2 (s := s) hcol t ht (zLvM N Sm (nI s))
    obtain ⟨y2, b1, b2, b3, b4, b5, b6⟩ := z_lvM (N := N) hN hM c6 hs (y := y1) (by rw [a4 18 (by decide)]; exact c5)
    cases t with
    | none =>
      obtain ⟨x10, d1, d2, d3, d4, d5⟩ := z_clear (N := N) hN hS c3 (s := s) (x := U1 x r 8 (x.1 r 8 + zS (zG y s) M)) (by simp (disch := omega) only [u1_f, u1_s, u2_f, u2_s, up_s, up_n, ud_s, ud_n]; exact c1) (nI 3) mO
      obtain ⟨x11, e1, e2, e3, e4, e5, e6, e7, e8, e9⟩ := z_dismiss (N := N) hN hS c6 hs (x := x10) (by rw [d3 _ (by omega) (by omega)]; simp (disch := omega) only [u1_f, u1_s, u2_f, u2_s, up_s, up_n, ud_s, ud_n]; exact c4)
      have r9 : ∀ b, r + 9 ≤ b → x10.1 b = x.1 b := fun b hb => by rw [d3 b (by omega) (by omega)]; simp (disch := omega) only [u1_f, u1_s, u2_f, u2_s, up_s, up_n, ud_s, ud_n]
      have rr : ∀ b, b ≠ r → b ≠ r + 5 → b ≠ r + 6 → x10.1 b = x.1 b := fun b h1 h2 h3 => by rw [d3 b h2 h3]; simp (disch := omega) only [u1_f, u1_s, u2_f, u2_s, up_s, up_n, ud_s, ud_n]
      simp (disch := omega) only [u1_f, u1_s, u2_f, u2_s, up_s, up_n, ud_s, ud_n] at d4 d5
      have hx : f_X6_leave N S r (nI s) x = some x11 := by
        have hb := z_bill (N := N) (s := s) hN hS hX c3 c1 hmn hpl
        rcases ht with hv | ⟨t', ht1, hv, ht2⟩
        · rw [hv] at p1
          simp (disch := (first | omega | (simp only [sr_l2 hS, sr_l3 hS, sr_l4 hS, sr_l5 hS, sr_l6 hS, sr_l8 hS, sr_l9 hS, sr_l10 hS, sr_l11 hS, sr_l12 hS, sr_l13 hS, sr_l14 hS, sr_l15 hS, sr_l16 hS, sr_l18 hS, sr_l19 hS]; omega))) only [f_X6_leave, j_X6_leave_65, f_X8_isTaken, ↓eM, eL_0, eL_1, eL_2, eL_3, eL_4, eL_5, eL_6, eL_7, eL_8, eL_9, eL_10, eL_11, eL_12, eL_15, eL_16, eL_20, eL_24, eL_30, eL_31, eL_32, eL_39, eL_40, eL_41, eL_42, eL_43, eL_45, eL_47, eL_48, eL_49, eL_50, eL_57, eL_59, eL_60, eL_61, eL_90, eL_96, eL_97, eL_100, eL_122, eL_160, eL_161, eL_255, eL_300, eL_343, eL_999, eL_1000, eL_1920, eL_9999, eL_10000, eL_999999, eL_100000, eL_1000000, sr_r0 hS, sr_r1 hS, sr_r2 hS, sr_r3 hS, sr_r4 hS, sr_r5 hS, sr_r6 hS, sr_p0 hS, sr_p1 hS, sr_p2 hS, sr_p3 hS, sr_p4 hS, sr_s0 hS, sr_s1 hS, sr_s2 hS, sr_s3 hS, sr_s4 hS, sr_s5 hS, sr_s6 hS, sr_l0 hS, sr_l1 hS, p1, hb, d1, e1, ↓reduceIte, ↓bl_e, bd_e, u1_f, u1_s, u2_f, u2_s, w_cl, w_ltT, w_ltF, w_leT, w_leF, w_eqT, w_eqF, w_mlt, w_ltm, w_mle, w_lem, w_eqm, w_meq, w_mltm, nI_add, w_sub, w_addm, up_s, up_n, ud_s, ud_n, ck_n, bz_0, bz_1]
        · rw [hv] at p1
          rcases hse.sat ht1 with ⟨k, hk⟩ | ⟨k1, k2, k3, k4⟩
          · have := hk.1.symm.trans ht2
            exact absurd this (by decide)
          · simp (disch := (first | omega | (simp only [sr_l2 hS, sr_l3 hS, sr_l4 hS, sr_l5 hS, sr_l6 hS, sr_l8 hS, sr_l9 hS, sr_l10 hS, sr_l11 hS, sr_l12 hS, sr_l13 hS, sr_l14 hS, sr_l15 hS, sr_l16 hS, sr_l18 hS, sr_l19 hS]; omega))) only [f_X6_leave, j_X6_leave_65, f_X8_isTaken, ↓eM, eL_0, eL_1, eL_2, eL_3, eL_4, eL_5, eL_6, eL_7, eL_8, eL_9, eL_10, eL_11, eL_12, eL_15, eL_16, eL_20, eL_24, eL_30, eL_31, eL_32, eL_39, eL_40, eL_41, eL_42, eL_43, eL_45, eL_47, eL_48, eL_49, eL_50, eL_57, eL_59, eL_60, eL_61, eL_90, eL_96, eL_97, eL_100, eL_122, eL_160, eL_161, eL_255, eL_300, eL_343, eL_999, eL_1000, eL_1920, eL_9999, eL_10000, eL_999999, eL_100000, eL_1000000, sr_r0 hS, sr_r1 hS, sr_r2 hS, sr_r3 hS, sr_r4 hS, sr_r5 hS, sr_r6 hS, sr_p0 hS, sr_p1 hS, sr_p2 hS, sr_p3 hS, sr_p4 hS, sr_s0 hS, sr_s1 hS, sr_s2 hS, sr_s3 hS, sr_s4 hS, sr_s5 hS, sr_s6 hS, sr_l0 hS, sr_l1 hS, p1, c4, k2, hb, d1, e1, ↓reduceIte, ↓bl_e, bd_e, u1_f, u1_s, u2_f, u2_s, w_cl, w_ltT, w_ltF, w_leT, w_leF, w_eqT, w_eqF, w_mlt, w_ltm, w_mle, w_lem, w_eqm, w_meq, w_mltm, nI_add, w_sub, w_addm, up_s, up_n, ud_s, ud_n, ck_n, bz_0, bz_1]
      refine ⟨x11, y2, hx, by rw [hleave, a1, b1], z_lvfin h hs (kv := nI 3) (v := mO) (w' := mO) (fun b h1 h2 h3 h4 => (e3 b h4).trans (rr b h1 h2 h3)) (by rw [e4, r9 _ (by omega)]) (by rw [e5, r9 _ (by omega)]) (by rw [e6, r9 _ (by omega)]) (by rw [e7, r9 _ (by omega)]) (by rw [e8, r9 _ (by omega)]) (fun o ho => by rw [e9 o ho, r9 _ (by omega)]) ?_ ?_ (fun b g1 g2 g3 g4 g5 g6 => (b3 b g4 g5 g6).trans (a3 b g2 g3 g1)) (fun k hk => by rw [b3 40 (by decide) (by decide) (by decide)]; exact a4 k hk) (by rw [b4, a3 58 (by decide) (by decide) (by decide)]) (by rw [b5, a3 60 (by decide) (by decide) (by decide)]) (fun o ho => by rw [b6 o ho, a3 57 (by decide) (by decide) (by decide)]) (fun p hp ho => ?_) (fun p hp ho => ?_) (fun p hp ho => ?_) (fun p hp ho => ?_) (Or.inl ⟨rfl, rfl⟩), zLg.same ?_ ?_ ?_ ?_ ?_, ⟨fun b hb _ => ?_, fun b _ => by rw [e2, d2]⟩, ⟨fun b hb => ?_, fun k hk => ?_, fun s9 h9 => by rw [b5, a3 60 (by decide) (by decide) (by decide)]; unfold ud; split; exact rfl; exact h9⟩, by rw [b3 49 (by decide) (by decide) (by decide)]; exact a3 49 (by decide) (by decide) (by decide), by rw [b3 50 (by decide) (by decide) (by decide)]; exact a3 50 (by decide) (by decide) (by decide)⟩
      · rw [e3 _ (by omega), d3 _ (by omega) (by omega)]; simp (disch := omega) only [u1_f, u1_s, u2_f, u2_s, up_s, up_n, ud_s, ud_n]
      · rw [e3 _ (by omega), d3 _ (by omega) (by omega), b3 40 (by decide) (by decide) (by decide), a5]; simp (disch := omega) only [u1_f, u1_s, u2_f, u2_s, up_s, up_n, ud_s, ud_n]; rw [c14]
      · rw [e3 _ (by omega), e3 _ (by omega)]; exact d4 p hp ((hpl.ob hp).mpr ho)
      · rw [e3 _ (by omega), e3 _ (by omega)]; exact d5 p hp (mt (hpl.ob hp).mp ho)
      · rw [b3 47 (by decide) (by decide) (by decide), b3 48 (by decide) (by decide) (by decide)]; exact a6 p hp ho
      · rw [b3 47 (by decide) (by decide) (by decide), b3 48 (by decide) (by decide) (by decide)]; exact a7 p hp ho
      · rw [e3 _ (by omega), d3 _ (by omega) (by omega)]; simp (disch := omega) only [u1_f, u1_s, u2_f, u2_s, up_s, up_n, ud_s, ud_n]
      · rw [b3 40 (by decide) (by decide) (by decide), a4 _ (by decide)]
      · rw [b3 40 (by decide) (by decide) (by decide), a4 _ (by decide)]
      · rw [b3 40 (by decide) (by decide) (by decide), a4 _ (by decide)]
      · rw [e2, d2]
      · rw [e3 b (by omega)]; exact rr b (by omega) (by omega) (by omega)
      · rw [b3 b (by omega) (by omega) (by omega)]; exact a3 b (by omega) (by omega) (by omega)
      · rw [b3 40 (by decide) (by decide) (by decide)]; exact a4 k (by omega)
    | some t' =>
      obtain ⟨ht1, hv, ht2⟩ := ht
      obtain ⟨x10, d1, d2, d3, d4, d5⟩ := z_clear (N := N) hN hS c3 (s := s) (x := x) c1 (nI 2) (nI t')
      obtain ⟨x11, e1, e2, e3, e4, e5, e6, e7, e8, e9⟩ := z_dismiss (N := N) hN hS c6 hs (x := x10) (by rw [d3 _ (by omega) (by omega)]; exact c4)
      have rr : ∀ b, b ≠ r + 5 → b ≠ r + 6 → x10.1 b = x.1 b := d3
      have hx : f_X6_leave N S r (nI s) x = some x11 := by
        rw [hv] at p1
        rcases hse.sat ht1 with ⟨k, hk1, hk2, hk3, hk4, hk5⟩ | ⟨k1, k2, k3, k4⟩
        · simp (disch := (first | omega | (simp only [sr_l2 hS, sr_l3 hS, sr_l4 hS, sr_l5 hS, sr_l6 hS, sr_l8 hS, sr_l9 hS, sr_l10 hS, sr_l11 hS, sr_l12 hS, sr_l13 hS, sr_l14 hS, sr_l15 hS, sr_l16 hS, sr_l18 hS, sr_l19 hS]; omega))) only [f_X6_leave, j_X6_leave_65, f_X8_isTaken, ↓eM, eL_0, eL_1, eL_2, eL_3, eL_4, eL_5, eL_6, eL_7, eL_8, eL_9, eL_10, eL_11, eL_12, eL_15, eL_16, eL_20, eL_24, eL_30, eL_31, eL_32, eL_39, eL_40, eL_41, eL_42, eL_43, eL_45, eL_47, eL_48, eL_49, eL_50, eL_57, eL_59, eL_60, eL_61, eL_90, eL_96, eL_97, eL_100, eL_122, eL_160, eL_161, eL_255, eL_300, eL_343, eL_999, eL_1000, eL_1920, eL_9999, eL_10000, eL_999999, eL_100000, eL_1000000, sr_r0 hS, sr_r1 hS, sr_r2 hS, sr_r3 hS, sr_r4 hS, sr_r5 hS, sr_r6 hS, sr_p0 hS, sr_p1 hS, sr_p2 hS, sr_p3 hS, sr_p4 hS, sr_s0 hS, sr_s1 hS, sr_s2 hS, sr_s3 hS, sr_s4 hS, sr_s5 hS, sr_s6 hS, sr_l0 hS, sr_l1 hS, p1, c4, hk2, d1, e1, ↓reduceIte, ↓bl_e, bd_e, u1_f, u1_s, u2_f, u2_s, w_cl, w_ltT, w_ltF, w_leT, w_leF, w_eqT, w_eqF, w_mlt, w_ltm, w_mle, w_lem, w_eqm, w_meq, w_mltm, nI_add, w_sub, w_addm, up_s, up_n, ud_s, ud_n, ck_n, bz_0, bz_1]
        · have := k1.symm.trans ht2
          exact absurd this (by decide)
      refine ⟨x11, y2, hx, by rw [hleave, a1, b1], z_lvfin h hs (kv := nI 2) (v := nI t') (w' := nI t') (fun b h1 h2 h3 h4 => (e3 b h4).trans (rr b h2 h3)) (by rw [e4, rr _ (by omega) (by omega)]) (by rw [e5, rr _ (by omega) (by omega)]) (by rw [e6, rr _ (by omega) (by omega)]) (by rw [e7, rr _ (by omega) (by omega)]) (by rw [e8, rr _ (by omega) (by omega)]) (fun o ho => by rw [e9 o ho, rr _ (by omega) (by omega)]) ?_ ?_ (fun b g1 g2 g3 g4 g5 g6 => (b3 b g4 g5 g6).trans (a3 b g2 g3 g1)) (fun k hk => by rw [b3 40 (by decide) (by decide) (by decide)]; exact a4 k hk) (by rw [b4, a3 58 (by decide) (by decide) (by decide)]) (by rw [b5, a3 60 (by decide) (by decide) (by decide)]) (fun o ho => by rw [b6 o ho, a3 57 (by decide) (by decide) (by decide)]) (fun p hp ho => ?_) (fun p hp ho => ?_) (fun p hp ho => ?_) (fun p hp ho => ?_) (Or.inr ⟨t', ht1, rfl, rfl, rfl⟩), zLg.same ?_ ?_ ?_ ?_ ?_, ⟨fun b hb _ => ?_, fun b _ => by rw [e2, d2]⟩, ⟨fun b hb => ?_, fun k hk => ?_, fun s9 h9 => by rw [b5, a3 60 (by decide) (by decide) (by decide)]; unfold ud; split; exact rfl; exact h9⟩, by rw [b3 49 (by decide) (by decide) (by decide)]; exact a3 49 (by decide) (by decide) (by decide), by rw [b3 50 (by decide) (by decide) (by decide)]; exact a3 50 (by decide) (by decide) (by decide)⟩
      · rw [e3 _ (by omega), rr _ (by omega) (by omega)]
      · rw [e3 _ (by omega), rr _ (by omega) (by omega), b3 40 (by decide) (by decide) (by decide), a5]; exact c14
      · rw [e3 _ (by omega), e3 _ (by omega)]; exact d4 p hp ((hpl.ob hp).mpr ho)
      · rw [e3 _ (by omega), e3 _ (by omega)]; exact d5 p hp (mt (hpl.ob hp).mp ho)
      · rw [b3 47 (by decide) (by decide) (by decide), b3 48 (by decide) (by decide) (by decide)]; exact a6 p hp ho
      · rw [b3 47 (by decide) (by decide) (by decide), b3 48 (by decide) (by decide) (by decide)]; exact a7 p hp ho
      · rw [e3 _ (by omega), rr _ (by omega) (by omega)]
      · rw [b3 40 (by decide) (by decide) (by decide), a4 _ (by decide)]
      · rw [b3 40 (by decide) (by decide) (by decide), a4 _ (by decide)]
      · rw [b3 40 (by decide) (by decide) (by decide), a4 _ (by decide)]
      · rw [e2, d2]
      · rw [e3 b (by omega)]; exact rr b (by omega) (by omega)
      · rw [b3 b (by omega) (by omega) (by omega)]; exact a3 b (by omega) (by omega) (by omega)
      · rw [b3 40 (by decide) (by decide) (by decide)]; exact a4 k (by omega)
  rcases p2 with hv | ⟨t', ht1, hv⟩
  · exact main none (Or.inl hv)
  · rcases hse.sat ht1 with ⟨k, hk⟩ | hk
    · exact main (some t') ⟨ht1, hv, hk.1⟩
    · exact main none (Or.inr ⟨t', ht1, hv, hk.1⟩)
end LEAVE
