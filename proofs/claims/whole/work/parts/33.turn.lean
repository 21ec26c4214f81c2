/-! LAYER 3: a tick's first half: the belt turns, the stale one is thrown -/
def zC (f : Nat → Int32) (p : Nat) : Nat → Nat
  | 0 => 0
  | k + 1 => zC f p k + (if f k = nI p then 1 else 0)
theorem zC_congr {f g : Nat → Int32} {p : Nat} : ∀ k, (∀ i, i < k → f i = g i) → zC f p k = zC g p k
  | 0, _ => rfl
  | k + 1, h => by
    show zC f p k + _ = zC g p k + _
    rw [zC_congr k (fun i hi => h i (by omega)), h k (by omega)]
theorem zC_rot {f g : Nat → Int32} {p n : Nat} (h0 : g 0 = f n) (h : ∀ i, i < n → g (i + 1) = f i) : ∀ k, k ≤ n → zC g p (k + 1) = (if f n = nI p then 1 else 0) + zC f p k := by
  intro k
  induction k with
  | zero =>
    intro _
    show 0 + (if g 0 = nI p then 1 else 0) = _ + 0
    rw [h0]; omega
  | succ k ih =>
    intro hk
    show zC g p (k + 1) + (if g (k + 1) = nI p then 1 else 0) = _ + (zC f p k + if f k = nI p then 1 else 0)
    rw [ih (by omega), h k (by omega)]
    omega
theorem w_addA (a : Int32) (i j : Nat) : a + nI i + nI j = a + nI (i + j) := by rw [Int32.add_assoc, nI_add]
/-- the ledger: how many were eaten (e), for how much (g), how many were thrown (t) -/
def zLg (r w : Nat) (x y x' y' : DY) (G T : Nat) : Prop := ∃ e g t, g ≤ G ∧ t ≤ T ∧ x'.1 r 9 = x.1 r 9 + nI e ∧ y'.1 40 45 = y.1 40 45 + nI e ∧ y'.1 40 46 = y.1 40 46 + nI g ∧ y'.1 40 47 = y.1 40 47 + nI t ∧ x'.2 r 10 + lN (w * t) = x.2 r 10 + lN g
theorem w_add0 (a : Int32) : a + nI 0 = a := Int32.add_zero a
theorem l_add0 (a : Int64) : a + lN 0 = a := Int64.add_zero a
theorem zLg.same {r w : Nat} {x y x' y' : DY} {G T : Nat} (h1 : x'.1 r 9 = x.1 r 9) (h2 : y'.1 40 45 = y.1 40 45) (h3 : y'.1 40 46 = y.1 40 46) (h4 : y'.1 40 47 = y.1 40 47) (h5 : x'.2 r 10 = x.2 r 10) : zLg r w x y x' y' G T :=
  ⟨0, 0, 0, Nat.zero_le _, Nat.zero_le _, by rw [h1, w_add0], by rw [h2, w_add0], by rw [h3, w_add0], by rw [h4, w_add0], by rw [h5, Nat.mul_zero]⟩
theorem zLg.rf {r w : Nat} {x y : DY} {G T : Nat} : zLg r w x y x y G T := zLg.same rfl rfl rfl rfl rfl
theorem zLg.trans {r w : Nat} {x y x1 y1 x2 y2 : DY} {G1 T1 G2 T2 : Nat} (h : zLg r w x y x1 y1 G1 T1) (k : zLg r w x1 y1 x2 y2 G2 T2) : zLg r w x y x2 y2 (G1 + G2) (T1 + T2) := by
  obtain ⟨e1, g1, t1, a1, a2, a3, a4, a5, a6, a7⟩ := h
  obtain ⟨e2, g2, t2, b1, b2, b3, b4, b5, b6, b7⟩ := k
  refine ⟨e1 + e2, g1 + g2, t1 + t2, by omega, by omega, by rw [b3, a3, w_addA], by rw [b4, a4, w_addA], by rw [b5, a5, w_addA], by rw [b6, a6, w_addA], ?_⟩
  rw [Nat.mul_add, ← lN_add, ← lN_add, Int64.add_comm (lN (w * t1)), ← Int64.add_assoc, b7, Int64.add_assoc, Int64.add_comm (lN g2), ← Int64.add_assoc, a7, Int64.add_assoc]
theorem zLg.wk {r w : Nat} {x y x' y' : DY} {G T G' T' : Nat} (h : zLg r w x y x' y' G T) (h1 : G ≤ G') (h2 : T ≤ T') : zLg r w x y x' y' G' T' := by
  obtain ⟨e, g, t, a1, a2, a3⟩ := h
  exact ⟨e, g, t, by omega, by omega, a3⟩
/-- what a tick leaves as it was -/
def zFx (r sk : Nat) (x x' : DY) : Prop := (∀ b, (b < r ∨ r + 20 ≤ b) → b ≠ sk → x'.1 b = x.1 b) ∧ (∀ b, b ≠ r → x'.2 b = x.2 b)
def zFw (y y' : DY) : Prop := (∀ b, (b < 40 ∨ (41 ≤ b ∧ b < 44) ∨ (61 ≤ b ∧ b < 66) ∨ 68 ≤ b) → y'.1 b = y.1 b) ∧ (∀ k, (k = 0 ∨ (4 ≤ k ∧ k < 17) ∨ (19 ≤ k ∧ k < 45) ∨ 48 ≤ k) → y'.1 40 k = y.1 40 k) ∧ (∀ s, y.1 60 s = nI 0 → y'.1 60 s = nI 0)
/-- what a tick leaves as it was: also dishes, colours, for whom a tray is, places, kinds, likes -/
def zFy (y y' : DY) : Prop := (∀ b, (b < 40 ∨ (41 ≤ b ∧ b < 46) ∨ (52 ≤ b ∧ b ≤ 54) ∨ b = 59 ∨ (61 ≤ b ∧ b < 66) ∨ 68 ≤ b) → y'.1 b = y.1 b) ∧ (∀ k, (k = 0 ∨ (4 ≤ k ∧ k < 17) ∨ (19 ≤ k ∧ k < 45) ∨ 48 ≤ k) → y'.1 40 k = y.1 40 k) ∧ (∀ s, y.1 60 s = nI 0 → y'.1 60 s = nI 0)
theorem zFy.w {y y' : DY} (h : zFy y y') : zFw y y' := ⟨fun b hb => h.1 b (by omega), h.2.1, h.2.2⟩
theorem zFx.rf {r sk : Nat} {x : DY} : zFx r sk x x := ⟨fun _ _ _ => rfl, fun _ _ => rfl⟩
theorem zFy.rf {y : DY} : zFy y y := ⟨fun _ _ => rfl, fun _ _ => rfl, fun _ h => h⟩
theorem zFw.rf {y : DY} : zFw y y := ⟨fun _ _ => rfl, fun _ _ => rfl, fun _ h => h⟩
theorem zFw.trans {y y1 y2 : DY} (h : zFw y y1) (k : zFw y1 y2) : zFw y y2 := ⟨fun b h1 => (k.1 b h1).trans (h.1 b h1), fun b hb => (k.2.1 b hb).trans (h.2.1 b hb), fun s hs => k.2.2 s (h.2.2 s hs)⟩
theorem zFx.trans {r sk : Nat} {x x1 x2 : DY} (h : zFx r sk x x1) (k : zFx r sk x1 x2) : zFx r sk x x2 := ⟨fun b h1 h2 => (k.1 b h1 h2).trans (h.1 b h1 h2), fun b hb => (k.2 b hb).trans (h.2 b hb)⟩
theorem zFy.trans {y y1 y2 : DY} (h : zFy y y1) (k : zFy y1 y2) : zFy y y2 := ⟨fun b h1 => (k.1 b h1).trans (h.1 b h1), fun b hb => (k.2.1 b hb).trans (h.2.1 b hb), fun s hs => k.2.2 s (h.2.2 s hs)⟩
theorem zMn.keepw {r sk w : Nat} {x y x' y' : DY} (h : zMn x y w) (fx : zFx r sk x x') (fy : zFw y y') (hr : 45 ≤ r) (hs : 45 ≤ sk) : zMn x' y' w := by
  obtain ⟨h1, h2, h3, h4, h5⟩ := h
  have e1 := fx.1 42 (by omega) (by omega)
  have e2 := fx.1 43 (by omega) (by omega)
  have e3 := fx.1 44 (by omega) (by omega)
  have e4 := fx.1 41 (by omega) (by omega)
  have f1 := fy.1 41 (by omega)
  have f2 := fy.1 42 (by omega)
  have f3 := fy.1 43 (by omega)
  have f4 := fy.2.1 4 (by omega)
  unfold zMn
  rw [e1, e2, e3, e4, f1, f2, f3, f4]
  exact ⟨h1, h2, h3, h4, h5⟩
theorem zMn.keep {r sk w : Nat} {x y x' y' : DY} (h : zMn x y w) (fx : zFx r sk x x') (fy : zFy y y') (hr : 45 ≤ r) (hs : 45 ≤ sk) : zMn x' y' w := h.keepw fx fy.w hr hs
theorem zEX.keep {r sk : Nat} {x x' : DY} (h : zEX x) (fx : zFx r sk x x') (hr : 45 ≤ r) (hs : 45 ≤ sk) : zEX x' := fun i hi j hj => by
  rw [fx.1 i (by omega) (by omega)]; exact h i hi j hj
set_option maxHeartbeats 800000 in
theorem z_grow {N : Nat} {S : SH} {r n M : Nat} (hS : SR S r n) {x : DY} {v : Int32} (hM : x.1 (r + 1) 5 = nI M) (hM3 : M ≤ 300) (hv : v = mO ∨ ∃ p, p < M ∧ v = nI p) : ∃ x', f_X4_growOlder N S (r + 1) v x = some x' ∧ x'.2 = x.2 ∧ (∀ b, b ≠ r + 4 → x'.1 b = x.1 b) ∧ ∀ p, p < M → x'.1 (r + 4) p = x.1 (r + 4) p + (if v = nI p then nI 1 else nI 0) := by
  rcases hv with rfl | ⟨p0, hp, rfl⟩
  · refine ⟨x, ?_, rfl, fun _ _ => rfl, fun p hp => ?_⟩
    · have e : (mO < nI 0) = True := w_mlt (by omega)
      simp only [f_X4_growOlder, f_X4_has, ↓eM, eL_0, eL_1, eL_2, eL_3, eL_4, eL_5, eL_6, eL_7, eL_8, eL_9, eL_10, eL_11, eL_12, eL_15, eL_16, eL_20, eL_24, eL_30, eL_31, eL_32, eL_39, eL_40, eL_41, eL_42, eL_43, eL_45, eL_47, eL_48, eL_49, eL_50, eL_57, eL_59, eL_60, eL_61, eL_90, eL_96, eL_97, eL_100, eL_122, eL_160, eL_161, eL_255, eL_300, eL_343, eL_999, eL_1000, eL_1920, eL_9999, eL_10000, eL_999999, eL_100000, eL_1000000, e, ↓reduceIte, bd_e]
    · have e : (mO = nI p) = False := w_meq (by omega)
      rw [if_neg (fun h => Eq.mp e h), w_add0]
  · refine ⟨U1 x (r + 4) p0 (x.1 (r + 4) p0 + nI 1), ?_, rfl, fun b hb => up_n hb, fun p hp' => ?_⟩
    · simp (disch := (first | omega | (simp only [sr_l2 hS, sr_l3 hS, sr_l4 hS, sr_l5 hS, sr_l6 hS, sr_l8 hS, sr_l9 hS, sr_l10 hS, sr_l11 hS, sr_l12 hS, sr_l13 hS, sr_l14 hS, sr_l15 hS, sr_l16 hS, sr_l18 hS, sr_l19 hS]; omega))) only [f_X4_growOlder, f_X4_has, ↓eM, eL_0, eL_1, eL_2, eL_3, eL_4, eL_5, eL_6, eL_7, eL_8, eL_9, eL_10, eL_11, eL_12, eL_15, eL_16, eL_20, eL_24, eL_30, eL_31, eL_32, eL_39, eL_40, eL_41, eL_42, eL_43, eL_45, eL_47, eL_48, eL_49, eL_50, eL_57, eL_59, eL_60, eL_61, eL_90, eL_96, eL_97, eL_100, eL_122, eL_160, eL_161, eL_255, eL_300, eL_343, eL_999, eL_1000, eL_1920, eL_9999, eL_10000, eL_999999, eL_100000, eL_1000000, sr_r0 hS, sr_r1 hS, sr_r2 hS, sr_r3 hS, sr_r4 hS, sr_r5 hS, sr_r6 hS, sr_p0 hS, sr_p1 hS, sr_p2 hS, sr_p3 hS, sr_p4 hS, sr_s0 hS, sr_s1 hS, sr_s2 hS, sr_s3 hS, sr_s4 hS, sr_s5 hS, sr_s6 hS, sr_l0 hS, sr_l1 hS, hM, ↓reduceIte, ↓bl_e, bd_e, u1_f, u1_s, u2_f, u2_s, w_cl, w_ltT, w_ltF, w_leT, w_leF, w_eqT, w_eqF, w_mlt, w_ltm, w_mle, w_lem, w_eqm, w_meq, w_mltm, nI_add, w_sub, w_addm, up_s, up_n, ud_s, ud_n, ck_n, bz_0, bz_1]
    · rw [u1_f, up_s]
      by_cases e : p = p0
      · subst e; rw [ud_s, if_pos rfl]
      · rw [ud_n e, if_neg (fun h => e (nI_inj h (by omega) (by omega)).symm), w_add0]
set_option maxHeartbeats 1600000 in
theorem z_turnX {N : Nat} (hN : 600 ≤ N) {S : SH} {r n M : Nat} (hS : SR S r n) {x : DY} (hM : x.1 (r + 1) 5 = nI M) (hM3 : M ≤ 300) (hb : ∀ i, i < n → x.1 (r + 16) i = mO ∨ ∃ p, p < M ∧ x.1 (r + 16) i = nI p) :
    ∃ x', f_X6_turnBelt N S r x = some x' ∧ x'.2 = x.2 ∧ (∀ b, b ≠ r + 16 → b ≠ r + 4 → x'.1 b = x.1 b) ∧ x'.1 (r + 16) 0 = x.1 (r + 16) (n - 1) ∧ (∀ i, i + 1 < n → x'.1 (r + 16) (i + 1) = x.1 (r + 16) i) ∧ ∀ p, p < M → x'.1 (r + 4) p = x.1 (r + 4) p + nI (zC (x.1 (r + 16)) p n) := by
  have hn6 : 6 ≤ n := hS.2.2.2.2.2.2.1
  have hn12 : n ≤ 12 := hS.2.2.2.2.2.2.2
  unfold f_X6_turnBelt lp_X6_turnBelt_21
  simp (disch := (first | omega | (simp only [sr_l2 hS, sr_l3 hS, sr_l4 hS, sr_l5 hS, sr_l6 hS, sr_l8 hS, sr_l9 hS, sr_l10 hS, sr_l11 hS, sr_l12 hS, sr_l13 hS, sr_l14 hS, sr_l15 hS, sr_l16 hS, sr_l18 hS, sr_l19 hS]; omega))) only [↓eM, eL_0, eL_1, eL_2, eL_3, eL_4, eL_5, eL_6, eL_7, eL_8, eL_9, eL_10, eL_11, eL_12, eL_15, eL_16, eL_20, eL_24, eL_30, eL_31, eL_32, eL_39, eL_40, eL_41, eL_42, eL_43, eL_45, eL_47, eL_48, eL_49, eL_50, eL_57, eL_59, eL_60, eL_61, eL_90, eL_96, eL_97, eL_100, eL_122, eL_160, eL_161, eL_255, eL_300, eL_343, eL_999, eL_1000, eL_1920, eL_9999, eL_10000, eL_999999, eL_100000, eL_1000000, sr_r0 hS, sr_r1 hS, sr_r2 hS, sr_r3 hS, sr_r4 hS, sr_r5 hS, sr_r6 hS, sr_p0 hS, sr_p1 hS, sr_p2 hS, sr_p3 hS, sr_p4 hS, sr_s0 hS, sr_s1 hS, sr_s2 hS, sr_s3 hS, sr_s4 hS, sr_s5 hS, sr_s6 hS, sr_l0 hS, sr_l1 hS, sr_l16 hS, ↓reduceIte, ↓bl_e, bd_e, u1_f, u1_s, u2_f, u2_s, w_cl, w_ltT, w_ltF, w_leT, w_leF, w_eqT, w_eqF, w_mlt, w_ltm, w_mle, w_lem, w_eqm, w_meq, w_mltm, nI_add, w_sub, w_addm, up_s, up_n, ud_s, ud_n, ck_n, bz_0, bz_1]
  refine z_loop1 (fun i a => ∃ x1, a = (nI (n - 1 - i), x1) ∧ x1.2 = x.2 ∧ (∀ b, b ≠ r + 16 → b ≠ r + 4 → x1.1 b = x.1 b) ∧ (∀ j, j < n → n - 1 - i < j → x1.1 (r + 16) j = x.1 (r + 16) (j - 1)) ∧ (∀ j, j ≤ n - 1 - i → x1.1 (r + 16) j = x.1 (r + 16) j) ∧ ∀ p, p < M → x1.1 (r + 4) p + nI (zC (x.1 (r + 16)) p (n - 1 - i)) = x.1 (r + 4) p + nI (zC (x.1 (r + 16)) p (n - 1))) (n - 1)
    (K1 := fun a => ck S (r + 16) (nI 0) (bl (U1 a.2 (r + 16) 0 (x.1 (r + 16) (n - 1))) (fun x15 => Option.bind (f_X4_growOlder N S (r + 1) (x.1 (r + 16) (n - 1)) x15) (fun r17 => some r17))))
    (fun o => ∃ x', o = some x' ∧ x'.2 = x.2 ∧ (∀ b, b ≠ r + 16 → b ≠ r + 4 → x'.1 b = x.1 b) ∧ x'.1 (r + 16) 0 = x.1 (r + 16) (n - 1) ∧ (∀ i, i + 1 < n → x'.1 (r + 16) (i + 1) = x.1 (r + 16) i) ∧ ∀ p, p < M → x'.1 (r + 4) p = x.1 (r + 4) p + nI (zC (x.1 (r + 16)) p n)) (by omega) ⟨x, by rw [Nat.sub_zero], rfl, fun _ _ _ => rfl, fun j h1 h2 => by omega, fun j _ => rfl, fun p _ => by rw [Nat.sub_zero]⟩ ?_ ?_ ?_
  · rintro i _ hi ⟨x1, rfl, g1, g2, g3, g4, g5⟩
    have hv : x1.1 (r + 16) (n - 1 - i - 1) = x.1 (r + 16) (n - 1 - i - 1) := g4 _ (by omega)
    obtain ⟨x2, q1, q2, q3, q4⟩ := z_grow (N := N) hS (x := U1 x1 (r + 16) (n - 1 - i) (x.1 (r + 16) (n - 1 - i - 1))) (v := x.1 (r + 16) (n - 1 - i - 1)) (M := M) (by rw [u1_f, up_n (by omega), g2 _ (by omega) (by omega)]; exact hM) hM3 (hb _ (by omega))
    refine ⟨(nI (n - 1 - i - 1), x2), ⟨x2, rfl, q2.trans g1, fun b h1 h2 => ?_, fun j h1 h2 => ?_, fun j h1 => ?_, fun p hp => ?_⟩, fun back => ?_⟩
    · rw [q3 b h2, u1_f, up_n h1]; exact g2 b h1 h2
    · rw [q3 _ (by omega), u1_f, up_s]
      by_cases e : j = n - 1 - i
      · subst e; rw [ud_s]
      · rw [ud_n e]; exact g3 j h1 (by omega)
    · rw [q3 _ (by omega), u1_f, up_s, ud_n (by omega)]; exact g4 j (by omega)
    · rw [q4 p hp, u1_f, up_n (by omega), ← g5 p hp]
      obtain ⟨k, hk⟩ : ∃ k, n - 1 - i = k + 1 := ⟨n - 1 - i - 1, by omega⟩
      rw [show n - 1 - (i + 1) = k by omega, show n - 1 - i - 1 = k by omega, hk]
      show _ = x1.1 (r + 4) p + nI (zC (x.1 (r + 16)) p k + _)
      split
      · rw [w_addA, Nat.add_comm 1]
      · rw [w_addA, Nat.add_comm 0]
    · simp (disch := (first | omega | (simp only [sr_l2 hS, sr_l3 hS, sr_l4 hS, sr_l5 hS, sr_l6 hS, sr_l8 hS, sr_l9 hS, sr_l10 hS, sr_l11 hS, sr_l12 hS, sr_l13 hS, sr_l14 hS, sr_l15 hS, sr_l16 hS, sr_l18 hS, sr_l19 hS]; omega))) only [lp_X6_turnBelt_21_b, ↓eM, eL_0, eL_1, eL_2, eL_3, eL_4, eL_5, eL_6, eL_7, eL_8, eL_9, eL_10, eL_11, eL_12, eL_15, eL_16, eL_20, eL_24, eL_30, eL_31, eL_32, eL_39, eL_40, eL_41, eL_42, eL_43, eL_45, eL_47, eL_48, eL_49, eL_50, eL_57, eL_59, eL_60, eL_61, eL_90, eL_96, eL_97, eL_100, eL_122, eL_160, eL_161, eL_255, eL_300, eL_343, eL_999, eL_1000, eL_1920, eL_9999, eL_10000, eL_999999, eL_100000, eL_1000000, sr_r0 hS, sr_r1 hS, sr_r2 hS, sr_r3 hS, sr_r4 hS, sr_r5 hS, sr_r6 hS, sr_p0 hS, sr_p1 hS, sr_p2 hS, sr_p3 hS, sr_p4 hS, sr_s0 hS, sr_s1 hS, sr_s2 hS, sr_s3 hS, sr_s4 hS, sr_s5 hS, sr_s6 hS, sr_l0 hS, sr_l1 hS, hv, q1, ↓reduceIte, ↓bl_e, bd_e, u1_f, u1_s, u2_f, u2_s, w_cl, w_ltT, w_ltF, w_leT, w_leF, w_eqT, w_eqF, w_mlt, w_ltm, w_mle, w_lem, w_eqm, w_meq, w_mltm, nI_add, w_sub, w_addm, up_s, up_n, ud_s, ud_n, ck_n, bz_0, bz_1]
  · rintro _ ⟨x1, rfl, g1, g2, g3, g4, g5⟩ back
    simp (disch := (first | omega | (simp only [sr_l2 hS, sr_l3 hS, sr_l4 hS, sr_l5 hS, sr_l6 hS, sr_l8 hS, sr_l9 hS, sr_l10 hS, sr_l11 hS, sr_l12 hS, sr_l13 hS, sr_l14 hS, sr_l15 hS, sr_l16 hS, sr_l18 hS, sr_l19 hS]; omega))) only [lp_X6_turnBelt_21_b, ↓eM, eL_0, eL_1, eL_2, eL_3, eL_4, eL_5, eL_6, eL_7, eL_8, eL_9, eL_10, eL_11, eL_12, eL_15, eL_16, eL_20, eL_24, eL_30, eL_31, eL_32, eL_39, eL_40, eL_41, eL_42, eL_43, eL_45, eL_47, eL_48, eL_49, eL_50, eL_57, eL_59, eL_60, eL_61, eL_90, eL_96, eL_97, eL_100, eL_122, eL_160, eL_161, eL_255, eL_300, eL_343, eL_999, eL_1000, eL_1920, eL_9999, eL_10000, eL_999999, eL_100000, eL_1000000, sr_r0 hS, sr_r1 hS, sr_r2 hS, sr_r3 hS, sr_r4 hS, sr_r5 hS, sr_r6 hS, sr_p0 hS, sr_p1 hS, sr_p2 hS, sr_p3 hS, sr_p4 hS, sr_s0 hS, sr_s1 hS, sr_s2 hS, sr_s3 hS, sr_s4 hS, sr_s5 hS, sr_s6 hS, sr_l0 hS, sr_l1 hS, ↓reduceIte, ↓bl_e, bd_e, u1_f, u1_s, u2_f, u2_s, w_cl, w_ltT, w_ltF, w_leT, w_leF, w_eqT, w_eqF, w_mlt, w_ltm, w_mle, w_lem, w_eqm, w_meq, w_mltm, nI_add, w_sub, w_addm, up_s, up_n, ud_s, ud_n, ck_n, bz_0, bz_1, Nat.sub_self]
  · rintro _ ⟨x1, rfl, g1, g2, g3, g4, g5⟩
    obtain ⟨x2, q1, q2, q3, q4⟩ := z_grow (N := N) hS (x := U1 x1 (r + 16) 0 (x.1 (r + 16) (n - 1))) (v := x.1 (r + 16) (n - 1)) (M := M) (by rw [u1_f, up_n (by omega), g2 _ (by omega) (by omega)]; exact hM) hM3 (hb _ (by omega))
    refine ⟨x2, ?_, q2.trans g1, fun b h1 h2 => ?_, ?_, fun j h1 => ?_, fun p hp => ?_⟩
    · simp (disch := (first | omega | (simp only [sr_l2 hS, sr_l3 hS, sr_l4 hS, sr_l5 hS, sr_l6 hS, sr_l8 hS, sr_l9 hS, sr_l10 hS, sr_l11 hS, sr_l12 hS, sr_l13 hS, sr_l14 hS, sr_l15 hS, sr_l16 hS, sr_l18 hS, sr_l19 hS]; omega))) only [q1, ↓reduceIte, ↓bl_e, bd_e, u1_f, u1_s, u2_f, u2_s, w_cl, w_ltT, w_ltF, w_leT, w_leF, w_eqT, w_eqF, w_mlt, w_ltm, w_mle, w_lem, w_eqm, w_meq, w_mltm, nI_add, w_sub, w_addm, up_s, up_n, ud_s, ud_n, ck_n, bz_0, bz_1]
    · rw [q3 b h2, u1_f, up_n h1]; exact g2 b h1 h2
    · rw [q3 _ (by omega), u1_f, up_s, ud_s]
    · rw [q3 _ (by omega), u1_f, up_s, ud_n (by omega)]; exact g3 (j + 1) h1 (by omega)
    · rw [q4 p hp, u1_f, up_n (by omega)]
      have := g5 p hp
      rw [Nat.sub_self] at this
      rw [show x1.1 (r + 4) p = x1.1 (r + 4) p + nI (zC (x.1 (r + 16)) p 0) from (w_add0 _).symm, this]
      obtain ⟨k, rfl⟩ : ∃ k, n = k + 1 := ⟨n - 1, by omega⟩
      show _ = x.1 (r + 4) p + nI (zC (x.1 (r + 16)) p k + _)
      rw [Nat.add_sub_cancel]
      split
      · rw [w_addA]
      · rw [w_addA]
