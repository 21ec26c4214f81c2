/-! LAYER 3: looking ahead: the runs -/
theorem g_int {a b : Int64} {p q : Nat} (h : a + lN p = b + lN q) (hb : -1000000000 ≤ b.toInt ∧ b.toInt ≤ 1000000000) (hp : p ≤ 1000000000) (hq : q ≤ 1000000000) : a.toInt = b.toInt + q - p := by
  have h1 := congrArg Int64.toInt h
  rw [Int64.toInt_add, Int64.toInt_add, lN_toInt (by omega), lN_toInt (by omega), Int.bmod_def, Int.bmod_def] at h1
  have e : ((2 ^ 64 : Nat) : Int) = 18446744073709551616 := by decide
  rw [e] at h1
  have l1 := a.le_toInt
  have l2 := a.toInt_lt
  have e2 : (-2 : Int) ^ 63 = -9223372036854775808 := by decide
  have e3 : (2 : Int) ^ 63 = 9223372036854775808 := by decide
  have e4 : -(2 : Int) ^ 63 = -9223372036854775808 := by decide
  simp only [e2, e3, e4] at l1 l2
  split at h1 <;> split at h1 <;> omega
/-- what a play leaves as it was -/
def zFr (M0 : Nat) (y y' : DY) : Prop := zFw y y' ∧ (∀ b, (b = 52 ∨ b = 53 ∨ b = 54 ∨ b = 59) → y'.1 b = y.1 b) ∧ (∀ b p, (b = 44 ∨ b = 45) → p < M0 → y'.1 b p = y.1 b p) ∧ y'.1 40 18 = y.1 40 18
theorem zFr.rf {M0 : Nat} {y : DY} : zFr M0 y y := ⟨zFw.rf, fun _ _ => rfl, fun _ _ _ _ => rfl, rfl⟩
theorem zFr.trans {M0 : Nat} {y y1 y2 : DY} (h : zFr M0 y y1) (k : zFr M0 y1 y2) : zFr M0 y y2 := ⟨h.1.trans k.1, fun b hb => (k.2.1 b hb).trans (h.2.1 b hb), fun b p hb hp => (k.2.2.1 b p hb hp).trans (h.2.2.1 b p hb hp), k.2.2.2.trans h.2.2.2⟩
theorem zFy.fr {M0 : Nat} {y y' : DY} (h : zFy y y') (h18 : y'.1 40 18 = y.1 40 18) : zFr M0 y y' := ⟨h.w, fun b hb => h.1 b (by omega), fun b p hb _ => by rw [h.1 b (by omega)], h18⟩
def zTk (N : Nat) (Sm : SH) : Nat → DY → Option DY
  | 0, y => some y
  | t + 1, y => Option.bind (f_X12_goTick N Sm 40 y) (zTk N Sm t)
def zTx' (N : Nat) (S : SH) (r : Nat) : Nat → DY → Option DY
  | 0, x => some x
  | t + 1, x => Option.bind (f_X6_isBusy N S r x) (fun b => if b = nI 0 then some x else Option.bind (f_X6_goByOnce N S r x) (zTx' N S r t))
def zLd (N : Nat) (Sm : SH) (c : Nat) (y : DY) : Option DY := if c < 6 then Option.bind (f_X12_lay N Sm 40 (nI c) y) (fun r => some r.2) else some y
def zRun (N : Nat) (Sm : SH) (t : Nat) : Nat → Nat → DY → Option DY
  | 0, _, y => zTk N Sm t y
  | m + 1, s, y => Option.bind (zLd N Sm (s / 7 ^ m % 7) y) (fun y1 => Option.bind (f_X12_goTick N Sm 40 y1) (fun y2 => zRun N Sm t m (s % 7 ^ m) y2))
/-- the ledger of a play -/
def zGn (w B : Nat) (y y' : DY) (v : Int) : Prop := ∃ g h, g ≤ 8000 * B ∧ h ≤ 13 * B ∧ y'.1 40 46 = y.1 40 46 + nI g ∧ y'.1 40 47 = y.1 40 47 + nI h ∧ v = (g : Int) - ((w * h : Nat) : Int)
theorem zGn.trans {w B C : Nat} {y y1 y2 : DY} {u v : Int} (h : zGn w B y y1 u) (k : zGn w C y1 y2 v) : zGn w (B + C) y y2 (u + v) := by
  obtain ⟨g1, h1, a1, a2, a3, a4, a5⟩ := h
  obtain ⟨g2, h2, b1, b2, b3, b4, b5⟩ := k
  refine ⟨g1 + g2, h1 + h2, by omega, by omega, by rw [b3, a3, w_addA], by rw [b4, a4, w_addA], ?_⟩
  rw [a5, b5, Nat.mul_add]
  omega
theorem zGn.rf {w B : Nat} {y : DY} : zGn w B y y 0 := ⟨0, 0, Nat.zero_le _, Nat.zero_le _, (w_add0 _).symm, (w_add0 _).symm, by rw [Nat.mul_zero]; rfl⟩
theorem zLg.gn {r w : Nat} {x y x' y' : DY} {G T : Nat} (h : zLg r w x y x' y' G T) (hG : G ≤ 8000) (hT : T ≤ 13) (hw : w ≤ 999) (hb : -1000000000 ≤ (x.2 r 10).toInt ∧ (x.2 r 10).toInt ≤ 1000000000) : zGn w 1 y y' ((x'.2 r 10).toInt - (x.2 r 10).toInt) ∧ -13000 ≤ (x'.2 r 10).toInt - (x.2 r 10).toInt ∧ (x'.2 r 10).toInt - (x.2 r 10).toInt ≤ 13000 := by
  obtain ⟨e, g, t, a1, a2, a3, a4, a5, a6, a7⟩ := h
  have hwt : w * t ≤ 999 * 13 := Nat.mul_le_mul hw (by omega)
  have hi := g_int a7 hb (by omega) (by omega)
  refine ⟨⟨g, t, by omega, by omega, a5, a6, by omega⟩, by omega, by omega⟩
section RUN
variable {N : Nat} {S Sm : SH} {r n K w T c M0 : Nat}
theorem t_idle (hN : 600 ≤ N) : ∀ (t : Nat) (x y : DY) (M W : Nat), zEv S Sm r n x y w T c → zRR r n x y M K W → zIdle n y → ∃ y', zTk N Sm t y = some y' ∧ y'.1 40 46 = y.1 40 46 ∧ y'.1 40 47 = y.1 40 47 ∧ zFr M0 y y'
  | 0, x, y, M, W, _, _, _ => ⟨y, rfl, rfl, rfl, zFr.rf⟩
  | t + 1, x, y, M, W, hv, h, hi => by
    obtain ⟨x1, y1, W1, e1, h1, fx, fy, i1, s1, s2⟩ := z_idle (N := N) hN hv h hi
    obtain ⟨y2, e2, s3, s4, f2⟩ := t_idle hN t x1 y1 M W1 (hv.keep fx fy hv.2.2.2.1 hv.2.2.2.2.1) h1 i1
    refine ⟨y2, ?_, s3.trans s1, s4.trans s2, (fy.fr (h1.1.1.2.2.2.2.1.trans h.1.1.2.2.2.2.1.symm)).trans f2⟩
    show Option.bind (f_X12_goTick N Sm 40 y) (zTk N Sm t) = _
    rw [e1]; exact e2
theorem t_tail (hN : 600 ≤ N) : ∀ (t : Nat) (x y : DY) (M W : Nat), zEv S Sm r n x y w T c → zRR r n x y M K W → -1000000 - 13000 * (27 - (t : Int)) ≤ (x.2 r 10).toInt → (x.2 r 10).toInt ≤ 1000000 + 13000 * (27 - (t : Int)) → t ≤ 24 →
    ∃ x' y', zTx' N S r t x = some x' ∧ zTk N Sm t y = some y' ∧ zGn w t y y' ((x'.2 r 10).toInt - (x.2 r 10).toInt) ∧ zFx r (sX c) x x' ∧ zFr M0 y y'
  | 0, x, y, M, W, _, _, _, _, _ => ⟨x, y, rfl, rfl, by rw [Int.sub_self]; exact zGn.rf, zFx.rf, zFr.rf⟩
  | t + 1, x, y, M, W, hv, h, hb1, hb2, ht => by
    rcases z_busy (N := N) hN hv.1 h with ⟨hi, hbz⟩ | hbz
    · obtain ⟨y', e1, s1, s2, f1⟩ := t_idle (N := N) (M0 := M0) hN (t + 1) x y M W hv h hi
      refine ⟨x, y', ?_, e1, ⟨0, 0, by omega, by omega, by rw [s1, w_add0], by rw [s2, w_add0], by rw [Nat.mul_zero, Int.sub_self]; rfl⟩, zFx.rf, f1⟩
      show Option.bind (f_X6_isBusy N S r x) _ = _
      rw [hbz]; rfl
    · obtain ⟨x1, y1, e1, e2, ⟨W1, h1⟩, lg, fx, fy⟩ := z_tick (N := N) hN hv h
      have hw := hv.2.2.2.2.2.1.2.2.2.2
      obtain ⟨g1, g2, g3⟩ := lg.gn (by omega) (by omega) hw (by omega)
      obtain ⟨x2, y2, e3, e4, g4, fx2, fr2⟩ := t_tail hN t x1 y1 M W1 (hv.keep fx fy hv.2.2.2.1 hv.2.2.2.2.1) h1 (by omega) (by omega) (by omega)
      refine ⟨x2, y2, ?_, ?_, ?_, fx.trans fx2, (fy.fr (h1.1.1.2.2.2.2.1.trans h.1.1.2.2.2.2.1.symm)).trans fr2⟩
      · show Option.bind (f_X6_isBusy N S r x) _ = _
        rw [hbz]
        show (if nI 1 = nI 0 then some x else Option.bind (f_X6_goByOnce N S r x) (zTx' N S r t)) = _
        rw [if_neg (by decide), e1]; exact e3
      · show Option.bind (f_X12_goTick N Sm 40 y) (zTk N Sm t) = _
        rw [e2]; exact e4
      · have := g1.trans g4
        rw [show (x2.2 r 10).toInt - (x.2 r 10).toInt = (x1.2 r 10).toInt - (x.2 r 10).toInt + ((x2.2 r 10).toInt - (x1.2 r 10).toInt) by omega, show t + 1 = 1 + t by omega]
        exact this
/-- the class's loop of t ticks -/
theorem t_loop (hN : 600 ≤ N) {t : Nat} (ht : t ≤ 24) {x x' : DY} (h : zTx' N S r t x = some x') {k1 : DY → Option DY} {p0 p1 : Nat} {p2 p3 p7 p8 : Int32} : lp_X1_tryChoices_131 N S k1 p0 p1 p2 p3 (nI t) r p7 p8 (nI 0) x = k1 x' := by
  unfold lp_X1_tryChoices_131
  refine z_itr1 (fun i a => ∃ x1, a = (nI i, x1) ∧ zTx' N S r (t - i) x1 = some x') (fun o => o = k1 x') t ?_ ?_ t 0 _ N (by omega) (by omega) ⟨x, rfl, h⟩
  · rintro i _ hi ⟨x1, rfl, e⟩
    obtain ⟨j, hj⟩ : ∃ j, t - i = j + 1 := ⟨t - i - 1, by omega⟩
    rw [hj] at e
    have e' : Option.bind (f_X6_isBusy N S r x1) (fun b => if b = nI 0 then some x1 else Option.bind (f_X6_goByOnce N S r x1) (zTx' N S r j)) = some x' := e
    cases hbz : f_X6_isBusy N S r x1 with
    | none => rw [hbz] at e'; cases e'
    | some b =>
      rw [hbz, bd_e] at e'
      by_cases hb0 : b = nI 0
      · rw [if_pos hb0] at e'
        obtain rfl := Option.some.inj e'
        refine Or.inr ⟨_, rfl, fun back => ?_⟩
        simp (disch := omega) only [lp_X1_tryChoices_131_b, hbz, hb0, ↓eM, eL_0, eL_1, eL_2, eL_3, eL_4, eL_5, eL_6, eL_7, eL_8, eL_9, eL_10, eL_11, eL_12, eL_15, eL_16, eL_20, eL_24, eL_30, eL_31, eL_32, eL_39, eL_40, eL_41, eL_42, eL_43, eL_45, eL_47, eL_48, eL_49, eL_50, eL_57, eL_59, eL_60, eL_61, eL_90, eL_96, eL_97, eL_100, eL_122, eL_160, eL_161, eL_255, eL_300, eL_343, eL_999, eL_1000, eL_1920, eL_9999, eL_10000, eL_999999, eL_100000, eL_1000000, ↓reduceIte, ↓bl_e, bd_e, u1_f, u1_s, u2_f, u2_s, w_cl, w_ltT, w_ltF, w_leT, w_leF, w_eqT, w_eqF, w_mlt, w_ltm, w_mle, w_lem, w_eqm, w_meq, w_mltm, nI_add, w_sub, w_addm, up_s, up_n, ud_s, ud_n, ck_n, bz_0, bz_1]
      · rw [if_neg hb0] at e'
        cases hg : f_X6_goByOnce N S r x1 with
        | none => rw [hg] at e'; cases e'
        | some x2 =>
          rw [hg, bd_e] at e'
          refine Or.inl ⟨(nI (i + 1), x2), ⟨x2, rfl, by rw [show t - (i + 1) = j by omega]; exact e'⟩, fun back => ?_⟩
          simp (disch := omega) only [lp_X1_tryChoices_131_b, hbz, hb0, hg, ↓eM, eL_0, eL_1, eL_2, eL_3, eL_4, eL_5, eL_6, eL_7, eL_8, eL_9, eL_10, eL_11, eL_12, eL_15, eL_16, eL_20, eL_24, eL_30, eL_31, eL_32, eL_39, eL_40, eL_41, eL_42, eL_43, eL_45, eL_47, eL_48, eL_49, eL_50, eL_57, eL_59, eL_60, eL_61, eL_90, eL_96, eL_97, eL_100, eL_122, eL_160, eL_161, eL_255, eL_300, eL_343, eL_999, eL_1000, eL_1920, eL_9999, eL_10000, eL_999999, eL_100000, eL_1000000, ↓reduceIte, ↓bl_e, bd_e, u1_f, u1_s, u2_f, u2_s, w_cl, w_ltT, w_ltF, w_leT, w_leF, w_eqT, w_eqF, w_mlt, w_ltm, w_mle, w_lem, w_eqm, w_meq, w_mltm, nI_add, w_sub, w_addm, up_s, up_n, ud_s, ud_n, ck_n, bz_0, bz_1]
  · rintro _ ⟨x1, rfl, e⟩
    rw [Nat.sub_self] at e
    obtain rfl := Option.some.inj e
    refine ⟨_, rfl, fun back => ?_⟩
    simp (disch := omega) only [lp_X1_tryChoices_131_b, ↓eM, eL_0, eL_1, eL_2, eL_3, eL_4, eL_5, eL_6, eL_7, eL_8, eL_9, eL_10, eL_11, eL_12, eL_15, eL_16, eL_20, eL_24, eL_30, eL_31, eL_32, eL_39, eL_40, eL_41, eL_42, eL_43, eL_45, eL_47, eL_48, eL_49, eL_50, eL_57, eL_59, eL_60, eL_61, eL_90, eL_96, eL_97, eL_100, eL_122, eL_160, eL_161, eL_255, eL_300, eL_343, eL_999, eL_1000, eL_1920, eL_9999, eL_10000, eL_999999, eL_100000, eL_1000000, ↓reduceIte, ↓bl_e, bd_e, u1_f, u1_s, u2_f, u2_s, w_cl, w_ltT, w_ltF, w_leT, w_leF, w_eqT, w_eqF, w_mlt, w_ltm, w_mle, w_lem, w_eqm, w_meq, w_mltm, nI_add, w_sub, w_addm, up_s, up_n, ud_s, ud_n, ck_n, bz_0, bz_1]
set_option maxHeartbeats 800000 in
/-- one choice and the tick behind it -/
theorem t_step (hN : 600 ≤ N) {x y : DY} {M W ch : Nat} (hv : zEv S Sm r n x y w T c) (h : zRR r n x y M K W) (hM0 : M0 ≤ M) (hc : ch ≤ 6) (hb : -1000000 ≤ (x.2 r 10).toInt ∧ (x.2 r 10).toInt ≤ 1000000) :
    ∃ v x1 x2 y1 y2 M' W', f_X6_layAtHatch N S r (nI ch) x = some (v, x1) ∧ f_X6_goByOnce N S r x1 = some x2 ∧ zLd N Sm ch y = some y1 ∧ f_X12_goTick N Sm 40 y1 = some y2 ∧ zRR r n x2 y2 M' K W' ∧ M0 ≤ M' ∧ zGn w 1 y y2 ((x2.2 r 10).toInt - (x.2 r 10).toInt) ∧ (-13000 ≤ (x2.2 r 10).toInt - (x.2 r 10).toInt ∧ (x2.2 r 10).toInt - (x.2 r 10).toInt ≤ 13000) ∧ zFx r (sX c) x x2 ∧ zFr M0 y y2 ∧ ((y.1 49 0 ≠ mO ∨ M = 300) → y1 = y) := by
  have hw := hv.2.2.2.2.2.1.2.2.2.2
  have hr := hv.2.2.2.1
  have hr2 := hv.2.2.2.2.1
  obtain ⟨v, x1, y1, M', e1, e2, h1, lg1, fx1, ⟨f1, f2, f3, f4⟩, al⟩ : ∃ v x1 y1 M', f_X6_layAtHatch N S r (nI ch) x = some (v, x1) ∧ zLd N Sm ch y = some y1 ∧ zRR r n x1 y1 M' K W ∧ zLg r w x y x1 y1 0 0 ∧ zFx r (sX c) x x1 ∧ (zFw y y1 ∧ (∀ b, (b = 52 ∨ b = 53 ∨ b = 54 ∨ b = 59) → y1.1 b = y.1 b) ∧ (∀ b p, (b = 44 ∨ b = 45) → p < M → y1.1 b p = y.1 b p) ∧ M ≤ M') ∧ ((y.1 49 0 ≠ mO ∨ M = 300) → y1 = y) := by
    by_cases hc6 : ch < 6
    · obtain ⟨v, x1, y1, M', e1, e2, h1, lg1, fx1, fr1, -, al⟩ := z_lay (N := N) hv h (nI ch)
      exact ⟨v, x1, y1, M', e1, by unfold zLd; rw [if_pos hc6, e2]; rfl, h1, lg1, fx1, fr1, fun q => (al q).2⟩
    · obtain rfl : ch = 6 := by omega
      refine ⟨-nI 2, x, y, M, ?_, by unfold zLd; rw [if_neg hc6], h, zLg.rf, zFx.rf, ⟨zFw.rf, fun _ _ => rfl, fun _ _ _ _ => rfl, Nat.le_refl _⟩, fun _ => rfl⟩
      simp (disch := omega) only [f_X6_layAtHatch, f_X11_isDish, ↓eM, eL_0, eL_1, eL_2, eL_3, eL_4, eL_5, eL_6, eL_7, eL_8, eL_9, eL_10, eL_11, eL_12, eL_15, eL_16, eL_20, eL_24, eL_30, eL_31, eL_32, eL_39, eL_40, eL_41, eL_42, eL_43, eL_45, eL_47, eL_48, eL_49, eL_50, eL_57, eL_59, eL_60, eL_61, eL_90, eL_96, eL_97, eL_100, eL_122, eL_160, eL_161, eL_255, eL_300, eL_343, eL_999, eL_1000, eL_1920, eL_9999, eL_10000, eL_999999, eL_100000, eL_1000000, ↓reduceIte, ↓bl_e, bd_e, u1_f, u1_s, u2_f, u2_s, w_cl, w_ltT, w_ltF, w_leT, w_leF, w_eqT, w_eqF, w_mlt, w_ltm, w_mle, w_lem, w_eqm, w_meq, w_mltm, nI_add, w_sub, w_addm, up_s, up_n, ud_s, ud_n, ck_n, bz_0, bz_1]
  have hv1 := hv.keepw fx1 f1 hr hr2
  obtain ⟨x2, y2, e3, e4, ⟨W2, h2⟩, lg2, fx2, fy2⟩ := z_tick (N := N) hN hv1 h1
  obtain ⟨g1, g2, g3⟩ := ((lg1.trans lg2).wk (G' := 8000) (T' := 13) (by omega) (by omega)).gn (by omega) (by omega) hw (by omega)
  have k18 : y2.1 40 18 = y1.1 40 18 := h2.1.1.2.2.2.2.1.trans h1.1.1.2.2.2.2.1.symm
  have k18' : y1.1 40 18 = y.1 40 18 := h1.1.1.2.2.2.2.1.trans h.1.1.2.2.2.2.1.symm
  exact ⟨v, x1, x2, y1, y2, M', W2, e1, e3, e2, e4, h2, by omega, g1, ⟨g2, g3⟩, fx1.trans fx2, (show zFr M0 y y1 from ⟨f1, f2, fun b p hb hp => f3 b p hb (by omega), k18'⟩).trans (fy2.fr k18), al⟩
end RUN
