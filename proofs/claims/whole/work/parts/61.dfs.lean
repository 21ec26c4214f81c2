/-! LAYER 3: looking ahead: the class's search -/
def dg (k r i : Nat) : Nat := r / 7 ^ (k - 1 - i) % 7
def zFo (U : Nat → Int) (off : Nat) (b : Int × Nat) : Nat → Int × Nat
  | 0 => b
  | q + 1 => if (zFo U off b q).1 < U (off + q) then (U (off + q), off + q) else zFo U off b q
theorem zFo_add {U : Nat → Int} {off p : Nat} {b : Int × Nat} : ∀ q, zFo U off b (p + q) = zFo U (off + p) (zFo U off b p) q
  | 0 => rfl
  | q + 1 => by
    have ih := zFo_add (U := U) (off := off) (p := p) (b := b) q
    show (if (zFo U off b (p + q)).1 < U (off + (p + q)) then (U (off + (p + q)), off + (p + q)) else zFo U off b (p + q)) = (if (zFo U (off + p) (zFo U off b p) q).1 < U (off + p + q) then (U (off + p + q), off + p + q) else zFo U (off + p) (zFo U off b p) q)
    rw [ih, ← Nat.add_assoc]
theorem zFo_ge {U : Nat → Int} {off : Nat} {b : Int × Nat} : ∀ q, b.1 ≤ (zFo U off b q).1 ∧ ∀ i, i < q → U (off + i) ≤ (zFo U off b q).1
  | 0 => ⟨Int.le_refl _, fun i hi => absurd hi (Nat.not_lt_zero i)⟩
  | q + 1 => by
    obtain ⟨h1, h2⟩ := zFo_ge (U := U) (off := off) (b := b) q
    by_cases h : (zFo U off b q).1 < U (off + q)
    · have e : zFo U off b (q + 1) = (U (off + q), off + q) := if_pos h
      rw [e]
      refine ⟨by show b.1 ≤ U (off + q); omega, fun i hi => ?_⟩
      show U (off + i) ≤ U (off + q)
      by_cases e2 : i = q
      · subst e2; exact Int.le_refl _
      · have := h2 i (by omega); omega
    · have e : zFo U off b (q + 1) = zFo U off b q := if_neg h
      rw [e]
      refine ⟨h1, fun i hi => ?_⟩
      by_cases e2 : i = q
      · subst e2; omega
      · exact h2 i (by omega)
theorem zFo_stay {U : Nat → Int} {off : Nat} {b : Int × Nat} : ∀ q, (∀ i, i < q → U (off + i) ≤ b.1) → zFo U off b q = b
  | 0, _ => rfl
  | q + 1, h => by
    have ih := zFo_stay (U := U) (off := off) (b := b) q (fun i hi => h i (by omega))
    have := h q (by omega)
    show (if (zFo U off b q).1 < U (off + q) then _ else zFo U off b q) = b
    rw [ih, if_neg (by omega)]
theorem zFo_congr {U U' : Nat → Int} {off : Nat} {b : Int × Nat} : ∀ q, (∀ i, i < q → U (off + i) = U' (off + i)) → zFo U off b q = zFo U' off b q
  | 0, _ => rfl
  | q + 1, h => by
    have ih := zFo_congr (U := U) (U' := U') (off := off) (b := b) q (fun i hi => h i (by omega))
    show (if (zFo U off b q).1 < U (off + q) then (U (off + q), off + q) else zFo U off b q) = (if (zFo U' off b q).1 < U' (off + q) then (U' (off + q), off + q) else zFo U' off b q)
    rw [ih, h q (by omega)]
def zBest (k : Nat) (x : DY) (b : Int × Nat) : Prop := (x.2 87 3).toInt = b.1 ∧ (-4611686018427387904 < b.1 → ∀ i, i < k → x.1 90 i = nI (dg k b.2 i))
def zFc (L c : Nat) (x x' : DY) : Prop := (∀ b, (b < 89 ∨ (91 ≤ b ∧ b < 91 + 20 * L) ∨ 151 ≤ b) → b ≠ sX c → x'.1 b = x.1 b) ∧ (∀ i, i < L → x'.1 89 i = x.1 89 i) ∧ (∀ b, b ≠ 87 → (b < 91 + 20 * L ∨ 151 ≤ b) → x'.2 b = x.2 b)
theorem zFc.rf {L c : Nat} {x : DY} : zFc L c x x := ⟨fun _ _ _ => rfl, fun _ _ => rfl, fun _ _ _ => rfl⟩
theorem zFc.trans {L c : Nat} {x x1 x2 : DY} (h : zFc L c x x1) (k : zFc L c x1 x2) : zFc L c x x2 := ⟨fun b h1 h2 => (k.1 b h1 h2).trans (h.1 b h1 h2), fun i hi => (k.2.1 i hi).trans (h.2.1 i hi), fun b h1 h2 => (k.2.2 b h1 h2).trans (h.2.2 b h1 h2)⟩
theorem zFc.mono {L L' c : Nat} {x x' : DY} (h : zFc L' c x x') (hL : L ≤ L') : zFc L c x x' := ⟨fun b h1 h2 => h.1 b (by omega) h2, fun i hi => h.2.1 i (by omega), fun b h1 h2 => h.2.2 b h1 (by omega)⟩
theorem zFx.fc {L c r : Nat} {x x' : DY} (h : zFx r (sX c) x x') (hr : r = 91 + 20 * L) (hL : L < 3) : zFc L c x x' := ⟨fun b h1 h2 => h.1 b (by omega) h2, fun i _ => by
  have hs := sX_ok c
  rw [h.1 89 (by omega) (by omega)], fun b h1 h2 => h.2 b (by omega)⟩
theorem zRR.kx {r n M K W : Nat} {x y x' : DY} (h : zRR r n x y M K W) (hx : ∀ q, r ≤ q → q < r + 20 → x'.1 q = x.1 q) : zRR r n x' y M K W := by
  unfold zRR zR zSc at h ⊢
  rw [hx r (by omega) (by omega), hx (r + 1) (by omega) (by omega), hx (r + 2) (by omega) (by omega), hx (r + 3) (by omega) (by omega), hx (r + 4) (by omega) (by omega), hx (r + 5) (by omega) (by omega), hx (r + 6) (by omega) (by omega), hx (r + 7) (by omega) (by omega), hx (r + 8) (by omega) (by omega), hx (r + 9) (by omega) (by omega), hx (r + 10) (by omega) (by omega), hx (r + 11) (by omega) (by omega), hx (r + 12) (by omega) (by omega), hx (r + 13) (by omega) (by omega), hx (r + 14) (by omega) (by omega), hx (r + 16) (by omega) (by omega), hx (r + 17) (by omega) (by omega), hx (r + 18) (by omega) (by omega), hx (r + 19) (by omega) (by omega)]
  exact h
theorem zTx.kx {S : SH} {T c c' : Nat} {x y x' : DY} (h : zTx S x y T c) (hx : ∀ q, (q < 5 ∨ q = 45 ∨ 152 ≤ q) → q ≠ sX c' → x'.1 q = x.1 q) : zTx S x' y T c := by
  obtain ⟨a1, a2, a3, a4, a5, a6, a7, a8, a9⟩ := h
  have hs := sX_ok c'
  refine ⟨a1, a2, a3, by rw [hx 45 (by omega) (by omega)]; exact a4, a5, by rw [hx 45 (by omega) (by omega)]; exact a6, a7, a8, fun j hj => ?_⟩
  obtain ⟨k1, k2, k3, k4, P, G, k5, k6, k7, k8⟩ := a9 j hj
  have hk := kX_ok j
  have hg := gX_ok j
  exact ⟨k1, k2, k3, k4, P, G, k5, k6, k7.keep (hx _ (by omega) (by omega)) rfl rfl, k8.keep (hx _ (by omega) (by omega)) rfl rfl⟩
theorem zEv.kc {S Sm : SH} {r n w T c L : Nat} {x y x' : DY} (h : zEv S Sm r n x y w T c) (hc : zFc L c x x') : zEv S Sm r n x' y w T c := by
  obtain ⟨h1, h2, h3, h4, h5, h6, h7, h8⟩ := h
  have hs := sX_ok c
  exact ⟨h1, h2, h3, h4, h5, h6.k (fun q a b => hc.1 q (by omega) (by omega)) (fun _ _ _ => rfl) rfl, h7.k (fun q a => hc.1 q (by omega) (by omega)), h8.kx (c' := c) (fun q a b => hc.1 q (by omega) b)⟩
theorem zEv.at {S Sm : SH} {r r' n w T c : Nat} {x y : DY} (h : zEv S Sm r n x y w T c) (hS : SR S r' n) (h1 : 67 ≤ r') (h2 : r' ≤ 131) : zEv S Sm r' n x y w T c := ⟨hS, h.2.1, h.2.2.1, h1, h2, h.2.2.2.2.2⟩
def zRV (N : Nat) (Sm : SH) (t w M0 m s : Nat) (y : DY) (v : Int) : Prop := ∃ y', zRun N Sm t m s y = some y' ∧ zGn w (m + t) y y' v ∧ zFr M0 y y'
def zPc (N : Nat) (S : SH) (rc : Nat → Nat → Int32 → Int32 → Int32 → DY → Option DY) (r0 r' L k t m : Nat) (p7 p8 : Int32) (back : DY → Option DY) (xc : DY) : Option DY :=
  if m = 0 then lp_X1_tryChoices_131 N S (fun y25 => Option.bind (f_X1_keepBest N S 87 (y25.2 r' 10) y25) back) 87 r0 (nI L) (nI k) (nI t) r' p7 p8 (nI 0) xc else Option.bind (rc 87 r' (nI (L + 1)) (nI k) (nI t) xc) back
def zCh (N : Nat) (S Sm : SH) (n K w T c M0 k t m : Nat) (rc : Nat → Nat → Int32 → Int32 → Int32 → DY → Option DY) : Prop :=
  ∀ (L r : Nat) (xc yc : DY) (M W off : Nat) (b : Int × Nat) (p7 p8 : Int32) (r0 : Nat), L + 1 + m = k → r = 91 + 20 * L → zEv S Sm r n xc yc w T c → zRR r n xc yc M K W → M0 ≤ M → -20000 * ((L : Int) + 1) ≤ (xc.2 r 10).toInt → (xc.2 r 10).toInt ≤ 20000 * ((L : Int) + 1) → off % 7 ^ m = 0 → (∀ row i, off ≤ row → row < off + 7 ^ m → i < L + 1 → xc.1 89 i = nI (dg k row i)) → zBest k xc b →
  ∃ (V : Nat → Int) (x' : DY), (∀ back, zPc N S rc r0 r L k t m p7 p8 back xc = back x') ∧ (∀ y, zEv S Sm r n xc y w T c → zRR r n xc y M K W → ∀ s, s < 7 ^ m → zRV N Sm t w M0 m s y (V s)) ∧ zBest k x' (zFo (fun row => (xc.2 r 10).toInt + V (row - off)) off b (7 ^ m)) ∧ zFc L c xc x'
def zDs (N : Nat) (S Sm : SH) (n K w T c M0 k t m : Nat) (rc : Nat → Nat → Int32 → Int32 → Int32 → DY → Option DY) : Prop :=
  ∀ (L r : Nat) (x y0 : DY) (M W off : Nat) (b : Int × Nat), L + m = k → ((r = 67 ∧ L = 0) ∨ (r = 71 + 20 * L ∧ 1 ≤ L)) → zEv S Sm r n x y0 w T c → zRR r n x y0 M K W → M0 ≤ M → -20000 * (L : Int) ≤ (x.2 r 10).toInt → (x.2 r 10).toInt ≤ 20000 * (L : Int) → off % 7 ^ m = 0 → (∀ row i, off ≤ row → row < off + 7 ^ m → i < L → x.1 89 i = nI (dg k row i)) → zBest k x b →
  ∃ (V : Nat → Int) (x' : DY), rc 87 r (nI L) (nI k) (nI t) x = some x' ∧ (∀ y, zEv S Sm r n x y w T c → zRR r n x y M K W → ∀ s, s < 7 ^ m → zRV N Sm t w M0 m s y (V s)) ∧ zBest k x' (zFo (fun row => (x.2 r 10).toInt + V (row - off)) off b (7 ^ m)) ∧ zFc L c x x'
section DFS
variable {N : Nat} {S Sm : SH} {n K w T c M0 k t : Nat}
theorem ch_of_d {m : Nat} {rc : Nat → Nat → Int32 → Int32 → Int32 → DY → Option DY} (h : zDs N S Sm n K w T c M0 k t (m + 1) rc) : zCh N S Sm n K w T c M0 k t (m + 1) rc := by
  intro L r xc yc M W off b p7 p8 r0 hL hr hv hR hM0 b1 b2 ho hd hb
  obtain ⟨V, x', e1, e2, e3, e4⟩ := h (L + 1) r xc yc M W off b (by omega) (Or.inr ⟨by omega, by omega⟩) hv hR hM0 (by omega) (by omega) ho hd hb
  refine ⟨V, x', fun back => ?_, e2, e3, e4.mono (by omega)⟩
  unfold zPc
  rw [if_neg (by omega), e1]; rfl
set_option maxHeartbeats 800000 in
theorem ch_leaf (hN : 600 ≤ N) (hk : k ≤ 3) (ht : t ≤ 24) (rc : Nat → Nat → Int32 → Int32 → Int32 → DY → Option DY) : zCh N S Sm n K w T c M0 k t 0 rc := by
  intro L r xc yc M W off b p7 p8 r0 hL hr hv hR hM0 b1 b2 ho hd hb
  have hX := hv.2.2.1
  have hs := sX_ok c
  obtain ⟨x1, y1, e1, e2, g1, fx, fr⟩ := t_tail (N := N) (M0 := M0) hN t xc yc M W hv hR (by omega) (by omega) ht
  have k89 : x1.1 89 = xc.1 89 := fx.1 89 (by omega) (by omega)
  have k87 : x1.2 87 = xc.2 87 := fx.2 87 (by omega)
  have k90 : x1.1 90 = xc.1 90 := fx.1 90 (by omega) (by omega)
  have hVa : ∀ y, zEv S Sm r n xc y w T c → zRR r n xc y M K W → ∀ s, s < 7 ^ 0 → zRV N Sm t w M0 0 s y ((x1.2 r 10).toInt - (xc.2 r 10).toInt) := fun y hv2 hR2 s _ => by
    obtain ⟨x2, y2, d1, d2, d3, d4, d5⟩ := t_tail (N := N) (M0 := M0) hN t xc y M W hv2 hR2 (by omega) (by omega) ht
    rw [e1] at d1
    obtain rfl := Option.some.inj d1
    exact ⟨y2, d2, by rw [Nat.zero_add]; exact d3, d5⟩
  have hpc : ∀ (x' : DY), f_X1_keepBest N S 87 (x1.2 r 10) x1 = some x' → ∀ back, zPc N S rc r0 r L k t 0 p7 p8 back xc = back x' := fun x' hkb back => by
    unfold zPc
    rw [if_pos rfl, t_loop (N := N) hN ht e1, hkb]; rfl
  have hU : zFo (fun row => (xc.2 r 10).toInt + (fun _ : Nat => (x1.2 r 10).toInt - (xc.2 r 10).toInt) (row - off)) off b (7 ^ 0) = if b.1 < (x1.2 r 10).toInt then ((x1.2 r 10).toInt, off) else b := by
    show (if b.1 < (xc.2 r 10).toInt + ((x1.2 r 10).toInt - (xc.2 r 10).toInt) then ((xc.2 r 10).toInt + ((x1.2 r 10).toInt - (xc.2 r 10).toInt), off + 0) else b) = _
    rw [show (xc.2 r 10).toInt + ((x1.2 r 10).toInt - (xc.2 r 10).toInt) = (x1.2 r 10).toInt by omega]
    rfl
  by_cases hlt : b.1 < (x1.2 r 10).toInt
  · have hcmp : (lg_cmp (x1.2 r 10) (xc.2 87 3) ≤ nI 0) = False := eq_false (fun e => by
      have e' := (lg_cmp_le _ _).mp e
      rw [Int64.le_iff_toInt_le, hb.1] at e'
      omega)
    refine ⟨fun _ => (x1.2 r 10).toInt - (xc.2 r 10).toInt, cpX S 89 (nI 0) 90 (nI 0) (nI 3) (U2 x1 87 3 (x1.2 r 10)), hpc _ ?_, hVa, ?_, (fx.fc hr (by omega)).trans ⟨fun b h1 h2 => ?_, fun i hi => ?_, fun b h1 h2 => ?_⟩⟩
    · simp (disch := (first | omega | (simp only [sx_l42 hX, sx_l43 hX, sx_l44 hX, sx_l46 hX, sx_l50 hX, sx_l51 hX, sx_l52 hX, sx_l53 hX, sx_l54 hX, sx_l56 hX, sx_l57 hX, sx_l58 hX, sx_l60 hX, sx_l61 hX, sx_l62 hX, sx_l63 hX, sx_l64 hX, sx_l65 hX, sx_l66 hX, sx_l88 hX, sx_l89 hX, sx_l90 hX, sx_l0 hX, sx_l1 hX, sx_l2 hX, sx_l5 hX, sx_l6 hX, sx_l7 hX, sx_l8 hX, sx_l9 hX, sx_l10 hX, sx_l11 hX, sx_l12 hX, sx_l13 hX, sx_l14 hX, sx_l15 hX]; omega))) only [f_X1_keepBest, sx_m0 hX, sx_m1 hX, sx_m2 hX, sx_c0 hX, sx_c1 hX, sx_c2 hX, sx_c3 hX, sx_c4 hX, sx_c5 hX, sx_c6 hX, sx_u0 hX, sx_t0 hX, sx_t2 hX, sx_t3 hX, sx_t4 hX, sx_t7 hX, sx_f0 hX, sx_f1 hX, sx_f2 hX, sx_h0 hX, sx_h1 hX, sx_h2 hX, sx_g0 hX, sx_g1 hX, sx_g2 hX, k87, hcmp, cpk_n, ↓eM, eL_0, eL_1, eL_2, eL_3, eL_4, eL_5, eL_6, eL_7, eL_8, eL_9, eL_10, eL_11, eL_12, eL_15, eL_16, eL_20, eL_24, eL_30, eL_31, eL_32, eL_39, eL_40, eL_41, eL_42, eL_43, eL_45, eL_47, eL_48, eL_49, eL_50, eL_57, eL_59, eL_60, eL_61, eL_90, eL_96, eL_97, eL_100, eL_122, eL_160, eL_161, eL_255, eL_300, eL_343, eL_999, eL_1000, eL_1920, eL_9999, eL_10000, eL_999999, eL_100000, eL_1000000, ↓reduceIte, ↓bl_e, bd_e, u1_f, u1_s, u2_f, u2_s, w_cl, w_ltT, w_ltF, w_leT, w_leF, w_eqT, w_eqF, w_mlt, w_ltm, w_mle, w_lem, w_eqm, w_meq, w_mltm, nI_add, w_sub, w_addm, up_s, up_n, ud_s, ud_n, ck_n, bz_0, bz_1]
    · rw [hU, if_pos hlt]
      refine ⟨?_, fun _ i hi => ?_⟩
      · show ((U2 x1 87 3 (x1.2 r 10)).2 87 3).toInt = _
        simp (disch := omega) only [u1_f, u1_s, u2_f, u2_s, up_s, up_n, ud_s, ud_n]
      · rw [cpX_s, w_cl (by omega), w_cl (by omega), c_cpy (by omega)]
        simp (disch := omega) only [u1_f, u1_s, u2_f, u2_s, up_s, up_n, ud_s, ud_n]
        rw [k89]
        exact hd off i (Nat.le_refl _) (by rw [Nat.pow_zero]; omega) (by omega)
    · rw [cpX_n (by omega)]
    · rw [cpX_n (by omega)]
    · show (U2 x1 87 3 (x1.2 r 10)).2 b = _
      simp (disch := omega) only [u1_f, u1_s, u2_f, u2_s, up_s, up_n, ud_s, ud_n]
  · have hcmp : (lg_cmp (x1.2 r 10) (xc.2 87 3) ≤ nI 0) = True := eq_true ((lg_cmp_le _ _).mpr (by
      rw [Int64.le_iff_toInt_le, hb.1]
      omega))
    refine ⟨fun _ => (x1.2 r 10).toInt - (xc.2 r 10).toInt, x1, hpc _ ?_, hVa, ?_, fx.fc hr (by omega)⟩
    · simp (disch := (first | omega | (simp only [sx_l42 hX, sx_l43 hX, sx_l44 hX, sx_l46 hX, sx_l50 hX, sx_l51 hX, sx_l52 hX, sx_l53 hX, sx_l54 hX, sx_l56 hX, sx_l57 hX, sx_l58 hX, sx_l60 hX, sx_l61 hX, sx_l62 hX, sx_l63 hX, sx_l64 hX, sx_l65 hX, sx_l66 hX, sx_l88 hX, sx_l89 hX, sx_l90 hX, sx_l0 hX, sx_l1 hX, sx_l2 hX, sx_l5 hX, sx_l6 hX, sx_l7 hX, sx_l8 hX, sx_l9 hX, sx_l10 hX, sx_l11 hX, sx_l12 hX, sx_l13 hX, sx_l14 hX, sx_l15 hX]; omega))) only [f_X1_keepBest, sx_m0 hX, sx_m1 hX, sx_m2 hX, sx_c0 hX, sx_c1 hX, sx_c2 hX, sx_c3 hX, sx_c4 hX, sx_c5 hX, sx_c6 hX, sx_u0 hX, sx_t0 hX, sx_t2 hX, sx_t3 hX, sx_t4 hX, sx_t7 hX, sx_f0 hX, sx_f1 hX, sx_f2 hX, sx_h0 hX, sx_h1 hX, sx_h2 hX, sx_g0 hX, sx_g1 hX, sx_g2 hX, k87, hcmp, cpk_n, ↓eM, eL_0, eL_1, eL_2, eL_3, eL_4, eL_5, eL_6, eL_7, eL_8, eL_9, eL_10, eL_11, eL_12, eL_15, eL_16, eL_20, eL_24, eL_30, eL_31, eL_32, eL_39, eL_40, eL_41, eL_42, eL_43, eL_45, eL_47, eL_48, eL_49, eL_50, eL_57, eL_59, eL_60, eL_61, eL_90, eL_96, eL_97, eL_100, eL_122, eL_160, eL_161, eL_255, eL_300, eL_343, eL_999, eL_1000, eL_1920, eL_9999, eL_10000, eL_999999, eL_100000, eL_1000000, ↓reduceIte, ↓bl_e, bd_e, u1_f, u1_s, u2_f, u2_s, w_cl, w_ltT, w_ltF, w_leT, w_leF, w_eqT, w_eqF, w_mlt, w_ltm, w_mle, w_lem, w_eqm, w_meq, w_mltm, nI_add, w_sub, w_addm, up_s, up_n, ud_s, ud_n, ck_n, bz_0, bz_1]
    · rw [hU, if_neg hlt]
      refine ⟨by rw [k87]; exact hb.1, fun q i hi => by rw [k90]; exact hb.2 q i hi⟩
theorem ld_alike {r M W : Nat} {x y : DY} (hv : zEv S Sm r n x y w T c) (h : zRR r n x y M K W) (ha : y.1 49 0 ≠ mO ∨ M = 300) (ch : Nat) : zLd N Sm ch y = some y := by
  unfold zLd
  by_cases h6 : ch < 6
  · rw [if_pos h6]
    obtain ⟨v, x1, y1, M', e1, e2, h1, lg1, fx1, fr1, -, al⟩ := z_lay (N := N) hv h (nI ch)
    rw [e2]
    obtain ⟨-, rfl⟩ := al ha
    rfl
  · rw [if_neg h6]
theorem dg_mid {m off i s row : Nat} (ho : off % 7 ^ (m + 1) = 0) (hi : i ≤ 6) (hs : s < 7 ^ m) (hr : row = off + i * 7 ^ m + s) : row / 7 ^ m % 7 = i := by
  have h7 : 7 ^ (m + 1) = 7 ^ m * 7 := Nat.pow_succ 7 m
  have hp : 0 < 7 ^ m := Nat.pow_pos (by omega)
  obtain ⟨q, hq⟩ : ∃ q, off = 7 ^ m * 7 * q := by
    rw [h7] at ho
    exact ⟨off / (7 ^ m * 7), (Nat.mul_div_cancel' (Nat.dvd_of_mod_eq_zero ho)).symm⟩
  have e : row = (7 * q + i) * 7 ^ m + s := by
    rw [hr, hq, Nat.add_mul]
    congr 2
    rw [Nat.mul_assoc, Nat.mul_comm (7 ^ m)]
  rw [e, Nat.add_comm, Nat.add_mul_div_right _ _ hp, Nat.div_eq_of_lt hs]
  omega
end DFS
