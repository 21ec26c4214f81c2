/-! LAYER 3: copies, what is kept and taken back -/
section COPY
variable {N : Nat} {S Sm : SH} {r q n M K W : Nat} {x y : DY}
theorem c_cpy {α : Type} {f g : Nat → α} {m i : Nat} (h : i < m) : va_cpy f g 0 0 m i = f i := by
  rw [pk_cpy_in (Nat.zero_le _) (by omega)]
  rw [Nat.zero_add, Nat.sub_zero]
theorem c_plates (hS : SR S r n) (hS2 : SR S q n) (hd : r + 20 ≤ q ∨ q + 20 ≤ r) (c1 : x.1 (r + 1) 5 = nI M) (hM3 : M ≤ 300) : ∃ x1, f_X4_copy N S (q + 1) (r + 1) x = some x1 ∧ x1.2 = x.2 ∧ x1.1 (q + 1) 5 = nI M ∧ (∀ p, p < M → x1.1 (q + 2) p = x.1 (r + 2) p ∧ x1.1 (q + 3) p = x.1 (r + 3) p ∧ x1.1 (q + 4) p = x.1 (r + 4) p ∧ x1.1 (q + 5) p = x.1 (r + 5) p ∧ x1.1 (q + 6) p = x.1 (r + 6) p) ∧ ∀ b, (b < q + 1 ∨ q + 6 < b) → x1.1 b = x.1 b := by
  refine ⟨U1 (cpX S (r + 6) (nI 0) (q + 6) (nI 0) (nI M) (cpX S (r + 5) (nI 0) (q + 5) (nI 0) (nI M) (cpX S (r + 4) (nI 0) (q + 4) (nI 0) (nI M) (cpX S (r + 3) (nI 0) (q + 3) (nI 0) (nI M) (cpX S (r + 2) (nI 0) (q + 2) (nI 0) (nI M) x))))) (q + 1) 5 (nI M), ?_, rfl, ?_, fun p hp => ⟨?_, ?_, ?_, ?_, ?_⟩, fun b hb => ?_⟩
  · simp (disch := (first | omega | (simp only [sr_l2 hS, sr_l3 hS, sr_l4 hS, sr_l5 hS, sr_l6 hS, sr_l8 hS, sr_l9 hS, sr_l10 hS, sr_l11 hS, sr_l12 hS, sr_l13 hS, sr_l14 hS, sr_l15 hS, sr_l16 hS, sr_l18 hS, sr_l19 hS, sr_l2 hS2, sr_l3 hS2, sr_l4 hS2, sr_l5 hS2, sr_l6 hS2, sr_l8 hS2, sr_l9 hS2, sr_l10 hS2, sr_l11 hS2, sr_l12 hS2, sr_l13 hS2, sr_l14 hS2, sr_l15 hS2, sr_l16 hS2, sr_l18 hS2, sr_l19 hS2]; omega))) only [f_X4_copy, f_J9_min_7cf53, sr_r0 hS, sr_r1 hS, sr_r2 hS, sr_r3 hS, sr_r4 hS, sr_r5 hS, sr_r6 hS, sr_p0 hS, sr_p1 hS, sr_p2 hS, sr_p3 hS, sr_p4 hS, sr_s0 hS, sr_s1 hS, sr_s2 hS, sr_s3 hS, sr_s4 hS, sr_s5 hS, sr_s6 hS, sr_l0 hS, sr_l1 hS, sr_r0 hS2, sr_r1 hS2, sr_r2 hS2, sr_r3 hS2, sr_r4 hS2, sr_r5 hS2, sr_r6 hS2, sr_p0 hS2, sr_p1 hS2, sr_p2 hS2, sr_p3 hS2, sr_p4 hS2, sr_s0 hS2, sr_s1 hS2, sr_s2 hS2, sr_s3 hS2, sr_s4 hS2, sr_s5 hS2, sr_s6 hS2, sr_l0 hS2, sr_l1 hS2, c1, cpk_n, ↓eM, eL_0, eL_1, eL_2, eL_3, eL_4, eL_5, eL_6, eL_7, eL_8, eL_9, eL_10, eL_11, eL_12, eL_15, eL_16, eL_20, eL_24, eL_30, eL_31, eL_32, eL_39, eL_40, eL_41, eL_42, eL_43, eL_45, eL_47, eL_48, eL_49, eL_50, eL_57, eL_59, eL_60, eL_61, eL_90, eL_96, eL_97, eL_100, eL_122, eL_160, eL_161, eL_255, eL_300, eL_343, eL_999, eL_1000, eL_1920, eL_9999, eL_10000, eL_999999, eL_100000, eL_1000000, ↓reduceIte, ↓bl_e, bd_e, u1_f, u1_s, u2_f, u2_s, w_cl, w_ltT, w_ltF, w_leT, w_leF, w_eqT, w_eqF, w_mlt, w_ltm, w_mle, w_lem, w_eqm, w_meq, w_mltm, nI_add, w_sub, w_addm, up_s, up_n, ud_s, ud_n, ck_n, bz_0, bz_1]
  · simp (disch := omega) only [u1_f, u1_s, u2_f, u2_s, up_s, up_n, ud_s, ud_n, cpX_n]
  · simp (disch := omega) only [u1_f, u1_s, u2_f, u2_s, up_s, up_n, ud_s, ud_n, cpX_n, cpX_s, w_cl, c_cpy]
  · simp (disch := omega) only [u1_f, u1_s, u2_f, u2_s, up_s, up_n, ud_s, ud_n, cpX_n, cpX_s, w_cl, c_cpy]
  · simp (disch := omega) only [u1_f, u1_s, u2_f, u2_s, up_s, up_n, ud_s, ud_n, cpX_n, cpX_s, w_cl, c_cpy]
  · simp (disch := omega) only [u1_f, u1_s, u2_f, u2_s, up_s, up_n, ud_s, ud_n, cpX_n, cpX_s, w_cl, c_cpy]
  · simp (disch := omega) only [u1_f, u1_s, u2_f, u2_s, up_s, up_n, ud_s, ud_n, cpX_n, cpX_s, w_cl, c_cpy]
  · simp (disch := omega) only [u1_f, u1_s, u2_f, u2_s, up_s, up_n, ud_s, ud_n, cpX_n]
theorem c_seats (hS : SR S r n) (hS2 : SR S q n) (hd : r + 20 ≤ q ∨ q + 20 ≤ r) : ∃ x1, f_X8_copy N S (q + 7) (r + 7) x = some x1 ∧ x1.2 = x.2 ∧ x1.1 (q + 7) 7 = x.1 (r + 7) 7 ∧ (∀ p, p < 8 → x1.1 (q + 8) p = x.1 (r + 8) p ∧ x1.1 (q + 9) p = x.1 (r + 9) p ∧ x1.1 (q + 10) p = x.1 (r + 10) p ∧ x1.1 (q + 11) p = x.1 (r + 11) p ∧ x1.1 (q + 12) p = x.1 (r + 12) p ∧ x1.1 (q + 13) p = x.1 (r + 13) p ∧ x1.1 (q + 14) p = x.1 (r + 14) p) ∧ ∀ b, (b < q + 7 ∨ q + 14 < b) → x1.1 b = x.1 b := by
  refine ⟨U1 (cpX S (r + 14) (nI 0) (q + 14) (nI 0) (nI 8) (cpX S (r + 13) (nI 0) (q + 13) (nI 0) (nI 8) (cpX S (r + 12) (nI 0) (q + 12) (nI 0) (nI 8) (cpX S (r + 11) (nI 0) (q + 11) (nI 0) (nI 8) (cpX S (r + 10) (nI 0) (q + 10) (nI 0) (nI 8) (cpX S (r + 9) (nI 0) (q + 9) (nI 0) (nI 8) (cpX S (r + 8) (nI 0) (q + 8) (nI 0) (nI 8) x))))))) (q + 7) 7 (x.1 (r + 7) 7), ?_, rfl, ?_, fun p hp => ⟨?_, ?_, ?_, ?_, ?_, ?_, ?_⟩, fun b hb => ?_⟩
  · simp (disch := (first | omega | (simp only [sr_l2 hS, sr_l3 hS, sr_l4 hS, sr_l5 hS, sr_l6 hS, sr_l8 hS, sr_l9 hS, sr_l10 hS, sr_l11 hS, sr_l12 hS, sr_l13 hS, sr_l14 hS, sr_l15 hS, sr_l16 hS, sr_l18 hS, sr_l19 hS, sr_l2 hS2, sr_l3 hS2, sr_l4 hS2, sr_l5 hS2, sr_l6 hS2, sr_l8 hS2, sr_l9 hS2, sr_l10 hS2, sr_l11 hS2, sr_l12 hS2, sr_l13 hS2, sr_l14 hS2, sr_l15 hS2, sr_l16 hS2, sr_l18 hS2, sr_l19 hS2]; omega))) only [f_X8_copy, sr_r0 hS, sr_r1 hS, sr_r2 hS, sr_r3 hS, sr_r4 hS, sr_r5 hS, sr_r6 hS, sr_p0 hS, sr_p1 hS, sr_p2 hS, sr_p3 hS, sr_p4 hS, sr_s0 hS, sr_s1 hS, sr_s2 hS, sr_s3 hS, sr_s4 hS, sr_s5 hS, sr_s6 hS, sr_l0 hS, sr_l1 hS, sr_r0 hS2, sr_r1 hS2, sr_r2 hS2, sr_r3 hS2, sr_r4 hS2, sr_r5 hS2, sr_r6 hS2, sr_p0 hS2, sr_p1 hS2, sr_p2 hS2, sr_p3 hS2, sr_p4 hS2, sr_s0 hS2, sr_s1 hS2, sr_s2 hS2, sr_s3 hS2, sr_s4 hS2, sr_s5 hS2, sr_s6 hS2, sr_l0 hS2, sr_l1 hS2, cpk_n, cpX_n, ↓eM, eL_0, eL_1, eL_2, eL_3, eL_4, eL_5, eL_6, eL_7, eL_8, eL_9, eL_10, eL_11, eL_12, eL_15, eL_16, eL_20, eL_24, eL_30, eL_31, eL_32, eL_39, eL_40, eL_41, eL_42, eL_43, eL_45, eL_47, eL_48, eL_49, eL_50, eL_57, eL_59, eL_60, eL_61, eL_90, eL_96, eL_97, eL_100, eL_122, eL_160, eL_161, eL_255, eL_300, eL_343, eL_999, eL_1000, eL_1920, eL_9999, eL_10000, eL_999999, eL_100000, eL_1000000, ↓reduceIte, ↓bl_e, bd_e, u1_f, u1_s, u2_f, u2_s, w_cl, w_ltT, w_ltF, w_leT, w_leF, w_eqT, w_eqF, w_mlt, w_ltm, w_mle, w_lem, w_eqm, w_meq, w_mltm, nI_add, w_sub, w_addm, up_s, up_n, ud_s, ud_n, ck_n, bz_0, bz_1]
  · simp (disch := omega) only [u1_f, u1_s, u2_f, u2_s, up_s, up_n, ud_s, ud_n, cpX_n]
  · simp (disch := omega) only [u1_f, u1_s, u2_f, u2_s, up_s, up_n, ud_s, ud_n, cpX_n, cpX_s, w_cl, c_cpy]
  · simp (disch := omega) only [u1_f, u1_s, u2_f, u2_s, up_s, up_n, ud_s, ud_n, cpX_n, cpX_s, w_cl, c_cpy]
  · simp (disch := omega) only [u1_f, u1_s, u2_f, u2_s, up_s, up_n, ud_s, ud_n, cpX_n, cpX_s, w_cl, c_cpy]
  · simp (disch := omega) only [u1_f, u1_s, u2_f, u2_s, up_s, up_n, ud_s, ud_n, cpX_n, cpX_s, w_cl, c_cpy]
  · simp (disch := omega) only [u1_f, u1_s, u2_f, u2_s, up_s, up_n, ud_s, ud_n, cpX_n, cpX_s, w_cl, c_cpy]
  · simp (disch := omega) only [u1_f, u1_s, u2_f, u2_s, up_s, up_n, ud_s, ud_n, cpX_n, cpX_s, w_cl, c_cpy]
  · simp (disch := omega) only [u1_f, u1_s, u2_f, u2_s, up_s, up_n, ud_s, ud_n, cpX_n, cpX_s, w_cl, c_cpy]
  · simp (disch := omega) only [u1_f, u1_s, u2_f, u2_s, up_s, up_n, ud_s, ud_n, cpX_n]
theorem c_lane (hS : SR S r n) (hS2 : SR S q n) (hd : r + 20 ≤ q ∨ q + 20 ≤ r) : ∃ x1, f_X2_copy N S (q + 17) (r + 17) x = some x1 ∧ x1.2 = x.2 ∧ x1.1 (q + 17) 2 = x.1 (r + 17) 2 ∧ (∀ p, p < n → x1.1 (q + 19) p = x.1 (r + 19) p) ∧ (∀ p, p < 16 → x1.1 (q + 18) p = x.1 (r + 18) p) ∧ ∀ b, (b < q + 17 ∨ q + 19 < b) → x1.1 b = x.1 b := by
  have hn := hS.2.2.2.2.2.2.2
  refine ⟨U1 (cpX S (r + 18) (nI 0) (q + 18) (nI 0) (nI 16) (cpX S (r + 19) (nI 0) (q + 19) (nI 0) (nI n) x)) (q + 17) 2 (x.1 (r + 17) 2), ?_, rfl, ?_, fun p hp => ?_, fun p hp => ?_, fun b hb => ?_⟩
  · simp (disch := (first | omega | (simp only [sr_l2 hS, sr_l3 hS, sr_l4 hS, sr_l5 hS, sr_l6 hS, sr_l8 hS, sr_l9 hS, sr_l10 hS, sr_l11 hS, sr_l12 hS, sr_l13 hS, sr_l14 hS, sr_l15 hS, sr_l16 hS, sr_l18 hS, sr_l19 hS, sr_l2 hS2, sr_l3 hS2, sr_l4 hS2, sr_l5 hS2, sr_l6 hS2, sr_l8 hS2, sr_l9 hS2, sr_l10 hS2, sr_l11 hS2, sr_l12 hS2, sr_l13 hS2, sr_l14 hS2, sr_l15 hS2, sr_l16 hS2, sr_l18 hS2, sr_l19 hS2]; omega))) only [f_X2_copy, j_X2_copy_31, sr_r0 hS, sr_r1 hS, sr_r2 hS, sr_r3 hS, sr_r4 hS, sr_r5 hS, sr_r6 hS, sr_p0 hS, sr_p1 hS, sr_p2 hS, sr_p3 hS, sr_p4 hS, sr_s0 hS, sr_s1 hS, sr_s2 hS, sr_s3 hS, sr_s4 hS, sr_s5 hS, sr_s6 hS, sr_l0 hS, sr_l1 hS, sr_r0 hS2, sr_r1 hS2, sr_r2 hS2, sr_r3 hS2, sr_r4 hS2, sr_r5 hS2, sr_r6 hS2, sr_p0 hS2, sr_p1 hS2, sr_p2 hS2, sr_p3 hS2, sr_p4 hS2, sr_s0 hS2, sr_s1 hS2, sr_s2 hS2, sr_s3 hS2, sr_s4 hS2, sr_s5 hS2, sr_s6 hS2, sr_l0 hS2, sr_l1 hS2, sr_l19 hS, sr_l19 hS2, cpk_n, cpX_n, ↓eM, eL_0, eL_1, eL_2, eL_3, eL_4, eL_5, eL_6, eL_7, eL_8, eL_9, eL_10, eL_11, eL_12, eL_15, eL_16, eL_20, eL_24, eL_30, eL_31, eL_32, eL_39, eL_40, eL_41, eL_42, eL_43, eL_45, eL_47, eL_48, eL_49, eL_50, eL_57, eL_59, eL_60, eL_61, eL_90, eL_96, eL_97, eL_100, eL_122, eL_160, eL_161, eL_255, eL_300, eL_343, eL_999, eL_1000, eL_1920, eL_9999, eL_10000, eL_999999, eL_100000, eL_1000000, ↓reduceIte, ↓bl_e, bd_e, u1_f, u1_s, u2_f, u2_s, w_cl, w_ltT, w_ltF, w_leT, w_leF, w_eqT, w_eqF, w_mlt, w_ltm, w_mle, w_lem, w_eqm, w_meq, w_mltm, nI_add, w_sub, w_addm, up_s, up_n, ud_s, ud_n, ck_n, bz_0, bz_1]
  · simp (disch := omega) only [u1_f, u1_s, u2_f, u2_s, up_s, up_n, ud_s, ud_n, cpX_n]
  · simp (disch := omega) only [u1_f, u1_s, u2_f, u2_s, up_s, up_n, ud_s, ud_n, cpX_n, cpX_s, w_cl, c_cpy]
  · simp (disch := omega) only [u1_f, u1_s, u2_f, u2_s, up_s, up_n, ud_s, ud_n, cpX_n, cpX_s, w_cl, c_cpy]
  · simp (disch := omega) only [u1_f, u1_s, u2_f, u2_s, up_s, up_n, ud_s, ud_n, cpX_n]
set_option maxHeartbeats 1600000 in
theorem z_copy (hS : SR S r n) (hS2 : SR S q n) (hd : r + 20 ≤ q ∨ q + 20 ≤ r) (h : zRR r n x y M K W) : ∃ x', f_X6_copy N S q r x = some x' ∧ zRR q n x' y M K W ∧ x'.2 q 10 = x.2 r 10 ∧ (∀ b, (b < q ∨ q + 20 ≤ b) → x'.1 b = x.1 b) ∧ (∀ b, b ≠ q → x'.2 b = x.2 b) := by
  obtain ⟨⟨hsc, hpl, ⟨hq1, hq2, hq3, hq4⟩, hse, hzi⟩, hag⟩ := h
  obtain ⟨c1, c2, c3, c4, c5, c6, c7, c8, c9, c10, c11, c12, c13, c14⟩ := hsc
  obtain ⟨x1, a1, a2, a3, a4, a5⟩ := c_plates (N := N) hS hS2 hd (x := cpX S (r + 16) (nI 0) (q + 16) (nI 0) (nI n) x) (by rw [cpX_n (by omega)]; exact c1) c3
  obtain ⟨x2, b1, b2, b3, b4, b5⟩ := c_seats (N := N) hS hS2 hd (x := x1)
  obtain ⟨x3, d1, d2, d3, d4, d5, d6⟩ := c_lane (N := N) hS hS2 hd (x := x2)
  have o1 : ∀ b, b ≠ q + 16 → (cpX S (r + 16) (nI 0) (q + 16) (nI 0) (nI n) x).1 b = x.1 b := fun b hb => cpX_n hb
  have o2 : ∀ b, b ≠ q + 16 → (b < q + 1 ∨ q + 6 < b) → x1.1 b = x.1 b := fun b h1 h2 => (a5 b h2).trans (o1 b h1)
  have o3 : ∀ b, b ≠ q + 16 → (b < q + 1 ∨ q + 14 < b) → x2.1 b = x.1 b := fun b h1 h2 => (b5 b (by omega)).trans (o2 b h1 (by omega))
  have o4 : ∀ b, b ≠ q + 16 → (b < q + 1 ∨ q + 19 < b) → x3.1 b = x.1 b := fun b h1 h2 => (d6 b (by omega)).trans (o3 b h1 (by omega))
  have s2 : x3.2 = x.2 := d2.trans (b2.trans a2)
  refine ⟨U2 (U1 (U1 (U1 x3 q 7 (x.1 r 7)) q 8 (x.1 r 8)) q 9 (x.1 r 9)) q 10 (x.2 r 10), ?_, ⟨⟨⟨?_, c2, c3, ?_, c5, c6, ?_, c8, c9, c10, c11, c12, ?_, ?_⟩, ?_, ⟨?_, ?_, ?_, ?_⟩, ?_, hzi⟩, ?_⟩, ?_, fun b hb => ?_, fun b hb => ?_⟩
  · have e3 : x3.1 r = x.1 r := o4 r (by omega) (by omega)
    simp (disch := (first | omega | (simp only [sr_l2 hS, sr_l3 hS, sr_l4 hS, sr_l5 hS, sr_l6 hS, sr_l8 hS, sr_l9 hS, sr_l10 hS, sr_l11 hS, sr_l12 hS, sr_l13 hS, sr_l14 hS, sr_l15 hS, sr_l16 hS, sr_l18 hS, sr_l19 hS, sr_l2 hS2, sr_l3 hS2, sr_l4 hS2, sr_l5 hS2, sr_l6 hS2, sr_l8 hS2, sr_l9 hS2, sr_l10 hS2, sr_l11 hS2, sr_l12 hS2, sr_l13 hS2, sr_l14 hS2, sr_l15 hS2, sr_l16 hS2, sr_l18 hS2, sr_l19 hS2]; omega))) only [f_X6_copy, j_X6_copy_31, sr_r0 hS, sr_r1 hS, sr_r2 hS, sr_r3 hS, sr_r4 hS, sr_r5 hS, sr_r6 hS, sr_p0 hS, sr_p1 hS, sr_p2 hS, sr_p3 hS, sr_p4 hS, sr_s0 hS, sr_s1 hS, sr_s2 hS, sr_s3 hS, sr_s4 hS, sr_s5 hS, sr_s6 hS, sr_l0 hS, sr_l1 hS, sr_r0 hS2, sr_r1 hS2, sr_r2 hS2, sr_r3 hS2, sr_r4 hS2, sr_r5 hS2, sr_r6 hS2, sr_p0 hS2, sr_p1 hS2, sr_p2 hS2, sr_p3 hS2, sr_p4 hS2, sr_s0 hS2, sr_s1 hS2, sr_s2 hS2, sr_s3 hS2, sr_s4 hS2, sr_s5 hS2, sr_s6 hS2, sr_l0 hS2, sr_l1 hS2, sr_l16 hS, sr_l16 hS2, cpk_n, a1, b1, d1, e3, s2, ↓eM, eL_0, eL_1, eL_2, eL_3, eL_4, eL_5, eL_6, eL_7, eL_8, eL_9, eL_10, eL_11, eL_12, eL_15, eL_16, eL_20, eL_24, eL_30, eL_31, eL_32, eL_39, eL_40, eL_41, eL_42, eL_43, eL_45, eL_47, eL_48, eL_49, eL_50, eL_57, eL_59, eL_60, eL_61, eL_90, eL_96, eL_97, eL_100, eL_122, eL_160, eL_161, eL_255, eL_300, eL_343, eL_999, eL_1000, eL_1920, eL_9999, eL_10000, eL_999999, eL_100000, eL_1000000, ↓reduceIte, ↓bl_e, bd_e, u1_f, u1_s, u2_f, u2_s, w_cl, w_ltT, w_ltF, w_leT, w_leF, w_eqT, w_eqF, w_mlt, w_ltm, w_mle, w_lem, w_eqm, w_meq, w_mltm, nI_add, w_sub, w_addm, up_s, up_n, ud_s, ud_n, ck_n, bz_0, bz_1]
  · simp (disch := omega) only [u1_f, u1_s, u2_f, u2_s, up_s, up_n, ud_s, ud_n]; rw [d6 _ (by omega), b5 _ (by omega)]; exact a3
  · simp (disch := omega) only [u1_f, u1_s, u2_f, u2_s, up_s, up_n, ud_s, ud_n]; rw [d6 _ (by omega), b3, a5 _ (by omega), o1 _ (by omega)]; exact c4
  · simp (disch := omega) only [u1_f, u1_s, u2_f, u2_s, up_s, up_n, ud_s, ud_n]; rw [d3, o3 _ (by omega) (by omega)]; exact c7
  · simp (disch := omega) only [u1_f, u1_s, u2_f, u2_s, up_s, up_n, ud_s, ud_n]; exact c13
  · simp (disch := omega) only [u1_f, u1_s, u2_f, u2_s, up_s, up_n, ud_s, ud_n]; exact c14
  · simp (disch := omega) only [u1_f, u1_s, u2_f, u2_s, up_s, up_n, ud_s, ud_n]
    intro p hp
    rw [d6 (q + 2) (by omega), b5 (q + 2) (by omega), d6 (q + 3) (by omega), b5 (q + 3) (by omega), d6 (q + 5) (by omega), b5 (q + 5) (by omega), d6 (q + 6) (by omega), b5 (q + 6) (by omega)]
    obtain ⟨g1, g2, g3, g4, g5⟩ := a4 p hp
    rw [g1, g2, g4, g5, o1 _ (by omega), o1 _ (by omega), o1 _ (by omega), o1 _ (by omega)]
    exact hpl p hp
  · simp (disch := omega) only [u1_f, u1_s, u2_f, u2_s, up_s, up_n, ud_s, ud_n]
    intro i hi
    rw [d6 _ (by omega), b5 _ (by omega), a5 _ (by omega), cpX_s, w_cl (by omega), w_cl (by omega), c_cpy hi]
    exact hq1 i hi
  · simp (disch := omega) only [u1_f, u1_s, u2_f, u2_s, up_s, up_n, ud_s, ud_n]
    intro i hi
    rw [d4 i hi, o3 _ (by omega) (by omega)]
    exact hq2 i hi
  · simp (disch := omega) only [u1_f, u1_s, u2_f, u2_s, up_s, up_n, ud_s, ud_n]
    intro i hi
    rw [d5 i (by omega), o3 _ (by omega) (by omega)]
    exact hq3 i hi
  · simp (disch := omega) only [u1_f, u1_s, u2_f, u2_s, up_s, up_n, ud_s, ud_n]
    intro s hs
    rw [d6 _ (by omega), (b4 s (by omega)).2.2.2.2.2.2, o2 _ (by omega) (by omega)]
    exact hq4 s hs
  · simp (disch := omega) only [u1_f, u1_s, u2_f, u2_s, up_s, up_n, ud_s, ud_n]
    intro s hs
    obtain ⟨g1, g2, g3, g4, g5, g6, g7⟩ := b4 s (by omega)
    rw [d6 (q + 8) (by omega), d6 (q + 9) (by omega), d6 (q + 10) (by omega), d6 (q + 11) (by omega), d6 (q + 12) (by omega), d6 (q + 13) (by omega), g1, g2, g3, g4, g5, g6, o2 _ (by omega) (by omega), o2 _ (by omega) (by omega), o2 _ (by omega) (by omega), o2 _ (by omega) (by omega), o2 _ (by omega) (by omega), o2 _ (by omega) (by omega)]
    exact hse s hs
  · simp (disch := omega) only [u1_f, u1_s, u2_f, u2_s, up_s, up_n, ud_s, ud_n]
    intro p hp
    rw [d6 (q + 4) (by omega), b5 (q + 4) (by omega), (a4 p hp).2.2.1, o1 _ (by omega)]
    exact hag p hp
  · simp (disch := omega) only [u1_f, u1_s, u2_f, u2_s, up_s, up_n, ud_s, ud_n]
  · simp (disch := omega) only [u1_f, u1_s, u2_f, u2_s, up_s, up_n, ud_s, ud_n]; exact o4 b (by omega) (by omega)
  · simp (disch := omega) only [u1_f, u1_s, u2_f, u2_s, up_s, up_n, ud_s, ud_n]; rw [s2]
set_option maxHeartbeats 800000 in
theorem z_busy (hN : 600 ≤ N) (hS : SR S r n) (h : zRR r n x y M K W) : (zIdle n y ∧ f_X6_isBusy N S r x = some (nI 0)) ∨ f_X6_isBusy N S r x = some (nI 1) := by
  obtain ⟨⟨⟨c1, c2, c3, c4, c5, c6, c7, c8, c9, c10, c11, c12, c13, c14⟩, hpl, ⟨hq1, hq2, hq3, hq4⟩, hse, hzi⟩, hag⟩ := h
  rcases Nat.eq_zero_or_pos W with rfl | hW
  rotate_left
  · right
    simp (disch := (first | omega | (simp only [sr_l2 hS, sr_l3 hS, sr_l4 hS, sr_l5 hS, sr_l6 hS, sr_l8 hS, sr_l9 hS, sr_l10 hS, sr_l11 hS, sr_l12 hS, sr_l13 hS, sr_l14 hS, sr_l15 hS, sr_l16 hS, sr_l18 hS, sr_l19 hS]; omega))) only [f_X6_isBusy, sr_r0 hS, sr_r1 hS, sr_r2 hS, sr_r3 hS, sr_r4 hS, sr_r5 hS, sr_r6 hS, sr_p0 hS, sr_p1 hS, sr_p2 hS, sr_p3 hS, sr_p4 hS, sr_s0 hS, sr_s1 hS, sr_s2 hS, sr_s3 hS, sr_s4 hS, sr_s5 hS, sr_s6 hS, sr_l0 hS, sr_l1 hS, c7, ↓eM, eL_0, eL_1, eL_2, eL_3, eL_4, eL_5, eL_6, eL_7, eL_8, eL_9, eL_10, eL_11, eL_12, eL_15, eL_16, eL_20, eL_24, eL_30, eL_31, eL_32, eL_39, eL_40, eL_41, eL_42, eL_43, eL_45, eL_47, eL_48, eL_49, eL_50, eL_57, eL_59, eL_60, eL_61, eL_90, eL_96, eL_97, eL_100, eL_122, eL_160, eL_161, eL_255, eL_300, eL_343, eL_999, eL_1000, eL_1920, eL_9999, eL_10000, eL_999999, eL_100000, eL_1000000, ↓reduceIte, ↓bl_e, bd_e, u1_f, u1_s, u2_f, u2_s, w_cl, w_ltT, w_ltF, w_leT, w_leF, w_eqT, w_eqF, w_mlt, w_ltm, w_mle, w_lem, w_eqm, w_meq, w_mltm, nI_add, w_sub, w_addm, up_s, up_n, ud_s, ud_n, ck_n, bz_0, bz_1]
  have e : f_X6_isBusy N S r x = lp_X6_isBusy_14 N S r (nI 0) x := by
    simp (disch := (first | omega | (simp only [sr_l2 hS, sr_l3 hS, sr_l4 hS, sr_l5 hS, sr_l6 hS, sr_l8 hS, sr_l9 hS, sr_l10 hS, sr_l11 hS, sr_l12 hS, sr_l13 hS, sr_l14 hS, sr_l15 hS, sr_l16 hS, sr_l18 hS, sr_l19 hS]; omega))) only [f_X6_isBusy, sr_r0 hS, sr_r1 hS, sr_r2 hS, sr_r3 hS, sr_r4 hS, sr_r5 hS, sr_r6 hS, sr_p0 hS, sr_p1 hS, sr_p2 hS, sr_p3 hS, sr_p4 hS, sr_s0 hS, sr_s1 hS, sr_s2 hS, sr_s3 hS, sr_s4 hS, sr_s5 hS, sr_s6 hS, sr_l0 hS, sr_l1 hS, c7, ↓eM, eL_0, eL_1, eL_2, eL_3, eL_4, eL_5, eL_6, eL_7, eL_8, eL_9, eL_10, eL_11, eL_12, eL_15, eL_16, eL_20, eL_24, eL_30, eL_31, eL_32, eL_39, eL_40, eL_41, eL_42, eL_43, eL_45, eL_47, eL_48, eL_49, eL_50, eL_57, eL_59, eL_60, eL_61, eL_90, eL_96, eL_97, eL_100, eL_122, eL_160, eL_161, eL_255, eL_300, eL_343, eL_999, eL_1000, eL_1920, eL_9999, eL_10000, eL_999999, eL_100000, eL_1000000, ↓reduceIte, ↓bl_e, bd_e, u1_f, u1_s, u2_f, u2_s, w_cl, w_ltT, w_ltF, w_leT, w_leF, w_eqT, w_eqF, w_mlt, w_ltm, w_mle, w_lem, w_eqm, w_meq, w_mltm, nI_add, w_sub, w_addm, up_s, up_n, ud_s, ud_n, ck_n, bz_0, bz_1]
  rw [e]
  unfold lp_X6_isBusy_14
  refine z_itr1 (fun i a => a = nI i ∧ ∀ j, j < i → y.1 49 j = mO ∧ y.1 50 j = mO) (fun o => (zIdle n y ∧ o = some (nI 0)) ∨ o = some (nI 1)) n ?_ ?_ n 0 _ N (by omega) (by omega) ⟨rfl, fun j hj => absurd hj (Nat.not_lt_zero j)⟩
  · rintro i _ hi ⟨rfl, hh⟩
    have h1 := hq1 i hi
    have h2 := hq2 i hi
    rcases hzi.lt i hi with hv | ⟨p, hp, hv⟩
    · rw [hv] at h1
      rcases hzi.ln i hi with hv2 | ⟨p, hp, hv2⟩
      · rw [hv2] at h2
        refine Or.inl ⟨nI (i + 1), ⟨rfl, fun j hj => ?_⟩, fun back => ?_⟩
        · by_cases e : j = i
          · subst e; exact ⟨hv, hv2⟩
          · exact hh j (by omega)
        · simp (disch := (first | omega | (simp only [sr_l2 hS, sr_l3 hS, sr_l4 hS, sr_l5 hS, sr_l6 hS, sr_l8 hS, sr_l9 hS, sr_l10 hS, sr_l11 hS, sr_l12 hS, sr_l13 hS, sr_l14 hS, sr_l15 hS, sr_l16 hS, sr_l18 hS, sr_l19 hS]; omega))) only [lp_X6_isBusy_14_b, f_X2_isFree, sr_r0 hS, sr_r1 hS, sr_r2 hS, sr_r3 hS, sr_r4 hS, sr_r5 hS, sr_r6 hS, sr_p0 hS, sr_p1 hS, sr_p2 hS, sr_p3 hS, sr_p4 hS, sr_s0 hS, sr_s1 hS, sr_s2 hS, sr_s3 hS, sr_s4 hS, sr_s5 hS, sr_s6 hS, sr_l0 hS, sr_l1 hS, sr_l16 hS, sr_l19 hS, h1, h2, ↓eM, eL_0, eL_1, eL_2, eL_3, eL_4, eL_5, eL_6, eL_7, eL_8, eL_9, eL_10, eL_11, eL_12, eL_15, eL_16, eL_20, eL_24, eL_30, eL_31, eL_32, eL_39, eL_40, eL_41, eL_42, eL_43, eL_45, eL_47, eL_48, eL_49, eL_50, eL_57, eL_59, eL_60, eL_61, eL_90, eL_96, eL_97, eL_100, eL_122, eL_160, eL_161, eL_255, eL_300, eL_343, eL_999, eL_1000, eL_1920, eL_9999, eL_10000, eL_999999, eL_100000, eL_1000000, ↓reduceIte, ↓bl_e, bd_e, u1_f, u1_s, u2_f, u2_s, w_cl, w_ltT, w_ltF, w_leT, w_leF, w_eqT, w_eqF, w_mlt, w_ltm, w_mle, w_lem, w_eqm, w_meq, w_mltm, nI_add, w_sub, w_addm, up_s, up_n, ud_s, ud_n, ck_n, bz_0, bz_1]
      · rw [hv2] at h2
        refine Or.inr ⟨_, Or.inr rfl, fun back => ?_⟩
        simp (disch := (first | omega | (simp only [sr_l2 hS, sr_l3 hS, sr_l4 hS, sr_l5 hS, sr_l6 hS, sr_l8 hS, sr_l9 hS, sr_l10 hS, sr_l11 hS, sr_l12 hS, sr_l13 hS, sr_l14 hS, sr_l15 hS, sr_l16 hS, sr_l18 hS, sr_l19 hS]; omega))) only [lp_X6_isBusy_14_b, f_X2_isFree, sr_r0 hS, sr_r1 hS, sr_r2 hS, sr_r3 hS, sr_r4 hS, sr_r5 hS, sr_r6 hS, sr_p0 hS, sr_p1 hS, sr_p2 hS, sr_p3 hS, sr_p4 hS, sr_s0 hS, sr_s1 hS, sr_s2 hS, sr_s3 hS, sr_s4 hS, sr_s5 hS, sr_s6 hS, sr_l0 hS, sr_l1 hS, sr_l16 hS, sr_l19 hS, h1, h2, ↓eM, eL_0, eL_1, eL_2, eL_3, eL_4, eL_5, eL_6, eL_7, eL_8, eL_9, eL_10, eL_11, eL_12, eL_15, eL_16, eL_20, eL_24, eL_30, eL_31, eL_32, eL_39, eL_40, eL_41, eL_42, eL_43, eL_45, eL_47, eL_48, eL_49, eL_50, eL_57, eL_59, eL_60, eL_61, eL_90, eL_96, eL_97, eL_100, eL_122, eL_160, eL_161, eL_255, eL_300, eL_343, eL_999, eL_1000, eL_1920, eL_9999, eL_10000, eL_999999, eL_100000, eL_1000000, ↓reduceIte, ↓bl_e, bd_e, u1_f, u1_s, u2_f, u2_s, w_cl, w_ltT, w_ltF, w_leT, w_leF, w_eqT, w_eqF, w_mlt, w_ltm, w_mle, w_lem, w_eqm, w_meq, w_mltm, nI_add, w_sub, w_addm, up_s, up_n, ud_s, ud_n, ck_n, bz_0, bz_1]
    · rw [hv] at h1
      refine Or.inr ⟨_, Or.inr rfl, fun back => ?_⟩
      simp (disch := (first | omega | (simp only [sr_l2 hS, sr_l3 hS, sr_l4 hS, sr_l5 hS, sr_l6 hS, sr_l8 hS, sr_l9 hS, sr_l10 hS, sr_l11 hS, sr_l12 hS, sr_l13 hS, sr_l14 hS, sr_l15 hS, sr_l16 hS, sr_l18 hS, sr_l19 hS]; omega))) only [lp_X6_isBusy_14_b, f_X2_isFree, sr_r0 hS, sr_r1 hS, sr_r2 hS, sr_r3 hS, sr_r4 hS, sr_r5 hS, sr_r6 hS, sr_p0 hS, sr_p1 hS, sr_p2 hS, sr_p3 hS, sr_p4 hS, sr_s0 hS, sr_s1 hS, sr_s2 hS, sr_s3 hS, sr_s4 hS, sr_s5 hS, sr_s6 hS, sr_l0 hS, sr_l1 hS, sr_l16 hS, h1, ↓eM, eL_0, eL_1, eL_2, eL_3, eL_4, eL_5, eL_6, eL_7, eL_8, eL_9, eL_10, eL_11, eL_12, eL_15, eL_16, eL_20, eL_24, eL_30, eL_31, eL_32, eL_39, eL_40, eL_41, eL_42, eL_43, eL_45, eL_47, eL_48, eL_49, eL_50, eL_57, eL_59, eL_60, eL_61, eL_90, eL_96, eL_97, eL_100, eL_122, eL_160, eL_161, eL_255, eL_300, eL_343, eL_999, eL_1000, eL_1920, eL_9999, eL_10000, eL_999999, eL_100000, eL_1000000, ↓reduceIte, ↓bl_e, bd_e, u1_f, u1_s, u2_f, u2_s, w_cl, w_ltT, w_ltF, w_leT, w_leF, w_eqT, w_eqF, w_mlt, w_ltm, w_mle, w_lem, w_eqm, w_meq, w_mltm, nI_add, w_sub, w_addm, up_s, up_n, ud_s, ud_n, ck_n, bz_0, bz_1]
  · rintro _ ⟨rfl, hh⟩
    refine ⟨_, Or.inl ⟨⟨c8, hh⟩, rfl⟩, fun back => ?_⟩
    simp (disch := (first | omega | (simp only [sr_l2 hS, sr_l3 hS, sr_l4 hS, sr_l5 hS, sr_l6 hS, sr_l8 hS, sr_l9 hS, sr_l10 hS, sr_l11 hS, sr_l12 hS, sr_l13 hS, sr_l14 hS, sr_l15 hS, sr_l16 hS, sr_l18 hS, sr_l19 hS]; omega))) only [lp_X6_isBusy_14_b, sr_r0 hS, sr_r1 hS, sr_r2 hS, sr_r3 hS, sr_r4 hS, sr_r5 hS, sr_r6 hS, sr_p0 hS, sr_p1 hS, sr_p2 hS, sr_p3 hS, sr_p4 hS, sr_s0 hS, sr_s1 hS, sr_s2 hS, sr_s3 hS, sr_s4 hS, sr_s5 hS, sr_s6 hS, sr_l0 hS, sr_l1 hS, sr_l16 hS, ↓eM, eL_0, eL_1, eL_2, eL_3, eL_4, eL_5, eL_6, eL_7, eL_8, eL_9, eL_10, eL_11, eL_12, eL_15, eL_16, eL_20, eL_24, eL_30, eL_31, eL_32, eL_39, eL_40, eL_41, eL_42, eL_43, eL_45, eL_47, eL_48, eL_49, eL_50, eL_57, eL_59, eL_60, eL_61, eL_90, eL_96, eL_97, eL_100, eL_122, eL_160, eL_161, eL_255, eL_300, eL_343, eL_999, eL_1000, eL_1920, eL_9999, eL_10000, eL_999999, eL_100000, eL_1000000, ↓reduceIte, ↓bl_e, bd_e, u1_f, u1_s, u2_f, u2_s, w_cl, w_ltT, w_ltF, w_leT, w_leF, w_eqT, w_eqF, w_mlt, w_ltm, w_mle, w_lem, w_eqm, w_meq, w_mltm, nI_add, w_sub, w_addm, up_s, up_n, ud_s, ud_n, ck_n, bz_0, bz_1]
end COPY
/-! what is kept -/
def zKp (y z : DY) (n M K W : Nat) : Prop :=
  z.1 40 56 = nI M ∧ z.1 40 57 = y.1 40 2 ∧ z.1 40 58 = y.1 40 3 ∧ z.1 40 59 = nI W ∧ (∀ p, p < M → z.1 68 p = y.1 46 p ∧ z.1 69 p = y.1 47 p ∧ z.1 70 p = y.1 48 p) ∧ (∀ i, i < n → z.1 71 i = y.1 49 i ∧ z.1 72 i = y.1 50 i) ∧ (∀ i, i < W → z.1 73 i = y.1 51 i) ∧ (∀ s, s < K → z.1 75 s = y.1 60 s ∧ z.1 74 (5 * s) = y.1 55 s ∧ z.1 74 (5 * s + 1) = y.1 56 s ∧ z.1 74 (5 * s + 2) = y.1 57 s ∧ z.1 74 (5 * s + 3) = y.1 58 s)
section KEEP
variable {N : Nat} {Sm : SH} {n M K W : Nat} {x y : DY}
set_option maxHeartbeats 3200000 in
theorem z_keep (hN : 600 ≤ N) (hM : SHM Sm) (c2 : y.1 40 1 = nI M) (c3 : M ≤ 300) (c5 : y.1 40 18 = nI K) (c6 : K ≤ 8) (c8 : y.1 40 17 = nI W) (c9 : W ≤ 16) (c10 : y.1 40 0 = nI n) (c12 : n ≤ 12) (hs : ∀ s, s < K → y.1 60 s = nI 0 ∨ y.1 60 s = nI 1) : ∃ z, f_X12_keep N Sm 40 y = some z ∧ zKp y z n M K W ∧ (∀ b, b ≠ 40 → (b < 68 ∨ 76 ≤ b) → z.1 b = y.1 b) ∧ (∀ k, (k < 56 ∨ 60 ≤ k) → z.1 40 k = y.1 40 k) := by
  unfold f_X12_keep lp_X12_keep_2
  refine z_loop1 (fun i a => ∃ z, a = (nI i, z) ∧ (∀ b, (b < 68 ∨ 71 ≤ b) → z.1 b = y.1 b) ∧ (∀ p, p < i → z.1 68 p = y.1 46 p ∧ z.1 69 p = y.1 47 p ∧ z.1 70 p = y.1 48 p)) M (N1 := N) (K1 := fun a => lp_X12_keep_54 N Sm (fun y30 => lp_X12_keep_94 N Sm (fun y38 => lp_X12_keep_122 N Sm (fun y63 => bl (U1 y63 40 56 (y63.1 40 1)) (fun x65 => bl (U1 x65 40 57 (x65.1 40 2)) (fun x66 => bl (U1 x66 40 58 (x66.1 40 3)) (fun x67 => bl (U1 x67 40 59 (x67.1 40 17)) (fun x68 => some x68))))) 40 0 y38) 40 0 y30) 40 0 a.2) (fun o => ∃ z, o = some z ∧ zKp y z n M K W ∧ (∀ b, b ≠ 40 → (b < 68 ∨ 76 ≤ b) → z.1 b = y.1 b) ∧ (∀ k, (k < 56 ∨ 60 ≤ k) → z.1 40 k = y.1 40 k)) (by omega) ⟨y, rfl, fun _ _ => rfl, fun p hp => absurd hp (Nat.not_lt_zero p)⟩ ?_ ?_ ?_
  · rintro i _ hi ⟨z, rfl, f1, f2⟩
    have e40 := f1 40 (by omega)
    have c2' : z.1 40 1 = nI M := by rw [e40]; exact c2
    refine ⟨(nI (i + 1), U1 (U1 (U1 z 68 i (z.1 46 i)) 69 i (z.1 47 i)) 70 i (z.1 48 i)), ⟨_, rfl, fun b hb => by simp (disch := omega) only [u1_f, u1_s, u2_f, u2_s, up_s, up_n, ud_s, ud_n]; exact f1 b hb, fun p hp => ?_⟩, fun back => ?_⟩
    · simp (disch := omega) only [u1_f, u1_s, u2_f, u2_s, up_s, up_n, ud_s, ud_n]
      by_cases e : p = i
      · subst e; rw [ud_s, ud_s, ud_s, f1 46 (by omega), f1 47 (by omega), f1 48 (by omega)]; exact ⟨rfl, rfl, rfl⟩
      · rw [ud_n e, ud_n e, ud_n e]; exact f2 p (by omega)
    · simp (disch := (first | omega | (simp only [shm_l41 hM, shm_l42 hM, shm_l43 hM, shm_l44 hM, shm_l45 hM, shm_l46 hM, shm_l47 hM, shm_l48 hM, shm_l49 hM, shm_l50 hM, shm_l51 hM, shm_l52 hM, shm_l53 hM, shm_l54 hM, shm_l55 hM, shm_l56 hM, shm_l57 hM, shm_l58 hM, shm_l59 hM, shm_l60 hM, shm_l61 hM, shm_l62 hM, shm_l63 hM, shm_l64 hM, shm_l65 hM, shm_l66 hM, shm_l67 hM, shm_l68 hM, shm_l69 hM, shm_l70 hM, shm_l71 hM, shm_l72 hM, shm_l73 hM, shm_l74 hM, shm_l75 hM, shm_l76 hM, shm_l77 hM, shm_l78 hM, shm_l79 hM, shm_l80 hM]; omega))) only [lp_X12_keep_2_b, shm_p5 hM, shm_p6 hM, shm_p7 hM, shm_p8 hM, shm_p9 hM, shm_p10 hM, shm_p11 hM, shm_p12 hM, shm_p13 hM, shm_p14 hM, shm_p15 hM, shm_p16 hM, shm_p19 hM, shm_p20 hM, shm_p21 hM, shm_p22 hM, shm_p23 hM, shm_p24 hM, shm_p25 hM, shm_p26 hM, shm_p27 hM, shm_p31 hM, shm_p32 hM, shm_p37 hM, shm_p38 hM, shm_p43 hM, shm_p44 hM, shm_p48 hM, shm_p49 hM, shm_p50 hM, shm_p51 hM, shm_p52 hM, shm_p53 hM, shm_p54 hM, shm_p55 hM, shm_p62 hM, shm_p63 hM, shm_p64 hM, shm_p65 hM, shm_p66 hM, c2', ↓eM, eL_0, eL_1, eL_2, eL_3, eL_4, eL_5, eL_6, eL_7, eL_8, eL_9, eL_10, eL_11, eL_12, eL_15, eL_16, eL_20, eL_24, eL_30, eL_31, eL_32, eL_39, eL_40, eL_41, eL_42, eL_43, eL_45, eL_47, eL_48, eL_49, eL_50, eL_57, eL_59, eL_60, eL_61, eL_90, eL_96, eL_97, eL_100, eL_122, eL_160, eL_161, eL_255, eL_300, eL_343, eL_999, eL_1000, eL_1920, eL_9999, eL_10000, eL_999999, eL_100000, eL_1000000, ↓reduceIte, ↓bl_e, bd_e, u1_f, u1_s, u2_f, u2_s, w_cl, w_ltT, w_ltF, w_leT, w_leF, w_eqT, w_eqF, w_mlt, w_ltm, w_mle, w_lem, w_eqm, w_meq, w_mltm, nI_add, w_sub, w_addm, up_s, up_n, ud_s, ud_n, ck_n, bz_0, bz_1]
  · rintro _ ⟨z, rfl, f1, f2⟩ back
    have c2' : z.1 40 1 = nI M := by rw [f1 40 (by omega)]; exact c2
    simp (disch := omega) only [lp_X12_keep_2_b, c2', w_leT, ↓reduceIte]
  rintro _ ⟨z1, rfl, f1, f2⟩
  unfold lp_X12_keep_54
  refine z_loop1 (fun i a => ∃ z, a = (nI i, z) ∧ (∀ b, b ≠ 71 → b ≠ 72 → z.1 b = z1.1 b) ∧ (∀ p, p < i → z.1 71 p = y.1 49 p ∧ z.1 72 p = y.1 50 p)) n (N1 := N) (K1 := fun a => lp_X12_keep_94 N Sm (fun y38 => lp_X12_keep_122 N Sm (fun y63 => bl (U1 y63 40 56 (y63.1 40 1)) (fun x65 => bl (U1 x65 40 57 (x65.1 40 2)) (fun x66 => bl (U1 x66 40 58 (x66.1 40 3)) (fun x67 => bl (U1 x67 40 59 (x67.1 40 17)) (fun x68 => some x68))))) 40 0 y38) 40 0 a.2) (fun o => ∃ z, o = some z ∧ zKp y z n M K W ∧ (∀ b, b ≠ 40 → (b < 68 ∨ 76 ≤ b) → z.1 b = y.1 b) ∧ (∀ k, (k < 56 ∨ 60 ≤ k) → z.1 40 k = y.1 40 k)) (by omega) ⟨z1, rfl, fun _ _ _ => rfl, fun p hp => absurd hp (Nat.not_lt_zero p)⟩ ?_ ?_ ?_
  · rintro i _ hi ⟨z, rfl, g1, g2⟩
    have e40 : z.1 40 = y.1 40 := (g1 40 (by omega) (by omega)).trans (f1 40 (by omega))
    have c2' : z.1 40 0 = nI n := by rw [e40]; exact c10
    refine ⟨(nI (i + 1), U1 (U1 z 71 i (z.1 49 i)) 72 i (z.1 50 i)), ⟨_, rfl, fun b h1 h2 => by simp (disch := omega) only [u1_f, u1_s, u2_f, u2_s, up_s, up_n, ud_s, ud_n]; exact g1 b h1 h2, fun p hp => ?_⟩, fun back => ?_⟩
    · simp (disch := omega) only [u1_f, u1_s, u2_f, u2_s, up_s, up_n, ud_s, ud_n]
      by_cases e : p = i
      · subst e; rw [ud_s, ud_s, g1 49 (by omega) (by omega), g1 50 (by omega) (by omega), f1 49 (by omega), f1 50 (by omega)]; exact ⟨rfl, rfl⟩
      · rw [ud_n e, ud_n e]; exact g2 p (by omega)
    · simp (disch := (first | omega | (simp only [shm_l41 hM, shm_l42 hM, shm_l43 hM, shm_l44 hM, shm_l45 hM, shm_l46 hM, shm_l47 hM, shm_l48 hM, shm_l49 hM, shm_l50 hM, shm_l51 hM, shm_l52 hM, shm_l53 hM, shm_l54 hM, shm_l55 hM, shm_l56 hM, shm_l57 hM, shm_l58 hM, shm_l59 hM, shm_l60 hM, shm_l61 hM, shm_l62 hM, shm_l63 hM, shm_l64 hM, shm_l65 hM, shm_l66 hM, shm_l67 hM, shm_l68 hM, shm_l69 hM, shm_l70 hM, shm_l71 hM, shm_l72 hM, shm_l73 hM, shm_l74 hM, shm_l75 hM, shm_l76 hM, shm_l77 hM, shm_l78 hM, shm_l79 hM, shm_l80 hM]; omega))) only [lp_X12_keep_54_b, shm_p5 hM, shm_p6 hM, shm_p7 hM, shm_p8 hM, shm_p9 hM, shm_p10 hM, shm_p11 hM, shm_p12 hM, shm_p13 hM, shm_p14 hM, shm_p15 hM, shm_p16 hM, shm_p19 hM, shm_p20 hM, shm_p21 hM, shm_p22 hM, shm_p23 hM, shm_p24 hM, shm_p25 hM, shm_p26 hM, shm_p27 hM, shm_p31 hM, shm_p32 hM, shm_p37 hM, shm_p38 hM, shm_p43 hM, shm_p44 hM, shm_p48 hM, shm_p49 hM, shm_p50 hM, shm_p51 hM, shm_p52 hM, shm_p53 hM, shm_p54 hM, shm_p55 hM, shm_p62 hM, shm_p63 hM, shm_p64 hM, shm_p65 hM, shm_p66 hM, c2', ↓eM, eL_0, eL_1, eL_2, eL_3, eL_4, eL_5, eL_6, eL_7, eL_8, eL_9, eL_10, eL_11, eL_12, eL_15, eL_16, eL_20, eL_24, eL_30, eL_31, eL_32, eL_39, eL_40, eL_41, eL_42, eL_43, eL_45, eL_47, eL_48, eL_49, eL_50, eL_57, eL_59, eL_60, eL_61, eL_90, eL_96, eL_97, eL_100, eL_122, eL_160, eL_161, eL_255, eL_300, eL_343, eL_999, eL_1000, eL_1920, eL_9999, eL_10000, eL_999999, eL_100000, eL_1000000, ↓reduceIte, ↓bl_e, bd_e, u1_f, u1_s, u2_f, u2_s, w_cl, w_ltT, w_ltF, w_leT, w_leF, w_eqT, w_eqF, w_mlt, w_ltm, w_mle, w_lem, w_eqm, w_meq, w_mltm, nI_add, w_sub, w_addm, up_s, up_n, ud_s, ud_n, ck_n, bz_0, bz_1]
  · rintro _ ⟨z, rfl, g1, g2⟩ back
    have c2' : z.1 40 0 = nI n := by rw [g1 40 (by omega) (by omega), f1 40 (by omega)]; exact c10
    simp (disch := omega) only [lp_X12_keep_54_b, c2', w_leT, ↓reduceIte]
  rintro _ ⟨z2, rfl, g1, g2⟩
  unfold lp_X12_keep_94
  refine z_loop1 (fun i a => ∃ z, a = (nI i, z) ∧ (∀ b, b ≠ 73 → z.1 b = z2.1 b) ∧ (∀ p, p < i → z.1 73 p = y.1 51 p)) W (N1 := N) (K1 := fun a => lp_X12_keep_122 N Sm (fun y63 => bl (U1 y63 40 56 (y63.1 40 1)) (fun x65 => bl (U1 x65 40 57 (x65.1 40 2)) (fun x66 => bl (U1 x66 40 58 (x66.1 40 3)) (fun x67 => bl (U1 x67 40 59 (x67.1 40 17)) (fun x68 => some x68))))) 40 0 a.2) (fun o => ∃ z, o = some z ∧ zKp y z n M K W ∧ (∀ b, b ≠ 40 → (b < 68 ∨ 76 ≤ b) → z.1 b = y.1 b) ∧ (∀ k, (k < 56 ∨ 60 ≤ k) → z.1 40 k = y.1 40 k)) (by omega) ⟨z2, rfl, fun _ _ => rfl, fun p hp => absurd hp (Nat.not_lt_zero p)⟩ ?_ ?_ ?_
  · rintro i _ hi ⟨z, rfl, h1, h2⟩
    have e40 : z.1 40 = y.1 40 := (h1 40 (by omega)).trans ((g1 40 (by omega) (by omega)).trans (f1 40 (by omega)))
    have c2' : z.1 40 17 = nI W := by rw [e40]; exact c8
    refine ⟨(nI (i + 1), U1 z 73 i (z.1 51 i)), ⟨_, rfl, fun b hb => by simp (disch := omega) only [u1_f, u1_s, u2_f, u2_s, up_s, up_n, ud_s, ud_n]; exact h1 b hb, fun p hp => ?_⟩, fun back => ?_⟩
    · simp (disch := omega) only [u1_f, u1_s, u2_f, u2_s, up_s, up_n, ud_s, ud_n]
      by_cases e : p = i
      · subst e; rw [ud_s, h1 51 (by omega), g1 51 (by omega) (by omega), f1 51 (by omega)]
      · rw [ud_n e]; exact h2 p (by omega)
    · simp (disch := (first | omega | (simp only [shm_l41 hM, shm_l42 hM, shm_l43 hM, shm_l44 hM, shm_l45 hM, shm_l46 hM, shm_l47 hM, shm_l48 hM, shm_l49 hM, shm_l50 hM, shm_l51 hM, shm_l52 hM, shm_l53 hM, shm_l54 hM, shm_l55 hM, shm_l56 hM, shm_l57 hM, shm_l58 hM, shm_l59 hM, shm_l60 hM, shm_l61 hM, shm_l62 hM, shm_l63 hM, shm_l64 hM, shm_l65 hM, shm_l66 hM, shm_l67 hM, shm_l68 hM, shm_l69 hM, shm_l70 hM, shm_l71 hM, shm_l72 hM, shm_l73 hM, shm_l74 hM, shm_l75 hM, shm_l76 hM, shm_l77 hM, shm_l78 hM, shm_l79 hM, shm_l80 hM]; omega))) only [lp_X12_keep_94_b, shm_p5 hM, shm_p6 hM, shm_p7 hM, shm_p8 hM, shm_p9 hM, shm_p10 hM, shm_p11 hM, shm_p12 hM, shm_p13 hM, shm_p14 hM, shm_p15 hM, shm_p16 hM, shm_p19 hM, shm_p20 hM, shm_p21 hM, shm_p22 hM, shm_p23 hM, shm_p24 hM, shm_p25 hM, shm_p26 hM, shm_p27 hM, shm_p31 hM, shm_p32 hM, shm_p37 hM, shm_p38 hM, shm_p43 hM, shm_p44 hM, shm_p48 hM, shm_p49 hM, shm_p50 hM, shm_p51 hM, shm_p52 hM, shm_p53 hM, shm_p54 hM, shm_p55 hM, shm_p62 hM, shm_p63 hM, shm_p64 hM, shm_p65 hM, shm_p66 hM, c2', ↓eM, eL_0, eL_1, eL_2, eL_3, eL_4, eL_5, eL_6, eL_7, eL_8, eL_9, eL_10, eL_11, eL_12, eL_15, eL_16, eL_20, eL_24, eL_30, eL_31, eL_32, eL_39, eL_40, eL_41, eL_42, eL_43, eL_45, eL_47, eL_48, eL_49, eL_50, eL_57, eL_59, eL_60, eL_61, eL_90, eL_96, eL_97, eL_100, eL_122, eL_160, eL_161, eL_255, eL_300, eL_343, eL_999, eL_1000, eL_1920, eL_9999, eL_10000, eL_999999, eL_100000, eL_1000000, ↓reduceIte, ↓bl_e, bd_e, u1_f, u1_s, u2_f, u2_s, w_cl, w_ltT, w_ltF, w_leT, w_leF, w_eqT, w_eqF, w_mlt, w_ltm, w_mle, w_lem, w_eqm, w_meq, w_mltm, nI_add, w_sub, w_addm, up_s, up_n, ud_s, ud_n, ck_n, bz_0, bz_1]
  · rintro _ ⟨z, rfl, h1, h2⟩ back
    have c2' : z.1 40 17 = nI W := by rw [h1 40 (by omega), g1 40 (by omega) (by omega), f1 40 (by omega)]; exact c8
    simp (disch := omega) only [lp_X12_keep_94_b, c2', w_leT, ↓reduceIte]
  rintro _ ⟨z3, rfl, h1, h2⟩
  have o3 : ∀ b, (b < 68 ∨ 74 ≤ b) → z3.1 b = y.1 b := fun b hb => (h1 b (by omega)).trans ((g1 b (by omega) (by omega)).trans (f1 b (by omega)))
  unfold lp_X12_keep_122
  refine z_loop1 (fun i a => ∃ z, a = (nI i, z) ∧ (∀ b, b ≠ 74 → b ≠ 75 → z.1 b = z3.1 b) ∧ (∀ s, s < i → z.1 75 s = y.1 60 s ∧ z.1 74 (5 * s) = y.1 55 s ∧ z.1 74 (5 * s + 1) = y.1 56 s ∧ z.1 74 (5 * s + 2) = y.1 57 s ∧ z.1 74 (5 * s + 3) = y.1 58 s)) K (N1 := N) (K1 := fun a => bl (U1 a.2 40 56 (a.2.1 40 1)) (fun x65 => bl (U1 x65 40 57 (x65.1 40 2)) (fun x66 => bl (U1 x66 40 58 (x66.1 40 3)) (fun x67 => bl (U1 x67 40 59 (x67.1 40 17)) (fun x68 => some x68))))) (fun o => ∃ z, o = some z ∧ zKp y z n M K W ∧ (∀ b, b ≠ 40 → (b < 68 ∨ 76 ≤ b) → z.1 b = y.1 b) ∧ (∀ k, (k < 56 ∨ 60 ≤ k) → z.1 40 k = y.1 40 k)) (by omega) ⟨z3, rfl, fun _ _ _ => rfl, fun p hp => absurd hp (Nat.not_lt_zero p)⟩ ?_ ?_ ?_
  · rintro i _ hi ⟨z, rfl, k1, k2⟩
    have oz : ∀ b, (b < 68 ∨ 76 ≤ b) → z.1 b = y.1 b := fun b hb => (k1 b (by omega) (by omega)).trans (o3 b (by omega))
    have c2' : z.1 40 18 = nI K := by rw [oz 40 (by omega)]; exact c5
    have hnar : vp_nar .boolean (z.1 60 i) = z.1 60 i := by
      rw [oz 60 (by omega)]
      rcases hs i hi with h | h
      · rw [h]; exact nar0
      · rw [h]; exact nar1
    refine ⟨(nI (i + 1), U1 (U1 (U1 (U1 (U1 z 75 i (z.1 60 i)) 74 (5 * i) (z.1 55 i)) 74 (5 * i + 1) (z.1 56 i)) 74 (5 * i + 2) (z.1 57 i)) 74 (5 * i + 3) (z.1 58 i)), ⟨_, rfl, fun b h1 h2 => by simp (disch := omega) only [u1_f, u1_s, u2_f, u2_s, up_s, up_n, ud_s, ud_n]; exact k1 b h1 h2, fun s hs' => ?_⟩, fun back => ?_⟩
    · simp (disch := omega) only [u1_f, u1_s, u2_f, u2_s, up_s, up_n, ud_s, ud_n]
      by_cases e : s = i
      · subst e
        simp (disch := omega) only [ud_s, ud_n]
        rw [oz 55 (by omega), oz 56 (by omega), oz 57 (by omega), oz 58 (by omega), oz 60 (by omega)]
        exact ⟨rfl, rfl, rfl, rfl, rfl⟩
      · have := k2 s (by omega)
        simp (disch := omega) only [ud_n]
        exact this
    · simp (disch := (first | omega | (simp only [shm_l41 hM, shm_l42 hM, shm_l43 hM, shm_l44 hM, shm_l45 hM, shm_l46 hM, shm_l47 hM, shm_l48 hM, shm_l49 hM, shm_l50 hM, shm_l51 hM, shm_l52 hM, shm_l53 hM, shm_l54 hM, shm_l55 hM, shm_l56 hM, shm_l57 hM, shm_l58 hM, shm_l59 hM, shm_l60 hM, shm_l61 hM, shm_l62 hM, shm_l63 hM, shm_l64 hM, shm_l65 hM, shm_l66 hM, shm_l67 hM, shm_l68 hM, shm_l69 hM, shm_l70 hM, shm_l71 hM, shm_l72 hM, shm_l73 hM, shm_l74 hM, shm_l75 hM, shm_l76 hM, shm_l77 hM, shm_l78 hM, shm_l79 hM, shm_l80 hM]; omega))) only [lp_X12_keep_122_b, shm_p5 hM, shm_p6 hM, shm_p7 hM, shm_p8 hM, shm_p9 hM, shm_p10 hM, shm_p11 hM, shm_p12 hM, shm_p13 hM, shm_p14 hM, shm_p15 hM, shm_p16 hM, shm_p19 hM, shm_p20 hM, shm_p21 hM, shm_p22 hM, shm_p23 hM, shm_p24 hM, shm_p25 hM, shm_p26 hM, shm_p27 hM, shm_p31 hM, shm_p32 hM, shm_p37 hM, shm_p38 hM, shm_p43 hM, shm_p44 hM, shm_p48 hM, shm_p49 hM, shm_p50 hM, shm_p51 hM, shm_p52 hM, shm_p53 hM, shm_p54 hM, shm_p55 hM, shm_p62 hM, shm_p63 hM, shm_p64 hM, shm_p65 hM, shm_p66 hM, c2', pk_mul, hnar, ↓eM, eL_0, eL_1, eL_2, eL_3, eL_4, eL_5, eL_6, eL_7, eL_8, eL_9, eL_10, eL_11, eL_12, eL_15, eL_16, eL_20, eL_24, eL_30, eL_31, eL_32, eL_39, eL_40, eL_41, eL_42, eL_43, eL_45, eL_47, eL_48, eL_49, eL_50, eL_57, eL_59, eL_60, eL_61, eL_90, eL_96, eL_97, eL_100, eL_122, eL_160, eL_161, eL_255, eL_300, eL_343, eL_999, eL_1000, eL_1920, eL_9999, eL_10000, eL_999999, eL_100000, eL_1000000, ↓reduceIte, ↓bl_e, bd_e, u1_f, u1_s, u2_f, u2_s, w_cl, w_ltT, w_ltF, w_leT, w_leF, w_eqT, w_eqF, w_mlt, w_ltm, w_mle, w_lem, w_eqm, w_meq, w_mltm, nI_add, w_sub, w_addm, up_s, up_n, ud_s, ud_n, ck_n, bz_0, bz_1]
  · rintro _ ⟨z, rfl, k1, k2⟩ back
    have c2' : z.1 40 18 = nI K := by rw [k1 40 (by omega) (by omega), o3 40 (by omega)]; exact c5
    simp (disch := omega) only [lp_X12_keep_122_b, c2', w_leT, ↓reduceIte]
  rintro _ ⟨z, rfl, k1, k2⟩
  have e40 : z.1 40 = y.1 40 := (k1 40 (by omega) (by omega)).trans (o3 40 (by omega))
  refine ⟨U1 (U1 (U1 (U1 z 40 56 (nI M)) 40 57 (y.1 40 2)) 40 58 (y.1 40 3)) 40 59 (nI W), ?_, ⟨?_, ?_, ?_, ?_, fun p hp => ?_, fun p hp => ?_, fun p hp => ?_, fun s hs' => ?_⟩, fun b h1 h2 => ?_, fun k hk => ?_⟩
  · simp (disch := omega) only [u1_f, u1_s, u2_f, u2_s, up_s, up_n, ud_s, ud_n, ↓bl_e, e40, c2, c8]
  · simp (disch := omega) only [u1_f, u1_s, u2_f, u2_s, up_s, up_n, ud_s, ud_n]
  · simp (disch := omega) only [u1_f, u1_s, u2_f, u2_s, up_s, up_n, ud_s, ud_n]
  · simp (disch := omega) only [u1_f, u1_s, u2_f, u2_s, up_s, up_n, ud_s, ud_n]
  · simp (disch := omega) only [u1_f, u1_s, u2_f, u2_s, up_s, up_n, ud_s, ud_n]
  · simp (disch := omega) only [u1_f, u1_s, u2_f, u2_s, up_s, up_n, ud_s, ud_n]
    rw [k1 68 (by omega) (by omega), k1 69 (by omega) (by omega), k1 70 (by omega) (by omega), h1 68 (by omega), h1 69 (by omega), h1 70 (by omega), g1 68 (by omega) (by omega), g1 69 (by omega) (by omega), g1 70 (by omega) (by omega)]
    exact f2 p hp
  · simp (disch := omega) only [u1_f, u1_s, u2_f, u2_s, up_s, up_n, ud_s, ud_n]
    rw [k1 71 (by omega) (by omega), k1 72 (by omega) (by omega), h1 71 (by omega), h1 72 (by omega)]
    exact g2 p hp
  · simp (disch := omega) only [u1_f, u1_s, u2_f, u2_s, up_s, up_n, ud_s, ud_n]
    rw [k1 73 (by omega) (by omega)]
    exact h2 p hp
  · simp (disch := omega) only [u1_f, u1_s, u2_f, u2_s, up_s, up_n, ud_s, ud_n]; exact k2 s hs'
  · simp (disch := omega) only [u1_f, u1_s, u2_f, u2_s, up_s, up_n, ud_s, ud_n]; rw [k1 b (by omega) (by omega)]; exact o3 b (by omega)
  · simp (disch := omega) only [u1_f, u1_s, u2_f, u2_s, up_s, up_n, ud_s, ud_n]; rw [e40]
end KEEP
