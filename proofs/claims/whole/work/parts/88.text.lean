/-! LAYER 3: text -/
def zTj (S : SH) (x y : DY) (j : Nat) : Prop := S.2.2.2 46 j = some (tX j) ∧ S.2.2.2 (tX j) 0 = some (kX j) ∧ S.2.2.2 (tX j) 1 = some (gX j) ∧ S.2.2.2 (tX j) 2 = some (sX j) ∧ ∃ P G : List Nat, zWf P ∧ zWf G ∧ zPr S x y (kX j) (sX j) (2 * j) P ∧ zPr S x y (gX j) (sX j) (2 * j + 1) G
theorem zPr.mv {S S' : SH} {x y x' y' : DY} {tk sk p2 : Nat} {P : List Nat} (h : zPr S x y tk sk p2 P) (h1 : S'.2.2.1 tk = S.2.2.1 tk) (h2 : S'.2.2.1 sk = S.2.2.1 sk) (h3 : x'.1 tk = x.1 tk) (h4 : ∀ i, i < 160 → y'.1 63 (160 * p2 + i) = y.1 63 (160 * p2 + i)) (h5 : y'.1 62 p2 = y.1 62 p2) : zPr S' x' y' tk sk p2 P := by
  obtain ⟨a1, a2, a3, a4, a5, a6⟩ := h
  refine ⟨h1.trans a1, by rw [h2]; exact a2, by rw [h2]; exact a3, fun i hi => by rw [h3]; exact a4 i hi, fun i hi => by rw [h4 i (by omega)]; exact a5 i hi, h5.trans a6⟩
theorem zTj.mv {S S' : SH} {x y x' y' : DY} {j T : Nat} (h : zTj S x y j) (hj : j < T) (hp : ∀ b k, b < 147 + 4 * T → (b = 46 → k ≠ T) → S'.2.2.2 b k = S.2.2.2 b k) (hl : ∀ b, b < 147 + 4 * T → S'.2.2.1 b = S.2.2.1 b) (hx : ∀ b, b < 147 + 4 * T → (b < 5 ∨ 152 ≤ b) → x'.1 b = x.1 b) (h1 : ∀ q, q < 160 * (2 * T) → y'.1 63 q = y.1 63 q) (h2 : ∀ q, q < 2 * T → y'.1 62 q = y.1 62 q) : zTj S' x' y' j := by
  obtain ⟨a1, a2, a3, a4, P, G, a5, a6, a7, a8⟩ := h
  have ht : tX j ≠ 46 ∧ tX j < 147 + 4 * T := by unfold tX; split <;> omega
  have hk := kX_ok j
  have hg := gX_ok j
  have hk2 : kX j < 147 + 4 * T := by unfold kX; split <;> omega
  have hg2 : gX j < 147 + 4 * T := by unfold gX; split <;> omega
  have hs2 : sX j < 147 + 4 * T := by unfold sX; split <;> omega
  exact ⟨by rw [hp 46 j (by omega) (fun _ => by omega)]; exact a1, by rw [hp _ _ ht.2 (fun h => absurd h ht.1)]; exact a2, by rw [hp _ _ ht.2 (fun h => absurd h ht.1)]; exact a3, by rw [hp _ _ ht.2 (fun h => absurd h ht.1)]; exact a4, P, G, a5, a6, a7.mv (hl _ hk2) (hl _ hs2) (hx _ hk2 (by omega)) (fun i hi => h1 _ (by omega)) (h2 _ (by omega)), a8.mv (hl _ hg2) (hl _ hs2) (hx _ hg2 (by omega)) (fun i hi => h1 _ (by omega)) (h2 _ (by omega))⟩
section GR
variable {S : SH} {T pl gl n r : Nat}
theorem zGr_f (ha : 60 < S.1) : (zGr S T pl gl).1 = S.1 + 4 ∧ (∀ b, b < S.1 → (zGr S T pl gl).2.1 b = S.2.1 b ∧ (zGr S T pl gl).2.2.1 b = S.2.2.1 b ∧ (b ≠ 46 → (zGr S T pl gl).2.2.2 b = S.2.2.2 b)) ∧ (∀ j, (zGr S T pl gl).2.2.2 46 j = if j = T then some S.1 else S.2.2.2 46 j) ∧ (zGr S T pl gl).2.1 S.1 = 10 ∧ (zGr S T pl gl).2.1 (S.1 + 1) = 14 ∧ (zGr S T pl gl).2.1 (S.1 + 2) = 14 ∧ (zGr S T pl gl).2.1 (S.1 + 3) = 14 ∧ (zGr S T pl gl).2.2.1 (S.1 + 1) = pl ∧ (zGr S T pl gl).2.2.1 (S.1 + 2) = gl ∧ (zGr S T pl gl).2.2.1 (S.1 + 3) = max pl gl ∧ (zGr S T pl gl).2.2.2 S.1 0 = some (S.1 + 1) ∧ (zGr S T pl gl).2.2.2 S.1 1 = some (S.1 + 2) ∧ (zGr S T pl gl).2.2.2 S.1 2 = some (S.1 + 3) := by
  refine ⟨rfl, fun b hb => ⟨?_, ?_, fun h46 => ?_⟩, fun j => ?_, ?_, ?_, ?_, ?_, ?_, ?_, ?_, ?_, ?_, ?_⟩
  all_goals
    unfold zGr UP SN
    dsimp only
    try unfold up2
    try dsimp only
  · rw [if_neg (by omega), if_neg (by omega), if_neg (by omega), if_neg (by omega)]
  · rw [if_neg (by omega), if_neg (by omega), if_neg (by omega), if_neg (by omega)]
  · rw [if_neg h46, if_neg (by omega), if_neg (by omega), if_neg (by omega), if_neg (by omega), if_neg (by omega), if_neg (by omega), if_neg (by omega)]
  · rw [if_pos rfl]
    by_cases e : j = T
    · rw [if_pos e, if_pos e]
    · rw [if_neg e, if_neg e, if_neg (by omega), if_neg (by omega), if_neg (by omega), if_neg (by omega), if_neg (by omega), if_neg (by omega), if_neg (by omega)]
  · rw [if_neg (by omega), if_neg (by omega), if_neg (by omega), if_pos rfl]
  · rw [if_neg (by omega), if_neg (by omega), if_pos rfl]
  · rw [if_neg (by omega), if_pos (by omega)]
  · rw [if_pos (by omega)]
  · rw [if_neg (by omega), if_neg (by omega), if_pos rfl]
  · rw [if_neg (by omega), if_pos (by omega)]
  · rw [if_pos (by omega)]
  · rw [if_neg (by omega), if_pos rfl, if_neg (by omega), if_neg (by omega), if_pos rfl, if_neg (by omega), if_pos rfl, if_pos rfl]
  · rw [if_neg (by omega), if_pos rfl, if_neg (by omega), if_neg (by omega), if_pos rfl, if_pos rfl]
  · rw [if_neg (by omega), if_pos rfl, if_pos rfl]
theorem SR.gr (h : SR S r n) (h1 : 47 ≤ r) (h2 : r + 20 ≤ S.1) : SR (zGr S T pl gl) r n := by
  obtain ⟨g1, g2, -⟩ := zGr_f (S := S) (T := T) (pl := pl) (gl := gl) (by omega)
  obtain ⟨k1, k2, k3, k4, k5, k6, k7, k8⟩ := h
  refine ⟨?_, ?_, fun q hq => ?_, fun q hq => ?_, ?_, ?_, k7, k8⟩
  · rw [(g2 r (by omega)).2.2 (by omega)]; exact k1
  · rw [(g2 r (by omega)).2.2 (by omega)]; exact k2
  · have := (by decide : ∀ q ∈ sr_tab, q.1 < 20) q hq
    rw [(g2 (r + q.1) (by omega)).2.2 (by omega)]; exact k3 q hq
  · have : q.1 < 20 := by
      revert hq; revert q; decide
    rw [(g2 (r + q.1) (by omega)).2.1]; exact k4 q hq
  · rw [(g2 (r + 16) (by omega)).2.1]; exact k5
  · rw [(g2 (r + 19) (by omega)).2.1]; exact k6
theorem SX.gr (h : SX S) (h2 : 91 ≤ S.1) : SX (zGr S T pl gl) := by
  obtain ⟨g1, g2, -⟩ := zGr_f (S := S) (T := T) (pl := pl) (gl := gl) (by omega)
  obtain ⟨k1, k2⟩ := h
  refine ⟨fun q hq => ?_, fun q hq => ?_⟩
  · have := (by decide : ∀ q ∈ sx_tab, q.1 < 91 ∧ q.1 ≠ 46) q hq
    rw [(g2 q.1 (by omega)).2.2 (by omega)]; exact k1 q hq
  · have : q.1 < 91 := by
      revert hq; revert q; decide
    rw [(g2 q.1 (by omega)).2.1]; exact k2 q hq
theorem WT.gr (h : WT S) (h2 : 91 ≤ S.1) (h46 : S.2.1 46 = 17) : WT (zGr S T pl gl) := by
  obtain ⟨g1, g2, g3, g4, g5, g6, g7, g8, g9, g10, g11, g12, g13⟩ := zGr_f (S := S) (T := T) (pl := pl) (gl := gl) (by omega)
  obtain ⟨k1, k2, k3, k4⟩ := h
  have lift : ∀ b c, TY S b c → TY (zGr S T pl gl) b c := fun b c hb => ⟨hb.1, by rw [g1]; have := hb.2.1; omega, by rw [(g2 b hb.2.1).1]; exact hb.2.2⟩
  have old : ∀ a c, TY (zGr S T pl gl) a c → c ≠ 10 → c ≠ 14 → TY S a c := fun a c ha n1 n2 => by
    have h1 := ha.2.1
    rw [g1] at h1
    have h3 := ha.2.2
    by_cases e : a < S.1
    · exact ⟨ha.1, e, by rw [← (g2 a e).1]; exact h3⟩
    · exfalso
      obtain e | e | e | e : a = S.1 ∨ a = S.1 + 1 ∨ a = S.1 + 2 ∨ a = S.1 + 3 := by omega
      · rw [e, g4] at h3; exact n1 h3.symm
      · rw [e, g5] at h3; exact n2 h3.symm
      · rw [e, g6] at h3; exact n2 h3.symm
      · rw [e, g7] at h3; exact n2 h3.symm
  have t1 : TY (zGr S T pl gl) (S.1 + 1) 14 := ⟨by omega, by rw [g1]; omega, g5⟩
  have t2 : TY (zGr S T pl gl) (S.1 + 2) 14 := ⟨by omega, by rw [g1]; omega, g6⟩
  have t3 : TY (zGr S T pl gl) (S.1 + 3) 14 := ⟨by omega, by rw [g1]; omega, g7⟩
  have t0 : TY (zGr S T pl gl) S.1 10 := ⟨by omega, by rw [g1]; omega, g4⟩
  refine ⟨fun a c hc ha k hk hr => ?_, fun a ha i b hb => ?_, fun a ha i b hb => ?_, fun a ha i b hb => ?_⟩
  · have h1 := ha.2.1
    rw [g1] at h1
    have h3 := ha.2.2
    by_cases e : a < S.1
    · have haS : TY S a c := ⟨ha.1, e, by rw [← (g2 a e).1]; exact h3⟩
      have hne : a ≠ 46 := by rintro rfl; have := haS.2.2.symm.trans h46; omega
      obtain ⟨b, q1, q2, q3⟩ := k1 a c hc haS k hk hr
      refine ⟨b, by rw [(g2 a e).2.2 hne]; exact q1, fun h => lift _ _ (q2 h), fun h => ?_⟩
      rcases q3 h with q | q
      · exact Or.inl q
      · exact Or.inr (lift _ _ q)
    · obtain e | e | e | e : a = S.1 ∨ a = S.1 + 1 ∨ a = S.1 + 2 ∨ a = S.1 + 3 := by omega
      · subst e
        have hc10 : c = 10 := h3.symm.trans g4
        subst hc10
        have hk3 : k < 3 := hk
        obtain rfl | rfl | rfl : k = 0 ∨ k = 1 ∨ k = 2 := by omega
        · exact ⟨S.1 + 1, g11, fun h => absurd rfl h, fun _ => Or.inr t1⟩
        · exact ⟨S.1 + 2, g12, fun h => absurd rfl h, fun _ => Or.inr t2⟩
        · exact ⟨S.1 + 3, g13, fun _ => t3, fun h => absurd h (by decide)⟩
      · rw [e, g5] at h3; omega
      · rw [e, g6] at h3; omega
      · rw [e, g7] at h3; omega
  · have haS := old a 16 ha (by omega) (by omega)
    have hne : a ≠ 46 := by rintro rfl; have := haS.2.2.symm.trans h46; omega
    rw [(g2 a haS.2.1).2.2 hne] at hb
    exact lift _ _ (k2 a haS i b hb)
  · have haS := old a 17 ha (by omega) (by omega)
    by_cases hne : a = 46
    · subst hne
      rw [g3 i] at hb
      by_cases e : i = T
      · rw [if_pos e] at hb
        injection hb with hb
        rw [← hb]; exact t0
      · rw [if_neg e] at hb
        exact lift _ _ (k3 46 haS i b hb)
    · rw [(g2 a haS.2.1).2.2 hne] at hb
      exact lift _ _ (k3 a haS i b hb)
  · have haS := old a 18 ha (by omega) (by omega)
    have hne : a ≠ 46 := by rintro rfl; have := haS.2.2.symm.trans h46; omega
    rw [(g2 a haS.2.1).2.2 hne] at hb
    exact lift _ _ (k4 a haS i b hb)
end GR
theorem zGd_pos {P : List Nat} (h : zGd P) : 0 < P.length := by
  cases P with
  | nil => have := h.1 [] 0; cases this
  | cons => exact Nat.succ_pos _
section TEXT
variable {N : Nat} {S Sm : SH} {x y : DY}
set_option maxHeartbeats 1600000 in
theorem k_text (hN : 600 ≤ N) (hW0 : zW S x Sm y) : zJ (fA_X11_text N S 40 x) (f_X12_text N Sm 40 y) (zQA Sm) := by
  have hW1 := hW0; obtain ⟨n, M, K, W, w, T, c, hW⟩ := hW1; have hW' := hW; obtain ⟨⟨hS, hM, hX, -, -, hmn, hE, hT⟩, ⟨hS1, hS2, hS3⟩, hR, hF, hH, hP, hZ, hWm, hTm, hU⟩ := hW'
  have hZ' := hZ
  obtain ⟨z1, z2, z3, z4, z5, z6, z7, z8⟩ := hZ'
  have hT' := hT
  obtain ⟨t1, t2, t3, t4, t5, t6, t7, t8, t9⟩ := hT'
  have k40 : S.2.1 40 = 11 := z7 (40, 11) (by decide)
  have k45 : S.2.1 45 = 7 := z7 (45, 7) (by decide)
  have k46 : S.2.1 46 = 17 := z7 (46, 17) (by decide)
  have k49 : S.2.1 49 = 5 := z7 (49, 5) (by decide)
  have k54 : S.2.1 54 = 14 := z7 (54, 14) (by decide)
  have b40 : 40 < S.1 := by omega
  have fk0 : frB S [some (.ref 40), none] [] = true := by simp [frB, inB, b40]
  have T40 : 40 ≤ 40 ∧ 40 < S.1 ∧ S.2.1 40 = 11 := ⟨by omega, by omega, k40⟩
  have T45 : 40 ≤ 45 ∧ 45 < S.1 ∧ S.2.1 45 = 7 := ⟨by omega, by omega, k45⟩
  have T49 : 40 ≤ 49 ∧ 49 < S.1 ∧ S.2.1 49 = 5 := ⟨by omega, by omega, k49⟩
  by_cases h6 : T = 6
  · refine ⟨(-nI 4, S, x), (-nI 4, y), ?_, by simp (disch := (first | omega | (simp only [shm_l41 hM, shm_l42 hM, shm_l43 hM, shm_l44 hM, shm_l45 hM, shm_l46 hM, shm_l47 hM, shm_l48 hM, shm_l49 hM, shm_l50 hM, shm_l51 hM, shm_l52 hM, shm_l53 hM, shm_l54 hM, shm_l55 hM, shm_l56 hM, shm_l57 hM, shm_l58 hM, shm_l59 hM, shm_l60 hM, shm_l61 hM, shm_l62 hM, shm_l63 hM, shm_l64 hM, shm_l65 hM, shm_l66 hM, shm_l67 hM, shm_l68 hM, shm_l69 hM, shm_l70 hM, shm_l71 hM, shm_l72 hM, shm_l73 hM, shm_l74 hM, shm_l75 hM, shm_l76 hM, shm_l77 hM, shm_l78 hM, shm_l79 hM, shm_l80 hM]; omega))) only [f_X12_text, t5, h6, ↓eM, eL_0, eL_1, eL_2, eL_3, eL_4, eL_5, eL_6, eL_7, eL_8, eL_9, eL_10, eL_11, eL_12, eL_15, eL_16, eL_20, eL_24, eL_30, eL_31, eL_32, eL_39, eL_40, eL_41, eL_42, eL_43, eL_45, eL_47, eL_48, eL_49, eL_50, eL_57, eL_59, eL_60, eL_61, eL_90, eL_96, eL_97, eL_100, eL_122, eL_160, eL_161, eL_255, eL_300, eL_343, eL_999, eL_1000, eL_1920, eL_9999, eL_10000, eL_999999, eL_100000, eL_1000000, ↓reduceIte, ↓bl_e, bd_e, u1_f, u1_s, u2_f, u2_s, w_cl, w_ltT, w_ltF, w_leT, w_leF, w_eqT, w_eqF, w_mlt, w_ltm, w_mle, w_lem, w_eqm, w_meq, w_mltm, nI_add, w_sub, w_addm, up_s, up_n, ud_s, ud_n, ck_n, bz_0, bz_1], rfl, hW0⟩
    have e : f_X7_areFull N S 45 x = some (nI 1) := by
      simp (disch := (first | omega | (simp only [sr_l2 hS, sr_l3 hS, sr_l4 hS, sr_l5 hS, sr_l6 hS, sr_l8 hS, sr_l9 hS, sr_l10 hS, sr_l11 hS, sr_l12 hS, sr_l13 hS, sr_l14 hS, sr_l15 hS, sr_l16 hS, sr_l18 hS, sr_l19 hS, sx_l42 hX, sx_l43 hX, sx_l44 hX, sx_l46 hX, sx_l50 hX, sx_l51 hX, sx_l52 hX, sx_l53 hX, sx_l54 hX, sx_l56 hX, sx_l57 hX, sx_l58 hX, sx_l60 hX, sx_l61 hX, sx_l62 hX, sx_l63 hX, sx_l64 hX, sx_l65 hX, sx_l66 hX, sx_l88 hX, sx_l89 hX, sx_l90 hX, sx_l0 hX, sx_l1 hX, sx_l2 hX, sx_l5 hX, sx_l6 hX, sx_l7 hX, sx_l8 hX, sx_l9 hX, sx_l10 hX, sx_l11 hX, sx_l12 hX, sx_l13 hX, sx_l14 hX, sx_l15 hX]; omega))) only [f_X7_areFull, sx_m0 hX, sx_m1 hX, sx_m2 hX, sx_c0 hX, sx_c1 hX, sx_c2 hX, sx_c3 hX, sx_c4 hX, sx_c5 hX, sx_c6 hX, sx_u0 hX, sx_t0 hX, sx_t2 hX, sx_t3 hX, sx_t4 hX, sx_t7 hX, sx_f0 hX, sx_f1 hX, sx_f2 hX, sx_h0 hX, sx_h1 hX, sx_h2 hX, sx_g0 hX, sx_g1 hX, sx_g2 hX, t4, h6, ↓eM, eL_0, eL_1, eL_2, eL_3, eL_4, eL_5, eL_6, eL_7, eL_8, eL_9, eL_10, eL_11, eL_12, eL_15, eL_16, eL_20, eL_24, eL_30, eL_31, eL_32, eL_39, eL_40, eL_41, eL_42, eL_43, eL_45, eL_47, eL_48, eL_49, eL_50, eL_57, eL_59, eL_60, eL_61, eL_90, eL_96, eL_97, eL_100, eL_122, eL_160, eL_161, eL_255, eL_300, eL_343, eL_999, eL_1000, eL_1920, eL_9999, eL_10000, eL_999999, eL_100000, eL_1000000, ↓reduceIte, ↓bl_e, bd_e, u1_f, u1_s, u2_f, u2_s, w_cl, w_ltT, w_ltF, w_leT, w_leF, w_eqT, w_eqF, w_mlt, w_ltm, w_mle, w_lem, w_eqm, w_meq, w_mltm, nI_add, w_sub, w_addm, up_s, up_n, ud_s, ud_n, ck_n, bz_0, bz_1]
    unfold fA_X11_text
    rw [tk_t T40, sx_oc1 hX, rfk_s, fk_t fk0, tk_t T45, tk_t T45, e, bd_e, if_neg (show ¬ nI 1 = 0 by decide)]
    rfl
  have e4 : f_X7_areFull N S 45 x = some (nI 0) := by
    simp (disch := (first | omega | (simp only [sr_l2 hS, sr_l3 hS, sr_l4 hS, sr_l5 hS, sr_l6 hS, sr_l8 hS, sr_l9 hS, sr_l10 hS, sr_l11 hS, sr_l12 hS, sr_l13 hS, sr_l14 hS, sr_l15 hS, sr_l16 hS, sr_l18 hS, sr_l19 hS, sx_l42 hX, sx_l43 hX, sx_l44 hX, sx_l46 hX, sx_l50 hX, sx_l51 hX, sx_l52 hX, sx_l53 hX, sx_l54 hX, sx_l56 hX, sx_l57 hX, sx_l58 hX, sx_l60 hX, sx_l61 hX, sx_l62 hX, sx_l63 hX, sx_l64 hX, sx_l65 hX, sx_l66 hX, sx_l88 hX, sx_l89 hX, sx_l90 hX, sx_l0 hX, sx_l1 hX, sx_l2 hX, sx_l5 hX, sx_l6 hX, sx_l7 hX, sx_l8 hX, sx_l9 hX, sx_l10 hX, sx_l11 hX, sx_l12 hX, sx_l13 hX, sx_l14 hX, sx_l15 hX]; omega))) only [f_X7_areFull, sx_m0 hX, sx_m1 hX, sx_m2 hX, sx_c0 hX, sx_c1 hX, sx_c2 hX, sx_c3 hX, sx_c4 hX, sx_c5 hX, sx_c6 hX, sx_u0 hX, sx_t0 hX, sx_t2 hX, sx_t3 hX, sx_t4 hX, sx_t7 hX, sx_f0 hX, sx_f1 hX, sx_f2 hX, sx_h0 hX, sx_h1 hX, sx_h2 hX, sx_g0 hX, sx_g1 hX, sx_g2 hX, t4, ↓eM, eL_0, eL_1, eL_2, eL_3, eL_4, eL_5, eL_6, eL_7, eL_8, eL_9, eL_10, eL_11, eL_12, eL_15, eL_16, eL_20, eL_24, eL_30, eL_31, eL_32, eL_39, eL_40, eL_41, eL_42, eL_43, eL_45, eL_47, eL_48, eL_49, eL_50, eL_57, eL_59, eL_60, eL_61, eL_90, eL_96, eL_97, eL_100, eL_122, eL_160, eL_161, eL_255, eL_300, eL_343, eL_999, eL_1000, eL_1920, eL_9999, eL_10000, eL_999999, eL_100000, eL_1000000, ↓reduceIte, ↓bl_e, bd_e, u1_f, u1_s, u2_f, u2_s, w_cl, w_ltT, w_ltF, w_leT, w_leF, w_eqT, w_eqF, w_mlt, w_ltm, w_mle, w_lem, w_eqm, w_meq, w_mltm, nI_add, w_sub, w_addm, up_s, up_n, ud_s, ud_n, ck_n, bz_0, bz_1]
  obtain ⟨Z, hZ160, hx1, hy28, hB⟩ := hP
  have hBB : ∃ B : Nat → Nat, ∀ i, i < Z → B i < 256 ∧ x.1 50 i = nI (B i) ∧ y.1 61 i = sb (B i) := ⟨fun i => (x.1 50 i).toNatClampNeg, fun i hi => by
    obtain ⟨b, h1, h2, h3⟩ := hB i hi
    have : (x.1 50 i).toNatClampNeg = b := by rw [h2, w_cl (by omega)]
    show (x.1 50 i).toNatClampNeg < 256 ∧ x.1 50 i = nI (x.1 50 i).toNatClampNeg ∧ y.1 61 i = sb (x.1 50 i).toNatClampNeg
    rw [this]
    exact ⟨h1, h2, h3⟩⟩
  obtain ⟨B, hB'⟩ := hBB
  obtain ⟨r, x', y', p1, p2, fa, fb, alt⟩ := k_read (N := N) (Z := Z) (B := B) hN hX hM hE hZ160 hx1 (fun i hi => ⟨(hB' i hi).1, (hB' i hi).2.1⟩) ⟨hy28, fun i hi => ⟨(hB' i hi).1, (hB' i hi).2.2⟩⟩ (Tn := T) (by omega) t5
  have pre : ∀ o : Option (Int32 × SH × DY), o = (if r = 0 then some (((-100) - ((U1 x' 49 1 0).1 49 10)), S, U1 x' 49 1 0) else fk S [some (.ref 40), some (.int r)] [.ref 45] (tk S 49 5 (Option.bind (fA_X5_copyOfText N S 49 (U1 x' 49 1 0)) (fun r32 => fk r32.2.1 [some (.ref 40), some (.int r)] [] (tk r32.2.1 45 7 (Option.bind (fA_X7_add N r32.2.1 45 r32.1 r32.2.2) (fun r35 => some (r35.1, r35.2.1, r35.2.2)))))))) → fA_X11_text N S 40 x = o := fun o ho => by
    rw [ho]
    unfold fA_X11_text
    rw [tk_t T40, sx_oc1 hX, rfk_s, fk_t fk0, tk_t T45, tk_t T45, e4, bd_e, if_pos (show nI 0 = 0 from rfl), tk_t T40, sx_oc2 hX, rfk_s, fk_t fk0, tk_t T49, tk_t T49, p1, bd_e]
    dsimp only
    rw [tk_t T40, rfk_s, tk_t T49, bl_e, tk_t T40, rfk_s, tk_t T49, tk_t T40, rfk_s, tk_t T40, rfk_s]
  have w1 : (U1 x' 49 1 (nI 0)).1 49 10 = x'.1 49 10 := by simp (disch := omega) only [u1_f, u1_s, u2_f, u2_s, up_s, up_n, ud_s, ud_n]
  have q0 : (0 : Int32) = nI 0 := rfl
  rw [q0] at pre
  -- frames from x to U1 x' 49 1 0 and from y to y' with its tape's size 0
  have hmn' : zMn (U1 x' 49 1 (nI 0)) (U1 y' 40 28 (nI 0)) w := hmn.k (fun q h1 h2 => by simp (disch := omega) only [u1_f, u1_s, u2_f, u2_s, up_s, up_n, ud_s, ud_n]; exact fa.1 q (by omega) (by omega)) (fun q h1 h2 => by simp (disch := omega) only [u1_f, u1_s, u2_f, u2_s, up_s, up_n, ud_s, ud_n]; exact fb.1 q (by omega) (by omega) (by omega) (by omega) (by omega)) (by simp (disch := omega) only [u1_f, u1_s, u2_f, u2_s, up_s, up_n, ud_s, ud_n]; exact fb.2.1 4 (by omega))
  have hE' : zEX (U1 x' 49 1 (nI 0)) := hE.k (fun q hq => by simp (disch := omega) only [u1_f, u1_s, u2_f, u2_s, up_s, up_n, ud_s, ud_n]; exact fa.1 q (by omega) (by omega))
  have hR' : zRR 67 n (U1 x' 49 1 (nI 0)) (U1 y' 40 28 (nI 0)) M K W := hR.k (fun q h1 h2 => by simp (disch := omega) only [u1_f, u1_s, u2_f, u2_s, up_s, up_n, ud_s, ud_n]; exact fa.1 q (by omega) (by omega)) (fun q h1 h2 => by simp (disch := omega) only [u1_f, u1_s, u2_f, u2_s, up_s, up_n, ud_s, ud_n]; exact fb.1 q (by omega) (by omega) (by omega) (by omega) (by omega)) (fun k hk => by simp (disch := omega) only [u1_f, u1_s, u2_f, u2_s, up_s, up_n, ud_s, ud_n]; exact fb.2.1 k (by omega))
  have hF' : zFi (U1 x' 49 1 (nI 0)) (U1 y' 40 28 (nI 0)) := hF.k (by simp (disch := omega) only [u1_f, u1_s, u2_f, u2_s, up_s, up_n, ud_s, ud_n]; exact fa.1 56 (by omega) (by omega)) (by simp (disch := omega) only [u1_f, u1_s, u2_f, u2_s, up_s, up_n, ud_s, ud_n]; exact fa.1 57 (by omega) (by omega)) (by simp (disch := omega) only [u1_f, u1_s, u2_f, u2_s, up_s, up_n, ud_s, ud_n]; exact fb.1 76 (by omega) (by omega) (by omega) (by omega) (by omega))
  have hH' : zSh (U1 x' 49 1 (nI 0)) (U1 y' 40 28 (nI 0)) := hH.k (fun q h1 h2 => by simp (disch := omega) only [u1_f, u1_s, u2_f, u2_s, up_s, up_n, ud_s, ud_n]; exact fa.1 q (by omega) (by omega)) (by simp (disch := omega) only [u1_f, u1_s, u2_f, u2_s, up_s, up_n, ud_s, ud_n]; exact fb.1 78 (by omega) (by omega) (by omega) (by omega) (by omega)) (by simp (disch := omega) only [u1_f, u1_s, u2_f, u2_s, up_s, up_n, ud_s, ud_n]; exact fb.1 79 (by omega) (by omega) (by omega) (by omega) (by omega)) (by simp (disch := omega) only [u1_f, u1_s, u2_f, u2_s, up_s, up_n, ud_s, ud_n]; exact fb.1 80 (by omega) (by omega) (by omega) (by omega) (by omega))
  have hP' : zTp (U1 x' 49 1 (nI 0)) (U1 y' 40 28 (nI 0)) := ⟨0, Nat.zero_le _, by simp (disch := omega) only [u1_f, u1_s, u2_f, u2_s, up_s, up_n, ud_s, ud_n], by simp (disch := omega) only [u1_f, u1_s, u2_f, u2_s, up_s, up_n, ud_s, ud_n], fun i hi => absurd hi (Nat.not_lt_zero i)⟩
  have hU' : ∀ s, K ≤ s → s < 8 → (U1 y' 40 28 (nI 0)).1 60 s = nI 0 := fun s g1 g2 => by simp (disch := omega) only [u1_f, u1_s, u2_f, u2_s, up_s, up_n, ud_s, ud_n]; rw [fb.1 60 (by omega) (by omega) (by omega) (by omega) (by omega)]; exact hU s g1 g2
  rcases alt with ⟨rfl, h36⟩ | ⟨rfl, P, G, g1, g2, g3, g4, g5, g6, g7, g8, g9, g10, g11⟩
  · refine ⟨(-nI 100 - x'.1 49 10, S, U1 x' 49 1 (nI 0)), (-nI 100 - x'.1 49 10, U1 y' 40 28 (nI 0)), pre _ ?_, ?_, rfl, n, M, K, W, w, T, c, ⟨hS, hM, hX, by omega, by omega, hmn', hE', t1, t2, t3, ?_, ?_, ?_, ?_, t8, fun j hj => ?_⟩, ⟨hS1, hS2, hS3⟩, hR', hF', hH', hP', hZ, hWm, hTm, hU'⟩
    · rw [if_pos rfl, w1]; rfl
    · simp (disch := (first | omega | (simp only [shm_l41 hM, shm_l42 hM, shm_l43 hM, shm_l44 hM, shm_l45 hM, shm_l46 hM, shm_l47 hM, shm_l48 hM, shm_l49 hM, shm_l50 hM, shm_l51 hM, shm_l52 hM, shm_l53 hM, shm_l54 hM, shm_l55 hM, shm_l56 hM, shm_l57 hM, shm_l58 hM, shm_l59 hM, shm_l60 hM, shm_l61 hM, shm_l62 hM, shm_l63 hM, shm_l64 hM, shm_l65 hM, shm_l66 hM, shm_l67 hM, shm_l68 hM, shm_l69 hM, shm_l70 hM, shm_l71 hM, shm_l72 hM, shm_l73 hM, shm_l74 hM, shm_l75 hM, shm_l76 hM, shm_l77 hM, shm_l78 hM, shm_l79 hM, shm_l80 hM]; omega))) only [f_X12_text, t5, p2, h36, ↓eM, eL_0, eL_1, eL_2, eL_3, eL_4, eL_5, eL_6, eL_7, eL_8, eL_9, eL_10, eL_11, eL_12, eL_15, eL_16, eL_20, eL_24, eL_30, eL_31, eL_32, eL_39, eL_40, eL_41, eL_42, eL_43, eL_45, eL_47, eL_48, eL_49, eL_50, eL_57, eL_59, eL_60, eL_61, eL_90, eL_96, eL_97, eL_100, eL_122, eL_160, eL_161, eL_255, eL_300, eL_343, eL_999, eL_1000, eL_1920, eL_9999, eL_10000, eL_999999, eL_100000, eL_1000000, ↓reduceIte, ↓bl_e, bd_e, u1_f, u1_s, u2_f, u2_s, w_cl, w_ltT, w_ltF, w_leT, w_leF, w_eqT, w_eqF, w_mlt, w_ltm, w_mle, w_lem, w_eqm, w_meq, w_mltm, nI_add, w_sub, w_addm, up_s, up_n, ud_s, ud_n, ck_n, bz_0, bz_1]
    · simp (disch := omega) only [u1_f, u1_s, u2_f, u2_s, up_s, up_n, ud_s, ud_n]; rw [fa.1 45 (by omega) (by omega)]; exact t4
    · simp (disch := omega) only [u1_f, u1_s, u2_f, u2_s, up_s, up_n, ud_s, ud_n]; rw [fb.2.1 29 (by omega)]; exact t5
    · simp (disch := omega) only [u1_f, u1_s, u2_f, u2_s, up_s, up_n, ud_s, ud_n]; rw [fa.1 45 (by omega) (by omega)]; exact t6
    · simp (disch := omega) only [u1_f, u1_s, u2_f, u2_s, up_s, up_n, ud_s, ud_n]; rw [fb.2.1 30 (by omega)]; exact t7
    · exact zTj.mv (T := T) (t9 j hj) hj (fun _ _ _ _ => rfl) (fun _ _ => rfl) (fun b h1 h2 => by simp (disch := omega) only [u1_f, u1_s, u2_f, u2_s, up_s, up_n, ud_s, ud_n]; exact fa.1 b (by omega) (by omega)) (fun q hq => by simp (disch := omega) only [u1_f, u1_s, u2_f, u2_s, up_s, up_n, ud_s, ud_n]; exact fb.2.2.2.1 q (by omega)) (fun q hq => by simp (disch := omega) only [u1_f, u1_s, u2_f, u2_s, up_s, up_n, ud_s, ud_n]; exact fb.2.2.1 q (by omega) (by omega))
  · obtain ⟨x5, m1, m2, m3, m4, m5, m6, m7⟩ := L_text (N := N) (S := S) (x := U1 x' 49 1 (nI 0)) (by omega) k45 k46 k49 k54 (sx_ou0 hX) (sx_ot7 hX) (sx_l46 hX) (sx_l54 hX) (T := T) (pl := P.length) (gl := G.length) (by omega) (by simp (disch := omega) only [u1_f, u1_s, u2_f, u2_s, up_s, up_n, ud_s, ud_n]; rw [fa.1 45 (by omega) (by omega)]; exact t4) (by simp (disch := omega) only [u1_f, u1_s, u2_f, u2_s, up_s, up_n, ud_s, ud_n]; exact g5) (by simp (disch := omega) only [u1_f, u1_s, u2_f, u2_s, up_s, up_n, ud_s, ud_n]; exact g6) (zGd_pos g1) g3 g4 (fun r32 => fk r32.2.1 [some (.ref 40), some (.int (nI 1))] [] (tk r32.2.1 45 7 (Option.bind (fA_X7_add N r32.2.1 45 r32.1 r32.2.2) (fun r35 => some (r35.1, r35.2.1, r35.2.2))))) (fun r35 => some (r35.1, r35.2.1, r35.2.2)) (fun b S' x' => rfl)
    have hS147 : S.1 = 147 + 4 * T := z1
    obtain ⟨v1, v2, v3, v4, v5, v6, v7, v8, v9, v10, v11, v12, v13⟩ := zGr_f (S := S) (T := T) (pl := P.length) (gl := G.length) (by omega)
    have hx5 : ∀ q, q < S.1 → q ≠ 45 → q ≠ 49 → (q < 51 ∨ 54 < q) → x5.1 q = x.1 q := fun q h1 h2 h3 h4 => by
      rw [m2 q h1 h2]
      simp (disch := omega) only [u1_f, u1_s, u2_f, u2_s, up_s, up_n, ud_s, ud_n]; exact fa.1 q h3 h4
    have fk1 : frB S [some (.ref 40), some (.int (nI 1))] [.ref 45] = true := by
      have b45 : 45 < S.1 := by omega
      simp [frB, inB, b40, b45]
    have htX : tX T = S.1 := by unfold tX; rw [if_neg (by omega), hS147]
    have hkX : kX T = S.1 + 1 := by unfold kX; rw [if_neg (by omega), hS147]; omega
    have hgX : gX T = S.1 + 2 := by unfold gX; rw [if_neg (by omega), hS147]; omega
    have hsX : sX T = S.1 + 3 := by unfold sX; rw [if_neg (by omega), hS147]; omega
    have x45 : ∀ k, k ≠ 2 → x5.1 45 k = x.1 45 k := fun k hk => by
      rw [m3 k hk]
      simp (disch := omega) only [u1_f, u1_s, u2_f, u2_s, up_s, up_n, ud_s, ud_n]; rw [fa.1 45 (by omega) (by omega)]
    refine ⟨(nI T, zGr S T P.length G.length, x5), (nI T, U1 (U1 y' 40 28 (nI 0)) 40 29 (nI (T + 1))), pre _ ?_, ?_, rfl, n, M, K, W, w, T + 1, c, ⟨hS.gr (by omega) (by omega), hM, hX.gr (by omega), by omega, by omega, hmn'.k ?_ ?_ ?_, hE'.k ?_, by omega, by omega, by omega, m4, ?_, ?_, ?_, ?_, fun j hj => ?_⟩, ⟨hS1.gr (by omega) (by omega), hS2.gr (by omega) (by omega), hS3.gr (by omega) (by omega)⟩, hR'.k ?_ ?_ ?_, hF'.k ?_ ?_ ?_, hH'.k ?_ ?_ ?_ ?_, hP'.k ?_ ?_ ?_ ?_, ⟨?_, ?_, ?_, ?_, fun s hs => ?_, z6.gr (by omega) k46, fun q hq => ?_, fun j hj => ?_⟩, hWm, hTm, fun s g1 g2 => ?_⟩
    · rw [if_neg (show ¬ nI 1 = nI 0 by decide), fk_t fk1, tk_t T49, m1]
    · have y29 : y'.1 40 29 = nI T := (fb.2.1 29 (by omega)).trans t5
      simp (disch := (first | omega | (simp only [shm_l41 hM, shm_l42 hM, shm_l43 hM, shm_l44 hM, shm_l45 hM, shm_l46 hM, shm_l47 hM, shm_l48 hM, shm_l49 hM, shm_l50 hM, shm_l51 hM, shm_l52 hM, shm_l53 hM, shm_l54 hM, shm_l55 hM, shm_l56 hM, shm_l57 hM, shm_l58 hM, shm_l59 hM, shm_l60 hM, shm_l61 hM, shm_l62 hM, shm_l63 hM, shm_l64 hM, shm_l65 hM, shm_l66 hM, shm_l67 hM, shm_l68 hM, shm_l69 hM, shm_l70 hM, shm_l71 hM, shm_l72 hM, shm_l73 hM, shm_l74 hM, shm_l75 hM, shm_l76 hM, shm_l77 hM, shm_l78 hM, shm_l79 hM, shm_l80 hM]; omega))) only [f_X12_text, t5, p2, y29, ↓eM, eL_0, eL_1, eL_2, eL_3, eL_4, eL_5, eL_6, eL_7, eL_8, eL_9, eL_10, eL_11, eL_12, eL_15, eL_16, eL_20, eL_24, eL_30, eL_31, eL_32, eL_39, eL_40, eL_41, eL_42, eL_43, eL_45, eL_47, eL_48, eL_49, eL_50, eL_57, eL_59, eL_60, eL_61, eL_90, eL_96, eL_97, eL_100, eL_122, eL_160, eL_161, eL_255, eL_300, eL_343, eL_999, eL_1000, eL_1920, eL_9999, eL_10000, eL_999999, eL_100000, eL_1000000, ↓reduceIte, ↓bl_e, bd_e, u1_f, u1_s, u2_f, u2_s, w_cl, w_ltT, w_ltF, w_leT, w_leF, w_eqT, w_eqF, w_mlt, w_ltm, w_mle, w_lem, w_eqm, w_meq, w_mltm, nI_add, w_sub, w_addm, up_s, up_n, ud_s, ud_n, ck_n, bz_0, bz_1]
      rfl
    · intro q h1 h2; exact m2 q (by omega) (by omega)
    · intro q h1 h2; simp (disch := omega) only [u1_f, u1_s, u2_f, u2_s, up_s, up_n, ud_s, ud_n]
    · simp (disch := omega) only [u1_f, u1_s, u2_f, u2_s, up_s, up_n, ud_s, ud_n]
    · intro q hq; exact m2 q (by omega) (by omega)
    · simp (disch := omega) only [u1_f, u1_s, u2_f, u2_s, up_s, up_n, ud_s, ud_n]
    · rw [x45 3 (by omega)]; exact t6
    · simp (disch := omega) only [u1_f, u1_s, u2_f, u2_s, up_s, up_n, ud_s, ud_n]; rw [fb.2.1 30 (by omega)]; exact t7
    · rw [(v2 45 (by omega)).2.2 (by omega)]; exact t8
    · show zTj (zGr S T P.length G.length) x5 (U1 (U1 y' 40 28 (nI 0)) 40 29 (nI (T + 1))) j
      by_cases e : j = T
      · subst e
        unfold zTj
        rw [htX, hkX, hgX, hsX]
        have hmax1 := Nat.le_max_left P.length G.length
        have hmax2 := Nat.le_max_right P.length G.length
        have hmax : max P.length G.length ≤ 160 := Nat.max_le.mpr ⟨by omega, by omega⟩
        refine ⟨by rw [v3 j, if_pos rfl], v11, v12, v13, P, G, g1.wf, g2.wf, ⟨v8, by rw [v10]; exact hmax1, by rw [v10]; exact hmax, fun i hi => ?_, fun i hi => ?_, ?_⟩, ⟨v9, by rw [v10]; exact hmax2, by rw [v10]; exact hmax, fun i hi => ?_, fun i hi => ?_, ?_⟩⟩
        · rw [m6 i hi]
          simp (disch := omega) only [u1_f, u1_s, u2_f, u2_s, up_s, up_n, ud_s, ud_n]
          rw [g7 i (by omega), List.getD_eq_getElem?_getD, List.getElem?_append_left hi, ← List.getD_eq_getElem?_getD]
        · simp (disch := omega) only [u1_f, u1_s, u2_f, u2_s, up_s, up_n, ud_s, ud_n]; exact g9 i hi
        · simp (disch := omega) only [u1_f, u1_s, u2_f, u2_s, up_s, up_n, ud_s, ud_n]; exact g8
        · rw [m7 i hi]
          simp (disch := omega) only [u1_f, u1_s, u2_f, u2_s, up_s, up_n, ud_s, ud_n]
          rw [g7 (P.length + i) (by omega), List.getD_eq_getElem?_getD, List.getElem?_append_right (by omega), Nat.add_sub_cancel_left, ← List.getD_eq_getElem?_getD]
        · simp (disch := omega) only [u1_f, u1_s, u2_f, u2_s, up_s, up_n, ud_s, ud_n]; exact g11 i hi
        · simp (disch := omega) only [u1_f, u1_s, u2_f, u2_s, up_s, up_n, ud_s, ud_n]; exact g10
      · refine zTj.mv (T := T) (t9 j (by omega)) (by omega) (fun b k hb hk => ?_) (fun b hb => (v2 b (by omega)).2.1) (fun b h1 h2 => hx5 b (by omega) (by omega) (by omega) (by omega)) (fun q hq => by simp (disch := omega) only [u1_f, u1_s, u2_f, u2_s, up_s, up_n, ud_s, ud_n]; exact fb.2.2.2.1 q (by omega)) (fun q hq => by simp (disch := omega) only [u1_f, u1_s, u2_f, u2_s, up_s, up_n, ud_s, ud_n]; exact fb.2.2.1 q (by omega) (by omega))
        by_cases eb : b = 46
        · subst eb
          rw [v3 k, if_neg (hk rfl)]
        · rw [(v2 b (by omega)).2.2 eb]
    · intro q h1 h2; exact m2 q (by omega) (by omega)
    · intro q h1 h2; simp (disch := omega) only [u1_f, u1_s, u2_f, u2_s, up_s, up_n, ud_s, ud_n]
    · intro k hk; simp (disch := omega) only [u1_f, u1_s, u2_f, u2_s, up_s, up_n, ud_s, ud_n]
    · exact m2 56 (by omega) (by omega)
    · exact m2 57 (by omega) (by omega)
    · simp (disch := omega) only [u1_f, u1_s, u2_f, u2_s, up_s, up_n, ud_s, ud_n]
    · intro q h1 h2; exact m2 q (by omega) (by omega)
    · simp (disch := omega) only [u1_f, u1_s, u2_f, u2_s, up_s, up_n, ud_s, ud_n]
    · simp (disch := omega) only [u1_f, u1_s, u2_f, u2_s, up_s, up_n, ud_s, ud_n]
    · simp (disch := omega) only [u1_f, u1_s, u2_f, u2_s, up_s, up_n, ud_s, ud_n]
    · exact m2 49 (by omega) (by omega)
    · exact m2 50 (by omega) (by omega)
    · simp (disch := omega) only [u1_f, u1_s, u2_f, u2_s, up_s, up_n, ud_s, ud_n]
    · simp (disch := omega) only [u1_f, u1_s, u2_f, u2_s, up_s, up_n, ud_s, ud_n]
    · rw [v1, hS147]; omega
    · rw [(v2 88 (by omega)).2.2 (by omega)]; exact z2
    · rw [(v2 88 (by omega)).2.2 (by omega)]; exact z3
    · rw [(v2 88 (by omega)).2.2 (by omega)]; exact z4
    · rw [(v2 62 (by omega)).2.2 (by omega)]; exact z5 s hs
    · have := (by decide : ∀ q ∈ zKd, q.1 < 60) q hq
      rw [(v2 q.1 (by omega)).1]; exact z7 q hq
    · by_cases e : j = T
      · rw [e, htX]; exact v4
      · have : tX j < S.1 := by unfold tX; split <;> omega
        rw [(v2 _ this).1]; exact z8 j (by omega)
    · simp (disch := omega) only [u1_f, u1_s, u2_f, u2_s, up_s, up_n, ud_s, ud_n]; rw [fb.1 60 (by omega) (by omega) (by omega) (by omega) (by omega)]; exact hU s g1 g2
end TEXT
