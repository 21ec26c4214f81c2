/-! LAYER 3: feed, force -/
theorem wb_tb (n : Nat) : (lN n).toBitVec = BitVec.ofNat 64 n := rfl
theorem wb_inj {a b : Int64} (h : a.toBitVec = b.toBitVec) : a = b := Int64.toBitVec_inj.mp h
theorem wb_tn {n : Nat} (h : n < 2 ^ 64) : (lN n).toBitVec.toNat = n := by rw [wb_tb, BitVec.toNat_ofNat, Nat.mod_eq_of_lt h]
theorem wb_of (x : Int64) : ∃ n, n < 2 ^ 64 ∧ x = lN n := ⟨x.toBitVec.toNat, x.toBitVec.isLt, wb_inj (by rw [wb_tb]; simp)⟩
theorem wb_c : ∀ k, k < 64 → ((nI k).toInt64 &&& 63) = lN k := by decide +kernel
theorem wb_cu : ∀ k, k < 64 → ((nI k).toInt64.toUInt64 &&& Int64.toUInt64 63) = UInt64.ofNat k := by decide +kernel
theorem wb_shr {n k : Nat} (hn : n < 2 ^ 64) (hk : k < 64) : ((lN n).toUInt64 >>> ((nI k).toInt64.toUInt64 &&& Int64.toUInt64 63)).toInt64 = lN (n / 2 ^ k) := by
  rw [wb_cu k hk]
  apply wb_inj
  apply BitVec.eq_of_toNat_eq
  show ((lN n).toUInt64 >>> UInt64.ofNat k).toNat = (BitVec.ofNat 64 _).toNat
  have h1 : (UInt64.ofNat k).toNat = k := by
    show (BitVec.ofNat 64 k).toNat = k
    rw [BitVec.toNat_ofNat, Nat.mod_eq_of_lt (by omega)]
  have h2 : (lN n).toUInt64.toNat = n := wb_tn hn
  rw [UInt64.toNat_shiftRight, h1, h2, Nat.mod_eq_of_lt hk, Nat.shiftRight_eq_div_pow, BitVec.toNat_ofNat, Nat.mod_eq_of_lt (Nat.lt_of_le_of_lt (Nat.div_le_self _ _) hn)]
theorem sar_toInt (v : Int64) {k : Nat} (hk : k < 64) : (v >>> lN k).toInt = v.toInt / 2 ^ k := by
  have e : (v >>> lN k).toInt = (v.toBitVec.sshiftRight' ((lN k).toBitVec.smod 64)).toInt := rfl
  have h := (by decide : ∀ k, k < 64 → ((lN k).toBitVec.smod 64).toNat = k) k hk
  rw [e, BitVec.toInt_sshiftRight', h, Int.shiftRight_eq_div_pow]
  rfl
theorem bmod_of {a b : Int} (h : a % 256 = b % 256) : a.bmod (2 ^ 8) = b.bmod (2 ^ 8) := by
  rw [Int.bmod_def, Int.bmod_def]
  have e : ((2 ^ 8 : Nat) : Int) = 256 := by decide
  rw [e, h]
theorem lN_int {n : Nat} (hn : n < 2 ^ 64) : (lN n).toInt = n ∨ (lN n).toInt = (n : Int) - 18446744073709551616 := by
  have e : (lN n).toInt = (lN n).toBitVec.toInt := rfl
  rw [e, BitVec.toInt_eq_toNat_bmod, wb_tn hn, Int.bmod_def]
  have e2 : ((2 ^ 64 : Nat) : Int) = 18446744073709551616 := by decide
  rw [e2]
  split <;> omega
theorem pow8 {i : Nat} (hi : i < 8) : (2 ^ (8 * i) : Int) = 1 ∨ (2 ^ (8 * i) : Int) = 256 ∨ (2 ^ (8 * i) : Int) = 65536 ∨ (2 ^ (8 * i) : Int) = 16777216 ∨ (2 ^ (8 * i) : Int) = 4294967296 ∨ (2 ^ (8 * i) : Int) = 1099511627776 ∨ (2 ^ (8 * i) : Int) = 281474976710656 ∨ (2 ^ (8 * i) : Int) = 72057594037927936 := by
  obtain rfl | rfl | rfl | rfl | rfl | rfl | rfl | rfl : i = 0 ∨ i = 1 ∨ i = 2 ∨ i = 3 ∨ i = 4 ∨ i = 5 ∨ i = 6 ∨ i = 7 := by omega
  all_goals decide
theorem bt_byte (v : Int64) {i : Nat} (hi : i < 8) : ∃ b, b < 256 ∧ ((v.toUInt64 >>> ((nI (8 * i)).toInt64.toUInt64 &&& Int64.toUInt64 63)).toInt64.toInt32 &&& nI 255) = nI b ∧ vp_nar .byte ((v >>> ((nI (8 * i)).toInt64 &&& 63)).toInt32.toInt8.toInt32) = (nI b).toInt8.toInt32 := by
  obtain ⟨n, hn, rfl⟩ := wb_of v
  refine ⟨n / 2 ^ (8 * i) % 256, Nat.mod_lt _ (by omega), ?_, ?_⟩
  · rw [wb_shr hn (by omega), lN_i, pk_and _ (m := nI 255) 8 (by decide)]
    have e : (nI (n / 2 ^ (8 * i))).toBitVec.toNat = n / 2 ^ (8 * i) % 2 ^ 32 := rfl
    rw [e]
    congr 1
    omega
  · rw [pk_vb, wb_c _ (by omega)]
    apply Int32.toInt_inj.mp
    rw [lg_i2b_toInt, lg_i2b_toInt, nI_toInt (by omega), Int64.toInt_toInt32, sar_toInt _ (by omega), Int.bmod_bmod_of_dvd (by decide)]
    apply bmod_of
    have hc : ((n / 2 ^ (8 * i) % 256 : Nat) : Int) = (n : Int) / 2 ^ (8 * i) % 256 := by
      simp
    rw [hc]
    rcases lN_int hn with h | h
    · rw [h]; omega
    · rw [h]
      rcases pow8 hi with h2 | h2 | h2 | h2 | h2 | h2 | h2 | h2
      all_goals
        rw [h2]
        omega
section CALLS
variable {N : Nat} {S Sm : SH} {x y : DY}
set_option maxHeartbeats 1600000 in
theorem k_feed (hN : 600 ≤ N) (hW0 : zW S x Sm y) (a1 : Int32) (v : Int64) : zJ (f_X11_feed N S 40 a1 v x) (f_X12_feed N Sm 40 a1 v y) (zQ S Sm) := by
  have hW1 := hW0; obtain ⟨n, M, K, W, w, T, c, hW⟩ := hW1; have hW' := hW; obtain ⟨⟨hS, hM, hX, -, -, hmn, hE, hT⟩, ⟨hS1, hS2, hS3⟩, hR, hF, hH, hP, hZ, hWm, hTm, hU⟩ := hW'; have hR' := hR; obtain ⟨⟨hsc, hpl, ⟨hq1, hq2, hq3, hq4⟩, hse, hzi⟩, hag⟩ := hR'; have hsc' := hsc; obtain ⟨c1, c2, c3, c4, c5, c6, c7, c8, c9, c10, c11, c12, c13, c14⟩ := hsc'
  rcases w_cases a1 9 (by omega) with h1 | ⟨-, h1⟩ | ⟨j, hj, rfl⟩
  · exact ⟨(-nI 2, x), (-nI 2, y), by simp (disch := (first | omega | (simp only [sr_l2 hS, sr_l3 hS, sr_l4 hS, sr_l5 hS, sr_l6 hS, sr_l8 hS, sr_l9 hS, sr_l10 hS, sr_l11 hS, sr_l12 hS, sr_l13 hS, sr_l14 hS, sr_l15 hS, sr_l16 hS, sr_l18 hS, sr_l19 hS, sx_l42 hX, sx_l43 hX, sx_l44 hX, sx_l46 hX, sx_l50 hX, sx_l51 hX, sx_l52 hX, sx_l53 hX, sx_l54 hX, sx_l56 hX, sx_l57 hX, sx_l58 hX, sx_l60 hX, sx_l61 hX, sx_l62 hX, sx_l63 hX, sx_l64 hX, sx_l65 hX, sx_l66 hX, sx_l88 hX, sx_l89 hX, sx_l90 hX, sx_l0 hX, sx_l1 hX, sx_l2 hX, sx_l5 hX, sx_l6 hX, sx_l7 hX, sx_l8 hX, sx_l9 hX, sx_l10 hX, sx_l11 hX, sx_l12 hX, sx_l13 hX, sx_l14 hX, sx_l15 hX]; omega))) only [f_X11_feed, f_X11_within, wn_lt h1, wn_nlt h1, wn_le h1, wn_nle h1, wn_ne h1, ↓eM, eL_0, eL_1, eL_2, eL_3, eL_4, eL_5, eL_6, eL_7, eL_8, eL_9, eL_10, eL_11, eL_12, eL_15, eL_16, eL_20, eL_24, eL_30, eL_31, eL_32, eL_39, eL_40, eL_41, eL_42, eL_43, eL_45, eL_47, eL_48, eL_49, eL_50, eL_57, eL_59, eL_60, eL_61, eL_90, eL_96, eL_97, eL_100, eL_122, eL_160, eL_161, eL_255, eL_300, eL_343, eL_999, eL_1000, eL_1920, eL_9999, eL_10000, eL_999999, eL_100000, eL_1000000, ↓reduceIte, ↓bl_e, bd_e, u1_f, u1_s, u2_f, u2_s, w_cl, w_ltT, w_ltF, w_leT, w_leF, w_eqT, w_eqF, w_mlt, w_ltm, w_mle, w_lem, w_eqm, w_meq, w_mltm, nI_add, w_sub, w_addm, up_s, up_n, ud_s, ud_n, ck_n, bz_0, bz_1], by simp (disch := (first | omega | (simp only [shm_l41 hM, shm_l42 hM, shm_l43 hM, shm_l44 hM, shm_l45 hM, shm_l46 hM, shm_l47 hM, shm_l48 hM, shm_l49 hM, shm_l50 hM, shm_l51 hM, shm_l52 hM, shm_l53 hM, shm_l54 hM, shm_l55 hM, shm_l56 hM, shm_l57 hM, shm_l58 hM, shm_l59 hM, shm_l60 hM, shm_l61 hM, shm_l62 hM, shm_l63 hM, shm_l64 hM, shm_l65 hM, shm_l66 hM, shm_l67 hM, shm_l68 hM, shm_l69 hM, shm_l70 hM, shm_l71 hM, shm_l72 hM, shm_l73 hM, shm_l74 hM, shm_l75 hM, shm_l76 hM, shm_l77 hM, shm_l78 hM, shm_l79 hM, shm_l80 hM]; omega))) only [f_X12_feed, f_X12_in, wn_lt h1, wn_nlt h1, wn_le h1, wn_nle h1, wn_ne h1, ↓eM, eL_0, eL_1, eL_2, eL_3, eL_4, eL_5, eL_6, eL_7, eL_8, eL_9, eL_10, eL_11, eL_12, eL_15, eL_16, eL_20, eL_24, eL_30, eL_31, eL_32, eL_39, eL_40, eL_41, eL_42, eL_43, eL_45, eL_47, eL_48, eL_49, eL_50, eL_57, eL_59, eL_60, eL_61, eL_90, eL_96, eL_97, eL_100, eL_122, eL_160, eL_161, eL_255, eL_300, eL_343, eL_999, eL_1000, eL_1920, eL_9999, eL_10000, eL_999999, eL_100000, eL_1000000, ↓reduceIte, ↓bl_e, bd_e, u1_f, u1_s, u2_f, u2_s, w_cl, w_ltT, w_ltF, w_leT, w_leF, w_eqT, w_eqF, w_mlt, w_ltm, w_mle, w_lem, w_eqm, w_meq, w_mltm, nI_add, w_sub, w_addm, up_s, up_n, ud_s, ud_n, ck_n, bz_0, bz_1], rfl, hW0⟩
  · exact ⟨(-nI 2, x), (-nI 2, y), by simp (disch := (first | omega | (simp only [sr_l2 hS, sr_l3 hS, sr_l4 hS, sr_l5 hS, sr_l6 hS, sr_l8 hS, sr_l9 hS, sr_l10 hS, sr_l11 hS, sr_l12 hS, sr_l13 hS, sr_l14 hS, sr_l15 hS, sr_l16 hS, sr_l18 hS, sr_l19 hS, sx_l42 hX, sx_l43 hX, sx_l44 hX, sx_l46 hX, sx_l50 hX, sx_l51 hX, sx_l52 hX, sx_l53 hX, sx_l54 hX, sx_l56 hX, sx_l57 hX, sx_l58 hX, sx_l60 hX, sx_l61 hX, sx_l62 hX, sx_l63 hX, sx_l64 hX, sx_l65 hX, sx_l66 hX, sx_l88 hX, sx_l89 hX, sx_l90 hX, sx_l0 hX, sx_l1 hX, sx_l2 hX, sx_l5 hX, sx_l6 hX, sx_l7 hX, sx_l8 hX, sx_l9 hX, sx_l10 hX, sx_l11 hX, sx_l12 hX, sx_l13 hX, sx_l14 hX, sx_l15 hX]; omega))) only [f_X11_feed, f_X11_within, wg_lt h1, wg_nlt h1, wg_le h1, wg_nle h1, wg_ne h1, wg_nm h1, ↓eM, eL_0, eL_1, eL_2, eL_3, eL_4, eL_5, eL_6, eL_7, eL_8, eL_9, eL_10, eL_11, eL_12, eL_15, eL_16, eL_20, eL_24, eL_30, eL_31, eL_32, eL_39, eL_40, eL_41, eL_42, eL_43, eL_45, eL_47, eL_48, eL_49, eL_50, eL_57, eL_59, eL_60, eL_61, eL_90, eL_96, eL_97, eL_100, eL_122, eL_160, eL_161, eL_255, eL_300, eL_343, eL_999, eL_1000, eL_1920, eL_9999, eL_10000, eL_999999, eL_100000, eL_1000000, ↓reduceIte, ↓bl_e, bd_e, u1_f, u1_s, u2_f, u2_s, w_cl, w_ltT, w_ltF, w_leT, w_leF, w_eqT, w_eqF, w_mlt, w_ltm, w_mle, w_lem, w_eqm, w_meq, w_mltm, nI_add, w_sub, w_addm, up_s, up_n, ud_s, ud_n, ck_n, bz_0, bz_1], by simp (disch := (first | omega | (simp only [shm_l41 hM, shm_l42 hM, shm_l43 hM, shm_l44 hM, shm_l45 hM, shm_l46 hM, shm_l47 hM, shm_l48 hM, shm_l49 hM, shm_l50 hM, shm_l51 hM, shm_l52 hM, shm_l53 hM, shm_l54 hM, shm_l55 hM, shm_l56 hM, shm_l57 hM, shm_l58 hM, shm_l59 hM, shm_l60 hM, shm_l61 hM, shm_l62 hM, shm_l63 hM, shm_l64 hM, shm_l65 hM, shm_l66 hM, shm_l67 hM, shm_l68 hM, shm_l69 hM, shm_l70 hM, shm_l71 hM, shm_l72 hM, shm_l73 hM, shm_l74 hM, shm_l75 hM, shm_l76 hM, shm_l77 hM, shm_l78 hM, shm_l79 hM, shm_l80 hM]; omega))) only [f_X12_feed, f_X12_in, wg_lt h1, wg_nlt h1, wg_le h1, wg_nle h1, wg_ne h1, wg_nm h1, ↓eM, eL_0, eL_1, eL_2, eL_3, eL_4, eL_5, eL_6, eL_7, eL_8, eL_9, eL_10, eL_11, eL_12, eL_15, eL_16, eL_20, eL_24, eL_30, eL_31, eL_32, eL_39, eL_40, eL_41, eL_42, eL_43, eL_45, eL_47, eL_48, eL_49, eL_50, eL_57, eL_59, eL_60, eL_61, eL_90, eL_96, eL_97, eL_100, eL_122, eL_160, eL_161, eL_255, eL_300, eL_343, eL_999, eL_1000, eL_1920, eL_9999, eL_10000, eL_999999, eL_100000, eL_1000000, ↓reduceIte, ↓bl_e, bd_e, u1_f, u1_s, u2_f, u2_s, w_cl, w_ltT, w_ltF, w_leT, w_leF, w_eqT, w_eqF, w_mlt, w_ltm, w_mle, w_lem, w_eqm, w_meq, w_mltm, nI_add, w_sub, w_addm, up_s, up_n, ud_s, ud_n, ck_n, bz_0, bz_1], rfl, hW0⟩
  rcases Nat.eq_zero_or_pos j with rfl | hj0
  · exact ⟨(-nI 2, x), (-nI 2, y), by simp (disch := (first | omega | (simp only [sr_l2 hS, sr_l3 hS, sr_l4 hS, sr_l5 hS, sr_l6 hS, sr_l8 hS, sr_l9 hS, sr_l10 hS, sr_l11 hS, sr_l12 hS, sr_l13 hS, sr_l14 hS, sr_l15 hS, sr_l16 hS, sr_l18 hS, sr_l19 hS, sx_l42 hX, sx_l43 hX, sx_l44 hX, sx_l46 hX, sx_l50 hX, sx_l51 hX, sx_l52 hX, sx_l53 hX, sx_l54 hX, sx_l56 hX, sx_l57 hX, sx_l58 hX, sx_l60 hX, sx_l61 hX, sx_l62 hX, sx_l63 hX, sx_l64 hX, sx_l65 hX, sx_l66 hX, sx_l88 hX, sx_l89 hX, sx_l90 hX, sx_l0 hX, sx_l1 hX, sx_l2 hX, sx_l5 hX, sx_l6 hX, sx_l7 hX, sx_l8 hX, sx_l9 hX, sx_l10 hX, sx_l11 hX, sx_l12 hX, sx_l13 hX, sx_l14 hX, sx_l15 hX]; omega))) only [f_X11_feed, f_X11_within, ↓eM, eL_0, eL_1, eL_2, eL_3, eL_4, eL_5, eL_6, eL_7, eL_8, eL_9, eL_10, eL_11, eL_12, eL_15, eL_16, eL_20, eL_24, eL_30, eL_31, eL_32, eL_39, eL_40, eL_41, eL_42, eL_43, eL_45, eL_47, eL_48, eL_49, eL_50, eL_57, eL_59, eL_60, eL_61, eL_90, eL_96, eL_97, eL_100, eL_122, eL_160, eL_161, eL_255, eL_300, eL_343, eL_999, eL_1000, eL_1920, eL_9999, eL_10000, eL_999999, eL_100000, eL_1000000, ↓reduceIte, ↓bl_e, bd_e, u1_f, u1_s, u2_f, u2_s, w_cl, w_ltT, w_ltF, w_leT, w_leF, w_eqT, w_eqF, w_mlt, w_ltm, w_mle, w_lem, w_eqm, w_meq, w_mltm, nI_add, w_sub, w_addm, up_s, up_n, ud_s, ud_n, ck_n, bz_0, bz_1], by simp (disch := (first | omega | (simp only [shm_l41 hM, shm_l42 hM, shm_l43 hM, shm_l44 hM, shm_l45 hM, shm_l46 hM, shm_l47 hM, shm_l48 hM, shm_l49 hM, shm_l50 hM, shm_l51 hM, shm_l52 hM, shm_l53 hM, shm_l54 hM, shm_l55 hM, shm_l56 hM, shm_l57 hM, shm_l58 hM, shm_l59 hM, shm_l60 hM, shm_l61 hM, shm_l62 hM, shm_l63 hM, shm_l64 hM, shm_l65 hM, shm_l66 hM, shm_l67 hM, shm_l68 hM, shm_l69 hM, shm_l70 hM, shm_l71 hM, shm_l72 hM, shm_l73 hM, shm_l74 hM, shm_l75 hM, shm_l76 hM, shm_l77 hM, shm_l78 hM, shm_l79 hM, shm_l80 hM]; omega))) only [f_X12_feed, f_X12_in, ↓eM, eL_0, eL_1, eL_2, eL_3, eL_4, eL_5, eL_6, eL_7, eL_8, eL_9, eL_10, eL_11, eL_12, eL_15, eL_16, eL_20, eL_24, eL_30, eL_31, eL_32, eL_39, eL_40, eL_41, eL_42, eL_43, eL_45, eL_47, eL_48, eL_49, eL_50, eL_57, eL_59, eL_60, eL_61, eL_90, eL_96, eL_97, eL_100, eL_122, eL_160, eL_161, eL_255, eL_300, eL_343, eL_999, eL_1000, eL_1920, eL_9999, eL_10000, eL_999999, eL_100000, eL_1000000, ↓reduceIte, ↓bl_e, bd_e, u1_f, u1_s, u2_f, u2_s, w_cl, w_ltT, w_ltF, w_leT, w_leF, w_eqT, w_eqF, w_mlt, w_ltm, w_mle, w_lem, w_eqm, w_meq, w_mltm, nI_add, w_sub, w_addm, up_s, up_n, ud_s, ud_n, ck_n, bz_0, bz_1], rfl, hW0⟩
  obtain ⟨Z, z1, z2, z3, z4⟩ := hP
  by_cases hz : Z + j ≤ 160
  rotate_left
  · exact ⟨(-nI 4, x), (-nI 4, y), by simp (disch := (first | omega | (simp only [sr_l2 hS, sr_l3 hS, sr_l4 hS, sr_l5 hS, sr_l6 hS, sr_l8 hS, sr_l9 hS, sr_l10 hS, sr_l11 hS, sr_l12 hS, sr_l13 hS, sr_l14 hS, sr_l15 hS, sr_l16 hS, sr_l18 hS, sr_l19 hS, sx_l42 hX, sx_l43 hX, sx_l44 hX, sx_l46 hX, sx_l50 hX, sx_l51 hX, sx_l52 hX, sx_l53 hX, sx_l54 hX, sx_l56 hX, sx_l57 hX, sx_l58 hX, sx_l60 hX, sx_l61 hX, sx_l62 hX, sx_l63 hX, sx_l64 hX, sx_l65 hX, sx_l66 hX, sx_l88 hX, sx_l89 hX, sx_l90 hX, sx_l0 hX, sx_l1 hX, sx_l2 hX, sx_l5 hX, sx_l6 hX, sx_l7 hX, sx_l8 hX, sx_l9 hX, sx_l10 hX, sx_l11 hX, sx_l12 hX, sx_l13 hX, sx_l14 hX, sx_l15 hX]; omega))) only [f_X11_feed, f_X11_within, f_X5_append, sx_m0 hX, sx_m1 hX, sx_m2 hX, sx_c0 hX, sx_c1 hX, sx_c2 hX, sx_c3 hX, sx_c4 hX, sx_c5 hX, sx_c6 hX, sx_u0 hX, sx_t0 hX, sx_t2 hX, sx_t3 hX, sx_t4 hX, sx_t7 hX, sx_f0 hX, sx_f1 hX, sx_f2 hX, sx_h0 hX, sx_h1 hX, sx_h2 hX, sx_g0 hX, sx_g1 hX, sx_g2 hX, z2, ↓eM, eL_0, eL_1, eL_2, eL_3, eL_4, eL_5, eL_6, eL_7, eL_8, eL_9, eL_10, eL_11, eL_12, eL_15, eL_16, eL_20, eL_24, eL_30, eL_31, eL_32, eL_39, eL_40, eL_41, eL_42, eL_43, eL_45, eL_47, eL_48, eL_49, eL_50, eL_57, eL_59, eL_60, eL_61, eL_90, eL_96, eL_97, eL_100, eL_122, eL_160, eL_161, eL_255, eL_300, eL_343, eL_999, eL_1000, eL_1920, eL_9999, eL_10000, eL_999999, eL_100000, eL_1000000, ↓reduceIte, ↓bl_e, bd_e, u1_f, u1_s, u2_f, u2_s, w_cl, w_ltT, w_ltF, w_leT, w_leF, w_eqT, w_eqF, w_mlt, w_ltm, w_mle, w_lem, w_eqm, w_meq, w_mltm, nI_add, w_sub, w_addm, up_s, up_n, ud_s, ud_n, ck_n, bz_0, bz_1], by simp (disch := (first | omega | (simp only [shm_l41 hM, shm_l42 hM, shm_l43 hM, shm_l44 hM, shm_l45 hM, shm_l46 hM, shm_l47 hM, shm_l48 hM, shm_l49 hM, shm_l50 hM, shm_l51 hM, shm_l52 hM, shm_l53 hM, shm_l54 hM, shm_l55 hM, shm_l56 hM, shm_l57 hM, shm_l58 hM, shm_l59 hM, shm_l60 hM, shm_l61 hM, shm_l62 hM, shm_l63 hM, shm_l64 hM, shm_l65 hM, shm_l66 hM, shm_l67 hM, shm_l68 hM, shm_l69 hM, shm_l70 hM, shm_l71 hM, shm_l72 hM, shm_l73 hM, shm_l74 hM, shm_l75 hM, shm_l76 hM, shm_l77 hM, shm_l78 hM, shm_l79 hM, shm_l80 hM]; omega))) only [f_X12_feed, f_X12_in, z3, ↓eM, eL_0, eL_1, eL_2, eL_3, eL_4, eL_5, eL_6, eL_7, eL_8, eL_9, eL_10, eL_11, eL_12, eL_15, eL_16, eL_20, eL_24, eL_30, eL_31, eL_32, eL_39, eL_40, eL_41, eL_42, eL_43, eL_45, eL_47, eL_48, eL_49, eL_50, eL_57, eL_59, eL_60, eL_61, eL_90, eL_96, eL_97, eL_100, eL_122, eL_160, eL_161, eL_255, eL_300, eL_343, eL_999, eL_1000, eL_1920, eL_9999, eL_10000, eL_999999, eL_100000, eL_1000000, ↓reduceIte, ↓bl_e, bd_e, u1_f, u1_s, u2_f, u2_s, w_cl, w_ltT, w_ltF, w_leT, w_leF, w_eqT, w_eqF, w_mlt, w_ltm, w_mle, w_lem, w_eqm, w_meq, w_mltm, nI_add, w_sub, w_addm, up_s, up_n, ud_s, ud_n, ck_n, bz_0, bz_1], rfl, hW0⟩
  have e1 : f_X11_feed N S 40 (nI j) v x = Option.bind (lp_X5_append_22 N S 49 (nI j) v (nI 0) x) (fun r4 => some (r4.1, r4.2)) := by
    simp (disch := (first | omega | (simp only [sr_l2 hS, sr_l3 hS, sr_l4 hS, sr_l5 hS, sr_l6 hS, sr_l8 hS, sr_l9 hS, sr_l10 hS, sr_l11 hS, sr_l12 hS, sr_l13 hS, sr_l14 hS, sr_l15 hS, sr_l16 hS, sr_l18 hS, sr_l19 hS, sx_l42 hX, sx_l43 hX, sx_l44 hX, sx_l46 hX, sx_l50 hX, sx_l51 hX, sx_l52 hX, sx_l53 hX, sx_l54 hX, sx_l56 hX, sx_l57 hX, sx_l58 hX, sx_l60 hX, sx_l61 hX, sx_l62 hX, sx_l63 hX, sx_l64 hX, sx_l65 hX, sx_l66 hX, sx_l88 hX, sx_l89 hX, sx_l90 hX, sx_l0 hX, sx_l1 hX, sx_l2 hX, sx_l5 hX, sx_l6 hX, sx_l7 hX, sx_l8 hX, sx_l9 hX, sx_l10 hX, sx_l11 hX, sx_l12 hX, sx_l13 hX, sx_l14 hX, sx_l15 hX]; omega))) only [f_X11_feed, f_X11_within, f_X5_append, sx_m0 hX, sx_m1 hX, sx_m2 hX, sx_c0 hX, sx_c1 hX, sx_c2 hX, sx_c3 hX, sx_c4 hX, sx_c5 hX, sx_c6 hX, sx_u0 hX, sx_t0 hX, sx_t2 hX, sx_t3 hX, sx_t4 hX, sx_t7 hX, sx_f0 hX, sx_f1 hX, sx_f2 hX, sx_h0 hX, sx_h1 hX, sx_h2 hX, sx_g0 hX, sx_g1 hX, sx_g2 hX, z2, ↓eM, eL_0, eL_1, eL_2, eL_3, eL_4, eL_5, eL_6, eL_7, eL_8, eL_9, eL_10, eL_11, eL_12, eL_15, eL_16, eL_20, eL_24, eL_30, eL_31, eL_32, eL_39, eL_40, eL_41, eL_42, eL_43, eL_45, eL_47, eL_48, eL_49, eL_50, eL_57, eL_59, eL_60, eL_61, eL_90, eL_96, eL_97, eL_100, eL_122, eL_160, eL_161, eL_255, eL_300, eL_343, eL_999, eL_1000, eL_1920, eL_9999, eL_10000, eL_999999, eL_100000, eL_1000000, ↓reduceIte, ↓bl_e, bd_e, u1_f, u1_s, u2_f, u2_s, w_cl, w_ltT, w_ltF, w_leT, w_leF, w_eqT, w_eqF, w_mlt, w_ltm, w_mle, w_lem, w_eqm, w_meq, w_mltm, nI_add, w_sub, w_addm, up_s, up_n, ud_s, ud_n, ck_n, bz_0, bz_1]
  have e2 : f_X12_feed N Sm 40 (nI j) v y = lp_X12_feed_32 N Sm 40 (nI j) v (nI 0) y := by
    simp (disch := (first | omega | (simp only [shm_l41 hM, shm_l42 hM, shm_l43 hM, shm_l44 hM, shm_l45 hM, shm_l46 hM, shm_l47 hM, shm_l48 hM, shm_l49 hM, shm_l50 hM, shm_l51 hM, shm_l52 hM, shm_l53 hM, shm_l54 hM, shm_l55 hM, shm_l56 hM, shm_l57 hM, shm_l58 hM, shm_l59 hM, shm_l60 hM, shm_l61 hM, shm_l62 hM, shm_l63 hM, shm_l64 hM, shm_l65 hM, shm_l66 hM, shm_l67 hM, shm_l68 hM, shm_l69 hM, shm_l70 hM, shm_l71 hM, shm_l72 hM, shm_l73 hM, shm_l74 hM, shm_l75 hM, shm_l76 hM, shm_l77 hM, shm_l78 hM, shm_l79 hM, shm_l80 hM]; omega))) only [f_X12_feed, f_X12_in, z3, ↓eM, eL_0, eL_1, eL_2, eL_3, eL_4, eL_5, eL_6, eL_7, eL_8, eL_9, eL_10, eL_11, eL_12, eL_15, eL_16, eL_20, eL_24, eL_30, eL_31, eL_32, eL_39, eL_40, eL_41, eL_42, eL_43, eL_45, eL_47, eL_48, eL_49, eL_50, eL_57, eL_59, eL_60, eL_61, eL_90, eL_96, eL_97, eL_100, eL_122, eL_160, eL_161, eL_255, eL_300, eL_343, eL_999, eL_1000, eL_1920, eL_9999, eL_10000, eL_999999, eL_100000, eL_1000000, ↓reduceIte, ↓bl_e, bd_e, u1_f, u1_s, u2_f, u2_s, w_cl, w_ltT, w_ltF, w_leT, w_leF, w_eqT, w_eqF, w_mlt, w_ltm, w_mle, w_lem, w_eqm, w_meq, w_mltm, nI_add, w_sub, w_addm, up_s, up_n, ud_s, ud_n, ck_n, bz_0, bz_1]
  have main : zJ (lp_X5_append_22 N S 49 (nI j) v (nI 0) x) (lp_X12_feed_32 N Sm 40 (nI j) v (nI 0) y) (zQ S Sm) := by
    unfold lp_X5_append_22 lp_X12_feed_32
    refine z_loop2 (fun i a b => ∃ x' y', a = (nI i, x') ∧ b = (nI i, y') ∧ x'.1 49 1 = nI (Z + i) ∧ y'.1 40 28 = nI (Z + i) ∧ (∀ q, q < Z + i → ∃ b, b < 256 ∧ x'.1 50 q = nI b ∧ y'.1 61 q = (nI b).toInt8.toInt32) ∧ (∀ q, q ≠ 49 → q ≠ 50 → x'.1 q = x.1 q) ∧ x'.2 = x.2 ∧ (∀ q, q ≠ 40 → q ≠ 61 → y'.1 q = y.1 q) ∧ (∀ k, k ≠ 28 → y'.1 40 k = y.1 40 k)) j (K1 := fun a => some (a.2.1 49 1, a.2)) (K2 := fun b => some (b.2.1 40 28, b.2)) _ (by omega) (by omega) ⟨x, y, rfl, rfl, z2, z3, z4, fun _ _ _ => rfl, rfl, fun _ _ _ => rfl, fun _ _ => rfl⟩ ?_ ?_ ?_
    · rintro i _ _ hi ⟨x', y', rfl, rfl, f1, f2, f3, f4, f5, f6, f7⟩
      obtain ⟨b, hb, b1, b2⟩ := bt_byte v (i := i) (by omega)
      refine ⟨(nI (i + 1), U1 (U1 x' 50 (Z + i) (nI b)) 49 1 (nI (Z + i + 1))), (nI (i + 1), U1 (U1 y' 61 (Z + i) (nI b).toInt8.toInt32) 40 28 (nI (Z + i + 1))), ⟨_, _, rfl, rfl, by simp (disch := omega) only [u1_f, u1_s, u2_f, u2_s, up_s, up_n, ud_s, ud_n]; rfl, by simp (disch := omega) only [u1_f, u1_s, u2_f, u2_s, up_s, up_n, ud_s, ud_n]; rfl, fun q hq => ?_, fun q h1 h2 => ?_, f5, fun q h1 h2 => ?_, fun k hk => ?_⟩, fun back => ?_, fun back => ?_⟩
      · simp (disch := omega) only [u1_f, u1_s, u2_f, u2_s, up_s, up_n, ud_s, ud_n]
        by_cases e : q = Z + i
        · subst e; rw [ud_s, ud_s]; exact ⟨b, hb, rfl, rfl⟩
        · rw [ud_n e, ud_n e]; exact f3 q (by omega)
      · simp (disch := omega) only [u1_f, u1_s, u2_f, u2_s, up_s, up_n, ud_s, ud_n]; exact f4 q h1 h2
      · simp (disch := omega) only [u1_f, u1_s, u2_f, u2_s, up_s, up_n, ud_s, ud_n]; exact f6 q h1 h2
      · simp (disch := omega) only [u1_f, u1_s, u2_f, u2_s, up_s, up_n, ud_s, ud_n]; exact f7 k hk
      · simp (disch := (first | omega | (simp only [sr_l2 hS, sr_l3 hS, sr_l4 hS, sr_l5 hS, sr_l6 hS, sr_l8 hS, sr_l9 hS, sr_l10 hS, sr_l11 hS, sr_l12 hS, sr_l13 hS, sr_l14 hS, sr_l15 hS, sr_l16 hS, sr_l18 hS, sr_l19 hS, sx_l42 hX, sx_l43 hX, sx_l44 hX, sx_l46 hX, sx_l50 hX, sx_l51 hX, sx_l52 hX, sx_l53 hX, sx_l54 hX, sx_l56 hX, sx_l57 hX, sx_l58 hX, sx_l60 hX, sx_l61 hX, sx_l62 hX, sx_l63 hX, sx_l64 hX, sx_l65 hX, sx_l66 hX, sx_l88 hX, sx_l89 hX, sx_l90 hX, sx_l0 hX, sx_l1 hX, sx_l2 hX, sx_l5 hX, sx_l6 hX, sx_l7 hX, sx_l8 hX, sx_l9 hX, sx_l10 hX, sx_l11 hX, sx_l12 hX, sx_l13 hX, sx_l14 hX, sx_l15 hX]; omega))) only [lp_X5_append_22_b, sx_m0 hX, sx_m1 hX, sx_m2 hX, sx_c0 hX, sx_c1 hX, sx_c2 hX, sx_c3 hX, sx_c4 hX, sx_c5 hX, sx_c6 hX, sx_u0 hX, sx_t0 hX, sx_t2 hX, sx_t3 hX, sx_t4 hX, sx_t7 hX, sx_f0 hX, sx_f1 hX, sx_f2 hX, sx_h0 hX, sx_h1 hX, sx_h2 hX, sx_g0 hX, sx_g1 hX, sx_g2 hX, pk_mul, f1, b1, ↓eM, eL_0, eL_1, eL_2, eL_3, eL_4, eL_5, eL_6, eL_7, eL_8, eL_9, eL_10, eL_11, eL_12, eL_15, eL_16, eL_20, eL_24, eL_30, eL_31, eL_32, eL_39, eL_40, eL_41, eL_42, eL_43, eL_45, eL_47, eL_48, eL_49, eL_50, eL_57, eL_59, eL_60, eL_61, eL_90, eL_96, eL_97, eL_100, eL_122, eL_160, eL_161, eL_255, eL_300, eL_343, eL_999, eL_1000, eL_1920, eL_9999, eL_10000, eL_999999, eL_100000, eL_1000000, ↓reduceIte, ↓bl_e, bd_e, u1_f, u1_s, u2_f, u2_s, w_cl, w_ltT, w_ltF, w_leT, w_leF, w_eqT, w_eqF, w_mlt, w_ltm, w_mle, w_lem, w_eqm, w_meq, w_mltm, nI_add, w_sub, w_addm, up_s, up_n, ud_s, ud_n, ck_n, bz_0, bz_1]
      · simp (disch := (first | omega | (simp only [shm_l41 hM, shm_l42 hM, shm_l43 hM, shm_l44 hM, shm_l45 hM, shm_l46 hM, shm_l47 hM, shm_l48 hM, shm_l49 hM, shm_l50 hM, shm_l51 hM, shm_l52 hM, shm_l53 hM, shm_l54 hM, shm_l55 hM, shm_l56 hM, shm_l57 hM, shm_l58 hM, shm_l59 hM, shm_l60 hM, shm_l61 hM, shm_l62 hM, shm_l63 hM, shm_l64 hM, shm_l65 hM, shm_l66 hM, shm_l67 hM, shm_l68 hM, shm_l69 hM, shm_l70 hM, shm_l71 hM, shm_l72 hM, shm_l73 hM, shm_l74 hM, shm_l75 hM, shm_l76 hM, shm_l77 hM, shm_l78 hM, shm_l79 hM, shm_l80 hM]; omega))) only [lp_X12_feed_32_b, shm_p5 hM, shm_p6 hM, shm_p7 hM, shm_p8 hM, shm_p9 hM, shm_p10 hM, shm_p11 hM, shm_p12 hM, shm_p13 hM, shm_p14 hM, shm_p15 hM, shm_p16 hM, shm_p19 hM, shm_p20 hM, shm_p21 hM, shm_p22 hM, shm_p23 hM, shm_p24 hM, shm_p25 hM, shm_p26 hM, shm_p27 hM, shm_p31 hM, shm_p32 hM, shm_p37 hM, shm_p38 hM, shm_p43 hM, shm_p44 hM, shm_p48 hM, shm_p49 hM, shm_p50 hM, shm_p51 hM, shm_p52 hM, shm_p53 hM, shm_p54 hM, shm_p55 hM, shm_p62 hM, shm_p63 hM, shm_p64 hM, shm_p65 hM, shm_p66 hM, pk_mul, f2, b2, ↓eM, eL_0, eL_1, eL_2, eL_3, eL_4, eL_5, eL_6, eL_7, eL_8, eL_9, eL_10, eL_11, eL_12, eL_15, eL_16, eL_20, eL_24, eL_30, eL_31, eL_32, eL_39, eL_40, eL_41, eL_42, eL_43, eL_45, eL_47, eL_48, eL_49, eL_50, eL_57, eL_59, eL_60, eL_61, eL_90, eL_96, eL_97, eL_100, eL_122, eL_160, eL_161, eL_255, eL_300, eL_343, eL_999, eL_1000, eL_1920, eL_9999, eL_10000, eL_999999, eL_100000, eL_1000000, ↓reduceIte, ↓bl_e, bd_e, u1_f, u1_s, u2_f, u2_s, w_cl, w_ltT, w_ltF, w_leT, w_leF, w_eqT, w_eqF, w_mlt, w_ltm, w_mle, w_lem, w_eqm, w_meq, w_mltm, nI_add, w_sub, w_addm, up_s, up_n, ud_s, ud_n, ck_n, bz_0, bz_1]
    · rintro _ _ ⟨x', y', rfl, rfl, f1, f2, f3, f4, f5, f6, f7⟩
      refine ⟨fun back => ?_, fun back => ?_⟩
      · simp (disch := (first | omega | (simp only [sr_l2 hS, sr_l3 hS, sr_l4 hS, sr_l5 hS, sr_l6 hS, sr_l8 hS, sr_l9 hS, sr_l10 hS, sr_l11 hS, sr_l12 hS, sr_l13 hS, sr_l14 hS, sr_l15 hS, sr_l16 hS, sr_l18 hS, sr_l19 hS, sx_l42 hX, sx_l43 hX, sx_l44 hX, sx_l46 hX, sx_l50 hX, sx_l51 hX, sx_l52 hX, sx_l53 hX, sx_l54 hX, sx_l56 hX, sx_l57 hX, sx_l58 hX, sx_l60 hX, sx_l61 hX, sx_l62 hX, sx_l63 hX, sx_l64 hX, sx_l65 hX, sx_l66 hX, sx_l88 hX, sx_l89 hX, sx_l90 hX, sx_l0 hX, sx_l1 hX, sx_l2 hX, sx_l5 hX, sx_l6 hX, sx_l7 hX, sx_l8 hX, sx_l9 hX, sx_l10 hX, sx_l11 hX, sx_l12 hX, sx_l13 hX, sx_l14 hX, sx_l15 hX]; omega))) only [lp_X5_append_22_b, ↓eM, eL_0, eL_1, eL_2, eL_3, eL_4, eL_5, eL_6, eL_7, eL_8, eL_9, eL_10, eL_11, eL_12, eL_15, eL_16, eL_20, eL_24, eL_30, eL_31, eL_32, eL_39, eL_40, eL_41, eL_42, eL_43, eL_45, eL_47, eL_48, eL_49, eL_50, eL_57, eL_59, eL_60, eL_61, eL_90, eL_96, eL_97, eL_100, eL_122, eL_160, eL_161, eL_255, eL_300, eL_343, eL_999, eL_1000, eL_1920, eL_9999, eL_10000, eL_999999, eL_100000, eL_1000000, ↓reduceIte, ↓bl_e, bd_e, u1_f, u1_s, u2_f, u2_s, w_cl, w_ltT, w_ltF, w_leT, w_leF, w_eqT, w_eqF, w_mlt, w_ltm, w_mle, w_lem, w_eqm, w_meq, w_mltm, nI_add, w_sub, w_addm, up_s, up_n, ud_s, ud_n, ck_n, bz_0, bz_1]
      · simp (disch := (first | omega | (simp only [shm_l41 hM, shm_l42 hM, shm_l43 hM, shm_l44 hM, shm_l45 hM, shm_l46 hM, shm_l47 hM, shm_l48 hM, shm_l49 hM, shm_l50 hM, shm_l51 hM, shm_l52 hM, shm_l53 hM, shm_l54 hM, shm_l55 hM, shm_l56 hM, shm_l57 hM, shm_l58 hM, shm_l59 hM, shm_l60 hM, shm_l61 hM, shm_l62 hM, shm_l63 hM, shm_l64 hM, shm_l65 hM, shm_l66 hM, shm_l67 hM, shm_l68 hM, shm_l69 hM, shm_l70 hM, shm_l71 hM, shm_l72 hM, shm_l73 hM, shm_l74 hM, shm_l75 hM, shm_l76 hM, shm_l77 hM, shm_l78 hM, shm_l79 hM, shm_l80 hM]; omega))) only [lp_X12_feed_32_b, ↓eM, eL_0, eL_1, eL_2, eL_3, eL_4, eL_5, eL_6, eL_7, eL_8, eL_9, eL_10, eL_11, eL_12, eL_15, eL_16, eL_20, eL_24, eL_30, eL_31, eL_32, eL_39, eL_40, eL_41, eL_42, eL_43, eL_45, eL_47, eL_48, eL_49, eL_50, eL_57, eL_59, eL_60, eL_61, eL_90, eL_96, eL_97, eL_100, eL_122, eL_160, eL_161, eL_255, eL_300, eL_343, eL_999, eL_1000, eL_1920, eL_9999, eL_10000, eL_999999, eL_100000, eL_1000000, ↓reduceIte, ↓bl_e, bd_e, u1_f, u1_s, u2_f, u2_s, w_cl, w_ltT, w_ltF, w_leT, w_leF, w_eqT, w_eqF, w_mlt, w_ltm, w_mle, w_lem, w_eqm, w_meq, w_mltm, nI_add, w_sub, w_addm, up_s, up_n, ud_s, ud_n, ck_n, bz_0, bz_1]
    · rintro _ _ ⟨x', y', rfl, rfl, f1, f2, f3, f4, f5, f6, f7⟩
      refine zJ.ret ⟨f1.trans f2.symm, n, M, K, W, w, T, c, ⟨hS, hM, hX, by omega, by omega, hmn.k (fun q a b => f4 q (by omega) (by omega)) (fun q a b => f6 q (by omega) (by omega)) (f7 4 (by omega)), hE.k (fun q a => f4 q (by omega) (by omega)), hT.k (fun q a => f4 q (by omega) (by omega)) (f6 _ (by omega) (by omega)) (f6 _ (by omega) (by omega)) (f7 _ (by omega)) (f7 _ (by omega))⟩, ⟨hS1, hS2, hS3⟩, hR.k (fun q a b => f4 q (by omega) (by omega)) (fun q a b => f6 q (by omega) (by omega)) (fun k a => f7 k (by omega)), hF.k (f4 _ (by omega) (by omega)) (f4 _ (by omega) (by omega)) (f6 _ (by omega) (by omega)), hH.k (fun q a b => f4 q (by omega) (by omega)) (f6 _ (by omega) (by omega)) (f6 _ (by omega) (by omega)) (f6 _ (by omega) (by omega)), ⟨Z + j, hz, f1, f2, f3⟩, hZ, hWm, hTm, fun s a b => by rw [f6 60 (by omega) (by omega)]; exact hU s a b⟩
  rw [e1, e2]
  obtain ⟨p, q, h1, h2, h3⟩ := main
  exact ⟨p, q, by rw [h1]; rfl, h2, h3⟩
theorem tk_t {ρ : Type} {S : SH} {a c : Nat} {o : Option ρ} (h : 40 ≤ a ∧ a < S.1 ∧ S.2.1 a = c) : tk S a c o = o := if_pos h
theorem lk_t {ρ : Type} {S : SH} {a : Nat} {o : Option ρ} (h : a < S.1) : lk S a o = o := if_pos h
theorem fk_t {ρ : Type} {S : SH} {ls : List (Option Value)} {st : List Value} {o : Option ρ} (h : frB S ls st = true) : fk S ls st o = o := if_pos h
theorem SR.up {S : SH} {r n : Nat} {v : Option Nat} (h : SR S r n) (hr : 46 ≤ r) : SR (UP S 45 1 v) r n := by
  obtain ⟨h1, h2, h3, h4⟩ := h
  refine ⟨?_, ?_, fun q hq => ?_, h4⟩
  · show up2 S.2.2.2 45 1 v r 0 = _
    rw [up2_n (by omega)]; exact h1
  · show up2 S.2.2.2 45 1 v r 1 = _
    rw [up2_n (by omega)]; exact h2
  · show up2 S.2.2.2 45 1 v (r + q.1) q.2.1 = _
    rw [up2_n (by omega)]; exact h3 q hq
theorem SX.up {S : SH} {v : Option Nat} (h : SX S) : SX (UP S 45 1 v) := by
  refine ⟨fun q hq => ?_, h.2⟩
  show up2 S.2.2.2 45 1 v q.1 q.2.1 = _
  rw [← h.1 q hq]
  have h2 := (by decide : ∀ q ∈ sx_tab, ¬ (q.1 = 45 ∧ q.2.1 = 1)) q hq
  by_cases e : q.1 = 45
  · rw [e, up2_s]
    exact if_neg (fun e2 => h2 ⟨e, e2⟩)
  · rw [up2_n e]
theorem WT.up {S : SH} {b : Nat} (h : WT S) (h45 : S.2.1 45 = 7) (hb : TY S b 10) : WT (UP S 45 1 (some b)) := by
  obtain ⟨h1, h2, h3, h4⟩ := h
  refine ⟨fun a c hc hT k hk hr => ?_, fun a hT i b' hb' => ?_, fun a hT i b' hb' => ?_, fun a hT i b' hb' => ?_⟩
  · by_cases e : a = 45
    · subst e
      have hc7 : c = 7 := hT.2.2.symm.trans h45
      subst hc7
      by_cases ek : k = 1
      · subst ek
        exact ⟨b, by show up2 S.2.2.2 45 1 (some b) 45 1 = some b; rw [up2_s]; exact if_pos rfl, fun _ => hb, fun q => absurd q (by decide)⟩
      · obtain ⟨b', g1, g2, g3⟩ := h1 45 7 hc hT k hk hr
        exact ⟨b', by show up2 S.2.2.2 45 1 (some b) 45 k = some b'; rw [up2_s]; exact (if_neg ek).trans g1, g2, g3⟩
    · obtain ⟨b', g1, g2, g3⟩ := h1 a c hc hT k hk hr
      exact ⟨b', by show up2 S.2.2.2 45 1 (some b) a k = some b'; rw [up2_n e]; exact g1, g2, g3⟩
  · have e : a ≠ 45 := by rintro rfl; have := hT.2.2.symm.trans h45; omega
    have hb2 : up2 S.2.2.2 45 1 (some b) a i = some b' := hb'
    rw [up2_n e] at hb2
    exact h2 a hT i b' hb2
  · have e : a ≠ 45 := by rintro rfl; have := hT.2.2.symm.trans h45; omega
    have hb2 : up2 S.2.2.2 45 1 (some b) a i = some b' := hb'
    rw [up2_n e] at hb2
    exact h3 a hT i b' hb2
  · have e : a ≠ 45 := by rintro rfl; have := hT.2.2.symm.trans h45; omega
    have hb2 : up2 S.2.2.2 45 1 (some b) a i = some b' := hb'
    rw [up2_n e] at hb2
    exact h4 a hT i b' hb2
/-- what is owed of a call that may make cells -/
def zQA (Sm : SH) (a : Int32 × SH × DY) (b : Int32 × DY) : Prop := a.1 = b.1 ∧ zW a.2.1 a.2.2 Sm b.2
theorem zTx.up {S : SH} {x y x' y' : DY} {T c j : Nat} (h : zTx S x y T c) (hj : j < T) (hx : ∀ q, q ≠ 45 → x'.1 q = x.1 q) (h2 : x'.1 45 2 = x.1 45 2) (h3 : x'.1 45 3 = nI j) (hy : ∀ q, q ≠ 40 → y'.1 q = y.1 q) (k1 : y'.1 40 29 = y.1 40 29) (k2 : y'.1 40 30 = nI j) : zTx (UP S 45 1 (some (tX j))) x' y' T j := by
  obtain ⟨a1, a2, a3, a4, a5, a6, a7, a8, a9⟩ := h
  refine ⟨a1, a2, hj, h2.trans a4, k1.trans a5, h3, k2, ?_, fun i hi => ?_⟩
  · show up2 S.2.2.2 45 1 (some (tX j)) 45 1 = _
    rw [up2_s]; exact if_pos rfl
  · obtain ⟨g1, g2, g3, g4, P, G, g5, g6, g7, g8⟩ := a9 i hi
    have hk := kX_ok i
    have hg := gX_ok i
    have ht : tX i ≠ 45 := by unfold tX; split <;> omega
    have up : ∀ a k, a ≠ 45 → (UP S 45 1 (some (tX j))).2.2.2 a k = S.2.2.2 a k := fun a k h => by
      show up2 S.2.2.2 45 1 (some (tX j)) a k = _
      rw [up2_n h]
    exact ⟨(up _ _ (by omega)).trans g1, (up _ _ ht).trans g2, (up _ _ ht).trans g3, (up _ _ ht).trans g4, P, G, g5, g6, g7.keep (hx _ (by omega)) (hy _ (by omega)) (hy _ (by omega)), g8.keep (hx _ (by omega)) (hy _ (by omega)) (hy _ (by omega))⟩
set_option maxHeartbeats 1600000 in
theorem k_force (hW0 : zW S x Sm y) (a1 : Int32) : zJ (fA_X11_force N S 40 a1 x) (f_X12_force N Sm 40 a1 y) (zQA Sm) := by
  have hW1 := hW0; obtain ⟨n, M, K, W, w, T, c, hW⟩ := hW1; have hW' := hW; obtain ⟨⟨hS, hM, hX, -, -, hmn, hE, hT⟩, ⟨hS1, hS2, hS3⟩, hR, hF, hH, hP, hZ, hWm, hTm, hU⟩ := hW'; have hR' := hR; obtain ⟨⟨hsc, hpl, ⟨hq1, hq2, hq3, hq4⟩, hse, hzi⟩, hag⟩ := hR'; have hsc' := hsc; obtain ⟨c1, c2, c3, c4, c5, c6, c7, c8, c9, c10, c11, c12, c13, c14⟩ := hsc'
  obtain ⟨z1, z2, z3, z4, z5, z6, z7, z8⟩ := hZ
  have hT' := hT
  obtain ⟨t1, t2, t3, t4, t5, t6, t7, t8, t9⟩ := hT'
  have k40 : S.2.1 40 = 11 := z7 (40, 11) (by decide)
  have k45 : S.2.1 45 = 7 := z7 (45, 7) (by decide)
  have k46 : S.2.1 46 = 17 := z7 (46, 17) (by decide)
  have fk0 : frB S [some (.ref 40), some (.int a1)] [] = true := by
    have : 40 < S.1 := by omega
    simp [frB, inB, this]
  have hpre : ∀ o, fA_X7_choose N S 45 a1 x = some o → fA_X11_force N S 40 a1 x = some o := fun o ho => by
    unfold fA_X11_force
    rw [tk_t ⟨by omega, by omega, k40⟩, sx_oc1 hX, rfk_s, fk_t fk0, tk_t ⟨by omega, by omega, k45⟩, ho]
    rfl
  rcases w_cases a1 T (by omega) with h1 | ⟨h0, h1⟩ | ⟨j, hj, rfl⟩
  · refine ⟨(-nI 2, S, x), (-nI 2, y), hpre _ ?_, by simp (disch := (first | omega | (simp only [shm_l41 hM, shm_l42 hM, shm_l43 hM, shm_l44 hM, shm_l45 hM, shm_l46 hM, shm_l47 hM, shm_l48 hM, shm_l49 hM, shm_l50 hM, shm_l51 hM, shm_l52 hM, shm_l53 hM, shm_l54 hM, shm_l55 hM, shm_l56 hM, shm_l57 hM, shm_l58 hM, shm_l59 hM, shm_l60 hM, shm_l61 hM, shm_l62 hM, shm_l63 hM, shm_l64 hM, shm_l65 hM, shm_l66 hM, shm_l67 hM, shm_l68 hM, shm_l69 hM, shm_l70 hM, shm_l71 hM, shm_l72 hM, shm_l73 hM, shm_l74 hM, shm_l75 hM, shm_l76 hM, shm_l77 hM, shm_l78 hM, shm_l79 hM, shm_l80 hM]; omega))) only [f_X12_force, f_X12_in, wn_lt h1, wn_nlt h1, wn_le h1, wn_nle h1, wn_ne h1, ↓eM, eL_0, eL_1, eL_2, eL_3, eL_4, eL_5, eL_6, eL_7, eL_8, eL_9, eL_10, eL_11, eL_12, eL_15, eL_16, eL_20, eL_24, eL_30, eL_31, eL_32, eL_39, eL_40, eL_41, eL_42, eL_43, eL_45, eL_47, eL_48, eL_49, eL_50, eL_57, eL_59, eL_60, eL_61, eL_90, eL_96, eL_97, eL_100, eL_122, eL_160, eL_161, eL_255, eL_300, eL_343, eL_999, eL_1000, eL_1920, eL_9999, eL_10000, eL_999999, eL_100000, eL_1000000, ↓reduceIte, ↓bl_e, bd_e, u1_f, u1_s, u2_f, u2_s, w_cl, w_ltT, w_ltF, w_leT, w_leF, w_eqT, w_eqF, w_mlt, w_ltm, w_mle, w_lem, w_eqm, w_meq, w_mltm, nI_add, w_sub, w_addm, up_s, up_n, ud_s, ud_n, ck_n, bz_0, bz_1], rfl, hW0⟩
    unfold fA_X7_choose
    rw [if_pos (show a1 < 0 from h1)]
    rfl
  · refine ⟨(-nI 2, S, x), (-nI 2, y), hpre _ ?_, by simp (disch := (first | omega | (simp only [shm_l41 hM, shm_l42 hM, shm_l43 hM, shm_l44 hM, shm_l45 hM, shm_l46 hM, shm_l47 hM, shm_l48 hM, shm_l49 hM, shm_l50 hM, shm_l51 hM, shm_l52 hM, shm_l53 hM, shm_l54 hM, shm_l55 hM, shm_l56 hM, shm_l57 hM, shm_l58 hM, shm_l59 hM, shm_l60 hM, shm_l61 hM, shm_l62 hM, shm_l63 hM, shm_l64 hM, shm_l65 hM, shm_l66 hM, shm_l67 hM, shm_l68 hM, shm_l69 hM, shm_l70 hM, shm_l71 hM, shm_l72 hM, shm_l73 hM, shm_l74 hM, shm_l75 hM, shm_l76 hM, shm_l77 hM, shm_l78 hM, shm_l79 hM, shm_l80 hM]; omega))) only [f_X12_force, f_X12_in, t5, wg_lt h1, wg_nlt h1, wg_le h1, wg_nle h1, wg_ne h1, wg_nm h1, ↓eM, eL_0, eL_1, eL_2, eL_3, eL_4, eL_5, eL_6, eL_7, eL_8, eL_9, eL_10, eL_11, eL_12, eL_15, eL_16, eL_20, eL_24, eL_30, eL_31, eL_32, eL_39, eL_40, eL_41, eL_42, eL_43, eL_45, eL_47, eL_48, eL_49, eL_50, eL_57, eL_59, eL_60, eL_61, eL_90, eL_96, eL_97, eL_100, eL_122, eL_160, eL_161, eL_255, eL_300, eL_343, eL_999, eL_1000, eL_1920, eL_9999, eL_10000, eL_999999, eL_100000, eL_1000000, ↓reduceIte, ↓bl_e, bd_e, u1_f, u1_s, u2_f, u2_s, w_cl, w_ltT, w_ltF, w_leT, w_leF, w_eqT, w_eqF, w_mlt, w_ltm, w_mle, w_lem, w_eqm, w_meq, w_mltm, nI_add, w_sub, w_addm, up_s, up_n, ud_s, ud_n, ck_n, bz_0, bz_1], rfl, hW0⟩
    unfold fA_X7_choose
    rw [if_neg (show ¬ a1 < 0 from h0), tk_t ⟨by omega, by omega, k45⟩, t4, if_pos h1]
    rfl
  · obtain ⟨g1, g2, g3, g4, -⟩ := t9 j hj
    have htx : tX j = 47 ∨ (151 ≤ tX j ∧ tX j = 147 + 4 * j) := by unfold tX; split <;> omega
    refine ⟨(nI c, UP S 45 1 (some (tX j)), U1 x 45 3 (nI j)), (nI c, U1 y 40 30 (nI j)), hpre _ ?_, by simp (disch := (first | omega | (simp only [shm_l41 hM, shm_l42 hM, shm_l43 hM, shm_l44 hM, shm_l45 hM, shm_l46 hM, shm_l47 hM, shm_l48 hM, shm_l49 hM, shm_l50 hM, shm_l51 hM, shm_l52 hM, shm_l53 hM, shm_l54 hM, shm_l55 hM, shm_l56 hM, shm_l57 hM, shm_l58 hM, shm_l59 hM, shm_l60 hM, shm_l61 hM, shm_l62 hM, shm_l63 hM, shm_l64 hM, shm_l65 hM, shm_l66 hM, shm_l67 hM, shm_l68 hM, shm_l69 hM, shm_l70 hM, shm_l71 hM, shm_l72 hM, shm_l73 hM, shm_l74 hM, shm_l75 hM, shm_l76 hM, shm_l77 hM, shm_l78 hM, shm_l79 hM, shm_l80 hM]; omega))) only [f_X12_force, f_X12_in, t5, t7, ↓eM, eL_0, eL_1, eL_2, eL_3, eL_4, eL_5, eL_6, eL_7, eL_8, eL_9, eL_10, eL_11, eL_12, eL_15, eL_16, eL_20, eL_24, eL_30, eL_31, eL_32, eL_39, eL_40, eL_41, eL_42, eL_43, eL_45, eL_47, eL_48, eL_49, eL_50, eL_57, eL_59, eL_60, eL_61, eL_90, eL_96, eL_97, eL_100, eL_122, eL_160, eL_161, eL_255, eL_300, eL_343, eL_999, eL_1000, eL_1920, eL_9999, eL_10000, eL_999999, eL_100000, eL_1000000, ↓reduceIte, ↓bl_e, bd_e, u1_f, u1_s, u2_f, u2_s, w_cl, w_ltT, w_ltF, w_leT, w_leF, w_eqT, w_eqF, w_mlt, w_ltm, w_mle, w_lem, w_eqm, w_meq, w_mltm, nI_add, w_sub, w_addm, up_s, up_n, ud_s, ud_n, ck_n, bz_0, bz_1], rfl, n, M, K, W, w, T, j, ⟨hS.up (by omega), hM, hX.up, by omega, by omega, hmn.k ?_ ?_ ?_, hE.k ?_, hT.up hj ?_ ?_ ?_ ?_ ?_ ?_⟩, ⟨hS1.up (by omega), hS2.up (by omega), hS3.up (by omega)⟩, hR.k ?_ ?_ ?_, hF.k ?_ ?_ ?_, hH.k ?_ ?_ ?_ ?_, hP.k ?_ ?_ ?_ ?_, ⟨z1, ?_, ?_, ?_, fun s hs => ?_, z6.up k45 ⟨by omega, by omega, z8 j hj⟩, z7, z8⟩, hWm, hTm, fun s g1 g2 => by simp (disch := omega) only [u1_f, u1_s, u2_f, u2_s, up_s, up_n, ud_s, ud_n]; exact hU s g1 g2⟩
    · unfold fA_X7_choose
      rw [if_neg (show ¬ nI j < 0 from nI_pos (by omega)), tk_t ⟨by omega, by omega, k45⟩, t4, if_neg (nI_ge hj (by omega)), tk_t ⟨by omega, by omega, k45⟩, sx_ou0 hX, rfk_s, tk_t ⟨by omega, by omega, k46⟩, sx_l46 hX, if_pos (show nI j < nI 6 from nI_lt (by omega) (by omega)), tk_t ⟨by omega, by omega, k45⟩, rfk_s, tk_t ⟨by omega, by omega, k46⟩, ck_n (by rw [sx_l46 hX]; omega) (by omega), w_cl (by omega), g1, rfk_s, tk_t ⟨by omega, by omega, k45⟩, tk_t ⟨by omega, by omega, k45⟩, bl_e, tk_t ⟨by omega, by omega, k45⟩, lk_t (by omega), bl_e, bl_e, t6]
    · intros; simp (disch := omega) only [u1_f, u1_s, u2_f, u2_s, up_s, up_n, ud_s, ud_n]
    · intros; simp (disch := omega) only [u1_f, u1_s, u2_f, u2_s, up_s, up_n, ud_s, ud_n]
    · simp (disch := omega) only [u1_f, u1_s, u2_f, u2_s, up_s, up_n, ud_s, ud_n]
    · intros; simp (disch := omega) only [u1_f, u1_s, u2_f, u2_s, up_s, up_n, ud_s, ud_n]
    · intros; simp (disch := omega) only [u1_f, u1_s, u2_f, u2_s, up_s, up_n, ud_s, ud_n]
    · simp (disch := omega) only [u1_f, u1_s, u2_f, u2_s, up_s, up_n, ud_s, ud_n]
    · simp (disch := omega) only [u1_f, u1_s, u2_f, u2_s, up_s, up_n, ud_s, ud_n]
    · intros; simp (disch := omega) only [u1_f, u1_s, u2_f, u2_s, up_s, up_n, ud_s, ud_n]
    · simp (disch := omega) only [u1_f, u1_s, u2_f, u2_s, up_s, up_n, ud_s, ud_n]
    · simp (disch := omega) only [u1_f, u1_s, u2_f, u2_s, up_s, up_n, ud_s, ud_n]
    · intros; simp (disch := omega) only [u1_f, u1_s, u2_f, u2_s, up_s, up_n, ud_s, ud_n]
    · intros; simp (disch := omega) only [u1_f, u1_s, u2_f, u2_s, up_s, up_n, ud_s, ud_n]
    · intros; simp (disch := omega) only [u1_f, u1_s, u2_f, u2_s, up_s, up_n, ud_s, ud_n]
    · simp (disch := omega) only [u1_f, u1_s, u2_f, u2_s, up_s, up_n, ud_s, ud_n]
    · simp (disch := omega) only [u1_f, u1_s, u2_f, u2_s, up_s, up_n, ud_s, ud_n]
    · simp (disch := omega) only [u1_f, u1_s, u2_f, u2_s, up_s, up_n, ud_s, ud_n]
    · intros; simp (disch := omega) only [u1_f, u1_s, u2_f, u2_s, up_s, up_n, ud_s, ud_n]
    · simp (disch := omega) only [u1_f, u1_s, u2_f, u2_s, up_s, up_n, ud_s, ud_n]
    · simp (disch := omega) only [u1_f, u1_s, u2_f, u2_s, up_s, up_n, ud_s, ud_n]
    · simp (disch := omega) only [u1_f, u1_s, u2_f, u2_s, up_s, up_n, ud_s, ud_n]
    · simp (disch := omega) only [u1_f, u1_s, u2_f, u2_s, up_s, up_n, ud_s, ud_n]
    · simp (disch := omega) only [u1_f, u1_s, u2_f, u2_s, up_s, up_n, ud_s, ud_n]
    · simp (disch := omega) only [u1_f, u1_s, u2_f, u2_s, up_s, up_n, ud_s, ud_n]
    · simp (disch := omega) only [u1_f, u1_s, u2_f, u2_s, up_s, up_n, ud_s, ud_n]
    · show up2 S.2.2.2 45 1 (some (tX j)) 88 0 = _
      rw [up2_n (by omega)]; exact z2
    · show up2 S.2.2.2 45 1 (some (tX j)) 88 1 = _
      rw [up2_n (by omega)]; exact z3
    · show up2 S.2.2.2 45 1 (some (tX j)) 88 2 = _
      rw [up2_n (by omega)]; exact z4
    · show up2 S.2.2.2 45 1 (some (tX j)) 62 s = _
      rw [up2_n (by omega)]; exact z5 s hs
end CALLS
