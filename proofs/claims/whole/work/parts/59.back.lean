/-! LAYER 3: taken back -/
def zBk (y z0 z : DY) (n M K W : Nat) : Prop :=
  z.1 40 1 = nI M ∧ z.1 40 2 = y.1 40 2 ∧ z.1 40 3 = y.1 40 3 ∧ z.1 40 17 = nI W ∧ (∀ p, p < M → z.1 46 p = y.1 46 p ∧ z.1 47 p = y.1 47 p ∧ z.1 48 p = y.1 48 p) ∧ (∀ i, i < n → z.1 49 i = y.1 49 i ∧ z.1 50 i = y.1 50 i) ∧ (∀ i, i < W → z.1 51 i = y.1 51 i) ∧ (∀ s, s < K → z.1 60 s = y.1 60 s ∧ z.1 55 s = y.1 55 s ∧ z.1 56 s = y.1 56 s ∧ z.1 57 s = y.1 57 s ∧ z.1 58 s = y.1 58 s) ∧
  (∀ b, b ≠ 40 → (b < 46 ∨ (51 < b ∧ b < 55) ∨ b = 59 ∨ 60 < b) → z.1 b = z0.1 b) ∧ (∀ k, k ≠ 1 → k ≠ 2 → k ≠ 3 → k ≠ 17 → z.1 40 k = z0.1 40 k) ∧ (∀ s, K ≤ s → z.1 60 s = z0.1 60 s)
section BACK
variable {N : Nat} {Sm : SH} {n M K W : Nat} {y z0 : DY}
set_option maxHeartbeats 3200000 in
theorem z_back (hN : 600 ≤ N) (hM : SHM Sm) (c3 : M ≤ 300) (c5 : z0.1 40 18 = nI K) (c6 : K ≤ 8) (c9 : W ≤ 16) (c10 : z0.1 40 0 = nI n) (c12 : n ≤ 12) (hk : zKp y z0 n M K W) (hs : ∀ s, s < K → y.1 60 s = nI 0 ∨ y.1 60 s = nI 1) : ∃ z, f_X12_takeBack N Sm 40 z0 = some z ∧ zBk y z0 z n M K W := by
  obtain ⟨q1, q2, q3, q4, q5, q6, q7, q8⟩ := hk
  have e0 : f_X12_takeBack N Sm 40 z0 = lp_X12_takeBack_34 N Sm (fun y21 => lp_X12_takeBack_86 N Sm (fun y34 => lp_X12_takeBack_126 N Sm (fun y42 => lp_X12_takeBack_154 N Sm 40 0 y42) 40 0 y34) 40 0 y21) 40 0 (U1 (U1 (U1 (U1 z0 40 1 (nI M)) 40 2 (y.1 40 2)) 40 3 (y.1 40 3)) 40 17 (nI W)) := by
    unfold f_X12_takeBack
    simp (disch := omega) only [u1_f, u1_s, u2_f, u2_s, up_s, up_n, ud_s, ud_n, ↓bl_e, q1, q2, q3, q4]
  rw [e0]
  have a1 : (U1 (U1 (U1 (U1 z0 40 1 (nI M)) 40 2 (y.1 40 2)) 40 3 (y.1 40 3)) 40 17 (nI W)).1 40 1 = nI M := by simp (disch := omega) only [u1_f, u1_s, u2_f, u2_s, up_s, up_n, ud_s, ud_n]
  have a2 : (U1 (U1 (U1 (U1 z0 40 1 (nI M)) 40 2 (y.1 40 2)) 40 3 (y.1 40 3)) 40 17 (nI W)).1 40 2 = y.1 40 2 := by simp (disch := omega) only [u1_f, u1_s, u2_f, u2_s, up_s, up_n, ud_s, ud_n]
  have a3 : (U1 (U1 (U1 (U1 z0 40 1 (nI M)) 40 2 (y.1 40 2)) 40 3 (y.1 40 3)) 40 17 (nI W)).1 40 3 = y.1 40 3 := by simp (disch := omega) only [u1_f, u1_s, u2_f, u2_s, up_s, up_n, ud_s, ud_n]
  have a4 : (U1 (U1 (U1 (U1 z0 40 1 (nI M)) 40 2 (y.1 40 2)) 40 3 (y.1 40 3)) 40 17 (nI W)).1 40 17 = nI W := by simp (disch := omega) only [u1_f, u1_s, u2_f, u2_s, up_s, up_n, ud_s, ud_n]
  have a5 : ∀ b, b ≠ 40 → (U1 (U1 (U1 (U1 z0 40 1 (nI M)) 40 2 (y.1 40 2)) 40 3 (y.1 40 3)) 40 17 (nI W)).1 b = z0.1 b := fun b hb => by simp (disch := omega) only [u1_f, u1_s, u2_f, u2_s, up_s, up_n, ud_s, ud_n]
  have a6 : ∀ k, k ≠ 1 → k ≠ 2 → k ≠ 3 → k ≠ 17 → (U1 (U1 (U1 (U1 z0 40 1 (nI M)) 40 2 (y.1 40 2)) 40 3 (y.1 40 3)) 40 17 (nI W)).1 40 k = z0.1 40 k := fun k h1 h2 h3 h4 => by simp (disch := omega) only [u1_f, u1_s, u2_f, u2_s, up_s, up_n, ud_s, ud_n]
  generalize U1 (U1 (U1 (U1 z0 40 1 (nI M)) 40 2 (y.1 40 2)) 40 3 (y.1 40 3)) 40 17 (nI W) = v0 at a1 a2 a3 a4 a5 a6
  unfold lp_X12_takeBack_34
  refine z_loop1 (fun i a => ∃ z, a = (nI i, z) ∧ (∀ b, (b < 46 ∨ 48 < b) → z.1 b = v0.1 b) ∧ (∀ p, p < i → z.1 46 p = y.1 46 p ∧ z.1 47 p = y.1 47 p ∧ z.1 48 p = y.1 48 p)) M (N1 := N) (K1 := fun a => lp_X12_takeBack_86 N Sm (fun y34 => lp_X12_takeBack_126 N Sm (fun y42 => lp_X12_takeBack_154 N Sm 40 0 y42) 40 0 y34) 40 0 a.2) (fun o => ∃ z, o = some z ∧ zBk y z0 z n M K W) (by omega) ⟨v0, rfl, fun _ _ => rfl, fun p hp => absurd hp (Nat.not_lt_zero p)⟩ ?_ ?_ ?_
  · rintro i _ hi ⟨z, rfl, f1, f2⟩
    have c2' : z.1 40 1 = nI M := by rw [f1 40 (by omega)]; exact a1
    refine ⟨(nI (i + 1), U1 (U1 (U1 z 46 i (z.1 68 i)) 47 i (z.1 69 i)) 48 i (z.1 70 i)), ⟨_, rfl, fun b hb => by simp (disch := omega) only [u1_f, u1_s, u2_f, u2_s, up_s, up_n, ud_s, ud_n]; exact f1 b hb, fun p hp => ?_⟩, fun back => ?_⟩
    · simp (disch := omega) only [u1_f, u1_s, u2_f, u2_s, up_s, up_n, ud_s, ud_n]
      by_cases e : p = i
      · subst e; rw [ud_s, ud_s, ud_s, f1 68 (by omega), f1 69 (by omega), f1 70 (by omega), a5 _ (by omega), a5 _ (by omega), a5 _ (by omega)]; exact q5 p hi
      · rw [ud_n e, ud_n e, ud_n e]; exact f2 p (by omega)
    · simp (disch := (first | omega | (simp only [shm_l41 hM, shm_l42 hM, shm_l43 hM, shm_l44 hM, shm_l45 hM, shm_l46 hM, shm_l47 hM, shm_l48 hM, shm_l49 hM, shm_l50 hM, shm_l51 hM, shm_l52 hM, shm_l53 hM, shm_l54 hM, shm_l55 hM, shm_l56 hM, shm_l57 hM, shm_l58 hM, shm_l59 hM, shm_l60 hM, shm_l61 hM, shm_l62 hM, shm_l63 hM, shm_l64 hM, shm_l65 hM, shm_l66 hM, shm_l67 hM, shm_l68 hM, shm_l69 hM, shm_l70 hM, shm_l71 hM, shm_l72 hM, shm_l73 hM, shm_l74 hM, shm_l75 hM, shm_l76 hM, shm_l77 hM, shm_l78 hM, shm_l79 hM, shm_l80 hM]; omega))) only [lp_X12_takeBack_34_b, shm_p5 hM, shm_p6 hM, shm_p7 hM, shm_p8 hM, shm_p9 hM, shm_p10 hM, shm_p11 hM, shm_p12 hM, shm_p13 hM, shm_p14 hM, shm_p15 hM, shm_p16 hM, shm_p19 hM, shm_p20 hM, shm_p21 hM, shm_p22 hM, shm_p23 hM, shm_p24 hM, shm_p25 hM, shm_p26 hM, shm_p27 hM, shm_p31 hM, shm_p32 hM, shm_p37 hM, shm_p38 hM, shm_p43 hM, shm_p44 hM, shm_p48 hM, shm_p49 hM, shm_p50 hM, shm_p51 hM, shm_p52 hM, shm_p53 hM, shm_p54 hM, shm_p55 hM, shm_p62 hM, shm_p63 hM, shm_p64 hM, shm_p65 hM, shm_p66 hM, c2', ↓eM, eL_0, eL_1, eL_2, eL_3, eL_4, eL_5, eL_6, eL_7, eL_8, eL_9, eL_10, eL_11, eL_12, eL_15, eL_16, eL_20, eL_24, eL_30, eL_31, eL_32, eL_39, eL_40, eL_41, eL_42, eL_43, eL_45, eL_47, eL_48, eL_49, eL_50, eL_57, eL_59, eL_60, eL_61, eL_90, eL_96, eL_97, eL_100, eL_122, eL_160, eL_161, eL_255, eL_300, eL_343, eL_999, eL_1000, eL_1920, eL_9999, eL_10000, eL_999999, eL_100000, eL_1000000, ↓reduceIte, ↓bl_e, bd_e, u1_f, u1_s, u2_f, u2_s, w_cl, w_ltT, w_ltF, w_leT, w_leF, w_eqT, w_eqF, w_mlt, w_ltm, w_mle, w_lem, w_eqm, w_meq, w_mltm, nI_add, w_sub, w_addm, up_s, up_n, ud_s, ud_n, ck_n, bz_0, bz_1]
  · rintro _ ⟨z, rfl, f1, f2⟩ back
    have c2' : z.1 40 1 = nI M := by rw [f1 40 (by omega)]; exact a1
    simp (disch := omega) only [lp_X12_takeBack_34_b, c2', w_leT, ↓reduceIte]
  rintro _ ⟨z1, rfl, f1, f2⟩
  unfold lp_X12_takeBack_86
  refine z_loop1 (fun i a => ∃ z, a = (nI i, z) ∧ (∀ b, b ≠ 49 → b ≠ 50 → z.1 b = z1.1 b) ∧ (∀ p, p < i → z.1 49 p = y.1 49 p ∧ z.1 50 p = y.1 50 p)) n (N1 := N) (K1 := fun a => lp_X12_takeBack_126 N Sm (fun y42 => lp_X12_takeBack_154 N Sm 40 0 y42) 40 0 a.2) (fun o => ∃ z, o = some z ∧ zBk y z0 z n M K W) (by omega) ⟨z1, rfl, fun _ _ _ => rfl, fun p hp => absurd hp (Nat.not_lt_zero p)⟩ ?_ ?_ ?_
  · rintro i _ hi ⟨z, rfl, g1, g2⟩
    have c2' : z.1 40 0 = nI n := by rw [g1 40 (by omega) (by omega), f1 40 (by omega), a6 0 (by omega) (by omega) (by omega) (by omega)]; exact c10
    refine ⟨(nI (i + 1), U1 (U1 z 49 i (z.1 71 i)) 50 i (z.1 72 i)), ⟨_, rfl, fun b h1 h2 => by simp (disch := omega) only [u1_f, u1_s, u2_f, u2_s, up_s, up_n, ud_s, ud_n]; exact g1 b h1 h2, fun p hp => ?_⟩, fun back => ?_⟩
    · simp (disch := omega) only [u1_f, u1_s, u2_f, u2_s, up_s, up_n, ud_s, ud_n]
      by_cases e : p = i
      · subst e; rw [ud_s, ud_s, g1 71 (by omega) (by omega), g1 72 (by omega) (by omega), f1 71 (by omega), f1 72 (by omega), a5 _ (by omega), a5 _ (by omega)]; exact q6 p hi
      · rw [ud_n e, ud_n e]; exact g2 p (by omega)
    · simp (disch := (first | omega | (simp only [shm_l41 hM, shm_l42 hM, shm_l43 hM, shm_l44 hM, shm_l45 hM, shm_l46 hM, shm_l47 hM, shm_l48 hM, shm_l49 hM, shm_l50 hM, shm_l51 hM, shm_l52 hM, shm_l53 hM, shm_l54 hM, shm_l55 hM, shm_l56 hM, shm_l57 hM, shm_l58 hM, shm_l59 hM, shm_l60 hM, shm_l61 hM, shm_l62 hM, shm_l63 hM, shm_l64 hM, shm_l65 hM, shm_l66 hM, shm_l67 hM, shm_l68 hM, shm_l69 hM, shm_l70 hM, shm_l71 hM, shm_l72 hM, shm_l73 hM, shm_l74 hM, shm_l75 hM, shm_l76 hM, shm_l77 hM, shm_l78 hM, shm_l79 hM, shm_l80 hM]; omega))) only [lp_X12_takeBack_86_b, shm_p5 hM, shm_p6 hM, shm_p7 hM, shm_p8 hM, shm_p9 hM, shm_p10 hM, shm_p11 hM, shm_p12 hM, shm_p13 hM, shm_p14 hM, shm_p15 hM, shm_p16 hM, shm_p19 hM, shm_p20 hM, shm_p21 hM, shm_p22 hM, shm_p23 hM, shm_p24 hM, shm_p25 hM, shm_p26 hM, shm_p27 hM, shm_p31 hM, shm_p32 hM, shm_p37 hM, shm_p38 hM, shm_p43 hM, shm_p44 hM, shm_p48 hM, shm_p49 hM, shm_p50 hM, shm_p51 hM, shm_p52 hM, shm_p53 hM, shm_p54 hM, shm_p55 hM, shm_p62 hM, shm_p63 hM, shm_p64 hM, shm_p65 hM, shm_p66 hM, c2', ↓eM, eL_0, eL_1, eL_2, eL_3, eL_4, eL_5, eL_6, eL_7, eL_8, eL_9, eL_10, eL_11, eL_12, eL_15, eL_16, eL_20, eL_24, eL_30, eL_31, eL_32, eL_39, eL_40, eL_41, eL_42, eL_43, eL_45, eL_47, eL_48, eL_49, eL_50, eL_57, eL_59, eL_60, eL_61, eL_90, eL_96, eL_97, eL_100, eL_122, eL_160, eL_161, eL_255, eL_300, eL_343, eL_999, eL_1000, eL_1920, eL_9999, eL_10000, eL_999999, eL_100000, eL_1000000, ↓reduceIte, ↓bl_e, bd_e, u1_f, u1_s, u2_f, u2_s, w_cl, w_ltT, w_ltF, w_leT, w_leF, w_eqT, w_eqF, w_mlt, w_ltm, w_mle, w_lem, w_eqm, w_meq, w_mltm, nI_add, w_sub, w_addm, up_s, up_n, ud_s, ud_n, ck_n, bz_0, bz_1]
  · rintro _ ⟨z, rfl, g1, g2⟩ back
    have c2' : z.1 40 0 = nI n := by rw [g1 40 (by omega) (by omega), f1 40 (by omega), a6 0 (by omega) (by omega) (by omega) (by omega)]; exact c10
    simp (disch := omega) only [lp_X12_takeBack_86_b, c2', w_leT, ↓reduceIte]
  rintro _ ⟨z2, rfl, g1, g2⟩
  unfold lp_X12_takeBack_126
  refine z_loop1 (fun i a => ∃ z, a = (nI i, z) ∧ (∀ b, b ≠ 51 → z.1 b = z2.1 b) ∧ (∀ p, p < i → z.1 51 p = y.1 51 p)) W (N1 := N) (K1 := fun a => lp_X12_takeBack_154 N Sm 40 0 a.2) (fun o => ∃ z, o = some z ∧ zBk y z0 z n M K W) (by omega) ⟨z2, rfl, fun _ _ => rfl, fun p hp => absurd hp (Nat.not_lt_zero p)⟩ ?_ ?_ ?_
  · rintro i _ hi ⟨z, rfl, h1, h2⟩
    have c2' : z.1 40 17 = nI W := by rw [h1 40 (by omega), g1 40 (by omega) (by omega), f1 40 (by omega)]; exact a4
    refine ⟨(nI (i + 1), U1 z 51 i (z.1 73 i)), ⟨_, rfl, fun b hb => by simp (disch := omega) only [u1_f, u1_s, u2_f, u2_s, up_s, up_n, ud_s, ud_n]; exact h1 b hb, fun p hp => ?_⟩, fun back => ?_⟩
    · simp (disch := omega) only [u1_f, u1_s, u2_f, u2_s, up_s, up_n, ud_s, ud_n]
      by_cases e : p = i
      · subst e; rw [ud_s, h1 73 (by omega), g1 73 (by omega) (by omega), f1 73 (by omega), a5 _ (by omega)]; exact q7 p hi
      · rw [ud_n e]; exact h2 p (by omega)
    · simp (disch := (first | omega | (simp only [shm_l41 hM, shm_l42 hM, shm_l43 hM, shm_l44 hM, shm_l45 hM, shm_l46 hM, shm_l47 hM, shm_l48 hM, shm_l49 hM, shm_l50 hM, shm_l51 hM, shm_l52 hM, shm_l53 hM, shm_l54 hM, shm_l55 hM, shm_l56 hM, shm_l57 hM, shm_l58 hM, shm_l59 hM, shm_l60 hM, shm_l61 hM, shm_l62 hM, shm_l63 hM, shm_l64 hM, shm_l65 hM, shm_l66 hM, shm_l67 hM, shm_l68 hM, shm_l69 hM, shm_l70 hM, shm_l71 hM, shm_l72 hM, shm_l73 hM, shm_l74 hM, shm_l75 hM, shm_l76 hM, shm_l77 hM, shm_l78 hM, shm_l79 hM, shm_l80 hM]; omega))) only [lp_X12_takeBack_126_b, shm_p5 hM, shm_p6 hM, shm_p7 hM, shm_p8 hM, shm_p9 hM, shm_p10 hM, shm_p11 hM, shm_p12 hM, shm_p13 hM, shm_p14 hM, shm_p15 hM, shm_p16 hM, shm_p19 hM, shm_p20 hM, shm_p21 hM, shm_p22 hM, shm_p23 hM, shm_p24 hM, shm_p25 hM, shm_p26 hM, shm_p27 hM, shm_p31 hM, shm_p32 hM, shm_p37 hM, shm_p38 hM, shm_p43 hM, shm_p44 hM, shm_p48 hM, shm_p49 hM, shm_p50 hM, shm_p51 hM, shm_p52 hM, shm_p53 hM, shm_p54 hM, shm_p55 hM, shm_p62 hM, shm_p63 hM, shm_p64 hM, shm_p65 hM, shm_p66 hM, c2', ↓eM, eL_0, eL_1, eL_2, eL_3, eL_4, eL_5, eL_6, eL_7, eL_8, eL_9, eL_10, eL_11, eL_12, eL_15, eL_16, eL_20, eL_24, eL_30, eL_31, eL_32, eL_39, eL_40, eL_41, eL_42, eL_43, eL_45, eL_47, eL_48, eL_49, eL_50, eL_57, eL_59, eL_60, eL_61, eL_90, eL_96, eL_97, eL_100, eL_122, eL_160, eL_161, eL_255, eL_300, eL_343, eL_999, eL_1000, eL_1920, eL_9999, eL_10000, eL_999999, eL_100000, eL_1000000, ↓reduceIte, ↓bl_e, bd_e, u1_f, u1_s, u2_f, u2_s, w_cl, w_ltT, w_ltF, w_leT, w_leF, w_eqT, w_eqF, w_mlt, w_ltm, w_mle, w_lem, w_eqm, w_meq, w_mltm, nI_add, w_sub, w_addm, up_s, up_n, ud_s, ud_n, ck_n, bz_0, bz_1]
  · rintro _ ⟨z, rfl, h1, h2⟩ back
    have c2' : z.1 40 17 = nI W := by rw [h1 40 (by omega), g1 40 (by omega) (by omega), f1 40 (by omega)]; exact a4
    simp (disch := omega) only [lp_X12_takeBack_126_b, c2', w_leT, ↓reduceIte]
  rintro _ ⟨z3, rfl, h1, h2⟩
  have o3 : ∀ b, (b < 46 ∨ 51 < b) → z3.1 b = v0.1 b := fun b hb => (h1 b (by omega)).trans ((g1 b (by omega) (by omega)).trans (f1 b (by omega)))
  unfold lp_X12_takeBack_154
  refine z_loop1 (fun i a => ∃ z, a = (nI i, z) ∧ (∀ b, (b < 55 ∨ b = 59 ∨ 60 < b) → z.1 b = z3.1 b) ∧ (∀ s, s < i → z.1 60 s = y.1 60 s ∧ z.1 55 s = y.1 55 s ∧ z.1 56 s = y.1 56 s ∧ z.1 57 s = y.1 57 s ∧ z.1 58 s = y.1 58 s) ∧ (∀ s, i ≤ s → z.1 60 s = z3.1 60 s)) K (N1 := N) (K1 := fun a => some a.2) (fun o => ∃ z, o = some z ∧ zBk y z0 z n M K W) (by omega) ⟨z3, rfl, fun _ _ => rfl, fun p hp => absurd hp (Nat.not_lt_zero p), fun _ _ => rfl⟩ ?_ ?_ ?_
  · rintro i _ hi ⟨z, rfl, k1, k2, k3⟩
    have oz : ∀ b, b ≠ 40 → (b < 46 ∨ (51 < b ∧ b < 55) ∨ 60 < b) → z.1 b = z0.1 b := fun b h1 h2 => (k1 b (by omega)).trans ((o3 b (by omega)).trans (a5 b h1))
    have c2' : z.1 40 18 = nI K := by rw [k1 40 (by omega), o3 40 (by omega), a6 18 (by omega) (by omega) (by omega) (by omega)]; exact c5
    obtain ⟨u1, u2, u3, u4, u5⟩ := q8 i hi
    have hnar : vp_nar .boolean (z.1 75 i) = z.1 75 i := by
      rw [oz 75 (by omega) (by omega), u1]
      rcases hs i hi with h | h
      · rw [h]; exact nar0
      · rw [h]; exact nar1
    refine ⟨(nI (i + 1), U1 (U1 (U1 (U1 (U1 z 60 i (z.1 75 i)) 55 i (z.1 74 (5 * i))) 56 i (z.1 74 (5 * i + 1))) 57 i (z.1 74 (5 * i + 2))) 58 i (z.1 74 (5 * i + 3))), ⟨_, rfl, fun b hb => by simp (disch := omega) only [u1_f, u1_s, u2_f, u2_s, up_s, up_n, ud_s, ud_n]; exact k1 b hb, fun s hs' => ?_, fun s hs' => by simp (disch := omega) only [u1_f, u1_s, u2_f, u2_s, up_s, up_n, ud_s, ud_n]; exact k3 s (by omega)⟩, fun back => ?_⟩
    · simp (disch := omega) only [u1_f, u1_s, u2_f, u2_s, up_s, up_n, ud_s, ud_n]
      by_cases e : s = i
      · subst e
        simp only [ud_s]
        rw [oz 75 (by omega) (by omega), oz 74 (by omega) (by omega)]
        exact ⟨u1, u2, u3, u4, u5⟩
      · simp only [ud_n e]
        exact k2 s (by omega)
    · simp (disch := (first | omega | (simp only [shm_l41 hM, shm_l42 hM, shm_l43 hM, shm_l44 hM, shm_l45 hM, shm_l46 hM, shm_l47 hM, shm_l48 hM, shm_l49 hM, shm_l50 hM, shm_l51 hM, shm_l52 hM, shm_l53 hM, shm_l54 hM, shm_l55 hM, shm_l56 hM, shm_l57 hM, shm_l58 hM, shm_l59 hM, shm_l60 hM, shm_l61 hM, shm_l62 hM, shm_l63 hM, shm_l64 hM, shm_l65 hM, shm_l66 hM, shm_l67 hM, shm_l68 hM, shm_l69 hM, shm_l70 hM, shm_l71 hM, shm_l72 hM, shm_l73 hM, shm_l74 hM, shm_l75 hM, shm_l76 hM, shm_l77 hM, shm_l78 hM, shm_l79 hM, shm_l80 hM]; omega))) only [lp_X12_takeBack_154_b, shm_p5 hM, shm_p6 hM, shm_p7 hM, shm_p8 hM, shm_p9 hM, shm_p10 hM, shm_p11 hM, shm_p12 hM, shm_p13 hM, shm_p14 hM, shm_p15 hM, shm_p16 hM, shm_p19 hM, shm_p20 hM, shm_p21 hM, shm_p22 hM, shm_p23 hM, shm_p24 hM, shm_p25 hM, shm_p26 hM, shm_p27 hM, shm_p31 hM, shm_p32 hM, shm_p37 hM, shm_p38 hM, shm_p43 hM, shm_p44 hM, shm_p48 hM, shm_p49 hM, shm_p50 hM, shm_p51 hM, shm_p52 hM, shm_p53 hM, shm_p54 hM, shm_p55 hM, shm_p62 hM, shm_p63 hM, shm_p64 hM, shm_p65 hM, shm_p66 hM, c2', pk_mul, hnar, ↓eM, eL_0, eL_1, eL_2, eL_3, eL_4, eL_5, eL_6, eL_7, eL_8, eL_9, eL_10, eL_11, eL_12, eL_15, eL_16, eL_20, eL_24, eL_30, eL_31, eL_32, eL_39, eL_40, eL_41, eL_42, eL_43, eL_45, eL_47, eL_48, eL_49, eL_50, eL_57, eL_59, eL_60, eL_61, eL_90, eL_96, eL_97, eL_100, eL_122, eL_160, eL_161, eL_255, eL_300, eL_343, eL_999, eL_1000, eL_1920, eL_9999, eL_10000, eL_999999, eL_100000, eL_1000000, ↓reduceIte, ↓bl_e, bd_e, u1_f, u1_s, u2_f, u2_s, w_cl, w_ltT, w_ltF, w_leT, w_leF, w_eqT, w_eqF, w_mlt, w_ltm, w_mle, w_lem, w_eqm, w_meq, w_mltm, nI_add, w_sub, w_addm, up_s, up_n, ud_s, ud_n, ck_n, bz_0, bz_1]
  · rintro _ ⟨z, rfl, k1, k2, k3⟩ back
    have c2' : z.1 40 18 = nI K := by rw [k1 40 (by omega), o3 40 (by omega), a6 18 (by omega) (by omega) (by omega) (by omega)]; exact c5
    simp (disch := omega) only [lp_X12_takeBack_154_b, c2', w_leT, ↓reduceIte]
  rintro _ ⟨z, rfl, k1, k2, k3⟩
  have e40 : z.1 40 = v0.1 40 := (k1 40 (by omega)).trans (o3 40 (by omega))
  refine ⟨z, rfl, by rw [e40]; exact a1, by rw [e40]; exact a2, by rw [e40]; exact a3, by rw [e40]; exact a4, fun p hp => ?_, fun p hp => ?_, fun p hp => ?_, k2, fun b h1 h2 => (k1 b (by omega)).trans ((o3 b (by omega)).trans (a5 b h1)), fun k b1 b2 b3 b4 => by rw [e40]; exact a6 k b1 b2 b3 b4, fun s hs' => by rw [k3 s hs', o3 60 (by omega), a5 60 (by omega)]⟩
  · rw [k1 46 (by omega), k1 47 (by omega), k1 48 (by omega), h1 46 (by omega), h1 47 (by omega), h1 48 (by omega), g1 46 (by omega) (by omega), g1 47 (by omega) (by omega), g1 48 (by omega) (by omega)]
    exact f2 p hp
  · rw [k1 49 (by omega), k1 50 (by omega), h1 49 (by omega), h1 50 (by omega)]
    exact g2 p hp
  · rw [k1 51 (by omega)]
    exact h2 p hp
end BACK
/-! what has one picture in range has one relation -/
theorem zI.cong {n M K W : Nat} {belt lane q st sp fs took belt' lane' q' st' sp' fs' took' : Nat → Int32} (h : zI n M K W belt lane q st sp fs took) (hb : ∀ i, i < n → belt' i = belt i ∧ lane' i = lane i) (hq : ∀ i, i < W → q' i = q i) (hp : ∀ p, p < M → st' p = st p ∧ sp' p = sp p ∧ fs' p = fs p) (ht : ∀ s, s < K → took' s = took s) : zI n M K W belt' lane' q' st' sp' fs' took' := by
  obtain ⟨h1, h2, h3, h4, h5, h6⟩ := h
  refine ⟨fun i hi => ?_, fun i hi => ?_, fun i hi => ?_, fun i j hi hj e => ?_, fun s hs => ?_, fun p hp' => ?_⟩
  · rw [(hb i hi).1]
    rcases h1 i hi with g | ⟨p, a, b, c, d⟩
    · exact Or.inl g
    · exact Or.inr ⟨p, a, b, (hp p a).1.trans c, (hp p a).2.1.trans d⟩
  · rw [(hb i hi).2]
    rcases h2 i hi with g | ⟨p, s, a, b, c, d, e, f⟩
    · exact Or.inl g
    · exact Or.inr ⟨p, s, a, b, c, (hp p a).1.trans d, (hp p a).2.1.trans e, (hp p a).2.2.trans f⟩
  · rw [hq i hi]
    obtain ⟨p, s, a, b, c, d, e, f⟩ := h3 i hi
    exact ⟨p, s, a, b, c, (hp p a).1.trans d, (hp p a).2.1.trans e, (hp p a).2.2.trans f⟩
  · rw [hq i hi, hq j hj] at e
    exact h4 i j hi hj e
  · rw [ht s hs]
    rcases h5 s hs with g | ⟨p, a, b, c, d⟩
    · exact Or.inl g
    · exact Or.inr ⟨p, a, b, (hp p a).1.trans c, (hp p a).2.1.trans d⟩
  · rw [(hp p hp').1, (hp p hp').2.1]
    rcases h6 p hp' with ⟨i, a, b, c, d⟩ | g | ⟨i, a, b, c, d⟩ | g | g
    · exact Or.inl ⟨i, a, b, c, (hb i a).1.trans d⟩
    · exact Or.inr (Or.inl g)
    · exact Or.inr (Or.inr (Or.inl ⟨i, a, b, c, (hb i a).2.trans d⟩))
    · exact Or.inr (Or.inr (Or.inr (Or.inl g)))
    · exact Or.inr (Or.inr (Or.inr (Or.inr g)))
/-- the world as it was, behind a play that was taken back -/
theorem zRR.back {r n M K W : Nat} {x y z0 z : DY} (h : zRR r n x y M K W) (hb : zBk y z0 z n M K W) (h40 : z0.1 40 0 = nI n ∧ z0.1 40 18 = nI K) (hr : ∀ b, (b = 52 ∨ b = 53 ∨ b = 54 ∨ b = 59) → z0.1 b = y.1 b) (hp : ∀ b p, (b = 44 ∨ b = 45) → p < M → z0.1 b p = y.1 b p) : zRR r n x z M K W := by
  obtain ⟨⟨⟨c1, c2, c3, c4, c5, c6, c7, c8, c9, c10, c11, c12, c13, c14⟩, hpl, ⟨hq1, hq2, hq3, hq4⟩, hse, hzi⟩, hag⟩ := h
  obtain ⟨b1, b2, b3, b4, b5, b6, b7, b8, b9, b10, b11⟩ := hb
  have r52 : z.1 52 = y.1 52 := (b9 52 (by omega) (by omega)).trans (hr 52 (by omega))
  have r53 : z.1 53 = y.1 53 := (b9 53 (by omega) (by omega)).trans (hr 53 (by omega))
  have r54 : z.1 54 = y.1 54 := (b9 54 (by omega) (by omega)).trans (hr 54 (by omega))
  have r59 : z.1 59 = y.1 59 := (b9 59 (by omega) (by omega)).trans (hr 59 (by omega))
  have r44 : ∀ p, p < M → z.1 44 p = y.1 44 p := fun p hp' => by rw [b9 44 (by omega) (by omega)]; exact hp 44 p (by omega) hp'
  have r45 : ∀ p, p < M → z.1 45 p = y.1 45 p := fun p hp' => by rw [b9 45 (by omega) (by omega)]; exact hp 45 p (by omega) hp'
  refine ⟨⟨⟨c1, b1, c3, c4, by rw [b10 18 (by omega) (by omega) (by omega) (by omega)]; exact h40.2, c6, c7, b4, c9, by rw [b10 0 (by omega) (by omega) (by omega) (by omega)]; exact h40.1, c11, c12, c13.trans b2.symm, c14.trans b3.symm⟩, fun p hp' => ?_, ⟨fun i hi => ?_, fun i hi => ?_, fun i hi => ?_, fun i hi => ?_⟩, fun s hs => ?_, ?_⟩, fun p hp' => ?_⟩
  · obtain ⟨g1, g2, g3, g4, g5, g6, g7⟩ := hpl p hp'
    obtain ⟨d1, d2, d3⟩ := b5 p hp'
    rw [r44 p hp', r45 p hp', d2, d3, r52]
    exact ⟨g1, g2, g3, g4, g5, g6, g7⟩
  · rw [(b6 i hi).1]; exact hq1 i hi
  · rw [(b6 i hi).2]; exact hq2 i hi
  · rw [b7 i hi]; exact hq3 i hi
  · rw [(b8 i hi).2.2.2.2]; exact hq4 i hi
  · obtain ⟨d1, d2, d3, d4, d5⟩ := b8 s hs
    rw [d1, d2, d3, d4, d5, r53, r54, r59]
    exact hse s hs
  · exact hzi.cong b6 b7 (fun p hp' => ⟨(b5 p hp').2.1, (b5 p hp').2.2, by rw [r52]⟩) (fun s hs => (b8 s hs).2.2.2.2)
  · rw [(b5 p hp').1]; exact hag p hp'
