/-! LAYER 3: texts: the reference's next token -/
section NEXT3
variable {N : Nat} {Sm : SH} {y : DY} {B : Nat → Nat} {Z : Nat}
set_option maxHeartbeats 1600000 in
theorem m_number (hN : 600 ≤ N) (hM : SHM Sm) (hZ : Z ≤ 160) (h28 : y.1 40 28 = nI Z) (hB : ∀ i, i < Z → B i < 256 ∧ y.1 61 i = sb (B i)) {i0 : Nat} (hi : i0 ≤ Z) (h33 : y.1 40 33 = nI i0) (h36 : y.1 40 36 = nI i0) (h35 : y.1 40 35 = nI 0) (K : DY → Option DY) : ∃ y', lp_X12_next_113 N Sm K 40 y = K y' ∧ zFnx y y' ∧ y'.1 40 36 = nI i0 ∧ y'.1 40 33 = nI (nd isDg B (Z - i0) i0) ∧ y'.1 40 35 = nI (nu B i0 (min (nd isDg B (Z - i0) i0 - i0) 4)) := by
  unfold lp_X12_next_113
  refine z_itr1 (fun j (a : DY) => zFnx y a ∧ a.1 40 36 = nI i0 ∧ a.1 40 33 = nI (i0 + j) ∧ a.1 40 35 = nI (nu B i0 (min j 4)) ∧ nd isDg B (Z - (i0 + j)) (i0 + j) = nd isDg B (Z - i0) i0) (fun q => ∃ y', q = K y' ∧ zFnx y y' ∧ y'.1 40 36 = nI i0 ∧ y'.1 40 33 = nI (nd isDg B (Z - i0) i0) ∧ y'.1 40 35 = nI (nu B i0 (min (nd isDg B (Z - i0) i0 - i0) 4))) (Z - i0) ?_ ?_ (Z - i0) 0 _ N (by omega) (by omega) ⟨zFnx.rf, h36, h33, h35, rfl⟩
  · rintro j a hj ⟨f, a36, a33, a35, e⟩
    obtain ⟨b1, b2⟩ := hB (i0 + j) (by omega)
    have b3 : a.1 61 (i0 + j) = sb (B (i0 + j)) := by rw [f.1 61 (by omega)]; exact b2
    have a28 : a.1 40 28 = nI Z := by rw [f.2.1 28 (by omega)]; exact h28
    obtain ⟨m, hm⟩ : ∃ m, Z - (i0 + j) = m + 1 := ⟨Z - (i0 + j) - 1, by omega⟩
    rw [hm] at e
    have e' : (if isDg (B (i0 + j)) = true then nd isDg B m (i0 + j + 1) else i0 + j) = nd isDg B (Z - i0) i0 := e
    have hl := fun y => y_digit (N := N) (Sm := Sm) (y := y) b1
    by_cases hb : isDg (B (i0 + j)) = true
    · rw [if_pos hb] at e'
      have hl' : ∀ y, f_X12_isDigit N Sm 40 (sb (B (i0 + j))) y = some (nI 1) := fun y => by rw [hl, hb]; rfl
      have hb' := hb
      unfold isDg at hb'
      rw [Bool.and_eq_true, decide_eq_true_iff, decide_eq_true_iff] at hb'
      have hv : sb (B (i0 + j)) = nI (B (i0 + j)) := sb_lo _ (by omega)
      rw [hv] at b3 hl'
      have e48 : (48 : Int32) = nI 48 := rfl
      by_cases h4 : 4 ≤ j
      · refine Or.inl ⟨U1 (U1 a 40 35 (a.1 40 35)) 40 33 (nI (i0 + (j + 1))), ⟨(f.u (by omega) (by omega) _).u (by omega) (by omega) _, ?_, ?_, ?_, by rw [show Z - (i0 + (j + 1)) = m by omega]; exact e'⟩, fun back => ?_⟩
        · simp (disch := omega) only [u1_f, u1_s, u2_f, u2_s, up_s, up_n, ud_s, ud_n]; exact a36
        · simp (disch := omega) only [u1_f, u1_s, u2_f, u2_s, up_s, up_n, ud_s, ud_n]
        · simp (disch := omega) only [u1_f, u1_s, u2_f, u2_s, up_s, up_n, ud_s, ud_n]; rw [a35, show min (j + 1) 4 = min j 4 by omega]
        · simp (disch := (first | omega | (simp only [shm_l41 hM, shm_l42 hM, shm_l43 hM, shm_l44 hM, shm_l45 hM, shm_l46 hM, shm_l47 hM, shm_l48 hM, shm_l49 hM, shm_l50 hM, shm_l51 hM, shm_l52 hM, shm_l53 hM, shm_l54 hM, shm_l55 hM, shm_l56 hM, shm_l57 hM, shm_l58 hM, shm_l59 hM, shm_l60 hM, shm_l61 hM, shm_l62 hM, shm_l63 hM, shm_l64 hM, shm_l65 hM, shm_l66 hM, shm_l67 hM, shm_l68 hM, shm_l69 hM, shm_l70 hM, shm_l71 hM, shm_l72 hM, shm_l73 hM, shm_l74 hM, shm_l75 hM, shm_l76 hM, shm_l77 hM, shm_l78 hM, shm_l79 hM, shm_l80 hM]; omega))) only [lp_X12_next_113_b, j_X12_next_181, a28, a33, a36, b3, hl', Nat.add_sub_cancel_left, Nat.add_assoc, shm_p5 hM, shm_p6 hM, shm_p7 hM, shm_p8 hM, shm_p9 hM, shm_p10 hM, shm_p11 hM, shm_p12 hM, shm_p13 hM, shm_p14 hM, shm_p15 hM, shm_p16 hM, shm_p19 hM, shm_p20 hM, shm_p21 hM, shm_p22 hM, shm_p23 hM, shm_p24 hM, shm_p25 hM, shm_p26 hM, shm_p27 hM, shm_p31 hM, shm_p32 hM, shm_p37 hM, shm_p38 hM, shm_p43 hM, shm_p44 hM, shm_p48 hM, shm_p49 hM, shm_p50 hM, shm_p51 hM, shm_p52 hM, shm_p53 hM, shm_p54 hM, shm_p55 hM, shm_p62 hM, shm_p63 hM, shm_p64 hM, shm_p65 hM, shm_p66 hM, ↓eM, eL_0, eL_1, eL_2, eL_3, eL_4, eL_5, eL_6, eL_7, eL_8, eL_9, eL_10, eL_11, eL_12, eL_15, eL_16, eL_20, eL_24, eL_30, eL_31, eL_32, eL_39, eL_40, eL_41, eL_42, eL_43, eL_45, eL_47, eL_48, eL_49, eL_50, eL_57, eL_59, eL_60, eL_61, eL_90, eL_96, eL_97, eL_100, eL_122, eL_160, eL_161, eL_255, eL_300, eL_343, eL_999, eL_1000, eL_1920, eL_9999, eL_10000, eL_999999, eL_100000, eL_1000000, ↓reduceIte, ↓bl_e, bd_e, u1_f, u1_s, u2_f, u2_s, w_cl, w_ltT, w_ltF, w_leT, w_leF, w_eqT, w_eqF, w_mlt, w_ltm, w_mle, w_lem, w_eqm, w_meq, w_mltm, nI_add, w_sub, w_addm, up_s, up_n, ud_s, ud_n, ck_n, bz_0, bz_1]
      · have hmj : min j 4 = j := by omega
        have hmj1 : min (j + 1) 4 = j + 1 := by omega
        have hd : 10 * nu B i0 j + B (i0 + j) - 48 = nu B i0 (j + 1) := by
          show _ = nu B i0 j * 10 + (B (i0 + j) - 48)
          omega
        rw [hmj] at a35
        refine Or.inl ⟨U1 (U1 a 40 35 (nI (nu B i0 (j + 1)))) 40 33 (nI (i0 + (j + 1))), ⟨(f.u (by omega) (by omega) _).u (by omega) (by omega) _, ?_, ?_, ?_, by rw [show Z - (i0 + (j + 1)) = m by omega]; exact e'⟩, fun back => ?_⟩
        · simp (disch := omega) only [u1_f, u1_s, u2_f, u2_s, up_s, up_n, ud_s, ud_n]; exact a36
        · simp (disch := omega) only [u1_f, u1_s, u2_f, u2_s, up_s, up_n, ud_s, ud_n]
        · simp (disch := omega) only [u1_f, u1_s, u2_f, u2_s, up_s, up_n, ud_s, ud_n]; rw [hmj1]
        · simp (disch := (first | omega | (simp only [shm_l41 hM, shm_l42 hM, shm_l43 hM, shm_l44 hM, shm_l45 hM, shm_l46 hM, shm_l47 hM, shm_l48 hM, shm_l49 hM, shm_l50 hM, shm_l51 hM, shm_l52 hM, shm_l53 hM, shm_l54 hM, shm_l55 hM, shm_l56 hM, shm_l57 hM, shm_l58 hM, shm_l59 hM, shm_l60 hM, shm_l61 hM, shm_l62 hM, shm_l63 hM, shm_l64 hM, shm_l65 hM, shm_l66 hM, shm_l67 hM, shm_l68 hM, shm_l69 hM, shm_l70 hM, shm_l71 hM, shm_l72 hM, shm_l73 hM, shm_l74 hM, shm_l75 hM, shm_l76 hM, shm_l77 hM, shm_l78 hM, shm_l79 hM, shm_l80 hM]; omega))) only [lp_X12_next_113_b, j_X12_next_181, a28, a33, a35, a36, b3, hl', pk_mul, e48, hd, Nat.add_sub_cancel_left, Nat.add_assoc, shm_p5 hM, shm_p6 hM, shm_p7 hM, shm_p8 hM, shm_p9 hM, shm_p10 hM, shm_p11 hM, shm_p12 hM, shm_p13 hM, shm_p14 hM, shm_p15 hM, shm_p16 hM, shm_p19 hM, shm_p20 hM, shm_p21 hM, shm_p22 hM, shm_p23 hM, shm_p24 hM, shm_p25 hM, shm_p26 hM, shm_p27 hM, shm_p31 hM, shm_p32 hM, shm_p37 hM, shm_p38 hM, shm_p43 hM, shm_p44 hM, shm_p48 hM, shm_p49 hM, shm_p50 hM, shm_p51 hM, shm_p52 hM, shm_p53 hM, shm_p54 hM, shm_p55 hM, shm_p62 hM, shm_p63 hM, shm_p64 hM, shm_p65 hM, shm_p66 hM, ↓eM, eL_0, eL_1, eL_2, eL_3, eL_4, eL_5, eL_6, eL_7, eL_8, eL_9, eL_10, eL_11, eL_12, eL_15, eL_16, eL_20, eL_24, eL_30, eL_31, eL_32, eL_39, eL_40, eL_41, eL_42, eL_43, eL_45, eL_47, eL_48, eL_49, eL_50, eL_57, eL_59, eL_60, eL_61, eL_90, eL_96, eL_97, eL_100, eL_122, eL_160, eL_161, eL_255, eL_300, eL_343, eL_999, eL_1000, eL_1920, eL_9999, eL_10000, eL_999999, eL_100000, eL_1000000, ↓reduceIte, ↓bl_e, bd_e, u1_f, u1_s, u2_f, u2_s, w_cl, w_ltT, w_ltF, w_leT, w_leF, w_eqT, w_eqF, w_mlt, w_ltm, w_mle, w_lem, w_eqm, w_meq, w_mltm, nI_add, w_sub, w_addm, up_s, up_n, ud_s, ud_n, ck_n, bz_0, bz_1]
    · rw [if_neg hb] at e'
      have hl' : ∀ y, f_X12_isDigit N Sm 40 (sb (B (i0 + j))) y = some (nI 0) := fun y => by rw [hl]; exact congrArg some (if_neg hb)
      refine Or.inr ⟨_, ⟨a, rfl, f, a36, ?_, ?_⟩, fun back => ?_⟩
      · rw [← e']; exact a33
      · rw [← e', Nat.add_sub_cancel_left]; exact a35
      · simp (disch := (first | omega | (simp only [shm_l41 hM, shm_l42 hM, shm_l43 hM, shm_l44 hM, shm_l45 hM, shm_l46 hM, shm_l47 hM, shm_l48 hM, shm_l49 hM, shm_l50 hM, shm_l51 hM, shm_l52 hM, shm_l53 hM, shm_l54 hM, shm_l55 hM, shm_l56 hM, shm_l57 hM, shm_l58 hM, shm_l59 hM, shm_l60 hM, shm_l61 hM, shm_l62 hM, shm_l63 hM, shm_l64 hM, shm_l65 hM, shm_l66 hM, shm_l67 hM, shm_l68 hM, shm_l69 hM, shm_l70 hM, shm_l71 hM, shm_l72 hM, shm_l73 hM, shm_l74 hM, shm_l75 hM, shm_l76 hM, shm_l77 hM, shm_l78 hM, shm_l79 hM, shm_l80 hM]; omega))) only [lp_X12_next_113_b, a28, a33, b3, hl', shm_p5 hM, shm_p6 hM, shm_p7 hM, shm_p8 hM, shm_p9 hM, shm_p10 hM, shm_p11 hM, shm_p12 hM, shm_p13 hM, shm_p14 hM, shm_p15 hM, shm_p16 hM, shm_p19 hM, shm_p20 hM, shm_p21 hM, shm_p22 hM, shm_p23 hM, shm_p24 hM, shm_p25 hM, shm_p26 hM, shm_p27 hM, shm_p31 hM, shm_p32 hM, shm_p37 hM, shm_p38 hM, shm_p43 hM, shm_p44 hM, shm_p48 hM, shm_p49 hM, shm_p50 hM, shm_p51 hM, shm_p52 hM, shm_p53 hM, shm_p54 hM, shm_p55 hM, shm_p62 hM, shm_p63 hM, shm_p64 hM, shm_p65 hM, shm_p66 hM, ↓eM, eL_0, eL_1, eL_2, eL_3, eL_4, eL_5, eL_6, eL_7, eL_8, eL_9, eL_10, eL_11, eL_12, eL_15, eL_16, eL_20, eL_24, eL_30, eL_31, eL_32, eL_39, eL_40, eL_41, eL_42, eL_43, eL_45, eL_47, eL_48, eL_49, eL_50, eL_57, eL_59, eL_60, eL_61, eL_90, eL_96, eL_97, eL_100, eL_122, eL_160, eL_161, eL_255, eL_300, eL_343, eL_999, eL_1000, eL_1920, eL_9999, eL_10000, eL_999999, eL_100000, eL_1000000, ↓reduceIte, ↓bl_e, bd_e, u1_f, u1_s, u2_f, u2_s, w_cl, w_ltT, w_ltF, w_leT, w_leF, w_eqT, w_eqF, w_mlt, w_ltm, w_mle, w_lem, w_eqm, w_meq, w_mltm, nI_add, w_sub, w_addm, up_s, up_n, ud_s, ud_n, ck_n, bz_0, bz_1]
  · rintro a ⟨f, a36, a33, a35, e⟩
    rw [show Z - (i0 + (Z - i0)) = 0 by omega] at e
    have e' : i0 + (Z - i0) = nd isDg B (Z - i0) i0 := e
    have a28 : a.1 40 28 = nI Z := by rw [f.2.1 28 (by omega)]; exact h28
    refine ⟨_, ⟨a, rfl, f, a36, ?_, ?_⟩, fun back => ?_⟩
    · rw [← e']; exact a33
    · rw [← e', Nat.add_sub_cancel_left]; exact a35
    · simp (disch := (first | omega | (simp only [shm_l41 hM, shm_l42 hM, shm_l43 hM, shm_l44 hM, shm_l45 hM, shm_l46 hM, shm_l47 hM, shm_l48 hM, shm_l49 hM, shm_l50 hM, shm_l51 hM, shm_l52 hM, shm_l53 hM, shm_l54 hM, shm_l55 hM, shm_l56 hM, shm_l57 hM, shm_l58 hM, shm_l59 hM, shm_l60 hM, shm_l61 hM, shm_l62 hM, shm_l63 hM, shm_l64 hM, shm_l65 hM, shm_l66 hM, shm_l67 hM, shm_l68 hM, shm_l69 hM, shm_l70 hM, shm_l71 hM, shm_l72 hM, shm_l73 hM, shm_l74 hM, shm_l75 hM, shm_l76 hM, shm_l77 hM, shm_l78 hM, shm_l79 hM, shm_l80 hM]; omega))) only [lp_X12_next_113_b, a28, a33, shm_p5 hM, shm_p6 hM, shm_p7 hM, shm_p8 hM, shm_p9 hM, shm_p10 hM, shm_p11 hM, shm_p12 hM, shm_p13 hM, shm_p14 hM, shm_p15 hM, shm_p16 hM, shm_p19 hM, shm_p20 hM, shm_p21 hM, shm_p22 hM, shm_p23 hM, shm_p24 hM, shm_p25 hM, shm_p26 hM, shm_p27 hM, shm_p31 hM, shm_p32 hM, shm_p37 hM, shm_p38 hM, shm_p43 hM, shm_p44 hM, shm_p48 hM, shm_p49 hM, shm_p50 hM, shm_p51 hM, shm_p52 hM, shm_p53 hM, shm_p54 hM, shm_p55 hM, shm_p62 hM, shm_p63 hM, shm_p64 hM, shm_p65 hM, shm_p66 hM, ↓eM, eL_0, eL_1, eL_2, eL_3, eL_4, eL_5, eL_6, eL_7, eL_8, eL_9, eL_10, eL_11, eL_12, eL_15, eL_16, eL_20, eL_24, eL_30, eL_31, eL_32, eL_39, eL_40, eL_41, eL_42, eL_43, eL_45, eL_47, eL_48, eL_49, eL_50, eL_57, eL_59, eL_60, eL_61, eL_90, eL_96, eL_97, eL_100, eL_122, eL_160, eL_161, eL_255, eL_300, eL_343, eL_999, eL_1000, eL_1920, eL_9999, eL_10000, eL_999999, eL_100000, eL_1000000, ↓reduceIte, ↓bl_e, bd_e, u1_f, u1_s, u2_f, u2_s, w_cl, w_ltT, w_ltF, w_leT, w_leF, w_eqT, w_eqF, w_mlt, w_ltm, w_mle, w_lem, w_eqm, w_meq, w_mltm, nI_add, w_sub, w_addm, up_s, up_n, ud_s, ud_n, ck_n, bz_0, bz_1]
def zNt (B : Nat → Nat) (Z pos : Nat) (y' : DY) : Prop := (LX B Z pos = [] ∧ y'.1 40 34 = nI 0 ∧ y'.1 40 36 = nI Z ∧ y'.1 40 33 = nI Z) ∨ ∃ t s e, LX B Z pos = (t, s) :: LX B Z e ∧ s < Z ∧ e ≤ Z ∧ zTkOk t ∧ y'.1 40 34 = nI t.1 ∧ (t.1 ≠ 5 → y'.1 40 35 = nI t.2) ∧ y'.1 40 36 = nI s ∧ y'.1 40 33 = nI e
set_option maxHeartbeats 1600000 in
theorem m_next (hN : 600 ≤ N) (hM : SHM Sm) (hZ : Z ≤ 160) (h28 : y.1 40 28 = nI Z) (hB : ∀ i, i < Z → B i < 256 ∧ y.1 61 i = sb (B i)) {pos : Nat} (hp : pos ≤ Z) (h33 : y.1 40 33 = nI pos) : ∃ y', f_X12_next N Sm 40 y = some y' ∧ zFnx y y' ∧ zNt B Z pos y' := by
  have e0 : f_X12_next N Sm 40 y = lp_X12_next_0 N Sm (fun y8 => j_X12_next_52 N Sm 40 y8) 40 y := rfl
  obtain ⟨i, i1, i2, hL, hnb, hk⟩ := m_skip (N := N) hN hM hZ h28 hB hp h33 (fun y8 => j_X12_next_52 N Sm 40 y8)
  rw [e0, hk]
  clear e0 hk
  obtain ⟨y1, hy1⟩ : ∃ y1, y1 = U1 (U1 (U1 y 40 33 (nI i)) 40 36 (nI i)) 40 34 (nI 0) := ⟨_, rfl⟩
  have f1 : zFnx y y1 := by rw [hy1]; exact ((zFnx.rf.u (by omega) (by omega) _).u (by omega) (by omega) _).u (by omega) (by omega) _
  have y33 : y1.1 40 33 = nI i := by rw [hy1]; simp (disch := omega) only [u1_f, u1_s, u2_f, u2_s, up_s, up_n, ud_s, ud_n]
  have y36 : y1.1 40 36 = nI i := by rw [hy1]; simp (disch := omega) only [u1_f, u1_s, u2_f, u2_s, up_s, up_n, ud_s, ud_n]
  have y34 : y1.1 40 34 = nI 0 := by rw [hy1]; simp (disch := omega) only [u1_f, u1_s, u2_f, u2_s, up_s, up_n, ud_s, ud_n]
  have y28 : y1.1 40 28 = nI Z := (f1.2.1 28 (by omega)).trans h28
  have yB : ∀ i, i < Z → B i < 256 ∧ y1.1 61 i = sb (B i) := fun i hi => by rw [f1.1 61 (by omega)]; exact hB i hi
  have hyy : U1 (U1 (U1 y 40 33 (nI i)) 40 36 ((U1 y 40 33 (nI i)).1 40 33)) 40 34 0 = y1 := by
    have : (U1 y 40 33 (nI i)).1 40 33 = nI i := by simp (disch := omega) only [u1_f, u1_s, u2_f, u2_s, up_s, up_n, ud_s, ud_n]
    rw [this, hy1]; rfl
  have n10 : ¬ nI 1 = 0 := by decide
  have n00 : nI 0 = 0 := rfl
  unfold j_X12_next_52
  rw [bl_e, bl_e, hyy, y33, y28]
  by_cases hi : i < Z
  · obtain ⟨b1, b2⟩ := yB i hi
    have hlt := fun y => y_letter (N := N) (Sm := Sm) (y := y) b1
    have hdg := fun y => y_digit (N := N) (Sm := Sm) (y := y) b1
    have ht := LX_tk hi (hnb hi)
    have hok := tk_ok (B := B) hi
    have hrg := tk_rng (B := B) hi
    rw [hL] at ht
    have fin : ∀ y', zFnx y y' → y'.1 40 33 = nI (tkA B Z i).2 → y'.1 40 36 = nI i → y'.1 40 34 = nI (tkA B Z i).1.1 → ((tkA B Z i).1.1 ≠ 5 → y'.1 40 35 = nI (tkA B Z i).1.2) → zFnx y y' ∧ zNt B Z pos y' := fun y' g1 g2 g3 g4 g5 => ⟨g1, Or.inr ⟨_, i, _, ht, hi, hrg.2, hok, g4, g5, g3, g2⟩⟩
    rw [if_neg (show ¬ nI i = nI Z from fun q => by have := nI_inj q (by omega) (by omega); omega), shm_p27 hM, w_cl (by omega), b2, ck_n (by rw [shm_l61 hM]; omega) (by omega)]
    by_cases g1 : isLt (B i) = true
    · have ht' : tkA B Z i = (wdT (sp B i (nd isLt B (Z - i) i)), nd isLt B (Z - i) i) := by unfold tkA; rw [if_pos g1]
      obtain ⟨r1, r2⟩ := nd_gt (B := B) hi g1
      have hlt' : ∀ y, f_X12_isLetter N Sm 40 (sb (B i)) y = some (nI 1) := fun y => by rw [hlt, g1]; rfl
      have hw := m_wordEnd (N := N) (y := y1) hN hM hZ y28 yB (Nat.le_of_lt hi) y33 (fun y7 => j_X12_wordToken_40 N Sm 40 y7)
      obtain ⟨y3, k1, k2, k3, k4, k5, k6⟩ := m_word (N := N) (y := U1 y1 40 33 (nI (nd isLt B (Z - i) i))) hN hM hZ yB (Nat.le_of_lt r1) r2 (show _ = nI i by simp (disch := omega) only [u1_f, u1_s, u2_f, u2_s, up_s, up_n, ud_s, ud_n]; exact y36) (show _ = nI (nd isLt B (Z - i) i) by simp (disch := omega) only [u1_f, u1_s, u2_f, u2_s, up_s, up_n, ud_s, ud_n]) (fun q q1 q2 => nd_all _ _ _ q1 q2)
      have hf : f_X12_wordToken N Sm 40 y1 = some y3 := by
        show lp_X12_wordToken_0 N Sm (fun y7 => j_X12_wordToken_40 N Sm 40 y7) 40 y1 = some y3
        rw [hw]; exact k1
      refine ⟨y3, ?_, fin y3 ((f1.u (by omega) (by omega) _).tr k2) ?_ ?_ ?_ ?_⟩
      · rw [hlt' y1, bd_e, if_neg n10, hf, bd_e]
      · rw [ht', k3]; simp (disch := omega) only [u1_f, u1_s, u2_f, u2_s, up_s, up_n, ud_s, ud_n]
      · rw [k4]; simp (disch := omega) only [u1_f, u1_s, u2_f, u2_s, up_s, up_n, ud_s, ud_n]; exact y36
      · rw [ht']; exact k5
      · rw [ht']; exact k6
    have hlt' : ∀ y, f_X12_isLetter N Sm 40 (sb (B i)) y = some (nI 0) := fun y => by rw [hlt]; exact congrArg some (if_neg g1)
    by_cases g2 : isDg (B i) = true
    · have ht' : tkA B Z i = ((if nd isDg B (Z - i) i - i ≤ 4 then 1 else 5, nu B i (nd isDg B (Z - i) i - i)), nd isDg B (Z - i) i) := by unfold tkA; rw [if_neg g1, if_pos g2]
      obtain ⟨r1, r2⟩ := nd_gt (B := B) hi g2
      have hdg' : ∀ y, f_X12_isDigit N Sm 40 (sb (B i)) y = some (nI 1) := fun y => by rw [hdg, g2]; rfl
      obtain ⟨y3, k1, k2, k3, k4, k5⟩ := m_number (N := N) (y := U1 y1 40 35 (nI 0)) hN hM hZ (show _ = nI Z by simp (disch := omega) only [u1_f, u1_s, u2_f, u2_s, up_s, up_n, ud_s, ud_n]; exact y28) yB (Nat.le_of_lt hi) (show _ = nI i by simp (disch := omega) only [u1_f, u1_s, u2_f, u2_s, up_s, up_n, ud_s, ud_n]; exact y33) (show _ = nI i by simp (disch := omega) only [u1_f, u1_s, u2_f, u2_s, up_s, up_n, ud_s, ud_n]; exact y36) (show _ = nI 0 by simp (disch := omega) only [u1_f, u1_s, u2_f, u2_s, up_s, up_n, ud_s, ud_n]) (fun y48 => j_X12_next_197 N Sm 40 y48)
      have f3 := (f1.u (k := 35) (by omega) (by omega) (nI 0)).tr k2
      by_cases h4 : nd isDg B (Z - i) i - i ≤ 4
      · rw [if_pos h4] at ht'
        rw [show min (nd isDg B (Z - i) i - i) 4 = nd isDg B (Z - i) i - i by omega] at k5
        refine ⟨U1 y3 40 34 (nI 1), ?_, fin _ (f3.u (by omega) (by omega) _) ?_ ?_ ?_ ?_⟩
        · rw [hlt' y1, bd_e, if_pos n00, hdg' y1, bd_e, if_neg n10, bl_e]
          show lp_X12_next_113 N Sm (fun y48 => j_X12_next_197 N Sm 40 y48) 40 (U1 y1 40 35 (nI 0)) = _
          rw [k1]
          simp (disch := (first | omega | (simp only [shm_l41 hM, shm_l42 hM, shm_l43 hM, shm_l44 hM, shm_l45 hM, shm_l46 hM, shm_l47 hM, shm_l48 hM, shm_l49 hM, shm_l50 hM, shm_l51 hM, shm_l52 hM, shm_l53 hM, shm_l54 hM, shm_l55 hM, shm_l56 hM, shm_l57 hM, shm_l58 hM, shm_l59 hM, shm_l60 hM, shm_l61 hM, shm_l62 hM, shm_l63 hM, shm_l64 hM, shm_l65 hM, shm_l66 hM, shm_l67 hM, shm_l68 hM, shm_l69 hM, shm_l70 hM, shm_l71 hM, shm_l72 hM, shm_l73 hM, shm_l74 hM, shm_l75 hM, shm_l76 hM, shm_l77 hM, shm_l78 hM, shm_l79 hM, shm_l80 hM]; omega))) only [j_X12_next_197, k3, k4, ↓eM, eL_0, eL_1, eL_2, eL_3, eL_4, eL_5, eL_6, eL_7, eL_8, eL_9, eL_10, eL_11, eL_12, eL_15, eL_16, eL_20, eL_24, eL_30, eL_31, eL_32, eL_39, eL_40, eL_41, eL_42, eL_43, eL_45, eL_47, eL_48, eL_49, eL_50, eL_57, eL_59, eL_60, eL_61, eL_90, eL_96, eL_97, eL_100, eL_122, eL_160, eL_161, eL_255, eL_300, eL_343, eL_999, eL_1000, eL_1920, eL_9999, eL_10000, eL_999999, eL_100000, eL_1000000, ↓reduceIte, ↓bl_e, bd_e, u1_f, u1_s, u2_f, u2_s, w_cl, w_ltT, w_ltF, w_leT, w_leF, w_eqT, w_eqF, w_mlt, w_ltm, w_mle, w_lem, w_eqm, w_meq, w_mltm, nI_add, w_sub, w_addm, up_s, up_n, ud_s, ud_n, ck_n, bz_0, bz_1]
        · rw [ht']; simp (disch := omega) only [u1_f, u1_s, u2_f, u2_s, up_s, up_n, ud_s, ud_n]; exact k4
        · simp (disch := omega) only [u1_f, u1_s, u2_f, u2_s, up_s, up_n, ud_s, ud_n]; exact k3
        · rw [ht']; simp (disch := omega) only [u1_f, u1_s, u2_f, u2_s, up_s, up_n, ud_s, ud_n]
        · intro _; rw [ht']; simp (disch := omega) only [u1_f, u1_s, u2_f, u2_s, up_s, up_n, ud_s, ud_n]; exact k5
      · rw [if_neg h4] at ht'
        refine ⟨U1 y3 40 34 (nI 5), ?_, fin _ (f3.u (by omega) (by omega) _) ?_ ?_ ?_ ?_⟩
        · rw [hlt' y1, bd_e, if_pos n00, hdg' y1, bd_e, if_neg n10, bl_e]
          show lp_X12_next_113 N Sm (fun y48 => j_X12_next_197 N Sm 40 y48) 40 (U1 y1 40 35 (nI 0)) = _
          rw [k1]
          simp (disch := (first | omega | (simp only [shm_l41 hM, shm_l42 hM, shm_l43 hM, shm_l44 hM, shm_l45 hM, shm_l46 hM, shm_l47 hM, shm_l48 hM, shm_l49 hM, shm_l50 hM, shm_l51 hM, shm_l52 hM, shm_l53 hM, shm_l54 hM, shm_l55 hM, shm_l56 hM, shm_l57 hM, shm_l58 hM, shm_l59 hM, shm_l60 hM, shm_l61 hM, shm_l62 hM, shm_l63 hM, shm_l64 hM, shm_l65 hM, shm_l66 hM, shm_l67 hM, shm_l68 hM, shm_l69 hM, shm_l70 hM, shm_l71 hM, shm_l72 hM, shm_l73 hM, shm_l74 hM, shm_l75 hM, shm_l76 hM, shm_l77 hM, shm_l78 hM, shm_l79 hM, shm_l80 hM]; omega))) only [j_X12_next_197, k3, k4, ↓eM, eL_0, eL_1, eL_2, eL_3, eL_4, eL_5, eL_6, eL_7, eL_8, eL_9, eL_10, eL_11, eL_12, eL_15, eL_16, eL_20, eL_24, eL_30, eL_31, eL_32, eL_39, eL_40, eL_41, eL_42, eL_43, eL_45, eL_47, eL_48, eL_49, eL_50, eL_57, eL_59, eL_60, eL_61, eL_90, eL_96, eL_97, eL_100, eL_122, eL_160, eL_161, eL_255, eL_300, eL_343, eL_999, eL_1000, eL_1920, eL_9999, eL_10000, eL_999999, eL_100000, eL_1000000, ↓reduceIte, ↓bl_e, bd_e, u1_f, u1_s, u2_f, u2_s, w_cl, w_ltT, w_ltF, w_leT, w_leF, w_eqT, w_eqF, w_mlt, w_ltm, w_mle, w_lem, w_eqm, w_meq, w_mltm, nI_add, w_sub, w_addm, up_s, up_n, ud_s, ud_n, ck_n, bz_0, bz_1]
        · rw [ht']; simp (disch := omega) only [u1_f, u1_s, u2_f, u2_s, up_s, up_n, ud_s, ud_n]; exact k4
        · simp (disch := omega) only [u1_f, u1_s, u2_f, u2_s, up_s, up_n, ud_s, ud_n]; exact k3
        · rw [ht']; simp (disch := omega) only [u1_f, u1_s, u2_f, u2_s, up_s, up_n, ud_s, ud_n]
        · intro h; rw [ht'] at h; exact absurd rfl h
    have hdg' : ∀ y, f_X12_isDigit N Sm 40 (sb (B i)) y = some (nI 0) := fun y => by rw [hdg]; exact congrArg some (if_neg g2)
    by_cases g3 : isSg (B i) = true
    · have ht' : tkA B Z i = ((4, B i), i + 1) := by unfold tkA; rw [if_neg g1, if_neg g2, if_pos g3]
      have hv := (isSg_iff (B i)).mp g3
      have hsv : sb (B i) = nI (B i) := sb_lo _ (by omega)
      rw [hsv] at b2 hlt' hdg' ⊢
      refine ⟨U1 (U1 (U1 y1 40 33 (nI (i + 1))) 40 35 (nI (B i))) 40 34 (nI 4), ?_, fin _ (((f1.u (by omega) (by omega) _).u (by omega) (by omega) _).u (by omega) (by omega) _) ?_ ?_ ?_ ?_⟩
      · rcases hv with h | h | h | h | h | h | h | h
        all_goals
          rw [h] at b2 hlt' hdg' ⊢
          rw [hlt' y1, bd_e, if_pos n00, hdg' y1, bd_e, if_pos n00]
          simp (disch := (first | omega | (simp only [shm_l41 hM, shm_l42 hM, shm_l43 hM, shm_l44 hM, shm_l45 hM, shm_l46 hM, shm_l47 hM, shm_l48 hM, shm_l49 hM, shm_l50 hM, shm_l51 hM, shm_l52 hM, shm_l53 hM, shm_l54 hM, shm_l55 hM, shm_l56 hM, shm_l57 hM, shm_l58 hM, shm_l59 hM, shm_l60 hM, shm_l61 hM, shm_l62 hM, shm_l63 hM, shm_l64 hM, shm_l65 hM, shm_l66 hM, shm_l67 hM, shm_l68 hM, shm_l69 hM, shm_l70 hM, shm_l71 hM, shm_l72 hM, shm_l73 hM, shm_l74 hM, shm_l75 hM, shm_l76 hM, shm_l77 hM, shm_l78 hM, shm_l79 hM, shm_l80 hM]; omega))) only [y33, ↓eM, eL_0, eL_1, eL_2, eL_3, eL_4, eL_5, eL_6, eL_7, eL_8, eL_9, eL_10, eL_11, eL_12, eL_15, eL_16, eL_20, eL_24, eL_30, eL_31, eL_32, eL_39, eL_40, eL_41, eL_42, eL_43, eL_45, eL_47, eL_48, eL_49, eL_50, eL_57, eL_59, eL_60, eL_61, eL_90, eL_96, eL_97, eL_100, eL_122, eL_160, eL_161, eL_255, eL_300, eL_343, eL_999, eL_1000, eL_1920, eL_9999, eL_10000, eL_999999, eL_100000, eL_1000000, ↓reduceIte, ↓bl_e, bd_e, u1_f, u1_s, u2_f, u2_s, w_cl, w_ltT, w_ltF, w_leT, w_leF, w_eqT, w_eqF, w_mlt, w_ltm, w_mle, w_lem, w_eqm, w_meq, w_mltm, nI_add, w_sub, w_addm, up_s, up_n, ud_s, ud_n, ck_n, bz_0, bz_1]
      · rw [ht']; simp (disch := omega) only [u1_f, u1_s, u2_f, u2_s, up_s, up_n, ud_s, ud_n]
      · simp (disch := omega) only [u1_f, u1_s, u2_f, u2_s, up_s, up_n, ud_s, ud_n]; exact y36
      · rw [ht']; simp (disch := omega) only [u1_f, u1_s, u2_f, u2_s, up_s, up_n, ud_s, ud_n]
      · intro _; rw [ht']; simp (disch := omega) only [u1_f, u1_s, u2_f, u2_s, up_s, up_n, ud_s, ud_n]
    · have ht' : tkA B Z i = ((5, 0), i + 1) := by unfold tkA; rw [if_neg g1, if_neg g2, if_neg g3]
      have hn : ∀ c, c < 64 → (c = 40 ∨ c = 41 ∨ c = 42 ∨ c = 43 ∨ c = 45 ∨ c = 59 ∨ c = 60 ∨ c = 61) → (sb (B i) = nI c) = False := fun c hc hs => eq_false (fun h => g3 ((isSg_iff (B i)).mpr (by rw [(sb_eq c hc _ b1).mp h]; exact hs)))
      have n40 := hn 40 (by omega) (by omega)
      have n41 := hn 41 (by omega) (by omega)
      have n42 := hn 42 (by omega) (by omega)
      have n43 := hn 43 (by omega) (by omega)
      have n45 := hn 45 (by omega) (by omega)
      have n59 := hn 59 (by omega) (by omega)
      have n60 := hn 60 (by omega) (by omega)
      have n61 := hn 61 (by omega) (by omega)
      refine ⟨U1 (U1 (U1 y1 40 33 (nI (i + 1))) 40 35 (sb (B i))) 40 34 (nI 5), ?_, fin _ (((f1.u (by omega) (by omega) _).u (by omega) (by omega) _).u (by omega) (by omega) _) ?_ ?_ ?_ ?_⟩
      · rw [hlt' y1, bd_e, if_pos n00, hdg' y1, bd_e, if_pos n00]
        simp (disch := (first | omega | (simp only [shm_l41 hM, shm_l42 hM, shm_l43 hM, shm_l44 hM, shm_l45 hM, shm_l46 hM, shm_l47 hM, shm_l48 hM, shm_l49 hM, shm_l50 hM, shm_l51 hM, shm_l52 hM, shm_l53 hM, shm_l54 hM, shm_l55 hM, shm_l56 hM, shm_l57 hM, shm_l58 hM, shm_l59 hM, shm_l60 hM, shm_l61 hM, shm_l62 hM, shm_l63 hM, shm_l64 hM, shm_l65 hM, shm_l66 hM, shm_l67 hM, shm_l68 hM, shm_l69 hM, shm_l70 hM, shm_l71 hM, shm_l72 hM, shm_l73 hM, shm_l74 hM, shm_l75 hM, shm_l76 hM, shm_l77 hM, shm_l78 hM, shm_l79 hM, shm_l80 hM]; omega))) only [y33, n40, n41, n42, n43, n45, n59, n60, n61, ↓eM, eL_0, eL_1, eL_2, eL_3, eL_4, eL_5, eL_6, eL_7, eL_8, eL_9, eL_10, eL_11, eL_12, eL_15, eL_16, eL_20, eL_24, eL_30, eL_31, eL_32, eL_39, eL_40, eL_41, eL_42, eL_43, eL_45, eL_47, eL_48, eL_49, eL_50, eL_57, eL_59, eL_60, eL_61, eL_90, eL_96, eL_97, eL_100, eL_122, eL_160, eL_161, eL_255, eL_300, eL_343, eL_999, eL_1000, eL_1920, eL_9999, eL_10000, eL_999999, eL_100000, eL_1000000, ↓reduceIte, ↓bl_e, bd_e, u1_f, u1_s, u2_f, u2_s, w_cl, w_ltT, w_ltF, w_leT, w_leF, w_eqT, w_eqF, w_mlt, w_ltm, w_mle, w_lem, w_eqm, w_meq, w_mltm, nI_add, w_sub, w_addm, up_s, up_n, ud_s, ud_n, ck_n, bz_0, bz_1]
      · rw [ht']; simp (disch := omega) only [u1_f, u1_s, u2_f, u2_s, up_s, up_n, ud_s, ud_n]
      · simp (disch := omega) only [u1_f, u1_s, u2_f, u2_s, up_s, up_n, ud_s, ud_n]; exact y36
      · rw [ht']; simp (disch := omega) only [u1_f, u1_s, u2_f, u2_s, up_s, up_n, ud_s, ud_n]
      · intro h; rw [ht'] at h; exact absurd rfl h
  · have hiZ : i = Z := by omega
    refine ⟨y1, ?_, f1, Or.inl ⟨?_, y34, ?_, ?_⟩⟩
    · rw [if_pos (show nI i = nI Z by rw [hiZ])]
    · rw [← hL]; exact LX_end (by omega)
    · rw [← hiZ]; exact y36
    · rw [← hiZ]; exact y33
end NEXT3
