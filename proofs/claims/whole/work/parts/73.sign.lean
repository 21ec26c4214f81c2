/-! LAYER 3: texts: a sign between two sides -/
section SIGN
variable {N : Nat} {Sm : SH} {p : Nat} {σ : List Nat} {c : Bool} {cs : List Bool} {o : List Nat} {y : DY}
def bI (b : Bool) : Int32 := if b = true then nI 1 else nI 0
theorem m_cmp (h : zSt y p σ (c :: cs) o) (nc : Bool) : zSt (U1 y 65 (brk σ) (bI nc)) p σ (nc :: cs) o ∧ zFs p y (U1 y 65 (brk σ) (bI nc)) := by
  obtain ⟨s1, s2, s3, s4, s5, s6, s7, s8, s9, s10, s11, s12⟩ := h
  refine ⟨⟨?_, ?_, ?_, ?_, ?_, fun j hj => ?_, fun j hj => ?_, s8, fun j hj => ?_, s10, s11, s12⟩, ⟨fun b h1 h2 h3 h4 h5 => by simp (disch := omega) only [u1_f, u1_s, u2_f, u2_s, up_s, up_n, ud_s, ud_n], fun k hk => by simp (disch := omega) only [u1_f, u1_s, u2_f, u2_s, up_s, up_n, ud_s, ud_n], fun q hq => by simp (disch := omega) only [u1_f, u1_s, u2_f, u2_s, up_s, up_n, ud_s, ud_n], fun q hq => by simp (disch := omega) only [u1_f, u1_s, u2_f, u2_s, up_s, up_n, ud_s, ud_n], rfl⟩⟩
  · simp (disch := omega) only [u1_f, u1_s, u2_f, u2_s, up_s, up_n, ud_s, ud_n]; exact s1
  · simp (disch := omega) only [u1_f, u1_s, u2_f, u2_s, up_s, up_n, ud_s, ud_n]; exact s2
  · simp (disch := omega) only [u1_f, u1_s, u2_f, u2_s, up_s, up_n, ud_s, ud_n]; exact s3
  · simp (disch := omega) only [u1_f, u1_s, u2_f, u2_s, up_s, up_n, ud_s, ud_n]; exact s4
  · simp (disch := omega) only [u1_f, u1_s, u2_f, u2_s, up_s, up_n, ud_s, ud_n]; exact s5
  · simp (disch := omega) only [u1_f, u1_s, u2_f, u2_s, up_s, up_n, ud_s, ud_n]; exact s6 j hj
  · simp (disch := omega) only [u1_f, u1_s, u2_f, u2_s, up_s, up_n, ud_s, ud_n]; exact s7 j hj
  · simp (disch := omega) only [u1_f, u1_s, u2_f, u2_s, up_s, up_n, ud_s, ud_n]
    by_cases e : j = brk σ
    · subst e; rw [ud_s, Nat.sub_self]; rfl
    · rw [ud_n e]
      have := s9 j hj
      rw [show brk σ - j = (brk σ - j - 1) + 1 by omega] at this ⊢
      exact this
theorem m_c0 (h : zSt y p σ (c :: cs) o) : y.1 65 (brk σ) = bI c := by
  have := h.2.2.2.2.2.2.2.2.1 (brk σ) (Nat.le_refl _)
  rw [Nat.sub_self] at this
  exact this
set_option maxHeartbeats 1600000 in
theorem m_sign (hN : 600 ≤ N) (hM : SHM Sm) (hp : p < 12) (h : zSt y p σ (c :: cs) o) {q : Nat} (hq : 20002 ≤ q) (hq2 : q ≤ 20008) (hl : σ.length + 1 + o.length ≤ 160) :
    ∃ y', (∀ bk : Int32 → Int32 → DY → Option (Int32 × DY), j_X12_part_294 N Sm bk 40 (encS q) y = Option.bind (f_X12_next N Sm 40 y') (fun r30 => bk (nI 1) (bI (decide (rk q < 3))) r30)) ∧ zSt y' p (q :: stl (rk q) σ) ((decide (rk q = 4) || (decide (2 < rk q) && c)) :: cs) (o ++ pps (rk q) σ) ∧ zFs p y y' := by
  have hz : zOp q := ⟨by omega, by omega⟩
  have hb := brk_opn σ
  have h12 := h.2.2.2.2.2.2.2.2.2.2.2
  have s2 := h.2.1
  obtain ⟨h1, f1⟩ := m_cmp h (decide (rk q = 4) || (decide (2 < rk q) && c))
  have hr1 : 1 ≤ rk q ∧ rk q < 7 ∧ isO q = false := by
    obtain rfl | rfl | rfl | rfl | rfl | rfl | rfl : q = 20002 ∨ q = 20003 ∨ q = 20004 ∨ q = 20005 ∨ q = 20006 ∨ q = 20007 ∨ q = 20008 := by omega
    all_goals decide
  obtain ⟨y2, e2, h2, f2⟩ := m_settle (N := N) hN hM hp hr1.1 (show rk q < 100 by omega) h1
  have hsl := stl_len (rk q) σ
  obtain ⟨y3, e3, h3, f3⟩ := m_hold (N := N) hM h2 hz (by omega) (by rw [List.length_append]; omega) (by rw [opn_n hr1.2.2]; exact Nat.le_trans (opn_stl _ _) h12)
  refine ⟨y3, fun bk => ?_, h3, f1.trans (f2.trans f3)⟩
  have hrk := fun z : DY => m_rank (N := N) (Sm := Sm) hz z
  have hc0 := m_c0 h
  by_cases e4 : rk q = 4
  · have hnc : (decide (rk q = 4) || (decide (2 < rk q) && c)) = true := by rw [decide_eq_true e4]; rfl
    rw [hnc] at e2
    have e2' : f_X12_settle N Sm 40 (nI 4) (U1 y 65 (brk σ) (nI 1)) = some y2 := by rw [← e4]; exact e2
    have hbi : bI (decide (rk q < 3)) = nI 0 := by rw [decide_eq_false (by omega)]; rfl
    rw [hbi]
    simp (disch := (first | omega | (simp only [shm_l41 hM, shm_l42 hM, shm_l43 hM, shm_l44 hM, shm_l45 hM, shm_l46 hM, shm_l47 hM, shm_l48 hM, shm_l49 hM, shm_l50 hM, shm_l51 hM, shm_l52 hM, shm_l53 hM, shm_l54 hM, shm_l55 hM, shm_l56 hM, shm_l57 hM, shm_l58 hM, shm_l59 hM, shm_l60 hM, shm_l61 hM, shm_l62 hM, shm_l63 hM, shm_l64 hM, shm_l65 hM, shm_l66 hM, shm_l67 hM, shm_l68 hM, shm_l69 hM, shm_l70 hM, shm_l71 hM, shm_l72 hM, shm_l73 hM, shm_l74 hM, shm_l75 hM, shm_l76 hM, shm_l77 hM, shm_l78 hM, shm_l79 hM, shm_l80 hM]; omega))) only [j_X12_part_294, j_X12_part_332, j_X12_part_337, j_X12_part_368, hrk, e4, s2, shm_p5 hM, shm_p6 hM, shm_p7 hM, shm_p8 hM, shm_p9 hM, shm_p10 hM, shm_p11 hM, shm_p12 hM, shm_p13 hM, shm_p14 hM, shm_p15 hM, shm_p16 hM, shm_p19 hM, shm_p20 hM, shm_p21 hM, shm_p22 hM, shm_p23 hM, shm_p24 hM, shm_p25 hM, shm_p26 hM, shm_p27 hM, shm_p31 hM, shm_p32 hM, shm_p37 hM, shm_p38 hM, shm_p43 hM, shm_p44 hM, shm_p48 hM, shm_p49 hM, shm_p50 hM, shm_p51 hM, shm_p52 hM, shm_p53 hM, shm_p54 hM, shm_p55 hM, shm_p62 hM, shm_p63 hM, shm_p64 hM, shm_p65 hM, shm_p66 hM, nar1, e2', e3, ↓eM, eL_0, eL_1, eL_2, eL_3, eL_4, eL_5, eL_6, eL_7, eL_8, eL_9, eL_10, eL_11, eL_12, eL_15, eL_16, eL_20, eL_24, eL_30, eL_31, eL_32, eL_39, eL_40, eL_41, eL_42, eL_43, eL_45, eL_47, eL_48, eL_49, eL_50, eL_57, eL_59, eL_60, eL_61, eL_90, eL_96, eL_97, eL_100, eL_122, eL_160, eL_161, eL_255, eL_300, eL_343, eL_999, eL_1000, eL_1920, eL_9999, eL_10000, eL_999999, eL_100000, eL_1000000, ↓reduceIte, ↓bl_e, bd_e, u1_f, u1_s, u2_f, u2_s, w_cl, w_ltT, w_ltF, w_leT, w_leF, w_eqT, w_eqF, w_mlt, w_ltm, w_mle, w_lem, w_eqm, w_meq, w_mltm, nI_add, w_sub, w_addm, up_s, up_n, ud_s, ud_n, ck_n, bz_0, bz_1]
  · by_cases e2r : rk q ≤ 2
    · have hnc : (decide (rk q = 4) || (decide (2 < rk q) && c)) = false := by rw [decide_eq_false e4, decide_eq_false (by omega)]; rfl
      rw [hnc] at e2
      have e2' : f_X12_settle N Sm 40 (nI (rk q)) (U1 y 65 (brk σ) (nI 0)) = some y2 := e2
      have hbi : bI (decide (rk q < 3)) = nI 1 := by rw [decide_eq_true (by omega)]; rfl
      rw [hbi]
      simp (disch := (first | omega | (simp only [shm_l41 hM, shm_l42 hM, shm_l43 hM, shm_l44 hM, shm_l45 hM, shm_l46 hM, shm_l47 hM, shm_l48 hM, shm_l49 hM, shm_l50 hM, shm_l51 hM, shm_l52 hM, shm_l53 hM, shm_l54 hM, shm_l55 hM, shm_l56 hM, shm_l57 hM, shm_l58 hM, shm_l59 hM, shm_l60 hM, shm_l61 hM, shm_l62 hM, shm_l63 hM, shm_l64 hM, shm_l65 hM, shm_l66 hM, shm_l67 hM, shm_l68 hM, shm_l69 hM, shm_l70 hM, shm_l71 hM, shm_l72 hM, shm_l73 hM, shm_l74 hM, shm_l75 hM, shm_l76 hM, shm_l77 hM, shm_l78 hM, shm_l79 hM, shm_l80 hM]; omega))) only [j_X12_part_294, j_X12_part_336, j_X12_part_337, j_X12_part_368, hrk, s2, shm_p5 hM, shm_p6 hM, shm_p7 hM, shm_p8 hM, shm_p9 hM, shm_p10 hM, shm_p11 hM, shm_p12 hM, shm_p13 hM, shm_p14 hM, shm_p15 hM, shm_p16 hM, shm_p19 hM, shm_p20 hM, shm_p21 hM, shm_p22 hM, shm_p23 hM, shm_p24 hM, shm_p25 hM, shm_p26 hM, shm_p27 hM, shm_p31 hM, shm_p32 hM, shm_p37 hM, shm_p38 hM, shm_p43 hM, shm_p44 hM, shm_p48 hM, shm_p49 hM, shm_p50 hM, shm_p51 hM, shm_p52 hM, shm_p53 hM, shm_p54 hM, shm_p55 hM, shm_p62 hM, shm_p63 hM, shm_p64 hM, shm_p65 hM, shm_p66 hM, nar0, e2', e3, ↓eM, eL_0, eL_1, eL_2, eL_3, eL_4, eL_5, eL_6, eL_7, eL_8, eL_9, eL_10, eL_11, eL_12, eL_15, eL_16, eL_20, eL_24, eL_30, eL_31, eL_32, eL_39, eL_40, eL_41, eL_42, eL_43, eL_45, eL_47, eL_48, eL_49, eL_50, eL_57, eL_59, eL_60, eL_61, eL_90, eL_96, eL_97, eL_100, eL_122, eL_160, eL_161, eL_255, eL_300, eL_343, eL_999, eL_1000, eL_1920, eL_9999, eL_10000, eL_999999, eL_100000, eL_1000000, ↓reduceIte, ↓bl_e, bd_e, u1_f, u1_s, u2_f, u2_s, w_cl, w_ltT, w_ltF, w_leT, w_leF, w_eqT, w_eqF, w_mlt, w_ltm, w_mle, w_lem, w_eqm, w_meq, w_mltm, nI_add, w_sub, w_addm, up_s, up_n, ud_s, ud_n, ck_n, bz_0, bz_1]
    · have hnc : (decide (rk q = 4) || (decide (2 < rk q) && c)) = c := by rw [decide_eq_false e4, decide_eq_true (by omega)]; rfl
      rw [hnc] at e2
      have hbi : bI (decide (rk q < 3)) = nI 0 := by rw [decide_eq_false (by omega)]; rfl
      rw [hbi]
      cases c with
      | true =>
        have e2' : f_X12_settle N Sm 40 (nI (rk q)) (U1 y 65 (brk σ) (nI 1)) = some y2 := e2
        have hc0' : y.1 65 (brk σ) = nI 1 := hc0
        simp (disch := (first | omega | (simp only [shm_l41 hM, shm_l42 hM, shm_l43 hM, shm_l44 hM, shm_l45 hM, shm_l46 hM, shm_l47 hM, shm_l48 hM, shm_l49 hM, shm_l50 hM, shm_l51 hM, shm_l52 hM, shm_l53 hM, shm_l54 hM, shm_l55 hM, shm_l56 hM, shm_l57 hM, shm_l58 hM, shm_l59 hM, shm_l60 hM, shm_l61 hM, shm_l62 hM, shm_l63 hM, shm_l64 hM, shm_l65 hM, shm_l66 hM, shm_l67 hM, shm_l68 hM, shm_l69 hM, shm_l70 hM, shm_l71 hM, shm_l72 hM, shm_l73 hM, shm_l74 hM, shm_l75 hM, shm_l76 hM, shm_l77 hM, shm_l78 hM, shm_l79 hM, shm_l80 hM]; omega))) only [j_X12_part_294, j_X12_part_332, j_X12_part_337, j_X12_part_368, hrk, s2, hc0', shm_p5 hM, shm_p6 hM, shm_p7 hM, shm_p8 hM, shm_p9 hM, shm_p10 hM, shm_p11 hM, shm_p12 hM, shm_p13 hM, shm_p14 hM, shm_p15 hM, shm_p16 hM, shm_p19 hM, shm_p20 hM, shm_p21 hM, shm_p22 hM, shm_p23 hM, shm_p24 hM, shm_p25 hM, shm_p26 hM, shm_p27 hM, shm_p31 hM, shm_p32 hM, shm_p37 hM, shm_p38 hM, shm_p43 hM, shm_p44 hM, shm_p48 hM, shm_p49 hM, shm_p50 hM, shm_p51 hM, shm_p52 hM, shm_p53 hM, shm_p54 hM, shm_p55 hM, shm_p62 hM, shm_p63 hM, shm_p64 hM, shm_p65 hM, shm_p66 hM, nar1, e2', e3, ↓eM, eL_0, eL_1, eL_2, eL_3, eL_4, eL_5, eL_6, eL_7, eL_8, eL_9, eL_10, eL_11, eL_12, eL_15, eL_16, eL_20, eL_24, eL_30, eL_31, eL_32, eL_39, eL_40, eL_41, eL_42, eL_43, eL_45, eL_47, eL_48, eL_49, eL_50, eL_57, eL_59, eL_60, eL_61, eL_90, eL_96, eL_97, eL_100, eL_122, eL_160, eL_161, eL_255, eL_300, eL_343, eL_999, eL_1000, eL_1920, eL_9999, eL_10000, eL_999999, eL_100000, eL_1000000, ↓reduceIte, ↓bl_e, bd_e, u1_f, u1_s, u2_f, u2_s, w_cl, w_ltT, w_ltF, w_leT, w_leF, w_eqT, w_eqF, w_mlt, w_ltm, w_mle, w_lem, w_eqm, w_meq, w_mltm, nI_add, w_sub, w_addm, up_s, up_n, ud_s, ud_n, ck_n, bz_0, bz_1]
      | false =>
        have e2' : f_X12_settle N Sm 40 (nI (rk q)) (U1 y 65 (brk σ) (nI 0)) = some y2 := e2
        have hc0' : y.1 65 (brk σ) = nI 0 := hc0
        simp (disch := (first | omega | (simp only [shm_l41 hM, shm_l42 hM, shm_l43 hM, shm_l44 hM, shm_l45 hM, shm_l46 hM, shm_l47 hM, shm_l48 hM, shm_l49 hM, shm_l50 hM, shm_l51 hM, shm_l52 hM, shm_l53 hM, shm_l54 hM, shm_l55 hM, shm_l56 hM, shm_l57 hM, shm_l58 hM, shm_l59 hM, shm_l60 hM, shm_l61 hM, shm_l62 hM, shm_l63 hM, shm_l64 hM, shm_l65 hM, shm_l66 hM, shm_l67 hM, shm_l68 hM, shm_l69 hM, shm_l70 hM, shm_l71 hM, shm_l72 hM, shm_l73 hM, shm_l74 hM, shm_l75 hM, shm_l76 hM, shm_l77 hM, shm_l78 hM, shm_l79 hM, shm_l80 hM]; omega))) only [j_X12_part_294, j_X12_part_336, j_X12_part_337, j_X12_part_368, hrk, s2, hc0', shm_p5 hM, shm_p6 hM, shm_p7 hM, shm_p8 hM, shm_p9 hM, shm_p10 hM, shm_p11 hM, shm_p12 hM, shm_p13 hM, shm_p14 hM, shm_p15 hM, shm_p16 hM, shm_p19 hM, shm_p20 hM, shm_p21 hM, shm_p22 hM, shm_p23 hM, shm_p24 hM, shm_p25 hM, shm_p26 hM, shm_p27 hM, shm_p31 hM, shm_p32 hM, shm_p37 hM, shm_p38 hM, shm_p43 hM, shm_p44 hM, shm_p48 hM, shm_p49 hM, shm_p50 hM, shm_p51 hM, shm_p52 hM, shm_p53 hM, shm_p54 hM, shm_p55 hM, shm_p62 hM, shm_p63 hM, shm_p64 hM, shm_p65 hM, shm_p66 hM, nar0, e2', e3, ↓eM, eL_0, eL_1, eL_2, eL_3, eL_4, eL_5, eL_6, eL_7, eL_8, eL_9, eL_10, eL_11, eL_12, eL_15, eL_16, eL_20, eL_24, eL_30, eL_31, eL_32, eL_39, eL_40, eL_41, eL_42, eL_43, eL_45, eL_47, eL_48, eL_49, eL_50, eL_57, eL_59, eL_60, eL_61, eL_90, eL_96, eL_97, eL_100, eL_122, eL_160, eL_161, eL_255, eL_300, eL_343, eL_999, eL_1000, eL_1920, eL_9999, eL_10000, eL_999999, eL_100000, eL_1000000, ↓reduceIte, ↓bl_e, bd_e, u1_f, u1_s, u2_f, u2_s, w_cl, w_ltT, w_ltF, w_leT, w_leF, w_eqT, w_eqF, w_mlt, w_ltm, w_mle, w_lem, w_eqm, w_meq, w_mltm, nI_add, w_sub, w_addm, up_s, up_n, ud_s, ud_n, ck_n, bz_0, bz_1]
end SIGN
