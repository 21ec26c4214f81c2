/-! LAYER 3: texts: sums, comparisons, nots -/
section SUM
variable {N : Nat} {S : SH} {T : List ZT} {st : Nat → Nat} {Z i d : Nat} {W : List Nat} {x : DY} {f g : Nat → Int32 → DY → Option (Int32 × DY)}
/-- one more term behind a plus or a minus -/
theorem sum_step {q i1 i2 : Nat} {P1 P2 : List Nat} {t : ZT} (ht : T[i1]? = some t) (hq : sgOf t = q) (hq5 : rk q = 5) (h1 : t ≠ (4, 59)) (h2 : t ≠ (4, 41)) (ho : isO q = false) (a3 : PLv 5 T d i i1 P1) : (PLv 6 T d (i1 + 1) i2 P2 ∧ hdR (T.drop i2) ≤ 5 → PLv 5 T d i i2 (P1 ++ P2 ++ [q])) ∧ (FLv 6 T d (i1 + 1) i2 → FLv 5 T d i i2) := by
  have hq0 : q ≠ 0 := fun e => by rw [e] at hq5; exact absurd hq5 (by decide)
  have hm : ∀ b σ c cs o, Cb T d i b σ → cl 5 σ → zMac (T.drop i) true b σ (c :: cs) o = zMac (T.drop (i1 + 1)) true false (q :: σ) (c :: cs) (o ++ P1) := fun b σ c cs o hC hs => by
    rw [a3 b σ c cs o hC hs, mac_op ht hq hq0 h1 h2 (fun e => by omega) (by rw [hq5]; exact hs), hq5]
    rfl
  have hcl : cl 6 (q :: []) := cl_c (by omega)
  refine ⟨fun ⟨b3, b4⟩ b σ c cs o hC hs => ?_, fun b2 b σ c cs o hC hs => ?_⟩
  · rw [hm b σ c cs o hC hs, b3 false (q :: σ) c cs (o ++ P1) ⟨by rw [opn_n ho]; exact hC.1, Or.inl rfl⟩ (cl_c (by omega)), zMac_S (l := 5) (by omega) (Or.inl b4)]
    rw [show stl 5 (q :: σ) = stl 5 σ from if_pos (by omega), hs.stl, show pps 5 (q :: σ) = q :: pps 5 σ from if_pos (by omega), hs.pps]
    simp only [List.append_assoc]
  · rw [hm b σ c cs o hC hs]
    exact b2 false (q :: σ) c cs (o ++ P1) ⟨by rw [opn_n ho]; exact hC.1, Or.inl rfl⟩ (cl_c (by omega))
set_option maxHeartbeats 1600000 in
theorem rd_sum (hN : 600 ≤ N) (hX : SX S) (hO : RdO N T st Z d f) (h : zQs T st Z x i W) : zRs T st Z x i W (f_X5_readSum N f S 49 (nI d) x) (fun i' P => PLv 5 T d i i' P ∧ hdR (T.drop i') ≤ 4) (FLv 5 T d i) := by
  obtain ⟨r, x1, i1, P1, e1, e2, e3, e4, e5, e6⟩ := rd_term (N := N) hN hX hO h
  have e : f_X5_readSum N f S 49 (nI d) x = lp_X5_readSum_14 N f S 49 (nI d) r (tkC T[i1]?) (nI 0) x1 := by simp (disch := omega) only [f_X5_readSum, e1, q_token (N := N) hX e3, ↓eM, eL_0, eL_1, eL_2, eL_3, eL_4, eL_5, eL_6, eL_7, eL_8, eL_9, eL_10, eL_11, eL_12, eL_15, eL_16, eL_20, eL_24, eL_30, eL_31, eL_32, eL_39, eL_40, eL_41, eL_42, eL_43, eL_45, eL_47, eL_48, eL_49, eL_50, eL_57, eL_59, eL_60, eL_61, eL_90, eL_96, eL_97, eL_100, eL_122, eL_160, eL_161, eL_255, eL_300, eL_343, eL_999, eL_1000, eL_1920, eL_9999, eL_10000, eL_999999, eL_100000, eL_1000000, ↓reduceIte, ↓bl_e, bd_e, u1_f, u1_s, u2_f, u2_s, w_cl, w_ltT, w_ltF, w_leT, w_leF, w_eqT, w_eqF, w_mlt, w_ltm, w_mle, w_lem, w_eqm, w_meq, w_mltm, nI_add, w_sub, w_addm, up_s, up_n, ud_s, ud_n, ck_n, bz_0, bz_1]
  have hT := h.2.1
  rw [e]
  unfold lp_X5_readSum_14
  refine z_itr1 (fun j (a : Int32 × Int32 × Int32 × DY) => ∃ r x1 i1 P1, a = (r, tkC T[i1]?, nI j, x1) ∧ zFq x x1 ∧ zQs T st Z x1 i1 (W ++ P1) ∧ i ≤ i1 ∧ P1.length + i ≤ i1 ∧ ((r = nI 1 ∧ i + j < i1 ∧ zGd P1 ∧ PLv 5 T d i i1 P1 ∧ hdR (T.drop i1) ≤ 5) ∨ (r = nI 0 ∧ x1.1 49 10 = nI (fsT T st Z i1) ∧ FLv 5 T d i i1))) (fun o => zRs T st Z x i W o (fun i' P => PLv 5 T d i i' P ∧ hdR (T.drop i') ≤ 4) (FLv 5 T d i)) 160 ?_ ?_ 160 0 _ N (by omega) (by omega) ⟨r, x1, i1, P1, rfl, e2, e3, e4, e5, ?_⟩
  · rintro j _ hj ⟨r, x1, i1, P1, rfl, g1, g2, g3, g4, g5⟩
    rcases g5 with ⟨rfl, a1, a2, a3, a4⟩ | ⟨rfl, a1, a2⟩
    · have q43 := tk_sgn (q_ok g2) (q := 43) (by omega)
      have q45 := tk_sgn (q_ok g2) (q := 45) (by omega)
      have h6 := g2.2.2.2.2.1
      have hstep : ∀ (t : ZT) (q : Nat) (v : Int32), T[i1]? = some t → sgOf t = q → rk q = 5 → t ≠ (4, 59) → t ≠ (4, 41) → isO q = false → 20002 ≤ q → q ≤ 20008 → v = encX q → ∃ r2 x2 x3 i2 P2, f_X5_readTerm N f S 49 (nI d) (U1 x1 49 6 (nI (i1 + 1))) = some (r2, x2) ∧ f_X5_write N S 49 v x2 = some x3 ∧ zFq x x3 ∧ zQs T st Z x3 i2 (W ++ (P1 ++ P2 ++ [q])) ∧ i ≤ i2 ∧ (P1 ++ P2 ++ [q]).length + i ≤ i2 ∧ ((r2 = nI 1 ∧ i + (j + 1) < i2 ∧ zGd (P1 ++ P2 ++ [q]) ∧ PLv 5 T d i i2 (P1 ++ P2 ++ [q]) ∧ hdR (T.drop i2) ≤ 5) ∨ (r2 = nI 0 ∧ x3.1 49 10 = nI (fsT T st Z i2) ∧ FLv 5 T d i i2)) := fun t q v ht hq hq5 h1 h2 ho hl hu hv => by
        obtain ⟨k1, k2⟩ := q_adv g2 (q_lt ht)
        obtain ⟨r2, x2, i2, P2, f1, f2, f3, f4, f5, f6⟩ := rd_term (N := N) hN hX hO k1
        have hlen : (W ++ P1 ++ P2).length = (W ++ P1).length + P2.length := List.length_append
        have hW1 := g2.2.2.1
        obtain ⟨x3, w1, w2, w3, w4⟩ := q_write (N := N) hX f3 (by omega) q hv
        obtain ⟨s1, s2⟩ := sum_step (i2 := i2) (P2 := P2) ht hq hq5 h1 h2 ho a3
        refine ⟨r2, x2, x3, i2, P2, f1, w1, g1.trans (k2.trans (f2.trans w2)), by rw [← List.append_assoc, ← List.append_assoc]; exact w3, by omega, by rw [List.length_append, List.length_append]; show P1.length + P2.length + 1 + i ≤ i2; omega, ?_⟩
        rcases f6 with ⟨rfl, b1, b2, b3⟩ | ⟨rfl, b1, b2⟩
        · exact Or.inl ⟨rfl, by omega, a2.bi b2 hl hu, s1 b3, b3.2⟩
        · exact Or.inr ⟨rfl, by rw [w4]; exact b1, s2 b2⟩
      by_cases h43 : T[i1]? = some (4, 43)
      · rw [eq_true h43] at q43
        obtain ⟨r2, x2, x3, i2, P2, s1, s2, s3, s4, s5, s6, s7⟩ := hstep (4, 43) 20006 (-13) h43 rfl (by decide) (by decide) (by decide) (by rfl) (by omega) (by omega) (by decide)
        refine Or.inl ⟨(r2, tkC T[i2]?, nI (j + 1), x3), ⟨r2, x3, i2, P1 ++ P2 ++ [20006], rfl, s3, s4, s5, s6, s7⟩, fun back => ?_⟩
        simp (disch := (first | omega | (simp only [sx_l42 hX, sx_l43 hX, sx_l44 hX, sx_l46 hX, sx_l50 hX, sx_l51 hX, sx_l52 hX, sx_l53 hX, sx_l54 hX, sx_l56 hX, sx_l57 hX, sx_l58 hX, sx_l60 hX, sx_l61 hX, sx_l62 hX, sx_l63 hX, sx_l64 hX, sx_l65 hX, sx_l66 hX, sx_l88 hX, sx_l89 hX, sx_l90 hX, sx_l0 hX, sx_l1 hX, sx_l2 hX, sx_l5 hX, sx_l6 hX, sx_l7 hX, sx_l8 hX, sx_l9 hX, sx_l10 hX, sx_l11 hX, sx_l12 hX, sx_l13 hX, sx_l14 hX, sx_l15 hX]; omega))) only [lp_X5_readSum_14_b, j_X5_readSum_38, j_X5_readSum_68, q43, h6, s1, s2, q_token (N := N) hX s4, ↓eM, eL_0, eL_1, eL_2, eL_3, eL_4, eL_5, eL_6, eL_7, eL_8, eL_9, eL_10, eL_11, eL_12, eL_15, eL_16, eL_20, eL_24, eL_30, eL_31, eL_32, eL_39, eL_40, eL_41, eL_42, eL_43, eL_45, eL_47, eL_48, eL_49, eL_50, eL_57, eL_59, eL_60, eL_61, eL_90, eL_96, eL_97, eL_100, eL_122, eL_160, eL_161, eL_255, eL_300, eL_343, eL_999, eL_1000, eL_1920, eL_9999, eL_10000, eL_999999, eL_100000, eL_1000000, ↓reduceIte, ↓bl_e, bd_e, u1_f, u1_s, u2_f, u2_s, w_cl, w_ltT, w_ltF, w_leT, w_leF, w_eqT, w_eqF, w_mlt, w_ltm, w_mle, w_lem, w_eqm, w_meq, w_mltm, nI_add, w_sub, w_addm, up_s, up_n, ud_s, ud_n, ck_n, bz_0, bz_1]
      rw [eq_false h43] at q43
      by_cases h45 : T[i1]? = some (4, 45)
      · rw [eq_true h45] at q45
        obtain ⟨r2, x2, x3, i2, P2, s1, s2, s3, s4, s5, s6, s7⟩ := hstep (4, 45) 20007 (-14) h45 rfl (by decide) (by decide) (by decide) (by rfl) (by omega) (by omega) (by decide)
        refine Or.inl ⟨(r2, tkC T[i2]?, nI (j + 1), x3), ⟨r2, x3, i2, P1 ++ P2 ++ [20007], rfl, s3, s4, s5, s6, s7⟩, fun back => ?_⟩
        simp (disch := (first | omega | (simp only [sx_l42 hX, sx_l43 hX, sx_l44 hX, sx_l46 hX, sx_l50 hX, sx_l51 hX, sx_l52 hX, sx_l53 hX, sx_l54 hX, sx_l56 hX, sx_l57 hX, sx_l58 hX, sx_l60 hX, sx_l61 hX, sx_l62 hX, sx_l63 hX, sx_l64 hX, sx_l65 hX, sx_l66 hX, sx_l88 hX, sx_l89 hX, sx_l90 hX, sx_l0 hX, sx_l1 hX, sx_l2 hX, sx_l5 hX, sx_l6 hX, sx_l7 hX, sx_l8 hX, sx_l9 hX, sx_l10 hX, sx_l11 hX, sx_l12 hX, sx_l13 hX, sx_l14 hX, sx_l15 hX]; omega))) only [lp_X5_readSum_14_b, j_X5_readSum_38, j_X5_readSum_68, q43, q45, h6, s1, s2, q_token (N := N) hX s4, ↓eM, eL_0, eL_1, eL_2, eL_3, eL_4, eL_5, eL_6, eL_7, eL_8, eL_9, eL_10, eL_11, eL_12, eL_15, eL_16, eL_20, eL_24, eL_30, eL_31, eL_32, eL_39, eL_40, eL_41, eL_42, eL_43, eL_45, eL_47, eL_48, eL_49, eL_50, eL_57, eL_59, eL_60, eL_61, eL_90, eL_96, eL_97, eL_100, eL_122, eL_160, eL_161, eL_255, eL_300, eL_343, eL_999, eL_1000, eL_1920, eL_9999, eL_10000, eL_999999, eL_100000, eL_1000000, ↓reduceIte, ↓bl_e, bd_e, u1_f, u1_s, u2_f, u2_s, w_cl, w_ltT, w_ltF, w_leT, w_leF, w_eqT, w_eqF, w_mlt, w_ltm, w_mle, w_lem, w_eqm, w_meq, w_mltm, nI_add, w_sub, w_addm, up_s, up_n, ud_s, ud_n, ck_n, bz_0, bz_1]
      rw [eq_false h45] at q45
      refine Or.inr ⟨some (nI 1, x1), ⟨nI 1, x1, i1, P1, rfl, g1, g2, g3, g4, Or.inl ⟨rfl, by omega, a2, a3, ?_⟩⟩, fun back => ?_⟩
      · by_cases e6 : hdR (T.drop i1) = 5
        · obtain ⟨t, t1, t2⟩ := hdR_t (by decide) e6
          rcases (rk_inv t).2.1 t2 with e | e
          · exact absurd (by rw [t1, e]) h43
          · exact absurd (by rw [t1, e]) h45
        · omega
      · simp (disch := (first | omega | (simp only [sx_l42 hX, sx_l43 hX, sx_l44 hX, sx_l46 hX, sx_l50 hX, sx_l51 hX, sx_l52 hX, sx_l53 hX, sx_l54 hX, sx_l56 hX, sx_l57 hX, sx_l58 hX, sx_l60 hX, sx_l61 hX, sx_l62 hX, sx_l63 hX, sx_l64 hX, sx_l65 hX, sx_l66 hX, sx_l88 hX, sx_l89 hX, sx_l90 hX, sx_l0 hX, sx_l1 hX, sx_l2 hX, sx_l5 hX, sx_l6 hX, sx_l7 hX, sx_l8 hX, sx_l9 hX, sx_l10 hX, sx_l11 hX, sx_l12 hX, sx_l13 hX, sx_l14 hX, sx_l15 hX]; omega))) only [lp_X5_readSum_14_b, q43, q45, ↓eM, eL_0, eL_1, eL_2, eL_3, eL_4, eL_5, eL_6, eL_7, eL_8, eL_9, eL_10, eL_11, eL_12, eL_15, eL_16, eL_20, eL_24, eL_30, eL_31, eL_32, eL_39, eL_40, eL_41, eL_42, eL_43, eL_45, eL_47, eL_48, eL_49, eL_50, eL_57, eL_59, eL_60, eL_61, eL_90, eL_96, eL_97, eL_100, eL_122, eL_160, eL_161, eL_255, eL_300, eL_343, eL_999, eL_1000, eL_1920, eL_9999, eL_10000, eL_999999, eL_100000, eL_1000000, ↓reduceIte, ↓bl_e, bd_e, u1_f, u1_s, u2_f, u2_s, w_cl, w_ltT, w_ltF, w_leT, w_leF, w_eqT, w_eqF, w_mlt, w_ltm, w_mle, w_lem, w_eqm, w_meq, w_mltm, nI_add, w_sub, w_addm, up_s, up_n, ud_s, ud_n, ck_n, bz_0, bz_1]
    · refine Or.inr ⟨some (nI 0, x1), ⟨nI 0, x1, i1, P1, rfl, g1, g2, g3, g4, Or.inr ⟨rfl, a1, a2⟩⟩, fun back => ?_⟩
      simp (disch := (first | omega | (simp only [sx_l42 hX, sx_l43 hX, sx_l44 hX, sx_l46 hX, sx_l50 hX, sx_l51 hX, sx_l52 hX, sx_l53 hX, sx_l54 hX, sx_l56 hX, sx_l57 hX, sx_l58 hX, sx_l60 hX, sx_l61 hX, sx_l62 hX, sx_l63 hX, sx_l64 hX, sx_l65 hX, sx_l66 hX, sx_l88 hX, sx_l89 hX, sx_l90 hX, sx_l0 hX, sx_l1 hX, sx_l2 hX, sx_l5 hX, sx_l6 hX, sx_l7 hX, sx_l8 hX, sx_l9 hX, sx_l10 hX, sx_l11 hX, sx_l12 hX, sx_l13 hX, sx_l14 hX, sx_l15 hX]; omega))) only [lp_X5_readSum_14_b, ↓eM, eL_0, eL_1, eL_2, eL_3, eL_4, eL_5, eL_6, eL_7, eL_8, eL_9, eL_10, eL_11, eL_12, eL_15, eL_16, eL_20, eL_24, eL_30, eL_31, eL_32, eL_39, eL_40, eL_41, eL_42, eL_43, eL_45, eL_47, eL_48, eL_49, eL_50, eL_57, eL_59, eL_60, eL_61, eL_90, eL_96, eL_97, eL_100, eL_122, eL_160, eL_161, eL_255, eL_300, eL_343, eL_999, eL_1000, eL_1920, eL_9999, eL_10000, eL_999999, eL_100000, eL_1000000, ↓reduceIte, ↓bl_e, bd_e, u1_f, u1_s, u2_f, u2_s, w_cl, w_ltT, w_ltF, w_leT, w_leF, w_eqT, w_eqF, w_mlt, w_ltm, w_mle, w_lem, w_eqm, w_meq, w_mltm, nI_add, w_sub, w_addm, up_s, up_n, ud_s, ud_n, ck_n, bz_0, bz_1]
  · rintro _ ⟨r, x1, i1, P1, rfl, g1, g2, g3, g4, g5⟩
    rcases g5 with ⟨rfl, a1, a2, a3⟩ | ⟨rfl, a1, a2⟩
    · have := g2.1
      omega
    · refine ⟨some (nI 0, x1), ⟨nI 0, x1, i1, P1, rfl, g1, g2, g3, g4, Or.inr ⟨rfl, a1, a2⟩⟩, fun back => ?_⟩
      simp (disch := (first | omega | (simp only [sx_l42 hX, sx_l43 hX, sx_l44 hX, sx_l46 hX, sx_l50 hX, sx_l51 hX, sx_l52 hX, sx_l53 hX, sx_l54 hX, sx_l56 hX, sx_l57 hX, sx_l58 hX, sx_l60 hX, sx_l61 hX, sx_l62 hX, sx_l63 hX, sx_l64 hX, sx_l65 hX, sx_l66 hX, sx_l88 hX, sx_l89 hX, sx_l90 hX, sx_l0 hX, sx_l1 hX, sx_l2 hX, sx_l5 hX, sx_l6 hX, sx_l7 hX, sx_l8 hX, sx_l9 hX, sx_l10 hX, sx_l11 hX, sx_l12 hX, sx_l13 hX, sx_l14 hX, sx_l15 hX]; omega))) only [lp_X5_readSum_14_b, ↓eM, eL_0, eL_1, eL_2, eL_3, eL_4, eL_5, eL_6, eL_7, eL_8, eL_9, eL_10, eL_11, eL_12, eL_15, eL_16, eL_20, eL_24, eL_30, eL_31, eL_32, eL_39, eL_40, eL_41, eL_42, eL_43, eL_45, eL_47, eL_48, eL_49, eL_50, eL_57, eL_59, eL_60, eL_61, eL_90, eL_96, eL_97, eL_100, eL_122, eL_160, eL_161, eL_255, eL_300, eL_343, eL_999, eL_1000, eL_1920, eL_9999, eL_10000, eL_999999, eL_100000, eL_1000000, ↓reduceIte, ↓bl_e, bd_e, u1_f, u1_s, u2_f, u2_s, w_cl, w_ltT, w_ltF, w_leT, w_leF, w_eqT, w_eqF, w_mlt, w_ltm, w_mle, w_lem, w_eqm, w_meq, w_mltm, nI_add, w_sub, w_addm, up_s, up_n, ud_s, ud_n, ck_n, bz_0, bz_1]
  · rcases e6 with ⟨rfl, b1, b2, b3, b4⟩ | ⟨rfl, b1, b2⟩
    · exact Or.inl ⟨rfl, by omega, b2, fun b σ c cs o hC hs => b3 b σ c cs o hC (hs.mono (by omega)), b4⟩
    · exact Or.inr ⟨rfl, b1, fun b σ c cs o hC hs => b2 b σ c cs o hC (hs.mono (by omega))⟩
set_option maxHeartbeats 1600000 in
theorem rd_cmp (hN : 600 ≤ N) (hX : SX S) (hO : RdO N T st Z d f) (h : zQs T st Z x i W) : zRs T st Z x i W (f_X5_readComparison N f S 49 (nI d) x) (P4 T d i) (F4 T d i) := by
  obtain ⟨r, x1, i1, P1, e1, e2, e3, e4, e5, e6⟩ := rd_sum (N := N) hN hX hO h
  have ht := q_token (N := N) hX e3
  rcases e6 with ⟨rfl, b1, b2, b3, b4⟩ | ⟨rfl, b1, b2⟩
  · have q60 := tk_sgn (q_ok e3) (q := 60) (by omega)
    have q61 := tk_sgn (q_ok e3) (q := 61) (by omega)
    have h6 := e3.2.2.2.2.1
    have hstep : ∀ (t : ZT) (q : Nat) (v : Int32), T[i1]? = some t → sgOf t = q → rk q = 4 → t ≠ (4, 59) → t ≠ (4, 41) → isO q = false → 20002 ≤ q → q ≤ 20008 → v = encX q → ∃ r2 x2 x3 i2 P2, f_X5_readSum N f S 49 (nI d) (U1 x1 49 6 (nI (i1 + 1))) = some (r2, x2) ∧ f_X5_write N S 49 v x2 = some x3 ∧ (r2 = nI 0 ∨ r2 = nI 1) ∧ zRs T st Z x i W (some (r2, x3)) (P4 T d i) (F4 T d i) := fun t q v ht hq hq5 h1 h2 ho hl hu hv => by
      have hq0 : q ≠ 0 := fun e => by rw [e] at hq5; exact absurd hq5 (by decide)
      obtain ⟨k1, k2⟩ := q_adv e3 (q_lt ht)
      obtain ⟨r2, x2, i2, P2, f1, f2, f3, f4, f5, f6⟩ := rd_sum (N := N) hN hX hO k1
      have hlen : (W ++ P1 ++ P2).length = (W ++ P1).length + P2.length := List.length_append
      have hW1 := e3.2.2.1
      obtain ⟨x3, w1, w2, w3, w4⟩ := q_write (N := N) hX f3 (by omega) q hv
      have hm : ∀ b σ cs o, Cb T d i b σ → cl 4 σ → zMac (T.drop i) true b σ (false :: cs) o = zMac (T.drop (i1 + 1)) true false (q :: σ) (true :: cs) (o ++ P1) := fun b σ cs o hC hs => by
        rw [b3 b σ false cs o hC (hs.mono (by omega)), mac_op ht hq hq0 h1 h2 (fun e => rfl) (by rw [hq5]; exact hs), hq5]
        rfl
      refine ⟨r2, x2, x3, i2, P2, f1, w1, by rcases f6 with ⟨rfl, -⟩ | ⟨rfl, -⟩; exact Or.inr rfl; exact Or.inl rfl, r2, x3, i2, P1 ++ P2 ++ [q], rfl, e2.trans (k2.trans (f2.trans w2)), by rw [← List.append_assoc, ← List.append_assoc]; exact w3, by omega, by rw [List.length_append, List.length_append]; show P1.length + P2.length + 1 + i ≤ i2; omega, ?_⟩
      rcases f6 with ⟨rfl, c1, c2, c3, c4⟩ | ⟨rfl, c1, c2⟩
      · refine Or.inl ⟨rfl, by omega, b2.bi c2 hl hu, true, fun b σ cs o hC hs => ?_, ?_⟩
        · rw [hm b σ cs o hC hs, c3 false (q :: σ) true cs (o ++ P1) ⟨by rw [opn_n ho]; exact hC.1, Or.inl rfl⟩ (cl_c (by omega)), zMac_S (l := 4) (by omega) (Or.inl c4)]
          rw [show stl 4 (q :: σ) = stl 4 σ from if_pos (by omega), hs.stl, show pps 4 (q :: σ) = q :: pps 4 σ from if_pos (by omega), hs.pps]
          simp only [List.append_assoc]
        · by_cases e4 : hdR (T.drop i2) = 4
          · exact Or.inr ⟨e4, rfl⟩
          · exact Or.inl (by omega)
      · refine Or.inr ⟨rfl, by rw [w4]; exact c1, fun b σ cs o hC hs => ?_⟩
        rw [hm b σ cs o hC hs]
        exact c2 false (q :: σ) true cs (o ++ P1) ⟨by rw [opn_n ho]; exact hC.1, Or.inl rfl⟩ (cl_c (by omega))
    by_cases h60 : T[i1]? = some (4, 60)
    · rw [eq_true h60] at q60
      obtain ⟨r2, x2, x3, i2, P2, s1, s2, s3, s4⟩ := hstep (4, 60) 20004 (-nI 11) h60 rfl (by decide) (by decide) (by decide) (by rfl) (by omega) (by omega) (by decide)
      have : f_X5_readComparison N f S 49 (nI d) x = some (r2, x3) := by
        rcases s3 with rfl | rfl
        · simp (disch := (first | omega | (simp only [sx_l42 hX, sx_l43 hX, sx_l44 hX, sx_l46 hX, sx_l50 hX, sx_l51 hX, sx_l52 hX, sx_l53 hX, sx_l54 hX, sx_l56 hX, sx_l57 hX, sx_l58 hX, sx_l60 hX, sx_l61 hX, sx_l62 hX, sx_l63 hX, sx_l64 hX, sx_l65 hX, sx_l66 hX, sx_l88 hX, sx_l89 hX, sx_l90 hX, sx_l0 hX, sx_l1 hX, sx_l2 hX, sx_l5 hX, sx_l6 hX, sx_l7 hX, sx_l8 hX, sx_l9 hX, sx_l10 hX, sx_l11 hX, sx_l12 hX, sx_l13 hX, sx_l14 hX, sx_l15 hX]; omega))) only [f_X5_readComparison, j_X5_readComparison_29, j_X5_readComparison_59, e1, ht, q60, h6, s1, s2, ↓eM, eL_0, eL_1, eL_2, eL_3, eL_4, eL_5, eL_6, eL_7, eL_8, eL_9, eL_10, eL_11, eL_12, eL_15, eL_16, eL_20, eL_24, eL_30, eL_31, eL_32, eL_39, eL_40, eL_41, eL_42, eL_43, eL_45, eL_47, eL_48, eL_49, eL_50, eL_57, eL_59, eL_60, eL_61, eL_90, eL_96, eL_97, eL_100, eL_122, eL_160, eL_161, eL_255, eL_300, eL_343, eL_999, eL_1000, eL_1920, eL_9999, eL_10000, eL_999999, eL_100000, eL_1000000, ↓reduceIte, ↓bl_e, bd_e, u1_f, u1_s, u2_f, u2_s, w_cl, w_ltT, w_ltF, w_leT, w_leF, w_eqT, w_eqF, w_mlt, w_ltm, w_mle, w_lem, w_eqm, w_meq, w_mltm, nI_add, w_sub, w_addm, up_s, up_n, ud_s, ud_n, ck_n, bz_0, bz_1]
        · simp (disch := (first | omega | (simp only [sx_l42 hX, sx_l43 hX, sx_l44 hX, sx_l46 hX, sx_l50 hX, sx_l51 hX, sx_l52 hX, sx_l53 hX, sx_l54 hX, sx_l56 hX, sx_l57 hX, sx_l58 hX, sx_l60 hX, sx_l61 hX, sx_l62 hX, sx_l63 hX, sx_l64 hX, sx_l65 hX, sx_l66 hX, sx_l88 hX, sx_l89 hX, sx_l90 hX, sx_l0 hX, sx_l1 hX, sx_l2 hX, sx_l5 hX, sx_l6 hX, sx_l7 hX, sx_l8 hX, sx_l9 hX, sx_l10 hX, sx_l11 hX, sx_l12 hX, sx_l13 hX, sx_l14 hX, sx_l15 hX]; omega))) only [f_X5_readComparison, j_X5_readComparison_29, j_X5_readComparison_59, e1, ht, q60, h6, s1, s2, ↓eM, eL_0, eL_1, eL_2, eL_3, eL_4, eL_5, eL_6, eL_7, eL_8, eL_9, eL_10, eL_11, eL_12, eL_15, eL_16, eL_20, eL_24, eL_30, eL_31, eL_32, eL_39, eL_40, eL_41, eL_42, eL_43, eL_45, eL_47, eL_48, eL_49, eL_50, eL_57, eL_59, eL_60, eL_61, eL_90, eL_96, eL_97, eL_100, eL_122, eL_160, eL_161, eL_255, eL_300, eL_343, eL_999, eL_1000, eL_1920, eL_9999, eL_10000, eL_999999, eL_100000, eL_1000000, ↓reduceIte, ↓bl_e, bd_e, u1_f, u1_s, u2_f, u2_s, w_cl, w_ltT, w_ltF, w_leT, w_leF, w_eqT, w_eqF, w_mlt, w_ltm, w_mle, w_lem, w_eqm, w_meq, w_mltm, nI_add, w_sub, w_addm, up_s, up_n, ud_s, ud_n, ck_n, bz_0, bz_1]
      rw [this]; exact s4
    rw [eq_false h60] at q60
    by_cases h61 : T[i1]? = some (4, 61)
    · rw [eq_true h61] at q61
      obtain ⟨r2, x2, x3, i2, P2, s1, s2, s3, s4⟩ := hstep (4, 61) 20005 (-nI 12) h61 rfl (by decide) (by decide) (by decide) (by rfl) (by omega) (by omega) (by decide)
      have : f_X5_readComparison N f S 49 (nI d) x = some (r2, x3) := by
        rcases s3 with rfl | rfl
        · simp (disch := (first | omega | (simp only [sx_l42 hX, sx_l43 hX, sx_l44 hX, sx_l46 hX, sx_l50 hX, sx_l51 hX, sx_l52 hX, sx_l53 hX, sx_l54 hX, sx_l56 hX, sx_l57 hX, sx_l58 hX, sx_l60 hX, sx_l61 hX, sx_l62 hX, sx_l63 hX, sx_l64 hX, sx_l65 hX, sx_l66 hX, sx_l88 hX, sx_l89 hX, sx_l90 hX, sx_l0 hX, sx_l1 hX, sx_l2 hX, sx_l5 hX, sx_l6 hX, sx_l7 hX, sx_l8 hX, sx_l9 hX, sx_l10 hX, sx_l11 hX, sx_l12 hX, sx_l13 hX, sx_l14 hX, sx_l15 hX]; omega))) only [f_X5_readComparison, j_X5_readComparison_29, j_X5_readComparison_59, e1, ht, q60, q61, h6, s1, s2, ↓eM, eL_0, eL_1, eL_2, eL_3, eL_4, eL_5, eL_6, eL_7, eL_8, eL_9, eL_10, eL_11, eL_12, eL_15, eL_16, eL_20, eL_24, eL_30, eL_31, eL_32, eL_39, eL_40, eL_41, eL_42, eL_43, eL_45, eL_47, eL_48, eL_49, eL_50, eL_57, eL_59, eL_60, eL_61, eL_90, eL_96, eL_97, eL_100, eL_122, eL_160, eL_161, eL_255, eL_300, eL_343, eL_999, eL_1000, eL_1920, eL_9999, eL_10000, eL_999999, eL_100000, eL_1000000, ↓reduceIte, ↓bl_e, bd_e, u1_f, u1_s, u2_f, u2_s, w_cl, w_ltT, w_ltF, w_leT, w_leF, w_eqT, w_eqF, w_mlt, w_ltm, w_mle, w_lem, w_eqm, w_meq, w_mltm, nI_add, w_sub, w_addm, up_s, up_n, ud_s, ud_n, ck_n, bz_0, bz_1]
        · simp (disch := (first | omega | (simp only [sx_l42 hX, sx_l43 hX, sx_l44 hX, sx_l46 hX, sx_l50 hX, sx_l51 hX, sx_l52 hX, sx_l53 hX, sx_l54 hX, sx_l56 hX, sx_l57 hX, sx_l58 hX, sx_l60 hX, sx_l61 hX, sx_l62 hX, sx_l63 hX, sx_l64 hX, sx_l65 hX, sx_l66 hX, sx_l88 hX, sx_l89 hX, sx_l90 hX, sx_l0 hX, sx_l1 hX, sx_l2 hX, sx_l5 hX, sx_l6 hX, sx_l7 hX, sx_l8 hX, sx_l9 hX, sx_l10 hX, sx_l11 hX, sx_l12 hX, sx_l13 hX, sx_l14 hX, sx_l15 hX]; omega))) only [f_X5_readComparison, j_X5_readComparison_29, j_X5_readComparison_59, e1, ht, q60, q61, h6, s1, s2, ↓eM, eL_0, eL_1, eL_2, eL_3, eL_4, eL_5, eL_6, eL_7, eL_8, eL_9, eL_10, eL_11, eL_12, eL_15, eL_16, eL_20, eL_24, eL_30, eL_31, eL_32, eL_39, eL_40, eL_41, eL_42, eL_43, eL_45, eL_47, eL_48, eL_49, eL_50, eL_57, eL_59, eL_60, eL_61, eL_90, eL_96, eL_97, eL_100, eL_122, eL_160, eL_161, eL_255, eL_300, eL_343, eL_999, eL_1000, eL_1920, eL_9999, eL_10000, eL_999999, eL_100000, eL_1000000, ↓reduceIte, ↓bl_e, bd_e, u1_f, u1_s, u2_f, u2_s, w_cl, w_ltT, w_ltF, w_leT, w_leF, w_eqT, w_eqF, w_mlt, w_ltm, w_mle, w_lem, w_eqm, w_meq, w_mltm, nI_add, w_sub, w_addm, up_s, up_n, ud_s, ud_n, ck_n, bz_0, bz_1]
      rw [this]; exact s4
    rw [eq_false h61] at q61
    refine ⟨nI 1, x1, i1, P1, ?_, e2, e3, e4, e5, Or.inl ⟨rfl, b1, b2, false, fun b σ cs o hC hs => b3 b σ false cs o hC (hs.mono (by omega)), Or.inl ?_⟩⟩
    · simp (disch := (first | omega | (simp only [sx_l42 hX, sx_l43 hX, sx_l44 hX, sx_l46 hX, sx_l50 hX, sx_l51 hX, sx_l52 hX, sx_l53 hX, sx_l54 hX, sx_l56 hX, sx_l57 hX, sx_l58 hX, sx_l60 hX, sx_l61 hX, sx_l62 hX, sx_l63 hX, sx_l64 hX, sx_l65 hX, sx_l66 hX, sx_l88 hX, sx_l89 hX, sx_l90 hX, sx_l0 hX, sx_l1 hX, sx_l2 hX, sx_l5 hX, sx_l6 hX, sx_l7 hX, sx_l8 hX, sx_l9 hX, sx_l10 hX, sx_l11 hX, sx_l12 hX, sx_l13 hX, sx_l14 hX, sx_l15 hX]; omega))) only [f_X5_readComparison, e1, ht, q60, q61, ↓eM, eL_0, eL_1, eL_2, eL_3, eL_4, eL_5, eL_6, eL_7, eL_8, eL_9, eL_10, eL_11, eL_12, eL_15, eL_16, eL_20, eL_24, eL_30, eL_31, eL_32, eL_39, eL_40, eL_41, eL_42, eL_43, eL_45, eL_47, eL_48, eL_49, eL_50, eL_57, eL_59, eL_60, eL_61, eL_90, eL_96, eL_97, eL_100, eL_122, eL_160, eL_161, eL_255, eL_300, eL_343, eL_999, eL_1000, eL_1920, eL_9999, eL_10000, eL_999999, eL_100000, eL_1000000, ↓reduceIte, ↓bl_e, bd_e, u1_f, u1_s, u2_f, u2_s, w_cl, w_ltT, w_ltF, w_leT, w_leF, w_eqT, w_eqF, w_mlt, w_ltm, w_mle, w_lem, w_eqm, w_meq, w_mltm, nI_add, w_sub, w_addm, up_s, up_n, ud_s, ud_n, ck_n, bz_0, bz_1]
    · by_cases e6 : hdR (T.drop i1) = 4
      · obtain ⟨t, t1, t2⟩ := hdR_t (by decide) e6
        rcases (rk_inv t).2.2.1 t2 with e | e
        · exact absurd (by rw [t1, e]) h60
        · exact absurd (by rw [t1, e]) h61
      · omega
  · refine ⟨nI 0, x1, i1, P1, ?_, e2, e3, e4, e5, Or.inr ⟨rfl, b1, fun b σ cs o hC hs => b2 b σ false cs o hC (hs.mono (by omega))⟩⟩
    simp (disch := (first | omega | (simp only [sx_l42 hX, sx_l43 hX, sx_l44 hX, sx_l46 hX, sx_l50 hX, sx_l51 hX, sx_l52 hX, sx_l53 hX, sx_l54 hX, sx_l56 hX, sx_l57 hX, sx_l58 hX, sx_l60 hX, sx_l61 hX, sx_l62 hX, sx_l63 hX, sx_l64 hX, sx_l65 hX, sx_l66 hX, sx_l88 hX, sx_l89 hX, sx_l90 hX, sx_l0 hX, sx_l1 hX, sx_l2 hX, sx_l5 hX, sx_l6 hX, sx_l7 hX, sx_l8 hX, sx_l9 hX, sx_l10 hX, sx_l11 hX, sx_l12 hX, sx_l13 hX, sx_l14 hX, sx_l15 hX]; omega))) only [f_X5_readComparison, e1, ht, ↓eM, eL_0, eL_1, eL_2, eL_3, eL_4, eL_5, eL_6, eL_7, eL_8, eL_9, eL_10, eL_11, eL_12, eL_15, eL_16, eL_20, eL_24, eL_30, eL_31, eL_32, eL_39, eL_40, eL_41, eL_42, eL_43, eL_45, eL_47, eL_48, eL_49, eL_50, eL_57, eL_59, eL_60, eL_61, eL_90, eL_96, eL_97, eL_100, eL_122, eL_160, eL_161, eL_255, eL_300, eL_343, eL_999, eL_1000, eL_1920, eL_9999, eL_10000, eL_999999, eL_100000, eL_1000000, ↓reduceIte, ↓bl_e, bd_e, u1_f, u1_s, u2_f, u2_s, w_cl, w_ltT, w_ltF, w_leT, w_leF, w_eqT, w_eqF, w_mlt, w_ltm, w_mle, w_lem, w_eqm, w_meq, w_mltm, nI_add, w_sub, w_addm, up_s, up_n, ud_s, ud_n, ck_n, bz_0, bz_1]
set_option maxHeartbeats 1600000 in
theorem rd_not (hN : 600 ≤ N) (hX : SX S) (hd : d ≤ 5) (hg : d < 5 → RdN N T st Z (d + 1) g) (hO : RdO N T st Z d f) : RdN N T st Z d (f_X5_readNot N g f S) := by
  intro i W x h
  have ht := q_token (N := N) hX h
  have q4 := tk_key (q_ok h) (q := 4) (by omega)
  have q4' : (tkC T[i]? = -nI 9) = (T[i]? = some (3, 4)) := q4
  have h6 := h.2.2.2.2.1
  by_cases h4 : T[i]? = some (3, 4)
  · rw [eq_true h4] at q4'
    have hz : ∀ σ cs o, d < 5 → opn σ = d → zMac (T.drop i) true true σ (false :: cs) o = zMac (T.drop (i + 1)) true true (20000 :: σ) (false :: cs) o := fun σ cs o hd5 hC => by
      rw [drop_t h4, zMac, show zVal (3, 4) = none from rfl]
      dsimp only
      rw [if_neg (by rw [hC]; omega), if_pos rfl, if_pos rfl]
    by_cases hd5 : d < 5
    · obtain ⟨k1, k2⟩ := q_adv h (q_lt h4)
      obtain ⟨r, x1, i1, P, e1, e2, e3, e4, e5, e6⟩ := hg hd5 (i + 1) W _ k1
      have hlen : (W ++ P).length = W.length + P.length := List.length_append
      obtain ⟨x2, w1, w2, w3, w4⟩ := q_write (N := N) hX e3 (by have := h.2.2.1; omega) 20000 (v := -nI 7) (by decide)
      refine ⟨r, x2, i1, P ++ [20000], ?_, k2.trans (e2.trans w2), by rw [← List.append_assoc]; exact w3, by omega, by rw [List.length_append]; show P.length + 1 + i ≤ i1; omega, ?_⟩
      · rcases e6 with ⟨rfl, -⟩ | ⟨rfl, -⟩
        · simp (disch := (first | omega | (simp only [sx_l42 hX, sx_l43 hX, sx_l44 hX, sx_l46 hX, sx_l50 hX, sx_l51 hX, sx_l52 hX, sx_l53 hX, sx_l54 hX, sx_l56 hX, sx_l57 hX, sx_l58 hX, sx_l60 hX, sx_l61 hX, sx_l62 hX, sx_l63 hX, sx_l64 hX, sx_l65 hX, sx_l66 hX, sx_l88 hX, sx_l89 hX, sx_l90 hX, sx_l0 hX, sx_l1 hX, sx_l2 hX, sx_l5 hX, sx_l6 hX, sx_l7 hX, sx_l8 hX, sx_l9 hX, sx_l10 hX, sx_l11 hX, sx_l12 hX, sx_l13 hX, sx_l14 hX, sx_l15 hX]; omega))) only [f_X5_readNot, ht, q4', h6, e1, w1, ↓eM, eL_0, eL_1, eL_2, eL_3, eL_4, eL_5, eL_6, eL_7, eL_8, eL_9, eL_10, eL_11, eL_12, eL_15, eL_16, eL_20, eL_24, eL_30, eL_31, eL_32, eL_39, eL_40, eL_41, eL_42, eL_43, eL_45, eL_47, eL_48, eL_49, eL_50, eL_57, eL_59, eL_60, eL_61, eL_90, eL_96, eL_97, eL_100, eL_122, eL_160, eL_161, eL_255, eL_300, eL_343, eL_999, eL_1000, eL_1920, eL_9999, eL_10000, eL_999999, eL_100000, eL_1000000, ↓reduceIte, ↓bl_e, bd_e, u1_f, u1_s, u2_f, u2_s, w_cl, w_ltT, w_ltF, w_leT, w_leF, w_eqT, w_eqF, w_mlt, w_ltm, w_mle, w_lem, w_eqm, w_meq, w_mltm, nI_add, w_sub, w_addm, up_s, up_n, ud_s, ud_n, ck_n, bz_0, bz_1]
        · simp (disch := (first | omega | (simp only [sx_l42 hX, sx_l43 hX, sx_l44 hX, sx_l46 hX, sx_l50 hX, sx_l51 hX, sx_l52 hX, sx_l53 hX, sx_l54 hX, sx_l56 hX, sx_l57 hX, sx_l58 hX, sx_l60 hX, sx_l61 hX, sx_l62 hX, sx_l63 hX, sx_l64 hX, sx_l65 hX, sx_l66 hX, sx_l88 hX, sx_l89 hX, sx_l90 hX, sx_l0 hX, sx_l1 hX, sx_l2 hX, sx_l5 hX, sx_l6 hX, sx_l7 hX, sx_l8 hX, sx_l9 hX, sx_l10 hX, sx_l11 hX, sx_l12 hX, sx_l13 hX, sx_l14 hX, sx_l15 hX]; omega))) only [f_X5_readNot, ht, q4', h6, e1, w1, ↓eM, eL_0, eL_1, eL_2, eL_3, eL_4, eL_5, eL_6, eL_7, eL_8, eL_9, eL_10, eL_11, eL_12, eL_15, eL_16, eL_20, eL_24, eL_30, eL_31, eL_32, eL_39, eL_40, eL_41, eL_42, eL_43, eL_45, eL_47, eL_48, eL_49, eL_50, eL_57, eL_59, eL_60, eL_61, eL_90, eL_96, eL_97, eL_100, eL_122, eL_160, eL_161, eL_255, eL_300, eL_343, eL_999, eL_1000, eL_1920, eL_9999, eL_10000, eL_999999, eL_100000, eL_1000000, ↓reduceIte, ↓bl_e, bd_e, u1_f, u1_s, u2_f, u2_s, w_cl, w_ltT, w_ltF, w_leT, w_leF, w_eqT, w_eqF, w_mlt, w_ltm, w_mle, w_lem, w_eqm, w_meq, w_mltm, nI_add, w_sub, w_addm, up_s, up_n, ud_s, ud_n, ck_n, bz_0, bz_1]
      · rcases e6 with ⟨rfl, g3, g4, c', g5, g6⟩ | ⟨rfl, g3, g4⟩
        · refine Or.inl ⟨rfl, by omega, g4.un (Or.inl rfl), c', fun σ cs o hC hs => ?_, g6⟩
          rw [hz σ cs o hd5 hC, g5 (20000 :: σ) cs o (by rw [opn_s (by rfl), hC]) (cl_c (by decide))]
          rw [show stl 3 (20000 :: σ) = stl 3 σ from rfl, show pps 3 (20000 :: σ) = 20000 :: pps 3 σ from rfl]
          simp only [List.append_assoc, List.singleton_append]
        · refine Or.inr ⟨rfl, by rw [w4]; exact g3, fun σ cs o hC hs => ?_⟩
          rw [hz σ cs o hd5 hC]
          exact g4 (20000 :: σ) cs o (by rw [opn_s (by rfl), hC]) (cl_c (by decide))
    · refine zRs.fail (N := N) hX h (fun x' ef => ?_) (fun σ cs o hC hs => ?_)
      · simp (disch := (first | omega | (simp only [sx_l42 hX, sx_l43 hX, sx_l44 hX, sx_l46 hX, sx_l50 hX, sx_l51 hX, sx_l52 hX, sx_l53 hX, sx_l54 hX, sx_l56 hX, sx_l57 hX, sx_l58 hX, sx_l60 hX, sx_l61 hX, sx_l62 hX, sx_l63 hX, sx_l64 hX, sx_l65 hX, sx_l66 hX, sx_l88 hX, sx_l89 hX, sx_l90 hX, sx_l0 hX, sx_l1 hX, sx_l2 hX, sx_l5 hX, sx_l6 hX, sx_l7 hX, sx_l8 hX, sx_l9 hX, sx_l10 hX, sx_l11 hX, sx_l12 hX, sx_l13 hX, sx_l14 hX, sx_l15 hX]; omega))) only [f_X5_readNot, ht, q4', ef, ↓eM, eL_0, eL_1, eL_2, eL_3, eL_4, eL_5, eL_6, eL_7, eL_8, eL_9, eL_10, eL_11, eL_12, eL_15, eL_16, eL_20, eL_24, eL_30, eL_31, eL_32, eL_39, eL_40, eL_41, eL_42, eL_43, eL_45, eL_47, eL_48, eL_49, eL_50, eL_57, eL_59, eL_60, eL_61, eL_90, eL_96, eL_97, eL_100, eL_122, eL_160, eL_161, eL_255, eL_300, eL_343, eL_999, eL_1000, eL_1920, eL_9999, eL_10000, eL_999999, eL_100000, eL_1000000, ↓reduceIte, ↓bl_e, bd_e, u1_f, u1_s, u2_f, u2_s, w_cl, w_ltT, w_ltF, w_leT, w_leF, w_eqT, w_eqF, w_mlt, w_ltm, w_mle, w_lem, w_eqm, w_meq, w_mltm, nI_add, w_sub, w_addm, up_s, up_n, ud_s, ud_n, ck_n, bz_0, bz_1]
      · rw [drop_t h4, zMac, show zVal (3, 4) = none from rfl]
        dsimp only
        rw [if_pos (by rw [hC]; omega)]
  · rw [eq_false h4] at q4'
    obtain ⟨r, x1, i1, P, e1, e2, e3, e4, e5, e6⟩ := rd_cmp (N := N) hN hX hO h
    refine ⟨r, x1, i1, P, ?_, e2, e3, e4, e5, ?_⟩
    · rcases e6 with ⟨rfl, -⟩ | ⟨rfl, -⟩
      · simp (disch := (first | omega | (simp only [sx_l42 hX, sx_l43 hX, sx_l44 hX, sx_l46 hX, sx_l50 hX, sx_l51 hX, sx_l52 hX, sx_l53 hX, sx_l54 hX, sx_l56 hX, sx_l57 hX, sx_l58 hX, sx_l60 hX, sx_l61 hX, sx_l62 hX, sx_l63 hX, sx_l64 hX, sx_l65 hX, sx_l66 hX, sx_l88 hX, sx_l89 hX, sx_l90 hX, sx_l0 hX, sx_l1 hX, sx_l2 hX, sx_l5 hX, sx_l6 hX, sx_l7 hX, sx_l8 hX, sx_l9 hX, sx_l10 hX, sx_l11 hX, sx_l12 hX, sx_l13 hX, sx_l14 hX, sx_l15 hX]; omega))) only [f_X5_readNot, ht, q4', e1, ↓eM, eL_0, eL_1, eL_2, eL_3, eL_4, eL_5, eL_6, eL_7, eL_8, eL_9, eL_10, eL_11, eL_12, eL_15, eL_16, eL_20, eL_24, eL_30, eL_31, eL_32, eL_39, eL_40, eL_41, eL_42, eL_43, eL_45, eL_47, eL_48, eL_49, eL_50, eL_57, eL_59, eL_60, eL_61, eL_90, eL_96, eL_97, eL_100, eL_122, eL_160, eL_161, eL_255, eL_300, eL_343, eL_999, eL_1000, eL_1920, eL_9999, eL_10000, eL_999999, eL_100000, eL_1000000, ↓reduceIte, ↓bl_e, bd_e, u1_f, u1_s, u2_f, u2_s, w_cl, w_ltT, w_ltF, w_leT, w_leF, w_eqT, w_eqF, w_mlt, w_ltm, w_mle, w_lem, w_eqm, w_meq, w_mltm, nI_add, w_sub, w_addm, up_s, up_n, ud_s, ud_n, ck_n, bz_0, bz_1]
      · simp (disch := (first | omega | (simp only [sx_l42 hX, sx_l43 hX, sx_l44 hX, sx_l46 hX, sx_l50 hX, sx_l51 hX, sx_l52 hX, sx_l53 hX, sx_l54 hX, sx_l56 hX, sx_l57 hX, sx_l58 hX, sx_l60 hX, sx_l61 hX, sx_l62 hX, sx_l63 hX, sx_l64 hX, sx_l65 hX, sx_l66 hX, sx_l88 hX, sx_l89 hX, sx_l90 hX, sx_l0 hX, sx_l1 hX, sx_l2 hX, sx_l5 hX, sx_l6 hX, sx_l7 hX, sx_l8 hX, sx_l9 hX, sx_l10 hX, sx_l11 hX, sx_l12 hX, sx_l13 hX, sx_l14 hX, sx_l15 hX]; omega))) only [f_X5_readNot, ht, q4', e1, ↓eM, eL_0, eL_1, eL_2, eL_3, eL_4, eL_5, eL_6, eL_7, eL_8, eL_9, eL_10, eL_11, eL_12, eL_15, eL_16, eL_20, eL_24, eL_30, eL_31, eL_32, eL_39, eL_40, eL_41, eL_42, eL_43, eL_45, eL_47, eL_48, eL_49, eL_50, eL_57, eL_59, eL_60, eL_61, eL_90, eL_96, eL_97, eL_100, eL_122, eL_160, eL_161, eL_255, eL_300, eL_343, eL_999, eL_1000, eL_1920, eL_9999, eL_10000, eL_999999, eL_100000, eL_1000000, ↓reduceIte, ↓bl_e, bd_e, u1_f, u1_s, u2_f, u2_s, w_cl, w_ltT, w_ltF, w_leT, w_leF, w_eqT, w_eqF, w_mlt, w_ltm, w_mle, w_lem, w_eqm, w_meq, w_mltm, nI_add, w_sub, w_addm, up_s, up_n, ud_s, ud_n, ck_n, bz_0, bz_1]
    · rcases e6 with ⟨rfl, g3, g4, c', g5, g6⟩ | ⟨rfl, g3, g4⟩
      · refine Or.inl ⟨rfl, g3, g4, c', fun σ cs o hC hs => ?_, g6.dn (hdR_le _).2⟩
        rw [g5 true σ cs o ⟨hC, Or.inr h4⟩ hs, zMac_S (l := 3) (by omega) g6]
      · exact Or.inr ⟨rfl, g3, fun σ cs o hC hs => g4 true σ cs o ⟨hC, Or.inr h4⟩ hs⟩
end SUM
