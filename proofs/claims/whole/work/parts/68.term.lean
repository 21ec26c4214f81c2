/-! LAYER 3: texts: terms, sums, comparisons, nots, boths, eithers -/
theorem rk_inv (t : ZT) : (rk (sgOf t) = 6 → t = (4, 42)) ∧ (rk (sgOf t) = 5 → t = (4, 43) ∨ t = (4, 45)) ∧ (rk (sgOf t) = 4 → t = (4, 60) ∨ t = (4, 61)) ∧ (rk (sgOf t) = 2 → t = (3, 3)) ∧ (rk (sgOf t) = 1 → t = (3, 2)) := by
  obtain ⟨a, v⟩ := t
  unfold sgOf
  dsimp only
  repeat' split
  all_goals (refine ⟨fun h => ?_, fun h => ?_, fun h => ?_, fun h => ?_, fun h => ?_⟩)
  all_goals first
    | exact absurd h (by decide)
    | (subst_vars; rfl)
    | (subst_vars; exact Or.inl rfl)
    | (subst_vars; exact Or.inr rfl)
theorem zStop.dn {l : Nat} {ts : List ZT} {c : Bool} (h : zStop (l + 1) ts c) (hn : hdR ts ≠ l + 1) : zStop l ts c := by
  rcases h with h | h
  · exact Or.inl (by omega)
  · exact Or.inr h
theorem hdR_t {T : List ZT} {i : Nat} {l : Nat} (hl : l ≠ 0) (h : hdR (T.drop i) = l) : ∃ t, T[i]? = some t ∧ rk (sgOf t) = l := by
  cases e : T[i]? with
  | none => rw [drop_n e] at h; exact absurd h.symm hl
  | some t => rw [drop_t e] at h; exact ⟨t, rfl, h⟩
section TERM
variable {N : Nat} {S : SH} {T : List ZT} {st : Nat → Nat} {Z i d : Nat} {W : List Nat} {x : DY} {f : Nat → Int32 → DY → Option (Int32 × DY)}
set_option maxHeartbeats 1600000 in
theorem rd_term (hN : 600 ≤ N) (hX : SX S) (hO : RdO N T st Z d f) (h : zQs T st Z x i W) : zRs T st Z x i W (f_X5_readTerm N f S 49 (nI d) x) (fun i' P => PLv 6 T d i i' P ∧ hdR (T.drop i') ≤ 5) (FLv 6 T d i) := by
  obtain ⟨r, x1, i1, P1, e1, e2, e3, e4, e5, e6⟩ := hO i W x h
  have e : f_X5_readTerm N f S 49 (nI d) x = lp_X5_readTerm_8 N f S 49 (nI d) r (nI 0) x1 := by simp (disch := omega) only [f_X5_readTerm, e1, ↓eM, eL_0, eL_1, eL_2, eL_3, eL_4, eL_5, eL_6, eL_7, eL_8, eL_9, eL_10, eL_11, eL_12, eL_15, eL_16, eL_20, eL_24, eL_30, eL_31, eL_32, eL_39, eL_40, eL_41, eL_42, eL_43, eL_45, eL_47, eL_48, eL_49, eL_50, eL_57, eL_59, eL_60, eL_61, eL_90, eL_96, eL_97, eL_100, eL_122, eL_160, eL_161, eL_255, eL_300, eL_343, eL_999, eL_1000, eL_1920, eL_9999, eL_10000, eL_999999, eL_100000, eL_1000000, ↓reduceIte, ↓bl_e, bd_e, u1_f, u1_s, u2_f, u2_s, w_cl, w_ltT, w_ltF, w_leT, w_leF, w_eqT, w_eqF, w_mlt, w_ltm, w_mle, w_lem, w_eqm, w_meq, w_mltm, nI_add, w_sub, w_addm, up_s, up_n, ud_s, ud_n, ck_n, bz_0, bz_1]
  have hT := h.2.1
  rw [e]
  unfold lp_X5_readTerm_8
  refine z_itr1 (fun j (a : Int32 × Int32 × DY) => ∃ r x1 i1 P1, a = (r, nI j, x1) ∧ zFq x x1 ∧ zQs T st Z x1 i1 (W ++ P1) ∧ i ≤ i1 ∧ P1.length + i ≤ i1 ∧ ((r = nI 1 ∧ i + j < i1 ∧ zGd P1 ∧ PLv 6 T d i i1 P1) ∨ (r = nI 0 ∧ x1.1 49 10 = nI (fsT T st Z i1) ∧ FLv 6 T d i i1))) (fun o => zRs T st Z x i W o (fun i' P => PLv 6 T d i i' P ∧ hdR (T.drop i') ≤ 5) (FLv 6 T d i)) 160 ?_ ?_ 160 0 _ N (by omega) (by omega) ⟨r, x1, i1, P1, rfl, e2, e3, e4, e5, ?_⟩
  · rintro j _ hj ⟨r, x1, i1, P1, rfl, g1, g2, g3, g4, g5⟩
    rcases g5 with ⟨rfl, a1, a2, a3⟩ | ⟨rfl, a1, a2⟩
    · have ht := q_token (N := N) hX g2
      have q42 := tk_sgn (q_ok g2) (q := 42) (by omega)
      have h6 := g2.2.2.2.2.1
      by_cases h42 : T[i1]? = some (4, 42)
      · rw [eq_true h42] at q42
        have hi := q_lt h42
        obtain ⟨k1, k2⟩ := q_adv g2 hi
        obtain ⟨r2, x2, i2, P2, f1, f2, f3, f4, f5, f6⟩ := hO (i1 + 1) (W ++ P1) _ k1
        have hlen : (W ++ P1 ++ P2).length = (W ++ P1).length + P2.length := List.length_append
        have hW1 := g2.2.2.1
        obtain ⟨x3, w1, w2, w3, w4⟩ := q_write (N := N) hX f3 (by omega) 20008 (v := -nI 15) (by decide)
        have hm : ∀ b σ c cs o, Cb T d i b σ → cl 6 σ → PLv 6 T d i i1 P1 → zMac (T.drop i) true b σ (c :: cs) o = zMac (T.drop (i1 + 1)) true false (20008 :: σ) (c :: cs) (o ++ P1) := fun b σ c cs o hC hs a3 => by
          rw [a3 b σ c cs o hC hs, mac_op h42 (q := 20008) rfl (by decide) (by decide) (by decide) (fun e => absurd e (by decide)) hs]
          rfl
        refine Or.inl ⟨(r2, nI (j + 1), x3), ⟨r2, x3, i2, P1 ++ P2 ++ [20008], rfl, g1.trans (k2.trans (f2.trans w2)), by rw [← List.append_assoc, ← List.append_assoc]; exact w3, by omega, by rw [List.length_append, List.length_append]; show P1.length + P2.length + 1 + i ≤ i2; omega, ?_⟩, fun back => ?_⟩
        · rcases f6 with ⟨rfl, b1, b2, b3⟩ | ⟨rfl, b1, b2⟩
          · refine Or.inl ⟨rfl, by omega, a2.bi b2 (by omega) (by omega), fun b σ c cs o hC hs => ?_⟩
            rw [hm b σ c cs o hC hs a3, b3 false (20008 :: σ) c cs (o ++ P1) ⟨by rw [opn_n (by rfl)]; exact hC.1, Or.inl rfl⟩, (cl_c (show rk 20008 < 7 by decide)).stl, (cl_c (show rk 20008 < 7 by decide)).pps, zMac_S (l := 6) (by omega) (Or.inl (hdR_le _).1)]
            rw [show stl 6 (20008 :: σ) = stl 6 σ from rfl, hs.stl, show pps 6 (20008 :: σ) = 20008 :: pps 6 σ from rfl, hs.pps]
            simp only [List.append_assoc, List.append_nil]
          · refine Or.inr ⟨rfl, by rw [w4]; exact b1, fun b σ c cs o hC hs => ?_⟩
            rw [hm b σ c cs o hC hs a3]
            exact b2 false (20008 :: σ) c cs (o ++ P1) ⟨by rw [opn_n (by rfl)]; exact hC.1, Or.inl rfl⟩
        · simp (disch := (first | omega | (simp only [sx_l42 hX, sx_l43 hX, sx_l44 hX, sx_l46 hX, sx_l50 hX, sx_l51 hX, sx_l52 hX, sx_l53 hX, sx_l54 hX, sx_l56 hX, sx_l57 hX, sx_l58 hX, sx_l60 hX, sx_l61 hX, sx_l62 hX, sx_l63 hX, sx_l64 hX, sx_l65 hX, sx_l66 hX, sx_l88 hX, sx_l89 hX, sx_l90 hX, sx_l0 hX, sx_l1 hX, sx_l2 hX, sx_l5 hX, sx_l6 hX, sx_l7 hX, sx_l8 hX, sx_l9 hX, sx_l10 hX, sx_l11 hX, sx_l12 hX, sx_l13 hX, sx_l14 hX, sx_l15 hX]; omega))) only [lp_X5_readTerm_8_b, ht, q42, h6, f1, w1, ↓eM, eL_0, eL_1, eL_2, eL_3, eL_4, eL_5, eL_6, eL_7, eL_8, eL_9, eL_10, eL_11, eL_12, eL_15, eL_16, eL_20, eL_24, eL_30, eL_31, eL_32, eL_39, eL_40, eL_41, eL_42, eL_43, eL_45, eL_47, eL_48, eL_49, eL_50, eL_57, eL_59, eL_60, eL_61, eL_90, eL_96, eL_97, eL_100, eL_122, eL_160, eL_161, eL_255, eL_300, eL_343, eL_999, eL_1000, eL_1920, eL_9999, eL_10000, eL_999999, eL_100000, eL_1000000, ↓reduceIte, ↓bl_e, bd_e, u1_f, u1_s, u2_f, u2_s, w_cl, w_ltT, w_ltF, w_leT, w_leF, w_eqT, w_eqF, w_mlt, w_ltm, w_mle, w_lem, w_eqm, w_meq, w_mltm, nI_add, w_sub, w_addm, up_s, up_n, ud_s, ud_n, ck_n, bz_0, bz_1]
      · rw [eq_false h42] at q42
        refine Or.inr ⟨some (nI 1, x1), ⟨nI 1, x1, i1, P1, rfl, g1, g2, g3, g4, Or.inl ⟨rfl, by omega, a2, a3, ?_⟩⟩, fun back => ?_⟩
        · have h7 := (hdR_le (T.drop i1)).1
          by_cases e6 : hdR (T.drop i1) = 6
          · obtain ⟨t, t1, t2⟩ := hdR_t (by decide) e6
            exact absurd (by rw [t1, (rk_inv t).1 t2]) h42
          · omega
        · simp (disch := (first | omega | (simp only [sx_l42 hX, sx_l43 hX, sx_l44 hX, sx_l46 hX, sx_l50 hX, sx_l51 hX, sx_l52 hX, sx_l53 hX, sx_l54 hX, sx_l56 hX, sx_l57 hX, sx_l58 hX, sx_l60 hX, sx_l61 hX, sx_l62 hX, sx_l63 hX, sx_l64 hX, sx_l65 hX, sx_l66 hX, sx_l88 hX, sx_l89 hX, sx_l90 hX, sx_l0 hX, sx_l1 hX, sx_l2 hX, sx_l5 hX, sx_l6 hX, sx_l7 hX, sx_l8 hX, sx_l9 hX, sx_l10 hX, sx_l11 hX, sx_l12 hX, sx_l13 hX, sx_l14 hX, sx_l15 hX]; omega))) only [lp_X5_readTerm_8_b, ht, q42, ↓eM, eL_0, eL_1, eL_2, eL_3, eL_4, eL_5, eL_6, eL_7, eL_8, eL_9, eL_10, eL_11, eL_12, eL_15, eL_16, eL_20, eL_24, eL_30, eL_31, eL_32, eL_39, eL_40, eL_41, eL_42, eL_43, eL_45, eL_47, eL_48, eL_49, eL_50, eL_57, eL_59, eL_60, eL_61, eL_90, eL_96, eL_97, eL_100, eL_122, eL_160, eL_161, eL_255, eL_300, eL_343, eL_999, eL_1000, eL_1920, eL_9999, eL_10000, eL_999999, eL_100000, eL_1000000, ↓reduceIte, ↓bl_e, bd_e, u1_f, u1_s, u2_f, u2_s, w_cl, w_ltT, w_ltF, w_leT, w_leF, w_eqT, w_eqF, w_mlt, w_ltm, w_mle, w_lem, w_eqm, w_meq, w_mltm, nI_add, w_sub, w_addm, up_s, up_n, ud_s, ud_n, ck_n, bz_0, bz_1]
    · refine Or.inr ⟨some (nI 0, x1), ⟨nI 0, x1, i1, P1, rfl, g1, g2, g3, g4, Or.inr ⟨rfl, a1, a2⟩⟩, fun back => ?_⟩
      simp (disch := (first | omega | (simp only [sx_l42 hX, sx_l43 hX, sx_l44 hX, sx_l46 hX, sx_l50 hX, sx_l51 hX, sx_l52 hX, sx_l53 hX, sx_l54 hX, sx_l56 hX, sx_l57 hX, sx_l58 hX, sx_l60 hX, sx_l61 hX, sx_l62 hX, sx_l63 hX, sx_l64 hX, sx_l65 hX, sx_l66 hX, sx_l88 hX, sx_l89 hX, sx_l90 hX, sx_l0 hX, sx_l1 hX, sx_l2 hX, sx_l5 hX, sx_l6 hX, sx_l7 hX, sx_l8 hX, sx_l9 hX, sx_l10 hX, sx_l11 hX, sx_l12 hX, sx_l13 hX, sx_l14 hX, sx_l15 hX]; omega))) only [lp_X5_readTerm_8_b, ↓eM, eL_0, eL_1, eL_2, eL_3, eL_4, eL_5, eL_6, eL_7, eL_8, eL_9, eL_10, eL_11, eL_12, eL_15, eL_16, eL_20, eL_24, eL_30, eL_31, eL_32, eL_39, eL_40, eL_41, eL_42, eL_43, eL_45, eL_47, eL_48, eL_49, eL_50, eL_57, eL_59, eL_60, eL_61, eL_90, eL_96, eL_97, eL_100, eL_122, eL_160, eL_161, eL_255, eL_300, eL_343, eL_999, eL_1000, eL_1920, eL_9999, eL_10000, eL_999999, eL_100000, eL_1000000, ↓reduceIte, ↓bl_e, bd_e, u1_f, u1_s, u2_f, u2_s, w_cl, w_ltT, w_ltF, w_leT, w_leF, w_eqT, w_eqF, w_mlt, w_ltm, w_mle, w_lem, w_eqm, w_meq, w_mltm, nI_add, w_sub, w_addm, up_s, up_n, ud_s, ud_n, ck_n, bz_0, bz_1]
  · rintro _ ⟨r, x1, i1, P1, rfl, g1, g2, g3, g4, g5⟩
    rcases g5 with ⟨rfl, a1, a2, a3⟩ | ⟨rfl, a1, a2⟩
    · have := g2.1
      omega
    · refine ⟨some (nI 0, x1), ⟨nI 0, x1, i1, P1, rfl, g1, g2, g3, g4, Or.inr ⟨rfl, a1, a2⟩⟩, fun back => ?_⟩
      have e160 : (160 : Int32) = nI 160 := rfl
      simp (disch := (first | omega | (simp only [sx_l42 hX, sx_l43 hX, sx_l44 hX, sx_l46 hX, sx_l50 hX, sx_l51 hX, sx_l52 hX, sx_l53 hX, sx_l54 hX, sx_l56 hX, sx_l57 hX, sx_l58 hX, sx_l60 hX, sx_l61 hX, sx_l62 hX, sx_l63 hX, sx_l64 hX, sx_l65 hX, sx_l66 hX, sx_l88 hX, sx_l89 hX, sx_l90 hX, sx_l0 hX, sx_l1 hX, sx_l2 hX, sx_l5 hX, sx_l6 hX, sx_l7 hX, sx_l8 hX, sx_l9 hX, sx_l10 hX, sx_l11 hX, sx_l12 hX, sx_l13 hX, sx_l14 hX, sx_l15 hX]; omega))) only [lp_X5_readTerm_8_b, e160, ↓eM, eL_0, eL_1, eL_2, eL_3, eL_4, eL_5, eL_6, eL_7, eL_8, eL_9, eL_10, eL_11, eL_12, eL_15, eL_16, eL_20, eL_24, eL_30, eL_31, eL_32, eL_39, eL_40, eL_41, eL_42, eL_43, eL_45, eL_47, eL_48, eL_49, eL_50, eL_57, eL_59, eL_60, eL_61, eL_90, eL_96, eL_97, eL_100, eL_122, eL_160, eL_161, eL_255, eL_300, eL_343, eL_999, eL_1000, eL_1920, eL_9999, eL_10000, eL_999999, eL_100000, eL_1000000, ↓reduceIte, ↓bl_e, bd_e, u1_f, u1_s, u2_f, u2_s, w_cl, w_ltT, w_ltF, w_leT, w_leF, w_eqT, w_eqF, w_mlt, w_ltm, w_mle, w_lem, w_eqm, w_meq, w_mltm, nI_add, w_sub, w_addm, up_s, up_n, ud_s, ud_n, ck_n, bz_0, bz_1]
  · rcases e6 with ⟨rfl, b1, b2, b3⟩ | ⟨rfl, b1, b2⟩
    · exact Or.inl ⟨rfl, by omega, b2, fun b σ c cs o hC hs => by rw [b3 b σ c cs o hC, (hs.mono (show 6 ≤ 7 by omega)).stl, (hs.mono (show 6 ≤ 7 by omega)).pps, List.append_nil]⟩
    · exact Or.inr ⟨rfl, b1, fun b σ c cs o hC hs => b2 b σ c cs o hC⟩
end TERM
