/-! LAYER 3: texts: boths, eithers, and the whole descent -/
section BOTH
variable {N : Nat} {S : SH} {T : List ZT} {st : Nat → Nat} {Z i d : Nat} {W : List Nat} {x : DY} {f g : Nat → Int32 → DY → Option (Int32 × DY)}
/-- a level of keys, read up to one -/
def PBi (l : Nat) (T : List ZT) (d i i' : Nat) (P : List Nat) : Prop := ∃ c', (∀ σ cs o, opn σ = d → cl (l + 1) σ → zMac (T.drop i) true true σ (false :: cs) o = zMac (T.drop i') false false σ (c' :: cs) (o ++ P)) ∧ zStop (l + 1) (T.drop i') c'
set_option maxHeartbeats 1600000 in
theorem rd_both (hN : 600 ≤ N) (hX : SX S) (hg : RdN N T st Z d g) (h : zQs T st Z x i W) : zRs T st Z x i W (f_X5_readBoth N g S 49 (nI d) x) (PBv 1 T d i) (FBv 2 T d i) := by
  obtain ⟨r, x1, i1, P1, e1, e2, e3, e4, e5, e6⟩ := hg i W x h
  have e : f_X5_readBoth N g S 49 (nI d) x = lp_X5_readBoth_8 N g S 49 (nI d) r (nI 0) x1 := by simp (disch := omega) only [f_X5_readBoth, e1, ↓eM, eL_0, eL_1, eL_2, eL_3, eL_4, eL_5, eL_6, eL_7, eL_8, eL_9, eL_10, eL_11, eL_12, eL_15, eL_16, eL_20, eL_24, eL_30, eL_31, eL_32, eL_39, eL_40, eL_41, eL_42, eL_43, eL_45, eL_47, eL_48, eL_49, eL_50, eL_57, eL_59, eL_60, eL_61, eL_90, eL_96, eL_97, eL_100, eL_122, eL_160, eL_161, eL_255, eL_300, eL_343, eL_999, eL_1000, eL_1920, eL_9999, eL_10000, eL_999999, eL_100000, eL_1000000, ↓reduceIte, ↓bl_e, bd_e, u1_f, u1_s, u2_f, u2_s, w_cl, w_ltT, w_ltF, w_leT, w_leF, w_eqT, w_eqF, w_mlt, w_ltm, w_mle, w_lem, w_eqm, w_meq, w_mltm, nI_add, w_sub, w_addm, up_s, up_n, ud_s, ud_n, ck_n, bz_0, bz_1]
  have hT := h.2.1
  rw [e]
  unfold lp_X5_readBoth_8
  refine z_itr1 (fun j (a : Int32 × Int32 × DY) => ∃ r x1 i1 P1, a = (r, nI j, x1) ∧ zFq x x1 ∧ zQs T st Z x1 i1 (W ++ P1) ∧ i ≤ i1 ∧ P1.length + i ≤ i1 ∧ ((r = nI 1 ∧ i + j < i1 ∧ zGd P1 ∧ PBi 1 T d i i1 P1) ∨ (r = nI 0 ∧ x1.1 49 10 = nI (fsT T st Z i1) ∧ FBv 2 T d i i1))) (fun o => zRs T st Z x i W o (PBv 1 T d i) (FBv 2 T d i)) 160 ?_ ?_ 160 0 _ N (by omega) (by omega) ⟨r, x1, i1, P1, rfl, e2, e3, e4, e5, ?_⟩
  · rintro j _ hj ⟨r, x1, i1, P1, rfl, g1, g2, g3, g4, g5⟩
    rcases g5 with ⟨rfl, a1, a2, c1, a3, a4⟩ | ⟨rfl, a1, a2⟩
    · have ht := q_token (N := N) hX g2
      have q3 := tk_key (q_ok g2) (q := 3) (by omega)
      have q3' : (tkC T[i1]? = -nI 8) = (T[i1]? = some (3, 3)) := q3
      have h6 := g2.2.2.2.2.1
      by_cases h3 : T[i1]? = some (3, 3)
      · rw [eq_true h3] at q3'
        obtain ⟨k1, k2⟩ := q_adv g2 (q_lt h3)
        obtain ⟨r2, x2, i2, P2, f1, f2, f3, f4, f5, f6⟩ := hg (i1 + 1) (W ++ P1) _ k1
        have hlen : (W ++ P1 ++ P2).length = (W ++ P1).length + P2.length := List.length_append
        have hW1 := g2.2.2.1
        obtain ⟨x3, w1, w2, w3, w4⟩ := q_write (N := N) hX f3 (by omega) 20003 (v := -nI 10) (by decide)
        have hm : ∀ σ cs o, opn σ = d → cl 2 σ → zMac (T.drop i) true true σ (false :: cs) o = zMac (T.drop (i1 + 1)) true true (20003 :: σ) (false :: cs) (o ++ P1) := fun σ cs o hC hs => by
          rw [a3 σ cs o hC hs, mac_op h3 (q := 20003) rfl (by decide) (by decide) (by decide) (fun e => absurd e (by decide)) hs]
          rfl
        refine Or.inl ⟨(r2, nI (j + 1), x3), ⟨r2, x3, i2, P1 ++ P2 ++ [20003], rfl, g1.trans (k2.trans (f2.trans w2)), by rw [← List.append_assoc, ← List.append_assoc]; exact w3, by omega, by rw [List.length_append, List.length_append]; show P1.length + P2.length + 1 + i ≤ i2; omega, ?_⟩, fun back => ?_⟩
        · rcases f6 with ⟨rfl, b1, b2, c2, b3, b4⟩ | ⟨rfl, b1, b2⟩
          · refine Or.inl ⟨rfl, by omega, a2.bi b2 (by omega) (by omega), c2, fun σ cs o hC hs => ?_, b4⟩
            rw [hm σ cs o hC hs, b3 (20003 :: σ) cs (o ++ P1) (by rw [opn_n (by rfl)]; exact hC) (cl_c (by decide)), (cl_c (show rk 20003 < 3 by decide)).stl, (cl_c (show rk 20003 < 3 by decide)).pps, zMac_S (l := 2) (by omega) b4]
            rw [show stl 2 (20003 :: σ) = stl 2 σ from rfl, hs.stl, show pps 2 (20003 :: σ) = 20003 :: pps 2 σ from rfl, hs.pps]
            simp only [List.append_assoc, List.append_nil]
          · refine Or.inr ⟨rfl, by rw [w4]; exact b1, fun σ cs o hC hs => ?_⟩
            rw [hm σ cs o hC hs]
            exact b2 (20003 :: σ) cs (o ++ P1) (by rw [opn_n (by rfl)]; exact hC) (cl_c (by decide))
        · simp (disch := (first | omega | (simp only [sx_l42 hX, sx_l43 hX, sx_l44 hX, sx_l46 hX, sx_l50 hX, sx_l51 hX, sx_l52 hX, sx_l53 hX, sx_l54 hX, sx_l56 hX, sx_l57 hX, sx_l58 hX, sx_l60 hX, sx_l61 hX, sx_l62 hX, sx_l63 hX, sx_l64 hX, sx_l65 hX, sx_l66 hX, sx_l88 hX, sx_l89 hX, sx_l90 hX, sx_l0 hX, sx_l1 hX, sx_l2 hX, sx_l5 hX, sx_l6 hX, sx_l7 hX, sx_l8 hX, sx_l9 hX, sx_l10 hX, sx_l11 hX, sx_l12 hX, sx_l13 hX, sx_l14 hX, sx_l15 hX]; omega))) only [lp_X5_readBoth_8_b, ht, q3', h6, f1, w1, ↓eM, eL_0, eL_1, eL_2, eL_3, eL_4, eL_5, eL_6, eL_7, eL_8, eL_9, eL_10, eL_11, eL_12, eL_15, eL_16, eL_20, eL_24, eL_30, eL_31, eL_32, eL_39, eL_40, eL_41, eL_42, eL_43, eL_45, eL_47, eL_48, eL_49, eL_50, eL_57, eL_59, eL_60, eL_61, eL_90, eL_96, eL_97, eL_100, eL_122, eL_160, eL_161, eL_255, eL_300, eL_343, eL_999, eL_1000, eL_1920, eL_9999, eL_10000, eL_999999, eL_100000, eL_1000000, ↓reduceIte, ↓bl_e, bd_e, u1_f, u1_s, u2_f, u2_s, w_cl, w_ltT, w_ltF, w_leT, w_leF, w_eqT, w_eqF, w_mlt, w_ltm, w_mle, w_lem, w_eqm, w_meq, w_mltm, nI_add, w_sub, w_addm, up_s, up_n, ud_s, ud_n, ck_n, bz_0, bz_1]
      · rw [eq_false h3] at q3'
        refine Or.inr ⟨some (nI 1, x1), ⟨nI 1, x1, i1, P1, rfl, g1, g2, g3, g4, Or.inl ⟨rfl, by omega, a2, c1, a3, a4.dn (fun e6 => ?_)⟩⟩, fun back => ?_⟩
        · obtain ⟨t, t1, t2⟩ := hdR_t (by decide) e6
          exact absurd (by rw [t1, (rk_inv t).2.2.2.1 t2]) h3
        · simp (disch := (first | omega | (simp only [sx_l42 hX, sx_l43 hX, sx_l44 hX, sx_l46 hX, sx_l50 hX, sx_l51 hX, sx_l52 hX, sx_l53 hX, sx_l54 hX, sx_l56 hX, sx_l57 hX, sx_l58 hX, sx_l60 hX, sx_l61 hX, sx_l62 hX, sx_l63 hX, sx_l64 hX, sx_l65 hX, sx_l66 hX, sx_l88 hX, sx_l89 hX, sx_l90 hX, sx_l0 hX, sx_l1 hX, sx_l2 hX, sx_l5 hX, sx_l6 hX, sx_l7 hX, sx_l8 hX, sx_l9 hX, sx_l10 hX, sx_l11 hX, sx_l12 hX, sx_l13 hX, sx_l14 hX, sx_l15 hX]; omega))) only [lp_X5_readBoth_8_b, ht, q3', ↓eM, eL_0, eL_1, eL_2, eL_3, eL_4, eL_5, eL_6, eL_7, eL_8, eL_9, eL_10, eL_11, eL_12, eL_15, eL_16, eL_20, eL_24, eL_30, eL_31, eL_32, eL_39, eL_40, eL_41, eL_42, eL_43, eL_45, eL_47, eL_48, eL_49, eL_50, eL_57, eL_59, eL_60, eL_61, eL_90, eL_96, eL_97, eL_100, eL_122, eL_160, eL_161, eL_255, eL_300, eL_343, eL_999, eL_1000, eL_1920, eL_9999, eL_10000, eL_999999, eL_100000, eL_1000000, ↓reduceIte, ↓bl_e, bd_e, u1_f, u1_s, u2_f, u2_s, w_cl, w_ltT, w_ltF, w_leT, w_leF, w_eqT, w_eqF, w_mlt, w_ltm, w_mle, w_lem, w_eqm, w_meq, w_mltm, nI_add, w_sub, w_addm, up_s, up_n, ud_s, ud_n, ck_n, bz_0, bz_1]
    · refine Or.inr ⟨some (nI 0, x1), ⟨nI 0, x1, i1, P1, rfl, g1, g2, g3, g4, Or.inr ⟨rfl, a1, a2⟩⟩, fun back => ?_⟩
      simp (disch := (first | omega | (simp only [sx_l42 hX, sx_l43 hX, sx_l44 hX, sx_l46 hX, sx_l50 hX, sx_l51 hX, sx_l52 hX, sx_l53 hX, sx_l54 hX, sx_l56 hX, sx_l57 hX, sx_l58 hX, sx_l60 hX, sx_l61 hX, sx_l62 hX, sx_l63 hX, sx_l64 hX, sx_l65 hX, sx_l66 hX, sx_l88 hX, sx_l89 hX, sx_l90 hX, sx_l0 hX, sx_l1 hX, sx_l2 hX, sx_l5 hX, sx_l6 hX, sx_l7 hX, sx_l8 hX, sx_l9 hX, sx_l10 hX, sx_l11 hX, sx_l12 hX, sx_l13 hX, sx_l14 hX, sx_l15 hX]; omega))) only [lp_X5_readBoth_8_b, ↓eM, eL_0, eL_1, eL_2, eL_3, eL_4, eL_5, eL_6, eL_7, eL_8, eL_9, eL_10, eL_11, eL_12, eL_15, eL_16, eL_20, eL_24, eL_30, eL_31, eL_32, eL_39, eL_40, eL_41, eL_42, eL_43, eL_45, eL_47, eL_48, eL_49, eL_50, eL_57, eL_59, eL_60, eL_61, eL_90, eL_96, eL_97, eL_100, eL_122, eL_160, eL_161, eL_255, eL_300, eL_343, eL_999, eL_1000, eL_1920, eL_9999, eL_10000, eL_999999, eL_100000, eL_1000000, ↓reduceIte, ↓bl_e, bd_e, u1_f, u1_s, u2_f, u2_s, w_cl, w_ltT, w_ltF, w_leT, w_leF, w_eqT, w_eqF, w_mlt, w_ltm, w_mle, w_lem, w_eqm, w_meq, w_mltm, nI_add, w_sub, w_addm, up_s, up_n, ud_s, ud_n, ck_n, bz_0, bz_1]
  · rintro _ ⟨r, x1, i1, P1, rfl, g1, g2, g3, g4, g5⟩
    rcases g5 with ⟨rfl, a1, a2, a3⟩ | ⟨rfl, a1, a2⟩
    · have := g2.1
      omega
    · refine ⟨some (nI 0, x1), ⟨nI 0, x1, i1, P1, rfl, g1, g2, g3, g4, Or.inr ⟨rfl, a1, a2⟩⟩, fun back => ?_⟩
      simp (disch := (first | omega | (simp only [sx_l42 hX, sx_l43 hX, sx_l44 hX, sx_l46 hX, sx_l50 hX, sx_l51 hX, sx_l52 hX, sx_l53 hX, sx_l54 hX, sx_l56 hX, sx_l57 hX, sx_l58 hX, sx_l60 hX, sx_l61 hX, sx_l62 hX, sx_l63 hX, sx_l64 hX, sx_l65 hX, sx_l66 hX, sx_l88 hX, sx_l89 hX, sx_l90 hX, sx_l0 hX, sx_l1 hX, sx_l2 hX, sx_l5 hX, sx_l6 hX, sx_l7 hX, sx_l8 hX, sx_l9 hX, sx_l10 hX, sx_l11 hX, sx_l12 hX, sx_l13 hX, sx_l14 hX, sx_l15 hX]; omega))) only [lp_X5_readBoth_8_b, ↓eM, eL_0, eL_1, eL_2, eL_3, eL_4, eL_5, eL_6, eL_7, eL_8, eL_9, eL_10, eL_11, eL_12, eL_15, eL_16, eL_20, eL_24, eL_30, eL_31, eL_32, eL_39, eL_40, eL_41, eL_42, eL_43, eL_45, eL_47, eL_48, eL_49, eL_50, eL_57, eL_59, eL_60, eL_61, eL_90, eL_96, eL_97, eL_100, eL_122, eL_160, eL_161, eL_255, eL_300, eL_343, eL_999, eL_1000, eL_1920, eL_9999, eL_10000, eL_999999, eL_100000, eL_1000000, ↓reduceIte, ↓bl_e, bd_e, u1_f, u1_s, u2_f, u2_s, w_cl, w_ltT, w_ltF, w_leT, w_leF, w_eqT, w_eqF, w_mlt, w_ltm, w_mle, w_lem, w_eqm, w_meq, w_mltm, nI_add, w_sub, w_addm, up_s, up_n, ud_s, ud_n, ck_n, bz_0, bz_1]
  · rcases e6 with ⟨rfl, b1, b2, c', b3, b4⟩ | ⟨rfl, b1, b2⟩
    · refine Or.inl ⟨rfl, by omega, b2, c', fun σ cs o hC hs => ?_, b4⟩
      rw [b3 σ cs o hC (hs.mono (by omega)), (hs.mono (show 2 ≤ 3 by omega)).stl, (hs.mono (show 2 ≤ 3 by omega)).pps, List.append_nil]
    · exact Or.inr ⟨rfl, b1, fun σ cs o hC hs => b2 σ cs o hC (hs.mono (by omega))⟩
set_option maxHeartbeats 1600000 in
theorem rd_either (hN : 600 ≤ N) (hX : SX S) (hg : RdN N T st Z d g) : RdE N T st Z d (f_X5_readEither N g S) := by
  intro i W x h
  obtain ⟨r, x1, i1, P1, e1, e2, e3, e4, e5, e6⟩ := rd_both (N := N) hN hX hg h
  have e : f_X5_readEither N g S 49 (nI d) x = lp_X5_readEither_8 N g S 49 (nI d) r (nI 0) x1 := by simp (disch := omega) only [f_X5_readEither, e1, ↓eM, eL_0, eL_1, eL_2, eL_3, eL_4, eL_5, eL_6, eL_7, eL_8, eL_9, eL_10, eL_11, eL_12, eL_15, eL_16, eL_20, eL_24, eL_30, eL_31, eL_32, eL_39, eL_40, eL_41, eL_42, eL_43, eL_45, eL_47, eL_48, eL_49, eL_50, eL_57, eL_59, eL_60, eL_61, eL_90, eL_96, eL_97, eL_100, eL_122, eL_160, eL_161, eL_255, eL_300, eL_343, eL_999, eL_1000, eL_1920, eL_9999, eL_10000, eL_999999, eL_100000, eL_1000000, ↓reduceIte, ↓bl_e, bd_e, u1_f, u1_s, u2_f, u2_s, w_cl, w_ltT, w_ltF, w_leT, w_leF, w_eqT, w_eqF, w_mlt, w_ltm, w_mle, w_lem, w_eqm, w_meq, w_mltm, nI_add, w_sub, w_addm, up_s, up_n, ud_s, ud_n, ck_n, bz_0, bz_1]
  have hT := h.2.1
  rw [e]
  unfold lp_X5_readEither_8
  refine z_itr1 (fun j (a : Int32 × Int32 × DY) => ∃ r x1 i1 P1, a = (r, nI j, x1) ∧ zFq x x1 ∧ zQs T st Z x1 i1 (W ++ P1) ∧ i ≤ i1 ∧ P1.length + i ≤ i1 ∧ ((r = nI 1 ∧ i + j < i1 ∧ zGd P1 ∧ PBi 0 T d i i1 P1) ∨ (r = nI 0 ∧ x1.1 49 10 = nI (fsT T st Z i1) ∧ FBv 1 T d i i1))) (fun o => zRs T st Z x i W o (PBv 0 T d i) (FBv 1 T d i)) 160 ?_ ?_ 160 0 _ N (by omega) (by omega) ⟨r, x1, i1, P1, rfl, e2, e3, e4, e5, ?_⟩
  · rintro j _ hj ⟨r, x1, i1, P1, rfl, g1, g2, g3, g4, g5⟩
    rcases g5 with ⟨rfl, a1, a2, c1, a3, a4⟩ | ⟨rfl, a1, a2⟩
    · have ht := q_token (N := N) hX g2
      have q3 := tk_key (q_ok g2) (q := 2) (by omega)
      have q3' : (tkC T[i1]? = -nI 7) = (T[i1]? = some (3, 2)) := q3
      have h6 := g2.2.2.2.2.1
      by_cases h3 : T[i1]? = some (3, 2)
      · rw [eq_true h3] at q3'
        obtain ⟨k1, k2⟩ := q_adv g2 (q_lt h3)
        obtain ⟨r2, x2, i2, P2, f1, f2, f3, f4, f5, f6⟩ := rd_both (N := N) hN hX hg k1
        have hlen : (W ++ P1 ++ P2).length = (W ++ P1).length + P2.length := List.length_append
        have hW1 := g2.2.2.1
        obtain ⟨x3, w1, w2, w3, w4⟩ := q_write (N := N) hX f3 (by omega) 20002 (v := -nI 9) (by decide)
        have hm : ∀ σ cs o, opn σ = d → cl 1 σ → zMac (T.drop i) true true σ (false :: cs) o = zMac (T.drop (i1 + 1)) true true (20002 :: σ) (false :: cs) (o ++ P1) := fun σ cs o hC hs => by
          rw [a3 σ cs o hC hs, mac_op h3 (q := 20002) rfl (by decide) (by decide) (by decide) (fun e => absurd e (by decide)) hs]
          rfl
        refine Or.inl ⟨(r2, nI (j + 1), x3), ⟨r2, x3, i2, P1 ++ P2 ++ [20002], rfl, g1.trans (k2.trans (f2.trans w2)), by rw [← List.append_assoc, ← List.append_assoc]; exact w3, by omega, by rw [List.length_append, List.length_append]; show P1.length + P2.length + 1 + i ≤ i2; omega, ?_⟩, fun back => ?_⟩
        · rcases f6 with ⟨rfl, b1, b2, c2, b3, b4⟩ | ⟨rfl, b1, b2⟩
          · refine Or.inl ⟨rfl, by omega, a2.bi b2 (by omega) (by omega), c2, fun σ cs o hC hs => ?_, b4⟩
            rw [hm σ cs o hC hs, b3 (20002 :: σ) cs (o ++ P1) (by rw [opn_n (by rfl)]; exact hC) (cl_c (by decide)), zMac_S (l := 1) (by omega) b4]
            rw [show stl 1 (20002 :: σ) = stl 1 σ from rfl, hs.stl, show pps 1 (20002 :: σ) = 20002 :: pps 1 σ from rfl, hs.pps]
            simp only [List.append_assoc]
          · refine Or.inr ⟨rfl, by rw [w4]; exact b1, fun σ cs o hC hs => ?_⟩
            rw [hm σ cs o hC hs]
            exact b2 (20002 :: σ) cs (o ++ P1) (by rw [opn_n (by rfl)]; exact hC) (cl_c (by decide))
        · simp (disch := (first | omega | (simp only [sx_l42 hX, sx_l43 hX, sx_l44 hX, sx_l46 hX, sx_l50 hX, sx_l51 hX, sx_l52 hX, sx_l53 hX, sx_l54 hX, sx_l56 hX, sx_l57 hX, sx_l58 hX, sx_l60 hX, sx_l61 hX, sx_l62 hX, sx_l63 hX, sx_l64 hX, sx_l65 hX, sx_l66 hX, sx_l88 hX, sx_l89 hX, sx_l90 hX, sx_l0 hX, sx_l1 hX, sx_l2 hX, sx_l5 hX, sx_l6 hX, sx_l7 hX, sx_l8 hX, sx_l9 hX, sx_l10 hX, sx_l11 hX, sx_l12 hX, sx_l13 hX, sx_l14 hX, sx_l15 hX]; omega))) only [lp_X5_readEither_8_b, ht, q3', h6, f1, w1, ↓eM, eL_0, eL_1, eL_2, eL_3, eL_4, eL_5, eL_6, eL_7, eL_8, eL_9, eL_10, eL_11, eL_12, eL_15, eL_16, eL_20, eL_24, eL_30, eL_31, eL_32, eL_39, eL_40, eL_41, eL_42, eL_43, eL_45, eL_47, eL_48, eL_49, eL_50, eL_57, eL_59, eL_60, eL_61, eL_90, eL_96, eL_97, eL_100, eL_122, eL_160, eL_161, eL_255, eL_300, eL_343, eL_999, eL_1000, eL_1920, eL_9999, eL_10000, eL_999999, eL_100000, eL_1000000, ↓reduceIte, ↓bl_e, bd_e, u1_f, u1_s, u2_f, u2_s, w_cl, w_ltT, w_ltF, w_leT, w_leF, w_eqT, w_eqF, w_mlt, w_ltm, w_mle, w_lem, w_eqm, w_meq, w_mltm, nI_add, w_sub, w_addm, up_s, up_n, ud_s, ud_n, ck_n, bz_0, bz_1]
      · rw [eq_false h3] at q3'
        refine Or.inr ⟨some (nI 1, x1), ⟨nI 1, x1, i1, P1, rfl, g1, g2, g3, g4, Or.inl ⟨rfl, by omega, a2, c1, a3, a4.dn (fun e6 => ?_)⟩⟩, fun back => ?_⟩
        · obtain ⟨t, t1, t2⟩ := hdR_t (by decide) e6
          exact absurd (by rw [t1, (rk_inv t).2.2.2.2 t2]) h3
        · simp (disch := (first | omega | (simp only [sx_l42 hX, sx_l43 hX, sx_l44 hX, sx_l46 hX, sx_l50 hX, sx_l51 hX, sx_l52 hX, sx_l53 hX, sx_l54 hX, sx_l56 hX, sx_l57 hX, sx_l58 hX, sx_l60 hX, sx_l61 hX, sx_l62 hX, sx_l63 hX, sx_l64 hX, sx_l65 hX, sx_l66 hX, sx_l88 hX, sx_l89 hX, sx_l90 hX, sx_l0 hX, sx_l1 hX, sx_l2 hX, sx_l5 hX, sx_l6 hX, sx_l7 hX, sx_l8 hX, sx_l9 hX, sx_l10 hX, sx_l11 hX, sx_l12 hX, sx_l13 hX, sx_l14 hX, sx_l15 hX]; omega))) only [lp_X5_readEither_8_b, ht, q3', ↓eM, eL_0, eL_1, eL_2, eL_3, eL_4, eL_5, eL_6, eL_7, eL_8, eL_9, eL_10, eL_11, eL_12, eL_15, eL_16, eL_20, eL_24, eL_30, eL_31, eL_32, eL_39, eL_40, eL_41, eL_42, eL_43, eL_45, eL_47, eL_48, eL_49, eL_50, eL_57, eL_59, eL_60, eL_61, eL_90, eL_96, eL_97, eL_100, eL_122, eL_160, eL_161, eL_255, eL_300, eL_343, eL_999, eL_1000, eL_1920, eL_9999, eL_10000, eL_999999, eL_100000, eL_1000000, ↓reduceIte, ↓bl_e, bd_e, u1_f, u1_s, u2_f, u2_s, w_cl, w_ltT, w_ltF, w_leT, w_leF, w_eqT, w_eqF, w_mlt, w_ltm, w_mle, w_lem, w_eqm, w_meq, w_mltm, nI_add, w_sub, w_addm, up_s, up_n, ud_s, ud_n, ck_n, bz_0, bz_1]
    · refine Or.inr ⟨some (nI 0, x1), ⟨nI 0, x1, i1, P1, rfl, g1, g2, g3, g4, Or.inr ⟨rfl, a1, a2⟩⟩, fun back => ?_⟩
      simp (disch := (first | omega | (simp only [sx_l42 hX, sx_l43 hX, sx_l44 hX, sx_l46 hX, sx_l50 hX, sx_l51 hX, sx_l52 hX, sx_l53 hX, sx_l54 hX, sx_l56 hX, sx_l57 hX, sx_l58 hX, sx_l60 hX, sx_l61 hX, sx_l62 hX, sx_l63 hX, sx_l64 hX, sx_l65 hX, sx_l66 hX, sx_l88 hX, sx_l89 hX, sx_l90 hX, sx_l0 hX, sx_l1 hX, sx_l2 hX, sx_l5 hX, sx_l6 hX, sx_l7 hX, sx_l8 hX, sx_l9 hX, sx_l10 hX, sx_l11 hX, sx_l12 hX, sx_l13 hX, sx_l14 hX, sx_l15 hX]; omega))) only [lp_X5_readEither_8_b, ↓eM, eL_0, eL_1, eL_2, eL_3, eL_4, eL_5, eL_6, eL_7, eL_8, eL_9, eL_10, eL_11, eL_12, eL_15, eL_16, eL_20, eL_24, eL_30, eL_31, eL_32, eL_39, eL_40, eL_41, eL_42, eL_43, eL_45, eL_47, eL_48, eL_49, eL_50, eL_57, eL_59, eL_60, eL_61, eL_90, eL_96, eL_97, eL_100, eL_122, eL_160, eL_161, eL_255, eL_300, eL_343, eL_999, eL_1000, eL_1920, eL_9999, eL_10000, eL_999999, eL_100000, eL_1000000, ↓reduceIte, ↓bl_e, bd_e, u1_f, u1_s, u2_f, u2_s, w_cl, w_ltT, w_ltF, w_leT, w_leF, w_eqT, w_eqF, w_mlt, w_ltm, w_mle, w_lem, w_eqm, w_meq, w_mltm, nI_add, w_sub, w_addm, up_s, up_n, ud_s, ud_n, ck_n, bz_0, bz_1]
  · rintro _ ⟨r, x1, i1, P1, rfl, g1, g2, g3, g4, g5⟩
    rcases g5 with ⟨rfl, a1, a2, a3⟩ | ⟨rfl, a1, a2⟩
    · have := g2.1
      omega
    · refine ⟨some (nI 0, x1), ⟨nI 0, x1, i1, P1, rfl, g1, g2, g3, g4, Or.inr ⟨rfl, a1, a2⟩⟩, fun back => ?_⟩
      simp (disch := (first | omega | (simp only [sx_l42 hX, sx_l43 hX, sx_l44 hX, sx_l46 hX, sx_l50 hX, sx_l51 hX, sx_l52 hX, sx_l53 hX, sx_l54 hX, sx_l56 hX, sx_l57 hX, sx_l58 hX, sx_l60 hX, sx_l61 hX, sx_l62 hX, sx_l63 hX, sx_l64 hX, sx_l65 hX, sx_l66 hX, sx_l88 hX, sx_l89 hX, sx_l90 hX, sx_l0 hX, sx_l1 hX, sx_l2 hX, sx_l5 hX, sx_l6 hX, sx_l7 hX, sx_l8 hX, sx_l9 hX, sx_l10 hX, sx_l11 hX, sx_l12 hX, sx_l13 hX, sx_l14 hX, sx_l15 hX]; omega))) only [lp_X5_readEither_8_b, ↓eM, eL_0, eL_1, eL_2, eL_3, eL_4, eL_5, eL_6, eL_7, eL_8, eL_9, eL_10, eL_11, eL_12, eL_15, eL_16, eL_20, eL_24, eL_30, eL_31, eL_32, eL_39, eL_40, eL_41, eL_42, eL_43, eL_45, eL_47, eL_48, eL_49, eL_50, eL_57, eL_59, eL_60, eL_61, eL_90, eL_96, eL_97, eL_100, eL_122, eL_160, eL_161, eL_255, eL_300, eL_343, eL_999, eL_1000, eL_1920, eL_9999, eL_10000, eL_999999, eL_100000, eL_1000000, ↓reduceIte, ↓bl_e, bd_e, u1_f, u1_s, u2_f, u2_s, w_cl, w_ltT, w_ltF, w_leT, w_leF, w_eqT, w_eqF, w_mlt, w_ltm, w_mle, w_lem, w_eqm, w_meq, w_mltm, nI_add, w_sub, w_addm, up_s, up_n, ud_s, ud_n, ck_n, bz_0, bz_1]
  · rcases e6 with ⟨rfl, b1, b2, c', b3, b4⟩ | ⟨rfl, b1, b2⟩
    · exact Or.inl ⟨rfl, by omega, b2, c', fun σ cs o hC hs => b3 σ cs o hC (hs.mono (by omega)), b4⟩
    · exact Or.inr ⟨rfl, b1, fun σ cs o hC hs => b2 σ cs o hC (hs.mono (by omega))⟩
/-- the descent at every depth, while the fuel lasts -/
theorem rd_all (hN : 600 ≤ N) (hX : SX S) : ∀ n d, d ≤ 5 → (3 * (5 - d) + 3 ≤ n → RdE N T st Z d (fK_X5_reader N S n).1) ∧ (3 * (5 - d) + 2 ≤ n → RdN N T st Z d (fK_X5_reader N S n).2.1) ∧ (3 * (5 - d) + 1 ≤ n → RdO N T st Z d (fK_X5_reader N S n).2.2)
  | 0, d, _ => ⟨fun h => absurd h (by omega), fun h => absurd h (by omega), fun h => absurd h (by omega)⟩
  | n + 1, d, hd => by
    refine ⟨fun h => rd_either hN hX ((rd_all hN hX n d hd).2.1 (by omega)), fun h => rd_not hN hX hd (fun hd5 => (rd_all hN hX n (d + 1) (by omega)).2.1 (by omega)) ((rd_all hN hX n d hd).2.2 (by omega)), fun h => rd_one hX hd (fun hd5 => (rd_all hN hX n (d + 1) (by omega)).1 (by omega)) (fun hd5 => (rd_all hN hX n (d + 1) (by omega)).2.2 (by omega))⟩
theorem rd_top (hN : 600 ≤ N) (hX : SX S) : RdE N T st Z 0 (fR_X5_readEither N S 20) := (rd_all hN hX 20 0 (by omega)).1 (by omega)
end BOTH
