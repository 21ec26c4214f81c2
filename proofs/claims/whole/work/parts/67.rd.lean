/-! LAYER 3: texts: each function of the descent -/
section RD
variable {N : Nat} {S : SH} {T : List ZT} {st : Nat → Nat} {Z i d : Nat} {W : List Nat} {x : DY}
theorem q_ok (h : zQs T st Z x i W) : ∀ t, T[i]? = some t → zTkOk t := fun t e => (h.2.2.2.2.2.2.2.1 i t e).1
theorem ok_num {v : Nat} (h : zTkOk (1, v)) : v < 10000 := by
  unfold zTkOk at h
  dsimp only at h
  omega
theorem ok_nam {v : Nat} (h : zTkOk (2, v)) : v < 6 := by
  unfold zTkOk at h
  dsimp only at h
  omega
theorem opn_s {c : Nat} {σ : List Nat} (h : isO c = true) : opn (c :: σ) = opn σ + 1 := List.countP_cons_of_pos h
theorem opn_n {c : Nat} {σ : List Nat} (h : isO c = false) : opn (c :: σ) = opn σ := List.countP_cons_of_neg (by rw [h]; decide)
theorem q_lt {t : ZT} (h : T[i]? = some t) : i < T.length := by
  rcases Nat.lt_or_ge i T.length with e | e
  · exact e
  · rw [List.getElem?_eq_none e] at h; cases h
theorem q_wadv (hX : SX S) (h : zQs T st Z x i W) (hi : i < T.length) (c : Nat) {v : Int32} (hv : v = encX c) : ∃ x', Option.bind (f_X5_write N S 49 v x) (fun r20 => bl (U1 r20 49 6 ((r20.1 49 6) + nI 1)) (fun x21 => some ((nI 1 : Int32), x21))) = some (nI 1, x') ∧ zFq x x' ∧ zQs T st Z x' (i + 1) (W ++ [c]) := by
  obtain ⟨h1, h2, h3, h4, h5, h6, h7, h8, h9⟩ := h
  have hl : (W ++ [c]).length = W.length + 1 := by rw [List.length_append]; rfl
  refine ⟨U1 (U1 (U1 x 54 W.length v) 49 8 (nI (W.length + 1))) 49 6 (nI (i + 1)), ?_, ⟨fun b a c => by simp (disch := omega) only [u1_f, u1_s, u2_f, u2_s, up_s, up_n, ud_s, ud_n], rfl, fun k a c d => by simp (disch := omega) only [u1_f, u1_s, u2_f, u2_s, up_s, up_n, ud_s, ud_n]⟩, ⟨by omega, h2, by omega, ?_, ?_, ?_, ?_, fun j t e => ?_, fun j hj => ?_⟩⟩
  · simp (disch := (first | omega | (simp only [sx_l42 hX, sx_l43 hX, sx_l44 hX, sx_l46 hX, sx_l50 hX, sx_l51 hX, sx_l52 hX, sx_l53 hX, sx_l54 hX, sx_l56 hX, sx_l57 hX, sx_l58 hX, sx_l60 hX, sx_l61 hX, sx_l62 hX, sx_l63 hX, sx_l64 hX, sx_l65 hX, sx_l66 hX, sx_l88 hX, sx_l89 hX, sx_l90 hX, sx_l0 hX, sx_l1 hX, sx_l2 hX, sx_l5 hX, sx_l6 hX, sx_l7 hX, sx_l8 hX, sx_l9 hX, sx_l10 hX, sx_l11 hX, sx_l12 hX, sx_l13 hX, sx_l14 hX, sx_l15 hX]; omega))) only [f_X5_write, sx_m0 hX, sx_m1 hX, sx_m2 hX, sx_c0 hX, sx_c1 hX, sx_c2 hX, sx_c3 hX, sx_c4 hX, sx_c5 hX, sx_c6 hX, sx_u0 hX, sx_t0 hX, sx_t2 hX, sx_t3 hX, sx_t4 hX, sx_t7 hX, sx_f0 hX, sx_f1 hX, sx_f2 hX, sx_h0 hX, sx_h1 hX, sx_h2 hX, sx_g0 hX, sx_g1 hX, sx_g2 hX, sx_l54 hX, h5, h6, ↓eM, eL_0, eL_1, eL_2, eL_3, eL_4, eL_5, eL_6, eL_7, eL_8, eL_9, eL_10, eL_11, eL_12, eL_15, eL_16, eL_20, eL_24, eL_30, eL_31, eL_32, eL_39, eL_40, eL_41, eL_42, eL_43, eL_45, eL_47, eL_48, eL_49, eL_50, eL_57, eL_59, eL_60, eL_61, eL_90, eL_96, eL_97, eL_100, eL_122, eL_160, eL_161, eL_255, eL_300, eL_343, eL_999, eL_1000, eL_1920, eL_9999, eL_10000, eL_999999, eL_100000, eL_1000000, ↓reduceIte, ↓bl_e, bd_e, u1_f, u1_s, u2_f, u2_s, w_cl, w_ltT, w_ltF, w_leT, w_leF, w_eqT, w_eqF, w_mlt, w_ltm, w_mle, w_lem, w_eqm, w_meq, w_mltm, nI_add, w_sub, w_addm, up_s, up_n, ud_s, ud_n, ck_n, bz_0, bz_1]
  · simp (disch := omega) only [u1_f, u1_s, u2_f, u2_s, up_s, up_n, ud_s, ud_n]; exact h4
  · simp (disch := omega) only [u1_f, u1_s, u2_f, u2_s, up_s, up_n, ud_s, ud_n]
  · simp (disch := omega) only [u1_f, u1_s, u2_f, u2_s, up_s, up_n, ud_s, ud_n]; rw [hl]
  · simp (disch := omega) only [u1_f, u1_s, u2_f, u2_s, up_s, up_n, ud_s, ud_n]; exact h7
  · simp (disch := omega) only [u1_f, u1_s, u2_f, u2_s, up_s, up_n, ud_s, ud_n]; exact h8 j t e
  · simp (disch := omega) only [u1_f, u1_s, u2_f, u2_s, up_s, up_n, ud_s, ud_n]
    rw [List.getD_eq_getElem?_getD]
    by_cases e : j = W.length
    · subst e; rw [ud_s, List.getElem?_append_right (Nat.le_refl _), Nat.sub_self, hv]; rfl
    · rw [ud_n e, List.getElem?_append_left (by omega), ← List.getD_eq_getElem?_getD]; exact h9 j (by omega)
theorem zRs.fail (hX : SX S) (h : zQs T st Z x i W) {o : Option (Int32 × DY)} {Suc : Nat → List Nat → Prop} {Fl : Nat → Prop} (ho : ∀ x', f_X5_fail N S 49 x = some (nI 0, x') → o = some (nI 0, x')) (hf : Fl i) : zRs T st Z x i W o Suc Fl := by
  obtain ⟨x', e1, e2, e3, e4⟩ := q_fail (N := N) hX h
  exact ⟨nI 0, x', i, [], ho x' e1, e2, by rw [List.append_nil]; exact e3, Nat.le_refl _, by show 0 + i ≤ i; omega, Or.inr ⟨rfl, e4, hf⟩⟩
set_option maxHeartbeats 1600000 in
theorem rd_one (hX : SX S) (hd : d ≤ 5) {rcE rcO : Nat → Int32 → DY → Option (Int32 × DY)} (hE : d < 5 → RdE N T st Z (d + 1) rcE) (hO : d < 5 → RdO N T st Z (d + 1) rcO) : RdO N T st Z d (f_X5_readOne N rcE rcO S) := by
  intro i W x h
  have ht := q_token (N := N) hX h
  have hk := q_ok h
  have h6 := h.2.2.2.2.1
  have hT := h.2.1
  by_cases hn : ∃ v, T[i]? = some (1, v)
  · obtain ⟨v, e⟩ := hn
    obtain ⟨k0, k1, k2, k3⟩ := h.2.2.2.2.2.2.2.1 i _ e
    have hi := q_lt e
    obtain ⟨x', e1, e2, e3⟩ := q_wadv (N := N) hX h hi v (v := nI v) (en_num (ok_num k0)).1.symm
    refine ⟨nI 1, x', i + 1, [v], ?_, e2, e3, by omega, by show 1 + i ≤ i + 1; omega, Or.inl ⟨rfl, by omega, zGd.one (by have := ok_num k0; omega), fun b σ c cs o hC => mac_val e rfl⟩⟩
    rw [← e1]
    have k3' : x.1 53 i = nI v := k3
    simp (disch := (first | omega | (simp only [sx_l42 hX, sx_l43 hX, sx_l44 hX, sx_l46 hX, sx_l50 hX, sx_l51 hX, sx_l52 hX, sx_l53 hX, sx_l54 hX, sx_l56 hX, sx_l57 hX, sx_l58 hX, sx_l60 hX, sx_l61 hX, sx_l62 hX, sx_l63 hX, sx_l64 hX, sx_l65 hX, sx_l66 hX, sx_l88 hX, sx_l89 hX, sx_l90 hX, sx_l0 hX, sx_l1 hX, sx_l2 hX, sx_l5 hX, sx_l6 hX, sx_l7 hX, sx_l8 hX, sx_l9 hX, sx_l10 hX, sx_l11 hX, sx_l12 hX, sx_l13 hX, sx_l14 hX, sx_l15 hX]; omega))) only [f_X5_readOne, j_X5_readOne_17, ht, tk_num hk, eq_true (show ∃ v, T[i]? = some (1, v) from ⟨v, e⟩), sx_m0 hX, sx_m1 hX, sx_m2 hX, sx_c0 hX, sx_c1 hX, sx_c2 hX, sx_c3 hX, sx_c4 hX, sx_c5 hX, sx_c6 hX, sx_u0 hX, sx_t0 hX, sx_t2 hX, sx_t3 hX, sx_t4 hX, sx_t7 hX, sx_f0 hX, sx_f1 hX, sx_f2 hX, sx_h0 hX, sx_h1 hX, sx_h2 hX, sx_g0 hX, sx_g1 hX, sx_g2 hX, sx_l53 hX, h6, k3', ↓eM, eL_0, eL_1, eL_2, eL_3, eL_4, eL_5, eL_6, eL_7, eL_8, eL_9, eL_10, eL_11, eL_12, eL_15, eL_16, eL_20, eL_24, eL_30, eL_31, eL_32, eL_39, eL_40, eL_41, eL_42, eL_43, eL_45, eL_47, eL_48, eL_49, eL_50, eL_57, eL_59, eL_60, eL_61, eL_90, eL_96, eL_97, eL_100, eL_122, eL_160, eL_161, eL_255, eL_300, eL_343, eL_999, eL_1000, eL_1920, eL_9999, eL_10000, eL_999999, eL_100000, eL_1000000, ↓reduceIte, ↓bl_e, bd_e, u1_f, u1_s, u2_f, u2_s, w_cl, w_ltT, w_ltF, w_leT, w_leF, w_eqT, w_eqF, w_mlt, w_ltm, w_mle, w_lem, w_eqm, w_meq, w_mltm, nI_add, w_sub, w_addm, up_s, up_n, ud_s, ud_n, ck_n, bz_0, bz_1]
  by_cases hm : ∃ v, T[i]? = some (2, v)
  · obtain ⟨v, e⟩ := hm
    obtain ⟨k0, k1, k2, k3⟩ := h.2.2.2.2.2.2.2.1 i _ e
    have hi := q_lt e
    have k0' : v < 6 := ok_nam k0
    obtain ⟨x', e1, e2, e3⟩ := q_wadv (N := N) hX h hi (10000 + v) (v := mO - nI v) (by rw [(en_nam (by omega) (by omega)).1, Nat.add_sub_cancel_left])
    refine ⟨nI 1, x', i + 1, [10000 + v], ?_, e2, e3, by omega, by show 1 + i ≤ i + 1; omega, Or.inl ⟨rfl, by omega, zGd.one (by omega), fun b σ c cs o hC => mac_val e rfl⟩⟩
    rw [← e1]
    have k3' : x.1 53 i = mO - nI v := k3
    simp (disch := (first | omega | (simp only [sx_l42 hX, sx_l43 hX, sx_l44 hX, sx_l46 hX, sx_l50 hX, sx_l51 hX, sx_l52 hX, sx_l53 hX, sx_l54 hX, sx_l56 hX, sx_l57 hX, sx_l58 hX, sx_l60 hX, sx_l61 hX, sx_l62 hX, sx_l63 hX, sx_l64 hX, sx_l65 hX, sx_l66 hX, sx_l88 hX, sx_l89 hX, sx_l90 hX, sx_l0 hX, sx_l1 hX, sx_l2 hX, sx_l5 hX, sx_l6 hX, sx_l7 hX, sx_l8 hX, sx_l9 hX, sx_l10 hX, sx_l11 hX, sx_l12 hX, sx_l13 hX, sx_l14 hX, sx_l15 hX]; omega))) only [f_X5_readOne, j_X5_readOne_17, ht, tk_num hk, eq_false hn, tk_nam hk, eq_true (show ∃ v, T[i]? = some (2, v) from ⟨v, e⟩), sx_m0 hX, sx_m1 hX, sx_m2 hX, sx_c0 hX, sx_c1 hX, sx_c2 hX, sx_c3 hX, sx_c4 hX, sx_c5 hX, sx_c6 hX, sx_u0 hX, sx_t0 hX, sx_t2 hX, sx_t3 hX, sx_t4 hX, sx_t7 hX, sx_f0 hX, sx_f1 hX, sx_f2 hX, sx_h0 hX, sx_h1 hX, sx_h2 hX, sx_g0 hX, sx_g1 hX, sx_g2 hX, sx_l53 hX, h6, k3', ↓eM, eL_0, eL_1, eL_2, eL_3, eL_4, eL_5, eL_6, eL_7, eL_8, eL_9, eL_10, eL_11, eL_12, eL_15, eL_16, eL_20, eL_24, eL_30, eL_31, eL_32, eL_39, eL_40, eL_41, eL_42, eL_43, eL_45, eL_47, eL_48, eL_49, eL_50, eL_57, eL_59, eL_60, eL_61, eL_90, eL_96, eL_97, eL_100, eL_122, eL_160, eL_161, eL_255, eL_300, eL_343, eL_999, eL_1000, eL_1920, eL_9999, eL_10000, eL_999999, eL_100000, eL_1000000, ↓reduceIte, ↓bl_e, bd_e, u1_f, u1_s, u2_f, u2_s, w_cl, w_ltT, w_ltF, w_leT, w_leF, w_eqT, w_eqF, w_mlt, w_ltm, w_mle, w_lem, w_eqm, w_meq, w_mltm, nI_add, w_sub, w_addm, up_s, up_n, ud_s, ud_n, ck_n, bz_0, bz_1]
  have hv : ∀ t, T[i]? = some t → zVal t = none := fun t e => by
    unfold zVal
    rw [if_neg (fun e1 => hn ⟨t.2, by rw [e, ← e1]⟩), if_neg (fun e1 => hm ⟨t.2, by rw [e, ← e1]⟩)]
  have e0 : f_X5_readOne N rcE rcO S 49 (nI d) x = j_X5_readOne_54 N rcE rcO S 49 (nI d) (tkC T[i]?) x := by
    simp (disch := (first | omega | (simp only [sx_l42 hX, sx_l43 hX, sx_l44 hX, sx_l46 hX, sx_l50 hX, sx_l51 hX, sx_l52 hX, sx_l53 hX, sx_l54 hX, sx_l56 hX, sx_l57 hX, sx_l58 hX, sx_l60 hX, sx_l61 hX, sx_l62 hX, sx_l63 hX, sx_l64 hX, sx_l65 hX, sx_l66 hX, sx_l88 hX, sx_l89 hX, sx_l90 hX, sx_l0 hX, sx_l1 hX, sx_l2 hX, sx_l5 hX, sx_l6 hX, sx_l7 hX, sx_l8 hX, sx_l9 hX, sx_l10 hX, sx_l11 hX, sx_l12 hX, sx_l13 hX, sx_l14 hX, sx_l15 hX]; omega))) only [f_X5_readOne, ht, tk_num hk, eq_false hn, tk_nam hk, eq_false hm, ↓eM, eL_0, eL_1, eL_2, eL_3, eL_4, eL_5, eL_6, eL_7, eL_8, eL_9, eL_10, eL_11, eL_12, eL_15, eL_16, eL_20, eL_24, eL_30, eL_31, eL_32, eL_39, eL_40, eL_41, eL_42, eL_43, eL_45, eL_47, eL_48, eL_49, eL_50, eL_57, eL_59, eL_60, eL_61, eL_90, eL_96, eL_97, eL_100, eL_122, eL_160, eL_161, eL_255, eL_300, eL_343, eL_999, eL_1000, eL_1920, eL_9999, eL_10000, eL_999999, eL_100000, eL_1000000, ↓reduceIte, ↓bl_e, bd_e, u1_f, u1_s, u2_f, u2_s, w_cl, w_ltT, w_ltF, w_leT, w_leF, w_eqT, w_eqF, w_mlt, w_ltm, w_mle, w_lem, w_eqm, w_meq, w_mltm, nI_add, w_sub, w_addm, up_s, up_n, ud_s, ud_n, ck_n, bz_0, bz_1]
  show zRs T st Z x i W (f_X5_readOne N rcE rcO S 49 (nI d) x) _ _
  rw [e0]
  have q45 := tk_sgn hk (q := 45) (by omega)
  have q40 := tk_sgn hk (q := 40) (by omega)
  by_cases h45 : T[i]? = some (4, 45)
  · have hi := q_lt h45
    rw [eq_true h45] at q45
    rw [eq_false (show ¬ T[i]? = some (4, 40) from fun e => by rw [h45] at e; exact absurd e (by decide))] at q40
    by_cases hd5 : d < 5
    · obtain ⟨g1, g2⟩ := q_adv h hi
      obtain ⟨r, x1, i1, P, e1, e2, e3, e4, e5, e6⟩ := hO hd5 (i + 1) W _ g1
      have hlen : (W ++ P).length = W.length + P.length := List.length_append
      obtain ⟨x2, w1, w2, w3, w4⟩ := q_write (N := N) hX e3 (by have := h.2.2.1; omega) 20001 (v := -nI 8) (by decide)
      have hb : bz r (some (r, x2)) = some (r, x2) := by rcases e6 with ⟨rfl, -⟩ | ⟨rfl, -⟩ <;> rfl
      refine ⟨r, x2, i1, P ++ [20001], ?_, g2.trans (e2.trans w2), by rw [← List.append_assoc]; exact w3, by omega, by rw [List.length_append]; show P.length + 1 + i ≤ i1; omega, ?_⟩
      · rw [← hb]
        simp (disch := (first | omega | (simp only [sx_l42 hX, sx_l43 hX, sx_l44 hX, sx_l46 hX, sx_l50 hX, sx_l51 hX, sx_l52 hX, sx_l53 hX, sx_l54 hX, sx_l56 hX, sx_l57 hX, sx_l58 hX, sx_l60 hX, sx_l61 hX, sx_l62 hX, sx_l63 hX, sx_l64 hX, sx_l65 hX, sx_l66 hX, sx_l88 hX, sx_l89 hX, sx_l90 hX, sx_l0 hX, sx_l1 hX, sx_l2 hX, sx_l5 hX, sx_l6 hX, sx_l7 hX, sx_l8 hX, sx_l9 hX, sx_l10 hX, sx_l11 hX, sx_l12 hX, sx_l13 hX, sx_l14 hX, sx_l15 hX]; omega))) only [j_X5_readOne_54, j_X5_readOne_66, q45, q40, h6, e1, w1, ↓eM, eL_0, eL_1, eL_2, eL_3, eL_4, eL_5, eL_6, eL_7, eL_8, eL_9, eL_10, eL_11, eL_12, eL_15, eL_16, eL_20, eL_24, eL_30, eL_31, eL_32, eL_39, eL_40, eL_41, eL_42, eL_43, eL_45, eL_47, eL_48, eL_49, eL_50, eL_57, eL_59, eL_60, eL_61, eL_90, eL_96, eL_97, eL_100, eL_122, eL_160, eL_161, eL_255, eL_300, eL_343, eL_999, eL_1000, eL_1920, eL_9999, eL_10000, eL_999999, eL_100000, eL_1000000, ↓reduceIte, ↓bl_e, bd_e, u1_f, u1_s, u2_f, u2_s, w_cl, w_ltT, w_ltF, w_leT, w_leF, w_eqT, w_eqF, w_mlt, w_ltm, w_mle, w_lem, w_eqm, w_meq, w_mltm, nI_add, w_sub, w_addm, up_s, up_n, ud_s, ud_n, ck_n, bz_0, bz_1]
      · rcases e6 with ⟨rfl, g3, g4, g5⟩ | ⟨rfl, g3, g4⟩
        · refine Or.inl ⟨rfl, by omega, g4.un (Or.inr rfl), fun b σ c cs o hC => ?_⟩
          rw [drop_t h45, zMac, hv _ h45]
          dsimp only
          rw [if_neg (by rw [hC.1]; omega), if_neg (by decide), if_pos rfl, g5 false (20001 :: σ) c cs o ⟨by rw [opn_s (by rfl), hC.1], Or.inl rfl⟩]
          show zMac _ _ _ (stl 7 σ) _ (o ++ P ++ (20001 :: pps 7 σ)) = zMac _ _ _ _ _ (o ++ (P ++ [20001]) ++ pps 7 σ)
          simp only [List.append_assoc, List.singleton_append]
        · refine Or.inr ⟨rfl, by rw [w4]; exact g3, fun b σ c cs o hC => ?_⟩
          rw [drop_t h45, zMac, hv _ h45]
          dsimp only
          rw [if_neg (by rw [hC.1]; omega), if_neg (by decide), if_pos rfl]
          exact g4 false (20001 :: σ) c cs o ⟨by rw [opn_s (by rfl), hC.1], Or.inl rfl⟩
    · refine zRs.fail (N := N) hX h (fun x' ef => ?_) (fun b σ c cs o hC => ?_)
      · simp (disch := (first | omega | (simp only [sx_l42 hX, sx_l43 hX, sx_l44 hX, sx_l46 hX, sx_l50 hX, sx_l51 hX, sx_l52 hX, sx_l53 hX, sx_l54 hX, sx_l56 hX, sx_l57 hX, sx_l58 hX, sx_l60 hX, sx_l61 hX, sx_l62 hX, sx_l63 hX, sx_l64 hX, sx_l65 hX, sx_l66 hX, sx_l88 hX, sx_l89 hX, sx_l90 hX, sx_l0 hX, sx_l1 hX, sx_l2 hX, sx_l5 hX, sx_l6 hX, sx_l7 hX, sx_l8 hX, sx_l9 hX, sx_l10 hX, sx_l11 hX, sx_l12 hX, sx_l13 hX, sx_l14 hX, sx_l15 hX]; omega))) only [ef, j_X5_readOne_71, j_X5_readOne_54, j_X5_readOne_66, q45, q40, ↓eM, eL_0, eL_1, eL_2, eL_3, eL_4, eL_5, eL_6, eL_7, eL_8, eL_9, eL_10, eL_11, eL_12, eL_15, eL_16, eL_20, eL_24, eL_30, eL_31, eL_32, eL_39, eL_40, eL_41, eL_42, eL_43, eL_45, eL_47, eL_48, eL_49, eL_50, eL_57, eL_59, eL_60, eL_61, eL_90, eL_96, eL_97, eL_100, eL_122, eL_160, eL_161, eL_255, eL_300, eL_343, eL_999, eL_1000, eL_1920, eL_9999, eL_10000, eL_999999, eL_100000, eL_1000000, ↓reduceIte, ↓bl_e, bd_e, u1_f, u1_s, u2_f, u2_s, w_cl, w_ltT, w_ltF, w_leT, w_leF, w_eqT, w_eqF, w_mlt, w_ltm, w_mle, w_lem, w_eqm, w_meq, w_mltm, nI_add, w_sub, w_addm, up_s, up_n, ud_s, ud_n, ck_n, bz_0, bz_1]
      · rw [drop_t h45, zMac, hv _ h45]
        dsimp only
        rw [if_pos (by rw [hC.1]; omega)]
  rw [eq_false h45] at q45
  by_cases h40 : T[i]? = some (4, 40)
  · have hi := q_lt h40
    rw [eq_true h40] at q40
    by_cases hd5 : d < 5
    · obtain ⟨g1, g2⟩ := q_adv h hi
      obtain ⟨r, x1, i1, P, e1, e2, e3, e4, e5, e6⟩ := hE hd5 (i + 1) W _ g1
      have hm : ∀ b σ c cs o, Cb T d i b σ → zMac (T.drop i) true b σ (c :: cs) o = zMac (T.drop (i + 1)) true true (20009 :: σ) (false :: c :: cs) o := fun b σ c cs o hC => by
        rw [drop_t h40, zMac, hv _ h40]
        dsimp only
        rw [if_neg (by rw [hC.1]; omega), if_neg (by decide), if_neg (by decide), if_pos rfl]
      rcases e6 with ⟨rfl, g3, g4, c', g5, g6⟩ | ⟨rfl, g3, g4⟩
      · have hm2 : ∀ b σ c cs o, Cb T d i b σ → zMac (T.drop i) true b σ (c :: cs) o = zMac (T.drop i1) false false (20009 :: σ) (c' :: c :: cs) (o ++ P) := fun b σ c cs o hC => by
          rw [hm b σ c cs o hC, g5 (20009 :: σ) (c :: cs) o (by rw [opn_s (by rfl), hC.1]) (cl_c (by decide))]
        rcases q_pass (N := N) hX e3 (a := nI 41) with ⟨p1, p2, x2, p3, p4, p5, p6⟩ | ⟨p1, p2, -⟩ | ⟨p1, x2, p3, p4, p5, p6⟩
        · have h41 : T[i1]? = some (4, 41) := by rw [tk_sgn (q_ok e3) (q := 41) (by omega)] at p1; exact p1
          refine ⟨nI 1, x2, i1 + 1, P, ?_, g2.trans (e2.trans p4), p5, by omega, by omega, Or.inl ⟨rfl, by omega, g4, fun b σ c cs o hC => ?_⟩⟩
          · simp (disch := (first | omega | (simp only [sx_l42 hX, sx_l43 hX, sx_l44 hX, sx_l46 hX, sx_l50 hX, sx_l51 hX, sx_l52 hX, sx_l53 hX, sx_l54 hX, sx_l56 hX, sx_l57 hX, sx_l58 hX, sx_l60 hX, sx_l61 hX, sx_l62 hX, sx_l63 hX, sx_l64 hX, sx_l65 hX, sx_l66 hX, sx_l88 hX, sx_l89 hX, sx_l90 hX, sx_l0 hX, sx_l1 hX, sx_l2 hX, sx_l5 hX, sx_l6 hX, sx_l7 hX, sx_l8 hX, sx_l9 hX, sx_l10 hX, sx_l11 hX, sx_l12 hX, sx_l13 hX, sx_l14 hX, sx_l15 hX]; omega))) only [j_X5_readOne_54, j_X5_readOne_66, q45, q40, h6, e1, p3, ↓eM, eL_0, eL_1, eL_2, eL_3, eL_4, eL_5, eL_6, eL_7, eL_8, eL_9, eL_10, eL_11, eL_12, eL_15, eL_16, eL_20, eL_24, eL_30, eL_31, eL_32, eL_39, eL_40, eL_41, eL_42, eL_43, eL_45, eL_47, eL_48, eL_49, eL_50, eL_57, eL_59, eL_60, eL_61, eL_90, eL_96, eL_97, eL_100, eL_122, eL_160, eL_161, eL_255, eL_300, eL_343, eL_999, eL_1000, eL_1920, eL_9999, eL_10000, eL_999999, eL_100000, eL_1000000, ↓reduceIte, ↓bl_e, bd_e, u1_f, u1_s, u2_f, u2_s, w_cl, w_ltT, w_ltF, w_leT, w_leF, w_eqT, w_eqF, w_mlt, w_ltm, w_mle, w_lem, w_eqm, w_meq, w_mltm, nI_add, w_sub, w_addm, up_s, up_n, ud_s, ud_n, ck_n, bz_0, bz_1]
          · rw [hm2 b σ c cs o hC, drop_t h41, zMac, if_neg (by decide), if_pos rfl, if_neg (by show ¬ brk (20009 :: σ) = 0; unfold brk; rw [List.countP_cons_of_pos (by rfl)]; omega)]
            rw [show pps 1 (20009 :: σ) = [] from rfl, show stl 1 (20009 :: σ) = 20009 :: σ from rfl, List.append_nil]
            rfl
        · exfalso
          rw [p2, List.getElem?_eq_none (Nat.le_refl _)] at p1
          exact absurd p1 (by decide)
        · have h41 : T[i1]? ≠ some (4, 41) := fun e => p1 ((tk_sgn (q_ok e3) (q := 41) (by omega)).mpr e)
          refine ⟨nI 0, x2, i1, P, ?_, g2.trans (e2.trans p4), p5, by omega, by omega, Or.inr ⟨rfl, p6, fun b σ c cs o hC => ?_⟩⟩
          · simp (disch := (first | omega | (simp only [sx_l42 hX, sx_l43 hX, sx_l44 hX, sx_l46 hX, sx_l50 hX, sx_l51 hX, sx_l52 hX, sx_l53 hX, sx_l54 hX, sx_l56 hX, sx_l57 hX, sx_l58 hX, sx_l60 hX, sx_l61 hX, sx_l62 hX, sx_l63 hX, sx_l64 hX, sx_l65 hX, sx_l66 hX, sx_l88 hX, sx_l89 hX, sx_l90 hX, sx_l0 hX, sx_l1 hX, sx_l2 hX, sx_l5 hX, sx_l6 hX, sx_l7 hX, sx_l8 hX, sx_l9 hX, sx_l10 hX, sx_l11 hX, sx_l12 hX, sx_l13 hX, sx_l14 hX, sx_l15 hX]; omega))) only [j_X5_readOne_54, j_X5_readOne_66, q45, q40, h6, e1, p3, ↓eM, eL_0, eL_1, eL_2, eL_3, eL_4, eL_5, eL_6, eL_7, eL_8, eL_9, eL_10, eL_11, eL_12, eL_15, eL_16, eL_20, eL_24, eL_30, eL_31, eL_32, eL_39, eL_40, eL_41, eL_42, eL_43, eL_45, eL_47, eL_48, eL_49, eL_50, eL_57, eL_59, eL_60, eL_61, eL_90, eL_96, eL_97, eL_100, eL_122, eL_160, eL_161, eL_255, eL_300, eL_343, eL_999, eL_1000, eL_1920, eL_9999, eL_10000, eL_999999, eL_100000, eL_1000000, ↓reduceIte, ↓bl_e, bd_e, u1_f, u1_s, u2_f, u2_s, w_cl, w_ltT, w_ltF, w_leT, w_leF, w_eqT, w_eqF, w_mlt, w_ltm, w_mle, w_lem, w_eqm, w_meq, w_mltm, nI_add, w_sub, w_addm, up_s, up_n, ud_s, ud_n, ck_n, bz_0, bz_1]
          · rw [hm2 b σ c cs o hC]
            exact mac_stop h41 (by show ¬ brk (20009 :: σ) = 0; unfold brk; rw [List.countP_cons_of_pos (by rfl)]; omega) g6
      · refine ⟨nI 0, x1, i1, P, ?_, g2.trans e2, e3, by omega, by omega, Or.inr ⟨rfl, g3, fun b σ c cs o hC => ?_⟩⟩
        · simp (disch := (first | omega | (simp only [sx_l42 hX, sx_l43 hX, sx_l44 hX, sx_l46 hX, sx_l50 hX, sx_l51 hX, sx_l52 hX, sx_l53 hX, sx_l54 hX, sx_l56 hX, sx_l57 hX, sx_l58 hX, sx_l60 hX, sx_l61 hX, sx_l62 hX, sx_l63 hX, sx_l64 hX, sx_l65 hX, sx_l66 hX, sx_l88 hX, sx_l89 hX, sx_l90 hX, sx_l0 hX, sx_l1 hX, sx_l2 hX, sx_l5 hX, sx_l6 hX, sx_l7 hX, sx_l8 hX, sx_l9 hX, sx_l10 hX, sx_l11 hX, sx_l12 hX, sx_l13 hX, sx_l14 hX, sx_l15 hX]; omega))) only [j_X5_readOne_54, j_X5_readOne_66, q45, q40, h6, e1, ↓eM, eL_0, eL_1, eL_2, eL_3, eL_4, eL_5, eL_6, eL_7, eL_8, eL_9, eL_10, eL_11, eL_12, eL_15, eL_16, eL_20, eL_24, eL_30, eL_31, eL_32, eL_39, eL_40, eL_41, eL_42, eL_43, eL_45, eL_47, eL_48, eL_49, eL_50, eL_57, eL_59, eL_60, eL_61, eL_90, eL_96, eL_97, eL_100, eL_122, eL_160, eL_161, eL_255, eL_300, eL_343, eL_999, eL_1000, eL_1920, eL_9999, eL_10000, eL_999999, eL_100000, eL_1000000, ↓reduceIte, ↓bl_e, bd_e, u1_f, u1_s, u2_f, u2_s, w_cl, w_ltT, w_ltF, w_leT, w_leF, w_eqT, w_eqF, w_mlt, w_ltm, w_mle, w_lem, w_eqm, w_meq, w_mltm, nI_add, w_sub, w_addm, up_s, up_n, ud_s, ud_n, ck_n, bz_0, bz_1]
        · rw [hm b σ c cs o hC, g4 (20009 :: σ) (c :: cs) o (by rw [opn_s (by rfl), hC.1]) (cl_c (by decide))]
    · refine zRs.fail (N := N) hX h (fun x' ef => ?_) (fun b σ c cs o hC => ?_)
      · simp (disch := (first | omega | (simp only [sx_l42 hX, sx_l43 hX, sx_l44 hX, sx_l46 hX, sx_l50 hX, sx_l51 hX, sx_l52 hX, sx_l53 hX, sx_l54 hX, sx_l56 hX, sx_l57 hX, sx_l58 hX, sx_l60 hX, sx_l61 hX, sx_l62 hX, sx_l63 hX, sx_l64 hX, sx_l65 hX, sx_l66 hX, sx_l88 hX, sx_l89 hX, sx_l90 hX, sx_l0 hX, sx_l1 hX, sx_l2 hX, sx_l5 hX, sx_l6 hX, sx_l7 hX, sx_l8 hX, sx_l9 hX, sx_l10 hX, sx_l11 hX, sx_l12 hX, sx_l13 hX, sx_l14 hX, sx_l15 hX]; omega))) only [ef, j_X5_readOne_71, j_X5_readOne_54, j_X5_readOne_66, q45, q40, ↓eM, eL_0, eL_1, eL_2, eL_3, eL_4, eL_5, eL_6, eL_7, eL_8, eL_9, eL_10, eL_11, eL_12, eL_15, eL_16, eL_20, eL_24, eL_30, eL_31, eL_32, eL_39, eL_40, eL_41, eL_42, eL_43, eL_45, eL_47, eL_48, eL_49, eL_50, eL_57, eL_59, eL_60, eL_61, eL_90, eL_96, eL_97, eL_100, eL_122, eL_160, eL_161, eL_255, eL_300, eL_343, eL_999, eL_1000, eL_1920, eL_9999, eL_10000, eL_999999, eL_100000, eL_1000000, ↓reduceIte, ↓bl_e, bd_e, u1_f, u1_s, u2_f, u2_s, w_cl, w_ltT, w_ltF, w_leT, w_leF, w_eqT, w_eqF, w_mlt, w_ltm, w_mle, w_lem, w_eqm, w_meq, w_mltm, nI_add, w_sub, w_addm, up_s, up_n, ud_s, ud_n, ck_n, bz_0, bz_1]
      · rw [drop_t h40, zMac, hv _ h40]
        dsimp only
        rw [if_pos (by rw [hC.1]; omega)]
  · rw [eq_false h40] at q40
    refine zRs.fail (N := N) hX h (fun x' ef => ?_) (fun b σ c cs o hC => ?_)
    · simp (disch := (first | omega | (simp only [sx_l42 hX, sx_l43 hX, sx_l44 hX, sx_l46 hX, sx_l50 hX, sx_l51 hX, sx_l52 hX, sx_l53 hX, sx_l54 hX, sx_l56 hX, sx_l57 hX, sx_l58 hX, sx_l60 hX, sx_l61 hX, sx_l62 hX, sx_l63 hX, sx_l64 hX, sx_l65 hX, sx_l66 hX, sx_l88 hX, sx_l89 hX, sx_l90 hX, sx_l0 hX, sx_l1 hX, sx_l2 hX, sx_l5 hX, sx_l6 hX, sx_l7 hX, sx_l8 hX, sx_l9 hX, sx_l10 hX, sx_l11 hX, sx_l12 hX, sx_l13 hX, sx_l14 hX, sx_l15 hX]; omega))) only [ef, j_X5_readOne_71, j_X5_readOne_54, q45, q40, ↓eM, eL_0, eL_1, eL_2, eL_3, eL_4, eL_5, eL_6, eL_7, eL_8, eL_9, eL_10, eL_11, eL_12, eL_15, eL_16, eL_20, eL_24, eL_30, eL_31, eL_32, eL_39, eL_40, eL_41, eL_42, eL_43, eL_45, eL_47, eL_48, eL_49, eL_50, eL_57, eL_59, eL_60, eL_61, eL_90, eL_96, eL_97, eL_100, eL_122, eL_160, eL_161, eL_255, eL_300, eL_343, eL_999, eL_1000, eL_1920, eL_9999, eL_10000, eL_999999, eL_100000, eL_1000000, ↓reduceIte, ↓bl_e, bd_e, u1_f, u1_s, u2_f, u2_s, w_cl, w_ltT, w_ltF, w_leT, w_leF, w_eqT, w_eqF, w_mlt, w_ltm, w_mle, w_lem, w_eqm, w_meq, w_mltm, nI_add, w_sub, w_addm, up_s, up_n, ud_s, ud_n, ck_n, bz_0, bz_1]
    · cases e : T[i]? with
      | none => exact mac_end e
      | some t =>
        rw [e] at h45 h40
        have hC2 := hC.2
        rw [e] at hC2
        rw [drop_t e, zMac, hv _ e]
        dsimp only
        by_cases h5 : opn σ = 5
        · rw [if_pos h5]
        rw [if_neg h5]
        by_cases h4 : t = (3, 4)
        · rw [if_pos h4]
          rcases hC2 with rfl | hC2
          · rw [if_neg (by decide)]
          · exact absurd (by rw [h4]) hC2
        rw [if_neg h4, if_neg (fun e => h45 (by rw [e])), if_neg (fun e => h40 (by rw [e]))]
end RD
