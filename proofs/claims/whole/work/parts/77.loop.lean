/-! LAYER 3: texts: the reference's part as a whole -/
section LOOP
variable {N : Nat} {Sm : SH} {T : List ZT} {Q : Nat → DY → Prop} {p : Nat} {R : ZR} {y0 : DY} {K1 : DY → Option (Int32 × DY)}
set_option maxHeartbeats 1600000 in
theorem m_loop (hN : 600 ≤ N) (hM : SHM Sm) (hp : p < 12) (hT : T.length ≤ 160) (hQ : zLx N Sm T Q) {i0 : Nat} {b : Bool} {σ : List Nat} {c : Bool} {cs : List Bool} {o : List Nat} {y : DY} (hi0 : i0 ≤ T.length) (h : zInv T Q p R y0 i0 true b σ c cs o y) : zOut T Q p R y0 K1 (lp_X12_part_36 N Sm K1 40 (nI 1) (bI b) y) := by
  unfold lp_X12_part_36
  refine z_itr1 (fun j (a : Int32 × Int32 × DY) => ∃ w b σ c cs o y u, (w = true → u = bI b) ∧ a = (bI w, u, y) ∧ zInv T Q p R y0 (i0 + j) w b σ c cs o y) (fun q => zOut T Q p R y0 K1 q) (T.length - i0) ?_ ?_ (T.length - i0) 0 _ N (by omega) (by omega) ⟨true, b, σ, c, cs, o, y, bI b, fun _ => rfl, rfl, h⟩
  · rintro j _ hj ⟨w, b, σ, c, cs, o, y, u, hu, rfl, hz⟩
    have hi : i0 + j < T.length := by omega
    have go : ((∃ w' b' σ' c' cs' o' y' u', (w' = true → u' = bI b') ∧ zInv T Q p R y0 (i0 + j + 1) w' b' σ' c' cs' o' y' ∧ ∀ bk : Int32 → Int32 → DY → Option (Int32 × DY), lp_X12_part_36_b N Sm K1 bk 40 (bI w) u y = bk (bI w') u' y') ∨ (R = .error (T.drop (i0 + j)) ∧ ∀ bk : Int32 → Int32 → DY → Option (Int32 × DY), lp_X12_part_36_b N Sm K1 bk 40 (bI w) u y = some (nI 0, y))) → ((∃ a', (∃ w b σ c cs o y u, (w = true → u = bI b) ∧ a' = (bI w, u, y) ∧ zInv T Q p R y0 (i0 + (j + 1)) w b σ c cs o y) ∧ ∀ back : Int32 × Int32 × DY → Option (Int32 × DY), lp_X12_part_36_b N Sm K1 (fun p1 p2 y => back (p1, p2, y)) 40 (bI w) u y = back a') ∨ (∃ o1, zOut T Q p R y0 K1 o1 ∧ ∀ back : Int32 × Int32 × DY → Option (Int32 × DY), lp_X12_part_36_b N Sm K1 (fun p1 p2 y => back (p1, p2, y)) 40 (bI w) u y = o1)) := fun hh => by
      rcases hh with ⟨w', b', σ', c', cs', o', y', u', g1, g2, g3⟩ | ⟨g1, g2⟩
      · exact Or.inl ⟨(bI w', u', y'), ⟨w', b', σ', c', cs', o', y', u', g1, rfl, g2⟩, fun back => g3 _⟩
      · exact Or.inr ⟨some (nI 0, y), Or.inl ⟨i0 + j, y, rfl, hz.1, by omega, g1, hz.2.2.2.2⟩, fun back => g2 _⟩
    cases w with
    | true =>
      rw [hu rfl] at go ⊢
      exact go (m_want hN hM hp hT hQ hi hz)
    | false =>
      by_cases h41 : T[i0 + j]? = some (4, 41)
      · exact go (m_close hN hM hp hT hQ hz h41)
      by_cases h59 : T[i0 + j]? = some (4, 59)
      · obtain ⟨hq, hs, hl, hR, h0⟩ := hz
        obtain ⟨hok, t34, t35⟩ := (hQ.1 _ y hq).1 _ h59
        have t34' : y.1 40 34 = nI 4 := t34
        have t35' : y.1 40 35 = nI 59 := t35 (by decide)
        refine Or.inr ⟨K1 y, Or.inr ⟨i0 + j, y, σ, c :: cs, o, rfl, hq, h59, hs, ?_, h0⟩, fun back => ?_⟩
        · rw [← hR]
          rw [drop_t h59, zMac, zMac]
        · show lp_X12_part_36_b N Sm K1 (fun p1 p2 y => back (p1, p2, y)) 40 (nI 0) u y = K1 y
          simp (disch := (first | omega | (simp only [shm_l41 hM, shm_l42 hM, shm_l43 hM, shm_l44 hM, shm_l45 hM, shm_l46 hM, shm_l47 hM, shm_l48 hM, shm_l49 hM, shm_l50 hM, shm_l51 hM, shm_l52 hM, shm_l53 hM, shm_l54 hM, shm_l55 hM, shm_l56 hM, shm_l57 hM, shm_l58 hM, shm_l59 hM, shm_l60 hM, shm_l61 hM, shm_l62 hM, shm_l63 hM, shm_l64 hM, shm_l65 hM, shm_l66 hM, shm_l67 hM, shm_l68 hM, shm_l69 hM, shm_l70 hM, shm_l71 hM, shm_l72 hM, shm_l73 hM, shm_l74 hM, shm_l75 hM, shm_l76 hM, shm_l77 hM, shm_l78 hM, shm_l79 hM, shm_l80 hM]; omega))) only [lp_X12_part_36_b, f_X12_isSign, t34', t35', ↓eM, eL_0, eL_1, eL_2, eL_3, eL_4, eL_5, eL_6, eL_7, eL_8, eL_9, eL_10, eL_11, eL_12, eL_15, eL_16, eL_20, eL_24, eL_30, eL_31, eL_32, eL_39, eL_40, eL_41, eL_42, eL_43, eL_45, eL_47, eL_48, eL_49, eL_50, eL_57, eL_59, eL_60, eL_61, eL_90, eL_96, eL_97, eL_100, eL_122, eL_160, eL_161, eL_255, eL_300, eL_343, eL_999, eL_1000, eL_1920, eL_9999, eL_10000, eL_999999, eL_100000, eL_1000000, ↓reduceIte, ↓bl_e, bd_e, u1_f, u1_s, u2_f, u2_s, w_cl, w_ltT, w_ltF, w_leT, w_leF, w_eqT, w_eqF, w_mlt, w_ltm, w_mle, w_lem, w_eqm, w_meq, w_mltm, nI_add, w_sub, w_addm, up_s, up_n, ud_s, ud_n, ck_n, bz_0, bz_1]
      · exact go (m_have hN hM hp hT hQ hi hz h59 h41)
  · rintro _ ⟨w, b, σ, c, cs, o, y, u, hu, rfl, hq, hs, hl, hR, h0⟩
    have e : T[i0 + (T.length - i0)]? = none := List.getElem?_eq_none (by omega)
    have t34 := (hQ.1 _ y hq).2 e
    rw [mac_end e] at hR
    refine ⟨some (nI 0, y), Or.inl ⟨_, y, rfl, hq, by omega, hR.symm, h0⟩, fun back => ?_⟩
    have s3 := hs.2.2.1
    have s12 := hs.2.2.2.2.2.2.2.2.2.2.2
    cases w with
    | true =>
      show lp_X12_part_36_b N Sm K1 (fun p1 p2 y => back (p1, p2, y)) 40 (nI 1) u y = some (nI 0, y)
      by_cases h5 : opn σ = 5
      · have s3' : y.1 40 41 = nI 5 := by rw [s3, h5]
        simp (disch := (first | omega | (simp only [shm_l41 hM, shm_l42 hM, shm_l43 hM, shm_l44 hM, shm_l45 hM, shm_l46 hM, shm_l47 hM, shm_l48 hM, shm_l49 hM, shm_l50 hM, shm_l51 hM, shm_l52 hM, shm_l53 hM, shm_l54 hM, shm_l55 hM, shm_l56 hM, shm_l57 hM, shm_l58 hM, shm_l59 hM, shm_l60 hM, shm_l61 hM, shm_l62 hM, shm_l63 hM, shm_l64 hM, shm_l65 hM, shm_l66 hM, shm_l67 hM, shm_l68 hM, shm_l69 hM, shm_l70 hM, shm_l71 hM, shm_l72 hM, shm_l73 hM, shm_l74 hM, shm_l75 hM, shm_l76 hM, shm_l77 hM, shm_l78 hM, shm_l79 hM, shm_l80 hM]; omega))) only [lp_X12_part_36_b, f_X12_ahead, t34, s3', ↓eM, eL_0, eL_1, eL_2, eL_3, eL_4, eL_5, eL_6, eL_7, eL_8, eL_9, eL_10, eL_11, eL_12, eL_15, eL_16, eL_20, eL_24, eL_30, eL_31, eL_32, eL_39, eL_40, eL_41, eL_42, eL_43, eL_45, eL_47, eL_48, eL_49, eL_50, eL_57, eL_59, eL_60, eL_61, eL_90, eL_96, eL_97, eL_100, eL_122, eL_160, eL_161, eL_255, eL_300, eL_343, eL_999, eL_1000, eL_1920, eL_9999, eL_10000, eL_999999, eL_100000, eL_1000000, ↓reduceIte, ↓bl_e, bd_e, u1_f, u1_s, u2_f, u2_s, w_cl, w_ltT, w_ltF, w_leT, w_leF, w_eqT, w_eqF, w_mlt, w_ltm, w_mle, w_lem, w_eqm, w_meq, w_mltm, nI_add, w_sub, w_addm, up_s, up_n, ud_s, ud_n, ck_n, bz_0, bz_1]
      · simp (disch := (first | omega | (simp only [shm_l41 hM, shm_l42 hM, shm_l43 hM, shm_l44 hM, shm_l45 hM, shm_l46 hM, shm_l47 hM, shm_l48 hM, shm_l49 hM, shm_l50 hM, shm_l51 hM, shm_l52 hM, shm_l53 hM, shm_l54 hM, shm_l55 hM, shm_l56 hM, shm_l57 hM, shm_l58 hM, shm_l59 hM, shm_l60 hM, shm_l61 hM, shm_l62 hM, shm_l63 hM, shm_l64 hM, shm_l65 hM, shm_l66 hM, shm_l67 hM, shm_l68 hM, shm_l69 hM, shm_l70 hM, shm_l71 hM, shm_l72 hM, shm_l73 hM, shm_l74 hM, shm_l75 hM, shm_l76 hM, shm_l77 hM, shm_l78 hM, shm_l79 hM, shm_l80 hM]; omega))) only [lp_X12_part_36_b, f_X12_ahead, f_X12_isKey, f_X12_isSign, t34, s3, ↓eM, eL_0, eL_1, eL_2, eL_3, eL_4, eL_5, eL_6, eL_7, eL_8, eL_9, eL_10, eL_11, eL_12, eL_15, eL_16, eL_20, eL_24, eL_30, eL_31, eL_32, eL_39, eL_40, eL_41, eL_42, eL_43, eL_45, eL_47, eL_48, eL_49, eL_50, eL_57, eL_59, eL_60, eL_61, eL_90, eL_96, eL_97, eL_100, eL_122, eL_160, eL_161, eL_255, eL_300, eL_343, eL_999, eL_1000, eL_1920, eL_9999, eL_10000, eL_999999, eL_100000, eL_1000000, ↓reduceIte, ↓bl_e, bd_e, u1_f, u1_s, u2_f, u2_s, w_cl, w_ltT, w_ltF, w_leT, w_leF, w_eqT, w_eqF, w_mlt, w_ltm, w_mle, w_lem, w_eqm, w_meq, w_mltm, nI_add, w_sub, w_addm, up_s, up_n, ud_s, ud_n, ck_n, bz_0, bz_1]
    | false =>
      show lp_X12_part_36_b N Sm K1 (fun p1 p2 y => back (p1, p2, y)) 40 (nI 0) u y = some (nI 0, y)
      simp (disch := (first | omega | (simp only [shm_l41 hM, shm_l42 hM, shm_l43 hM, shm_l44 hM, shm_l45 hM, shm_l46 hM, shm_l47 hM, shm_l48 hM, shm_l49 hM, shm_l50 hM, shm_l51 hM, shm_l52 hM, shm_l53 hM, shm_l54 hM, shm_l55 hM, shm_l56 hM, shm_l57 hM, shm_l58 hM, shm_l59 hM, shm_l60 hM, shm_l61 hM, shm_l62 hM, shm_l63 hM, shm_l64 hM, shm_l65 hM, shm_l66 hM, shm_l67 hM, shm_l68 hM, shm_l69 hM, shm_l70 hM, shm_l71 hM, shm_l72 hM, shm_l73 hM, shm_l74 hM, shm_l75 hM, shm_l76 hM, shm_l77 hM, shm_l78 hM, shm_l79 hM, shm_l80 hM]; omega))) only [lp_X12_part_36_b, f_X12_signOf, f_X12_isKey, f_X12_isSign, t34, ↓eM, eL_0, eL_1, eL_2, eL_3, eL_4, eL_5, eL_6, eL_7, eL_8, eL_9, eL_10, eL_11, eL_12, eL_15, eL_16, eL_20, eL_24, eL_30, eL_31, eL_32, eL_39, eL_40, eL_41, eL_42, eL_43, eL_45, eL_47, eL_48, eL_49, eL_50, eL_57, eL_59, eL_60, eL_61, eL_90, eL_96, eL_97, eL_100, eL_122, eL_160, eL_161, eL_255, eL_300, eL_343, eL_999, eL_1000, eL_1920, eL_9999, eL_10000, eL_999999, eL_100000, eL_1000000, ↓reduceIte, ↓bl_e, bd_e, u1_f, u1_s, u2_f, u2_s, w_cl, w_ltT, w_ltF, w_leT, w_leF, w_eqT, w_eqF, w_mlt, w_ltm, w_mle, w_lem, w_eqm, w_meq, w_mltm, nI_add, w_sub, w_addm, up_s, up_n, ud_s, ud_n, ck_n, bz_0, bz_1]
end LOOP
