/-! LAYER 3: texts: the reference's part, from its start to its answer -/
section PART2
variable {N : Nat} {Sm : SH} {T : List ZT} {Q : Nat → DY → Prop} {p : Nat}
set_option maxHeartbeats 1600000 in
theorem m_part (hN : 600 ≤ N) (hM : SHM Sm) (hp : p < 12) (hT : T.length ≤ 160) (hQ : zLx N Sm T Q) {i0 : Nat} {y : DY} (hi0 : i0 ≤ T.length) (hq : Q i0 y) (h42 : y.1 40 42 = nI p) :
    ∃ r y' i', f_X12_part N Sm 40 y = some (r, y') ∧ zFp p y y' ∧ Q i' y' ∧ i' ≤ T.length ∧ ((r = nI 0 ∧ zMac (T.drop i0) true true [] [false] [] = .error (T.drop i')) ∨ (r = nI 1 ∧ T[i']? = some (4, 59) ∧ ∃ o, zMac (T.drop i0) true true [] [false] [] = .ok (T.drop i', o) ∧ y'.1 62 p = nI o.length ∧ ∀ j, j < o.length → y'.1 63 (160 * p + j) = encM (o.getD j 0))) := by
  have hz : zSt (U1 (U1 (U1 (U1 (U1 y 40 39 (nI 0)) 40 40 (nI 0)) 40 41 (nI 0)) 62 p (nI 0)) 65 0 (nI 0)) p [] [false] [] := by
    refine ⟨?_, ?_, ?_, ?_, ?_, fun j hj => absurd hj (Nat.not_lt_zero j), fun j hj => absurd hj (Nat.not_lt_zero j), rfl, fun j hj => ?_, fun c hc => (List.not_mem_nil hc).elim, Nat.zero_le _, Nat.zero_le _⟩
    · simp (disch := omega) only [u1_f, u1_s, u2_f, u2_s, up_s, up_n, ud_s, ud_n]; rfl
    · simp (disch := omega) only [u1_f, u1_s, u2_f, u2_s, up_s, up_n, ud_s, ud_n]; rfl
    · simp (disch := omega) only [u1_f, u1_s, u2_f, u2_s, up_s, up_n, ud_s, ud_n]; rfl
    · simp (disch := omega) only [u1_f, u1_s, u2_f, u2_s, up_s, up_n, ud_s, ud_n]; exact h42
    · simp (disch := omega) only [u1_f, u1_s, u2_f, u2_s, up_s, up_n, ud_s, ud_n]; rfl
    · have : j = 0 := Nat.le_zero.mp hj
      subst this
      simp (disch := omega) only [u1_f, u1_s, u2_f, u2_s, up_s, up_n, ud_s, ud_n]; rfl
  have hf : zFp p y (U1 (U1 (U1 (U1 (U1 y 40 39 (nI 0)) 40 40 (nI 0)) 40 41 (nI 0)) 62 p (nI 0)) 65 0 (nI 0)) := ⟨fun b h1 h2 h3 h4 h5 => by simp (disch := omega) only [u1_f, u1_s, u2_f, u2_s, up_s, up_n, ud_s, ud_n], fun k hk => by simp (disch := omega) only [u1_f, u1_s, u2_f, u2_s, up_s, up_n, ud_s, ud_n], fun q hq => by simp (disch := omega) only [u1_f, u1_s, u2_f, u2_s, up_s, up_n, ud_s, ud_n], fun q hq => by simp (disch := omega) only [u1_f, u1_s, u2_f, u2_s, up_s, up_n, ud_s, ud_n], rfl⟩
  have hq1 : Q i0 (U1 (U1 (U1 (U1 (U1 y 40 39 (nI 0)) 40 40 (nI 0)) 40 41 (nI 0)) 62 p (nI 0)) 65 0 (nI 0)) := hQ.2.2 i0 y _ hq (by simp (disch := omega) only [u1_f, u1_s, u2_f, u2_s, up_s, up_n, ud_s, ud_n]) (fun k hk => by simp (disch := omega) only [u1_f, u1_s, u2_f, u2_s, up_s, up_n, ud_s, ud_n])
  have key := m_loop (K1 := fun y63 => Option.bind (f_X12_settle N Sm 40 (nI 1) y63) (fun r65 => if r65.1 40 40 = nI 0 then some (nI 1, r65) else some (nI 0, r65))) (R := zMac (T.drop i0) true true [] [false] []) hN hM hp hT hQ hi0 (⟨hq1, hz, Nat.zero_le _, rfl, hf⟩ : zInv T Q p _ y i0 true true [] false [] [] _)
  have e : f_X12_part N Sm 40 y = lp_X12_part_36 N Sm (fun y63 => Option.bind (f_X12_settle N Sm 40 (nI 1) y63) (fun r65 => if r65.1 40 40 = nI 0 then some (nI 1, r65) else some (nI 0, r65))) 40 (nI 1) (bI true) (U1 (U1 (U1 (U1 (U1 y 40 39 (nI 0)) 40 40 (nI 0)) 40 41 (nI 0)) 62 p (nI 0)) 65 0 (nI 0)) := by
    show _ = lp_X12_part_36 N Sm _ 40 (nI 1) (nI 1) _
    simp (disch := (first | omega | (simp only [shm_l41 hM, shm_l42 hM, shm_l43 hM, shm_l44 hM, shm_l45 hM, shm_l46 hM, shm_l47 hM, shm_l48 hM, shm_l49 hM, shm_l50 hM, shm_l51 hM, shm_l52 hM, shm_l53 hM, shm_l54 hM, shm_l55 hM, shm_l56 hM, shm_l57 hM, shm_l58 hM, shm_l59 hM, shm_l60 hM, shm_l61 hM, shm_l62 hM, shm_l63 hM, shm_l64 hM, shm_l65 hM, shm_l66 hM, shm_l67 hM, shm_l68 hM, shm_l69 hM, shm_l70 hM, shm_l71 hM, shm_l72 hM, shm_l73 hM, shm_l74 hM, shm_l75 hM, shm_l76 hM, shm_l77 hM, shm_l78 hM, shm_l79 hM, shm_l80 hM]; omega))) only [f_X12_part, shm_p5 hM, shm_p6 hM, shm_p7 hM, shm_p8 hM, shm_p9 hM, shm_p10 hM, shm_p11 hM, shm_p12 hM, shm_p13 hM, shm_p14 hM, shm_p15 hM, shm_p16 hM, shm_p19 hM, shm_p20 hM, shm_p21 hM, shm_p22 hM, shm_p23 hM, shm_p24 hM, shm_p25 hM, shm_p26 hM, shm_p27 hM, shm_p31 hM, shm_p32 hM, shm_p37 hM, shm_p38 hM, shm_p43 hM, shm_p44 hM, shm_p48 hM, shm_p49 hM, shm_p50 hM, shm_p51 hM, shm_p52 hM, shm_p53 hM, shm_p54 hM, shm_p55 hM, shm_p62 hM, shm_p63 hM, shm_p64 hM, shm_p65 hM, shm_p66 hM, h42, nar0, ↓eM, eL_0, eL_1, eL_2, eL_3, eL_4, eL_5, eL_6, eL_7, eL_8, eL_9, eL_10, eL_11, eL_12, eL_15, eL_16, eL_20, eL_24, eL_30, eL_31, eL_32, eL_39, eL_40, eL_41, eL_42, eL_43, eL_45, eL_47, eL_48, eL_49, eL_50, eL_57, eL_59, eL_60, eL_61, eL_90, eL_96, eL_97, eL_100, eL_122, eL_160, eL_161, eL_255, eL_300, eL_343, eL_999, eL_1000, eL_1920, eL_9999, eL_10000, eL_999999, eL_100000, eL_1000000, ↓reduceIte, ↓bl_e, bd_e, u1_f, u1_s, u2_f, u2_s, w_cl, w_ltT, w_ltF, w_leT, w_leF, w_eqT, w_eqF, w_mlt, w_ltm, w_mle, w_lem, w_eqm, w_meq, w_mltm, nI_add, w_sub, w_addm, up_s, up_n, ud_s, ud_n, ck_n, bz_0, bz_1]
    rfl
  rw [e]
  rcases key with ⟨i, y', k1, k2, k3, k4, k5⟩ | ⟨i, y1, σ, cs, o, k1, k2, k3, k4, k5, k6⟩
  · exact ⟨nI 0, y', i, k1, k5, k2, k3, Or.inl ⟨rfl, k4⟩⟩
  · obtain ⟨y2, s1, s2, s3⟩ := m_settle (N := N) hN hM hp (r := 1) (by omega) (by omega) k4
    have q2 : Q i y2 := hQ.2.2 i y1 y2 k2 (s3.1 61 (by omega) (by omega) (by omega) (by omega) (by omega)) (fun k hk => s3.2.1 k (by omega))
    have hi := q_lt k3
    have hb := s2.2.1
    rw [brk_stl (Nat.le_refl 1)] at hb
    have hb5 := brk_opn σ
    have h12 := k4.2.2.2.2.2.2.2.2.2.2.2
    rw [drop_t k3, zMac, if_pos rfl] at k5
    rw [k1]
    by_cases hb0 : brk σ = 0
    · rw [if_pos hb0] at k5
      refine ⟨nI 1, y2, i, ?_, k6.trans s3.fp, q2, by omega, Or.inr ⟨rfl, k3, o ++ pps 1 σ, ?_, s2.2.2.2.2.1, s2.2.2.2.2.2.1⟩⟩
      · rw [hb0] at hb
        simp (disch := (first | omega | (simp only [shm_l41 hM, shm_l42 hM, shm_l43 hM, shm_l44 hM, shm_l45 hM, shm_l46 hM, shm_l47 hM, shm_l48 hM, shm_l49 hM, shm_l50 hM, shm_l51 hM, shm_l52 hM, shm_l53 hM, shm_l54 hM, shm_l55 hM, shm_l56 hM, shm_l57 hM, shm_l58 hM, shm_l59 hM, shm_l60 hM, shm_l61 hM, shm_l62 hM, shm_l63 hM, shm_l64 hM, shm_l65 hM, shm_l66 hM, shm_l67 hM, shm_l68 hM, shm_l69 hM, shm_l70 hM, shm_l71 hM, shm_l72 hM, shm_l73 hM, shm_l74 hM, shm_l75 hM, shm_l76 hM, shm_l77 hM, shm_l78 hM, shm_l79 hM, shm_l80 hM]; omega))) only [s1, hb, ↓reduceIte, ↓bl_e, bd_e, u1_f, u1_s, u2_f, u2_s, w_cl, w_ltT, w_ltF, w_leT, w_leF, w_eqT, w_eqF, w_mlt, w_ltm, w_mle, w_lem, w_eqm, w_meq, w_mltm, nI_add, w_sub, w_addm, up_s, up_n, ud_s, ud_n, ck_n, bz_0, bz_1]
      · rw [← k5, drop_t k3]
    · rw [if_neg hb0] at k5
      refine ⟨nI 0, y2, i, ?_, k6.trans s3.fp, q2, by omega, Or.inl ⟨rfl, ?_⟩⟩
      · have hne : (nI (brk σ) = nI 0) = False := w_eqF hb0 (by omega) (by omega)
        simp (disch := (first | omega | (simp only [shm_l41 hM, shm_l42 hM, shm_l43 hM, shm_l44 hM, shm_l45 hM, shm_l46 hM, shm_l47 hM, shm_l48 hM, shm_l49 hM, shm_l50 hM, shm_l51 hM, shm_l52 hM, shm_l53 hM, shm_l54 hM, shm_l55 hM, shm_l56 hM, shm_l57 hM, shm_l58 hM, shm_l59 hM, shm_l60 hM, shm_l61 hM, shm_l62 hM, shm_l63 hM, shm_l64 hM, shm_l65 hM, shm_l66 hM, shm_l67 hM, shm_l68 hM, shm_l69 hM, shm_l70 hM, shm_l71 hM, shm_l72 hM, shm_l73 hM, shm_l74 hM, shm_l75 hM, shm_l76 hM, shm_l77 hM, shm_l78 hM, shm_l79 hM, shm_l80 hM]; omega))) only [s1, hb, hne, ↓reduceIte, ↓bl_e, bd_e, u1_f, u1_s, u2_f, u2_s, w_cl, w_ltT, w_ltF, w_leT, w_leF, w_eqT, w_eqF, w_mlt, w_ltm, w_mle, w_lem, w_eqm, w_meq, w_mltm, nI_add, w_sub, w_addm, up_s, up_n, ud_s, ud_n, ck_n, bz_0, bz_1]
      · rw [← k5, drop_t k3]
end PART2
