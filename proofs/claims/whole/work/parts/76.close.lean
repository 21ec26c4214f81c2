/-! LAYER 3: texts: the reference's part, a closing bracket -/
section CLOSE
variable {N : Nat} {Sm : SH} {T : List ZT} {Q : Nat → DY → Prop} {p : Nat} {R : ZR} {y0 : DY} {K1 : DY → Option (Int32 × DY)}
theorem stl_open : ∀ {σ : List Nat}, ¬ brk σ = 0 → (∀ c, c ∈ σ → zOp c) → ∃ τ, stl 1 σ = 20009 :: τ
  | [], h, _ => absurd rfl h
  | c :: σ, h, hz => by
    by_cases e : c = 20009
    · subst e; exact ⟨σ, rfl⟩
    · rw [brk_n e] at h
      obtain ⟨τ, hτ⟩ := stl_open h (fun c' hc => hz c' (List.mem_cons_of_mem _ hc))
      have hr : 1 ≤ rk c := by
        obtain ⟨h1, h2⟩ := hz c (List.mem_cons_self ..)
        obtain rfl | rfl | rfl | rfl | rfl | rfl | rfl | rfl | rfl | rfl : c = 20000 ∨ c = 20001 ∨ c = 20002 ∨ c = 20003 ∨ c = 20004 ∨ c = 20005 ∨ c = 20006 ∨ c = 20007 ∨ c = 20008 ∨ c = 20009 := by omega
        all_goals first
          | decide
          | exact absurd rfl e
      exact ⟨τ, by rw [show stl 1 (c :: σ) = stl 1 σ from if_pos hr]; exact hτ⟩
theorem m_drop {y : DY} {τ : List Nat} {c : Bool} {cs : List Bool} {o : List Nat} (h : zSt y p (20009 :: τ) (c :: cs) o) : zSt (U1 (U1 (U1 y 40 39 (nI τ.length)) 40 41 (nI (opn τ))) 40 40 (nI (brk τ))) p τ cs o ∧ zFs p y (U1 (U1 (U1 y 40 39 (nI τ.length)) 40 41 (nI (opn τ))) 40 40 (nI (brk τ))) := by
  obtain ⟨s1, s2, s3, s4, s5, s6, s7, s8, s9, s10, s11, s12⟩ := h
  rw [brk_s] at s8 s9
  rw [List.length_cons] at s8 s11
  rw [opn_s (by rfl)] at s12
  refine ⟨⟨?_, ?_, ?_, ?_, ?_, fun j hj => ?_, fun j hj => ?_, by omega, fun j hj => ?_, fun c' hc' => s10 c' (List.mem_cons_of_mem _ hc'), by omega, by omega⟩, ⟨fun b h1 h2 h3 h4 h5 => by simp (disch := omega) only [u1_f, u1_s, u2_f, u2_s, up_s, up_n, ud_s, ud_n], fun k hk => by simp (disch := omega) only [u1_f, u1_s, u2_f, u2_s, up_s, up_n, ud_s, ud_n], fun q hq => by simp (disch := omega) only [u1_f, u1_s, u2_f, u2_s, up_s, up_n, ud_s, ud_n], fun q hq => by simp (disch := omega) only [u1_f, u1_s, u2_f, u2_s, up_s, up_n, ud_s, ud_n], rfl⟩⟩
  · simp (disch := omega) only [u1_f, u1_s, u2_f, u2_s, up_s, up_n, ud_s, ud_n]
  · simp (disch := omega) only [u1_f, u1_s, u2_f, u2_s, up_s, up_n, ud_s, ud_n]
  · simp (disch := omega) only [u1_f, u1_s, u2_f, u2_s, up_s, up_n, ud_s, ud_n]
  · simp (disch := omega) only [u1_f, u1_s, u2_f, u2_s, up_s, up_n, ud_s, ud_n]; exact s4
  · simp (disch := omega) only [u1_f, u1_s, u2_f, u2_s, up_s, up_n, ud_s, ud_n]; exact s5
  · simp (disch := omega) only [u1_f, u1_s, u2_f, u2_s, up_s, up_n, ud_s, ud_n]; exact s6 j hj
  · simp (disch := omega) only [u1_f, u1_s, u2_f, u2_s, up_s, up_n, ud_s, ud_n]
    rw [s7 j (by rw [List.length_cons]; omega), List.reverse_cons, List.getD_eq_getElem?_getD, List.getElem?_append_left (by rw [List.length_reverse]; exact hj), ← List.getD_eq_getElem?_getD]
  · simp (disch := omega) only [u1_f, u1_s, u2_f, u2_s, up_s, up_n, ud_s, ud_n]
    have := s9 j (by omega)
    rw [show brk τ + 1 - j = (brk τ - j) + 1 by omega] at this
    exact this
set_option maxHeartbeats 3200000 in
theorem m_close (hN : 600 ≤ N) (hM : SHM Sm) (hp : p < 12) (hT : T.length ≤ 160) (hQ : zLx N Sm T Q) {i : Nat} {b : Bool} {σ : List Nat} {c : Bool} {cs : List Bool} {o : List Nat} {y : DY} {p2 : Int32} (h : zInv T Q p R y0 i false b σ c cs o y) (h41 : T[i]? = some (4, 41)) :
    (∃ w' b' σ' c' cs' o' y' u, (w' = true → u = bI b') ∧ zInv T Q p R y0 (i + 1) w' b' σ' c' cs' o' y' ∧ ∀ bk : Int32 → Int32 → DY → Option (Int32 × DY), lp_X12_part_36_b N Sm K1 bk 40 (nI 0) p2 y = bk (bI w') u y') ∨ (R = .error (T.drop i) ∧ ∀ bk : Int32 → Int32 → DY → Option (Int32 × DY), lp_X12_part_36_b N Sm K1 bk 40 (nI 0) p2 y = some (nI 0, y)) := by
  obtain ⟨hq, hz, hl, hR, h0⟩ := h
  have hi := q_lt h41
  obtain ⟨hok, t34, t35⟩ := (hQ.1 i y hq).1 _ h41
  have t34' : y.1 40 34 = nI 4 := t34
  have t35' : y.1 40 35 = nI 41 := t35 (by decide)
  have s2 := hz.2.1
  have hb := brk_opn σ
  have s12 := hz.2.2.2.2.2.2.2.2.2.2.2
  rw [drop_t h41, zMac, if_neg (by decide), if_pos rfl] at hR
  by_cases hb0 : brk σ = 0
  · rw [if_pos hb0] at hR
    have s2' : y.1 40 40 = nI 0 := by rw [s2, hb0]
    refine Or.inr ⟨by rw [drop_t h41]; exact hR.symm, fun bk => ?_⟩
    simp (disch := (first | omega | (simp only [shm_l41 hM, shm_l42 hM, shm_l43 hM, shm_l44 hM, shm_l45 hM, shm_l46 hM, shm_l47 hM, shm_l48 hM, shm_l49 hM, shm_l50 hM, shm_l51 hM, shm_l52 hM, shm_l53 hM, shm_l54 hM, shm_l55 hM, shm_l56 hM, shm_l57 hM, shm_l58 hM, shm_l59 hM, shm_l60 hM, shm_l61 hM, shm_l62 hM, shm_l63 hM, shm_l64 hM, shm_l65 hM, shm_l66 hM, shm_l67 hM, shm_l68 hM, shm_l69 hM, shm_l70 hM, shm_l71 hM, shm_l72 hM, shm_l73 hM, shm_l74 hM, shm_l75 hM, shm_l76 hM, shm_l77 hM, shm_l78 hM, shm_l79 hM, shm_l80 hM]; omega))) only [lp_X12_part_36_b, f_X12_isSign, t34', t35', s2', ↓eM, eL_0, eL_1, eL_2, eL_3, eL_4, eL_5, eL_6, eL_7, eL_8, eL_9, eL_10, eL_11, eL_12, eL_15, eL_16, eL_20, eL_24, eL_30, eL_31, eL_32, eL_39, eL_40, eL_41, eL_42, eL_43, eL_45, eL_47, eL_48, eL_49, eL_50, eL_57, eL_59, eL_60, eL_61, eL_90, eL_96, eL_97, eL_100, eL_122, eL_160, eL_161, eL_255, eL_300, eL_343, eL_999, eL_1000, eL_1920, eL_9999, eL_10000, eL_999999, eL_100000, eL_1000000, ↓reduceIte, ↓bl_e, bd_e, u1_f, u1_s, u2_f, u2_s, w_cl, w_ltT, w_ltF, w_leT, w_leF, w_eqT, w_eqF, w_mlt, w_ltm, w_mle, w_lem, w_eqm, w_meq, w_mltm, nI_add, w_sub, w_addm, up_s, up_n, ud_s, ud_n, ck_n, bz_0, bz_1]
  rw [if_neg hb0] at hR
  obtain ⟨τ, hτ⟩ := stl_open hb0 hz.2.2.2.2.2.2.2.2.2.1
  obtain ⟨y1, e1, z1, f1⟩ := m_settle (N := N) hN hM hp (r := 1) (by omega) (by omega) hz
  have hsl := stl_len 1 σ
  rw [hτ] at z1 hR hsl
  obtain ⟨z2, f2⟩ := m_drop z1
  obtain ⟨y3, e3, z3, f3⟩ := m_settle (N := N) hN hM hp (r := 7) (by omega) (by omega) z2
  obtain ⟨y4, e4, q4, z4, f4⟩ := m_nx hQ hi hq (f1.trans (f2.trans f3)) z3 h0
  have hsl2 := stl_len 7 τ
  rw [List.length_cons] at hsl
  have k1 := z1.1
  have k2 := z1.2.1
  have k3 := z1.2.2.1
  rw [brk_s] at k2
  rw [opn_s (by rfl)] at k3
  rw [List.length_cons] at k1
  have k8 := z1.2.2.2.2.2.2.2.1
  rw [brk_s] at k8
  obtain ⟨c2, cs2, rfl⟩ : ∃ c2 cs2, cs = c2 :: cs2 := by
    cases cs with
    | nil => exact absurd k8 (by show ¬ (1 = brk τ + 1 + 1); omega)
    | cons a l => exact ⟨a, l, rfl⟩
  refine Or.inl ⟨false, false, stl 7 τ, c2, cs2, o ++ pps 1 σ ++ pps 7 τ, y4, p2, (fun e => by cases e), ⟨q4, z4, by rw [List.length_append, List.length_append]; omega, hR, f4⟩, fun bk => ?_⟩
  have hbr : (nI (brk σ) = nI 0) = False := w_eqF hb0 (by omega) (by omega)
  show _ = bk (nI 0) p2 y4
  simp (disch := (first | omega | (simp only [shm_l41 hM, shm_l42 hM, shm_l43 hM, shm_l44 hM, shm_l45 hM, shm_l46 hM, shm_l47 hM, shm_l48 hM, shm_l49 hM, shm_l50 hM, shm_l51 hM, shm_l52 hM, shm_l53 hM, shm_l54 hM, shm_l55 hM, shm_l56 hM, shm_l57 hM, shm_l58 hM, shm_l59 hM, shm_l60 hM, shm_l61 hM, shm_l62 hM, shm_l63 hM, shm_l64 hM, shm_l65 hM, shm_l66 hM, shm_l67 hM, shm_l68 hM, shm_l69 hM, shm_l70 hM, shm_l71 hM, shm_l72 hM, shm_l73 hM, shm_l74 hM, shm_l75 hM, shm_l76 hM, shm_l77 hM, shm_l78 hM, shm_l79 hM, shm_l80 hM]; omega))) only [lp_X12_part_36_b, f_X12_isSign, t34', t35', s2, hbr, e1, k1, k2, k3, Nat.add_sub_cancel, e3, e4, ↓eM, eL_0, eL_1, eL_2, eL_3, eL_4, eL_5, eL_6, eL_7, eL_8, eL_9, eL_10, eL_11, eL_12, eL_15, eL_16, eL_20, eL_24, eL_30, eL_31, eL_32, eL_39, eL_40, eL_41, eL_42, eL_43, eL_45, eL_47, eL_48, eL_49, eL_50, eL_57, eL_59, eL_60, eL_61, eL_90, eL_96, eL_97, eL_100, eL_122, eL_160, eL_161, eL_255, eL_300, eL_343, eL_999, eL_1000, eL_1920, eL_9999, eL_10000, eL_999999, eL_100000, eL_1000000, ↓reduceIte, ↓bl_e, bd_e, u1_f, u1_s, u2_f, u2_s, w_cl, w_ltT, w_ltF, w_leT, w_leF, w_eqT, w_eqF, w_mlt, w_ltm, w_mle, w_lem, w_eqm, w_meq, w_mltm, nI_add, w_sub, w_addm, up_s, up_n, ud_s, ud_n, ck_n, bz_0, bz_1]
end CLOSE
