/-! LAYER 3: texts: what is held, what is put -/
theorem stl_len (r : Nat) : ∀ σ, (stl r σ).length + (pps r σ).length = σ.length
  | [] => rfl
  | c :: σ => by
    by_cases e : r ≤ rk c
    · rw [show stl r (c :: σ) = stl r σ from if_pos e, show pps r (c :: σ) = c :: pps r σ from if_pos e, List.length_cons, List.length_cons, ← stl_len r σ]; omega
    · rw [show stl r (c :: σ) = c :: σ from if_neg e, show pps r (c :: σ) = [] from if_neg e]; rfl
theorem opn_stl (r : Nat) : ∀ σ, opn (stl r σ) ≤ opn σ
  | [] => Nat.le_refl _
  | c :: σ => by
    by_cases e : r ≤ rk c
    · rw [show stl r (c :: σ) = stl r σ from if_pos e]
      refine Nat.le_trans (opn_stl r σ) ?_
      by_cases h : isO c = true
      · rw [opn_s h]; omega
      · rw [opn_n (by simpa using h)]; exact Nat.le_refl _
    · rw [show stl r (c :: σ) = c :: σ from if_neg e]; exact Nat.le_refl _
theorem stl_mem {r : Nat} : ∀ {σ : List Nat}, ∀ c, c ∈ stl r σ → c ∈ σ
  | [], c, h => h
  | d :: σ, c, h => by
    by_cases e : r ≤ rk d
    · rw [show stl r (d :: σ) = stl r σ from if_pos e] at h
      exact List.mem_cons_of_mem _ (stl_mem c h)
    · rw [show stl r (d :: σ) = d :: σ from if_neg e] at h
      exact h
section HOLD
variable {N : Nat} {Sm : SH} {p : Nat} {σ : List Nat} {cs : List Bool} {o : List Nat} {y : DY}
set_option maxHeartbeats 1600000 in
/-- a sign of two sides, a not, a turning -/
theorem m_hold (hM : SHM Sm) {c : Nat} (h : zSt y p σ cs o) (hc : zOp c) (h9 : c ≠ 20009) (hl : σ.length + 1 + o.length ≤ 160) (ho : opn (c :: σ) ≤ 5) : ∃ y', f_X12_hold N Sm 40 (encS c) y = some y' ∧ zSt y' p (c :: σ) cs o ∧ zFs p y y' := by
  obtain ⟨s1, s2, s3, s4, s5, s6, s7, s8, s9, s10, s11, s12⟩ := h
  have key : ∀ u, u = opn (c :: σ) → zSt (U1 (U1 (U1 y 64 σ.length (encS c)) 40 39 (nI (σ.length + 1))) 40 41 (nI u)) p (c :: σ) cs o := fun u hu => by
    refine ⟨?_, ?_, ?_, ?_, ?_, fun j hj => ?_, fun j hj => ?_, by rw [s8, brk_n h9], fun j hj => ?_, fun c' hc' => ?_, hl, ho⟩
    · simp (disch := omega) only [u1_f, u1_s, u2_f, u2_s, up_s, up_n, ud_s, ud_n]; rfl
    · simp (disch := omega) only [u1_f, u1_s, u2_f, u2_s, up_s, up_n, ud_s, ud_n]; rw [s2, brk_n h9]
    · simp (disch := omega) only [u1_f, u1_s, u2_f, u2_s, up_s, up_n, ud_s, ud_n]; rw [hu]
    · simp (disch := omega) only [u1_f, u1_s, u2_f, u2_s, up_s, up_n, ud_s, ud_n]; exact s4
    · simp (disch := omega) only [u1_f, u1_s, u2_f, u2_s, up_s, up_n, ud_s, ud_n]; exact s5
    · simp (disch := omega) only [u1_f, u1_s, u2_f, u2_s, up_s, up_n, ud_s, ud_n]; exact s6 j hj
    · have hj' : j < σ.length + 1 := hj
      simp (disch := omega) only [u1_f, u1_s, u2_f, u2_s, up_s, up_n, ud_s, ud_n]
      rw [List.reverse_cons, List.getD_eq_getElem?_getD]
      by_cases e : j = σ.length
      · subst e; rw [ud_s, List.getElem?_append_right (by rw [List.length_reverse]; exact Nat.le_refl _), List.length_reverse, Nat.sub_self]; rfl
      · rw [ud_n e, List.getElem?_append_left (by rw [List.length_reverse]; omega), ← List.getD_eq_getElem?_getD]; exact s7 j (by omega)
    · rw [brk_n h9] at hj ⊢
      simp (disch := omega) only [u1_f, u1_s, u2_f, u2_s, up_s, up_n, ud_s, ud_n]; exact s9 j hj
    · rcases List.mem_cons.mp hc' with rfl | h
      · exact hc
      · exact s10 c' h
  have hfs : ∀ u, zFs p y (U1 (U1 (U1 y 64 σ.length (encS c)) 40 39 (nI (σ.length + 1))) 40 41 u) := fun u => ⟨fun b h1 h2 h3 h4 h5 => by simp (disch := omega) only [u1_f, u1_s, u2_f, u2_s, up_s, up_n, ud_s, ud_n], fun k hk => by simp (disch := omega) only [u1_f, u1_s, u2_f, u2_s, up_s, up_n, ud_s, ud_n], fun q hq => by simp (disch := omega) only [u1_f, u1_s, u2_f, u2_s, up_s, up_n, ud_s, ud_n], fun q hq => by simp (disch := omega) only [u1_f, u1_s, u2_f, u2_s, up_s, up_n, ud_s, ud_n], rfl⟩
  have h10 : ¬ encS c = -nI 10 := by
    obtain ⟨h1, h2⟩ := hc
    obtain rfl | rfl | rfl | rfl | rfl | rfl | rfl | rfl | rfl | rfl : c = 20000 ∨ c = 20001 ∨ c = 20002 ∨ c = 20003 ∨ c = 20004 ∨ c = 20005 ∨ c = 20006 ∨ c = 20007 ∨ c = 20008 ∨ c = 20009 := by omega
    all_goals first
      | decide
      | exact absurd rfl h9
  rcases m_isO hc h9 with ⟨hO, ho3⟩ | ⟨hO, ho3, ho9⟩
  · refine ⟨_, ?_, key (opn σ + 1) (opn_s hO).symm, hfs _⟩
    rcases ho3 with h3 | ⟨h3, h3'⟩
    · simp (disch := (first | omega | (simp only [shm_l41 hM, shm_l42 hM, shm_l43 hM, shm_l44 hM, shm_l45 hM, shm_l46 hM, shm_l47 hM, shm_l48 hM, shm_l49 hM, shm_l50 hM, shm_l51 hM, shm_l52 hM, shm_l53 hM, shm_l54 hM, shm_l55 hM, shm_l56 hM, shm_l57 hM, shm_l58 hM, shm_l59 hM, shm_l60 hM, shm_l61 hM, shm_l62 hM, shm_l63 hM, shm_l64 hM, shm_l65 hM, shm_l66 hM, shm_l67 hM, shm_l68 hM, shm_l69 hM, shm_l70 hM, shm_l71 hM, shm_l72 hM, shm_l73 hM, shm_l74 hM, shm_l75 hM, shm_l76 hM, shm_l77 hM, shm_l78 hM, shm_l79 hM, shm_l80 hM]; omega))) only [f_X12_hold, j_X12_hold_38, shm_p5 hM, shm_p6 hM, shm_p7 hM, shm_p8 hM, shm_p9 hM, shm_p10 hM, shm_p11 hM, shm_p12 hM, shm_p13 hM, shm_p14 hM, shm_p15 hM, shm_p16 hM, shm_p19 hM, shm_p20 hM, shm_p21 hM, shm_p22 hM, shm_p23 hM, shm_p24 hM, shm_p25 hM, shm_p26 hM, shm_p27 hM, shm_p31 hM, shm_p32 hM, shm_p37 hM, shm_p38 hM, shm_p43 hM, shm_p44 hM, shm_p48 hM, shm_p49 hM, shm_p50 hM, shm_p51 hM, shm_p52 hM, shm_p53 hM, shm_p54 hM, shm_p55 hM, shm_p62 hM, shm_p63 hM, shm_p64 hM, shm_p65 hM, shm_p66 hM, s1, s3, eq_true h3, ↓eM, eL_0, eL_1, eL_2, eL_3, eL_4, eL_5, eL_6, eL_7, eL_8, eL_9, eL_10, eL_11, eL_12, eL_15, eL_16, eL_20, eL_24, eL_30, eL_31, eL_32, eL_39, eL_40, eL_41, eL_42, eL_43, eL_45, eL_47, eL_48, eL_49, eL_50, eL_57, eL_59, eL_60, eL_61, eL_90, eL_96, eL_97, eL_100, eL_122, eL_160, eL_161, eL_255, eL_300, eL_343, eL_999, eL_1000, eL_1920, eL_9999, eL_10000, eL_999999, eL_100000, eL_1000000, ↓reduceIte, ↓bl_e, bd_e, u1_f, u1_s, u2_f, u2_s, w_cl, w_ltT, w_ltF, w_leT, w_leF, w_eqT, w_eqF, w_mlt, w_ltm, w_mle, w_lem, w_eqm, w_meq, w_mltm, nI_add, w_sub, w_addm, up_s, up_n, ud_s, ud_n, ck_n, bz_0, bz_1]
    · simp (disch := (first | omega | (simp only [shm_l41 hM, shm_l42 hM, shm_l43 hM, shm_l44 hM, shm_l45 hM, shm_l46 hM, shm_l47 hM, shm_l48 hM, shm_l49 hM, shm_l50 hM, shm_l51 hM, shm_l52 hM, shm_l53 hM, shm_l54 hM, shm_l55 hM, shm_l56 hM, shm_l57 hM, shm_l58 hM, shm_l59 hM, shm_l60 hM, shm_l61 hM, shm_l62 hM, shm_l63 hM, shm_l64 hM, shm_l65 hM, shm_l66 hM, shm_l67 hM, shm_l68 hM, shm_l69 hM, shm_l70 hM, shm_l71 hM, shm_l72 hM, shm_l73 hM, shm_l74 hM, shm_l75 hM, shm_l76 hM, shm_l77 hM, shm_l78 hM, shm_l79 hM, shm_l80 hM]; omega))) only [f_X12_hold, j_X12_hold_38, shm_p5 hM, shm_p6 hM, shm_p7 hM, shm_p8 hM, shm_p9 hM, shm_p10 hM, shm_p11 hM, shm_p12 hM, shm_p13 hM, shm_p14 hM, shm_p15 hM, shm_p16 hM, shm_p19 hM, shm_p20 hM, shm_p21 hM, shm_p22 hM, shm_p23 hM, shm_p24 hM, shm_p25 hM, shm_p26 hM, shm_p27 hM, shm_p31 hM, shm_p32 hM, shm_p37 hM, shm_p38 hM, shm_p43 hM, shm_p44 hM, shm_p48 hM, shm_p49 hM, shm_p50 hM, shm_p51 hM, shm_p52 hM, shm_p53 hM, shm_p54 hM, shm_p55 hM, shm_p62 hM, shm_p63 hM, shm_p64 hM, shm_p65 hM, shm_p66 hM, s1, s3, eq_false h3, eq_true h3', ↓eM, eL_0, eL_1, eL_2, eL_3, eL_4, eL_5, eL_6, eL_7, eL_8, eL_9, eL_10, eL_11, eL_12, eL_15, eL_16, eL_20, eL_24, eL_30, eL_31, eL_32, eL_39, eL_40, eL_41, eL_42, eL_43, eL_45, eL_47, eL_48, eL_49, eL_50, eL_57, eL_59, eL_60, eL_61, eL_90, eL_96, eL_97, eL_100, eL_122, eL_160, eL_161, eL_255, eL_300, eL_343, eL_999, eL_1000, eL_1920, eL_9999, eL_10000, eL_999999, eL_100000, eL_1000000, ↓reduceIte, ↓bl_e, bd_e, u1_f, u1_s, u2_f, u2_s, w_cl, w_ltT, w_ltF, w_leT, w_leF, w_eqT, w_eqF, w_mlt, w_ltm, w_mle, w_lem, w_eqm, w_meq, w_mltm, nI_add, w_sub, w_addm, up_s, up_n, ud_s, ud_n, ck_n, bz_0, bz_1]
  · have hself : U1 (U1 (U1 y 64 σ.length (encS c)) 40 39 (nI (σ.length + 1))) 40 41 (nI (opn (c :: σ))) = U1 (U1 y 64 σ.length (encS c)) 40 39 (nI (σ.length + 1)) := U1_self (by simp (disch := omega) only [u1_f, u1_s, u2_f, u2_s, up_s, up_n, ud_s, ud_n]; rw [s3, opn_n hO])
    refine ⟨U1 (U1 y 64 σ.length (encS c)) 40 39 (nI (σ.length + 1)), ?_, by rw [← hself]; exact key _ rfl, by rw [← hself]; exact hfs _⟩
    simp (disch := (first | omega | (simp only [shm_l41 hM, shm_l42 hM, shm_l43 hM, shm_l44 hM, shm_l45 hM, shm_l46 hM, shm_l47 hM, shm_l48 hM, shm_l49 hM, shm_l50 hM, shm_l51 hM, shm_l52 hM, shm_l53 hM, shm_l54 hM, shm_l55 hM, shm_l56 hM, shm_l57 hM, shm_l58 hM, shm_l59 hM, shm_l60 hM, shm_l61 hM, shm_l62 hM, shm_l63 hM, shm_l64 hM, shm_l65 hM, shm_l66 hM, shm_l67 hM, shm_l68 hM, shm_l69 hM, shm_l70 hM, shm_l71 hM, shm_l72 hM, shm_l73 hM, shm_l74 hM, shm_l75 hM, shm_l76 hM, shm_l77 hM, shm_l78 hM, shm_l79 hM, shm_l80 hM]; omega))) only [f_X12_hold, j_X12_hold_38, shm_p5 hM, shm_p6 hM, shm_p7 hM, shm_p8 hM, shm_p9 hM, shm_p10 hM, shm_p11 hM, shm_p12 hM, shm_p13 hM, shm_p14 hM, shm_p15 hM, shm_p16 hM, shm_p19 hM, shm_p20 hM, shm_p21 hM, shm_p22 hM, shm_p23 hM, shm_p24 hM, shm_p25 hM, shm_p26 hM, shm_p27 hM, shm_p31 hM, shm_p32 hM, shm_p37 hM, shm_p38 hM, shm_p43 hM, shm_p44 hM, shm_p48 hM, shm_p49 hM, shm_p50 hM, shm_p51 hM, shm_p52 hM, shm_p53 hM, shm_p54 hM, shm_p55 hM, shm_p62 hM, shm_p63 hM, shm_p64 hM, shm_p65 hM, shm_p66 hM, s1, s3, eq_false ho3, eq_false ho9, eq_false h10, ↓eM, eL_0, eL_1, eL_2, eL_3, eL_4, eL_5, eL_6, eL_7, eL_8, eL_9, eL_10, eL_11, eL_12, eL_15, eL_16, eL_20, eL_24, eL_30, eL_31, eL_32, eL_39, eL_40, eL_41, eL_42, eL_43, eL_45, eL_47, eL_48, eL_49, eL_50, eL_57, eL_59, eL_60, eL_61, eL_90, eL_96, eL_97, eL_100, eL_122, eL_160, eL_161, eL_255, eL_300, eL_343, eL_999, eL_1000, eL_1920, eL_9999, eL_10000, eL_999999, eL_100000, eL_1000000, ↓reduceIte, ↓bl_e, bd_e, u1_f, u1_s, u2_f, u2_s, w_cl, w_ltT, w_ltF, w_leT, w_leF, w_eqT, w_eqF, w_mlt, w_ltm, w_mle, w_lem, w_eqm, w_meq, w_mltm, nI_add, w_sub, w_addm, up_s, up_n, ud_s, ud_n, ck_n, bz_0, bz_1]
/-- a value -/
theorem m_val (hM : SHM Sm) {v : Nat} (h : zSt y p σ cs o) (hp : p < 12) (hl : σ.length + (o.length + 1) ≤ 160) (hv : v < 10006) : ∃ y', f_X12_put N Sm 40 (nI v) y = some y' ∧ zSt y' p σ cs (o ++ [v]) ∧ zFs p y y' := by
  obtain ⟨s1, s2, s3, s4, s5, s6, s7, s8, s9, s10, s11, s12⟩ := h
  refine ⟨_, m_put (N := N) hM s4 s5 hp (by omega) (nI v), ⟨?_, ?_, ?_, ?_, ?_, fun j hj => ?_, fun j hj => ?_, s8, fun j hj => ?_, s10, by rw [List.length_append]; exact hl, s12⟩, ⟨fun b h1 h2 h3 h4 h5 => by simp (disch := omega) only [u1_f, u1_s, u2_f, u2_s, up_s, up_n, ud_s, ud_n], fun k hk => by simp (disch := omega) only [u1_f, u1_s, u2_f, u2_s, up_s, up_n, ud_s, ud_n], fun q hq => by simp (disch := omega) only [u1_f, u1_s, u2_f, u2_s, up_s, up_n, ud_s, ud_n], fun q hq => by simp (disch := omega) only [u1_f, u1_s, u2_f, u2_s, up_s, up_n, ud_s, ud_n], rfl⟩⟩
  · simp (disch := omega) only [u1_f, u1_s, u2_f, u2_s, up_s, up_n, ud_s, ud_n]; exact s1
  · simp (disch := omega) only [u1_f, u1_s, u2_f, u2_s, up_s, up_n, ud_s, ud_n]; exact s2
  · simp (disch := omega) only [u1_f, u1_s, u2_f, u2_s, up_s, up_n, ud_s, ud_n]; exact s3
  · simp (disch := omega) only [u1_f, u1_s, u2_f, u2_s, up_s, up_n, ud_s, ud_n]; exact s4
  · simp (disch := omega) only [u1_f, u1_s, u2_f, u2_s, up_s, up_n, ud_s, ud_n]; rw [List.length_append]; rfl
  · rw [List.length_append] at hj
    have hj' : j < o.length + 1 := hj
    simp (disch := omega) only [u1_f, u1_s, u2_f, u2_s, up_s, up_n, ud_s, ud_n]
    rw [List.getD_eq_getElem?_getD]
    by_cases e2 : j = o.length
    · subst e2; rw [ud_s, List.getElem?_append_right (Nat.le_refl _), Nat.sub_self]; exact (if_pos hv).symm
    · rw [ud_n (by omega), List.getElem?_append_left (by omega), ← List.getD_eq_getElem?_getD]; exact s6 j (by omega)
  · simp (disch := omega) only [u1_f, u1_s, u2_f, u2_s, up_s, up_n, ud_s, ud_n]; exact s7 j hj
  · simp (disch := omega) only [u1_f, u1_s, u2_f, u2_s, up_s, up_n, ud_s, ud_n]; exact s9 j hj
set_option maxHeartbeats 1600000 in
/-- an opening bracket -/
theorem m_open (hM : SHM Sm) (h : zSt y p σ cs o) (hl : σ.length + 1 + o.length ≤ 160) (ho : opn σ < 5) : ∃ y', Option.bind (f_X12_hold N Sm 40 (-nI 10) y) (fun r57 => bl (U1 r57 40 40 ((r57.1 40 40) + nI 1)) (fun x58 => ck Sm (pr Sm 40 38) (x58.1 40 40) (bl (U1 x58 (pr Sm 40 38) (x58.1 40 40).toNatClampNeg (vp_nar .boolean (nI 0))) (fun x61 => some x61)))) = some y' ∧ zSt y' p (20009 :: σ) (false :: cs) o ∧ zFs p y y' := by
  obtain ⟨s1, s2, s3, s4, s5, s6, s7, s8, s9, s10, s11, s12⟩ := h
  have hb := brk_opn σ
  refine ⟨U1 (U1 (U1 (U1 (U1 y 64 σ.length (-nI 10)) 40 39 (nI (σ.length + 1))) 40 41 (nI (opn σ + 1))) 40 40 (nI (brk σ + 1))) 65 (brk σ + 1) (nI 0), ?_, ⟨?_, ?_, ?_, ?_, ?_, fun j hj => ?_, fun j hj => ?_, ?_, fun j hj => ?_, fun c' hc' => ?_, hl, by rw [opn_s (by rfl)]; exact ho⟩, ⟨fun b h1 h2 h3 h4 h5 => by simp (disch := omega) only [u1_f, u1_s, u2_f, u2_s, up_s, up_n, ud_s, ud_n], fun k hk => by simp (disch := omega) only [u1_f, u1_s, u2_f, u2_s, up_s, up_n, ud_s, ud_n], fun q hq => by simp (disch := omega) only [u1_f, u1_s, u2_f, u2_s, up_s, up_n, ud_s, ud_n], fun q hq => by simp (disch := omega) only [u1_f, u1_s, u2_f, u2_s, up_s, up_n, ud_s, ud_n], rfl⟩⟩
  · have n1 : (-nI 10 = -nI 3) = False := eq_false (by decide)
    have n2 : (-nI 10 = -nI 9) = False := eq_false (by decide)
    simp (disch := (first | omega | (simp only [shm_l41 hM, shm_l42 hM, shm_l43 hM, shm_l44 hM, shm_l45 hM, shm_l46 hM, shm_l47 hM, shm_l48 hM, shm_l49 hM, shm_l50 hM, shm_l51 hM, shm_l52 hM, shm_l53 hM, shm_l54 hM, shm_l55 hM, shm_l56 hM, shm_l57 hM, shm_l58 hM, shm_l59 hM, shm_l60 hM, shm_l61 hM, shm_l62 hM, shm_l63 hM, shm_l64 hM, shm_l65 hM, shm_l66 hM, shm_l67 hM, shm_l68 hM, shm_l69 hM, shm_l70 hM, shm_l71 hM, shm_l72 hM, shm_l73 hM, shm_l74 hM, shm_l75 hM, shm_l76 hM, shm_l77 hM, shm_l78 hM, shm_l79 hM, shm_l80 hM]; omega))) only [f_X12_hold, j_X12_hold_38, shm_p5 hM, shm_p6 hM, shm_p7 hM, shm_p8 hM, shm_p9 hM, shm_p10 hM, shm_p11 hM, shm_p12 hM, shm_p13 hM, shm_p14 hM, shm_p15 hM, shm_p16 hM, shm_p19 hM, shm_p20 hM, shm_p21 hM, shm_p22 hM, shm_p23 hM, shm_p24 hM, shm_p25 hM, shm_p26 hM, shm_p27 hM, shm_p31 hM, shm_p32 hM, shm_p37 hM, shm_p38 hM, shm_p43 hM, shm_p44 hM, shm_p48 hM, shm_p49 hM, shm_p50 hM, shm_p51 hM, shm_p52 hM, shm_p53 hM, shm_p54 hM, shm_p55 hM, shm_p62 hM, shm_p63 hM, shm_p64 hM, shm_p65 hM, shm_p66 hM, s1, s2, s3, n1, n2, nar0, ↓eM, eL_0, eL_1, eL_2, eL_3, eL_4, eL_5, eL_6, eL_7, eL_8, eL_9, eL_10, eL_11, eL_12, eL_15, eL_16, eL_20, eL_24, eL_30, eL_31, eL_32, eL_39, eL_40, eL_41, eL_42, eL_43, eL_45, eL_47, eL_48, eL_49, eL_50, eL_57, eL_59, eL_60, eL_61, eL_90, eL_96, eL_97, eL_100, eL_122, eL_160, eL_161, eL_255, eL_300, eL_343, eL_999, eL_1000, eL_1920, eL_9999, eL_10000, eL_999999, eL_100000, eL_1000000, ↓reduceIte, ↓bl_e, bd_e, u1_f, u1_s, u2_f, u2_s, w_cl, w_ltT, w_ltF, w_leT, w_leF, w_eqT, w_eqF, w_mlt, w_ltm, w_mle, w_lem, w_eqm, w_meq, w_mltm, nI_add, w_sub, w_addm, up_s, up_n, ud_s, ud_n, ck_n, bz_0, bz_1]
  · simp (disch := omega) only [u1_f, u1_s, u2_f, u2_s, up_s, up_n, ud_s, ud_n]; rfl
  · simp (disch := omega) only [u1_f, u1_s, u2_f, u2_s, up_s, up_n, ud_s, ud_n]; rw [brk_s]
  · simp (disch := omega) only [u1_f, u1_s, u2_f, u2_s, up_s, up_n, ud_s, ud_n]; rw [opn_s (by rfl)]
  · simp (disch := omega) only [u1_f, u1_s, u2_f, u2_s, up_s, up_n, ud_s, ud_n]; exact s4
  · simp (disch := omega) only [u1_f, u1_s, u2_f, u2_s, up_s, up_n, ud_s, ud_n]; exact s5
  · simp (disch := omega) only [u1_f, u1_s, u2_f, u2_s, up_s, up_n, ud_s, ud_n]; exact s6 j hj
  · have hj' : j < σ.length + 1 := hj
    simp (disch := omega) only [u1_f, u1_s, u2_f, u2_s, up_s, up_n, ud_s, ud_n]
    rw [List.reverse_cons, List.getD_eq_getElem?_getD]
    by_cases e : j = σ.length
    · subst e; rw [ud_s, List.getElem?_append_right (by rw [List.length_reverse]; exact Nat.le_refl _), List.length_reverse, Nat.sub_self]; rfl
    · rw [ud_n e, List.getElem?_append_left (by rw [List.length_reverse]; omega), ← List.getD_eq_getElem?_getD]; exact s7 j (by omega)
  · rw [List.length_cons, s8, brk_s]
  · rw [brk_s] at hj ⊢
    simp (disch := omega) only [u1_f, u1_s, u2_f, u2_s, up_s, up_n, ud_s, ud_n]
    by_cases e : j = brk σ + 1
    · subst e; rw [ud_s, Nat.sub_self]; rfl
    · rw [ud_n e, show brk σ + 1 - j = (brk σ - j) + 1 by omega]
      exact s9 j (by omega)
  · rcases List.mem_cons.mp hc' with rfl | h
    · exact ⟨by omega, by omega⟩
    · exact s10 c' h
end HOLD
