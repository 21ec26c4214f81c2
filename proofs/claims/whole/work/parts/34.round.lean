/-! LAYER 3: the belt's turn on both sides, and the stale one -/
def zStM (N : Nat) (S : SH) (a0 : Nat) (y26 : DY) : Option DY := ck S (pr S a0 13) 0 ((if (y26.1 (pr S a0 13) (0 : Int32).toNatClampNeg) < 0 then some y26 else ck S (pr S a0 13) 0 (ck S (pr S a0 10) (y26.1 (pr S a0 13) (0 : Int32).toNatClampNeg) (ck S (pr S a0 13) 0 (ck S (pr S a0 8) (y26.1 (pr S a0 13) (0 : Int32).toNatClampNeg) (ck S (pr S a0 6) (y26.1 (pr S a0 8) (y26.1 (pr S a0 13) (0 : Int32).toNatClampNeg).toNatClampNeg) ((if (y26.1 (pr S a0 6) (y26.1 (pr S a0 8) (y26.1 (pr S a0 13) (0 : Int32).toNatClampNeg).toNatClampNeg).toNatClampNeg) < (y26.1 (pr S a0 10) (y26.1 (pr S a0 13) (0 : Int32).toNatClampNeg).toNatClampNeg) then ck S (pr S a0 13) 0 (Option.bind (f_X12_ends N S a0 (y26.1 (pr S a0 13) (0 : Int32).toNatClampNeg) 4 y26) (fun r41 => bl (U1 r41 a0 47 ((r41.1 a0 47) + 1)) (fun x42 => ck S (pr S a0 13) 0 (bl (U1 x42 (pr S a0 13) (0 : Int32).toNatClampNeg (-1)) (fun x44 => some x44))))) else some y26))))))))
theorem zPl.spots {M : Nat} {a2 a3 a5 a6 b44 b45 b47 b48 b52 sp' : Nat → Int32} (h : zPl M a2 a3 a5 a6 b44 b45 b47 b48 b52) (h1 : ∀ p, p < M → b47 p = nI 2 → sp' p = b48 p) : zPl M a2 a3 a5 a6 b44 b45 b47 sp' b52 := by
  intro p hp
  obtain ⟨g1, g2, g3, g4, g5, g6, g7⟩ := h p hp
  exact ⟨g1, g2, g3, g4, g5, g6, fun q => (h1 p hp q).symm ▸ g7 q⟩
theorem zI.lt {n M K W : Nat} {belt lane q st sp fs took : Nat → Int32} (h : zI n M K W belt lane q st sp fs took) : ∀ i, i < n → belt i = mO ∨ ∃ p, p < M ∧ belt i = nI p := fun i hi => by
  rcases h.1 i hi with g | ⟨p, a, b, c⟩
  · exact Or.inl g
  · exact Or.inr ⟨p, a, b⟩
theorem zI.uq {n M K W : Nat} {belt lane q st sp fs took : Nat → Int32} (h : zI n M K W belt lane q st sp fs took) (hM : M ≤ 300) (hn : n ≤ 12) : ∀ i j p, i < n → j < n → p < M → belt i = nI p → belt j = nI p → i = j ∧ st p = nI 0 := fun i j p hi hj hp e1 e2 => by
  rcases h.1 i hi with g | ⟨p1, a, b, c, d⟩
  · rw [e1] at g; exact (nI_mO g (by omega)).elim
  · rcases h.1 j hj with g | ⟨p2, a2, b2, c2, d2⟩
    · rw [e2] at g; exact (nI_mO g (by omega)).elim
    · have h1 := nI_inj (e1.symm.trans b) (by omega) (by omega)
      have h2 := nI_inj (e2.symm.trans b2) (by omega) (by omega)
      subst h1; subst h2
      exact ⟨nI_inj (d.symm.trans d2) (by omega) (by omega), c⟩
def zTP (N : Nat) (Sm : SH) (n M : Nat) (y : DY) (o : Option DY) : Prop := ∃ y1, o = zStM N Sm 40 y1 ∧ y1.2 = y.2 ∧ (∀ b, b ≠ 49 → b ≠ 48 → b ≠ 46 → y1.1 b = y.1 b) ∧ y1.1 49 0 = y.1 49 (n - 1) ∧ (∀ i, i + 1 < n → y1.1 49 (i + 1) = y.1 49 i) ∧ (∀ p, p < M → y1.1 46 p = y.1 46 p + nI (zC (y.1 49) p n)) ∧ (∀ p, p < M → (∀ i, i < n → y1.1 49 i ≠ nI p) → y1.1 48 p = y.1 48 p) ∧ (∀ p i, p < M → i < n → y1.1 49 i = nI p → y1.1 48 p = nI i)
set_option maxHeartbeats 1600000 in
theorem z_turnM {N : Nat} (hN : 600 ≤ N) {Sm : SH} {n M : Nat} (hM : SHM Sm) {y : DY} (hn0 : y.1 40 0 = nI n) (hn6 : 6 ≤ n) (hn12 : n ≤ 12) (hM3 : M ≤ 300) (hb : ∀ i, i < n → y.1 49 i = mO ∨ ∃ p, p < M ∧ y.1 49 i = nI p) (hu : ∀ i j p, i < n → j < n → p < M → y.1 49 i = nI p → y.1 49 j = nI p → i = j) :
    zTP N Sm n M y (f_X12_goRound N Sm 40 y) := by
  rw [show f_X12_goRound N Sm 40 y = ck Sm (pr Sm 40 13) ((y.1 40 0) - 1) (lp_X12_goRound_19 N Sm (fun y8 => ck Sm (pr Sm 40 13) 0 (bl (U1 y8 (pr Sm 40 13) (0 : Int32).toNatClampNeg (y.1 (pr Sm 40 13) ((y.1 40 0) - 1).toNatClampNeg)) (fun x12 => lp_X12_goRound_52 N Sm (zStM N Sm 40) 40 0 x12))) 40 (y.1 (pr Sm 40 13) ((y.1 40 0) - 1).toNatClampNeg) ((y.1 40 0) - 1) y) from rfl]
  unfold lp_X12_goRound_19
  simp (disch := (first | omega | (simp only [shm_l41 hM, shm_l42 hM, shm_l43 hM, shm_l44 hM, shm_l45 hM, shm_l46 hM, shm_l47 hM, shm_l48 hM, shm_l49 hM, shm_l50 hM, shm_l51 hM, shm_l52 hM, shm_l53 hM, shm_l54 hM, shm_l55 hM, shm_l56 hM, shm_l57 hM, shm_l58 hM, shm_l59 hM, shm_l60 hM, shm_l61 hM, shm_l62 hM, shm_l63 hM, shm_l64 hM, shm_l65 hM, shm_l66 hM, shm_l67 hM, shm_l68 hM, shm_l69 hM, shm_l70 hM, shm_l71 hM, shm_l72 hM, shm_l73 hM, shm_l74 hM, shm_l75 hM, shm_l76 hM, shm_l77 hM, shm_l78 hM, shm_l79 hM, shm_l80 hM]; omega))) only [↓eM, eL_0, eL_1, eL_2, eL_3, eL_4, eL_5, eL_6, eL_7, eL_8, eL_9, eL_10, eL_11, eL_12, eL_15, eL_16, eL_20, eL_24, eL_30, eL_31, eL_32, eL_39, eL_40, eL_41, eL_42, eL_43, eL_45, eL_47, eL_48, eL_49, eL_50, eL_57, eL_59, eL_60, eL_61, eL_90, eL_96, eL_97, eL_100, eL_122, eL_160, eL_161, eL_255, eL_300, eL_343, eL_999, eL_1000, eL_1920, eL_9999, eL_10000, eL_999999, eL_100000, eL_1000000, shm_p13 hM, hn0, ↓reduceIte, ↓bl_e, bd_e, u1_f, u1_s, u2_f, u2_s, w_cl, w_ltT, w_ltF, w_leT, w_leF, w_eqT, w_eqF, w_mlt, w_ltm, w_mle, w_lem, w_eqm, w_meq, w_mltm, nI_add, w_sub, w_addm, up_s, up_n, ud_s, ud_n, ck_n, bz_0, bz_1]
  refine z_loop1 (fun i a => ∃ x1, a = (nI (n - 1 - i), x1) ∧ x1.2 = y.2 ∧ (∀ b, b ≠ 49 → x1.1 b = y.1 b) ∧ (∀ j, j < n → n - 1 - i < j → x1.1 49 j = y.1 49 (j - 1)) ∧ (∀ j, j ≤ n - 1 - i → x1.1 49 j = y.1 49 j)) (n - 1)
    (K1 := fun a => ck Sm 49 (nI 0) (bl (U1 a.2 49 0 (y.1 49 (n - 1))) (fun x12 => lp_X12_goRound_52 N Sm (zStM N Sm 40) 40 0 x12)))
    (zTP N Sm n M y)
    (by omega) ⟨y, by rw [Nat.sub_zero], rfl, fun _ _ => rfl, fun j h1 h2 => by omega, fun j _ => rfl⟩ ?_ ?_ ?_
  · rintro i _ hi ⟨x1, rfl, g1, g2, g3, g4⟩
    have hv : x1.1 49 (n - 1 - i - 1) = y.1 49 (n - 1 - i - 1) := g4 _ (by omega)
    refine ⟨(nI (n - 1 - i - 1), U1 x1 49 (n - 1 - i) (y.1 49 (n - 1 - i - 1))), ⟨_, rfl, g1, fun b h1 => ?_, fun j h1 h2 => ?_, fun j h1 => ?_⟩, fun back => ?_⟩
    · rw [u1_f, up_n h1]; exact g2 b h1
    · rw [u1_f, up_s]
      by_cases e : j = n - 1 - i
      · subst e; rw [ud_s]
      · rw [ud_n e]; exact g3 j h1 (by omega)
    · rw [u1_f, up_s, ud_n (by omega)]; exact g4 j (by omega)
    · simp (disch := (first | omega | (simp only [shm_l41 hM, shm_l42 hM, shm_l43 hM, shm_l44 hM, shm_l45 hM, shm_l46 hM, shm_l47 hM, shm_l48 hM, shm_l49 hM, shm_l50 hM, shm_l51 hM, shm_l52 hM, shm_l53 hM, shm_l54 hM, shm_l55 hM, shm_l56 hM, shm_l57 hM, shm_l58 hM, shm_l59 hM, shm_l60 hM, shm_l61 hM, shm_l62 hM, shm_l63 hM, shm_l64 hM, shm_l65 hM, shm_l66 hM, shm_l67 hM, shm_l68 hM, shm_l69 hM, shm_l70 hM, shm_l71 hM, shm_l72 hM, shm_l73 hM, shm_l74 hM, shm_l75 hM, shm_l76 hM, shm_l77 hM, shm_l78 hM, shm_l79 hM, shm_l80 hM]; omega))) only [lp_X12_goRound_19_b, ↓eM, eL_0, eL_1, eL_2, eL_3, eL_4, eL_5, eL_6, eL_7, eL_8, eL_9, eL_10, eL_11, eL_12, eL_15, eL_16, eL_20, eL_24, eL_30, eL_31, eL_32, eL_39, eL_40, eL_41, eL_42, eL_43, eL_45, eL_47, eL_48, eL_49, eL_50, eL_57, eL_59, eL_60, eL_61, eL_90, eL_96, eL_97, eL_100, eL_122, eL_160, eL_161, eL_255, eL_300, eL_343, eL_999, eL_1000, eL_1920, eL_9999, eL_10000, eL_999999, eL_100000, eL_1000000, shm_p13 hM, hv, ↓reduceIte, ↓bl_e, bd_e, u1_f, u1_s, u2_f, u2_s, w_cl, w_ltT, w_ltF, w_leT, w_leF, w_eqT, w_eqF, w_mlt, w_ltm, w_mle, w_lem, w_eqm, w_meq, w_mltm, nI_add, w_sub, w_addm, up_s, up_n, ud_s, ud_n, ck_n, bz_0, bz_1]
  · rintro _ ⟨x1, rfl, g1, g2, g3, g4⟩ back
    simp (disch := (first | omega | (simp only [shm_l41 hM, shm_l42 hM, shm_l43 hM, shm_l44 hM, shm_l45 hM, shm_l46 hM, shm_l47 hM, shm_l48 hM, shm_l49 hM, shm_l50 hM, shm_l51 hM, shm_l52 hM, shm_l53 hM, shm_l54 hM, shm_l55 hM, shm_l56 hM, shm_l57 hM, shm_l58 hM, shm_l59 hM, shm_l60 hM, shm_l61 hM, shm_l62 hM, shm_l63 hM, shm_l64 hM, shm_l65 hM, shm_l66 hM, shm_l67 hM, shm_l68 hM, shm_l69 hM, shm_l70 hM, shm_l71 hM, shm_l72 hM, shm_l73 hM, shm_l74 hM, shm_l75 hM, shm_l76 hM, shm_l77 hM, shm_l78 hM, shm_l79 hM, shm_l80 hM]; omega))) only [lp_X12_goRound_19_b, ↓eM, eL_0, eL_1, eL_2, eL_3, eL_4, eL_5, eL_6, eL_7, eL_8, eL_9, eL_10, eL_11, eL_12, eL_15, eL_16, eL_20, eL_24, eL_30, eL_31, eL_32, eL_39, eL_40, eL_41, eL_42, eL_43, eL_45, eL_47, eL_48, eL_49, eL_50, eL_57, eL_59, eL_60, eL_61, eL_90, eL_96, eL_97, eL_100, eL_122, eL_160, eL_161, eL_255, eL_300, eL_343, eL_999, eL_1000, eL_1920, eL_9999, eL_10000, eL_999999, eL_100000, eL_1000000, shm_p13 hM, ↓reduceIte, ↓bl_e, bd_e, u1_f, u1_s, u2_f, u2_s, w_cl, w_ltT, w_ltF, w_leT, w_leF, w_eqT, w_eqF, w_mlt, w_ltm, w_mle, w_lem, w_eqm, w_meq, w_mltm, nI_add, w_sub, w_addm, up_s, up_n, ud_s, ud_n, ck_n, bz_0, bz_1, Nat.sub_self]
  · rintro _ ⟨x1, rfl, g1, g2, g3, g4⟩
    show zTP N Sm n M y (ck Sm 49 (nI 0) (lp_X12_goRound_52 N Sm (zStM N Sm 40) 40 0 (U1 x1 49 0 (y.1 49 (n - 1)))))
    rw [ck_n (by simp only [shm_l41 hM, shm_l42 hM, shm_l43 hM, shm_l44 hM, shm_l45 hM, shm_l46 hM, shm_l47 hM, shm_l48 hM, shm_l49 hM, shm_l50 hM, shm_l51 hM, shm_l52 hM, shm_l53 hM, shm_l54 hM, shm_l55 hM, shm_l56 hM, shm_l57 hM, shm_l58 hM, shm_l59 hM, shm_l60 hM, shm_l61 hM, shm_l62 hM, shm_l63 hM, shm_l64 hM, shm_l65 hM, shm_l66 hM, shm_l67 hM, shm_l68 hM, shm_l69 hM, shm_l70 hM, shm_l71 hM, shm_l72 hM, shm_l73 hM, shm_l74 hM, shm_l75 hM, shm_l76 hM, shm_l77 hM, shm_l78 hM, shm_l79 hM, shm_l80 hM]; omega) (by omega)]
    have B0 : (U1 x1 49 0 (y.1 49 (n - 1))).1 49 0 = y.1 49 (n - 1) := by rw [u1_f, up_s, ud_s]
    have B1 : ∀ i, i + 1 < n → (U1 x1 49 0 (y.1 49 (n - 1))).1 49 (i + 1) = y.1 49 i := fun i hi => by
      rw [u1_f, up_s, ud_n (by omega)]; exact g3 (i + 1) hi (by omega)
    have B2 : ∀ b, b ≠ 49 → (U1 x1 49 0 (y.1 49 (n - 1))).1 b = y.1 b := fun b hb => by
      rw [u1_f, up_n hb]; exact g2 b hb
    have B3 : (U1 x1 49 0 (y.1 49 (n - 1))).2 = y.2 := g1
    generalize U1 x1 49 0 (y.1 49 (n - 1)) = y0 at B0 B1 B2 B3
    have hB : ∀ i, i < n → ∃ j, j < n ∧ y0.1 49 i = y.1 49 j ∧ (i = 0 ∧ j = n - 1 ∨ i = j + 1) := fun i hi => by
      rcases Nat.eq_zero_or_pos i with rfl | h
      · exact ⟨n - 1, by omega, B0, Or.inl ⟨rfl, rfl⟩⟩
      · refine ⟨i - 1, by omega, ?_, Or.inr (by omega)⟩
        have := B1 (i - 1) (by omega)
        rwa [show i - 1 + 1 = i by omega] at this
    have hB1 : ∀ i, i < n → y0.1 49 i = mO ∨ ∃ p, p < M ∧ y0.1 49 i = nI p := fun i hi => by
      obtain ⟨j, a, b, c⟩ := hB i hi
      rw [b]; exact hb j a
    have hB2 : ∀ i j p, i < n → j < n → p < M → y0.1 49 i = nI p → y0.1 49 j = nI p → i = j := fun i j p hi hj hp e1 e2 => by
      obtain ⟨i', a1, b1, c1⟩ := hB i hi
      obtain ⟨j', a2, b2, c2⟩ := hB j hj
      have := hu i' j' p a1 a2 hp (b1.symm.trans e1) (b2.symm.trans e2)
      omega
    unfold lp_X12_goRound_52
    refine z_loop1 (fun k a => ∃ y2, a = (nI k, y2) ∧ y2.2 = y.2 ∧ (∀ b, b ≠ 48 → b ≠ 46 → y2.1 b = y0.1 b) ∧ (∀ p, p < M → y2.1 46 p = y.1 46 p + nI (zC (y0.1 49) p k)) ∧ (∀ p, p < M → (∀ i, i < k → y0.1 49 i ≠ nI p) → y2.1 48 p = y.1 48 p) ∧ (∀ p i, p < M → i < k → y0.1 49 i = nI p → y2.1 48 p = nI i)) n
      (K1 := fun a => zStM N Sm 40 a.2) (zTP N Sm n M y) (by omega) ⟨y0, rfl, B3, fun _ _ _ => rfl, fun p hp => ?_, fun p hp _ => ?_, fun p i _ h => by omega⟩ ?_ ?_ ?_
    · rw [B2 46 (by decide)]; exact (w_add0 _).symm
    · rw [B2 48 (by decide)]
    · rintro k _ hk ⟨y2, rfl, f1, f2, f3, f4, f5⟩
      have h49 : y2.1 49 = y0.1 49 := f2 49 (by decide) (by decide)
      have h40 : y2.1 40 0 = nI n := by rw [f2 40 (by decide) (by decide), B2 40 (by decide)]; exact hn0
      rcases hB1 k hk with hv | ⟨p0, hp0, hv⟩
      · refine ⟨(nI (k + 1), y2), ⟨y2, rfl, f1, f2, fun p hp => ?_, fun p hp h => f4 p hp (fun i hi => h i (by omega)), fun p i hp hi e => ?_⟩, fun back => ?_⟩
        · rw [f3 p hp]
          show _ = _ + nI (zC (y0.1 49) p k + if y0.1 49 k = nI p then 1 else 0)
          rw [if_neg (fun h => nI_mO (h.symm.trans hv) (by omega))]; rfl
        · by_cases e1 : i = k
          · subst e1; exact (nI_mO (e.symm.trans hv) (by omega)).elim
          · exact f5 p i hp (by omega) e
        · simp (disch := (first | omega | (simp only [shm_l41 hM, shm_l42 hM, shm_l43 hM, shm_l44 hM, shm_l45 hM, shm_l46 hM, shm_l47 hM, shm_l48 hM, shm_l49 hM, shm_l50 hM, shm_l51 hM, shm_l52 hM, shm_l53 hM, shm_l54 hM, shm_l55 hM, shm_l56 hM, shm_l57 hM, shm_l58 hM, shm_l59 hM, shm_l60 hM, shm_l61 hM, shm_l62 hM, shm_l63 hM, shm_l64 hM, shm_l65 hM, shm_l66 hM, shm_l67 hM, shm_l68 hM, shm_l69 hM, shm_l70 hM, shm_l71 hM, shm_l72 hM, shm_l73 hM, shm_l74 hM, shm_l75 hM, shm_l76 hM, shm_l77 hM, shm_l78 hM, shm_l79 hM, shm_l80 hM]; omega))) only [lp_X12_goRound_52_b, j_X12_goRound_99, ↓eM, eL_0, eL_1, eL_2, eL_3, eL_4, eL_5, eL_6, eL_7, eL_8, eL_9, eL_10, eL_11, eL_12, eL_15, eL_16, eL_20, eL_24, eL_30, eL_31, eL_32, eL_39, eL_40, eL_41, eL_42, eL_43, eL_45, eL_47, eL_48, eL_49, eL_50, eL_57, eL_59, eL_60, eL_61, eL_90, eL_96, eL_97, eL_100, eL_122, eL_160, eL_161, eL_255, eL_300, eL_343, eL_999, eL_1000, eL_1920, eL_9999, eL_10000, eL_999999, eL_100000, eL_1000000, shm_p5 hM, shm_p6 hM, shm_p7 hM, shm_p8 hM, shm_p9 hM, shm_p10 hM, shm_p11 hM, shm_p12 hM, shm_p13 hM, shm_p14 hM, shm_p15 hM, shm_p16 hM, shm_p19 hM, shm_p20 hM, shm_p21 hM, shm_p22 hM, shm_p23 hM, shm_p24 hM, shm_p25 hM, shm_p26 hM, shm_p27 hM, shm_p31 hM, shm_p32 hM, shm_p37 hM, shm_p38 hM, shm_p43 hM, shm_p44 hM, shm_p48 hM, shm_p49 hM, shm_p50 hM, shm_p51 hM, shm_p52 hM, shm_p53 hM, shm_p54 hM, shm_p55 hM, shm_p62 hM, shm_p63 hM, shm_p64 hM, shm_p65 hM, shm_p66 hM, h40, h49, hv, ↓reduceIte, ↓bl_e, bd_e, u1_f, u1_s, u2_f, u2_s, w_cl, w_ltT, w_ltF, w_leT, w_leF, w_eqT, w_eqF, w_mlt, w_ltm, w_mle, w_lem, w_eqm, w_meq, w_mltm, nI_add, w_sub, w_addm, up_s, up_n, ud_s, ud_n, ck_n, bz_0, bz_1]
      · refine ⟨(nI (k + 1), U1 (U1 y2 48 p0 (nI k)) 46 p0 (y2.1 46 p0 + nI 1)), ⟨_, rfl, f1, fun b h1 h2 => ?_, fun p hp => ?_, fun p hp h => ?_, fun p i hp hi e => ?_⟩, fun back => ?_⟩
        · simp only [u1_f]; rw [up_n h2, up_n h1]; exact f2 b h1 h2
        · simp only [u1_f]; rw [up_s]
          show _ = _ + nI (zC (y0.1 49) p k + if y0.1 49 k = nI p then 1 else 0)
          by_cases e : p = p0
          · subst e; rw [ud_s, if_pos hv, f3 p hp, w_addA]
          · rw [ud_n e, if_neg (fun h => e (nI_inj (h.symm.trans hv) (by omega) (by omega))), up_n (by decide)]
            exact f3 p hp
        · simp only [u1_f]; rw [up_n (by decide), up_s]
          have e : p ≠ p0 := by rintro rfl; exact h k (by omega) hv
          rw [ud_n e]
          exact f4 p hp (fun i hi => h i (by omega))
        · simp only [u1_f]; rw [up_n (by decide), up_s]
          by_cases e1 : i = k
          · subst e1
            have := nI_inj (e.symm.trans hv) (by omega) (by omega)
            subst this; rw [ud_s]
          · have e2 : p ≠ p0 := by
              rintro rfl
              exact e1 (hB2 i k p (by omega) hk hp e hv)
            rw [ud_n e2]
            exact f5 p i hp (by omega) e
        · simp (disch := (first | omega | (simp only [shm_l41 hM, shm_l42 hM, shm_l43 hM, shm_l44 hM, shm_l45 hM, shm_l46 hM, shm_l47 hM, shm_l48 hM, shm_l49 hM, shm_l50 hM, shm_l51 hM, shm_l52 hM, shm_l53 hM, shm_l54 hM, shm_l55 hM, shm_l56 hM, shm_l57 hM, shm_l58 hM, shm_l59 hM, shm_l60 hM, shm_l61 hM, shm_l62 hM, shm_l63 hM, shm_l64 hM, shm_l65 hM, shm_l66 hM, shm_l67 hM, shm_l68 hM, shm_l69 hM, shm_l70 hM, shm_l71 hM, shm_l72 hM, shm_l73 hM, shm_l74 hM, shm_l75 hM, shm_l76 hM, shm_l77 hM, shm_l78 hM, shm_l79 hM, shm_l80 hM]; omega))) only [lp_X12_goRound_52_b, j_X12_goRound_99, ↓eM, eL_0, eL_1, eL_2, eL_3, eL_4, eL_5, eL_6, eL_7, eL_8, eL_9, eL_10, eL_11, eL_12, eL_15, eL_16, eL_20, eL_24, eL_30, eL_31, eL_32, eL_39, eL_40, eL_41, eL_42, eL_43, eL_45, eL_47, eL_48, eL_49, eL_50, eL_57, eL_59, eL_60, eL_61, eL_90, eL_96, eL_97, eL_100, eL_122, eL_160, eL_161, eL_255, eL_300, eL_343, eL_999, eL_1000, eL_1920, eL_9999, eL_10000, eL_999999, eL_100000, eL_1000000, shm_p5 hM, shm_p6 hM, shm_p7 hM, shm_p8 hM, shm_p9 hM, shm_p10 hM, shm_p11 hM, shm_p12 hM, shm_p13 hM, shm_p14 hM, shm_p15 hM, shm_p16 hM, shm_p19 hM, shm_p20 hM, shm_p21 hM, shm_p22 hM, shm_p23 hM, shm_p24 hM, shm_p25 hM, shm_p26 hM, shm_p27 hM, shm_p31 hM, shm_p32 hM, shm_p37 hM, shm_p38 hM, shm_p43 hM, shm_p44 hM, shm_p48 hM, shm_p49 hM, shm_p50 hM, shm_p51 hM, shm_p52 hM, shm_p53 hM, shm_p54 hM, shm_p55 hM, shm_p62 hM, shm_p63 hM, shm_p64 hM, shm_p65 hM, shm_p66 hM, h40, h49, hv, ↓reduceIte, ↓bl_e, bd_e, u1_f, u1_s, u2_f, u2_s, w_cl, w_ltT, w_ltF, w_leT, w_leF, w_eqT, w_eqF, w_mlt, w_ltm, w_mle, w_lem, w_eqm, w_meq, w_mltm, nI_add, w_sub, w_addm, up_s, up_n, ud_s, ud_n, ck_n, bz_0, bz_1]
    · rintro _ ⟨y2, rfl, f1, f2, f3, f4, f5⟩ back
      have h40 : y2.1 40 0 = nI n := by rw [f2 40 (by decide) (by decide), B2 40 (by decide)]; exact hn0
      simp (disch := (first | omega | (simp only [shm_l41 hM, shm_l42 hM, shm_l43 hM, shm_l44 hM, shm_l45 hM, shm_l46 hM, shm_l47 hM, shm_l48 hM, shm_l49 hM, shm_l50 hM, shm_l51 hM, shm_l52 hM, shm_l53 hM, shm_l54 hM, shm_l55 hM, shm_l56 hM, shm_l57 hM, shm_l58 hM, shm_l59 hM, shm_l60 hM, shm_l61 hM, shm_l62 hM, shm_l63 hM, shm_l64 hM, shm_l65 hM, shm_l66 hM, shm_l67 hM, shm_l68 hM, shm_l69 hM, shm_l70 hM, shm_l71 hM, shm_l72 hM, shm_l73 hM, shm_l74 hM, shm_l75 hM, shm_l76 hM, shm_l77 hM, shm_l78 hM, shm_l79 hM, shm_l80 hM]; omega))) only [lp_X12_goRound_52_b, ↓eM, eL_0, eL_1, eL_2, eL_3, eL_4, eL_5, eL_6, eL_7, eL_8, eL_9, eL_10, eL_11, eL_12, eL_15, eL_16, eL_20, eL_24, eL_30, eL_31, eL_32, eL_39, eL_40, eL_41, eL_42, eL_43, eL_45, eL_47, eL_48, eL_49, eL_50, eL_57, eL_59, eL_60, eL_61, eL_90, eL_96, eL_97, eL_100, eL_122, eL_160, eL_161, eL_255, eL_300, eL_343, eL_999, eL_1000, eL_1920, eL_9999, eL_10000, eL_999999, eL_100000, eL_1000000, h40, ↓reduceIte, ↓bl_e, bd_e, u1_f, u1_s, u2_f, u2_s, w_cl, w_ltT, w_ltF, w_leT, w_leF, w_eqT, w_eqF, w_mlt, w_ltm, w_mle, w_lem, w_eqm, w_meq, w_mltm, nI_add, w_sub, w_addm, up_s, up_n, ud_s, ud_n, ck_n, bz_0, bz_1]
    · rintro _ ⟨y2, rfl, f1, f2, f3, f4, f5⟩
      have h49 : y2.1 49 = y0.1 49 := f2 49 (by decide) (by decide)
      refine ⟨y2, rfl, f1, fun b h1 h2 h3 => (f2 b h2 h3).trans (B2 b h1), by rw [h49]; exact B0, fun i hi => by rw [h49]; exact B1 i hi, fun p hp => ?_, fun p hp h => f4 p hp (by rwa [h49] at h), fun p i hp hi e => f5 p i hp hi (by rwa [h49] at e)⟩
      rw [f3 p hp]
      obtain ⟨k, rfl⟩ : ∃ k, n = k + 1 := ⟨n - 1, by omega⟩
      rw [zC_rot (f := y.1 49) (g := y0.1 49) (n := k) B0 (fun i hi => B1 i (by omega)) k (Nat.le_refl _)]
      show _ = _ + nI (zC (y.1 49) p k + _)
      rw [Nat.add_comm]
