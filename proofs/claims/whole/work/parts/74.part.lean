/-! LAYER 3: texts: the reference's part -/
def zFnx (y y' : DY) : Prop := (∀ b, b ≠ 40 → y'.1 b = y.1 b) ∧ (∀ k, (k < 33 ∨ 36 < k) → y'.1 40 k = y.1 40 k) ∧ y'.2 = y.2
def zFp (p : Nat) (y y' : DY) : Prop := (∀ b, b ≠ 40 → b ≠ 62 → b ≠ 63 → b ≠ 64 → b ≠ 65 → y'.1 b = y.1 b) ∧ (∀ k, (k < 33 ∨ 41 < k) → y'.1 40 k = y.1 40 k) ∧ (∀ q, q ≠ p → y'.1 62 q = y.1 62 q) ∧ (∀ q, (q < 160 * p ∨ 160 * p + 160 ≤ q) → y'.1 63 q = y.1 63 q) ∧ y'.2 = y.2
theorem zFp.rf {p : Nat} {y : DY} : zFp p y y := ⟨fun _ _ _ _ _ _ => rfl, fun _ _ => rfl, fun _ _ => rfl, fun _ _ => rfl, rfl⟩
theorem zFp.trans {p : Nat} {y y1 y2 : DY} (h : zFp p y y1) (k : zFp p y1 y2) : zFp p y y2 := ⟨fun b h1 h2 h3 h4 h5 => (k.1 b h1 h2 h3 h4 h5).trans (h.1 b h1 h2 h3 h4 h5), fun q hq => (k.2.1 q hq).trans (h.2.1 q hq), fun q hq => (k.2.2.1 q hq).trans (h.2.2.1 q hq), fun q hq => (k.2.2.2.1 q hq).trans (h.2.2.2.1 q hq), k.2.2.2.2.trans h.2.2.2.2⟩
theorem zFs.fp {p : Nat} {y y' : DY} (h : zFs p y y') : zFp p y y' := ⟨h.1, fun k hk => h.2.1 k (by omega), h.2.2.1, h.2.2.2.1, h.2.2.2.2⟩
theorem zFnx.fp {p : Nat} {y y' : DY} (h : zFnx y y') : zFp p y y' := ⟨fun b h1 _ _ _ _ => h.1 b h1, fun k hk => h.2.1 k (by omega), fun q _ => by rw [h.1 62 (by omega)], fun q _ => by rw [h.1 63 (by omega)], h.2.2⟩
/-- the reference's lexer, as its part needs it: Q i is 'the token at hand is the i-th' -/
def zLx (N : Nat) (Sm : SH) (T : List ZT) (Q : Nat → DY → Prop) : Prop :=
  (∀ i y, Q i y → (∀ t, T[i]? = some t → zTkOk t ∧ y.1 40 34 = nI t.1 ∧ (t.1 ≠ 5 → y.1 40 35 = nI t.2)) ∧ (T[i]? = none → y.1 40 34 = nI 0)) ∧
  (∀ i y, i < T.length → Q i y → ∃ y', f_X12_next N Sm 40 y = some y' ∧ Q (i + 1) y' ∧ zFnx y y') ∧
  (∀ i y y', Q i y → y'.1 61 = y.1 61 → (∀ k, k < 39 → y'.1 40 k = y.1 40 k) → Q i y')
theorem zSt.nx {p : Nat} {σ : List Nat} {cs : List Bool} {o : List Nat} {y y' : DY} (h : zSt y p σ cs o) (f : zFnx y y') : zSt y' p σ cs o := by
  unfold zSt at h ⊢
  rw [f.1 62 (by omega), f.1 63 (by omega), f.1 64 (by omega), f.1 65 (by omega), f.2.1 39 (by omega), f.2.1 40 (by omega), f.2.1 41 (by omega), f.2.1 42 (by omega)]
  exact h
section PART
variable {N : Nat} {Sm : SH} {T : List ZT} {Q : Nat → DY → Prop} {p : Nat} {R : ZR} {y0 : DY} {K1 : DY → Option (Int32 × DY)}
def zOut (T : List ZT) (Q : Nat → DY → Prop) (p : Nat) (R : ZR) (y0 : DY) (K1 : DY → Option (Int32 × DY)) (q : Option (Int32 × DY)) : Prop :=
  (∃ i y, q = some (nI 0, y) ∧ Q i y ∧ i ≤ T.length ∧ R = .error (T.drop i) ∧ zFp p y0 y) ∨ (∃ i y σ cs o, q = K1 y ∧ Q i y ∧ T[i]? = some (4, 59) ∧ zSt y p σ cs o ∧ zMac (T.drop i) false false σ cs o = R ∧ zFp p y0 y)
def zInv (T : List ZT) (Q : Nat → DY → Prop) (p : Nat) (R : ZR) (y0 : DY) (i : Nat) (w : Bool) (b : Bool) (σ : List Nat) (c : Bool) (cs : List Bool) (o : List Nat) (y : DY) : Prop :=
  Q i y ∧ zSt y p σ (c :: cs) o ∧ σ.length + o.length ≤ i ∧ zMac (T.drop i) w b σ (c :: cs) o = R ∧ zFp p y0 y
theorem m_nx (hQ : zLx N Sm T Q) {i : Nat} {σ : List Nat} {cs : List Bool} {o : List Nat} {y y1 : DY} (hi : i < T.length) (h : Q i y) (hf : zFs p y y1) (hz : zSt y1 p σ cs o) (h0 : zFp p y0 y) : ∃ y2, f_X12_next N Sm 40 y1 = some y2 ∧ Q (i + 1) y2 ∧ zSt y2 p σ cs o ∧ zFp p y0 y2 := by
  have h1 : Q i y1 := hQ.2.2 i y y1 h (hf.1 61 (by omega) (by omega) (by omega) (by omega) (by omega)) (fun k hk => hf.2.1 k (by omega))
  obtain ⟨y2, e1, e2, e3⟩ := hQ.2.1 i y1 hi h1
  exact ⟨y2, e1, e2, hz.nx e3, h0.trans (hf.fp.trans e3.fp)⟩
set_option maxHeartbeats 3200000 in
/-- a side is wanted -/
theorem m_want (hN : 600 ≤ N) (hM : SHM Sm) (hp : p < 12) (hT : T.length ≤ 160) (hQ : zLx N Sm T Q) {i : Nat} {b : Bool} {σ : List Nat} {c : Bool} {cs : List Bool} {o : List Nat} {y : DY} (hi : i < T.length) (h : zInv T Q p R y0 i true b σ c cs o y) :
    (∃ w' b' σ' c' cs' o' y' u, (w' = true → u = bI b') ∧ zInv T Q p R y0 (i + 1) w' b' σ' c' cs' o' y' ∧ ∀ bk : Int32 → Int32 → DY → Option (Int32 × DY), lp_X12_part_36_b N Sm K1 bk 40 (nI 1) (bI b) y = bk (bI w') u y') ∨ (R = .error (T.drop i) ∧ ∀ bk : Int32 → Int32 → DY → Option (Int32 × DY), lp_X12_part_36_b N Sm K1 bk 40 (nI 1) (bI b) y = some (nI 0, y)) := by
  obtain ⟨hq, hz, hl, hR, h0⟩ := h
  obtain ⟨t, ht⟩ : ∃ t, T[i]? = some t := ⟨_, List.getElem?_eq_getElem hi⟩
  obtain ⟨hok, t34, t35⟩ := (hQ.1 i y hq).1 t ht
  have s3 := hz.2.2.1
  have s12 := hz.2.2.2.2.2.2.2.2.2.2.2
  rw [drop_t ht, zMac] at hR
  obtain ⟨a, v⟩ := t
  unfold zTkOk at hok
  dsimp only at hok t34 t35
  rcases hok with ⟨rfl, hv⟩ | ⟨rfl, hv⟩ | ⟨rfl, hv⟩ | ⟨rfl, hv⟩ | rfl
  · have t35' := t35 (by decide)
    obtain ⟨y1, e1, z1, f1⟩ := m_val (N := N) (v := v) hM hz hp (by omega) (by omega)
    obtain ⟨y2, e2, z2, f2⟩ := m_settle (N := N) hN hM hp (r := 7) (by omega) (by omega) z1
    obtain ⟨y3, e3, q3, z3, f3⟩ := m_nx hQ hi hq (f1.trans f2) z2 h0
    have hsl := stl_len 7 σ
    refine Or.inl ⟨false, false, stl 7 σ, c, cs, o ++ [v] ++ pps 7 σ, y3, bI b, (fun e => by cases e), ⟨q3, z3, by rw [List.length_append, List.length_append]; show _ + (o.length + 1 + _) ≤ i + 1; omega, hR, f3⟩, fun bk => ?_⟩
    simp (disch := (first | omega | (simp only [shm_l41 hM, shm_l42 hM, shm_l43 hM, shm_l44 hM, shm_l45 hM, shm_l46 hM, shm_l47 hM, shm_l48 hM, shm_l49 hM, shm_l50 hM, shm_l51 hM, shm_l52 hM, shm_l53 hM, shm_l54 hM, shm_l55 hM, shm_l56 hM, shm_l57 hM, shm_l58 hM, shm_l59 hM, shm_l60 hM, shm_l61 hM, shm_l62 hM, shm_l63 hM, shm_l64 hM, shm_l65 hM, shm_l66 hM, shm_l67 hM, shm_l68 hM, shm_l69 hM, shm_l70 hM, shm_l71 hM, shm_l72 hM, shm_l73 hM, shm_l74 hM, shm_l75 hM, shm_l76 hM, shm_l77 hM, shm_l78 hM, shm_l79 hM, shm_l80 hM]; omega))) only [lp_X12_part_36_b, f_X12_ahead, f_X12_isKey, f_X12_isSign, j_X12_part_151, j_X12_part_162, t34, t35', e1, e2, e3, ↓eM, eL_0, eL_1, eL_2, eL_3, eL_4, eL_5, eL_6, eL_7, eL_8, eL_9, eL_10, eL_11, eL_12, eL_15, eL_16, eL_20, eL_24, eL_30, eL_31, eL_32, eL_39, eL_40, eL_41, eL_42, eL_43, eL_45, eL_47, eL_48, eL_49, eL_50, eL_57, eL_59, eL_60, eL_61, eL_90, eL_96, eL_97, eL_100, eL_122, eL_160, eL_161, eL_255, eL_300, eL_343, eL_999, eL_1000, eL_1920, eL_9999, eL_10000, eL_999999, eL_100000, eL_1000000, ↓reduceIte, ↓bl_e, bd_e, u1_f, u1_s, u2_f, u2_s, w_cl, w_ltT, w_ltF, w_leT, w_leF, w_eqT, w_eqF, w_mlt, w_ltm, w_mle, w_lem, w_eqm, w_meq, w_mltm, nI_add, w_sub, w_addm, up_s, up_n, ud_s, ud_n, ck_n, bz_0, bz_1]
    rfl
  · have t35' := t35 (by decide)
    obtain ⟨y1, e1, z1, f1⟩ := m_val (N := N) (v := 10000 + v) hM hz hp (by omega) (by omega)
    obtain ⟨y2, e2, z2, f2⟩ := m_settle (N := N) hN hM hp (r := 7) (by omega) (by omega) z1
    obtain ⟨y3, e3, q3, z3, f3⟩ := m_nx hQ hi hq (f1.trans f2) z2 h0
    have hsl := stl_len 7 σ
    refine Or.inl ⟨false, false, stl 7 σ, c, cs, o ++ [10000 + v] ++ pps 7 σ, y3, bI b, (fun e => by cases e), ⟨q3, z3, by rw [List.length_append, List.length_append]; show _ + (o.length + 1 + _) ≤ i + 1; omega, hR, f3⟩, fun bk => ?_⟩
    simp (disch := (first | omega | (simp only [shm_l41 hM, shm_l42 hM, shm_l43 hM, shm_l44 hM, shm_l45 hM, shm_l46 hM, shm_l47 hM, shm_l48 hM, shm_l49 hM, shm_l50 hM, shm_l51 hM, shm_l52 hM, shm_l53 hM, shm_l54 hM, shm_l55 hM, shm_l56 hM, shm_l57 hM, shm_l58 hM, shm_l59 hM, shm_l60 hM, shm_l61 hM, shm_l62 hM, shm_l63 hM, shm_l64 hM, shm_l65 hM, shm_l66 hM, shm_l67 hM, shm_l68 hM, shm_l69 hM, shm_l70 hM, shm_l71 hM, shm_l72 hM, shm_l73 hM, shm_l74 hM, shm_l75 hM, shm_l76 hM, shm_l77 hM, shm_l78 hM, shm_l79 hM, shm_l80 hM]; omega))) only [lp_X12_part_36_b, f_X12_ahead, f_X12_isKey, f_X12_isSign, j_X12_part_151, j_X12_part_162, t34, t35', e1, e2, e3, ↓eM, eL_0, eL_1, eL_2, eL_3, eL_4, eL_5, eL_6, eL_7, eL_8, eL_9, eL_10, eL_11, eL_12, eL_15, eL_16, eL_20, eL_24, eL_30, eL_31, eL_32, eL_39, eL_40, eL_41, eL_42, eL_43, eL_45, eL_47, eL_48, eL_49, eL_50, eL_57, eL_59, eL_60, eL_61, eL_90, eL_96, eL_97, eL_100, eL_122, eL_160, eL_161, eL_255, eL_300, eL_343, eL_999, eL_1000, eL_1920, eL_9999, eL_10000, eL_999999, eL_100000, eL_1000000, ↓reduceIte, ↓bl_e, bd_e, u1_f, u1_s, u2_f, u2_s, w_cl, w_ltT, w_ltF, w_leT, w_leF, w_eqT, w_eqF, w_mlt, w_ltm, w_mle, w_lem, w_eqm, w_meq, w_mltm, nI_add, w_sub, w_addm, up_s, up_n, ud_s, ud_n, ck_n, bz_0, bz_1]
    rfl
  · have t35' := t35 (by decide)
    rw [show zVal (3, v) = none from rfl] at hR
    dsimp only at hR
    by_cases h5 : opn σ = 5
    · rw [if_pos h5] at hR
      have s3' : y.1 40 41 = nI 5 := by rw [s3, h5]
      refine Or.inr ⟨by rw [drop_t ht]; exact hR.symm, fun bk => ?_⟩
      simp (disch := (first | omega | (simp only [shm_l41 hM, shm_l42 hM, shm_l43 hM, shm_l44 hM, shm_l45 hM, shm_l46 hM, shm_l47 hM, shm_l48 hM, shm_l49 hM, shm_l50 hM, shm_l51 hM, shm_l52 hM, shm_l53 hM, shm_l54 hM, shm_l55 hM, shm_l56 hM, shm_l57 hM, shm_l58 hM, shm_l59 hM, shm_l60 hM, shm_l61 hM, shm_l62 hM, shm_l63 hM, shm_l64 hM, shm_l65 hM, shm_l66 hM, shm_l67 hM, shm_l68 hM, shm_l69 hM, shm_l70 hM, shm_l71 hM, shm_l72 hM, shm_l73 hM, shm_l74 hM, shm_l75 hM, shm_l76 hM, shm_l77 hM, shm_l78 hM, shm_l79 hM, shm_l80 hM]; omega))) only [lp_X12_part_36_b, f_X12_ahead, t34, s3', ↓eM, eL_0, eL_1, eL_2, eL_3, eL_4, eL_5, eL_6, eL_7, eL_8, eL_9, eL_10, eL_11, eL_12, eL_15, eL_16, eL_20, eL_24, eL_30, eL_31, eL_32, eL_39, eL_40, eL_41, eL_42, eL_43, eL_45, eL_47, eL_48, eL_49, eL_50, eL_57, eL_59, eL_60, eL_61, eL_90, eL_96, eL_97, eL_100, eL_122, eL_160, eL_161, eL_255, eL_300, eL_343, eL_999, eL_1000, eL_1920, eL_9999, eL_10000, eL_999999, eL_100000, eL_1000000, ↓reduceIte, ↓bl_e, bd_e, u1_f, u1_s, u2_f, u2_s, w_cl, w_ltT, w_ltF, w_leT, w_leF, w_eqT, w_eqF, w_mlt, w_ltm, w_mle, w_lem, w_eqm, w_meq, w_mltm, nI_add, w_sub, w_addm, up_s, up_n, ud_s, ud_n, ck_n, bz_0, bz_1]
    rw [if_neg h5] at hR
    by_cases h4 : v = 4
    · subst h4
      rw [if_pos rfl] at hR
      cases b with
      | true =>
        rw [if_pos rfl] at hR
        obtain ⟨y1, e1, z1, f1⟩ := m_hold (N := N) (c := 20000) hM hz ⟨by omega, by omega⟩ (by decide) (by omega) (by rw [opn_s (by rfl)]; omega)
        have e1' : f_X12_hold N Sm 40 (-nI 3) y = some y1 := e1
        obtain ⟨y3, e3, q3, z3, f3⟩ := m_nx hQ hi hq f1 z1 h0
        refine Or.inl ⟨true, true, 20000 :: σ, c, cs, o, y3, nI 1, fun _ => rfl, ⟨q3, z3, by rw [List.length_cons]; omega, hR, f3⟩, fun bk => ?_⟩
        show lp_X12_part_36_b N Sm K1 bk 40 (nI 1) (nI 1) y = bk (nI 1) (nI 1) y3
        simp (disch := (first | omega | (simp only [shm_l41 hM, shm_l42 hM, shm_l43 hM, shm_l44 hM, shm_l45 hM, shm_l46 hM, shm_l47 hM, shm_l48 hM, shm_l49 hM, shm_l50 hM, shm_l51 hM, shm_l52 hM, shm_l53 hM, shm_l54 hM, shm_l55 hM, shm_l56 hM, shm_l57 hM, shm_l58 hM, shm_l59 hM, shm_l60 hM, shm_l61 hM, shm_l62 hM, shm_l63 hM, shm_l64 hM, shm_l65 hM, shm_l66 hM, shm_l67 hM, shm_l68 hM, shm_l69 hM, shm_l70 hM, shm_l71 hM, shm_l72 hM, shm_l73 hM, shm_l74 hM, shm_l75 hM, shm_l76 hM, shm_l77 hM, shm_l78 hM, shm_l79 hM, shm_l80 hM]; omega))) only [lp_X12_part_36_b, f_X12_ahead, f_X12_isKey, f_X12_isSign, j_X12_part_162, t34, t35', s3, e1', e3, ↓eM, eL_0, eL_1, eL_2, eL_3, eL_4, eL_5, eL_6, eL_7, eL_8, eL_9, eL_10, eL_11, eL_12, eL_15, eL_16, eL_20, eL_24, eL_30, eL_31, eL_32, eL_39, eL_40, eL_41, eL_42, eL_43, eL_45, eL_47, eL_48, eL_49, eL_50, eL_57, eL_59, eL_60, eL_61, eL_90, eL_96, eL_97, eL_100, eL_122, eL_160, eL_161, eL_255, eL_300, eL_343, eL_999, eL_1000, eL_1920, eL_9999, eL_10000, eL_999999, eL_100000, eL_1000000, ↓reduceIte, ↓bl_e, bd_e, u1_f, u1_s, u2_f, u2_s, w_cl, w_ltT, w_ltF, w_leT, w_leF, w_eqT, w_eqF, w_mlt, w_ltm, w_mle, w_lem, w_eqm, w_meq, w_mltm, nI_add, w_sub, w_addm, up_s, up_n, ud_s, ud_n, ck_n, bz_0, bz_1]
      | false =>
        rw [if_neg (by decide)] at hR
        refine Or.inr ⟨by rw [drop_t ht]; exact hR.symm, fun bk => ?_⟩
        show lp_X12_part_36_b N Sm K1 bk 40 (nI 1) (nI 0) y = some (nI 0, y)
        simp (disch := (first | omega | (simp only [shm_l41 hM, shm_l42 hM, shm_l43 hM, shm_l44 hM, shm_l45 hM, shm_l46 hM, shm_l47 hM, shm_l48 hM, shm_l49 hM, shm_l50 hM, shm_l51 hM, shm_l52 hM, shm_l53 hM, shm_l54 hM, shm_l55 hM, shm_l56 hM, shm_l57 hM, shm_l58 hM, shm_l59 hM, shm_l60 hM, shm_l61 hM, shm_l62 hM, shm_l63 hM, shm_l64 hM, shm_l65 hM, shm_l66 hM, shm_l67 hM, shm_l68 hM, shm_l69 hM, shm_l70 hM, shm_l71 hM, shm_l72 hM, shm_l73 hM, shm_l74 hM, shm_l75 hM, shm_l76 hM, shm_l77 hM, shm_l78 hM, shm_l79 hM, shm_l80 hM]; omega))) only [lp_X12_part_36_b, f_X12_ahead, f_X12_isKey, f_X12_isSign, t34, t35', s3, ↓eM, eL_0, eL_1, eL_2, eL_3, eL_4, eL_5, eL_6, eL_7, eL_8, eL_9, eL_10, eL_11, eL_12, eL_15, eL_16, eL_20, eL_24, eL_30, eL_31, eL_32, eL_39, eL_40, eL_41, eL_42, eL_43, eL_45, eL_47, eL_48, eL_49, eL_50, eL_57, eL_59, eL_60, eL_61, eL_90, eL_96, eL_97, eL_100, eL_122, eL_160, eL_161, eL_255, eL_300, eL_343, eL_999, eL_1000, eL_1920, eL_9999, eL_10000, eL_999999, eL_100000, eL_1000000, ↓reduceIte, ↓bl_e, bd_e, u1_f, u1_s, u2_f, u2_s, w_cl, w_ltT, w_ltF, w_leT, w_leF, w_eqT, w_eqF, w_mlt, w_ltm, w_mle, w_lem, w_eqm, w_meq, w_mltm, nI_add, w_sub, w_addm, up_s, up_n, ud_s, ud_n, ck_n, bz_0, bz_1]
    · rw [if_neg (fun e => h4 (Prod.mk.inj e).2), if_neg (fun e => absurd (Prod.mk.inj e).1 (by decide)), if_neg (fun e => absurd (Prod.mk.inj e).1 (by decide))] at hR
      refine Or.inr ⟨by rw [drop_t ht]; exact hR.symm, fun bk => ?_⟩
      simp (disch := (first | omega | (simp only [shm_l41 hM, shm_l42 hM, shm_l43 hM, shm_l44 hM, shm_l45 hM, shm_l46 hM, shm_l47 hM, shm_l48 hM, shm_l49 hM, shm_l50 hM, shm_l51 hM, shm_l52 hM, shm_l53 hM, shm_l54 hM, shm_l55 hM, shm_l56 hM, shm_l57 hM, shm_l58 hM, shm_l59 hM, shm_l60 hM, shm_l61 hM, shm_l62 hM, shm_l63 hM, shm_l64 hM, shm_l65 hM, shm_l66 hM, shm_l67 hM, shm_l68 hM, shm_l69 hM, shm_l70 hM, shm_l71 hM, shm_l72 hM, shm_l73 hM, shm_l74 hM, shm_l75 hM, shm_l76 hM, shm_l77 hM, shm_l78 hM, shm_l79 hM, shm_l80 hM]; omega))) only [lp_X12_part_36_b, f_X12_ahead, f_X12_isKey, f_X12_isSign, t34, t35', s3, ↓eM, eL_0, eL_1, eL_2, eL_3, eL_4, eL_5, eL_6, eL_7, eL_8, eL_9, eL_10, eL_11, eL_12, eL_15, eL_16, eL_20, eL_24, eL_30, eL_31, eL_32, eL_39, eL_40, eL_41, eL_42, eL_43, eL_45, eL_47, eL_48, eL_49, eL_50, eL_57, eL_59, eL_60, eL_61, eL_90, eL_96, eL_97, eL_100, eL_122, eL_160, eL_161, eL_255, eL_300, eL_343, eL_999, eL_1000, eL_1920, eL_9999, eL_10000, eL_999999, eL_100000, eL_1000000, ↓reduceIte, ↓bl_e, bd_e, u1_f, u1_s, u2_f, u2_s, w_cl, w_ltT, w_ltF, w_leT, w_leF, w_eqT, w_eqF, w_mlt, w_ltm, w_mle, w_lem, w_eqm, w_meq, w_mltm, nI_add, w_sub, w_addm, up_s, up_n, ud_s, ud_n, ck_n, bz_0, bz_1]
  · have t35' := t35 (by decide)
    rw [show zVal (4, v) = none from rfl] at hR
    dsimp only at hR
    by_cases h5 : opn σ = 5
    · rw [if_pos h5] at hR
      have s3' : y.1 40 41 = nI 5 := by rw [s3, h5]
      refine Or.inr ⟨by rw [drop_t ht]; exact hR.symm, fun bk => ?_⟩
      simp (disch := (first | omega | (simp only [shm_l41 hM, shm_l42 hM, shm_l43 hM, shm_l44 hM, shm_l45 hM, shm_l46 hM, shm_l47 hM, shm_l48 hM, shm_l49 hM, shm_l50 hM, shm_l51 hM, shm_l52 hM, shm_l53 hM, shm_l54 hM, shm_l55 hM, shm_l56 hM, shm_l57 hM, shm_l58 hM, shm_l59 hM, shm_l60 hM, shm_l61 hM, shm_l62 hM, shm_l63 hM, shm_l64 hM, shm_l65 hM, shm_l66 hM, shm_l67 hM, shm_l68 hM, shm_l69 hM, shm_l70 hM, shm_l71 hM, shm_l72 hM, shm_l73 hM, shm_l74 hM, shm_l75 hM, shm_l76 hM, shm_l77 hM, shm_l78 hM, shm_l79 hM, shm_l80 hM]; omega))) only [lp_X12_part_36_b, f_X12_ahead, t34, s3', ↓eM, eL_0, eL_1, eL_2, eL_3, eL_4, eL_5, eL_6, eL_7, eL_8, eL_9, eL_10, eL_11, eL_12, eL_15, eL_16, eL_20, eL_24, eL_30, eL_31, eL_32, eL_39, eL_40, eL_41, eL_42, eL_43, eL_45, eL_47, eL_48, eL_49, eL_50, eL_57, eL_59, eL_60, eL_61, eL_90, eL_96, eL_97, eL_100, eL_122, eL_160, eL_161, eL_255, eL_300, eL_343, eL_999, eL_1000, eL_1920, eL_9999, eL_10000, eL_999999, eL_100000, eL_1000000, ↓reduceIte, ↓bl_e, bd_e, u1_f, u1_s, u2_f, u2_s, w_cl, w_ltT, w_ltF, w_leT, w_leF, w_eqT, w_eqF, w_mlt, w_ltm, w_mle, w_lem, w_eqm, w_meq, w_mltm, nI_add, w_sub, w_addm, up_s, up_n, ud_s, ud_n, ck_n, bz_0, bz_1]
    rw [if_neg h5, if_neg (fun e => absurd (Prod.mk.inj e).1 (by decide))] at hR
    by_cases h45 : v = 45
    · subst h45
      rw [if_pos rfl] at hR
      obtain ⟨y1, e1, z1, f1⟩ := m_hold (N := N) (c := 20001) hM hz ⟨by omega, by omega⟩ (by decide) (by omega) (by rw [opn_s (by rfl)]; omega)
      have e1' : f_X12_hold N Sm 40 (-nI 9) y = some y1 := e1
      obtain ⟨y3, e3, q3, z3, f3⟩ := m_nx hQ hi hq f1 z1 h0
      refine Or.inl ⟨true, false, 20001 :: σ, c, cs, o, y3, nI 0, fun _ => rfl, ⟨q3, z3, by rw [List.length_cons]; omega, hR, f3⟩, fun bk => ?_⟩
      show lp_X12_part_36_b N Sm K1 bk 40 (nI 1) (bI b) y = bk (nI 1) (nI 0) y3
      simp (disch := (first | omega | (simp only [shm_l41 hM, shm_l42 hM, shm_l43 hM, shm_l44 hM, shm_l45 hM, shm_l46 hM, shm_l47 hM, shm_l48 hM, shm_l49 hM, shm_l50 hM, shm_l51 hM, shm_l52 hM, shm_l53 hM, shm_l54 hM, shm_l55 hM, shm_l56 hM, shm_l57 hM, shm_l58 hM, shm_l59 hM, shm_l60 hM, shm_l61 hM, shm_l62 hM, shm_l63 hM, shm_l64 hM, shm_l65 hM, shm_l66 hM, shm_l67 hM, shm_l68 hM, shm_l69 hM, shm_l70 hM, shm_l71 hM, shm_l72 hM, shm_l73 hM, shm_l74 hM, shm_l75 hM, shm_l76 hM, shm_l77 hM, shm_l78 hM, shm_l79 hM, shm_l80 hM]; omega))) only [lp_X12_part_36_b, f_X12_ahead, f_X12_isKey, f_X12_isSign, j_X12_part_162, t34, t35', s3, e1', e3, ↓eM, eL_0, eL_1, eL_2, eL_3, eL_4, eL_5, eL_6, eL_7, eL_8, eL_9, eL_10, eL_11, eL_12, eL_15, eL_16, eL_20, eL_24, eL_30, eL_31, eL_32, eL_39, eL_40, eL_41, eL_42, eL_43, eL_45, eL_47, eL_48, eL_49, eL_50, eL_57, eL_59, eL_60, eL_61, eL_90, eL_96, eL_97, eL_100, eL_122, eL_160, eL_161, eL_255, eL_300, eL_343, eL_999, eL_1000, eL_1920, eL_9999, eL_10000, eL_999999, eL_100000, eL_1000000, ↓reduceIte, ↓bl_e, bd_e, u1_f, u1_s, u2_f, u2_s, w_cl, w_ltT, w_ltF, w_leT, w_leF, w_eqT, w_eqF, w_mlt, w_ltm, w_mle, w_lem, w_eqm, w_meq, w_mltm, nI_add, w_sub, w_addm, up_s, up_n, ud_s, ud_n, ck_n, bz_0, bz_1]
    rw [if_neg (fun e => h45 (Prod.mk.inj e).2)] at hR
    by_cases h40 : v = 40
    · subst h40
      rw [if_pos rfl] at hR
      obtain ⟨y1, e1, z1, f1⟩ := m_open (N := N) hM hz (by omega) (by omega)
      obtain ⟨y3, e3, q3, z3, f3⟩ := m_nx hQ hi hq f1 z1 h0
      have n1 : (-nI 10 = -nI 3) = False := eq_false (by decide)
      have n2 : (-nI 10 = -nI 9) = False := eq_false (by decide)
      have s1 := hz.1
      have s2 := hz.2.1
      have hb := brk_opn σ
      have hsl : σ.length ≤ 160 := by omega
      refine Or.inl ⟨true, true, 20009 :: σ, false, c :: cs, o, y3, nI 1, fun _ => rfl, ⟨q3, z3, by rw [List.length_cons]; omega, hR, f3⟩, fun bk => ?_⟩
      show lp_X12_part_36_b N Sm K1 bk 40 (nI 1) (bI b) y = bk (nI 1) (nI 1) y3
      simp (disch := (first | omega | (simp only [shm_l41 hM, shm_l42 hM, shm_l43 hM, shm_l44 hM, shm_l45 hM, shm_l46 hM, shm_l47 hM, shm_l48 hM, shm_l49 hM, shm_l50 hM, shm_l51 hM, shm_l52 hM, shm_l53 hM, shm_l54 hM, shm_l55 hM, shm_l56 hM, shm_l57 hM, shm_l58 hM, shm_l59 hM, shm_l60 hM, shm_l61 hM, shm_l62 hM, shm_l63 hM, shm_l64 hM, shm_l65 hM, shm_l66 hM, shm_l67 hM, shm_l68 hM, shm_l69 hM, shm_l70 hM, shm_l71 hM, shm_l72 hM, shm_l73 hM, shm_l74 hM, shm_l75 hM, shm_l76 hM, shm_l77 hM, shm_l78 hM, shm_l79 hM, shm_l80 hM]; omega))) only [f_X12_hold, j_X12_hold_38, shm_p5 hM, shm_p6 hM, shm_p7 hM, shm_p8 hM, shm_p9 hM, shm_p10 hM, shm_p11 hM, shm_p12 hM, shm_p13 hM, shm_p14 hM, shm_p15 hM, shm_p16 hM, shm_p19 hM, shm_p20 hM, shm_p21 hM, shm_p22 hM, shm_p23 hM, shm_p24 hM, shm_p25 hM, shm_p26 hM, shm_p27 hM, shm_p31 hM, shm_p32 hM, shm_p37 hM, shm_p38 hM, shm_p43 hM, shm_p44 hM, shm_p48 hM, shm_p49 hM, shm_p50 hM, shm_p51 hM, shm_p52 hM, shm_p53 hM, shm_p54 hM, shm_p55 hM, shm_p62 hM, shm_p63 hM, shm_p64 hM, shm_p65 hM, shm_p66 hM, s1, s2, s3, n1, n2, nar0, ↓eM, eL_0, eL_1, eL_2, eL_3, eL_4, eL_5, eL_6, eL_7, eL_8, eL_9, eL_10, eL_11, eL_12, eL_15, eL_16, eL_20, eL_24, eL_30, eL_31, eL_32, eL_39, eL_40, eL_41, eL_42, eL_43, eL_45, eL_47, eL_48, eL_49, eL_50, eL_57, eL_59, eL_60, eL_61, eL_90, eL_96, eL_97, eL_100, eL_122, eL_160, eL_161, eL_255, eL_300, eL_343, eL_999, eL_1000, eL_1920, eL_9999, eL_10000, eL_999999, eL_100000, eL_1000000, ↓reduceIte, ↓bl_e, bd_e, u1_f, u1_s, u2_f, u2_s, w_cl, w_ltT, w_ltF, w_leT, w_leF, w_eqT, w_eqF, w_mlt, w_ltm, w_mle, w_lem, w_eqm, w_meq, w_mltm, nI_add, w_sub, w_addm, up_s, up_n, ud_s, ud_n, ck_n, bz_0, bz_1] at e1
      obtain rfl := Option.some.inj e1
      simp (disch := (first | omega | (simp only [shm_l41 hM, shm_l42 hM, shm_l43 hM, shm_l44 hM, shm_l45 hM, shm_l46 hM, shm_l47 hM, shm_l48 hM, shm_l49 hM, shm_l50 hM, shm_l51 hM, shm_l52 hM, shm_l53 hM, shm_l54 hM, shm_l55 hM, shm_l56 hM, shm_l57 hM, shm_l58 hM, shm_l59 hM, shm_l60 hM, shm_l61 hM, shm_l62 hM, shm_l63 hM, shm_l64 hM, shm_l65 hM, shm_l66 hM, shm_l67 hM, shm_l68 hM, shm_l69 hM, shm_l70 hM, shm_l71 hM, shm_l72 hM, shm_l73 hM, shm_l74 hM, shm_l75 hM, shm_l76 hM, shm_l77 hM, shm_l78 hM, shm_l79 hM, shm_l80 hM]; omega))) only [lp_X12_part_36_b, f_X12_ahead, f_X12_isKey, f_X12_isSign, j_X12_part_162, f_X12_hold, j_X12_hold_38, shm_p5 hM, shm_p6 hM, shm_p7 hM, shm_p8 hM, shm_p9 hM, shm_p10 hM, shm_p11 hM, shm_p12 hM, shm_p13 hM, shm_p14 hM, shm_p15 hM, shm_p16 hM, shm_p19 hM, shm_p20 hM, shm_p21 hM, shm_p22 hM, shm_p23 hM, shm_p24 hM, shm_p25 hM, shm_p26 hM, shm_p27 hM, shm_p31 hM, shm_p32 hM, shm_p37 hM, shm_p38 hM, shm_p43 hM, shm_p44 hM, shm_p48 hM, shm_p49 hM, shm_p50 hM, shm_p51 hM, shm_p52 hM, shm_p53 hM, shm_p54 hM, shm_p55 hM, shm_p62 hM, shm_p63 hM, shm_p64 hM, shm_p65 hM, shm_p66 hM, t34, t35', s1, s2, s3, n1, n2, nar0, e3, ↓eM, eL_0, eL_1, eL_2, eL_3, eL_4, eL_5, eL_6, eL_7, eL_8, eL_9, eL_10, eL_11, eL_12, eL_15, eL_16, eL_20, eL_24, eL_30, eL_31, eL_32, eL_39, eL_40, eL_41, eL_42, eL_43, eL_45, eL_47, eL_48, eL_49, eL_50, eL_57, eL_59, eL_60, eL_61, eL_90, eL_96, eL_97, eL_100, eL_122, eL_160, eL_161, eL_255, eL_300, eL_343, eL_999, eL_1000, eL_1920, eL_9999, eL_10000, eL_999999, eL_100000, eL_1000000, ↓reduceIte, ↓bl_e, bd_e, u1_f, u1_s, u2_f, u2_s, w_cl, w_ltT, w_ltF, w_leT, w_leF, w_eqT, w_eqF, w_mlt, w_ltm, w_mle, w_lem, w_eqm, w_meq, w_mltm, nI_add, w_sub, w_addm, up_s, up_n, ud_s, ud_n, ck_n, bz_0, bz_1]
    rw [if_neg (fun e => h40 (Prod.mk.inj e).2)] at hR
    refine Or.inr ⟨by rw [drop_t ht]; exact hR.symm, fun bk => ?_⟩
    simp (disch := (first | omega | (simp only [shm_l41 hM, shm_l42 hM, shm_l43 hM, shm_l44 hM, shm_l45 hM, shm_l46 hM, shm_l47 hM, shm_l48 hM, shm_l49 hM, shm_l50 hM, shm_l51 hM, shm_l52 hM, shm_l53 hM, shm_l54 hM, shm_l55 hM, shm_l56 hM, shm_l57 hM, shm_l58 hM, shm_l59 hM, shm_l60 hM, shm_l61 hM, shm_l62 hM, shm_l63 hM, shm_l64 hM, shm_l65 hM, shm_l66 hM, shm_l67 hM, shm_l68 hM, shm_l69 hM, shm_l70 hM, shm_l71 hM, shm_l72 hM, shm_l73 hM, shm_l74 hM, shm_l75 hM, shm_l76 hM, shm_l77 hM, shm_l78 hM, shm_l79 hM, shm_l80 hM]; omega))) only [lp_X12_part_36_b, f_X12_ahead, f_X12_isKey, f_X12_isSign, t34, t35', s3, ↓eM, eL_0, eL_1, eL_2, eL_3, eL_4, eL_5, eL_6, eL_7, eL_8, eL_9, eL_10, eL_11, eL_12, eL_15, eL_16, eL_20, eL_24, eL_30, eL_31, eL_32, eL_39, eL_40, eL_41, eL_42, eL_43, eL_45, eL_47, eL_48, eL_49, eL_50, eL_57, eL_59, eL_60, eL_61, eL_90, eL_96, eL_97, eL_100, eL_122, eL_160, eL_161, eL_255, eL_300, eL_343, eL_999, eL_1000, eL_1920, eL_9999, eL_10000, eL_999999, eL_100000, eL_1000000, ↓reduceIte, ↓bl_e, bd_e, u1_f, u1_s, u2_f, u2_s, w_cl, w_ltT, w_ltF, w_leT, w_leF, w_eqT, w_eqF, w_mlt, w_ltm, w_mle, w_lem, w_eqm, w_meq, w_mltm, nI_add, w_sub, w_addm, up_s, up_n, ud_s, ud_n, ck_n, bz_0, bz_1]
  · rw [show zVal (5, v) = none from rfl] at hR
    dsimp only at hR
    refine Or.inr ⟨?_, fun bk => ?_⟩
    · rw [drop_t ht]
      by_cases h5 : opn σ = 5
      · rw [if_pos h5] at hR; exact hR.symm
      · rw [if_neg h5, if_neg (fun e => absurd (Prod.mk.inj e).1 (by decide)), if_neg (fun e => absurd (Prod.mk.inj e).1 (by decide)), if_neg (fun e => absurd (Prod.mk.inj e).1 (by decide))] at hR
        exact hR.symm
    · by_cases h5 : opn σ = 5
      · have s3' : y.1 40 41 = nI 5 := by rw [s3, h5]
        simp (disch := (first | omega | (simp only [shm_l41 hM, shm_l42 hM, shm_l43 hM, shm_l44 hM, shm_l45 hM, shm_l46 hM, shm_l47 hM, shm_l48 hM, shm_l49 hM, shm_l50 hM, shm_l51 hM, shm_l52 hM, shm_l53 hM, shm_l54 hM, shm_l55 hM, shm_l56 hM, shm_l57 hM, shm_l58 hM, shm_l59 hM, shm_l60 hM, shm_l61 hM, shm_l62 hM, shm_l63 hM, shm_l64 hM, shm_l65 hM, shm_l66 hM, shm_l67 hM, shm_l68 hM, shm_l69 hM, shm_l70 hM, shm_l71 hM, shm_l72 hM, shm_l73 hM, shm_l74 hM, shm_l75 hM, shm_l76 hM, shm_l77 hM, shm_l78 hM, shm_l79 hM, shm_l80 hM]; omega))) only [lp_X12_part_36_b, f_X12_ahead, t34, s3', ↓eM, eL_0, eL_1, eL_2, eL_3, eL_4, eL_5, eL_6, eL_7, eL_8, eL_9, eL_10, eL_11, eL_12, eL_15, eL_16, eL_20, eL_24, eL_30, eL_31, eL_32, eL_39, eL_40, eL_41, eL_42, eL_43, eL_45, eL_47, eL_48, eL_49, eL_50, eL_57, eL_59, eL_60, eL_61, eL_90, eL_96, eL_97, eL_100, eL_122, eL_160, eL_161, eL_255, eL_300, eL_343, eL_999, eL_1000, eL_1920, eL_9999, eL_10000, eL_999999, eL_100000, eL_1000000, ↓reduceIte, ↓bl_e, bd_e, u1_f, u1_s, u2_f, u2_s, w_cl, w_ltT, w_ltF, w_leT, w_leF, w_eqT, w_eqF, w_mlt, w_ltm, w_mle, w_lem, w_eqm, w_meq, w_mltm, nI_add, w_sub, w_addm, up_s, up_n, ud_s, ud_n, ck_n, bz_0, bz_1]
      · simp (disch := (first | omega | (simp only [shm_l41 hM, shm_l42 hM, shm_l43 hM, shm_l44 hM, shm_l45 hM, shm_l46 hM, shm_l47 hM, shm_l48 hM, shm_l49 hM, shm_l50 hM, shm_l51 hM, shm_l52 hM, shm_l53 hM, shm_l54 hM, shm_l55 hM, shm_l56 hM, shm_l57 hM, shm_l58 hM, shm_l59 hM, shm_l60 hM, shm_l61 hM, shm_l62 hM, shm_l63 hM, shm_l64 hM, shm_l65 hM, shm_l66 hM, shm_l67 hM, shm_l68 hM, shm_l69 hM, shm_l70 hM, shm_l71 hM, shm_l72 hM, shm_l73 hM, shm_l74 hM, shm_l75 hM, shm_l76 hM, shm_l77 hM, shm_l78 hM, shm_l79 hM, shm_l80 hM]; omega))) only [lp_X12_part_36_b, f_X12_ahead, f_X12_isKey, f_X12_isSign, t34, s3, ↓eM, eL_0, eL_1, eL_2, eL_3, eL_4, eL_5, eL_6, eL_7, eL_8, eL_9, eL_10, eL_11, eL_12, eL_15, eL_16, eL_20, eL_24, eL_30, eL_31, eL_32, eL_39, eL_40, eL_41, eL_42, eL_43, eL_45, eL_47, eL_48, eL_49, eL_50, eL_57, eL_59, eL_60, eL_61, eL_90, eL_96, eL_97, eL_100, eL_122, eL_160, eL_161, eL_255, eL_300, eL_343, eL_999, eL_1000, eL_1920, eL_9999, eL_10000, eL_999999, eL_100000, eL_1000000, ↓reduceIte, ↓bl_e, bd_e, u1_f, u1_s, u2_f, u2_s, w_cl, w_ltT, w_ltF, w_leT, w_leF, w_eqT, w_eqF, w_mlt, w_ltm, w_mle, w_lem, w_eqm, w_meq, w_mltm, nI_add, w_sub, w_addm, up_s, up_n, ud_s, ud_n, ck_n, bz_0, bz_1]
end PART
