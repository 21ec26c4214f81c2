/-! LAYER 3: texts: the class's reader -/
def tkC (o : Option ZT) : Int32 := match o with
  | none => mO
  | some t => if t.1 = 1 then -nI 3 else if t.1 = 2 then -nI 4 else if t.1 = 3 then -nI (5 + t.2) else if t.1 = 4 then nI t.2 else -nI 2
def opX (t : ZT) : Int32 := if t.1 = 1 then nI t.2 else if t.1 = 2 then mO - nI t.2 else nI 0
def zTkOk (t : ZT) : Prop := (t.1 = 1 ∧ t.2 < 10000) ∨ (t.1 = 2 ∧ t.2 < 6) ∨ (t.1 = 3 ∧ t.2 < 5) ∨ (t.1 = 4 ∧ (t.2 = 40 ∨ t.2 = 41 ∨ t.2 = 42 ∨ t.2 = 43 ∨ t.2 = 45 ∨ t.2 = 59 ∨ t.2 = 60 ∨ t.2 = 61)) ∨ t.1 = 5
def zQs (T : List ZT) (st : Nat → Nat) (Z : Nat) (x : DY) (i : Nat) (W : List Nat) : Prop :=
  i ≤ T.length ∧ T.length ≤ 160 ∧ W.length ≤ i ∧ x.1 49 5 = nI T.length ∧ x.1 49 6 = nI i ∧ x.1 49 8 = nI W.length ∧ x.1 49 1 = nI Z ∧ (∀ j t, T[j]? = some t → zTkOk t ∧ x.1 51 j = tkC (some t) ∧ x.1 52 j = nI (st j) ∧ x.1 53 j = opX t) ∧ (∀ j, j < W.length → x.1 54 j = encX (W.getD j 0))
def zFq (x x' : DY) : Prop := (∀ b, b ≠ 49 → b ≠ 54 → x'.1 b = x.1 b) ∧ x'.2 = x.2 ∧ (∀ k, k ≠ 6 → k ≠ 8 → k ≠ 10 → x'.1 49 k = x.1 49 k)
theorem zFq.rf {x : DY} : zFq x x := ⟨fun _ _ _ => rfl, rfl, fun _ _ _ _ => rfl⟩
theorem zFq.trans {x x1 x2 : DY} (h : zFq x x1) (k : zFq x1 x2) : zFq x x2 := ⟨fun b h1 h2 => (k.1 b h1 h2).trans (h.1 b h1 h2), k.2.1.trans h.2.1, fun b h1 h2 h3 => (k.2.2 b h1 h2 h3).trans (h.2.2 b h1 h2 h3)⟩
def fsT (T : List ZT) (st : Nat → Nat) (Z i : Nat) : Nat := if i < T.length then st i else Z
section READ
variable {N : Nat} {S : SH} {T : List ZT} {st : Nat → Nat} {Z i : Nat} {W : List Nat} {x : DY}
theorem q_token (hX : SX S) (h : zQs T st Z x i W) : f_X5_token N S 49 x = some (tkC T[i]?) := by
  obtain ⟨h1, h2, h3, h4, h5, h6, h7, h8, h9⟩ := h
  by_cases e : i < T.length
  · rw [List.getElem?_eq_getElem e]
    have := (h8 i _ (List.getElem?_eq_getElem e)).2.1
    simp (disch := (first | omega | (simp only [sx_l42 hX, sx_l43 hX, sx_l44 hX, sx_l46 hX, sx_l50 hX, sx_l51 hX, sx_l52 hX, sx_l53 hX, sx_l54 hX, sx_l56 hX, sx_l57 hX, sx_l58 hX, sx_l60 hX, sx_l61 hX, sx_l62 hX, sx_l63 hX, sx_l64 hX, sx_l65 hX, sx_l66 hX, sx_l88 hX, sx_l89 hX, sx_l90 hX, sx_l0 hX, sx_l1 hX, sx_l2 hX]; omega))) only [f_X5_token, sx_m0 hX, sx_m1 hX, sx_m2 hX, sx_c0 hX, sx_c1 hX, sx_c2 hX, sx_c3 hX, sx_c4 hX, sx_c5 hX, sx_c6 hX, sx_u0 hX, sx_t0 hX, sx_t2 hX, sx_t3 hX, sx_t4 hX, sx_t7 hX, sx_f0 hX, sx_f1 hX, sx_f2 hX, sx_h0 hX, sx_h1 hX, sx_h2 hX, sx_g0 hX, sx_g1 hX, sx_g2 hX, h4, h5, this, ↓eM, eL_0, eL_1, eL_2, eL_3, eL_4, eL_5, eL_6, eL_7, eL_8, eL_9, eL_10, eL_11, eL_12, eL_15, eL_16, eL_20, eL_24, eL_30, eL_31, eL_32, eL_39, eL_40, eL_41, eL_42, eL_43, eL_45, eL_47, eL_48, eL_49, eL_50, eL_57, eL_59, eL_60, eL_61, eL_90, eL_96, eL_97, eL_100, eL_122, eL_160, eL_161, eL_255, eL_300, eL_343, eL_999, eL_1000, eL_1920, eL_9999, eL_10000, eL_999999, eL_100000, eL_1000000, ↓reduceIte, ↓bl_e, bd_e, u1_f, u1_s, u2_f, u2_s, w_cl, w_ltT, w_ltF, w_leT, w_leF, w_eqT, w_eqF, w_mlt, w_ltm, w_mle, w_lem, w_eqm, w_meq, w_mltm, nI_add, w_sub, w_addm, up_s, up_n, ud_s, ud_n, ck_n, bz_0, bz_1]
  · obtain rfl : i = T.length := by omega
    rw [List.getElem?_eq_none (Nat.le_refl _)]
    simp (disch := (first | omega | (simp only [sx_l42 hX, sx_l43 hX, sx_l44 hX, sx_l46 hX, sx_l50 hX, sx_l51 hX, sx_l52 hX, sx_l53 hX, sx_l54 hX, sx_l56 hX, sx_l57 hX, sx_l58 hX, sx_l60 hX, sx_l61 hX, sx_l62 hX, sx_l63 hX, sx_l64 hX, sx_l65 hX, sx_l66 hX, sx_l88 hX, sx_l89 hX, sx_l90 hX, sx_l0 hX, sx_l1 hX, sx_l2 hX]; omega))) only [f_X5_token, sx_m0 hX, sx_m1 hX, sx_m2 hX, sx_c0 hX, sx_c1 hX, sx_c2 hX, sx_c3 hX, sx_c4 hX, sx_c5 hX, sx_c6 hX, sx_u0 hX, sx_t0 hX, sx_t2 hX, sx_t3 hX, sx_t4 hX, sx_t7 hX, sx_f0 hX, sx_f1 hX, sx_f2 hX, sx_h0 hX, sx_h1 hX, sx_h2 hX, sx_g0 hX, sx_g1 hX, sx_g2 hX, h4, h5, ↓eM, eL_0, eL_1, eL_2, eL_3, eL_4, eL_5, eL_6, eL_7, eL_8, eL_9, eL_10, eL_11, eL_12, eL_15, eL_16, eL_20, eL_24, eL_30, eL_31, eL_32, eL_39, eL_40, eL_41, eL_42, eL_43, eL_45, eL_47, eL_48, eL_49, eL_50, eL_57, eL_59, eL_60, eL_61, eL_90, eL_96, eL_97, eL_100, eL_122, eL_160, eL_161, eL_255, eL_300, eL_343, eL_999, eL_1000, eL_1920, eL_9999, eL_10000, eL_999999, eL_100000, eL_1000000, ↓reduceIte, ↓bl_e, bd_e, u1_f, u1_s, u2_f, u2_s, w_cl, w_ltT, w_ltF, w_leT, w_leF, w_eqT, w_eqF, w_mlt, w_ltm, w_mle, w_lem, w_eqm, w_meq, w_mltm, nI_add, w_sub, w_addm, up_s, up_n, ud_s, ud_n, ck_n, bz_0, bz_1]
    rfl
theorem q_adv (h : zQs T st Z x i W) (hi : i < T.length) : zQs T st Z (U1 x 49 6 (nI (i + 1))) (i + 1) W ∧ zFq x (U1 x 49 6 (nI (i + 1))) := by
  obtain ⟨h1, h2, h3, h4, h5, h6, h7, h8, h9⟩ := h
  refine ⟨⟨by omega, h2, by omega, ?_, ?_, ?_, ?_, fun j t e => ?_, fun j hj => ?_⟩, fun b a c => ?_, rfl, fun k a c d => ?_⟩
  · simp (disch := omega) only [u1_f, u1_s, u2_f, u2_s, up_s, up_n, ud_s, ud_n]; exact h4
  · simp (disch := omega) only [u1_f, u1_s, u2_f, u2_s, up_s, up_n, ud_s, ud_n]
  · simp (disch := omega) only [u1_f, u1_s, u2_f, u2_s, up_s, up_n, ud_s, ud_n]; exact h6
  · simp (disch := omega) only [u1_f, u1_s, u2_f, u2_s, up_s, up_n, ud_s, ud_n]; exact h7
  · simp (disch := omega) only [u1_f, u1_s, u2_f, u2_s, up_s, up_n, ud_s, ud_n]; exact h8 j t e
  · simp (disch := omega) only [u1_f, u1_s, u2_f, u2_s, up_s, up_n, ud_s, ud_n]; exact h9 j hj
  · simp (disch := omega) only [u1_f, u1_s, u2_f, u2_s, up_s, up_n, ud_s, ud_n]
  · simp (disch := omega) only [u1_f, u1_s, u2_f, u2_s, up_s, up_n, ud_s, ud_n]
theorem q_fail (hX : SX S) (h : zQs T st Z x i W) : ∃ x', f_X5_fail N S 49 x = some (nI 0, x') ∧ zFq x x' ∧ zQs T st Z x' i W ∧ x'.1 49 10 = nI (fsT T st Z i) := by
  have h' := h
  obtain ⟨h1, h2, h3, h4, h5, h6, h7, h8, h9⟩ := h'
  refine ⟨U1 x 49 10 (nI (fsT T st Z i)), ?_, ⟨fun b a c => by simp (disch := omega) only [u1_f, u1_s, u2_f, u2_s, up_s, up_n, ud_s, ud_n], rfl, fun k a c d => by simp (disch := omega) only [u1_f, u1_s, u2_f, u2_s, up_s, up_n, ud_s, ud_n]⟩, ⟨h1, h2, h3, ?_, ?_, ?_, ?_, fun j t e => ?_, fun j hj => ?_⟩, by simp (disch := omega) only [u1_f, u1_s, u2_f, u2_s, up_s, up_n, ud_s, ud_n]⟩
  · by_cases e : i < T.length
    · have := (h8 i _ (List.getElem?_eq_getElem e)).2.2.1
      simp (disch := (first | omega | (simp only [sx_l42 hX, sx_l43 hX, sx_l44 hX, sx_l46 hX, sx_l50 hX, sx_l51 hX, sx_l52 hX, sx_l53 hX, sx_l54 hX, sx_l56 hX, sx_l57 hX, sx_l58 hX, sx_l60 hX, sx_l61 hX, sx_l62 hX, sx_l63 hX, sx_l64 hX, sx_l65 hX, sx_l66 hX, sx_l88 hX, sx_l89 hX, sx_l90 hX, sx_l0 hX, sx_l1 hX, sx_l2 hX]; omega))) only [f_X5_fail, fsT, e, sx_m0 hX, sx_m1 hX, sx_m2 hX, sx_c0 hX, sx_c1 hX, sx_c2 hX, sx_c3 hX, sx_c4 hX, sx_c5 hX, sx_c6 hX, sx_u0 hX, sx_t0 hX, sx_t2 hX, sx_t3 hX, sx_t4 hX, sx_t7 hX, sx_f0 hX, sx_f1 hX, sx_f2 hX, sx_h0 hX, sx_h1 hX, sx_h2 hX, sx_g0 hX, sx_g1 hX, sx_g2 hX, h4, h5, this, ↓eM, eL_0, eL_1, eL_2, eL_3, eL_4, eL_5, eL_6, eL_7, eL_8, eL_9, eL_10, eL_11, eL_12, eL_15, eL_16, eL_20, eL_24, eL_30, eL_31, eL_32, eL_39, eL_40, eL_41, eL_42, eL_43, eL_45, eL_47, eL_48, eL_49, eL_50, eL_57, eL_59, eL_60, eL_61, eL_90, eL_96, eL_97, eL_100, eL_122, eL_160, eL_161, eL_255, eL_300, eL_343, eL_999, eL_1000, eL_1920, eL_9999, eL_10000, eL_999999, eL_100000, eL_1000000, ↓reduceIte, ↓bl_e, bd_e, u1_f, u1_s, u2_f, u2_s, w_cl, w_ltT, w_ltF, w_leT, w_leF, w_eqT, w_eqF, w_mlt, w_ltm, w_mle, w_lem, w_eqm, w_meq, w_mltm, nI_add, w_sub, w_addm, up_s, up_n, ud_s, ud_n, ck_n, bz_0, bz_1]
    · obtain rfl : i = T.length := by omega
      simp (disch := (first | omega | (simp only [sx_l42 hX, sx_l43 hX, sx_l44 hX, sx_l46 hX, sx_l50 hX, sx_l51 hX, sx_l52 hX, sx_l53 hX, sx_l54 hX, sx_l56 hX, sx_l57 hX, sx_l58 hX, sx_l60 hX, sx_l61 hX, sx_l62 hX, sx_l63 hX, sx_l64 hX, sx_l65 hX, sx_l66 hX, sx_l88 hX, sx_l89 hX, sx_l90 hX, sx_l0 hX, sx_l1 hX, sx_l2 hX]; omega))) only [f_X5_fail, fsT, Nat.lt_irrefl, sx_m0 hX, sx_m1 hX, sx_m2 hX, sx_c0 hX, sx_c1 hX, sx_c2 hX, sx_c3 hX, sx_c4 hX, sx_c5 hX, sx_c6 hX, sx_u0 hX, sx_t0 hX, sx_t2 hX, sx_t3 hX, sx_t4 hX, sx_t7 hX, sx_f0 hX, sx_f1 hX, sx_f2 hX, sx_h0 hX, sx_h1 hX, sx_h2 hX, sx_g0 hX, sx_g1 hX, sx_g2 hX, h4, h5, h7, ↓eM, eL_0, eL_1, eL_2, eL_3, eL_4, eL_5, eL_6, eL_7, eL_8, eL_9, eL_10, eL_11, eL_12, eL_15, eL_16, eL_20, eL_24, eL_30, eL_31, eL_32, eL_39, eL_40, eL_41, eL_42, eL_43, eL_45, eL_47, eL_48, eL_49, eL_50, eL_57, eL_59, eL_60, eL_61, eL_90, eL_96, eL_97, eL_100, eL_122, eL_160, eL_161, eL_255, eL_300, eL_343, eL_999, eL_1000, eL_1920, eL_9999, eL_10000, eL_999999, eL_100000, eL_1000000, ↓reduceIte, ↓bl_e, bd_e, u1_f, u1_s, u2_f, u2_s, w_cl, w_ltT, w_ltF, w_leT, w_leF, w_eqT, w_eqF, w_mlt, w_ltm, w_mle, w_lem, w_eqm, w_meq, w_mltm, nI_add, w_sub, w_addm, up_s, up_n, ud_s, ud_n, ck_n, bz_0, bz_1]
  · simp (disch := omega) only [u1_f, u1_s, u2_f, u2_s, up_s, up_n, ud_s, ud_n]; exact h4
  · simp (disch := omega) only [u1_f, u1_s, u2_f, u2_s, up_s, up_n, ud_s, ud_n]; exact h5
  · simp (disch := omega) only [u1_f, u1_s, u2_f, u2_s, up_s, up_n, ud_s, ud_n]; exact h6
  · simp (disch := omega) only [u1_f, u1_s, u2_f, u2_s, up_s, up_n, ud_s, ud_n]; exact h7
  · simp (disch := omega) only [u1_f, u1_s, u2_f, u2_s, up_s, up_n, ud_s, ud_n]; exact h8 j t e
  · simp (disch := omega) only [u1_f, u1_s, u2_f, u2_s, up_s, up_n, ud_s, ud_n]; exact h9 j hj
theorem q_write (hX : SX S) (h : zQs T st Z x i W) (hw : W.length < i) (c : Nat) {v : Int32} (hv : v = encX c) : ∃ x', f_X5_write N S 49 v x = some x' ∧ zFq x x' ∧ zQs T st Z x' i (W ++ [c]) ∧ x'.1 49 10 = x.1 49 10 := by
  have h' := h
  obtain ⟨h1, h2, h3, h4, h5, h6, h7, h8, h9⟩ := h'
  have hl : (W ++ [c]).length = W.length + 1 := by rw [List.length_append]; rfl
  refine ⟨U1 (U1 x 54 W.length v) 49 8 (nI (W.length + 1)), ?_, ⟨fun b a c => by simp (disch := omega) only [u1_f, u1_s, u2_f, u2_s, up_s, up_n, ud_s, ud_n], rfl, fun k a c d => by simp (disch := omega) only [u1_f, u1_s, u2_f, u2_s, up_s, up_n, ud_s, ud_n]⟩, ⟨h1, h2, by omega, ?_, ?_, ?_, ?_, fun j t e => ?_, fun j hj => ?_⟩, by simp (disch := omega) only [u1_f, u1_s, u2_f, u2_s, up_s, up_n, ud_s, ud_n]⟩
  · simp (disch := (first | omega | (simp only [sx_l42 hX, sx_l43 hX, sx_l44 hX, sx_l46 hX, sx_l50 hX, sx_l51 hX, sx_l52 hX, sx_l53 hX, sx_l54 hX, sx_l56 hX, sx_l57 hX, sx_l58 hX, sx_l60 hX, sx_l61 hX, sx_l62 hX, sx_l63 hX, sx_l64 hX, sx_l65 hX, sx_l66 hX, sx_l88 hX, sx_l89 hX, sx_l90 hX, sx_l0 hX, sx_l1 hX, sx_l2 hX]; omega))) only [f_X5_write, sx_m0 hX, sx_m1 hX, sx_m2 hX, sx_c0 hX, sx_c1 hX, sx_c2 hX, sx_c3 hX, sx_c4 hX, sx_c5 hX, sx_c6 hX, sx_u0 hX, sx_t0 hX, sx_t2 hX, sx_t3 hX, sx_t4 hX, sx_t7 hX, sx_f0 hX, sx_f1 hX, sx_f2 hX, sx_h0 hX, sx_h1 hX, sx_h2 hX, sx_g0 hX, sx_g1 hX, sx_g2 hX, sx_l54 hX, h6, ↓eM, eL_0, eL_1, eL_2, eL_3, eL_4, eL_5, eL_6, eL_7, eL_8, eL_9, eL_10, eL_11, eL_12, eL_15, eL_16, eL_20, eL_24, eL_30, eL_31, eL_32, eL_39, eL_40, eL_41, eL_42, eL_43, eL_45, eL_47, eL_48, eL_49, eL_50, eL_57, eL_59, eL_60, eL_61, eL_90, eL_96, eL_97, eL_100, eL_122, eL_160, eL_161, eL_255, eL_300, eL_343, eL_999, eL_1000, eL_1920, eL_9999, eL_10000, eL_999999, eL_100000, eL_1000000, ↓reduceIte, ↓bl_e, bd_e, u1_f, u1_s, u2_f, u2_s, w_cl, w_ltT, w_ltF, w_leT, w_leF, w_eqT, w_eqF, w_mlt, w_ltm, w_mle, w_lem, w_eqm, w_meq, w_mltm, nI_add, w_sub, w_addm, up_s, up_n, ud_s, ud_n, ck_n, bz_0, bz_1]
  · simp (disch := omega) only [u1_f, u1_s, u2_f, u2_s, up_s, up_n, ud_s, ud_n]; exact h4
  · simp (disch := omega) only [u1_f, u1_s, u2_f, u2_s, up_s, up_n, ud_s, ud_n]; exact h5
  · simp (disch := omega) only [u1_f, u1_s, u2_f, u2_s, up_s, up_n, ud_s, ud_n]; rw [hl]
  · simp (disch := omega) only [u1_f, u1_s, u2_f, u2_s, up_s, up_n, ud_s, ud_n]; exact h7
  · simp (disch := omega) only [u1_f, u1_s, u2_f, u2_s, up_s, up_n, ud_s, ud_n]; exact h8 j t e
  · simp (disch := omega) only [u1_f, u1_s, u2_f, u2_s, up_s, up_n, ud_s, ud_n]
    rw [List.getD_eq_getElem?_getD]
    by_cases e : j = W.length
    · subst e; rw [ud_s, List.getElem?_append_right (Nat.le_refl _), Nat.sub_self, hv]; rfl
    · rw [ud_n e, List.getElem?_append_left (by omega), ← List.getD_eq_getElem?_getD]; exact h9 j (by omega)
theorem q_pass (hX : SX S) (h : zQs T st Z x i W) {a : Int32} : (tkC T[i]? = a ∧ i < T.length ∧ ∃ x', f_X5_pass N S 49 a x = some (nI 1, x') ∧ zFq x x' ∧ zQs T st Z x' (i + 1) W ∧ x'.1 49 10 = x.1 49 10) ∨ (tkC T[i]? = a ∧ i = T.length ∧ ∃ x', f_X5_pass N S 49 a x = some (nI 1, x') ∧ zFq x x') ∨ (tkC T[i]? ≠ a ∧ ∃ x', f_X5_pass N S 49 a x = some (nI 0, x') ∧ zFq x x' ∧ zQs T st Z x' i W ∧ x'.1 49 10 = nI (fsT T st Z i)) := by
  have ht := q_token (N := N) hX h
  have h5 := h.2.2.2.2.1
  have h1 := h.1
  have h2 := h.2.1
  by_cases e : tkC T[i]? = a
  · by_cases hi : i < T.length
    · obtain ⟨g1, g2⟩ := q_adv h hi
      refine Or.inl ⟨e, hi, _, ?_, g2, g1, by simp (disch := omega) only [u1_f, u1_s, u2_f, u2_s, up_s, up_n, ud_s, ud_n]⟩
      simp (disch := (first | omega | (simp only [sx_l42 hX, sx_l43 hX, sx_l44 hX, sx_l46 hX, sx_l50 hX, sx_l51 hX, sx_l52 hX, sx_l53 hX, sx_l54 hX, sx_l56 hX, sx_l57 hX, sx_l58 hX, sx_l60 hX, sx_l61 hX, sx_l62 hX, sx_l63 hX, sx_l64 hX, sx_l65 hX, sx_l66 hX, sx_l88 hX, sx_l89 hX, sx_l90 hX, sx_l0 hX, sx_l1 hX, sx_l2 hX]; omega))) only [f_X5_pass, ht, e, h5, ↓eM, eL_0, eL_1, eL_2, eL_3, eL_4, eL_5, eL_6, eL_7, eL_8, eL_9, eL_10, eL_11, eL_12, eL_15, eL_16, eL_20, eL_24, eL_30, eL_31, eL_32, eL_39, eL_40, eL_41, eL_42, eL_43, eL_45, eL_47, eL_48, eL_49, eL_50, eL_57, eL_59, eL_60, eL_61, eL_90, eL_96, eL_97, eL_100, eL_122, eL_160, eL_161, eL_255, eL_300, eL_343, eL_999, eL_1000, eL_1920, eL_9999, eL_10000, eL_999999, eL_100000, eL_1000000, ↓reduceIte, ↓bl_e, bd_e, u1_f, u1_s, u2_f, u2_s, w_cl, w_ltT, w_ltF, w_leT, w_leF, w_eqT, w_eqF, w_mlt, w_ltm, w_mle, w_lem, w_eqm, w_meq, w_mltm, nI_add, w_sub, w_addm, up_s, up_n, ud_s, ud_n, ck_n, bz_0, bz_1]
    · refine Or.inr (Or.inl ⟨e, by omega, U1 x 49 6 (nI (i + 1)), ?_, fun b a c => by simp (disch := omega) only [u1_f, u1_s, u2_f, u2_s, up_s, up_n, ud_s, ud_n], rfl, fun k a c d => by simp (disch := omega) only [u1_f, u1_s, u2_f, u2_s, up_s, up_n, ud_s, ud_n]⟩)
      simp (disch := (first | omega | (simp only [sx_l42 hX, sx_l43 hX, sx_l44 hX, sx_l46 hX, sx_l50 hX, sx_l51 hX, sx_l52 hX, sx_l53 hX, sx_l54 hX, sx_l56 hX, sx_l57 hX, sx_l58 hX, sx_l60 hX, sx_l61 hX, sx_l62 hX, sx_l63 hX, sx_l64 hX, sx_l65 hX, sx_l66 hX, sx_l88 hX, sx_l89 hX, sx_l90 hX, sx_l0 hX, sx_l1 hX, sx_l2 hX]; omega))) only [f_X5_pass, ht, e, h5, ↓eM, eL_0, eL_1, eL_2, eL_3, eL_4, eL_5, eL_6, eL_7, eL_8, eL_9, eL_10, eL_11, eL_12, eL_15, eL_16, eL_20, eL_24, eL_30, eL_31, eL_32, eL_39, eL_40, eL_41, eL_42, eL_43, eL_45, eL_47, eL_48, eL_49, eL_50, eL_57, eL_59, eL_60, eL_61, eL_90, eL_96, eL_97, eL_100, eL_122, eL_160, eL_161, eL_255, eL_300, eL_343, eL_999, eL_1000, eL_1920, eL_9999, eL_10000, eL_999999, eL_100000, eL_1000000, ↓reduceIte, ↓bl_e, bd_e, u1_f, u1_s, u2_f, u2_s, w_cl, w_ltT, w_ltF, w_leT, w_leF, w_eqT, w_eqF, w_mlt, w_ltm, w_mle, w_lem, w_eqm, w_meq, w_mltm, nI_add, w_sub, w_addm, up_s, up_n, ud_s, ud_n, ck_n, bz_0, bz_1]
  · obtain ⟨x', e1, e2, e3, e4⟩ := q_fail (N := N) hX h
    refine Or.inr (Or.inr ⟨e, x', ?_, e2, e3, e4⟩)
    simp (disch := (first | omega | (simp only [sx_l42 hX, sx_l43 hX, sx_l44 hX, sx_l46 hX, sx_l50 hX, sx_l51 hX, sx_l52 hX, sx_l53 hX, sx_l54 hX, sx_l56 hX, sx_l57 hX, sx_l58 hX, sx_l60 hX, sx_l61 hX, sx_l62 hX, sx_l63 hX, sx_l64 hX, sx_l65 hX, sx_l66 hX, sx_l88 hX, sx_l89 hX, sx_l90 hX, sx_l0 hX, sx_l1 hX, sx_l2 hX]; omega))) only [f_X5_pass, ht, e, e1, ↓eM, eL_0, eL_1, eL_2, eL_3, eL_4, eL_5, eL_6, eL_7, eL_8, eL_9, eL_10, eL_11, eL_12, eL_15, eL_16, eL_20, eL_24, eL_30, eL_31, eL_32, eL_39, eL_40, eL_41, eL_42, eL_43, eL_45, eL_47, eL_48, eL_49, eL_50, eL_57, eL_59, eL_60, eL_61, eL_90, eL_96, eL_97, eL_100, eL_122, eL_160, eL_161, eL_255, eL_300, eL_343, eL_999, eL_1000, eL_1920, eL_9999, eL_10000, eL_999999, eL_100000, eL_1000000, ↓reduceIte, ↓bl_e, bd_e, u1_f, u1_s, u2_f, u2_s, w_cl, w_ltT, w_ltF, w_leT, w_leF, w_eqT, w_eqF, w_mlt, w_ltm, w_mle, w_lem, w_eqm, w_meq, w_mltm, nI_add, w_sub, w_addm, up_s, up_n, ud_s, ud_n, ck_n, bz_0, bz_1]
end READ
