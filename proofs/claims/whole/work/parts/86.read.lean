/-! LAYER 3: texts: the tape is read, by both -/
def zFa (x x' : DY) : Prop := (∀ b, b ≠ 49 → (b < 51 ∨ 54 < b) → x'.1 b = x.1 b) ∧ x'.2 = x.2 ∧ (∀ k, k < 5 → x'.1 49 k = x.1 49 k)
def zFb (p : Nat) (y y' : DY) : Prop := (∀ b, b ≠ 40 → b ≠ 62 → b ≠ 63 → b ≠ 64 → b ≠ 65 → y'.1 b = y.1 b) ∧ (∀ k, (k < 33 ∨ 42 < k) → y'.1 40 k = y.1 40 k) ∧ (∀ q, q ≠ p → q ≠ p + 1 → y'.1 62 q = y.1 62 q) ∧ (∀ q, (q < 160 * p ∨ 160 * p + 320 ≤ q) → y'.1 63 q = y.1 63 q) ∧ y'.2 = y.2
theorem zFa.rf {x : DY} : zFa x x := ⟨fun _ _ _ => rfl, rfl, fun _ _ => rfl⟩
theorem zFa.tr {x x1 x2 : DY} (h : zFa x x1) (k : zFa x1 x2) : zFa x x2 := ⟨fun b h1 h2 => (k.1 b h1 h2).trans (h.1 b h1 h2), k.2.1.trans h.2.1, fun q hq => (k.2.2 q hq).trans (h.2.2 q hq)⟩
theorem zFq.fa {x x' : DY} (h : zFq x x') : zFa x x' := ⟨fun b h1 h2 => h.1 b h1 (by omega), h.2.1, fun k hk => h.2.2 k (by omega) (by omega) (by omega)⟩
theorem zFa.u {x x1 : DY} (h : zFa x x1) {k : Nat} (hk : 5 ≤ k) (v : Int32) : zFa x (U1 x1 49 k v) := ⟨fun b h1 h2 => by simp (disch := omega) only [u1_f, u1_s, u2_f, u2_s, up_s, up_n, ud_s, ud_n]; exact h.1 b h1 h2, h.2.1, fun q hq => by simp (disch := omega) only [u1_f, u1_s, u2_f, u2_s, up_s, up_n, ud_s, ud_n]; exact h.2.2 q hq⟩
theorem zFb.rf {p : Nat} {y : DY} : zFb p y y := ⟨fun _ _ _ _ _ _ => rfl, fun _ _ => rfl, fun _ _ _ => rfl, fun _ _ => rfl, rfl⟩
theorem zFb.tr {p : Nat} {y y1 y2 : DY} (h : zFb p y y1) (k : zFb p y1 y2) : zFb p y y2 := ⟨fun b h1 h2 h3 h4 h5 => (k.1 b h1 h2 h3 h4 h5).trans (h.1 b h1 h2 h3 h4 h5), fun q hq => (k.2.1 q hq).trans (h.2.1 q hq), fun q h1 h2 => (k.2.2.1 q h1 h2).trans (h.2.2.1 q h1 h2), fun q hq => (k.2.2.2.1 q hq).trans (h.2.2.2.1 q hq), k.2.2.2.2.trans h.2.2.2.2⟩
theorem zFb.u {p : Nat} {y y1 : DY} (h : zFb p y y1) {k : Nat} (h1 : 33 ≤ k) (h2 : k ≤ 42) (v : Int32) : zFb p y (U1 y1 40 k v) := ⟨fun b h1 h2 h3 h4 h5 => by simp (disch := omega) only [u1_f, u1_s, u2_f, u2_s, up_s, up_n, ud_s, ud_n]; exact h.1 b h1 h2 h3 h4 h5, fun q hq => by simp (disch := omega) only [u1_f, u1_s, u2_f, u2_s, up_s, up_n, ud_s, ud_n]; exact h.2.1 q hq, fun q h1 h2 => by simp (disch := omega) only [u1_f, u1_s, u2_f, u2_s, up_s, up_n, ud_s, ud_n]; exact h.2.2.1 q h1 h2, fun q hq => by simp (disch := omega) only [u1_f, u1_s, u2_f, u2_s, up_s, up_n, ud_s, ud_n]; exact h.2.2.2.1 q hq, h.2.2.2.2⟩
theorem zFnx.fb {p : Nat} {y y' : DY} (h : zFnx y y') : zFb p y y' := ⟨fun b h1 _ _ _ _ => h.1 b h1, fun k hk => h.2.1 k (by omega), fun q _ _ => by rw [h.1 62 (by omega)], fun q _ => by rw [h.1 63 (by omega)], h.2.2⟩
theorem zFp.fb0 {p : Nat} {y y' : DY} (h : zFp p y y') : zFb p y y' := ⟨h.1, fun k hk => h.2.1 k (by omega), fun q h1 _ => h.2.2.1 q h1, fun q hq => h.2.2.2.1 q (by omega), h.2.2.2.2⟩
theorem zFp.fb1 {p : Nat} {y y' : DY} (h : zFp (p + 1) y y') : zFb p y y' := ⟨h.1, fun k hk => h.2.1 k (by omega), fun q _ h1 => h.2.2.1 q h1, fun q hq => h.2.2.2.1 q (by omega), h.2.2.2.2⟩
theorem lx_ok {B : Nat → Nat} {Z : Nat} : ∀ n i q, q ∈ lxF B Z n i → zTkOk q.1
  | 0, i, q, h => by cases h
  | n + 1, i, q, h => by
    have h' : q ∈ (if Z ≤ i then [] else if B i = 32 ∨ B i = 10 then lxF B Z n (i + 1) else ((tkA B Z i).1, i) :: lxF B Z n (tkA B Z i).2) := h
    by_cases h1 : Z ≤ i
    · rw [if_pos h1] at h'; cases h'
    rw [if_neg h1] at h'
    by_cases h2 : B i = 32 ∨ B i = 10
    · rw [if_pos h2] at h'; exact lx_ok n _ q h'
    rw [if_neg h2] at h'
    rcases List.mem_cons.mp h' with h3 | h3
    · rw [h3]; exact tk_ok (by omega)
    · exact lx_ok n _ q h3
section READA
variable {N : Nat} {S Sm : SH} {T : List ZT} {st : Nat → Nat} {x y : DY} {B : Nat → Nat} {Z i : Nat} {W : List Nat}
theorem q_key (hX : SX S) (h : zQs T st Z x i W) {v : Nat} (hv : v < 5) {a : Int32} (ha : a = -nI (5 + v)) : (T[i]? = some (3, v) ∧ ∃ x', f_X5_pass N S 49 a x = some (nI 1, x') ∧ zFq x x' ∧ zQs T st Z x' (i + 1) W) ∨ (T[i]? ≠ some (3, v) ∧ ∃ x', f_X5_pass N S 49 a x = some (nI 0, x') ∧ zFq x x' ∧ x'.1 49 10 = nI (fsT T st Z i)) := by
  have hk := tk_key (o := T[i]?) (fun t ht => (h.2.2.2.2.2.2.2.1 i t ht).1) hv
  rcases q_pass (N := N) hX h (a := a) with ⟨h1, h2, x', h3, h4, h5, h6⟩ | ⟨h1, h2, h3⟩ | ⟨h1, x', h3, h4, h5, h6⟩
  · rw [ha, hk] at h1; exact Or.inl ⟨h1, x', h3, h4, h5⟩
  · rw [ha, hk] at h1; have := q_lt h1; omega
  · rw [ha] at h1; exact Or.inr ⟨fun h => h1 (hk.mpr h), x', h3, h4, h6⟩
theorem q_semi (hX : SX S) (h : zQs T st Z x i W) : (T[i]? = some (4, 59) ∧ ∃ x', f_X5_pass N S 49 (nI 59) x = some (nI 1, x') ∧ zFq x x' ∧ zQs T st Z x' (i + 1) W) ∨ (T[i]? ≠ some (4, 59) ∧ ∃ x', f_X5_pass N S 49 (nI 59) x = some (nI 0, x') ∧ zFq x x' ∧ x'.1 49 10 = nI (fsT T st Z i)) := by
  have hk := tk_sgn (o := T[i]?) (fun t ht => (h.2.2.2.2.2.2.2.1 i t ht).1) (q := 59) (by omega)
  rcases q_pass (N := N) hX h (a := nI 59) with ⟨h1, h2, x', h3, h4, h5, h6⟩ | ⟨h1, h2, h3⟩ | ⟨h1, x', h3, h4, h5, h6⟩
  · rw [hk] at h1; exact Or.inl ⟨h1, x', h3, h4, h5⟩
  · rw [hk] at h1; have := q_lt h1; omega
  · exact Or.inr ⟨fun h => h1 (hk.mpr h), x', h3, h4, h6⟩
theorem q_fin (hX : SX S) (h : zQs T st Z x i W) : (T[i]? = none ∧ f_X5_pass N S 49 mO x = some (nI 1, U1 x 49 6 (nI (i + 1)))) ∨ (T[i]? ≠ none ∧ ∃ x', f_X5_pass N S 49 mO x = some (nI 0, x') ∧ zFq x x' ∧ x'.1 49 10 = nI (fsT T st Z i)) := by
  have hk := tk_end (o := T[i]?) (fun t ht => (h.2.2.2.2.2.2.2.1 i t ht).1)
  have ht := q_token (N := N) hX h
  have h5 := h.2.2.2.2.1
  by_cases e : T[i]? = none
  · refine Or.inl ⟨e, ?_⟩
    have e2 : tkC T[i]? = mO := hk.mpr e
    simp (disch := (first | omega | (simp only [sx_l42 hX, sx_l43 hX, sx_l44 hX, sx_l46 hX, sx_l50 hX, sx_l51 hX, sx_l52 hX, sx_l53 hX, sx_l54 hX, sx_l56 hX, sx_l57 hX, sx_l58 hX, sx_l60 hX, sx_l61 hX, sx_l62 hX, sx_l63 hX, sx_l64 hX, sx_l65 hX, sx_l66 hX, sx_l88 hX, sx_l89 hX, sx_l90 hX, sx_l0 hX, sx_l1 hX, sx_l2 hX, sx_l5 hX, sx_l6 hX, sx_l7 hX, sx_l8 hX, sx_l9 hX, sx_l10 hX, sx_l11 hX, sx_l12 hX, sx_l13 hX, sx_l14 hX, sx_l15 hX]; omega))) only [f_X5_pass, ht, e2, h5, ↓eM, eL_0, eL_1, eL_2, eL_3, eL_4, eL_5, eL_6, eL_7, eL_8, eL_9, eL_10, eL_11, eL_12, eL_15, eL_16, eL_20, eL_24, eL_30, eL_31, eL_32, eL_39, eL_40, eL_41, eL_42, eL_43, eL_45, eL_47, eL_48, eL_49, eL_50, eL_57, eL_59, eL_60, eL_61, eL_90, eL_96, eL_97, eL_100, eL_122, eL_160, eL_161, eL_255, eL_300, eL_343, eL_999, eL_1000, eL_1920, eL_9999, eL_10000, eL_999999, eL_100000, eL_1000000, ↓reduceIte, ↓bl_e, bd_e, u1_f, u1_s, u2_f, u2_s, w_cl, w_ltT, w_ltF, w_leT, w_leF, w_eqT, w_eqF, w_mlt, w_ltm, w_mle, w_lem, w_eqm, w_meq, w_mltm, nI_add, w_sub, w_addm, up_s, up_n, ud_s, ud_n, ck_n, bz_0, bz_1]
  · have e2 : (tkC T[i]? = mO) = False := eq_false (fun h => e (hk.mp h))
    obtain ⟨x', e1, e3, e4, e5⟩ := q_fail (N := N) hX h
    refine Or.inr ⟨e, x', ?_, e3, e5⟩
    simp (disch := (first | omega | (simp only [sx_l42 hX, sx_l43 hX, sx_l44 hX, sx_l46 hX, sx_l50 hX, sx_l51 hX, sx_l52 hX, sx_l53 hX, sx_l54 hX, sx_l56 hX, sx_l57 hX, sx_l58 hX, sx_l60 hX, sx_l61 hX, sx_l62 hX, sx_l63 hX, sx_l64 hX, sx_l65 hX, sx_l66 hX, sx_l88 hX, sx_l89 hX, sx_l90 hX, sx_l0 hX, sx_l1 hX, sx_l2 hX, sx_l5 hX, sx_l6 hX, sx_l7 hX, sx_l8 hX, sx_l9 hX, sx_l10 hX, sx_l11 hX, sx_l12 hX, sx_l13 hX, sx_l14 hX, sx_l15 hX]; omega))) only [f_X5_pass, ht, e2, e1, ↓eM, eL_0, eL_1, eL_2, eL_3, eL_4, eL_5, eL_6, eL_7, eL_8, eL_9, eL_10, eL_11, eL_12, eL_15, eL_16, eL_20, eL_24, eL_30, eL_31, eL_32, eL_39, eL_40, eL_41, eL_42, eL_43, eL_45, eL_47, eL_48, eL_49, eL_50, eL_57, eL_59, eL_60, eL_61, eL_90, eL_96, eL_97, eL_100, eL_122, eL_160, eL_161, eL_255, eL_300, eL_343, eL_999, eL_1000, eL_1920, eL_9999, eL_10000, eL_999999, eL_100000, eL_1000000, ↓reduceIte, ↓bl_e, bd_e, u1_f, u1_s, u2_f, u2_s, w_cl, w_ltT, w_ltF, w_leT, w_leF, w_eqT, w_eqF, w_mlt, w_ltm, w_mle, w_lem, w_eqm, w_meq, w_mltm, nI_add, w_sub, w_addm, up_s, up_n, ud_s, ud_n, ck_n, bz_0, bz_1]
theorem zQs.u9 (h : zQs T st Z x i W) (v : Int32) : zQs T st Z (U1 x 49 9 v) i W := by
  obtain ⟨h1, h2, h3, h4, h5, h6, h7, h8, h9⟩ := h
  refine ⟨h1, h2, h3, ?_, ?_, ?_, ?_, fun j t e => ?_, fun j hj => ?_⟩
  · simp (disch := omega) only [u1_f, u1_s, u2_f, u2_s, up_s, up_n, ud_s, ud_n]; exact h4
  · simp (disch := omega) only [u1_f, u1_s, u2_f, u2_s, up_s, up_n, ud_s, ud_n]; exact h5
  · simp (disch := omega) only [u1_f, u1_s, u2_f, u2_s, up_s, up_n, ud_s, ud_n]; exact h6
  · simp (disch := omega) only [u1_f, u1_s, u2_f, u2_s, up_s, up_n, ud_s, ud_n]; exact h7
  · simp (disch := omega) only [u1_f, u1_s, u2_f, u2_s, up_s, up_n, ud_s, ud_n]; exact h8 j t e
  · simp (disch := omega) only [u1_f, u1_s, u2_f, u2_s, up_s, up_n, ud_s, ud_n]; exact h9 j hj
theorem m_key (h : zQl B Z i y) {v : Nat} (hv : v < 5) : ((zTT B Z)[i]? = some (3, v) ∧ f_X12_isKey N Sm 40 (nI v) y = some (nI 1)) ∨ ((zTT B Z)[i]? ≠ some (3, v) ∧ f_X12_isKey N Sm 40 (nI v) y = some (nI 0)) := by
  obtain ⟨-, -, h1, h2, -⟩ := h
  cases e : (zTT B Z)[i]? with
  | none =>
    have h34 := h2 e
    refine Or.inr ⟨by simp, ?_⟩
    simp (disch := omega) only [f_X12_isKey, h34, ↓eM, eL_0, eL_1, eL_2, eL_3, eL_4, eL_5, eL_6, eL_7, eL_8, eL_9, eL_10, eL_11, eL_12, eL_15, eL_16, eL_20, eL_24, eL_30, eL_31, eL_32, eL_39, eL_40, eL_41, eL_42, eL_43, eL_45, eL_47, eL_48, eL_49, eL_50, eL_57, eL_59, eL_60, eL_61, eL_90, eL_96, eL_97, eL_100, eL_122, eL_160, eL_161, eL_255, eL_300, eL_343, eL_999, eL_1000, eL_1920, eL_9999, eL_10000, eL_999999, eL_100000, eL_1000000, ↓reduceIte, ↓bl_e, bd_e, u1_f, u1_s, u2_f, u2_s, w_cl, w_ltT, w_ltF, w_leT, w_leF, w_eqT, w_eqF, w_mlt, w_ltm, w_mle, w_lem, w_eqm, w_meq, w_mltm, nI_add, w_sub, w_addm, up_s, up_n, ud_s, ud_n, ck_n, bz_0, bz_1]
  | some t =>
    obtain ⟨k1, k2, k3⟩ := h1 t e
    obtain ⟨a, b⟩ := t
    unfold zTkOk at k1
    dsimp only at k1 k2 k3
    by_cases ha : a = 3
    · subst ha
      have k3' := k3 (by decide)
      by_cases hb : b = v
      · subst hb
        refine Or.inl ⟨rfl, ?_⟩
        simp (disch := omega) only [f_X12_isKey, k2, k3', ↓eM, eL_0, eL_1, eL_2, eL_3, eL_4, eL_5, eL_6, eL_7, eL_8, eL_9, eL_10, eL_11, eL_12, eL_15, eL_16, eL_20, eL_24, eL_30, eL_31, eL_32, eL_39, eL_40, eL_41, eL_42, eL_43, eL_45, eL_47, eL_48, eL_49, eL_50, eL_57, eL_59, eL_60, eL_61, eL_90, eL_96, eL_97, eL_100, eL_122, eL_160, eL_161, eL_255, eL_300, eL_343, eL_999, eL_1000, eL_1920, eL_9999, eL_10000, eL_999999, eL_100000, eL_1000000, ↓reduceIte, ↓bl_e, bd_e, u1_f, u1_s, u2_f, u2_s, w_cl, w_ltT, w_ltF, w_leT, w_leF, w_eqT, w_eqF, w_mlt, w_ltm, w_mle, w_lem, w_eqm, w_meq, w_mltm, nI_add, w_sub, w_addm, up_s, up_n, ud_s, ud_n, ck_n, bz_0, bz_1]
      · refine Or.inr ⟨fun h => hb (by injection h with h; injection h), ?_⟩
        have hb5 : b < 5 := by omega
        simp (disch := omega) only [f_X12_isKey, k2, k3', ↓eM, eL_0, eL_1, eL_2, eL_3, eL_4, eL_5, eL_6, eL_7, eL_8, eL_9, eL_10, eL_11, eL_12, eL_15, eL_16, eL_20, eL_24, eL_30, eL_31, eL_32, eL_39, eL_40, eL_41, eL_42, eL_43, eL_45, eL_47, eL_48, eL_49, eL_50, eL_57, eL_59, eL_60, eL_61, eL_90, eL_96, eL_97, eL_100, eL_122, eL_160, eL_161, eL_255, eL_300, eL_343, eL_999, eL_1000, eL_1920, eL_9999, eL_10000, eL_999999, eL_100000, eL_1000000, ↓reduceIte, ↓bl_e, bd_e, u1_f, u1_s, u2_f, u2_s, w_cl, w_ltT, w_ltF, w_leT, w_leF, w_eqT, w_eqF, w_mlt, w_ltm, w_mle, w_lem, w_eqm, w_meq, w_mltm, nI_add, w_sub, w_addm, up_s, up_n, ud_s, ud_n, ck_n, bz_0, bz_1]
    · refine Or.inr ⟨fun h => ha (by injection h with h; injection h), ?_⟩
      have ha5 : a ≤ 5 := by omega
      simp (disch := omega) only [f_X12_isKey, k2, ↓eM, eL_0, eL_1, eL_2, eL_3, eL_4, eL_5, eL_6, eL_7, eL_8, eL_9, eL_10, eL_11, eL_12, eL_15, eL_16, eL_20, eL_24, eL_30, eL_31, eL_32, eL_39, eL_40, eL_41, eL_42, eL_43, eL_45, eL_47, eL_48, eL_49, eL_50, eL_57, eL_59, eL_60, eL_61, eL_90, eL_96, eL_97, eL_100, eL_122, eL_160, eL_161, eL_255, eL_300, eL_343, eL_999, eL_1000, eL_1920, eL_9999, eL_10000, eL_999999, eL_100000, eL_1000000, ↓reduceIte, ↓bl_e, bd_e, u1_f, u1_s, u2_f, u2_s, w_cl, w_ltT, w_ltF, w_leT, w_leF, w_eqT, w_eqF, w_mlt, w_ltm, w_mle, w_lem, w_eqm, w_meq, w_mltm, nI_add, w_sub, w_addm, up_s, up_n, ud_s, ud_n, ck_n, bz_0, bz_1]
theorem m_end (h : zQl B Z i y) : ((zTT B Z)[i]? = none ∧ y.1 40 34 = nI 0) ∨ ((zTT B Z)[i]? ≠ none ∧ (y.1 40 34 = nI 0) = False) := by
  obtain ⟨-, -, h1, h2, -⟩ := h
  cases e : (zTT B Z)[i]? with
  | none => exact Or.inl ⟨rfl, h2 e⟩
  | some t =>
    obtain ⟨k1, k2, k3⟩ := h1 t e
    unfold zTkOk at k1
    refine Or.inr ⟨by simp, ?_⟩
    rw [k2]
    exact w_eqF (by omega) (by omega) (by omega)
theorem itr_1 {α ρ : Type} {N : Nat} (h : 0 < N) (F : (α → Option ρ) → α → Option ρ) (a : α) : itr F N a = F (itr F (N - 1)) a := by
  obtain ⟨m, rfl⟩ : ∃ m, N = m + 1 := ⟨N - 1, by omega⟩
  rfl
def zGood (Tn : Nat) (x' y' : DY) (P G : List Nat) : Prop := zGd P ∧ zGd G ∧ P.length < 160 ∧ P.length + G.length ≤ 160 ∧ x'.1 49 9 = nI P.length ∧ x'.1 49 8 = nI (P.length + G.length) ∧ (∀ j, j < P.length + G.length → x'.1 54 j = encX ((P ++ G).getD j 0)) ∧ y'.1 62 (2 * Tn) = nI P.length ∧ (∀ j, j < P.length → y'.1 63 (160 * (2 * Tn) + j) = encM (P.getD j 0)) ∧ y'.1 62 (2 * Tn + 1) = nI G.length ∧ (∀ j, j < G.length → y'.1 63 (160 * (2 * Tn + 1) + j) = encM (G.getD j 0))
set_option maxHeartbeats 3200000 in
theorem k_read (hN : 600 ≤ N) (hX : SX S) (hM : SHM Sm) (hE : zEX x) (hZ : Z ≤ 160) (hx1 : x.1 49 1 = nI Z) (hB : ∀ i, i < Z → B i < 256 ∧ x.1 50 i = nI (B i)) (hy : zBy B Z y) {Tn : Nat} (hTn : Tn < 6) (h29 : y.1 40 29 = nI Tn) :
    ∃ r x' y', f_X5_readAll N S 49 x = some (r, x') ∧ f_X12_isText N Sm 40 y = some (r, y') ∧ zFa x x' ∧ zFb (2 * Tn) y y' ∧ ((r = nI 0 ∧ y'.1 40 36 = x'.1 49 10) ∨ (r = nI 1 ∧ ∃ P G, zGood Tn x' y' P G)) := by
  obtain ⟨x1, e1, hc⟩ := x_cut (N := N) hN hX hE hZ hx1 hB
  obtain ⟨c1, c2, c3, c4, c5, c6, c7, c8⟩ := hc
  obtain ⟨x2, hx2⟩ : ∃ x2, x2 = U1 (U1 x1 49 6 (nI 0)) 49 8 (nI 0) := ⟨_, rfl⟩
  have hx2' : U1 (U1 x1 49 6 (nI 0)) 49 8 (nI 0) = x2 := hx2.symm
  have f2 : zFa x x2 := by
    rw [hx2]
    have f1 : zFa x x1 := ⟨fun b h1 h2 => c1 b h1 (by omega) (by omega) (by omega), c2, fun k hk => c3 k (by omega)⟩
    exact (f1.u (by omega) _).u (by omega) _
  have q0 : zQs (zTT B Z) (zSS B Z) Z x2 0 [] := by
    rw [hx2]
    refine ⟨Nat.zero_le _, by rw [zTT_len]; omega, Nat.le_refl _, ?_, ?_, ?_, ?_, fun j t e => ?_, fun j hj => absurd hj (Nat.not_lt_zero j)⟩
    · simp (disch := omega) only [u1_f, u1_s, u2_f, u2_s, up_s, up_n, ud_s, ud_n]; rw [c7, zTT_len]
    · simp (disch := omega) only [u1_f, u1_s, u2_f, u2_s, up_s, up_n, ud_s, ud_n]
    · simp (disch := omega) only [u1_f, u1_s, u2_f, u2_s, up_s, up_n, ud_s, ud_n]; rfl
    · simp (disch := omega) only [u1_f, u1_s, u2_f, u2_s, up_s, up_n, ud_s, ud_n]; rw [c3 1 (by omega)]; exact hx1
    · rw [zTT_get] at e
      obtain ⟨⟨t', s⟩, g1, g2⟩ := Option.map_eq_some_iff.mp e
      have g2' : t' = t := g2
      subst g2'
      obtain ⟨k1, k2, k3⟩ := c8 j t' s g1
      have hs : zSS B Z j = s := by unfold zSS; rw [List.getD_eq_getElem?_getD, g1]; rfl
      rw [hs]
      simp (disch := omega) only [u1_f, u1_s, u2_f, u2_s, up_s, up_n, ud_s, ud_n]
      exact ⟨lx_ok _ _ (t', s) (List.mem_of_getElem? g1), k1, k2, k3⟩
  have hy0 : zBy B Z (U1 y 40 33 (nI 0)) := ⟨by simp (disch := omega) only [u1_f, u1_s, u2_f, u2_s, up_s, up_n, ud_s, ud_n]; exact hy.1, fun i hi => by simp (disch := omega) only [u1_f, u1_s, u2_f, u2_s, up_s, up_n, ud_s, ud_n]; exact hy.2 i hi⟩
  obtain ⟨y1, n1, l1, g1⟩ := l_next (N := N) hN hM hZ hy0 (pos := 0) (i := 0) (Nat.zero_le _) (by simp (disch := omega) only [u1_f, u1_s, u2_f, u2_s, up_s, up_n, ud_s, ud_n]) rfl
  have b1 : zFb (2 * Tn) y y1 := (zFb.rf.u (by omega) (by omega) (nI 0)).tr g1.fb
  have i0 : ∀ (F : (Int32 × DY → Option (Int32 × DY)) → Int32 × DY → Option (Int32 × DY)) a, itr F N a = F (itr F (N - 1)) a := fun F a => itr_1 (by omega) F a
  have i1 : ∀ (F : (Int32 × DY → Option (Int32 × DY)) → Int32 × DY → Option (Int32 × DY)) a, itr F (N - 1) a = F (itr F (N - 2)) a := fun F a => itr_1 (by omega) F a
  have i2 : ∀ (F : (Int32 × DY → Option (Int32 × DY)) → Int32 × DY → Option (Int32 × DY)) a, itr F (N - 2) a = F (itr F (N - 3)) a := fun F a => itr_1 (by omega) F a
  have hLX := l_lx (B := B) (Z := Z) (N := N) (Sm := Sm) hN hM hZ
  -- take
  rcases q_key (N := N) hX q0 (v := 0) (by omega) (a := -nI 5) rfl with ⟨t1, x3, p3, fq3, q3⟩ | ⟨t1, x3, p3, fq3, q3⟩
  rotate_left
  · rcases m_key (N := N) (Sm := Sm) l1 (v := 0) (by omega) with ⟨t2, k1⟩ | ⟨t2, k1⟩
    · exact absurd t2 t1
    refine ⟨nI 0, x3, y1, ?_, ?_, f2.tr fq3.fa, b1, Or.inl ⟨rfl, by rw [q3]; exact l1.2.2.2.2⟩⟩
    · simp (disch := (first | omega | (simp only [sx_l42 hX, sx_l43 hX, sx_l44 hX, sx_l46 hX, sx_l50 hX, sx_l51 hX, sx_l52 hX, sx_l53 hX, sx_l54 hX, sx_l56 hX, sx_l57 hX, sx_l58 hX, sx_l60 hX, sx_l61 hX, sx_l62 hX, sx_l63 hX, sx_l64 hX, sx_l65 hX, sx_l66 hX, sx_l88 hX, sx_l89 hX, sx_l90 hX, sx_l0 hX, sx_l1 hX, sx_l2 hX, sx_l5 hX, sx_l6 hX, sx_l7 hX, sx_l8 hX, sx_l9 hX, sx_l10 hX, sx_l11 hX, sx_l12 hX, sx_l13 hX, sx_l14 hX, sx_l15 hX]; omega))) only [f_X5_readAll, e1, hx2', p3, ↓eM, eL_0, eL_1, eL_2, eL_3, eL_4, eL_5, eL_6, eL_7, eL_8, eL_9, eL_10, eL_11, eL_12, eL_15, eL_16, eL_20, eL_24, eL_30, eL_31, eL_32, eL_39, eL_40, eL_41, eL_42, eL_43, eL_45, eL_47, eL_48, eL_49, eL_50, eL_57, eL_59, eL_60, eL_61, eL_90, eL_96, eL_97, eL_100, eL_122, eL_160, eL_161, eL_255, eL_300, eL_343, eL_999, eL_1000, eL_1920, eL_9999, eL_10000, eL_999999, eL_100000, eL_1000000, ↓reduceIte, ↓bl_e, bd_e, u1_f, u1_s, u2_f, u2_s, w_cl, w_ltT, w_ltF, w_leT, w_leF, w_eqT, w_eqF, w_mlt, w_ltm, w_mle, w_lem, w_eqm, w_meq, w_mltm, nI_add, w_sub, w_addm, up_s, up_n, ud_s, ud_n, ck_n, bz_0, bz_1]
    · simp (disch := (first | omega | (simp only [shm_l41 hM, shm_l42 hM, shm_l43 hM, shm_l44 hM, shm_l45 hM, shm_l46 hM, shm_l47 hM, shm_l48 hM, shm_l49 hM, shm_l50 hM, shm_l51 hM, shm_l52 hM, shm_l53 hM, shm_l54 hM, shm_l55 hM, shm_l56 hM, shm_l57 hM, shm_l58 hM, shm_l59 hM, shm_l60 hM, shm_l61 hM, shm_l62 hM, shm_l63 hM, shm_l64 hM, shm_l65 hM, shm_l66 hM, shm_l67 hM, shm_l68 hM, shm_l69 hM, shm_l70 hM, shm_l71 hM, shm_l72 hM, shm_l73 hM, shm_l74 hM, shm_l75 hM, shm_l76 hM, shm_l77 hM, shm_l78 hM, shm_l79 hM, shm_l80 hM]; omega))) only [f_X12_isText, lp_X12_isText_11, lp_X12_isText_11_b, n1, i0, k1, ↓eM, eL_0, eL_1, eL_2, eL_3, eL_4, eL_5, eL_6, eL_7, eL_8, eL_9, eL_10, eL_11, eL_12, eL_15, eL_16, eL_20, eL_24, eL_30, eL_31, eL_32, eL_39, eL_40, eL_41, eL_42, eL_43, eL_45, eL_47, eL_48, eL_49, eL_50, eL_57, eL_59, eL_60, eL_61, eL_90, eL_96, eL_97, eL_100, eL_122, eL_160, eL_161, eL_255, eL_300, eL_343, eL_999, eL_1000, eL_1920, eL_9999, eL_10000, eL_999999, eL_100000, eL_1000000, ↓reduceIte, ↓bl_e, bd_e, u1_f, u1_s, u2_f, u2_s, w_cl, w_ltT, w_ltF, w_leT, w_leF, w_eqT, w_eqF, w_mlt, w_ltm, w_mle, w_lem, w_eqm, w_meq, w_mltm, nI_add, w_sub, w_addm, up_s, up_n, ud_s, ud_n, ck_n, bz_0, bz_1]
  have k1 : f_X12_isKey N Sm 40 (nI 0) y1 = some (nI 1) := by
    rcases m_key (N := N) (Sm := Sm) l1 (v := 0) (by omega) with ⟨t2, k1⟩ | ⟨t2, k1⟩
    · exact k1
    · exact absurd t1 t2
  have f3 := f2.tr fq3.fa
  obtain ⟨y2, n2, l2, g2⟩ := hLX.2.1 0 y1 (q_lt t1) l1
  have b2 := b1.tr g2.fb
  have y29 : y2.1 40 29 = nI Tn := (b2.2.1 29 (by omega)).trans h29
  have l3 : zQl B Z 1 (U1 y2 40 42 (nI (2 * Tn))) := hLX.2.2 1 y2 _ l2 (by simp (disch := omega) only [u1_f, u1_s, u2_f, u2_s, up_s, up_n, ud_s, ud_n]) (fun k hk => by simp (disch := omega) only [u1_f, u1_s, u2_f, u2_s, up_s, up_n, ud_s, ud_n])
  have b3 := b2.u (k := 42) (by omega) (by omega) (nI (2 * Tn))
  obtain ⟨r4, x4, i4, P, r4', y4, p4, fq4, q4, le4, pl4, m4, fp4, l4, alt4⟩ := h_part (N := N) hN hX hM hZ (p := 2 * Tn) (by omega) q3 l3 (by simp (disch := omega) only [u1_f, u1_s, u2_f, u2_s, up_s, up_n, ud_s, ud_n])
  rw [List.nil_append] at q4
  have f4 := f3.tr fq4.fa
  have b4 := b3.tr fp4.fb0
  have w4 : x4.1 49 8 = nI P.length := q4.2.2.2.2.2.1
  have hP160 : P.length < 160 := by
    have h1 := q4.1
    have h2 := q4.2.1
    omega
  have hm0 : nI 2 * nI Tn + nI 0 = nI (2 * Tn) := by rw [pk_mul, nI_add]; rfl
  have f5 := f4.u (k := 9) (by omega) (nI P.length)
  have q5 := q4.u9 (nI P.length)
  rcases alt4 with ⟨rfl, rfl, a10⟩ | ⟨rfl, rfl, t4⟩ | ⟨rfl, rfl, t4, gP, s62, s63⟩
  · refine ⟨nI 0, x4, y4, ?_, ?_, f4, b4, Or.inl ⟨rfl, by rw [a10]; exact l4.2.2.2.2⟩⟩
    · simp (disch := (first | omega | (simp only [sx_l42 hX, sx_l43 hX, sx_l44 hX, sx_l46 hX, sx_l50 hX, sx_l51 hX, sx_l52 hX, sx_l53 hX, sx_l54 hX, sx_l56 hX, sx_l57 hX, sx_l58 hX, sx_l60 hX, sx_l61 hX, sx_l62 hX, sx_l63 hX, sx_l64 hX, sx_l65 hX, sx_l66 hX, sx_l88 hX, sx_l89 hX, sx_l90 hX, sx_l0 hX, sx_l1 hX, sx_l2 hX, sx_l5 hX, sx_l6 hX, sx_l7 hX, sx_l8 hX, sx_l9 hX, sx_l10 hX, sx_l11 hX, sx_l12 hX, sx_l13 hX, sx_l14 hX, sx_l15 hX]; omega))) only [f_X5_readAll, e1, hx2', p3, p4, ↓eM, eL_0, eL_1, eL_2, eL_3, eL_4, eL_5, eL_6, eL_7, eL_8, eL_9, eL_10, eL_11, eL_12, eL_15, eL_16, eL_20, eL_24, eL_30, eL_31, eL_32, eL_39, eL_40, eL_41, eL_42, eL_43, eL_45, eL_47, eL_48, eL_49, eL_50, eL_57, eL_59, eL_60, eL_61, eL_90, eL_96, eL_97, eL_100, eL_122, eL_160, eL_161, eL_255, eL_300, eL_343, eL_999, eL_1000, eL_1920, eL_9999, eL_10000, eL_999999, eL_100000, eL_1000000, ↓reduceIte, ↓bl_e, bd_e, u1_f, u1_s, u2_f, u2_s, w_cl, w_ltT, w_ltF, w_leT, w_leF, w_eqT, w_eqF, w_mlt, w_ltm, w_mle, w_lem, w_eqm, w_meq, w_mltm, nI_add, w_sub, w_addm, up_s, up_n, ud_s, ud_n, ck_n, bz_0, bz_1]
    · simp (disch := (first | omega | (simp only [shm_l41 hM, shm_l42 hM, shm_l43 hM, shm_l44 hM, shm_l45 hM, shm_l46 hM, shm_l47 hM, shm_l48 hM, shm_l49 hM, shm_l50 hM, shm_l51 hM, shm_l52 hM, shm_l53 hM, shm_l54 hM, shm_l55 hM, shm_l56 hM, shm_l57 hM, shm_l58 hM, shm_l59 hM, shm_l60 hM, shm_l61 hM, shm_l62 hM, shm_l63 hM, shm_l64 hM, shm_l65 hM, shm_l66 hM, shm_l67 hM, shm_l68 hM, shm_l69 hM, shm_l70 hM, shm_l71 hM, shm_l72 hM, shm_l73 hM, shm_l74 hM, shm_l75 hM, shm_l76 hM, shm_l77 hM, shm_l78 hM, shm_l79 hM, shm_l80 hM]; omega))) only [f_X12_isText, lp_X12_isText_11, lp_X12_isText_11_b, n1, i0, k1, n2, y29, hm0, m4, ↓eM, eL_0, eL_1, eL_2, eL_3, eL_4, eL_5, eL_6, eL_7, eL_8, eL_9, eL_10, eL_11, eL_12, eL_15, eL_16, eL_20, eL_24, eL_30, eL_31, eL_32, eL_39, eL_40, eL_41, eL_42, eL_43, eL_45, eL_47, eL_48, eL_49, eL_50, eL_57, eL_59, eL_60, eL_61, eL_90, eL_96, eL_97, eL_100, eL_122, eL_160, eL_161, eL_255, eL_300, eL_343, eL_999, eL_1000, eL_1920, eL_9999, eL_10000, eL_999999, eL_100000, eL_1000000, ↓reduceIte, ↓bl_e, bd_e, u1_f, u1_s, u2_f, u2_s, w_cl, w_ltT, w_ltF, w_leT, w_leF, w_eqT, w_eqF, w_mlt, w_ltm, w_mle, w_lem, w_eqm, w_meq, w_mltm, nI_add, w_sub, w_addm, up_s, up_n, ud_s, ud_n, ck_n, bz_0, bz_1]
  · rcases q_semi (N := N) hX q5 with ⟨t6, x6, p6, fq6, q6⟩ | ⟨t6, x6, p6, fq6, q6⟩
    · exact absurd t6 t4
    refine ⟨nI 0, x6, y4, ?_, ?_, f5.tr fq6.fa, b4, Or.inl ⟨rfl, by rw [q6]; exact l4.2.2.2.2⟩⟩
    · simp (disch := (first | omega | (simp only [sx_l42 hX, sx_l43 hX, sx_l44 hX, sx_l46 hX, sx_l50 hX, sx_l51 hX, sx_l52 hX, sx_l53 hX, sx_l54 hX, sx_l56 hX, sx_l57 hX, sx_l58 hX, sx_l60 hX, sx_l61 hX, sx_l62 hX, sx_l63 hX, sx_l64 hX, sx_l65 hX, sx_l66 hX, sx_l88 hX, sx_l89 hX, sx_l90 hX, sx_l0 hX, sx_l1 hX, sx_l2 hX, sx_l5 hX, sx_l6 hX, sx_l7 hX, sx_l8 hX, sx_l9 hX, sx_l10 hX, sx_l11 hX, sx_l12 hX, sx_l13 hX, sx_l14 hX, sx_l15 hX]; omega))) only [f_X5_readAll, e1, hx2', p3, p4, w4, p6, ↓eM, eL_0, eL_1, eL_2, eL_3, eL_4, eL_5, eL_6, eL_7, eL_8, eL_9, eL_10, eL_11, eL_12, eL_15, eL_16, eL_20, eL_24, eL_30, eL_31, eL_32, eL_39, eL_40, eL_41, eL_42, eL_43, eL_45, eL_47, eL_48, eL_49, eL_50, eL_57, eL_59, eL_60, eL_61, eL_90, eL_96, eL_97, eL_100, eL_122, eL_160, eL_161, eL_255, eL_300, eL_343, eL_999, eL_1000, eL_1920, eL_9999, eL_10000, eL_999999, eL_100000, eL_1000000, ↓reduceIte, ↓bl_e, bd_e, u1_f, u1_s, u2_f, u2_s, w_cl, w_ltT, w_ltF, w_leT, w_leF, w_eqT, w_eqF, w_mlt, w_ltm, w_mle, w_lem, w_eqm, w_meq, w_mltm, nI_add, w_sub, w_addm, up_s, up_n, ud_s, ud_n, ck_n, bz_0, bz_1]
    · simp (disch := (first | omega | (simp only [shm_l41 hM, shm_l42 hM, shm_l43 hM, shm_l44 hM, shm_l45 hM, shm_l46 hM, shm_l47 hM, shm_l48 hM, shm_l49 hM, shm_l50 hM, shm_l51 hM, shm_l52 hM, shm_l53 hM, shm_l54 hM, shm_l55 hM, shm_l56 hM, shm_l57 hM, shm_l58 hM, shm_l59 hM, shm_l60 hM, shm_l61 hM, shm_l62 hM, shm_l63 hM, shm_l64 hM, shm_l65 hM, shm_l66 hM, shm_l67 hM, shm_l68 hM, shm_l69 hM, shm_l70 hM, shm_l71 hM, shm_l72 hM, shm_l73 hM, shm_l74 hM, shm_l75 hM, shm_l76 hM, shm_l77 hM, shm_l78 hM, shm_l79 hM, shm_l80 hM]; omega))) only [f_X12_isText, lp_X12_isText_11, lp_X12_isText_11_b, n1, i0, k1, n2, y29, hm0, m4, ↓eM, eL_0, eL_1, eL_2, eL_3, eL_4, eL_5, eL_6, eL_7, eL_8, eL_9, eL_10, eL_11, eL_12, eL_15, eL_16, eL_20, eL_24, eL_30, eL_31, eL_32, eL_39, eL_40, eL_41, eL_42, eL_43, eL_45, eL_47, eL_48, eL_49, eL_50, eL_57, eL_59, eL_60, eL_61, eL_90, eL_96, eL_97, eL_100, eL_122, eL_160, eL_161, eL_255, eL_300, eL_343, eL_999, eL_1000, eL_1920, eL_9999, eL_10000, eL_999999, eL_100000, eL_1000000, ↓reduceIte, ↓bl_e, bd_e, u1_f, u1_s, u2_f, u2_s, w_cl, w_ltT, w_ltF, w_leT, w_leF, w_eqT, w_eqF, w_mlt, w_ltm, w_mle, w_lem, w_eqm, w_meq, w_mltm, nI_add, w_sub, w_addm, up_s, up_n, ud_s, ud_n, ck_n, bz_0, bz_1]
  obtain ⟨x6, p6, fq6, q6⟩ : ∃ x', f_X5_pass N S 49 (nI 59) (U1 x4 49 9 (nI P.length)) = some (nI 1, x') ∧ zFq (U1 x4 49 9 (nI P.length)) x' ∧ zQs (zTT B Z) (zSS B Z) Z x' (i4 + 1) P := by
    rcases q_semi (N := N) hX q5 with ⟨t6, h⟩ | ⟨t6, h⟩
    · exact h
    · exact absurd t4 t6
  have f6 := f5.tr fq6.fa
  have x69 : x6.1 49 9 = nI P.length := by rw [fq6.2.2 9 (by omega) (by omega) (by omega)]; simp (disch := omega) only [u1_f, u1_s, u2_f, u2_s, up_s, up_n, ud_s, ud_n]
  obtain ⟨y5, n5, l5, g5⟩ := hLX.2.1 i4 y4 (q_lt t4) l4
  have b5 := b4.tr g5.fb
  -- go
  rcases q_key (N := N) hX q6 (v := 1) (by omega) (a := -nI 6) rfl with ⟨t7, x7, p7, fq7, q7⟩ | ⟨t7, x7, p7, fq7, q7⟩
  rotate_left
  · rcases m_key (N := N) (Sm := Sm) l5 (v := 1) (by omega) with ⟨t2, k5⟩ | ⟨t2, k5⟩
    · exact absurd t2 t7
    refine ⟨nI 0, x7, y5, ?_, ?_, f6.tr fq7.fa, b5, Or.inl ⟨rfl, by rw [q7]; exact l5.2.2.2.2⟩⟩
    · simp (disch := (first | omega | (simp only [sx_l42 hX, sx_l43 hX, sx_l44 hX, sx_l46 hX, sx_l50 hX, sx_l51 hX, sx_l52 hX, sx_l53 hX, sx_l54 hX, sx_l56 hX, sx_l57 hX, sx_l58 hX, sx_l60 hX, sx_l61 hX, sx_l62 hX, sx_l63 hX, sx_l64 hX, sx_l65 hX, sx_l66 hX, sx_l88 hX, sx_l89 hX, sx_l90 hX, sx_l0 hX, sx_l1 hX, sx_l2 hX, sx_l5 hX, sx_l6 hX, sx_l7 hX, sx_l8 hX, sx_l9 hX, sx_l10 hX, sx_l11 hX, sx_l12 hX, sx_l13 hX, sx_l14 hX, sx_l15 hX]; omega))) only [f_X5_readAll, e1, hx2', p3, p4, w4, p6, p7, ↓eM, eL_0, eL_1, eL_2, eL_3, eL_4, eL_5, eL_6, eL_7, eL_8, eL_9, eL_10, eL_11, eL_12, eL_15, eL_16, eL_20, eL_24, eL_30, eL_31, eL_32, eL_39, eL_40, eL_41, eL_42, eL_43, eL_45, eL_47, eL_48, eL_49, eL_50, eL_57, eL_59, eL_60, eL_61, eL_90, eL_96, eL_97, eL_100, eL_122, eL_160, eL_161, eL_255, eL_300, eL_343, eL_999, eL_1000, eL_1920, eL_9999, eL_10000, eL_999999, eL_100000, eL_1000000, ↓reduceIte, ↓bl_e, bd_e, u1_f, u1_s, u2_f, u2_s, w_cl, w_ltT, w_ltF, w_leT, w_leF, w_eqT, w_eqF, w_mlt, w_ltm, w_mle, w_lem, w_eqm, w_meq, w_mltm, nI_add, w_sub, w_addm, up_s, up_n, ud_s, ud_n, ck_n, bz_0, bz_1]
    · simp (disch := (first | omega | (simp only [shm_l41 hM, shm_l42 hM, shm_l43 hM, shm_l44 hM, shm_l45 hM, shm_l46 hM, shm_l47 hM, shm_l48 hM, shm_l49 hM, shm_l50 hM, shm_l51 hM, shm_l52 hM, shm_l53 hM, shm_l54 hM, shm_l55 hM, shm_l56 hM, shm_l57 hM, shm_l58 hM, shm_l59 hM, shm_l60 hM, shm_l61 hM, shm_l62 hM, shm_l63 hM, shm_l64 hM, shm_l65 hM, shm_l66 hM, shm_l67 hM, shm_l68 hM, shm_l69 hM, shm_l70 hM, shm_l71 hM, shm_l72 hM, shm_l73 hM, shm_l74 hM, shm_l75 hM, shm_l76 hM, shm_l77 hM, shm_l78 hM, shm_l79 hM, shm_l80 hM]; omega))) only [f_X12_isText, lp_X12_isText_11, lp_X12_isText_11_b, n1, i0, k1, n2, y29, hm0, m4, n5, i1, k5, Nat.zero_add, ↓eM, eL_0, eL_1, eL_2, eL_3, eL_4, eL_5, eL_6, eL_7, eL_8, eL_9, eL_10, eL_11, eL_12, eL_15, eL_16, eL_20, eL_24, eL_30, eL_31, eL_32, eL_39, eL_40, eL_41, eL_42, eL_43, eL_45, eL_47, eL_48, eL_49, eL_50, eL_57, eL_59, eL_60, eL_61, eL_90, eL_96, eL_97, eL_100, eL_122, eL_160, eL_161, eL_255, eL_300, eL_343, eL_999, eL_1000, eL_1920, eL_9999, eL_10000, eL_999999, eL_100000, eL_1000000, ↓reduceIte, ↓bl_e, bd_e, u1_f, u1_s, u2_f, u2_s, w_cl, w_ltT, w_ltF, w_leT, w_leF, w_eqT, w_eqF, w_mlt, w_ltm, w_mle, w_lem, w_eqm, w_meq, w_mltm, nI_add, w_sub, w_addm, up_s, up_n, ud_s, ud_n, ck_n, bz_0, bz_1]
  have k5 : f_X12_isKey N Sm 40 (nI 1) y5 = some (nI 1) := by
    rcases m_key (N := N) (Sm := Sm) l5 (v := 1) (by omega) with ⟨t2, k1⟩ | ⟨t2, k1⟩
    · exact k1
    · exact absurd t7 t2
  have f7 := f6.tr fq7.fa
  have x79 : x7.1 49 9 = nI P.length := (fq7.2.2 9 (by omega) (by omega) (by omega)).trans x69
  obtain ⟨y6, n6, l6, g6⟩ := hLX.2.1 (i4 + 1) y5 (q_lt t7) l5
  have b6 := b5.tr g6.fb
  have y69 : y6.1 40 29 = nI Tn := (b6.2.1 29 (by omega)).trans h29
  have l7 : zQl B Z (i4 + 1 + 1) (U1 y6 40 42 (nI (2 * Tn + 1))) := hLX.2.2 _ y6 _ l6 (by simp (disch := omega) only [u1_f, u1_s, u2_f, u2_s, up_s, up_n, ud_s, ud_n]) (fun k hk => by simp (disch := omega) only [u1_f, u1_s, u2_f, u2_s, up_s, up_n, ud_s, ud_n])
  have b7 := b6.u (k := 42) (by omega) (by omega) (nI (2 * Tn + 1))
  obtain ⟨r8, x8, i8, G, r8', y8, p8, fq8, q8, le8, pl8, m8, fp8, l8, alt8⟩ := h_part (N := N) hN hX hM hZ (p := 2 * Tn + 1) (by omega) q7 l7 (by simp (disch := omega) only [u1_f, u1_s, u2_f, u2_s, up_s, up_n, ud_s, ud_n])
  have f8 := f7.tr fq8.fa
  have b8 := b7.tr fp8.fb1
  have hm1 : nI 2 * nI Tn + nI 1 = nI (2 * Tn + 1) := by rw [pk_mul, nI_add]
  have x89 : x8.1 49 9 = nI P.length := (fq8.2.2 9 (by omega) (by omega) (by omega)).trans x79
  rcases alt8 with ⟨rfl, rfl, a10⟩ | ⟨rfl, rfl, t8⟩ | ⟨rfl, rfl, t8, gG, u62, u63⟩
  · refine ⟨nI 0, x8, y8, ?_, ?_, f8, b8, Or.inl ⟨rfl, by rw [a10]; exact l8.2.2.2.2⟩⟩
    · simp (disch := (first | omega | (simp only [sx_l42 hX, sx_l43 hX, sx_l44 hX, sx_l46 hX, sx_l50 hX, sx_l51 hX, sx_l52 hX, sx_l53 hX, sx_l54 hX, sx_l56 hX, sx_l57 hX, sx_l58 hX, sx_l60 hX, sx_l61 hX, sx_l62 hX, sx_l63 hX, sx_l64 hX, sx_l65 hX, sx_l66 hX, sx_l88 hX, sx_l89 hX, sx_l90 hX, sx_l0 hX, sx_l1 hX, sx_l2 hX, sx_l5 hX, sx_l6 hX, sx_l7 hX, sx_l8 hX, sx_l9 hX, sx_l10 hX, sx_l11 hX, sx_l12 hX, sx_l13 hX, sx_l14 hX, sx_l15 hX]; omega))) only [f_X5_readAll, e1, hx2', p3, p4, w4, p6, p7, p8, ↓eM, eL_0, eL_1, eL_2, eL_3, eL_4, eL_5, eL_6, eL_7, eL_8, eL_9, eL_10, eL_11, eL_12, eL_15, eL_16, eL_20, eL_24, eL_30, eL_31, eL_32, eL_39, eL_40, eL_41, eL_42, eL_43, eL_45, eL_47, eL_48, eL_49, eL_50, eL_57, eL_59, eL_60, eL_61, eL_90, eL_96, eL_97, eL_100, eL_122, eL_160, eL_161, eL_255, eL_300, eL_343, eL_999, eL_1000, eL_1920, eL_9999, eL_10000, eL_999999, eL_100000, eL_1000000, ↓reduceIte, ↓bl_e, bd_e, u1_f, u1_s, u2_f, u2_s, w_cl, w_ltT, w_ltF, w_leT, w_leF, w_eqT, w_eqF, w_mlt, w_ltm, w_mle, w_lem, w_eqm, w_meq, w_mltm, nI_add, w_sub, w_addm, up_s, up_n, ud_s, ud_n, ck_n, bz_0, bz_1]
    · simp (disch := (first | omega | (simp only [shm_l41 hM, shm_l42 hM, shm_l43 hM, shm_l44 hM, shm_l45 hM, shm_l46 hM, shm_l47 hM, shm_l48 hM, shm_l49 hM, shm_l50 hM, shm_l51 hM, shm_l52 hM, shm_l53 hM, shm_l54 hM, shm_l55 hM, shm_l56 hM, shm_l57 hM, shm_l58 hM, shm_l59 hM, shm_l60 hM, shm_l61 hM, shm_l62 hM, shm_l63 hM, shm_l64 hM, shm_l65 hM, shm_l66 hM, shm_l67 hM, shm_l68 hM, shm_l69 hM, shm_l70 hM, shm_l71 hM, shm_l72 hM, shm_l73 hM, shm_l74 hM, shm_l75 hM, shm_l76 hM, shm_l77 hM, shm_l78 hM, shm_l79 hM, shm_l80 hM]; omega))) only [f_X12_isText, lp_X12_isText_11, lp_X12_isText_11_b, n1, i0, k1, n2, y29, hm0, m4, n5, i1, k5, n6, y69, hm1, m8, Nat.zero_add, ↓eM, eL_0, eL_1, eL_2, eL_3, eL_4, eL_5, eL_6, eL_7, eL_8, eL_9, eL_10, eL_11, eL_12, eL_15, eL_16, eL_20, eL_24, eL_30, eL_31, eL_32, eL_39, eL_40, eL_41, eL_42, eL_43, eL_45, eL_47, eL_48, eL_49, eL_50, eL_57, eL_59, eL_60, eL_61, eL_90, eL_96, eL_97, eL_100, eL_122, eL_160, eL_161, eL_255, eL_300, eL_343, eL_999, eL_1000, eL_1920, eL_9999, eL_10000, eL_999999, eL_100000, eL_1000000, ↓reduceIte, ↓bl_e, bd_e, u1_f, u1_s, u2_f, u2_s, w_cl, w_ltT, w_ltF, w_leT, w_leF, w_eqT, w_eqF, w_mlt, w_ltm, w_mle, w_lem, w_eqm, w_meq, w_mltm, nI_add, w_sub, w_addm, up_s, up_n, ud_s, ud_n, ck_n, bz_0, bz_1]
  · rcases q_semi (N := N) hX q8 with ⟨t9, x9, p9, fq9, q9⟩ | ⟨t9, x9, p9, fq9, q9⟩
    · exact absurd t9 t8
    refine ⟨nI 0, x9, y8, ?_, ?_, f8.tr fq9.fa, b8, Or.inl ⟨rfl, by rw [q9]; exact l8.2.2.2.2⟩⟩
    · simp (disch := (first | omega | (simp only [sx_l42 hX, sx_l43 hX, sx_l44 hX, sx_l46 hX, sx_l50 hX, sx_l51 hX, sx_l52 hX, sx_l53 hX, sx_l54 hX, sx_l56 hX, sx_l57 hX, sx_l58 hX, sx_l60 hX, sx_l61 hX, sx_l62 hX, sx_l63 hX, sx_l64 hX, sx_l65 hX, sx_l66 hX, sx_l88 hX, sx_l89 hX, sx_l90 hX, sx_l0 hX, sx_l1 hX, sx_l2 hX, sx_l5 hX, sx_l6 hX, sx_l7 hX, sx_l8 hX, sx_l9 hX, sx_l10 hX, sx_l11 hX, sx_l12 hX, sx_l13 hX, sx_l14 hX, sx_l15 hX]; omega))) only [f_X5_readAll, e1, hx2', p3, p4, w4, p6, p7, p8, p9, ↓eM, eL_0, eL_1, eL_2, eL_3, eL_4, eL_5, eL_6, eL_7, eL_8, eL_9, eL_10, eL_11, eL_12, eL_15, eL_16, eL_20, eL_24, eL_30, eL_31, eL_32, eL_39, eL_40, eL_41, eL_42, eL_43, eL_45, eL_47, eL_48, eL_49, eL_50, eL_57, eL_59, eL_60, eL_61, eL_90, eL_96, eL_97, eL_100, eL_122, eL_160, eL_161, eL_255, eL_300, eL_343, eL_999, eL_1000, eL_1920, eL_9999, eL_10000, eL_999999, eL_100000, eL_1000000, ↓reduceIte, ↓bl_e, bd_e, u1_f, u1_s, u2_f, u2_s, w_cl, w_ltT, w_ltF, w_leT, w_leF, w_eqT, w_eqF, w_mlt, w_ltm, w_mle, w_lem, w_eqm, w_meq, w_mltm, nI_add, w_sub, w_addm, up_s, up_n, ud_s, ud_n, ck_n, bz_0, bz_1]
    · simp (disch := (first | omega | (simp only [shm_l41 hM, shm_l42 hM, shm_l43 hM, shm_l44 hM, shm_l45 hM, shm_l46 hM, shm_l47 hM, shm_l48 hM, shm_l49 hM, shm_l50 hM, shm_l51 hM, shm_l52 hM, shm_l53 hM, shm_l54 hM, shm_l55 hM, shm_l56 hM, shm_l57 hM, shm_l58 hM, shm_l59 hM, shm_l60 hM, shm_l61 hM, shm_l62 hM, shm_l63 hM, shm_l64 hM, shm_l65 hM, shm_l66 hM, shm_l67 hM, shm_l68 hM, shm_l69 hM, shm_l70 hM, shm_l71 hM, shm_l72 hM, shm_l73 hM, shm_l74 hM, shm_l75 hM, shm_l76 hM, shm_l77 hM, shm_l78 hM, shm_l79 hM, shm_l80 hM]; omega))) only [f_X12_isText, lp_X12_isText_11, lp_X12_isText_11_b, n1, i0, k1, n2, y29, hm0, m4, n5, i1, k5, n6, y69, hm1, m8, Nat.zero_add, ↓eM, eL_0, eL_1, eL_2, eL_3, eL_4, eL_5, eL_6, eL_7, eL_8, eL_9, eL_10, eL_11, eL_12, eL_15, eL_16, eL_20, eL_24, eL_30, eL_31, eL_32, eL_39, eL_40, eL_41, eL_42, eL_43, eL_45, eL_47, eL_48, eL_49, eL_50, eL_57, eL_59, eL_60, eL_61, eL_90, eL_96, eL_97, eL_100, eL_122, eL_160, eL_161, eL_255, eL_300, eL_343, eL_999, eL_1000, eL_1920, eL_9999, eL_10000, eL_999999, eL_100000, eL_1000000, ↓reduceIte, ↓bl_e, bd_e, u1_f, u1_s, u2_f, u2_s, w_cl, w_ltT, w_ltF, w_leT, w_leF, w_eqT, w_eqF, w_mlt, w_ltm, w_mle, w_lem, w_eqm, w_meq, w_mltm, nI_add, w_sub, w_addm, up_s, up_n, ud_s, ud_n, ck_n, bz_0, bz_1]
  obtain ⟨x9, p9, fq9, q9⟩ : ∃ x', f_X5_pass N S 49 (nI 59) x8 = some (nI 1, x') ∧ zFq x8 x' ∧ zQs (zTT B Z) (zSS B Z) Z x' (i8 + 1) (P ++ G) := by
    rcases q_semi (N := N) hX q8 with ⟨t6, h⟩ | ⟨t6, h⟩
    · exact h
    · exact absurd t8 t6
  have f9 := f8.tr fq9.fa
  have x99 : x9.1 49 9 = nI P.length := (fq9.2.2 9 (by omega) (by omega) (by omega)).trans x89
  obtain ⟨y9, n9, l9, g9⟩ := hLX.2.1 i8 y8 (q_lt t8) l8
  have b9 := b8.tr g9.fb
  have hT := q9.2.1
  have hi9 := q9.1
  rcases q_fin (N := N) hX q9 with ⟨t10, p10⟩ | ⟨t10, x10, p10, fq10, q10⟩
  · have k9 : y9.1 40 34 = nI 0 := by
      rcases m_end l9 with ⟨t2, k1⟩ | ⟨t2, k1⟩
      · exact k1
      · exact absurd t10 t2
    refine ⟨nI 1, U1 x9 49 6 (nI (i8 + 1 + 1)), y9, ?_, ?_, f9.u (by omega) _, b9, Or.inr ⟨rfl, P, G, gP, gG, by omega, ?_, ?_, ?_, fun j hj => ?_, ?_, fun j hj => ?_, ?_, fun j hj => ?_⟩⟩
    · simp (disch := (first | omega | (simp only [sx_l42 hX, sx_l43 hX, sx_l44 hX, sx_l46 hX, sx_l50 hX, sx_l51 hX, sx_l52 hX, sx_l53 hX, sx_l54 hX, sx_l56 hX, sx_l57 hX, sx_l58 hX, sx_l60 hX, sx_l61 hX, sx_l62 hX, sx_l63 hX, sx_l64 hX, sx_l65 hX, sx_l66 hX, sx_l88 hX, sx_l89 hX, sx_l90 hX, sx_l0 hX, sx_l1 hX, sx_l2 hX, sx_l5 hX, sx_l6 hX, sx_l7 hX, sx_l8 hX, sx_l9 hX, sx_l10 hX, sx_l11 hX, sx_l12 hX, sx_l13 hX, sx_l14 hX, sx_l15 hX]; omega))) only [f_X5_readAll, e1, hx2', p3, p4, w4, p6, p7, p8, p9, p10, ↓eM, eL_0, eL_1, eL_2, eL_3, eL_4, eL_5, eL_6, eL_7, eL_8, eL_9, eL_10, eL_11, eL_12, eL_15, eL_16, eL_20, eL_24, eL_30, eL_31, eL_32, eL_39, eL_40, eL_41, eL_42, eL_43, eL_45, eL_47, eL_48, eL_49, eL_50, eL_57, eL_59, eL_60, eL_61, eL_90, eL_96, eL_97, eL_100, eL_122, eL_160, eL_161, eL_255, eL_300, eL_343, eL_999, eL_1000, eL_1920, eL_9999, eL_10000, eL_999999, eL_100000, eL_1000000, ↓reduceIte, ↓bl_e, bd_e, u1_f, u1_s, u2_f, u2_s, w_cl, w_ltT, w_ltF, w_leT, w_leF, w_eqT, w_eqF, w_mlt, w_ltm, w_mle, w_lem, w_eqm, w_meq, w_mltm, nI_add, w_sub, w_addm, up_s, up_n, ud_s, ud_n, ck_n, bz_0, bz_1]
    · simp (disch := (first | omega | (simp only [shm_l41 hM, shm_l42 hM, shm_l43 hM, shm_l44 hM, shm_l45 hM, shm_l46 hM, shm_l47 hM, shm_l48 hM, shm_l49 hM, shm_l50 hM, shm_l51 hM, shm_l52 hM, shm_l53 hM, shm_l54 hM, shm_l55 hM, shm_l56 hM, shm_l57 hM, shm_l58 hM, shm_l59 hM, shm_l60 hM, shm_l61 hM, shm_l62 hM, shm_l63 hM, shm_l64 hM, shm_l65 hM, shm_l66 hM, shm_l67 hM, shm_l68 hM, shm_l69 hM, shm_l70 hM, shm_l71 hM, shm_l72 hM, shm_l73 hM, shm_l74 hM, shm_l75 hM, shm_l76 hM, shm_l77 hM, shm_l78 hM, shm_l79 hM, shm_l80 hM]; omega))) only [f_X12_isText, lp_X12_isText_11, lp_X12_isText_11_b, n1, i0, k1, n2, y29, hm0, m4, n5, i1, k5, n6, y69, hm1, m8, n9, i2, k9, Nat.zero_add, Nat.reduceAdd, ↓eM, eL_0, eL_1, eL_2, eL_3, eL_4, eL_5, eL_6, eL_7, eL_8, eL_9, eL_10, eL_11, eL_12, eL_15, eL_16, eL_20, eL_24, eL_30, eL_31, eL_32, eL_39, eL_40, eL_41, eL_42, eL_43, eL_45, eL_47, eL_48, eL_49, eL_50, eL_57, eL_59, eL_60, eL_61, eL_90, eL_96, eL_97, eL_100, eL_122, eL_160, eL_161, eL_255, eL_300, eL_343, eL_999, eL_1000, eL_1920, eL_9999, eL_10000, eL_999999, eL_100000, eL_1000000, ↓reduceIte, ↓bl_e, bd_e, u1_f, u1_s, u2_f, u2_s, w_cl, w_ltT, w_ltF, w_leT, w_leF, w_eqT, w_eqF, w_mlt, w_ltm, w_mle, w_lem, w_eqm, w_meq, w_mltm, nI_add, w_sub, w_addm, up_s, up_n, ud_s, ud_n, ck_n, bz_0, bz_1]
    · have := q9.2.2.1
      rw [List.length_append] at this
      omega
    · simp (disch := omega) only [u1_f, u1_s, u2_f, u2_s, up_s, up_n, ud_s, ud_n]; exact x99
    · have := q9.2.2.2.2.2.1
      rw [List.length_append] at this
      simp (disch := omega) only [u1_f, u1_s, u2_f, u2_s, up_s, up_n, ud_s, ud_n]; exact this
    · have := q9.2.2.2.2.2.2.2.2 j (by rw [List.length_append]; exact hj)
      simp (disch := omega) only [u1_f, u1_s, u2_f, u2_s, up_s, up_n, ud_s, ud_n]; exact this
    · rw [g9.1 62 (by omega), fp8.2.2.1 _ (by omega)]
      simp (disch := omega) only [u1_f, u1_s, u2_f, u2_s, up_s, up_n, ud_s, ud_n]
      rw [g6.1 62 (by omega), g5.1 62 (by omega)]; exact s62
    · rw [g9.1 63 (by omega), fp8.2.2.2.1 _ (by omega)]
      simp (disch := omega) only [u1_f, u1_s, u2_f, u2_s, up_s, up_n, ud_s, ud_n]
      rw [g6.1 63 (by omega), g5.1 63 (by omega)]; exact s63 j hj
    · rw [g9.1 62 (by omega)]; exact u62
    · rw [g9.1 63 (by omega)]; exact u63 j hj
  · have k9 : (y9.1 40 34 = nI 0) = False := by
      rcases m_end l9 with ⟨t2, k1⟩ | ⟨t2, k1⟩
      · exact absurd t2 t10
      · exact k1
    refine ⟨nI 0, x10, y9, ?_, ?_, f9.tr fq10.fa, b9, Or.inl ⟨rfl, by rw [q10]; exact l9.2.2.2.2⟩⟩
    · simp (disch := (first | omega | (simp only [sx_l42 hX, sx_l43 hX, sx_l44 hX, sx_l46 hX, sx_l50 hX, sx_l51 hX, sx_l52 hX, sx_l53 hX, sx_l54 hX, sx_l56 hX, sx_l57 hX, sx_l58 hX, sx_l60 hX, sx_l61 hX, sx_l62 hX, sx_l63 hX, sx_l64 hX, sx_l65 hX, sx_l66 hX, sx_l88 hX, sx_l89 hX, sx_l90 hX, sx_l0 hX, sx_l1 hX, sx_l2 hX, sx_l5 hX, sx_l6 hX, sx_l7 hX, sx_l8 hX, sx_l9 hX, sx_l10 hX, sx_l11 hX, sx_l12 hX, sx_l13 hX, sx_l14 hX, sx_l15 hX]; omega))) only [f_X5_readAll, e1, hx2', p3, p4, w4, p6, p7, p8, p9, p10, ↓eM, eL_0, eL_1, eL_2, eL_3, eL_4, eL_5, eL_6, eL_7, eL_8, eL_9, eL_10, eL_11, eL_12, eL_15, eL_16, eL_20, eL_24, eL_30, eL_31, eL_32, eL_39, eL_40, eL_41, eL_42, eL_43, eL_45, eL_47, eL_48, eL_49, eL_50, eL_57, eL_59, eL_60, eL_61, eL_90, eL_96, eL_97, eL_100, eL_122, eL_160, eL_161, eL_255, eL_300, eL_343, eL_999, eL_1000, eL_1920, eL_9999, eL_10000, eL_999999, eL_100000, eL_1000000, ↓reduceIte, ↓bl_e, bd_e, u1_f, u1_s, u2_f, u2_s, w_cl, w_ltT, w_ltF, w_leT, w_leF, w_eqT, w_eqF, w_mlt, w_ltm, w_mle, w_lem, w_eqm, w_meq, w_mltm, nI_add, w_sub, w_addm, up_s, up_n, ud_s, ud_n, ck_n, bz_0, bz_1]
    · simp (disch := (first | omega | (simp only [shm_l41 hM, shm_l42 hM, shm_l43 hM, shm_l44 hM, shm_l45 hM, shm_l46 hM, shm_l47 hM, shm_l48 hM, shm_l49 hM, shm_l50 hM, shm_l51 hM, shm_l52 hM, shm_l53 hM, shm_l54 hM, shm_l55 hM, shm_l56 hM, shm_l57 hM, shm_l58 hM, shm_l59 hM, shm_l60 hM, shm_l61 hM, shm_l62 hM, shm_l63 hM, shm_l64 hM, shm_l65 hM, shm_l66 hM, shm_l67 hM, shm_l68 hM, shm_l69 hM, shm_l70 hM, shm_l71 hM, shm_l72 hM, shm_l73 hM, shm_l74 hM, shm_l75 hM, shm_l76 hM, shm_l77 hM, shm_l78 hM, shm_l79 hM, shm_l80 hM]; omega))) only [f_X12_isText, lp_X12_isText_11, lp_X12_isText_11_b, n1, i0, k1, n2, y29, hm0, m4, n5, i1, k5, n6, y69, hm1, m8, n9, i2, k9, Nat.zero_add, Nat.reduceAdd, ↓eM, eL_0, eL_1, eL_2, eL_3, eL_4, eL_5, eL_6, eL_7, eL_8, eL_9, eL_10, eL_11, eL_12, eL_15, eL_16, eL_20, eL_24, eL_30, eL_31, eL_32, eL_39, eL_40, eL_41, eL_42, eL_43, eL_45, eL_47, eL_48, eL_49, eL_50, eL_57, eL_59, eL_60, eL_61, eL_90, eL_96, eL_97, eL_100, eL_122, eL_160, eL_161, eL_255, eL_300, eL_343, eL_999, eL_1000, eL_1920, eL_9999, eL_10000, eL_999999, eL_100000, eL_1000000, ↓reduceIte, ↓bl_e, bd_e, u1_f, u1_s, u2_f, u2_s, w_cl, w_ltT, w_ltF, w_leT, w_leF, w_eqT, w_eqF, w_mlt, w_ltm, w_mle, w_lem, w_eqm, w_meq, w_mltm, nI_add, w_sub, w_addm, up_s, up_n, ud_s, ud_n, ck_n, bz_0, bz_1]
end READA
