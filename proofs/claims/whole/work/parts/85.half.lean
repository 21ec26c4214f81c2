/-! LAYER 3: texts: both readers over one row of tokens -/
def zTT (B : Nat → Nat) (Z : Nat) : List ZT := (LX B Z 0).map Prod.fst
def zSS (B : Nat → Nat) (Z : Nat) (j : Nat) : Nat := ((LX B Z 0).getD j ((0, 0), 0)).2
def zBy (B : Nat → Nat) (Z : Nat) (y : DY) : Prop := y.1 40 28 = nI Z ∧ ∀ i, i < Z → B i < 256 ∧ y.1 61 i = sb (B i)
def zQl (B : Nat → Nat) (Z i : Nat) (y : DY) : Prop :=
  zBy B Z y ∧ (∃ pos, pos ≤ Z ∧ y.1 40 33 = nI pos ∧ LX B Z pos = (LX B Z 0).drop (i + 1)) ∧ (∀ t, (zTT B Z)[i]? = some t → zTkOk t ∧ y.1 40 34 = nI t.1 ∧ (t.1 ≠ 5 → y.1 40 35 = nI t.2)) ∧ ((zTT B Z)[i]? = none → y.1 40 34 = nI 0) ∧ y.1 40 36 = nI (fsT (zTT B Z) (zSS B Z) Z i)
theorem zTT_get {B : Nat → Nat} {Z i : Nat} : (zTT B Z)[i]? = ((LX B Z 0)[i]?).map Prod.fst := List.getElem?_map ..
theorem zTT_len {B : Nat → Nat} {Z : Nat} : (zTT B Z).length = (LX B Z 0).length := List.length_map ..
section HALF
variable {N : Nat} {S Sm : SH} {x y : DY} {B : Nat → Nat} {Z : Nat}
/-- the next token: from a place of the tape to the i-th token at hand -/
theorem l_next (hN : 600 ≤ N) (hM : SHM Sm) (hZ : Z ≤ 160) (h : zBy B Z y) {pos i : Nat} (hp : pos ≤ Z) (h33 : y.1 40 33 = nI pos) (hL : LX B Z pos = (LX B Z 0).drop i) : ∃ y', f_X12_next N Sm 40 y = some y' ∧ zQl B Z i y' ∧ zFnx y y' := by
  obtain ⟨y', e1, e2, e3⟩ := m_next (N := N) hN hM hZ h.1 h.2 hp h33
  have hb : zBy B Z y' := ⟨by rw [e2.2.1 28 (by omega)]; exact h.1, fun i hi => by rw [e2.1 61 (by omega)]; exact h.2 i hi⟩
  refine ⟨y', e1, ⟨hb, ?_⟩, e2⟩
  rcases e3 with ⟨k1, k2, k3, k4⟩ | ⟨t, s, e, k1, k2, k3, k4, k5, k6, k7, k8⟩
  · rw [hL] at k1
    have hlen : (LX B Z 0).length ≤ i := List.drop_eq_nil_iff.mp k1
    have hnone : (zTT B Z)[i]? = none := List.getElem?_eq_none (by rw [zTT_len]; exact hlen)
    refine ⟨⟨Z, Nat.le_refl _, k4, ?_⟩, fun t ht => ?_, fun _ => k2, ?_⟩
    · rw [LX_end (Nat.le_refl _)]
      exact (List.drop_eq_nil_iff.mpr (by omega)).symm
    · rw [hnone] at ht; cases ht
    · rw [k3]; unfold fsT; rw [if_neg (by rw [zTT_len]; omega)]
  · rw [hL] at k1
    have hi : i < (LX B Z 0).length := by
      rcases Nat.lt_or_ge i (LX B Z 0).length with h | h
      · exact h
      · rw [List.drop_eq_nil_iff.mpr h] at k1; cases k1
    rw [List.drop_eq_getElem_cons hi] at k1
    injection k1 with k1 k1'
    have hg : (LX B Z 0)[i]? = some (t, s) := by rw [List.getElem?_eq_getElem hi, k1]
    have hT : (zTT B Z)[i]? = some t := by rw [zTT_get, hg]; rfl
    refine ⟨⟨e, k3, k8, k1'.symm⟩, fun t' ht => ?_, fun hn => ?_, ?_⟩
    · rw [hT] at ht
      injection ht with ht
      subst ht
      exact ⟨k4, k5, k6⟩
    · rw [hT] at hn; cases hn
    · rw [k7]; unfold fsT zSS; rw [if_pos (by rw [zTT_len]; exact hi), List.getD_eq_getElem?_getD, hg]; rfl
theorem l_lx (hN : 600 ≤ N) (hM : SHM Sm) (hZ : Z ≤ 160) : zLx N Sm (zTT B Z) (zQl B Z) := by
  refine ⟨fun i y h => ⟨h.2.2.1, h.2.2.2.1⟩, fun i y hi h => ?_, fun i y y' h h61 hk => ?_⟩
  · obtain ⟨h1, ⟨pos, p1, p2, p3⟩, -⟩ := h
    exact l_next hN hM hZ h1 p1 p2 p3
  · unfold zQl zBy at h ⊢
    rw [h61, hk 28 (by omega), hk 33 (by omega), hk 34 (by omega), hk 35 (by omega), hk 36 (by omega)]
    exact h
theorem drop_inj {T : List ZT} {i j : Nat} (hi : i ≤ T.length) (hj : j ≤ T.length) (h : T.drop i = T.drop j) : i = j := by
  have := congrArg List.length h
  rw [List.length_drop, List.length_drop] at this
  omega
/-- what is left behind a whole piece, at the bottom: ; ends it, anything else errs there -/
theorem zMac_bot {T : List ZT} {i : Nat} {c : Bool} {o : List Nat} (h : zStop 0 (T.drop i) c) : (T[i]? = some (4, 59) ∧ zMac (T.drop i) false false [] [c] o = .ok (T.drop i, o)) ∨ (T[i]? ≠ some (4, 59) ∧ zMac (T.drop i) false false [] [c] o = .error (T.drop i)) := by
  cases e : T[i]? with
  | none =>
    have hd : T.drop i = [] := List.drop_eq_nil_iff.mpr (List.getElem?_eq_none_iff.mp e)
    refine Or.inr ⟨by simp, ?_⟩
    rw [hd, zMac]
  | some t =>
    rw [drop_t e] at h ⊢
    rw [zMac]
    by_cases h1 : t = (4, 59)
    · refine Or.inl ⟨by rw [h1], ?_⟩
      rw [if_pos h1, if_pos (show brk [] = 0 from rfl)]
      show Except.ok (_, o ++ []) = _
      rw [List.append_nil]
    refine Or.inr ⟨fun h => h1 (by injection h), ?_⟩
    rw [if_neg h1]
    by_cases h2 : t = (4, 41)
    · rw [if_pos h2, if_pos (show brk [] = 0 from rfl)]
    rw [if_neg h2]
    by_cases h3 : sgOf t = 0
    · rw [if_pos h3]
    rw [if_neg h3]
    rcases h with h | ⟨h, hc⟩
    · have := (sg_rk t).2.2 h3
      have h' : rk (sgOf t) ≤ 0 := h
      omega
    · have h' : rk (sgOf t) = 4 := h
      rw [if_pos ⟨h', hc⟩]
/-- one part of a text, by both -/
theorem h_part (hN : 600 ≤ N) (hX : SX S) (hM : SHM Sm) (hZ : Z ≤ 160) {p : Nat} (hp : p < 12) {i : Nat} {W : List Nat} (hq : zQs (zTT B Z) (zSS B Z) Z x i W) (hl : zQl B Z i y) (h42 : y.1 40 42 = nI p) :
    ∃ r x' i' P r' y', fR_X5_readEither N S 20 49 (nI 0) x = some (r, x') ∧ zFq x x' ∧ zQs (zTT B Z) (zSS B Z) Z x' i' (W ++ P) ∧ i ≤ i' ∧ P.length + i ≤ i' ∧ f_X12_part N Sm 40 y = some (r', y') ∧ zFp p y y' ∧ zQl B Z i' y' ∧
      ((r = nI 0 ∧ r' = nI 0 ∧ x'.1 49 10 = nI (fsT (zTT B Z) (zSS B Z) Z i')) ∨ (r = nI 1 ∧ r' = nI 0 ∧ (zTT B Z)[i']? ≠ some (4, 59)) ∨ (r = nI 1 ∧ r' = nI 1 ∧ (zTT B Z)[i']? = some (4, 59) ∧ zGd P ∧ y'.1 62 p = nI P.length ∧ ∀ j, j < P.length → y'.1 63 (160 * p + j) = encM (P.getD j 0))) := by
  obtain ⟨r, x', i', P, a1, a2, a3, a4, a5, a6⟩ := rd_top (N := N) (T := zTT B Z) (st := zSS B Z) (Z := Z) hN hX i W x hq
  obtain ⟨r', y', i'', b1, b2, b3, b4, b5⟩ := m_part (N := N) hN hM hp hq.2.1 (l_lx (B := B) (Z := Z) hN hM hZ) hq.1 hl h42
  refine ⟨r, x', i', P, r', y', a1, a2, a3, a4, a5, b1, b2, ?_⟩
  rcases a6 with ⟨rfl, c1, c2, c', c3, c4⟩ | ⟨rfl, c1, c2⟩
  · have c3' := c3 [] [] [] rfl (fun c hc => by cases hc)
    have c3'' : zMac (List.drop i (zTT B Z)) true true [] [false] [] = zMac (List.drop i' (zTT B Z)) false false [] [c'] P := c3'
    rcases zMac_bot (o := P) c4 with ⟨d1, d2⟩ | ⟨d1, d2⟩
    · rw [d2] at c3''
      rcases b5 with ⟨rfl, f1⟩ | ⟨rfl, f1, o, f2, f3, f4⟩
      · rw [c3''] at f1; cases f1
      · rw [c3''] at f2
        injection f2 with f2
        injection f2 with f5 f6
        have : i' = i'' := drop_inj a3.1 b4 f5
        subst this; subst f6
        exact ⟨b3, Or.inr (Or.inr ⟨rfl, rfl, d1, c2, f3, f4⟩)⟩
    · rw [d2] at c3''
      rcases b5 with ⟨rfl, f1⟩ | ⟨rfl, f1, o, f2, f3, f4⟩
      · rw [c3''] at f1
        injection f1 with f1
        have : i' = i'' := drop_inj a3.1 b4 f1
        subst this
        exact ⟨b3, Or.inr (Or.inl ⟨rfl, rfl, d1⟩)⟩
      · rw [c3''] at f2; cases f2
  · have c2' := c2 [] [] [] rfl (fun c hc => by cases hc)
    rcases b5 with ⟨rfl, f1⟩ | ⟨rfl, f1, o, f2, f3, f4⟩
    · rw [c2'] at f1
      injection f1 with f1
      have : i' = i'' := drop_inj a3.1 b4 f1
      subst this
      exact ⟨b3, Or.inl ⟨rfl, rfl, c1⟩⟩
    · rw [c2'] at f2; cases f2
end HALF
