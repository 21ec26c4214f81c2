/-! new int[4][40] -/
abbrev SM (S : SH) : SH := (S.1 + 5, fun b => if b < S.1 then S.2.1 b else if b = S.1 then 18 else 14, fun b => if b < S.1 then S.2.2.1 b else if b = S.1 then 4 else 40, fun b => if b < S.1 then S.2.2.2 b else if b = S.1 then (fun i => if i < 4 then some (S.1 + 1 + i) else none) else (fun _ => none))
abbrev XM (x : DY) (a : Nat) : DY := (fun b => if b < a then x.1 b else (fun _ => 0), fun b => if b < a then x.2 b else (fun _ => 0))
section MNA
variable {M : MI} {d mcT msT : Nat} {Q : QT} {pc pc' : Nat} {ls : List (Option Value)} {st st0 : List Value} {S S' : SH} {x x' : DY} {k n : Nat}
theorem wsE_mna {ty : Nat → ClassId} {σ σ' : Nat → Nat} {q : Nat} {r : Nat → Nat} {f : Nat → va_E} (h20 : 40 ≤ S.1) (hR : RI S) (hσ : ∀ k, k < S.1 → σ' k = σ k) (hq : σ' S.1 = q) (hr : ∀ i, i < 4 → σ' (S.1 + 1 + i) = r i) :
    wsE ty σ' (SM S) (XM x S.1) = (wsE ty σ S x ++ [(q, .inl (ty 18, 4, .inr (.inr (.inr (.inr (fun i => if i < 4 then some (r i) else none))))))]) ++ va_pl ([] ++ (List.range 4).map r) (vr_up f ((List.range 4).map r) (.inl (ty 14, 40, .inl (fun _ => 0)))) := by
  have hl : (wsE ty σ S x).length = S.1 - 40 := wsE_len
  apply List.ext_getElem?
  intro j
  by_cases h1 : j < S.1 - 40
  · have hb : j + 40 < S.1 := by omega
    have hm : ∀ i, (S.2.2.2 (j + 40) i).map σ' = (S.2.2.2 (j + 40) i).map σ := fun i => by
      cases h : S.2.2.2 (j + 40) i with
      | none => rfl
      | some a => exact congrArg some (hσ a (hR _ i a h))
    have hc : cellE ty σ' (SM S) (XM x S.1) (j + 40) = cellE ty σ S x (j + 40) := by
      unfold cellE oV fVal
      simp only [if_pos hb, hm]
    rw [wsE_get (by show j < S.1 + 5 - 40; omega), List.append_assoc, List.getElem?_append_left (by omega), wsE_get h1, hσ _ hb, hc]
  · by_cases h2 : j = S.1 - 40
    · subst h2
      rw [wsE_get (by show S.1 - 40 < S.1 + 5 - 40; omega), List.append_assoc, List.getElem?_append_right (by omega), hl, Nat.sub_self, Nat.sub_add_cancel h20, hq]
      have hc : cellE ty σ' (SM S) (XM x S.1) S.1 = .inl (ty 18, 4, .inr (.inr (.inr (.inr (fun i => if i < 4 then some (r i) else none))))) := by
        rw [cellE_rar (by show 16 ≤ (if S.1 < S.1 then _ else if S.1 = S.1 then 18 else 14); simp)]
        simp only [Nat.lt_irrefl, if_true, if_false]
        refine congrArg (fun f : Nat → Option Nat => (Sum.inl (ty 18, 4, Sum.inr (Sum.inr (Sum.inr (Sum.inr f)))) : va_E)) (funext fun i => ?_)
        by_cases hi : i < 4
        · rw [if_pos hi, if_pos hi]; exact congrArg some (hr i hi)
        · rw [if_neg hi, if_neg hi]; rfl
      rw [hc]; rfl
    · by_cases h3 : j < S.1 - 40 + 5
      · obtain ⟨i, hi, rfl⟩ : ∃ i, i < 4 ∧ j = S.1 - 40 + 1 + i := ⟨j - (S.1 - 40 + 1), by omega, by omega⟩
        have hc : cellE ty σ' (SM S) (XM x S.1) (S.1 - 40 + 1 + i + 40) = .inl (ty 14, 40, .inl (fun _ => 0)) := by
          have n1 : ¬ (S.1 - 40 + 1 + i + 40 < S.1) := by omega
          have n2 : ¬ (S.1 - 40 + 1 + i + 40 = S.1) := by omega
          rw [cellE_arr (by show 13 ≤ (if _ then _ else if _ then 18 else 14); rw [if_neg n1, if_neg n2]; decide) (by show (if _ then _ else if _ then 18 else 14) < 16; rw [if_neg n1, if_neg n2]; decide)]
          simp only [if_neg n1, if_neg n2]
        have hm : r i ∈ (List.range 4).map r := List.mem_map.mpr ⟨i, List.mem_range.mpr hi, rfl⟩
        rw [wsE_get (by show S.1 - 40 + 1 + i < S.1 + 5 - 40; omega), hc, show S.1 - 40 + 1 + i + 40 = S.1 + 1 + i by omega, hr i hi, List.getElem?_append_right (by rw [List.length_append, hl]; show S.1 - 40 + 1 ≤ _; omega), List.length_append, hl]
        show _ = (va_pl _ _)[S.1 - 40 + 1 + i - (S.1 - 40 + 1)]?
        rw [show S.1 - 40 + 1 + i - (S.1 - 40 + 1) = i by omega]
        unfold va_pl
        rw [List.nil_append, List.getElem?_map, List.getElem?_map, List.getElem?_range hi]
        show _ = some (r i, vr_up f _ _ (r i))
        rw [vr_up_in hm]
      · rw [List.getElem?_eq_none (by rw [wsE_len]; show S.1 + 5 - 40 ≤ j; omega), List.getElem?_eq_none]
        rw [List.length_append, List.length_append, hl]
        unfold va_pl
        simp
        omega
theorem r_mna {i : Nat} (hw : Cond.classLink M.1.cls i "[[I" ∈ tb) (hin : frK S ls st) (hd : decode M.2.1 pc = .ok (.multianewarray i 2, 4)) (kk : MW M d mcT msT Q (pc + 4) ls (.ref S.1 :: st) (SM S) (XM x S.1) k n) : MW M d mcT msT Q pc ls (.int 40 :: .int 4 :: st) S x (k + 5) (n + 164) := by
  intro p l e R s m args below meth cd D ty σ0 S0 C σ H locs cells slots LS T
  obtain ⟨hW, hS, hG, hL, hr1, hr2⟩ := T
  have hts := C.2.2.2.2.2.2.2.1
  have hRm := C.2.2.2.2.2.2.2.2.1
  have hK := C.2.2.2.2.2.2.2.2.2.1.1
  have hX : ∀ f : Nat → va_E, wsE ty σ S x ++ va_pl [] f = wsE ty σ S x := fun f => List.append_nil _
  have hDA := hW.DA hG
  refine va_mna (X := wsE ty σ S x) (L := []) (f := fun _ => .inr (0, [])) (ty := .int) (cy := ty 14) (N' := 4) (K' := 40) (z := (40, .inl (fun _ => 0))) C.1 C.2.1 C.2.2.2.2.2.2.1 (hts _ hw) C.2.2.2.2.2.2.2.2.2.1.2.2.2.2.1 (hts _ (tbI 141 (by decide +kernel) rfl)) (va_nm_int (hK.2 1 _ rfl).2) hK (by rw [hX]; exact hW.1) (by rw [hX]; exact hDA) hS (fun q hq => Or.inr hq) (by decide) (by decide) (by decide) (by decide) (by decide) (by decide) (by decide) rfl rfl (by rw [hRm]; show cells + 5 ≤ mcT; omega) (by rw [hRm]; show slots + 164 ≤ msT; omega) (fun c => by first | rfl | (rw [vp_cell_i]; rfl)) hd (fun q r cA H1 hinj _ hK2 hP hD hS1 => ?_)
  have e : cA = ty 18 := K_uniq (t0 := 5) hK rfl hK2
  subst e
  have hσ : ∀ j, j < S.1 → (fun j => if j < S.1 then σ j else if j = S.1 then q else r (j - S.1 - 1)) j = σ j := fun j hj => if_pos hj
  have hσq : (fun j => if j < S.1 then σ j else if j = S.1 then q else r (j - S.1 - 1)) S.1 = q := by simp
  have hσr : ∀ i, i < 4 → (fun j => if j < S.1 then σ j else if j = S.1 then q else r (j - S.1 - 1)) (S.1 + 1 + i) = r i := fun i hi => by
    show (if S.1 + 1 + i < S.1 then _ else if S.1 + 1 + i = S.1 then q else r (S.1 + 1 + i - S.1 - 1)) = r i
    rw [if_neg (by omega), if_neg (by omega)]; congr 1; omega
  generalize (fun j => if j < S.1 then σ j else if j = S.1 then q else r (j - S.1 - 1)) = σ' at hσ hσq hσr
  have hw2 := wsE_mna (ty := ty) (x := x) (f := fun _ => .inr (0, [])) hW.2.2.2.1 hW.2.2.2.2 hσ hσq hσr
  rw [← hw2] at hP hD
  have hst : st.map (rv σ') = st.map (rv σ) := List.map_congr_left fun v hv => rv_in hσ (hin.1 v hv)
  have h20 := hW.2.2.2.1
  have hz : ∀ j, S.1 ≤ j → j < S.1 + 5 → s.heap.size ≤ σ' j := fun j hj1 hj2 => by
    have hA : AF σ0 S0 s.heap.size (σ' j) := hD.2 (j - 40) _ (wsE_at (by omega) (by show j < S.1 + 5; omega))
    rcases hA with ⟨j', j0, j1, j2⟩ | hz
    · exfalso
      have e1 : σ j' = σ' j := by rw [hG.2.1 j' j1]; exact j2.symm
      have hjS : j' < S.1 := Nat.lt_of_lt_of_le j1 hG.1
      have := hD.1 (j' - 40) (j - 40) _ _ (wsE_at j0 (by show j' < S.1 + 5; omega)) (wsE_at (by omega) (by show j < S.1 + 5; omega)) (by show σ' j' = σ' j; rw [hσ j' hjS, e1])
      omega
    · exact hz
  have hT' : ST M mcT msT D ty σ0 S0 s H1 locs (cells + 1 + 4) (slots + 4 + 4 * 40) LS σ' ls (SM S) (XM x S.1) k n := by
    refine ⟨⟨hP, hD.weaken (fun _ _ _ _ => trivial), fun i hi => ?_, by show 40 ≤ S.1 + 5; omega, fun a k b hb => ?_⟩, hS1, ⟨by show S0.1 ≤ S.1 + 5; have := hG.1; omega, fun j hj => ?_, fun j h1 h2 => ?_, fun h => ?_⟩, ⟨hL.1, hL.2.1, fun j v hj => ?_⟩, by omega, by omega⟩
    · have hi2 : i < S.1 := by omega
      have h0 := hW.2.2.1 i hi
      refine ⟨?_, fun j hj => ?_⟩
      · show (if i < S.1 then S.2.2.1 i else _) = _
        rw [if_pos hi2]; exact h0.1
      · show (if i < S.1 then x.1 i else _) j = _
        rw [if_pos hi2]; exact h0.2 j hj
    · have hb : (if a < S.1 then S.2.2.2 a else if a = S.1 then (fun i => if i < 4 then some (S.1 + 1 + i) else none) else (fun _ => none)) k = some b := hb
      show b < S.1 + 5
      by_cases e1 : a < S.1
      · rw [if_pos e1] at hb
        have := hW.2.2.2.2 a k b hb
        omega
      · rw [if_neg e1] at hb
        by_cases e2 : a = S.1
        · rw [if_pos e2] at hb
          try dsimp only at hb
          by_cases e3 : k < 4
          · rw [if_pos e3] at hb; cases hb; omega
          · rw [if_neg e3] at hb; cases hb
        · rw [if_neg e2] at hb; cases hb
    · rw [hσ j (Nat.lt_of_lt_of_le hj hG.1)]; exact hG.2.1 j hj
    · by_cases e : j < S.1
      · rw [hσ j e]; exact hG.2.2.1 j h1 e
      · exact hz j (by omega) h2
    · have h : S.1 + 5 = S0.1 := h
      have := hG.1
      omega
    · rw [rv_in hσ (hin.2 v (List.mem_of_getElem? hj))]; exact hL.2.2 j v hj
  have hk := MW.use kk (l := l) (e := e) (below := below) C hT'
  rw [List.map_cons, hst, show rv σ' (.ref S.1) = .ref q from congrArg Value.ref hσq] at hk
  exact hk
end MNA
