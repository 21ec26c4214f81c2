/-! THE START: references stand within their arrays -/
def Pn (S : SH) : Prop := ∀ a i b, S.2.2.2 a i = some b → a < S.1 ∧ (S.2.1 a < 13 ∨ i < S.2.2.1 a)
theorem Pn.sn {S : SH} {c l : Nat} (h : Pn S) : Pn (SN S c l) := fun a i b hb => by
  have hb' : (if a = S.1 then (fun _ => none) else S.2.2.2 a) i = some b := hb
  by_cases e : a = S.1
  · rw [if_pos e] at hb'; cases hb'
  · rw [if_neg e] at hb'
    obtain ⟨h1, h2⟩ := h a i b hb'
    refine ⟨Nat.lt_succ_of_lt h1, ?_⟩
    show (if a = S.1 then c else S.2.1 a) < 13 ∨ i < (if a = S.1 then l else S.2.2.1 a)
    rw [if_neg e, if_neg e]; exact h2
theorem Pn.sm {S : SH} (h : Pn S) : Pn (SM S) := fun a i b hb => by
  have hb' : (if a < S.1 then S.2.2.2 a else if a = S.1 then (fun i => if i < 4 then some (S.1 + 1 + i) else none) else (fun _ => none)) i = some b := hb
  show a < S.1 + 5 ∧ ((if a < S.1 then S.2.1 a else if a = S.1 then 18 else 14) < 13 ∨ i < (if a < S.1 then S.2.2.1 a else if a = S.1 then 4 else 40))
  by_cases e : a < S.1
  · rw [if_pos e] at hb'
    rw [if_pos e, if_pos e]
    exact ⟨by omega, (h a i b hb').2⟩
  · rw [if_neg e] at hb'
    rw [if_neg e, if_neg e]
    by_cases e2 : a = S.1
    · rw [if_pos e2] at hb'
      rw [if_pos e2, if_pos e2]
      by_cases e3 : i < 4
      · exact ⟨by omega, Or.inr e3⟩
      · have hb2 : (if i < 4 then some (S.1 + 1 + i) else none) = some b := hb'
        rw [if_neg e3] at hb2; cases hb2
    · rw [if_neg e2] at hb'; cases hb'
theorem Pn.upx {S : SH} {a k : Nat} {v : Option Nat} (h : Pn S) (ha : a < S.1) (hk : S.2.1 a < 13 ∨ k < S.2.2.1 a) : Pn (UP S a k v) := fun a' i b hb => by
  have hb' : up2 S.2.2.2 a k v a' i = some b := hb
  by_cases e : a' = a
  · subst e
    rw [up2_s] at hb'
    by_cases e2 : i = k
    · subst e2; exact ⟨ha, hk⟩
    · have hb2 : (if i = k then v else S.2.2.2 a' i) = some b := hb'
      rw [if_neg e2] at hb2
      exact h a' i b hb2
  · rw [up2_n e] at hb'
    exact h a' i b hb'
theorem Pn.up {S : SH} {a k c : Nat} {v : Option Nat} (ht : 40 ≤ a ∧ a < S.1 ∧ S.2.1 a = c) (hc : c < 13) (h : Pn S) : Pn (UP S a k v) := h.upx ht.2.1 (Or.inl (by rw [ht.2.2]; exact hc))
theorem Pn.upA {S : SH} {a c : Nat} {i : Int32} {v : Option Nat} (ht : 40 ≤ a ∧ a < S.1 ∧ S.2.1 a = c) (hi : i.toNatClampNeg < S.2.2.1 a) (h : Pn S) : Pn (UP S a i.toNatClampNeg v) := h.upx ht.2.1 (Or.inr hi)
def PO {ρ : Type} (o : Option ρ) (Q : ρ → Prop) : Prop := ∀ a, o = some a → Q a
section PO
variable {ρ α : Type} {o : Option ρ} {Q : ρ → Prop} {S : SH}
theorem po_ret {a : ρ} (h : Q a) : PO (some a) Q := fun b hb => by injection hb with hb; rw [← hb]; exact h
theorem po_none : PO (none : Option ρ) Q := fun b hb => by cases hb
theorem po_if {c : Prop} [Decidable c] {o2 : Option ρ} (h1 : PO o Q) (h2 : PO o2 Q) : PO (if c then o else o2) Q := by
  split
  · exact h1
  · exact h2
theorem po_ic {c : Prop} [Decidable c] (h1 : c → PO o Q) : PO (if c then o else none) Q := by
  split
  · exact h1 ‹_›
  · exact po_none
theorem po_ni {c : Prop} [Decidable c] (h1 : ¬ c → PO o Q) : PO (if c then none else o) Q := by
  split
  · exact po_none
  · exact h1 ‹_›
theorem po_fk {l : List (Option Value)} {s : List Value} (h : PO o Q) : PO (fk S l s o) Q := po_ic fun _ => h
theorem po_nk {m : Int32} {B : Nat} (h : PO o Q) : PO (nk m B o) Q := po_ni fun _ => h
theorem po_lk {a : Nat} (h : PO o Q) : PO (lk S a o) Q := po_ic fun _ => h
theorem po_tkX {a : Nat} (h : PO o Q) : PO (tkX S a o) Q := po_ic fun _ => h
theorem po_tk {a c : Nat} (h : (40 ≤ a ∧ a < S.1 ∧ S.2.1 a = c) → PO o Q) : PO (tk S a c o) Q := po_ic h
theorem po_ck {a : Nat} {i : Int32} (h : i.toNatClampNeg < S.2.2.1 a → PO o Q) : PO (ck S a i o) Q := po_ni fun q => h (Nat.lt_of_not_le fun q2 => q (Or.inr q2))
theorem po_rfk {v : Option Nat} {f : Nat → Option ρ} (h : ∀ b, PO (f b) Q) : PO (rfk v f) Q := by
  cases v with
  | none => exact po_none
  | some b => exact h b
theorem po_blN {v : Nat} {k : Nat → Option ρ} (h : ∀ v, PO (k v) Q) : PO (bl v k) Q := h v
theorem po_blX {v : DY} {k : DY → Option ρ} (h : ∀ v, PO (k v) Q) : PO (bl v k) Q := h v
theorem po_blS {v : SH} {k : SH → Option ρ} (h0 : Pn v) (h : ∀ v, Pn v → PO (k v) Q) : PO (bl v k) Q := h v h0
theorem po_bind {o : Option α} {f : α → Option ρ} (h : ∀ a, PO (f a) Q) : PO (Option.bind o f) Q := by
  cases o with
  | none => exact po_none
  | some a => exact h a
theorem po_bindS {o : Option (SH × DY)} {f : SH × DY → Option ρ} (h0 : PO o (fun r => Pn r.1)) (h : ∀ a, Pn a.1 → PO (f a) Q) : PO (Option.bind o f) Q := by
  cases o with
  | none => exact po_none
  | some a => exact h a (h0 a rfl)
end PO
theorem p_X10 {N : Nat} {S : SH} {a0 : Nat} {a1 : Nat} {a2 : Nat} {x : DY} (h : Pn S) : PO (fA_X10_init N S a0 a1 a2 x) (fun r => Pn r.1) := by
  unfold fA_X10_init
  repeat' (first | (with_reducible exact po_none) | (with_reducible refine po_fk ?_) | (with_reducible refine po_nk ?_) | (with_reducible refine po_lk ?_) | (with_reducible refine po_tkX ?_) | (with_reducible refine po_tk fun _ => ?_) | (with_reducible refine po_ck fun _ => ?_) | (with_reducible refine po_rfk fun _ => ?_) | (with_reducible refine po_blN fun _ => ?_) | (with_reducible refine po_blX fun _ => ?_) | (with_reducible refine po_blS (by first | exact Pn.sn (by assumption) | exact Pn.sm (by assumption) | exact Pn.up (by assumption) (by decide) (by assumption) | exact Pn.upA (by assumption) (by assumption) (by assumption)) fun _ _ => ?_) | (with_reducible refine po_bind fun _ => ?_) | (with_reducible refine po_ret ?_) | (with_reducible refine po_if ?_ ?_))
  all_goals assumption
theorem p_X3 {N : Nat} {S : SH} {a0 : Nat} {x : DY} (h : Pn S) : PO (fA_X3_init N S a0 x) (fun r => Pn r.1) := by
  unfold fA_X3_init
  repeat' (first | (with_reducible exact po_none) | (with_reducible refine po_fk ?_) | (with_reducible refine po_nk ?_) | (with_reducible refine po_lk ?_) | (with_reducible refine po_tkX ?_) | (with_reducible refine po_tk fun _ => ?_) | (with_reducible refine po_ck fun _ => ?_) | (with_reducible refine po_rfk fun _ => ?_) | (with_reducible refine po_blN fun _ => ?_) | (with_reducible refine po_blX fun _ => ?_) | (with_reducible refine po_blS (by first | exact Pn.sn (by assumption) | exact Pn.sm (by assumption) | exact Pn.up (by assumption) (by decide) (by assumption) | exact Pn.upA (by assumption) (by assumption) (by assumption)) fun _ _ => ?_) | (with_reducible refine po_bindS (by first | exact p_X10 (by assumption)) fun _ _ => ?_) | (with_reducible refine po_bind fun _ => ?_) | (with_reducible refine po_ret ?_) | (with_reducible refine po_if ?_ ?_))
  all_goals assumption
theorem p_X7 {N : Nat} {S : SH} {a0 : Nat} {x : DY} (h : Pn S) : PO (fA_X7_init N S a0 x) (fun r => Pn r.1) := by
  unfold fA_X7_init
  repeat' (first | (with_reducible exact po_none) | (with_reducible refine po_fk ?_) | (with_reducible refine po_nk ?_) | (with_reducible refine po_lk ?_) | (with_reducible refine po_tkX ?_) | (with_reducible refine po_tk fun _ => ?_) | (with_reducible refine po_ck fun _ => ?_) | (with_reducible refine po_rfk fun _ => ?_) | (with_reducible refine po_blN fun _ => ?_) | (with_reducible refine po_blX fun _ => ?_) | (with_reducible refine po_blS (by first | exact Pn.sn (by assumption) | exact Pn.sm (by assumption) | exact Pn.up (by assumption) (by decide) (by assumption) | exact Pn.upA (by assumption) (by assumption) (by assumption)) fun _ _ => ?_) | (with_reducible refine po_bindS (by first | exact p_X3 (by assumption) | exact p_X10 (by assumption)) fun _ _ => ?_) | (with_reducible refine po_bind fun _ => ?_) | (with_reducible refine po_ret ?_) | (with_reducible refine po_if ?_ ?_))
  all_goals assumption
theorem p_X5 {N : Nat} {S : SH} {a0 : Nat} {x : DY} (h : Pn S) : PO (fA_X5_init N S a0 x) (fun r => Pn r.1) := by
  unfold fA_X5_init
  repeat' (first | (with_reducible exact po_none) | (with_reducible refine po_fk ?_) | (with_reducible refine po_nk ?_) | (with_reducible refine po_lk ?_) | (with_reducible refine po_tkX ?_) | (with_reducible refine po_tk fun _ => ?_) | (with_reducible refine po_ck fun _ => ?_) | (with_reducible refine po_rfk fun _ => ?_) | (with_reducible refine po_blN fun _ => ?_) | (with_reducible refine po_blX fun _ => ?_) | (with_reducible refine po_blS (by first | exact Pn.sn (by assumption) | exact Pn.sm (by assumption) | exact Pn.up (by assumption) (by decide) (by assumption) | exact Pn.upA (by assumption) (by assumption) (by assumption)) fun _ _ => ?_) | (with_reducible refine po_bindS (by first | exact p_X7 (by assumption) | exact p_X3 (by assumption) | exact p_X10 (by assumption)) fun _ _ => ?_) | (with_reducible refine po_bind fun _ => ?_) | (with_reducible refine po_ret ?_) | (with_reducible refine po_if ?_ ?_))
  all_goals assumption
theorem p_X0 {N : Nat} {S : SH} {a0 : Nat} {x : DY} (h : Pn S) : PO (fA_X0_init N S a0 x) (fun r => Pn r.1) := by
  unfold fA_X0_init
  repeat' (first | (with_reducible exact po_none) | (with_reducible refine po_fk ?_) | (with_reducible refine po_nk ?_) | (with_reducible refine po_lk ?_) | (with_reducible refine po_tkX ?_) | (with_reducible refine po_tk fun _ => ?_) | (with_reducible refine po_ck fun _ => ?_) | (with_reducible refine po_rfk fun _ => ?_) | (with_reducible refine po_blN fun _ => ?_) | (with_reducible refine po_blX fun _ => ?_) | (with_reducible refine po_blS (by first | exact Pn.sn (by assumption) | exact Pn.sm (by assumption) | exact Pn.up (by assumption) (by decide) (by assumption) | exact Pn.upA (by assumption) (by assumption) (by assumption)) fun _ _ => ?_) | (with_reducible refine po_bindS (by first | exact p_X5 (by assumption) | exact p_X7 (by assumption) | exact p_X3 (by assumption) | exact p_X10 (by assumption)) fun _ _ => ?_) | (with_reducible refine po_bind fun _ => ?_) | (with_reducible refine po_ret ?_) | (with_reducible refine po_if ?_ ?_))
  all_goals assumption
theorem p_X9 {N : Nat} {S : SH} {a0 : Nat} {x : DY} (h : Pn S) : PO (fA_X9_init N S a0 x) (fun r => Pn r.1) := by
  unfold fA_X9_init
  repeat' (first | (with_reducible exact po_none) | (with_reducible refine po_fk ?_) | (with_reducible refine po_nk ?_) | (with_reducible refine po_lk ?_) | (with_reducible refine po_tkX ?_) | (with_reducible refine po_tk fun _ => ?_) | (with_reducible refine po_ck fun _ => ?_) | (with_reducible refine po_rfk fun _ => ?_) | (with_reducible refine po_blN fun _ => ?_) | (with_reducible refine po_blX fun _ => ?_) | (with_reducible refine po_blS (by first | exact Pn.sn (by assumption) | exact Pn.sm (by assumption) | exact Pn.up (by assumption) (by decide) (by assumption) | exact Pn.upA (by assumption) (by assumption) (by assumption)) fun _ _ => ?_) | (with_reducible refine po_bindS (by first | exact p_X0 (by assumption) | exact p_X5 (by assumption) | exact p_X7 (by assumption) | exact p_X3 (by assumption) | exact p_X10 (by assumption)) fun _ _ => ?_) | (with_reducible refine po_bind fun _ => ?_) | (with_reducible refine po_ret ?_) | (with_reducible refine po_if ?_ ?_))
  all_goals assumption
theorem p_X4 {N : Nat} {S : SH} {a0 : Nat} {x : DY} (h : Pn S) : PO (fA_X4_init N S a0 x) (fun r => Pn r.1) := by
  unfold fA_X4_init
  repeat' (first | (with_reducible exact po_none) | (with_reducible refine po_fk ?_) | (with_reducible refine po_nk ?_) | (with_reducible refine po_lk ?_) | (with_reducible refine po_tkX ?_) | (with_reducible refine po_tk fun _ => ?_) | (with_reducible refine po_ck fun _ => ?_) | (with_reducible refine po_rfk fun _ => ?_) | (with_reducible refine po_blN fun _ => ?_) | (with_reducible refine po_blX fun _ => ?_) | (with_reducible refine po_blS (by first | exact Pn.sn (by assumption) | exact Pn.sm (by assumption) | exact Pn.up (by assumption) (by decide) (by assumption) | exact Pn.upA (by assumption) (by assumption) (by assumption)) fun _ _ => ?_) | (with_reducible refine po_bindS (by first | exact p_X9 (by assumption) | exact p_X0 (by assumption) | exact p_X5 (by assumption) | exact p_X7 (by assumption) | exact p_X3 (by assumption) | exact p_X10 (by assumption)) fun _ _ => ?_) | (with_reducible refine po_bind fun _ => ?_) | (with_reducible refine po_ret ?_) | (with_reducible refine po_if ?_ ?_))
  all_goals assumption
theorem p_X8 {N : Nat} {S : SH} {a0 : Nat} {x : DY} (h : Pn S) : PO (fA_X8_init N S a0 x) (fun r => Pn r.1) := by
  unfold fA_X8_init
  repeat' (first | (with_reducible exact po_none) | (with_reducible refine po_fk ?_) | (with_reducible refine po_nk ?_) | (with_reducible refine po_lk ?_) | (with_reducible refine po_tkX ?_) | (with_reducible refine po_tk fun _ => ?_) | (with_reducible refine po_ck fun _ => ?_) | (with_reducible refine po_rfk fun _ => ?_) | (with_reducible refine po_blN fun _ => ?_) | (with_reducible refine po_blX fun _ => ?_) | (with_reducible refine po_blS (by first | exact Pn.sn (by assumption) | exact Pn.sm (by assumption) | exact Pn.up (by assumption) (by decide) (by assumption) | exact Pn.upA (by assumption) (by assumption) (by assumption)) fun _ _ => ?_) | (with_reducible refine po_bindS (by first | exact p_X4 (by assumption) | exact p_X9 (by assumption) | exact p_X0 (by assumption) | exact p_X5 (by assumption) | exact p_X7 (by assumption) | exact p_X3 (by assumption) | exact p_X10 (by assumption)) fun _ _ => ?_) | (with_reducible refine po_bind fun _ => ?_) | (with_reducible refine po_ret ?_) | (with_reducible refine po_if ?_ ?_))
  all_goals assumption
theorem p_X2 {N : Nat} {S : SH} {a0 : Nat} {a1 : Int32} {x : DY} (h : Pn S) : PO (fA_X2_init N S a0 a1 x) (fun r => Pn r.1) := by
  unfold fA_X2_init
  repeat' (first | (with_reducible exact po_none) | (with_reducible refine po_fk ?_) | (with_reducible refine po_nk ?_) | (with_reducible refine po_lk ?_) | (with_reducible refine po_tkX ?_) | (with_reducible refine po_tk fun _ => ?_) | (with_reducible refine po_ck fun _ => ?_) | (with_reducible refine po_rfk fun _ => ?_) | (with_reducible refine po_blN fun _ => ?_) | (with_reducible refine po_blX fun _ => ?_) | (with_reducible refine po_blS (by first | exact Pn.sn (by assumption) | exact Pn.sm (by assumption) | exact Pn.up (by assumption) (by decide) (by assumption) | exact Pn.upA (by assumption) (by assumption) (by assumption)) fun _ _ => ?_) | (with_reducible refine po_bindS (by first | exact p_X8 (by assumption) | exact p_X4 (by assumption) | exact p_X9 (by assumption) | exact p_X0 (by assumption) | exact p_X5 (by assumption) | exact p_X7 (by assumption) | exact p_X3 (by assumption) | exact p_X10 (by assumption)) fun _ _ => ?_) | (with_reducible refine po_bind fun _ => ?_) | (with_reducible refine po_ret ?_) | (with_reducible refine po_if ?_ ?_))
  all_goals assumption
theorem p_X6 {N : Nat} {S : SH} {a0 : Nat} {a1 : Int32} {a2 : Nat} {a3 : Nat} {x : DY} (h : Pn S) : PO (fA_X6_init N S a0 a1 a2 a3 x) (fun r => Pn r.1) := by
  unfold fA_X6_init
  repeat' (first | (with_reducible exact po_none) | (with_reducible refine po_fk ?_) | (with_reducible refine po_nk ?_) | (with_reducible refine po_lk ?_) | (with_reducible refine po_tkX ?_) | (with_reducible refine po_tk fun _ => ?_) | (with_reducible refine po_ck fun _ => ?_) | (with_reducible refine po_rfk fun _ => ?_) | (with_reducible refine po_blN fun _ => ?_) | (with_reducible refine po_blX fun _ => ?_) | (with_reducible refine po_blS (by first | exact Pn.sn (by assumption) | exact Pn.sm (by assumption) | exact Pn.up (by assumption) (by decide) (by assumption) | exact Pn.upA (by assumption) (by assumption) (by assumption)) fun _ _ => ?_) | (with_reducible refine po_bindS (by first | exact p_X2 (by assumption) | exact p_X8 (by assumption) | exact p_X4 (by assumption) | exact p_X9 (by assumption) | exact p_X0 (by assumption) | exact p_X5 (by assumption) | exact p_X7 (by assumption) | exact p_X3 (by assumption) | exact p_X10 (by assumption)) fun _ _ => ?_) | (with_reducible refine po_bind fun _ => ?_) | (with_reducible refine po_ret ?_) | (with_reducible refine po_if ?_ ?_))
  all_goals assumption
theorem p_X1 {N : Nat} {S : SH} {a0 : Nat} {a1 : Int32} {a2 : Nat} {a3 : Nat} {x : DY} (h : Pn S) : PO (fA_X1_init N S a0 a1 a2 a3 x) (fun r => Pn r.1) := by
  unfold fA_X1_init
  repeat' (first | (with_reducible exact po_none) | (with_reducible refine po_fk ?_) | (with_reducible refine po_nk ?_) | (with_reducible refine po_lk ?_) | (with_reducible refine po_tkX ?_) | (with_reducible refine po_tk fun _ => ?_) | (with_reducible refine po_ck fun _ => ?_) | (with_reducible refine po_rfk fun _ => ?_) | (with_reducible refine po_blN fun _ => ?_) | (with_reducible refine po_blX fun _ => ?_) | (with_reducible refine po_blS (by first | exact Pn.sn (by assumption) | exact Pn.sm (by assumption) | exact Pn.up (by assumption) (by decide) (by assumption) | exact Pn.upA (by assumption) (by assumption) (by assumption)) fun _ _ => ?_) | (with_reducible refine po_bindS (by first | exact p_X6 (by assumption) | exact p_X2 (by assumption) | exact p_X8 (by assumption) | exact p_X4 (by assumption) | exact p_X9 (by assumption) | exact p_X0 (by assumption) | exact p_X5 (by assumption) | exact p_X7 (by assumption) | exact p_X3 (by assumption) | exact p_X10 (by assumption)) fun _ _ => ?_) | (with_reducible refine po_bind fun _ => ?_) | (with_reducible refine po_ret ?_) | (with_reducible refine po_if ?_ ?_))
  all_goals assumption
theorem p_X11 {N : Nat} {S : SH} {a0 : Nat} {a1 : Int32} {x : DY} (h : Pn S) : PO (fA_X11_init N S a0 a1 x) (fun r => Pn r.1) := by
  unfold fA_X11_init
  repeat' (first | (with_reducible exact po_none) | (with_reducible refine po_fk ?_) | (with_reducible refine po_nk ?_) | (with_reducible refine po_lk ?_) | (with_reducible refine po_tkX ?_) | (with_reducible refine po_tk fun _ => ?_) | (with_reducible refine po_ck fun _ => ?_) | (with_reducible refine po_rfk fun _ => ?_) | (with_reducible refine po_blN fun _ => ?_) | (with_reducible refine po_blX fun _ => ?_) | (with_reducible refine po_blS (by first | exact Pn.sn (by assumption) | exact Pn.sm (by assumption) | exact Pn.up (by assumption) (by decide) (by assumption) | exact Pn.upA (by assumption) (by assumption) (by assumption)) fun _ _ => ?_) | (with_reducible refine po_bindS (by first | exact p_X1 (by assumption) | exact p_X6 (by assumption) | exact p_X2 (by assumption) | exact p_X8 (by assumption) | exact p_X4 (by assumption) | exact p_X9 (by assumption) | exact p_X0 (by assumption) | exact p_X5 (by assumption) | exact p_X7 (by assumption) | exact p_X3 (by assumption) | exact p_X10 (by assumption)) fun _ _ => ?_) | (with_reducible refine po_bind fun _ => ?_) | (with_reducible refine po_ret ?_) | (with_reducible refine po_if ?_ ?_))
  all_goals assumption
