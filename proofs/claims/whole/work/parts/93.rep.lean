/-! THE START: every first number is one of seven -/
theorem bm32 {z : Int} (h1 : -2147483648 ≤ z) (h2 : z < 2147483648) : z.bmod (2 ^ 32) = z := by
  rw [Int.bmod_def]
  have e : ((2 ^ 32 : Nat) : Int) = 4294967296 := by decide
  rw [e]
  split <;> omega
theorem r7_eq (v : Int32) : (v - v / 7 * 7).toInt = v.toInt - v.toInt.tdiv 7 * 7 := by
  have e7 : (7 : Int32).toInt = 7 := by decide
  have h1 : -2147483648 ≤ v.toInt := v.le_toInt
  have h2 : v.toInt < 2147483648 := v.toInt_lt
  rw [Int32.toInt_sub, Int32.toInt_mul, Int32.toInt_div, e7]
  generalize v.toInt = a at h1 h2 ⊢
  have hq : -306783379 ≤ a.tdiv 7 ∧ a.tdiv 7 ≤ 306783379 ∧ -7 < a - a.tdiv 7 * 7 ∧ a - a.tdiv 7 * 7 < 7 ∧ -2147483648 ≤ a.tdiv 7 * 7 ∧ a.tdiv 7 * 7 < 2147483648 := by
    rcases Int.le_total 0 a with h | h
    · rw [Int.tdiv_eq_ediv_of_nonneg h]; omega
    · obtain ⟨c, rfl⟩ : ∃ c, a = -c := ⟨-a, by omega⟩
      rw [Int.neg_tdiv, Int.tdiv_eq_ediv_of_nonneg (by omega)]; omega
  obtain ⟨q1, q2, q3, q4, q5, q6⟩ := hq
  generalize a.tdiv 7 = q at q1 q2 q3 q4 q5 q6 ⊢
  rw [bm32 (z := q) (by omega) (by omega), bm32 (z := q * 7) (by omega) (by omega), bm32 (z := a - q * 7) (by omega) (by omega)]
theorem r7_cases (v : Int32) : (0 ≤ v ∧ ∃ m, m < 7 ∧ v - v / 7 * 7 = nI m) ∨ (¬ 0 ≤ v ∧ (v - v / 7 * 7 = nI 0 ∨ ∃ m, m < 6 ∧ v - v / 7 * 7 = -nI (m + 1))) := by
  have hr := r7_eq v
  have h0 : (0 : Int32).toInt = 0 := by decide
  rcases Int.le_total 0 v.toInt with h | h
  · rw [Int.tdiv_eq_ediv_of_nonneg h] at hr
    refine Or.inl ⟨by rw [Int32.le_iff_toInt_le, h0]; exact h, (v.toInt % 7).toNat, by omega, ?_⟩
    apply Int32.toInt_inj.mp
    rw [hr, nI_toInt (by omega)]
    omega
  · by_cases hz : v.toInt = 0
    · refine Or.inl ⟨by rw [Int32.le_iff_toInt_le, h0]; omega, 0, by omega, ?_⟩
      apply Int32.toInt_inj.mp
      rw [hr, hz, nI_toInt (by omega)]; rfl
    · refine Or.inr ⟨by rw [Int32.le_iff_toInt_le, h0]; omega, ?_⟩
      have e : v.toInt.tdiv 7 = -((-v.toInt) / 7) := by
        rw [← Int.tdiv_eq_ediv_of_nonneg (by omega), Int.neg_tdiv, Int.neg_neg]
      rw [e] at hr
      by_cases hm : (-v.toInt) % 7 = 0
      · refine Or.inl ?_
        apply Int32.toInt_inj.mp
        rw [hr, nI_toInt (by omega)]
        omega
      · refine Or.inr ⟨((-v.toInt) % 7 - 1).toNat, by omega, ?_⟩
        apply Int32.toInt_inj.mp
        rw [hr, sb_negT (by omega)]
        omega
theorem x7_sign (v : Int32) : (0 ≤ (v ^^^ 7)) ↔ 0 ≤ v := by
  have h0 : (0 : Int32).toInt = 0 := by decide
  rw [Int32.le_iff_toInt_le, Int32.le_iff_toInt_le, h0]
  have e : (v ^^^ 7).toInt = (v.toBitVec ^^^ 7#32).toInt := rfl
  have e2 : v.toInt = v.toBitVec.toInt := rfl
  have h1 := BitVec.msb_eq_toInt (x := v.toBitVec ^^^ 7#32)
  have h2 := BitVec.msb_eq_toInt (x := v.toBitVec)
  rw [BitVec.msb_xor, h2] at h1
  have h7 : (7#32).msb = false := by decide
  rw [h7, Bool.xor_false] at h1
  have h3 := decide_eq_decide.mp h1
  rw [e, e2]
  omega
def g7 (r : Int32) : Int32 := 6 + ((r + 7) - (r + 7) / 7 * 7)
def fl7 (v : Int32) : Option Int32 := if 0 ≤ (v ^^^ 7) then some (v - v / 7 * 7) else (if (v - v / 7 * 7) = 0 then some (v - v / 7 * 7) else some ((v - v / 7 * 7) + 7))
theorem fl7_rep (v : Int32) : ∃ k, k < 7 ∧ fl7 v = fl7 (nI k) ∧ g7 (v - v / 7 * 7) = g7 (nI k - nI k / 7 * 7) := by
  rcases r7_cases v with ⟨h, m, hm, e⟩ | ⟨h, e | ⟨m, hm, e⟩⟩
  · refine ⟨m, hm, ?_, ?_⟩
    · unfold fl7
      rw [if_pos ((x7_sign v).mpr h), e]
      exact (by decide +kernel : ∀ m, m < 7 → some (nI m) = fl7 (nI m)) m hm
    · rw [e]
      exact (by decide +kernel : ∀ m, m < 7 → g7 (nI m) = g7 (nI m - nI m / 7 * 7)) m hm
  · refine ⟨0, by omega, ?_, ?_⟩
    · unfold fl7
      rw [if_neg (fun q => h ((x7_sign v).mp q)), e]
      decide +kernel
    · rw [e]
      decide +kernel
  · refine ⟨6 - m, by omega, ?_, ?_⟩
    · unfold fl7
      rw [if_neg (fun q => h ((x7_sign v).mp q)), e]
      exact (by decide +kernel : ∀ m, m < 6 → (if -nI (m + 1) = 0 then some (-nI (m + 1)) else some (-nI (m + 1) + 7)) = fl7 (nI (6 - m))) m hm
    · rw [e]
      exact (by decide +kernel : ∀ m, m < 6 → g7 (-nI (m + 1)) = g7 (nI (6 - m) - nI (6 - m) / 7 * 7)) m hm
theorem fm_fl {N : Nat} {S : SH} {v : Int32} {x : DY} : f_J9_floorMod_7cf53 N S v 7 x = fl7 v := by
  unfold f_J9_floorMod_7cf53 dv
  rw [if_neg (by decide)]
  rfl
theorem fk_i1 {ρ : Type} {S : SH} {a : Nat} {v : Int32} {z : Option Value} {st : List Value} {o : Option ρ} : fk S [some (.ref a), some (.int v), z] st o = fk S [some (.ref a), none, z] st o := rfl
set_option maxRecDepth 100000 in
set_option maxHeartbeats 4000000 in
theorem rep11 {v w : Int32} (h : fl7 v = fl7 w) {S : SH} {a : Nat} {x : DY} : fA_X11_init 1000 S a v x = fA_X11_init 1000 S a w x := by
  unfold fA_X11_init
  simp only [fk_i1, fm_fl, h]
theorem g7_e {r : Int32} : 6 + ((r + 7) - (r + 7) / 7 * 7) = g7 r := rfl
set_option maxRecDepth 100000 in
set_option maxHeartbeats 8000000 in
theorem rep12 {v w : Int32} (h : g7 (v - v / 7 * 7) = g7 (w - w / 7 * 7)) {S : SH} {a : Nat} {x : DY} : fA_X12_init 1000 S a v x = fA_X12_init 1000 S a w x := by
  unfold fA_X12_init
  simp (maxSteps := 20000000) only [fk_i1, g7_e, h]
theorem init_ok (v : Int32) : ∃ S x Sm y, fA_X11_init 1000 (SN zE0 11 0) 40 v (XN zX0 40) = some (S, x) ∧ fA_X12_init 1000 (SN zE0 12 0) 40 v (XN zX0 40) = some (Sm, y) ∧ zW S x Sm y := by
  obtain ⟨k, hk, h1, h2⟩ := fl7_rep v
  exact ⟨oS (iX k), oD (iX k), oS (iM k), oD (iM k), (rep11 h1).trans (o_eq (iX_some k hk)), (rep12 h2).trans (o_eq (iM_some k hk)), i_W hk⟩
