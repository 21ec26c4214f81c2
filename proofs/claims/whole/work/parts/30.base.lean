/-! LAYER 3: THE BASE. Two programs side by side (zJ), one alone (zE), loops, the words' rules -/
def zJ {α β : Type} (o : Option α) (q : Option β) (Q : α → β → Prop) : Prop := ∃ a b, o = some a ∧ q = some b ∧ Q a b
def zE {α : Type} (o : Option α) (Q : α → Prop) : Prop := ∃ a, o = some a ∧ Q a
theorem zE.ret {α : Type} {a : α} {Q : α → Prop} (h : Q a) : zE (some a) Q := ⟨a, rfl, h⟩
theorem zE.imp {α : Type} {o : Option α} {P Q : α → Prop} (h : zE o P) (k : ∀ a, P a → Q a) : zE o Q := by
  obtain ⟨a, h1, h2⟩ := h
  exact ⟨a, h1, k a h2⟩
theorem zE.bind {α ρ : Type} {o : Option α} {f : α → Option ρ} {P : α → Prop} {Q : ρ → Prop} (h : zE o P) (k : ∀ a, P a → zE (f a) Q) : zE (Option.bind o f) Q := by
  obtain ⟨a, h1, h2⟩ := h
  rw [h1]
  exact k a h2
theorem zJ.ret {α β : Type} {a : α} {b : β} {Q : α → β → Prop} (h : Q a b) : zJ (some a) (some b) Q := ⟨a, b, rfl, rfl, h⟩
theorem zJ.imp {α β : Type} {o : Option α} {q : Option β} {P Q : α → β → Prop} (h : zJ o q P) (k : ∀ a b, P a b → Q a b) : zJ o q Q := by
  obtain ⟨a, b, h1, h2, h3⟩ := h
  exact ⟨a, b, h1, h2, k a b h3⟩
theorem zJ.bind {α β ρ τ : Type} {o : Option α} {q : Option β} {f : α → Option ρ} {g : β → Option τ} {P : α → β → Prop} {Q : ρ → τ → Prop} (h : zJ o q P) (k : ∀ a b, P a b → zJ (f a) (g b) Q) : zJ (Option.bind o f) (Option.bind q g) Q := by
  obtain ⟨a, b, h1, h2, h3⟩ := h
  rw [h1, h2]
  exact k a b h3
theorem zJ.bindL {α ρ τ : Type} {o : Option α} {f : α → Option ρ} {g : Option τ} {P : α → Prop} {Q : ρ → τ → Prop} (h : zE o P) (k : ∀ a, P a → zJ (f a) g Q) : zJ (Option.bind o f) g Q := by
  obtain ⟨a, h1, h2⟩ := h
  rw [h1]
  exact k a h2
theorem zJ.bindR {β ρ τ : Type} {q : Option β} {f : Option ρ} {g : β → Option τ} {P : β → Prop} {Q : ρ → τ → Prop} (h : zE q P) (k : ∀ b, P b → zJ f (g b) Q) : zJ f (Option.bind q g) Q := by
  obtain ⟨b, h1, h2⟩ := h
  rw [h1]
  exact k b h2
theorem zJ.L {α β : Type} {o : Option α} {q : Option β} {Q : α → β → Prop} (h : zE o (fun a => zE q (Q a))) : zJ o q Q := by
  obtain ⟨a, h1, b, h2, h3⟩ := h
  exact ⟨a, b, h1, h2, h3⟩
section ITR
variable {α β ρ τ : Type} {F1 : (α → Option ρ) → α → Option ρ} {F2 : (β → Option τ) → β → Option τ}
theorem z_itr2 (P : Nat → α → β → Prop) (Q : Option ρ → Option τ → Prop) (n : Nat)
    (step : ∀ i a b, i < n → P i a b → (∃ a' b', P (i + 1) a' b' ∧ (∀ back, F1 back a = back a') ∧ (∀ back, F2 back b = back b')) ∨ (∃ o1 o2, Q o1 o2 ∧ (∀ back, F1 back a = o1) ∧ (∀ back, F2 back b = o2)))
    (fin : ∀ a b, P n a b → ∃ o1 o2, Q o1 o2 ∧ (∀ back, F1 back a = o1) ∧ (∀ back, F2 back b = o2)) :
    ∀ m i a b N1 N2, i + m = n → m < N1 → m < N2 → P i a b → Q (itr F1 N1 a) (itr F2 N2 b) := by
  intro m
  induction m with
  | zero =>
    intro i a b N1 N2 hi h1 h2 hP
    obtain ⟨M1, rfl⟩ : ∃ M1, N1 = M1 + 1 := ⟨N1 - 1, by omega⟩
    obtain ⟨M2, rfl⟩ : ∃ M2, N2 = M2 + 1 := ⟨N2 - 1, by omega⟩
    have hin : i = n := by omega
    subst hin
    obtain ⟨o1, o2, hQ, e1, e2⟩ := fin a b hP
    show Q (F1 (itr F1 M1) a) (F2 (itr F2 M2) b)
    rw [e1, e2]
    exact hQ
  | succ m ih =>
    intro i a b N1 N2 hi h1 h2 hP
    obtain ⟨M1, rfl⟩ : ∃ M1, N1 = M1 + 1 := ⟨N1 - 1, by omega⟩
    obtain ⟨M2, rfl⟩ : ∃ M2, N2 = M2 + 1 := ⟨N2 - 1, by omega⟩
    show Q (F1 (itr F1 M1) a) (F2 (itr F2 M2) b)
    rcases step i a b (by omega) hP with ⟨a', b', hP', e1, e2⟩ | ⟨o1, o2, hQ, e1, e2⟩
    · rw [e1, e2]
      exact ih (i + 1) a' b' M1 M2 (by omega) (by omega) (by omega) hP'
    · rw [e1, e2]
      exact hQ
theorem z_itr1 (P : Nat → α → Prop) (Q : Option ρ → Prop) (n : Nat)
    (step : ∀ i a, i < n → P i a → (∃ a', P (i + 1) a' ∧ ∀ back, F1 back a = back a') ∨ (∃ o1, Q o1 ∧ ∀ back, F1 back a = o1))
    (fin : ∀ a, P n a → ∃ o1, Q o1 ∧ ∀ back, F1 back a = o1) :
    ∀ m i a N1, i + m = n → m < N1 → P i a → Q (itr F1 N1 a) := by
  intro m
  induction m with
  | zero =>
    intro i a N1 hi h1 hP
    obtain ⟨M1, rfl⟩ : ∃ M1, N1 = M1 + 1 := ⟨N1 - 1, by omega⟩
    have hin : i = n := by omega
    subst hin
    obtain ⟨o1, hQ, e1⟩ := fin a hP
    show Q (F1 (itr F1 M1) a)
    rw [e1]
    exact hQ
  | succ m ih =>
    intro i a N1 hi h1 hP
    obtain ⟨M1, rfl⟩ : ∃ M1, N1 = M1 + 1 := ⟨N1 - 1, by omega⟩
    show Q (F1 (itr F1 M1) a)
    rcases step i a (by omega) hP with ⟨a', hP', e1⟩ | ⟨o1, hQ, e1⟩
    · rw [e1]
      exact ih (i + 1) a' M1 (by omega) (by omega) hP'
    · rw [e1]
      exact hQ
/-- two loops of one length that run to their ends: what holds behind them -/
theorem z_loop2 (P : Nat → α → β → Prop) (n : Nat) {K1 : α → Option ρ} {K2 : β → Option τ} {a : α} {b : β} {N1 N2 : Nat} (Q : ρ → τ → Prop)
    (h1 : n < N1) (h2 : n < N2) (h0 : P 0 a b)
    (step : ∀ i a b, i < n → P i a b → ∃ a' b', P (i + 1) a' b' ∧ (∀ back, F1 back a = back a') ∧ (∀ back, F2 back b = back b'))
    (fin : ∀ a b, P n a b → (∀ back, F1 back a = K1 a) ∧ (∀ back, F2 back b = K2 b))
    (kk : ∀ a b, P n a b → zJ (K1 a) (K2 b) Q) : zJ (itr F1 N1 a) (itr F2 N2 b) Q :=
  z_itr2 P (fun o1 o2 => zJ o1 o2 Q) n (fun i a b hi hP => Or.inl (step i a b hi hP)) (fun a b hP => ⟨K1 a, K2 b, kk a b hP, (fin a b hP).1, (fin a b hP).2⟩) n 0 a b N1 N2 (by omega) h1 h2 h0
theorem z_loop1 (P : Nat → α → Prop) (n : Nat) {K1 : α → Option ρ} {a : α} {N1 : Nat} (Q : Option ρ → Prop)
    (h1 : n < N1) (h0 : P 0 a)
    (step : ∀ i a, i < n → P i a → ∃ a', P (i + 1) a' ∧ ∀ back, F1 back a = back a')
    (fin : ∀ a, P n a → ∀ back, F1 back a = K1 a)
    (kk : ∀ a, P n a → Q (K1 a)) : Q (itr F1 N1 a) :=
  z_itr1 P Q n (fun i a hi hP => Or.inl (step i a hi hP)) (fun a hP => ⟨K1 a, kk a hP, fin a hP⟩) n 0 a N1 (by omega) h1 h0
end ITR
/-! words -/
def mO : Int32 := -1
theorem eM : (-1 : Int32) = mO := rfl
theorem eL_0 : (0 : Int32) = nI 0 := rfl
theorem eL_1 : (1 : Int32) = nI 1 := rfl
theorem eL_2 : (2 : Int32) = nI 2 := rfl
theorem eL_3 : (3 : Int32) = nI 3 := rfl
theorem eL_4 : (4 : Int32) = nI 4 := rfl
theorem eL_5 : (5 : Int32) = nI 5 := rfl
theorem eL_6 : (6 : Int32) = nI 6 := rfl
theorem eL_7 : (7 : Int32) = nI 7 := rfl
theorem eL_8 : (8 : Int32) = nI 8 := rfl
theorem eL_9 : (9 : Int32) = nI 9 := rfl
theorem eL_10 : (10 : Int32) = nI 10 := rfl
theorem eL_11 : (11 : Int32) = nI 11 := rfl
theorem eL_12 : (12 : Int32) = nI 12 := rfl
theorem eL_15 : (15 : Int32) = nI 15 := rfl
theorem eL_16 : (16 : Int32) = nI 16 := rfl
theorem eL_20 : (20 : Int32) = nI 20 := rfl
theorem eL_24 : (24 : Int32) = nI 24 := rfl
theorem eL_30 : (30 : Int32) = nI 30 := rfl
theorem eL_31 : (31 : Int32) = nI 31 := rfl
theorem eL_32 : (32 : Int32) = nI 32 := rfl
theorem eL_39 : (39 : Int32) = nI 39 := rfl
theorem eL_40 : (40 : Int32) = nI 40 := rfl
theorem eL_41 : (41 : Int32) = nI 41 := rfl
theorem eL_42 : (42 : Int32) = nI 42 := rfl
theorem eL_43 : (43 : Int32) = nI 43 := rfl
theorem eL_45 : (45 : Int32) = nI 45 := rfl
theorem eL_47 : (47 : Int32) = nI 47 := rfl
theorem eL_48 : (48 : Int32) = nI 48 := rfl
theorem eL_49 : (49 : Int32) = nI 49 := rfl
theorem eL_50 : (50 : Int32) = nI 50 := rfl
theorem eL_57 : (57 : Int32) = nI 57 := rfl
theorem eL_59 : (59 : Int32) = nI 59 := rfl
theorem eL_60 : (60 : Int32) = nI 60 := rfl
theorem eL_61 : (61 : Int32) = nI 61 := rfl
theorem eL_90 : (90 : Int32) = nI 90 := rfl
theorem eL_96 : (96 : Int32) = nI 96 := rfl
theorem eL_97 : (97 : Int32) = nI 97 := rfl
theorem eL_100 : (100 : Int32) = nI 100 := rfl
theorem eL_122 : (122 : Int32) = nI 122 := rfl
theorem eL_160 : (160 : Int32) = nI 160 := rfl
theorem eL_161 : (161 : Int32) = nI 161 := rfl
theorem eL_255 : (255 : Int32) = nI 255 := rfl
theorem eL_300 : (300 : Int32) = nI 300 := rfl
theorem eL_343 : (343 : Int32) = nI 343 := rfl
theorem eL_999 : (999 : Int32) = nI 999 := rfl
theorem eL_1000 : (1000 : Int32) = nI 1000 := rfl
theorem eL_1920 : (1920 : Int32) = nI 1920 := rfl
theorem eL_9999 : (9999 : Int32) = nI 9999 := rfl
theorem eL_10000 : (10000 : Int32) = nI 10000 := rfl
theorem eL_999999 : (999999 : Int32) = nI 999999 := rfl
theorem eL_100000 : (100000 : Int32) = nI 100000 := rfl
theorem eL_1000000 : (1000000 : Int32) = nI 1000000 := rfl
theorem w_ltT {a b : Nat} (h : a < b) (hb : b < 2147483648) : (nI a < nI b) = True := eq_true (nI_lt h hb)
theorem w_ltF {a b : Nat} (h : b ≤ a) (ha : a < 2147483648) : (nI a < nI b) = False := eq_false (nI_nlt h ha)
theorem w_leT {a b : Nat} (h : a ≤ b) (hb : b < 2147483648) : (nI a ≤ nI b) = True := eq_true (nI_le h hb)
theorem w_leF {a b : Nat} (h : b < a) (ha : a < 2147483648) : (nI a ≤ nI b) = False := eq_false (nI_ge h ha)
theorem w_eqT {a b : Nat} (h : a = b) : (nI a = nI b) = True := eq_true (congrArg nI h)
theorem w_eqF {a b : Nat} (h : a ≠ b) (ha : a < 2147483648) (hb : b < 2147483648) : (nI a = nI b) = False := eq_false (fun e => h ((nI_eq ha hb).mp e))
theorem w_mlt {a : Nat} (h : a < 2147483648) : (mO < nI a) = True := eq_true (by
  rw [Int32.lt_iff_toInt_lt, nI_toInt h]
  show (-1 : Int) < a
  omega)
theorem w_ltm {a : Nat} (h : a < 2147483648) : (nI a < mO) = False := eq_false (by
  rw [Int32.lt_iff_toInt_lt, nI_toInt h]
  show ¬ (a : Int) < -1
  omega)
theorem w_mle {a : Nat} (h : a < 2147483648) : (mO ≤ nI a) = True := eq_true (by
  rw [Int32.le_iff_toInt_le, nI_toInt h]
  show (-1 : Int) ≤ a
  omega)
theorem w_lem {a : Nat} (h : a < 2147483648) : (nI a ≤ mO) = False := eq_false (by
  rw [Int32.le_iff_toInt_le, nI_toInt h]
  show ¬ (a : Int) ≤ -1
  omega)
theorem w_eqm {a : Nat} (h : a < 2147483648) : (nI a = mO) = False := eq_false (fun e => by
  have := congrArg Int32.toInt e
  rw [nI_toInt h] at this
  have h2 : mO.toInt = -1 := by decide
  omega)
theorem w_meq {a : Nat} (h : a < 2147483648) : (mO = nI a) = False := eq_false (fun e => Eq.mp (w_eqm h) e.symm)
theorem w_mltm : (mO < mO) = False := eq_false (by decide)
theorem w_cl {a : Nat} (h : a < 2147483648) : (nI a).toNatClampNeg = a := nI_clamp h
theorem w_sub {a b : Nat} (h : b ≤ a) : nI a - nI b = nI (a - b) := pk_sub h
theorem w_addm {a : Nat} (h : 0 < a) : nI a + mO = nI (a - 1) := by
  obtain ⟨k, rfl⟩ : ∃ k, a = k + 1 := ⟨a - 1, by omega⟩
  exact pk_m1 k
theorem w_add0m : nI 0 + mO = mO := by decide
theorem w_dec0 : nI 0 - nI 1 = mO := by decide
theorem w_negl {a b : Nat} (h : 0 < a) (ha : a < 2147483648) (hb : b < 2147483648) : (-nI a < nI b) = True := eq_true (by
  rw [Int32.lt_iff_toInt_lt, nI_toInt hb, sb_negT ha]
  omega)
theorem w_negle {a b : Nat} (h : 0 < a) (ha : a < 2147483648) (hb : b < 2147483648) : (nI b ≤ -nI a) = False := eq_false (by
  rw [Int32.le_iff_toInt_le, nI_toInt hb, sb_negT ha]
  omega)
theorem n_leT {a b : Nat} (h : a ≤ b) : (a ≤ b) = True := eq_true h
theorem n_leF {a b : Nat} (h : b < a) : (a ≤ b) = False := eq_false (Nat.not_le.mpr h)
theorem n_ltT {a b : Nat} (h : a < b) : (a < b) = True := eq_true h
theorem n_ltF {a b : Nat} (h : b ≤ a) : (a < b) = False := eq_false (Nat.not_lt.mpr h)
theorem n_eqF {a b : Nat} (h : a ≠ b) : (a = b) = False := eq_false h
/-- a word is below 0, from n on, or one of 0 .. n - 1 -/
theorem w_cases (v : Int32) (n : Nat) (hn : n < 2147483648) : (v < nI 0) ∨ (¬ v < nI 0 ∧ nI n ≤ v) ∨ ∃ j, j < n ∧ v = nI j := by
  rcases pk_ix v (n := n) hn with h | h | h
  · exact Or.inl h
  · by_cases h0 : v < nI 0
    · exact Or.inl h0
    · exact Or.inr (Or.inl ⟨h0, h⟩)
  · exact Or.inr (Or.inr h)
/-! rows -/
def ud {α : Type} (f : Nat → α) (k : Nat) (v : α) : Nat → α := fun j => if j = k then v else f j
theorem ud_s {α : Type} {f : Nat → α} {k : Nat} {v : α} : ud f k v k = v := if_pos rfl
theorem ud_n {α : Type} {f : Nat → α} {k j : Nat} {v : α} (h : j ≠ k) : ud f k v j = f j := if_neg h
theorem ud_r {α : Type} {f : Nat → α} {k j : Nat} {v : α} : ud f k v j = if j = k then v else f j := rfl
theorem up_s {α : Type} {f : Nat → Nat → α} {a k : Nat} {v : α} : up2 f a k v a = ud (f a) k v := up2_s
theorem up_n {α : Type} {f : Nat → Nat → α} {a b k : Nat} {v : α} (h : b ≠ a) : up2 f a k v b = f b := up2_n h
theorem ck_n {ρ : Type} {S : SH} {a j : Nat} {o : Option ρ} (h : j < S.2.2.1 a) (hj : j < 2147483648) : ck S a (nI j) o = o := by
  unfold ck
  rw [if_neg]
  rintro (q | q)
  · exact nI_pos (by omega) q
  · rw [nI_clamp (by omega)] at q
    omega
theorem u1_f {x : DY} {a k : Nat} {v : Int32} : (U1 x a k v).1 = up2 x.1 a k v := rfl
theorem u1_s {x : DY} {a k : Nat} {v : Int32} : (U1 x a k v).2 = x.2 := rfl
theorem u2_f {x : DY} {a k : Nat} {v : Int64} : (U2 x a k v).1 = x.1 := rfl
theorem u2_s {x : DY} {a k : Nat} {v : Int64} : (U2 x a k v).2 = up2 x.2 a k v := rfl
theorem bl_e {α ρ : Type} (v : α) (k : α → Option ρ) : bl v k = k v := rfl
theorem bd_e {α ρ : Type} (v : α) (k : α → Option ρ) : Option.bind (some v) k = k v := rfl
theorem bz_0 {ρ : Type} {o : Option ρ} : bz (nI 0) o = o := if_pos (Or.inl rfl)
theorem bz_1 {ρ : Type} {o : Option ρ} : bz (nI 1) o = o := if_pos (Or.inr rfl)
theorem cpX_s {S : SH} {a0 a1 : Nat} {sp dp n : Int32} {x : DY} : (cpX S a0 sp a1 dp n x).1 a1 = va_cpy (x.1 a0) (x.1 a1) sp.toNatClampNeg dp.toNatClampNeg n.toNatClampNeg := if_pos rfl
theorem cpX_n {S : SH} {a0 a1 b : Nat} {sp dp n : Int32} {x : DY} (h : b ≠ a1) : (cpX S a0 sp a1 dp n x).1 b = x.1 b := if_neg h
theorem cpk_n {ρ : Type} {S : SH} {a0 a1 sp dp n : Nat} {o : Option ρ} (h0 : sp + n ≤ S.2.2.1 a0) (h1 : dp + n ≤ S.2.2.1 a1) (h2 : sp + n < 2147483648) (h3 : dp + n < 2147483648) : cpk S a0 (nI sp) a1 (nI dp) (nI n) o = o := by
  unfold cpk
  rw [if_neg]
  rw [w_cl (by omega), w_cl (by omega), w_cl (by omega)]
  have e0 : (0 : Int32) = nI 0 := rfl
  rw [e0, w_ltF (Nat.zero_le _) (by omega), w_ltF (Nat.zero_le _) (by omega), w_ltF (Nat.zero_le _) (by omega)]
  rintro (h | h | h | h | h)
  · exact h
  · exact h
  · exact h
  · omega
  · omega
