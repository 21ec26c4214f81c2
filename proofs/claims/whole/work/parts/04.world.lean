/-! THE ABSTRACT WORLD: an object graph as places 40, 21, .. (made one behind the other), below 40 what stood before (static arrays, texts).
S: how many places, the kind of each (a class 0 .. 12, 13 bytes, 14 ints, 15 booleans, 16 Rounds, 17 Texts, 18 rows of ints), the length of each, the references.
x: the ints (fields by slot, entries by index), the longs. -/
abbrev SH : Type := Nat × (Nat → Nat) × (Nat → Nat) × (Nat → Nat → Option Nat)
abbrev DY : Type := (Nat → Nat → Int32) × (Nat → Nat → Int64)
abbrev MI : Type := MethodName × ByteArray × Nat × Option FieldType
abbrev CL : List vw_C := [(RX0, TX0, 5), (RX1, TX1, 4), (RX2, TX2, 3), (RX3, TX3, 4), (RX4, TX4, 6), (RX5, TX5, 11), (RX6, TX6, 11), (RX7, TX7, 4), (RX8, TX8, 8), (RX9, TX9, 3), (RX10, TX10, 3), (RX11, TX11, 7), (RX12, TX12, 67)]
def cN : Nat → Nat := fun c => match c with
  | 0 => 5 | 1 => 4 | 2 => 3 | 3 => 4 | 4 => 6 | 5 => 11 | 6 => 11 | 7 => 4 | 8 => 8 | 9 => 3 | 10 => 3 | 11 => 7 | _ => 67
def cTy : Nat → Nat → FieldType := fun c => match c with
  | 0 => tyX0 | 1 => tyX1 | 2 => tyX2 | 3 => tyX3 | 4 => tyX4 | 5 => tyX5 | 6 => tyX6 | 7 => tyX7 | 8 => tyX8 | 9 => tyX9 | 10 => tyX10 | 11 => tyX11 | _ => tyX12
def rv (σ : Nat → Nat) : Value → Value := fun v => match v with
  | .ref a => .ref (σ a)
  | v => v
def fVal (σ : Nat → Nat) (S : SH) (x : DY) (a : Nat) (t : FieldType) (k : Nat) : Value := match t with
  | .int => .int (x.1 a k)
  | .long => .long (x.2 a k)
  | _ => va_rf ((S.2.2.2 a k).map σ)
def oV (σ : Nat → Nat) (S : SH) (x : DY) (a : Nat) : List Value := (List.range (cN (S.2.1 a))).map (fun k => fVal σ S x a (cTy (S.2.1 a) k) k)
def cellE (ty : Nat → ClassId) (σ : Nat → Nat) (S : SH) (x : DY) (a : Nat) : va_E :=
  if S.2.1 a < 13 then .inr (S.2.1 a, oV σ S x a)
  else if S.2.1 a < 16 then .inl (ty (S.2.1 a), S.2.2.1 a, .inl (x.1 a))
  else .inl (ty (S.2.1 a), S.2.2.1 a, .inr (.inr (.inr (.inr (fun i => (S.2.2.2 a i).map σ)))))
def wsE (ty : Nat → ClassId) (σ : Nat → Nat) (S : SH) (x : DY) : va_W := (List.range (S.1 - 40)).map (fun j => (σ (j + 40), cellE ty σ S x (j + 40)))
def TY (S : SH) (a c : Nat) : Prop := 40 ≤ a ∧ a < S.1 ∧ S.2.1 a = c
def up2 {α : Type} (f : Nat → Nat → α) (a k : Nat) (v : α) : Nat → Nat → α := fun b => if b = a then (fun j => if j = k then v else f a j) else f b
abbrev U1 (x : DY) (a k : Nat) (v : Int32) : DY := (up2 x.1 a k v, x.2)
abbrev U2 (x : DY) (a k : Nat) (v : Int64) : DY := (x.1, up2 x.2 a k v)
abbrev UP (S : SH) (a k : Nat) (v : Option Nat) : SH := (S.1, S.2.1, S.2.2.1, up2 S.2.2.2 a k v)
theorem up2_s {α : Type} {f : Nat → Nat → α} {a k : Nat} {v : α} : up2 f a k v a = fun j => if j = k then v else f a j := by
  unfold up2; rw [if_pos rfl]
theorem up2_n {α : Type} {f : Nat → Nat → α} {a b k : Nat} {v : α} (h : b ≠ a) : up2 f a k v b = f b := by
  unfold up2; rw [if_neg h]
theorem wsE_len {ty : Nat → ClassId} {σ : Nat → Nat} {S : SH} {x : DY} : (wsE ty σ S x).length = S.1 - 40 := by simp [wsE]
theorem wsE_get {ty : Nat → ClassId} {σ : Nat → Nat} {S : SH} {x : DY} {j : Nat} (h : j < S.1 - 40) : (wsE ty σ S x)[j]? = some (σ (j + 40), cellE ty σ S x (j + 40)) := by
  unfold wsE
  rw [List.getElem?_map, List.getElem?_range h]; rfl
theorem wsE_at {ty : Nat → ClassId} {σ : Nat → Nat} {S : SH} {x : DY} {a : Nat} (h0 : 40 ≤ a) (h : a < S.1) : (wsE ty σ S x)[a - 40]? = some (σ a, cellE ty σ S x a) := by
  rw [wsE_get (by omega), Nat.sub_add_cancel h0]
theorem wsE_some {ty : Nat → ClassId} {σ : Nat → Nat} {S : SH} {x : DY} {j : Nat} {q : Nat × va_E} (h : (wsE ty σ S x)[j]? = some q) : j + 40 < S.1 ∧ q = (σ (j + 40), cellE ty σ S x (j + 40)) := by
  have hl : j < S.1 - 40 := by
    have := (List.getElem?_eq_some_iff.mp h).1
    rwa [wsE_len] at this
  rw [wsE_get hl] at h
  exact ⟨by omega, (Option.some.inj h).symm⟩
/-- one place is changed -/
theorem wsE_set {ty : Nat → ClassId} {σ : Nat → Nat} {S S' : SH} {x x' : DY} {a : Nat} (h0 : 40 ≤ a) (h : a < S.1) (hn : S'.1 = S.1) (ho : ∀ b, b ≠ a → cellE ty σ S' x' b = cellE ty σ S x b) : (wsE ty σ S x).set (a - 40) (σ a, cellE ty σ S' x' a) = wsE ty σ S' x' := by
  apply List.ext_getElem?
  intro j
  by_cases hj : j < S.1 - 40
  · rw [wsE_get (by rw [hn]; exact hj)]
    by_cases e : j = a - 40
    · subst e
      rw [List.getElem?_set_self (by rw [wsE_len]; exact hj), Nat.sub_add_cancel h0]
    · rw [List.getElem?_set_ne (Ne.symm e), wsE_get hj, ho (j + 40) (by omega)]
  · rw [List.getElem?_eq_none (by rw [List.length_set, wsE_len]; omega), List.getElem?_eq_none (by rw [wsE_len, hn]; omega)]
theorem oV_get {σ : Nat → Nat} {S : SH} {x : DY} {a k : Nat} (h : k < cN (S.2.1 a)) : (oV σ S x a)[k]? = some (fVal σ S x a (cTy (S.2.1 a) k) k) := by
  unfold oV
  rw [List.getElem?_map, List.getElem?_range h]; rfl
theorem oV_len {σ : Nat → Nat} {S : SH} {x : DY} {a : Nat} : (oV σ S x a).length = cN (S.2.1 a) := by simp [oV]
theorem oV_set {σ : Nat → Nat} {S S' : SH} {x x' : DY} {a k : Nat} (hK : S'.2.1 a = S.2.1 a) (ho : ∀ j, j < cN (S.2.1 a) → j ≠ k → fVal σ S' x' a (cTy (S.2.1 a) j) j = fVal σ S x a (cTy (S.2.1 a) j) j) : (oV σ S x a).set k (fVal σ S' x' a (cTy (S.2.1 a) k) k) = oV σ S' x' a := by
  apply List.ext_getElem?
  intro j
  by_cases hj : j < cN (S.2.1 a)
  · rw [oV_get (by rw [hK]; exact hj), hK]
    by_cases e : j = k
    · subst e
      rw [List.getElem?_set_self (by rw [oV_len]; exact hj)]
    · rw [List.getElem?_set_ne (Ne.symm e), oV_get hj, ho j hj e]
  · rw [List.getElem?_eq_none (by rw [List.length_set, oV_len]; omega), List.getElem?_eq_none (by rw [oV_len, hK]; omega)]
theorem cellE_obj {ty : Nat → ClassId} {σ : Nat → Nat} {S : SH} {x : DY} {a : Nat} (h : S.2.1 a < 13) : cellE ty σ S x a = .inr (S.2.1 a, oV σ S x a) := by
  unfold cellE; rw [if_pos h]
theorem cellE_arr {ty : Nat → ClassId} {σ : Nat → Nat} {S : SH} {x : DY} {a : Nat} (h : 13 ≤ S.2.1 a) (h2 : S.2.1 a < 16) : cellE ty σ S x a = .inl (ty (S.2.1 a), S.2.2.1 a, .inl (x.1 a)) := by
  unfold cellE; rw [if_neg (by omega), if_pos h2]
theorem cellE_rar {ty : Nat → ClassId} {σ : Nat → Nat} {S : SH} {x : DY} {a : Nat} (h : 16 ≤ S.2.1 a) : cellE ty σ S x a = .inl (ty (S.2.1 a), S.2.2.1 a, .inr (.inr (.inr (.inr (fun i => (S.2.2.2 a i).map σ))))) := by
  unfold cellE; rw [if_neg (by omega), if_neg (by omega)]
theorem cellE_o1 {ty : Nat → ClassId} {σ : Nat → Nat} {S : SH} {x : DY} {a b k : Nat} {v : Int32} (h : b ≠ a) : cellE ty σ S (U1 x a k v) b = cellE ty σ S x b := by
  unfold cellE oV fVal
  simp only [up2_n h]
theorem cellE_o2 {ty : Nat → ClassId} {σ : Nat → Nat} {S : SH} {x : DY} {a b k : Nat} {v : Int64} (h : b ≠ a) : cellE ty σ S (U2 x a k v) b = cellE ty σ S x b := by
  unfold cellE oV fVal
  simp only [up2_n h]
theorem cellE_oP {ty : Nat → ClassId} {σ : Nat → Nat} {S : SH} {x : DY} {a b k : Nat} {v : Option Nat} (h : b ≠ a) : cellE ty σ (UP S a k v) x b = cellE ty σ S x b := by
  unfold cellE oV fVal
  simp only [up2_n h]
theorem rv_cat (σ : Nat → Nat) (v : Value) : (rv σ v).category = v.category := by cases v <;> rfl
/-! what stands before: five static arrays, eleven texts -/
def exC : Nat → String := fun i => match i with
  | 0 => "PlateRound$Seats" | 1 => "PlateRound$Seats" | 2 => "PlateRound$Seats" | 3 => "PlateRound$Rules" | _ => "PlateRound$Rules"
def exF : Nat → String := fun i => match i with
  | 0 => "ABOVE" | 1 => "ROOMS" | 2 => "TENS" | 3 => "FIRST_TAKE" | _ => "FIRST_GO"
def exV : Nat → List Int32 := fun i => match i with
  | 0 => [-1, 0, 0, 0, 2, 1]
  | 1 => [6, 3, 10, 6, 9, 2]
  | 2 => [1, 10, 100, 1000, 10000, 100000]
  | 3 => [4, -1, -3, -13, -11]
  | 4 => [-6, -4, -12]
  | 5 => [108, 105, 107, 101]
  | 6 => [97, 103, 101]
  | 7 => [119, 97, 105, 116, 101, 100]
  | 8 => [101, 97, 116, 101, 110]
  | 9 => [112, 114, 105, 99, 101]
  | 10 => [114, 111, 111, 109]
  | 11 => [116, 97, 107, 101]
  | 12 => [103, 111]
  | 13 => [111, 114]
  | 14 => [97, 110, 100]
  | 15 => [110, 111, 116]
  | _ => []
def EX (S : SH) (x : DY) : Prop := ∀ i, i < 16 → S.2.2.1 i = (exV i).length ∧ ∀ j, j < (exV i).length → x.1 i j = (exV i).getD j 0
