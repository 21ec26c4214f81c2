/-! LAYER 3: texts: the tokens, and what the reference's stack does with them -/
/- a token: its kind (1 number, 2 name, 3 key, 4 sign, 5 bad) and its value -/
abbrev ZT := Nat × Nat
def rk (c : Nat) : Nat := match c with
  | 20002 => 1
  | 20003 => 2
  | 20000 => 3
  | 20004 => 4
  | 20005 => 4
  | 20006 => 5
  | 20007 => 5
  | 20008 => 6
  | 20001 => 7
  | _ => 0
def sgOf (t : ZT) : Nat := if t.1 = 3 then (if t.2 = 2 then 20002 else if t.2 = 3 then 20003 else 0) else if t.1 = 4 then (if t.2 = 60 then 20004 else if t.2 = 61 then 20005 else if t.2 = 43 then 20006 else if t.2 = 45 then 20007 else if t.2 = 42 then 20008 else 0) else 0
theorem sg_rk (t : ZT) : rk (sgOf t) ≤ 6 ∧ rk (sgOf t) ≠ 3 ∧ (sgOf t ≠ 0 → 1 ≤ rk (sgOf t)) := by
  unfold sgOf
  repeat' split
  all_goals decide
def zVal (t : ZT) : Option Nat := if t.1 = 1 then some t.2 else if t.1 = 2 then some (10000 + t.2) else none
def stl (r : Nat) : List Nat → List Nat
  | [] => []
  | c :: σ => if r ≤ rk c then stl r σ else c :: σ
def pps (r : Nat) : List Nat → List Nat
  | [] => []
  | c :: σ => if r ≤ rk c then c :: pps r σ else []
def isO (c : Nat) : Bool := c == 20000 || c == 20001 || c == 20009
def opn (σ : List Nat) : Nat := σ.countP isO
def brk (σ : List Nat) : Nat := σ.countP (· == 20009)
abbrev ZR := Except (List ZT) (List ZT × List Nat)
/-- the reference's part: wants, isBegin, the stack, what is compared, what is put -/
def zMac : List ZT → Bool → Bool → List Nat → List Bool → List Nat → ZR
  | [], _, _, _, _, _ => .error []
  | t :: ts, true, b, σ, cs, o =>
    match zVal t with
    | some v => zMac ts false false (stl 7 σ) cs (o ++ [v] ++ pps 7 σ)
    | none => if opn σ = 5 then .error (t :: ts) else if t = (3, 4) then (if b = true then zMac ts true true (20000 :: σ) cs o else .error (t :: ts)) else if t = (4, 45) then zMac ts true false (20001 :: σ) cs o else if t = (4, 40) then zMac ts true true (20009 :: σ) (false :: cs) o else .error (t :: ts)
  | t :: ts, false, _, σ, cs, o =>
    if t = (4, 59) then (if brk σ = 0 then .ok (t :: ts, o ++ pps 1 σ) else .error (t :: ts))
    else if t = (4, 41) then (if brk σ = 0 then .error (t :: ts) else zMac ts false false (stl 7 (stl 1 σ).tail) cs.tail (o ++ pps 1 σ ++ pps 7 (stl 1 σ).tail))
    else if sgOf t = 0 then .error (t :: ts) else if rk (sgOf t) = 4 ∧ cs.headD false = true then .error (t :: ts)
    else zMac ts true (decide (rk (sgOf t) < 3)) (sgOf t :: stl (rk (sgOf t)) σ) ((decide (rk (sgOf t) = 4) || (decide (2 < rk (sgOf t)) && cs.headD false)) :: cs.tail) (o ++ pps (rk (sgOf t)) σ)
theorem stl_stl {q l : Nat} (h : q ≤ l) : ∀ σ, stl q (stl l σ) = stl q σ
  | [] => rfl
  | c :: σ => by
    by_cases e : l ≤ rk c
    · rw [show stl l (c :: σ) = stl l σ from if_pos e, show stl q (c :: σ) = stl q σ from if_pos (by omega)]
      exact stl_stl h σ
    · rw [show stl l (c :: σ) = c :: σ from if_neg e]
theorem pps_pps {q l : Nat} (h : q ≤ l) : ∀ σ, pps q σ = pps l σ ++ pps q (stl l σ)
  | [] => rfl
  | c :: σ => by
    by_cases e : l ≤ rk c
    · rw [show stl l (c :: σ) = stl l σ from if_pos e, show pps q (c :: σ) = c :: pps q σ from if_pos (by omega), show pps l (c :: σ) = c :: pps l σ from if_pos e, pps_pps h σ]
      rfl
    · rw [show stl l (c :: σ) = c :: σ from if_neg e, show pps l (c :: σ) = [] from if_neg e]
      rfl
theorem brk_stl {l : Nat} (h : 1 ≤ l) : ∀ σ, brk (stl l σ) = brk σ
  | [] => rfl
  | c :: σ => by
    by_cases e : l ≤ rk c
    · rw [show stl l (c :: σ) = stl l σ from if_pos e, brk_stl h σ]
      unfold brk
      rw [List.countP_cons_of_neg]
      intro e2
      have : c = 20009 := by simpa using e2
      subst this
      have : rk 20009 = 0 := rfl
      omega
    · rw [show stl l (c :: σ) = c :: σ from if_neg e]
def hdR (ts : List ZT) : Nat := match ts with
  | [] => 0
  | t :: _ => rk (sgOf t)
def zStop (l : Nat) (ts : List ZT) (c : Bool) : Prop := hdR ts ≤ l ∨ (hdR ts = 4 ∧ c = true)
/-- what would be settled next may be settled now -/
theorem zMac_S {l : Nat} (hl : 1 ≤ l) {ts : List ZT} {σ : List Nat} {c : Bool} {cs : List Bool} {o : List Nat} (h : zStop l ts c) : zMac ts false false σ (c :: cs) o = zMac ts false false (stl l σ) (c :: cs) (o ++ pps l σ) := by
  cases ts with
  | nil => unfold zMac; rfl
  | cons t ts =>
    unfold zMac
    rw [brk_stl hl, stl_stl hl, List.append_assoc o (pps l σ), ← pps_pps hl]
    by_cases h1 : t = (4, 59)
    · rw [if_pos h1, if_pos h1]
    rw [if_neg h1, if_neg h1]
    by_cases h2 : t = (4, 41)
    · rw [if_pos h2, if_pos h2]
    rw [if_neg h2, if_neg h2]
    by_cases h3 : sgOf t = 0
    · rw [if_pos h3, if_pos h3]
    rw [if_neg h3, if_neg h3]
    by_cases h4 : rk (sgOf t) = 4 ∧ (c :: cs).headD false = true
    · rw [if_pos h4, if_pos h4]
    rw [if_neg h4, if_neg h4]
    have hq : rk (sgOf t) ≤ l := by
      rcases h with h | ⟨h, rfl⟩
      · exact h
      · exact absurd ⟨h, rfl⟩ h4
    rw [stl_stl hq, List.append_assoc o (pps l σ), ← pps_pps hq]
/-- whole pieces of programs -/
def zGd (P : List Nat) : Prop := (∀ Q d, zD (P ++ Q) d = zD Q (d + 1)) ∧ ∀ c, c ∈ P → zOk c
theorem zGd.one {c : Nat} (h : c < 10006) : zGd [c] := ⟨fun Q d => if_pos h, fun c' hc => by rw [List.mem_singleton.mp hc]; exact Or.inl h⟩
theorem zGd.un {P : List Nat} {c : Nat} (h : zGd P) (hc : c = 20000 ∨ c = 20001) : zGd (P ++ [c]) := ⟨fun Q d => by
  rw [List.append_assoc, h.1]
  show (if c < 10006 then _ else if c < 20002 then (if 1 ≤ d + 1 then zD Q (d + 1) else none) else _) = _
  rw [if_neg (by omega), if_pos (by omega), if_pos (by omega)], fun c' hm => by
  rcases List.mem_append.mp hm with hm | hm
  · exact h.2 c' hm
  · rw [List.mem_singleton.mp hm]; exact Or.inr (by omega)⟩
theorem zGd.bi {P P' : List Nat} {c : Nat} (h : zGd P) (h' : zGd P') (h1 : 20002 ≤ c) (h2 : c ≤ 20008) : zGd (P ++ P' ++ [c]) := ⟨fun Q d => by
  rw [List.append_assoc, List.append_assoc, h.1, h'.1]
  show (if c < 10006 then _ else if c < 20002 then _ else (if 2 ≤ d + 1 + 1 then zD Q (d + 1 + 1 - 1) else none)) = _
  rw [if_neg (by omega), if_neg (by omega), if_pos (by omega)]; rfl, fun c' hm => by
  rcases List.mem_append.mp hm with hm | hm
  · rcases List.mem_append.mp hm with hm | hm
    · exact h.2 c' hm
    · exact h'.2 c' hm
  · rw [List.mem_singleton.mp hm]; exact Or.inr (by omega)⟩
theorem zGd.wf {P : List Nat} (h : zGd P) : zWf P := ⟨by have := h.1 [] 0; rw [List.append_nil] at this; exact this, h.2⟩
