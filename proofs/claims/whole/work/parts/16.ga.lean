/-! MIRRORS that make cells: the world's shape is part of what they answer; what they need of it they look up -/
def GA {ρ : Type} (M : MI) (d mcT msT : Nat) (w : ρ → Option Value × SH × DY) (pc : Nat) (ls : List (Option Value)) (st : List Value) (S : SH) (x : DY) (k n : Nat) (o : Option ρ) : Prop :=
  ∀ a, o = some a → MW M d mcT msT (fun r S' x' => r = (w a).1 ∧ S' = (w a).2.1 ∧ x' = (w a).2.2) pc ls st S x k n
def CA {ρ : Type} (M : MI) (d : Nat) (S : SH) (av : List Value) (x : DY) (mc ms : Nat) (w : ρ → Option Value × SH × DY) (o : Option ρ) : Prop :=
  ∀ a, o = some a → MA M d av S x mc ms (fun r S' x' => r = (w a).1 ∧ S' = (w a).2.1 ∧ x' = (w a).2.2)
abbrev wAV : SH × DY → Option Value × SH × DY := fun r => (none, r.1, r.2)
abbrev wAI : Int32 × SH × DY → Option Value × SH × DY := fun r => (some (.int r.1), r.2.1, r.2.2)
abbrev wAR : Nat × SH × DY → Option Value × SH × DY := fun r => (some (.ref r.1), r.2.1, r.2.2)
def tk {ρ : Type} (S : SH) (a c : Nat) (o : Option ρ) : Option ρ := if 40 ≤ a ∧ a < S.1 ∧ S.2.1 a = c then o else none
def tkX {ρ : Type} (S : SH) (a : Nat) (o : Option ρ) : Option ρ := if a < 5 ∨ (40 ≤ a ∧ a < S.1 ∧ S.2.1 a = 14) then o else none
def lk {ρ : Type} (S : SH) (a : Nat) (o : Option ρ) : Option ρ := if a < S.1 then o else none
def nk {ρ : Type} (m : Int32) (B : Nat) (o : Option ρ) : Option ρ := if m < 0 ∨ B < m.toNatClampNeg then none else o
def inB (S : SH) (v : Value) : Bool := match v with
  | .ref a => decide (a < S.1)
  | _ => true
def frB (S : SH) (ls : List (Option Value)) (st : List Value) : Bool := st.all (inB S) && ls.all (fun o => match o with | some v => inB S v | none => true)
def fk {ρ : Type} (S : SH) (ls : List (Option Value)) (st : List Value) (o : Option ρ) : Option ρ := if frB S ls st = true then o else none
theorem inB_in {S : SH} {v : Value} (h : inB S v = true) : inS S v := by
  cases v with
  | ref a => exact (of_decide_eq_true (p := a < S.1) h)
  | _ => trivial
theorem frB_K {S : SH} {ls : List (Option Value)} {st : List Value} (h : frB S ls st = true) : frK S ls st := by
  unfold frB at h
  rw [Bool.and_eq_true, List.all_eq_true, List.all_eq_true] at h
  exact ⟨fun v hv => inB_in (h.1 v hv), fun v hv => inB_in (h.2 _ hv)⟩
section GAL
variable {ρ : Type} {M : MI} {d mcT msT : Nat} {w : ρ → Option Value × SH × DY} {pc pc' : Nat} {ls ls' : List (Option Value)} {st st' : List Value} {S S' : SH} {x x' : DY} {k n k' n' : Nat} {o o' : Option ρ}
theorem CA.of {av : List Value} (ls : List (Option Value)) (hls : lvA ls = lv_args 0 av) (hn : (lg_sl av).length ≤ M.2.2.1) (hp : plainFor M.1 = true) (h : GA M d mcT msT w 0 ls [] S x mcT msT o) : CA M d S av x mcT msT w o := fun a ha => MA.of ls hls hn hp (h a ha)
theorem ga1 (h : ∀ {Q : QT}, MW M d mcT msT Q pc' ls' st' S' x' k' n' → MW M d mcT msT Q pc ls st S x k n) (kk : GA M d mcT msT w pc' ls' st' S' x' k' n' o) : GA M d mcT msT w pc ls st S x k n o := fun a ha => h (kk a ha)
theorem ga_none : GA M d mcT msT w pc ls st S x k n none := fun a ha => by cases ha
theorem ga_br {c : Prop} [Decidable c] {pt pf : Nat} {o1 o2 : Option ρ} (h : ∀ {Q : QT}, (c → MW M d mcT msT Q pt ls st' S x k n) → (¬ c → MW M d mcT msT Q pf ls st' S x k n) → MW M d mcT msT Q pc ls st S x k n) (kt : c → GA M d mcT msT w pt ls st' S x k n o1) (kf : ¬ c → GA M d mcT msT w pf ls st' S x k n o2) : GA M d mcT msT w pc ls st S x k n (if c then o1 else o2) := by
  intro a ha
  by_cases hc : c
  · rw [if_pos hc] at ha
    exact h (fun _ => kt hc a ha) (fun n => absurd hc n)
  · rw [if_neg hc] at ha
    exact h (fun n => absurd n hc) (fun _ => kf hc a ha)
theorem ga_if {c : Prop} [Decidable c] {o1 o2 : Option ρ} (kt : c → GA M d mcT msT w pc ls st S x k n o1) (kf : ¬ c → GA M d mcT msT w pc ls st S x k n o2) : GA M d mcT msT w pc ls st S x k n (if c then o1 else o2) := by
  intro a ha
  by_cases hc : c
  · rw [if_pos hc] at ha; exact kt hc a ha
  · rw [if_neg hc] at ha; exact kf hc a ha
theorem ga_tk {a c : Nat} (kk : TY S a c → GA M d mcT msT w pc ls st S x k n o) : GA M d mcT msT w pc ls st S x k n (tk S a c o) := ga_if (fun h => kk h) (fun _ => ga_none)
theorem ga_tkX {a : Nat} (kk : TXX S a → GA M d mcT msT w pc ls st S x k n o) : GA M d mcT msT w pc ls st S x k n (tkX S a o) := ga_if (fun h => kk h) (fun _ => ga_none)
theorem ga_lk {a : Nat} (kk : a < S.1 → GA M d mcT msT w pc ls st S x k n o) : GA M d mcT msT w pc ls st S x k n (lk S a o) := ga_if (fun h => kk h) (fun _ => ga_none)
theorem ga_nk {m : Int32} {B : Nat} (kk : ¬ m < 0 → m.toNatClampNeg ≤ B → GA M d mcT msT w pc ls st S x k n o) : GA M d mcT msT w pc ls st S x k n (nk m B o) := ga_if (fun _ => ga_none) (fun h => kk (fun q => h (Or.inl q)) (Nat.not_lt.mp fun q => h (Or.inr q)))
theorem ga_fk {l0 : List (Option Value)} {s0 : List Value} (kk : frK S l0 s0 → GA M d mcT msT w pc ls st S x k n o) : GA M d mcT msT w pc ls st S x k n (fk S l0 s0 o) := ga_if (fun h => kk (frB_K h)) (fun _ => ga_none)
theorem ga_ck {a : Nat} {i : Int32} (kk : ix S a i → GA M d mcT msT w pc ls st S x k n o) : GA M d mcT msT w pc ls st S x k n (ck S a i o) := ga_if (fun _ => ga_none) (fun h => kk h)
theorem ga_dv {y : Int32} (kk : ¬ y = 0 → GA M d mcT msT w pc ls st S x k n o) : GA M d mcT msT w pc ls st S x k n (dv y o) := ga_if (fun _ => ga_none) (fun h => kk h)
theorem ga_cpk {a0 a1 : Nat} {sp dp m : Int32} (kk : ¬ (sp < 0 ∨ dp < 0 ∨ m < 0 ∨ S.2.2.1 a0 < sp.toNatClampNeg + m.toNatClampNeg ∨ S.2.2.1 a1 < dp.toNatClampNeg + m.toNatClampNeg) → GA M d mcT msT w pc ls st S x k n o) : GA M d mcT msT w pc ls st S x k n (cpk S a0 sp a1 dp m o) := ga_if (fun _ => ga_none) (fun h => kk h)
theorem ga_rfk {v : Option Nat} {f : Nat → Option ρ} (kk : ∀ b, v = some b → GA M d mcT msT w pc ls st S x k n (f b)) : GA M d mcT msT w pc ls st S x k n (rfk v f) := by
  intro a ha
  cases v with
  | none => cases ha
  | some b => exact kk b rfl a ha
theorem ga_blx {v : DY} {f : DY → Option ρ} (kk : ∀ y, GA M d mcT msT w pc ls st S y k n (f y)) : GA M d mcT msT w pc ls st S v k n (bl v f) := fun a ha => kk v a ha
theorem ga_blS {T : SH} {v : DY} {f : SH → DY → Option ρ} (kk : ∀ S y, GA M d mcT msT w pc ls st S y k n (f S y)) : GA M d mcT msT w pc ls st T v k n (bl T (fun S => bl v (f S))) := fun a ha => kk T v a ha
theorem ga_blR {T : SH} {v : DY} {b : Nat} {f : Nat → SH → DY → Option ρ} (kk : ∀ b S y, GA M d mcT msT w pc ls (.ref b :: st) S y k n (f b S y)) : GA M d mcT msT w pc ls (.ref b :: st) T v k n (bl b (fun b => bl T (fun S => bl v (f b S)))) := fun a ha => kk b T v a ha
theorem ga_aald {a c : Nat} {i : Int32} {f : Nat → Option ρ} (hp : pc' = pc + 1) (hT : TY S a c) (hc : c = 16 ∨ c = 17 ∨ c = 18) (hd : decode M.2.1 pc = .ok (.aaload, 1)) (kk : ∀ b, S.2.2.2 a i.toNatClampNeg = some b → GA M d mcT msT w pc' ls (.ref b :: st) S x k n (f b)) : GA M d mcT msT w pc ls (.int i :: .ref a :: st) S x k n (ck S a i (rfk (S.2.2.2 a i.toNatClampNeg) f)) := by
  subst hp
  refine ga_ck (fun hi => ?_)
  intro r hr
  refine r_aald hT hc hi hd ?_
  cases hb : S.2.2.2 a i.toNatClampNeg with
  | none => rw [hb] at hr; cases hr
  | some b => rw [hb] at hr; exact kk b hb r hr
theorem ga_iret {v : Int32} {r : ρ} (hr : M.2.2.2 = some .int) (hw : w r = (some (.int v), S, x)) (hd : decode M.2.1 pc = .ok (.ireturn, 1)) : GA M d mcT msT w pc ls [.int v] S x k n (some r) := by
  intro a ha
  cases ha
  exact r_iret hr (by rw [hw]; exact ⟨rfl, rfl, rfl⟩) hd
theorem ga_zret {v : Int32} {r : ρ} {t : FieldType} (hr : M.2.2.2 = some t) (hn : narrow t (.int v) = .int v) (hw : w r = (some (.int v), S, x)) (hd : decode M.2.1 pc = .ok (.ireturn, 1)) : GA M d mcT msT w pc ls [.int v] S x k n (some r) := by
  intro a ha
  cases ha
  exact r_zret hr hn (by rw [hw]; exact ⟨rfl, rfl, rfl⟩) hd
theorem ga_vret {r : ρ} (hr : M.2.2.2 = none) (hw : w r = (none, S, x)) (hd : decode M.2.1 pc = .ok (.return_, 1)) : GA M d mcT msT w pc ls [] S x k n (some r) := by
  intro a ha
  cases ha
  exact r_vret hr (by rw [hw]; exact ⟨rfl, rfl, rfl⟩) hd
theorem ga_aret {b : Nat} {r : ρ} {rt : FieldType} (hr : M.2.2.2 = some rt) (hrt : (∃ n, rt = .object n) ∨ ∃ t, rt = .array t) (hw : w r = (some (.ref b), S, x)) (hd : decode M.2.1 pc = .ok (.areturn, 1)) : GA M d mcT msT w pc ls [.ref b] S x k n (some r) := by
  intro a ha
  cases ha
  exact r_aret hr hrt (by rw [hw]; exact ⟨rfl, rfl, rfl⟩) hd
variable {ρ' : Type} {M' : MI} {w' : ρ' → Option Value × SH × DY} {v' : ρ' → Option Value × DY} {fc : Option ρ'} {f : ρ' → Option ρ} {i mc ms : Nat} {As st0 : List Value}
/-! calls of methods that make cells -/
theorem ga_V {c b : Nat} (hl : LV M.1.cls i c M') (hb : LB M' As.length) (hA : CA M' (d - 1) S (.ref b :: As) x mc ms w' fc) (hd1 : 1 ≤ d) (hT : TY S b c) (hs : (st.map fun v => v.category).sum ≤ 8) (h0 : st0 = As.reverse ++ .ref b :: st) (hdg : decode M.2.1 pc = .ok (.invokevirtual i, 3)) (hin : frK S ls st) (hk : k = mc + k') (hn : n = ms + n')
    (kk : ∀ r, GA M d mcT msT w (pc + 3) ls ((w' r).1.toList ++ st) (w' r).2.1 (w' r).2.2 k' n' (f r)) : GA M d mcT msT w pc ls st0 S x k n (Option.bind fc f) := by
  intro a ha
  subst hk hn
  cases hr : fc with
  | none => rw [hr] at ha; cases ha
  | some r =>
    rw [hr] at ha
    refine r_V hl hb (hA r hr) (by omega) hT hs h0 hdg (Or.inl hin) (fun r' S' x' q _ => ?_)
    obtain ⟨rfl, rfl, rfl⟩ := q
    exact kk r a ha
theorem ga_S (hl : LSt M.1.cls i M') (hb : LB M' As.length) (hA : CA M' (d - 1) S As x mc ms w' fc) (hd1 : 1 ≤ d) (hs : (st.map fun v => v.category).sum ≤ 8) (h0 : st0 = As.reverse ++ st) (hdg : decode M.2.1 pc = .ok (.invokestatic i, 3)) (hin : frK S ls st) (hk : k = mc + k') (hn : n = ms + n')
    (kk : ∀ r, GA M d mcT msT w (pc + 3) ls ((w' r).1.toList ++ st) (w' r).2.1 (w' r).2.2 k' n' (f r)) : GA M d mcT msT w pc ls st0 S x k n (Option.bind fc f) := by
  intro a ha
  subst hk hn
  cases hr : fc with
  | none => rw [hr] at ha; cases ha
  | some r =>
    rw [hr] at ha
    refine r_S hl hb (hA r hr) (by omega) hs h0 hdg (Or.inl hin) (fun r' S' x' q _ => ?_)
    obtain ⟨rfl, rfl, rfl⟩ := q
    exact kk r a ha
theorem ga_I {b : Nat} (hl : LI M.1.cls i M') (hN : M'.2.2.2 = none) (hb : LB M' As.length) (hA : CA M' (d - 1) S (.ref b :: As) x mc ms w' fc) (hd1 : 1 ≤ d) (hs : (st.map fun v => v.category).sum ≤ 8) (h0 : st0 = As.reverse ++ .ref b :: st) (hdg : decode M.2.1 pc = .ok (.invokespecial i, 3)) (hin : frK S ls st) (hk : k = mc + k') (hn : n = ms + n')
    (kk : ∀ r, GA M d mcT msT w (pc + 3) ls ((w' r).1.toList ++ st) (w' r).2.1 (w' r).2.2 k' n' (f r)) : GA M d mcT msT w pc ls st0 S x k n (Option.bind fc f) := by
  intro a ha
  subst hk hn
  cases hr : fc with
  | none => rw [hr] at ha; cases ha
  | some r =>
    rw [hr] at ha
    refine r_I hl hN hb (hA r hr) (by omega) hs h0 hdg (Or.inl hin) (fun r' S' x' q _ => ?_)
    obtain ⟨rfl, rfl, rfl⟩ := q
    exact kk r a ha
theorem ga_IN {b : Nat} (hl : LIN M.1.cls i M') (hN : M'.2.2.2 = none) (hb : LB M' As.length) (hA : CA M' (d - 1) S (.ref b :: As) x mc ms w' fc) (hd1 : 1 ≤ d) (hs : (st.map fun v => v.category).sum ≤ 8) (h0 : st0 = As.reverse ++ .ref b :: st) (hdg : decode M.2.1 pc = .ok (.invokespecial i, 3)) (hin : frK S ls st) (hk : k = mc + k') (hn : n = ms + n')
    (kk : ∀ r, GA M d mcT msT w (pc + 3) ls ((w' r).1.toList ++ st) (w' r).2.1 (w' r).2.2 k' n' (f r)) : GA M d mcT msT w pc ls st0 S x k n (Option.bind fc f) := by
  intro a ha
  subst hk hn
  cases hr : fc with
  | none => rw [hr] at ha; cases ha
  | some r =>
    rw [hr] at ha
    refine r_IN hl hN hb (hA r hr) (by omega) hs h0 hdg (Or.inl hin) (fun r' S' x' q _ => ?_)
    obtain ⟨rfl, rfl, rfl⟩ := q
    exact kk r a ha
/-- a call of a method that makes none is one of a method that makes them -/
theorem CT.CA (h : CT M' d S As x v' fc) : CA M' d S As x 0 0 (fun r => ((v' r).1, S, (v' r).2)) fc := fun a ha => h a ha
theorem r_iincF {Q : QT} {i : Nat} {c : Int} {v v' : Int32} (hv : v + Int32.ofInt c = v') (hl0 : ls[i]? = some (some (.int v))) (hn : i < M.2.2.1) (hz : noL ls i = true) (hd : decode M.2.1 pc = .ok (.iinc i c, 3)) (kk : MW M d mcT msT Q (pc + 3) (ls.set i (some (.int v'))) st S x k n) : MW M d mcT msT Q pc ls st S x k n := r_iinc rfl hl0 hn hz hd (by rw [hv]; exact kk)
theorem r_iaddF {Q : QT} {a b v : Int32} (hv : a + b = v) (hd : decode M.2.1 pc = .ok (.iadd, 1)) (kk : MW M d mcT msT Q (pc + 1) ls (.int v :: st) S x k n) : MW M d mcT msT Q pc ls (.int b :: .int a :: st) S x k n := r_iadd hd (by rw [hv]; exact kk)
theorem r_isubF {Q : QT} {a b v : Int32} (hv : a - b = v) (hd : decode M.2.1 pc = .ok (.isub, 1)) (kk : MW M d mcT msT Q (pc + 1) ls (.int v :: st) S x k n) : MW M d mcT msT Q pc ls (.int b :: .int a :: st) S x k n := r_isub hd (by rw [hv]; exact kk)
theorem r_imulF {Q : QT} {a b v : Int32} (hv : a * b = v) (hd : decode M.2.1 pc = .ok (.imul, 1)) (kk : MW M d mcT msT Q (pc + 1) ls (.int v :: st) S x k n) : MW M d mcT msT Q pc ls (.int b :: .int a :: st) S x k n := r_imul hd (by rw [hv]; exact kk)
theorem r_idivF {Q : QT} {a b v : Int32} (h0 : ¬ b = 0) (hv : a / b = v) (hd : decode M.2.1 pc = .ok (.idiv, 1)) (kk : MW M d mcT msT Q (pc + 1) ls (.int v :: st) S x k n) : MW M d mcT msT Q pc ls (.int b :: .int a :: st) S x k n := r_idiv h0 hd (by rw [hv]; exact kk)
theorem r_iremF {Q : QT} {a b v : Int32} (h0 : ¬ b = 0) (hv : a - a / b * b = v) (hd : decode M.2.1 pc = .ok (.irem, 1)) (kk : MW M d mcT msT Q (pc + 1) ls (.int v :: st) S x k n) : MW M d mcT msT Q pc ls (.int b :: .int a :: st) S x k n := r_irem h0 hd (by rw [hv]; exact kk)
end GAL
