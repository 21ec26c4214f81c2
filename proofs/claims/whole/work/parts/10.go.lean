/-! MIRRORS: what a method answers, as a function of the world -/
theorem tbI {w : Cond} (i : Nat) (h : lw_tbl[i]? = some w) (g : goodWord w = true) : w ∈ tb := tb_mk (List.mem_of_getElem? h) g
/-- the kind that a field of references holds (19: ints, maybe a static array) -/
def rT : Nat → Nat → Nat := fun c k => match c with
  | 0 => 14
  | 1 => (match k with | 0 => 16 | _ => 14)
  | 2 => 14
  | 3 => 14
  | 4 => 14
  | 5 => 14
  | 6 => (match k with | 0 => 3 | 1 => 7 | 3 => 4 | 4 => 8 | 5 => 2 | _ => 14)
  | 7 => (match k with | 0 => 17 | 1 => 10 | _ => 14)
  | 8 => 14
  | 9 => (match k with | 2 => 18 | _ => 14)
  | 10 => (match k with | 0 => 19 | 1 => 19 | _ => 14)
  | 11 => (match k with | 0 => 3 | 1 => 7 | 2 => 5 | 3 => 0 | 4 => 9 | 5 => 6 | 6 => 1 | _ => 14)
  | _ => (match k with | 26 => 15 | 27 => 13 | 38 => 15 | 55 => 15 | _ => 14)
def TXX (S : SH) (a : Nat) : Prop := a < 5 ∨ TY S a 14
/-- every field of references of every object holds a cell of its kind -/
def WT (S : SH) : Prop :=
  (∀ a c, c < 13 → TY S a c → ∀ k, k < cN c → isR (cTy c k) = true → ∃ b, S.2.2.2 a k = some b ∧ (rT c k ≠ 19 → TY S b (rT c k)) ∧ (rT c k = 19 → TXX S b)) ∧
  (∀ a, TY S a 16 → ∀ i b, S.2.2.2 a i = some b → TY S b 6) ∧ (∀ a, TY S a 17 → ∀ i b, S.2.2.2 a i = some b → TY S b 10) ∧ (∀ a, TY S a 18 → ∀ i b, S.2.2.2 a i = some b → TY S b 14)
def pr (S : SH) (a k : Nat) : Nat := (S.2.2.2 a k).getD 0
theorem wt_some {S : SH} {a c k : Nat} (hW : WT S) (hT : TY S a c) (hc : c < 13) (hk : k < cN c) (hr : isR (cTy c k) = true) : S.2.2.2 a k = some (pr S a k) := by
  obtain ⟨b, hb, -⟩ := hW.1 a c hc hT k hk hr
  unfold pr; rw [hb]; rfl
theorem wt {S : SH} {a c k : Nat} (hW : WT S) (hT : TY S a c) (hc : c < 13) (hk : k < cN c) (hr : isR (cTy c k) = true) (h19 : rT c k ≠ 19) : TY S (pr S a k) (rT c k) := by
  obtain ⟨b, hb, h1, -⟩ := hW.1 a c hc hT k hk hr
  unfold pr; rw [hb]; exact h1 h19
theorem wtX {S : SH} {a c k : Nat} (hW : WT S) (hT : TY S a c) (hc : c < 13) (hk : k < cN c) (hr : isR (cTy c k) = true) (h19 : rT c k = 19) : TXX S (pr S a k) := by
  obtain ⟨b, hb, -, h1⟩ := hW.1 a c hc hT k hk hr
  unfold pr; rw [hb]; exact h1 h19
def Go {ρ : Type} (M : MI) (d : Nat) (S : SH) (w : ρ → Option Value × DY) (pc : Nat) (ls : List (Option Value)) (st : List Value) (x : DY) (o : Option ρ) : Prop :=
  ∀ a, o = some a → MW M d 0 0 (fun r S' x' => r = (w a).1 ∧ S' = S ∧ x' = (w a).2) pc ls st S x 0 0
def CT {ρ : Type} (M : MI) (d : Nat) (S : SH) (av : List Value) (x : DY) (w : ρ → Option Value × DY) (o : Option ρ) : Prop :=
  ∀ a, o = some a → MA M d av S x 0 0 (fun r S' x' => r = (w a).1 ∧ S' = S ∧ x' = (w a).2)
abbrev wPI (x : DY) : Int32 → Option Value × DY := fun r => (some (.int r), x)
abbrev wPL (x : DY) : Int64 → Option Value × DY := fun r => (some (.long r), x)
abbrev wSI : Int32 × DY → Option Value × DY := fun r => (some (.int r.1), r.2)
abbrev wSL : Int64 × DY → Option Value × DY := fun r => (some (.long r.1), r.2)
abbrev wSV : DY → Option Value × DY := fun r => (none, r)
def ck {ρ : Type} (S : SH) (a : Nat) (i : Int32) (o : Option ρ) : Option ρ := if i < 0 ∨ S.2.2.1 a ≤ i.toNatClampNeg then none else o
def dv {ρ : Type} (y : Int32) (o : Option ρ) : Option ρ := if y = 0 then none else o
def bz {ρ : Type} (v : Int32) (o : Option ρ) : Option ρ := if v = 0 ∨ v = 1 then o else none
def bl {α ρ : Type} (v : α) (k : α → Option ρ) : Option ρ := k v
def rfk {ρ : Type} (v : Option Nat) (k : Nat → Option ρ) : Option ρ := match v with
  | none => none
  | some b => k b
def rfN {ρ : Type} (v : Option Nat) (o : Option ρ) (k : Nat → Option ρ) : Option ρ := match v with
  | none => o
  | some b => k b
def itr {α ρ : Type} (F : (α → Option ρ) → α → Option ρ) : Nat → α → Option ρ
  | 0, _ => none
  | n + 1, a => F (itr F n) a
def cpX (S : SH) (a0 : Nat) (sp : Int32) (a1 : Nat) (dp n : Int32) (x : DY) : DY := (fun b => if b = a1 then va_cpy (x.1 a0) (x.1 a1) sp.toNatClampNeg dp.toNatClampNeg n.toNatClampNeg else x.1 b, x.2)
def cpk {ρ : Type} (S : SH) (a0 : Nat) (sp : Int32) (a1 : Nat) (dp n : Int32) (o : Option ρ) : Option ρ := if sp < 0 ∨ dp < 0 ∨ n < 0 ∨ S.2.2.1 a0 < sp.toNatClampNeg + n.toNatClampNeg ∨ S.2.2.1 a1 < dp.toNatClampNeg + n.toNatClampNeg then none else o
section GO
variable {ρ : Type} {M : MI} {d : Nat} {S : SH} {w : ρ → Option Value × DY} {pc pc' : Nat} {ls ls' : List (Option Value)} {st st' : List Value} {x x' : DY} {o o' : Option ρ}
theorem CT.of {av : List Value} (ls : List (Option Value)) (hls : lvA ls = lv_args 0 av) (hn : (lg_sl av).length ≤ M.2.2.1) (hp : plainFor M.1 = true) (h : Go M d S w 0 ls [] x o) : CT M d S av x w o := fun a ha => MA.of ls hls hn hp (h a ha)
theorem go1 (h : ∀ {Q : QT}, MW M d 0 0 Q pc' ls' st' S x' 0 0 → MW M d 0 0 Q pc ls st S x 0 0) (k : Go M d S w pc' ls' st' x' o) : Go M d S w pc ls st x o := fun a ha => h (k a ha)
theorem go_none : Go M d S w pc ls st x none := fun a ha => by cases ha
theorem go_br {c : Prop} [Decidable c] {pt pf : Nat} {o1 o2 : Option ρ} (h : ∀ {Q : QT}, (c → MW M d 0 0 Q pt ls st' S x 0 0) → (¬ c → MW M d 0 0 Q pf ls st' S x 0 0) → MW M d 0 0 Q pc ls st S x 0 0) (kt : c → Go M d S w pt ls st' x o1) (kf : ¬ c → Go M d S w pf ls st' x o2) : Go M d S w pc ls st x (if c then o1 else o2) := by
  intro a ha
  by_cases hc : c
  · rw [if_pos hc] at ha
    exact h (fun _ => kt hc a ha) (fun n => absurd hc n)
  · rw [if_neg hc] at ha
    exact h (fun n => absurd n hc) (fun _ => kf hc a ha)
theorem go_case {c : Prop} [Decidable c] {o1 o2 : Option ρ} (kt : c → Go M d S w pc ls st x o1) (kf : ¬ c → Go M d S w pc ls st x o2) : Go M d S w pc ls st x (if c then o1 else o2) := by
  intro a ha
  by_cases hc : c
  · rw [if_pos hc] at ha; exact kt hc a ha
  · rw [if_neg hc] at ha; exact kf hc a ha
theorem go_ck {a : Nat} {i : Int32} (k : ix S a i → Go M d S w pc ls st x o) : Go M d S w pc ls st x (ck S a i o) := by
  intro r hr
  unfold ck at hr
  by_cases hc : i < 0 ∨ S.2.2.1 a ≤ i.toNatClampNeg
  · rw [if_pos hc] at hr; cases hr
  · rw [if_neg hc] at hr; exact k hc r hr
theorem go_dv {y : Int32} (k : ¬ y = 0 → Go M d S w pc ls st x o) : Go M d S w pc ls st x (dv y o) := by
  intro r hr
  unfold dv at hr
  by_cases hc : y = 0
  · rw [if_pos hc] at hr; cases hr
  · rw [if_neg hc] at hr; exact k hc r hr
theorem go_bz {v : Int32} (k : narrow .boolean (.int v) = .int v → Go M d S w pc ls st x o) : Go M d S w pc ls st x (bz v o) := by
  intro r hr
  unfold bz at hr
  by_cases hc : v = 0 ∨ v = 1
  · rw [if_pos hc] at hr
    exact k (by rcases hc with rfl | rfl <;> rfl) r hr
  · rw [if_neg hc] at hr; cases hr
theorem go_bl {α : Type} {v : α} {X : α → DY} {L : α → List (Option Value)} {T : α → List Value} {f : α → Option ρ} (k : ∀ y, Go M d S w pc (L y) (T y) (X y) (f y)) : Go M d S w pc (L v) (T v) (X v) (bl v f) := fun a ha => k v a ha
theorem go_blx {v : DY} {f : DY → Option ρ} (k : ∀ y, Go M d S w pc ls st y (f y)) : Go M d S w pc ls st v (bl v f) := fun a ha => k v a ha
theorem go_rfk {v : Option Nat} {f : Nat → Option ρ} (k : ∀ b, v = some b → Go M d S w pc ls st x (f b)) : Go M d S w pc ls st x (rfk v f) := by
  intro a ha
  cases v with
  | none => cases ha
  | some b => exact k b rfl a ha
theorem go_rfN {v : Option Nat} {f : Nat → Option ρ} (k0 : v = none → Go M d S w pc ls st x o) (k : ∀ b, v = some b → Go M d S w pc ls st x (f b)) : Go M d S w pc ls st x (rfN v o f) := by
  intro a ha
  cases v with
  | none => exact k0 rfl a ha
  | some b => exact k b rfl a ha
theorem go_itr {α : Type} {F : (α → Option ρ) → α → Option ρ} {L : α → List (Option Value)} {X : α → DY} (h : ∀ back, (∀ a, Go M d S w pc (L a) [] (X a) (back a)) → ∀ a, Go M d S w pc (L a) [] (X a) (F back a)) : ∀ n a, Go M d S w pc (L a) [] (X a) (itr F n a)
  | 0, a => fun r hr => by cases hr
  | n + 1, a => h (itr F n) (go_itr h n) a
theorem go_drop (hs : subL ls' ls) (k : Go M d S w pc ls' st x o) : Go M d S w pc ls st x o := fun a ha => MW.drop (subL_get hs) (k a ha)
theorem go_iret {v : Int32} {r : ρ} (hr : M.2.2.2 = some .int) (hw : w r = (some (.int v), x)) (hd : decode M.2.1 pc = .ok (.ireturn, 1)) : Go M d S w pc ls [.int v] x (some r) := by
  intro a ha
  cases ha
  exact r_iret hr (by rw [hw]; exact ⟨rfl, rfl, rfl⟩) hd
theorem go_zret {v : Int32} {r : ρ} {t : FieldType} (hr : M.2.2.2 = some t) (hn : narrow t (.int v) = .int v) (hw : w r = (some (.int v), x)) (hd : decode M.2.1 pc = .ok (.ireturn, 1)) : Go M d S w pc ls [.int v] x (some r) := by
  intro a ha
  cases ha
  exact r_zret hr hn (by rw [hw]; exact ⟨rfl, rfl, rfl⟩) hd
theorem go_lret {v : Int64} {r : ρ} (hr : M.2.2.2 = some .long) (hw : w r = (some (.long v), x)) (hd : decode M.2.1 pc = .ok (.lreturn, 1)) : Go M d S w pc ls [.long v] x (some r) := by
  intro a ha
  cases ha
  exact r_lret hr (by rw [hw]; exact ⟨rfl, rfl, rfl⟩) hd
theorem go_vret {r : ρ} (hr : M.2.2.2 = none) (hw : w r = (none, x)) (hd : decode M.2.1 pc = .ok (.return_, 1)) : Go M d S w pc ls [] x (some r) := by
  intro a ha
  cases ha
  exact r_vret hr (by rw [hw]; exact ⟨rfl, rfl, rfl⟩) hd
variable {ρ' : Type} {M' : MI} {w' : ρ' → Option Value × DY} {fc : Option ρ'} {f : ρ' → Option ρ} {i : Nat} {As st0 : List Value}
theorem go_V {c b : Nat} (hl : LV M.1.cls i c M') (hb : LB M' As.length) (hA : CT M' (d - 1) S (.ref b :: As) x w' fc) (hd1 : 1 ≤ d) (hT : TY S b c) (hs : (st.map fun v => v.category).sum ≤ 8) (h0 : st0 = As.reverse ++ .ref b :: st) (hdg : decode M.2.1 pc = .ok (.invokevirtual i, 3)) (k : ∀ r, Go M d S w (pc + 3) ls ((w' r).1.toList ++ st) (w' r).2 (f r)) : Go M d S w pc ls st0 x (Option.bind fc f) := by
  intro a ha
  cases hr : fc with
  | none => rw [hr] at ha; cases ha
  | some r =>
    rw [hr] at ha
    refine r_V hl hb (hA r hr) (by omega) hT hs h0 hdg (mc := 0) (ms := 0) (k := 0) (n := 0) (Or.inr fun r' S' x' q => congrArg Prod.fst q.2.1) (fun r' S' x' q _ => ?_)
    obtain ⟨rfl, rfl, rfl⟩ := q
    exact k r a ha
theorem go_S (hl : LSt M.1.cls i M') (hb : LB M' As.length) (hA : CT M' (d - 1) S As x w' fc) (hd1 : 1 ≤ d) (hs : (st.map fun v => v.category).sum ≤ 8) (h0 : st0 = As.reverse ++ st) (hdg : decode M.2.1 pc = .ok (.invokestatic i, 3)) (k : ∀ r, Go M d S w (pc + 3) ls ((w' r).1.toList ++ st) (w' r).2 (f r)) : Go M d S w pc ls st0 x (Option.bind fc f) := by
  intro a ha
  cases hr : fc with
  | none => rw [hr] at ha; cases ha
  | some r =>
    rw [hr] at ha
    refine r_S hl hb (hA r hr) (by omega) hs h0 hdg (mc := 0) (ms := 0) (k := 0) (n := 0) (Or.inr fun r' S' x' q => congrArg Prod.fst q.2.1) (fun r' S' x' q _ => ?_)
    obtain ⟨rfl, rfl, rfl⟩ := q
    exact k r a ha
theorem go_SN (hl : LSN M.1.cls i M') (hb : LB M' As.length) (hA : CT M' (d - 1) S As x w' fc) (hd1 : 1 ≤ d) (hs : (st.map fun v => v.category).sum ≤ 8) (h0 : st0 = As.reverse ++ st) (hdg : decode M.2.1 pc = .ok (.invokestatic i, 3)) (k : ∀ r, Go M d S w (pc + 3) ls ((w' r).1.toList ++ st) (w' r).2 (f r)) : Go M d S w pc ls st0 x (Option.bind fc f) := by
  intro a ha
  cases hr : fc with
  | none => rw [hr] at ha; cases ha
  | some r =>
    rw [hr] at ha
    refine r_SN hl hb (hA r hr) (by omega) hs h0 hdg (mc := 0) (ms := 0) (k := 0) (n := 0) (Or.inr fun r' S' x' q => congrArg Prod.fst q.2.1) (fun r' S' x' q _ => ?_)
    obtain ⟨rfl, rfl, rfl⟩ := q
    exact k r a ha
end GO
