/-! LAYER 3: texts: the class's descent goes as the reference's stack does -/
def cl (l : Nat) (σ : List Nat) : Prop := ∀ c, σ.head? = some c → rk c < l
theorem cl.mono {l l' : Nat} {σ : List Nat} (h : cl l σ) (hl : l ≤ l') : cl l' σ := fun c hc => by have := h c hc; omega
theorem cl.stl {l : Nat} {σ : List Nat} (h : cl l σ) : stl l σ = σ := by
  cases σ with
  | nil => rfl
  | cons c σ => exact if_neg (by have := h c rfl; omega)
theorem cl.pps {l : Nat} {σ : List Nat} (h : cl l σ) : pps l σ = [] := by
  cases σ with
  | nil => rfl
  | cons c σ => exact if_neg (by have := h c rfl; omega)
theorem cl_c {l c : Nat} {σ : List Nat} (h : rk c < l) : cl l (c :: σ) := fun c' hc => by cases hc; exact h
theorem hdR_le (ts : List ZT) : hdR ts ≤ 6 ∧ hdR ts ≠ 3 := by
  cases ts with
  | nil => exact ⟨Nat.zero_le _, by decide⟩
  | cons t ts => exact ⟨(sg_rk t).1, (sg_rk t).2.1⟩
def zRs (T : List ZT) (st : Nat → Nat) (Z : Nat) (x : DY) (i : Nat) (W : List Nat) (o : Option (Int32 × DY)) (Suc : Nat → List Nat → Prop) (Fl : Nat → Prop) : Prop :=
  ∃ r x' i' P, o = some (r, x') ∧ zFq x x' ∧ zQs T st Z x' i' (W ++ P) ∧ i ≤ i' ∧ P.length + i ≤ i' ∧ ((r = nI 1 ∧ i < i' ∧ zGd P ∧ Suc i' P) ∨ (r = nI 0 ∧ x'.1 49 10 = nI (fsT T st Z i') ∧ Fl i'))
def Cb (T : List ZT) (d i : Nat) (b : Bool) (σ : List Nat) : Prop := opn σ = d ∧ (b = false ∨ T[i]? ≠ some (3, 4))
def P7 (T : List ZT) (d i i' : Nat) (P : List Nat) : Prop := ∀ b σ c cs o, Cb T d i b σ → zMac (T.drop i) true b σ (c :: cs) o = zMac (T.drop i') false false (stl 7 σ) (c :: cs) (o ++ P ++ pps 7 σ)
def F7 (T : List ZT) (d i i' : Nat) : Prop := ∀ b σ c cs o, Cb T d i b σ → zMac (T.drop i) true b σ (c :: cs) o = .error (T.drop i')
/-- a level: nothing of its rank or above stands on the stack -/
def PLv (l : Nat) (T : List ZT) (d i i' : Nat) (P : List Nat) : Prop := ∀ b σ c cs o, Cb T d i b σ → cl l σ → zMac (T.drop i) true b σ (c :: cs) o = zMac (T.drop i') false false σ (c :: cs) (o ++ P)
def FLv (l : Nat) (T : List ZT) (d i i' : Nat) : Prop := ∀ b σ c cs o, Cb T d i b σ → cl l σ → zMac (T.drop i) true b σ (c :: cs) o = .error (T.drop i')
def P4 (T : List ZT) (d i i' : Nat) (P : List Nat) : Prop := ∃ c', (∀ b σ cs o, Cb T d i b σ → cl 4 σ → zMac (T.drop i) true b σ (false :: cs) o = zMac (T.drop i') false false σ (c' :: cs) (o ++ P)) ∧ zStop 3 (T.drop i') c'
def F4 (T : List ZT) (d i i' : Nat) : Prop := ∀ b σ cs o, Cb T d i b σ → cl 4 σ → zMac (T.drop i) true b σ (false :: cs) o = .error (T.drop i')
def P3 (T : List ZT) (d i i' : Nat) (P : List Nat) : Prop := ∃ c', (∀ σ cs o, opn σ = d → cl 4 σ → zMac (T.drop i) true true σ (false :: cs) o = zMac (T.drop i') false false (stl 3 σ) (c' :: cs) (o ++ P ++ pps 3 σ)) ∧ zStop 2 (T.drop i') c'
/-- both, either -/
def PBv (l : Nat) (T : List ZT) (d i i' : Nat) (P : List Nat) : Prop := ∃ c', (∀ σ cs o, opn σ = d → cl (l + 1) σ → zMac (T.drop i) true true σ (false :: cs) o = zMac (T.drop i') false false σ (c' :: cs) (o ++ P)) ∧ zStop l (T.drop i') c'
def FBv (l : Nat) (T : List ZT) (d i i' : Nat) : Prop := ∀ σ cs o, opn σ = d → cl l σ → zMac (T.drop i) true true σ (false :: cs) o = .error (T.drop i')
def RdO (N : Nat) (T : List ZT) (st : Nat → Nat) (Z d : Nat) (f : Nat → Int32 → DY → Option (Int32 × DY)) : Prop := ∀ i W x, zQs T st Z x i W → zRs T st Z x i W (f 49 (nI d) x) (P7 T d i) (F7 T d i)
def RdN (N : Nat) (T : List ZT) (st : Nat → Nat) (Z d : Nat) (f : Nat → Int32 → DY → Option (Int32 × DY)) : Prop := ∀ i W x, zQs T st Z x i W → zRs T st Z x i W (f 49 (nI d) x) (P3 T d i) (FBv 4 T d i)
def RdE (N : Nat) (T : List ZT) (st : Nat → Nat) (Z d : Nat) (f : Nat → Int32 → DY → Option (Int32 × DY)) : Prop := ∀ i W x, zQs T st Z x i W → zRs T st Z x i W (f 49 (nI d) x) (PBv 0 T d i) (FBv 1 T d i)
section MAC
variable {T : List ZT} {i : Nat} {t : ZT}
theorem drop_t (h : T[i]? = some t) : T.drop i = t :: T.drop (i + 1) := by
  have hi : i < T.length := by
    rcases Nat.lt_or_ge i T.length with e | e
    · exact e
    · rw [List.getElem?_eq_none e] at h; cases h
  rw [List.drop_eq_getElem_cons hi]
  rw [List.getElem?_eq_getElem hi] at h
  rw [Option.some.inj h]
theorem drop_n (h : T[i]? = none) : T.drop i = [] := List.drop_eq_nil_of_le (List.getElem?_eq_none_iff.mp h)
theorem mac_val {v : Nat} (h : T[i]? = some t) (hv : zVal t = some v) {b : Bool} {σ : List Nat} {cs : List Bool} {o : List Nat} : zMac (T.drop i) true b σ cs o = zMac (T.drop (i + 1)) false false (stl 7 σ) cs (o ++ [v] ++ pps 7 σ) := by
  rw [drop_t h, zMac, hv]
theorem mac_op {q : Nat} (h : T[i]? = some t) (hq : sgOf t = q) (h0 : q ≠ 0) (h1 : t ≠ (4, 59)) (h2 : t ≠ (4, 41)) {b c : Bool} {σ : List Nat} {cs : List Bool} {o : List Nat} (hc : rk q = 4 → c = false) (hs : cl (rk q) σ) : zMac (T.drop i) false b σ (c :: cs) o = zMac (T.drop (i + 1)) true (decide (rk q < 3)) (q :: σ) ((decide (rk q = 4) || (decide (2 < rk q) && c)) :: cs) o := by
  rw [drop_t h, zMac, if_neg h1, if_neg h2, hq, if_neg h0, if_neg (fun e => by rw [hc e.1] at e; cases e.2), hs.stl, hs.pps, List.append_nil]
  rfl
theorem mac_end (h : T[i]? = none) {w b : Bool} {σ : List Nat} {cs : List Bool} {o : List Nat} : zMac (T.drop i) w b σ cs o = .error (T.drop i) := by
  rw [drop_n h, zMac]
end MAC
theorem w_tneg {m : Nat} (h : m < 20) : (-nI m).toInt = -(m : Int) := (by decide : ∀ m, m < 20 → (-nI m).toInt = -(m : Int)) m h
section TK
variable {o : Option ZT}
theorem tk_all (P : Option ZT → Prop) (h : ∀ t, o = some t → zTkOk t) (p0 : P none) (p1 : ∀ v, P (some (1, v))) (p2 : ∀ k, P (some (2, k))) (p3 : ∀ k, k < 5 → P (some (3, k))) (p4 : ∀ c, (c = 40 ∨ c = 41 ∨ c = 42 ∨ c = 43 ∨ c = 45 ∨ c = 59 ∨ c = 60 ∨ c = 61) → P (some (4, c))) (p5 : ∀ v, P (some (5, v))) : P o := by
  cases o with
  | none => exact p0
  | some t =>
    obtain ⟨a, v⟩ := t
    rcases h _ rfl with ⟨e, h⟩ | ⟨e, h⟩ | ⟨e, h⟩ | ⟨e, h⟩ | e
    all_goals (have e' : a = _ := e; subst e')
    · exact p1 v
    · exact p2 v
    · exact p3 v h
    · exact p4 v h
    · exact p5 v
theorem tk_num (h : ∀ t, o = some t → zTkOk t) : (tkC o = -nI 3) = ∃ v, o = some (1, v) := by
  refine tk_all (fun o => (tkC o = -nI 3) = ∃ v, o = some (1, v)) h ?_ (fun v => ?_) (fun k => ?_) (fun k hk => ?_) (fun c hc => ?_) (fun v => ?_)
  · exact eq_false (by decide) |>.trans (eq_false (by simp)).symm
  · exact eq_true rfl |>.trans (eq_true ⟨v, rfl⟩).symm
  · exact eq_false (by show ¬ (-nI 4 = -nI 3); decide) |>.trans (eq_false (by simp)).symm
  · obtain rfl | rfl | rfl | rfl | rfl : k = 0 ∨ k = 1 ∨ k = 2 ∨ k = 3 ∨ k = 4 := by omega
    all_goals exact eq_false (by decide) |>.trans (eq_false (by simp)).symm
  · rcases hc with rfl | rfl | rfl | rfl | rfl | rfl | rfl | rfl
    all_goals exact eq_false (by decide) |>.trans (eq_false (by simp)).symm
  · exact eq_false (by show ¬ (-nI 2 = -nI 3); decide) |>.trans (eq_false (by simp)).symm
theorem tk_nam (h : ∀ t, o = some t → zTkOk t) : (tkC o = -nI 4) = ∃ v, o = some (2, v) := by
  refine tk_all (fun o => (tkC o = -nI 4) = ∃ v, o = some (2, v)) h ?_ (fun v => ?_) (fun k => ?_) (fun k hk => ?_) (fun c hc => ?_) (fun v => ?_)
  · exact eq_false (by decide) |>.trans (eq_false (by simp)).symm
  · exact eq_false (by show ¬ (-nI 3 = -nI 4); decide) |>.trans (eq_false (by simp)).symm
  · exact eq_true rfl |>.trans (eq_true ⟨k, rfl⟩).symm
  · obtain rfl | rfl | rfl | rfl | rfl : k = 0 ∨ k = 1 ∨ k = 2 ∨ k = 3 ∨ k = 4 := by omega
    all_goals exact eq_false (by decide) |>.trans (eq_false (by simp)).symm
  · rcases hc with rfl | rfl | rfl | rfl | rfl | rfl | rfl | rfl
    all_goals exact eq_false (by decide) |>.trans (eq_false (by simp)).symm
  · exact eq_false (by show ¬ (-nI 2 = -nI 4); decide) |>.trans (eq_false (by simp)).symm
theorem tk_end (h : ∀ t, o = some t → zTkOk t) : (tkC o = mO) = (o = none) := by
  refine tk_all (fun o => (tkC o = mO) = (o = none)) h ?_ (fun v => ?_) (fun k => ?_) (fun k hk => ?_) (fun c hc => ?_) (fun v => ?_)
  · exact eq_true rfl |>.trans (eq_true rfl).symm
  · exact eq_false (by show ¬ (-nI 3 = mO); decide) |>.trans (eq_false (by simp)).symm
  · exact eq_false (by show ¬ (-nI 4 = mO); decide) |>.trans (eq_false (by simp)).symm
  · obtain rfl | rfl | rfl | rfl | rfl : k = 0 ∨ k = 1 ∨ k = 2 ∨ k = 3 ∨ k = 4 := by omega
    all_goals exact eq_false (by decide) |>.trans (eq_false (by simp)).symm
  · rcases hc with rfl | rfl | rfl | rfl | rfl | rfl | rfl | rfl
    all_goals exact eq_false (by decide) |>.trans (eq_false (by simp)).symm
  · exact eq_false (by show ¬ (-nI 2 = mO); decide) |>.trans (eq_false (by simp)).symm
theorem tk_key (h : ∀ t, o = some t → zTkOk t) {q : Nat} (hq : q < 5) : (tkC o = -nI (5 + q)) = (o = some (3, q)) := by
  refine tk_all (fun o => (tkC o = -nI (5 + q)) = (o = some (3, q))) h ?_ (fun v => ?_) (fun k => ?_) (fun k hk => ?_) (fun c hc => ?_) (fun v => ?_)
  rotate_left 3
  · have e : (tkC (some (3, k)) = -nI (5 + q)) = (k = q) := by
      obtain rfl | rfl | rfl | rfl | rfl : q = 0 ∨ q = 1 ∨ q = 2 ∨ q = 3 ∨ q = 4 := by omega
      all_goals obtain rfl | rfl | rfl | rfl | rfl : k = 0 ∨ k = 1 ∨ k = 2 ∨ k = 3 ∨ k = 4 := by omega
      all_goals first
        | exact eq_true rfl |>.trans (eq_true rfl).symm
        | exact eq_false (by decide) |>.trans (eq_false (by decide)).symm
    rw [e]
    exact propext ⟨fun e => by rw [e], fun e => by cases e; rfl⟩
  · have e : (tkC (some (4, c)) = -nI (5 + q)) = False := by
      obtain rfl | rfl | rfl | rfl | rfl : q = 0 ∨ q = 1 ∨ q = 2 ∨ q = 3 ∨ q = 4 := by omega
      all_goals rcases hc with rfl | rfl | rfl | rfl | rfl | rfl | rfl | rfl
      all_goals exact eq_false (by decide)
    rw [e]
    exact (eq_false (by simp)).symm
  · show (-nI 2 = -nI (5 + q)) = _
    have e : (-nI 2 = -nI (5 + q)) = False := by
      obtain rfl | rfl | rfl | rfl | rfl : q = 0 ∨ q = 1 ∨ q = 2 ∨ q = 3 ∨ q = 4 := by omega
      all_goals exact eq_false (by decide)
    rw [e]
    exact (eq_false (by simp)).symm
  · show (mO = -nI (5 + q)) = _
    have e : (mO = -nI (5 + q)) = False := by
      obtain rfl | rfl | rfl | rfl | rfl : q = 0 ∨ q = 1 ∨ q = 2 ∨ q = 3 ∨ q = 4 := by omega
      all_goals exact eq_false (by decide)
    rw [e]
    exact (eq_false (by simp)).symm
  · show (-nI 3 = -nI (5 + q)) = _
    have e : (-nI 3 = -nI (5 + q)) = False := by
      obtain rfl | rfl | rfl | rfl | rfl : q = 0 ∨ q = 1 ∨ q = 2 ∨ q = 3 ∨ q = 4 := by omega
      all_goals exact eq_false (by decide)
    rw [e]
    exact (eq_false (by simp)).symm
  · show (-nI 4 = -nI (5 + q)) = _
    have e : (-nI 4 = -nI (5 + q)) = False := by
      obtain rfl | rfl | rfl | rfl | rfl : q = 0 ∨ q = 1 ∨ q = 2 ∨ q = 3 ∨ q = 4 := by omega
      all_goals exact eq_false (by decide)
    rw [e]
    exact (eq_false (by simp)).symm
theorem tk_sgn (h : ∀ t, o = some t → zTkOk t) {q : Nat} (hq : q = 40 ∨ q = 41 ∨ q = 42 ∨ q = 43 ∨ q = 45 ∨ q = 59 ∨ q = 60 ∨ q = 61) : (tkC o = nI q) = (o = some (4, q)) := by
  have hneg : ∀ m, 1 ≤ m → m < 20 → (-nI m = nI q) = False := fun m h1 h2 => eq_false (fun e => by
    have e' := congrArg Int32.toInt e
    rw [w_toInt (by omega), w_tneg h2] at e'
    omega)
  refine tk_all (fun o => (tkC o = nI q) = (o = some (4, q))) h ?_ (fun v => ?_) (fun k => ?_) (fun k hk => ?_) (fun c hc => ?_) (fun v => ?_)
  · show (mO = nI q) = _
    rw [show mO = -nI 1 from rfl, hneg 1 (by omega) (by omega)]; exact (eq_false (by simp)).symm
  · show (-nI 3 = nI q) = _
    rw [hneg 3 (by omega) (by omega)]; exact (eq_false (by simp)).symm
  · show (-nI 4 = nI q) = _
    rw [hneg 4 (by omega) (by omega)]; exact (eq_false (by simp)).symm
  · show (-nI (5 + k) = nI q) = _
    rw [hneg (5 + k) (by omega) (by omega)]; exact (eq_false (by simp)).symm
  · have e : (tkC (some (4, c)) = nI q) = (c = q) := propext (nI_eq (by omega) (by omega))
    rw [e]
    exact propext ⟨fun e => by rw [e], fun e => by cases e; rfl⟩
  · show (-nI 2 = nI q) = _
    rw [hneg 2 (by omega) (by omega)]; exact (eq_false (by simp)).symm
end TK
theorem mac_stop {T : List ZT} {i : Nat} {σ : List Nat} {c b : Bool} {cs : List Bool} {o : List Nat} (h41 : T[i]? ≠ some (4, 41)) (hb : ¬ brk σ = 0) (hs : zStop 0 (T.drop i) c) : zMac (T.drop i) false b σ (c :: cs) o = .error (T.drop i) := by
  cases e : T[i]? with
  | none => exact mac_end e
  | some t =>
    rw [e] at h41
    rw [drop_t e] at hs ⊢
    rw [zMac]
    by_cases h1 : t = (4, 59)
    · rw [if_pos h1, if_neg hb]
    rw [if_neg h1, if_neg (fun e => h41 (by rw [e]))]
    by_cases h3 : sgOf t = 0
    · rw [if_pos h3]
    rw [if_neg h3]
    rcases hs with hs | ⟨hs, rfl⟩
    · exfalso
      have hs' : rk (sgOf t) ≤ 0 := hs
      have := (sg_rk t).2.2 h3
      omega
    · rw [if_pos ⟨hs, rfl⟩]
