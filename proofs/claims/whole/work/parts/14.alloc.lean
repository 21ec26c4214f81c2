/-! ROWS: cells that are made -/
abbrev SN (S : SH) (c len : Nat) : SH := (S.1 + 1, fun b => if b = S.1 then c else S.2.1 b, fun b => if b = S.1 then len else S.2.2.1 b, fun b => if b = S.1 then (fun _ => none) else S.2.2.2 b)
abbrev XN (x : DY) (a : Nat) : DY := (fun b => if b = a then (fun _ => 0) else x.1 b, fun b => if b = a then (fun _ => 0) else x.2 b)
def dfl (c : Nat) : List Value := (List.range (cN c)).map (fun k => match cTy c k with | .int => .int 0 | .long => .long 0 | _ => .null)
def dE (ty : Nat → ClassId) (c len : Nat) : va_E := if c < 13 then .inr (c, dfl c) else if c < 16 then .inl (ty c, len, .inl (fun _ => 0)) else .inl (ty c, len, .inr (.inr (.inr (.inr (fun _ => none)))))
section ALLOC
variable {M : MI} {d mcT msT : Nat} {Q : QT} {pc pc' : Nat} {ls : List (Option Value)} {st st0 : List Value} {S : SH} {x : DY} {k n : Nat}
theorem cellE_new {ty : Nat → ClassId} {σ : Nat → Nat} {c len : Nat} : cellE ty σ (SN S c len) (XN x S.1) S.1 = dE ty c len := by
  unfold cellE dE oV dfl
  simp only [if_pos]
  by_cases h : c < 13
  · rw [if_pos h, if_pos h]
    refine congrArg Sum.inr (congrArg (Prod.mk c) (List.map_congr_left fun j _ => ?_))
    unfold fVal
    simp only [if_pos]
    cases cTy c j <;> rfl
  · rw [if_neg h, if_neg h]
    by_cases h2 : c < 16
    · rw [if_pos h2, if_pos h2]
    · rw [if_neg h2, if_neg h2]; rfl
theorem cellE_old {ty : Nat → ClassId} {σ σ' : Nat → Nat} {c len b : Nat} (hR : RI S) (hσ : ∀ k, k < S.1 → σ' k = σ k) (hb : b < S.1) : cellE ty σ' (SN S c len) (XN x S.1) b = cellE ty σ S x b := by
  have hne : ¬ b = S.1 := by omega
  have hm : ∀ i, (S.2.2.2 b i).map σ' = (S.2.2.2 b i).map σ := fun i => by
    cases h : S.2.2.2 b i with
    | none => rfl
    | some a => exact congrArg some (hσ a (hR b i a h))
  unfold cellE oV fVal
  simp only [if_neg hne, hm]
theorem wsE_new {ty : Nat → ClassId} {σ σ' : Nat → Nat} {c len q : Nat} (h20 : 40 ≤ S.1) (hR : RI S) (hσ : ∀ k, k < S.1 → σ' k = σ k) (hq : σ' S.1 = q) : wsE ty σ' (SN S c len) (XN x S.1) = wsE ty σ S x ++ [(q, dE ty c len)] := by
  apply List.ext_getElem?
  intro j
  have hl : (wsE ty σ S x).length = S.1 - 40 := wsE_len
  by_cases h1 : j < S.1 - 40
  · rw [wsE_get (by show j < S.1 + 1 - 40; omega), List.getElem?_append_left (by omega), wsE_get h1, hσ (j + 40) (by omega), cellE_old hR hσ (by omega)]
  · by_cases h2 : j = S.1 - 40
    · subst h2
      rw [wsE_get (by show S.1 - 40 < S.1 + 1 - 40; omega), List.getElem?_append_right (by omega), hl, Nat.sub_self, Nat.sub_add_cancel h20, hq, cellE_new]; rfl
    · rw [List.getElem?_eq_none (by rw [wsE_len]; show S.1 + 1 - 40 ≤ j; omega), List.getElem?_eq_none (by rw [List.length_append, hl]; show S.1 - 40 + 1 ≤ j; omega)]
theorem c_dflt : ∀ c, c < 13 → ∀ j, j < cN c → defaultValue (cTy c j) = (match cTy c j with | .int => .int 0 | .long => .long 0 | _ => .null : Value) := c13 (by decide +kernel) (by decide +kernel) (by decide +kernel) (by decide +kernel) (by decide +kernel) (by decide +kernel) (by decide +kernel) (by decide +kernel) (by decide +kernel) (by decide +kernel) (by decide +kernel) (by decide +kernel) (by decide +kernel)
theorem EX.new {c len : Nat} (h : EX S x) (h20 : 40 ≤ S.1) : EX (SN S c len) (XN x S.1) := fun i hi => by
  have hne : ¬ i = S.1 := by omega
  refine ⟨?_, fun j hj => ?_⟩
  · show (if i = S.1 then len else S.2.2.1 i) = _
    rw [if_neg hne]; exact (h i hi).1
  · show (if i = S.1 then (fun _ => (0 : Int32)) else x.1 i) j = _
    rw [if_neg hne]; exact (h i hi).2 j hj
theorem RI.new {c len : Nat} (h : RI S) : RI (SN S c len) := fun a k b hb => by
  show b < S.1 + 1
  have hb : (if a = S.1 then (fun _ => none) else S.2.2.2 a) k = some b := hb
  by_cases e : a = S.1
  · rw [if_pos e] at hb; cases hb
  · rw [if_neg e] at hb
    have := h a k b hb
    omega
/-- every reference that the frame holds leads into the graph -/
def frK (S : SH) (ls : List (Option Value)) (st : List Value) : Prop := (∀ v ∈ st, inS S v) ∧ ∀ v, some v ∈ ls → inS S v
theorem MW.alloc {c len N : Nat} (hin : frK S ls st)
    (h : ∀ {p : Program} {l : Launch} {e : Env} {R : Room} {s : State} {m : MethodId} {args : Array Value} {below : List Frame} {meth : Method} {cd : Code} {D : va_G} {ty : Nat → ClassId} {σ0 σ : Nat → Nat} {S0 : SH} {H : Heap} {locs : List Loc} {cells slots : Nat} {LS : Array Slot} {Qs : State → Prop},
      CX M d mcT msT p R s m args meth cd D ty σ0 S0 → WP D ty σ S x H → va_D (AF σ0 S0 s.heap.size) (wsE ty σ S x) → va_S (AF σ0 S0 s.heap.size) s.heap H locs → cells + 1 ≤ mcT → slots + N ≤ msT → LS.size = M.2.2.1 →
      (∀ (q : Nat) (H1 : Heap), va_P D CL (wsE ty σ S x ++ [(q, dE ty c len)]) H1 → va_D (AF σ0 S0 s.heap.size) (wsE ty σ S x ++ [(q, dE ty c len)]) → va_S (AF σ0 S0 s.heap.size) s.heap H1 locs → W p l e R s m args below meth cd H1 locs (cells + 1) (slots + N) Qs (F0 m pc' LS (.ref q :: st.map (rv σ)))) →
      W p l e R s m args below meth cd H locs cells slots Qs (F0 m pc LS (st0.map (rv σ))))
    (kk : MW M d mcT msT Q pc' ls (.ref S.1 :: st) (SN S c len) (XN x S.1) k n) : MW M d mcT msT Q pc ls st0 S x (k + 1) (n + N) := by
  intro p l e R s m args below meth cd D ty σ0 S0 C σ H locs cells slots LS T
  obtain ⟨hW, hS, hG, hL, hr1, hr2⟩ := T
  refine h C hW (hW.DA hG) hS (by omega) (by omega) hL.1 (fun q H1 hP hD hS1 => ?_)
  have hσ : ∀ j, j < S.1 → (fun j => if j = S.1 then q else σ j) j = σ j := fun j hj => if_neg (by omega)
  have hσq : (fun j => if j = S.1 then q else σ j) S.1 = q := if_pos rfl
  generalize (fun j => if j = S.1 then q else σ j) = σ' at hσ hσq
  have hw := wsE_new (ty := ty) (x := x) (c := c) (len := len) hW.2.2.2.1 hW.2.2.2.2 hσ hσq
  rw [← hw] at hP hD
  have hst : st.map (rv σ') = st.map (rv σ) := List.map_congr_left fun v hv => rv_in hσ (hin.1 v hv)
  have hz : s.heap.size ≤ q := by
    have h20 := C.2.2.2.2.2.2.2.2.2.2.2
    have hA : AF σ0 S0 s.heap.size q := by
      have h1 := hD.2 (S.1 - 40) (q, cellE ty σ' (SN S c len) (XN x S.1) S.1) (by rw [wsE_at hW.2.2.2.1 (by show S.1 < S.1 + 1; omega), hσq])
      exact h1
    rcases hA with ⟨j, j0, j1, j2⟩ | hz
    · exfalso
      have e1 : σ j = q := by rw [hG.2.1 j j1]; exact j2.symm
      have hjS : j < S.1 := Nat.lt_of_lt_of_le j1 hG.1
      have := hD.1 (j - 40) (S.1 - 40) _ _ (wsE_at j0 (by show j < S.1 + 1; omega)) (wsE_at hW.2.2.2.1 (by show S.1 < S.1 + 1; omega)) (by show σ' j = σ' S.1; rw [hσq, hσ j hjS, e1])
      have := hW.2.2.2.1
      omega
    · exact hz
  have hT' : ST M mcT msT D ty σ0 S0 s H1 locs (cells + 1) (slots + N) LS σ' ls (SN S c len) (XN x S.1) k n := by
    refine ⟨⟨hP, hD.weaken (fun _ _ _ _ => trivial), hW.2.2.1.new hW.2.2.2.1, by show 40 ≤ S.1 + 1; have := hW.2.2.2.1; omega, hW.2.2.2.2.new⟩, hS1, ⟨by show S0.1 ≤ S.1 + 1; have := hG.1; omega, fun j hj => ?_, fun j h1 h2 => ?_, fun h => ?_⟩, ⟨hL.1, hL.2.1, fun j v hj => ?_⟩, by omega, by omega⟩
    · rw [hσ j (Nat.lt_of_lt_of_le hj hG.1)]; exact hG.2.1 j hj
    · by_cases e : j = S.1
      · rw [e, hσq]; exact hz
      · have hj : j < S.1 := by have h2 : j < S.1 + 1 := h2; omega
        rw [hσ j hj]; exact hG.2.2.1 j h1 hj
    · have h : S.1 + 1 = S0.1 := h
      have := hG.1
      omega
    · rw [rv_in hσ (hin.2 v (List.mem_of_getElem? hj))]; exact hL.2.2 j v hj
  have hk := MW.use kk (l := l) (e := e) (below := below) C hT'
  rw [List.map_cons, hst, show rv σ' (.ref S.1) = .ref q from congrArg Value.ref hσq] at hk
  exact hk

theorem K_uniq {D : va_G} {ty : Nat → ClassId} {s : State} {t0 : Nat} {t : FieldType} {cA cB : ClassId} (hK : va_K D CL (tysOf ty) s) (h0 : (tysOf ty)[t0]? = some (cB, t)) (hK2 : va_K D CL (tysOf ty ++ [(cA, t)]) s) : cA = cB := by
  have h1 := (hK.2 t0 _ h0).2
  have h2 := (hK2.2 6 (cA, t) rfl).2
  cases t with
  | object C =>
    obtain ⟨_, _, _, _, _, a4⟩ := h1
    obtain ⟨_, _, _, _, _, b4⟩ := h2
    exact Option.some.inj (b4.symm.trans a4)
  | _ =>
    have h1 : s.vm.findClass _ = some cB := h1
    have h2 : s.vm.findClass _ = some cA := h2
    exact Option.some.inj (h2.symm.trans h1)
theorem r_new {c i : Nat} (hc : c < 13) (hw1 : Cond.classLink M.1.cls i (cR c) ∈ tb) (hw2 : Cond.instantiable (cR c) (cN c) ∈ tb) (hw3 : Cond.initialized (cR c) ∈ tb) (hin : frK S ls st) (hd : decode M.2.1 pc = .ok (.new i, 3)) (kk : MW M d mcT msT Q (pc + 3) ls (.ref S.1 :: st) (SN S c 0) (XN x S.1) k n) : MW M d mcT msT Q pc ls st S x (k + 1) (n + cN c) := by
  refine MW.alloc (c := c) (len := 0) hin (fun C hW hD hS hc1 hs1 _ hk => ?_) kk
  have hts := C.2.2.2.2.2.2.2.1
  have hR := C.2.2.2.2.2.2.2.2.1
  refine va_new (ci := c) (fs := dfl c) C.1 C.2.1 hts (cW_all c hc) (cTy c) (cOk c hc) C.2.2.2.2.2.2.1 (hts _ hw1) (hts _ hw2) (hts _ hw3) C.2.2.2.2.2.2.2.2.2.1.1 hW.1 hD hS (fun q hq => Or.inr hq) (CL_at c hc) (fun j hj => ?_) (by rw [hR]; exact hc1) (by rw [hR]; exact hs1) hd (fun q H1 hP hD hS => hk q H1 ?_ ?_ hS)
  · unfold vp_V dfl
    rw [List.getD_eq_getElem?_getD, List.getElem?_map, List.getElem?_range hj]
    show _ = (match cTy c j with | .int => .int 0 | .long => .long 0 | _ => .null : Value)
    exact c_dflt c hc j hj
  · unfold dE; rw [if_pos hc]; exact hP
  · unfold dE; rw [if_pos hc]; exact hD
theorem r_newarr14 {m : Int32} {B : Nat} (h0 : ¬ m < 0) (hB : m.toNatClampNeg ≤ B) (hB2 : B ≤ 100000) (hin : frK S ls st) (hd : decode M.2.1 pc = .ok (.newarray .int, 2)) (kk : MW M d mcT msT Q (pc + 2) ls (.ref S.1 :: st) (SN S 14 m.toNatClampNeg) (XN x S.1) k n) : MW M d mcT msT Q pc ls (.int m :: st) S x (k + 1) (n + B) := by
  refine MW.alloc (c := 14) (len := m.toNatClampNeg) hin (fun C hW hD hS hc1 hs1 _ hk => ?_) kk
  have hts := C.2.2.2.2.2.2.2.1
  have hR := C.2.2.2.2.2.2.2.2.1
  refine va_newa (ty := .int) (a0 := (m.toNatClampNeg, .inl (fun _ => 0))) C.1 C.2.1 (hts _ (tbI 141 (by decide +kernel) rfl)) rfl C.2.2.2.2.2.2.2.2.2.1.1 hW.1 hD hS (fun q hq => Or.inr hq) (fun cA => by first | rfl | (rw [vp_cell_i]; rfl)) h0 rfl ?_ (by rw [hR]; exact hc1) (by rw [hR]; show _ ≤ msT; omega) hd (fun q cA H1 hK hP hD hS => W.widen (Nat.le_refl _) (Nat.add_le_add_left hB _) (hk q H1 ?_ ?_ hS))
  · have : componentBytes (.int) ≤ 8 := by decide
    calc m.toNatClampNeg * componentBytes (.int) ≤ 100000 * 8 := Nat.mul_le_mul (by omega) this
      _ ≤ 536870912 := by decide
  all_goals
    have e := K_uniq (t0 := 1) C.2.2.2.2.2.2.2.2.2.1.1 rfl hK
    subst e
    unfold dE
    rw [if_neg (by decide), if_pos (by decide)]
    assumption
theorem r_newarr13 {m : Int32} {B : Nat} (h0 : ¬ m < 0) (hB : m.toNatClampNeg ≤ B) (hB2 : B ≤ 100000) (hin : frK S ls st) (hd : decode M.2.1 pc = .ok (.newarray .byte, 2)) (kk : MW M d mcT msT Q (pc + 2) ls (.ref S.1 :: st) (SN S 13 m.toNatClampNeg) (XN x S.1) k n) : MW M d mcT msT Q pc ls (.int m :: st) S x (k + 1) (n + B) := by
  refine MW.alloc (c := 13) (len := m.toNatClampNeg) hin (fun C hW hD hS hc1 hs1 _ hk => ?_) kk
  have hts := C.2.2.2.2.2.2.2.1
  have hR := C.2.2.2.2.2.2.2.2.1
  refine va_newa (ty := .byte) (a0 := (m.toNatClampNeg, .inl (fun _ => 0))) C.1 C.2.1 (hts _ (tbI 848 (by decide +kernel) rfl)) rfl C.2.2.2.2.2.2.2.2.2.1.1 hW.1 hD hS (fun q hq => Or.inr hq) (fun cA => by first | rfl | (rw [vp_cell_i]; rfl)) h0 rfl ?_ (by rw [hR]; exact hc1) (by rw [hR]; show _ ≤ msT; omega) hd (fun q cA H1 hK hP hD hS => W.widen (Nat.le_refl _) (Nat.add_le_add_left hB _) (hk q H1 ?_ ?_ hS))
  · have : componentBytes (.byte) ≤ 8 := by decide
    calc m.toNatClampNeg * componentBytes (.byte) ≤ 100000 * 8 := Nat.mul_le_mul (by omega) this
      _ ≤ 536870912 := by decide
  all_goals
    have e := K_uniq (t0 := 0) C.2.2.2.2.2.2.2.2.2.1.1 rfl hK
    subst e
    unfold dE
    rw [if_neg (by decide), if_pos (by decide)]
    assumption
theorem r_newarr15 {m : Int32} {B : Nat} (h0 : ¬ m < 0) (hB : m.toNatClampNeg ≤ B) (hB2 : B ≤ 100000) (hin : frK S ls st) (hd : decode M.2.1 pc = .ok (.newarray .boolean, 2)) (kk : MW M d mcT msT Q (pc + 2) ls (.ref S.1 :: st) (SN S 15 m.toNatClampNeg) (XN x S.1) k n) : MW M d mcT msT Q pc ls (.int m :: st) S x (k + 1) (n + B) := by
  refine MW.alloc (c := 15) (len := m.toNatClampNeg) hin (fun C hW hD hS hc1 hs1 _ hk => ?_) kk
  have hts := C.2.2.2.2.2.2.2.1
  have hR := C.2.2.2.2.2.2.2.2.1
  refine va_newa (ty := .boolean) (a0 := (m.toNatClampNeg, .inl (fun _ => 0))) C.1 C.2.1 (hts _ (tbI 1347 (by decide +kernel) rfl)) rfl C.2.2.2.2.2.2.2.2.2.1.1 hW.1 hD hS (fun q hq => Or.inr hq) (fun cA => by first | rfl | (rw [vp_cell_i]; rfl)) h0 rfl ?_ (by rw [hR]; exact hc1) (by rw [hR]; show _ ≤ msT; omega) hd (fun q cA H1 hK hP hD hS => W.widen (Nat.le_refl _) (Nat.add_le_add_left hB _) (hk q H1 ?_ ?_ hS))
  · have : componentBytes (.boolean) ≤ 8 := by decide
    calc m.toNatClampNeg * componentBytes (.boolean) ≤ 100000 * 8 := Nat.mul_le_mul (by omega) this
      _ ≤ 536870912 := by decide
  all_goals
    have e := K_uniq (t0 := 2) C.2.2.2.2.2.2.2.2.2.1.1 rfl hK
    subst e
    unfold dE
    rw [if_neg (by decide), if_pos (by decide)]
    assumption
theorem r_newq16 {i : Nat} {m : Int32} {B : Nat} (hw : Cond.classLink M.1.cls i "PlateRound$Round" ∈ tb) (h0 : ¬ m < 0) (hB : m.toNatClampNeg ≤ B) (hB2 : B ≤ 100000) (hin : frK S ls st) (hd : decode M.2.1 pc = .ok (.anewarray i, 3)) (kk : MW M d mcT msT Q (pc + 3) ls (.ref S.1 :: st) (SN S 16 m.toNatClampNeg) (XN x S.1) k n) : MW M d mcT msT Q pc ls (.int m :: st) S x (k + 1) (n + B) := by
  refine MW.alloc (c := 16) (len := m.toNatClampNeg) hin (fun C hW hD hS hc1 hs1 _ hk => ?_) kk
  have hts := C.2.2.2.2.2.2.2.1
  have hR := C.2.2.2.2.2.2.2.2.1
  refine va_newq C.1 C.2.1 C.2.2.2.2.2.2.1 (hts _ hw) C.2.2.2.2.2.2.2.2.2.1.2.2.1 C.2.2.2.2.2.2.2.2.2.1.1 hW.1 hD hS (fun q hq => Or.inr hq) h0 rfl (by omega) (by rw [hR]; exact hc1) (by rw [hR]; show _ ≤ msT; omega) hd (fun q cA H1 hK hP hD hS => W.widen (Nat.le_refl _) (Nat.add_le_add_left hB _) (hk q H1 ?_ ?_ hS))
  all_goals
    have e := K_uniq (t0 := 3) C.2.2.2.2.2.2.2.2.2.1.1 rfl hK
    subst e
    unfold dE
    rw [if_neg (by decide), if_neg (by decide)]
    assumption
theorem r_newq17 {i : Nat} {m : Int32} {B : Nat} (hw : Cond.classLink M.1.cls i "PlateRound$Text" ∈ tb) (h0 : ¬ m < 0) (hB : m.toNatClampNeg ≤ B) (hB2 : B ≤ 100000) (hin : frK S ls st) (hd : decode M.2.1 pc = .ok (.anewarray i, 3)) (kk : MW M d mcT msT Q (pc + 3) ls (.ref S.1 :: st) (SN S 17 m.toNatClampNeg) (XN x S.1) k n) : MW M d mcT msT Q pc ls (.int m :: st) S x (k + 1) (n + B) := by
  refine MW.alloc (c := 17) (len := m.toNatClampNeg) hin (fun C hW hD hS hc1 hs1 _ hk => ?_) kk
  have hts := C.2.2.2.2.2.2.2.1
  have hR := C.2.2.2.2.2.2.2.2.1
  refine va_newq C.1 C.2.1 C.2.2.2.2.2.2.1 (hts _ hw) C.2.2.2.2.2.2.2.2.2.1.2.2.2.1 C.2.2.2.2.2.2.2.2.2.1.1 hW.1 hD hS (fun q hq => Or.inr hq) h0 rfl (by omega) (by rw [hR]; exact hc1) (by rw [hR]; show _ ≤ msT; omega) hd (fun q cA H1 hK hP hD hS => W.widen (Nat.le_refl _) (Nat.add_le_add_left hB _) (hk q H1 ?_ ?_ hS))
  all_goals
    have e := K_uniq (t0 := 4) C.2.2.2.2.2.2.2.2.2.1.1 rfl hK
    subst e
    unfold dE
    rw [if_neg (by decide), if_neg (by decide)]
    assumption
theorem r_objInit {i a : Nat} (hw : Cond.methodLink M.1.cls i objectInit ∈ tb) (hd1 : 1 ≤ d) (hs : (st.map fun v => v.category).sum ≤ 8) (hd : decode M.2.1 pc = .ok (.invokespecial i, 3)) (kk : MW M d mcT msT Q (pc + 3) ls st S x k n) : MW M d mcT msT Q pc ls (.ref a :: st) S x k n := by
  intro p l e R s m args below meth c' D ty σ0 S0 C σ H locs cells slots LS T
  have hts := C.2.2.2.2.2.2.2.1
  have hR := C.2.2.2.2.2.2.2.2.1
  refine W.objInit (rest := st.map (rv σ)) C.1 C.2.1 C.2.2.2.2.2.2.1 (hts _ hw) (hts _ (tbI 111 (by decide +kernel) rfl)) (hts _ (tbI 112 (by decide +kernel) rfl)) rfl (T.2.2.2.1.1.trans C.2.2.1.symm) rfl hd (by rw [hR]; exact hd1) ?_ (kk C T)
  have := st_cat (pc := pc) (σ := σ) (m := m) (LS := LS) (st0 := (Value.ref a :: st).map (rv σ)) hs
  rw [hR]
  show _ ≤ 64 * d
  omega
end ALLOC
