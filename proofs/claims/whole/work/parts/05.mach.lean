/-! THE MACHINE OVER AN ABSTRACT WORLD -/
def tb : List Cond := lw_tbl.filter goodWord
theorem tb_in {w : Cond} (h : w ∈ tb) : w ∈ lw_tbl := (List.mem_filter.mp h).1
theorem tb_mk {w : Cond} (h : w ∈ lw_tbl) (g : goodWord w = true) : w ∈ tb := List.mem_filter.mpr ⟨h, g⟩
theorem tb_good : ∀ w ∈ tb, (w.onTables && w.keeps) = true ∨ ∃ ty, w = .arrayClass ty := fun _ h => good_of_word (List.mem_filter.mp h).2
/-- the words that a call to a private member of a nest mate wants -/
def nestW : List (String × Nat × MethodName × String) := [
  ("PlateRound", 9, yX3_init, "PlateRound"), ("PlateRound", 25, yX5_init, "PlateRound"), ("PlateRound", 32, yX0_init, "PlateRound"), ("PlateRound", 39, yX9_init, "PlateRound"),
  ("PlateRound$Round", 11, yX4_init, "PlateRound"), ("PlateRound$Round", 20, yX8_init, "PlateRound"), ("PlateRound$Round", 93, yX11_isDish, "PlateRound"), ("PlateRound$Round", 87, yX11_find, "PlateRound"),
  ("PlateRound$Plates", 55, yX11_isColour, "PlateRound"), ("PlateRound$Round", 208, yX11_isColour, "PlateRound"), ("PlateRound$Foresight", 33, yX11_within, "PlateRound"), ("PlateRound$Fish", 40, yX11_within, "PlateRound"), ("PlateRound$Sheets", 21, yX11_within, "PlateRound")]
def tysOf (ty : Nat → ClassId) : List (ClassId × FieldType) := [(ty 13, .byte), (ty 14, .int), (ty 15, .boolean), (ty 16, .object "PlateRound$Round"), (ty 17, .object "PlateRound$Text"), (ty 18, .array .int)]
/-- the tables: what a method's walk asks of them, besides its words -/
def WE (D : va_G) (ty : Nat → ClassId) (U : State) : Prop :=
  va_K D CL (tysOf ty) U ∧ (∀ q ∈ nestW, va_Nw (.methodLinkNest q.1 q.2.1 q.2.2.1 q.2.2.2) U) ∧ va_AO "PlateRound$Round" U ∧ va_AO "PlateRound$Text" U ∧ (Cond.arrayOver (.array .int)).before #[] U = true ∧ va_Nw (.castable "[I" "java/lang/Cloneable") U
def exS : Nat → Nat × String := fun i => match i with
  | 0 => (139, "like") | 1 => (145, "age") | 2 => (147, "waited") | 3 => (149, "eaten") | 4 => (151, "price") | 5 => (153, "room") | 6 => (155, "take") | 7 => (157, "go") | 8 => (159, "or") | 9 => (161, "and") | _ => (163, "not")
def exLen : List Nat := [4, 3, 6, 5, 5, 4, 4, 2, 2, 3, 3]
def exByt : List (List Int32) := [exV 5, exV 6, exV 7, exV 8, exV 9, exV 10, exV 11, exV 12, exV 13, exV 14, exV 15]
/-- what stood before: the static arrays at σ 0 .. σ 4, the texts at σ 5 .. σ 15, their bytes at σ 16 .. σ 26, the JDK's formatter at σ 27 -/
def EXT (A : Nat → Prop) (σ : Nat → Nat) (U : State) (H : Heap) : Prop :=
  (∀ i, i < 5 → va_Z (exC i) (exF i) "[I" (.ref (σ i)) A U H ∧ va_T .int (σ i) (exV i).length (fun j => .int ((exV i).getD j 0)) A U H) ∧
  (∀ i, i < 11 → vk_R "PlateRound$Reader" (exS i).1 (exS i).2 (σ (5 + i)) U) ∧
  (∃ adK adV : Nat → Nat, vk_S 11 exLen exByt adK adV A U H ∧ ∀ i, i < 11 → adK i = σ (5 + i) ∧ adV i = σ (16 + i)) ∧
  va_Z "java/lang/String" "COMPACT_STRINGS" "Z" (.int 1) A U H ∧ (va_Z "jdk/internal/util/Preconditions" "SIOOBE_FORMATTER" "Ljava/util/function/BiFunction;" .null A U H ∨ va_Z "jdk/internal/util/Preconditions" "SIOOBE_FORMATTER" "Ljava/util/function/BiFunction;" (.ref (σ 27)) A U H)
/-- the cells that a method may change: the graph's, and new ones -/
def AF (σ : Nat → Nat) (S : SH) (sz : Nat) : Nat → Prop := fun q => (∃ k, 40 ≤ k ∧ k < S.1 ∧ q = σ k) ∨ sz ≤ q
/-- references lead to places of the graph -/
def RI (S : SH) : Prop := ∀ a k b, S.2.2.2 a k = some b → b < S.1
def WP (D : va_G) (ty : Nat → ClassId) (σ : Nat → Nat) (S : SH) (x : DY) (H : Heap) : Prop := va_P D CL (wsE ty σ S x) H ∧ va_D (fun _ => True) (wsE ty σ S x) ∧ EX S x ∧ 40 ≤ S.1 ∧ RI S
def Wat (D : va_G) (ty : Nat → ClassId) (σ : Nat → Nat) (S : SH) (x : DY) (U : State) : Prop := WE D ty U ∧ EXT (AF σ S U.heap.size) σ U U.heap ∧ WP D ty σ S x U.heap
/-- the graph grows: old places stay where they are, new ones are new -/
def Gr (σ0 σ : Nat → Nat) (n0 n sz : Nat) : Prop := n0 ≤ n ∧ (∀ k, k < n0 → σ k = σ0 k) ∧ (∀ k, n0 ≤ k → k < n → sz ≤ σ k) ∧ (n = n0 → σ = σ0)
abbrev QT : Type := Option Value → SH → DY → Prop
def MQc (D : va_G) (ty : Nat → ClassId) (σ0 : Nat → Nat) (S0 : SH) (Q : QT) : Array Value → State → Outcome → State → Prop := fun _ st o t =>
  (∃ (r : Option Value) (σ : Nat → Nat) (S : SH) (x : DY), o = .returned (r.map (rv σ)) ∧ Q r S x ∧ WP D ty σ S x t.heap ∧ Gr σ0 σ S0.1 S.1 st.heap.size) ∧ va_F (AF σ0 S0 st.heap.size) st t
def rmD (d mc ms : Nat) : Room := { frames := d, cells := mc, slots := ms, locals := 64 * d }
/-- A METHOD'S CONTRACT: called with av in the world S, x, with room for mc cells of ms slots and d frames, it returns, and Q holds of its answer and of the world then -/
def MA (M : MI) (d : Nat) (av : List Value) (S : SH) (x : DY) (mc ms : Nat) (Q : QT) : Prop :=
  ∀ (l : Launch) (D : va_G) (ty : Nat → ClassId) (σ : Nat → Nat) (sz : Nat), Met l M.1 (.code M.1 M.2.1 M.2.2.1 M.2.2.2 :: tb) (rmD d mc ms) (va_Pc (av.map (rv σ)) (fun U => U.heap.size = sz ∧ Wat D ty σ S x U)) (MQc D ty σ S Q) mc ms (AF σ S sz)
def CX (M : MI) (d mcT msT : Nat) (p : Program) (R : Room) (s : State) (m : MethodId) (args : Array Value) (meth : Method) (c : Code) (D : va_G) (ty : Nat → ClassId) (σ0 : Nat → Nat) (S0 : SH) : Prop :=
  p.tables.exec = Jvm.exec ∧ c.code = M.2.1 ∧ c.maxLocals = M.2.2.1 ∧ meth.sig.returnType = M.2.2.2 ∧ meth.locks = false ∧ meth.name = M.1.name ∧ s.vm.findClass M.1.cls = some m.cls ∧ (∀ w ∈ tb, w.before args s = true) ∧ R = rmD d mcT msT ∧ WE D ty s ∧ EXT (AF σ0 S0 s.heap.size) σ0 s s.heap ∧ 40 ≤ S0.1
def LH (σ : Nat → Nat) (LS : Array Slot) (nL : Nat) (ls : List (Option Value)) : Prop := LS.size = nL ∧ lv_wf LS ∧ ∀ (j : Nat) (v : Value), ls[j]? = some (some v) → LS[j]? = some (.val (rv σ v))
def ST (M : MI) (mcT msT : Nat) (D : va_G) (ty : Nat → ClassId) (σ0 : Nat → Nat) (S0 : SH) (s : State) (H : Heap) (locs : List Loc) (cells slots : Nat) (LS : Array Slot) (σ : Nat → Nat) (ls : List (Option Value)) (S : SH) (x : DY) (k n : Nat) : Prop :=
  WP D ty σ S x H ∧ va_S (AF σ0 S0 s.heap.size) s.heap H locs ∧ Gr σ0 σ S0.1 S.1 s.heap.size ∧ LH σ LS M.2.2.1 ls ∧ cells + k ≤ mcT ∧ slots + n ≤ msT
/-- the method M stands at pc, with locals ls and stack st, in the world S, x; k cells of n slots may still be made: it comes to its end, and Q holds there -/
def MW (M : MI) (d mcT msT : Nat) (Q : QT) (pc : Nat) (ls : List (Option Value)) (st : List Value) (S : SH) (x : DY) (k n : Nat) : Prop :=
  ∀ {p : Program} {l : Launch} {e : Env} {R : Room} {s : State} {m : MethodId} {args : Array Value} {below : List Frame} {meth : Method} {c : Code} {D : va_G} {ty : Nat → ClassId} {σ0 : Nat → Nat} {S0 : SH}, CX M d mcT msT p R s m args meth c D ty σ0 S0 →
  ∀ {σ : Nat → Nat} {H : Heap} {locs : List Loc} {cells slots : Nat} {LS : Array Slot}, ST M mcT msT D ty σ0 S0 s H locs cells slots LS σ ls S x k n →
  W p l e R s m args below meth c H locs cells slots (MQ below (MQc D ty σ0 S0 Q) args s mcT msT (AF σ0 S0 s.heap.size)) (F0 m pc LS (st.map (rv σ)))
section PURE
variable {M : MI} {d mcT msT : Nat} {Q : QT} {pc pc' : Nat} {ls ls' : List (Option Value)} {st st' : List Value} {S S' : SH} {x x' : DY} {k n : Nat}
theorem MW.pure (h : ∀ {p : Program} {l : Launch} {e : Env} {R : Room} {s : State} {m : MethodId} {args : Array Value} {below : List Frame} {meth : Method} {c : Code} {H : Heap} {locs : List Loc} {cells slots : Nat} {Qs : State → Prop} {LS : Array Slot} {σ : Nat → Nat},
      p.tables.exec = Jvm.exec → c.code = M.2.1 → s.vm.findClass M.1.cls = some m.cls → (∀ w ∈ tb, w.before args s = true) → LH σ LS M.2.2.1 ls →
      W p l e R s m args below meth c H locs cells slots Qs (F0 m pc' LS (st'.map (rv σ))) → W p l e R s m args below meth c H locs cells slots Qs (F0 m pc LS (st.map (rv σ))))
    (kk : MW M d mcT msT Q pc' ls st' S x k n) : MW M d mcT msT Q pc ls st S x k n := by
  intro p l e R s m args below meth c D ty σ0 S0 C σ H locs cells slots LS T
  exact h C.1 C.2.1 C.2.2.2.2.2.2.1 C.2.2.2.2.2.2.2.1 T.2.2.2.1 (kk C T)
theorem MW.br {c1 : Prop} {pc1 : Nat} (h : ∀ {p : Program} {l : Launch} {e : Env} {R : Room} {s : State} {m : MethodId} {args : Array Value} {below : List Frame} {meth : Method} {c : Code} {H : Heap} {locs : List Loc} {cells slots : Nat} {Qs : State → Prop} {LS : Array Slot} {σ : Nat → Nat},
      p.tables.exec = Jvm.exec → c.code = M.2.1 →
      (c1 → W p l e R s m args below meth c H locs cells slots Qs (F0 m pc1 LS (st'.map (rv σ)))) → (¬ c1 → W p l e R s m args below meth c H locs cells slots Qs (F0 m pc' LS (st'.map (rv σ)))) → W p l e R s m args below meth c H locs cells slots Qs (F0 m pc LS (st.map (rv σ))))
    (kt : c1 → MW M d mcT msT Q pc1 ls st' S x k n) (kf : ¬ c1 → MW M d mcT msT Q pc' ls st' S x k n) : MW M d mcT msT Q pc ls st S x k n := by
  intro p l e R s m args below meth c D ty σ0 S0 C σ H locs cells slots LS T
  exact h C.1 C.2.1 (fun q => kt q C T) (fun q => kf q C T)
theorem LH.get {σ : Nat → Nat} {LS : Array Slot} {nL j : Nat} {v : Value} (h : LH σ LS nL ls) (hj : ls[j]? = some (some v)) : LS[j]? = some (.val (rv σ v)) := h.2.2 j v hj
/-- fewer locals are known -/
theorem MW.drop (hs : ∀ (j : Nat) (v : Value), ls'[j]? = some (some v) → ls[j]? = some (some v)) (kk : MW M d mcT msT Q pc ls' st S x k n) : MW M d mcT msT Q pc ls st S x k n := by
  intro p l e R s m args below meth c D ty σ0 S0 C σ H locs cells slots LS T
  obtain ⟨h1, h2, h3, ⟨h4, h5, h6⟩, h7⟩ := T
  exact kk C ⟨h1, h2, h3, ⟨h4, h5, fun j v q => h6 j v (hs j v q)⟩, h7⟩
def subL : List (Option Value) → List (Option Value) → Prop
  | [], _ => True
  | none :: t, _ :: u => subL t u
  | some v :: t, some w :: u => v = w ∧ subL t u
  | _, _ => False
theorem subL_get : ∀ {a b : List (Option Value)}, subL a b → ∀ (j : Nat) (v : Value), a[j]? = some (some v) → b[j]? = some (some v)
  | [], _, _, j, v, h => by simp at h
  | none :: t, [], hs, j, v, h => by simp [subL] at hs
  | none :: t, _ :: u, hs, 0, v, h => by simp at h
  | none :: t, _ :: u, hs, j + 1, v, h => by
    rw [List.getElem?_cons_succ] at h ⊢
    exact subL_get (a := t) (b := u) hs j v h
  | some v0 :: t, [], hs, j, v, h => by simp [subL] at hs
  | some v0 :: t, none :: u, hs, j, v, h => by simp [subL] at hs
  | some v0 :: t, some w :: u, hs, 0, v, h => by
    have h1 : v0 = w := hs.1
    rw [List.getElem?_cons_zero] at h ⊢
    rw [← h1]; exact h
  | some v0 :: t, some w :: u, hs, j + 1, v, h => by
    rw [List.getElem?_cons_succ] at h ⊢
    exact subL_get (a := t) (b := u) hs.2 j v h
/-- storing -/
def lvO (σ : Nat → Nat) (ls : List (Option Value)) : List (Nat × Value) := (List.range ls.length).filterMap (fun j => match ls[j]? with | some (some v) => some (j, rv σ v) | _ => none)
theorem lvO_in {σ : Nat → Nat} {j : Nat} {v : Value} (h : ls[j]? = some (some v)) : (j, rv σ v) ∈ lvO σ ls := by
  refine List.mem_filterMap.mpr ⟨j, List.mem_range.mpr (List.getElem?_eq_some_iff.mp h).1, ?_⟩
  rw [h]
theorem LH.has {σ : Nat → Nat} {LS : Array Slot} {nL : Nat} (h : LH σ LS nL ls) : lv_has LS nL (lvO σ ls) := by
  refine ⟨h.1, h.2.1, fun q hq => ?_⟩
  obtain ⟨j, -, hj⟩ := List.mem_filterMap.mp hq
  split at hj
  · next v hv =>
    cases hj
    exact h.2.2 j v hv
  · cases hj
def noL (ls : List (Option Value)) (i : Nat) : Bool := match i with
  | 0 => true
  | j + 1 => match ls[j]? with
    | some (some (.long _)) => false
    | some (some (.double _)) => false
    | _ => true
theorem noL_cat {σ : Nat → Nat} {i j : Nat} {v : Value} (h : noL ls i = true) (hv : ls[j]? = some (some v)) (hj : j + 1 = i) : ¬ (rv σ v).category = 2 := by
  subst hj
  rw [rv_cat]
  simp only [noL, hv] at h
  cases v <;> simp_all [Value.category]
theorem LH.put1 {σ : Nat → Nat} {LS : Array Slot} {nL i : Nat} {v : Value} (h : lv_has LS nL ((i, rv σ v) :: (lvO σ ls).filter (fun q => !(q.1 == i) && !(q.1 + 1 == i && q.2.category == 2)))) (hz : noL ls i = true) : LH σ LS nL (ls.set i (some v)) := by
  refine ⟨h.1, h.2.1, fun j w hw => ?_⟩
  by_cases e : j = i
  · subst e
    have hl : j < ls.length := by
      have := (List.getElem?_eq_some_iff.mp hw).1
      rwa [List.length_set] at this
    rw [List.getElem?_set_self hl] at hw
    cases hw
    exact h.2.2 _ List.mem_cons_self
  · rw [List.getElem?_set_ne (Ne.symm e)] at hw
    refine h.2.2 (j, rv σ w) (List.mem_cons_of_mem _ (List.mem_filter.mpr ⟨lvO_in hw, ?_⟩))
    by_cases e2 : j + 1 = i
    · have := noL_cat (σ := σ) hz hw e2
      simp [e, this]
    · simp [e, e2]
theorem LH.put2 {σ : Nat → Nat} {LS : Array Slot} {nL i : Nat} {v : Value} (h : lv_has LS nL ((i, rv σ v) :: (lvO σ ls).filter (fun q => !(q.1 == i) && (!(q.1 == i + 1) && !(q.1 + 1 == i && q.2.category == 2))))) (hz : noL ls i = true) : LH σ LS nL ((ls.set i (some v)).set (i + 1) none) := by
  refine ⟨h.1, h.2.1, fun j w hw => ?_⟩
  by_cases e1 : j = i + 1
  · subst e1
    have hl : i + 1 < (ls.set i (some v)).length := by
      have := (List.getElem?_eq_some_iff.mp hw).1
      rwa [List.length_set] at this
    rw [List.getElem?_set_self hl] at hw
    cases hw
  · rw [List.getElem?_set_ne (Ne.symm e1)] at hw
    by_cases e : j = i
    · subst e
      have hl : j < ls.length := by
        have := (List.getElem?_eq_some_iff.mp hw).1
        rwa [List.length_set] at this
      rw [List.getElem?_set_self hl] at hw
      cases hw
      exact h.2.2 _ List.mem_cons_self
    · rw [List.getElem?_set_ne (Ne.symm e)] at hw
      refine h.2.2 (j, rv σ w) (List.mem_cons_of_mem _ (List.mem_filter.mpr ⟨lvO_in hw, ?_⟩))
      by_cases e2 : j + 1 = i
      · have := noL_cat (σ := σ) hz hw e2
        simp [e, e1, this]
      · simp [e, e1, e2]
theorem MW.store {i pc2 : Nat} {v : Value} (hv : ∀ σ : Nat → Nat, rv σ v = v ∨ True) (h : ∀ {p : Program} {l : Launch} {e : Env} {R : Room} {s : State} {m : MethodId} {args : Array Value} {below : List Frame} {meth : Method} {c : Code} {H : Heap} {locs : List Loc} {cells slots : Nat} {Qs : State → Prop} {LS : Array Slot} {σ : Nat → Nat},
      p.tables.exec = Jvm.exec → c.code = M.2.1 → LH σ LS M.2.2.1 ls →
      (∀ LS' : Array Slot, lv_has LS' M.2.2.1 ((i, rv σ v) :: (lvO σ ls).filter (fun q => !(q.1 == i) && !(q.1 + 1 == i && q.2.category == 2))) → W p l e R s m args below meth c H locs cells slots Qs (F0 m pc2 LS' (st'.map (rv σ)))) → W p l e R s m args below meth c H locs cells slots Qs (F0 m pc LS (st.map (rv σ))))
    (hz : noL ls i = true) (kk : MW M d mcT msT Q pc2 (ls.set i (some v)) st' S x k n) : MW M d mcT msT Q pc ls st S x k n := by
  intro p l e R s m args below meth c D ty σ0 S0 C σ H locs cells slots LS T
  obtain ⟨h1, h2, h3, h4, h7⟩ := T
  exact h C.1 C.2.1 h4 (fun LS' hL => kk C ⟨h1, h2, h3, LH.put1 hL hz, h7⟩)
end PURE
