/-! CALLS -/
theorem lv_args_rv (σ : Nat → Nat) : ∀ (i : Nat) (vs : List Value), lv_args i (vs.map (rv σ)) = (lv_args i vs).map (fun q => (q.1, rv σ q.2))
  | _, [] => rfl
  | i, v :: vs => by
    show (i, rv σ v) :: lv_args (if (rv σ v).category = 2 then i + 2 else i + 1) (vs.map (rv σ)) = _
    rw [rv_cat, lv_args_rv]
    rfl
theorem lg_sl_rv (σ : Nat → Nat) : ∀ vs : List Value, (lg_sl (vs.map (rv σ))).length = (lg_sl vs).length
  | [] => rfl
  | v :: vs => by
    have h := lg_sl_rv σ vs
    unfold lg_sl at h ⊢
    rw [List.map_cons, List.flatMap_cons, List.flatMap_cons, List.length_append, List.length_append, h, rv_cat]
    by_cases e : v.category = 2
    · rw [if_pos e, if_pos e]; rfl
    · rw [if_neg e, if_neg e]; rfl
def lvA (ls : List (Option Value)) : List (Nat × Value) := (List.range ls.length).filterMap (fun j => match ls[j]? with | some (some v) => some (j, v) | _ => none)
theorem lvA_in {ls : List (Option Value)} {j : Nat} {v : Value} (h : ls[j]? = some (some v)) : (j, v) ∈ lvA ls := by
  refine List.mem_filterMap.mpr ⟨j, List.mem_range.mpr (List.getElem?_eq_some_iff.mp h).1, ?_⟩
  rw [h]
/-- a method's contract, by a walk from its entry -/
theorem MA.of {M : MI} {d : Nat} {av : List Value} {S : SH} {x : DY} {mc ms : Nat} {Q : QT} (ls : List (Option Value)) (hls : lvA ls = lv_args 0 av) (hn : (lg_sl av).length ≤ M.2.2.1) (hp : plainFor M.1 = true) (h : MW M d mc ms Q 0 ls [] S x mc ms) : MA M d av S x mc ms Q := by
  intro l D ty σ sz
  refine va_MetF hp rfl ?_
  intro p e s m args below meth c s₁ B hml hv
  obtain ⟨rfl, hsz, hWE, hEX, hW⟩ := hv
  have hts : ∀ w ∈ (Cond.code M.1 M.2.1 M.2.2.1 M.2.2.2 :: tb), w.before (av.map (rv σ)).toArray s = true := atoms_spec B.pre
  have hown : s.vm.findClass M.1.cls = some m.cls := findClass_of_methodNamed B.named
  subst hsz
  have hC : CX M d mc ms p (headSpec (Cond.code M.1 M.2.1 M.2.2.1 M.2.2.2 :: tb) (rmD d mc ms)).room s m (av.map (rv σ)).toArray meth c D ty σ S :=
    ⟨B.exec, B.bytes, hml, B.returns, B.notSynchronized, (name_of_methodNamed B.named B.method).1, hown, fun w hw => hts w (List.mem_cons_of_mem _ hw), rfl, hWE, hEX, hW.2.2.2.1⟩
  have hl := lv_entry (av.map (rv σ)) (n := M.2.2.1) (by rw [lg_sl_rv]; exact hn)
  rw [lg_entry_eq]
  generalize (lg_sl (av.map (rv σ)) ++ List.replicate (M.2.2.1 - (lg_sl (av.map (rv σ))).length) Slot.unset).toArray = LS at hl ⊢
  exact h hC ⟨hW, va_S.rf, ⟨Nat.le_refl _, fun _ _ => rfl, fun k h1 h2 => absurd h2 (by omega), fun _ => rfl⟩, ⟨hl.1, hl.2.1, fun j v hj => hl.2.2 (j, rv σ v) (by rw [lv_args_rv, ← hls]; exact List.mem_map.mpr ⟨(j, v), lvA_in hj, rfl⟩)⟩, by omega, by omega⟩
theorem WE.alike {D : va_G} {ty : Nat → ClassId} {u U : State} (hW : u.WarmedH U.vm) (h : WE D ty u) : WE D ty U :=
  ⟨va_K.moved hW.alike h.1, fun q hq => va_Nw.warmM hW (h.2.1 q hq), va_AO.moved hW.alike h.2.2.1, va_AO.moved hW.alike h.2.2.2.1, over_moved hW.alike h.2.2.2.2.1, va_Nw.warmC hW h.2.2.2.2.2⟩
theorem WE.same {D : va_G} {ty : Nat → ClassId} {u U : State} (hv : U.vm = u.vm) (h : WE D ty u) : WE D ty U := by
  have ha : u.vm.Alike U.vm := by rw [hv]; exact Vm.Alike.refl _
  exact ⟨va_K.moved ha h.1, fun q hq => va_Nw.same rfl hv.symm (h.2.1 q hq), va_AO.moved ha h.2.2.1, va_AO.moved ha h.2.2.2.1, over_moved ha h.2.2.2.2.1, va_Nw.same rfl hv.symm h.2.2.2.2.2⟩
theorem EXT.step {A A' : Nat → Prop} {σ σ' : Nat → Nat} {u U : State} {H H' : Heap} (ha : u.vm.Alike U.vm) (hr : ∀ {k : Nat} {tx : String} {q : Nat}, vk_R "PlateRound$Reader" k tx q u → vk_R "PlateRound$Reader" k tx q U) (hq : ∀ a : Nat, a < H.size → ¬ A a → H'[a]? = H[a]?) (hA : ∀ q, A' q → A q) (hσ : ∀ i, i < 40 → σ' i = σ i) (h : EXT A σ u H) : EXT A' σ' U H' := by
  obtain ⟨h1, h2, ⟨adK, adV, h3, h3'⟩, h4, h5⟩ := h
  refine ⟨fun i hi => ?_, fun i hi => ?_, ⟨adK, adV, ((vk_S.moved ha h3).kept hq).narrow hA, fun i hi => ?_⟩, ((va_Z.moved ha h4).kept hq).narrow hA, ?_⟩
  · rw [hσ i (by omega)]
    exact ⟨((va_Z.moved ha (h1 i hi).1).kept hq).narrow hA, ((va_T.moved ha (h1 i hi).2).kept hq).narrow hA⟩
  · rw [hσ (5 + i) (by omega)]
    exact hr (h2 i hi)
  · rw [hσ (5 + i) (by omega), hσ (16 + i) (by omega)]
    exact h3' i hi
  · rw [hσ 27 (by omega)]
    rcases h5 with h5 | h5
    · exact Or.inl (((va_Z.moved ha h5).kept hq).narrow hA)
    · exact Or.inr (((va_Z.moved ha h5).kept hq).narrow hA)
theorem Wat.blind {D : va_G} {ty : Nat → ClassId} {σ : Nat → Nat} {S : SH} {x : DY} {av : List Value} {sz : Nat} : FrameBlind (va_Pc av (fun U => U.heap.size = sz ∧ Wat D ty σ S x U)) := by
  intro a U g mk h
  obtain ⟨h1, h2, h3, h4, h5⟩ := h
  refine ⟨h1, h2, WE.same rfl h3, ?_, h5⟩
  exact EXT.step (u := U) (H := U.heap) (Vm.Alike.refl _) (fun h => vk_R.same rfl h) (fun _ _ _ => rfl) (fun _ h => h) (fun _ _ => rfl) h4
theorem Wat.call {D : va_G} {ty : Nat → ClassId} {σ0 σ : Nat → Nat} {S0 S : SH} {x : DY} {s U : State} {H : Heap} {locs : List Loc} (hWE : WE D ty s) (hEX : EXT (AF σ0 S0 s.heap.size) σ0 s s.heap) (h20 : 40 ≤ S0.1) (hW : WP D ty σ S x H) (hS : va_S (AF σ0 S0 s.heap.size) s.heap H locs) (hG : Gr σ0 σ S0.1 S.1 s.heap.size) (hU : U.heap = H) (hv : s.WarmedH U.vm) : Wat D ty σ S x U := by
  refine ⟨WE.alike hv hWE, ?_, by rw [hU]; exact hW⟩
  rw [hU]
  refine EXT.step (u := s) (H := s.heap) hv.alike (fun h => vk_R.warm hv h) (fun a h1 h2 => hS.2.1 a h1 h2) (fun q hq => ?_) (fun i hi => ex_old hG h20 hi) hEX
  rcases hq with ⟨k, h0, h1, rfl⟩ | hq
  · exact AF_in hG h0 h1
  · exact Or.inr (Nat.le_trans hS.1 hq)
/-- the callee's words are among the caller's -/
theorem tb_call {M : MI} (h : Cond.code M.1 M.2.1 M.2.2.1 M.2.2.2 ∈ tb) : GoodIn tb (Cond.code M.1 M.2.1 M.2.2.1 M.2.2.2 :: tb) := fun w hw => by
  rcases List.mem_cons.mp hw with rfl | hw
  · exact ⟨h, tb_good _ h⟩
  · exact ⟨hw, tb_good _ hw⟩
def LB (M' : MI) (nA : Nat) : Prop := Cond.code M'.1 M'.2.1 M'.2.2.1 M'.2.2.2 ∈ tb ∧ Cond.initialized M'.1.cls ∈ tb ∧ (M'.1.cls ≠ "java/lang/invoke/MethodHandle" ∧ M'.1.cls ≠ "java/lang/invoke/VarHandle" ∧ (parseMethodDescriptor M'.1.desc).map (fun d => d.parameters.length) = some nA) ∧ M'.2.2.1 ≤ 45
/-- an instance method of class c, linked at i of own's pool -/
def LV (own : String) (i c : Nat) (M' : MI) : Prop := c < 13 ∧ Cond.methodLink own i M'.1 ∈ tb ∧ Cond.instanceMethod M'.1 ∈ tb ∧ Cond.selects (cR c) M'.1 M'.1 ∈ tb
def LSt (own : String) (i : Nat) (M' : MI) : Prop := Cond.methodLink own i M'.1 ∈ tb ∧ Cond.static M'.1 ∈ tb
def LSN (own : String) (i : Nat) (M' : MI) : Prop := (own, i, M'.1, "PlateRound") ∈ nestW ∧ Cond.static M'.1 ∈ tb
def LI (own : String) (i : Nat) (M' : MI) : Prop := Cond.methodLink own i M'.1 ∈ tb ∧ Cond.instanceMethod M'.1 ∈ tb ∧ M'.1.name = "<init>"
def LIN (own : String) (i : Nat) (M' : MI) : Prop := (own, i, M'.1, "PlateRound") ∈ nestW ∧ Cond.instanceMethod M'.1 ∈ tb ∧ M'.1.name = "<init>"
section CALL
variable {M M' : MI} {d d' mcT msT mc ms : Nat} {Q Q' : QT} {pc : Nat} {ls : List (Option Value)} {st : List Value} {S : SH} {x : DY} {k n : Nat}
/-- every reference that the frame holds is one of the world's -/
def inS (S : SH) (v : Value) : Prop := match v with
  | .ref a => a < S.1
  | _ => True
theorem rv_in {σ σ' : Nat → Nat} {v : Value} (h : ∀ k, k < S.1 → σ' k = σ k) (hv : inS S v) : rv σ' v = rv σ v := by
  cases v with
  | ref a => exact congrArg Value.ref (h a hv)
  | _ => rfl
theorem MW.use (h : MW M d mcT msT Q pc ls st S x k n) {p : Program} {l : Launch} {e : Env} {R : Room} {s : State} {m : MethodId} {args : Array Value} {below : List Frame} {meth : Method} {c : Code} {D : va_G} {ty : Nat → ClassId} {σ0 : Nat → Nat} {S0 : SH} (C : CX M d mcT msT p R s m args meth c D ty σ0 S0)
    {σ : Nat → Nat} {H : Heap} {locs : List Loc} {cells slots : Nat} {LS : Array Slot} (T : ST M mcT msT D ty σ0 S0 s H locs cells slots LS σ ls S x k n) : W p l e R s m args below meth c H locs cells slots (MQ below (MQc D ty σ0 S0 Q) args s mcT msT (AF σ0 S0 s.heap.size)) (F0 m pc LS (st.map (rv σ))) := h C T
theorem W_call {p : Program} {l : Launch} {e : Env} {R : Room} {s : State} {m : MethodId} {args : Array Value} {below : List Frame} {meth : Method} {c : Code} {D : va_G} {ty : Nat → ClassId} {σ0 σ : Nat → Nat} {S0 : SH} {H : Heap} {locs : List Loc} {cells slots : Nat} {LS : Array Slot} {st0 : List Value} {as' : Array Value}
    (C : CX M d mcT msT p R s m args meth c D ty σ0 S0) (T : ST M mcT msT D ty σ0 S0 s H locs cells slots LS σ ls S x (mc + k) (ms + n))
    (hr : va_Run p l e R s m args below meth c H locs cells slots mc ms (F0 m pc LS st0) (st.map (rv σ)) (MQc D ty σ S Q' as') (AF σ S H.size))
    (hin : (∀ v ∈ st, inS S v) ∧ (∀ v, some v ∈ ls → inS S v) ∨ ∀ r S' x', Q' r S' x' → S'.1 = S.1)
    (kk : ∀ r S' x', Q' r S' x' → S.1 ≤ S'.1 → MW M d mcT msT Q (pc + 3) ls (r.toList ++ st) S' x' k n) :
    W p l e R s m args below meth c H locs cells slots (MQ below (MQc D ty σ0 S0 Q) args s mcT msT (AF σ0 S0 s.heap.size)) (F0 m pc LS st0) := by
  intro T0 hT X
  obtain ⟨hW, hS, hG, hL, hr1, hr2⟩ := T
  obtain ⟨v, st₀, t, T', L, h0, X', hL', e1, e2, ⟨⟨r, σ', S', x', hv, hQ', hW', hG'⟩, hF⟩, stp⟩ := hr T0 hT X
  cases hv
  have hle : S.1 ≤ S'.1 := hG'.1
  have hsame : st.map (rv σ') = st.map (rv σ) ∧ ∀ v, some v ∈ ls → rv σ' v = rv σ v := by
    rcases hin with ⟨ha, hb⟩ | hn
    · exact ⟨List.map_congr_left fun v hv => rv_in hG'.2.1 (ha v hv), fun v hv => rv_in hG'.2.1 (hb v hv)⟩
    · have := hG'.2.2.2 (hn r S' x' hQ')
      subst this
      exact ⟨rfl, fun _ _ => rfl⟩
  have hT' : ST M mcT msT D ty σ0 S0 s t.heap (locs ++ L) (cells + mc) (slots + ms) LS σ' ls S' x' k n := by
    refine ⟨hW', ⟨Nat.le_trans hS.1 (by rw [← h0]; exact hF.1), fun q h1 h2 => ?_, fun q hq => ?_⟩, ⟨Nat.le_trans hG.1 hle, fun k hk => (hG'.2.1 k (by have := hG.1; omega)).trans (hG.2.1 k hk), fun k h1 h2 => ?_, fun h => ?_⟩, ⟨hL.1, hL.2.1, fun j v hj => by rw [hsame.2 v (List.mem_of_getElem? hj)]; exact hL.2.2 j v hj⟩, by omega, by omega⟩
    · rw [hF.2 q (by rw [h0]; exact Nat.lt_of_lt_of_le h1 hS.1) (fun z => h2 ?_), h0]
      · exact hS.2.1 q h1 h2
      · rcases z with ⟨k, z0, z1, rfl⟩ | z
        · exact AF_in hG z0 z1
        · exact Or.inr (Nat.le_trans hS.1 (by rw [← h0]; exact z))
    · rcases List.mem_append.mp hq with h | h
      · exact hS.2.2 q h
      · rcases hL' q h with ⟨k, z0, z1, z2⟩ | z
        · rw [z2]; exact AF_in hG z0 z1
        · exact Or.inr (Nat.le_trans hS.1 z)
    · by_cases hk : k < S.1
      · rw [hG'.2.1 k hk]; exact hG.2.2.1 k h1 hk
      · exact Nat.le_trans hS.1 (by rw [← h0]; exact hG'.2.2.1 k (by omega) h2)
    · have h3 : S.1 = S0.1 := by have := hG.1; omega
      rw [hG'.2.2.2 (by omega), hG.2.2.2 h3]
  obtain ⟨t2, a1, b1⟩ := MW.use (kk r S' x' hQ' hle) C hT' T' e1 X'
  refine ⟨t2, stp t2 ?_, b1⟩
  have es : ((r.map (rv σ')).toList ++ st.map (rv σ) : List Value) = (r.toList ++ st).map (rv σ') := by
    rw [← hsame.1, List.map_append]
    cases r <;> rfl
  rw [es]
  exact a1
theorem rmD_ok {d d' mc ms mcT msT nL : Nat} (hd : d' + 1 ≤ d) (hn : nL ≤ 45) : (rmD d' mc ms).frames + 1 ≤ (rmD d mcT msT).frames ∧ 8 + (nL + 11) + (rmD d' mc ms).locals ≤ (rmD d mcT msT).locals := by
  unfold rmD
  constructor
  · exact hd
  · show 8 + (nL + 11) + 64 * d' ≤ 64 * d
    omega
theorem st_cat {σ : Nat → Nat} {m : MethodId} {LS : Array Slot} {st0 : List Value} (h : (st.map fun v => v.category).sum ≤ 8) : 2 * (F0 m pc LS st0).monitorRoom + ((st.map (rv σ)).map fun v => v.category).sum ≤ 8 := by
  refine lv_room ?_
  rw [List.map_map]
  rw [show ((fun v : Value => v.category) ∘ rv σ) = (fun v : Value => v.category) from funext (rv_cat σ)]
  exact h
theorem r_V {i c b : Nat} {As st0 : List Value} (hl : LV M.1.cls i c M') (hb : LB M' As.length) (hA : MA M' d' (.ref b :: As) S x mc ms Q') (hd' : d' + 1 ≤ d) (hT : TY S b c) (hs : (st.map fun v => v.category).sum ≤ 8) (h0 : st0 = As.reverse ++ .ref b :: st) (hdg : decode M.2.1 pc = .ok (.invokevirtual i, 3))
    (hin : (∀ v ∈ st, inS S v) ∧ (∀ v, some v ∈ ls → inS S v) ∨ ∀ r S' x', Q' r S' x' → S'.1 = S.1)
    (kk : ∀ r S' x', Q' r S' x' → S.1 ≤ S'.1 → MW M d mcT msT Q (pc + 3) ls (r.toList ++ st) S' x' k n) : MW M d mcT msT Q pc ls st0 S x (mc + k) (ms + n) := by
  subst h0
  intro p l e R s m args below meth c' D ty σ0 S0 C σ H locs cells slots LS T
  obtain ⟨hc, l1, l2, l3⟩ := hl
  obtain ⟨b1, b2, b3, b4⟩ := hb
  have hts := C.2.2.2.2.2.2.2.1
  have hR := C.2.2.2.2.2.2.2.2.1
  refine W_call (st := st) C T (va_runV (C := cR c) (As := As.map (rv σ)) ⟨C.1, C.2.1, C.2.2.1, C.2.2.2.2.2.2.1, hts⟩ (hA l D ty σ H.size) ⟨callB_of As.length hts (tb_call b1) rfl rfl rfl (hts _ b2) (hts _ l1) b3 (by rw [hR]; exact rmD_ok hd' b4), hts _ l2, hts _ l3⟩
    ⟨Wat.blind, va_recv C.2.2.2.2.2.2.2.2.2.1.1 T.1.1 (CL_at c hc) (ws_obj hT hc), fun U hU hv => ⟨rfl, by rw [hU], Wat.call C.2.2.2.2.2.2.2.2.2.1 C.2.2.2.2.2.2.2.2.2.2.1 C.2.2.2.2.2.2.2.2.2.2.2 T.1 T.2.1 T.2.2.1 hU hv⟩⟩ rfl (by rw [List.length_map]) T.2.2.2.1.1 (by simp [rv]) (st_cat hs) hdg (by rw [hR]; have := T.2.2.2.2.1; have := T.2.2.2.2.2; show cells + mc ≤ mcT ∧ slots + ms ≤ msT; omega)) hin kk
theorem r_S {i : Nat} {As st0 : List Value} (hl : LSt M.1.cls i M') (hb : LB M' As.length) (hA : MA M' d' As S x mc ms Q') (hd' : d' + 1 ≤ d) (hs : (st.map fun v => v.category).sum ≤ 8) (h0 : st0 = As.reverse ++ st) (hdg : decode M.2.1 pc = .ok (.invokestatic i, 3))
    (hin : (∀ v ∈ st, inS S v) ∧ (∀ v, some v ∈ ls → inS S v) ∨ ∀ r S' x', Q' r S' x' → S'.1 = S.1)
    (kk : ∀ r S' x', Q' r S' x' → S.1 ≤ S'.1 → MW M d mcT msT Q (pc + 3) ls (r.toList ++ st) S' x' k n) : MW M d mcT msT Q pc ls st0 S x (mc + k) (ms + n) := by
  subst h0
  intro p l e R s m args below meth c' D ty σ0 S0 C σ H locs cells slots LS T
  obtain ⟨l1, l2⟩ := hl
  obtain ⟨b1, b2, b3, b4⟩ := hb
  have hts := C.2.2.2.2.2.2.2.1
  have hR := C.2.2.2.2.2.2.2.2.1
  refine W_call (st := st) C T (va_runS (As := As.map (rv σ)) ⟨C.1, C.2.1, C.2.2.1, C.2.2.2.2.2.2.1, hts⟩ (hA l D ty σ H.size) ⟨callB_of As.length hts (tb_call b1) rfl rfl rfl (hts _ b2) (hts _ l1) b3 (by rw [hR]; exact rmD_ok hd' b4), hts _ l2⟩
    ⟨Wat.blind, fun U hU hv => ⟨rfl, by rw [hU], Wat.call C.2.2.2.2.2.2.2.2.2.1 C.2.2.2.2.2.2.2.2.2.2.1 C.2.2.2.2.2.2.2.2.2.2.2 T.1 T.2.1 T.2.2.1 hU hv⟩⟩ rfl (by rw [List.length_map]) T.2.2.2.1.1 (by simp) (st_cat hs) hdg (by rw [hR]; have := T.2.2.2.2.1; have := T.2.2.2.2.2; show cells + mc ≤ mcT ∧ slots + ms ≤ msT; omega)) hin kk
theorem r_SN {i : Nat} {As st0 : List Value} (hl : LSN M.1.cls i M') (hb : LB M' As.length) (hA : MA M' d' As S x mc ms Q') (hd' : d' + 1 ≤ d) (hs : (st.map fun v => v.category).sum ≤ 8) (h0 : st0 = As.reverse ++ st) (hdg : decode M.2.1 pc = .ok (.invokestatic i, 3))
    (hin : (∀ v ∈ st, inS S v) ∧ (∀ v, some v ∈ ls → inS S v) ∨ ∀ r S' x', Q' r S' x' → S'.1 = S.1)
    (kk : ∀ r S' x', Q' r S' x' → S.1 ≤ S'.1 → MW M d mcT msT Q (pc + 3) ls (r.toList ++ st) S' x' k n) : MW M d mcT msT Q pc ls st0 S x (mc + k) (ms + n) := by
  subst h0
  intro p l e R s m args below meth c' D ty σ0 S0 C σ H locs cells slots LS T
  obtain ⟨l1, l2⟩ := hl
  obtain ⟨b1, b2, b3, b4⟩ := hb
  have hts := C.2.2.2.2.2.2.2.1
  have hR := C.2.2.2.2.2.2.2.2.1
  refine W_call (st := st) C T (va_runSN (host := "PlateRound") (As := As.map (rv σ)) ⟨C.1, C.2.1, C.2.2.1, C.2.2.2.2.2.2.1, hts⟩ (hA l D ty σ H.size) ⟨va_cnB As.length hts (tb_call b1) rfl rfl rfl (C.2.2.2.2.2.2.2.2.2.1.2.1 _ l1) (hts _ b2) b3 (by rw [hR]; exact rmD_ok hd' b4), hts _ l2, trivial⟩
    ⟨Wat.blind, fun U hU hv => ⟨rfl, by rw [hU], Wat.call C.2.2.2.2.2.2.2.2.2.1 C.2.2.2.2.2.2.2.2.2.2.1 C.2.2.2.2.2.2.2.2.2.2.2 T.1 T.2.1 T.2.2.1 hU hv⟩⟩ rfl (by rw [List.length_map]) T.2.2.2.1.1 (by simp) (st_cat hs) hdg (by rw [hR]; have := T.2.2.2.2.1; have := T.2.2.2.2.2; show cells + mc ≤ mcT ∧ slots + ms ≤ msT; omega)) hin kk
theorem r_I {i b : Nat} {As st0 : List Value} (hl : LI M.1.cls i M') (hn : M'.2.2.2 = none) (hb : LB M' As.length) (hA : MA M' d' (.ref b :: As) S x mc ms Q') (hd' : d' + 1 ≤ d) (hs : (st.map fun v => v.category).sum ≤ 8) (h0 : st0 = As.reverse ++ .ref b :: st) (hdg : decode M.2.1 pc = .ok (.invokespecial i, 3))
    (hin : (∀ v ∈ st, inS S v) ∧ (∀ v, some v ∈ ls → inS S v) ∨ ∀ r S' x', Q' r S' x' → S'.1 = S.1)
    (kk : ∀ r S' x', Q' r S' x' → S.1 ≤ S'.1 → MW M d mcT msT Q (pc + 3) ls (r.toList ++ st) S' x' k n) : MW M d mcT msT Q pc ls st0 S x (mc + k) (ms + n) := by
  subst h0
  intro p l e R s m args below meth c' D ty σ0 S0 C σ H locs cells slots LS T
  obtain ⟨l1, l2, l3⟩ := hl
  obtain ⟨b1, b2, b3, b4⟩ := hb
  have hts := C.2.2.2.2.2.2.2.1
  have hR := C.2.2.2.2.2.2.2.2.1
  have hM := hA l D ty σ H.size
  have hG := tb_call b1
  rw [hn] at hM hG
  refine W_call (st := st) C T (va_runI (As := As.map (rv σ)) ⟨C.1, C.2.1, C.2.2.1, C.2.2.2.2.2.2.1, hts⟩ hM ⟨callB_of As.length hts hG rfl rfl rfl (hts _ b2) (hts _ l1) b3 (by rw [hR]; exact rmD_ok hd' b4), l3, hts _ l2⟩
    ⟨Wat.blind, fun U hU hv => ⟨rfl, by rw [hU], Wat.call C.2.2.2.2.2.2.2.2.2.1 C.2.2.2.2.2.2.2.2.2.2.1 C.2.2.2.2.2.2.2.2.2.2.2 T.1 T.2.1 T.2.2.1 hU hv⟩⟩ rfl (by rw [List.length_map]) T.2.2.2.1.1 (by simp [rv]) (st_cat hs) hdg (by rw [hR]; have := T.2.2.2.2.1; have := T.2.2.2.2.2; show cells + mc ≤ mcT ∧ slots + ms ≤ msT; omega)) hin kk
theorem r_IN {i b : Nat} {As st0 : List Value} (hl : LIN M.1.cls i M') (hn : M'.2.2.2 = none) (hb : LB M' As.length) (hA : MA M' d' (.ref b :: As) S x mc ms Q') (hd' : d' + 1 ≤ d) (hs : (st.map fun v => v.category).sum ≤ 8) (h0 : st0 = As.reverse ++ .ref b :: st) (hdg : decode M.2.1 pc = .ok (.invokespecial i, 3))
    (hin : (∀ v ∈ st, inS S v) ∧ (∀ v, some v ∈ ls → inS S v) ∨ ∀ r S' x', Q' r S' x' → S'.1 = S.1)
    (kk : ∀ r S' x', Q' r S' x' → S.1 ≤ S'.1 → MW M d mcT msT Q (pc + 3) ls (r.toList ++ st) S' x' k n) : MW M d mcT msT Q pc ls st0 S x (mc + k) (ms + n) := by
  subst h0
  intro p l e R s m args below meth c' D ty σ0 S0 C σ H locs cells slots LS T
  obtain ⟨l1, l2, l3⟩ := hl
  obtain ⟨b1, b2, b3, b4⟩ := hb
  have hts := C.2.2.2.2.2.2.2.1
  have hR := C.2.2.2.2.2.2.2.2.1
  have hM := hA l D ty σ H.size
  have hG := tb_call b1
  rw [hn] at hM hG
  refine W_call (st := st) C T (va_runIN (host := "PlateRound") (As := As.map (rv σ)) ⟨C.1, C.2.1, C.2.2.1, C.2.2.2.2.2.2.1, hts⟩ hM ⟨va_cnB As.length hts hG rfl rfl rfl (C.2.2.2.2.2.2.2.2.2.1.2.1 _ l1) (hts _ b2) b3 (by rw [hR]; exact rmD_ok hd' b4), l3, hts _ l2⟩
    ⟨Wat.blind, fun U hU hv => ⟨rfl, by rw [hU], Wat.call C.2.2.2.2.2.2.2.2.2.1 C.2.2.2.2.2.2.2.2.2.2.1 C.2.2.2.2.2.2.2.2.2.2.2 T.1 T.2.1 T.2.2.1 hU hv⟩⟩ rfl (by rw [List.length_map]) T.2.2.2.1.1 (by simp [rv]) (st_cat hs) hdg (by rw [hR]; have := T.2.2.2.2.1; have := T.2.2.2.2.2; show cells + mc ≤ mcT ∧ slots + ms ≤ msT; omega)) hin kk
end CALL
