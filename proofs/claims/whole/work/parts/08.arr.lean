/-! ROWS: arrays, what stood before, ends -/
section ARR
variable {M : MI} {d mcT msT : Nat} {Q : QT} {pc : Nat} {ls : List (Option Value)} {st : List Value} {S : SH} {x : DY} {k n : Nat}
/-- an index is in its row -/
abbrev ix (S : SH) (a : Nat) (i : Int32) : Prop := ¬ (i < 0 ∨ S.2.2.1 a ≤ i.toNatClampNeg)
theorem r_iald {a : Nat} {i : Int32} (hT : TY S a 14) (hi : ix S a i) (hd : decode M.2.1 pc = .ok (.iaload, 1)) (kk : MW M d mcT msT Q (pc + 1) ls (.int (x.1 a i.toNatClampNeg) :: st) S x k n) : MW M d mcT msT Q pc ls (.int i :: .ref a :: st) S x k n := by
  intro p l e R s m args below meth c' D ty σ0 S0 C σ H locs cells slots LS T
  exact va_iald C.1 C.2.1 C.2.2.2.2.2.2.2.2.2.1.1 T.1.1 (a - 40) 1 (ws_arr hT (by decide) (by decide)) rfl hi hd (kk C T)
theorem r_bald {a : Nat} {i : Int32} (hT : TY S a 13) (hi : ix S a i) (hd : decode M.2.1 pc = .ok (.baload, 1)) (kk : MW M d mcT msT Q (pc + 1) ls (.int (x.1 a i.toNatClampNeg) :: st) S x k n) : MW M d mcT msT Q pc ls (.int i :: .ref a :: st) S x k n := by
  intro p l e R s m args below meth c' D ty σ0 S0 C σ H locs cells slots LS T
  exact va_bald C.1 C.2.1 C.2.2.2.2.2.2.2.2.2.1.1 T.1.1 (a - 40) 0 (ws_arr hT (by decide) (by decide)) rfl hi hd (kk C T)
theorem r_zald {a : Nat} {i : Int32} (hT : TY S a 15) (hi : ix S a i) (hd : decode M.2.1 pc = .ok (.baload, 1)) (kk : MW M d mcT msT Q (pc + 1) ls (.int (x.1 a i.toNatClampNeg) :: st) S x k n) : MW M d mcT msT Q pc ls (.int i :: .ref a :: st) S x k n := by
  intro p l e R s m args below meth c' D ty σ0 S0 C σ H locs cells slots LS T
  exact va_zald C.1 C.2.1 C.2.2.2.2.2.2.2.2.2.1.1 T.1.1 (a - 40) 2 (ws_arr hT (by decide) (by decide)) rfl hi hd (kk C T)
theorem cellE_up {ty : Nat → ClassId} {σ : Nat → Nat} {a c i : Nat} {v : Int32} (hT : TY S a c) (hc : 13 ≤ c) (hc2 : c < 16) : (.inl (ty c, S.2.2.1 a, .inl (upd (x.1 a) i v)) : va_E) = cellE ty σ S (U1 x a i v) a := by
  obtain ⟨h0, h1, rfl⟩ := hT
  rw [cellE_arr hc hc2]
  show _ = Sum.inl (ty (S.2.1 a), S.2.2.1 a, Sum.inl (up2 x.1 a i v a))
  rw [up2_s]; rfl
theorem r_iast {a : Nat} {i v : Int32} (hT : TY S a 14) (hi : ix S a i) (hd : decode M.2.1 pc = .ok (.iastore, 1)) (kk : MW M d mcT msT Q (pc + 1) ls st S (U1 x a i.toNatClampNeg v) k n) : MW M d mcT msT Q pc ls (.int v :: .int i :: .ref a :: st) S x k n := by
  intro p l e R s m args below meth c' D ty σ0 S0 C σ H locs cells slots LS T
  obtain ⟨hW, hS, hG, hL, hr⟩ := T
  refine va_iast C.1 C.2.1 C.2.2.2.2.2.2.2.2.2.1.1 hW.1 (hW.DA hG) hS (a - 40) 1 (ws_arr hT (by decide) (by decide)) rfl hi hd (fun H1 locs1 hP hD hS1 => kk C ⟨?_, hS1, hG, hL, hr⟩)
  rw [cellE_up (σ := σ) hT (by decide) (by decide)] at hP hD
  exact WP.put (hW.2.2.1.up hT.1) hW.2.2.2 hT.1 hT.2.1 rfl (fun b hb => cellE_o1 hb) hP hD
theorem r_bast {a : Nat} {i v : Int32} (hT : TY S a 13) (hi : ix S a i) (hd : decode M.2.1 pc = .ok (.bastore, 1)) (kk : MW M d mcT msT Q (pc + 1) ls st S (U1 x a i.toNatClampNeg (vp_nar .byte v)) k n) : MW M d mcT msT Q pc ls (.int v :: .int i :: .ref a :: st) S x k n := by
  intro p l e R s m args below meth c' D ty σ0 S0 C σ H locs cells slots LS T
  obtain ⟨hW, hS, hG, hL, hr⟩ := T
  refine va_bast C.1 C.2.1 C.2.2.2.2.2.2.2.2.2.1.1 hW.1 (hW.DA hG) hS (a - 40) 0 (ws_arr hT (by decide) (by decide)) rfl hi hd (fun H1 locs1 hP hD hS1 => kk C ⟨?_, hS1, hG, hL, hr⟩)
  rw [cellE_up (σ := σ) hT (by decide) (by decide)] at hP hD
  exact WP.put (hW.2.2.1.up hT.1) hW.2.2.2 hT.1 hT.2.1 rfl (fun b hb => cellE_o1 hb) hP hD
theorem r_zast {a : Nat} {i v : Int32} (hT : TY S a 15) (hi : ix S a i) (hd : decode M.2.1 pc = .ok (.bastore, 1)) (kk : MW M d mcT msT Q (pc + 1) ls st S (U1 x a i.toNatClampNeg (vp_nar .boolean v)) k n) : MW M d mcT msT Q pc ls (.int v :: .int i :: .ref a :: st) S x k n := by
  intro p l e R s m args below meth c' D ty σ0 S0 C σ H locs cells slots LS T
  obtain ⟨hW, hS, hG, hL, hr⟩ := T
  refine va_zast C.1 C.2.1 C.2.2.2.2.2.2.2.2.2.1.1 hW.1 (hW.DA hG) hS (a - 40) 2 (ws_arr hT (by decide) (by decide)) rfl hi hd (fun H1 locs1 hP hD hS1 => kk C ⟨?_, hS1, hG, hL, hr⟩)
  rw [cellE_up (σ := σ) hT (by decide) (by decide)] at hP hD
  exact WP.put (hW.2.2.1.up hT.1) hW.2.2.2 hT.1 hT.2.1 rfl (fun b hb => cellE_o1 hb) hP hD
theorem rv_rf (σ : Nat → Nat) (o : Option Nat) : rv σ (va_rf o) = va_rf (o.map σ) := by cases o <;> rfl
/-- an entry of a row of references (16 Rounds, 17 Texts, 18 rows of ints) -/
theorem r_aald {a c : Nat} {i : Int32} (hT : TY S a c) (hc : c = 16 ∨ c = 17 ∨ c = 18) (hi : ix S a i) (hd : decode M.2.1 pc = .ok (.aaload, 1)) (kk : MW M d mcT msT Q (pc + 1) ls (va_rf (S.2.2.2 a i.toNatClampNeg) :: st) S x k n) : MW M d mcT msT Q pc ls (.int i :: .ref a :: st) S x k n := by
  intro p l e R s m args below meth c' D ty σ0 S0 C σ H locs cells slots LS T
  have hlt : i.toNatClampNeg < S.2.2.1 a := Nat.not_le.mp fun q => hi (Or.inr q)
  have hk := kk (l := l) (e := e) (below := below) C T
  rw [List.map_cons, rv_rf] at hk
  obtain ⟨t, t0, ht, hty⟩ : ∃ (t : FieldType) (t0 : Nat), (tysOf ty)[t0]? = some (ty c, t) ∧ t.isReference = true := by
    rcases hc with rfl | rfl | rfl
    · exact ⟨_, 3, rfl, rfl⟩
    · exact ⟨_, 4, rfl, rfl⟩
    · exact ⟨_, 5, rfl, rfl⟩
  have hws := T.1.1 (a - 40) _ (ws_rar hT (by omega))
  exact W.aald (v := va_rf ((S.2.2.2 a i.toNatClampNeg).map σ)) (ty := t) C.1 C.2.1 hws ((C.2.2.2.2.2.2.2.2.2.1.1.2 t0 _ ht).1 (S.2.2.1 a) (fun j => va_rf ((S.2.2.2 a j).map σ))) hty (fun q => by cases q) (by show ¬ (i < 0 ∨ (arrV _ _ _).slots.size ≤ _); rw [arrV_size]; exact hi) (by show (arrV _ _ _).slots[_]? = _; rw [arrV_read _ _ hlt]) rfl rfl hd hk
theorem r_alen {a c : Nat} (hT : TY S a c) (hc : 13 ≤ c) (hc2 : c < 19) (hd : decode M.2.1 pc = .ok (.arraylength, 1)) (kk : MW M d mcT msT Q (pc + 1) ls (.int (nI (S.2.2.1 a)) :: st) S x k n) : MW M d mcT msT Q pc ls (.ref a :: st) S x k n := by
  intro p l e R s m args below meth c' D ty σ0 S0 C σ H locs cells slots LS T
  obtain ⟨t, ht⟩ : ∃ t : FieldType, (tysOf ty)[c - 13]? = some (ty c, t) := by
    match c, hc, hc2 with
    | 13, _, _ => exact ⟨_, rfl⟩
    | 14, _, _ => exact ⟨_, rfl⟩
    | 15, _, _ => exact ⟨_, rfl⟩
    | 16, _, _ => exact ⟨_, rfl⟩
    | 17, _, _ => exact ⟨_, rfl⟩
    | 18, _, _ => exact ⟨_, rfl⟩
    | c + 19, _, h => exact absurd h (by omega)
  by_cases h16 : c < 16
  · exact va_alen C.1 C.2.1 C.2.2.2.2.2.2.2.2.2.1.1 T.1.1 (a - 40) (c - 13) (ws_arr hT hc h16) ht rfl hd (kk C T)
  · exact va_alen C.1 C.2.1 C.2.2.2.2.2.2.2.2.2.1.1 T.1.1 (a - 40) (c - 13) (ws_rar hT (by omega)) ht rfl hd (kk C T)
theorem ex_old {σ0 σ : Nat → Nat} {S0 : SH} {sz i : Nat} (hG : Gr σ0 σ S0.1 S.1 sz) (h20 : 40 ≤ S0.1) (hi : i < 40) : σ i = σ0 i := hG.2.1 i (by omega)
/-- a static array's entry, its length, the array itself -/
theorem r_ialdX {a : Nat} {i : Int32} (ha : a < 5) (hi : ix S a i) (hd : decode M.2.1 pc = .ok (.iaload, 1)) (kk : MW M d mcT msT Q (pc + 1) ls (.int (x.1 a i.toNatClampNeg) :: st) S x k n) : MW M d mcT msT Q pc ls (.int i :: .ref a :: st) S x k n := by
  intro p l e R s m args below meth c' D ty σ0 S0 C σ H locs cells slots LS T
  have hex := T.1.2.2.1 a (by omega)
  have hi2 : ¬ (i < 0 ∨ (exV a).length ≤ i.toNatClampNeg) := by rw [← hex.1]; exact hi
  have hlt : i.toNatClampNeg < (exV a).length := Nat.not_le.mp fun q => hi2 (Or.inr q)
  have hs : σ a = σ0 a := ex_old T.2.2.1 C.2.2.2.2.2.2.2.2.2.2.2 (by omega)
  show W p l e R s m args below meth c' H locs cells slots _ (F0 m pc LS (.int i :: .ref (σ a) :: st.map (rv σ)))
  rw [hs]
  exact va_ti (v := .int (x.1 a i.toNatClampNeg)) C.1 C.2.1 (C.2.2.2.2.2.2.2.2.2.2.1.1 a ha).2 T.2.1 hi2 (by rw [hex.2 _ hlt]) hd (kk C T)
theorem r_alenX {a : Nat} (ha : a < 5) (hd : decode M.2.1 pc = .ok (.arraylength, 1)) (kk : MW M d mcT msT Q (pc + 1) ls (.int (nI (S.2.2.1 a)) :: st) S x k n) : MW M d mcT msT Q pc ls (.ref a :: st) S x k n := by
  intro p l e R s m args below meth c' D ty σ0 S0 C σ H locs cells slots LS T
  have hex := T.1.2.2.1 a (by omega)
  have hs : σ a = σ0 a := ex_old T.2.2.1 C.2.2.2.2.2.2.2.2.2.2.2 (by omega)
  show W p l e R s m args below meth c' H locs cells slots _ (F0 m pc LS (.ref (σ a) :: st.map (rv σ)))
  rw [hs]
  exact va_tlen C.1 C.2.1 (C.2.2.2.2.2.2.2.2.2.2.1.1 a ha).2 T.2.1 (by rw [← hex.1]; rfl) hd (kk C T)
theorem r_getst {a i : Nat} (ha : a < 5) (hw : Cond.fieldLink M.1.cls i (exC a) (exF a) "[I" ∈ tb) (hd : decode M.2.1 pc = .ok (.getstatic i, 3)) (kk : MW M d mcT msT Q (pc + 3) ls (.ref a :: st) S x k n) : MW M d mcT msT Q pc ls st S x k n := by
  intro p l e R s m args below meth c' D ty σ0 S0 C σ H locs cells slots LS T
  have hs : σ a = σ0 a := ex_old T.2.2.1 C.2.2.2.2.2.2.2.2.2.2.2 (by omega)
  have hk := kk (l := l) (e := e) (below := below) C T
  rw [show (Value.ref a :: st).map (rv σ) = .ref (σ0 a) :: st.map (rv σ) by rw [← hs]; rfl] at hk
  exact va_gets C.1 C.2.1 (C.2.2.2.2.2.2.2.2.2.2.1.1 a ha).1 T.2.1 C.2.2.2.2.2.2.1 (C.2.2.2.2.2.2.2.1 _ hw) (fun _ h => h) hd hk
/-! ends -/
theorem MQc_at {D : va_G} {ty : Nat → ClassId} {σ0 σ : Nat → Nat} {S0 : SH} {s t : State} {H : Heap} {locs : List Loc} {args : Array Value} {r : Option Value} (hW : WP D ty σ S x H) (hS : va_S (AF σ0 S0 s.heap.size) s.heap H locs) (hG : Gr σ0 σ S0.1 S.1 s.heap.size) (hQ : Q r S x) (ht : t.heap = H) : MQc D ty σ0 S0 Q args s (.returned (r.map (rv σ))) t :=
  ⟨⟨r, σ, S, x, rfl, hQ, by rw [ht]; exact hW, hG⟩, hS.F ht⟩
theorem r_iret {v : Int32} (hr : M.2.2.2 = some .int) (hQ : Q (some (.int v)) S x) (hd : decode M.2.1 pc = .ok (.ireturn, 1)) : MW M d mcT msT Q pc ls [.int v] S x k n := by
  intro p l e R s m args below meth c' D ty σ0 S0 C σ H locs cells slots LS T
  obtain ⟨hW, hS, hG, hL, h1, h2⟩ := T
  refine W.widen (k := mcT) (n := msT) (by omega) (by omega) ?_
  exact W.iret C.1 C.2.1 (C.2.2.2.1.trans hr) (fun t ht _ => MQc_at (r := some (.int v)) hW hS hG hQ ht) hS.2.2 hd C.2.2.2.2.1
theorem r_zret {v : Int32} {rt : FieldType} (hr : M.2.2.2 = some rt) (hn : narrow rt (.int v) = .int v) (hQ : Q (some (.int v)) S x) (hd : decode M.2.1 pc = .ok (.ireturn, 1)) : MW M d mcT msT Q pc ls [.int v] S x k n := by
  intro p l e R s m args below meth c' D ty σ0 S0 C σ H locs cells slots LS T
  obtain ⟨hW, hS, hG, hL, h1, h2⟩ := T
  refine W.widen (k := mcT) (n := msT) (by omega) (by omega) ?_
  exact W.zret C.1 C.2.1 (C.2.2.2.1.trans hr) hn (fun t ht _ => MQc_at (r := some (.int v)) hW hS hG hQ ht) hS.2.2 hd C.2.2.2.2.1
theorem r_lret {v : Int64} (hr : M.2.2.2 = some .long) (hQ : Q (some (.long v)) S x) (hd : decode M.2.1 pc = .ok (.lreturn, 1)) : MW M d mcT msT Q pc ls [.long v] S x k n := by
  intro p l e R s m args below meth c' D ty σ0 S0 C σ H locs cells slots LS T
  obtain ⟨hW, hS, hG, hL, h1, h2⟩ := T
  refine W.widen (k := mcT) (n := msT) (by omega) (by omega) ?_
  exact W.lret C.1 C.2.1 (C.2.2.2.1.trans hr) (fun t ht _ => MQc_at (r := some (.long v)) hW hS hG hQ ht) hS.2.2 hd C.2.2.2.2.1
theorem r_vret (hr : M.2.2.2 = none) (hQ : Q none S x) (hd : decode M.2.1 pc = .ok (.return_, 1)) : MW M d mcT msT Q pc ls [] S x k n := by
  intro p l e R s m args below meth c' D ty σ0 S0 C σ H locs cells slots LS T
  obtain ⟨hW, hS, hG, hL, h1, h2⟩ := T
  refine W.widen (k := mcT) (n := msT) (by omega) (by omega) ?_
  exact W.vret C.1 C.2.1 (C.2.2.2.1.trans hr) (fun t ht _ => MQc_at (r := none) hW hS hG hQ ht) hS.2.2 hd C.2.2.2.2.1
theorem r_aret {a : Nat} {rt : FieldType} (hr : M.2.2.2 = some rt) (hrt : (∃ n, rt = .object n) ∨ ∃ t, rt = .array t) (hQ : Q (some (.ref a)) S x) (hd : decode M.2.1 pc = .ok (.areturn, 1)) : MW M d mcT msT Q pc ls [.ref a] S x k n := by
  intro p l e R s m args below meth c' D ty σ0 S0 C σ H locs cells slots LS T
  obtain ⟨hW, hS, hG, hL, h1, h2⟩ := T
  refine W.widen (k := mcT) (n := msT) (by omega) (by omega) ?_
  exact W.aret C.1 C.2.1 (C.2.2.2.1.trans hr) hrt (Or.inr ⟨_, rfl⟩) (fun t ht _ => MQc_at (r := some (.ref a)) hW hS hG hQ ht) hS.2.2 hd C.2.2.2.2.1
end ARR
