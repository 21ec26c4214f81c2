/-! THE LAW: its start -/
abbrev mL_cell : MI := (yL_cell, cL_cell, 2, some .int)
theorem lb_L_cell : LB mL_cell 2 := ⟨tb5 90 (by decide +kernel) rfl, tb1 0 (by decide +kernel) rfl, ⟨by decide +kernel, by decide +kernel, by decide +kernel⟩, by decide⟩
theorem ln_L_9 : LSt RL 9 mL_cell := ⟨tb5 88 (by decide +kernel) rfl, tb5 89 (by decide +kernel) rfl⟩
theorem ln_L_15 : LI RL 15 mX11_init := ⟨tb1 23 (by decide +kernel) rfl, tb1 24 (by decide +kernel) rfl, rfl⟩
theorem ln_L_20 : LI RL 20 mX12_init := ⟨tb5 93 (by decide +kernel) rfl, tb5 94 (by decide +kernel) rfl, rfl⟩
theorem lb_X11_init : LB mX11_init 1 := ⟨tb1 25 (by decide +kernel) rfl, tb1 1 (by decide +kernel) rfl, ⟨by decide +kernel, by decide +kernel, by decide +kernel⟩, by decide⟩
theorem lb_X12_init : LB mX12_init 1 := ⟨tb5 95 (by decide +kernel) rfl, tb1 15 (by decide +kernel) rfl, ⟨by decide +kernel, by decide +kernel, by decide +kernel⟩, by decide⟩
def cellV (L : Nat) (xs : Nat → Int32) : Int32 := if nI L ≤ 0 then 0 else xs (0 : Int32).toNatClampNeg
theorem c_cell (l : Launch) (b L : Nat) (xs : Nat → Int32) (hL : L ≤ 2561) : Met l yL_cell (Cond.code yL_cell cL_cell 2 (some .int) :: tb) (rmD 0 0 0) (va_Pc [.ref b, .int 0] (fun U => b < U.heap.size ∧ va_X b L xs U U.heap)) (fun _ st o t => (o = .returned (some (.int (cellV L xs))) ∧ t.heap = st.heap) ∧ va_F (fun _ => False) st t) 0 0 (fun _ => False) := by
  refine va_MetF (by decide +kernel) rfl ?_
  intro p e s m args below meth c s₁ B hml hv
  obtain ⟨rfl, hbl, hX⟩ := hv
  have hx := B.exec
  have hb := B.bytes
  have hr := B.returns
  have hlocks := B.notSynchronized
  have hS : va_S (fun _ : Nat => False) s.heap s.heap [] := va_S.rf
  have hl := lv_entry ([.ref b, .int 0]) (n := 2) (Nat.le_of_ble_eq_true rfl)
  rw [lg_entry_eq]
  generalize (lg_sl ([.ref b, .int 0]) ++ List.replicate (2 - (lg_sl ([.ref b, .int 0])).length) Slot.unset).toArray = ls at hl ⊢
  have hl : lv_has ls 2 [(0, .ref b), (1, .int 0)] := hl
  refine lv_iload_n hx hb dL_cell_0 rfl (lv_at hl 1 rfl) ?_
  refine lv_aload_n hx hb dL_cell_1 rfl (lv_at hl 0 rfl) ?_
  refine va_slen hx hb hX hbl (fun h => h) hS dL_cell_2 ?_
  refine lv_icmp_ge (tgt := 12) hx hb dL_cell_3 (by decide) (fun h0 => ?_) (fun h0 => ?_)
  · refine lv_iconst (v := 0) hx hb dL_cell_12 (by decide) ?_
    exact W.iret (v := 0) hx hb hr (fun t ht hW => ⟨⟨by unfold cellV; rw [if_pos (show nI L ≤ 0 from h0)], ht⟩, hS.F ht⟩) hS.2.2 dL_cell_13
  · refine lv_aload_n hx hb dL_cell_6 rfl (lv_at hl 0 rfl) ?_
    refine lv_iload_n hx hb dL_cell_7 rfl (lv_at hl 1 rfl) ?_
    have hin : vp_in (0 : Int32) L := by
      have h1 : 0 < L := by
        rcases Nat.eq_zero_or_pos L with h | h
        · subst h; exact absurd (by decide) h0
        · exact h
      have h2 := vp_in_nI (n := 0) (N := L) h1 (by omega)
      exact h2
    refine va_sld hx hb hX hbl (fun h => h) hS hin dL_cell_8 ?_
    refine lv_goto (tgt := 13) hx hb dL_cell_9 (by decide) ?_
    exact W.iret (v := xs (0 : Int32).toNatClampNeg) hx hb hr (fun t ht hW => ⟨⟨by unfold cellV; rw [if_neg (show ¬ nI L ≤ 0 from h0)], ht⟩, hS.F ht⟩) hS.2.2 dL_cell_13
section LAWS
variable {p : Program} {l : Launch} {e : Env} {s : State} {m : MethodId} {below : List Frame} {meth : Method} {c : Code} {D : va_G} {ty : Nat → ClassId} {σ0 : Nat → Nat} {b L : Nat} {xs : Nat → Int32} {kc ks pc pc' : Nat} {ls ls' : List (Option Value)} {st st' st0 : List Value} {Sx Sm : SH} {xx xm : DY}
theorem lw_cell (C : LC p s m meth c b L xs D ty σ0) (hL : L ≤ 2561) (hcat : (st.map fun v => v.category).sum ≤ 8) (hdg : decode code pc = .ok (.invokestatic 9, 3)) (hp : pc' = pc + 3) (hkc : kc ≤ 600000) (hks : ks ≤ 7302250)
    (kk : LW p l e s m below meth c D ty σ0 b kc ks pc' ls (.int (cellV L xs) :: st) Sx xx Sm xm) : LW p l e s m below meth c D ty σ0 b kc ks pc ls (.int 0 :: .ref 0 :: st) Sx xx Sm xm := by
  subst hp
  intro σx σm H locs LS T
  have hS := T.2.2.2.2.2.2.2.1
  have hLS := T.2.2.2.2.2.2.2.2
  obtain ⟨l1, l2⟩ := ln_L_9
  obtain ⟨b1, b2, b3, b4⟩ := lb_L_cell
  have hts := C.tbs
  have hXs := C.1.2.2.2.2.2.2.1
  have hbl := C.1.2.2.2.2.2.2.2.1
  have hrun := va_runS (l := l) (e := e) (below := below) (meth := meth) (H := H) (locs := locs) (cells := kc) (slots := ks) (R := room_1) (g := F0 m pc LS ([.int 0, .ref b] ++ st.map (rv (rho b (σx 40) (σm 40))))) (As := [.ref b, .int 0]) (rest := st.map (rv (rho b (σx 40) (σm 40)))) ⟨C.hx, C.hb, C.1.2.2.2.1, C.1.2.2.2.2.1, hts⟩ (c_cell l b L xs hL) ⟨callB_of 2 hts (tb_call b1) rfl rfl rfl (hts _ b2) (hts _ l1) b3 ⟨by decide, by decide⟩, hts _ l2⟩
    ⟨fun a U g mk h => h, fun U hU hv => ⟨rfl, by rw [hU]; exact Nat.lt_of_lt_of_le hbl hS.1, (va_X.moved hv.alike hXs).kept (by rw [hU]; exact hS.2.1 b hbl (Nat.not_le.mpr hbl))⟩⟩ rfl rfl hLS.1 rfl (st_cat (pc := pc) (m := m) (LS := LS) (st0 := []) hcat) hdg ⟨hkc, hks⟩
  intro T0 hT X
  obtain ⟨v, st₀, t, T', Lc, h0, X', hL', e1, e2, ⟨⟨hv, hh⟩, hF⟩, stp⟩ := hrun T0 hT X
  cases hv
  have hH : t.heap = H := hh.trans h0
  obtain ⟨t2, a1, b1⟩ := kk σx σm t.heap (locs ++ Lc) LS (by
    rw [hH]
    refine ⟨T.1, T.2.1, T.2.2.1, T.2.2.2.1, T.2.2.2.2.1, T.2.2.2.2.2.1, T.2.2.2.2.2.2.1, ⟨hS.1, hS.2.1, fun q hq => ?_⟩, hLS⟩
    rcases List.mem_append.mp hq with h | h
    · exact hS.2.2 q h
    · exact (hL' q h).elim) T' e1 X'
  exact ⟨t2, stp t2 a1, b1⟩
abbrev E0 : SH := (40, fun _ => 0, fun i => (exV i).length, fun _ _ => none)
abbrev X0 : DY := (fun i j => (exV i).getD j 0, fun _ _ => 0)
theorem EX0 : EX E0 X0 := fun i _ => ⟨rfl, fun j _ => rfl⟩
theorem RI0 : RI E0 := fun a k b h => by cases h
theorem ws0 {σ : Nat → Nat} : wsE ty σ E0 X0 = [] := rfl
theorem lw_newX (C : LC p s m meth c b L xs D ty σ0) (hd : decode code pc = .ok (.new 7, 3)) (hp : pc' = pc + 3) (hkc : kc + 1 ≤ 600000) (hks : ks + 7 ≤ 7302250)
    (kk : LW p l e s m below meth c D ty σ0 b (kc + 1) (ks + 7) pc' [some (.ref 0)] [.ref 1] (SN E0 11 0) (XN X0 40) E0 X0) : LW p l e s m below meth c D ty σ0 b kc ks pc [some (.ref 0)] [] E0 X0 E0 X0 := by
  subst hp
  intro σx σm H locs LS T
  obtain ⟨hP, hD, hEx, hEm, hx4, hm4, hσ, hS, hL⟩ := T
  have hts := C.tbs
  refine va_new (ci := 11) (fs := dfl 11) (N := cN 11) C.hx C.hb hts (cW_all 11 (by decide)) (cTy 11) (cOk 11 (by decide)) C.1.2.2.2.2.1 (hts _ (tb1 21 (by decide +kernel) rfl)) (hts _ (tb1 22 (by decide +kernel) rfl)) (hts _ (tb1 1 (by decide +kernel) rfl)) C.2.1.1 hP hD hS (fun q hq => hq) (CL_at 11 (by decide)) (fun j hj => ?_) hkc hks hd (fun q H1 hP1 hD1 hS1 => ?_)
  · unfold vp_V dfl
    rw [List.getD_eq_getElem?_getD, List.getElem?_map, List.getElem?_range hj]
    show _ = (match cTy 11 j with | .int => .int 0 | .long => .long 0 | _ => .null : Value)
    exact c_dflt 11 (by decide) j hj
  · have hw : wsE ty (fun j => if j = 40 then q else σx j) (SN E0 11 0) (XN X0 40) ++ wsE ty σm E0 X0 = wsE ty σx E0 X0 ++ wsE ty σm E0 X0 ++ [(q, .inr (11, dfl 11))] := by
      have e1 := wsE_new (S := E0) (x := X0) (ty := ty) (c := 11) (len := 0) (σ := σx) (σ' := fun j => if j = 40 then q else σx j) (q := q) (by decide) RI0 (fun k hk => if_neg (by have : k < 40 := hk; omega)) (if_pos rfl)
      exact congrArg (· ++ wsE ty σm E0 X0) e1
    have k1 := kk (fun j => if j = 40 then q else σx j) σm H1 locs LS ⟨by rw [hw]; exact hP1, by rw [hw]; exact hD1, hEx.new (by decide), hEm, ⟨by decide, hx4.2.new⟩, hm4, fun i hi => ⟨(if_neg (by omega)).trans (hσ i hi).1, (hσ i hi).2⟩, hS1, ⟨hL.1, hL.2.1, fun j v hj => by
      match j, hj with
      | 0, hj => cases hj; exact hL.2.2 0 _ rfl
      | j + 1, hj => simp at hj⟩⟩
    exact k1
theorem lw_newM (C : LC p s m meth c b L xs D ty σ0) (hd : decode code pc = .ok (.new 18, 3)) (hp : pc' = pc + 3) (hkc : kc + 1 ≤ 600000) (hks : ks + 67 ≤ 7302250)
    (kk : LW p l e s m below meth c D ty σ0 b (kc + 1) (ks + 67) pc' [some (.ref 0), some (.ref 1)] [.ref 2] Sx xx (SN E0 12 0) (XN X0 40)) : LW p l e s m below meth c D ty σ0 b kc ks pc [some (.ref 0), some (.ref 1)] [] Sx xx E0 X0 := by
  subst hp
  intro σx σm H locs LS T
  obtain ⟨hP, hD, hEx, hEm, hx4, hm4, hσ, hS, hL⟩ := T
  have hts := C.tbs
  refine va_new (ci := 12) (fs := dfl 12) (N := cN 12) C.hx C.hb hts (cW_all 12 (by decide)) (cTy 12) (cOk 12 (by decide)) C.1.2.2.2.2.1 (hts _ (tb5 91 (by decide +kernel) rfl)) (hts _ (tb5 92 (by decide +kernel) rfl)) (hts _ (tb1 15 (by decide +kernel) rfl)) C.2.1.1 hP hD hS (fun q hq => hq) (CL_at 12 (by decide)) (fun j hj => ?_) hkc hks hd (fun q H1 hP1 hD1 hS1 => ?_)
  · unfold vp_V dfl
    rw [List.getD_eq_getElem?_getD, List.getElem?_map, List.getElem?_range hj]
    show _ = (match cTy 12 j with | .int => .int 0 | .long => .long 0 | _ => .null : Value)
    exact c_dflt 12 (by decide) j hj
  · have hw : wsE ty σx Sx xx ++ wsE ty (fun j => if j = 40 then q else σm j) (SN E0 12 0) (XN X0 40) = wsE ty σx Sx xx ++ wsE ty σm E0 X0 ++ [(q, .inr (12, dfl 12))] := by
      have e1 := wsE_new (S := E0) (x := X0) (ty := ty) (c := 12) (len := 0) (σ := σm) (σ' := fun j => if j = 40 then q else σm j) (q := q) (by decide) RI0 (fun k hk => if_neg (by have : k < 40 := hk; omega)) (if_pos rfl)
      rw [List.append_assoc]
      exact congrArg (wsE ty σx Sx xx ++ ·) e1
    have k1 := kk σx (fun j => if j = 40 then q else σm j) H1 locs LS ⟨by rw [hw]; exact hP1, by rw [hw]; exact hD1, hEx, hEm.new (by decide), hx4, ⟨by decide, hm4.2.new⟩, fun i hi => ⟨(hσ i hi).1, (if_neg (by omega)).trans (hσ i hi).2⟩, hS1, ⟨hL.1, hL.2.1, fun j v hj => by
      match j, hj with
      | 0, hj => cases hj; exact hL.2.2 0 _ rfl
      | 1, hj => cases hj; exact hL.2.2 1 _ rfl
      | j + 2, hj => simp at hj⟩⟩
    exact k1
theorem rho_cat {σ : Nat → Nat} (h : (st.map fun v => v.category).sum ≤ 8) : ((st.map (rv σ)).map fun v => v.category).sum ≤ 8 := by
  rw [List.map_map, show ((fun v : Value => v.category) ∘ rv σ) = (fun v : Value => v.category) from funext (rv_cat σ)]
  exact h
theorem lw_runI {M' : MI} {As : List Value} {i mc ms dd : Nat} {σ : Nat → Nat} {S : SH} {x : DY} {Q' : QT} {H : Heap} {locs : List Loc} {LS : Array Slot} {rest : List Value} (C : LC p s m meth c b L xs D ty σ0) (hl : LI RL i M') (hnn : M'.2.2.2 = none) (hb : LB M' As.length) (hdd : dd ≤ 1300) (hA : MA M' dd (.ref 40 :: As) S x mc ms Q') (hAs : ∀ v ∈ As, nR v) (hW : WP D ty σ S x H) (hσ : ∀ i, i < 40 → σ i = σ0 i) (hAL : ∀ i, 40 ≤ i → i < S.1 → AL s (σ i)) (hS : va_S (AL s) s.heap H locs) (hLS : LS.size = 4) (hcat : (rest.map fun v => v.category).sum ≤ 8) (hdg : decode code pc = .ok (.invokespecial i, 3)) (hkc : kc + mc ≤ 600000) (hks : ks + ms ≤ 7302250) :
    va_Run p l e room_1 s m #[Value.ref b] below meth c H locs kc ks mc ms (F0 m pc LS (As.reverse ++ .ref (σ 40) :: rest)) rest (MQc D ty σ S Q' (Value.ref (σ 40) :: As).toArray) (AF σ S H.size) := by
  obtain ⟨l1, l2, l3⟩ := hl
  obtain ⟨b1, b2, b3, b4⟩ := hb
  have hts := C.tbs
  have hWat : ∀ U : State, U.heap = H → s.WarmedH U.vm → Wat D ty σ S x U := fun U hU hv => by
    refine ⟨WE.alike hv C.2.1, ?_, by rw [hU]; exact hW⟩
    rw [hU]
    refine EXT.step (u := s) (H := s.heap) hv.alike (fun h => vk_R.warm hv h) (fun a h1 h2 => hS.2.1 a h1 h2) (fun q hq => ?_) hσ C.2.2
    rcases hq with ⟨k, h0, h1, rfl⟩ | hq
    · exact hAL k h0 h1
    · exact Nat.le_trans hS.1 hq
  have hM := hA l D ty σ H.size
  have hG := tb_call b1
  rw [hnn] at hM hG
  rw [show (Value.ref 40 :: As).map (rv σ) = .ref (σ 40) :: As by rw [List.map_cons, map_nR hAs]; rfl] at hM
  exact va_runI (As := As) ⟨C.hx, C.hb, C.1.2.2.2.1, C.1.2.2.2.2.1, hts⟩ hM ⟨callB_of As.length hts hG rfl rfl rfl (hts _ b2) (hts _ l1) b3 ⟨by show dd + 1 ≤ 2048; omega, by show 8 + (M'.2.2.1 + 11) + 64 * dd ≤ 84000; omega⟩, l3, hts _ l2⟩
    ⟨Wat.blind, fun U hU hv => ⟨rfl, by rw [hU], hWat U hU hv⟩⟩ rfl rfl hLS rfl (lv_room hcat) (by exact hdg) ⟨hkc, hks⟩
theorem lw_initX {M' : MI} {As : List Value} {i ci mc ms dd : Nat} {Q' : QT} (C : LC p s m meth c b L xs D ty σ0) (hl : LI RL i M') (hnn : M'.2.2.2 = none) (hb : LB M' As.length) (hdd : dd ≤ 1300) (hA : MA M' dd (.ref 40 :: As) Sx xx mc ms Q') (hAs : ∀ v ∈ As, nR v) (hTy : TY Sx 40 ci) (hcat : (st.map fun v => v.category).sum ≤ 8) (h0 : st0 = As.reverse ++ .ref 1 :: st) (hdg : decode code pc = .ok (.invokespecial i, 3)) (hp : pc' = pc + 3) (hkc : kc + mc ≤ 600000) (hks : ks + ms ≤ 7302250)
    (hQ : ∀ r S' x', Q' r S' x' → r = none)
    (kk : ∀ S' x', Q' none S' x' → Sx.1 ≤ S'.1 → LW p l e s m below meth c D ty σ0 b (kc + mc) (ks + ms) pc' ls st S' x' Sm xm) : LW p l e s m below meth c D ty σ0 b kc ks pc ls st0 Sx xx Sm xm := by
  subst hp h0
  intro σx σm H locs LS T
  obtain ⟨hP, hD, hEx, hEm, hx4, hm4, hσ, hS, hL⟩ := T
  have hW : WP D ty σx Sx xx H := ⟨hP.lft, hD.lft.weaken (fun _ _ _ _ => trivial), hEx, hx4.1, hx4.2⟩
  have hAL : ∀ i, 40 ≤ i → i < Sx.1 → AL s (σx i) := fun i h0 h1 => hD.lft.2 _ _ (wsE_mem h0 h1)
  have hrun := lw_runI (l := l) (e := e) (below := below) (locs := locs) (LS := LS) (rest := st.map (rv (rho b (σx 40) (σm 40)))) C hl hnn hb hdd hA hAs hW (fun i hi => (hσ i hi).1) hAL hS hL.1 (rho_cat hcat) hdg hkc hks
  have hst0 : (As.reverse ++ .ref 1 :: st).map (rv (rho b (σx 40) (σm 40))) = As.reverse ++ .ref (σx 40) :: st.map (rv (rho b (σx 40) (σm 40))) := by
    rw [List.map_append, map_nR (fun v hv => hAs v (List.mem_reverse.mp hv)), List.map_cons]; rfl
  rw [hst0]
  intro T0 hT X
  obtain ⟨v, st₀, t, T', Lc, h0, X', hL', e1, e2, ⟨⟨r, σ', S', x', hv, hQ', hW', hG'⟩, hF⟩, stp⟩ := hrun T0 hT X
  cases hv
  have hrn := hQ _ _ _ hQ'
  subst hrn
  have h40 : σ' 40 = σx 40 := hG'.2.1 40 hTy.2.1
  have hle : Sx.1 ≤ S'.1 := hG'.1
  have hFk : ∀ q : Nat, q < H.size → ¬ AF σx Sx H.size q → t.heap[q]? = H[q]? := fun q h1 h2 => by
    have := hF.2 q (by rw [h0]; exact h1) (by rw [h0]; exact h2)
    rw [this, h0]
  have hPo : va_P D CL (wsE ty σm Sm xm) t.heap := ws_kept (x := xx) (ty := ty) hP.rgt (fun i j p q hi hj => hD.apt hi hj) hFk
  have hD1 : va_D (AL s) (wsE ty σ' S' x') := hW'.2.1.weaken (fun k q hq _ => by
    obtain ⟨h1, rfl⟩ := wsE_some hq
    by_cases hk : k + 40 < Sx.1
    · show AL s (σ' (k + 40))
      rw [hG'.2.1 _ hk]; exact hAL _ (by omega) hk
    · exact Nat.le_trans hS.1 (by rw [← h0]; exact hG'.2.2.1 _ (by omega) h1))
  have hap : ∀ (i j : Nat) (p q : Nat × va_E), (wsE ty σ' S' x')[i]? = some p → (wsE ty σm Sm xm)[j]? = some q → p.1 ≠ q.1 := fun i j p q hi hj hpq => by
    obtain ⟨h1, rfl⟩ := wsE_some hi
    by_cases hk : i + 40 < Sx.1
    · exact (show (σx (i + 40)) ≠ q.1 from (fun e9 => hD.apt (wsE_mem (by omega) hk) hj e9)) (by rw [← hG'.2.1 _ hk]; exact hpq)
    · have h2 := (hP.rgt j q hj).lt
      have h3 : H.size ≤ σ' (i + 40) := by rw [← h0]; exact hG'.2.2.1 _ (by omega) h1
      have h4 : σ' (i + 40) = q.1 := hpq
      omega
  have hT' : LT D ty s σ0 b σ' S' x' σm Sm xm t.heap (locs ++ Lc) LS ls := by
    refine ⟨hW'.1.app hPo, hD1.app hD.rgt hap, hW'.2.2.1, hEm, hW'.2.2.2, hm4, ?_, ⟨Nat.le_trans hS.1 (by rw [← h0]; exact hF.1), fun q h1 h2 => ?_, fun q hq => ?_⟩, by rw [h40]; exact hL⟩
    · intro i hi
      have := hσ i hi
      exact ⟨by rw [hG'.2.1 i (by have := hTy.2.1; omega)]; exact this.1, this.2⟩
    · rw [hFk q (Nat.lt_of_lt_of_le h1 hS.1) (fun z => h2 ?_)]
      · exact hS.2.1 q h1 h2
      · rcases z with ⟨k, z0, z1, rfl⟩ | z
        · exact hAL k z0 z1
        · exact Nat.le_trans hS.1 z
    · rcases List.mem_append.mp hq with h | h
      · exact hS.2.2 q h
      · rcases hL' q h with ⟨k, z0, z1, z2⟩ | z
        · rw [z2]; exact hAL k z0 z1
        · exact Nat.le_trans hS.1 z
  obtain ⟨t2, a1, b1⟩ := kk S' x' hQ' hle σ' σm t.heap (locs ++ Lc) LS hT' T' e1 X'
  refine ⟨t2, stp t2 ?_, b1⟩
  rw [h40] at a1
  exact a1
theorem lw_initM {M' : MI} {As : List Value} {i ci mc ms dd : Nat} {Q' : QT} (C : LC p s m meth c b L xs D ty σ0) (hl : LI RL i M') (hnn : M'.2.2.2 = none) (hb : LB M' As.length) (hdd : dd ≤ 1300) (hA : MA M' dd (.ref 40 :: As) Sm xm mc ms Q') (hAs : ∀ v ∈ As, nR v) (hTy : TY Sm 40 ci) (hcat : (st.map fun v => v.category).sum ≤ 8) (h0 : st0 = As.reverse ++ .ref 2 :: st) (hdg : decode code pc = .ok (.invokespecial i, 3)) (hp : pc' = pc + 3) (hkc : kc + mc ≤ 600000) (hks : ks + ms ≤ 7302250)
    (hQ : ∀ r S' x', Q' r S' x' → r = none)
    (kk : ∀ S' x', Q' none S' x' → Sm.1 ≤ S'.1 → LW p l e s m below meth c D ty σ0 b (kc + mc) (ks + ms) pc' ls st Sx xx S' x') : LW p l e s m below meth c D ty σ0 b kc ks pc ls st0 Sx xx Sm xm := by
  subst hp h0
  intro σx σm H locs LS T
  obtain ⟨hP, hD, hEx, hEm, hx4, hm4, hσ, hS, hL⟩ := T
  have hW : WP D ty σm Sm xm H := ⟨hP.rgt, hD.rgt.weaken (fun _ _ _ _ => trivial), hEm, hm4.1, hm4.2⟩
  have hAL : ∀ i, 40 ≤ i → i < Sm.1 → AL s (σm i) := fun i h0 h1 => hD.rgt.2 _ _ (wsE_mem h0 h1)
  have hrun := lw_runI (l := l) (e := e) (below := below) (locs := locs) (LS := LS) (rest := st.map (rv (rho b (σx 40) (σm 40)))) C hl hnn hb hdd hA hAs hW (fun i hi => (hσ i hi).2) hAL hS hL.1 (rho_cat hcat) hdg hkc hks
  have hst0 : (As.reverse ++ .ref 2 :: st).map (rv (rho b (σx 40) (σm 40))) = As.reverse ++ .ref (σm 40) :: st.map (rv (rho b (σx 40) (σm 40))) := by
    rw [List.map_append, map_nR (fun v hv => hAs v (List.mem_reverse.mp hv)), List.map_cons]; rfl
  rw [hst0]
  intro T0 hT X
  obtain ⟨v, st₀, t, T', Lc, h0, X', hL', e1, e2, ⟨⟨r, σ', S', x', hv, hQ', hW', hG'⟩, hF⟩, stp⟩ := hrun T0 hT X
  cases hv
  have hrn := hQ _ _ _ hQ'
  subst hrn
  have h40 : σ' 40 = σm 40 := hG'.2.1 40 hTy.2.1
  have hle : Sm.1 ≤ S'.1 := hG'.1
  have hFk : ∀ q : Nat, q < H.size → ¬ AF σm Sm H.size q → t.heap[q]? = H[q]? := fun q h1 h2 => by
    have := hF.2 q (by rw [h0]; exact h1) (by rw [h0]; exact h2)
    rw [this, h0]
  have hPo : va_P D CL (wsE ty σx Sx xx) t.heap := ws_kept (x := xm) (ty := ty) hP.lft (fun i j p q hi hj => (hD.apt hj hi).symm) hFk
  have hD1 : va_D (AL s) (wsE ty σ' S' x') := hW'.2.1.weaken (fun k q hq _ => by
    obtain ⟨h1, rfl⟩ := wsE_some hq
    by_cases hk : k + 40 < Sm.1
    · show AL s (σ' (k + 40))
      rw [hG'.2.1 _ hk]; exact hAL _ (by omega) hk
    · exact Nat.le_trans hS.1 (by rw [← h0]; exact hG'.2.2.1 _ (by omega) h1))
  have hap : ∀ (i j : Nat) (p q : Nat × va_E), (wsE ty σ' S' x')[i]? = some p → (wsE ty σx Sx xx)[j]? = some q → p.1 ≠ q.1 := fun i j p q hi hj hpq => by
    obtain ⟨h1, rfl⟩ := wsE_some hi
    by_cases hk : i + 40 < Sm.1
    · exact (show (σm (i + 40)) ≠ q.1 from (fun e9 => hD.apt hj (wsE_mem (by omega) hk) e9.symm)) (by rw [← hG'.2.1 _ hk]; exact hpq)
    · have h2 := (hP.lft j q hj).lt
      have h3 : H.size ≤ σ' (i + 40) := by rw [← h0]; exact hG'.2.2.1 _ (by omega) h1
      have h4 : σ' (i + 40) = q.1 := hpq
      omega
  have hT' : LT D ty s σ0 b σx Sx xx σ' S' x' t.heap (locs ++ Lc) LS ls := by
    refine ⟨hPo.app hW'.1, hD.lft.app hD1 (fun i j p q hi hj hpq => hap j i q p hj hi hpq.symm), hEx, hW'.2.2.1, hx4, hW'.2.2.2, ?_, ⟨Nat.le_trans hS.1 (by rw [← h0]; exact hF.1), fun q h1 h2 => ?_, fun q hq => ?_⟩, by rw [h40]; exact hL⟩
    · intro i hi
      have := hσ i hi
      exact ⟨this.1, by rw [hG'.2.1 i (by have := hTy.2.1; omega)]; exact this.2⟩
    · rw [hFk q (Nat.lt_of_lt_of_le h1 hS.1) (fun z => h2 ?_)]
      · exact hS.2.1 q h1 h2
      · rcases z with ⟨k, z0, z1, rfl⟩ | z
        · exact hAL k z0 z1
        · exact Nat.le_trans hS.1 z
    · rcases List.mem_append.mp hq with h | h
      · exact hS.2.2 q h
      · rcases hL' q h with ⟨k, z0, z1, z2⟩ | z
        · rw [z2]; exact hAL k z0 z1
        · exact Nat.le_trans hS.1 z
  obtain ⟨t2, a1, b1⟩ := kk S' x' hQ' hle σx σ' t.heap (locs ++ Lc) LS hT' T' e1 X'
  refine ⟨t2, stp t2 ?_, b1⟩
  rw [h40] at a1
  exact a1
end LAWS
