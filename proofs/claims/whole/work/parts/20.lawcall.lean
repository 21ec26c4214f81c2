/-! THE LAW: calls and rows -/
section LAWR
variable {p : Program} {l : Launch} {e : Env} {s : State} {m : MethodId} {below : List Frame} {meth : Method} {c : Code} {D : va_G} {ty : Nat → ClassId} {σ0 : Nat → Nat} {b L : Nat} {xs : Nat → Int32} {kc ks pc pc' : Nat} {ls ls' : List (Option Value)} {st st' st0 : List Value} {Sx Sm : SH} {xx xm : DY}
theorem lw_callX {M' : MI} {As : List Value} {i ci mc ms dd : Nat} {Q' : QT} (C : LC p s m meth c b L xs D ty σ0) (hl : LV R_law i ci M') (hb : LB M' As.length) (hdd : dd ≤ 1300) (hA : MA M' dd (.ref 40 :: As) Sx xx mc ms Q') (hAs : ∀ v ∈ As, nR v) (hTy : TY Sx 40 ci) (hst : ∀ v ∈ st, nR v) (hcat : (st.map fun v => v.category).sum ≤ 8) (h0 : st0 = As.reverse ++ .ref 1 :: st) (hdg : decode code pc = .ok (.invokevirtual i, 3)) (hp : pc' = pc + 3) (hkc : kc + mc ≤ 600000) (hks : ks + ms ≤ 7302250)
    (hQ : ∀ r S' x', Q' r S' x' → ∀ v, r = some v → nR v)
    (kk : ∀ r S' x', Q' r S' x' → Sx.1 ≤ S'.1 → LW p l e s m below meth c D ty σ0 b (kc + mc) (ks + ms) pc' ls (r.toList ++ st) S' x' Sm xm) : LW p l e s m below meth c D ty σ0 b kc ks pc ls st0 Sx xx Sm xm := by
  subst hp h0
  intro σx σm H locs LS T
  obtain ⟨hP, hD, hEx, hEm, hx4, hm4, hσ, hS, hL⟩ := T
  have hW : WP D ty σx Sx xx H := ⟨hP.lft, hD.lft.weaken (fun _ _ _ _ => trivial), hEx, hx4.1, hx4.2⟩
  have hAL : ∀ i, 40 ≤ i → i < Sx.1 → AL s (σx i) := fun i h0 h1 => hD.lft.2 _ _ (wsE_mem h0 h1)
  have hrun := lw_runW (l := l) (e := e) (below := below) (locs := locs) (LS := LS) (rest := st) C hl hb hdd hA hAs hTy hW (fun i hi => (hσ i hi).1) hAL hS hL.1 hcat hdg hkc hks
  have hst0 : (As.reverse ++ .ref 1 :: st).map (rv (rho b (σx 40) (σm 40))) = As.reverse ++ .ref (σx 40) :: st := by
    rw [List.map_append, map_nR (fun v hv => hAs v (List.mem_reverse.mp hv)), List.map_cons, map_nR hst]; rfl
  rw [hst0]
  intro T0 hT X
  obtain ⟨v, st₀, t, T', Lc, h0, X', hL', e1, e2, ⟨⟨r, σ', S', x', hv, hQ', hW', hG'⟩, hF⟩, stp⟩ := hrun T0 hT X
  cases hv
  have h40 : σ' 40 = σx 40 := hG'.2.1 40 hTy.2.1
  have hle : Sx.1 ≤ S'.1 := hG'.1
  have hFk : ∀ q : Nat, q < H.size → ¬ AF σx Sx H.size q → t.heap[q]? = H[q]? := fun q h1 h2 => by
    have := hF.2 q (by rw [h0]; exact h1) (by rw [h0]; exact h2)
    rw [this, h0]
  have hPo : va_P D CL (wsE ty σm Sm xm) t.heap := ws_kept (x := xx) (ty := ty) hP.rgt (fun i j p q hi hj => hD.apt hi hj) hFk
  have hD1 : va_D (AL s) (wsE ty σ' S' x') := hW'.2.1.weaken (fun k q hq _ => by
    obtain ⟨h1, rfl⟩ := wsE_some hq
    by_cases hk : k + 40 < Sx.1
    · show AL s (σ' (k + 40))
      rw [hG'.2.1 _ hk]; exact hAL _ (by omega) hk
    · exact Nat.le_trans hS.1 (by rw [← h0]; exact hG'.2.2.1 _ (by omega) h1))
  have hap : ∀ (i j : Nat) (p q : Nat × va_E), (wsE ty σ' S' x')[i]? = some p → (wsE ty σm Sm xm)[j]? = some q → p.1 ≠ q.1 := fun i j p q hi hj hpq => by
    obtain ⟨h1, rfl⟩ := wsE_some hi
    by_cases hk : i + 40 < Sx.1
    · exact (show (σx (i + 40)) ≠ q.1 from (fun e9 => hD.apt (wsE_mem (by omega) hk) hj e9)) (by rw [← hG'.2.1 _ hk]; exact hpq)
    · have h2 := (hP.rgt j q hj).lt
      have h3 : H.size ≤ σ' (i + 40) := by rw [← h0]; exact hG'.2.2.1 _ (by omega) h1
      have h4 : σ' (i + 40) = q.1 := hpq
      omega
  have hT' : LT D ty s σ0 b σ' S' x' σm Sm xm t.heap (locs ++ Lc) LS ls := by
    refine ⟨hW'.1.app hPo, hD1.app hD.rgt hap, hW'.2.2.1, hEm, hW'.2.2.2, hm4, ?_, ⟨Nat.le_trans hS.1 (by rw [← h0]; exact hF.1), fun q h1 h2 => ?_, fun q hq => ?_⟩, by rw [h40]; exact hL⟩
    · intro i hi
      have := hσ i hi
      exact ⟨by rw [hG'.2.1 i (by have := hTy.2.1; omega)]; exact this.1, this.2⟩
    · rw [hFk q (Nat.lt_of_lt_of_le h1 hS.1) (fun z => h2 ?_)]
      · exact hS.2.1 q h1 h2
      · rcases z with ⟨k, z0, z1, rfl⟩ | z
        · exact hAL k z0 z1
        · exact Nat.le_trans hS.1 z
    · rcases List.mem_append.mp hq with h | h
      · exact hS.2.2 q h
      · rcases hL' q h with ⟨k, z0, z1, z2⟩ | z
        · rw [z2]; exact hAL k z0 z1
        · exact Nat.le_trans hS.1 z
  obtain ⟨t2, a1, b1⟩ := kk r S' x' hQ' hle σ' σm t.heap (locs ++ Lc) LS hT' T' e1 X'
  refine ⟨t2, stp t2 ?_, b1⟩
  have es : ((r.map (rv σ')).toList ++ st : List Value) = (r.toList ++ st).map (rv (rho b (σ' 40) (σm 40))) := by
    rw [List.map_append, map_nR hst]
    cases r with
    | none => rfl
    | some v => 
      have hn := hQ _ _ _ hQ' v rfl
      show rv σ' v :: ([] ++ st) = rv _ v :: ([] ++ st)
      rw [rv_nR hn, rv_nR hn]
  rw [es]
  exact a1

theorem lw_callM {M' : MI} {As : List Value} {i ci mc ms dd : Nat} {Q' : QT} (C : LC p s m meth c b L xs D ty σ0) (hl : LV R_law i ci M') (hb : LB M' As.length) (hdd : dd ≤ 1300) (hA : MA M' dd (.ref 40 :: As) Sm xm mc ms Q') (hAs : ∀ v ∈ As, nR v) (hTy : TY Sm 40 ci) (hst : ∀ v ∈ st, nR v) (hcat : (st.map fun v => v.category).sum ≤ 8) (h0 : st0 = As.reverse ++ .ref 2 :: st) (hdg : decode code pc = .ok (.invokevirtual i, 3)) (hp : pc' = pc + 3) (hkc : kc + mc ≤ 600000) (hks : ks + ms ≤ 7302250)
    (hQ : ∀ r S' x', Q' r S' x' → ∀ v, r = some v → nR v)
    (kk : ∀ r S' x', Q' r S' x' → Sm.1 ≤ S'.1 → LW p l e s m below meth c D ty σ0 b (kc + mc) (ks + ms) pc' ls (r.toList ++ st) Sx xx S' x') : LW p l e s m below meth c D ty σ0 b kc ks pc ls st0 Sx xx Sm xm := by
  subst hp h0
  intro σx σm H locs LS T
  obtain ⟨hP, hD, hEx, hEm, hx4, hm4, hσ, hS, hL⟩ := T
  have hW : WP D ty σm Sm xm H := ⟨hP.rgt, hD.rgt.weaken (fun _ _ _ _ => trivial), hEm, hm4.1, hm4.2⟩
  have hAL : ∀ i, 40 ≤ i → i < Sm.1 → AL s (σm i) := fun i h0 h1 => hD.rgt.2 _ _ (wsE_mem h0 h1)
  have hrun := lw_runW (l := l) (e := e) (below := below) (locs := locs) (LS := LS) (rest := st) C hl hb hdd hA hAs hTy hW (fun i hi => (hσ i hi).2) hAL hS hL.1 hcat hdg hkc hks
  have hst0 : (As.reverse ++ .ref 2 :: st).map (rv (rho b (σx 40) (σm 40))) = As.reverse ++ .ref (σm 40) :: st := by
    rw [List.map_append, map_nR (fun v hv => hAs v (List.mem_reverse.mp hv)), List.map_cons, map_nR hst]; rfl
  rw [hst0]
  intro T0 hT X
  obtain ⟨v, st₀, t, T', Lc, h0, X', hL', e1, e2, ⟨⟨r, σ', S', x', hv, hQ', hW', hG'⟩, hF⟩, stp⟩ := hrun T0 hT X
  cases hv
  have h40 : σ' 40 = σm 40 := hG'.2.1 40 hTy.2.1
  have hle : Sm.1 ≤ S'.1 := hG'.1
  have hFk : ∀ q : Nat, q < H.size → ¬ AF σm Sm H.size q → t.heap[q]? = H[q]? := fun q h1 h2 => by
    have := hF.2 q (by rw [h0]; exact h1) (by rw [h0]; exact h2)
    rw [this, h0]
  have hPo : va_P D CL (wsE ty σx Sx xx) t.heap := ws_kept (x := xm) (ty := ty) hP.lft (fun i j p q hi hj => (hD.apt hj hi).symm) hFk
  have hD1 : va_D (AL s) (wsE ty σ' S' x') := hW'.2.1.weaken (fun k q hq _ => by
    obtain ⟨h1, rfl⟩ := wsE_some hq
    by_cases hk : k + 40 < Sm.1
    · show AL s (σ' (k + 40))
      rw [hG'.2.1 _ hk]; exact hAL _ (by omega) hk
    · exact Nat.le_trans hS.1 (by rw [← h0]; exact hG'.2.2.1 _ (by omega) h1))
  have hap : ∀ (i j : Nat) (p q : Nat × va_E), (wsE ty σ' S' x')[i]? = some p → (wsE ty σx Sx xx)[j]? = some q → p.1 ≠ q.1 := fun i j p q hi hj hpq => by
    obtain ⟨h1, rfl⟩ := wsE_some hi
    by_cases hk : i + 40 < Sm.1
    · exact (show (σm (i + 40)) ≠ q.1 from (fun e9 => hD.apt hj (wsE_mem (by omega) hk) e9.symm)) (by rw [← hG'.2.1 _ hk]; exact hpq)
    · have h2 := (hP.lft j q hj).lt
      have h3 : H.size ≤ σ' (i + 40) := by rw [← h0]; exact hG'.2.2.1 _ (by omega) h1
      have h4 : σ' (i + 40) = q.1 := hpq
      omega
  have hT' : LT D ty s σ0 b σx Sx xx σ' S' x' t.heap (locs ++ Lc) LS ls := by
    refine ⟨hPo.app hW'.1, hD.lft.app hD1 (fun i j p q hi hj hpq => hap j i q p hj hi hpq.symm), hEx, hW'.2.2.1, hx4, hW'.2.2.2, ?_, ⟨Nat.le_trans hS.1 (by rw [← h0]; exact hF.1), fun q h1 h2 => ?_, fun q hq => ?_⟩, by rw [h40]; exact hL⟩
    · intro i hi
      have := hσ i hi
      exact ⟨this.1, by rw [hG'.2.1 i (by have := hTy.2.1; omega)]; exact this.2⟩
    · rw [hFk q (Nat.lt_of_lt_of_le h1 hS.1) (fun z => h2 ?_)]
      · exact hS.2.1 q h1 h2
      · rcases z with ⟨k, z0, z1, rfl⟩ | z
        · exact hAL k z0 z1
        · exact Nat.le_trans hS.1 z
    · rcases List.mem_append.mp hq with h | h
      · exact hS.2.2 q h
      · rcases hL' q h with ⟨k, z0, z1, z2⟩ | z
        · rw [z2]; exact hAL k z0 z1
        · exact Nat.le_trans hS.1 z
  obtain ⟨t2, a1, b1⟩ := kk r S' x' hQ' hle σx σ' t.heap (locs ++ Lc) LS hT' T' e1 X'
  refine ⟨t2, stp t2 ?_, b1⟩
  have es : ((r.map (rv σ')).toList ++ st : List Value) = (r.toList ++ st).map (rv (rho b (σx 40) (σ' 40))) := by
    rw [List.map_append, map_nR hst]
    cases r with
    | none => rfl
    | some v => 
      have hn := hQ _ _ _ hQ' v rfl
      show rv σ' v :: ([] ++ st) = rv _ v :: ([] ++ st)
      rw [rv_nR hn, rv_nR hn]
  rw [es]
  exact a1

theorem LW.pure (h : ∀ {H : Heap} {locs : List Loc} {cells slots : Nat} {Qs : State → Prop} {LS : Array Slot} {σ : Nat → Nat}, LH σ LS 4 ls →
      W p l e room_1 s m #[Value.ref b] below meth c H locs cells slots Qs (F0 m pc' LS (st'.map (rv σ))) → W p l e room_1 s m #[Value.ref b] below meth c H locs cells slots Qs (F0 m pc LS (st.map (rv σ))))
    (kk : LW p l e s m below meth c D ty σ0 b kc ks pc' ls st' Sx xx Sm xm) : LW p l e s m below meth c D ty σ0 b kc ks pc ls st Sx xx Sm xm := by
  intro σx σm H locs LS T
  exact h T.2.2.2.2.2.2.2.2 (kk σx σm H locs LS T)
theorem LW.br {c1 : Prop} {pc1 : Nat} (h : ∀ {H : Heap} {locs : List Loc} {cells slots : Nat} {Qs : State → Prop} {LS : Array Slot} {σ : Nat → Nat},
      (c1 → W p l e room_1 s m #[Value.ref b] below meth c H locs cells slots Qs (F0 m pc1 LS (st'.map (rv σ)))) → (¬ c1 → W p l e room_1 s m #[Value.ref b] below meth c H locs cells slots Qs (F0 m pc' LS (st'.map (rv σ)))) → W p l e room_1 s m #[Value.ref b] below meth c H locs cells slots Qs (F0 m pc LS (st.map (rv σ))))
    (kt : c1 → LW p l e s m below meth c D ty σ0 b kc ks pc1 ls st' Sx xx Sm xm) (kf : ¬ c1 → LW p l e s m below meth c D ty σ0 b kc ks pc' ls st' Sx xx Sm xm) : LW p l e s m below meth c D ty σ0 b kc ks pc ls st Sx xx Sm xm := by
  intro σx σm H locs LS T
  exact h (fun q => kt q σx σm H locs LS T) (fun q => kf q σx σm H locs LS T)
theorem LW.sld {i : Int32} (C : LC p s m meth c b L xs D ty σ0) (hin : vp_in i L) (hd : decode code pc = .ok (.iaload, 1)) (hp : pc' = pc + 1) (kk : LW p l e s m below meth c D ty σ0 b kc ks pc' ls (.int (xs i.toNatClampNeg) :: st) Sx xx Sm xm) : LW p l e s m below meth c D ty σ0 b kc ks pc ls (.int i :: .ref 0 :: st) Sx xx Sm xm := by
  subst hp
  intro σx σm H locs LS T
  exact va_sld C.hx C.hb C.1.2.2.2.2.2.2.1 C.1.2.2.2.2.2.2.2.1 (Nat.not_le.mpr C.1.2.2.2.2.2.2.2.1) T.2.2.2.2.2.2.2.1 hin hd (kk σx σm H locs LS T)
theorem LW.slen (C : LC p s m meth c b L xs D ty σ0) (hd : decode code pc = .ok (.arraylength, 1)) (hp : pc' = pc + 1) (kk : LW p l e s m below meth c D ty σ0 b kc ks pc' ls (.int (nI L) :: st) Sx xx Sm xm) : LW p l e s m below meth c D ty σ0 b kc ks pc ls (.ref 0 :: st) Sx xx Sm xm := by
  subst hp
  intro σx σm H locs LS T
  exact va_slen C.hx C.hb C.1.2.2.2.2.2.2.1 C.1.2.2.2.2.2.2.2.1 (Nat.not_le.mpr C.1.2.2.2.2.2.2.2.1) T.2.2.2.2.2.2.2.1 hd (kk σx σm H locs LS T)
theorem LW.store {i : Nat} {v : Value} (hz : noL ls i = true) (h : ∀ {H : Heap} {locs : List Loc} {cells slots : Nat} {Qs : State → Prop} {LS : Array Slot} {σ : Nat → Nat}, LH σ LS 4 ls →
      (∀ LS' : Array Slot, lv_has LS' 4 ((i, rv σ v) :: (lvO σ ls).filter (fun q => !(q.1 == i) && !(q.1 + 1 == i && q.2.category == 2))) → W p l e room_1 s m #[Value.ref b] below meth c H locs cells slots Qs (F0 m pc' LS' (st'.map (rv σ)))) → W p l e room_1 s m #[Value.ref b] below meth c H locs cells slots Qs (F0 m pc LS (st.map (rv σ))))
    (kk : LW p l e s m below meth c D ty σ0 b kc ks pc' (ls.set i (some v)) st' Sx xx Sm xm) : LW p l e s m below meth c D ty σ0 b kc ks pc ls st Sx xx Sm xm := by
  intro σx σm H locs LS T
  obtain ⟨h1, h2, h3, h4, h5, h6, h7, h8, h9⟩ := T
  exact h h9 (fun LS' hL => kk σx σm H locs LS' ⟨h1, h2, h3, h4, h5, h6, h7, h8, LH.put1 hL hz⟩)
theorem LW.widen {kc' ks' : Nat} (h1 : kc ≤ kc') (h2 : ks ≤ ks') (kk : LW p l e s m below meth c D ty σ0 b kc' ks' pc ls st Sx xx Sm xm) : LW p l e s m below meth c D ty σ0 b kc ks pc ls st Sx xx Sm xm := by
  intro σx σm H locs LS T
  exact W.widen h1 h2 (kk σx σm H locs LS T)
/-- the end: the law answers 1 -/
theorem LW.ret (C : LC p s m meth c b L xs D ty σ0) (hk : kc ≤ 600000) (hn : ks ≤ 7302250) (hd : decode code pc = .ok (.ireturn, 1)) : LW p l e s m below meth c D ty σ0 b kc ks pc ls [.int 1] Sx xx Sm xm := by
  intro σx σm H locs LS T
  refine va_forget (fun q hq => T.2.2.2.2.2.2.2.1.2.2 q hq) ?_
  refine W.widen hk hn ?_
  exact lw_ret C.hx C.hb C.1.2.2.1 C.1.2.2.2.2.2.2.2.2.1 hd
end LAWR
