/-! THE LAW: from its entry to its loop -/
section WALK
variable {p : Program} {l : Launch} {e : Env} {s : State} {m : MethodId} {below : List Frame} {meth : Method} {c : Code} {D : va_G} {ty : Nat → ClassId} {σ0 : Nat → Nat} {b L : Nat} {xs : Nat → Int32} {kc ks pc pc' : Nat} {ls ls' : List (Option Value)} {st : List Value} {Sx Sm : SH} {xx xm : DY}
theorem LW.pad (hs : ∀ (j : Nat) (v : Value), ls'[j]? = some (some v) → ls[j]? = some (some v)) (kk : LW p l e s m below meth c D ty σ0 b kc ks pc ls' st Sx xx Sm xm) : LW p l e s m below meth c D ty σ0 b kc ks pc ls st Sx xx Sm xm := by
  intro σx σm H locs LS T
  obtain ⟨h1, h2, h3, h4, h5, h6, h7, h8, h9⟩ := T
  exact kk σx σm H locs LS ⟨h1, h2, h3, h4, h5, h6, h7, h8, h9.1, h9.2.1, fun j v hj => h9.2.2 j v (hs j v hj)⟩
theorem pad1 {l : List (Option Value)} : ∀ (j : Nat) (v : Value), (l ++ [none])[j]? = some (some v) → l[j]? = some (some v) := fun j v h => by
  by_cases hj : j < l.length
  · rw [List.getElem?_append_left hj] at h; exact h
  · rw [List.getElem?_append_right (by omega)] at h
    match hk : j - l.length, h with
    | 0, h => simp at h
    | k + 1, h => simp at h
theorem law_walk (C : LC p s m meth c b L xs D ty σ0) (hL : L ≤ 2561) : LW p l e s m below meth c D ty σ0 b 0 0 0 [some (.ref 0)] [] E0 X0 E0 X0 := by
  obtain ⟨S1, x1, S2, x2, hi1, hi2, hW⟩ := init_ok (cellV L xs)
  refine lw_newX (pc' := 3) C dL_law_0 rfl (by decide) (by decide) ?_
  refine LW.pure (pc' := 4) (st' := [.ref 1, .ref 1]) (fun hl k => lv_dup C.hx C.hb dL_law_3 rfl k) ?_
  refine LW.pure (pc' := 5) (st' := [.ref 0, .ref 1, .ref 1]) (fun hl k => lv_aload_n C.hx C.hb dL_law_4 rfl (hl.get (j := 0) (v := .ref 0) rfl) k) ?_
  refine LW.pure (pc' := 6) (st' := [.int 0, .ref 0, .ref 1, .ref 1]) (fun hl k => lv_iconst C.hx C.hb dL_law_5 (by decide) k) ?_
  refine lw_cell (pc' := 9) (st := [.ref 1, .ref 1]) C hL (by decide) dL_law_6 rfl (by decide) (by decide) ?_
  refine lw_initX (pc' := 12) (st := [.ref 1]) (As := [.int (cellV L xs)]) (ci := 11) (mc := 110) (ms := 8970) (dd := 1300) C ln_L_15 rfl lb_X11_init (by decide) (tA_X11_init (N := 1000) (d := 1300) (by decide) _ hi1) (fun v hv => by rw [List.mem_singleton.mp hv]; trivial) ⟨by decide, by decide, rfl⟩ (by decide) rfl dL_law_9 rfl (by decide) (by decide) (fun r S' x' h => h.1) (fun S' x' h hle => ?_)
  obtain ⟨-, h1, h2⟩ := h
  have h1 : S' = S1 := h1
  have h2 : x' = x1 := h2
  subst h1; subst h2
  refine LW.pad (ls' := [some (.ref 0), none]) (pad1 (l := [some (.ref 0)])) ?_
  refine LW.store (i := 1) (v := .ref 1) (pc' := 13) (st' := []) rfl (fun hl k => lv_astore_n C.hx C.hb dL_law_12 rfl hl.has (by decide) rfl k) ?_
  refine lw_newM (pc' := 16) C dL_law_13 rfl (by decide) (by decide) ?_
  refine LW.pure (pc' := 17) (st' := [.ref 2, .ref 2]) (fun hl k => lv_dup C.hx C.hb dL_law_16 rfl k) ?_
  refine LW.pure (pc' := 18) (st' := [.ref 0, .ref 2, .ref 2]) (fun hl k => lv_aload_n C.hx C.hb dL_law_17 rfl (hl.get (j := 0) (v := .ref 0) rfl) k) ?_
  refine LW.pure (pc' := 19) (st' := [.int 0, .ref 0, .ref 2, .ref 2]) (fun hl k => lv_iconst C.hx C.hb dL_law_18 (by decide) k) ?_
  refine lw_cell (pc' := 22) (st := [.ref 2, .ref 2]) C hL (by decide) dL_law_19 rfl (by decide) (by decide) ?_
  refine lw_initM (pc' := 25) (st := [.ref 2]) (As := [.int (cellV L xs)]) (ci := 12) (mc := 40) (ms := 5582) (dd := 1300) C ln_L_20 rfl lb_X12_init (by decide) (tA_X12_init (N := 1000) (d := 1300) (by decide) _ hi2) (fun v hv => by rw [List.mem_singleton.mp hv]; trivial) ⟨by decide, by decide, rfl⟩ (by decide) rfl dL_law_22 rfl (by decide) (by decide) (fun r S' x' h => h.1) (fun S'' x'' h hle2 => ?_)
  obtain ⟨-, h1, h2⟩ := h
  have h1 : S'' = S2 := h1
  have h2 : x'' = x2 := h2
  subst h1; subst h2
  refine LW.pad (ls' := [some (.ref 0), some (.ref 1), none]) (pad1 (l := [some (.ref 0), some (.ref 1)])) ?_
  refine LW.store (i := 2) (v := .ref 2) (pc' := 26) (st' := []) rfl (fun hl k => lv_astore_n C.hx C.hb dL_law_25 rfl hl.has (by decide) rfl k) ?_
  refine LW.pure (pc' := 27) (st' := [.int 1]) (fun hl k => lv_iconst C.hx C.hb dL_law_26 (by decide) k) ?_
  refine LW.pad (ls' := [some (.ref 0), some (.ref 1), some (.ref 2), none]) (pad1 (l := [some (.ref 0), some (.ref 1), some (.ref 2)])) ?_
  refine LW.store (i := 3) (v := .int 1) (pc' := 28) (st' := []) rfl (fun hl k => lv_istore_n C.hx C.hb dL_law_27 rfl hl.has (by decide) rfl k) ?_
  exact law_loop C hL lawok (K0 := 152) (S0 := 14626) (by decide) (by decide) 513 0 0 S' x' S'' x'' (by decide) (by decide) (by decide) hW
theorem whole_start (l : Launch) (hflags : l.flags = flags0) (hL : L ≤ 2561) (hA : lw_At p s m meth c b L xs) : W p l e room_1 s m #[Value.ref b] below meth c s.heap [] 0 0 (lw_Z below #[Value.ref b] s) (entryFrame m ([Value.ref b] : List Value).toArray 4) := by
  have hts := hA.2.2.2.2.2.1
  have hgv := hA.2.2.2.2.2.2.2.2.2
  obtain ⟨D, ty, hWE⟩ := lw_WE hts
  obtain ⟨σ0, hext⟩ := ext_start hts hgv
  have C : LC p s m meth c b L xs D ty σ0 := ⟨hA, hWE, hext⟩
  have hl := lv_entry ([.ref b]) (n := 4) (Nat.le_of_ble_eq_true rfl)
  rw [lg_entry_eq]
  generalize (lg_sl ([.ref b]) ++ List.replicate (4 - (lg_sl ([.ref b])).length) Slot.unset).toArray = LS at hl ⊢
  have hl : lv_has LS 4 [(0, .ref b)] := hl
  have hv : ∀ (j : Nat) (v : Value), ([some (.ref 0)] : List (Option Value))[j]? = some (some v) → LS[j]? = some (.val (rv (rho b (σ0 40) (σ0 40)) v)) := fun j v hj => by
    match j, hj with
    | 0, hj => cases hj; exact lv_at hl 0 rfl
    | j + 1, hj => simp at hj
  have hT : LT D ty s σ0 b σ0 E0 X0 σ0 E0 X0 s.heap [] LS [some (.ref 0)] := ⟨fun k q hq => (by cases hq), ⟨fun i j p q hi => (by cases hi), fun k q hq => (by cases hq)⟩, EX0, EX0, ⟨Nat.le_refl _, RI0⟩, ⟨Nat.le_refl _, RI0⟩, fun i hi => ⟨rfl, rfl⟩, va_S.rf, hl.1, hl.2.1, hv⟩
  exact law_walk (l := l) (e := e) (below := below) C hL σ0 σ0 s.heap [] LS hT
end WALK
