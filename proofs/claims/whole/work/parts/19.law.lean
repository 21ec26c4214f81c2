/-! THE LAW over two graphs: the class's (x) and the reference's (m) -/
def rho (b ax am : Nat) : Nat → Nat := fun k => if k = 0 then b else if k = 1 then ax else am
abbrev AL (s : State) : Nat → Prop := fun q => s.heap.size ≤ q
def LC (p : Program) (s : State) (m : MethodId) (meth : Method) (c : Code) (b L : Nat) (xs : Nat → Int32) (D : va_G) (ty : Nat → ClassId) (σ0 : Nat → Nat) : Prop :=
  lw_At p s m meth c b L xs ∧ WE D ty s ∧ EXT (AL s) σ0 s s.heap
def LT (D : va_G) (ty : Nat → ClassId) (s : State) (σ0 : Nat → Nat) (b : Nat) (σx : Nat → Nat) (Sx : SH) (xx : DY) (σm : Nat → Nat) (Sm : SH) (xm : DY) (H : Heap) (locs : List Loc) (LS : Array Slot) (ls : List (Option Value)) : Prop :=
  va_P D CL (wsE ty σx Sx xx ++ wsE ty σm Sm xm) H ∧ va_D (AL s) (wsE ty σx Sx xx ++ wsE ty σm Sm xm) ∧ EX Sx xx ∧ EX Sm xm ∧ (40 ≤ Sx.1 ∧ RI Sx) ∧ (40 ≤ Sm.1 ∧ RI Sm) ∧ (∀ i, i < 40 → σx i = σ0 i ∧ σm i = σ0 i) ∧ va_S (AL s) s.heap H locs ∧ LH (rho b (σx 40) (σm 40)) LS 4 ls
def LW (p : Program) (l : Launch) (e : Env) (s : State) (m : MethodId) (below : List Frame) (meth : Method) (c : Code) (D : va_G) (ty : Nat → ClassId) (σ0 : Nat → Nat) (b kc ks pc : Nat) (ls : List (Option Value)) (st : List Value) (Sx : SH) (xx : DY) (Sm : SH) (xm : DY) : Prop :=
  ∀ (σx σm : Nat → Nat) (H : Heap) (locs : List Loc) (LS : Array Slot), LT D ty s σ0 b σx Sx xx σm Sm xm H locs LS ls →
  W p l e room_1 s m #[Value.ref b] below meth c H locs kc ks (lw_Z below #[Value.ref b] s) (F0 m pc LS (st.map (rv (rho b (σx 40) (σm 40)))))
theorem va_P.lft {D : va_G} {cl : List vw_C} {a b : va_W} {H : Heap} (h : va_P D cl (a ++ b) H) : va_P D cl a H := fun k q hq => h k q (by rw [List.getElem?_append_left (List.getElem?_eq_some_iff.mp hq).1]; exact hq)
theorem va_P.rgt {D : va_G} {cl : List vw_C} {a b : va_W} {H : Heap} (h : va_P D cl (a ++ b) H) : va_P D cl b H := fun k q hq => h (a.length + k) q (by rw [List.getElem?_append_right (Nat.le_add_right _ _), Nat.add_sub_cancel_left]; exact hq)
theorem va_D.lft {A : Nat → Prop} {a b : va_W} (h : va_D A (a ++ b)) : va_D A a :=
  ⟨fun i j p q hi hj hpq => h.1 i j p q (by rw [List.getElem?_append_left (List.getElem?_eq_some_iff.mp hi).1]; exact hi) (by rw [List.getElem?_append_left (List.getElem?_eq_some_iff.mp hj).1]; exact hj) hpq, fun k q hq => h.2 k q (by rw [List.getElem?_append_left (List.getElem?_eq_some_iff.mp hq).1]; exact hq)⟩
theorem va_D.rgt {A : Nat → Prop} {a b : va_W} (h : va_D A (a ++ b)) : va_D A b :=
  ⟨fun i j p q hi hj hpq => Nat.add_left_cancel (h.1 (a.length + i) (a.length + j) p q (by rw [List.getElem?_append_right (Nat.le_add_right _ _), Nat.add_sub_cancel_left]; exact hi) (by rw [List.getElem?_append_right (Nat.le_add_right _ _), Nat.add_sub_cancel_left]; exact hj) hpq), fun k q hq => h.2 (a.length + k) q (by rw [List.getElem?_append_right (Nat.le_add_right _ _), Nat.add_sub_cancel_left]; exact hq)⟩
theorem va_D.apt {A : Nat → Prop} {a b : va_W} (h : va_D A (a ++ b)) {i j : Nat} {p q : Nat × va_E} (hi : a[i]? = some p) (hj : b[j]? = some q) : p.1 ≠ q.1 := fun e => by
  have := h.1 i (a.length + j) p q (by rw [List.getElem?_append_left (List.getElem?_eq_some_iff.mp hi).1]; exact hi) (by rw [List.getElem?_append_right (Nat.le_add_right _ _), Nat.add_sub_cancel_left]; exact hj) e
  have := (List.getElem?_eq_some_iff.mp hi).1
  omega
theorem wsE_mem {ty : Nat → ClassId} {σ : Nat → Nat} {S : SH} {x : DY} {k : Nat} (h0 : 40 ≤ k) (h1 : k < S.1) : (wsE ty σ S x)[k - 40]? = some (σ k, cellE ty σ S x k) := wsE_at h0 h1
section LAWC
variable {p : Program} {l : Launch} {e : Env} {s : State} {m : MethodId} {below : List Frame} {meth : Method} {c : Code} {D : va_G} {ty : Nat → ClassId} {σ0 : Nat → Nat} {b L : Nat} {xs : Nat → Int32} {kc ks pc pc' : Nat} {ls ls' : List (Option Value)} {st st' st0 : List Value} {Sx Sm : SH} {xx xm : DY}
theorem LC.hx (C : LC p s m meth c b L xs D ty σ0) : p.tables.exec = Jvm.exec := C.1.1
theorem LC.hb (C : LC p s m meth c b L xs D ty σ0) : c.code = code := C.1.2.1
theorem LC.tbs (C : LC p s m meth c b L xs D ty σ0) : ∀ w ∈ tb, w.before #[Value.ref b] s = true := fun w hw => C.1.2.2.2.2.2.1 w (tb_in hw)
/-- a graph's part of the heap stays while another graph's method runs -/
theorem ws_kept {ws2 : va_W} {H H1 : Heap} {σ : Nat → Nat} {S : SH} {x : DY} (hP : va_P D CL ws2 H) (hap : ∀ (i j : Nat) (p q : Nat × va_E), (wsE ty σ S x)[i]? = some p → ws2[j]? = some q → p.1 ≠ q.1) (hk : ∀ q : Nat, q < H.size → ¬ AF σ S H.size q → H1[q]? = H[q]?) : va_P D CL ws2 H1 := by
  refine hP.kept (fun k q hq => hk q.1 ((hP k q hq).lt) (fun hA => ?_))
  rcases hA with ⟨j, j0, j1, j2⟩ | hz
  · exact hap (j - 40) k _ q (wsE_at (x := x) (ty := ty) j0 j1) hq j2.symm
  · have := (hP k q hq).lt
    omega
def nR (v : Value) : Prop := match v with
  | .ref _ => False
  | _ => True
theorem rv_nR {v : Value} (h : nR v) (σ : Nat → Nat) : rv σ v = v := by
  cases v with
  | ref a => exact h.elim
  | _ => rfl
theorem map_nR {vs : List Value} (h : ∀ v ∈ vs, nR v) (σ : Nat → Nat) : vs.map (rv σ) = vs := by
  conv => rhs; rw [← List.map_id vs]
  exact List.map_congr_left fun v hv => rv_nR (h v hv) σ
theorem lw_runW {M' : MI} {As : List Value} {i ci mc ms dd : Nat} {σ : Nat → Nat} {S : SH} {x : DY} {Q' : QT} {H : Heap} {locs : List Loc} {LS : Array Slot} {rest : List Value} (C : LC p s m meth c b L xs D ty σ0) (hl : LV R_law i ci M') (hb : LB M' As.length) (hdd : dd ≤ 1300) (hA : MA M' dd (.ref 40 :: As) S x mc ms Q') (hAs : ∀ v ∈ As, nR v) (hT : TY S 40 ci) (hW : WP D ty σ S x H) (hσ : ∀ i, i < 40 → σ i = σ0 i) (hAL : ∀ i, 40 ≤ i → i < S.1 → AL s (σ i)) (hS : va_S (AL s) s.heap H locs) (hLS : LS.size = 4) (hcat : (rest.map fun v => v.category).sum ≤ 8) (hdg : decode code pc = .ok (.invokevirtual i, 3)) (hkc : kc + mc ≤ 600000) (hks : ks + ms ≤ 7302250) :
    va_Run p l e room_1 s m #[Value.ref b] below meth c H locs kc ks mc ms (F0 m pc LS (As.reverse ++ .ref (σ 40) :: rest)) rest (MQc D ty σ S Q' (Value.ref (σ 40) :: As).toArray) (AF σ S H.size) := by
  obtain ⟨hc, l1, l2, l3⟩ := hl
  obtain ⟨b1, b2, b3, b4⟩ := hb
  have hts := C.tbs
  have hWat : ∀ U : State, U.heap = H → s.WarmedH U.vm → Wat D ty σ S x U := fun U hU hv => by
    refine ⟨WE.alike hv C.2.1, ?_, by rw [hU]; exact hW⟩
    rw [hU]
    refine EXT.step (u := s) (H := s.heap) hv.alike (fun h => vk_R.warm hv h) (fun a h1 h2 => hS.2.1 a h1 h2) (fun q hq => ?_) hσ C.2.2
    rcases hq with ⟨k, h0, h1, rfl⟩ | hq
    · exact hAL k h0 h1
    · exact Nat.le_trans hS.1 hq
  have hM := hA l D ty σ H.size
  rw [show (Value.ref 40 :: As).map (rv σ) = .ref (σ 40) :: As by rw [List.map_cons, map_nR hAs]; rfl] at hM
  exact va_runV (C := cR ci) (As := As) ⟨C.hx, C.hb, C.1.2.2.2.1, C.1.2.2.2.2.1, hts⟩ hM ⟨callB_of As.length hts (tb_call b1) rfl rfl rfl (hts _ b2) (hts _ l1) b3 ⟨by show dd + 1 ≤ 2048; omega, by show 8 + (M'.2.2.1 + 11) + 64 * dd ≤ 84000; omega⟩, hts _ l2, hts _ l3⟩
    ⟨Wat.blind, va_recv C.2.1.1 hW.1 (CL_at ci hc) (ws_obj hT hc), fun U hU hv => ⟨rfl, by rw [hU], hWat U hU hv⟩⟩ rfl rfl hLS rfl (lv_room hcat) (by exact hdg) ⟨hkc, hks⟩
end LAWC
