/-! ROWS over the abstract world's places -/
def cR : Nat → String := fun c => match c with
  | 0 => RX0 | 1 => RX1 | 2 => RX2 | 3 => RX3 | 4 => RX4 | 5 => RX5 | 6 => RX6 | 7 => RX7 | 8 => RX8 | 9 => RX9 | 10 => RX10 | 11 => RX11 | _ => RX12
def cT : Nat → u_T := fun c => match c with
  | 0 => TX0 | 1 => TX1 | 2 => TX2 | 3 => TX3 | 4 => TX4 | 5 => TX5 | 6 => TX6 | 7 => TX7 | 8 => TX8 | 9 => TX9 | 10 => TX10 | 11 => TX11 | _ => TX12
theorem c13 {P : Nat → Prop} (h0 : P 0) (h1 : P 1) (h2 : P 2) (h3 : P 3) (h4 : P 4) (h5 : P 5) (h6 : P 6) (h7 : P 7) (h8 : P 8) (h9 : P 9) (h10 : P 10) (h11 : P 11) (h12 : P 12) : ∀ c, c < 13 → P c := by
  intro c hc
  match c, hc with
  | 0, _ => exact h0
  | 1, _ => exact h1
  | 2, _ => exact h2
  | 3, _ => exact h3
  | 4, _ => exact h4
  | 5, _ => exact h5
  | 6, _ => exact h6
  | 7, _ => exact h7
  | 8, _ => exact h8
  | 9, _ => exact h9
  | 10, _ => exact h10
  | 11, _ => exact h11
  | 12, _ => exact h12
  | c + 13, h => exact absurd h (by omega)
theorem CL_at : ∀ c, c < 13 → CL[c]? = some (cR c, cT c, cN c) := c13 rfl rfl rfl rfl rfl rfl rfl rfl rfl rfl rfl rfl rfl
set_option maxRecDepth 20000 in
theorem cW_all : ∀ c, c < 13 → ∀ w ∈ u_ws (cR c) (cT c) (cN c), w ∈ tb := c13 (by decide +kernel) (by decide +kernel) (by decide +kernel) (by decide +kernel) (by decide +kernel) (by decide +kernel) (by decide +kernel) (by decide +kernel) (by decide +kernel) (by decide +kernel) (by decide +kernel) (by decide +kernel) (by decide +kernel)
theorem cOk : ∀ c, c < 13 → ∀ k, k < cN c → parseFieldDescriptor (cT c k).2.2.1 = some (cTy c k) := c13 tyX0_ok tyX1_ok tyX2_ok tyX3_ok tyX4_ok tyX5_ok tyX6_ok tyX7_ok tyX8_ok tyX9_ok tyX10_ok tyX11_ok tyX12_ok
theorem cNm : ∀ c, c < 13 → ∀ a, a < cN c → ∀ b, b < cN c → a ≠ b → (cT c a).2.1 ≠ (cT c b).2.1 := c13 nmX0 nmX1 nmX2 nmX3 nmX4 nmX5 nmX6 nmX7 nmX8 nmX9 nmX10 nmX11 nmX12
/-- the constant at i in the pool of own is field k of class c -/
def FL (own : String) (i c k : Nat) : Prop := c < 13 ∧ k < cN c ∧ Cond.fieldLink own i (cT c k).1 (cT c k).2.1 (cT c k).2.2.1 ∈ tb
section HEAP
variable {M : MI} {d mcT msT : Nat} {Q : QT} {pc : Nat} {ls : List (Option Value)} {st : List Value} {S : SH} {x : DY} {k n : Nat}
theorem ws_obj {ty : Nat → ClassId} {σ : Nat → Nat} {a c : Nat} (hT : TY S a c) (hc : c < 13) : (wsE ty σ S x)[a - 40]? = some (σ a, .inr (c, oV σ S x a)) := by
  obtain ⟨h0, h1, rfl⟩ := hT
  rw [wsE_at h0 h1, cellE_obj hc]
theorem ws_arr {ty : Nat → ClassId} {σ : Nat → Nat} {a c : Nat} (hT : TY S a c) (hc : 13 ≤ c) (hc2 : c < 16) : (wsE ty σ S x)[a - 40]? = some (σ a, .inl (ty c, S.2.2.1 a, .inl (x.1 a))) := by
  obtain ⟨h0, h1, rfl⟩ := hT
  rw [wsE_at h0 h1, cellE_arr hc hc2]
theorem ws_rar {ty : Nat → ClassId} {σ : Nat → Nat} {a c : Nat} (hT : TY S a c) (hc : 16 ≤ c) : (wsE ty σ S x)[a - 40]? = some (σ a, .inl (ty c, S.2.2.1 a, .inr (.inr (.inr (.inr (fun i => (S.2.2.2 a i).map σ)))))) := by
  obtain ⟨h0, h1, rfl⟩ := hT
  rw [wsE_at h0 h1, cellE_rar hc]
theorem oV_at {σ : Nat → Nat} {a c j : Nat} (hT : TY S a c) (hj : j < cN c) : (oV σ S x a)[j]? = some (fVal σ S x a (cTy c j) j) := by
  obtain ⟨h0, h1, rfl⟩ := hT
  exact oV_get hj
theorem r_getV {c i j a : Nat} {v : Value} (hf : FL M.1.cls i c j) (hT : TY S a c) (hv : ∀ σ : Nat → Nat, fVal σ S x a (cTy c j) j = rv σ v) (hd : decode M.2.1 pc = .ok (.getfield i, 3)) (kk : MW M d mcT msT Q (pc + 3) ls (v :: st) S x k n) : MW M d mcT msT Q pc ls (.ref a :: st) S x k n := by
  intro p l e R s m args below meth c' D ty σ0 S0 C σ H locs cells slots LS T
  obtain ⟨hc, hk, hw⟩ := hf
  exact va_get (ci := c) C.1 C.2.1 C.2.2.2.2.2.2.2.1 (cW_all c hc) C.2.2.2.2.2.2.1 C.2.2.2.2.2.2.2.2.2.1.1 T.1.1 (a - 40) (ws_obj hT hc) (CL_at c hc) j hk (C.2.2.2.2.2.2.2.1 _ hw) (fun _ h => h) ((oV_at hT hk).trans (congrArg some (hv σ))) hd (kk C T)
theorem r_getI {c i j a : Nat} (hf : FL M.1.cls i c j) (hT : TY S a c) (ht : cTy c j = .int) (hd : decode M.2.1 pc = .ok (.getfield i, 3)) (kk : MW M d mcT msT Q (pc + 3) ls (.int (x.1 a j) :: st) S x k n) : MW M d mcT msT Q pc ls (.ref a :: st) S x k n :=
  r_getV hf hT (fun σ => by rw [ht]; rfl) hd kk
theorem r_getL {c i j a : Nat} (hf : FL M.1.cls i c j) (hT : TY S a c) (ht : cTy c j = .long) (hd : decode M.2.1 pc = .ok (.getfield i, 3)) (kk : MW M d mcT msT Q (pc + 3) ls (.long (x.2 a j) :: st) S x k n) : MW M d mcT msT Q pc ls (.ref a :: st) S x k n :=
  r_getV hf hT (fun σ => by rw [ht]; rfl) hd kk
def isR (t : FieldType) : Bool := match t with
  | .object _ => true
  | .array _ => true
  | _ => false
theorem fVal_R {σ : Nat → Nat} {a j : Nat} {t : FieldType} (h : isR t = true) : fVal σ S x a t j = va_rf ((S.2.2.2 a j).map σ) := by
  cases t <;> first | rfl | cases h
theorem r_getR {c i j a b : Nat} (hf : FL M.1.cls i c j) (hT : TY S a c) (ht : isR (cTy c j) = true) (hb : S.2.2.2 a j = some b) (hd : decode M.2.1 pc = .ok (.getfield i, 3)) (kk : MW M d mcT msT Q (pc + 3) ls (.ref b :: st) S x k n) : MW M d mcT msT Q pc ls (.ref a :: st) S x k n :=
  r_getV hf hT (fun σ => by rw [fVal_R ht, hb]; rfl) hd kk
/-- a place is written: the world behind it -/
theorem WP.put {D : va_G} {ty : Nat → ClassId} {σ : Nat → Nat} {S' : SH} {x' : DY} {H1 : Heap} {a : Nat} {A : Nat → Prop} (hx : EX S' x') (h20 : 40 ≤ S'.1 ∧ RI S') (h0 : 40 ≤ a) (h : a < S.1) (hn : S'.1 = S.1) (ho : ∀ b, b ≠ a → cellE ty σ S' x' b = cellE ty σ S x b)
    (hP : va_P D CL ((wsE ty σ S x).set (a - 40) (σ a, cellE ty σ S' x' a)) H1) (hD : va_D A ((wsE ty σ S x).set (a - 40) (σ a, cellE ty σ S' x' a))) : WP D ty σ S' x' H1 := by
  rw [wsE_set h0 h hn ho] at hP hD
  exact ⟨hP, hD.weaken (fun _ _ _ _ => trivial), hx, h20⟩
theorem EX.up {a j : Nat} {v : Int32} (h : EX S x) (h0 : 40 ≤ a) : EX S (U1 x a j v) := fun i hi => ⟨(h i hi).1, fun q hq => by
  show up2 x.1 a j v i q = _
  rw [up2_n (by omega)]
  exact (h i hi).2 q hq⟩
theorem AF_in {σ0 σ : Nat → Nat} {S0 : SH} {sz a : Nat} (hG : Gr σ0 σ S0.1 S.1 sz) (h0 : 40 ≤ a) (h : a < S.1) : AF σ0 S0 sz (σ a) := by
  by_cases e : a < S0.1
  · exact Or.inl ⟨a, h0, e, hG.2.1 a e⟩
  · exact Or.inr (hG.2.2.1 a (by omega) h)
theorem WP.DA {D : va_G} {ty : Nat → ClassId} {σ0 σ : Nat → Nat} {S0 : SH} {sz : Nat} {H : Heap} (hW : WP D ty σ S x H) (hG : Gr σ0 σ S0.1 S.1 sz) : va_D (AF σ0 S0 sz) (wsE ty σ S x) :=
  hW.2.1.weaken (fun j q hq _ => by
    obtain ⟨h1, rfl⟩ := wsE_some hq
    exact AF_in hG (by omega) h1)
theorem r_putI {c i j a : Nat} {v : Int32} (hf : FL M.1.cls i c j) (hT : TY S a c) (ht : cTy c j = .int) (hF : (cT c j).2.2.2 = false) (hd : decode M.2.1 pc = .ok (.putfield i, 3)) (kk : MW M d mcT msT Q (pc + 3) ls st S (U1 x a j v) k n) : MW M d mcT msT Q pc ls (.int v :: .ref a :: st) S x k n := by
  intro p l e R s m args below meth c' D ty σ0 S0 C σ H locs cells slots LS T
  obtain ⟨hc, hk, hw⟩ := hf
  obtain ⟨hW, hS, hG, hL, hr⟩ := T
  refine va_put (ci := c) (v := .int v) (ty := .int) C.1 C.2.1 C.2.2.2.2.2.2.2.1 (cW_all c hc) (cTy c) (cOk c hc) (cNm c hc) C.2.2.2.2.2.2.1 C.2.2.2.2.2.2.2.2.2.1.1 hW.1 (hW.DA hG) hS (a - 40) (ws_obj hT hc) (CL_at c hc) j hk (C.2.2.2.2.2.2.2.1 _ hw) (fun _ h => h) hF (by rw [cOk c hc j hk, ht]) rfl rfl (by rw [oV_len, hT.2.2]; exact hk) hd (fun H1 locs1 hP hD hS1 => kk C ⟨?_, hS1, hG, hL, hr⟩)
  have e : (.inr (c, (oV σ S x a).set j (.int v)) : va_E) = cellE ty σ S (U1 x a j v) a := by
    rw [cellE_obj (by rw [hT.2.2]; exact hc), hT.2.2, ← oV_set (S := S) (x := x) (S' := S) (x' := U1 x a j v) (k := j) rfl, hT.2.2, ht]
    · show _ = Sum.inr (c, (oV σ S x a).set j (.int (up2 x.1 a j v a j)))
      rw [up2_s]; simp
    · intro q _ hq
      unfold fVal
      simp only [up2_s, if_neg hq]
  rw [e] at hP hD
  exact WP.put (hW.2.2.1.up hT.1) hW.2.2.2 hT.1 hT.2.1 rfl (fun b hb => cellE_o1 hb) hP hD
theorem r_putL {c i j a : Nat} {v : Int64} (hf : FL M.1.cls i c j) (hT : TY S a c) (ht : cTy c j = .long) (hF : (cT c j).2.2.2 = false) (hd : decode M.2.1 pc = .ok (.putfield i, 3)) (kk : MW M d mcT msT Q (pc + 3) ls st S (U2 x a j v) k n) : MW M d mcT msT Q pc ls (.long v :: .ref a :: st) S x k n := by
  intro p l e R s m args below meth c' D ty σ0 S0 C σ H locs cells slots LS T
  obtain ⟨hc, hk, hw⟩ := hf
  obtain ⟨hW, hS, hG, hL, hr⟩ := T
  refine va_put (ci := c) (v := .long v) (ty := .long) C.1 C.2.1 C.2.2.2.2.2.2.2.1 (cW_all c hc) (cTy c) (cOk c hc) (cNm c hc) C.2.2.2.2.2.2.1 C.2.2.2.2.2.2.2.2.2.1.1 hW.1 (hW.DA hG) hS (a - 40) (ws_obj hT hc) (CL_at c hc) j hk (C.2.2.2.2.2.2.2.1 _ hw) (fun _ h => h) hF (by rw [cOk c hc j hk, ht]) rfl rfl (by rw [oV_len, hT.2.2]; exact hk) hd (fun H1 locs1 hP hD hS1 => kk C ⟨?_, hS1, hG, hL, hr⟩)
  have e : (.inr (c, (oV σ S x a).set j (.long v)) : va_E) = cellE ty σ S (U2 x a j v) a := by
    rw [cellE_obj (by rw [hT.2.2]; exact hc), hT.2.2, ← oV_set (S := S) (x := x) (S' := S) (x' := U2 x a j v) (k := j) rfl, hT.2.2, ht]
    · show _ = Sum.inr (c, (oV σ S x a).set j (.long (up2 x.2 a j v a j)))
      rw [up2_s]; simp
    · intro q _ hq
      unfold fVal
      simp only [up2_s, if_neg hq]
  rw [e] at hP hD
  exact WP.put (x' := U2 x a j v) hW.2.2.1 hW.2.2.2 hT.1 hT.2.1 rfl (fun b hb => cellE_o2 hb) hP hD
end HEAP
