/-! ROWS: references are written -/
section PUT
variable {M : MI} {d mcT msT : Nat} {Q : QT} {pc pc' : Nat} {ls : List (Option Value)} {st st0 : List Value} {S S' : SH} {x x' : DY} {k n : Nat}
theorem r_putX {c i j a : Nat} {v : Value} (hf : FL M.1.cls i c j) (hT : TY S a c) (hF : (cT c j).2.2.2 = false ∨ ((cT c j).2.2.2 = true ∧ M.1.name = "<init>" ∧ (cT c j).1 = M.1.cls)) (hn : ∀ σ : Nat → Nat, narrow (cTy c j) (rv σ v) = rv σ v ∧ fits (cTy c j) (rv σ v) = true)
    (hS1 : S'.1 = S.1) (hK : S'.2.1 a = S.2.1 a) (hcell : ∀ (ty : Nat → ClassId) (σ : Nat → Nat) (b : Nat), b ≠ a → cellE ty σ S' x' b = cellE ty σ S x b) (hval : ∀ σ : Nat → Nat, fVal σ S' x' a (cTy c j) j = rv σ v) (hoth : ∀ (σ : Nat → Nat) (q : Nat), q ≠ j → fVal σ S' x' a (cTy c q) q = fVal σ S x a (cTy c q) q) (hE : EX S x → EX S' x') (hRI : RI S → RI S')
    (hd : decode M.2.1 pc = .ok (.putfield i, 3)) (kk : MW M d mcT msT Q (pc + 3) ls st S' x' k n) : MW M d mcT msT Q pc ls (v :: .ref a :: st) S x k n := by
  intro p l e R s m args below meth c' D ty σ0 S0 C σ H locs cells slots LS T
  obtain ⟨hc, hk, hw⟩ := hf
  obtain ⟨hW, hS, hG, hL, hr⟩ := T
  have key : ∀ (H1 : Heap) (locs1 : List Loc), va_P D CL ((wsE ty σ S x).set (a - 40) (σ a, .inr (c, (oV σ S x a).set j (rv σ v)))) H1 → va_D (AF σ0 S0 s.heap.size) ((wsE ty σ S x).set (a - 40) (σ a, .inr (c, (oV σ S x a).set j (rv σ v)))) → va_S (AF σ0 S0 s.heap.size) s.heap H1 locs1 → W p l e R s m args below meth c' H1 locs1 cells slots (MQ below (MQc D ty σ0 S0 Q) args s mcT msT (AF σ0 S0 s.heap.size)) (F0 m (pc + 3) LS (st.map (rv σ))) := by
    intro H1 locs1 hP hD hS1'
    refine MW.use kk C ⟨?_, hS1', by rw [hS1]; exact hG, hL, hr⟩
    have e : (.inr (c, (oV σ S x a).set j (rv σ v)) : va_E) = cellE ty σ S' x' a := by
      rw [cellE_obj (by rw [hK, hT.2.2]; exact hc), hK, hT.2.2, ← hval σ, ← oV_set (S := S) (x := x) (S' := S') (x' := x') (k := j) hK, hT.2.2]
      intro q _ hq
      rw [hT.2.2]
      exact hoth σ q hq
    rw [e] at hP hD
    exact WP.put (hE hW.2.2.1) ⟨by rw [hS1]; exact hW.2.2.2.1, hRI hW.2.2.2.2⟩ hT.1 hT.2.1 hS1 (fun b hb => hcell ty σ b hb) hP hD
  have hts := C.2.2.2.2.2.2.2.1
  rcases hF with hF | ⟨hF, hF2, hF3⟩
  · exact va_put (ci := c) (v := rv σ v) (ty := cTy c j) C.1 C.2.1 hts (cW_all c hc) (cTy c) (cOk c hc) (cNm c hc) C.2.2.2.2.2.2.1 C.2.2.2.2.2.2.2.2.2.1.1 hW.1 (hW.DA hG) hS (a - 40) (ws_obj hT hc) (CL_at c hc) j hk (hts _ hw) (fun _ h => h) hF (cOk c hc j hk) (hn σ).1 (hn σ).2 (by rw [oV_len, hT.2.2]; exact hk) hd key
  · exact va_putF (ci := c) (v := rv σ v) (ty := cTy c j) C.1 C.2.1 hts (cW_all c hc) (cTy c) (cOk c hc) (cNm c hc) C.2.2.2.2.2.2.1 C.2.2.2.2.2.2.2.2.2.1.1 hW.1 (hW.DA hG) hS (a - 40) (ws_obj hT hc) (CL_at c hc) j hk (hts _ hw) (fun _ h => h) hF (C.2.2.2.2.2.1.trans hF2) hF3 (cOk c hc j hk) (hn σ).1 (hn σ).2 (by rw [oV_len, hT.2.2]; exact hk) hd key
theorem isR_ref {t : FieldType} (h : isR t = true) (a : Nat) : narrow t (.ref a) = .ref a ∧ fits t (.ref a) = true := by
  cases t <;> first | exact ⟨rfl, rfl⟩ | cases h
theorem RI.put {a j b : Nat} (h : RI S) (hb : b < S.1) : RI (UP S a j (some b)) := fun a' k' b' h' => by
  show b' < S.1
  have h' : up2 S.2.2.2 a j (some b) a' k' = some b' := h'
  by_cases e : a' = a
  · subst e
    rw [up2_s] at h'
    dsimp only at h'
    by_cases e2 : k' = j
    · rw [if_pos e2] at h'; cases h'; exact hb
    · rw [if_neg e2] at h'; exact h _ _ _ h'
  · rw [up2_n e] at h'; exact h _ _ _ h'
theorem r_putR {c i j a b : Nat} (hf : FL M.1.cls i c j) (hT : TY S a c) (hF : (cT c j).2.2.2 = false ∨ ((cT c j).2.2.2 = true ∧ M.1.name = "<init>" ∧ (cT c j).1 = M.1.cls)) (ht : isR (cTy c j) = true) (hb : b < S.1) (hd : decode M.2.1 pc = .ok (.putfield i, 3)) (kk : MW M d mcT msT Q (pc + 3) ls st (UP S a j (some b)) x k n) : MW M d mcT msT Q pc ls (.ref b :: .ref a :: st) S x k n := by
  refine r_putX (v := .ref b) (S' := UP S a j (some b)) (x' := x) hf hT hF (fun σ => by show narrow (cTy c j) (.ref (σ b)) = .ref (σ b) ∧ fits (cTy c j) (.ref (σ b)) = true; exact isR_ref ht (σ b)) rfl rfl (fun ty σ b' hb' => cellE_oP hb') (fun σ => ?_) (fun σ q hq => ?_) (fun h => h) (fun h => h.put hb) hd kk
  · rw [fVal_R ht]
    show va_rf ((up2 S.2.2.2 a j (some b) a j).map σ) = .ref (σ b)
    rw [up2_s]; simp [va_rf]
  · unfold fVal
    simp only [up2_s, if_neg hq]
theorem r_putI9 {c i j a : Nat} {v : Int32} (hf : FL M.1.cls i c j) (hT : TY S a c) (hF : (cT c j).2.2.2 = false ∨ ((cT c j).2.2.2 = true ∧ M.1.name = "<init>" ∧ (cT c j).1 = M.1.cls)) (ht : cTy c j = .int) (hd : decode M.2.1 pc = .ok (.putfield i, 3)) (kk : MW M d mcT msT Q (pc + 3) ls st S (U1 x a j v) k n) : MW M d mcT msT Q pc ls (.int v :: .ref a :: st) S x k n := by
  refine r_putX (S' := S) (x' := U1 x a j v) hf hT hF (fun σ => by rw [ht]; exact ⟨rfl, rfl⟩) rfl rfl (fun ty σ b' hb' => cellE_o1 hb') (fun σ => ?_) (fun σ q hq => ?_) (fun h => h.up hT.1) (fun h => h) hd kk
  · rw [ht]
    show Value.int (up2 x.1 a j v a j) = .int v
    rw [up2_s]; simp
  · unfold fVal
    simp only [up2_s, if_neg hq]
theorem r_aast {a c e b : Nat} {i : Int32} (hT : TY S a c) (hc : (c = 16 ∧ e = 6) ∨ (c = 17 ∧ e = 10)) (hB : TY S b e) (hi : ix S a i) (hd : decode M.2.1 pc = .ok (.aastore, 1)) (kk : MW M d mcT msT Q (pc + 1) ls st (UP S a i.toNatClampNeg (some b)) x k n) : MW M d mcT msT Q pc ls (.ref b :: .int i :: .ref a :: st) S x k n := by
  intro p l e' R s m args below meth c' D ty σ0 S0 C σ H locs cells slots LS T
  obtain ⟨hW, hS, hG, hL, hr⟩ := T
  have hc16 : 16 ≤ c := by omega
  have he : e < 13 := by omega
  obtain ⟨t0, ht⟩ : ∃ t0 : Nat, (tysOf ty)[t0]? = some (ty c, .object (cR e, cT e, cN e).1) := by
    rcases hc with ⟨rfl, rfl⟩ | ⟨rfl, rfl⟩
    · exact ⟨3, rfl⟩
    · exact ⟨4, rfl⟩
  refine va_astq (r := (cR e, cT e, cN e)) C.1 C.2.1 C.2.2.2.2.2.2.2.2.2.1.1 hW.1 (hW.DA hG) hS (a - 40) t0 (b - 40) e (ws_rar hT hc16) ht (ws_obj hB he) (CL_at e he) hi hd (fun H1 locs1 hP hD hS1 => kk C ⟨?_, hS1, hG, hL, hr⟩)
  have e : (.inl (ty c, S.2.2.1 a, .inr (.inr (.inr (.inr (va_up (fun i => (S.2.2.2 a i).map σ) i.toNatClampNeg (some (σ b))))))) : va_E) = cellE ty σ (UP S a i.toNatClampNeg (some b)) x a := by
    rw [cellE_rar (by show 16 ≤ S.2.1 a; rw [hT.2.2]; exact hc16)]
    show _ = Sum.inl (ty (S.2.1 a), S.2.2.1 a, Sum.inr (Sum.inr (Sum.inr (Sum.inr (fun j => (up2 S.2.2.2 a i.toNatClampNeg (some b) a j).map σ)))))
    rw [hT.2.2, up2_s]
    refine congrArg (fun f : Nat → Option Nat => (Sum.inl (ty c, S.2.2.1 a, Sum.inr (Sum.inr (Sum.inr (Sum.inr f)))) : va_E)) (funext fun j => ?_)
    show va_up (fun i => (S.2.2.2 a i).map σ) i.toNatClampNeg (some (σ b)) j = (if j = i.toNatClampNeg then some b else S.2.2.2 a j).map σ
    unfold va_up
    by_cases h : j = i.toNatClampNeg
    · rw [if_pos h, if_pos h]; rfl
    · rw [if_neg h, if_neg h]
  rw [e] at hP hD
  exact WP.put (S' := UP S a i.toNatClampNeg (some b)) hW.2.2.1 ⟨hW.2.2.2.1, hW.2.2.2.2.put hB.2.1⟩ hT.1 hT.2.1 rfl (fun b hb => cellE_oP hb) hP hD
/-- less room is asked for -/
theorem MW.room {k2 n2 : Nat} (h1 : k2 ≤ k) (h2 : n2 ≤ n) (kk : MW M d mcT msT Q pc ls st S x k2 n2) : MW M d mcT msT Q pc ls st S x k n := by
  intro p l e R s m args below meth c' D ty σ0 S0 C σ H locs cells slots LS T
  obtain ⟨hW, hS, hG, hL, hr1, hr2⟩ := T
  exact kk C ⟨hW, hS, hG, hL, by omega, by omega⟩
end PUT
