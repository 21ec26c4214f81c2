/-! MIRRORS: calls by what they answer, copies, rows of references -/
section GO2
variable {ρ : Type} {M : MI} {d mcT msT k n : Nat} {Q : QT} {S : SH} {w : ρ → Option Value × DY} {pc pc' : Nat} {ls ls' : List (Option Value)} {st st' : List Value} {x x' : DY} {o o' : Option ρ}
variable {M' : MI} {i : Nat} {As st0 : List Value}
theorem go_V_PI {fc : Option (Int32)} {f : Int32 → Option ρ} {c b : Nat} (hp : pc' = pc + 3) (hl : LV M.1.cls i c M') (hb : LB M' As.length) (hA : CT M' (d - 1) S (.ref b :: As) x (wPI x) fc) (hd1 : 1 ≤ d) (hT : TY S b c) (hs : (st.map fun v => v.category).sum ≤ 8) (h0 : st0 = As.reverse ++ .ref b :: st) (hdg : decode M.2.1 pc = .ok (.invokevirtual i, 3)) (k : ∀ r : Int32, Go M d S w pc' ls (.int r :: st) x (f r)) : Go M d S w pc ls st0 x (Option.bind fc f) := by
  subst hp
  exact go_V hl hb hA hd1 hT hs h0 hdg k
theorem go_S_PI {fc : Option (Int32)} {f : Int32 → Option ρ} (hp : pc' = pc + 3) (hl : LSt M.1.cls i M') (hb : LB M' As.length) (hA : CT M' (d - 1) S As x (wPI x) fc) (hd1 : 1 ≤ d) (hs : (st.map fun v => v.category).sum ≤ 8) (h0 : st0 = As.reverse ++ st) (hdg : decode M.2.1 pc = .ok (.invokestatic i, 3)) (k : ∀ r : Int32, Go M d S w pc' ls (.int r :: st) x (f r)) : Go M d S w pc ls st0 x (Option.bind fc f) := by
  subst hp
  exact go_S hl hb hA hd1 hs h0 hdg k
theorem go_SN_PI {fc : Option (Int32)} {f : Int32 → Option ρ} (hp : pc' = pc + 3) (hl : LSN M.1.cls i M') (hb : LB M' As.length) (hA : CT M' (d - 1) S As x (wPI x) fc) (hd1 : 1 ≤ d) (hs : (st.map fun v => v.category).sum ≤ 8) (h0 : st0 = As.reverse ++ st) (hdg : decode M.2.1 pc = .ok (.invokestatic i, 3)) (k : ∀ r : Int32, Go M d S w pc' ls (.int r :: st) x (f r)) : Go M d S w pc ls st0 x (Option.bind fc f) := by
  subst hp
  exact go_SN hl hb hA hd1 hs h0 hdg k
theorem go_V_PL {fc : Option (Int64)} {f : Int64 → Option ρ} {c b : Nat} (hp : pc' = pc + 3) (hl : LV M.1.cls i c M') (hb : LB M' As.length) (hA : CT M' (d - 1) S (.ref b :: As) x (wPL x) fc) (hd1 : 1 ≤ d) (hT : TY S b c) (hs : (st.map fun v => v.category).sum ≤ 8) (h0 : st0 = As.reverse ++ .ref b :: st) (hdg : decode M.2.1 pc = .ok (.invokevirtual i, 3)) (k : ∀ r : Int64, Go M d S w pc' ls (.long r :: st) x (f r)) : Go M d S w pc ls st0 x (Option.bind fc f) := by
  subst hp
  exact go_V hl hb hA hd1 hT hs h0 hdg k
theorem go_S_PL {fc : Option (Int64)} {f : Int64 → Option ρ} (hp : pc' = pc + 3) (hl : LSt M.1.cls i M') (hb : LB M' As.length) (hA : CT M' (d - 1) S As x (wPL x) fc) (hd1 : 1 ≤ d) (hs : (st.map fun v => v.category).sum ≤ 8) (h0 : st0 = As.reverse ++ st) (hdg : decode M.2.1 pc = .ok (.invokestatic i, 3)) (k : ∀ r : Int64, Go M d S w pc' ls (.long r :: st) x (f r)) : Go M d S w pc ls st0 x (Option.bind fc f) := by
  subst hp
  exact go_S hl hb hA hd1 hs h0 hdg k
theorem go_SN_PL {fc : Option (Int64)} {f : Int64 → Option ρ} (hp : pc' = pc + 3) (hl : LSN M.1.cls i M') (hb : LB M' As.length) (hA : CT M' (d - 1) S As x (wPL x) fc) (hd1 : 1 ≤ d) (hs : (st.map fun v => v.category).sum ≤ 8) (h0 : st0 = As.reverse ++ st) (hdg : decode M.2.1 pc = .ok (.invokestatic i, 3)) (k : ∀ r : Int64, Go M d S w pc' ls (.long r :: st) x (f r)) : Go M d S w pc ls st0 x (Option.bind fc f) := by
  subst hp
  exact go_SN hl hb hA hd1 hs h0 hdg k
theorem go_V_SI {fc : Option (Int32 × DY)} {f : Int32 × DY → Option ρ} {c b : Nat} (hp : pc' = pc + 3) (hl : LV M.1.cls i c M') (hb : LB M' As.length) (hA : CT M' (d - 1) S (.ref b :: As) x (wSI) fc) (hd1 : 1 ≤ d) (hT : TY S b c) (hs : (st.map fun v => v.category).sum ≤ 8) (h0 : st0 = As.reverse ++ .ref b :: st) (hdg : decode M.2.1 pc = .ok (.invokevirtual i, 3)) (k : ∀ r : Int32 × DY, Go M d S w pc' ls (.int r.1 :: st) r.2 (f r)) : Go M d S w pc ls st0 x (Option.bind fc f) := by
  subst hp
  exact go_V hl hb hA hd1 hT hs h0 hdg k
theorem go_S_SI {fc : Option (Int32 × DY)} {f : Int32 × DY → Option ρ} (hp : pc' = pc + 3) (hl : LSt M.1.cls i M') (hb : LB M' As.length) (hA : CT M' (d - 1) S As x (wSI) fc) (hd1 : 1 ≤ d) (hs : (st.map fun v => v.category).sum ≤ 8) (h0 : st0 = As.reverse ++ st) (hdg : decode M.2.1 pc = .ok (.invokestatic i, 3)) (k : ∀ r : Int32 × DY, Go M d S w pc' ls (.int r.1 :: st) r.2 (f r)) : Go M d S w pc ls st0 x (Option.bind fc f) := by
  subst hp
  exact go_S hl hb hA hd1 hs h0 hdg k
theorem go_SN_SI {fc : Option (Int32 × DY)} {f : Int32 × DY → Option ρ} (hp : pc' = pc + 3) (hl : LSN M.1.cls i M') (hb : LB M' As.length) (hA : CT M' (d - 1) S As x (wSI) fc) (hd1 : 1 ≤ d) (hs : (st.map fun v => v.category).sum ≤ 8) (h0 : st0 = As.reverse ++ st) (hdg : decode M.2.1 pc = .ok (.invokestatic i, 3)) (k : ∀ r : Int32 × DY, Go M d S w pc' ls (.int r.1 :: st) r.2 (f r)) : Go M d S w pc ls st0 x (Option.bind fc f) := by
  subst hp
  exact go_SN hl hb hA hd1 hs h0 hdg k
theorem go_V_SL {fc : Option (Int64 × DY)} {f : Int64 × DY → Option ρ} {c b : Nat} (hp : pc' = pc + 3) (hl : LV M.1.cls i c M') (hb : LB M' As.length) (hA : CT M' (d - 1) S (.ref b :: As) x (wSL) fc) (hd1 : 1 ≤ d) (hT : TY S b c) (hs : (st.map fun v => v.category).sum ≤ 8) (h0 : st0 = As.reverse ++ .ref b :: st) (hdg : decode M.2.1 pc = .ok (.invokevirtual i, 3)) (k : ∀ r : Int64 × DY, Go M d S w pc' ls (.long r.1 :: st) r.2 (f r)) : Go M d S w pc ls st0 x (Option.bind fc f) := by
  subst hp
  exact go_V hl hb hA hd1 hT hs h0 hdg k
theorem go_S_SL {fc : Option (Int64 × DY)} {f : Int64 × DY → Option ρ} (hp : pc' = pc + 3) (hl : LSt M.1.cls i M') (hb : LB M' As.length) (hA : CT M' (d - 1) S As x (wSL) fc) (hd1 : 1 ≤ d) (hs : (st.map fun v => v.category).sum ≤ 8) (h0 : st0 = As.reverse ++ st) (hdg : decode M.2.1 pc = .ok (.invokestatic i, 3)) (k : ∀ r : Int64 × DY, Go M d S w pc' ls (.long r.1 :: st) r.2 (f r)) : Go M d S w pc ls st0 x (Option.bind fc f) := by
  subst hp
  exact go_S hl hb hA hd1 hs h0 hdg k
theorem go_SN_SL {fc : Option (Int64 × DY)} {f : Int64 × DY → Option ρ} (hp : pc' = pc + 3) (hl : LSN M.1.cls i M') (hb : LB M' As.length) (hA : CT M' (d - 1) S As x (wSL) fc) (hd1 : 1 ≤ d) (hs : (st.map fun v => v.category).sum ≤ 8) (h0 : st0 = As.reverse ++ st) (hdg : decode M.2.1 pc = .ok (.invokestatic i, 3)) (k : ∀ r : Int64 × DY, Go M d S w pc' ls (.long r.1 :: st) r.2 (f r)) : Go M d S w pc ls st0 x (Option.bind fc f) := by
  subst hp
  exact go_SN hl hb hA hd1 hs h0 hdg k
theorem go_V_SV {fc : Option (DY)} {f : DY → Option ρ} {c b : Nat} (hp : pc' = pc + 3) (hl : LV M.1.cls i c M') (hb : LB M' As.length) (hA : CT M' (d - 1) S (.ref b :: As) x (wSV) fc) (hd1 : 1 ≤ d) (hT : TY S b c) (hs : (st.map fun v => v.category).sum ≤ 8) (h0 : st0 = As.reverse ++ .ref b :: st) (hdg : decode M.2.1 pc = .ok (.invokevirtual i, 3)) (k : ∀ r : DY, Go M d S w pc' ls (st) r (f r)) : Go M d S w pc ls st0 x (Option.bind fc f) := by
  subst hp
  exact go_V hl hb hA hd1 hT hs h0 hdg k
theorem go_S_SV {fc : Option (DY)} {f : DY → Option ρ} (hp : pc' = pc + 3) (hl : LSt M.1.cls i M') (hb : LB M' As.length) (hA : CT M' (d - 1) S As x (wSV) fc) (hd1 : 1 ≤ d) (hs : (st.map fun v => v.category).sum ≤ 8) (h0 : st0 = As.reverse ++ st) (hdg : decode M.2.1 pc = .ok (.invokestatic i, 3)) (k : ∀ r : DY, Go M d S w pc' ls (st) r (f r)) : Go M d S w pc ls st0 x (Option.bind fc f) := by
  subst hp
  exact go_S hl hb hA hd1 hs h0 hdg k
theorem go_SN_SV {fc : Option (DY)} {f : DY → Option ρ} (hp : pc' = pc + 3) (hl : LSN M.1.cls i M') (hb : LB M' As.length) (hA : CT M' (d - 1) S As x (wSV) fc) (hd1 : 1 ≤ d) (hs : (st.map fun v => v.category).sum ≤ 8) (h0 : st0 = As.reverse ++ st) (hdg : decode M.2.1 pc = .ok (.invokestatic i, 3)) (k : ∀ r : DY, Go M d S w pc' ls (st) r (f r)) : Go M d S w pc ls st0 x (Option.bind fc f) := by
  subst hp
  exact go_SN hl hb hA hd1 hs h0 hdg k
theorem r_ialdX2 {a : Nat} {i : Int32} (hT : TXX S a) (hi : ix S a i) (hd : decode M.2.1 pc = .ok (.iaload, 1)) (kk : MW M d mcT msT Q (pc + 1) ls (.int (x.1 a i.toNatClampNeg) :: st) S x k n) : MW M d mcT msT Q pc ls (.int i :: .ref a :: st) S x k n :=
  hT.elim (fun h => r_ialdX h hi hd kk) (fun h => r_iald h hi hd kk)
theorem r_alenX2 {a : Nat} (hT : TXX S a) (hd : decode M.2.1 pc = .ok (.arraylength, 1)) (kk : MW M d mcT msT Q (pc + 1) ls (.int (nI (S.2.2.1 a)) :: st) S x k n) : MW M d mcT msT Q pc ls (.ref a :: st) S x k n :=
  hT.elim (fun h => r_alenX h hd kk) (fun h => r_alen h (by decide) (by decide) hd kk)
theorem go_aald {a c : Nat} {i : Int32} {f : Nat → Option ρ} (hp : pc' = pc + 1) (hT : TY S a c) (hc : c = 16 ∨ c = 17 ∨ c = 18) (hd : decode M.2.1 pc = .ok (.aaload, 1)) (kk : ∀ b, S.2.2.2 a i.toNatClampNeg = some b → Go M d S w pc' ls (.ref b :: st) x (f b)) : Go M d S w pc ls (.int i :: .ref a :: st) x (ck S a i (rfk (S.2.2.2 a i.toNatClampNeg) f)) := by
  subst hp
  refine go_ck (fun hi => ?_)
  intro r hr
  refine r_aald hT hc hi hd ?_
  cases hb : S.2.2.2 a i.toNatClampNeg with
  | none => rw [hb] at hr; cases hr
  | some b => rw [hb] at hr; exact kk b hb r hr
theorem go_cpk {a0 a1 : Nat} {sp dp n : Int32} (k : ¬ (sp < 0 ∨ dp < 0 ∨ n < 0 ∨ S.2.2.1 a0 < sp.toNatClampNeg + n.toNatClampNeg ∨ S.2.2.1 a1 < dp.toNatClampNeg + n.toNatClampNeg) → Go M d S w pc ls st x o) : Go M d S w pc ls st x (cpk S a0 sp a1 dp n o) := by
  intro r hr
  unfold cpk at hr
  by_cases hc : sp < 0 ∨ dp < 0 ∨ n < 0 ∨ S.2.2.1 a0 < sp.toNatClampNeg + n.toNatClampNeg ∨ S.2.2.1 a1 < dp.toNatClampNeg + n.toNatClampNeg
  · rw [if_pos hc] at hr; cases hr
  · rw [if_neg hc] at hr; exact k hc r hr
theorem r_copy {i a0 a1 : Nat} {sp dp m : Int32} (hw : Cond.methodLink M.1.cls i arraycopyName ∈ tb) (h0 : TY S a0 14) (h1 : TY S a1 14) (hy : ¬ (sp < 0 ∨ dp < 0 ∨ m < 0 ∨ S.2.2.1 a0 < sp.toNatClampNeg + m.toNatClampNeg ∨ S.2.2.1 a1 < dp.toNatClampNeg + m.toNatClampNeg)) (hs : (st.map fun v => v.category).sum ≤ 8) (hd1 : 1 ≤ d) (hd : decode M.2.1 pc = .ok (.invokestatic i, 3)) (kk : MW M d mcT msT Q (pc + 3) ls st S (cpX S a0 sp a1 dp m x) k n) : MW M d mcT msT Q pc ls (.int m :: .int dp :: .ref a1 :: .int sp :: .ref a0 :: st) S x k n := by
  intro p l e R s mm args below meth c' D ty σ0 S0 C σ H locs cells slots LS T
  obtain ⟨hW, hS, hG, hL, hr⟩ := T
  have hts := C.2.2.2.2.2.2.2.1
  have hR := C.2.2.2.2.2.2.2.2.1
  refine va_copyi C.1 C.2.1 (C.2.2.1.trans hL.1.symm) C.2.2.2.2.2.2.1 (hts _ hw) (hts _ (tbI 834 (by decide +kernel) rfl)) (hts _ (tbI 833 (by decide +kernel) rfl)) (hts _ (tbI 104 (by decide +kernel) rfl)) C.2.2.2.2.2.2.2.2.2.1.1 hW.1 (hW.DA hG) hS (a0 - 40) (a1 - 40) 1 1 (ws_arr h0 (by decide) (by decide)) (ws_arr h1 (by decide) (by decide)) rfl rfl rfl (fun h => hy (Or.inl h)) (fun h => hy (Or.inr (Or.inl h))) (fun h => hy (Or.inr (Or.inr (Or.inl h)))) (Nat.not_lt.mp fun h => hy (Or.inr (Or.inr (Or.inr (Or.inl h))))) (Nat.not_lt.mp fun h => hy (Or.inr (Or.inr (Or.inr (Or.inr h))))) (fun _ _ => rfl) (by rw [hR]; exact hd1) ?_ hd (fun H1 locs1 hP hD hS1 => kk C ⟨?_, hS1, hG, hL, hr⟩)
  · rw [hR, List.map_map, show ((fun v : Value => v.category) ∘ rv σ) = (fun v : Value => v.category) from funext (rv_cat σ)]
    have h9 : nativeFrameWords "java/lang/System" "arraycopy" 5 ≤ 45 := by decide +kernel
    show _ ≤ 64 * d
    omega
  · have e : (.inl (ty 14, S.2.2.1 a1, .inl (va_cpy (x.1 a0) (x.1 a1) sp.toNatClampNeg dp.toNatClampNeg m.toNatClampNeg)) : va_E) = cellE ty σ S (cpX S a0 sp a1 dp m x) a1 := by
      rw [cellE_arr (by rw [h1.2.2]; decide) (by rw [h1.2.2]; decide), h1.2.2]
      show _ = Sum.inl (ty 14, S.2.2.1 a1, Sum.inl (if a1 = a1 then _ else _))
      rw [if_pos rfl]
    rw [e] at hP hD
    refine WP.put (x' := cpX S a0 sp a1 dp m x) (fun i hi => ⟨(hW.2.2.1 i hi).1, fun q hq => ?_⟩) hW.2.2.2 h1.1 h1.2.1 rfl (fun b hb => ?_) hP hD
    · show (if i = a1 then _ else x.1 i) q = _
      rw [if_neg (by have := h1.1; omega)]
      exact (hW.2.2.1 i hi).2 q hq
    · unfold cellE oV fVal cpX
      simp only [if_neg hb]
theorem lsw_out {v : Int32} (l : List (Int × Int)) (df : Int) (h : ∀ q ∈ l, ¬ v.toInt = q.1) : Op.lookupswitch.offset l df v.toInt = df := by
  induction l with
  | nil => rfl
  | cons a t ih =>
    obtain ⟨a, b⟩ := a
    have h1 : ¬ v.toInt = a := h (a, b) List.mem_cons_self
    simp only [Op.lookupswitch.offset]
    first | rw [if_neg h1] | rw [if_neg (fun q => h1 q.symm)] | (split; · next q => exact absurd q (by simpa using h1))
    exact ih (fun q hq => h q (List.mem_cons_of_mem _ hq))
theorem r_ldcS {i j : Nat} (hi : i < 11) (h1 : (exS i).1 = j) (h2 : M.1.cls = "PlateRound$Reader") (hd : decode M.2.1 pc = .ok (.ldc j, 2)) (kk : MW M d mcT msT Q (pc + 2) ls (.ref (5 + i) :: st) S x k n) : MW M d mcT msT Q pc ls st S x k n := by
  intro p l e R s mm args below meth c' D ty σ0 S0 C σ H locs cells slots LS T
  have hs : σ (5 + i) = σ0 (5 + i) := ex_old T.2.2.1 C.2.2.2.2.2.2.2.2.2.2.2 (by omega)
  have hk := kk (l := l) (e := e) (below := below) C T
  rw [show (Value.ref (5 + i) :: st).map (rv σ) = .ref (σ0 (5 + i)) :: st.map (rv σ) by rw [← hs]; rfl] at hk
  have ho := C.2.2.2.2.2.2.1
  rw [h2] at ho
  subst h1
  exact va_ldcS C.1 C.2.1 ho (C.2.2.2.2.2.2.2.2.2.2.1.2.1 i hi) hd hk
end GO2

