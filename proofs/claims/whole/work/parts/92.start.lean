/-! THE START: what the constructors leave is related -/
def zP0 : List Nat := [4, 10000, 10002, 20006, 20004]
def zG0 : List Nat := [10005, 10003, 20005]
theorem zP0_l : zP0.length = 5 := rfl
theorem zG0_l : zG0.length = 3 := rfl
def tyb (S : SH) (b c : Nat) : Bool := decide (40 ≤ b) && (decide (b < S.1) && decide (S.2.1 b = c))
theorem tyb_of {S : SH} {b c : Nat} (h : tyb S b c = true) : TY S b c := by
  unfold tyb at h
  rw [Bool.and_eq_true, Bool.and_eq_true, decide_eq_true_iff, decide_eq_true_iff, decide_eq_true_iff] at h
  exact h
def okR (S : SH) (c k : Nat) (o : Option Nat) : Bool := match o with
  | none => false
  | some b => if rT c k = 19 then (decide (b < 5) || tyb S b 14) else tyb S b (rT c k)
def okE (S : SH) (c : Nat) (o : Option Nat) : Bool := match o with
  | none => true
  | some b => tyb S b c
def wt1 (S : SH) (a : Nat) : Bool := if S.2.1 a < 13 then (List.range (cN (S.2.1 a))).all (fun k => !(isR (cTy (S.2.1 a) k)) || okR S (S.2.1 a) k (S.2.2.2 a k)) else if S.2.1 a = 16 then (List.range (S.2.2.1 a)).all (fun i => okE S 6 (S.2.2.2 a i)) else if S.2.1 a = 17 then (List.range (S.2.2.1 a)).all (fun i => okE S 10 (S.2.2.2 a i)) else if S.2.1 a = 18 then (List.range (S.2.2.1 a)).all (fun i => okE S 14 (S.2.2.2 a i)) else true
def wtB (S : SH) (m : Nat) : Prop := S.1 = 40 + m ∧ (List.range m).all (fun j => wt1 S (40 + j)) = true
theorem okE_of {S : SH} {c b : Nat} {o : Option Nat} (h : okE S c o = true) (hb : o = some b) : TY S b c := by
  subst hb; exact tyb_of h
theorem WT_of {S : SH} {m : Nat} (h : wtB S m) (hP : ∀ a i b, 16 ≤ S.2.1 a → S.2.2.2 a i = some b → i < S.2.2.1 a) : WT S := by
  obtain ⟨h1, h⟩ := h
  have at_ : ∀ a c, TY S a c → ∃ j, j < m ∧ a = 40 + j := fun a c ha => ⟨a - 40, by have := ha.1; have := ha.2.1; omega, by have := ha.1; omega⟩
  refine ⟨fun a c hc ha k hk hr => ?_, fun a ha i b hb => ?_, fun a ha i b hb => ?_, fun a ha i b hb => ?_⟩
  · obtain ⟨j, hj, rfl⟩ := at_ a c ha
    have hc' := ha.2.2
    have h1 := List.all_eq_true.mp h j (List.mem_range.mpr hj)
    unfold wt1 at h1
    rw [if_pos (by omega)] at h1
    have this := List.all_eq_true.mp h1 k (List.mem_range.mpr (by rw [hc']; exact hk))
    rw [hc', hr] at this
    cases e : S.2.2.2 (40 + j) k with
    | none => rw [e] at this; cases this
    | some b =>
      rw [e] at this
      have h2 : (if rT c k = 19 then (decide (b < 5) || tyb S b 14) else tyb S b (rT c k)) = true := this
      refine ⟨b, rfl, fun hn => ?_, fun hy => ?_⟩
      · rw [if_neg hn] at h2; exact tyb_of h2
      · rw [if_pos hy, Bool.or_eq_true, decide_eq_true_iff] at h2
        rcases h2 with h2 | h2
        · exact Or.inl h2
        · exact Or.inr (tyb_of h2)
  · obtain ⟨j, hj, rfl⟩ := at_ a 16 ha
    have h1 := List.all_eq_true.mp h j (List.mem_range.mpr hj)
    unfold wt1 at h1
    rw [ha.2.2, if_neg (by omega), if_pos rfl] at h1
    exact okE_of (List.all_eq_true.mp h1 i (List.mem_range.mpr (hP _ i b (by rw [ha.2.2]; omega) hb))) hb
  · obtain ⟨j, hj, rfl⟩ := at_ a 17 ha
    have h1 := List.all_eq_true.mp h j (List.mem_range.mpr hj)
    unfold wt1 at h1
    rw [ha.2.2, if_neg (by omega), if_neg (by omega), if_pos rfl] at h1
    exact okE_of (List.all_eq_true.mp h1 i (List.mem_range.mpr (hP _ i b (by rw [ha.2.2]; omega) hb))) hb
  · obtain ⟨j, hj, rfl⟩ := at_ a 18 ha
    have h1 := List.all_eq_true.mp h j (List.mem_range.mpr hj)
    unfold wt1 at h1
    rw [ha.2.2, if_neg (by omega), if_neg (by omega), if_neg (by omega), if_pos rfl] at h1
    exact okE_of (List.all_eq_true.mp h1 i (List.mem_range.mpr (hP _ i b (by rw [ha.2.2]; omega) hb))) hb
theorem iX_wt : ∀ k, k < 7 → wtB (oS (iX k)) 111 := by
  unfold wtB
  decide +kernel
theorem iM_wt : ∀ k, k < 7 → wtB (oS (iM k)) 41 := by
  unfold wtB
  decide +kernel
theorem iM_k16 : ∀ k, k < 7 → ∀ a, a < 81 → (oS (iM k)).2.1 a < 16 := by decide +kernel
theorem iX_sp : ∀ k, k < 7 → (oS (iX k)).1 = 151 ∧ (oS (iX k)).2.2.2 88 0 = some 91 ∧ (oS (iX k)).2.2.2 88 1 = some 111 ∧ (oS (iX k)).2.2.2 88 2 = some 131 ∧ (∀ s, s < 4 → (oS (iX k)).2.2.2 62 s = some (63 + s)) ∧ (∀ q, q ∈ zKd → (oS (iX k)).2.1 q.1 = q.2) ∧ (oS (iX k)).2.1 (tX 0) = 10 ∧ (oS (iX k)).2.2.2 45 1 = some (tX 0) ∧ (oS (iX k)).2.2.2 46 0 = some (tX 0) ∧ (oS (iX k)).2.2.2 (tX 0) 0 = some (kX 0) ∧ (oS (iX k)).2.2.2 (tX 0) 1 = some (gX 0) ∧ (oS (iX k)).2.2.2 (tX 0) 2 = some (sX 0) ∧ (oS (iX k)).2.2.1 (kX 0) = zP0.length ∧ (oS (iX k)).2.2.1 (gX 0) = zG0.length ∧ (oS (iX k)).2.2.1 (sX 0) = 5 := by decide +kernel
theorem iM_sp : ∀ k, k < 7 → (oS (iM k)).1 = 81 ∧ (oS (iM k)).2.1 40 = 12 := by decide +kernel
theorem i_ex : ∀ k, k < 7 → ∀ i, i < 16 → ∀ j, j < (exV i).length → (oD (iX k)).1 i j = (exV i).getD j 0 := by decide +kernel
theorem i_mn : ∀ k, k < 7 → (∀ d, d < 6 → (oD (iX k)).1 42 d = (oD (iM k)).1 41 d ∧ (oD (iX k)).1 43 d = (oD (iM k)).1 42 d ∧ (oD (iM k)).1 41 d = nI (d % 5)) ∧ (∀ c, c < 5 → (oD (iX k)).1 44 c = (oD (iM k)).1 43 c ∧ (oD (iM k)).1 43 c = nI 100) ∧ (oD (iX k)).1 41 3 = nI 50 ∧ (oD (iM k)).1 40 4 = nI 50 := by decide +kernel
theorem i_tx : ∀ k, k < 7 → (oD (iX k)).1 45 2 = nI 1 ∧ (oD (iM k)).1 40 29 = nI 1 ∧ (oD (iX k)).1 45 3 = nI 0 ∧ (oD (iM k)).1 40 30 = nI 0 ∧ (∀ i, i < zP0.length → (oD (iX k)).1 (kX 0) i = encX (zP0.getD i 0) ∧ (oD (iM k)).1 63 (160 * (2 * 0) + i) = encM (zP0.getD i 0)) ∧ (∀ i, i < zG0.length → (oD (iX k)).1 (gX 0) i = encX (zG0.getD i 0) ∧ (oD (iM k)).1 63 (160 * (2 * 0 + 1) + i) = encM (zG0.getD i 0)) ∧ (oD (iM k)).1 62 (2 * 0) = nI zP0.length ∧ (oD (iM k)).1 62 (2 * 0 + 1) = nI zG0.length := by decide +kernel
theorem i_rr : ∀ k, k < 7 → (oD (iX k)).1 68 5 = nI 0 ∧ (oD (iM k)).1 40 1 = nI 0 ∧ (oD (iX k)).1 74 7 = nI 0 ∧ (oD (iM k)).1 40 18 = nI 0 ∧ (oD (iX k)).1 84 2 = nI 0 ∧ (oD (iM k)).1 40 17 = nI 0 ∧ (oD (iM k)).1 40 0 = nI (6 + k) ∧ (oD (iX k)).1 67 7 = (oD (iM k)).1 40 2 ∧ (oD (iX k)).1 67 8 = (oD (iM k)).1 40 3 ∧ (∀ i, i < 6 + k → (oD (iX k)).1 83 i = mO ∧ (oD (iM k)).1 49 i = mO ∧ (oD (iX k)).1 86 i = mO ∧ (oD (iM k)).1 50 i = mO) := by decide +kernel
theorem i_rest : ∀ k, k < 7 → (∀ i, i < 7 → (oD (iX k)).1 56 i = (oD (iM k)).1 76 i ∧ (oD (iM k)).1 76 i = nI 0) ∧ (oD (iX k)).1 57 0 = nI 0 ∧ (∀ s, s < 4 → (oD (iX k)).1 60 s = (oD (iM k)).1 78 s ∧ (oD (iM k)).1 78 s = mO ∧ (oD (iX k)).1 61 s = nI 0 ∧ (oD (iM k)).1 79 s = nI 0) ∧ (oD (iX k)).1 49 1 = nI 0 ∧ (oD (iM k)).1 40 28 = nI 0 ∧ (∀ s, s < 8 → (oD (iM k)).1 60 s = nI 0) := by decide +kernel
theorem i_wf : zWf zP0 ∧ zWf zG0 := by
  unfold zWf zOk
  decide +kernel
theorem pn_of {o : Option (SH × DY)} (h : PO o (fun r => Pn r.1)) (hs : o.isSome = true) : Pn (oS o) := h _ (o_eq hs)
set_option maxRecDepth 100000 in
theorem iM_pn {k : Nat} (h0 : Pn (SN zE0 12 0)) : PO (iM k) (fun r => Pn r.1) := by
  unfold iM
  exact p_X12_init h0
theorem i_W {k : Nat} (hk : k < 7) : zW (oS (iX k)) (oD (iX k)) (oS (iM k)) (oD (iM k)) := by
  obtain ⟨s1, s2, s3, s4, s5, s6, s7, s8, s9, s10, s11, s12, s13, s14, s15⟩ := iX_sp k hk
  obtain ⟨m1, m2⟩ := iM_sp k hk
  obtain ⟨n1, n2, n3, n4⟩ := i_mn k hk
  obtain ⟨t1, t2, t3, t4, t5, t6, t7, t8⟩ := i_tx k hk
  obtain ⟨r1, r2, r3, r4, r5, r6, r7, r8, r9, r10⟩ := i_rr k hk
  obtain ⟨e1, e2, e3, e4, e5, e6⟩ := i_rest k hk
  have hsr := iX_sr k hk
  have hp : Pn (oS (iX k)) := by
    have h0 : Pn (SN zE0 11 0) := Pn.sn (fun a i b hb => by cases hb)
    exact p_X11 (N := 1000) (a0 := 40) (a1 := nI k) (x := XN zX0 40) h0 (oS (iX k), oD (iX k)) (o_eq (iX_some k hk))
  have hwx : WT (oS (iX k)) := WT_of (iX_wt k hk) (fun a i b ha hb => by
    rcases (hp a i b hb).2 with h | h
    · omega
    · exact h)
  have hwm : WT (oS (iM k)) := by
    have k16 := iM_k16 k hk
    have h0 : Pn (SN zE0 12 0) := Pn.sn (fun a i b hb => by cases hb)
    have hp2 : Pn (oS (iM k)) := pn_of (iM_pn h0) (iM_some k hk)
    refine WT_of (iM_wt k hk) (fun a i b ha hb => ?_)
    exfalso
    have h1 := (hp2 a i b hb).1
    have := k16 a (by omega)
    omega
  refine ⟨6 + k, 0, 0, 0, 50, 1, 0, ⟨hsr 67 (by decide), fun i hi => iM_shm k hk i hi, iX_sx k hk, by omega, by omega, ⟨fun d hd => ⟨(n1 d hd).1, (n1 d hd).2.1, d % 5, Nat.mod_lt _ (by omega), (n1 d hd).2.2⟩, fun c hc => ⟨(n2 c hc).1, 100, by omega, (n2 c hc).2⟩, n3, n4, by omega⟩, i_ex k hk, by omega, by omega, by omega, t1, t2, t3, t4, s8, fun j hj => ?_⟩, ⟨hsr 91 (by decide), hsr 111 (by decide), hsr 131 (by decide)⟩, ⟨⟨⟨r1, r2, by omega, r3, r4, by omega, r5, r6, by omega, r7, by omega, by omega, r8, r9⟩, fun p hp => absurd hp (Nat.not_lt_zero p), ⟨fun i hi => ?_, fun i hi => ?_, fun i hi => absurd hi (Nat.not_lt_zero i), fun i hi => absurd hi (Nat.not_lt_zero i)⟩, fun s hs => absurd hs (Nat.not_lt_zero s), fun i hi => Or.inl (r10 i hi).2.1, fun i hi => Or.inl (r10 i hi).2.2.2, fun i hi => absurd hi (Nat.not_lt_zero i), fun i j hi => absurd hi (Nat.not_lt_zero i), fun s hs => absurd hs (Nat.not_lt_zero s), fun p hp => absurd hp (Nat.not_lt_zero p)⟩, fun p hp => absurd hp (Nat.not_lt_zero p)⟩, ⟨fun i hi => ⟨(e1 i hi).1, 0, by omega, (e1 i hi).2⟩, e2⟩, fun s hs => ⟨(e3 s hs).1, Or.inl (e3 s hs).2.1, 0, by omega, (e3 s hs).2.2.1, (e3 s hs).2.2.2, fun i hi => absurd hi (Nat.not_lt_zero i)⟩, ⟨0, by omega, e4, e5, fun i hi => absurd hi (Nat.not_lt_zero i)⟩, ⟨s1, s2, s3, s4, s5, hwx, s6, fun j hj => ?_⟩, hwm, ⟨by omega, by omega, m2⟩, fun s _ hs => e6 s hs⟩
  · have hj0 : j = 0 := by omega
    subst hj0
    refine ⟨s9, s10, s11, s12, zP0, zG0, i_wf.1, i_wf.2, ⟨s13, ?_, ?_, fun i hi => (t5 i hi).1, fun i hi => (t5 i hi).2, t7⟩, ⟨s14, ?_, ?_, fun i hi => (t6 i hi).1, fun i hi => (t6 i hi).2, t8⟩⟩
    · rw [s15, zP0_l]; omega
    · rw [s15]; omega
    · rw [s15, zG0_l]; omega
    · rw [s15]; omega
  · rw [(r10 i hi).1]; exact (r10 i hi).2.1.symm
  · rw [(r10 i hi).2.2.1]; exact (r10 i hi).2.2.2.symm
  · have hj0 : j = 0 := by omega
    subst hj0
    exact s7
