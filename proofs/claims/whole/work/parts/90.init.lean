/-! THE START: the two graphs behind the constructors -/
def zE0 : SH := (40, fun _ => 0, fun i => (exV i).length, fun _ _ => none)
def zX0 : DY := (fun i j => (exV i).getD j 0, fun _ _ => 0)
def iX (k : Nat) : Option (SH × DY) := fA_X11_init 1000 (SN zE0 11 0) 40 (nI k) (XN zX0 40)
def iM (k : Nat) : Option (SH × DY) := fA_X12_init 1000 (SN zE0 12 0) 40 (nI k) (XN zX0 40)
def oS (o : Option (SH × DY)) : SH := match o with
  | some r => r.1
  | none => zE0
def oD (o : Option (SH × DY)) : DY := match o with
  | some r => r.2
  | none => zX0
theorem o_eq {o : Option (SH × DY)} (h : o.isSome = true) : o = some (oS o, oD o) := by
  cases o with
  | none => cases h
  | some r => rfl
theorem iM_some : ∀ k, k < 7 → (iM k).isSome = true := by decide +kernel
theorem iX_some : ∀ k, k < 7 → (iX k).isSome = true := by decide +kernel
theorem iM_shm : ∀ k, k < 7 → ∀ i, i < 40 → (oS (iM k)).2.2.2 40 (shm_slot i) = some (41 + i) ∧ (oS (iM k)).2.2.1 (41 + i) = shm_len i := by decide +kernel
theorem iX_sr : ∀ k, k < 7 → ∀ r, r ∈ ([67, 91, 111, 131] : List Nat) → SR (oS (iX k)) r (6 + k) := by
  unfold SR
  decide +kernel
theorem iX_sx : ∀ k, k < 7 → SX (oS (iX k)) := by
  unfold SX
  decide +kernel
