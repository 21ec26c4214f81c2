/-! THE START: what stood before the two graphs -/
def gv : List Cond := flatC (Jvm.Cond.and given_1 narrow_1)
theorem gv_arr : ∀ i, i < 5 → Cond.arrayOf (.static (exC i) (exF i) "[I") .int ∈ gv := by decide +kernel
theorem gv_len : ∀ i, i < 5 → Cond.eq (.length (.static (exC i) (exF i) "[I")) (.int (Int32.ofNat (exV i).length)) ∈ gv := by decide +kernel
theorem gv_el : ∀ i, i < 5 → ∀ j, j < (exV i).length → Cond.eq (.elem (.static (exC i) (exF i) "[I") (.int (Int32.ofNat j))) (.int ((exV i).getD j 0)) ∈ gv := by decide +kernel
abbrev tmS (i : Nat) : Term := .string "PlateRound$Reader" (exS i).1
theorem gs_ex : ∀ i, i < 11 → Cond.exactly (tmS i) "java/lang/String" ∈ gv := by decide +kernel
theorem gs_co : ∀ i, i < 11 → Cond.eq (.field (tmS i) "java/lang/String" "coder" "B") (.int 0) ∈ gv := by decide +kernel
theorem gs_ar : ∀ i, i < 11 → Cond.arrayOf (.field (tmS i) "java/lang/String" "value" "[B") .byte ∈ gv := by decide +kernel
theorem gs_le : ∀ i, i < 11 → Cond.eq (.length (.field (tmS i) "java/lang/String" "value" "[B")) (.int (Int32.ofNat (exLen.getD i 0))) ∈ gv := by decide +kernel
theorem gs_el : ∀ i, i < 11 → ∀ j, j < exLen.getD i 0 → Cond.eq (.elem (.field (tmS i) "java/lang/String" "value" "[B") (.int (Int32.ofNat j))) (.int ((exByt.getD i []).getD j 0)) ∈ gv := by decide +kernel
theorem gs_ne : ∀ i, i < 11 → ∀ j, j < 11 → i ≠ j → Cond.not (Cond.eq (tmS i) (tmS j)) ∈ gv ∨ Cond.not (Cond.eq (tmS j) (tmS i)) ∈ gv := by decide +kernel
theorem gv_cs : Cond.eq (.static "java/lang/String" "COMPACT_STRINGS" "Z") (.int 1) ∈ gv := by decide +kernel
theorem gv_fm : Cond.isRef (.static "jdk/internal/util/Preconditions" "SIOOBE_FORMATTER" "Ljava/util/function/BiFunction;") ∈ gv := by decide +kernel
theorem tl_st : ∀ i, i < 5 → lw_tbl[(([577, 614, 630, 152, 154] : List Nat).getD i 0)]? = some (Cond.laysStatic (exC i) (exF i) "[I") ∧ lw_tbl[(([95, 95, 95, 87, 87] : List Nat).getD i 0)]? = some (Cond.initialized (exC i)) := by decide +kernel
theorem tl_str : ∀ i, i < 11 → lw_tbl[(([684, 737, 738, 739, 740, 741, 746, 747, 748, 749, 750] : List Nat).getD i 0)]? = some (Cond.stringRef "PlateRound$Reader" (exS i).1 (exS i).2) := by decide +kernel
theorem ext_start {s : State} {b : Nat} (hts : ∀ w ∈ lw_tbl, w.before #[Value.ref b] s = true) (hgv : (Jvm.Cond.and given_1 narrow_1).before #[Value.ref b] s = true) : ∃ σ0 : Nat → Nat, EXT (AL s) σ0 s s.heap := by
  have hs := flat_of_before _ hgv
  have hA : ∀ a : Nat, a < s.heap.size → ¬ AL s a := fun a h1 h2 => Nat.not_lt.mpr h2 h1
  have h1 : ∀ i, ∃ t : Nat, i < 5 → (Term.static (exC i) (exF i) "[I").eval #[Value.ref b] s none [] s = some (.ref t) ∧ va_T .int t (exV i).length (fun j => .int ((exV i).getD j 0)) (AL s) s s.heap := fun i => by
    by_cases hi : i < 5
    · have hl : (exV i).length < 2 ^ 31 := by
        have := (by decide : ∀ i, i < 5 → (exV i).length < 100) i hi
        omega
      obtain ⟨t, k1, k2⟩ := va_Tof (f := fun j => .int ((exV i).getD j 0)) (A := AL s) hl (hs _ (gv_arr i hi)) (va_eqt (hs _ (gv_len i hi))) (fun j hj => va_eqt (hs _ (gv_el i hi j hj))) hA
      exact ⟨t, fun _ => ⟨k1, k2⟩⟩
    · exact ⟨0, fun h => absurd h hi⟩
  obtain ⟨f1, hf1⟩ := Classical.axiomOfChoice h1
  obtain ⟨adK, adV, hS, hE⟩ := vk_Sof (args := #[Value.ref b]) (s := s) (N := 11) (tm := tmS) (len := exLen) (byt := exByt) (A := AL s) (fun i hi => by
    have := (by decide : ∀ i, i < 11 → exLen.getD i 0 < 100) i hi
    omega) (fun i hi => hs _ (gs_ex i hi)) (fun i hi => hs _ (gs_co i hi)) (fun i hi => hs _ (gs_ar i hi)) (fun i hi => hs _ (gs_le i hi)) (fun i hi j hj => hs _ (gs_el i hi j hj)) (fun i j hi hj hne => by
      rcases gs_ne i hi j hj hne with h | h
      · exact Or.inl (hs _ h)
      · exact Or.inr (hs _ h)) hA
  have hcs := va_Zof (A := AL s) (hts (.laysStatic "java/lang/String" "COMPACT_STRINGS" "Z") (lt_mk 698 (by decide +kernel))) (hts (.initialized "java/lang/String") (lt_mk 100 (by decide +kernel))) (va_eqi (hs _ gv_cs)) hA
  have hfm := va_Zqof (A := AL s) (hts (.laysStatic "jdk/internal/util/Preconditions" "SIOOBE_FORMATTER" "Ljava/util/function/BiFunction;") (lt_mk 714 (by decide +kernel))) (hts (.initialized "jdk/internal/util/Preconditions") (lt_mk 102 (by decide +kernel))) (hs _ gv_fm) hA
  obtain ⟨tf, htf⟩ : ∃ t : Nat, va_Z "jdk/internal/util/Preconditions" "SIOOBE_FORMATTER" "Ljava/util/function/BiFunction;" .null (AL s) s s.heap ∨ va_Z "jdk/internal/util/Preconditions" "SIOOBE_FORMATTER" "Ljava/util/function/BiFunction;" (.ref t) (AL s) s s.heap := by
    rcases hfm with h | ⟨t, h⟩
    · exact ⟨0, Or.inl h⟩
    · exact ⟨t, Or.inr h⟩
  refine ⟨fun k => if k < 5 then f1 k else if k < 16 then adK (k - 5) else if k < 27 then adV (k - 16) else tf, fun i hi => ?_, fun i hi => ?_, ⟨adK, adV, hS, fun i hi => ⟨?_, ?_⟩⟩, hcs, htf⟩
  · obtain ⟨k1, k2⟩ := hf1 i hi
    obtain ⟨w1, w2⟩ := tl_st i hi
    show va_Z (exC i) (exF i) "[I" (.ref (if i < 5 then f1 i else _)) (AL s) s s.heap ∧ va_T .int (if i < 5 then f1 i else _) _ _ (AL s) s s.heap
    rw [if_pos hi]
    exact ⟨va_Zref (hts _ (List.mem_of_getElem? w1)) (hts _ (List.mem_of_getElem? w2)) k1 hA, k2⟩
  · show vk_R "PlateRound$Reader" (exS i).1 (exS i).2 (if 5 + i < 5 then _ else if 5 + i < 16 then adK (5 + i - 5) else _) s
    rw [if_neg (by omega), if_pos (by omega), Nat.add_sub_cancel_left]
    exact vk_R.of (hts _ (List.mem_of_getElem? (tl_str i hi))) (hE i hi)
  · show adK i = if 5 + i < 5 then _ else if 5 + i < 16 then adK (5 + i - 5) else _
    rw [if_neg (by omega), if_pos (by omega), Nat.add_sub_cancel_left]
  · show adV i = if 16 + i < 5 then _ else if 16 + i < 16 then _ else if 16 + i < 27 then adV (16 + i - 16) else _
    rw [if_neg (by omega), if_neg (by omega), if_pos (by omega), Nat.add_sub_cancel_left]
