/-! THE LAW: what stands at its entry -/
theorem lt_mk {w : Cond} (i : Nat) (h : lw_tbl[i]? = some w) : w ∈ lw_tbl := List.mem_of_getElem? h
theorem inst_in : ∀ c, c < 13 → Cond.instantiable (cR c) (cN c) ∈ lw_tbl := c13 (lt_mk 231 (by decide +kernel)) (lt_mk 436 (by decide +kernel)) (lt_mk 370 (by decide +kernel)) (lt_mk 114 (by decide +kernel)) (lt_mk 286 (by decide +kernel)) (lt_mk 189 (by decide +kernel)) (lt_mk 280 (by decide +kernel)) (lt_mk 143 (by decide +kernel)) (lt_mk 322 (by decide +kernel)) (lt_mk 257 (by decide +kernel)) (lt_mk 150 (by decide +kernel)) (lt_mk 106 (by decide +kernel)) (lt_mk 1136 (by decide +kernel))
theorem nest_in : ∀ q ∈ nestW, Cond.methodLinkNest q.1 q.2.1 q.2.2.1 q.2.2.2 ∈ lw_tbl := by
  intro q hq
  simp only [nestW, List.mem_cons, List.not_mem_nil, or_false] at hq
  rcases hq with rfl | rfl | rfl | rfl | rfl | rfl | rfl | rfl | rfl | rfl | rfl | rfl | rfl
  · exact lt_mk 115 (by decide +kernel)
  · exact lt_mk 190 (by decide +kernel)
  · exact lt_mk 232 (by decide +kernel)
  · exact lt_mk 258 (by decide +kernel)
  · exact lt_mk 287 (by decide +kernel)
  · exact lt_mk 323 (by decide +kernel)
  · exact lt_mk 507 (by decide +kernel)
  · exact lt_mk 533 (by decide +kernel)
  · exact lt_mk 604 (by decide +kernel)
  · exact lt_mk 889 (by decide +kernel)
  · exact lt_mk 1003 (by decide +kernel)
  · exact lt_mk 1067 (by decide +kernel)
  · exact lt_mk 1089 (by decide +kernel)
theorem ArrOfT.mk' {s : State} {cA : ClassId} {k : Class} {comp : ClassId} {t : FieldType} (h1 : s.vm.classes[cA]? = some k) (h2 : k.kind = .array comp t) : ArrOfT s cA t := fun n z => ⟨fun _ h => (by cases h), k, h1, comp, h2⟩
theorem lw_WE {s : State} {b : Nat} (hts : ∀ w ∈ lw_tbl, w.before #[Value.ref b] s = true) : ∃ (D : va_G) (ty : Nat → ClassId), WE D ty s := by
  have h1 : ∀ c, ∃ (cC : ClassId) (iS : Nat → Nat), c < 13 → u_Kn s (cR c) (cT c) (cN c) cC iS := fun c => by
    by_cases hc : c < 13
    · obtain ⟨cC, iS, h⟩ := u_known (C := cR c) (T := cT c) (N := cN c) (fun w hw => hts w (tb_in hw)) (cW_all c hc) (hts _ (inst_in c hc))
      exact ⟨cC, iS, fun _ => h⟩
    · exact ⟨(0 : Nat), fun _ => 0, fun h => absurd h hc⟩
  obtain ⟨c3, k3, p3, a1, a2, a3⟩ := Cond.arrayClass_spec (hts (.arrayClass .byte) (lt_mk 848 (by decide +kernel)))
  obtain ⟨c4, k4, p4, b1, b2, b3⟩ := Cond.arrayClass_spec (hts (.arrayClass .int) (lt_mk 141 (by decide +kernel)))
  obtain ⟨c5, k5, p5, d1, d2, d3⟩ := Cond.arrayClass_spec (hts (.arrayClass .boolean) (lt_mk 1347 (by decide +kernel)))
  have hR := hts (.arrayOver (.object "PlateRound$Round")) (lt_mk 442 (by decide +kernel))
  have hT := hts (.arrayOver (.object "PlateRound$Text")) (lt_mk 149 (by decide +kernel))
  have hI := hts (.arrayOver (.array .int)) (lt_mk 263 (by decide +kernel))
  obtain ⟨p6, c6, k6, e1, e2, e3, e4, e5⟩ := Cond.arrayOver_spec hR
  obtain ⟨p7, c7, k7, f1, f2, f3, f4, f5⟩ := Cond.arrayOver_spec hT
  obtain ⟨p8, c8, k8, g1, g2, g3, g4⟩ := Cond.arrayOver_specA hI
  refine ⟨(fun c => (h1 c).choose, fun c => (h1 c).choose_spec.choose), fun k => match k with | 13 => c3 | 14 => c4 | 15 => c5 | 16 => c6 | 17 => c7 | _ => c8, ⟨fun c q hq => ?_, fun k q hq => ?_⟩, fun q hq => va_Nw.of rfl (hts _ (nest_in q hq)), va_AO.of hR, va_AO.of hT, hI, va_Nw.of rfl (hts (.castable "[I" "java/lang/Cloneable") (lt_mk 840 (by decide +kernel)))⟩
  · have hc : c < 13 := (List.getElem?_eq_some_iff.mp hq).1
    rw [CL_at c hc] at hq
    cases hq
    exact (h1 c).choose_spec.choose_spec hc
  · match k, hq with
    | 0, hq => cases hq; exact ⟨.mk' a2 a3, a1⟩
    | 1, hq => cases hq; exact ⟨.mk' b2 b3, b1⟩
    | 2, hq => cases hq; exact ⟨.mk' d2 d3, d1⟩
    | 3, hq => cases hq; exact ⟨.mk' e3 e4, k6, p6, e3, e4, e1, e5⟩
    | 4, hq => cases hq; exact ⟨.mk' f3 f4, k7, p7, f3, f4, f1, f5⟩
    | 5, hq => cases hq; exact ⟨.mk' g2 g3, g4⟩
    | k + 6, hq => simp [tysOf] at hq
