/-! THE LAW'S LOOP -/
section LAWM
variable {p : Program} {l : Launch} {e : Env} {s : State} {m : MethodId} {below : List Frame} {meth : Method} {c : Code} {D : va_G} {ty : Nat → ClassId} {σ0 : Nat → Nat} {b L : Nat} {xs : Nat → Int32} {N : Nat} {R : Nat → SH → DY → SH → DY → Prop} {kc ks pc pc' : Nat} {ls ls' : List (Option Value)} {st st' st0 : List Value} {Sx Sm : SH} {xx xm : DY}
theorem LW.iinc {i : Nat} {c0 : Int} {v v' : Int32} (C : LC p s m meth c b L xs D ty σ0) (hl0 : ls[i]? = some (some (.int v))) (hn : i < 4) (hz : noL ls i = true) (hv : v + Int32.ofInt c0 = v') (hd : decode code pc = .ok (.iinc i c0, 3)) (hp : pc' = pc + 3) (kk : LW p l e s m below meth c D ty σ0 b kc ks pc' (ls.set i (some (.int v'))) st Sx xx Sm xm) : LW p l e s m below meth c D ty σ0 b kc ks pc ls st Sx xx Sm xm := by
  subst hp
  intro σx σm H locs LS T
  obtain ⟨h1, h2, h3, h4, h5, h6, h7, h8, h9⟩ := T
  obtain ⟨j, hj⟩ := List.getElem?_of_mem (lvO_in (σ := rho b (σx 40) (σm 40)) hl0)
  exact lv_iinc C.hx C.hb hd h9.has hj hv hn rfl (fun LS' hL => kk σx σm H locs LS' ⟨h1, h2, h3, h4, h5, h6, h7, h8, LH.put1 (v := .int _) hL hz⟩)
theorem sw_ok : ∀ j, j < 30 → (0 : Int) ≤ (nI j).toInt ∧ (nI j).toInt ≤ 29 ∧ ((nI j).toInt - 0).toNat = j := by decide +kernel
theorem sw_no : ∀ j, j < 32 → 30 ≤ j → (29 : Int) < (nI j).toInt := by decide +kernel

theorem law_loop (C : LC p s m meth c b L xs D ty σ0) (hL : L ≤ 2561) (hO : LAWOK N R) {K0 S0 : Nat} (hK : K0 + 4 * 512 ≤ 600000) (hS : S0 + 483 * 512 ≤ 7302250) : ∀ (n t cc : Nat) (Sx : SH) (xx : DY) (Sm : SH) (xm : DY), t ≤ 512 → 513 ≤ t + n → cc ≤ t → R cc Sx xx Sm xm →
    LW p l e s m below meth c D ty σ0 b (K0 + 4 * t) (S0 + 483 * t) 28 [some (.ref 0), some (.ref 1), some (.ref 2), some (.int (nI (1 + 5 * t)))] [] Sx xx Sm xm := by
  intro n
  induction n with
  | zero => intro t cc Sx xx Sm xm h1 h2; omega
  | succ n ih =>
    intro t cc Sx xx Sm xm ht hn hcc hR
    refine LW.pure (pc' := 29) (st' := [.int (nI (1 + 5 * t))]) (fun hl k => lv_iload_n C.hx C.hb dL_law_28 rfl (hl.get (j := 3) (v := .int (nI (1 + 5 * t))) rfl) k) ?_
    refine LW.pure (pc' := 30) (st' := [.ref 0, .int (nI (1 + 5 * t))]) (fun hl k => lv_aload_n C.hx C.hb dL_law_29 rfl (hl.get (j := 0) (v := .ref 0) rfl) k) ?_
    refine LW.slen (pc' := 31) C dL_law_30 rfl ?_
    refine LW.pure (pc' := 32) (st' := [.int 5, .int (nI L), .int (nI (1 + 5 * t))]) (fun hl k => lv_iconst C.hx C.hb dL_law_31 (by decide) k) ?_
    refine LW.pure (pc' := 33) (st' := [.int (nI L - 5), .int (nI (1 + 5 * t))]) (fun hl k => lv_isub C.hx C.hb dL_law_32 k) ?_
    have hsub : (nI L - 5).toInt = (L : Int) - 5 := pk_sub_toInt (b := 5) (by omega) (by omega)
    have hti : (nI (1 + 5 * t)).toInt = ((1 + 5 * t : Nat) : Int) := nI_toInt (by omega)
    refine LW.br (c1 := nI L - 5 < nI (1 + 5 * t)) (pc1 := 1165) (pc' := 36) (st' := []) (fun kt kf => lv_icmp_gt C.hx C.hb dL_law_33 (by decide) kt kf) (fun _ => ?_) (fun hcmp => ?_)
    · refine LW.pure (pc' := 1166) (st' := [.int 1]) (fun hl k => lv_iconst C.hx C.hb dL_law_1165 (by decide) k) ?_
      exact LW.ret C (by omega) (by omega) dL_law_1166
    · have hi : 1 + 5 * t + 5 ≤ L := by
        rw [Int32.lt_iff_toInt_lt, hsub, hti] at hcmp
        omega
      have back : ∀ (cc' : Nat) (S' : SH) (x' : DY) (S2 : SH) (y' : DY), cc' ≤ t + 1 → R cc' S' x' S2 y' → LW p l e s m below meth c D ty σ0 b (K0 + 4 * t + 4) (S0 + 483 * t + 483) 1159 [some (.ref 0), some (.ref 1), some (.ref 2), some (.int (nI (1 + 5 * t)))] [] S' x' S2 y' := by
        intro cc' S' x' S2 y' hc' hR'
        refine LW.iinc (pc' := 1162) (c0 := 5) (i := 3) (v := nI (1 + 5 * t)) (v' := nI (1 + 5 * (t + 1))) C rfl (by decide) rfl (show nI (1 + 5 * t) + nI 5 = nI (1 + 5 * (t + 1)) from (nI_add (1 + 5 * t) 5).trans (congrArg nI (show 1 + 5 * t + 5 = 1 + 5 * (t + 1) by omega))) dL_law_1159 rfl ?_
        refine LW.pure (pc' := 28) (st' := []) (fun hl k => lv_goto C.hx C.hb dL_law_1162 (by decide) k) ?_
        have := ih (t + 1) cc' S' x' S2 y' (by omega) (by omega) hc' hR'
        rw [show K0 + 4 * (t + 1) = K0 + 4 * t + 4 by omega, show S0 + 483 * (t + 1) = S0 + 483 * t + 483 by omega] at this
        exact this
      refine LW.pure (pc' := 37) (st' := [.ref 0]) (fun hl k => lv_aload_n C.hx C.hb dL_law_36 rfl (hl.get (j := 0) (v := .ref 0) rfl) k) ?_
      refine LW.pure (pc' := 38) (st' := [.int (nI (1 + 5 * t)), .ref 0]) (fun hl k => lv_iload_n C.hx C.hb dL_law_37 rfl (hl.get (j := 3) (v := .int (nI (1 + 5 * t))) rfl) k) ?_
      refine LW.sld (pc' := 39) C (vp_in_nI (by omega) (by omega)) dL_law_38 rfl ?_
      refine LW.pure (pc' := 41) (st' := [.int 31, .int (xs (nI (1 + 5 * t)).toNatClampNeg)]) (fun hl k => lv_bipush C.hx C.hb dL_law_39 (by decide) k) ?_
      refine LW.pure (pc' := 42) (st' := [.int (xs (nI (1 + 5 * t)).toNatClampNeg &&& 31)]) (fun hl k => lv_iand C.hx C.hb dL_law_41 k) ?_
      obtain ⟨j, hj, ej⟩ := pk_andE (xs (nI (1 + 5 * t)).toNatClampNeg) (m := 31) 5 (by decide)
      rw [ej]
      have hj : j < 32 := hj
      by_cases hj30 : j < 30
      · have hs := sw_ok j hj30
        have cs : ∀ (tgt : Nat) (off : Int), (#[134, 177, 210, 233, 266, 289, 312, 335, 378, 411, 445, 478, 501, 564, 577, 600, 644, 667, 700, 723, 756, 779, 822, 856, 889, 922, 945, 988, 1031, 1084] : Array Int)[j]? = some off → ((42 : Nat) : Int) + off = (tgt : Int) → LW p l e s m below meth c D ty σ0 b (K0 + 4 * t) (S0 + 483 * t) tgt [some (.ref 0), some (.ref 1), some (.ref 2), some (.int (nI (1 + 5 * t)))] [] Sx xx Sm xm → LW p l e s m below meth c D ty σ0 b (K0 + 4 * t) (S0 + 483 * t) 42 [some (.ref 0), some (.ref 1), some (.ref 2), some (.int (nI (1 + 5 * t)))] [.int (nI j)] Sx xx Sm xm := fun tgt off h1 h2 hk =>
          LW.pure (pc' := tgt) (st' := []) (fun hl k => lv_tableIn C.hx C.hb dL_law_42 (Int.not_lt.mpr hs.1) (Int.not_lt.mpr hs.2.1) (by rw [hs.2.2]; exact h1) h2 k) hk
        have bk : ∀ S' x' y', R (cc + 1) S' x' Sm y' → LW p l e s m below meth c D ty σ0 b (K0 + 4 * t + 4) (S0 + 483 * t + 483) 1159 [some (.ref 0), some (.ref 1), some (.ref 2), some (.int (nI (1 + 5 * t)))] [] S' x' Sm y' := fun S' x' y' h => back (cc + 1) S' x' Sm y' (by omega) h
        match j, hj30 with
        | 0, _ => exact cs 176 134 rfl (by decide) (law_case0 (i := 1 + 5 * t) C hL hO (by omega) hR hi (by omega) (by omega) bk)
        | 1, _ => exact cs 219 177 rfl (by decide) (law_case1 (i := 1 + 5 * t) C hL hO (by omega) hR hi (by omega) (by omega) bk)
        | 2, _ => exact cs 252 210 rfl (by decide) (law_case2 (i := 1 + 5 * t) C hL hO (by omega) hR hi (by omega) (by omega) bk)
        | 3, _ => exact cs 275 233 rfl (by decide) (law_case3 (i := 1 + 5 * t) C hL hO (by omega) hR hi (by omega) (by omega) bk)
        | 4, _ => exact cs 308 266 rfl (by decide) (law_case4 (i := 1 + 5 * t) C hL hO (by omega) hR hi (by omega) (by omega) bk)
        | 5, _ => exact cs 331 289 rfl (by decide) (law_case5 (i := 1 + 5 * t) C hL hO (by omega) hR hi (by omega) (by omega) bk)
        | 6, _ => exact cs 354 312 rfl (by decide) (law_case6 (i := 1 + 5 * t) C hL hO (by omega) hR hi (by omega) (by omega) bk)
        | 7, _ => exact cs 377 335 rfl (by decide) (law_case7 (i := 1 + 5 * t) C hL hO (by omega) hR hi (by omega) (by omega) bk)
        | 8, _ => exact cs 420 378 rfl (by decide) (law_case8 (i := 1 + 5 * t) C hL hO (by omega) hR hi (by omega) (by omega) bk)
        | 9, _ => exact cs 453 411 rfl (by decide) (law_case9 (i := 1 + 5 * t) C hL hO (by omega) hR hi (by omega) (by omega) bk)
        | 10, _ => exact cs 487 445 rfl (by decide) (law_case10 (i := 1 + 5 * t) C hL hO (by omega) hR hi (by omega) (by omega) bk)
        | 11, _ => exact cs 520 478 rfl (by decide) (law_case11 (i := 1 + 5 * t) C hL hO (by omega) hR hi (by omega) (by omega) bk)
        | 12, _ => exact cs 543 501 rfl (by decide) (law_case12 (i := 1 + 5 * t) C hL hO (by omega) hR hi (by omega) (by omega) bk)
        | 13, _ => exact cs 606 564 rfl (by decide) (law_case13 (i := 1 + 5 * t) C hL hO (by omega) hR hi (by omega) (by omega) bk)
        | 14, _ => exact cs 619 577 rfl (by decide) (law_case14 (i := 1 + 5 * t) C hL hO (by omega) hR hi (by omega) (by omega) bk)
        | 15, _ => exact cs 642 600 rfl (by decide) (law_case15 (i := 1 + 5 * t) C hL hO (by omega) hR hi (by omega) (by omega) bk)
        | 16, _ => exact cs 686 644 rfl (by decide) (law_case16 (i := 1 + 5 * t) C hL hO (by omega) hR hi (by omega) (by omega) bk)
        | 17, _ => exact cs 709 667 rfl (by decide) (law_case17 (i := 1 + 5 * t) C hL hO (by omega) hR hi (by omega) (by omega) bk)
        | 18, _ => exact cs 742 700 rfl (by decide) (law_case18 (i := 1 + 5 * t) C hL hO (by omega) hR hi (by omega) (by omega) bk)
        | 19, _ => exact cs 765 723 rfl (by decide) (law_case19 (i := 1 + 5 * t) C hL hO (by omega) hR hi (by omega) (by omega) bk)
        | 20, _ => exact cs 798 756 rfl (by decide) (law_case20 (i := 1 + 5 * t) C hL hO (by omega) hR hi (by omega) (by omega) bk)
        | 21, _ => exact cs 821 779 rfl (by decide) (law_case21 (i := 1 + 5 * t) C hL hO (by omega) hR hi (by omega) (by omega) bk)
        | 22, _ => exact cs 864 822 rfl (by decide) (law_case22 (i := 1 + 5 * t) C hL hO (by omega) hR hi (by omega) (by omega) bk)
        | 23, _ => exact cs 898 856 rfl (by decide) (law_case23 (i := 1 + 5 * t) C hL hO (by omega) hR hi (by omega) (by omega) bk)
        | 24, _ => exact cs 931 889 rfl (by decide) (law_case24 (i := 1 + 5 * t) C hL hO (by omega) hR hi (by omega) (by omega) bk)
        | 25, _ => exact cs 964 922 rfl (by decide) (law_case25 (i := 1 + 5 * t) C hL hO (by omega) hR hi (by omega) (by omega) bk)
        | 26, _ => exact cs 987 945 rfl (by decide) (law_case26 (i := 1 + 5 * t) C hL hO (by omega) hR hi (by omega) (by omega) bk)
        | 27, _ => exact cs 1030 988 rfl (by decide) (law_case27 (i := 1 + 5 * t) C hL hO (by omega) hR hi (by omega) (by omega) bk)
        | 28, _ => exact cs 1073 1031 rfl (by decide) (law_case28 (i := 1 + 5 * t) C hL hO (by omega) hR hi (by omega) (by omega) bk)
        | 29, _ => exact cs 1126 1084 rfl (by decide) (law_case29 (i := 1 + 5 * t) C hL hO (by omega) hR hi (by omega) (by omega) bk)
        | j + 30, h => exact absurd h (by omega)
      · refine LW.pure (pc' := 1159) (st' := []) (fun hl k => lv_tableOut C.hx C.hb dL_law_42 (Or.inr (sw_no j hj (by omega))) (by decide) k) ?_
        exact LW.widen (by omega) (by omega) (back cc Sx xx Sm xm (by omega) hR)
end LAWM
