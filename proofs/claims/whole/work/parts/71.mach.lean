/-! LAYER 3: texts: the reference's part runs the stack machine -/
def encS (c : Nat) : Int32 := if c = 20009 then -nI 10 else encM c
def zOp (c : Nat) : Prop := 20000 ≤ c ∧ c ≤ 20009
def zSt (y : DY) (p : Nat) (σ : List Nat) (cs : List Bool) (o : List Nat) : Prop :=
  y.1 40 39 = nI σ.length ∧ y.1 40 40 = nI (brk σ) ∧ y.1 40 41 = nI (opn σ) ∧ y.1 40 42 = nI p ∧ y.1 62 p = nI o.length ∧ (∀ j, j < o.length → y.1 63 (160 * p + j) = encM (o.getD j 0)) ∧ (∀ j, j < σ.length → y.1 64 j = encS (σ.reverse.getD j 0)) ∧ cs.length = brk σ + 1 ∧ (∀ j, j ≤ brk σ → y.1 65 j = if cs.getD (brk σ - j) false = true then nI 1 else nI 0) ∧ (∀ c, c ∈ σ → zOp c) ∧ σ.length + o.length ≤ 160 ∧ opn σ ≤ 5
def zFs (p : Nat) (y y' : DY) : Prop := (∀ b, b ≠ 40 → b ≠ 62 → b ≠ 63 → b ≠ 64 → b ≠ 65 → y'.1 b = y.1 b) ∧ (∀ k, (k < 39 ∨ 41 < k) → y'.1 40 k = y.1 40 k) ∧ (∀ q, q ≠ p → y'.1 62 q = y.1 62 q) ∧ (∀ q, (q < 160 * p ∨ 160 * p + 160 ≤ q) → y'.1 63 q = y.1 63 q) ∧ y'.2 = y.2
theorem zFs.rf {p : Nat} {y : DY} : zFs p y y := ⟨fun _ _ _ _ _ _ => rfl, fun _ _ => rfl, fun _ _ => rfl, fun _ _ => rfl, rfl⟩
theorem zFs.trans {p : Nat} {y y1 y2 : DY} (h : zFs p y y1) (k : zFs p y1 y2) : zFs p y y2 := ⟨fun b h1 h2 h3 h4 h5 => (k.1 b h1 h2 h3 h4 h5).trans (h.1 b h1 h2 h3 h4 h5), fun q hq => (k.2.1 q hq).trans (h.2.1 q hq), fun q hq => (k.2.2.1 q hq).trans (h.2.2.1 q hq), fun q hq => (k.2.2.2.1 q hq).trans (h.2.2.2.1 q hq), k.2.2.2.2.trans h.2.2.2.2⟩
theorem brk_opn : ∀ σ, brk σ ≤ opn σ
  | [] => Nat.le_refl _
  | c :: σ => by
    have ih := brk_opn σ
    by_cases e : c = 20009
    · subst e
      rw [opn_s (by rfl)]
      unfold brk
      rw [List.countP_cons_of_pos (by rfl)]
      exact Nat.succ_le_succ ih
    · have e1 : brk (c :: σ) = brk σ := by
        unfold brk
        rw [List.countP_cons_of_neg (by simpa using e)]
      by_cases h : isO c = true
      · rw [opn_s h]; omega
      · rw [opn_n (by simpa using h)]; omega
theorem brk_n {c : Nat} {σ : List Nat} (e : c ≠ 20009) : brk (c :: σ) = brk σ := by
  unfold brk
  rw [List.countP_cons_of_neg (by simpa using e)]
theorem brk_s {σ : List Nat} : brk (20009 :: σ) = brk σ + 1 := List.countP_cons_of_pos (by rfl)
theorem U1_self {x : DY} {a k : Nat} {v : Int32} (h : x.1 a k = v) : U1 x a k v = x := by
  refine Prod.ext (funext fun b => funext fun q => ?_) rfl
  rw [u1_f]
  by_cases e : b = a
  · subst e
    rw [up_s]
    by_cases e2 : q = k
    · subst e2; rw [ud_s]; exact h.symm
    · rw [ud_n e2]
  · rw [up_n e]
section MACH
variable {N : Nat} {Sm : SH} {p : Nat} {σ : List Nat} {cs : List Bool} {o : List Nat} {y : DY}
theorem m_rank {c : Nat} (h : zOp c) (y : DY) : f_X12_rank N Sm 40 (encS c) y = some (nI (rk c)) := by
  obtain ⟨h1, h2⟩ := h
  obtain rfl | rfl | rfl | rfl | rfl | rfl | rfl | rfl | rfl | rfl : c = 20000 ∨ c = 20001 ∨ c = 20002 ∨ c = 20003 ∨ c = 20004 ∨ c = 20005 ∨ c = 20006 ∨ c = 20007 ∨ c = 20008 ∨ c = 20009 := by omega
  all_goals rfl
theorem m_isO {c : Nat} (h : zOp c) (h9 : c ≠ 20009) : (isO c = true ∧ (encS c = -nI 3 ∨ (¬ encS c = -nI 3 ∧ encS c = -nI 9))) ∨ (isO c = false ∧ ¬ encS c = -nI 3 ∧ ¬ encS c = -nI 9) := by
  obtain ⟨h1, h2⟩ := h
  obtain rfl | rfl | rfl | rfl | rfl | rfl | rfl | rfl | rfl | rfl : c = 20000 ∨ c = 20001 ∨ c = 20002 ∨ c = 20003 ∨ c = 20004 ∨ c = 20005 ∨ c = 20006 ∨ c = 20007 ∨ c = 20008 ∨ c = 20009 := by omega
  · exact Or.inl ⟨rfl, Or.inl rfl⟩
  · exact Or.inl ⟨rfl, Or.inr ⟨by decide, rfl⟩⟩
  · exact Or.inr ⟨rfl, by decide, by decide⟩
  · exact Or.inr ⟨rfl, by decide, by decide⟩
  · exact Or.inr ⟨rfl, by decide, by decide⟩
  · exact Or.inr ⟨rfl, by decide, by decide⟩
  · exact Or.inr ⟨rfl, by decide, by decide⟩
  · exact Or.inr ⟨rfl, by decide, by decide⟩
  · exact Or.inr ⟨rfl, by decide, by decide⟩
  · exact absurd rfl h9
theorem m_put (hM : SHM Sm) {m : Nat} (h1 : y.1 40 42 = nI p) (h2 : y.1 62 p = nI m) (hp : p < 12) (hm : m < 160) (v : Int32) : f_X12_put N Sm 40 v y = some (U1 (U1 y 63 (160 * p + m) v) 62 p (nI (m + 1))) := by
  simp (disch := (first | omega | (simp only [shm_l41 hM, shm_l42 hM, shm_l43 hM, shm_l44 hM, shm_l45 hM, shm_l46 hM, shm_l47 hM, shm_l48 hM, shm_l49 hM, shm_l50 hM, shm_l51 hM, shm_l52 hM, shm_l53 hM, shm_l54 hM, shm_l55 hM, shm_l56 hM, shm_l57 hM, shm_l58 hM, shm_l59 hM, shm_l60 hM, shm_l61 hM, shm_l62 hM, shm_l63 hM, shm_l64 hM, shm_l65 hM, shm_l66 hM, shm_l67 hM, shm_l68 hM, shm_l69 hM, shm_l70 hM, shm_l71 hM, shm_l72 hM, shm_l73 hM, shm_l74 hM, shm_l75 hM, shm_l76 hM, shm_l77 hM, shm_l78 hM, shm_l79 hM, shm_l80 hM]; omega))) only [f_X12_put, shm_p5 hM, shm_p6 hM, shm_p7 hM, shm_p8 hM, shm_p9 hM, shm_p10 hM, shm_p11 hM, shm_p12 hM, shm_p13 hM, shm_p14 hM, shm_p15 hM, shm_p16 hM, shm_p19 hM, shm_p20 hM, shm_p21 hM, shm_p22 hM, shm_p23 hM, shm_p24 hM, shm_p25 hM, shm_p26 hM, shm_p27 hM, shm_p31 hM, shm_p32 hM, shm_p37 hM, shm_p38 hM, shm_p43 hM, shm_p44 hM, shm_p48 hM, shm_p49 hM, shm_p50 hM, shm_p51 hM, shm_p52 hM, shm_p53 hM, shm_p54 hM, shm_p55 hM, shm_p62 hM, shm_p63 hM, shm_p64 hM, shm_p65 hM, shm_p66 hM, h1, h2, pk_mul, ↓eM, eL_0, eL_1, eL_2, eL_3, eL_4, eL_5, eL_6, eL_7, eL_8, eL_9, eL_10, eL_11, eL_12, eL_15, eL_16, eL_20, eL_24, eL_30, eL_31, eL_32, eL_39, eL_40, eL_41, eL_42, eL_43, eL_45, eL_47, eL_48, eL_49, eL_50, eL_57, eL_59, eL_60, eL_61, eL_90, eL_96, eL_97, eL_100, eL_122, eL_160, eL_161, eL_255, eL_300, eL_343, eL_999, eL_1000, eL_1920, eL_9999, eL_10000, eL_999999, eL_100000, eL_1000000, ↓reduceIte, ↓bl_e, bd_e, u1_f, u1_s, u2_f, u2_s, w_cl, w_ltT, w_ltF, w_leT, w_leF, w_eqT, w_eqF, w_mlt, w_ltm, w_mle, w_lem, w_eqm, w_meq, w_mltm, nI_add, w_sub, w_addm, up_s, up_n, ud_s, ud_n, ck_n, bz_0, bz_1]
set_option maxHeartbeats 1600000 in
theorem m_settle (hN : 600 ≤ N) (hM : SHM Sm) (hp : p < 12) {r : Nat} (hr : 1 ≤ r) (hr8 : r < 100) (h : zSt y p σ cs o) : ∃ y', f_X12_settle N Sm 40 (nI r) y = some y' ∧ zSt y' p (stl r σ) cs (o ++ pps r σ) ∧ zFs p y y' := by
  unfold f_X12_settle lp_X12_settle_0
  refine z_itr1 (fun j (a : DY) => ∃ σ' o', zSt a p σ' cs o' ∧ σ'.length + j = σ.length ∧ stl r σ' = stl r σ ∧ o' ++ pps r σ' = o ++ pps r σ ∧ zFs p y a) (fun q => ∃ y', q = some y' ∧ zSt y' p (stl r σ) cs (o ++ pps r σ) ∧ zFs p y y') σ.length ?_ ?_ σ.length 0 _ N (by omega) (by have := h.2.2.2.2.2.2.2.2.2.2.1; omega) ⟨σ, o, h, rfl, rfl, rfl, zFs.rf⟩
  · rintro j z hj ⟨σ', o', hz, l1, l2, l3, f1⟩
    cases σ' with
    | nil => simp only [List.length_nil] at l1; omega
    | cons c τ =>
      have hz' := hz
      obtain ⟨s1, s2, s3, s4, s5, s6, s7, s8, s9, s10, s11, s12⟩ := hz'
      rw [List.length_cons] at s1 s11
      have hc := s10 c (List.mem_cons_self ..)
      have top : z.1 64 τ.length = encS c := by
        rw [s7 τ.length (by rw [List.length_cons]; omega), List.reverse_cons, List.getD_eq_getElem?_getD, List.getElem?_append_right (by rw [List.length_reverse]; exact Nat.le_refl _), List.length_reverse, Nat.sub_self]
        rfl
      have hrk := m_rank (N := N) (Sm := Sm) hc z
      have hr7 : rk c < 100 := by
        obtain ⟨h1, h2⟩ := hc
        obtain rfl | rfl | rfl | rfl | rfl | rfl | rfl | rfl | rfl | rfl : c = 20000 ∨ c = 20001 ∨ c = 20002 ∨ c = 20003 ∨ c = 20004 ∨ c = 20005 ∨ c = 20006 ∨ c = 20007 ∨ c = 20008 ∨ c = 20009 := by omega
        all_goals decide
      by_cases e : r ≤ rk c
      · have h9 : c ≠ 20009 := fun e2 => by subst e2; have : rk 20009 = 0 := rfl; omega
        have hs4 : (U1 z 40 39 (nI τ.length)).1 40 42 = nI p := by simp (disch := omega) only [u1_f, u1_s, u2_f, u2_s, up_s, up_n, ud_s, ud_n]; exact s4
        have hs5 : (U1 z 40 39 (nI τ.length)).1 62 p = nI o'.length := by simp (disch := omega) only [u1_f, u1_s, u2_f, u2_s, up_s, up_n, ud_s, ud_n]; exact s5
        have hput := m_put (N := N) hM hs4 hs5 hp (by omega) (encS c)
        have he : encS c = encM c := if_neg h9
        have key : ∀ u : Nat, u = opn τ → zSt (U1 (U1 (U1 (U1 z 40 39 (nI τ.length)) 63 (160 * p + o'.length) (encS c)) 62 p (nI (o'.length + 1))) 40 41 (nI u)) p τ cs (o' ++ [c]) := fun u hu => by
          refine ⟨?_, ?_, ?_, ?_, ?_, fun j hj => ?_, fun j hj => ?_, by rw [s8, brk_n h9], fun j hj => ?_, fun c' hc' => s10 c' (List.mem_cons_of_mem _ hc'), by rw [List.length_append]; show τ.length + (o'.length + 1) ≤ 160; omega, ?_⟩
          · simp (disch := omega) only [u1_f, u1_s, u2_f, u2_s, up_s, up_n, ud_s, ud_n]
          · simp (disch := omega) only [u1_f, u1_s, u2_f, u2_s, up_s, up_n, ud_s, ud_n]; rw [s2, brk_n h9]
          · simp (disch := omega) only [u1_f, u1_s, u2_f, u2_s, up_s, up_n, ud_s, ud_n]; rw [hu]
          · simp (disch := omega) only [u1_f, u1_s, u2_f, u2_s, up_s, up_n, ud_s, ud_n]; exact s4
          · simp (disch := omega) only [u1_f, u1_s, u2_f, u2_s, up_s, up_n, ud_s, ud_n]; rw [List.length_append]; rfl
          · rw [List.length_append] at hj
            have hj' : j < o'.length + 1 := hj
            simp (disch := omega) only [u1_f, u1_s, u2_f, u2_s, up_s, up_n, ud_s, ud_n]
            rw [List.getD_eq_getElem?_getD]
            by_cases e2 : j = o'.length
            · subst e2; rw [ud_s, List.getElem?_append_right (Nat.le_refl _), Nat.sub_self, he]; rfl
            · rw [ud_n (by omega), List.getElem?_append_left (by omega), ← List.getD_eq_getElem?_getD]; exact s6 j (by omega)
          · simp (disch := omega) only [u1_f, u1_s, u2_f, u2_s, up_s, up_n, ud_s, ud_n]
            rw [s7 j (by rw [List.length_cons]; omega), List.reverse_cons, List.getD_eq_getElem?_getD, List.getElem?_append_left (by rw [List.length_reverse]; exact hj), ← List.getD_eq_getElem?_getD]
          · simp (disch := omega) only [u1_f, u1_s, u2_f, u2_s, up_s, up_n, ud_s, ud_n]
            have := s9 j (by rw [brk_n h9]; exact hj)
            rw [brk_n h9] at this
            exact this
          · by_cases hO : isO c = true
            · rw [opn_s hO] at s12; omega
            · rw [opn_n (by simpa using hO)] at s12; exact s12
        have hfs : ∀ u, zFs p y (U1 (U1 (U1 (U1 z 40 39 (nI τ.length)) 63 (160 * p + o'.length) (encS c)) 62 p (nI (o'.length + 1))) 40 41 u) := fun u => f1.trans ⟨fun b h1 h2 h3 h4 h5 => by simp (disch := omega) only [u1_f, u1_s, u2_f, u2_s, up_s, up_n, ud_s, ud_n], fun k hk => by simp (disch := omega) only [u1_f, u1_s, u2_f, u2_s, up_s, up_n, ud_s, ud_n], fun q hq => by simp (disch := omega) only [u1_f, u1_s, u2_f, u2_s, up_s, up_n, ud_s, ud_n], fun q hq => by simp (disch := omega) only [u1_f, u1_s, u2_f, u2_s, up_s, up_n, ud_s, ud_n], rfl⟩
        have hlen : τ.length + (j + 1) = σ.length := by rw [List.length_cons] at l1; omega
        have hst : stl r τ = stl r σ := by rw [← l2]; exact (if_pos e).symm
        have hpp : o' ++ [c] ++ pps r τ = o ++ pps r σ := by rw [← l3, show pps r (c :: τ) = c :: pps r τ from if_pos e, List.append_assoc]; rfl
        rcases m_isO hc h9 with ⟨hO, ho3⟩ | ⟨hO, ho3, ho9⟩
        · have ho1 : z.1 40 41 = nI (opn τ + 1) := by rw [s3, opn_s hO]
          refine Or.inl ⟨U1 (U1 (U1 (U1 z 40 39 (nI τ.length)) 63 (160 * p + o'.length) (encS c)) 62 p (nI (o'.length + 1))) 40 41 (nI (opn τ)), ⟨τ, o' ++ [c], key _ rfl, hlen, hst, hpp, hfs _⟩, fun back => ?_⟩
          rcases ho3 with h3 | ⟨h3, h3'⟩
          · simp (disch := (first | omega | (simp only [shm_l41 hM, shm_l42 hM, shm_l43 hM, shm_l44 hM, shm_l45 hM, shm_l46 hM, shm_l47 hM, shm_l48 hM, shm_l49 hM, shm_l50 hM, shm_l51 hM, shm_l52 hM, shm_l53 hM, shm_l54 hM, shm_l55 hM, shm_l56 hM, shm_l57 hM, shm_l58 hM, shm_l59 hM, shm_l60 hM, shm_l61 hM, shm_l62 hM, shm_l63 hM, shm_l64 hM, shm_l65 hM, shm_l66 hM, shm_l67 hM, shm_l68 hM, shm_l69 hM, shm_l70 hM, shm_l71 hM, shm_l72 hM, shm_l73 hM, shm_l74 hM, shm_l75 hM, shm_l76 hM, shm_l77 hM, shm_l78 hM, shm_l79 hM, shm_l80 hM]; omega))) only [lp_X12_settle_0_b, j_X12_settle_77, shm_p5 hM, shm_p6 hM, shm_p7 hM, shm_p8 hM, shm_p9 hM, shm_p10 hM, shm_p11 hM, shm_p12 hM, shm_p13 hM, shm_p14 hM, shm_p15 hM, shm_p16 hM, shm_p19 hM, shm_p20 hM, shm_p21 hM, shm_p22 hM, shm_p23 hM, shm_p24 hM, shm_p25 hM, shm_p26 hM, shm_p27 hM, shm_p31 hM, shm_p32 hM, shm_p37 hM, shm_p38 hM, shm_p43 hM, shm_p44 hM, shm_p48 hM, shm_p49 hM, shm_p50 hM, shm_p51 hM, shm_p52 hM, shm_p53 hM, shm_p54 hM, shm_p55 hM, shm_p62 hM, shm_p63 hM, shm_p64 hM, shm_p65 hM, shm_p66 hM, s1, Nat.add_sub_cancel, top, hrk, hput, ho1, eq_true h3, ↓eM, eL_0, eL_1, eL_2, eL_3, eL_4, eL_5, eL_6, eL_7, eL_8, eL_9, eL_10, eL_11, eL_12, eL_15, eL_16, eL_20, eL_24, eL_30, eL_31, eL_32, eL_39, eL_40, eL_41, eL_42, eL_43, eL_45, eL_47, eL_48, eL_49, eL_50, eL_57, eL_59, eL_60, eL_61, eL_90, eL_96, eL_97, eL_100, eL_122, eL_160, eL_161, eL_255, eL_300, eL_343, eL_999, eL_1000, eL_1920, eL_9999, eL_10000, eL_999999, eL_100000, eL_1000000, ↓reduceIte, ↓bl_e, bd_e, u1_f, u1_s, u2_f, u2_s, w_cl, w_ltT, w_ltF, w_leT, w_leF, w_eqT, w_eqF, w_mlt, w_ltm, w_mle, w_lem, w_eqm, w_meq, w_mltm, nI_add, w_sub, w_addm, up_s, up_n, ud_s, ud_n, ck_n, bz_0, bz_1]
          · simp (disch := (first | omega | (simp only [shm_l41 hM, shm_l42 hM, shm_l43 hM, shm_l44 hM, shm_l45 hM, shm_l46 hM, shm_l47 hM, shm_l48 hM, shm_l49 hM, shm_l50 hM, shm_l51 hM, shm_l52 hM, shm_l53 hM, shm_l54 hM, shm_l55 hM, shm_l56 hM, shm_l57 hM, shm_l58 hM, shm_l59 hM, shm_l60 hM, shm_l61 hM, shm_l62 hM, shm_l63 hM, shm_l64 hM, shm_l65 hM, shm_l66 hM, shm_l67 hM, shm_l68 hM, shm_l69 hM, shm_l70 hM, shm_l71 hM, shm_l72 hM, shm_l73 hM, shm_l74 hM, shm_l75 hM, shm_l76 hM, shm_l77 hM, shm_l78 hM, shm_l79 hM, shm_l80 hM]; omega))) only [lp_X12_settle_0_b, j_X12_settle_77, shm_p5 hM, shm_p6 hM, shm_p7 hM, shm_p8 hM, shm_p9 hM, shm_p10 hM, shm_p11 hM, shm_p12 hM, shm_p13 hM, shm_p14 hM, shm_p15 hM, shm_p16 hM, shm_p19 hM, shm_p20 hM, shm_p21 hM, shm_p22 hM, shm_p23 hM, shm_p24 hM, shm_p25 hM, shm_p26 hM, shm_p27 hM, shm_p31 hM, shm_p32 hM, shm_p37 hM, shm_p38 hM, shm_p43 hM, shm_p44 hM, shm_p48 hM, shm_p49 hM, shm_p50 hM, shm_p51 hM, shm_p52 hM, shm_p53 hM, shm_p54 hM, shm_p55 hM, shm_p62 hM, shm_p63 hM, shm_p64 hM, shm_p65 hM, shm_p66 hM, s1, Nat.add_sub_cancel, top, hrk, hput, ho1, eq_false h3, eq_true h3', ↓eM, eL_0, eL_1, eL_2, eL_3, eL_4, eL_5, eL_6, eL_7, eL_8, eL_9, eL_10, eL_11, eL_12, eL_15, eL_16, eL_20, eL_24, eL_30, eL_31, eL_32, eL_39, eL_40, eL_41, eL_42, eL_43, eL_45, eL_47, eL_48, eL_49, eL_50, eL_57, eL_59, eL_60, eL_61, eL_90, eL_96, eL_97, eL_100, eL_122, eL_160, eL_161, eL_255, eL_300, eL_343, eL_999, eL_1000, eL_1920, eL_9999, eL_10000, eL_999999, eL_100000, eL_1000000, ↓reduceIte, ↓bl_e, bd_e, u1_f, u1_s, u2_f, u2_s, w_cl, w_ltT, w_ltF, w_leT, w_leF, w_eqT, w_eqF, w_mlt, w_ltm, w_mle, w_lem, w_eqm, w_meq, w_mltm, nI_add, w_sub, w_addm, up_s, up_n, ud_s, ud_n, ck_n, bz_0, bz_1]
        · have ho1 : z.1 40 41 = nI (opn τ) := by rw [s3, opn_n hO]
          have hself : U1 (U1 (U1 (U1 z 40 39 (nI τ.length)) 63 (160 * p + o'.length) (encS c)) 62 p (nI (o'.length + 1))) 40 41 (nI (opn τ)) = U1 (U1 (U1 z 40 39 (nI τ.length)) 63 (160 * p + o'.length) (encS c)) 62 p (nI (o'.length + 1)) := U1_self (by simp (disch := omega) only [u1_f, u1_s, u2_f, u2_s, up_s, up_n, ud_s, ud_n]; exact ho1)
          refine Or.inl ⟨U1 (U1 (U1 z 40 39 (nI τ.length)) 63 (160 * p + o'.length) (encS c)) 62 p (nI (o'.length + 1)), ⟨τ, o' ++ [c], by rw [← hself]; exact key _ rfl, hlen, hst, hpp, by rw [← hself]; exact hfs _⟩, fun back => ?_⟩
          simp (disch := (first | omega | (simp only [shm_l41 hM, shm_l42 hM, shm_l43 hM, shm_l44 hM, shm_l45 hM, shm_l46 hM, shm_l47 hM, shm_l48 hM, shm_l49 hM, shm_l50 hM, shm_l51 hM, shm_l52 hM, shm_l53 hM, shm_l54 hM, shm_l55 hM, shm_l56 hM, shm_l57 hM, shm_l58 hM, shm_l59 hM, shm_l60 hM, shm_l61 hM, shm_l62 hM, shm_l63 hM, shm_l64 hM, shm_l65 hM, shm_l66 hM, shm_l67 hM, shm_l68 hM, shm_l69 hM, shm_l70 hM, shm_l71 hM, shm_l72 hM, shm_l73 hM, shm_l74 hM, shm_l75 hM, shm_l76 hM, shm_l77 hM, shm_l78 hM, shm_l79 hM, shm_l80 hM]; omega))) only [lp_X12_settle_0_b, j_X12_settle_77, shm_p5 hM, shm_p6 hM, shm_p7 hM, shm_p8 hM, shm_p9 hM, shm_p10 hM, shm_p11 hM, shm_p12 hM, shm_p13 hM, shm_p14 hM, shm_p15 hM, shm_p16 hM, shm_p19 hM, shm_p20 hM, shm_p21 hM, shm_p22 hM, shm_p23 hM, shm_p24 hM, shm_p25 hM, shm_p26 hM, shm_p27 hM, shm_p31 hM, shm_p32 hM, shm_p37 hM, shm_p38 hM, shm_p43 hM, shm_p44 hM, shm_p48 hM, shm_p49 hM, shm_p50 hM, shm_p51 hM, shm_p52 hM, shm_p53 hM, shm_p54 hM, shm_p55 hM, shm_p62 hM, shm_p63 hM, shm_p64 hM, shm_p65 hM, shm_p66 hM, s1, Nat.add_sub_cancel, top, hrk, hput, eq_false ho3, eq_false ho9, ↓eM, eL_0, eL_1, eL_2, eL_3, eL_4, eL_5, eL_6, eL_7, eL_8, eL_9, eL_10, eL_11, eL_12, eL_15, eL_16, eL_20, eL_24, eL_30, eL_31, eL_32, eL_39, eL_40, eL_41, eL_42, eL_43, eL_45, eL_47, eL_48, eL_49, eL_50, eL_57, eL_59, eL_60, eL_61, eL_90, eL_96, eL_97, eL_100, eL_122, eL_160, eL_161, eL_255, eL_300, eL_343, eL_999, eL_1000, eL_1920, eL_9999, eL_10000, eL_999999, eL_100000, eL_1000000, ↓reduceIte, ↓bl_e, bd_e, u1_f, u1_s, u2_f, u2_s, w_cl, w_ltT, w_ltF, w_leT, w_leF, w_eqT, w_eqF, w_mlt, w_ltm, w_mle, w_lem, w_eqm, w_meq, w_mltm, nI_add, w_sub, w_addm, up_s, up_n, ud_s, ud_n, ck_n, bz_0, bz_1]
      · refine Or.inr ⟨some z, ⟨z, rfl, ?_, f1⟩, fun back => ?_⟩
        · rw [← l2, ← l3, show stl r (c :: τ) = c :: τ from if_neg e, show pps r (c :: τ) = [] from if_neg e, List.append_nil]
          exact hz
        · simp (disch := (first | omega | (simp only [shm_l41 hM, shm_l42 hM, shm_l43 hM, shm_l44 hM, shm_l45 hM, shm_l46 hM, shm_l47 hM, shm_l48 hM, shm_l49 hM, shm_l50 hM, shm_l51 hM, shm_l52 hM, shm_l53 hM, shm_l54 hM, shm_l55 hM, shm_l56 hM, shm_l57 hM, shm_l58 hM, shm_l59 hM, shm_l60 hM, shm_l61 hM, shm_l62 hM, shm_l63 hM, shm_l64 hM, shm_l65 hM, shm_l66 hM, shm_l67 hM, shm_l68 hM, shm_l69 hM, shm_l70 hM, shm_l71 hM, shm_l72 hM, shm_l73 hM, shm_l74 hM, shm_l75 hM, shm_l76 hM, shm_l77 hM, shm_l78 hM, shm_l79 hM, shm_l80 hM]; omega))) only [lp_X12_settle_0_b, shm_p5 hM, shm_p6 hM, shm_p7 hM, shm_p8 hM, shm_p9 hM, shm_p10 hM, shm_p11 hM, shm_p12 hM, shm_p13 hM, shm_p14 hM, shm_p15 hM, shm_p16 hM, shm_p19 hM, shm_p20 hM, shm_p21 hM, shm_p22 hM, shm_p23 hM, shm_p24 hM, shm_p25 hM, shm_p26 hM, shm_p27 hM, shm_p31 hM, shm_p32 hM, shm_p37 hM, shm_p38 hM, shm_p43 hM, shm_p44 hM, shm_p48 hM, shm_p49 hM, shm_p50 hM, shm_p51 hM, shm_p52 hM, shm_p53 hM, shm_p54 hM, shm_p55 hM, shm_p62 hM, shm_p63 hM, shm_p64 hM, shm_p65 hM, shm_p66 hM, s1, Nat.add_sub_cancel, top, hrk, ↓eM, eL_0, eL_1, eL_2, eL_3, eL_4, eL_5, eL_6, eL_7, eL_8, eL_9, eL_10, eL_11, eL_12, eL_15, eL_16, eL_20, eL_24, eL_30, eL_31, eL_32, eL_39, eL_40, eL_41, eL_42, eL_43, eL_45, eL_47, eL_48, eL_49, eL_50, eL_57, eL_59, eL_60, eL_61, eL_90, eL_96, eL_97, eL_100, eL_122, eL_160, eL_161, eL_255, eL_300, eL_343, eL_999, eL_1000, eL_1920, eL_9999, eL_10000, eL_999999, eL_100000, eL_1000000, ↓reduceIte, ↓bl_e, bd_e, u1_f, u1_s, u2_f, u2_s, w_cl, w_ltT, w_ltF, w_leT, w_leF, w_eqT, w_eqF, w_mlt, w_ltm, w_mle, w_lem, w_eqm, w_meq, w_mltm, nI_add, w_sub, w_addm, up_s, up_n, ud_s, ud_n, ck_n, bz_0, bz_1]
  · rintro z ⟨σ', o', hz, l1, l2, l3, f1⟩
    have e : σ' = [] := List.length_eq_zero_iff.mp (by omega)
    subst e
    have s1 := hz.1
    rw [List.length_nil] at s1
    refine ⟨some z, ⟨z, rfl, ?_, f1⟩, fun back => ?_⟩
    · rw [← l2, ← l3]
      show zSt z p [] cs (o' ++ [])
      rw [List.append_nil]; exact hz
    · simp (disch := (first | omega | (simp only [shm_l41 hM, shm_l42 hM, shm_l43 hM, shm_l44 hM, shm_l45 hM, shm_l46 hM, shm_l47 hM, shm_l48 hM, shm_l49 hM, shm_l50 hM, shm_l51 hM, shm_l52 hM, shm_l53 hM, shm_l54 hM, shm_l55 hM, shm_l56 hM, shm_l57 hM, shm_l58 hM, shm_l59 hM, shm_l60 hM, shm_l61 hM, shm_l62 hM, shm_l63 hM, shm_l64 hM, shm_l65 hM, shm_l66 hM, shm_l67 hM, shm_l68 hM, shm_l69 hM, shm_l70 hM, shm_l71 hM, shm_l72 hM, shm_l73 hM, shm_l74 hM, shm_l75 hM, shm_l76 hM, shm_l77 hM, shm_l78 hM, shm_l79 hM, shm_l80 hM]; omega))) only [lp_X12_settle_0_b, s1, ↓eM, eL_0, eL_1, eL_2, eL_3, eL_4, eL_5, eL_6, eL_7, eL_8, eL_9, eL_10, eL_11, eL_12, eL_15, eL_16, eL_20, eL_24, eL_30, eL_31, eL_32, eL_39, eL_40, eL_41, eL_42, eL_43, eL_45, eL_47, eL_48, eL_49, eL_50, eL_57, eL_59, eL_60, eL_61, eL_90, eL_96, eL_97, eL_100, eL_122, eL_160, eL_161, eL_255, eL_300, eL_343, eL_999, eL_1000, eL_1920, eL_9999, eL_10000, eL_999999, eL_100000, eL_1000000, ↓reduceIte, ↓bl_e, bd_e, u1_f, u1_s, u2_f, u2_s, w_cl, w_ltT, w_ltF, w_leT, w_leF, w_eqT, w_eqF, w_mlt, w_ltm, w_mle, w_lem, w_eqm, w_meq, w_mltm, nI_add, w_sub, w_addm, up_s, up_n, ud_s, ud_n, ck_n, bz_0, bz_1]
end MACH
