/-! LAYER 3: texts: the reference's next token -/
def sb (b : Nat) : Int32 := (nI b).toInt8.toInt32
theorem sb_lo : ∀ b, b < 128 → sb b = nI b := by decide +kernel
theorem sb_let : ∀ b, b < 256 → (if sb b < 97 then some (0 : Int32) else (if 122 < sb b then some 0 else some 1)) = some (bI (isLt b)) := by decide +kernel
theorem sb_dig : ∀ b, b < 256 → (if sb b < 48 then some (0 : Int32) else (if 57 < sb b then some 0 else some 1)) = some (bI (isDg b)) := by decide +kernel
theorem sb_eq : ∀ c, c < 64 → ∀ b, b < 256 → (sb b = nI c ↔ b = c) := by decide +kernel
theorem sb_96 : ∀ b, b < 128 → 97 ≤ b → (sb b - nI 96).toInt64 = lN (b - 96) := by decide +kernel
theorem lg_d : ∀ d, d < 32 → ∀ m, m < 32 → (lg_cmp (lN d) (lN m) = nI 0 ↔ d = m) := by decide +kernel
theorem lg_0 : lg_cmp (lN 0) 0 = nI 0 := by decide +kernel
theorem lg_pos {n : Nat} (h : 0 < n) (hn : n < 2 ^ 40) : lg_cmp (lN n) 0 = nI 1 := by
  have e : (lN n).toInt = (n : Int) := by
    rcases lN_int (n := n) (by omega) with h | h
    · exact h
    · exfalso
      have h2 : (lN n).toInt = (lN n).toBitVec.toInt := rfl
      rw [h2, BitVec.toInt_eq_toNat_bmod, wb_tn (by omega), Int.bmod_def] at h
      have e2 : ((2 ^ 64 : Nat) : Int) = 18446744073709551616 := by decide
      rw [e2] at h
      split at h <;> omega
  have h0 : (0 : Int64).toInt = 0 := by decide
  have : lN n > 0 := by
    rw [gt_iff_lt, Int64.lt_iff_toInt_lt, e, h0]
    omega
  unfold lg_cmp
  rw [if_pos this]; rfl
theorem l_and5 {d r : Nat} (hd : d < 32) : lN (d + 32 * r) &&& 31 = lN d := by
  apply wb_inj
  apply BitVec.eq_of_toNat_eq
  have e : (lN (d + 32 * r) &&& 31).toBitVec = (lN (d + 32 * r)).toBitVec &&& (31 : Int64).toBitVec := rfl
  have e31 : (31 : Int64).toBitVec.toNat = 2 ^ 5 - 1 := by decide
  rw [e, BitVec.toNat_and, e31, Nat.and_two_pow_sub_one_eq_mod, wb_tb, wb_tb, BitVec.toNat_ofNat, BitVec.toNat_ofNat]
  omega
theorem lN_toI {n : Nat} (hn : n < 2 ^ 40) : (lN n).toInt = (n : Int) := by
  have h2 : (lN n).toInt = (lN n).toBitVec.toInt := rfl
  rw [h2, BitVec.toInt_eq_toNat_bmod, wb_tn (by omega), Int.bmod_def]
  have e2 : ((2 ^ 64 : Nat) : Int) = 18446744073709551616 := by decide
  rw [e2]
  split <;> omega
theorem l_shr5 {d r : Nat} (hd : d < 32) (hr : r < 2 ^ 30) : lN (d + 32 * r) >>> ((nI 5).toInt64 &&& 63) = lN r := by
  rw [wb_c 5 (by omega)]
  apply Int64.toInt_inj.mp
  rw [sar_toInt _ (by omega), lN_toI (by omega), lN_toI (by omega)]
  omega
def cd : List Nat → Nat
  | [] => 0
  | d :: ds => d + 32 * cd ds
def pm (q : Nat) : Int32 := nI q + mO
theorem pm_s (q : Nat) : pm (q + 1) = nI q := pk_m1 q
theorem pm_lt {q s : Nat} (hq : q < 1000) (hs : s < 1000) : (pm q < nI s) = (q ≤ s) := by
  cases q with
  | zero => rw [show pm 0 = mO from w_add0m, w_mlt (by omega)]; exact (eq_true (Nat.zero_le s)).symm
  | succ q =>
    rw [pm_s]
    by_cases h : q < s
    · rw [w_ltT h (by omega)]; exact (eq_true h).symm
    · rw [w_ltF (by omega) (by omega)]; exact (eq_false (by omega)).symm
theorem pm_inj {q s : Nat} (hq : q < 1000) (hs : s < 1000) : (pm q = pm s) = (q = s) := by
  apply propext
  constructor
  · intro h
    cases q with
    | zero =>
      cases s with
      | zero => rfl
      | succ s => rw [show pm 0 = mO from w_add0m, pm_s] at h; exact (nI_mO h.symm (by omega)).elim
    | succ q =>
      cases s with
      | zero => rw [show pm 0 = mO from w_add0m, pm_s] at h; exact (nI_mO h (by omega)).elim
      | succ s => rw [pm_s, pm_s] at h; rw [nI_inj h (by omega) (by omega)]
  · rintro rfl; rfl
theorem pm_sub (s : Nat) : nI s - nI 1 = pm s := by
  unfold pm
  rw [Int32.sub_eq_add_neg]; rfl
section NEXT
variable {N : Nat} {Sm : SH} {y : DY} {B : Nat → Nat} {Z : Nat}
theorem y_letter {b : Nat} (h : b < 256) : f_X12_isLetter N Sm 40 (sb b) y = some (bI (isLt b)) := sb_let b h
theorem y_digit {b : Nat} (h : b < 256) : f_X12_isDigit N Sm 40 (sb b) y = some (bI (isDg b)) := sb_dig b h
def zIw (N : Nat) (Sm : SH) (y : DY) : (Int64 × Int32 → Option Int32) → Int64 × Int32 → Option Int32 := fun back v => lp_X12_isWord_10_b N Sm (fun e3_6 e5_6 => j_X12_isWord_55 N Sm 40 e3_6 e5_6 y) (fun p3 p5 => back (p3, p5)) 40 v.1 v.2 y
theorem m_isW (hM : SHM Sm) (hZ : Z ≤ 160) (hB : ∀ i, i < Z → B i < 256 ∧ y.1 61 i = sb (B i)) {s e : Nat} (hse : s ≤ e) (he : e ≤ Z) (h36 : y.1 40 36 = nI s) (hl : ∀ i, s ≤ i → i < e → isLt (B i) = true) :
    ∀ ds : List Nat, (∀ d, d ∈ ds → 1 ≤ d ∧ d < 32) → cd ds < 2 ^ 32 → ∀ q n, s ≤ q → q ≤ e → ds.length < n → itr (zIw N Sm y) n (lN (cd ds), pm q) = some (bI (mt B s q ds))
  | [], _, _, q, 0, _, _, h => absurd h (Nat.not_lt_zero _)
  | [], _, _, q, n + 1, hq, hqe, _ => by
    show zIw N Sm y (itr (zIw N Sm y) n) (lN 0, pm q) = some (bI (decide (q = s)))
    by_cases h : q = s
    · rw [decide_eq_true h]
      show _ = some (nI 1)
      simp (disch := (first | omega | (simp only [shm_l41 hM, shm_l42 hM, shm_l43 hM, shm_l44 hM, shm_l45 hM, shm_l46 hM, shm_l47 hM, shm_l48 hM, shm_l49 hM, shm_l50 hM, shm_l51 hM, shm_l52 hM, shm_l53 hM, shm_l54 hM, shm_l55 hM, shm_l56 hM, shm_l57 hM, shm_l58 hM, shm_l59 hM, shm_l60 hM, shm_l61 hM, shm_l62 hM, shm_l63 hM, shm_l64 hM, shm_l65 hM, shm_l66 hM, shm_l67 hM, shm_l68 hM, shm_l69 hM, shm_l70 hM, shm_l71 hM, shm_l72 hM, shm_l73 hM, shm_l74 hM, shm_l75 hM, shm_l76 hM, shm_l77 hM, shm_l78 hM, shm_l79 hM, shm_l80 hM]; omega))) only [zIw, lp_X12_isWord_10_b, j_X12_isWord_55, h36, lg_0, pm_lt, pm_sub, pm_inj, h, Nat.le_refl, shm_p5 hM, shm_p6 hM, shm_p7 hM, shm_p8 hM, shm_p9 hM, shm_p10 hM, shm_p11 hM, shm_p12 hM, shm_p13 hM, shm_p14 hM, shm_p15 hM, shm_p16 hM, shm_p19 hM, shm_p20 hM, shm_p21 hM, shm_p22 hM, shm_p23 hM, shm_p24 hM, shm_p25 hM, shm_p26 hM, shm_p27 hM, shm_p31 hM, shm_p32 hM, shm_p37 hM, shm_p38 hM, shm_p43 hM, shm_p44 hM, shm_p48 hM, shm_p49 hM, shm_p50 hM, shm_p51 hM, shm_p52 hM, shm_p53 hM, shm_p54 hM, shm_p55 hM, shm_p62 hM, shm_p63 hM, shm_p64 hM, shm_p65 hM, shm_p66 hM, ↓eM, eL_0, eL_1, eL_2, eL_3, eL_4, eL_5, eL_6, eL_7, eL_8, eL_9, eL_10, eL_11, eL_12, eL_15, eL_16, eL_20, eL_24, eL_30, eL_31, eL_32, eL_39, eL_40, eL_41, eL_42, eL_43, eL_45, eL_47, eL_48, eL_49, eL_50, eL_57, eL_59, eL_60, eL_61, eL_90, eL_96, eL_97, eL_100, eL_122, eL_160, eL_161, eL_255, eL_300, eL_343, eL_999, eL_1000, eL_1920, eL_9999, eL_10000, eL_999999, eL_100000, eL_1000000, ↓reduceIte, ↓bl_e, bd_e, u1_f, u1_s, u2_f, u2_s, w_cl, w_ltT, w_ltF, w_leT, w_leF, w_eqT, w_eqF, w_mlt, w_ltm, w_mle, w_lem, w_eqm, w_meq, w_mltm, nI_add, w_sub, w_addm, up_s, up_n, ud_s, ud_n, ck_n, bz_0, bz_1]
    · rw [decide_eq_false h]
      show _ = some (nI 0)
      have hlt : ¬ q ≤ s := by omega
      simp (disch := (first | omega | (simp only [shm_l41 hM, shm_l42 hM, shm_l43 hM, shm_l44 hM, shm_l45 hM, shm_l46 hM, shm_l47 hM, shm_l48 hM, shm_l49 hM, shm_l50 hM, shm_l51 hM, shm_l52 hM, shm_l53 hM, shm_l54 hM, shm_l55 hM, shm_l56 hM, shm_l57 hM, shm_l58 hM, shm_l59 hM, shm_l60 hM, shm_l61 hM, shm_l62 hM, shm_l63 hM, shm_l64 hM, shm_l65 hM, shm_l66 hM, shm_l67 hM, shm_l68 hM, shm_l69 hM, shm_l70 hM, shm_l71 hM, shm_l72 hM, shm_l73 hM, shm_l74 hM, shm_l75 hM, shm_l76 hM, shm_l77 hM, shm_l78 hM, shm_l79 hM, shm_l80 hM]; omega))) only [zIw, lp_X12_isWord_10_b, j_X12_isWord_55, h36, lg_0, pm_lt, pm_sub, pm_inj, h, hlt, shm_p5 hM, shm_p6 hM, shm_p7 hM, shm_p8 hM, shm_p9 hM, shm_p10 hM, shm_p11 hM, shm_p12 hM, shm_p13 hM, shm_p14 hM, shm_p15 hM, shm_p16 hM, shm_p19 hM, shm_p20 hM, shm_p21 hM, shm_p22 hM, shm_p23 hM, shm_p24 hM, shm_p25 hM, shm_p26 hM, shm_p27 hM, shm_p31 hM, shm_p32 hM, shm_p37 hM, shm_p38 hM, shm_p43 hM, shm_p44 hM, shm_p48 hM, shm_p49 hM, shm_p50 hM, shm_p51 hM, shm_p52 hM, shm_p53 hM, shm_p54 hM, shm_p55 hM, shm_p62 hM, shm_p63 hM, shm_p64 hM, shm_p65 hM, shm_p66 hM, ↓eM, eL_0, eL_1, eL_2, eL_3, eL_4, eL_5, eL_6, eL_7, eL_8, eL_9, eL_10, eL_11, eL_12, eL_15, eL_16, eL_20, eL_24, eL_30, eL_31, eL_32, eL_39, eL_40, eL_41, eL_42, eL_43, eL_45, eL_47, eL_48, eL_49, eL_50, eL_57, eL_59, eL_60, eL_61, eL_90, eL_96, eL_97, eL_100, eL_122, eL_160, eL_161, eL_255, eL_300, eL_343, eL_999, eL_1000, eL_1920, eL_9999, eL_10000, eL_999999, eL_100000, eL_1000000, ↓reduceIte, ↓bl_e, bd_e, u1_f, u1_s, u2_f, u2_s, w_cl, w_ltT, w_ltF, w_leT, w_leF, w_eqT, w_eqF, w_mlt, w_ltm, w_mle, w_lem, w_eqm, w_meq, w_mltm, nI_add, w_sub, w_addm, up_s, up_n, ud_s, ud_n, ck_n, bz_0, bz_1]
  | d :: ds, _, _, q, 0, _, _, h => absurd h (Nat.not_lt_zero _)
  | d :: ds, hd, hc, q, n + 1, hq, hqe, hn => by
    rw [List.length_cons] at hn
    obtain ⟨d1, d2⟩ := hd d (List.mem_cons_self ..)
    have hcd : cd (d :: ds) = d + 32 * cd ds := rfl
    have hp : lg_cmp (lN (cd (d :: ds))) 0 = nI 1 := lg_pos (by omega) (by omega)
    have ih := m_isW hM hZ hB hse he h36 hl ds (fun d' h' => hd d' (List.mem_cons_of_mem _ h')) (by omega)
    show zIw N Sm y (itr (zIw N Sm y) n) (lN (cd (d :: ds)), pm q) = some (bI (decide (s < q) && (decide (B (q - 1) = 96 + d) && mt B s (q - 1) ds)))
    by_cases h : s < q
    · have hlt : ¬ q ≤ s := by omega
      obtain ⟨q, rfl⟩ : ∃ p, q = p + 1 := ⟨q - 1, by omega⟩
      obtain ⟨b1, b2⟩ := hB q (by omega)
      have hlq := hl q (by omega) (by omega)
      unfold isLt at hlq
      rw [Bool.and_eq_true, decide_eq_true_iff, decide_eq_true_iff] at hlq
      have hv := sb_96 (B q) (by omega) hlq.1
      have hd5 : lN (cd (d :: ds)) &&& 31 = lN d := by rw [hcd]; exact l_and5 d2
      have hs5 : lN (cd (d :: ds)) >>> ((nI 5).toInt64 &&& 63) = lN (cd ds) := by rw [hcd]; exact l_shr5 d2 (by omega)
      have hcmp := lg_d d d2 (B q - 96) (by omega)
      have e96 : (96 : Int32) = nI 96 := rfl
      have hpl : (pm (q + 1) < nI s) = False := by rw [pm_lt (by omega) (by omega)]; exact eq_false hlt
      rw [pm_s] at hpl
      rw [decide_eq_true h, Bool.true_and, Nat.add_sub_cancel]
      have hmq : nI q + mO = pm q := rfl
      by_cases hb : B q = 96 + d
      · rw [decide_eq_true hb, Bool.true_and, ← ih q n (by omega) (by omega) (by omega)]
        have hc0 := hcmp.mpr (by omega)
        simp (disch := (first | omega | (simp only [shm_l41 hM, shm_l42 hM, shm_l43 hM, shm_l44 hM, shm_l45 hM, shm_l46 hM, shm_l47 hM, shm_l48 hM, shm_l49 hM, shm_l50 hM, shm_l51 hM, shm_l52 hM, shm_l53 hM, shm_l54 hM, shm_l55 hM, shm_l56 hM, shm_l57 hM, shm_l58 hM, shm_l59 hM, shm_l60 hM, shm_l61 hM, shm_l62 hM, shm_l63 hM, shm_l64 hM, shm_l65 hM, shm_l66 hM, shm_l67 hM, shm_l68 hM, shm_l69 hM, shm_l70 hM, shm_l71 hM, shm_l72 hM, shm_l73 hM, shm_l74 hM, shm_l75 hM, shm_l76 hM, shm_l77 hM, shm_l78 hM, shm_l79 hM, shm_l80 hM]; omega))) only [zIw, lp_X12_isWord_10_b, pm_s, hpl, h36, hp, hv, hd5, hs5, b2, hc0, hmq, shm_p5 hM, shm_p6 hM, shm_p7 hM, shm_p8 hM, shm_p9 hM, shm_p10 hM, shm_p11 hM, shm_p12 hM, shm_p13 hM, shm_p14 hM, shm_p15 hM, shm_p16 hM, shm_p19 hM, shm_p20 hM, shm_p21 hM, shm_p22 hM, shm_p23 hM, shm_p24 hM, shm_p25 hM, shm_p26 hM, shm_p27 hM, shm_p31 hM, shm_p32 hM, shm_p37 hM, shm_p38 hM, shm_p43 hM, shm_p44 hM, shm_p48 hM, shm_p49 hM, shm_p50 hM, shm_p51 hM, shm_p52 hM, shm_p53 hM, shm_p54 hM, shm_p55 hM, shm_p62 hM, shm_p63 hM, shm_p64 hM, shm_p65 hM, shm_p66 hM, ↓eM, eL_0, eL_1, eL_2, eL_3, eL_4, eL_5, eL_6, eL_7, eL_8, eL_9, eL_10, eL_11, eL_12, eL_15, eL_16, eL_20, eL_24, eL_30, eL_31, eL_32, eL_39, eL_40, eL_41, eL_42, eL_43, eL_45, eL_47, eL_48, eL_49, eL_50, eL_57, eL_59, eL_60, eL_61, eL_90, eL_96, eL_97, eL_100, eL_122, eL_160, eL_161, eL_255, eL_300, eL_343, eL_999, eL_1000, eL_1920, eL_9999, eL_10000, eL_999999, eL_100000, eL_1000000, ↓reduceIte, ↓bl_e, bd_e, u1_f, u1_s, u2_f, u2_s, w_cl, w_ltT, w_ltF, w_leT, w_leF, w_eqT, w_eqF, w_mlt, w_ltm, w_mle, w_lem, w_eqm, w_meq, w_mltm, nI_add, w_sub, w_addm, up_s, up_n, ud_s, ud_n, ck_n, bz_0, bz_1]
      · rw [decide_eq_false hb, Bool.false_and]
        have hc0 : (lg_cmp (lN d) (lN (B q - 96)) = nI 0) = False := eq_false (fun h => by have := hcmp.mp h; omega)
        show _ = some (nI 0)
        simp (disch := (first | omega | (simp only [shm_l41 hM, shm_l42 hM, shm_l43 hM, shm_l44 hM, shm_l45 hM, shm_l46 hM, shm_l47 hM, shm_l48 hM, shm_l49 hM, shm_l50 hM, shm_l51 hM, shm_l52 hM, shm_l53 hM, shm_l54 hM, shm_l55 hM, shm_l56 hM, shm_l57 hM, shm_l58 hM, shm_l59 hM, shm_l60 hM, shm_l61 hM, shm_l62 hM, shm_l63 hM, shm_l64 hM, shm_l65 hM, shm_l66 hM, shm_l67 hM, shm_l68 hM, shm_l69 hM, shm_l70 hM, shm_l71 hM, shm_l72 hM, shm_l73 hM, shm_l74 hM, shm_l75 hM, shm_l76 hM, shm_l77 hM, shm_l78 hM, shm_l79 hM, shm_l80 hM]; omega))) only [zIw, lp_X12_isWord_10_b, j_X12_isWord_55, pm_s, hpl, h36, hp, hv, hd5, hs5, b2, hc0, hmq, shm_p5 hM, shm_p6 hM, shm_p7 hM, shm_p8 hM, shm_p9 hM, shm_p10 hM, shm_p11 hM, shm_p12 hM, shm_p13 hM, shm_p14 hM, shm_p15 hM, shm_p16 hM, shm_p19 hM, shm_p20 hM, shm_p21 hM, shm_p22 hM, shm_p23 hM, shm_p24 hM, shm_p25 hM, shm_p26 hM, shm_p27 hM, shm_p31 hM, shm_p32 hM, shm_p37 hM, shm_p38 hM, shm_p43 hM, shm_p44 hM, shm_p48 hM, shm_p49 hM, shm_p50 hM, shm_p51 hM, shm_p52 hM, shm_p53 hM, shm_p54 hM, shm_p55 hM, shm_p62 hM, shm_p63 hM, shm_p64 hM, shm_p65 hM, shm_p66 hM, ↓eM, eL_0, eL_1, eL_2, eL_3, eL_4, eL_5, eL_6, eL_7, eL_8, eL_9, eL_10, eL_11, eL_12, eL_15, eL_16, eL_20, eL_24, eL_30, eL_31, eL_32, eL_39, eL_40, eL_41, eL_42, eL_43, eL_45, eL_47, eL_48, eL_49, eL_50, eL_57, eL_59, eL_60, eL_61, eL_90, eL_96, eL_97, eL_100, eL_122, eL_160, eL_161, eL_255, eL_300, eL_343, eL_999, eL_1000, eL_1920, eL_9999, eL_10000, eL_999999, eL_100000, eL_1000000, ↓reduceIte, ↓bl_e, bd_e, u1_f, u1_s, u2_f, u2_s, w_cl, w_ltT, w_ltF, w_leT, w_leF, w_eqT, w_eqF, w_mlt, w_ltm, w_mle, w_lem, w_eqm, w_meq, w_mltm, nI_add, w_sub, w_addm, up_s, up_n, ud_s, ud_n, ck_n, bz_0, bz_1]
    · have hqs : q = s := by omega
      rw [decide_eq_false h, Bool.false_and]
      show _ = some (nI 0)
      simp (disch := (first | omega | (simp only [shm_l41 hM, shm_l42 hM, shm_l43 hM, shm_l44 hM, shm_l45 hM, shm_l46 hM, shm_l47 hM, shm_l48 hM, shm_l49 hM, shm_l50 hM, shm_l51 hM, shm_l52 hM, shm_l53 hM, shm_l54 hM, shm_l55 hM, shm_l56 hM, shm_l57 hM, shm_l58 hM, shm_l59 hM, shm_l60 hM, shm_l61 hM, shm_l62 hM, shm_l63 hM, shm_l64 hM, shm_l65 hM, shm_l66 hM, shm_l67 hM, shm_l68 hM, shm_l69 hM, shm_l70 hM, shm_l71 hM, shm_l72 hM, shm_l73 hM, shm_l74 hM, shm_l75 hM, shm_l76 hM, shm_l77 hM, shm_l78 hM, shm_l79 hM, shm_l80 hM]; omega))) only [zIw, lp_X12_isWord_10_b, j_X12_isWord_55, h36, hp, pm_lt, hqs, Nat.le_refl, shm_p5 hM, shm_p6 hM, shm_p7 hM, shm_p8 hM, shm_p9 hM, shm_p10 hM, shm_p11 hM, shm_p12 hM, shm_p13 hM, shm_p14 hM, shm_p15 hM, shm_p16 hM, shm_p19 hM, shm_p20 hM, shm_p21 hM, shm_p22 hM, shm_p23 hM, shm_p24 hM, shm_p25 hM, shm_p26 hM, shm_p27 hM, shm_p31 hM, shm_p32 hM, shm_p37 hM, shm_p38 hM, shm_p43 hM, shm_p44 hM, shm_p48 hM, shm_p49 hM, shm_p50 hM, shm_p51 hM, shm_p52 hM, shm_p53 hM, shm_p54 hM, shm_p55 hM, shm_p62 hM, shm_p63 hM, shm_p64 hM, shm_p65 hM, shm_p66 hM, ↓eM, eL_0, eL_1, eL_2, eL_3, eL_4, eL_5, eL_6, eL_7, eL_8, eL_9, eL_10, eL_11, eL_12, eL_15, eL_16, eL_20, eL_24, eL_30, eL_31, eL_32, eL_39, eL_40, eL_41, eL_42, eL_43, eL_45, eL_47, eL_48, eL_49, eL_50, eL_57, eL_59, eL_60, eL_61, eL_90, eL_96, eL_97, eL_100, eL_122, eL_160, eL_161, eL_255, eL_300, eL_343, eL_999, eL_1000, eL_1920, eL_9999, eL_10000, eL_999999, eL_100000, eL_1000000, ↓reduceIte, ↓bl_e, bd_e, u1_f, u1_s, u2_f, u2_s, w_cl, w_ltT, w_ltF, w_leT, w_leF, w_eqT, w_eqF, w_mlt, w_ltm, w_mle, w_lem, w_eqm, w_meq, w_mltm, nI_add, w_sub, w_addm, up_s, up_n, ud_s, ud_n, ck_n, bz_0, bz_1]
theorem dgs_cd : ∀ k, k < 11 → cd (dgs k) < 2 ^ 32 ∧ (∀ d, d ∈ dgs k → 1 ≤ d ∧ d < 32) ∧ (dgs k).length < 7 := by decide +kernel
theorem m_isWord (hN : 600 ≤ N) (hM : SHM Sm) (hZ : Z ≤ 160) (hB : ∀ i, i < Z → B i < 256 ∧ y.1 61 i = sb (B i)) {s e : Nat} (hse : s ≤ e) (he : e ≤ Z) (h36 : y.1 40 36 = nI s) (h33 : y.1 40 33 = nI e) (hl : ∀ i, s ≤ i → i < e → isLt (B i) = true) {k : Nat} (hk : k < 11) : f_X12_isWord N Sm 40 (lN (cd (dgs k))) y = some (bI (sp B s e k)) := by
  obtain ⟨k1, k2, k3⟩ := dgs_cd k hk
  have := m_isW (N := N) hM hZ hB hse he h36 hl (dgs k) k2 k1 e N hse (Nat.le_refl e) (by omega)
  have e0 : f_X12_isWord N Sm 40 (lN (cd (dgs k))) y = lp_X12_isWord_10 N Sm (fun e3_6 e5_6 => j_X12_isWord_55 N Sm 40 e3_6 e5_6 y) 40 (lN (cd (dgs k))) (y.1 40 33 - 1) y := rfl
  rw [e0, h33]
  have e1 : nI e - 1 = pm e := pm_sub e
  rw [e1]
  exact this
end NEXT
