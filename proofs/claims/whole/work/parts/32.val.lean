/-! LAYER 3: texts, and what a part of one comes to -/
def tX (j : Nat) : Nat := if j = 0 then 47 else 147 + 4 * j
def kX (j : Nat) : Nat := if j = 0 then 3 else 148 + 4 * j
def gX (j : Nat) : Nat := if j = 0 then 4 else 149 + 4 * j
def sX (j : Nat) : Nat := if j = 0 then 48 else 150 + 4 * j
def encX (c : Nat) : Int32 := if c < 10000 then nI c else if c < 10006 then mO - nI (c - 10000) else match c - 20000 with
  | 0 => -7
  | 1 => -8
  | 2 => -9
  | 3 => -10
  | 4 => -11
  | 5 => -12
  | 6 => -13
  | 7 => -14
  | _ => -15
def encM (c : Nat) : Int32 := if c < 10006 then nI c else match c - 20000 with
  | 0 => -3
  | 1 => -9
  | 2 => -1
  | 3 => -2
  | 4 => -4
  | 5 => -5
  | 6 => -6
  | 7 => -7
  | _ => -8
/-- how many stand on the stack behind a row of steps -/
def zD : List Nat → Nat → Option Nat
  | [], d => some d
  | c :: cs, d => if c < 10006 then zD cs (d + 1) else if c < 20002 then (if 1 ≤ d then zD cs d else none) else (if 2 ≤ d then zD cs (d - 1) else none)
def zOk (c : Nat) : Prop := c < 10006 ∨ (20000 ≤ c ∧ c ≤ 20008)
def zWf (P : List Nat) : Prop := zD P 0 = some 1 ∧ ∀ c, c ∈ P → zOk c
theorem op_20002 {N : Nat} {S Sm : SH} {x y : DY} {a b : Int32} : ∃ v, f_X10_together N S (encX 20002) a b x = some v ∧ f_X12_both N Sm 40 (encM 20002) a b y = some v := by
  refine ⟨if a = 0 then (if b = 0 then 0 else 1) else 1, ?_, ?_⟩
  · rw [show encX 20002 = -9 from rfl]
    unfold f_X10_together
    rw [if_neg (show ¬ ((-9 : Int32) = -14) by decide), if_neg (show ¬ ((-9 : Int32) = -13) by decide), if_neg (show ¬ ((-9 : Int32) = -12) by decide), if_neg (show ¬ ((-9 : Int32) = -11) by decide), if_neg (show ¬ ((-9 : Int32) = -10) by decide), if_pos rfl]
    by_cases h1 : a = 0 <;> by_cases h2 : b = 0 <;> simp [h1, h2]
  · rw [show encM 20002 = -1 from rfl]
    unfold f_X12_both
    rw [if_neg (show ¬ ((-1 : Int32) = -7) by decide), if_neg (show ¬ ((-1 : Int32) = -6) by decide), if_neg (show ¬ ((-1 : Int32) = -5) by decide), if_neg (show ¬ ((-1 : Int32) = -4) by decide), if_neg (show ¬ ((-1 : Int32) = -3) by decide), if_neg (show ¬ ((-1 : Int32) = -2) by decide), if_pos rfl]
    by_cases h1 : a = 0 <;> by_cases h2 : b = 0 <;> simp [h1, h2]
theorem op_20003 {N : Nat} {S Sm : SH} {x y : DY} {a b : Int32} : ∃ v, f_X10_together N S (encX 20003) a b x = some v ∧ f_X12_both N Sm 40 (encM 20003) a b y = some v := by
  refine ⟨if a = 0 then 0 else (if b = 0 then 0 else 1), ?_, ?_⟩
  · rw [show encX 20003 = -10 from rfl]
    unfold f_X10_together
    rw [if_neg (show ¬ ((-10 : Int32) = -14) by decide), if_neg (show ¬ ((-10 : Int32) = -13) by decide), if_neg (show ¬ ((-10 : Int32) = -12) by decide), if_neg (show ¬ ((-10 : Int32) = -11) by decide), if_pos rfl]
    by_cases h1 : a = 0 <;> by_cases h2 : b = 0 <;> simp [h1, h2]
  · rw [show encM 20003 = -2 from rfl]
    unfold f_X12_both
    rw [if_neg (show ¬ ((-2 : Int32) = -7) by decide), if_neg (show ¬ ((-2 : Int32) = -6) by decide), if_neg (show ¬ ((-2 : Int32) = -5) by decide), if_neg (show ¬ ((-2 : Int32) = -4) by decide), if_neg (show ¬ ((-2 : Int32) = -3) by decide), if_pos rfl]
    by_cases h1 : a = 0 <;> by_cases h2 : b = 0 <;> simp [h1, h2]
theorem op_20004 {N : Nat} {S Sm : SH} {x y : DY} {a b : Int32} : ∃ v, f_X10_together N S (encX 20004) a b x = some v ∧ f_X12_both N Sm 40 (encM 20004) a b y = some v := by
  refine ⟨if b ≤ a then 0 else 1, ?_, ?_⟩
  · rw [show encX 20004 = -11 from rfl]
    unfold f_X10_together
    rw [if_neg (show ¬ ((-11 : Int32) = -14) by decide), if_neg (show ¬ ((-11 : Int32) = -13) by decide), if_neg (show ¬ ((-11 : Int32) = -12) by decide), if_pos rfl]
    by_cases h1 : b ≤ a <;> simp [h1]
  · rw [show encM 20004 = -4 from rfl]
    unfold f_X12_both
    rw [if_neg (show ¬ ((-4 : Int32) = -7) by decide), if_neg (show ¬ ((-4 : Int32) = -6) by decide), if_neg (show ¬ ((-4 : Int32) = -5) by decide), if_pos rfl]
    by_cases h1 : b ≤ a <;> simp [h1]
theorem op_20005 {N : Nat} {S Sm : SH} {x y : DY} {a b : Int32} : ∃ v, f_X10_together N S (encX 20005) a b x = some v ∧ f_X12_both N Sm 40 (encM 20005) a b y = some v := by
  refine ⟨if a = b then 1 else 0, ?_, ?_⟩
  · rw [show encX 20005 = -12 from rfl]
    unfold f_X10_together
    rw [if_neg (show ¬ ((-12 : Int32) = -14) by decide), if_neg (show ¬ ((-12 : Int32) = -13) by decide), if_pos rfl]
    by_cases h1 : a = b <;> simp [h1]
  · rw [show encM 20005 = -5 from rfl]
    unfold f_X12_both
    rw [if_neg (show ¬ ((-5 : Int32) = -7) by decide), if_neg (show ¬ ((-5 : Int32) = -6) by decide), if_pos rfl]
    by_cases h1 : a = b <;> simp [h1]
theorem op_20006 {N : Nat} {S Sm : SH} {x y : DY} {a b : Int32} : ∃ v, f_X10_together N S (encX 20006) a b x = some v ∧ f_X12_both N Sm 40 (encM 20006) a b y = some v := by
  refine ⟨a + b, ?_, ?_⟩
  · rw [show encX 20006 = -13 from rfl]
    unfold f_X10_together
    rw [if_neg (show ¬ ((-13 : Int32) = -14) by decide), if_pos rfl]
  · rw [show encM 20006 = -6 from rfl]
    unfold f_X12_both
    rw [if_neg (show ¬ ((-6 : Int32) = -7) by decide), if_pos rfl]
theorem op_20007 {N : Nat} {S Sm : SH} {x y : DY} {a b : Int32} : ∃ v, f_X10_together N S (encX 20007) a b x = some v ∧ f_X12_both N Sm 40 (encM 20007) a b y = some v := by
  refine ⟨a - b, ?_, ?_⟩
  · rw [show encX 20007 = -14 from rfl]
    unfold f_X10_together
    rw [if_pos rfl]
  · rw [show encM 20007 = -7 from rfl]
    unfold f_X12_both
    rw [if_pos rfl]
theorem op_20008 {N : Nat} {S Sm : SH} {x y : DY} {a b : Int32} : ∃ v, f_X10_together N S (encX 20008) a b x = some v ∧ f_X12_both N Sm 40 (encM 20008) a b y = some v := by
  refine ⟨a * b, ?_, ?_⟩
  · rw [show encX 20008 = -15 from rfl]
    unfold f_X10_together
    rw [if_neg (show ¬ ((-15 : Int32) = -14) by decide), if_neg (show ¬ ((-15 : Int32) = -13) by decide), if_neg (show ¬ ((-15 : Int32) = -12) by decide), if_neg (show ¬ ((-15 : Int32) = -11) by decide), if_neg (show ¬ ((-15 : Int32) = -10) by decide), if_neg (show ¬ ((-15 : Int32) = -9) by decide)]
  · rw [show encM 20008 = -8 from rfl]
    unfold f_X12_both
    rw [if_neg (show ¬ ((-8 : Int32) = -7) by decide), if_neg (show ¬ ((-8 : Int32) = -6) by decide), if_neg (show ¬ ((-8 : Int32) = -5) by decide), if_neg (show ¬ ((-8 : Int32) = -4) by decide), if_neg (show ¬ ((-8 : Int32) = -3) by decide), if_neg (show ¬ ((-8 : Int32) = -2) by decide), if_neg (show ¬ ((-8 : Int32) = -1) by decide)]
theorem op_bin {N : Nat} {S Sm : SH} {x y : DY} {a b : Int32} {c : Nat} (h1 : 20002 ≤ c) (h2 : c ≤ 20008) : ∃ v, f_X10_together N S (encX c) a b x = some v ∧ f_X12_both N Sm 40 (encM c) a b y = some v := by
  obtain rfl | rfl | rfl | rfl | rfl | rfl | rfl : c = 20002 ∨ c = 20003 ∨ c = 20004 ∨ c = 20005 ∨ c = 20006 ∨ c = 20007 ∨ c = 20008 := by omega
  · exact op_20002
  · exact op_20003
  · exact op_20004
  · exact op_20005
  · exact op_20006
  · exact op_20007
  · exact op_20008
theorem en_bin {c : Nat} (h1 : 20002 ≤ c) (h2 : c ≤ 20008) : (encX c ≤ -nI 7) = True ∧ (encX c < -nI 8) = True ∧ (encM c < nI 0) = True ∧ (encM c = -nI 3) = False ∧ (encM c = -nI 9) = False := by
  obtain rfl | rfl | rfl | rfl | rfl | rfl | rfl : c = 20002 ∨ c = 20003 ∨ c = 20004 ∨ c = 20005 ∨ c = 20006 ∨ c = 20007 ∨ c = 20008 := by omega
  all_goals exact ⟨eq_true (by decide), eq_true (by decide), eq_true (by decide), eq_false (by decide), eq_false (by decide)⟩
theorem en_num {c : Nat} (h : c < 10000) : encX c = nI c ∧ encM c = nI c := ⟨if_pos h, if_pos (by omega)⟩
theorem en_nam {c : Nat} (h : 10000 ≤ c) (h2 : c < 10006) : encX c = mO - nI (c - 10000) ∧ encM c = nI c := ⟨by unfold encX; rw [if_neg (by omega), if_pos h2], if_pos h2⟩
theorem w_msub {c : Nat} (h : c < 1000000) : (mO - nI c < nI 0) = True := eq_true (by
  have e : mO - nI c = -nI (c + 1) := by
    rw [nI_succ, Int32.neg_add]
    unfold mO
    rw [Int32.sub_eq_add_neg, Int32.add_comm, ← Int32.sub_eq_add_neg]
  rw [e, w_negl (by omega) (by omega) (by omega)]
  trivial)
theorem w_mm {c : Nat} : mO - (mO - nI c) = nI c := by
  rw [Int32.sub_eq_add_neg, Int32.neg_sub, Int32.sub_eq_add_neg, Int32.add_comm, Int32.add_assoc, Int32.add_left_neg, Int32.add_zero]
theorem w_nm7 : ∀ m, m < 6 → (mO - nI m ≤ -nI 7) = False := fun m hm => eq_false ((by decide : ∀ m, m < 6 → ¬ (mO - nI m ≤ -nI 7)) m hm)
set_option maxHeartbeats 1600000 in
theorem z_val {N : Nat} (hN : 600 ≤ N) {S Sm : SH} (hM : SHM Sm) {x y : DY} {t tk sk kn p2 : Nat} {P : List Nat} (hP : zWf P) (hsk : pr S t 2 = sk) (hlk : S.2.2.1 tk = P.length) (hls : P.length ≤ S.2.2.1 sk) (hls2 : S.2.2.1 sk ≤ 160) (hkn : S.2.2.1 kn = 6) (hn1 : tk ≠ sk) (hn2 : kn ≠ sk) (hx : ∀ i, i < P.length → x.1 tk i = encX (P.getD i 0)) (hy : ∀ i, i < P.length → y.1 63 (160 * p2 + i) = encM (P.getD i 0)) (hm : y.1 62 p2 = nI P.length) (hp2 : p2 < 12) (hk : ∀ m, m < 6 → x.1 kn m = y.1 66 m) :
    zJ (j_X10_value_15 N S t kn tk x) (lp_X12_work_14 N Sm 40 (nI p2) 0 0 y) (fun a b => a.1 = b.1 ∧ (∀ q, q ≠ sk → a.2.1 q = x.1 q) ∧ a.2.2 = x.2 ∧ (∀ q, q ≠ 67 → b.2.1 q = y.1 q) ∧ b.2.2 = y.2) := by
  unfold j_X10_value_15 lp_X10_value_22 lp_X12_work_14
  refine z_loop2 (fun i a b => ∃ d xx yy, a = (nI d, nI i, xx) ∧ b = (nI d, nI i, yy) ∧ zD (P.drop i) d = some 1 ∧ d ≤ i ∧ (∀ j, j < d → xx.1 sk j = yy.1 67 j) ∧ (∀ q, q ≠ sk → xx.1 q = x.1 q) ∧ xx.2 = x.2 ∧ (∀ q, q ≠ 67 → yy.1 q = y.1 q) ∧ yy.2 = y.2) P.length
    (K1 := fun a => if a.1 < 1 then some (0, a.2.2) else ck S (pr S t 2) (a.1 - 1) (some ((a.2.2.1 (pr S t 2) (a.1 - 1).toNatClampNeg), a.2.2)))
    (K2 := fun b => ck Sm (pr Sm 40 44) 0 (some ((b.2.2.1 (pr Sm 40 44) (0 : Int32).toNatClampNeg), b.2.2)))
    _ (by omega) (by omega) ⟨0, x, y, rfl, rfl, hP.1, Nat.le_refl _, fun j hj => absurd hj (Nat.not_lt_zero j), fun _ _ => rfl, rfl, fun _ _ => rfl, rfl⟩ ?_ ?_ ?_
  · rintro i _ _ hi ⟨d, xx, yy, rfl, rfl, hD, hd, hs, f1, f2, f3, f4⟩
    have hxi : xx.1 tk i = encX (P.getD i 0) := by rw [f1 _ hn1]; exact hx i hi
    have hyi : yy.1 63 (160 * p2 + i) = encM (P.getD i 0) := by rw [f3 _ (by decide)]; exact hy i hi
    have hmi : yy.1 62 p2 = nI P.length := by rw [f3 _ (by decide)]; exact hm
    have hok : zOk (P.getD i 0) := hP.2 _ (by
      rw [List.getD_eq_getElem?_getD, List.getElem?_eq_getElem hi]; exact List.getElem_mem hi)
    rw [List.drop_eq_getElem_cons hi] at hD
    have hgi : P[i] = P.getD i 0 := by rw [List.getD_eq_getElem?_getD, List.getElem?_eq_getElem hi]; rfl
    rw [hgi] at hD
    generalize P.getD i 0 = c at hxi hyi hok hD
    have hL : P.length ≤ 160 := Nat.le_trans hls hls2
    by_cases c1 : c < 10000
    · obtain ⟨e1, e2⟩ := en_num c1
      rw [e1] at hxi
      rw [e2] at hyi
      have hD' : zD (P.drop (i + 1)) (d + 1) = some 1 := by
        rw [zD, if_pos (by omega)] at hD; exact hD
      refine ⟨(nI (d + 1), nI (i + 1), U1 xx sk d (nI c)), (nI (d + 1), nI (i + 1), U1 yy 67 d (nI c)), ⟨d + 1, _, _, rfl, rfl, hD', by omega, ?_, ?_, f2, ?_, f4⟩, fun back => ?_, fun back => ?_⟩
      · intro j hj
        simp only [u1_f, up_s]
        by_cases e : j = d
        · subst e; rw [ud_s, ud_s]
        · rw [ud_n e, ud_n e]; exact hs j (by omega)
      · intro q hq; simp only [u1_f]; rw [up_n hq]; exact f1 q hq
      · intro q hq; simp only [u1_f]; rw [up_n hq]; exact f3 q hq
      · simp (disch := (first | omega | (simp only [hsk, hkn, hlk]; omega))) only [lp_X10_value_22_b, j_X10_value_170, j_X10_value_85, j_X10_value_83, ↓eM, eL_0, eL_1, eL_2, eL_3, eL_4, eL_5, eL_6, eL_7, eL_8, eL_9, eL_10, eL_11, eL_12, eL_15, eL_16, eL_20, eL_24, eL_30, eL_31, eL_32, eL_39, eL_40, eL_41, eL_42, eL_43, eL_45, eL_47, eL_48, eL_49, eL_50, eL_57, eL_59, eL_60, eL_61, eL_90, eL_96, eL_97, eL_100, eL_122, eL_160, eL_161, eL_255, eL_300, eL_343, eL_999, eL_1000, eL_1920, eL_9999, eL_10000, eL_999999, eL_100000, eL_1000000, hsk, hlk, hkn, hxi, w_msub, w_negle, ↓reduceIte, ↓bl_e, bd_e, u1_f, u1_s, u2_f, u2_s, w_cl, w_ltT, w_ltF, w_leT, w_leF, w_eqT, w_eqF, w_mlt, w_ltm, w_mle, w_lem, w_eqm, w_meq, w_mltm, nI_add, w_sub, w_addm, up_s, up_n, ud_s, ud_n, ck_n, bz_0, bz_1]
      · simp (disch := (first | omega | (simp only [shm_l41 hM, shm_l42 hM, shm_l43 hM, shm_l44 hM, shm_l45 hM, shm_l46 hM, shm_l47 hM, shm_l48 hM, shm_l49 hM, shm_l50 hM, shm_l51 hM, shm_l52 hM, shm_l53 hM, shm_l54 hM, shm_l55 hM, shm_l56 hM, shm_l57 hM, shm_l58 hM, shm_l59 hM, shm_l60 hM, shm_l61 hM, shm_l62 hM, shm_l63 hM, shm_l64 hM, shm_l65 hM, shm_l66 hM, shm_l67 hM, shm_l68 hM, shm_l69 hM, shm_l70 hM, shm_l71 hM, shm_l72 hM, shm_l73 hM, shm_l74 hM, shm_l75 hM, shm_l76 hM, shm_l77 hM, shm_l78 hM, shm_l79 hM, shm_l80 hM]; omega))) only [lp_X12_work_14_b, j_X12_work_172, j_X12_work_137, j_X12_work_95, j_X12_work_74, ↓eM, eL_0, eL_1, eL_2, eL_3, eL_4, eL_5, eL_6, eL_7, eL_8, eL_9, eL_10, eL_11, eL_12, eL_15, eL_16, eL_20, eL_24, eL_30, eL_31, eL_32, eL_39, eL_40, eL_41, eL_42, eL_43, eL_45, eL_47, eL_48, eL_49, eL_50, eL_57, eL_59, eL_60, eL_61, eL_90, eL_96, eL_97, eL_100, eL_122, eL_160, eL_161, eL_255, eL_300, eL_343, eL_999, eL_1000, eL_1920, eL_9999, eL_10000, eL_999999, eL_100000, eL_1000000, shm_p31 hM, shm_p32 hM, shm_p43 hM, shm_p44 hM, pk_mul, hmi, hyi, ↓reduceIte, ↓bl_e, bd_e, u1_f, u1_s, u2_f, u2_s, w_cl, w_ltT, w_ltF, w_leT, w_leF, w_eqT, w_eqF, w_mlt, w_ltm, w_mle, w_lem, w_eqm, w_meq, w_mltm, nI_add, w_sub, w_addm, up_s, up_n, ud_s, ud_n, ck_n, bz_0, bz_1]
    · by_cases c2 : c < 10006
      · obtain ⟨e1, e2⟩ := en_nam (by omega) c2
        have hD' : zD (P.drop (i + 1)) (d + 1) = some 1 := by
          rw [zD, if_pos (by omega)] at hD; exact hD
        obtain ⟨m, rfl⟩ : ∃ m, c = 10000 + m := ⟨c - 10000, by omega⟩
        have hm6 : m < 6 := by omega
        rw [e1, show 10000 + m - 10000 = m by omega] at hxi
        rw [e2] at hyi
        have hkm : xx.1 kn m = yy.1 66 m := by rw [f1 _ hn2, f3 _ (by decide)]; exact hk m hm6
        refine ⟨(nI (d + 1), nI (i + 1), U1 xx sk d (xx.1 kn m)), (nI (d + 1), nI (i + 1), U1 yy 67 d (yy.1 66 m)), ⟨d + 1, _, _, rfl, rfl, hD', by omega, ?_, ?_, f2, ?_, f4⟩, fun back => ?_, fun back => ?_⟩
        · intro j hj
          simp only [u1_f, up_s]
          by_cases e : j = d
          · subst e; rw [ud_s, ud_s]; exact hkm
          · rw [ud_n e, ud_n e]; exact hs j (by omega)
        · intro q hq; simp only [u1_f]; rw [up_n hq]; exact f1 q hq
        · intro q hq; simp only [u1_f]; rw [up_n hq]; exact f3 q hq
        · simp (disch := (first | omega | (simp only [hsk, hkn, hlk]; omega))) only [lp_X10_value_22_b, j_X10_value_170, j_X10_value_85, j_X10_value_83, ↓eM, eL_0, eL_1, eL_2, eL_3, eL_4, eL_5, eL_6, eL_7, eL_8, eL_9, eL_10, eL_11, eL_12, eL_15, eL_16, eL_20, eL_24, eL_30, eL_31, eL_32, eL_39, eL_40, eL_41, eL_42, eL_43, eL_45, eL_47, eL_48, eL_49, eL_50, eL_57, eL_59, eL_60, eL_61, eL_90, eL_96, eL_97, eL_100, eL_122, eL_160, eL_161, eL_255, eL_300, eL_343, eL_999, eL_1000, eL_1920, eL_9999, eL_10000, eL_999999, eL_100000, eL_1000000, hsk, hlk, hkn, hxi, w_mm, w_nm7 m hm6, ↓reduceIte, ↓bl_e, bd_e, u1_f, u1_s, u2_f, u2_s, w_cl, w_ltT, w_ltF, w_leT, w_leF, w_eqT, w_eqF, w_mlt, w_ltm, w_mle, w_lem, w_eqm, w_meq, w_mltm, nI_add, w_sub, w_addm, up_s, up_n, ud_s, ud_n, ck_n, bz_0, bz_1]
        · have e3 : 10000 + m - 10000 = m := by omega
          simp (disch := (first | omega | (simp only [shm_l41 hM, shm_l42 hM, shm_l43 hM, shm_l44 hM, shm_l45 hM, shm_l46 hM, shm_l47 hM, shm_l48 hM, shm_l49 hM, shm_l50 hM, shm_l51 hM, shm_l52 hM, shm_l53 hM, shm_l54 hM, shm_l55 hM, shm_l56 hM, shm_l57 hM, shm_l58 hM, shm_l59 hM, shm_l60 hM, shm_l61 hM, shm_l62 hM, shm_l63 hM, shm_l64 hM, shm_l65 hM, shm_l66 hM, shm_l67 hM, shm_l68 hM, shm_l69 hM, shm_l70 hM, shm_l71 hM, shm_l72 hM, shm_l73 hM, shm_l74 hM, shm_l75 hM, shm_l76 hM, shm_l77 hM, shm_l78 hM, shm_l79 hM, shm_l80 hM]; omega))) only [lp_X12_work_14_b, j_X12_work_172, j_X12_work_137, j_X12_work_95, j_X12_work_74, ↓eM, eL_0, eL_1, eL_2, eL_3, eL_4, eL_5, eL_6, eL_7, eL_8, eL_9, eL_10, eL_11, eL_12, eL_15, eL_16, eL_20, eL_24, eL_30, eL_31, eL_32, eL_39, eL_40, eL_41, eL_42, eL_43, eL_45, eL_47, eL_48, eL_49, eL_50, eL_57, eL_59, eL_60, eL_61, eL_90, eL_96, eL_97, eL_100, eL_122, eL_160, eL_161, eL_255, eL_300, eL_343, eL_999, eL_1000, eL_1920, eL_9999, eL_10000, eL_999999, eL_100000, eL_1000000, shm_p31 hM, shm_p32 hM, shm_p43 hM, shm_p44 hM, pk_mul, hmi, hyi, e3, ↓reduceIte, ↓bl_e, bd_e, u1_f, u1_s, u2_f, u2_s, w_cl, w_ltT, w_ltF, w_leT, w_leF, w_eqT, w_eqF, w_mlt, w_ltm, w_mle, w_lem, w_eqm, w_meq, w_mltm, nI_add, w_sub, w_addm, up_s, up_n, ud_s, ud_n, ck_n, bz_0, bz_1]
      · have hc3 : 20000 ≤ c ∧ c ≤ 20008 := by
          rcases hok with h | h
          · omega
          · exact h
        by_cases c4 : c < 20002
        · rw [zD, if_neg c2, if_pos c4] at hD
          have hd1 : 1 ≤ d := by
            by_cases h : 1 ≤ d
            · exact h
            · rw [if_neg h] at hD; cases hD
          rw [if_pos hd1] at hD
          have hst := hs (d - 1) (by omega)
          have key : ∀ v, ((nI d, nI (i + 1), U1 xx sk (d - 1) v) : Int32 × Int32 × DY) = (nI d, nI (i + 1), U1 xx sk (d - 1) v) ∧ (∃ d' xx' yy', (nI d, nI (i + 1), U1 xx sk (d - 1) v) = (nI d', nI (i + 1), xx') ∧ (nI d, nI (i + 1), U1 yy 67 (d - 1) v) = (nI d', nI (i + 1), yy') ∧ zD (P.drop (i + 1)) d' = some 1 ∧ d' ≤ i + 1 ∧ (∀ j, j < d' → xx'.1 sk j = yy'.1 67 j) ∧ (∀ q, q ≠ sk → xx'.1 q = x.1 q) ∧ xx'.2 = x.2 ∧ (∀ q, q ≠ 67 → yy'.1 q = y.1 q) ∧ yy'.2 = y.2) := by
            refine fun v => ⟨rfl, d, _, _, rfl, rfl, hD, by omega, ?_, ?_, f2, ?_, f4⟩
            · intro j hj
              simp only [u1_f, up_s]
              by_cases e : j = d - 1
              · subst e; rw [ud_s, ud_s]
              · rw [ud_n e, ud_n e]; exact hs j (by omega)
            · intro q hq; simp only [u1_f]; rw [up_n hq]; exact f1 q hq
            · intro q hq; simp only [u1_f]; rw [up_n hq]; exact f3 q hq
          obtain rfl | rfl : c = 20000 ∨ c = 20001 := by omega
          · have x1 : (encX 20000 ≤ -nI 7) = True := eq_true (by decide)
            have x2 : (encX 20000 < -nI 8) = False := eq_false (by decide)
            have x3 : (encX 20000 = -nI 8) = False := eq_false (by decide)
            have m1 : (encM 20000 < nI 0) = True := eq_true (by decide)
            have m2 : (encM 20000 = -nI 3) = True := eq_true (by decide)
            have m3 : (encM 20000 = -nI 9) = False := eq_false (by decide)
            by_cases hz : yy.1 67 (d - 1) = nI 0
            · refine ⟨_, _, (key (nI 1)).2, fun back => ?_, fun back => ?_⟩
              · simp (disch := (first | omega | (simp only [hsk, hkn, hlk]; omega))) only [lp_X10_value_22_b, j_X10_value_170, j_X10_value_85, j_X10_value_83, f_X10_alone, ↓eM, eL_0, eL_1, eL_2, eL_3, eL_4, eL_5, eL_6, eL_7, eL_8, eL_9, eL_10, eL_11, eL_12, eL_15, eL_16, eL_20, eL_24, eL_30, eL_31, eL_32, eL_39, eL_40, eL_41, eL_42, eL_43, eL_45, eL_47, eL_48, eL_49, eL_50, eL_57, eL_59, eL_60, eL_61, eL_90, eL_96, eL_97, eL_100, eL_122, eL_160, eL_161, eL_255, eL_300, eL_343, eL_999, eL_1000, eL_1920, eL_9999, eL_10000, eL_999999, eL_100000, eL_1000000, hsk, hlk, hkn, hxi, x1, x2, x3, hst, hz, ↓reduceIte, ↓bl_e, bd_e, u1_f, u1_s, u2_f, u2_s, w_cl, w_ltT, w_ltF, w_leT, w_leF, w_eqT, w_eqF, w_mlt, w_ltm, w_mle, w_lem, w_eqm, w_meq, w_mltm, nI_add, w_sub, w_addm, up_s, up_n, ud_s, ud_n, ck_n, bz_0, bz_1]
              · simp (disch := (first | omega | (simp only [shm_l41 hM, shm_l42 hM, shm_l43 hM, shm_l44 hM, shm_l45 hM, shm_l46 hM, shm_l47 hM, shm_l48 hM, shm_l49 hM, shm_l50 hM, shm_l51 hM, shm_l52 hM, shm_l53 hM, shm_l54 hM, shm_l55 hM, shm_l56 hM, shm_l57 hM, shm_l58 hM, shm_l59 hM, shm_l60 hM, shm_l61 hM, shm_l62 hM, shm_l63 hM, shm_l64 hM, shm_l65 hM, shm_l66 hM, shm_l67 hM, shm_l68 hM, shm_l69 hM, shm_l70 hM, shm_l71 hM, shm_l72 hM, shm_l73 hM, shm_l74 hM, shm_l75 hM, shm_l76 hM, shm_l77 hM, shm_l78 hM, shm_l79 hM, shm_l80 hM]; omega))) only [lp_X12_work_14_b, j_X12_work_172, j_X12_work_137, j_X12_work_95, j_X12_work_74, ↓eM, eL_0, eL_1, eL_2, eL_3, eL_4, eL_5, eL_6, eL_7, eL_8, eL_9, eL_10, eL_11, eL_12, eL_15, eL_16, eL_20, eL_24, eL_30, eL_31, eL_32, eL_39, eL_40, eL_41, eL_42, eL_43, eL_45, eL_47, eL_48, eL_49, eL_50, eL_57, eL_59, eL_60, eL_61, eL_90, eL_96, eL_97, eL_100, eL_122, eL_160, eL_161, eL_255, eL_300, eL_343, eL_999, eL_1000, eL_1920, eL_9999, eL_10000, eL_999999, eL_100000, eL_1000000, shm_p31 hM, shm_p32 hM, shm_p43 hM, shm_p44 hM, pk_mul, hmi, hyi, m1, m2, m3, hz, ↓reduceIte, ↓bl_e, bd_e, u1_f, u1_s, u2_f, u2_s, w_cl, w_ltT, w_ltF, w_leT, w_leF, w_eqT, w_eqF, w_mlt, w_ltm, w_mle, w_lem, w_eqm, w_meq, w_mltm, nI_add, w_sub, w_addm, up_s, up_n, ud_s, ud_n, ck_n, bz_0, bz_1]
            · refine ⟨_, _, (key (nI 0)).2, fun back => ?_, fun back => ?_⟩
              · simp (disch := (first | omega | (simp only [hsk, hkn, hlk]; omega))) only [lp_X10_value_22_b, j_X10_value_170, j_X10_value_85, j_X10_value_83, f_X10_alone, ↓eM, eL_0, eL_1, eL_2, eL_3, eL_4, eL_5, eL_6, eL_7, eL_8, eL_9, eL_10, eL_11, eL_12, eL_15, eL_16, eL_20, eL_24, eL_30, eL_31, eL_32, eL_39, eL_40, eL_41, eL_42, eL_43, eL_45, eL_47, eL_48, eL_49, eL_50, eL_57, eL_59, eL_60, eL_61, eL_90, eL_96, eL_97, eL_100, eL_122, eL_160, eL_161, eL_255, eL_300, eL_343, eL_999, eL_1000, eL_1920, eL_9999, eL_10000, eL_999999, eL_100000, eL_1000000, hsk, hlk, hkn, hxi, x1, x2, x3, hst, hz, ↓reduceIte, ↓bl_e, bd_e, u1_f, u1_s, u2_f, u2_s, w_cl, w_ltT, w_ltF, w_leT, w_leF, w_eqT, w_eqF, w_mlt, w_ltm, w_mle, w_lem, w_eqm, w_meq, w_mltm, nI_add, w_sub, w_addm, up_s, up_n, ud_s, ud_n, ck_n, bz_0, bz_1]
              · simp (disch := (first | omega | (simp only [shm_l41 hM, shm_l42 hM, shm_l43 hM, shm_l44 hM, shm_l45 hM, shm_l46 hM, shm_l47 hM, shm_l48 hM, shm_l49 hM, shm_l50 hM, shm_l51 hM, shm_l52 hM, shm_l53 hM, shm_l54 hM, shm_l55 hM, shm_l56 hM, shm_l57 hM, shm_l58 hM, shm_l59 hM, shm_l60 hM, shm_l61 hM, shm_l62 hM, shm_l63 hM, shm_l64 hM, shm_l65 hM, shm_l66 hM, shm_l67 hM, shm_l68 hM, shm_l69 hM, shm_l70 hM, shm_l71 hM, shm_l72 hM, shm_l73 hM, shm_l74 hM, shm_l75 hM, shm_l76 hM, shm_l77 hM, shm_l78 hM, shm_l79 hM, shm_l80 hM]; omega))) only [lp_X12_work_14_b, j_X12_work_172, j_X12_work_137, j_X12_work_95, j_X12_work_74, ↓eM, eL_0, eL_1, eL_2, eL_3, eL_4, eL_5, eL_6, eL_7, eL_8, eL_9, eL_10, eL_11, eL_12, eL_15, eL_16, eL_20, eL_24, eL_30, eL_31, eL_32, eL_39, eL_40, eL_41, eL_42, eL_43, eL_45, eL_47, eL_48, eL_49, eL_50, eL_57, eL_59, eL_60, eL_61, eL_90, eL_96, eL_97, eL_100, eL_122, eL_160, eL_161, eL_255, eL_300, eL_343, eL_999, eL_1000, eL_1920, eL_9999, eL_10000, eL_999999, eL_100000, eL_1000000, shm_p31 hM, shm_p32 hM, shm_p43 hM, shm_p44 hM, pk_mul, hmi, hyi, m1, m2, m3, hz, ↓reduceIte, ↓bl_e, bd_e, u1_f, u1_s, u2_f, u2_s, w_cl, w_ltT, w_ltF, w_leT, w_leF, w_eqT, w_eqF, w_mlt, w_ltm, w_mle, w_lem, w_eqm, w_meq, w_mltm, nI_add, w_sub, w_addm, up_s, up_n, ud_s, ud_n, ck_n, bz_0, bz_1]
          · have x1 : (encX 20001 ≤ -nI 7) = True := eq_true (by decide)
            have x2 : (encX 20001 < -nI 8) = False := eq_false (by decide)
            have x3 : (encX 20001 = -nI 8) = True := eq_true (by decide)
            have m1 : (encM 20001 < nI 0) = True := eq_true (by decide)
            have m2 : (encM 20001 = -nI 3) = False := eq_false (by decide)
            have m3 : (encM 20001 = -nI 9) = True := eq_true (by decide)
            refine ⟨_, _, (key (-(yy.1 67 (d - 1)))).2, fun back => ?_, fun back => ?_⟩
            · simp (disch := (first | omega | (simp only [hsk, hkn, hlk]; omega))) only [lp_X10_value_22_b, j_X10_value_170, j_X10_value_85, j_X10_value_83, f_X10_alone, ↓eM, eL_0, eL_1, eL_2, eL_3, eL_4, eL_5, eL_6, eL_7, eL_8, eL_9, eL_10, eL_11, eL_12, eL_15, eL_16, eL_20, eL_24, eL_30, eL_31, eL_32, eL_39, eL_40, eL_41, eL_42, eL_43, eL_45, eL_47, eL_48, eL_49, eL_50, eL_57, eL_59, eL_60, eL_61, eL_90, eL_96, eL_97, eL_100, eL_122, eL_160, eL_161, eL_255, eL_300, eL_343, eL_999, eL_1000, eL_1920, eL_9999, eL_10000, eL_999999, eL_100000, eL_1000000, hsk, hlk, hkn, hxi, x1, x2, x3, hst, ↓reduceIte, ↓bl_e, bd_e, u1_f, u1_s, u2_f, u2_s, w_cl, w_ltT, w_ltF, w_leT, w_leF, w_eqT, w_eqF, w_mlt, w_ltm, w_mle, w_lem, w_eqm, w_meq, w_mltm, nI_add, w_sub, w_addm, up_s, up_n, ud_s, ud_n, ck_n, bz_0, bz_1]
            · simp (disch := (first | omega | (simp only [shm_l41 hM, shm_l42 hM, shm_l43 hM, shm_l44 hM, shm_l45 hM, shm_l46 hM, shm_l47 hM, shm_l48 hM, shm_l49 hM, shm_l50 hM, shm_l51 hM, shm_l52 hM, shm_l53 hM, shm_l54 hM, shm_l55 hM, shm_l56 hM, shm_l57 hM, shm_l58 hM, shm_l59 hM, shm_l60 hM, shm_l61 hM, shm_l62 hM, shm_l63 hM, shm_l64 hM, shm_l65 hM, shm_l66 hM, shm_l67 hM, shm_l68 hM, shm_l69 hM, shm_l70 hM, shm_l71 hM, shm_l72 hM, shm_l73 hM, shm_l74 hM, shm_l75 hM, shm_l76 hM, shm_l77 hM, shm_l78 hM, shm_l79 hM, shm_l80 hM]; omega))) only [lp_X12_work_14_b, j_X12_work_172, j_X12_work_137, j_X12_work_95, j_X12_work_74, ↓eM, eL_0, eL_1, eL_2, eL_3, eL_4, eL_5, eL_6, eL_7, eL_8, eL_9, eL_10, eL_11, eL_12, eL_15, eL_16, eL_20, eL_24, eL_30, eL_31, eL_32, eL_39, eL_40, eL_41, eL_42, eL_43, eL_45, eL_47, eL_48, eL_49, eL_50, eL_57, eL_59, eL_60, eL_61, eL_90, eL_96, eL_97, eL_100, eL_122, eL_160, eL_161, eL_255, eL_300, eL_343, eL_999, eL_1000, eL_1920, eL_9999, eL_10000, eL_999999, eL_100000, eL_1000000, shm_p31 hM, shm_p32 hM, shm_p43 hM, shm_p44 hM, pk_mul, hmi, hyi, m1, m2, m3, ↓reduceIte, ↓bl_e, bd_e, u1_f, u1_s, u2_f, u2_s, w_cl, w_ltT, w_ltF, w_leT, w_leF, w_eqT, w_eqF, w_mlt, w_ltm, w_mle, w_lem, w_eqm, w_meq, w_mltm, nI_add, w_sub, w_addm, up_s, up_n, ud_s, ud_n, ck_n, bz_0, bz_1]
        · rw [zD, if_neg c2, if_neg c4] at hD
          have hd2 : 2 ≤ d := by
            by_cases h : 2 ≤ d
            · exact h
            · rw [if_neg h] at hD; cases hD
          rw [if_pos hd2] at hD
          have hst1 := hs (d - 1) (by omega)
          have hst2 := hs (d - 2) (by omega)
          obtain ⟨x1, x2, m1, m2, m3⟩ := en_bin (c := c) (by omega) (by omega)
          obtain ⟨v, o1, o2⟩ := op_bin (N := N) (S := S) (Sm := Sm) (x := xx) (y := yy) (a := yy.1 67 (d - 2)) (b := yy.1 67 (d - 1)) (c := c) (by omega) (by omega)
          have e4 : d - 1 - 1 = d - 2 := by omega
          refine ⟨(nI (d - 1), nI (i + 1), U1 xx sk (d - 2) v), (nI (d - 1), nI (i + 1), U1 yy 67 (d - 2) v), ⟨d - 1, _, _, rfl, rfl, hD, by omega, ?_, ?_, f2, ?_, f4⟩, fun back => ?_, fun back => ?_⟩
          · intro j hj
            simp only [u1_f, up_s]
            by_cases e : j = d - 2
            · subst e; rw [ud_s, ud_s]
            · rw [ud_n e, ud_n e]; exact hs j (by omega)
          · intro q hq; simp only [u1_f]; rw [up_n hq]; exact f1 q hq
          · intro q hq; simp only [u1_f]; rw [up_n hq]; exact f3 q hq
          · simp (disch := (first | omega | (simp only [hsk, hkn, hlk]; omega))) only [lp_X10_value_22_b, j_X10_value_170, j_X10_value_85, j_X10_value_83, f_X10_alone, ↓eM, eL_0, eL_1, eL_2, eL_3, eL_4, eL_5, eL_6, eL_7, eL_8, eL_9, eL_10, eL_11, eL_12, eL_15, eL_16, eL_20, eL_24, eL_30, eL_31, eL_32, eL_39, eL_40, eL_41, eL_42, eL_43, eL_45, eL_47, eL_48, eL_49, eL_50, eL_57, eL_59, eL_60, eL_61, eL_90, eL_96, eL_97, eL_100, eL_122, eL_160, eL_161, eL_255, eL_300, eL_343, eL_999, eL_1000, eL_1920, eL_9999, eL_10000, eL_999999, eL_100000, eL_1000000, hsk, hlk, hkn, hxi, x1, x2, e4, hst1, hst2, o1, ↓reduceIte, ↓bl_e, bd_e, u1_f, u1_s, u2_f, u2_s, w_cl, w_ltT, w_ltF, w_leT, w_leF, w_eqT, w_eqF, w_mlt, w_ltm, w_mle, w_lem, w_eqm, w_meq, w_mltm, nI_add, w_sub, w_addm, up_s, up_n, ud_s, ud_n, ck_n, bz_0, bz_1]
          · simp (disch := (first | omega | (simp only [shm_l41 hM, shm_l42 hM, shm_l43 hM, shm_l44 hM, shm_l45 hM, shm_l46 hM, shm_l47 hM, shm_l48 hM, shm_l49 hM, shm_l50 hM, shm_l51 hM, shm_l52 hM, shm_l53 hM, shm_l54 hM, shm_l55 hM, shm_l56 hM, shm_l57 hM, shm_l58 hM, shm_l59 hM, shm_l60 hM, shm_l61 hM, shm_l62 hM, shm_l63 hM, shm_l64 hM, shm_l65 hM, shm_l66 hM, shm_l67 hM, shm_l68 hM, shm_l69 hM, shm_l70 hM, shm_l71 hM, shm_l72 hM, shm_l73 hM, shm_l74 hM, shm_l75 hM, shm_l76 hM, shm_l77 hM, shm_l78 hM, shm_l79 hM, shm_l80 hM]; omega))) only [lp_X12_work_14_b, j_X12_work_172, j_X12_work_137, j_X12_work_95, j_X12_work_74, ↓eM, eL_0, eL_1, eL_2, eL_3, eL_4, eL_5, eL_6, eL_7, eL_8, eL_9, eL_10, eL_11, eL_12, eL_15, eL_16, eL_20, eL_24, eL_30, eL_31, eL_32, eL_39, eL_40, eL_41, eL_42, eL_43, eL_45, eL_47, eL_48, eL_49, eL_50, eL_57, eL_59, eL_60, eL_61, eL_90, eL_96, eL_97, eL_100, eL_122, eL_160, eL_161, eL_255, eL_300, eL_343, eL_999, eL_1000, eL_1920, eL_9999, eL_10000, eL_999999, eL_100000, eL_1000000, shm_p31 hM, shm_p32 hM, shm_p43 hM, shm_p44 hM, pk_mul, hmi, hyi, m1, m2, m3, e4, o2, ↓reduceIte, ↓bl_e, bd_e, u1_f, u1_s, u2_f, u2_s, w_cl, w_ltT, w_ltF, w_leT, w_leF, w_eqT, w_eqF, w_mlt, w_ltm, w_mle, w_lem, w_eqm, w_meq, w_mltm, nI_add, w_sub, w_addm, up_s, up_n, ud_s, ud_n, ck_n, bz_0, bz_1]
  · rintro _ _ ⟨d, xx, yy, rfl, rfl, hD, hd, hs, f1, f2, f3, f4⟩
    have hL : P.length ≤ 160 := Nat.le_trans hls hls2
    have hmi : yy.1 62 p2 = nI P.length := by rw [f3 _ (by decide)]; exact hm
    refine ⟨fun back => ?_, fun back => ?_⟩
    · simp (disch := omega) only [lp_X10_value_22_b, hlk, w_leT, ↓reduceIte]
    · simp (disch := (first | omega | (simp only [shm_l41 hM, shm_l42 hM, shm_l43 hM, shm_l44 hM, shm_l45 hM, shm_l46 hM, shm_l47 hM, shm_l48 hM, shm_l49 hM, shm_l50 hM, shm_l51 hM, shm_l52 hM, shm_l53 hM, shm_l54 hM, shm_l55 hM, shm_l56 hM, shm_l57 hM, shm_l58 hM, shm_l59 hM, shm_l60 hM, shm_l61 hM, shm_l62 hM, shm_l63 hM, shm_l64 hM, shm_l65 hM, shm_l66 hM, shm_l67 hM, shm_l68 hM, shm_l69 hM, shm_l70 hM, shm_l71 hM, shm_l72 hM, shm_l73 hM, shm_l74 hM, shm_l75 hM, shm_l76 hM, shm_l77 hM, shm_l78 hM, shm_l79 hM, shm_l80 hM]; omega))) only [lp_X12_work_14_b, ↓eM, eL_0, eL_1, eL_2, eL_3, eL_4, eL_5, eL_6, eL_7, eL_8, eL_9, eL_10, eL_11, eL_12, eL_15, eL_16, eL_20, eL_24, eL_30, eL_31, eL_32, eL_39, eL_40, eL_41, eL_42, eL_43, eL_45, eL_47, eL_48, eL_49, eL_50, eL_57, eL_59, eL_60, eL_61, eL_90, eL_96, eL_97, eL_100, eL_122, eL_160, eL_161, eL_255, eL_300, eL_343, eL_999, eL_1000, eL_1920, eL_9999, eL_10000, eL_999999, eL_100000, eL_1000000, shm_p31 hM, shm_p44 hM, hmi, ↓reduceIte, ↓bl_e, bd_e, u1_f, u1_s, u2_f, u2_s, w_cl, w_ltT, w_ltF, w_leT, w_leF, w_eqT, w_eqF, w_mlt, w_ltm, w_mle, w_lem, w_eqm, w_meq, w_mltm, nI_add, w_sub, w_addm, up_s, up_n, ud_s, ud_n, ck_n, bz_0, bz_1]
  · rintro _ _ ⟨d, xx, yy, rfl, rfl, hD, hd, hs, f1, f2, f3, f4⟩
    rw [List.drop_length, zD] at hD
    obtain rfl : d = 1 := Option.some.inj hD
    have hL : P.length ≤ 160 := Nat.le_trans hls hls2
    refine ⟨(xx.1 sk 0, xx), (yy.1 67 0, yy), ?_, ?_, hs 0 (by omega), f1, f2, f3, f4⟩
    · simp (disch := (first | omega | (simp only [hsk]; omega))) only [↓eM, eL_0, eL_1, eL_2, eL_3, eL_4, eL_5, eL_6, eL_7, eL_8, eL_9, eL_10, eL_11, eL_12, eL_15, eL_16, eL_20, eL_24, eL_30, eL_31, eL_32, eL_39, eL_40, eL_41, eL_42, eL_43, eL_45, eL_47, eL_48, eL_49, eL_50, eL_57, eL_59, eL_60, eL_61, eL_90, eL_96, eL_97, eL_100, eL_122, eL_160, eL_161, eL_255, eL_300, eL_343, eL_999, eL_1000, eL_1920, eL_9999, eL_10000, eL_999999, eL_100000, eL_1000000, hsk, ↓reduceIte, ↓bl_e, bd_e, u1_f, u1_s, u2_f, u2_s, w_cl, w_ltT, w_ltF, w_leT, w_leF, w_eqT, w_eqF, w_mlt, w_ltm, w_mle, w_lem, w_eqm, w_meq, w_mltm, nI_add, w_sub, w_addm, up_s, up_n, ud_s, ud_n, ck_n, bz_0, bz_1]
    · simp (disch := (first | omega | (simp only [shm_l41 hM, shm_l42 hM, shm_l43 hM, shm_l44 hM, shm_l45 hM, shm_l46 hM, shm_l47 hM, shm_l48 hM, shm_l49 hM, shm_l50 hM, shm_l51 hM, shm_l52 hM, shm_l53 hM, shm_l54 hM, shm_l55 hM, shm_l56 hM, shm_l57 hM, shm_l58 hM, shm_l59 hM, shm_l60 hM, shm_l61 hM, shm_l62 hM, shm_l63 hM, shm_l64 hM, shm_l65 hM, shm_l66 hM, shm_l67 hM, shm_l68 hM, shm_l69 hM, shm_l70 hM, shm_l71 hM, shm_l72 hM, shm_l73 hM, shm_l74 hM, shm_l75 hM, shm_l76 hM, shm_l77 hM, shm_l78 hM, shm_l79 hM, shm_l80 hM]; omega))) only [↓eM, eL_0, eL_1, eL_2, eL_3, eL_4, eL_5, eL_6, eL_7, eL_8, eL_9, eL_10, eL_11, eL_12, eL_15, eL_16, eL_20, eL_24, eL_30, eL_31, eL_32, eL_39, eL_40, eL_41, eL_42, eL_43, eL_45, eL_47, eL_48, eL_49, eL_50, eL_57, eL_59, eL_60, eL_61, eL_90, eL_96, eL_97, eL_100, eL_122, eL_160, eL_161, eL_255, eL_300, eL_343, eL_999, eL_1000, eL_1920, eL_9999, eL_10000, eL_999999, eL_100000, eL_1000000, shm_p44 hM, ↓reduceIte, ↓bl_e, bd_e, u1_f, u1_s, u2_f, u2_s, w_cl, w_ltT, w_ltF, w_leT, w_leF, w_eqT, w_eqF, w_mlt, w_ltm, w_mle, w_lem, w_eqm, w_meq, w_mltm, nI_add, w_sub, w_addm, up_s, up_n, ud_s, ud_n, ck_n, bz_0, bz_1]
