/-! LAYER 3: texts: the cells of a new text -/
theorem nk_t {ρ : Type} {m B : Nat} {o : Option ρ} (h : m ≤ B) (hm : m < 2147483648) : nk (nI m) B o = o := by
  unfold nk
  rw [if_neg]
  rintro (q | q)
  · exact nI_pos hm q
  · rw [w_cl hm] at q; omega
theorem tkX_t {ρ : Type} {S : SH} {a : Nat} {o : Option ρ} (h : 40 ≤ a ∧ a < S.1 ∧ S.2.1 a = 14) : tkX S a o = o := if_pos (Or.inr h)
section MAKE
variable {N : Nat} {S : SH} {x : DY}
theorem L_copyInt {u v : Nat} (h1 : 54 < S.1) (h2 : S.2.1 54 = 14) (h3 : S.2.2.1 54 = 160) (huv : u ≤ v) (hv : v ≤ 160) : fA_J7_copyOfRangeInt_feecc N S 54 (nI u) (nI v) x = some (S.1, SN S 14 (v - u), cpX (SN S 14 (v - u)) 54 (nI u) S.1 (nI 0) (nI (v - u)) (XN x S.1)) := by
  have f1 : frB S [some (.ref 54), some (.int (nI u)), some (.int (nI v)), none, none] [] = true := by simp [frB, inB, h1]
  have hn : nI v - nI u = nI (v - u) := w_sub huv
  have f2 : frB S [some (.ref 54), some (.int (nI u)), some (.int (nI v)), some (.int (nI v - nI u)), none] [] = true := by simp [frB, inB, h1]
  have e1 : fA_J7_checkLength_df160 N S (nI u) (nI v) x = some (S, x) := if_pos (nI_le huv (by omega))
  have hne : ¬ 54 = S.1 := by omega
  obtain ⟨S7, hS7⟩ : ∃ S7, S7 = SN S 14 (v - u) := ⟨_, rfl⟩
  obtain ⟨x8, hx8⟩ : ∃ x8, x8 = XN x S.1 := ⟨_, rfl⟩
  have s1 : S7.1 = S.1 + 1 := by rw [hS7]
  have s2 : S7.2.1 54 = 14 := by rw [hS7]; exact (if_neg hne).trans h2
  have s3 : S7.2.2.1 54 = 160 := by rw [hS7]; exact (if_neg hne).trans h3
  have s4 : S7.2.1 S.1 = 14 := by rw [hS7]; exact if_pos rfl
  have s5 : S7.2.2.1 S.1 = v - u := by rw [hS7]; exact if_pos rfl
  have b1 : 54 < S7.1 := by omega
  have b2 : S.1 < S7.1 := by omega
  have f3 : frB S7 [some (.ref 54), some (.int (nI u)), some (.int (nI v)), some (.int (nI v - nI u)), some (.ref S.1)] [.int 0, .ref S.1, .int (nI u), .ref 54] = true := by simp [frB, inB, b1, b2]
  have e2 : f_J9_min_7cf53 N S7 (nI 160 - nI u) (nI v - nI u) x8 = some (nI (v - u)) := by
    rw [w_sub (show u ≤ 160 by omega), hn]
    unfold f_J9_min_7cf53
    by_cases h : v - u < 160 - u
    · rw [if_pos (nI_lt h (by omega))]
    · rw [if_neg (nI_nlt (by omega) (by omega)), show 160 - u = v - u by omega]
  unfold fA_J7_copyOfRangeInt_feecc
  rw [fk_t f1, e1, bd_e]
  dsimp only
  rw [fk_t f2]
  rw [show (nI v - nI u).toNatClampNeg = v - u by rw [hn, w_cl (by omega)]]
  rw [← hS7, ← hx8]
  rw [show ∀ o : Option (Nat × SH × DY), nk (nI v - nI u) 160 o = o from fun o => by rw [hn]; exact nk_t (by omega) (by omega)]
  rw [bl_e, bl_e, bl_e, tk_t ⟨by omega, b1, s2⟩, fk_t f3, s3, e2, bd_e, tk_t ⟨by omega, b1, s2⟩, tk_t ⟨by omega, b2, s4⟩, show (0 : Int32) = nI 0 from rfl, cpk_n (by rw [s3]; omega) (by rw [s5]; omega) (by omega) (by omega), bl_e]
theorem L_copy {u v : Nat} (h1 : 54 < S.1) (h2 : S.2.1 54 = 14) (h3 : S.2.2.1 54 = 160) (huv : u ≤ v) (hv : v ≤ 160) (h0 : u = 0 → v < 160) : fA_J7_copyOfRange_feecc N S 54 (nI u) (nI v) x = some (S.1, SN S 14 (v - u), cpX (SN S 14 (v - u)) 54 (nI u) S.1 (nI 0) (nI (v - u)) (XN x S.1)) := by
  have f1 : frB S [some (.ref 54), some (.int (nI u)), some (.int (nI v))] [] = true := by simp [frB, inB, h1]
  have e := L_copyInt (N := N) (x := x) h1 h2 h3 huv hv
  unfold fA_J7_copyOfRange_feecc
  by_cases hu : u = 0
  · rw [if_pos (show nI u = 0 by rw [hu]; rfl), tk_t ⟨by omega, h1, h2⟩, h3, if_neg (fun q => by have := nI_inj q (by omega) (by omega); have := h0 hu; omega), fk_t f1, e]
    rfl
  · rw [if_neg (show ¬ nI u = 0 from fun q => hu (nI_inj (b := 0) q (by omega) (by omega))), fk_t f1, e]
    rfl
theorem L_init {a b c lb lc : Nat} (ha : 40 ≤ a ∧ a < S.1 ∧ S.2.1 a = 10) (hb : 40 ≤ b ∧ b < S.1 ∧ S.2.1 b = 14) (hc : 40 ≤ c ∧ c < S.1 ∧ S.2.1 c = 14) (hlb : S.2.2.1 b = lb) (hlc : S.2.2.1 c = lc) (h1 : lb ≤ 160) (h2 : lc ≤ 160) : fA_X10_init N S a b c x = some (UP (SN (UP (UP S a 0 (some b)) a 1 (some c)) 14 (max lb lc)) a 2 (some S.1), XN x S.1) := by
  obtain ⟨S3, hS3⟩ : ∃ S3, S3 = UP S a 0 (some b) := ⟨_, rfl⟩
  obtain ⟨S7, hS7⟩ : ∃ S7, S7 = UP S3 a 1 (some c) := ⟨_, rfl⟩
  obtain ⟨S17, hS17⟩ : ∃ S17, S17 = SN S7 14 (max lb lc) := ⟨_, rfl⟩
  have t1 : S3.1 = S.1 := by rw [hS3]
  have t2 : S3.2.1 = S.2.1 := by rw [hS3]
  have t3 : S3.2.2.1 = S.2.2.1 := by rw [hS3]
  have u1 : S7.1 = S.1 := by rw [hS7]; exact t1
  have u2 : S7.2.1 = S.2.1 := by rw [hS7]; exact t2
  have u3 : S7.2.2.1 = S.2.2.1 := by rw [hS7]; exact t3
  have v1 : S17.1 = S.1 + 1 := by rw [hS17]; show S7.1 + 1 = _; rw [u1]
  have v2 : S17.2.1 a = 10 := by rw [hS17]; exact (if_neg (by omega)).trans (by rw [u2]; exact ha.2.2)
  have ha3 : 40 ≤ a ∧ a < S3.1 ∧ S3.2.1 a = 10 := by rw [t1, t2]; exact ha
  have ha7 : 40 ≤ a ∧ a < S7.1 ∧ S7.2.1 a = 10 := by rw [u1, u2]; exact ha
  have hb7 : 40 ≤ b ∧ b < S7.1 ∧ S7.2.1 b = 14 := by rw [u1, u2]; exact hb
  have hc7 : 40 ≤ c ∧ c < S7.1 ∧ S7.2.1 c = 14 := by rw [u1, u2]; exact hc
  have b1 := ha7.2.1
  have b2 := hb7.2.1
  have b3 := hc7.2.1
  have f1 : frB S7 [some (.ref a), some (.ref b), some (.ref c)] [.ref a] = true := by simp [frB, inB, b1, b2, b3]
  have em : f_J9_max_7cf53 N S7 (nI lb) (nI lc) x = some (nI (max lb lc)) := by
    unfold f_J9_max_7cf53
    by_cases h : lb < lc
    · rw [if_pos (nI_lt h (by omega)), Nat.max_eq_right (by omega)]
    · rw [if_neg (nI_nlt (by omega) (by omega)), Nat.max_eq_left (by omega)]
  have hm : max lb lc ≤ 160 := Nat.max_le.mpr ⟨h1, h2⟩
  have e : UP (SN (UP (UP S a 0 (some b)) a 1 (some c)) 14 (max lb lc)) a 2 (some S.1) = UP S17 a 2 (some S.1) := by rw [hS17, hS7, hS3]
  rw [e]
  unfold fA_X10_init
  rw [tk_t ha, lk_t hb.2.1, ← hS3, bl_e, bl_e, tk_t ha3, lk_t (by rw [t1]; exact hc.2.1), ← hS7, bl_e, bl_e, tkX_t hb7, tkX_t hc7, fk_t f1, u3, hlb, hlc, em, bd_e, fk_t f1, nk_t hm (by omega), w_cl (by omega), ← hS17, bl_e, bl_e, bl_e, tk_t ⟨by omega, by omega, v2⟩, lk_t (by rw [v1, u1]; omega), u1, bl_e, bl_e]
theorem L_add {a T : Nat} (h1 : 40 ≤ 45 ∧ 45 < S.1 ∧ S.2.1 45 = 7) (h2 : 40 ≤ 46 ∧ 46 < S.1 ∧ S.2.1 46 = 17) (h3 : S.2.2.2 45 0 = some 46) (h4 : S.2.2.1 46 = 6) (ha : 40 ≤ a ∧ a < S.1 ∧ S.2.1 a = 10) (h5 : x.1 45 2 = nI T) (hT : T < 6) : fA_X7_add N S 45 a x = some (nI T, UP S 46 T (some a), U1 x 45 2 (nI (T + 1))) := by
  have b1 := h1.2.1
  have b2 := ha.2.1
  have f1 : frB S [some (.ref 45), some (.ref a)] [] = true := by simp [frB, inB, b1, b2]
  have e1 : fA_X7_areFull N S 45 x = some (nI 0, S, x) := by
    unfold fA_X7_areFull
    rw [tk_t h1, h5, if_neg (show ¬ nI T < 0 from nI_pos (by omega)), tk_t h1, tk_t h1, h3, rfk_s, tk_t h2, h4, if_pos (nI_lt hT (by omega))]
    rfl
  obtain ⟨S12, hS12⟩ : ∃ S12, S12 = UP S 46 T (some a) := ⟨_, rfl⟩
  have h12 : 40 ≤ 45 ∧ 45 < S12.1 ∧ S12.2.1 45 = 7 := by rw [hS12]; exact h1
  have hu : (U1 x 45 2 (nI (T + 1))).1 45 2 = nI (T + 1) := by simp (disch := omega) only [u1_f, u1_s, u2_f, u2_s, up_s, up_n, ud_s, ud_n]
  unfold fA_X7_add
  rw [fk_t f1, tk_t h1, e1, bd_e]
  dsimp only
  rw [if_pos (show nI 0 = 0 from rfl), tk_t h1, h3, rfk_s, tk_t h1, tk_t h2, tk_t ha, h5, ck_n (by rw [h4]; exact hT) (by omega), w_cl (by omega), ← hS12, bl_e, bl_e, tk_t h12, tk_t h12, h5, show nI T + 1 = nI (T + 1) from nI_add T 1, bl_e, tk_t h12, hu, show nI (T + 1) - 1 = nI T from w_sub (b := 1) (by omega)]
/-- the new text's shape, and what it holds -/
def zGr (S : SH) (T pl gl : Nat) : SH := UP (UP (SN (UP (UP (SN (SN (SN S 10 0) 14 pl) 14 gl) S.1 0 (some (S.1 + 1))) S.1 1 (some (S.1 + 2))) 14 (max pl gl)) S.1 2 (some (S.1 + 3))) 46 T (some S.1)
def zGx (x : DY) (a pl gl T : Nat) (x' : DY) : Prop := (∀ b, b < a → b ≠ 45 → x'.1 b = x.1 b) ∧ (∀ k, k ≠ 2 → x'.1 45 k = x.1 45 k) ∧ x'.1 45 2 = nI (T + 1) ∧ (∀ b, b < a → x'.2 b = x.2 b) ∧ (∀ j, j < pl → x'.1 (a + 1) j = x.1 54 j) ∧ ∀ j, j < gl → x'.1 (a + 2) j = x.1 54 (pl + j)
set_option maxHeartbeats 1600000 in
theorem L_text (ha : 60 < S.1) (k45 : S.2.1 45 = 7) (k46 : S.2.1 46 = 17) (k49 : S.2.1 49 = 5) (k54 : S.2.1 54 = 14) (p45 : S.2.2.2 45 0 = some 46) (p49 : S.2.2.2 49 7 = some 54) (l46 : S.2.2.1 46 = 6) (l54 : S.2.2.1 54 = 160) {T pl gl : Nat} (hT : T < 6) (h2 : x.1 45 2 = nI T) (h9 : x.1 49 9 = nI pl) (h8 : x.1 49 8 = nI (pl + gl)) (hpl : 0 < pl) (hpl2 : pl < 160) (hgl : pl + gl ≤ 160) {ρ : Type} (K : Nat × SH × DY → Option ρ) (K2 : Int32 × SH × DY → Option ρ) (hK : ∀ b S' x', K (b, S', x') = fk S' [some (.ref 40), some (.int (nI 1))] [] (tk S' 45 7 (Option.bind (fA_X7_add N S' 45 b x') K2))) : ∃ x', Option.bind (fA_X5_copyOfText N S 49 x) K = K2 (nI T, zGr S T pl gl, x') ∧ zGx x S.1 pl gl T x' := by
  have t49 : 40 ≤ 49 ∧ 49 < S.1 ∧ S.2.1 49 = 5 := ⟨by omega, by omega, k49⟩
  have t54 : 40 ≤ 54 ∧ 54 < S.1 ∧ S.2.1 54 = 14 := ⟨by omega, by omega, k54⟩
  have b49 : 49 < S.1 := t49.2.1
  obtain ⟨a, haS⟩ : ∃ a, a = S.1 := ⟨_, rfl⟩
  -- the four shapes
  obtain ⟨S1, hS1⟩ : ∃ S1, S1 = SN S 10 0 := ⟨_, rfl⟩
  obtain ⟨x1, hx1⟩ : ∃ x1, x1 = XN x S.1 := ⟨_, rfl⟩
  have a1 : S1.1 = a + 1 := by rw [hS1, haS]
  have a2 : ∀ b, b < a → S1.2.1 b = S.2.1 b ∧ S1.2.2.1 b = S.2.2.1 b ∧ S1.2.2.2 b = S.2.2.2 b := fun b hb => by
    rw [hS1]; exact ⟨if_neg (by omega), if_neg (by omega), if_neg (by omega)⟩
  have a3 : S1.2.1 a = 10 := by rw [hS1, haS]; exact if_pos rfl
  obtain ⟨S2, hS2⟩ : ∃ S2, S2 = SN S1 14 pl := ⟨_, rfl⟩
  have b1 : S2.1 = a + 2 := by rw [hS2]; show S1.1 + 1 = _; rw [a1]
  have b2 : ∀ b, b < a → S2.2.1 b = S.2.1 b ∧ S2.2.2.1 b = S.2.2.1 b ∧ S2.2.2.2 b = S.2.2.2 b := fun b hb => by
    obtain ⟨g1, g2, g3⟩ := a2 b hb
    rw [hS2]; exact ⟨(if_neg (by omega)).trans g1, (if_neg (by omega)).trans g2, (if_neg (by omega)).trans g3⟩
  have b3 : S2.2.1 a = 10 := by rw [hS2]; exact (if_neg (by omega)).trans a3
  have b4 : S2.2.1 (a + 1) = 14 := by rw [hS2]; exact if_pos a1.symm
  have b5 : S2.2.2.1 (a + 1) = pl := by rw [hS2]; exact if_pos a1.symm
  obtain ⟨x2, hx2⟩ : ∃ x2, x2 = cpX S2 54 (nI 0) S1.1 (nI 0) (nI pl) (XN x1 S1.1) := ⟨_, rfl⟩
  obtain ⟨S3, hS3⟩ : ∃ S3, S3 = SN S2 14 gl := ⟨_, rfl⟩
  have c1 : S3.1 = a + 3 := by rw [hS3]; show S2.1 + 1 = _; rw [b1]
  have c2 : ∀ b, b < a → S3.2.1 b = S.2.1 b ∧ S3.2.2.1 b = S.2.2.1 b ∧ S3.2.2.2 b = S.2.2.2 b := fun b hb => by
    obtain ⟨g1, g2, g3⟩ := b2 b hb
    rw [hS3]; exact ⟨(if_neg (by omega)).trans g1, (if_neg (by omega)).trans g2, (if_neg (by omega)).trans g3⟩
  have c3 : S3.2.1 a = 10 := by rw [hS3]; exact (if_neg (by omega)).trans b3
  have c4 : S3.2.1 (a + 1) = 14 := by rw [hS3]; exact (if_neg (by omega)).trans b4
  have c5 : S3.2.2.1 (a + 1) = pl := by rw [hS3]; exact (if_neg (by omega)).trans b5
  have c6 : S3.2.1 (a + 2) = 14 := by rw [hS3]; exact if_pos b1.symm
  have c7 : S3.2.2.1 (a + 2) = gl := by rw [hS3]; exact if_pos b1.symm
  obtain ⟨x3, hx3⟩ : ∃ x3, x3 = cpX S3 54 (nI pl) S2.1 (nI 0) (nI gl) (XN x2 S2.1) := ⟨_, rfl⟩
  obtain ⟨S4, hS4⟩ : ∃ S4, S4 = UP (SN (UP (UP S3 a 0 (some (a + 1))) a 1 (some (a + 2))) 14 (max pl gl)) a 2 (some (a + 3)) := ⟨_, rfl⟩
  have d1 : S4.1 = a + 4 := by rw [hS4]; show S3.1 + 1 = _; rw [c1]
  have d2 : ∀ b, b < a → S4.2.1 b = S.2.1 b ∧ S4.2.2.1 b = S.2.2.1 b ∧ S4.2.2.2 b = S.2.2.2 b := fun b hb => by
    obtain ⟨g1, g2, g3⟩ := c2 b hb
    have hne : ¬ b = S3.1 := by omega
    have hne2 : b ≠ a := by omega
    rw [hS4]
    refine ⟨(if_neg hne).trans g1, (if_neg hne).trans g2, ?_⟩
    show up2 (fun b => if b = S3.1 then (fun _ => none) else up2 (up2 S3.2.2.2 a 0 (some (a + 1))) a 1 (some (a + 2)) b) a 2 (some (a + 3)) b = _
    rw [up2_n hne2]
    show (if b = S3.1 then (fun _ => none) else up2 (up2 S3.2.2.2 a 0 (some (a + 1))) a 1 (some (a + 2)) b) = _
    rw [if_neg hne, up2_n hne2, up2_n hne2]; exact g3
  have d3 : S4.2.1 a = 10 := by rw [hS4]; exact (if_neg (show ¬ a = S3.1 by omega)).trans c3
  obtain ⟨x4, hx4⟩ : ∃ x4, x4 = XN x3 S3.1 := ⟨_, rfl⟩
  -- the copies
  have e1 : fA_J7_copyOfRange_feecc N S1 54 0 (nI pl) x1 = some (a + 1, S2, x2) := by
    have := L_copy (N := N) (S := S1) (x := x1) (u := 0) (v := pl) (by omega) ((a2 54 (by omega)).1.trans k54) ((a2 54 (by omega)).2.1.trans l54) (Nat.zero_le _) (by omega) (fun _ => hpl2)
    rw [Nat.sub_zero, ← hS2, ← hx2, a1] at this
    exact this
  have e2 : fA_J7_copyOfRange_feecc N S2 54 (nI pl) (nI (pl + gl)) x2 = some (a + 2, S3, x3) := by
    have := L_copy (N := N) (S := S2) (x := x2) (u := pl) (v := pl + gl) (by omega) ((b2 54 (by omega)).1.trans k54) ((b2 54 (by omega)).2.1.trans l54) (by omega) hgl (fun h => by omega)
    rw [Nat.add_sub_cancel_left, ← hS3, ← hx3, b1] at this
    exact this
  have e3 : fA_X10_init N S3 a (a + 1) (a + 2) x3 = some (S4, x4) := by
    have := L_init (N := N) (S := S3) (x := x3) (a := a) (b := a + 1) (c := a + 2) ⟨by omega, by omega, c3⟩ ⟨by omega, by omega, c4⟩ ⟨by omega, by omega, c6⟩ c5 c7 (by omega) (by omega)
    rw [← hx4, c1, ← hS4] at this
    exact this
  have m1 : f_J9_min_7cf53 N S (nI pl) (nI 160) x = some (nI pl) := if_neg (nI_nlt (by omega) (by omega))
  have m2 : f_J9_max_7cf53 N S 0 (nI pl) x = some (nI pl) := if_pos (nI_lt (a := 0) hpl (by omega))
  have m3 : f_J9_min_7cf53 N S (nI (pl + gl)) (nI 160) x = some (nI (pl + gl)) := if_neg (nI_nlt (by omega) (by omega))
  have m4 : f_J9_max_7cf53 N S (nI pl) (nI (pl + gl)) x = some (nI (pl + gl)) := by
    unfold f_J9_max_7cf53
    by_cases h : pl < pl + gl
    · rw [if_pos (nI_lt h (by omega))]
    · rw [if_neg (nI_nlt (by omega) (by omega)), show pl + gl = pl by omega]
  have hb1 : a < S1.1 := by omega
  have hb2 : 49 < S1.1 := by omega
  have hb3 : a < S2.1 := by omega
  have hb4 : 49 < S2.1 := by omega
  have hb5 : a + 1 < S2.1 := by omega
  have hb6 : a < S3.1 := by omega
  have hb7 : 49 < S3.1 := by omega
  have hb8 : 40 < S4.1 := by omega
  have fa : frB S [some (.ref 49), none, none] [.int 0] = true := by simp [frB, inB, b49]
  have fb : frB S [some (.ref 49), none, none] [] = true := by simp [frB, inB, b49]
  have fc : frB S [some (.ref 49), some (.int (nI pl)), none] [.int (nI pl)] = true := by simp [frB, inB, b49]
  have fd : frB S [some (.ref 49), some (.int (nI pl)), none] [] = true := by simp [frB, inB, b49]
  have fe : frB S [some (.ref 49), some (.int (nI pl)), some (.int (nI (pl + gl)))] [] = true := by simp [frB, inB, b49]
  have ff : frB S1 [some (.ref 49), some (.int (nI pl)), some (.int (nI (pl + gl)))] [.ref a, .ref a] = true := by simp [frB, inB, hb1, hb2]
  have fg : frB S2 [some (.ref 49), some (.int (nI pl)), some (.int (nI (pl + gl)))] [.ref (a + 1), .ref a, .ref a] = true := by simp [frB, inB, hb3, hb4, hb5]
  have fh : frB S3 [some (.ref 49), some (.int (nI pl)), some (.int (nI (pl + gl)))] [.ref a] = true := by simp [frB, inB, hb6, hb7]
  have fi : frB S4 [some (.ref 40), some (.int (nI 1))] [] = true := by simp [frB, inB, hb8]
  have t1 : 40 ≤ 49 ∧ 49 < S1.1 ∧ S1.2.1 49 = 5 := ⟨by omega, by omega, (a2 49 (by omega)).1.trans k49⟩
  have t2 : 40 ≤ 49 ∧ 49 < S2.1 ∧ S2.2.1 49 = 5 := ⟨by omega, by omega, (b2 49 (by omega)).1.trans k49⟩
  have p1 : S1.2.2.2 49 7 = some 54 := by rw [(a2 49 (by omega)).2.2]; exact p49
  have p2 : S2.2.2.2 49 7 = some 54 := by rw [(b2 49 (by omega)).2.2]; exact p49
  have ecopy : fA_X5_copyOfText N S 49 x = some (a, S4, x4) := by
    unfold fA_X5_copyOfText
    rw [tk_t t49, tk_t t49, p49, rfk_s, tk_t t54, fk_t fa, h9, l54, m1, bd_e, fk_t fb, m2, bd_e, tk_t t49, tk_t t49, rfk_s, tk_t t54, fk_t fc, h8, l54, m3, bd_e, fk_t fd, m4, bd_e, fk_t fe, ← hS1, ← hx1, ← haS, bl_e, bl_e, bl_e, tk_t t1, p1, rfk_s, fk_t ff, e1, bd_e]
    dsimp only
    rw [tk_t t2, p2, rfk_s, fk_t fg, e2, bd_e]
    dsimp only
    rw [fk_t fh, e3, bd_e]
  -- rows
  have r1 : ∀ b, b < a → x4.1 b = x.1 b ∧ x4.2 b = x.2 b := fun b hb => by
    rw [hx4, hx3, hx2, hx1]
    have n1 : ¬ b = S3.1 := by omega
    have n2 : ¬ b = S2.1 := by omega
    have n3 : ¬ b = S1.1 := by omega
    have n4 : ¬ b = S.1 := by omega
    unfold cpX
    dsimp only
    rw [if_neg n1, if_neg n2, if_neg n2, if_neg n3, if_neg n3, if_neg n4, if_neg n1, if_neg n2, if_neg n3, if_neg n4]
    exact ⟨rfl, rfl⟩
  have r2 : ∀ j, j < pl → x4.1 (a + 1) j = x.1 54 j := fun j hj => by
    have n1 : ¬ a + 1 = S3.1 := by omega
    have n2 : ¬ a + 1 = S2.1 := by omega
    have n4 : ¬ 54 = S1.1 := by omega
    have n5 : ¬ 54 = S.1 := by omega
    have q1 : x4.1 (a + 1) = x2.1 (a + 1) := by
      rw [hx4, hx3]
      unfold cpX
      dsimp only
      rw [if_neg n1, if_neg n2, if_neg n2]
    have q2 : x2.1 (a + 1) = va_cpy ((XN x1 S1.1).1 54) ((XN x1 S1.1).1 (a + 1)) 0 0 pl := by
      rw [hx2, ← a1, cpX_s, w_cl (by omega), w_cl (by omega)]
    have q3 : (XN x1 S1.1).1 54 = x.1 54 := by
      rw [hx1]
      dsimp only
      rw [if_neg n4, if_neg n5]
    rw [q1, q2, q3]
    unfold va_cpy
    rw [if_pos (by omega), Nat.sub_zero, Nat.zero_add]
  have r3 : ∀ j, j < gl → x4.1 (a + 2) j = x.1 54 (pl + j) := fun j hj => by
    have n1 : ¬ a + 2 = S3.1 := by omega
    have n3 : ¬ 54 = S2.1 := by omega
    have n4 : ¬ 54 = S1.1 := by omega
    have n5 : ¬ 54 = S.1 := by omega
    have q1 : x4.1 (a + 2) = x3.1 (a + 2) := by
      rw [hx4]
      dsimp only
      rw [if_neg n1]
    have q2 : x3.1 (a + 2) = va_cpy ((XN x2 S2.1).1 54) ((XN x2 S2.1).1 (a + 2)) pl 0 gl := by
      rw [hx3, ← b1, cpX_s, w_cl (by omega), w_cl (by omega), w_cl (by omega)]
    have q3 : (XN x2 S2.1).1 54 = x.1 54 := by
      rw [hx2, hx1]
      unfold cpX
      dsimp only
      rw [if_neg n3, if_neg n4, if_neg n4, if_neg n5]
    rw [q1, q2, q3]
    unfold va_cpy
    rw [if_pos (by omega), Nat.sub_zero]
  have eadd : fA_X7_add N S4 45 a x4 = some (nI T, UP S4 46 T (some a), U1 x4 45 2 (nI (T + 1))) :=
    L_add (N := N) ⟨by omega, by omega, (d2 45 (by omega)).1.trans k45⟩ ⟨by omega, by omega, (d2 46 (by omega)).1.trans k46⟩ (by rw [(d2 45 (by omega)).2.2]; exact p45) ((d2 46 (by omega)).2.1.trans l46) ⟨by omega, by omega, d3⟩ (by rw [(r1 45 (by omega)).1]; exact h2) hT
  have eZ : zGr S T pl gl = UP S4 46 T (some a) := by
    unfold zGr
    rw [← hS1, ← hS2, ← hS3, ← haS, ← hS4]
  refine ⟨U1 x4 45 2 (nI (T + 1)), ?_, ?_⟩
  · rw [ecopy, bd_e, hK, fk_t fi, tk_t ⟨by omega, by omega, (d2 45 (by omega)).1.trans k45⟩, eadd, bd_e, eZ]
  · rw [← haS]
    refine ⟨fun b hb h45 => ?_, fun k hk => ?_, ?_, fun b hb => (r1 b hb).2, fun j hj => ?_, fun j hj => ?_⟩
    · simp (disch := omega) only [u1_f, u1_s, u2_f, u2_s, up_s, up_n, ud_s, ud_n]; exact (r1 b hb).1
    · simp (disch := omega) only [u1_f, u1_s, u2_f, u2_s, up_s, up_n, ud_s, ud_n]; rw [(r1 45 (by omega)).1]
    · simp (disch := omega) only [u1_f, u1_s, u2_f, u2_s, up_s, up_n, ud_s, ud_n]
    · simp (disch := omega) only [u1_f, u1_s, u2_f, u2_s, up_s, up_n, ud_s, ud_n]; exact r2 j hj
    · simp (disch := omega) only [u1_f, u1_s, u2_f, u2_s, up_s, up_n, ud_s, ud_n]; exact r3 j hj
end MAKE
