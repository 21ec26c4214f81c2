/-! MIRRORS that make cells, by program -/
set_option maxRecDepth 100000 in
def fA_X7_areFull (N : Nat) (S : SH) (a0 : Nat) (x : DY) : Option (Int32 × SH × DY) :=
  tk S a0 7 ((if (x.1 a0 2) < 0 then some (1, S, x) else tk S a0 7 (tk S a0 7 (rfk (S.2.2.2 a0 0) (fun b5 => tk S b5 17 ((if (x.1 a0 2) < (nI (S.2.2.1 b5)) then some (0, S, x) else some (1, S, x))))))))
set_option maxHeartbeats 20000000 in
set_option maxRecDepth 100000 in
theorem tA_X7_areFull {N d : Nat} {S : SH} {x : DY} {a0 : Nat} (hd : 1 ≤ d) : CA mX7_areFull d S [.ref a0] x 0 0 wAI (fA_X7_areFull N S a0 x) := by
  refine CA.of [some (.ref a0)] rfl (Nat.le_of_ble_eq_true rfl) (by decide +kernel) ?_
  unfold fA_X7_areFull
  refine ga1 (M := mX7_areFull) (pc' := 1) (k' := 0) (n' := 0) (r_aload_n (M := mX7_areFull) (i := 0) rfl dX7_areFull_0) ?_
  refine ga_tk (fun h1 => ?_)
  refine ga1 (M := mX7_areFull) (pc' := 4) (k' := 0) (n' := 0) (r_getI (M := mX7_areFull) fl_7_31 h1 rfl dX7_areFull_1) ?_
  refine ga_br (M := mX7_areFull) (pt := 19) (pf := 7) (fun kt kf => r_if_lt (M := mX7_areFull) dX7_areFull_4 (by decide) kt kf) (fun hc2 => ?_) (fun hc2 => ?_)
  · refine ga1 (M := mX7_areFull) (pc' := 20) (k' := 0) (n' := 0) (r_iconst (M := mX7_areFull) (v := 1) (by decide) dX7_areFull_19) ?_
    refine ga1 (M := mX7_areFull) (pc' := 24) (k' := 0) (n' := 0) (r_goto (M := mX7_areFull) dX7_areFull_20 (by decide)) ?_
    exact ga_zret (M := mX7_areFull) rfl rfl rfl dX7_areFull_24
  · refine ga1 (M := mX7_areFull) (pc' := 8) (k' := 0) (n' := 0) (r_aload_n (M := mX7_areFull) (i := 0) rfl dX7_areFull_7) ?_
    refine ga_tk (fun h3 => ?_)
    refine ga1 (M := mX7_areFull) (pc' := 11) (k' := 0) (n' := 0) (r_getI (M := mX7_areFull) fl_7_31 h3 rfl dX7_areFull_8) ?_
    refine ga1 (M := mX7_areFull) (pc' := 12) (k' := 0) (n' := 0) (r_aload_n (M := mX7_areFull) (i := 0) rfl dX7_areFull_11) ?_
    refine ga_tk (fun h4 => ?_)
    refine ga_rfk (fun b5 hb6 => ?_)
    refine ga1 (M := mX7_areFull) (pc' := 15) (k' := 0) (n' := 0) (r_getR (M := mX7_areFull) fl_7_11 h4 rfl hb6 dX7_areFull_12) ?_
    refine ga_tk (fun h7 => ?_)
    refine ga1 (M := mX7_areFull) (pc' := 16) (k' := 0) (n' := 0) (r_alen (M := mX7_areFull) h7 (by decide) (by decide) dX7_areFull_15) ?_
    refine ga_br (M := mX7_areFull) (pt := 23) (pf := 19) (fun kt kf => r_icmp_lt (M := mX7_areFull) dX7_areFull_16 (by decide) kt kf) (fun hc8 => ?_) (fun hc8 => ?_)
    · refine ga1 (M := mX7_areFull) (pc' := 24) (k' := 0) (n' := 0) (r_iconst (M := mX7_areFull) (v := 0) (by decide) dX7_areFull_23) ?_
      exact ga_zret (M := mX7_areFull) rfl rfl rfl dX7_areFull_24
    · refine ga1 (M := mX7_areFull) (pc' := 20) (k' := 0) (n' := 0) (r_iconst (M := mX7_areFull) (v := 1) (by decide) dX7_areFull_19) ?_
      refine ga1 (M := mX7_areFull) (pc' := 24) (k' := 0) (n' := 0) (r_goto (M := mX7_areFull) dX7_areFull_20 (by decide)) ?_
      exact ga_zret (M := mX7_areFull) rfl rfl rfl dX7_areFull_24
set_option maxRecDepth 100000 in
def fA_J7_checkLength_df160 (N : Nat) (S : SH) (a0 : Int32) (a1 : Int32) (x : DY) : Option (SH × DY) :=
  (if a0 ≤ a1 then some (S, x) else none)
set_option maxHeartbeats 20000000 in
set_option maxRecDepth 100000 in
theorem tA_J7_checkLength_df160 {N d : Nat} {S : SH} {x : DY} {a0 : Int32} {a1 : Int32} (hd : 1 ≤ d) : CA mJ7_checkLength_df160 d S [.int a0, .int a1] x 0 0 wAV (fA_J7_checkLength_df160 N S a0 a1 x) := by
  refine CA.of [some (.int a0), some (.int a1)] rfl (Nat.le_of_ble_eq_true rfl) (by decide +kernel) ?_
  unfold fA_J7_checkLength_df160
  refine ga1 (M := mJ7_checkLength_df160) (pc' := 1) (k' := 0) (n' := 0) (r_iload_n (M := mJ7_checkLength_df160) (i := 1) rfl dJ7_checkLength_df160_0) ?_
  refine ga1 (M := mJ7_checkLength_df160) (pc' := 2) (k' := 0) (n' := 0) (r_iload_n (M := mJ7_checkLength_df160) (i := 0) rfl dJ7_checkLength_df160_1) ?_
  refine ga_br (M := mJ7_checkLength_df160) (pt := 37) (pf := 5) (fun kt kf => r_icmp_ge (M := mJ7_checkLength_df160) dJ7_checkLength_df160_2 (by decide) kt kf) (fun hc1 => ?_) (fun hc1 => ?_)
  · exact ga_vret (M := mJ7_checkLength_df160) rfl rfl dJ7_checkLength_df160_37
  · exact ga_none
set_option maxRecDepth 100000 in
def fA_J7_copyOfRangeInt_feecc (N : Nat) (S : SH) (a0 : Nat) (a1 : Int32) (a2 : Int32) (x : DY) : Option (Nat × SH × DY) :=
  fk S [some (.ref a0), some (.int a1), some (.int a2), none, none] [] (Option.bind (fA_J7_checkLength_df160 N S a1 a2 x) (fun r1 => fk r1.1 [some (.ref a0), some (.int a1), some (.int a2), some (.int (a2 - a1)), none] [] (nk (a2 - a1) 160 (bl r1.1.1 (fun b6 => bl (SN r1.1 14 (a2 - a1).toNatClampNeg) (fun S7 => bl (XN r1.2 r1.1.1) (fun x8 => tk S7 a0 14 (fk S7 [some (.ref a0), some (.int a1), some (.int a2), some (.int (a2 - a1)), some (.ref b6)] [.int 0, .ref b6, .int a1, .ref a0] (Option.bind (f_J9_min_7cf53 N S7 ((nI (S7.2.2.1 a0)) - a1) (a2 - a1) x8) (fun r10 => tk S7 a0 14 (tk S7 b6 14 (cpk S7 a0 a1 b6 0 r10 (bl (cpX S7 a0 a1 b6 0 r10 x8) (fun x15 => some (b6, S7, x15)))))))))))))))
set_option maxHeartbeats 20000000 in
set_option maxRecDepth 100000 in
theorem tA_J7_copyOfRangeInt_feecc {N d : Nat} {S : SH} {x : DY} {a0 : Nat} {a1 : Int32} {a2 : Int32} (hd : 2 ≤ d) : CA mJ7_copyOfRangeInt_feecc d S [.ref a0, .int a1, .int a2] x 1 160 wAR (fA_J7_copyOfRangeInt_feecc N S a0 a1 a2 x) := by
  refine CA.of [some (.ref a0), some (.int a1), some (.int a2), none, none] rfl (Nat.le_of_ble_eq_true rfl) (by decide +kernel) ?_
  unfold fA_J7_copyOfRangeInt_feecc
  refine ga1 (M := mJ7_copyOfRangeInt_feecc) (pc' := 1) (k' := 1) (n' := 160) (r_iload_n (M := mJ7_copyOfRangeInt_feecc) (i := 1) rfl dJ7_copyOfRangeInt_feecc_0) ?_
  refine ga1 (M := mJ7_copyOfRangeInt_feecc) (pc' := 2) (k' := 1) (n' := 160) (r_iload_n (M := mJ7_copyOfRangeInt_feecc) (i := 2) rfl dJ7_copyOfRangeInt_feecc_1) ?_
  refine ga_fk (fun hf2 => ?_)
  refine ga_S (M := mJ7_copyOfRangeInt_feecc) (As := [.int a1, .int a2]) (st := []) (mc := 0) (ms := 0) (k' := 1) (n' := 160) ln_java_util_Arrays_343 lb_J7_checkLength_df160 (tA_J7_checkLength_df160 (N := N) (by omega)) (by omega) (Nat.le_of_ble_eq_true rfl) rfl dJ7_copyOfRangeInt_feecc_2 hf2 rfl rfl (fun r1 => ?_)
  show GA mJ7_copyOfRangeInt_feecc d _ _ _ 5 [some (.ref a0), some (.int a1), some (.int a2), none, none] [] r1.1 r1.2 1 160 _
  refine ga1 (M := mJ7_copyOfRangeInt_feecc) (pc' := 6) (k' := 1) (n' := 160) (r_iload_n (M := mJ7_copyOfRangeInt_feecc) (i := 2) rfl dJ7_copyOfRangeInt_feecc_5) ?_
  refine ga1 (M := mJ7_copyOfRangeInt_feecc) (pc' := 7) (k' := 1) (n' := 160) (r_iload_n (M := mJ7_copyOfRangeInt_feecc) (i := 1) rfl dJ7_copyOfRangeInt_feecc_6) ?_
  refine ga1 (M := mJ7_copyOfRangeInt_feecc) (pc' := 8) (k' := 1) (n' := 160) (r_isub (M := mJ7_copyOfRangeInt_feecc) dJ7_copyOfRangeInt_feecc_7) ?_
  refine ga1 (M := mJ7_copyOfRangeInt_feecc) (pc' := 9) (ls' := [some (.ref a0), some (.int a1), some (.int a2), some (.int (a2 - a1)), none]) (k' := 1) (n' := 160) (r_istore_n (M := mJ7_copyOfRangeInt_feecc) (ls := [some (.ref a0), some (.int a1), some (.int a2), none, none]) (i := 3) (v := (a2 - a1)) (by decide) rfl dJ7_copyOfRangeInt_feecc_8) ?_
  refine ga1 (M := mJ7_copyOfRangeInt_feecc) (pc' := 10) (k' := 1) (n' := 160) (r_iload_n (M := mJ7_copyOfRangeInt_feecc) (i := 3) rfl dJ7_copyOfRangeInt_feecc_9) ?_
  refine ga_fk (fun hf3 => ?_)
  refine ga_nk (fun hm4 hM5 => ?_)
  refine ga1 (M := mJ7_copyOfRangeInt_feecc) (pc' := 12) (k' := 0) (n' := 0) (r_newarr14 (M := mJ7_copyOfRangeInt_feecc) (B := 160) hm4 hM5 (by decide) hf3 dJ7_copyOfRangeInt_feecc_10) ?_
  refine ga_blR (fun b6 S7 x8 => ?_)
  refine ga1 (M := mJ7_copyOfRangeInt_feecc) (pc' := 14) (ls' := [some (.ref a0), some (.int a1), some (.int a2), some (.int (a2 - a1)), some (.ref b6)]) (k' := 0) (n' := 0) (r_astore (M := mJ7_copyOfRangeInt_feecc) (ls := [some (.ref a0), some (.int a1), some (.int a2), some (.int (a2 - a1)), none]) (i := 4) (v := b6) (by decide) rfl dJ7_copyOfRangeInt_feecc_12) ?_
  refine ga1 (M := mJ7_copyOfRangeInt_feecc) (pc' := 15) (k' := 0) (n' := 0) (r_aload_n (M := mJ7_copyOfRangeInt_feecc) (i := 0) rfl dJ7_copyOfRangeInt_feecc_14) ?_
  refine ga1 (M := mJ7_copyOfRangeInt_feecc) (pc' := 16) (k' := 0) (n' := 0) (r_iload_n (M := mJ7_copyOfRangeInt_feecc) (i := 1) rfl dJ7_copyOfRangeInt_feecc_15) ?_
  refine ga1 (M := mJ7_copyOfRangeInt_feecc) (pc' := 18) (k' := 0) (n' := 0) (r_aload (M := mJ7_copyOfRangeInt_feecc) (i := 4) rfl dJ7_copyOfRangeInt_feecc_16) ?_
  refine ga1 (M := mJ7_copyOfRangeInt_feecc) (pc' := 19) (k' := 0) (n' := 0) (r_iconst (M := mJ7_copyOfRangeInt_feecc) (v := 0) (by decide) dJ7_copyOfRangeInt_feecc_18) ?_
  refine ga1 (M := mJ7_copyOfRangeInt_feecc) (pc' := 20) (k' := 0) (n' := 0) (r_aload_n (M := mJ7_copyOfRangeInt_feecc) (i := 0) rfl dJ7_copyOfRangeInt_feecc_19) ?_
  refine ga_tk (fun h9 => ?_)
  refine ga1 (M := mJ7_copyOfRangeInt_feecc) (pc' := 21) (k' := 0) (n' := 0) (r_alen (M := mJ7_copyOfRangeInt_feecc) h9 (by decide) (by decide) dJ7_copyOfRangeInt_feecc_20) ?_
  refine ga1 (M := mJ7_copyOfRangeInt_feecc) (pc' := 22) (k' := 0) (n' := 0) (r_iload_n (M := mJ7_copyOfRangeInt_feecc) (i := 1) rfl dJ7_copyOfRangeInt_feecc_21) ?_
  refine ga1 (M := mJ7_copyOfRangeInt_feecc) (pc' := 23) (k' := 0) (n' := 0) (r_isub (M := mJ7_copyOfRangeInt_feecc) dJ7_copyOfRangeInt_feecc_22) ?_
  refine ga1 (M := mJ7_copyOfRangeInt_feecc) (pc' := 24) (k' := 0) (n' := 0) (r_iload_n (M := mJ7_copyOfRangeInt_feecc) (i := 3) rfl dJ7_copyOfRangeInt_feecc_23) ?_
  refine ga_fk (fun hf11 => ?_)
  refine ga_S (M := mJ7_copyOfRangeInt_feecc) (As := [.int ((nI (S7.2.2.1 a0)) - a1), .int (a2 - a1)]) (st := [.int 0, .ref b6, .int a1, .ref a0]) (mc := 0) (ms := 0) (k' := 0) (n' := 0) ln_java_util_Arrays_304 lb_J9_min_7cf53 (CT.CA (t_J9_min_7cf53 (N := N) (by omega) )) (by omega) (Nat.le_of_ble_eq_true rfl) rfl dJ7_copyOfRangeInt_feecc_24 hf11 rfl rfl (fun r10 => ?_)
  show GA mJ7_copyOfRangeInt_feecc d _ _ _ 27 [some (.ref a0), some (.int a1), some (.int a2), some (.int (a2 - a1)), some (.ref b6)] [.int r10, .int 0, .ref b6, .int a1, .ref a0] S7 x8 0 0 _
  refine ga_tk (fun h12 => ?_)
  refine ga_tk (fun h13 => ?_)
  refine ga_cpk (fun hy14 => ?_)
  refine ga1 (M := mJ7_copyOfRangeInt_feecc) (pc' := 30) (k' := 0) (n' := 0) (r_copy (M := mJ7_copyOfRangeInt_feecc) (tb4 28 (by decide +kernel) rfl) h12 h13 hy14 (Nat.le_of_ble_eq_true rfl) (by omega) dJ7_copyOfRangeInt_feecc_27) ?_
  refine ga_blx (fun x15 => ?_)
  refine ga1 (M := mJ7_copyOfRangeInt_feecc) (pc' := 32) (k' := 0) (n' := 0) (r_aload (M := mJ7_copyOfRangeInt_feecc) (i := 4) rfl dJ7_copyOfRangeInt_feecc_30) ?_
  exact ga_aret (M := mJ7_copyOfRangeInt_feecc) rfl (Or.inr ⟨_, rfl⟩) rfl dJ7_copyOfRangeInt_feecc_32
set_option maxRecDepth 100000 in
def fA_J7_copyOfRange_feecc (N : Nat) (S : SH) (a0 : Nat) (a1 : Int32) (a2 : Int32) (x : DY) : Option (Nat × SH × DY) :=
  (if a1 = 0 then tk S a0 14 ((if a2 = (nI (S.2.2.1 a0)) then none else fk S [some (.ref a0), some (.int a1), some (.int a2)] [] (Option.bind (fA_J7_copyOfRangeInt_feecc N S a0 a1 a2 x) (fun r6 => some (r6.1, r6.2.1, r6.2.2))))) else fk S [some (.ref a0), some (.int a1), some (.int a2)] [] (Option.bind (fA_J7_copyOfRangeInt_feecc N S a0 a1 a2 x) (fun r2 => some (r2.1, r2.2.1, r2.2.2))))
set_option maxHeartbeats 20000000 in
set_option maxRecDepth 100000 in
theorem tA_J7_copyOfRange_feecc {N d : Nat} {S : SH} {x : DY} {a0 : Nat} {a1 : Int32} {a2 : Int32} (hd : 3 ≤ d) : CA mJ7_copyOfRange_feecc d S [.ref a0, .int a1, .int a2] x 1 160 wAR (fA_J7_copyOfRange_feecc N S a0 a1 a2 x) := by
  refine CA.of [some (.ref a0), some (.int a1), some (.int a2)] rfl (Nat.le_of_ble_eq_true rfl) (by decide +kernel) ?_
  unfold fA_J7_copyOfRange_feecc
  refine ga1 (M := mJ7_copyOfRange_feecc) (pc' := 1) (k' := 1) (n' := 160) (r_iload_n (M := mJ7_copyOfRange_feecc) (i := 1) rfl dJ7_copyOfRange_feecc_0) ?_
  refine ga_br (M := mJ7_copyOfRange_feecc) (pt := 4) (pf := 10) (fun kt kf => r_if_ne (M := mJ7_copyOfRange_feecc) dJ7_copyOfRange_feecc_1 (by decide) kf kt) (fun hc1 => ?_) (fun hc1 => ?_)
  · refine ga1 (M := mJ7_copyOfRange_feecc) (pc' := 5) (k' := 1) (n' := 160) (r_iload_n (M := mJ7_copyOfRange_feecc) (i := 2) rfl dJ7_copyOfRange_feecc_4) ?_
    refine ga1 (M := mJ7_copyOfRange_feecc) (pc' := 6) (k' := 1) (n' := 160) (r_aload_n (M := mJ7_copyOfRange_feecc) (i := 0) rfl dJ7_copyOfRange_feecc_5) ?_
    refine ga_tk (fun h4 => ?_)
    refine ga1 (M := mJ7_copyOfRange_feecc) (pc' := 7) (k' := 1) (n' := 160) (r_alen (M := mJ7_copyOfRange_feecc) h4 (by decide) (by decide) dJ7_copyOfRange_feecc_6) ?_
    refine ga_br (M := mJ7_copyOfRange_feecc) (pt := 17) (pf := 10) (fun kt kf => r_icmp_eq (M := mJ7_copyOfRange_feecc) dJ7_copyOfRange_feecc_7 (by decide) kt kf) (fun hc5 => ?_) (fun hc5 => ?_)
    · refine ga1 (M := mJ7_copyOfRange_feecc) (fun kk => MW.room (k2 := 0) (n2 := 0) (by decide) (by decide) kk) ?_
      refine ga1 (M := mJ7_copyOfRange_feecc) (pc' := 18) (k' := 0) (n' := 0) (r_aload_n (M := mJ7_copyOfRange_feecc) (i := 0) rfl dJ7_copyOfRange_feecc_17) ?_
      exact ga_none
    · refine ga1 (M := mJ7_copyOfRange_feecc) (pc' := 11) (k' := 1) (n' := 160) (r_aload_n (M := mJ7_copyOfRange_feecc) (i := 0) rfl dJ7_copyOfRange_feecc_10) ?_
      refine ga1 (M := mJ7_copyOfRange_feecc) (pc' := 12) (k' := 1) (n' := 160) (r_iload_n (M := mJ7_copyOfRange_feecc) (i := 1) rfl dJ7_copyOfRange_feecc_11) ?_
      refine ga1 (M := mJ7_copyOfRange_feecc) (pc' := 13) (k' := 1) (n' := 160) (r_iload_n (M := mJ7_copyOfRange_feecc) (i := 2) rfl dJ7_copyOfRange_feecc_12) ?_
      refine ga_fk (fun hf7 => ?_)
      refine ga_S (M := mJ7_copyOfRange_feecc) (As := [.ref a0, .int a1, .int a2]) (st := []) (mc := 1) (ms := 160) (k' := 0) (n' := 0) ln_java_util_Arrays_351 lb_J7_copyOfRangeInt_feecc (tA_J7_copyOfRangeInt_feecc (N := N) (by omega)) (by omega) (Nat.le_of_ble_eq_true rfl) rfl dJ7_copyOfRange_feecc_13 hf7 rfl rfl (fun r6 => ?_)
      show GA mJ7_copyOfRange_feecc d _ _ _ 16 [some (.ref a0), some (.int a1), some (.int a2)] [.ref r6.1] r6.2.1 r6.2.2 0 0 _
      exact ga_aret (M := mJ7_copyOfRange_feecc) rfl (Or.inr ⟨_, rfl⟩) rfl dJ7_copyOfRange_feecc_16
  · refine ga1 (M := mJ7_copyOfRange_feecc) (pc' := 11) (k' := 1) (n' := 160) (r_aload_n (M := mJ7_copyOfRange_feecc) (i := 0) rfl dJ7_copyOfRange_feecc_10) ?_
    refine ga1 (M := mJ7_copyOfRange_feecc) (pc' := 12) (k' := 1) (n' := 160) (r_iload_n (M := mJ7_copyOfRange_feecc) (i := 1) rfl dJ7_copyOfRange_feecc_11) ?_
    refine ga1 (M := mJ7_copyOfRange_feecc) (pc' := 13) (k' := 1) (n' := 160) (r_iload_n (M := mJ7_copyOfRange_feecc) (i := 2) rfl dJ7_copyOfRange_feecc_12) ?_
    refine ga_fk (fun hf3 => ?_)
    refine ga_S (M := mJ7_copyOfRange_feecc) (As := [.ref a0, .int a1, .int a2]) (st := []) (mc := 1) (ms := 160) (k' := 0) (n' := 0) ln_java_util_Arrays_351 lb_J7_copyOfRangeInt_feecc (tA_J7_copyOfRangeInt_feecc (N := N) (by omega)) (by omega) (Nat.le_of_ble_eq_true rfl) rfl dJ7_copyOfRange_feecc_13 hf3 rfl rfl (fun r2 => ?_)
    show GA mJ7_copyOfRange_feecc d _ _ _ 16 [some (.ref a0), some (.int a1), some (.int a2)] [.ref r2.1] r2.2.1 r2.2.2 0 0 _
    exact ga_aret (M := mJ7_copyOfRange_feecc) rfl (Or.inr ⟨_, rfl⟩) rfl dJ7_copyOfRange_feecc_16
set_option maxRecDepth 100000 in
def fA_X10_init (N : Nat) (S : SH) (a0 : Nat) (a1 : Nat) (a2 : Nat) (x : DY) : Option (SH × DY) :=
  tk S a0 10 (lk S a1 (bl (UP S a0 0 (some a1)) (fun S3 => bl x (fun x4 => tk S3 a0 10 (lk S3 a2 (bl (UP S3 a0 1 (some a2)) (fun S7 => bl x4 (fun x8 => tkX S7 a1 (tkX S7 a2 (fk S7 [some (.ref a0), some (.ref a1), some (.ref a2)] [.ref a0] (Option.bind (f_J9_max_7cf53 N S7 (nI (S7.2.2.1 a1)) (nI (S7.2.2.1 a2)) x8) (fun r11 => fk S7 [some (.ref a0), some (.ref a1), some (.ref a2)] [.ref a0] (nk r11 160 (bl S7.1 (fun b16 => bl (SN S7 14 r11.toNatClampNeg) (fun S17 => bl (XN x8 S7.1) (fun x18 => tk S17 a0 10 (lk S17 b16 (bl (UP S17 a0 2 (some b16)) (fun S21 => bl x18 (fun x22 => some (S21, x22))))))))))))))))))))))
set_option maxHeartbeats 20000000 in
set_option maxRecDepth 100000 in
theorem tA_X10_init {N d : Nat} {S : SH} {x : DY} {a0 : Nat} {a1 : Nat} {a2 : Nat} (hd : 2 ≤ d) : CA mX10_init d S [.ref a0, .ref a1, .ref a2] x 1 160 wAV (fA_X10_init N S a0 a1 a2 x) := by
  refine CA.of [some (.ref a0), some (.ref a1), some (.ref a2)] rfl (Nat.le_of_ble_eq_true rfl) (by decide +kernel) ?_
  unfold fA_X10_init
  refine ga1 (M := mX10_init) (pc' := 1) (k' := 1) (n' := 160) (r_aload_n (M := mX10_init) (i := 0) rfl dX10_init_0) ?_
  refine ga1 (M := mX10_init) (pc' := 4) (k' := 1) (n' := 160) (r_objInit (M := mX10_init) (tb1 74 (by decide +kernel) rfl) (by omega) (Nat.le_of_ble_eq_true rfl) dX10_init_1) ?_
  refine ga1 (M := mX10_init) (pc' := 5) (k' := 1) (n' := 160) (r_aload_n (M := mX10_init) (i := 0) rfl dX10_init_4) ?_
  refine ga1 (M := mX10_init) (pc' := 6) (k' := 1) (n' := 160) (r_aload_n (M := mX10_init) (i := 1) rfl dX10_init_5) ?_
  refine ga_tk (fun h1 => ?_)
  refine ga_lk (fun hl2 => ?_)
  refine ga1 (M := mX10_init) (pc' := 9) (k' := 1) (n' := 160) (r_putR (M := mX10_init) fl_10_7 h1 (Or.inr ⟨rfl, rfl, rfl⟩) rfl hl2 dX10_init_6) ?_
  refine ga_blS (fun S3 x4 => ?_)
  refine ga1 (M := mX10_init) (pc' := 10) (k' := 1) (n' := 160) (r_aload_n (M := mX10_init) (i := 0) rfl dX10_init_9) ?_
  refine ga1 (M := mX10_init) (pc' := 11) (k' := 1) (n' := 160) (r_aload_n (M := mX10_init) (i := 2) rfl dX10_init_10) ?_
  refine ga_tk (fun h5 => ?_)
  refine ga_lk (fun hl6 => ?_)
  refine ga1 (M := mX10_init) (pc' := 14) (k' := 1) (n' := 160) (r_putR (M := mX10_init) fl_10_13 h5 (Or.inr ⟨rfl, rfl, rfl⟩) rfl hl6 dX10_init_11) ?_
  refine ga_blS (fun S7 x8 => ?_)
  refine ga1 (M := mX10_init) (pc' := 15) (k' := 1) (n' := 160) (r_aload_n (M := mX10_init) (i := 0) rfl dX10_init_14) ?_
  refine ga1 (M := mX10_init) (pc' := 16) (k' := 1) (n' := 160) (r_aload_n (M := mX10_init) (i := 1) rfl dX10_init_15) ?_
  refine ga_tkX (fun h9 => ?_)
  refine ga1 (M := mX10_init) (pc' := 17) (k' := 1) (n' := 160) (r_alenX2 (M := mX10_init) h9 dX10_init_16) ?_
  refine ga1 (M := mX10_init) (pc' := 18) (k' := 1) (n' := 160) (r_aload_n (M := mX10_init) (i := 2) rfl dX10_init_17) ?_
  refine ga_tkX (fun h10 => ?_)
  refine ga1 (M := mX10_init) (pc' := 19) (k' := 1) (n' := 160) (r_alenX2 (M := mX10_init) h10 dX10_init_18) ?_
  refine ga_fk (fun hf12 => ?_)
  refine ga_S (M := mX10_init) (As := [.int (nI (S7.2.2.1 a1)), .int (nI (S7.2.2.1 a2))]) (st := [.ref a0]) (mc := 0) (ms := 0) (k' := 1) (n' := 160) ln_10_16 lb_J9_max_7cf53 (CT.CA (t_J9_max_7cf53 (N := N) (by omega) )) (by omega) (Nat.le_of_ble_eq_true rfl) rfl dX10_init_19 hf12 rfl rfl (fun r11 => ?_)
  show GA mX10_init d _ _ _ 22 [some (.ref a0), some (.ref a1), some (.ref a2)] [.int r11, .ref a0] S7 x8 1 160 _
  refine ga_fk (fun hf13 => ?_)
  refine ga_nk (fun hm14 hM15 => ?_)
  refine ga1 (M := mX10_init) (pc' := 24) (k' := 0) (n' := 0) (r_newarr14 (M := mX10_init) (B := 160) hm14 hM15 (by decide) hf13 dX10_init_22) ?_
  refine ga_blR (fun b16 S17 x18 => ?_)
  refine ga_tk (fun h19 => ?_)
  refine ga_lk (fun hl20 => ?_)
  refine ga1 (M := mX10_init) (pc' := 27) (k' := 0) (n' := 0) (r_putR (M := mX10_init) fl_10_22 h19 (Or.inr ⟨rfl, rfl, rfl⟩) rfl hl20 dX10_init_24) ?_
  refine ga_blS (fun S21 x22 => ?_)
  exact ga_vret (M := mX10_init) rfl rfl dX10_init_27
set_option maxRecDepth 100000 in
def fA_X5_copyOfText (N : Nat) (S : SH) (a0 : Nat) (x : DY) : Option (Nat × SH × DY) :=
  tk S a0 5 (tk S a0 5 (rfk (S.2.2.2 a0 7) (fun b3 => tk S b3 14 (fk S [some (.ref a0), none, none] [.int 0] (Option.bind (f_J9_min_7cf53 N S (x.1 a0 9) (nI (S.2.2.1 b3)) x) (fun r6 => fk S [some (.ref a0), none, none] [] (Option.bind (f_J9_max_7cf53 N S 0 r6 x) (fun r8 => tk S a0 5 (tk S a0 5 (rfk (S.2.2.2 a0 7) (fun b12 => tk S b12 14 (fk S [some (.ref a0), some (.int r8), none] [.int r8] (Option.bind (f_J9_min_7cf53 N S (x.1 a0 8) (nI (S.2.2.1 b12)) x) (fun r15 => fk S [some (.ref a0), some (.int r8), none] [] (Option.bind (f_J9_max_7cf53 N S r8 r15 x) (fun r17 => fk S [some (.ref a0), some (.int r8), some (.int r17)] [] (bl S.1 (fun b20 => bl (SN S 10 0) (fun S21 => bl (XN x S.1) (fun x22 => tk S21 a0 5 (rfk (S21.2.2.2 a0 7) (fun b24 => fk S21 [some (.ref a0), some (.int r8), some (.int r17)] [.ref b20, .ref b20] (Option.bind (fA_J7_copyOfRange_feecc N S21 b24 0 r8 x22) (fun r26 => tk r26.2.1 a0 5 (rfk (r26.2.1.2.2.2 a0 7) (fun b29 => fk r26.2.1 [some (.ref a0), some (.int r8), some (.int r17)] [.ref r26.1, .ref b20, .ref b20] (Option.bind (fA_J7_copyOfRange_feecc N r26.2.1 b29 r8 r17 r26.2.2) (fun r31 => fk r31.2.1 [some (.ref a0), some (.int r8), some (.int r17)] [.ref b20] (Option.bind (fA_X10_init N r31.2.1 b20 r26.1 r31.1 r31.2.2) (fun r33 => some (b20, r33.1, r33.2)))))))))))))))))))))))))))))))
set_option maxHeartbeats 20000000 in
set_option maxRecDepth 100000 in
theorem tA_X5_copyOfText {N d : Nat} {S : SH} {x : DY} {a0 : Nat} (hd : 4 ≤ d) : CA mX5_copyOfText d S [.ref a0] x 4 483 wAR (fA_X5_copyOfText N S a0 x) := by
  refine CA.of [some (.ref a0), none, none] rfl (Nat.le_of_ble_eq_true rfl) (by decide +kernel) ?_
  unfold fA_X5_copyOfText
  refine ga1 (M := mX5_copyOfText) (pc' := 1) (k' := 4) (n' := 483) (r_iconst (M := mX5_copyOfText) (v := 0) (by decide) dX5_copyOfText_0) ?_
  refine ga1 (M := mX5_copyOfText) (pc' := 2) (k' := 4) (n' := 483) (r_aload_n (M := mX5_copyOfText) (i := 0) rfl dX5_copyOfText_1) ?_
  refine ga_tk (fun h1 => ?_)
  refine ga1 (M := mX5_copyOfText) (pc' := 5) (k' := 4) (n' := 483) (r_getI (M := mX5_copyOfText) fl_5_40 h1 rfl dX5_copyOfText_2) ?_
  refine ga1 (M := mX5_copyOfText) (pc' := 6) (k' := 4) (n' := 483) (r_aload_n (M := mX5_copyOfText) (i := 0) rfl dX5_copyOfText_5) ?_
  refine ga_tk (fun h2 => ?_)
  refine ga_rfk (fun b3 hb4 => ?_)
  refine ga1 (M := mX5_copyOfText) (pc' := 9) (k' := 4) (n' := 483) (r_getR (M := mX5_copyOfText) fl_5_34 h2 rfl hb4 dX5_copyOfText_6) ?_
  refine ga_tk (fun h5 => ?_)
  refine ga1 (M := mX5_copyOfText) (pc' := 10) (k' := 4) (n' := 483) (r_alen (M := mX5_copyOfText) h5 (by decide) (by decide) dX5_copyOfText_9) ?_
  refine ga_fk (fun hf7 => ?_)
  refine ga_S (M := mX5_copyOfText) (As := [.int (x.1 a0 9), .int (nI (S.2.2.1 b3))]) (st := [.int 0]) (mc := 0) (ms := 0) (k' := 4) (n' := 483) ln_5_56 lb_J9_min_7cf53 (CT.CA (t_J9_min_7cf53 (N := N) (by omega) )) (by omega) (Nat.le_of_ble_eq_true rfl) rfl dX5_copyOfText_10 hf7 rfl rfl (fun r6 => ?_)
  show GA mX5_copyOfText d _ _ _ 13 [some (.ref a0), none, none] [.int r6, .int 0] S x 4 483 _
  refine ga_fk (fun hf9 => ?_)
  refine ga_S (M := mX5_copyOfText) (As := [.int 0, .int r6]) (st := []) (mc := 0) (ms := 0) (k' := 4) (n' := 483) ln_5_62 lb_J9_max_7cf53 (CT.CA (t_J9_max_7cf53 (N := N) (by omega) )) (by omega) (Nat.le_of_ble_eq_true rfl) rfl dX5_copyOfText_13 hf9 rfl rfl (fun r8 => ?_)
  show GA mX5_copyOfText d _ _ _ 16 [some (.ref a0), none, none] [.int r8] S x 4 483 _
  refine ga1 (M := mX5_copyOfText) (pc' := 17) (ls' := [some (.ref a0), some (.int r8), none]) (k' := 4) (n' := 483) (r_istore_n (M := mX5_copyOfText) (ls := [some (.ref a0), none, none]) (i := 1) (v := r8) (by decide) rfl dX5_copyOfText_16) ?_
  refine ga1 (M := mX5_copyOfText) (pc' := 18) (k' := 4) (n' := 483) (r_iload_n (M := mX5_copyOfText) (i := 1) rfl dX5_copyOfText_17) ?_
  refine ga1 (M := mX5_copyOfText) (pc' := 19) (k' := 4) (n' := 483) (r_aload_n (M := mX5_copyOfText) (i := 0) rfl dX5_copyOfText_18) ?_
  refine ga_tk (fun h10 => ?_)
  refine ga1 (M := mX5_copyOfText) (pc' := 22) (k' := 4) (n' := 483) (r_getI (M := mX5_copyOfText) fl_5_37 h10 rfl dX5_copyOfText_19) ?_
  refine ga1 (M := mX5_copyOfText) (pc' := 23) (k' := 4) (n' := 483) (r_aload_n (M := mX5_copyOfText) (i := 0) rfl dX5_copyOfText_22) ?_
  refine ga_tk (fun h11 => ?_)
  refine ga_rfk (fun b12 hb13 => ?_)
  refine ga1 (M := mX5_copyOfText) (pc' := 26) (k' := 4) (n' := 483) (r_getR (M := mX5_copyOfText) fl_5_34 h11 rfl hb13 dX5_copyOfText_23) ?_
  refine ga_tk (fun h14 => ?_)
  refine ga1 (M := mX5_copyOfText) (pc' := 27) (k' := 4) (n' := 483) (r_alen (M := mX5_copyOfText) h14 (by decide) (by decide) dX5_copyOfText_26) ?_
  refine ga_fk (fun hf16 => ?_)
  refine ga_S (M := mX5_copyOfText) (As := [.int (x.1 a0 8), .int (nI (S.2.2.1 b12))]) (st := [.int r8]) (mc := 0) (ms := 0) (k' := 4) (n' := 483) ln_5_56 lb_J9_min_7cf53 (CT.CA (t_J9_min_7cf53 (N := N) (by omega) )) (by omega) (Nat.le_of_ble_eq_true rfl) rfl dX5_copyOfText_27 hf16 rfl rfl (fun r15 => ?_)
  show GA mX5_copyOfText d _ _ _ 30 [some (.ref a0), some (.int r8), none] [.int r15, .int r8] S x 4 483 _
  refine ga_fk (fun hf18 => ?_)
  refine ga_S (M := mX5_copyOfText) (As := [.int r8, .int r15]) (st := []) (mc := 0) (ms := 0) (k' := 4) (n' := 483) ln_5_62 lb_J9_max_7cf53 (CT.CA (t_J9_max_7cf53 (N := N) (by omega) )) (by omega) (Nat.le_of_ble_eq_true rfl) rfl dX5_copyOfText_30 hf18 rfl rfl (fun r17 => ?_)
  show GA mX5_copyOfText d _ _ _ 33 [some (.ref a0), some (.int r8), none] [.int r17] S x 4 483 _
  refine ga1 (M := mX5_copyOfText) (pc' := 34) (ls' := [some (.ref a0), some (.int r8), some (.int r17)]) (k' := 4) (n' := 483) (r_istore_n (M := mX5_copyOfText) (ls := [some (.ref a0), some (.int r8), none]) (i := 2) (v := r17) (by decide) rfl dX5_copyOfText_33) ?_
  refine ga_fk (fun hf19 => ?_)
  refine ga1 (M := mX5_copyOfText) (pc' := 37) (k' := 3) (n' := 480) (r_new (M := mX5_copyOfText) (c := 10) (by decide) (tb4 17 (by decide +kernel) rfl) (tb1 66 (by decide +kernel) rfl) (tb1 4 (by decide +kernel) rfl) hf19 dX5_copyOfText_34) ?_
  refine ga_blR (fun b20 S21 x22 => ?_)
  refine ga1 (M := mX5_copyOfText) (pc' := 38) (k' := 3) (n' := 480) (r_dup (M := mX5_copyOfText) rfl dX5_copyOfText_37) ?_
  refine ga1 (M := mX5_copyOfText) (pc' := 39) (k' := 3) (n' := 480) (r_aload_n (M := mX5_copyOfText) (i := 0) rfl dX5_copyOfText_38) ?_
  refine ga_tk (fun h23 => ?_)
  refine ga_rfk (fun b24 hb25 => ?_)
  refine ga1 (M := mX5_copyOfText) (pc' := 42) (k' := 3) (n' := 480) (r_getR (M := mX5_copyOfText) fl_5_34 h23 rfl hb25 dX5_copyOfText_39) ?_
  refine ga1 (M := mX5_copyOfText) (pc' := 43) (k' := 3) (n' := 480) (r_iconst (M := mX5_copyOfText) (v := 0) (by decide) dX5_copyOfText_42) ?_
  refine ga1 (M := mX5_copyOfText) (pc' := 44) (k' := 3) (n' := 480) (r_iload_n (M := mX5_copyOfText) (i := 1) rfl dX5_copyOfText_43) ?_
  refine ga_fk (fun hf27 => ?_)
  refine ga_S (M := mX5_copyOfText) (As := [.ref b24, .int 0, .int r8]) (st := [.ref b20, .ref b20]) (mc := 1) (ms := 160) (k' := 2) (n' := 320) ln_5_67 lb_J7_copyOfRange_feecc (tA_J7_copyOfRange_feecc (N := N) (by omega)) (by omega) (Nat.le_of_ble_eq_true rfl) rfl dX5_copyOfText_44 hf27 rfl rfl (fun r26 => ?_)
  show GA mX5_copyOfText d _ _ _ 47 [some (.ref a0), some (.int r8), some (.int r17)] [.ref r26.1, .ref b20, .ref b20] r26.2.1 r26.2.2 2 320 _
  refine ga1 (M := mX5_copyOfText) (pc' := 48) (k' := 2) (n' := 320) (r_aload_n (M := mX5_copyOfText) (i := 0) rfl dX5_copyOfText_47) ?_
  refine ga_tk (fun h28 => ?_)
  refine ga_rfk (fun b29 hb30 => ?_)
  refine ga1 (M := mX5_copyOfText) (pc' := 51) (k' := 2) (n' := 320) (r_getR (M := mX5_copyOfText) fl_5_34 h28 rfl hb30 dX5_copyOfText_48) ?_
  refine ga1 (M := mX5_copyOfText) (pc' := 52) (k' := 2) (n' := 320) (r_iload_n (M := mX5_copyOfText) (i := 1) rfl dX5_copyOfText_51) ?_
  refine ga1 (M := mX5_copyOfText) (pc' := 53) (k' := 2) (n' := 320) (r_iload_n (M := mX5_copyOfText) (i := 2) rfl dX5_copyOfText_52) ?_
  refine ga_fk (fun hf32 => ?_)
  refine ga_S (M := mX5_copyOfText) (As := [.ref b29, .int r8, .int r17]) (st := [.ref r26.1, .ref b20, .ref b20]) (mc := 1) (ms := 160) (k' := 1) (n' := 160) ln_5_67 lb_J7_copyOfRange_feecc (tA_J7_copyOfRange_feecc (N := N) (by omega)) (by omega) (Nat.le_of_ble_eq_true rfl) rfl dX5_copyOfText_53 hf32 rfl rfl (fun r31 => ?_)
  show GA mX5_copyOfText d _ _ _ 56 [some (.ref a0), some (.int r8), some (.int r17)] [.ref r31.1, .ref r26.1, .ref b20, .ref b20] r31.2.1 r31.2.2 1 160 _
  refine ga_fk (fun hf34 => ?_)
  refine ga_I (M := mX5_copyOfText) (As := [.ref r26.1, .ref r31.1]) (st := [.ref b20]) (mc := 1) (ms := 160) (k' := 0) (n' := 0) ln_5_73 rfl lb_X10_init (tA_X10_init (N := N) (by omega)) (by omega) (Nat.le_of_ble_eq_true rfl) rfl dX5_copyOfText_56 hf34 rfl rfl (fun r33 => ?_)
  show GA mX5_copyOfText d _ _ _ 59 [some (.ref a0), some (.int r8), some (.int r17)] [.ref b20] r33.1 r33.2 0 0 _
  exact ga_aret (M := mX5_copyOfText) rfl (Or.inl ⟨_, rfl⟩) rfl dX5_copyOfText_59
set_option maxRecDepth 100000 in
def fA_X7_add (N : Nat) (S : SH) (a0 : Nat) (a1 : Nat) (x : DY) : Option (Int32 × SH × DY) :=
  fk S [some (.ref a0), some (.ref a1)] [] (tk S a0 7 (Option.bind (fA_X7_areFull N S a0 x) (fun r1 => (if r1.1 = 0 then tk r1.2.1 a0 7 (rfk (r1.2.1.2.2.2 a0 0) (fun b6 => tk r1.2.1 a0 7 (tk r1.2.1 b6 17 (tk r1.2.1 a1 10 (ck r1.2.1 b6 (r1.2.2.1 a0 2) (bl (UP r1.2.1 b6 (r1.2.2.1 a0 2).toNatClampNeg (some a1)) (fun S12 => bl r1.2.2 (fun x13 => tk S12 a0 7 (tk S12 a0 7 (bl (U1 x13 a0 2 ((x13.1 a0 2) + 1)) (fun x16 => tk S12 a0 7 (some (((x16.1 a0 2) - 1), S12, x16))))))))))))) else some ((-4), r1.2.1, r1.2.2)))))
set_option maxHeartbeats 20000000 in
set_option maxRecDepth 100000 in
theorem tA_X7_add {N d : Nat} {S : SH} {x : DY} {a0 : Nat} {a1 : Nat} (hd : 2 ≤ d) : CA mX7_add d S [.ref a0, .ref a1] x 0 0 wAI (fA_X7_add N S a0 a1 x) := by
  refine CA.of [some (.ref a0), some (.ref a1)] rfl (Nat.le_of_ble_eq_true rfl) (by decide +kernel) ?_
  unfold fA_X7_add
  refine ga1 (M := mX7_add) (pc' := 1) (k' := 0) (n' := 0) (r_aload_n (M := mX7_add) (i := 0) rfl dX7_add_0) ?_
  refine ga_fk (fun hf2 => ?_)
  refine ga_tk (fun h3 => ?_)
  refine ga_V (M := mX7_add) (As := []) (st := []) (mc := 0) (ms := 0) (k' := 0) (n' := 0) ln_7_38 lb_X7_areFull (tA_X7_areFull (N := N) (by omega)) (by omega) h3 (Nat.le_of_ble_eq_true rfl) rfl dX7_add_1 hf2 rfl rfl (fun r1 => ?_)
  show GA mX7_add d _ _ _ 4 [some (.ref a0), some (.ref a1)] [.int r1.1] r1.2.1 r1.2.2 0 0 _
  refine ga_br (M := mX7_add) (pt := 10) (pf := 7) (fun kt kf => r_if_eq (M := mX7_add) dX7_add_4 (by decide) kt kf) (fun hc4 => ?_) (fun hc4 => ?_)
  · refine ga1 (M := mX7_add) (pc' := 11) (k' := 0) (n' := 0) (r_aload_n (M := mX7_add) (i := 0) rfl dX7_add_10) ?_
    refine ga_tk (fun h5 => ?_)
    refine ga_rfk (fun b6 hb7 => ?_)
    refine ga1 (M := mX7_add) (pc' := 14) (k' := 0) (n' := 0) (r_getR (M := mX7_add) fl_7_11 h5 rfl hb7 dX7_add_11) ?_
    refine ga1 (M := mX7_add) (pc' := 15) (k' := 0) (n' := 0) (r_aload_n (M := mX7_add) (i := 0) rfl dX7_add_14) ?_
    refine ga_tk (fun h8 => ?_)
    refine ga1 (M := mX7_add) (pc' := 18) (k' := 0) (n' := 0) (r_getI (M := mX7_add) fl_7_31 h8 rfl dX7_add_15) ?_
    refine ga1 (M := mX7_add) (pc' := 19) (k' := 0) (n' := 0) (r_aload_n (M := mX7_add) (i := 1) rfl dX7_add_18) ?_
    refine ga_tk (fun h9 => ?_)
    refine ga_tk (fun h10 => ?_)
    refine ga_ck (fun hi11 => ?_)
    refine ga1 (M := mX7_add) (pc' := 20) (k' := 0) (n' := 0) (r_aast (M := mX7_add) h9 (by decide) h10 hi11 dX7_add_19) ?_
    refine ga_blS (fun S12 x13 => ?_)
    refine ga1 (M := mX7_add) (pc' := 21) (k' := 0) (n' := 0) (r_aload_n (M := mX7_add) (i := 0) rfl dX7_add_20) ?_
    refine ga1 (M := mX7_add) (pc' := 22) (k' := 0) (n' := 0) (r_dup (M := mX7_add) rfl dX7_add_21) ?_
    refine ga_tk (fun h14 => ?_)
    refine ga1 (M := mX7_add) (pc' := 25) (k' := 0) (n' := 0) (r_getI (M := mX7_add) fl_7_31 h14 rfl dX7_add_22) ?_
    refine ga1 (M := mX7_add) (pc' := 26) (k' := 0) (n' := 0) (r_iconst (M := mX7_add) (v := 1) (by decide) dX7_add_25) ?_
    refine ga1 (M := mX7_add) (pc' := 27) (k' := 0) (n' := 0) (r_iadd (M := mX7_add) dX7_add_26) ?_
    refine ga_tk (fun h15 => ?_)
    refine ga1 (M := mX7_add) (pc' := 30) (k' := 0) (n' := 0) (r_putI9 (M := mX7_add) fl_7_31 h15 (Or.inl rfl) rfl dX7_add_27) ?_
    refine ga_blx (fun x16 => ?_)
    refine ga1 (M := mX7_add) (pc' := 31) (k' := 0) (n' := 0) (r_aload_n (M := mX7_add) (i := 0) rfl dX7_add_30) ?_
    refine ga_tk (fun h17 => ?_)
    refine ga1 (M := mX7_add) (pc' := 34) (k' := 0) (n' := 0) (r_getI (M := mX7_add) fl_7_31 h17 rfl dX7_add_31) ?_
    refine ga1 (M := mX7_add) (pc' := 35) (k' := 0) (n' := 0) (r_iconst (M := mX7_add) (v := 1) (by decide) dX7_add_34) ?_
    refine ga1 (M := mX7_add) (pc' := 36) (k' := 0) (n' := 0) (r_isub (M := mX7_add) dX7_add_35) ?_
    exact ga_iret (M := mX7_add) rfl rfl dX7_add_36
  · refine ga1 (M := mX7_add) (pc' := 9) (k' := 0) (n' := 0) (r_bipush (M := mX7_add) (v := (-4)) (by decide) dX7_add_7) ?_
    exact ga_iret (M := mX7_add) rfl rfl dX7_add_9
set_option maxRecDepth 100000 in
def fA_X7_choose (N : Nat) (S : SH) (a0 : Nat) (a1 : Int32) (x : DY) : Option (Int32 × SH × DY) :=
  (if a1 < 0 then some ((-2), S, x) else tk S a0 7 ((if (x.1 a0 2) ≤ a1 then some ((-2), S, x) else tk S a0 7 (rfk (S.2.2.2 a0 0) (fun b5 => tk S b5 17 ((if a1 < (nI (S.2.2.1 b5)) then tk S a0 7 (rfk (S.2.2.2 a0 0) (fun b10 => tk S b10 17 (ck S b10 a1 (rfk (S.2.2.2 b10 a1.toNatClampNeg) (fun b13 => tk S a0 7 (tk S a0 7 (bl (U1 x a0 3 a1) (fun x17 => tk S a0 7 (lk S b13 (bl (UP S a0 1 (some b13)) (fun S20 => bl x17 (fun x21 => some ((x.1 a0 3), S20, x21))))))))))))) else some ((-2), S, x))))))))
set_option maxHeartbeats 20000000 in
set_option maxRecDepth 100000 in
theorem tA_X7_choose {N d : Nat} {S : SH} {x : DY} {a0 : Nat} {a1 : Int32} (hd : 1 ≤ d) : CA mX7_choose d S [.ref a0, .int a1] x 0 0 wAI (fA_X7_choose N S a0 a1 x) := by
  refine CA.of [some (.ref a0), some (.int a1), none, none] rfl (Nat.le_of_ble_eq_true rfl) (by decide +kernel) ?_
  unfold fA_X7_choose
  refine ga1 (M := mX7_choose) (pc' := 1) (k' := 0) (n' := 0) (r_iload_n (M := mX7_choose) (i := 1) rfl dX7_choose_0) ?_
  refine ga_br (M := mX7_choose) (pt := 21) (pf := 4) (fun kt kf => r_if_lt (M := mX7_choose) dX7_choose_1 (by decide) kt kf) (fun hc1 => ?_) (fun hc1 => ?_)
  · refine ga1 (M := mX7_choose) (pc' := 23) (k' := 0) (n' := 0) (r_bipush (M := mX7_choose) (v := (-2)) (by decide) dX7_choose_21) ?_
    exact ga_iret (M := mX7_choose) rfl rfl dX7_choose_23
  · refine ga1 (M := mX7_choose) (pc' := 5) (k' := 0) (n' := 0) (r_iload_n (M := mX7_choose) (i := 1) rfl dX7_choose_4) ?_
    refine ga1 (M := mX7_choose) (pc' := 6) (k' := 0) (n' := 0) (r_aload_n (M := mX7_choose) (i := 0) rfl dX7_choose_5) ?_
    refine ga_tk (fun h2 => ?_)
    refine ga1 (M := mX7_choose) (pc' := 9) (k' := 0) (n' := 0) (r_getI (M := mX7_choose) fl_7_31 h2 rfl dX7_choose_6) ?_
    refine ga_br (M := mX7_choose) (pt := 21) (pf := 12) (fun kt kf => r_icmp_ge (M := mX7_choose) dX7_choose_9 (by decide) kt kf) (fun hc3 => ?_) (fun hc3 => ?_)
    · refine ga1 (M := mX7_choose) (pc' := 23) (k' := 0) (n' := 0) (r_bipush (M := mX7_choose) (v := (-2)) (by decide) dX7_choose_21) ?_
      exact ga_iret (M := mX7_choose) rfl rfl dX7_choose_23
    · refine ga1 (M := mX7_choose) (pc' := 13) (k' := 0) (n' := 0) (r_iload_n (M := mX7_choose) (i := 1) rfl dX7_choose_12) ?_
      refine ga1 (M := mX7_choose) (pc' := 14) (k' := 0) (n' := 0) (r_aload_n (M := mX7_choose) (i := 0) rfl dX7_choose_13) ?_
      refine ga_tk (fun h4 => ?_)
      refine ga_rfk (fun b5 hb6 => ?_)
      refine ga1 (M := mX7_choose) (pc' := 17) (k' := 0) (n' := 0) (r_getR (M := mX7_choose) fl_7_11 h4 rfl hb6 dX7_choose_14) ?_
      refine ga_tk (fun h7 => ?_)
      refine ga1 (M := mX7_choose) (pc' := 18) (k' := 0) (n' := 0) (r_alen (M := mX7_choose) h7 (by decide) (by decide) dX7_choose_17) ?_
      refine ga_br (M := mX7_choose) (pt := 24) (pf := 21) (fun kt kf => r_icmp_lt (M := mX7_choose) dX7_choose_18 (by decide) kt kf) (fun hc8 => ?_) (fun hc8 => ?_)
      · refine ga1 (M := mX7_choose) (pc' := 25) (k' := 0) (n' := 0) (r_aload_n (M := mX7_choose) (i := 0) rfl dX7_choose_24) ?_
        refine ga_tk (fun h9 => ?_)
        refine ga_rfk (fun b10 hb11 => ?_)
        refine ga1 (M := mX7_choose) (pc' := 28) (k' := 0) (n' := 0) (r_getR (M := mX7_choose) fl_7_11 h9 rfl hb11 dX7_choose_25) ?_
        refine ga1 (M := mX7_choose) (pc' := 29) (k' := 0) (n' := 0) (r_iload_n (M := mX7_choose) (i := 1) rfl dX7_choose_28) ?_
        refine ga_tk (fun h12 => ?_)
        refine ga_aald (M := mX7_choose) (pc' := 30) rfl h12 (by decide) dX7_choose_29 (fun b13 hb14 => ?_)
        refine ga1 (M := mX7_choose) (pc' := 31) (ls' := [some (.ref a0), some (.int a1), some (.ref b13), none]) (k' := 0) (n' := 0) (r_astore_n (M := mX7_choose) (ls := [some (.ref a0), some (.int a1), none, none]) (i := 2) (v := b13) (by decide) rfl dX7_choose_30) ?_
        refine ga1 (M := mX7_choose) (pc' := 32) (k' := 0) (n' := 0) (r_aload_n (M := mX7_choose) (i := 2) rfl dX7_choose_31) ?_
        refine ga1 (M := mX7_choose) (pc' := 38) (k' := 0) (n' := 0) (r_nonnull (M := mX7_choose) dX7_choose_32 (by decide)) ?_
        refine ga1 (M := mX7_choose) (pc' := 39) (k' := 0) (n' := 0) (r_aload_n (M := mX7_choose) (i := 0) rfl dX7_choose_38) ?_
        refine ga_tk (fun h15 => ?_)
        refine ga1 (M := mX7_choose) (pc' := 42) (k' := 0) (n' := 0) (r_getI (M := mX7_choose) fl_7_35 h15 rfl dX7_choose_39) ?_
        refine ga1 (M := mX7_choose) (pc' := 43) (ls' := [some (.ref a0), some (.int a1), some (.ref b13), some (.int (x.1 a0 3))]) (k' := 0) (n' := 0) (r_istore_n (M := mX7_choose) (ls := [some (.ref a0), some (.int a1), some (.ref b13), none]) (i := 3) (v := (x.1 a0 3)) (by decide) rfl dX7_choose_42) ?_
        refine ga1 (M := mX7_choose) (pc' := 44) (k' := 0) (n' := 0) (r_aload_n (M := mX7_choose) (i := 0) rfl dX7_choose_43) ?_
        refine ga1 (M := mX7_choose) (pc' := 45) (k' := 0) (n' := 0) (r_iload_n (M := mX7_choose) (i := 1) rfl dX7_choose_44) ?_
        refine ga_tk (fun h16 => ?_)
        refine ga1 (M := mX7_choose) (pc' := 48) (k' := 0) (n' := 0) (r_putI9 (M := mX7_choose) fl_7_35 h16 (Or.inl rfl) rfl dX7_choose_45) ?_
        refine ga_blx (fun x17 => ?_)
        refine ga1 (M := mX7_choose) (pc' := 49) (k' := 0) (n' := 0) (r_aload_n (M := mX7_choose) (i := 0) rfl dX7_choose_48) ?_
        refine ga1 (M := mX7_choose) (pc' := 50) (k' := 0) (n' := 0) (r_aload_n (M := mX7_choose) (i := 2) rfl dX7_choose_49) ?_
        refine ga_tk (fun h18 => ?_)
        refine ga_lk (fun hl19 => ?_)
        refine ga1 (M := mX7_choose) (pc' := 53) (k' := 0) (n' := 0) (r_putR (M := mX7_choose) fl_7_27 h18 (Or.inl rfl) rfl hl19 dX7_choose_50) ?_
        refine ga_blS (fun S20 x21 => ?_)
        refine ga1 (M := mX7_choose) (pc' := 54) (k' := 0) (n' := 0) (r_iload_n (M := mX7_choose) (i := 3) rfl dX7_choose_53) ?_
        exact ga_iret (M := mX7_choose) rfl rfl dX7_choose_54
      · refine ga1 (M := mX7_choose) (pc' := 23) (k' := 0) (n' := 0) (r_bipush (M := mX7_choose) (v := (-2)) (by decide) dX7_choose_21) ?_
        exact ga_iret (M := mX7_choose) rfl rfl dX7_choose_23
set_option maxRecDepth 100000 in
def fA_X11_force (N : Nat) (S : SH) (a0 : Nat) (a1 : Int32) (x : DY) : Option (Int32 × SH × DY) :=
  tk S a0 11 (rfk (S.2.2.2 a0 1) (fun b2 => fk S [some (.ref a0), some (.int a1)] [] (tk S b2 7 (Option.bind (fA_X7_choose N S b2 a1 x) (fun r4 => some (r4.1, r4.2.1, r4.2.2))))))
set_option maxHeartbeats 20000000 in
set_option maxRecDepth 100000 in
theorem tA_X11_force {N d : Nat} {S : SH} {x : DY} {a0 : Nat} {a1 : Int32} (hd : 2 ≤ d) : CA mX11_force d S [.ref a0, .int a1] x 0 0 wAI (fA_X11_force N S a0 a1 x) := by
  refine CA.of [some (.ref a0), some (.int a1)] rfl (Nat.le_of_ble_eq_true rfl) (by decide +kernel) ?_
  unfold fA_X11_force
  refine ga1 (M := mX11_force) (pc' := 1) (k' := 0) (n' := 0) (r_aload_n (M := mX11_force) (i := 0) rfl dX11_force_0) ?_
  refine ga_tk (fun h1 => ?_)
  refine ga_rfk (fun b2 hb3 => ?_)
  refine ga1 (M := mX11_force) (pc' := 4) (k' := 0) (n' := 0) (r_getR (M := mX11_force) fl_11_19 h1 rfl hb3 dX11_force_1) ?_
  refine ga1 (M := mX11_force) (pc' := 5) (k' := 0) (n' := 0) (r_iload_n (M := mX11_force) (i := 1) rfl dX11_force_4) ?_
  refine ga_fk (fun hf5 => ?_)
  refine ga_tk (fun h6 => ?_)
  refine ga_V (M := mX11_force) (As := [.int a1]) (st := []) (mc := 0) (ms := 0) (k' := 0) (n' := 0) ln_11_207 lb_X7_choose (tA_X7_choose (N := N) (by omega)) (by omega) h6 (Nat.le_of_ble_eq_true rfl) rfl dX11_force_5 hf5 rfl rfl (fun r4 => ?_)
  show GA mX11_force d _ _ _ 8 [some (.ref a0), some (.int a1)] [.int r4.1] r4.2.1 r4.2.2 0 0 _
  exact ga_iret (M := mX11_force) rfl rfl dX11_force_8
set_option maxRecDepth 100000 in
def fA_X11_text (N : Nat) (S : SH) (a0 : Nat) (x : DY) : Option (Int32 × SH × DY) :=
  tk S a0 11 (rfk (S.2.2.2 a0 1) (fun b2 => fk S [some (.ref a0), none] [] (tk S b2 7 (tk S b2 7 (Option.bind (f_X7_areFull N S b2 x) (fun r4 => (if r4 = 0 then tk S a0 11 (rfk (S.2.2.2 a0 2) (fun b10 => fk S [some (.ref a0), none] [] (tk S b10 5 (tk S b10 5 (Option.bind (f_X5_readAll N S b10 x) (fun r12 => tk S a0 11 (rfk (S.2.2.2 a0 2) (fun b17 => tk S b17 5 (bl (U1 r12.2 b17 1 0) (fun x20 => (if r12.1 = 0 then tk S a0 11 (rfk (S.2.2.2 a0 2) (fun b23 => tk S b23 5 (some (((-100) - (x20.1 b23 10)), S, x20)))) else tk S a0 11 (rfk (S.2.2.2 a0 1) (fun b27 => tk S a0 11 (rfk (S.2.2.2 a0 2) (fun b30 => fk S [some (.ref a0), some (.int r12.1)] [.ref b27] (tk S b30 5 (Option.bind (fA_X5_copyOfText N S b30 x20) (fun r32 => fk r32.2.1 [some (.ref a0), some (.int r12.1)] [] (tk r32.2.1 b27 7 (Option.bind (fA_X7_add N r32.2.1 b27 r32.1 r32.2.2) (fun r35 => some (r35.1, r35.2.1, r35.2.2)))))))))))))))))))))) else some ((-4), S, x))))))))
set_option maxHeartbeats 20000000 in
set_option maxRecDepth 100000 in
theorem tA_X11_text {N d : Nat} {S : SH} (hW : WT S) {x : DY} {a0 : Nat} (hd : 102 ≤ d) : CA mX11_text d S [.ref a0] x 4 483 wAI (fA_X11_text N S a0 x) := by
  refine CA.of [some (.ref a0), none] rfl (Nat.le_of_ble_eq_true rfl) (by decide +kernel) ?_
  unfold fA_X11_text
  refine ga1 (M := mX11_text) (pc' := 1) (k' := 4) (n' := 483) (r_aload_n (M := mX11_text) (i := 0) rfl dX11_text_0) ?_
  refine ga_tk (fun h1 => ?_)
  refine ga_rfk (fun b2 hb3 => ?_)
  refine ga1 (M := mX11_text) (pc' := 4) (k' := 4) (n' := 483) (r_getR (M := mX11_text) fl_11_19 h1 rfl hb3 dX11_text_1) ?_
  refine ga_fk (fun hf5 => ?_)
  refine ga_tk (fun h6 => ?_)
  refine ga_tk (fun h7 => ?_)
  refine ga_V (M := mX11_text) (As := []) (st := []) (mc := 0) (ms := 0) (k' := 4) (n' := 483) ln_11_186 lb_X7_areFull (CT.CA (t_X7_areFull (N := N) hW (by omega) h6)) (by omega) h7 (Nat.le_of_ble_eq_true rfl) rfl dX11_text_4 hf5 rfl rfl (fun r4 => ?_)
  show GA mX11_text d _ _ _ 7 [some (.ref a0), none] [.int r4] S x 4 483 _
  refine ga_br (M := mX11_text) (pt := 13) (pf := 10) (fun kt kf => r_if_eq (M := mX11_text) dX11_text_7 (by decide) kt kf) (fun hc8 => ?_) (fun hc8 => ?_)
  · refine ga1 (M := mX11_text) (pc' := 14) (k' := 4) (n' := 483) (r_aload_n (M := mX11_text) (i := 0) rfl dX11_text_13) ?_
    refine ga_tk (fun h9 => ?_)
    refine ga_rfk (fun b10 hb11 => ?_)
    refine ga1 (M := mX11_text) (pc' := 17) (k' := 4) (n' := 483) (r_getR (M := mX11_text) fl_11_26 h9 rfl hb11 dX11_text_14) ?_
    refine ga_fk (fun hf13 => ?_)
    refine ga_tk (fun h14 => ?_)
    refine ga_tk (fun h15 => ?_)
    refine ga_V (M := mX11_text) (As := []) (st := []) (mc := 0) (ms := 0) (k' := 4) (n' := 483) ln_11_190 lb_X5_readAll (CT.CA (t_X5_readAll (N := N) hW (by omega) h14)) (by omega) h15 (Nat.le_of_ble_eq_true rfl) rfl dX11_text_17 hf13 rfl rfl (fun r12 => ?_)
    show GA mX11_text d _ _ _ 20 [some (.ref a0), none] [.int r12.1] S r12.2 4 483 _
    refine ga1 (M := mX11_text) (pc' := 21) (ls' := [some (.ref a0), some (.int r12.1)]) (k' := 4) (n' := 483) (r_istore_n (M := mX11_text) (ls := [some (.ref a0), none]) (i := 1) (v := r12.1) (by decide) rfl dX11_text_20) ?_
    refine ga1 (M := mX11_text) (pc' := 22) (k' := 4) (n' := 483) (r_aload_n (M := mX11_text) (i := 0) rfl dX11_text_21) ?_
    refine ga_tk (fun h16 => ?_)
    refine ga_rfk (fun b17 hb18 => ?_)
    refine ga1 (M := mX11_text) (pc' := 25) (k' := 4) (n' := 483) (r_getR (M := mX11_text) fl_11_26 h16 rfl hb18 dX11_text_22) ?_
    refine ga1 (M := mX11_text) (pc' := 26) (k' := 4) (n' := 483) (r_iconst (M := mX11_text) (v := 0) (by decide) dX11_text_25) ?_
    refine ga_tk (fun h19 => ?_)
    refine ga1 (M := mX11_text) (pc' := 29) (k' := 4) (n' := 483) (r_putI9 (M := mX11_text) fl_11_193 h19 (Or.inl rfl) rfl dX11_text_26) ?_
    refine ga_blx (fun x20 => ?_)
    refine ga1 (M := mX11_text) (pc' := 30) (k' := 4) (n' := 483) (r_iload_n (M := mX11_text) (i := 1) rfl dX11_text_29) ?_
    refine ga_br (M := mX11_text) (pt := 50) (pf := 33) (fun kt kf => r_if_eq (M := mX11_text) dX11_text_30 (by decide) kt kf) (fun hc21 => ?_) (fun hc21 => ?_)
    · refine ga1 (M := mX11_text) (fun kk => MW.room (k2 := 0) (n2 := 0) (by decide) (by decide) kk) ?_
      refine ga1 (M := mX11_text) (pc' := 52) (k' := 0) (n' := 0) (r_bipush (M := mX11_text) (v := (-100)) (by decide) dX11_text_50) ?_
      refine ga1 (M := mX11_text) (pc' := 53) (k' := 0) (n' := 0) (r_aload_n (M := mX11_text) (i := 0) rfl dX11_text_52) ?_
      refine ga_tk (fun h22 => ?_)
      refine ga_rfk (fun b23 hb24 => ?_)
      refine ga1 (M := mX11_text) (pc' := 56) (k' := 0) (n' := 0) (r_getR (M := mX11_text) fl_11_26 h22 rfl hb24 dX11_text_53) ?_
      refine ga_tk (fun h25 => ?_)
      refine ga1 (M := mX11_text) (pc' := 59) (k' := 0) (n' := 0) (r_getI (M := mX11_text) fl_11_204 h25 rfl dX11_text_56) ?_
      refine ga1 (M := mX11_text) (pc' := 60) (k' := 0) (n' := 0) (r_isub (M := mX11_text) dX11_text_59) ?_
      exact ga_iret (M := mX11_text) rfl rfl dX11_text_60
    · refine ga1 (M := mX11_text) (pc' := 34) (k' := 4) (n' := 483) (r_aload_n (M := mX11_text) (i := 0) rfl dX11_text_33) ?_
      refine ga_tk (fun h26 => ?_)
      refine ga_rfk (fun b27 hb28 => ?_)
      refine ga1 (M := mX11_text) (pc' := 37) (k' := 4) (n' := 483) (r_getR (M := mX11_text) fl_11_19 h26 rfl hb28 dX11_text_34) ?_
      refine ga1 (M := mX11_text) (pc' := 38) (k' := 4) (n' := 483) (r_aload_n (M := mX11_text) (i := 0) rfl dX11_text_37) ?_
      refine ga_tk (fun h29 => ?_)
      refine ga_rfk (fun b30 hb31 => ?_)
      refine ga1 (M := mX11_text) (pc' := 41) (k' := 4) (n' := 483) (r_getR (M := mX11_text) fl_11_26 h29 rfl hb31 dX11_text_38) ?_
      refine ga_fk (fun hf33 => ?_)
      refine ga_tk (fun h34 => ?_)
      refine ga_V (M := mX11_text) (As := []) (st := [.ref b27]) (mc := 4) (ms := 483) (k' := 0) (n' := 0) ln_11_197 lb_X5_copyOfText (tA_X5_copyOfText (N := N) (by omega)) (by omega) h34 (Nat.le_of_ble_eq_true rfl) rfl dX11_text_41 hf33 rfl rfl (fun r32 => ?_)
      show GA mX11_text d _ _ _ 44 [some (.ref a0), some (.int r12.1)] [.ref r32.1, .ref b27] r32.2.1 r32.2.2 0 0 _
      refine ga_fk (fun hf36 => ?_)
      refine ga_tk (fun h37 => ?_)
      refine ga_V (M := mX11_text) (As := [.ref r32.1]) (st := []) (mc := 0) (ms := 0) (k' := 0) (n' := 0) ln_11_201 lb_X7_add (tA_X7_add (N := N) (by omega)) (by omega) h37 (Nat.le_of_ble_eq_true rfl) rfl dX11_text_44 hf36 rfl rfl (fun r35 => ?_)
      show GA mX11_text d _ _ _ 47 [some (.ref a0), some (.int r12.1)] [.int r35.1] r35.2.1 r35.2.2 0 0 _
      refine ga1 (M := mX11_text) (pc' := 60) (k' := 0) (n' := 0) (r_goto (M := mX11_text) dX11_text_47 (by decide)) ?_
      exact ga_iret (M := mX11_text) rfl rfl dX11_text_60
  · refine ga1 (M := mX11_text) (fun kk => MW.room (k2 := 0) (n2 := 0) (by decide) (by decide) kk) ?_
    refine ga1 (M := mX11_text) (pc' := 12) (k' := 0) (n' := 0) (r_bipush (M := mX11_text) (v := (-4)) (by decide) dX11_text_10) ?_
    exact ga_iret (M := mX11_text) rfl rfl dX11_text_12
set_option maxRecDepth 100000 in
def fA_X3_init (N : Nat) (S : SH) (a0 : Nat) (x : DY) : Option (SH × DY) :=
  fk S [some (.ref a0)] [.ref a0] (nk 6 6 (bl S.1 (fun b4 => bl (SN S 14 (6 : Int32).toNatClampNeg) (fun S5 => bl (XN x S.1) (fun x6 => tk S5 b4 14 (ck S5 b4 0 (bl (U1 x6 b4 (0 : Int32).toNatClampNeg 0) (fun x9 => tk S5 b4 14 (ck S5 b4 1 (bl (U1 x9 b4 (1 : Int32).toNatClampNeg 1) (fun x12 => tk S5 b4 14 (ck S5 b4 2 (bl (U1 x12 b4 (2 : Int32).toNatClampNeg 2) (fun x15 => tk S5 b4 14 (ck S5 b4 3 (bl (U1 x15 b4 (3 : Int32).toNatClampNeg 3) (fun x18 => tk S5 b4 14 (ck S5 b4 4 (bl (U1 x18 b4 (4 : Int32).toNatClampNeg 4) (fun x21 => tk S5 b4 14 (ck S5 b4 5 (bl (U1 x21 b4 (5 : Int32).toNatClampNeg 0) (fun x24 => tk S5 a0 3 (lk S5 b4 (bl (UP S5 a0 0 (some b4)) (fun S27 => bl x24 (fun x28 => fk S27 [some (.ref a0)] [.ref a0] (nk 6 6 (bl S27.1 (fun b32 => bl (SN S27 14 (6 : Int32).toNatClampNeg) (fun S33 => bl (XN x28 S27.1) (fun x34 => tk S33 b32 14 (ck S33 b32 0 (bl (U1 x34 b32 (0 : Int32).toNatClampNeg 20) (fun x37 => tk S33 b32 14 (ck S33 b32 1 (bl (U1 x37 b32 (1 : Int32).toNatClampNeg 20) (fun x40 => tk S33 b32 14 (ck S33 b32 2 (bl (U1 x40 b32 (2 : Int32).toNatClampNeg 20) (fun x43 => tk S33 b32 14 (ck S33 b32 3 (bl (U1 x43 b32 (3 : Int32).toNatClampNeg 20) (fun x46 => tk S33 b32 14 (ck S33 b32 4 (bl (U1 x46 b32 (4 : Int32).toNatClampNeg 20) (fun x49 => tk S33 b32 14 (ck S33 b32 5 (bl (U1 x49 b32 (5 : Int32).toNatClampNeg 20) (fun x52 => tk S33 a0 3 (lk S33 b32 (bl (UP S33 a0 1 (some b32)) (fun S55 => bl x52 (fun x56 => fk S55 [some (.ref a0)] [.ref a0] (nk 5 5 (bl S55.1 (fun b60 => bl (SN S55 14 (5 : Int32).toNatClampNeg) (fun S61 => bl (XN x56 S55.1) (fun x62 => tk S61 b60 14 (ck S61 b60 0 (bl (U1 x62 b60 (0 : Int32).toNatClampNeg 100) (fun x65 => tk S61 b60 14 (ck S61 b60 1 (bl (U1 x65 b60 (1 : Int32).toNatClampNeg 100) (fun x68 => tk S61 b60 14 (ck S61 b60 2 (bl (U1 x68 b60 (2 : Int32).toNatClampNeg 100) (fun x71 => tk S61 b60 14 (ck S61 b60 3 (bl (U1 x71 b60 (3 : Int32).toNatClampNeg 100) (fun x74 => tk S61 b60 14 (ck S61 b60 4 (bl (U1 x74 b60 (4 : Int32).toNatClampNeg 100) (fun x77 => tk S61 a0 3 (lk S61 b60 (bl (UP S61 a0 2 (some b60)) (fun S80 => bl x77 (fun x81 => tk S80 a0 3 (bl (U1 x81 a0 3 50) (fun x83 => some (S80, x83)))))))))))))))))))))))))))))))))))))))))))))))))))))))))))))))))))))))))))))))))
set_option maxHeartbeats 20000000 in
set_option maxRecDepth 100000 in
theorem tA_X3_init {N d : Nat} {S : SH} {x : DY} {a0 : Nat} (hd : 1 ≤ d) : CA mX3_init d S [.ref a0] x 3 17 wAV (fA_X3_init N S a0 x) := by
  refine CA.of [some (.ref a0)] rfl (Nat.le_of_ble_eq_true rfl) (by decide +kernel) ?_
  unfold fA_X3_init
  refine ga1 (M := mX3_init) (pc' := 1) (k' := 3) (n' := 17) (r_aload_n (M := mX3_init) (i := 0) rfl dX3_init_0) ?_
  refine ga1 (M := mX3_init) (pc' := 4) (k' := 3) (n' := 17) (r_objInit (M := mX3_init) (tb1 34 (by decide +kernel) rfl) (by omega) (Nat.le_of_ble_eq_true rfl) dX3_init_1) ?_
  refine ga1 (M := mX3_init) (pc' := 5) (k' := 3) (n' := 17) (r_aload_n (M := mX3_init) (i := 0) rfl dX3_init_4) ?_
  refine ga1 (M := mX3_init) (pc' := 7) (k' := 3) (n' := 17) (r_bipush (M := mX3_init) (v := 6) (by decide) dX3_init_5) ?_
  refine ga_fk (fun hf1 => ?_)
  refine ga_nk (fun hm2 hM3 => ?_)
  refine ga1 (M := mX3_init) (pc' := 9) (k' := 2) (n' := 11) (r_newarr14 (M := mX3_init) (B := 6) hm2 hM3 (by decide) hf1 dX3_init_7) ?_
  refine ga_blR (fun b4 S5 x6 => ?_)
  refine ga1 (M := mX3_init) (pc' := 10) (k' := 2) (n' := 11) (r_dup (M := mX3_init) rfl dX3_init_9) ?_
  refine ga1 (M := mX3_init) (pc' := 11) (k' := 2) (n' := 11) (r_iconst (M := mX3_init) (v := 0) (by decide) dX3_init_10) ?_
  refine ga1 (M := mX3_init) (pc' := 12) (k' := 2) (n' := 11) (r_iconst (M := mX3_init) (v := 0) (by decide) dX3_init_11) ?_
  refine ga_tk (fun h7 => ?_)
  refine ga_ck (fun hi8 => ?_)
  refine ga1 (M := mX3_init) (pc' := 13) (k' := 2) (n' := 11) (r_iast (M := mX3_init) h7 hi8 dX3_init_12) ?_
  refine ga_blx (fun x9 => ?_)
  refine ga1 (M := mX3_init) (pc' := 14) (k' := 2) (n' := 11) (r_dup (M := mX3_init) rfl dX3_init_13) ?_
  refine ga1 (M := mX3_init) (pc' := 15) (k' := 2) (n' := 11) (r_iconst (M := mX3_init) (v := 1) (by decide) dX3_init_14) ?_
  refine ga1 (M := mX3_init) (pc' := 16) (k' := 2) (n' := 11) (r_iconst (M := mX3_init) (v := 1) (by decide) dX3_init_15) ?_
  refine ga_tk (fun h10 => ?_)
  refine ga_ck (fun hi11 => ?_)
  refine ga1 (M := mX3_init) (pc' := 17) (k' := 2) (n' := 11) (r_iast (M := mX3_init) h10 hi11 dX3_init_16) ?_
  refine ga_blx (fun x12 => ?_)
  refine ga1 (M := mX3_init) (pc' := 18) (k' := 2) (n' := 11) (r_dup (M := mX3_init) rfl dX3_init_17) ?_
  refine ga1 (M := mX3_init) (pc' := 19) (k' := 2) (n' := 11) (r_iconst (M := mX3_init) (v := 2) (by decide) dX3_init_18) ?_
  refine ga1 (M := mX3_init) (pc' := 20) (k' := 2) (n' := 11) (r_iconst (M := mX3_init) (v := 2) (by decide) dX3_init_19) ?_
  refine ga_tk (fun h13 => ?_)
  refine ga_ck (fun hi14 => ?_)
  refine ga1 (M := mX3_init) (pc' := 21) (k' := 2) (n' := 11) (r_iast (M := mX3_init) h13 hi14 dX3_init_20) ?_
  refine ga_blx (fun x15 => ?_)
  refine ga1 (M := mX3_init) (pc' := 22) (k' := 2) (n' := 11) (r_dup (M := mX3_init) rfl dX3_init_21) ?_
  refine ga1 (M := mX3_init) (pc' := 23) (k' := 2) (n' := 11) (r_iconst (M := mX3_init) (v := 3) (by decide) dX3_init_22) ?_
  refine ga1 (M := mX3_init) (pc' := 24) (k' := 2) (n' := 11) (r_iconst (M := mX3_init) (v := 3) (by decide) dX3_init_23) ?_
  refine ga_tk (fun h16 => ?_)
  refine ga_ck (fun hi17 => ?_)
  refine ga1 (M := mX3_init) (pc' := 25) (k' := 2) (n' := 11) (r_iast (M := mX3_init) h16 hi17 dX3_init_24) ?_
  refine ga_blx (fun x18 => ?_)
  refine ga1 (M := mX3_init) (pc' := 26) (k' := 2) (n' := 11) (r_dup (M := mX3_init) rfl dX3_init_25) ?_
  refine ga1 (M := mX3_init) (pc' := 27) (k' := 2) (n' := 11) (r_iconst (M := mX3_init) (v := 4) (by decide) dX3_init_26) ?_
  refine ga1 (M := mX3_init) (pc' := 28) (k' := 2) (n' := 11) (r_iconst (M := mX3_init) (v := 4) (by decide) dX3_init_27) ?_
  refine ga_tk (fun h19 => ?_)
  refine ga_ck (fun hi20 => ?_)
  refine ga1 (M := mX3_init) (pc' := 29) (k' := 2) (n' := 11) (r_iast (M := mX3_init) h19 hi20 dX3_init_28) ?_
  refine ga_blx (fun x21 => ?_)
  refine ga1 (M := mX3_init) (pc' := 30) (k' := 2) (n' := 11) (r_dup (M := mX3_init) rfl dX3_init_29) ?_
  refine ga1 (M := mX3_init) (pc' := 31) (k' := 2) (n' := 11) (r_iconst (M := mX3_init) (v := 5) (by decide) dX3_init_30) ?_
  refine ga1 (M := mX3_init) (pc' := 32) (k' := 2) (n' := 11) (r_iconst (M := mX3_init) (v := 0) (by decide) dX3_init_31) ?_
  refine ga_tk (fun h22 => ?_)
  refine ga_ck (fun hi23 => ?_)
  refine ga1 (M := mX3_init) (pc' := 33) (k' := 2) (n' := 11) (r_iast (M := mX3_init) h22 hi23 dX3_init_32) ?_
  refine ga_blx (fun x24 => ?_)
  refine ga_tk (fun h25 => ?_)
  refine ga_lk (fun hl26 => ?_)
  refine ga1 (M := mX3_init) (pc' := 36) (k' := 2) (n' := 11) (r_putR (M := mX3_init) fl_3_7 h25 (Or.inr ⟨rfl, rfl, rfl⟩) rfl hl26 dX3_init_33) ?_
  refine ga_blS (fun S27 x28 => ?_)
  refine ga1 (M := mX3_init) (pc' := 37) (k' := 2) (n' := 11) (r_aload_n (M := mX3_init) (i := 0) rfl dX3_init_36) ?_
  refine ga1 (M := mX3_init) (pc' := 39) (k' := 2) (n' := 11) (r_bipush (M := mX3_init) (v := 6) (by decide) dX3_init_37) ?_
  refine ga_fk (fun hf29 => ?_)
  refine ga_nk (fun hm30 hM31 => ?_)
  refine ga1 (M := mX3_init) (pc' := 41) (k' := 1) (n' := 5) (r_newarr14 (M := mX3_init) (B := 6) hm30 hM31 (by decide) hf29 dX3_init_39) ?_
  refine ga_blR (fun b32 S33 x34 => ?_)
  refine ga1 (M := mX3_init) (pc' := 42) (k' := 1) (n' := 5) (r_dup (M := mX3_init) rfl dX3_init_41) ?_
  refine ga1 (M := mX3_init) (pc' := 43) (k' := 1) (n' := 5) (r_iconst (M := mX3_init) (v := 0) (by decide) dX3_init_42) ?_
  refine ga1 (M := mX3_init) (pc' := 45) (k' := 1) (n' := 5) (r_bipush (M := mX3_init) (v := 20) (by decide) dX3_init_43) ?_
  refine ga_tk (fun h35 => ?_)
  refine ga_ck (fun hi36 => ?_)
  refine ga1 (M := mX3_init) (pc' := 46) (k' := 1) (n' := 5) (r_iast (M := mX3_init) h35 hi36 dX3_init_45) ?_
  refine ga_blx (fun x37 => ?_)
  refine ga1 (M := mX3_init) (pc' := 47) (k' := 1) (n' := 5) (r_dup (M := mX3_init) rfl dX3_init_46) ?_
  refine ga1 (M := mX3_init) (pc' := 48) (k' := 1) (n' := 5) (r_iconst (M := mX3_init) (v := 1) (by decide) dX3_init_47) ?_
  refine ga1 (M := mX3_init) (pc' := 50) (k' := 1) (n' := 5) (r_bipush (M := mX3_init) (v := 20) (by decide) dX3_init_48) ?_
  refine ga_tk (fun h38 => ?_)
  refine ga_ck (fun hi39 => ?_)
  refine ga1 (M := mX3_init) (pc' := 51) (k' := 1) (n' := 5) (r_iast (M := mX3_init) h38 hi39 dX3_init_50) ?_
  refine ga_blx (fun x40 => ?_)
  refine ga1 (M := mX3_init) (pc' := 52) (k' := 1) (n' := 5) (r_dup (M := mX3_init) rfl dX3_init_51) ?_
  refine ga1 (M := mX3_init) (pc' := 53) (k' := 1) (n' := 5) (r_iconst (M := mX3_init) (v := 2) (by decide) dX3_init_52) ?_
  refine ga1 (M := mX3_init) (pc' := 55) (k' := 1) (n' := 5) (r_bipush (M := mX3_init) (v := 20) (by decide) dX3_init_53) ?_
  refine ga_tk (fun h41 => ?_)
  refine ga_ck (fun hi42 => ?_)
  refine ga1 (M := mX3_init) (pc' := 56) (k' := 1) (n' := 5) (r_iast (M := mX3_init) h41 hi42 dX3_init_55) ?_
  refine ga_blx (fun x43 => ?_)
  refine ga1 (M := mX3_init) (pc' := 57) (k' := 1) (n' := 5) (r_dup (M := mX3_init) rfl dX3_init_56) ?_
  refine ga1 (M := mX3_init) (pc' := 58) (k' := 1) (n' := 5) (r_iconst (M := mX3_init) (v := 3) (by decide) dX3_init_57) ?_
  refine ga1 (M := mX3_init) (pc' := 60) (k' := 1) (n' := 5) (r_bipush (M := mX3_init) (v := 20) (by decide) dX3_init_58) ?_
  refine ga_tk (fun h44 => ?_)
  refine ga_ck (fun hi45 => ?_)
  refine ga1 (M := mX3_init) (pc' := 61) (k' := 1) (n' := 5) (r_iast (M := mX3_init) h44 hi45 dX3_init_60) ?_
  refine ga_blx (fun x46 => ?_)
  refine ga1 (M := mX3_init) (pc' := 62) (k' := 1) (n' := 5) (r_dup (M := mX3_init) rfl dX3_init_61) ?_
  refine ga1 (M := mX3_init) (pc' := 63) (k' := 1) (n' := 5) (r_iconst (M := mX3_init) (v := 4) (by decide) dX3_init_62) ?_
  refine ga1 (M := mX3_init) (pc' := 65) (k' := 1) (n' := 5) (r_bipush (M := mX3_init) (v := 20) (by decide) dX3_init_63) ?_
  refine ga_tk (fun h47 => ?_)
  refine ga_ck (fun hi48 => ?_)
  refine ga1 (M := mX3_init) (pc' := 66) (k' := 1) (n' := 5) (r_iast (M := mX3_init) h47 hi48 dX3_init_65) ?_
  refine ga_blx (fun x49 => ?_)
  refine ga1 (M := mX3_init) (pc' := 67) (k' := 1) (n' := 5) (r_dup (M := mX3_init) rfl dX3_init_66) ?_
  refine ga1 (M := mX3_init) (pc' := 68) (k' := 1) (n' := 5) (r_iconst (M := mX3_init) (v := 5) (by decide) dX3_init_67) ?_
  refine ga1 (M := mX3_init) (pc' := 70) (k' := 1) (n' := 5) (r_bipush (M := mX3_init) (v := 20) (by decide) dX3_init_68) ?_
  refine ga_tk (fun h50 => ?_)
  refine ga_ck (fun hi51 => ?_)
  refine ga1 (M := mX3_init) (pc' := 71) (k' := 1) (n' := 5) (r_iast (M := mX3_init) h50 hi51 dX3_init_70) ?_
  refine ga_blx (fun x52 => ?_)
  refine ga_tk (fun h53 => ?_)
  refine ga_lk (fun hl54 => ?_)
  refine ga1 (M := mX3_init) (pc' := 74) (k' := 1) (n' := 5) (r_putR (M := mX3_init) fl_3_13 h53 (Or.inr ⟨rfl, rfl, rfl⟩) rfl hl54 dX3_init_71) ?_
  refine ga_blS (fun S55 x56 => ?_)
  refine ga1 (M := mX3_init) (pc' := 75) (k' := 1) (n' := 5) (r_aload_n (M := mX3_init) (i := 0) rfl dX3_init_74) ?_
  refine ga1 (M := mX3_init) (pc' := 76) (k' := 1) (n' := 5) (r_iconst (M := mX3_init) (v := 5) (by decide) dX3_init_75) ?_
  refine ga_fk (fun hf57 => ?_)
  refine ga_nk (fun hm58 hM59 => ?_)
  refine ga1 (M := mX3_init) (pc' := 78) (k' := 0) (n' := 0) (r_newarr14 (M := mX3_init) (B := 5) hm58 hM59 (by decide) hf57 dX3_init_76) ?_
  refine ga_blR (fun b60 S61 x62 => ?_)
  refine ga1 (M := mX3_init) (pc' := 79) (k' := 0) (n' := 0) (r_dup (M := mX3_init) rfl dX3_init_78) ?_
  refine ga1 (M := mX3_init) (pc' := 80) (k' := 0) (n' := 0) (r_iconst (M := mX3_init) (v := 0) (by decide) dX3_init_79) ?_
  refine ga1 (M := mX3_init) (pc' := 82) (k' := 0) (n' := 0) (r_bipush (M := mX3_init) (v := 100) (by decide) dX3_init_80) ?_
  refine ga_tk (fun h63 => ?_)
  refine ga_ck (fun hi64 => ?_)
  refine ga1 (M := mX3_init) (pc' := 83) (k' := 0) (n' := 0) (r_iast (M := mX3_init) h63 hi64 dX3_init_82) ?_
  refine ga_blx (fun x65 => ?_)
  refine ga1 (M := mX3_init) (pc' := 84) (k' := 0) (n' := 0) (r_dup (M := mX3_init) rfl dX3_init_83) ?_
  refine ga1 (M := mX3_init) (pc' := 85) (k' := 0) (n' := 0) (r_iconst (M := mX3_init) (v := 1) (by decide) dX3_init_84) ?_
  refine ga1 (M := mX3_init) (pc' := 87) (k' := 0) (n' := 0) (r_bipush (M := mX3_init) (v := 100) (by decide) dX3_init_85) ?_
  refine ga_tk (fun h66 => ?_)
  refine ga_ck (fun hi67 => ?_)
  refine ga1 (M := mX3_init) (pc' := 88) (k' := 0) (n' := 0) (r_iast (M := mX3_init) h66 hi67 dX3_init_87) ?_
  refine ga_blx (fun x68 => ?_)
  refine ga1 (M := mX3_init) (pc' := 89) (k' := 0) (n' := 0) (r_dup (M := mX3_init) rfl dX3_init_88) ?_
  refine ga1 (M := mX3_init) (pc' := 90) (k' := 0) (n' := 0) (r_iconst (M := mX3_init) (v := 2) (by decide) dX3_init_89) ?_
  refine ga1 (M := mX3_init) (pc' := 92) (k' := 0) (n' := 0) (r_bipush (M := mX3_init) (v := 100) (by decide) dX3_init_90) ?_
  refine ga_tk (fun h69 => ?_)
  refine ga_ck (fun hi70 => ?_)
  refine ga1 (M := mX3_init) (pc' := 93) (k' := 0) (n' := 0) (r_iast (M := mX3_init) h69 hi70 dX3_init_92) ?_
  refine ga_blx (fun x71 => ?_)
  refine ga1 (M := mX3_init) (pc' := 94) (k' := 0) (n' := 0) (r_dup (M := mX3_init) rfl dX3_init_93) ?_
  refine ga1 (M := mX3_init) (pc' := 95) (k' := 0) (n' := 0) (r_iconst (M := mX3_init) (v := 3) (by decide) dX3_init_94) ?_
  refine ga1 (M := mX3_init) (pc' := 97) (k' := 0) (n' := 0) (r_bipush (M := mX3_init) (v := 100) (by decide) dX3_init_95) ?_
  refine ga_tk (fun h72 => ?_)
  refine ga_ck (fun hi73 => ?_)
  refine ga1 (M := mX3_init) (pc' := 98) (k' := 0) (n' := 0) (r_iast (M := mX3_init) h72 hi73 dX3_init_97) ?_
  refine ga_blx (fun x74 => ?_)
  refine ga1 (M := mX3_init) (pc' := 99) (k' := 0) (n' := 0) (r_dup (M := mX3_init) rfl dX3_init_98) ?_
  refine ga1 (M := mX3_init) (pc' := 100) (k' := 0) (n' := 0) (r_iconst (M := mX3_init) (v := 4) (by decide) dX3_init_99) ?_
  refine ga1 (M := mX3_init) (pc' := 102) (k' := 0) (n' := 0) (r_bipush (M := mX3_init) (v := 100) (by decide) dX3_init_100) ?_
  refine ga_tk (fun h75 => ?_)
  refine ga_ck (fun hi76 => ?_)
  refine ga1 (M := mX3_init) (pc' := 103) (k' := 0) (n' := 0) (r_iast (M := mX3_init) h75 hi76 dX3_init_102) ?_
  refine ga_blx (fun x77 => ?_)
  refine ga_tk (fun h78 => ?_)
  refine ga_lk (fun hl79 => ?_)
  refine ga1 (M := mX3_init) (pc' := 106) (k' := 0) (n' := 0) (r_putR (M := mX3_init) fl_3_16 h78 (Or.inr ⟨rfl, rfl, rfl⟩) rfl hl79 dX3_init_103) ?_
  refine ga_blS (fun S80 x81 => ?_)
  refine ga1 (M := mX3_init) (pc' := 107) (k' := 0) (n' := 0) (r_aload_n (M := mX3_init) (i := 0) rfl dX3_init_106) ?_
  refine ga1 (M := mX3_init) (pc' := 109) (k' := 0) (n' := 0) (r_bipush (M := mX3_init) (v := 50) (by decide) dX3_init_107) ?_
  refine ga_tk (fun h82 => ?_)
  refine ga1 (M := mX3_init) (pc' := 112) (k' := 0) (n' := 0) (r_putI9 (M := mX3_init) fl_3_19 h82 (Or.inl rfl) rfl dX3_init_109) ?_
  refine ga_blx (fun x83 => ?_)
  exact ga_vret (M := mX3_init) rfl rfl dX3_init_112
set_option maxRecDepth 100000 in
def fA_X7_init (N : Nat) (S : SH) (a0 : Nat) (x : DY) : Option (SH × DY) :=
  fk S [some (.ref a0)] [.ref a0] (nk 6 6 (bl S.1 (fun b4 => bl (SN S 17 (6 : Int32).toNatClampNeg) (fun S5 => bl (XN x S.1) (fun x6 => tk S5 a0 7 (lk S5 b4 (bl (UP S5 a0 0 (some b4)) (fun S9 => bl x6 (fun x10 => fk S9 [some (.ref a0)] [.ref a0] (bl S9.1 (fun b12 => bl (SN S9 10 0) (fun S13 => bl (XN x10 S9.1) (fun x14 => fk S13 [some (.ref a0)] [.ref b12, .ref a0] (Option.bind (fA_X10_init N S13 b12 3 4 x14) (fun r15 => tk r15.1 a0 7 (lk r15.1 b12 (bl (UP r15.1 a0 1 (some b12)) (fun S19 => bl r15.2 (fun x20 => tk S19 a0 7 (bl (U1 x20 a0 2 1) (fun x22 => tk S19 a0 7 (bl (U1 x22 a0 3 0) (fun x24 => tk S19 a0 7 (rfk (S19.2.2.2 a0 0) (fun b26 => tk S19 a0 7 (rfk (S19.2.2.2 a0 1) (fun b29 => tk S19 b26 17 (tk S19 b29 10 (ck S19 b26 0 (bl (UP S19 b26 (0 : Int32).toNatClampNeg (some b29)) (fun S34 => bl x24 (fun x35 => some (S34, x35)))))))))))))))))))))))))))))))))
set_option maxHeartbeats 20000000 in
set_option maxRecDepth 100000 in
theorem tA_X7_init {N d : Nat} {S : SH} {x : DY} {a0 : Nat} (hd : 3 ≤ d) : CA mX7_init d S [.ref a0] x 3 169 wAV (fA_X7_init N S a0 x) := by
  refine CA.of [some (.ref a0)] rfl (Nat.le_of_ble_eq_true rfl) (by decide +kernel) ?_
  unfold fA_X7_init
  refine ga1 (M := mX7_init) (pc' := 1) (k' := 3) (n' := 169) (r_aload_n (M := mX7_init) (i := 0) rfl dX7_init_0) ?_
  refine ga1 (M := mX7_init) (pc' := 4) (k' := 3) (n' := 169) (r_objInit (M := mX7_init) (tb1 63 (by decide +kernel) rfl) (by omega) (Nat.le_of_ble_eq_true rfl) dX7_init_1) ?_
  refine ga1 (M := mX7_init) (pc' := 5) (k' := 3) (n' := 169) (r_aload_n (M := mX7_init) (i := 0) rfl dX7_init_4) ?_
  refine ga1 (M := mX7_init) (pc' := 7) (k' := 3) (n' := 169) (r_bipush (M := mX7_init) (v := 6) (by decide) dX7_init_5) ?_
  refine ga_fk (fun hf1 => ?_)
  refine ga_nk (fun hm2 hM3 => ?_)
  refine ga1 (M := mX7_init) (pc' := 10) (k' := 2) (n' := 163) (r_newq17 (M := mX7_init) (B := 6) (tb1 64 (by decide +kernel) rfl) hm2 hM3 (by decide) hf1 dX7_init_7) ?_
  refine ga_blR (fun b4 S5 x6 => ?_)
  refine ga_tk (fun h7 => ?_)
  refine ga_lk (fun hl8 => ?_)
  refine ga1 (M := mX7_init) (pc' := 13) (k' := 2) (n' := 163) (r_putR (M := mX7_init) fl_7_11 h7 (Or.inr ⟨rfl, rfl, rfl⟩) rfl hl8 dX7_init_10) ?_
  refine ga_blS (fun S9 x10 => ?_)
  refine ga1 (M := mX7_init) (pc' := 14) (k' := 2) (n' := 163) (r_aload_n (M := mX7_init) (i := 0) rfl dX7_init_13) ?_
  refine ga_fk (fun hf11 => ?_)
  refine ga1 (M := mX7_init) (pc' := 17) (k' := 1) (n' := 160) (r_new (M := mX7_init) (c := 10) (by decide) (tb1 64 (by decide +kernel) rfl) (tb1 66 (by decide +kernel) rfl) (tb1 4 (by decide +kernel) rfl) hf11 dX7_init_14) ?_
  refine ga_blR (fun b12 S13 x14 => ?_)
  refine ga1 (M := mX7_init) (pc' := 18) (k' := 1) (n' := 160) (r_dup (M := mX7_init) rfl dX7_init_17) ?_
  refine ga1 (M := mX7_init) (pc' := 21) (k' := 1) (n' := 160) (r_getst (M := mX7_init) (a := 3) (by decide) (tb1 67 (by decide +kernel) rfl) dX7_init_18) ?_
  refine ga1 (M := mX7_init) (pc' := 24) (k' := 1) (n' := 160) (r_getst (M := mX7_init) (a := 4) (by decide) (tb1 69 (by decide +kernel) rfl) dX7_init_21) ?_
  refine ga_fk (fun hf16 => ?_)
  refine ga_I (M := mX7_init) (As := [.ref 3, .ref 4]) (st := [.ref b12, .ref a0]) (mc := 1) (ms := 160) (k' := 0) (n' := 0) ln_7_24 rfl lb_X10_init (tA_X10_init (N := N) (by omega)) (by omega) (Nat.le_of_ble_eq_true rfl) rfl dX7_init_24 hf16 rfl rfl (fun r15 => ?_)
  show GA mX7_init d _ _ _ 27 [some (.ref a0)] [.ref b12, .ref a0] r15.1 r15.2 0 0 _
  refine ga_tk (fun h17 => ?_)
  refine ga_lk (fun hl18 => ?_)
  refine ga1 (M := mX7_init) (pc' := 30) (k' := 0) (n' := 0) (r_putR (M := mX7_init) fl_7_27 h17 (Or.inl rfl) rfl hl18 dX7_init_27) ?_
  refine ga_blS (fun S19 x20 => ?_)
  refine ga1 (M := mX7_init) (pc' := 31) (k' := 0) (n' := 0) (r_aload_n (M := mX7_init) (i := 0) rfl dX7_init_30) ?_
  refine ga1 (M := mX7_init) (pc' := 32) (k' := 0) (n' := 0) (r_iconst (M := mX7_init) (v := 1) (by decide) dX7_init_31) ?_
  refine ga_tk (fun h21 => ?_)
  refine ga1 (M := mX7_init) (pc' := 35) (k' := 0) (n' := 0) (r_putI9 (M := mX7_init) fl_7_31 h21 (Or.inl rfl) rfl dX7_init_32) ?_
  refine ga_blx (fun x22 => ?_)
  refine ga1 (M := mX7_init) (pc' := 36) (k' := 0) (n' := 0) (r_aload_n (M := mX7_init) (i := 0) rfl dX7_init_35) ?_
  refine ga1 (M := mX7_init) (pc' := 37) (k' := 0) (n' := 0) (r_iconst (M := mX7_init) (v := 0) (by decide) dX7_init_36) ?_
  refine ga_tk (fun h23 => ?_)
  refine ga1 (M := mX7_init) (pc' := 40) (k' := 0) (n' := 0) (r_putI9 (M := mX7_init) fl_7_35 h23 (Or.inl rfl) rfl dX7_init_37) ?_
  refine ga_blx (fun x24 => ?_)
  refine ga1 (M := mX7_init) (pc' := 41) (k' := 0) (n' := 0) (r_aload_n (M := mX7_init) (i := 0) rfl dX7_init_40) ?_
  refine ga_tk (fun h25 => ?_)
  refine ga_rfk (fun b26 hb27 => ?_)
  refine ga1 (M := mX7_init) (pc' := 44) (k' := 0) (n' := 0) (r_getR (M := mX7_init) fl_7_11 h25 rfl hb27 dX7_init_41) ?_
  refine ga1 (M := mX7_init) (pc' := 45) (k' := 0) (n' := 0) (r_iconst (M := mX7_init) (v := 0) (by decide) dX7_init_44) ?_
  refine ga1 (M := mX7_init) (pc' := 46) (k' := 0) (n' := 0) (r_aload_n (M := mX7_init) (i := 0) rfl dX7_init_45) ?_
  refine ga_tk (fun h28 => ?_)
  refine ga_rfk (fun b29 hb30 => ?_)
  refine ga1 (M := mX7_init) (pc' := 49) (k' := 0) (n' := 0) (r_getR (M := mX7_init) fl_7_27 h28 rfl hb30 dX7_init_46) ?_
  refine ga_tk (fun h31 => ?_)
  refine ga_tk (fun h32 => ?_)
  refine ga_ck (fun hi33 => ?_)
  refine ga1 (M := mX7_init) (pc' := 50) (k' := 0) (n' := 0) (r_aast (M := mX7_init) h31 (by decide) h32 hi33 dX7_init_49) ?_
  refine ga_blS (fun S34 x35 => ?_)
  exact ga_vret (M := mX7_init) rfl rfl dX7_init_50
set_option maxRecDepth 100000 in
def fA_X5_init (N : Nat) (S : SH) (a0 : Nat) (x : DY) : Option (SH × DY) :=
  fk S [some (.ref a0)] [.ref a0] (nk 160 160 (bl S.1 (fun b4 => bl (SN S 14 (160 : Int32).toNatClampNeg) (fun S5 => bl (XN x S.1) (fun x6 => tk S5 a0 5 (lk S5 b4 (bl (UP S5 a0 0 (some b4)) (fun S9 => bl x6 (fun x10 => tk S9 a0 5 (bl (U1 x10 a0 1 0) (fun x12 => fk S9 [some (.ref a0)] [.ref a0] (nk 160 160 (bl S9.1 (fun b16 => bl (SN S9 14 (160 : Int32).toNatClampNeg) (fun S17 => bl (XN x12 S9.1) (fun x18 => tk S17 a0 5 (lk S17 b16 (bl (UP S17 a0 2 (some b16)) (fun S21 => bl x18 (fun x22 => fk S21 [some (.ref a0)] [.ref a0] (nk 160 160 (bl S21.1 (fun b26 => bl (SN S21 14 (160 : Int32).toNatClampNeg) (fun S27 => bl (XN x22 S21.1) (fun x28 => tk S27 a0 5 (lk S27 b26 (bl (UP S27 a0 3 (some b26)) (fun S31 => bl x28 (fun x32 => fk S31 [some (.ref a0)] [.ref a0] (nk 160 160 (bl S31.1 (fun b36 => bl (SN S31 14 (160 : Int32).toNatClampNeg) (fun S37 => bl (XN x32 S31.1) (fun x38 => tk S37 a0 5 (lk S37 b36 (bl (UP S37 a0 4 (some b36)) (fun S41 => bl x38 (fun x42 => tk S41 a0 5 (bl (U1 x42 a0 5 0) (fun x44 => tk S41 a0 5 (bl (U1 x44 a0 6 0) (fun x46 => fk S41 [some (.ref a0)] [.ref a0] (nk 160 160 (bl S41.1 (fun b50 => bl (SN S41 14 (160 : Int32).toNatClampNeg) (fun S51 => bl (XN x46 S41.1) (fun x52 => tk S51 a0 5 (lk S51 b50 (bl (UP S51 a0 7 (some b50)) (fun S55 => bl x52 (fun x56 => tk S55 a0 5 (bl (U1 x56 a0 8 0) (fun x58 => tk S55 a0 5 (bl (U1 x58 a0 9 0) (fun x60 => tk S55 a0 5 (bl (U1 x60 a0 10 0) (fun x62 => some (S55, x62))))))))))))))))))))))))))))))))))))))))))))))))))))))))))
set_option maxHeartbeats 20000000 in
set_option maxRecDepth 100000 in
theorem tA_X5_init {N d : Nat} {S : SH} {x : DY} {a0 : Nat} (hd : 1 ≤ d) : CA mX5_init d S [.ref a0] x 5 800 wAV (fA_X5_init N S a0 x) := by
  refine CA.of [some (.ref a0)] rfl (Nat.le_of_ble_eq_true rfl) (by decide +kernel) ?_
  unfold fA_X5_init
  refine ga1 (M := mX5_init) (pc' := 1) (k' := 5) (n' := 800) (r_aload_n (M := mX5_init) (i := 0) rfl dX5_init_0) ?_
  refine ga1 (M := mX5_init) (pc' := 4) (k' := 5) (n' := 800) (r_objInit (M := mX5_init) (tb1 109 (by decide +kernel) rfl) (by omega) (Nat.le_of_ble_eq_true rfl) dX5_init_1) ?_
  refine ga1 (M := mX5_init) (pc' := 5) (k' := 5) (n' := 800) (r_aload_n (M := mX5_init) (i := 0) rfl dX5_init_4) ?_
  refine ga1 (M := mX5_init) (pc' := 8) (k' := 5) (n' := 800) (r_sipush (M := mX5_init) (v := 160) (by decide) dX5_init_5) ?_
  refine ga_fk (fun hf1 => ?_)
  refine ga_nk (fun hm2 hM3 => ?_)
  refine ga1 (M := mX5_init) (pc' := 10) (k' := 4) (n' := 640) (r_newarr14 (M := mX5_init) (B := 160) hm2 hM3 (by decide) hf1 dX5_init_8) ?_
  refine ga_blR (fun b4 S5 x6 => ?_)
  refine ga_tk (fun h7 => ?_)
  refine ga_lk (fun hl8 => ?_)
  refine ga1 (M := mX5_init) (pc' := 13) (k' := 4) (n' := 640) (r_putR (M := mX5_init) fl_5_9 h7 (Or.inr ⟨rfl, rfl, rfl⟩) rfl hl8 dX5_init_10) ?_
  refine ga_blS (fun S9 x10 => ?_)
  refine ga1 (M := mX5_init) (pc' := 14) (k' := 4) (n' := 640) (r_aload_n (M := mX5_init) (i := 0) rfl dX5_init_13) ?_
  refine ga1 (M := mX5_init) (pc' := 15) (k' := 4) (n' := 640) (r_iconst (M := mX5_init) (v := 0) (by decide) dX5_init_14) ?_
  refine ga_tk (fun h11 => ?_)
  refine ga1 (M := mX5_init) (pc' := 18) (k' := 4) (n' := 640) (r_putI9 (M := mX5_init) fl_5_15 h11 (Or.inl rfl) rfl dX5_init_15) ?_
  refine ga_blx (fun x12 => ?_)
  refine ga1 (M := mX5_init) (pc' := 19) (k' := 4) (n' := 640) (r_aload_n (M := mX5_init) (i := 0) rfl dX5_init_18) ?_
  refine ga1 (M := mX5_init) (pc' := 22) (k' := 4) (n' := 640) (r_sipush (M := mX5_init) (v := 160) (by decide) dX5_init_19) ?_
  refine ga_fk (fun hf13 => ?_)
  refine ga_nk (fun hm14 hM15 => ?_)
  refine ga1 (M := mX5_init) (pc' := 24) (k' := 3) (n' := 480) (r_newarr14 (M := mX5_init) (B := 160) hm14 hM15 (by decide) hf13 dX5_init_22) ?_
  refine ga_blR (fun b16 S17 x18 => ?_)
  refine ga_tk (fun h19 => ?_)
  refine ga_lk (fun hl20 => ?_)
  refine ga1 (M := mX5_init) (pc' := 27) (k' := 3) (n' := 480) (r_putR (M := mX5_init) fl_5_19 h19 (Or.inr ⟨rfl, rfl, rfl⟩) rfl hl20 dX5_init_24) ?_
  refine ga_blS (fun S21 x22 => ?_)
  refine ga1 (M := mX5_init) (pc' := 28) (k' := 3) (n' := 480) (r_aload_n (M := mX5_init) (i := 0) rfl dX5_init_27) ?_
  refine ga1 (M := mX5_init) (pc' := 31) (k' := 3) (n' := 480) (r_sipush (M := mX5_init) (v := 160) (by decide) dX5_init_28) ?_
  refine ga_fk (fun hf23 => ?_)
  refine ga_nk (fun hm24 hM25 => ?_)
  refine ga1 (M := mX5_init) (pc' := 33) (k' := 2) (n' := 320) (r_newarr14 (M := mX5_init) (B := 160) hm24 hM25 (by decide) hf23 dX5_init_31) ?_
  refine ga_blR (fun b26 S27 x28 => ?_)
  refine ga_tk (fun h29 => ?_)
  refine ga_lk (fun hl30 => ?_)
  refine ga1 (M := mX5_init) (pc' := 36) (k' := 2) (n' := 320) (r_putR (M := mX5_init) fl_5_22 h29 (Or.inr ⟨rfl, rfl, rfl⟩) rfl hl30 dX5_init_33) ?_
  refine ga_blS (fun S31 x32 => ?_)
  refine ga1 (M := mX5_init) (pc' := 37) (k' := 2) (n' := 320) (r_aload_n (M := mX5_init) (i := 0) rfl dX5_init_36) ?_
  refine ga1 (M := mX5_init) (pc' := 40) (k' := 2) (n' := 320) (r_sipush (M := mX5_init) (v := 160) (by decide) dX5_init_37) ?_
  refine ga_fk (fun hf33 => ?_)
  refine ga_nk (fun hm34 hM35 => ?_)
  refine ga1 (M := mX5_init) (pc' := 42) (k' := 1) (n' := 160) (r_newarr14 (M := mX5_init) (B := 160) hm34 hM35 (by decide) hf33 dX5_init_40) ?_
  refine ga_blR (fun b36 S37 x38 => ?_)
  refine ga_tk (fun h39 => ?_)
  refine ga_lk (fun hl40 => ?_)
  refine ga1 (M := mX5_init) (pc' := 45) (k' := 1) (n' := 160) (r_putR (M := mX5_init) fl_5_25 h39 (Or.inr ⟨rfl, rfl, rfl⟩) rfl hl40 dX5_init_42) ?_
  refine ga_blS (fun S41 x42 => ?_)
  refine ga1 (M := mX5_init) (pc' := 46) (k' := 1) (n' := 160) (r_aload_n (M := mX5_init) (i := 0) rfl dX5_init_45) ?_
  refine ga1 (M := mX5_init) (pc' := 47) (k' := 1) (n' := 160) (r_iconst (M := mX5_init) (v := 0) (by decide) dX5_init_46) ?_
  refine ga_tk (fun h43 => ?_)
  refine ga1 (M := mX5_init) (pc' := 50) (k' := 1) (n' := 160) (r_putI9 (M := mX5_init) fl_5_28 h43 (Or.inl rfl) rfl dX5_init_47) ?_
  refine ga_blx (fun x44 => ?_)
  refine ga1 (M := mX5_init) (pc' := 51) (k' := 1) (n' := 160) (r_aload_n (M := mX5_init) (i := 0) rfl dX5_init_50) ?_
  refine ga1 (M := mX5_init) (pc' := 52) (k' := 1) (n' := 160) (r_iconst (M := mX5_init) (v := 0) (by decide) dX5_init_51) ?_
  refine ga_tk (fun h45 => ?_)
  refine ga1 (M := mX5_init) (pc' := 55) (k' := 1) (n' := 160) (r_putI9 (M := mX5_init) fl_5_31 h45 (Or.inl rfl) rfl dX5_init_52) ?_
  refine ga_blx (fun x46 => ?_)
  refine ga1 (M := mX5_init) (pc' := 56) (k' := 1) (n' := 160) (r_aload_n (M := mX5_init) (i := 0) rfl dX5_init_55) ?_
  refine ga1 (M := mX5_init) (pc' := 59) (k' := 1) (n' := 160) (r_sipush (M := mX5_init) (v := 160) (by decide) dX5_init_56) ?_
  refine ga_fk (fun hf47 => ?_)
  refine ga_nk (fun hm48 hM49 => ?_)
  refine ga1 (M := mX5_init) (pc' := 61) (k' := 0) (n' := 0) (r_newarr14 (M := mX5_init) (B := 160) hm48 hM49 (by decide) hf47 dX5_init_59) ?_
  refine ga_blR (fun b50 S51 x52 => ?_)
  refine ga_tk (fun h53 => ?_)
  refine ga_lk (fun hl54 => ?_)
  refine ga1 (M := mX5_init) (pc' := 64) (k' := 0) (n' := 0) (r_putR (M := mX5_init) fl_5_34 h53 (Or.inr ⟨rfl, rfl, rfl⟩) rfl hl54 dX5_init_61) ?_
  refine ga_blS (fun S55 x56 => ?_)
  refine ga1 (M := mX5_init) (pc' := 65) (k' := 0) (n' := 0) (r_aload_n (M := mX5_init) (i := 0) rfl dX5_init_64) ?_
  refine ga1 (M := mX5_init) (pc' := 66) (k' := 0) (n' := 0) (r_iconst (M := mX5_init) (v := 0) (by decide) dX5_init_65) ?_
  refine ga_tk (fun h57 => ?_)
  refine ga1 (M := mX5_init) (pc' := 69) (k' := 0) (n' := 0) (r_putI9 (M := mX5_init) fl_5_37 h57 (Or.inl rfl) rfl dX5_init_66) ?_
  refine ga_blx (fun x58 => ?_)
  refine ga1 (M := mX5_init) (pc' := 70) (k' := 0) (n' := 0) (r_aload_n (M := mX5_init) (i := 0) rfl dX5_init_69) ?_
  refine ga1 (M := mX5_init) (pc' := 71) (k' := 0) (n' := 0) (r_iconst (M := mX5_init) (v := 0) (by decide) dX5_init_70) ?_
  refine ga_tk (fun h59 => ?_)
  refine ga1 (M := mX5_init) (pc' := 74) (k' := 0) (n' := 0) (r_putI9 (M := mX5_init) fl_5_40 h59 (Or.inl rfl) rfl dX5_init_71) ?_
  refine ga_blx (fun x60 => ?_)
  refine ga1 (M := mX5_init) (pc' := 75) (k' := 0) (n' := 0) (r_aload_n (M := mX5_init) (i := 0) rfl dX5_init_74) ?_
  refine ga1 (M := mX5_init) (pc' := 76) (k' := 0) (n' := 0) (r_iconst (M := mX5_init) (v := 0) (by decide) dX5_init_75) ?_
  refine ga_tk (fun h61 => ?_)
  refine ga1 (M := mX5_init) (pc' := 79) (k' := 0) (n' := 0) (r_putI9 (M := mX5_init) fl_5_43 h61 (Or.inl rfl) rfl dX5_init_76) ?_
  refine ga_blx (fun x62 => ?_)
  exact ga_vret (M := mX5_init) rfl rfl dX5_init_79
set_option maxRecDepth 100000 in
def fA_X0_init (N : Nat) (S : SH) (a0 : Nat) (x : DY) : Option (SH × DY) :=
  fk S [some (.ref a0)] [.ref a0] (nk 7 7 (bl S.1 (fun b4 => bl (SN S 14 (7 : Int32).toNatClampNeg) (fun S5 => bl (XN x S.1) (fun x6 => tk S5 a0 0 (lk S5 b4 (bl (UP S5 a0 0 (some b4)) (fun S9 => bl x6 (fun x10 => fk S9 [some (.ref a0)] [.ref a0] (nk 31 31 (bl S9.1 (fun b14 => bl (SN S9 14 (31 : Int32).toNatClampNeg) (fun S15 => bl (XN x10 S9.1) (fun x16 => tk S15 a0 0 (lk S15 b14 (bl (UP S15 a0 1 (some b14)) (fun S19 => bl x16 (fun x20 => fk S19 [some (.ref a0)] [.ref a0] (nk 30 30 (bl S19.1 (fun b24 => bl (SN S19 14 (30 : Int32).toNatClampNeg) (fun S25 => bl (XN x20 S19.1) (fun x26 => tk S25 a0 0 (lk S25 b24 (bl (UP S25 a0 2 (some b24)) (fun S29 => bl x26 (fun x30 => tk S29 a0 0 (bl (U1 x30 a0 3 0) (fun x32 => tk S29 a0 0 (bl (U1 x32 a0 4 0) (fun x34 => some (S29, x34))))))))))))))))))))))))))))))))
set_option maxHeartbeats 20000000 in
set_option maxRecDepth 100000 in
theorem tA_X0_init {N d : Nat} {S : SH} {x : DY} {a0 : Nat} (hd : 1 ≤ d) : CA mX0_init d S [.ref a0] x 3 68 wAV (fA_X0_init N S a0 x) := by
  refine CA.of [some (.ref a0)] rfl (Nat.le_of_ble_eq_true rfl) (by decide +kernel) ?_
  unfold fA_X0_init
  refine ga1 (M := mX0_init) (pc' := 1) (k' := 3) (n' := 68) (r_aload_n (M := mX0_init) (i := 0) rfl dX0_init_0) ?_
  refine ga1 (M := mX0_init) (pc' := 4) (k' := 3) (n' := 68) (r_objInit (M := mX0_init) (tb1 151 (by decide +kernel) rfl) (by omega) (Nat.le_of_ble_eq_true rfl) dX0_init_1) ?_
  refine ga1 (M := mX0_init) (pc' := 5) (k' := 3) (n' := 68) (r_aload_n (M := mX0_init) (i := 0) rfl dX0_init_4) ?_
  refine ga1 (M := mX0_init) (pc' := 7) (k' := 3) (n' := 68) (r_bipush (M := mX0_init) (v := 7) (by decide) dX0_init_5) ?_
  refine ga_fk (fun hf1 => ?_)
  refine ga_nk (fun hm2 hM3 => ?_)
  refine ga1 (M := mX0_init) (pc' := 9) (k' := 2) (n' := 61) (r_newarr14 (M := mX0_init) (B := 7) hm2 hM3 (by decide) hf1 dX0_init_7) ?_
  refine ga_blR (fun b4 S5 x6 => ?_)
  refine ga_tk (fun h7 => ?_)
  refine ga_lk (fun hl8 => ?_)
  refine ga1 (M := mX0_init) (pc' := 12) (k' := 2) (n' := 61) (r_putR (M := mX0_init) fl_0_9 h7 (Or.inr ⟨rfl, rfl, rfl⟩) rfl hl8 dX0_init_9) ?_
  refine ga_blS (fun S9 x10 => ?_)
  refine ga1 (M := mX0_init) (pc' := 13) (k' := 2) (n' := 61) (r_aload_n (M := mX0_init) (i := 0) rfl dX0_init_12) ?_
  refine ga1 (M := mX0_init) (pc' := 15) (k' := 2) (n' := 61) (r_bipush (M := mX0_init) (v := 31) (by decide) dX0_init_13) ?_
  refine ga_fk (fun hf11 => ?_)
  refine ga_nk (fun hm12 hM13 => ?_)
  refine ga1 (M := mX0_init) (pc' := 17) (k' := 1) (n' := 30) (r_newarr14 (M := mX0_init) (B := 31) hm12 hM13 (by decide) hf11 dX0_init_15) ?_
  refine ga_blR (fun b14 S15 x16 => ?_)
  refine ga_tk (fun h17 => ?_)
  refine ga_lk (fun hl18 => ?_)
  refine ga1 (M := mX0_init) (pc' := 20) (k' := 1) (n' := 30) (r_putR (M := mX0_init) fl_0_13 h17 (Or.inr ⟨rfl, rfl, rfl⟩) rfl hl18 dX0_init_17) ?_
  refine ga_blS (fun S19 x20 => ?_)
  refine ga1 (M := mX0_init) (pc' := 21) (k' := 1) (n' := 30) (r_aload_n (M := mX0_init) (i := 0) rfl dX0_init_20) ?_
  refine ga1 (M := mX0_init) (pc' := 23) (k' := 1) (n' := 30) (r_bipush (M := mX0_init) (v := 30) (by decide) dX0_init_21) ?_
  refine ga_fk (fun hf21 => ?_)
  refine ga_nk (fun hm22 hM23 => ?_)
  refine ga1 (M := mX0_init) (pc' := 25) (k' := 0) (n' := 0) (r_newarr14 (M := mX0_init) (B := 30) hm22 hM23 (by decide) hf21 dX0_init_23) ?_
  refine ga_blR (fun b24 S25 x26 => ?_)
  refine ga_tk (fun h27 => ?_)
  refine ga_lk (fun hl28 => ?_)
  refine ga1 (M := mX0_init) (pc' := 28) (k' := 0) (n' := 0) (r_putR (M := mX0_init) fl_0_16 h27 (Or.inr ⟨rfl, rfl, rfl⟩) rfl hl28 dX0_init_25) ?_
  refine ga_blS (fun S29 x30 => ?_)
  refine ga1 (M := mX0_init) (pc' := 29) (k' := 0) (n' := 0) (r_aload_n (M := mX0_init) (i := 0) rfl dX0_init_28) ?_
  refine ga1 (M := mX0_init) (pc' := 30) (k' := 0) (n' := 0) (r_iconst (M := mX0_init) (v := 0) (by decide) dX0_init_29) ?_
  refine ga_tk (fun h31 => ?_)
  refine ga1 (M := mX0_init) (pc' := 33) (k' := 0) (n' := 0) (r_putI9 (M := mX0_init) fl_0_19 h31 (Or.inl rfl) rfl dX0_init_30) ?_
  refine ga_blx (fun x32 => ?_)
  refine ga1 (M := mX0_init) (pc' := 34) (k' := 0) (n' := 0) (r_aload_n (M := mX0_init) (i := 0) rfl dX0_init_33) ?_
  refine ga1 (M := mX0_init) (pc' := 35) (k' := 0) (n' := 0) (r_iconst (M := mX0_init) (v := 0) (by decide) dX0_init_34) ?_
  refine ga_tk (fun h33 => ?_)
  refine ga1 (M := mX0_init) (pc' := 38) (k' := 0) (n' := 0) (r_putI9 (M := mX0_init) fl_0_23 h33 (Or.inl rfl) rfl dX0_init_35) ?_
  refine ga_blx (fun x34 => ?_)
  exact ga_vret (M := mX0_init) rfl rfl dX0_init_38
set_option maxRecDepth 100000 in
def fA_X9_init (N : Nat) (S : SH) (a0 : Nat) (x : DY) : Option (SH × DY) :=
  fk S [some (.ref a0)] [.ref a0] (nk 4 4 (bl S.1 (fun b4 => bl (SN S 14 (4 : Int32).toNatClampNeg) (fun S5 => bl (XN x S.1) (fun x6 => tk S5 b4 14 (ck S5 b4 0 (bl (U1 x6 b4 (0 : Int32).toNatClampNeg (-1)) (fun x9 => tk S5 b4 14 (ck S5 b4 1 (bl (U1 x9 b4 (1 : Int32).toNatClampNeg (-1)) (fun x12 => tk S5 b4 14 (ck S5 b4 2 (bl (U1 x12 b4 (2 : Int32).toNatClampNeg (-1)) (fun x15 => tk S5 b4 14 (ck S5 b4 3 (bl (U1 x15 b4 (3 : Int32).toNatClampNeg (-1)) (fun x18 => tk S5 a0 9 (lk S5 b4 (bl (UP S5 a0 0 (some b4)) (fun S21 => bl x18 (fun x22 => fk S21 [some (.ref a0)] [.ref a0] (nk 4 4 (bl S21.1 (fun b26 => bl (SN S21 14 (4 : Int32).toNatClampNeg) (fun S27 => bl (XN x22 S21.1) (fun x28 => tk S27 a0 9 (lk S27 b26 (bl (UP S27 a0 1 (some b26)) (fun S31 => bl x28 (fun x32 => fk S31 [some (.ref a0)] [.ref a0] (bl S31.1 (fun b34 => bl (SM S31) (fun S35 => bl (XM x32 S31.1) (fun x36 => tk S35 a0 9 (lk S35 b34 (bl (UP S35 a0 2 (some b34)) (fun S39 => bl x36 (fun x40 => some (S39, x40)))))))))))))))))))))))))))))))))))))))
set_option maxHeartbeats 20000000 in
set_option maxRecDepth 100000 in
theorem tA_X9_init {N d : Nat} {S : SH} {x : DY} {a0 : Nat} (hd : 1 ≤ d) : CA mX9_init d S [.ref a0] x 7 172 wAV (fA_X9_init N S a0 x) := by
  refine CA.of [some (.ref a0)] rfl (Nat.le_of_ble_eq_true rfl) (by decide +kernel) ?_
  unfold fA_X9_init
  refine ga1 (M := mX9_init) (pc' := 1) (k' := 7) (n' := 172) (r_aload_n (M := mX9_init) (i := 0) rfl dX9_init_0) ?_
  refine ga1 (M := mX9_init) (pc' := 4) (k' := 7) (n' := 172) (r_objInit (M := mX9_init) (tb1 177 (by decide +kernel) rfl) (by omega) (Nat.le_of_ble_eq_true rfl) dX9_init_1) ?_
  refine ga1 (M := mX9_init) (pc' := 5) (k' := 7) (n' := 172) (r_aload_n (M := mX9_init) (i := 0) rfl dX9_init_4) ?_
  refine ga1 (M := mX9_init) (pc' := 6) (k' := 7) (n' := 172) (r_iconst (M := mX9_init) (v := 4) (by decide) dX9_init_5) ?_
  refine ga_fk (fun hf1 => ?_)
  refine ga_nk (fun hm2 hM3 => ?_)
  refine ga1 (M := mX9_init) (pc' := 8) (k' := 6) (n' := 168) (r_newarr14 (M := mX9_init) (B := 4) hm2 hM3 (by decide) hf1 dX9_init_6) ?_
  refine ga_blR (fun b4 S5 x6 => ?_)
  refine ga1 (M := mX9_init) (pc' := 9) (k' := 6) (n' := 168) (r_dup (M := mX9_init) rfl dX9_init_8) ?_
  refine ga1 (M := mX9_init) (pc' := 10) (k' := 6) (n' := 168) (r_iconst (M := mX9_init) (v := 0) (by decide) dX9_init_9) ?_
  refine ga1 (M := mX9_init) (pc' := 11) (k' := 6) (n' := 168) (r_iconst (M := mX9_init) (v := (-1)) (by decide) dX9_init_10) ?_
  refine ga_tk (fun h7 => ?_)
  refine ga_ck (fun hi8 => ?_)
  refine ga1 (M := mX9_init) (pc' := 12) (k' := 6) (n' := 168) (r_iast (M := mX9_init) h7 hi8 dX9_init_11) ?_
  refine ga_blx (fun x9 => ?_)
  refine ga1 (M := mX9_init) (pc' := 13) (k' := 6) (n' := 168) (r_dup (M := mX9_init) rfl dX9_init_12) ?_
  refine ga1 (M := mX9_init) (pc' := 14) (k' := 6) (n' := 168) (r_iconst (M := mX9_init) (v := 1) (by decide) dX9_init_13) ?_
  refine ga1 (M := mX9_init) (pc' := 15) (k' := 6) (n' := 168) (r_iconst (M := mX9_init) (v := (-1)) (by decide) dX9_init_14) ?_
  refine ga_tk (fun h10 => ?_)
  refine ga_ck (fun hi11 => ?_)
  refine ga1 (M := mX9_init) (pc' := 16) (k' := 6) (n' := 168) (r_iast (M := mX9_init) h10 hi11 dX9_init_15) ?_
  refine ga_blx (fun x12 => ?_)
  refine ga1 (M := mX9_init) (pc' := 17) (k' := 6) (n' := 168) (r_dup (M := mX9_init) rfl dX9_init_16) ?_
  refine ga1 (M := mX9_init) (pc' := 18) (k' := 6) (n' := 168) (r_iconst (M := mX9_init) (v := 2) (by decide) dX9_init_17) ?_
  refine ga1 (M := mX9_init) (pc' := 19) (k' := 6) (n' := 168) (r_iconst (M := mX9_init) (v := (-1)) (by decide) dX9_init_18) ?_
  refine ga_tk (fun h13 => ?_)
  refine ga_ck (fun hi14 => ?_)
  refine ga1 (M := mX9_init) (pc' := 20) (k' := 6) (n' := 168) (r_iast (M := mX9_init) h13 hi14 dX9_init_19) ?_
  refine ga_blx (fun x15 => ?_)
  refine ga1 (M := mX9_init) (pc' := 21) (k' := 6) (n' := 168) (r_dup (M := mX9_init) rfl dX9_init_20) ?_
  refine ga1 (M := mX9_init) (pc' := 22) (k' := 6) (n' := 168) (r_iconst (M := mX9_init) (v := 3) (by decide) dX9_init_21) ?_
  refine ga1 (M := mX9_init) (pc' := 23) (k' := 6) (n' := 168) (r_iconst (M := mX9_init) (v := (-1)) (by decide) dX9_init_22) ?_
  refine ga_tk (fun h16 => ?_)
  refine ga_ck (fun hi17 => ?_)
  refine ga1 (M := mX9_init) (pc' := 24) (k' := 6) (n' := 168) (r_iast (M := mX9_init) h16 hi17 dX9_init_23) ?_
  refine ga_blx (fun x18 => ?_)
  refine ga_tk (fun h19 => ?_)
  refine ga_lk (fun hl20 => ?_)
  refine ga1 (M := mX9_init) (pc' := 27) (k' := 6) (n' := 168) (r_putR (M := mX9_init) fl_9_9 h19 (Or.inr ⟨rfl, rfl, rfl⟩) rfl hl20 dX9_init_24) ?_
  refine ga_blS (fun S21 x22 => ?_)
  refine ga1 (M := mX9_init) (pc' := 28) (k' := 6) (n' := 168) (r_aload_n (M := mX9_init) (i := 0) rfl dX9_init_27) ?_
  refine ga1 (M := mX9_init) (pc' := 29) (k' := 6) (n' := 168) (r_iconst (M := mX9_init) (v := 4) (by decide) dX9_init_28) ?_
  refine ga_fk (fun hf23 => ?_)
  refine ga_nk (fun hm24 hM25 => ?_)
  refine ga1 (M := mX9_init) (pc' := 31) (k' := 5) (n' := 164) (r_newarr14 (M := mX9_init) (B := 4) hm24 hM25 (by decide) hf23 dX9_init_29) ?_
  refine ga_blR (fun b26 S27 x28 => ?_)
  refine ga_tk (fun h29 => ?_)
  refine ga_lk (fun hl30 => ?_)
  refine ga1 (M := mX9_init) (pc' := 34) (k' := 5) (n' := 164) (r_putR (M := mX9_init) fl_9_13 h29 (Or.inr ⟨rfl, rfl, rfl⟩) rfl hl30 dX9_init_31) ?_
  refine ga_blS (fun S31 x32 => ?_)
  refine ga1 (M := mX9_init) (pc' := 35) (k' := 5) (n' := 164) (r_aload_n (M := mX9_init) (i := 0) rfl dX9_init_34) ?_
  refine ga1 (M := mX9_init) (pc' := 36) (k' := 5) (n' := 164) (r_iconst (M := mX9_init) (v := 4) (by decide) dX9_init_35) ?_
  refine ga1 (M := mX9_init) (pc' := 38) (k' := 5) (n' := 164) (r_bipush (M := mX9_init) (v := 40) (by decide) dX9_init_36) ?_
  refine ga_fk (fun hf33 => ?_)
  refine ga1 (M := mX9_init) (pc' := 42) (k' := 0) (n' := 0) (r_mna (M := mX9_init) (tb1 178 (by decide +kernel) rfl) hf33 dX9_init_38) ?_
  refine ga_blR (fun b34 S35 x36 => ?_)
  refine ga_tk (fun h37 => ?_)
  refine ga_lk (fun hl38 => ?_)
  refine ga1 (M := mX9_init) (pc' := 45) (k' := 0) (n' := 0) (r_putR (M := mX9_init) fl_9_18 h37 (Or.inr ⟨rfl, rfl, rfl⟩) rfl hl38 dX9_init_42) ?_
  refine ga_blS (fun S39 x40 => ?_)
  exact ga_vret (M := mX9_init) rfl rfl dX9_init_45
set_option maxRecDepth 100000 in
def fA_X4_init (N : Nat) (S : SH) (a0 : Nat) (x : DY) : Option (SH × DY) :=
  fk S [some (.ref a0)] [.ref a0] (nk 300 300 (bl S.1 (fun b4 => bl (SN S 14 (300 : Int32).toNatClampNeg) (fun S5 => bl (XN x S.1) (fun x6 => tk S5 a0 4 (lk S5 b4 (bl (UP S5 a0 0 (some b4)) (fun S9 => bl x6 (fun x10 => fk S9 [some (.ref a0)] [.ref a0] (nk 300 300 (bl S9.1 (fun b14 => bl (SN S9 14 (300 : Int32).toNatClampNeg) (fun S15 => bl (XN x10 S9.1) (fun x16 => tk S15 a0 4 (lk S15 b14 (bl (UP S15 a0 1 (some b14)) (fun S19 => bl x16 (fun x20 => fk S19 [some (.ref a0)] [.ref a0] (nk 300 300 (bl S19.1 (fun b24 => bl (SN S19 14 (300 : Int32).toNatClampNeg) (fun S25 => bl (XN x20 S19.1) (fun x26 => tk S25 a0 4 (lk S25 b24 (bl (UP S25 a0 2 (some b24)) (fun S29 => bl x26 (fun x30 => fk S29 [some (.ref a0)] [.ref a0] (nk 300 300 (bl S29.1 (fun b34 => bl (SN S29 14 (300 : Int32).toNatClampNeg) (fun S35 => bl (XN x30 S29.1) (fun x36 => tk S35 a0 4 (lk S35 b34 (bl (UP S35 a0 3 (some b34)) (fun S39 => bl x36 (fun x40 => fk S39 [some (.ref a0)] [.ref a0] (nk 300 300 (bl S39.1 (fun b44 => bl (SN S39 14 (300 : Int32).toNatClampNeg) (fun S45 => bl (XN x40 S39.1) (fun x46 => tk S45 a0 4 (lk S45 b44 (bl (UP S45 a0 4 (some b44)) (fun S49 => bl x46 (fun x50 => tk S49 a0 4 (bl (U1 x50 a0 5 0) (fun x52 => some (S49, x52))))))))))))))))))))))))))))))))))))))))))))))))
set_option maxHeartbeats 20000000 in
set_option maxRecDepth 100000 in
theorem tA_X4_init {N d : Nat} {S : SH} {x : DY} {a0 : Nat} (hd : 1 ≤ d) : CA mX4_init d S [.ref a0] x 5 1500 wAV (fA_X4_init N S a0 x) := by
  refine CA.of [some (.ref a0)] rfl (Nat.le_of_ble_eq_true rfl) (by decide +kernel) ?_
  unfold fA_X4_init
  refine ga1 (M := mX4_init) (pc' := 1) (k' := 5) (n' := 1500) (r_aload_n (M := mX4_init) (i := 0) rfl dX4_init_0) ?_
  refine ga1 (M := mX4_init) (pc' := 4) (k' := 5) (n' := 1500) (r_objInit (M := mX4_init) (tb1 206 (by decide +kernel) rfl) (by omega) (Nat.le_of_ble_eq_true rfl) dX4_init_1) ?_
  refine ga1 (M := mX4_init) (pc' := 5) (k' := 5) (n' := 1500) (r_aload_n (M := mX4_init) (i := 0) rfl dX4_init_4) ?_
  refine ga1 (M := mX4_init) (pc' := 8) (k' := 5) (n' := 1500) (r_sipush (M := mX4_init) (v := 300) (by decide) dX4_init_5) ?_
  refine ga_fk (fun hf1 => ?_)
  refine ga_nk (fun hm2 hM3 => ?_)
  refine ga1 (M := mX4_init) (pc' := 10) (k' := 4) (n' := 1200) (r_newarr14 (M := mX4_init) (B := 300) hm2 hM3 (by decide) hf1 dX4_init_8) ?_
  refine ga_blR (fun b4 S5 x6 => ?_)
  refine ga_tk (fun h7 => ?_)
  refine ga_lk (fun hl8 => ?_)
  refine ga1 (M := mX4_init) (pc' := 13) (k' := 4) (n' := 1200) (r_putR (M := mX4_init) fl_4_9 h7 (Or.inr ⟨rfl, rfl, rfl⟩) rfl hl8 dX4_init_10) ?_
  refine ga_blS (fun S9 x10 => ?_)
  refine ga1 (M := mX4_init) (pc' := 14) (k' := 4) (n' := 1200) (r_aload_n (M := mX4_init) (i := 0) rfl dX4_init_13) ?_
  refine ga1 (M := mX4_init) (pc' := 17) (k' := 4) (n' := 1200) (r_sipush (M := mX4_init) (v := 300) (by decide) dX4_init_14) ?_
  refine ga_fk (fun hf11 => ?_)
  refine ga_nk (fun hm12 hM13 => ?_)
  refine ga1 (M := mX4_init) (pc' := 19) (k' := 3) (n' := 900) (r_newarr14 (M := mX4_init) (B := 300) hm12 hM13 (by decide) hf11 dX4_init_17) ?_
  refine ga_blR (fun b14 S15 x16 => ?_)
  refine ga_tk (fun h17 => ?_)
  refine ga_lk (fun hl18 => ?_)
  refine ga1 (M := mX4_init) (pc' := 22) (k' := 3) (n' := 900) (r_putR (M := mX4_init) fl_4_15 h17 (Or.inr ⟨rfl, rfl, rfl⟩) rfl hl18 dX4_init_19) ?_
  refine ga_blS (fun S19 x20 => ?_)
  refine ga1 (M := mX4_init) (pc' := 23) (k' := 3) (n' := 900) (r_aload_n (M := mX4_init) (i := 0) rfl dX4_init_22) ?_
  refine ga1 (M := mX4_init) (pc' := 26) (k' := 3) (n' := 900) (r_sipush (M := mX4_init) (v := 300) (by decide) dX4_init_23) ?_
  refine ga_fk (fun hf21 => ?_)
  refine ga_nk (fun hm22 hM23 => ?_)
  refine ga1 (M := mX4_init) (pc' := 28) (k' := 2) (n' := 600) (r_newarr14 (M := mX4_init) (B := 300) hm22 hM23 (by decide) hf21 dX4_init_26) ?_
  refine ga_blR (fun b24 S25 x26 => ?_)
  refine ga_tk (fun h27 => ?_)
  refine ga_lk (fun hl28 => ?_)
  refine ga1 (M := mX4_init) (pc' := 31) (k' := 2) (n' := 600) (r_putR (M := mX4_init) fl_4_18 h27 (Or.inr ⟨rfl, rfl, rfl⟩) rfl hl28 dX4_init_28) ?_
  refine ga_blS (fun S29 x30 => ?_)
  refine ga1 (M := mX4_init) (pc' := 32) (k' := 2) (n' := 600) (r_aload_n (M := mX4_init) (i := 0) rfl dX4_init_31) ?_
  refine ga1 (M := mX4_init) (pc' := 35) (k' := 2) (n' := 600) (r_sipush (M := mX4_init) (v := 300) (by decide) dX4_init_32) ?_
  refine ga_fk (fun hf31 => ?_)
  refine ga_nk (fun hm32 hM33 => ?_)
  refine ga1 (M := mX4_init) (pc' := 37) (k' := 1) (n' := 300) (r_newarr14 (M := mX4_init) (B := 300) hm32 hM33 (by decide) hf31 dX4_init_35) ?_
  refine ga_blR (fun b34 S35 x36 => ?_)
  refine ga_tk (fun h37 => ?_)
  refine ga_lk (fun hl38 => ?_)
  refine ga1 (M := mX4_init) (pc' := 40) (k' := 1) (n' := 300) (r_putR (M := mX4_init) fl_4_21 h37 (Or.inr ⟨rfl, rfl, rfl⟩) rfl hl38 dX4_init_37) ?_
  refine ga_blS (fun S39 x40 => ?_)
  refine ga1 (M := mX4_init) (pc' := 41) (k' := 1) (n' := 300) (r_aload_n (M := mX4_init) (i := 0) rfl dX4_init_40) ?_
  refine ga1 (M := mX4_init) (pc' := 44) (k' := 1) (n' := 300) (r_sipush (M := mX4_init) (v := 300) (by decide) dX4_init_41) ?_
  refine ga_fk (fun hf41 => ?_)
  refine ga_nk (fun hm42 hM43 => ?_)
  refine ga1 (M := mX4_init) (pc' := 46) (k' := 0) (n' := 0) (r_newarr14 (M := mX4_init) (B := 300) hm42 hM43 (by decide) hf41 dX4_init_44) ?_
  refine ga_blR (fun b44 S45 x46 => ?_)
  refine ga_tk (fun h47 => ?_)
  refine ga_lk (fun hl48 => ?_)
  refine ga1 (M := mX4_init) (pc' := 49) (k' := 0) (n' := 0) (r_putR (M := mX4_init) fl_4_24 h47 (Or.inr ⟨rfl, rfl, rfl⟩) rfl hl48 dX4_init_46) ?_
  refine ga_blS (fun S49 x50 => ?_)
  refine ga1 (M := mX4_init) (pc' := 50) (k' := 0) (n' := 0) (r_aload_n (M := mX4_init) (i := 0) rfl dX4_init_49) ?_
  refine ga1 (M := mX4_init) (pc' := 51) (k' := 0) (n' := 0) (r_iconst (M := mX4_init) (v := 0) (by decide) dX4_init_50) ?_
  refine ga_tk (fun h51 => ?_)
  refine ga1 (M := mX4_init) (pc' := 54) (k' := 0) (n' := 0) (r_putI9 (M := mX4_init) fl_4_27 h51 (Or.inl rfl) rfl dX4_init_51) ?_
  refine ga_blx (fun x52 => ?_)
  exact ga_vret (M := mX4_init) rfl rfl dX4_init_54
set_option maxRecDepth 100000 in
def fA_X8_init (N : Nat) (S : SH) (a0 : Nat) (x : DY) : Option (SH × DY) :=
  fk S [some (.ref a0)] [.ref a0] (nk 8 8 (bl S.1 (fun b4 => bl (SN S 14 (8 : Int32).toNatClampNeg) (fun S5 => bl (XN x S.1) (fun x6 => tk S5 a0 8 (lk S5 b4 (bl (UP S5 a0 0 (some b4)) (fun S9 => bl x6 (fun x10 => fk S9 [some (.ref a0)] [.ref a0] (nk 8 8 (bl S9.1 (fun b14 => bl (SN S9 14 (8 : Int32).toNatClampNeg) (fun S15 => bl (XN x10 S9.1) (fun x16 => tk S15 a0 8 (lk S15 b14 (bl (UP S15 a0 1 (some b14)) (fun S19 => bl x16 (fun x20 => fk S19 [some (.ref a0)] [.ref a0] (nk 8 8 (bl S19.1 (fun b24 => bl (SN S19 14 (8 : Int32).toNatClampNeg) (fun S25 => bl (XN x20 S19.1) (fun x26 => tk S25 a0 8 (lk S25 b24 (bl (UP S25 a0 2 (some b24)) (fun S29 => bl x26 (fun x30 => fk S29 [some (.ref a0)] [.ref a0] (nk 8 8 (bl S29.1 (fun b34 => bl (SN S29 14 (8 : Int32).toNatClampNeg) (fun S35 => bl (XN x30 S29.1) (fun x36 => tk S35 a0 8 (lk S35 b34 (bl (UP S35 a0 3 (some b34)) (fun S39 => bl x36 (fun x40 => fk S39 [some (.ref a0)] [.ref a0] (nk 8 8 (bl S39.1 (fun b44 => bl (SN S39 14 (8 : Int32).toNatClampNeg) (fun S45 => bl (XN x40 S39.1) (fun x46 => tk S45 a0 8 (lk S45 b44 (bl (UP S45 a0 4 (some b44)) (fun S49 => bl x46 (fun x50 => fk S49 [some (.ref a0)] [.ref a0] (nk 8 8 (bl S49.1 (fun b54 => bl (SN S49 14 (8 : Int32).toNatClampNeg) (fun S55 => bl (XN x50 S49.1) (fun x56 => tk S55 a0 8 (lk S55 b54 (bl (UP S55 a0 5 (some b54)) (fun S59 => bl x56 (fun x60 => fk S59 [some (.ref a0)] [.ref a0] (nk 8 8 (bl S59.1 (fun b64 => bl (SN S59 14 (8 : Int32).toNatClampNeg) (fun S65 => bl (XN x60 S59.1) (fun x66 => tk S65 a0 8 (lk S65 b64 (bl (UP S65 a0 6 (some b64)) (fun S69 => bl x66 (fun x70 => tk S69 a0 8 (bl (U1 x70 a0 7 0) (fun x72 => some (S69, x72))))))))))))))))))))))))))))))))))))))))))))))))))))))))))))))))))
set_option maxHeartbeats 20000000 in
set_option maxRecDepth 100000 in
theorem tA_X8_init {N d : Nat} {S : SH} {x : DY} {a0 : Nat} (hd : 1 ≤ d) : CA mX8_init d S [.ref a0] x 7 56 wAV (fA_X8_init N S a0 x) := by
  refine CA.of [some (.ref a0)] rfl (Nat.le_of_ble_eq_true rfl) (by decide +kernel) ?_
  unfold fA_X8_init
  refine ga1 (M := mX8_init) (pc' := 1) (k' := 7) (n' := 56) (r_aload_n (M := mX8_init) (i := 0) rfl dX8_init_0) ?_
  refine ga1 (M := mX8_init) (pc' := 4) (k' := 7) (n' := 56) (r_objInit (M := mX8_init) (tb2 2 (by decide +kernel) rfl) (by omega) (Nat.le_of_ble_eq_true rfl) dX8_init_1) ?_
  refine ga1 (M := mX8_init) (pc' := 5) (k' := 7) (n' := 56) (r_aload_n (M := mX8_init) (i := 0) rfl dX8_init_4) ?_
  refine ga1 (M := mX8_init) (pc' := 7) (k' := 7) (n' := 56) (r_bipush (M := mX8_init) (v := 8) (by decide) dX8_init_5) ?_
  refine ga_fk (fun hf1 => ?_)
  refine ga_nk (fun hm2 hM3 => ?_)
  refine ga1 (M := mX8_init) (pc' := 9) (k' := 6) (n' := 48) (r_newarr14 (M := mX8_init) (B := 8) hm2 hM3 (by decide) hf1 dX8_init_7) ?_
  refine ga_blR (fun b4 S5 x6 => ?_)
  refine ga_tk (fun h7 => ?_)
  refine ga_lk (fun hl8 => ?_)
  refine ga1 (M := mX8_init) (pc' := 12) (k' := 6) (n' := 48) (r_putR (M := mX8_init) fl_8_9 h7 (Or.inr ⟨rfl, rfl, rfl⟩) rfl hl8 dX8_init_9) ?_
  refine ga_blS (fun S9 x10 => ?_)
  refine ga1 (M := mX8_init) (pc' := 13) (k' := 6) (n' := 48) (r_aload_n (M := mX8_init) (i := 0) rfl dX8_init_12) ?_
  refine ga1 (M := mX8_init) (pc' := 15) (k' := 6) (n' := 48) (r_bipush (M := mX8_init) (v := 8) (by decide) dX8_init_13) ?_
  refine ga_fk (fun hf11 => ?_)
  refine ga_nk (fun hm12 hM13 => ?_)
  refine ga1 (M := mX8_init) (pc' := 17) (k' := 5) (n' := 40) (r_newarr14 (M := mX8_init) (B := 8) hm12 hM13 (by decide) hf11 dX8_init_15) ?_
  refine ga_blR (fun b14 S15 x16 => ?_)
  refine ga_tk (fun h17 => ?_)
  refine ga_lk (fun hl18 => ?_)
  refine ga1 (M := mX8_init) (pc' := 20) (k' := 5) (n' := 40) (r_putR (M := mX8_init) fl_8_15 h17 (Or.inr ⟨rfl, rfl, rfl⟩) rfl hl18 dX8_init_17) ?_
  refine ga_blS (fun S19 x20 => ?_)
  refine ga1 (M := mX8_init) (pc' := 21) (k' := 5) (n' := 40) (r_aload_n (M := mX8_init) (i := 0) rfl dX8_init_20) ?_
  refine ga1 (M := mX8_init) (pc' := 23) (k' := 5) (n' := 40) (r_bipush (M := mX8_init) (v := 8) (by decide) dX8_init_21) ?_
  refine ga_fk (fun hf21 => ?_)
  refine ga_nk (fun hm22 hM23 => ?_)
  refine ga1 (M := mX8_init) (pc' := 25) (k' := 4) (n' := 32) (r_newarr14 (M := mX8_init) (B := 8) hm22 hM23 (by decide) hf21 dX8_init_23) ?_
  refine ga_blR (fun b24 S25 x26 => ?_)
  refine ga_tk (fun h27 => ?_)
  refine ga_lk (fun hl28 => ?_)
  refine ga1 (M := mX8_init) (pc' := 28) (k' := 4) (n' := 32) (r_putR (M := mX8_init) fl_8_18 h27 (Or.inr ⟨rfl, rfl, rfl⟩) rfl hl28 dX8_init_25) ?_
  refine ga_blS (fun S29 x30 => ?_)
  refine ga1 (M := mX8_init) (pc' := 29) (k' := 4) (n' := 32) (r_aload_n (M := mX8_init) (i := 0) rfl dX8_init_28) ?_
  refine ga1 (M := mX8_init) (pc' := 31) (k' := 4) (n' := 32) (r_bipush (M := mX8_init) (v := 8) (by decide) dX8_init_29) ?_
  refine ga_fk (fun hf31 => ?_)
  refine ga_nk (fun hm32 hM33 => ?_)
  refine ga1 (M := mX8_init) (pc' := 33) (k' := 3) (n' := 24) (r_newarr14 (M := mX8_init) (B := 8) hm32 hM33 (by decide) hf31 dX8_init_31) ?_
  refine ga_blR (fun b34 S35 x36 => ?_)
  refine ga_tk (fun h37 => ?_)
  refine ga_lk (fun hl38 => ?_)
  refine ga1 (M := mX8_init) (pc' := 36) (k' := 3) (n' := 24) (r_putR (M := mX8_init) fl_8_21 h37 (Or.inr ⟨rfl, rfl, rfl⟩) rfl hl38 dX8_init_33) ?_
  refine ga_blS (fun S39 x40 => ?_)
  refine ga1 (M := mX8_init) (pc' := 37) (k' := 3) (n' := 24) (r_aload_n (M := mX8_init) (i := 0) rfl dX8_init_36) ?_
  refine ga1 (M := mX8_init) (pc' := 39) (k' := 3) (n' := 24) (r_bipush (M := mX8_init) (v := 8) (by decide) dX8_init_37) ?_
  refine ga_fk (fun hf41 => ?_)
  refine ga_nk (fun hm42 hM43 => ?_)
  refine ga1 (M := mX8_init) (pc' := 41) (k' := 2) (n' := 16) (r_newarr14 (M := mX8_init) (B := 8) hm42 hM43 (by decide) hf41 dX8_init_39) ?_
  refine ga_blR (fun b44 S45 x46 => ?_)
  refine ga_tk (fun h47 => ?_)
  refine ga_lk (fun hl48 => ?_)
  refine ga1 (M := mX8_init) (pc' := 44) (k' := 2) (n' := 16) (r_putR (M := mX8_init) fl_8_24 h47 (Or.inr ⟨rfl, rfl, rfl⟩) rfl hl48 dX8_init_41) ?_
  refine ga_blS (fun S49 x50 => ?_)
  refine ga1 (M := mX8_init) (pc' := 45) (k' := 2) (n' := 16) (r_aload_n (M := mX8_init) (i := 0) rfl dX8_init_44) ?_
  refine ga1 (M := mX8_init) (pc' := 47) (k' := 2) (n' := 16) (r_bipush (M := mX8_init) (v := 8) (by decide) dX8_init_45) ?_
  refine ga_fk (fun hf51 => ?_)
  refine ga_nk (fun hm52 hM53 => ?_)
  refine ga1 (M := mX8_init) (pc' := 49) (k' := 1) (n' := 8) (r_newarr14 (M := mX8_init) (B := 8) hm52 hM53 (by decide) hf51 dX8_init_47) ?_
  refine ga_blR (fun b54 S55 x56 => ?_)
  refine ga_tk (fun h57 => ?_)
  refine ga_lk (fun hl58 => ?_)
  refine ga1 (M := mX8_init) (pc' := 52) (k' := 1) (n' := 8) (r_putR (M := mX8_init) fl_8_27 h57 (Or.inr ⟨rfl, rfl, rfl⟩) rfl hl58 dX8_init_49) ?_
  refine ga_blS (fun S59 x60 => ?_)
  refine ga1 (M := mX8_init) (pc' := 53) (k' := 1) (n' := 8) (r_aload_n (M := mX8_init) (i := 0) rfl dX8_init_52) ?_
  refine ga1 (M := mX8_init) (pc' := 55) (k' := 1) (n' := 8) (r_bipush (M := mX8_init) (v := 8) (by decide) dX8_init_53) ?_
  refine ga_fk (fun hf61 => ?_)
  refine ga_nk (fun hm62 hM63 => ?_)
  refine ga1 (M := mX8_init) (pc' := 57) (k' := 0) (n' := 0) (r_newarr14 (M := mX8_init) (B := 8) hm62 hM63 (by decide) hf61 dX8_init_55) ?_
  refine ga_blR (fun b64 S65 x66 => ?_)
  refine ga_tk (fun h67 => ?_)
  refine ga_lk (fun hl68 => ?_)
  refine ga1 (M := mX8_init) (pc' := 60) (k' := 0) (n' := 0) (r_putR (M := mX8_init) fl_8_30 h67 (Or.inr ⟨rfl, rfl, rfl⟩) rfl hl68 dX8_init_57) ?_
  refine ga_blS (fun S69 x70 => ?_)
  refine ga1 (M := mX8_init) (pc' := 61) (k' := 0) (n' := 0) (r_aload_n (M := mX8_init) (i := 0) rfl dX8_init_60) ?_
  refine ga1 (M := mX8_init) (pc' := 62) (k' := 0) (n' := 0) (r_iconst (M := mX8_init) (v := 0) (by decide) dX8_init_61) ?_
  refine ga_tk (fun h71 => ?_)
  refine ga1 (M := mX8_init) (pc' := 65) (k' := 0) (n' := 0) (r_putI9 (M := mX8_init) fl_8_33 h71 (Or.inl rfl) rfl dX8_init_62) ?_
  refine ga_blx (fun x72 => ?_)
  exact ga_vret (M := mX8_init) rfl rfl dX8_init_65
set_option maxRecDepth 100000 in
def fA_X2_init (N : Nat) (S : SH) (a0 : Nat) (a1 : Int32) (x : DY) : Option (SH × DY) :=
  fk S [some (.ref a0), some (.int a1)] [.ref a0] (nk 16 16 (bl S.1 (fun b4 => bl (SN S 14 (16 : Int32).toNatClampNeg) (fun S5 => bl (XN x S.1) (fun x6 => tk S5 a0 2 (lk S5 b4 (bl (UP S5 a0 1 (some b4)) (fun S9 => bl x6 (fun x10 => tk S9 a0 2 (bl (U1 x10 a0 2 0) (fun x12 => fk S9 [some (.ref a0), some (.int a1)] [.ref a0] (Option.bind (f_J9_max_7cf53 N S9 a1 1 x12) (fun r13 => fk S9 [some (.ref a0), some (.int a1)] [.ref a0] (nk r13 160 (bl S9.1 (fun b18 => bl (SN S9 14 r13.toNatClampNeg) (fun S19 => bl (XN x12 S9.1) (fun x20 => tk S19 a0 2 (lk S19 b18 (bl (UP S19 a0 0 (some b18)) (fun S23 => bl x20 (fun x24 => tk S23 a0 2 (rfk (S23.2.2.2 a0 0) (fun b26 => fk S23 [some (.ref a0), some (.int a1)] [] (tk S23 b26 14 (Option.bind (f_J7_fill_53178 N S23 b26 (-1) x24) (fun r28 => some (S23, r28))))))))))))))))))))))))))))
set_option maxHeartbeats 20000000 in
set_option maxRecDepth 100000 in
theorem tA_X2_init {N d : Nat} {S : SH} {x : DY} {a0 : Nat} {a1 : Int32} (hd : 2 ≤ d) : CA mX2_init d S [.ref a0, .int a1] x 2 176 wAV (fA_X2_init N S a0 a1 x) := by
  refine CA.of [some (.ref a0), some (.int a1)] rfl (Nat.le_of_ble_eq_true rfl) (by decide +kernel) ?_
  unfold fA_X2_init
  refine ga1 (M := mX2_init) (pc' := 1) (k' := 2) (n' := 176) (r_aload_n (M := mX2_init) (i := 0) rfl dX2_init_0) ?_
  refine ga1 (M := mX2_init) (pc' := 4) (k' := 2) (n' := 176) (r_objInit (M := mX2_init) (tb2 50 (by decide +kernel) rfl) (by omega) (Nat.le_of_ble_eq_true rfl) dX2_init_1) ?_
  refine ga1 (M := mX2_init) (pc' := 5) (k' := 2) (n' := 176) (r_aload_n (M := mX2_init) (i := 0) rfl dX2_init_4) ?_
  refine ga1 (M := mX2_init) (pc' := 7) (k' := 2) (n' := 176) (r_bipush (M := mX2_init) (v := 16) (by decide) dX2_init_5) ?_
  refine ga_fk (fun hf1 => ?_)
  refine ga_nk (fun hm2 hM3 => ?_)
  refine ga1 (M := mX2_init) (pc' := 9) (k' := 1) (n' := 160) (r_newarr14 (M := mX2_init) (B := 16) hm2 hM3 (by decide) hf1 dX2_init_7) ?_
  refine ga_blR (fun b4 S5 x6 => ?_)
  refine ga_tk (fun h7 => ?_)
  refine ga_lk (fun hl8 => ?_)
  refine ga1 (M := mX2_init) (pc' := 12) (k' := 1) (n' := 160) (r_putR (M := mX2_init) fl_2_9 h7 (Or.inr ⟨rfl, rfl, rfl⟩) rfl hl8 dX2_init_9) ?_
  refine ga_blS (fun S9 x10 => ?_)
  refine ga1 (M := mX2_init) (pc' := 13) (k' := 1) (n' := 160) (r_aload_n (M := mX2_init) (i := 0) rfl dX2_init_12) ?_
  refine ga1 (M := mX2_init) (pc' := 14) (k' := 1) (n' := 160) (r_iconst (M := mX2_init) (v := 0) (by decide) dX2_init_13) ?_
  refine ga_tk (fun h11 => ?_)
  refine ga1 (M := mX2_init) (pc' := 17) (k' := 1) (n' := 160) (r_putI9 (M := mX2_init) fl_2_15 h11 (Or.inl rfl) rfl dX2_init_14) ?_
  refine ga_blx (fun x12 => ?_)
  refine ga1 (M := mX2_init) (pc' := 18) (k' := 1) (n' := 160) (r_aload_n (M := mX2_init) (i := 0) rfl dX2_init_17) ?_
  refine ga1 (M := mX2_init) (pc' := 19) (k' := 1) (n' := 160) (r_iload_n (M := mX2_init) (i := 1) rfl dX2_init_18) ?_
  refine ga1 (M := mX2_init) (pc' := 20) (k' := 1) (n' := 160) (r_iconst (M := mX2_init) (v := 1) (by decide) dX2_init_19) ?_
  refine ga_fk (fun hf14 => ?_)
  refine ga_S (M := mX2_init) (As := [.int a1, .int 1]) (st := [.ref a0]) (mc := 0) (ms := 0) (k' := 1) (n' := 160) ln_2_19 lb_J9_max_7cf53 (CT.CA (t_J9_max_7cf53 (N := N) (by omega) )) (by omega) (Nat.le_of_ble_eq_true rfl) rfl dX2_init_20 hf14 rfl rfl (fun r13 => ?_)
  show GA mX2_init d _ _ _ 23 [some (.ref a0), some (.int a1)] [.int r13, .ref a0] S9 x12 1 160 _
  refine ga_fk (fun hf15 => ?_)
  refine ga_nk (fun hm16 hM17 => ?_)
  refine ga1 (M := mX2_init) (pc' := 25) (k' := 0) (n' := 0) (r_newarr14 (M := mX2_init) (B := 160) hm16 hM17 (by decide) hf15 dX2_init_23) ?_
  refine ga_blR (fun b18 S19 x20 => ?_)
  refine ga_tk (fun h21 => ?_)
  refine ga_lk (fun hl22 => ?_)
  refine ga1 (M := mX2_init) (pc' := 28) (k' := 0) (n' := 0) (r_putR (M := mX2_init) fl_2_25 h21 (Or.inr ⟨rfl, rfl, rfl⟩) rfl hl22 dX2_init_25) ?_
  refine ga_blS (fun S23 x24 => ?_)
  refine ga1 (M := mX2_init) (pc' := 29) (k' := 0) (n' := 0) (r_aload_n (M := mX2_init) (i := 0) rfl dX2_init_28) ?_
  refine ga_tk (fun h25 => ?_)
  refine ga_rfk (fun b26 hb27 => ?_)
  refine ga1 (M := mX2_init) (pc' := 32) (k' := 0) (n' := 0) (r_getR (M := mX2_init) fl_2_25 h25 rfl hb27 dX2_init_29) ?_
  refine ga1 (M := mX2_init) (pc' := 33) (k' := 0) (n' := 0) (r_iconst (M := mX2_init) (v := (-1)) (by decide) dX2_init_32) ?_
  refine ga_fk (fun hf29 => ?_)
  refine ga_tk (fun h30 => ?_)
  refine ga_S (M := mX2_init) (As := [.ref b26, .int (-1)]) (st := []) (mc := 0) (ms := 0) (k' := 0) (n' := 0) ln_2_28 lb_J7_fill_53178 (CT.CA (t_J7_fill_53178 (N := N) (by omega) h30)) (by omega) (Nat.le_of_ble_eq_true rfl) rfl dX2_init_33 hf29 rfl rfl (fun r28 => ?_)
  show GA mX2_init d _ _ _ 36 [some (.ref a0), some (.int a1)] [] S23 r28 0 0 _
  exact ga_vret (M := mX2_init) rfl rfl dX2_init_36
set_option maxRecDepth 100000 in
def fA_X6_init (N : Nat) (S : SH) (a0 : Nat) (a1 : Int32) (a2 : Nat) (a3 : Nat) (x : DY) : Option (SH × DY) :=
  fk S [some (.ref a0), some (.int a1), some (.ref a2), some (.ref a3)] [.ref a0] (bl S.1 (fun b2 => bl (SN S 4 0) (fun S3 => bl (XN x S.1) (fun x4 => fk S3 [some (.ref a0), some (.int a1), some (.ref a2), some (.ref a3)] [.ref b2, .ref a0] (Option.bind (fA_X4_init N S3 b2 x4) (fun r5 => tk r5.1 a0 6 (lk r5.1 b2 (bl (UP r5.1 a0 3 (some b2)) (fun S9 => bl r5.2 (fun x10 => fk S9 [some (.ref a0), some (.int a1), some (.ref a2), some (.ref a3)] [.ref a0] (bl S9.1 (fun b12 => bl (SN S9 8 0) (fun S13 => bl (XN x10 S9.1) (fun x14 => fk S13 [some (.ref a0), some (.int a1), some (.ref a2), some (.ref a3)] [.ref b12, .ref a0] (Option.bind (fA_X8_init N S13 b12 x14) (fun r15 => tk r15.1 a0 6 (lk r15.1 b12 (bl (UP r15.1 a0 4 (some b12)) (fun S19 => bl r15.2 (fun x20 => fk S19 [some (.ref a0), some (.int a1), some (.ref a2), some (.ref a3)] [.ref a0] (nk 6 6 (bl S19.1 (fun b24 => bl (SN S19 14 (6 : Int32).toNatClampNeg) (fun S25 => bl (XN x20 S19.1) (fun x26 => tk S25 a0 6 (lk S25 b24 (bl (UP S25 a0 6 (some b24)) (fun S29 => bl x26 (fun x30 => tk S29 a0 6 (bl (U1 x30 a0 7 0) (fun x32 => tk S29 a0 6 (bl (U1 x32 a0 8 0) (fun x34 => tk S29 a0 6 (bl (U1 x34 a0 9 0) (fun x36 => tk S29 a0 6 (bl (U2 x36 a0 10 0) (fun x38 => tk S29 a0 6 (lk S29 a2 (bl (UP S29 a0 0 (some a2)) (fun S41 => bl x38 (fun x42 => tk S41 a0 6 (lk S41 a3 (bl (UP S41 a0 1 (some a3)) (fun S45 => bl x42 (fun x46 => fk S45 [some (.ref a0), some (.int a1), some (.ref a2), some (.ref a3)] [.ref a0] (Option.bind (f_J9_max_7cf53 N S45 a1 1 x46) (fun r47 => fk S45 [some (.ref a0), some (.int a1), some (.ref a2), some (.ref a3)] [.ref a0] (nk r47 160 (bl S45.1 (fun b52 => bl (SN S45 14 r47.toNatClampNeg) (fun S53 => bl (XN x46 S45.1) (fun x54 => tk S53 a0 6 (lk S53 b52 (bl (UP S53 a0 2 (some b52)) (fun S57 => bl x54 (fun x58 => tk S57 a0 6 (rfk (S57.2.2.2 a0 2) (fun b60 => fk S57 [some (.ref a0), some (.int a1), some (.ref a2), some (.ref a3)] [] (tk S57 b60 14 (Option.bind (f_J7_fill_53178 N S57 b60 (-1) x58) (fun r62 => fk S57 [some (.ref a0), some (.int a1), some (.ref a2), some (.ref a3)] [.ref a0] (bl S57.1 (fun b66 => bl (SN S57 2 0) (fun S67 => bl (XN r62 S57.1) (fun x68 => fk S67 [some (.ref a0), some (.int a1), some (.ref a2), some (.ref a3)] [.ref b66, .ref a0] (Option.bind (fA_X2_init N S67 b66 a1 x68) (fun r69 => tk r69.1 a0 6 (lk r69.1 b66 (bl (UP r69.1 a0 5 (some b66)) (fun S73 => bl r69.2 (fun x74 => some (S73, x74))))))))))))))))))))))))))))))))))))))))))))))))))))))))))))))))))))))))
set_option maxHeartbeats 20000000 in
set_option maxRecDepth 100000 in
theorem tA_X6_init {N d : Nat} {S : SH} {x : DY} {a0 : Nat} {a1 : Int32} {a2 : Nat} {a3 : Nat} (hd : 3 ≤ d) : CA mX6_init d S [.ref a0, .int a1, .ref a2, .ref a3] x 19 1915 wAV (fA_X6_init N S a0 a1 a2 a3 x) := by
  refine CA.of [some (.ref a0), some (.int a1), some (.ref a2), some (.ref a3)] rfl (Nat.le_of_ble_eq_true rfl) (by decide +kernel) ?_
  unfold fA_X6_init
  refine ga1 (M := mX6_init) (pc' := 1) (k' := 19) (n' := 1915) (r_aload_n (M := mX6_init) (i := 0) rfl dX6_init_0) ?_
  refine ga1 (M := mX6_init) (pc' := 4) (k' := 19) (n' := 1915) (r_objInit (M := mX6_init) (tb1 200 (by decide +kernel) rfl) (by omega) (Nat.le_of_ble_eq_true rfl) dX6_init_1) ?_
  refine ga1 (M := mX6_init) (pc' := 5) (k' := 19) (n' := 1915) (r_aload_n (M := mX6_init) (i := 0) rfl dX6_init_4) ?_
  refine ga_fk (fun hf1 => ?_)
  refine ga1 (M := mX6_init) (pc' := 8) (k' := 18) (n' := 1909) (r_new (M := mX6_init) (c := 4) (by decide) (tb1 201 (by decide +kernel) rfl) (tb1 202 (by decide +kernel) rfl) (tb1 10 (by decide +kernel) rfl) hf1 dX6_init_5) ?_
  refine ga_blR (fun b2 S3 x4 => ?_)
  refine ga1 (M := mX6_init) (pc' := 9) (k' := 18) (n' := 1909) (r_dup (M := mX6_init) rfl dX6_init_8) ?_
  refine ga_fk (fun hf6 => ?_)
  refine ga_IN (M := mX6_init) (As := []) (st := [.ref b2, .ref a0]) (mc := 5) (ms := 1500) (k' := 13) (n' := 409) ln_6_11 rfl lb_X4_init (tA_X4_init (N := N) (by omega)) (by omega) (Nat.le_of_ble_eq_true rfl) rfl dX6_init_9 hf6 rfl rfl (fun r5 => ?_)
  show GA mX6_init d _ _ _ 12 [some (.ref a0), some (.int a1), some (.ref a2), some (.ref a3)] [.ref b2, .ref a0] r5.1 r5.2 13 409 _
  refine ga_tk (fun h7 => ?_)
  refine ga_lk (fun hl8 => ?_)
  refine ga1 (M := mX6_init) (pc' := 15) (k' := 13) (n' := 409) (r_putR (M := mX6_init) fl_6_12 h7 (Or.inr ⟨rfl, rfl, rfl⟩) rfl hl8 dX6_init_12) ?_
  refine ga_blS (fun S9 x10 => ?_)
  refine ga1 (M := mX6_init) (pc' := 16) (k' := 13) (n' := 409) (r_aload_n (M := mX6_init) (i := 0) rfl dX6_init_15) ?_
  refine ga_fk (fun hf11 => ?_)
  refine ga1 (M := mX6_init) (pc' := 19) (k' := 12) (n' := 401) (r_new (M := mX6_init) (c := 8) (by decide) (tb1 237 (by decide +kernel) rfl) (tb1 238 (by decide +kernel) rfl) (tb1 11 (by decide +kernel) rfl) hf11 dX6_init_16) ?_
  refine ga_blR (fun b12 S13 x14 => ?_)
  refine ga1 (M := mX6_init) (pc' := 20) (k' := 12) (n' := 401) (r_dup (M := mX6_init) rfl dX6_init_19) ?_
  refine ga_fk (fun hf16 => ?_)
  refine ga_IN (M := mX6_init) (As := []) (st := [.ref b12, .ref a0]) (mc := 7) (ms := 56) (k' := 5) (n' := 345) ln_6_20 rfl lb_X8_init (tA_X8_init (N := N) (by omega)) (by omega) (Nat.le_of_ble_eq_true rfl) rfl dX6_init_20 hf16 rfl rfl (fun r15 => ?_)
  show GA mX6_init d _ _ _ 23 [some (.ref a0), some (.int a1), some (.ref a2), some (.ref a3)] [.ref b12, .ref a0] r15.1 r15.2 5 345 _
  refine ga_tk (fun h17 => ?_)
  refine ga_lk (fun hl18 => ?_)
  refine ga1 (M := mX6_init) (pc' := 26) (k' := 5) (n' := 345) (r_putR (M := mX6_init) fl_6_21 h17 (Or.inr ⟨rfl, rfl, rfl⟩) rfl hl18 dX6_init_23) ?_
  refine ga_blS (fun S19 x20 => ?_)
  refine ga1 (M := mX6_init) (pc' := 27) (k' := 5) (n' := 345) (r_aload_n (M := mX6_init) (i := 0) rfl dX6_init_26) ?_
  refine ga1 (M := mX6_init) (pc' := 29) (k' := 5) (n' := 345) (r_bipush (M := mX6_init) (v := 6) (by decide) dX6_init_27) ?_
  refine ga_fk (fun hf21 => ?_)
  refine ga_nk (fun hm22 hM23 => ?_)
  refine ga1 (M := mX6_init) (pc' := 31) (k' := 4) (n' := 339) (r_newarr14 (M := mX6_init) (B := 6) hm22 hM23 (by decide) hf21 dX6_init_29) ?_
  refine ga_blR (fun b24 S25 x26 => ?_)
  refine ga_tk (fun h27 => ?_)
  refine ga_lk (fun hl28 => ?_)
  refine ga1 (M := mX6_init) (pc' := 34) (k' := 4) (n' := 339) (r_putR (M := mX6_init) fl_6_27 h27 (Or.inr ⟨rfl, rfl, rfl⟩) rfl hl28 dX6_init_31) ?_
  refine ga_blS (fun S29 x30 => ?_)
  refine ga1 (M := mX6_init) (pc' := 35) (k' := 4) (n' := 339) (r_aload_n (M := mX6_init) (i := 0) rfl dX6_init_34) ?_
  refine ga1 (M := mX6_init) (pc' := 36) (k' := 4) (n' := 339) (r_iconst (M := mX6_init) (v := 0) (by decide) dX6_init_35) ?_
  refine ga_tk (fun h31 => ?_)
  refine ga1 (M := mX6_init) (pc' := 39) (k' := 4) (n' := 339) (r_putI9 (M := mX6_init) fl_6_31 h31 (Or.inl rfl) rfl dX6_init_36) ?_
  refine ga_blx (fun x32 => ?_)
  refine ga1 (M := mX6_init) (pc' := 40) (k' := 4) (n' := 339) (r_aload_n (M := mX6_init) (i := 0) rfl dX6_init_39) ?_
  refine ga1 (M := mX6_init) (pc' := 41) (k' := 4) (n' := 339) (r_iconst (M := mX6_init) (v := 0) (by decide) dX6_init_40) ?_
  refine ga_tk (fun h33 => ?_)
  refine ga1 (M := mX6_init) (pc' := 44) (k' := 4) (n' := 339) (r_putI9 (M := mX6_init) fl_6_35 h33 (Or.inl rfl) rfl dX6_init_41) ?_
  refine ga_blx (fun x34 => ?_)
  refine ga1 (M := mX6_init) (pc' := 45) (k' := 4) (n' := 339) (r_aload_n (M := mX6_init) (i := 0) rfl dX6_init_44) ?_
  refine ga1 (M := mX6_init) (pc' := 46) (k' := 4) (n' := 339) (r_iconst (M := mX6_init) (v := 0) (by decide) dX6_init_45) ?_
  refine ga_tk (fun h35 => ?_)
  refine ga1 (M := mX6_init) (pc' := 49) (k' := 4) (n' := 339) (r_putI9 (M := mX6_init) fl_6_38 h35 (Or.inl rfl) rfl dX6_init_46) ?_
  refine ga_blx (fun x36 => ?_)
  refine ga1 (M := mX6_init) (pc' := 50) (k' := 4) (n' := 339) (r_aload_n (M := mX6_init) (i := 0) rfl dX6_init_49) ?_
  refine ga1 (M := mX6_init) (pc' := 51) (k' := 4) (n' := 339) (r_lconst (M := mX6_init) (v := 0) (by decide) dX6_init_50) ?_
  refine ga_tk (fun h37 => ?_)
  refine ga1 (M := mX6_init) (pc' := 54) (k' := 4) (n' := 339) (r_putL (M := mX6_init) fl_6_41 h37 rfl rfl dX6_init_51) ?_
  refine ga_blx (fun x38 => ?_)
  refine ga1 (M := mX6_init) (pc' := 55) (k' := 4) (n' := 339) (r_aload_n (M := mX6_init) (i := 0) rfl dX6_init_54) ?_
  refine ga1 (M := mX6_init) (pc' := 56) (k' := 4) (n' := 339) (r_aload_n (M := mX6_init) (i := 2) rfl dX6_init_55) ?_
  refine ga_tk (fun h39 => ?_)
  refine ga_lk (fun hl40 => ?_)
  refine ga1 (M := mX6_init) (pc' := 59) (k' := 4) (n' := 339) (r_putR (M := mX6_init) fl_6_45 h39 (Or.inr ⟨rfl, rfl, rfl⟩) rfl hl40 dX6_init_56) ?_
  refine ga_blS (fun S41 x42 => ?_)
  refine ga1 (M := mX6_init) (pc' := 60) (k' := 4) (n' := 339) (r_aload_n (M := mX6_init) (i := 0) rfl dX6_init_59) ?_
  refine ga1 (M := mX6_init) (pc' := 61) (k' := 4) (n' := 339) (r_aload_n (M := mX6_init) (i := 3) rfl dX6_init_60) ?_
  refine ga_tk (fun h43 => ?_)
  refine ga_lk (fun hl44 => ?_)
  refine ga1 (M := mX6_init) (pc' := 64) (k' := 4) (n' := 339) (r_putR (M := mX6_init) fl_6_49 h43 (Or.inr ⟨rfl, rfl, rfl⟩) rfl hl44 dX6_init_61) ?_
  refine ga_blS (fun S45 x46 => ?_)
  refine ga1 (M := mX6_init) (pc' := 65) (k' := 4) (n' := 339) (r_aload_n (M := mX6_init) (i := 0) rfl dX6_init_64) ?_
  refine ga1 (M := mX6_init) (pc' := 66) (k' := 4) (n' := 339) (r_iload_n (M := mX6_init) (i := 1) rfl dX6_init_65) ?_
  refine ga1 (M := mX6_init) (pc' := 67) (k' := 4) (n' := 339) (r_iconst (M := mX6_init) (v := 1) (by decide) dX6_init_66) ?_
  refine ga_fk (fun hf48 => ?_)
  refine ga_S (M := mX6_init) (As := [.int a1, .int 1]) (st := [.ref a0]) (mc := 0) (ms := 0) (k' := 4) (n' := 339) ln_6_53 lb_J9_max_7cf53 (CT.CA (t_J9_max_7cf53 (N := N) (by omega) )) (by omega) (Nat.le_of_ble_eq_true rfl) rfl dX6_init_67 hf48 rfl rfl (fun r47 => ?_)
  show GA mX6_init d _ _ _ 70 [some (.ref a0), some (.int a1), some (.ref a2), some (.ref a3)] [.int r47, .ref a0] S45 x46 4 339 _
  refine ga_fk (fun hf49 => ?_)
  refine ga_nk (fun hm50 hM51 => ?_)
  refine ga1 (M := mX6_init) (pc' := 72) (k' := 3) (n' := 179) (r_newarr14 (M := mX6_init) (B := 160) hm50 hM51 (by decide) hf49 dX6_init_70) ?_
  refine ga_blR (fun b52 S53 x54 => ?_)
  refine ga_tk (fun h55 => ?_)
  refine ga_lk (fun hl56 => ?_)
  refine ga1 (M := mX6_init) (pc' := 75) (k' := 3) (n' := 179) (r_putR (M := mX6_init) fl_6_59 h55 (Or.inr ⟨rfl, rfl, rfl⟩) rfl hl56 dX6_init_72) ?_
  refine ga_blS (fun S57 x58 => ?_)
  refine ga1 (M := mX6_init) (pc' := 76) (k' := 3) (n' := 179) (r_aload_n (M := mX6_init) (i := 0) rfl dX6_init_75) ?_
  refine ga_tk (fun h59 => ?_)
  refine ga_rfk (fun b60 hb61 => ?_)
  refine ga1 (M := mX6_init) (pc' := 79) (k' := 3) (n' := 179) (r_getR (M := mX6_init) fl_6_59 h59 rfl hb61 dX6_init_76) ?_
  refine ga1 (M := mX6_init) (pc' := 80) (k' := 3) (n' := 179) (r_iconst (M := mX6_init) (v := (-1)) (by decide) dX6_init_79) ?_
  refine ga_fk (fun hf63 => ?_)
  refine ga_tk (fun h64 => ?_)
  refine ga_S (M := mX6_init) (As := [.ref b60, .int (-1)]) (st := []) (mc := 0) (ms := 0) (k' := 3) (n' := 179) ln_6_62 lb_J7_fill_53178 (CT.CA (t_J7_fill_53178 (N := N) (by omega) h64)) (by omega) (Nat.le_of_ble_eq_true rfl) rfl dX6_init_80 hf63 rfl rfl (fun r62 => ?_)
  show GA mX6_init d _ _ _ 83 [some (.ref a0), some (.int a1), some (.ref a2), some (.ref a3)] [] S57 r62 3 179 _
  refine ga1 (M := mX6_init) (pc' := 84) (k' := 3) (n' := 179) (r_aload_n (M := mX6_init) (i := 0) rfl dX6_init_83) ?_
  refine ga_fk (fun hf65 => ?_)
  refine ga1 (M := mX6_init) (pc' := 87) (k' := 2) (n' := 176) (r_new (M := mX6_init) (c := 2) (by decide) (tb2 45 (by decide +kernel) rfl) (tb2 46 (by decide +kernel) rfl) (tb1 13 (by decide +kernel) rfl) hf65 dX6_init_84) ?_
  refine ga_blR (fun b66 S67 x68 => ?_)
  refine ga1 (M := mX6_init) (pc' := 88) (k' := 2) (n' := 176) (r_dup (M := mX6_init) rfl dX6_init_87) ?_
  refine ga1 (M := mX6_init) (pc' := 89) (k' := 2) (n' := 176) (r_iload_n (M := mX6_init) (i := 1) rfl dX6_init_88) ?_
  refine ga_fk (fun hf70 => ?_)
  refine ga_I (M := mX6_init) (As := [.int a1]) (st := [.ref b66, .ref a0]) (mc := 2) (ms := 176) (k' := 0) (n' := 0) ln_6_70 rfl lb_X2_init (tA_X2_init (N := N) (by omega)) (by omega) (Nat.le_of_ble_eq_true rfl) rfl dX6_init_89 hf70 rfl rfl (fun r69 => ?_)
  show GA mX6_init d _ _ _ 92 [some (.ref a0), some (.int a1), some (.ref a2), some (.ref a3)] [.ref b66, .ref a0] r69.1 r69.2 0 0 _
  refine ga_tk (fun h71 => ?_)
  refine ga_lk (fun hl72 => ?_)
  refine ga1 (M := mX6_init) (pc' := 95) (k' := 0) (n' := 0) (r_putR (M := mX6_init) fl_6_73 h71 (Or.inr ⟨rfl, rfl, rfl⟩) rfl hl72 dX6_init_92) ?_
  refine ga_blS (fun S73 x74 => ?_)
  exact ga_vret (M := mX6_init) rfl rfl dX6_init_95
set_option maxRecDepth 100000 in
def fA_X1_init (N : Nat) (S : SH) (a0 : Nat) (a1 : Int32) (a2 : Nat) (a3 : Nat) (x : DY) : Option (SH × DY) :=
  fk S [some (.ref a0), some (.int a1), some (.ref a2), some (.ref a3), none] [.ref a0] (nk 3 3 (bl S.1 (fun b4 => bl (SN S 16 (3 : Int32).toNatClampNeg) (fun S5 => bl (XN x S.1) (fun x6 => tk S5 a0 1 (lk S5 b4 (bl (UP S5 a0 0 (some b4)) (fun S9 => bl x6 (fun x10 => fk S9 [some (.ref a0), some (.int a1), some (.ref a2), some (.ref a3), none] [.ref a0] (nk 3 3 (bl S9.1 (fun b14 => bl (SN S9 14 (3 : Int32).toNatClampNeg) (fun S15 => bl (XN x10 S9.1) (fun x16 => tk S15 a0 1 (lk S15 b14 (bl (UP S15 a0 1 (some b14)) (fun S19 => bl x16 (fun x20 => fk S19 [some (.ref a0), some (.int a1), some (.ref a2), some (.ref a3), none] [.ref a0] (nk 3 3 (bl S19.1 (fun b24 => bl (SN S19 14 (3 : Int32).toNatClampNeg) (fun S25 => bl (XN x20 S19.1) (fun x26 => tk S25 a0 1 (lk S25 b24 (bl (UP S25 a0 2 (some b24)) (fun S29 => bl x26 (fun x30 => tk S29 a0 1 (bl (U2 x30 a0 3 (-4611686018427387904)) (fun x32 => tk S29 a0 1 (rfk (S29.2.2.2 a0 0) (fun b34 => fk S29 [some (.ref a0), some (.int a1), some (.ref a2), some (.ref a3), some (.int 0)] [.int 0, .ref b34] (bl S29.1 (fun b37 => bl (SN S29 6 0) (fun S38 => bl (XN x32 S29.1) (fun x39 => fk S38 [some (.ref a0), some (.int a1), some (.ref a2), some (.ref a3), some (.int 0)] [.ref b37, .int 0, .ref b34] (Option.bind (fA_X6_init N S38 b37 a1 a2 a3 x39) (fun r40 => tk r40.1 b34 16 (tk r40.1 b37 6 (ck r40.1 b34 0 (bl (UP r40.1 b34 (0 : Int32).toNatClampNeg (some b37)) (fun S45 => bl r40.2 (fun x46 => tk S45 a0 1 (rfk (S45.2.2.2 a0 0) (fun b48 => fk S45 [some (.ref a0), some (.int a1), some (.ref a2), some (.ref a3), some (.int 1)] [.int 1, .ref b48] (bl S45.1 (fun b51 => bl (SN S45 6 0) (fun S52 => bl (XN x46 S45.1) (fun x53 => fk S52 [some (.ref a0), some (.int a1), some (.ref a2), some (.ref a3), some (.int 1)] [.ref b51, .int 1, .ref b48] (Option.bind (fA_X6_init N S52 b51 a1 a2 a3 x53) (fun r54 => tk r54.1 b48 16 (tk r54.1 b51 6 (ck r54.1 b48 1 (bl (UP r54.1 b48 (1 : Int32).toNatClampNeg (some b51)) (fun S59 => bl r54.2 (fun x60 => tk S59 a0 1 (rfk (S59.2.2.2 a0 0) (fun b62 => fk S59 [some (.ref a0), some (.int a1), some (.ref a2), some (.ref a3), some (.int 2)] [.int 2, .ref b62] (bl S59.1 (fun b65 => bl (SN S59 6 0) (fun S66 => bl (XN x60 S59.1) (fun x67 => fk S66 [some (.ref a0), some (.int a1), some (.ref a2), some (.ref a3), some (.int 2)] [.ref b65, .int 2, .ref b62] (Option.bind (fA_X6_init N S66 b65 a1 a2 a3 x67) (fun r68 => tk r68.1 b62 16 (tk r68.1 b65 6 (ck r68.1 b62 2 (bl (UP r68.1 b62 (2 : Int32).toNatClampNeg (some b65)) (fun S73 => bl r68.2 (fun x74 => some (S73, x74)))))))))))))))))))))))))))))))))))))))))))))))))))))))))))))))))))))
set_option maxHeartbeats 20000000 in
set_option maxRecDepth 100000 in
theorem tA_X1_init {N d : Nat} {S : SH} {x : DY} {a0 : Nat} {a1 : Int32} {a2 : Nat} {a3 : Nat} (hd : 4 ≤ d) : CA mX1_init d S [.ref a0, .int a1, .ref a2, .ref a3] x 63 5787 wAV (fA_X1_init N S a0 a1 a2 a3 x) := by
  refine CA.of [some (.ref a0), some (.int a1), some (.ref a2), some (.ref a3), none] rfl (Nat.le_of_ble_eq_true rfl) (by decide +kernel) ?_
  unfold fA_X1_init
  refine ga1 (M := mX1_init) (pc' := 1) (k' := 63) (n' := 5787) (r_aload_n (M := mX1_init) (i := 0) rfl dX1_init_0) ?_
  refine ga1 (M := mX1_init) (pc' := 4) (k' := 63) (n' := 5787) (r_objInit (M := mX1_init) (tb2 116 (by decide +kernel) rfl) (by omega) (Nat.le_of_ble_eq_true rfl) dX1_init_1) ?_
  refine ga1 (M := mX1_init) (pc' := 5) (k' := 63) (n' := 5787) (r_aload_n (M := mX1_init) (i := 0) rfl dX1_init_4) ?_
  refine ga1 (M := mX1_init) (pc' := 6) (k' := 63) (n' := 5787) (r_iconst (M := mX1_init) (v := 3) (by decide) dX1_init_5) ?_
  refine ga_fk (fun hf1 => ?_)
  refine ga_nk (fun hm2 hM3 => ?_)
  refine ga1 (M := mX1_init) (pc' := 9) (k' := 62) (n' := 5784) (r_newq16 (M := mX1_init) (B := 3) (tb2 117 (by decide +kernel) rfl) hm2 hM3 (by decide) hf1 dX1_init_6) ?_
  refine ga_blR (fun b4 S5 x6 => ?_)
  refine ga_tk (fun h7 => ?_)
  refine ga_lk (fun hl8 => ?_)
  refine ga1 (M := mX1_init) (pc' := 12) (k' := 62) (n' := 5784) (r_putR (M := mX1_init) fl_1_13 h7 (Or.inr ⟨rfl, rfl, rfl⟩) rfl hl8 dX1_init_9) ?_
  refine ga_blS (fun S9 x10 => ?_)
  refine ga1 (M := mX1_init) (pc' := 13) (k' := 62) (n' := 5784) (r_aload_n (M := mX1_init) (i := 0) rfl dX1_init_12) ?_
  refine ga1 (M := mX1_init) (pc' := 14) (k' := 62) (n' := 5784) (r_iconst (M := mX1_init) (v := 3) (by decide) dX1_init_13) ?_
  refine ga_fk (fun hf11 => ?_)
  refine ga_nk (fun hm12 hM13 => ?_)
  refine ga1 (M := mX1_init) (pc' := 16) (k' := 61) (n' := 5781) (r_newarr14 (M := mX1_init) (B := 3) hm12 hM13 (by decide) hf11 dX1_init_14) ?_
  refine ga_blR (fun b14 S15 x16 => ?_)
  refine ga_tk (fun h17 => ?_)
  refine ga_lk (fun hl18 => ?_)
  refine ga1 (M := mX1_init) (pc' := 19) (k' := 61) (n' := 5781) (r_putR (M := mX1_init) fl_1_17 h17 (Or.inr ⟨rfl, rfl, rfl⟩) rfl hl18 dX1_init_16) ?_
  refine ga_blS (fun S19 x20 => ?_)
  refine ga1 (M := mX1_init) (pc' := 20) (k' := 61) (n' := 5781) (r_aload_n (M := mX1_init) (i := 0) rfl dX1_init_19) ?_
  refine ga1 (M := mX1_init) (pc' := 21) (k' := 61) (n' := 5781) (r_iconst (M := mX1_init) (v := 3) (by decide) dX1_init_20) ?_
  refine ga_fk (fun hf21 => ?_)
  refine ga_nk (fun hm22 hM23 => ?_)
  refine ga1 (M := mX1_init) (pc' := 23) (k' := 60) (n' := 5778) (r_newarr14 (M := mX1_init) (B := 3) hm22 hM23 (by decide) hf21 dX1_init_21) ?_
  refine ga_blR (fun b24 S25 x26 => ?_)
  refine ga_tk (fun h27 => ?_)
  refine ga_lk (fun hl28 => ?_)
  refine ga1 (M := mX1_init) (pc' := 26) (k' := 60) (n' := 5778) (r_putR (M := mX1_init) fl_1_21 h27 (Or.inr ⟨rfl, rfl, rfl⟩) rfl hl28 dX1_init_23) ?_
  refine ga_blS (fun S29 x30 => ?_)
  refine ga1 (M := mX1_init) (pc' := 27) (k' := 60) (n' := 5778) (r_aload_n (M := mX1_init) (i := 0) rfl dX1_init_26) ?_
  refine ga1 (M := mX1_init) (pc' := 30) (k' := 60) (n' := 5778) (r_ldc2 (M := mX1_init) (v := (-4611686018427387904)) (tb2 119 (by decide +kernel) rfl) dX1_init_27) ?_
  refine ga_tk (fun h31 => ?_)
  refine ga1 (M := mX1_init) (pc' := 33) (k' := 60) (n' := 5778) (r_putL (M := mX1_init) fl_1_26 h31 rfl rfl dX1_init_30) ?_
  refine ga_blx (fun x32 => ?_)
  refine ga1 (M := mX1_init) (pc' := 34) (k' := 60) (n' := 5778) (r_iconst (M := mX1_init) (v := 0) (by decide) dX1_init_33) ?_
  refine ga1 (M := mX1_init) (pc' := 36) (ls' := [some (.ref a0), some (.int a1), some (.ref a2), some (.ref a3), some (.int 0)]) (k' := 60) (n' := 5778) (r_istore (M := mX1_init) (ls := [some (.ref a0), some (.int a1), some (.ref a2), some (.ref a3), none]) (i := 4) (v := 0) (by decide) rfl dX1_init_34) ?_
  refine ga1 (M := mX1_init) (pc' := 38) (k' := 60) (n' := 5778) (r_iload (M := mX1_init) (i := 4) rfl dX1_init_36) ?_
  refine ga1 (M := mX1_init) (pc' := 39) (k' := 60) (n' := 5778) (r_iconst (M := mX1_init) (v := 3) (by decide) dX1_init_38) ?_
  refine ga1 (M := mX1_init) (pc' := 42) (k' := 60) (n' := 5778) (fun kk => r_icmp_ge (M := mX1_init) (tgt := 65) dX1_init_39 (by decide) (fun h => absurd h (by decide)) (fun _ => kk)) ?_
  refine ga1 (M := mX1_init) (pc' := 43) (k' := 60) (n' := 5778) (r_aload_n (M := mX1_init) (i := 0) rfl dX1_init_42) ?_
  refine ga_tk (fun h33 => ?_)
  refine ga_rfk (fun b34 hb35 => ?_)
  refine ga1 (M := mX1_init) (pc' := 46) (k' := 60) (n' := 5778) (r_getR (M := mX1_init) fl_1_13 h33 rfl hb35 dX1_init_43) ?_
  refine ga1 (M := mX1_init) (pc' := 48) (k' := 60) (n' := 5778) (r_iload (M := mX1_init) (i := 4) rfl dX1_init_46) ?_
  refine ga_fk (fun hf36 => ?_)
  refine ga1 (M := mX1_init) (pc' := 51) (k' := 59) (n' := 5767) (r_new (M := mX1_init) (c := 6) (by decide) (tb2 117 (by decide +kernel) rfl) (tb1 196 (by decide +kernel) rfl) (tb1 9 (by decide +kernel) rfl) hf36 dX1_init_48) ?_
  refine ga_blR (fun b37 S38 x39 => ?_)
  refine ga1 (M := mX1_init) (pc' := 52) (k' := 59) (n' := 5767) (r_dup (M := mX1_init) rfl dX1_init_51) ?_
  refine ga1 (M := mX1_init) (pc' := 53) (k' := 59) (n' := 5767) (r_iload_n (M := mX1_init) (i := 1) rfl dX1_init_52) ?_
  refine ga1 (M := mX1_init) (pc' := 54) (k' := 59) (n' := 5767) (r_aload_n (M := mX1_init) (i := 2) rfl dX1_init_53) ?_
  refine ga1 (M := mX1_init) (pc' := 55) (k' := 59) (n' := 5767) (r_aload_n (M := mX1_init) (i := 3) rfl dX1_init_54) ?_
  refine ga_fk (fun hf41 => ?_)
  refine ga_I (M := mX1_init) (As := [.int a1, .ref a2, .ref a3]) (st := [.ref b37, .int 0, .ref b34]) (mc := 19) (ms := 1915) (k' := 40) (n' := 3852) ln_1_30 rfl lb_X6_init (tA_X6_init (N := N) (by omega)) (by omega) (Nat.le_of_ble_eq_true rfl) rfl dX1_init_55 hf41 rfl rfl (fun r40 => ?_)
  show GA mX1_init d _ _ _ 58 [some (.ref a0), some (.int a1), some (.ref a2), some (.ref a3), some (.int 0)] [.ref b37, .int 0, .ref b34] r40.1 r40.2 40 3852 _
  refine ga_tk (fun h42 => ?_)
  refine ga_tk (fun h43 => ?_)
  refine ga_ck (fun hi44 => ?_)
  refine ga1 (M := mX1_init) (pc' := 59) (k' := 40) (n' := 3852) (r_aast (M := mX1_init) h42 (by decide) h43 hi44 dX1_init_58) ?_
  refine ga_blS (fun S45 x46 => ?_)
  refine ga1 (M := mX1_init) (pc' := 62) (ls' := [some (.ref a0), some (.int a1), some (.ref a2), some (.ref a3), some (.int 1)]) (k' := 40) (n' := 3852) (r_iincF (M := mX1_init) (ls := [some (.ref a0), some (.int a1), some (.ref a2), some (.ref a3), some (.int 0)]) (i := 4) (v := 0) (v' := 1) (by decide) rfl (by decide) rfl dX1_init_59) ?_
  refine ga1 (M := mX1_init) (pc' := 36) (k' := 40) (n' := 3852) (r_goto (M := mX1_init) dX1_init_62 (by decide)) ?_
  refine ga1 (M := mX1_init) (pc' := 38) (k' := 40) (n' := 3852) (r_iload (M := mX1_init) (i := 4) rfl dX1_init_36) ?_
  refine ga1 (M := mX1_init) (pc' := 39) (k' := 40) (n' := 3852) (r_iconst (M := mX1_init) (v := 3) (by decide) dX1_init_38) ?_
  refine ga1 (M := mX1_init) (pc' := 42) (k' := 40) (n' := 3852) (fun kk => r_icmp_ge (M := mX1_init) (tgt := 65) dX1_init_39 (by decide) (fun h => absurd h (by decide)) (fun _ => kk)) ?_
  refine ga1 (M := mX1_init) (pc' := 43) (k' := 40) (n' := 3852) (r_aload_n (M := mX1_init) (i := 0) rfl dX1_init_42) ?_
  refine ga_tk (fun h47 => ?_)
  refine ga_rfk (fun b48 hb49 => ?_)
  refine ga1 (M := mX1_init) (pc' := 46) (k' := 40) (n' := 3852) (r_getR (M := mX1_init) fl_1_13 h47 rfl hb49 dX1_init_43) ?_
  refine ga1 (M := mX1_init) (pc' := 48) (k' := 40) (n' := 3852) (r_iload (M := mX1_init) (i := 4) rfl dX1_init_46) ?_
  refine ga_fk (fun hf50 => ?_)
  refine ga1 (M := mX1_init) (pc' := 51) (k' := 39) (n' := 3841) (r_new (M := mX1_init) (c := 6) (by decide) (tb2 117 (by decide +kernel) rfl) (tb1 196 (by decide +kernel) rfl) (tb1 9 (by decide +kernel) rfl) hf50 dX1_init_48) ?_
  refine ga_blR (fun b51 S52 x53 => ?_)
  refine ga1 (M := mX1_init) (pc' := 52) (k' := 39) (n' := 3841) (r_dup (M := mX1_init) rfl dX1_init_51) ?_
  refine ga1 (M := mX1_init) (pc' := 53) (k' := 39) (n' := 3841) (r_iload_n (M := mX1_init) (i := 1) rfl dX1_init_52) ?_
  refine ga1 (M := mX1_init) (pc' := 54) (k' := 39) (n' := 3841) (r_aload_n (M := mX1_init) (i := 2) rfl dX1_init_53) ?_
  refine ga1 (M := mX1_init) (pc' := 55) (k' := 39) (n' := 3841) (r_aload_n (M := mX1_init) (i := 3) rfl dX1_init_54) ?_
  refine ga_fk (fun hf55 => ?_)
  refine ga_I (M := mX1_init) (As := [.int a1, .ref a2, .ref a3]) (st := [.ref b51, .int 1, .ref b48]) (mc := 19) (ms := 1915) (k' := 20) (n' := 1926) ln_1_30 rfl lb_X6_init (tA_X6_init (N := N) (by omega)) (by omega) (Nat.le_of_ble_eq_true rfl) rfl dX1_init_55 hf55 rfl rfl (fun r54 => ?_)
  show GA mX1_init d _ _ _ 58 [some (.ref a0), some (.int a1), some (.ref a2), some (.ref a3), some (.int 1)] [.ref b51, .int 1, .ref b48] r54.1 r54.2 20 1926 _
  refine ga_tk (fun h56 => ?_)
  refine ga_tk (fun h57 => ?_)
  refine ga_ck (fun hi58 => ?_)
  refine ga1 (M := mX1_init) (pc' := 59) (k' := 20) (n' := 1926) (r_aast (M := mX1_init) h56 (by decide) h57 hi58 dX1_init_58) ?_
  refine ga_blS (fun S59 x60 => ?_)
  refine ga1 (M := mX1_init) (pc' := 62) (ls' := [some (.ref a0), some (.int a1), some (.ref a2), some (.ref a3), some (.int 2)]) (k' := 20) (n' := 1926) (r_iincF (M := mX1_init) (ls := [some (.ref a0), some (.int a1), some (.ref a2), some (.ref a3), some (.int 1)]) (i := 4) (v := 1) (v' := 2) (by decide) rfl (by decide) rfl dX1_init_59) ?_
  refine ga1 (M := mX1_init) (pc' := 36) (k' := 20) (n' := 1926) (r_goto (M := mX1_init) dX1_init_62 (by decide)) ?_
  refine ga1 (M := mX1_init) (pc' := 38) (k' := 20) (n' := 1926) (r_iload (M := mX1_init) (i := 4) rfl dX1_init_36) ?_
  refine ga1 (M := mX1_init) (pc' := 39) (k' := 20) (n' := 1926) (r_iconst (M := mX1_init) (v := 3) (by decide) dX1_init_38) ?_
  refine ga1 (M := mX1_init) (pc' := 42) (k' := 20) (n' := 1926) (fun kk => r_icmp_ge (M := mX1_init) (tgt := 65) dX1_init_39 (by decide) (fun h => absurd h (by decide)) (fun _ => kk)) ?_
  refine ga1 (M := mX1_init) (pc' := 43) (k' := 20) (n' := 1926) (r_aload_n (M := mX1_init) (i := 0) rfl dX1_init_42) ?_
  refine ga_tk (fun h61 => ?_)
  refine ga_rfk (fun b62 hb63 => ?_)
  refine ga1 (M := mX1_init) (pc' := 46) (k' := 20) (n' := 1926) (r_getR (M := mX1_init) fl_1_13 h61 rfl hb63 dX1_init_43) ?_
  refine ga1 (M := mX1_init) (pc' := 48) (k' := 20) (n' := 1926) (r_iload (M := mX1_init) (i := 4) rfl dX1_init_46) ?_
  refine ga_fk (fun hf64 => ?_)
  refine ga1 (M := mX1_init) (pc' := 51) (k' := 19) (n' := 1915) (r_new (M := mX1_init) (c := 6) (by decide) (tb2 117 (by decide +kernel) rfl) (tb1 196 (by decide +kernel) rfl) (tb1 9 (by decide +kernel) rfl) hf64 dX1_init_48) ?_
  refine ga_blR (fun b65 S66 x67 => ?_)
  refine ga1 (M := mX1_init) (pc' := 52) (k' := 19) (n' := 1915) (r_dup (M := mX1_init) rfl dX1_init_51) ?_
  refine ga1 (M := mX1_init) (pc' := 53) (k' := 19) (n' := 1915) (r_iload_n (M := mX1_init) (i := 1) rfl dX1_init_52) ?_
  refine ga1 (M := mX1_init) (pc' := 54) (k' := 19) (n' := 1915) (r_aload_n (M := mX1_init) (i := 2) rfl dX1_init_53) ?_
  refine ga1 (M := mX1_init) (pc' := 55) (k' := 19) (n' := 1915) (r_aload_n (M := mX1_init) (i := 3) rfl dX1_init_54) ?_
  refine ga_fk (fun hf69 => ?_)
  refine ga_I (M := mX1_init) (As := [.int a1, .ref a2, .ref a3]) (st := [.ref b65, .int 2, .ref b62]) (mc := 19) (ms := 1915) (k' := 0) (n' := 0) ln_1_30 rfl lb_X6_init (tA_X6_init (N := N) (by omega)) (by omega) (Nat.le_of_ble_eq_true rfl) rfl dX1_init_55 hf69 rfl rfl (fun r68 => ?_)
  show GA mX1_init d _ _ _ 58 [some (.ref a0), some (.int a1), some (.ref a2), some (.ref a3), some (.int 2)] [.ref b65, .int 2, .ref b62] r68.1 r68.2 0 0 _
  refine ga_tk (fun h70 => ?_)
  refine ga_tk (fun h71 => ?_)
  refine ga_ck (fun hi72 => ?_)
  refine ga1 (M := mX1_init) (pc' := 59) (k' := 0) (n' := 0) (r_aast (M := mX1_init) h70 (by decide) h71 hi72 dX1_init_58) ?_
  refine ga_blS (fun S73 x74 => ?_)
  refine ga1 (M := mX1_init) (pc' := 62) (ls' := [some (.ref a0), some (.int a1), some (.ref a2), some (.ref a3), some (.int 3)]) (k' := 0) (n' := 0) (r_iincF (M := mX1_init) (ls := [some (.ref a0), some (.int a1), some (.ref a2), some (.ref a3), some (.int 2)]) (i := 4) (v := 2) (v' := 3) (by decide) rfl (by decide) rfl dX1_init_59) ?_
  refine ga1 (M := mX1_init) (pc' := 36) (k' := 0) (n' := 0) (r_goto (M := mX1_init) dX1_init_62 (by decide)) ?_
  refine ga1 (M := mX1_init) (pc' := 38) (k' := 0) (n' := 0) (r_iload (M := mX1_init) (i := 4) rfl dX1_init_36) ?_
  refine ga1 (M := mX1_init) (pc' := 39) (k' := 0) (n' := 0) (r_iconst (M := mX1_init) (v := 3) (by decide) dX1_init_38) ?_
  refine ga1 (M := mX1_init) (pc' := 65) (k' := 0) (n' := 0) (fun kk => r_icmp_ge (M := mX1_init) (tgt := 65) dX1_init_39 (by decide) (fun _ => kk) (fun h => absurd (by decide) h)) ?_
  exact ga_vret (M := mX1_init) rfl rfl dX1_init_65
set_option maxRecDepth 100000 in
def fA_X11_init (N : Nat) (S : SH) (a0 : Nat) (a1 : Int32) (x : DY) : Option (SH × DY) :=
  fk S [some (.ref a0), some (.int a1), none] [.ref a0] (bl S.1 (fun b2 => bl (SN S 3 0) (fun S3 => bl (XN x S.1) (fun x4 => fk S3 [some (.ref a0), some (.int a1), none] [.ref b2, .ref a0] (Option.bind (fA_X3_init N S3 b2 x4) (fun r5 => tk r5.1 a0 11 (lk r5.1 b2 (bl (UP r5.1 a0 0 (some b2)) (fun S9 => bl r5.2 (fun x10 => fk S9 [some (.ref a0), some (.int a1), none] [.ref a0] (bl S9.1 (fun b12 => bl (SN S9 7 0) (fun S13 => bl (XN x10 S9.1) (fun x14 => fk S13 [some (.ref a0), some (.int a1), none] [.ref b12, .ref a0] (Option.bind (fA_X7_init N S13 b12 x14) (fun r15 => tk r15.1 a0 11 (lk r15.1 b12 (bl (UP r15.1 a0 1 (some b12)) (fun S19 => bl r15.2 (fun x20 => fk S19 [some (.ref a0), some (.int a1), none] [.ref a0] (bl S19.1 (fun b22 => bl (SN S19 5 0) (fun S23 => bl (XN x20 S19.1) (fun x24 => fk S23 [some (.ref a0), some (.int a1), none] [.ref b22, .ref a0] (Option.bind (fA_X5_init N S23 b22 x24) (fun r25 => tk r25.1 a0 11 (lk r25.1 b22 (bl (UP r25.1 a0 2 (some b22)) (fun S29 => bl r25.2 (fun x30 => fk S29 [some (.ref a0), some (.int a1), none] [.ref a0] (bl S29.1 (fun b32 => bl (SN S29 0 0) (fun S33 => bl (XN x30 S29.1) (fun x34 => fk S33 [some (.ref a0), some (.int a1), none] [.ref b32, .ref a0] (Option.bind (fA_X0_init N S33 b32 x34) (fun r35 => tk r35.1 a0 11 (lk r35.1 b32 (bl (UP r35.1 a0 3 (some b32)) (fun S39 => bl r35.2 (fun x40 => fk S39 [some (.ref a0), some (.int a1), none] [.ref a0] (bl S39.1 (fun b42 => bl (SN S39 9 0) (fun S43 => bl (XN x40 S39.1) (fun x44 => fk S43 [some (.ref a0), some (.int a1), none] [.ref b42, .ref a0] (Option.bind (fA_X9_init N S43 b42 x44) (fun r45 => tk r45.1 a0 11 (lk r45.1 b42 (bl (UP r45.1 a0 4 (some b42)) (fun S49 => bl r45.2 (fun x50 => fk S49 [some (.ref a0), some (.int a1), none] [.int 6] (Option.bind (f_J9_floorMod_7cf53 N S49 a1 7 x50) (fun r51 => fk S49 [some (.ref a0), some (.int a1), some (.int (6 + r51))] [.ref a0] (bl S49.1 (fun b54 => bl (SN S49 6 0) (fun S55 => bl (XN x50 S49.1) (fun x56 => tk S55 a0 11 (rfk (S55.2.2.2 a0 0) (fun b58 => tk S55 a0 11 (rfk (S55.2.2.2 a0 1) (fun b61 => fk S55 [some (.ref a0), some (.int a1), some (.int (6 + r51))] [.ref b54, .ref a0] (Option.bind (fA_X6_init N S55 b54 (6 + r51) b58 b61 x56) (fun r63 => tk r63.1 a0 11 (lk r63.1 b54 (bl (UP r63.1 a0 5 (some b54)) (fun S67 => bl r63.2 (fun x68 => fk S67 [some (.ref a0), some (.int a1), some (.int (6 + r51))] [.ref a0] (bl S67.1 (fun b70 => bl (SN S67 1 0) (fun S71 => bl (XN x68 S67.1) (fun x72 => tk S71 a0 11 (rfk (S71.2.2.2 a0 0) (fun b74 => tk S71 a0 11 (rfk (S71.2.2.2 a0 1) (fun b77 => fk S71 [some (.ref a0), some (.int a1), some (.int (6 + r51))] [.ref b70, .ref a0] (Option.bind (fA_X1_init N S71 b70 (6 + r51) b74 b77 x72) (fun r79 => tk r79.1 a0 11 (lk r79.1 b70 (bl (UP r79.1 a0 6 (some b70)) (fun S83 => bl r79.2 (fun x84 => some (S83, x84)))))))))))))))))))))))))))))))))))))))))))))))))))))))))))))))))))))))))))))))))
set_option maxHeartbeats 20000000 in
set_option maxRecDepth 100000 in
theorem tA_X11_init {N d : Nat} {S : SH} {x : DY} {a0 : Nat} {a1 : Int32} (hd : 5 ≤ d) : CA mX11_init d S [.ref a0, .int a1] x 110 8970 wAV (fA_X11_init N S a0 a1 x) := by
  refine CA.of [some (.ref a0), some (.int a1), none] rfl (Nat.le_of_ble_eq_true rfl) (by decide +kernel) ?_
  unfold fA_X11_init
  refine ga1 (M := mX11_init) (pc' := 1) (k' := 110) (n' := 8970) (r_aload_n (M := mX11_init) (i := 0) rfl dX11_init_0) ?_
  refine ga1 (M := mX11_init) (pc' := 4) (k' := 110) (n' := 8970) (r_objInit (M := mX11_init) (tb1 26 (by decide +kernel) rfl) (by omega) (Nat.le_of_ble_eq_true rfl) dX11_init_1) ?_
  refine ga1 (M := mX11_init) (pc' := 5) (k' := 110) (n' := 8970) (r_aload_n (M := mX11_init) (i := 0) rfl dX11_init_4) ?_
  refine ga_fk (fun hf1 => ?_)
  refine ga1 (M := mX11_init) (pc' := 8) (k' := 109) (n' := 8966) (r_new (M := mX11_init) (c := 3) (by decide) (tb1 29 (by decide +kernel) rfl) (tb1 30 (by decide +kernel) rfl) (tb1 2 (by decide +kernel) rfl) hf1 dX11_init_5) ?_
  refine ga_blR (fun b2 S3 x4 => ?_)
  refine ga1 (M := mX11_init) (pc' := 9) (k' := 109) (n' := 8966) (r_dup (M := mX11_init) rfl dX11_init_8) ?_
  refine ga_fk (fun hf6 => ?_)
  refine ga_IN (M := mX11_init) (As := []) (st := [.ref b2, .ref a0]) (mc := 3) (ms := 17) (k' := 106) (n' := 8949) ln_11_9 rfl lb_X3_init (tA_X3_init (N := N) (by omega)) (by omega) (Nat.le_of_ble_eq_true rfl) rfl dX11_init_9 hf6 rfl rfl (fun r5 => ?_)
  show GA mX11_init d _ _ _ 12 [some (.ref a0), some (.int a1), none] [.ref b2, .ref a0] r5.1 r5.2 106 8949 _
  refine ga_tk (fun h7 => ?_)
  refine ga_lk (fun hl8 => ?_)
  refine ga1 (M := mX11_init) (pc' := 15) (k' := 106) (n' := 8949) (r_putR (M := mX11_init) fl_11_10 h7 (Or.inr ⟨rfl, rfl, rfl⟩) rfl hl8 dX11_init_12) ?_
  refine ga_blS (fun S9 x10 => ?_)
  refine ga1 (M := mX11_init) (pc' := 16) (k' := 106) (n' := 8949) (r_aload_n (M := mX11_init) (i := 0) rfl dX11_init_15) ?_
  refine ga_fk (fun hf11 => ?_)
  refine ga1 (M := mX11_init) (pc' := 19) (k' := 105) (n' := 8945) (r_new (M := mX11_init) (c := 7) (by decide) (tb1 58 (by decide +kernel) rfl) (tb1 59 (by decide +kernel) rfl) (tb1 3 (by decide +kernel) rfl) hf11 dX11_init_16) ?_
  refine ga_blR (fun b12 S13 x14 => ?_)
  refine ga1 (M := mX11_init) (pc' := 20) (k' := 105) (n' := 8945) (r_dup (M := mX11_init) rfl dX11_init_19) ?_
  refine ga_fk (fun hf16 => ?_)
  refine ga_I (M := mX11_init) (As := []) (st := [.ref b12, .ref a0]) (mc := 3) (ms := 169) (k' := 102) (n' := 8776) ln_11_18 rfl lb_X7_init (tA_X7_init (N := N) (by omega)) (by omega) (Nat.le_of_ble_eq_true rfl) rfl dX11_init_20 hf16 rfl rfl (fun r15 => ?_)
  show GA mX11_init d _ _ _ 23 [some (.ref a0), some (.int a1), none] [.ref b12, .ref a0] r15.1 r15.2 102 8776 _
  refine ga_tk (fun h17 => ?_)
  refine ga_lk (fun hl18 => ?_)
  refine ga1 (M := mX11_init) (pc' := 26) (k' := 102) (n' := 8776) (r_putR (M := mX11_init) fl_11_19 h17 (Or.inr ⟨rfl, rfl, rfl⟩) rfl hl18 dX11_init_23) ?_
  refine ga_blS (fun S19 x20 => ?_)
  refine ga1 (M := mX11_init) (pc' := 27) (k' := 102) (n' := 8776) (r_aload_n (M := mX11_init) (i := 0) rfl dX11_init_26) ?_
  refine ga_fk (fun hf21 => ?_)
  refine ga1 (M := mX11_init) (pc' := 30) (k' := 101) (n' := 8765) (r_new (M := mX11_init) (c := 5) (by decide) (tb1 104 (by decide +kernel) rfl) (tb1 105 (by decide +kernel) rfl) (tb1 6 (by decide +kernel) rfl) hf21 dX11_init_27) ?_
  refine ga_blR (fun b22 S23 x24 => ?_)
  refine ga1 (M := mX11_init) (pc' := 31) (k' := 101) (n' := 8765) (r_dup (M := mX11_init) rfl dX11_init_30) ?_
  refine ga_fk (fun hf26 => ?_)
  refine ga_IN (M := mX11_init) (As := []) (st := [.ref b22, .ref a0]) (mc := 5) (ms := 800) (k' := 96) (n' := 7965) ln_11_25 rfl lb_X5_init (tA_X5_init (N := N) (by omega)) (by omega) (Nat.le_of_ble_eq_true rfl) rfl dX11_init_31 hf26 rfl rfl (fun r25 => ?_)
  show GA mX11_init d _ _ _ 34 [some (.ref a0), some (.int a1), none] [.ref b22, .ref a0] r25.1 r25.2 96 7965 _
  refine ga_tk (fun h27 => ?_)
  refine ga_lk (fun hl28 => ?_)
  refine ga1 (M := mX11_init) (pc' := 37) (k' := 96) (n' := 7965) (r_putR (M := mX11_init) fl_11_26 h27 (Or.inr ⟨rfl, rfl, rfl⟩) rfl hl28 dX11_init_34) ?_
  refine ga_blS (fun S29 x30 => ?_)
  refine ga1 (M := mX11_init) (pc' := 38) (k' := 96) (n' := 7965) (r_aload_n (M := mX11_init) (i := 0) rfl dX11_init_37) ?_
  refine ga_fk (fun hf31 => ?_)
  refine ga1 (M := mX11_init) (pc' := 41) (k' := 95) (n' := 7960) (r_new (M := mX11_init) (c := 0) (by decide) (tb1 146 (by decide +kernel) rfl) (tb1 147 (by decide +kernel) rfl) (tb1 7 (by decide +kernel) rfl) hf31 dX11_init_38) ?_
  refine ga_blR (fun b32 S33 x34 => ?_)
  refine ga1 (M := mX11_init) (pc' := 42) (k' := 95) (n' := 7960) (r_dup (M := mX11_init) rfl dX11_init_41) ?_
  refine ga_fk (fun hf36 => ?_)
  refine ga_IN (M := mX11_init) (As := []) (st := [.ref b32, .ref a0]) (mc := 3) (ms := 68) (k' := 92) (n' := 7892) ln_11_32 rfl lb_X0_init (tA_X0_init (N := N) (by omega)) (by omega) (Nat.le_of_ble_eq_true rfl) rfl dX11_init_42 hf36 rfl rfl (fun r35 => ?_)
  show GA mX11_init d _ _ _ 45 [some (.ref a0), some (.int a1), none] [.ref b32, .ref a0] r35.1 r35.2 92 7892 _
  refine ga_tk (fun h37 => ?_)
  refine ga_lk (fun hl38 => ?_)
  refine ga1 (M := mX11_init) (pc' := 48) (k' := 92) (n' := 7892) (r_putR (M := mX11_init) fl_11_33 h37 (Or.inr ⟨rfl, rfl, rfl⟩) rfl hl38 dX11_init_45) ?_
  refine ga_blS (fun S39 x40 => ?_)
  refine ga1 (M := mX11_init) (pc' := 49) (k' := 92) (n' := 7892) (r_aload_n (M := mX11_init) (i := 0) rfl dX11_init_48) ?_
  refine ga_fk (fun hf41 => ?_)
  refine ga1 (M := mX11_init) (pc' := 52) (k' := 91) (n' := 7889) (r_new (M := mX11_init) (c := 9) (by decide) (tb1 172 (by decide +kernel) rfl) (tb1 173 (by decide +kernel) rfl) (tb1 8 (by decide +kernel) rfl) hf41 dX11_init_49) ?_
  refine ga_blR (fun b42 S43 x44 => ?_)
  refine ga1 (M := mX11_init) (pc' := 53) (k' := 91) (n' := 7889) (r_dup (M := mX11_init) rfl dX11_init_52) ?_
  refine ga_fk (fun hf46 => ?_)
  refine ga_IN (M := mX11_init) (As := []) (st := [.ref b42, .ref a0]) (mc := 7) (ms := 172) (k' := 84) (n' := 7717) ln_11_39 rfl lb_X9_init (tA_X9_init (N := N) (by omega)) (by omega) (Nat.le_of_ble_eq_true rfl) rfl dX11_init_53 hf46 rfl rfl (fun r45 => ?_)
  show GA mX11_init d _ _ _ 56 [some (.ref a0), some (.int a1), none] [.ref b42, .ref a0] r45.1 r45.2 84 7717 _
  refine ga_tk (fun h47 => ?_)
  refine ga_lk (fun hl48 => ?_)
  refine ga1 (M := mX11_init) (pc' := 59) (k' := 84) (n' := 7717) (r_putR (M := mX11_init) fl_11_40 h47 (Or.inr ⟨rfl, rfl, rfl⟩) rfl hl48 dX11_init_56) ?_
  refine ga_blS (fun S49 x50 => ?_)
  refine ga1 (M := mX11_init) (pc' := 61) (k' := 84) (n' := 7717) (r_bipush (M := mX11_init) (v := 6) (by decide) dX11_init_59) ?_
  refine ga1 (M := mX11_init) (pc' := 62) (k' := 84) (n' := 7717) (r_iload_n (M := mX11_init) (i := 1) rfl dX11_init_61) ?_
  refine ga1 (M := mX11_init) (pc' := 64) (k' := 84) (n' := 7717) (r_bipush (M := mX11_init) (v := 7) (by decide) dX11_init_62) ?_
  refine ga_fk (fun hf52 => ?_)
  refine ga_S (M := mX11_init) (As := [.int a1, .int 7]) (st := [.int 6]) (mc := 0) (ms := 0) (k' := 84) (n' := 7717) ln_11_44 lb_J9_floorMod_7cf53 (CT.CA (t_J9_floorMod_7cf53 (N := N) (by omega) )) (by omega) (Nat.le_of_ble_eq_true rfl) rfl dX11_init_64 hf52 rfl rfl (fun r51 => ?_)
  show GA mX11_init d _ _ _ 67 [some (.ref a0), some (.int a1), none] [.int r51, .int 6] S49 x50 84 7717 _
  refine ga1 (M := mX11_init) (pc' := 68) (k' := 84) (n' := 7717) (r_iadd (M := mX11_init) dX11_init_67) ?_
  refine ga1 (M := mX11_init) (pc' := 69) (ls' := [some (.ref a0), some (.int a1), some (.int (6 + r51))]) (k' := 84) (n' := 7717) (r_istore_n (M := mX11_init) (ls := [some (.ref a0), some (.int a1), none]) (i := 2) (v := (6 + r51)) (by decide) rfl dX11_init_68) ?_
  refine ga1 (M := mX11_init) (pc' := 70) (k' := 84) (n' := 7717) (r_aload_n (M := mX11_init) (i := 0) rfl dX11_init_69) ?_
  refine ga_fk (fun hf53 => ?_)
  refine ga1 (M := mX11_init) (pc' := 73) (k' := 83) (n' := 7706) (r_new (M := mX11_init) (c := 6) (by decide) (tb1 195 (by decide +kernel) rfl) (tb1 196 (by decide +kernel) rfl) (tb1 9 (by decide +kernel) rfl) hf53 dX11_init_70) ?_
  refine ga_blR (fun b54 S55 x56 => ?_)
  refine ga1 (M := mX11_init) (pc' := 74) (k' := 83) (n' := 7706) (r_dup (M := mX11_init) rfl dX11_init_73) ?_
  refine ga1 (M := mX11_init) (pc' := 75) (k' := 83) (n' := 7706) (r_iload_n (M := mX11_init) (i := 2) rfl dX11_init_74) ?_
  refine ga1 (M := mX11_init) (pc' := 76) (k' := 83) (n' := 7706) (r_aload_n (M := mX11_init) (i := 0) rfl dX11_init_75) ?_
  refine ga_tk (fun h57 => ?_)
  refine ga_rfk (fun b58 hb59 => ?_)
  refine ga1 (M := mX11_init) (pc' := 79) (k' := 83) (n' := 7706) (r_getR (M := mX11_init) fl_11_10 h57 rfl hb59 dX11_init_76) ?_
  refine ga1 (M := mX11_init) (pc' := 80) (k' := 83) (n' := 7706) (r_aload_n (M := mX11_init) (i := 0) rfl dX11_init_79) ?_
  refine ga_tk (fun h60 => ?_)
  refine ga_rfk (fun b61 hb62 => ?_)
  refine ga1 (M := mX11_init) (pc' := 83) (k' := 83) (n' := 7706) (r_getR (M := mX11_init) fl_11_19 h60 rfl hb62 dX11_init_80) ?_
  refine ga_fk (fun hf64 => ?_)
  refine ga_I (M := mX11_init) (As := [.int (6 + r51), .ref b58, .ref b61]) (st := [.ref b54, .ref a0]) (mc := 19) (ms := 1915) (k' := 64) (n' := 5791) ln_11_52 rfl lb_X6_init (tA_X6_init (N := N) (by omega)) (by omega) (Nat.le_of_ble_eq_true rfl) rfl dX11_init_83 hf64 rfl rfl (fun r63 => ?_)
  show GA mX11_init d _ _ _ 86 [some (.ref a0), some (.int a1), some (.int (6 + r51))] [.ref b54, .ref a0] r63.1 r63.2 64 5791 _
  refine ga_tk (fun h65 => ?_)
  refine ga_lk (fun hl66 => ?_)
  refine ga1 (M := mX11_init) (pc' := 89) (k' := 64) (n' := 5791) (r_putR (M := mX11_init) fl_11_55 h65 (Or.inr ⟨rfl, rfl, rfl⟩) rfl hl66 dX11_init_86) ?_
  refine ga_blS (fun S67 x68 => ?_)
  refine ga1 (M := mX11_init) (pc' := 90) (k' := 64) (n' := 5791) (r_aload_n (M := mX11_init) (i := 0) rfl dX11_init_89) ?_
  refine ga_fk (fun hf69 => ?_)
  refine ga1 (M := mX11_init) (pc' := 93) (k' := 63) (n' := 5787) (r_new (M := mX11_init) (c := 1) (by decide) (tb2 111 (by decide +kernel) rfl) (tb2 112 (by decide +kernel) rfl) (tb1 14 (by decide +kernel) rfl) hf69 dX11_init_90) ?_
  refine ga_blR (fun b70 S71 x72 => ?_)
  refine ga1 (M := mX11_init) (pc' := 94) (k' := 63) (n' := 5787) (r_dup (M := mX11_init) rfl dX11_init_93) ?_
  refine ga1 (M := mX11_init) (pc' := 95) (k' := 63) (n' := 5787) (r_iload_n (M := mX11_init) (i := 2) rfl dX11_init_94) ?_
  refine ga1 (M := mX11_init) (pc' := 96) (k' := 63) (n' := 5787) (r_aload_n (M := mX11_init) (i := 0) rfl dX11_init_95) ?_
  refine ga_tk (fun h73 => ?_)
  refine ga_rfk (fun b74 hb75 => ?_)
  refine ga1 (M := mX11_init) (pc' := 99) (k' := 63) (n' := 5787) (r_getR (M := mX11_init) fl_11_10 h73 rfl hb75 dX11_init_96) ?_
  refine ga1 (M := mX11_init) (pc' := 100) (k' := 63) (n' := 5787) (r_aload_n (M := mX11_init) (i := 0) rfl dX11_init_99) ?_
  refine ga_tk (fun h76 => ?_)
  refine ga_rfk (fun b77 hb78 => ?_)
  refine ga1 (M := mX11_init) (pc' := 103) (k' := 63) (n' := 5787) (r_getR (M := mX11_init) fl_11_19 h76 rfl hb78 dX11_init_100) ?_
  refine ga_fk (fun hf80 => ?_)
  refine ga_I (M := mX11_init) (As := [.int (6 + r51), .ref b74, .ref b77]) (st := [.ref b70, .ref a0]) (mc := 63) (ms := 5787) (k' := 0) (n' := 0) ln_11_61 rfl lb_X1_init (tA_X1_init (N := N) (by omega)) (by omega) (Nat.le_of_ble_eq_true rfl) rfl dX11_init_103 hf80 rfl rfl (fun r79 => ?_)
  show GA mX11_init d _ _ _ 106 [some (.ref a0), some (.int a1), some (.int (6 + r51))] [.ref b70, .ref a0] r79.1 r79.2 0 0 _
  refine ga_tk (fun h81 => ?_)
  refine ga_lk (fun hl82 => ?_)
  refine ga1 (M := mX11_init) (pc' := 109) (k' := 0) (n' := 0) (r_putR (M := mX11_init) fl_11_62 h81 (Or.inr ⟨rfl, rfl, rfl⟩) rfl hl82 dX11_init_106) ?_
  refine ga_blS (fun S83 x84 => ?_)
  exact ga_vret (M := mX11_init) rfl rfl dX11_init_109
