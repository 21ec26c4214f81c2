/-! MIRRORS, by program out of the class's bytecode: X12_feed .. X12_part -/
def lp_X12_feed_32_b (N : Nat) (S : SH) (bk32 : Int32 → DY → Option (Int32 × DY)) (p0 : Nat) (p1 : Int32) (p2 : Int64) (p4 : Int32) (x : DY) : Option (Int32 × DY) :=
  (if p1 ≤ p4 then some ((x.1 p0 28), x) else ck S (pr S p0 27) (x.1 p0 28) (bl (U1 x (pr S p0 27) (x.1 p0 28).toNatClampNeg (vp_nar .byte (((((p2 >>> ((8 * p4).toInt64 &&& 63))).toInt32)).toInt8.toInt32))) (fun x8 => bl (U1 x8 p0 28 ((x8.1 p0 28) + 1)) (fun x9 => bk32 (p4 + 1) x9))))
set_option maxHeartbeats 1000000 in
theorem lp_X12_feed_32_b_t {N d : Nat} {S : SH} (hW : WT S) (hd : 2 ≤ d) (bk32 : Int32 → DY → Option (Int32 × DY)) (p0 : Nat) (p1 : Int32) (p2 : Int64) (p4 : Int32) (x : DY) (g0 : TY S p0 12) (hbk32 : ∀ (v4 : Int32) (y : DY), Go mX12_feed d S wSI 32 [some (.ref p0), some (.int p1), some (.long p2), none, some (.int v4)] [] y (bk32 v4 y)) : Go mX12_feed d S wSI 32 [some (.ref p0), some (.int p1), some (.long p2), none, some (.int p4)] [] x (lp_X12_feed_32_b N S bk32 p0 p1 p2 p4 x) := by
  unfold lp_X12_feed_32_b
  refine go1 (M := mX12_feed) (pc' := 34) (r_iload (M := mX12_feed) (i := 4) rfl dX12_feed_32) ?_
  refine go1 (M := mX12_feed) (pc' := 35) (r_iload_n (M := mX12_feed) (i := 1) rfl dX12_feed_34) ?_
  refine go_br (M := mX12_feed) (pt := 72) (pf := 38) (fun kt kf => r_icmp_ge (M := mX12_feed) dX12_feed_35 (by decide) kt kf) (fun hc5 => ?_) (fun hc5 => ?_)
  · refine go1 (M := mX12_feed) (pc' := 73) (r_aload_n (M := mX12_feed) (i := 0) rfl dX12_feed_72) ?_
    refine go1 (M := mX12_feed) (pc' := 76) (r_getI (M := mX12_feed) fl_12_94 g0 rfl dX12_feed_73) ?_
    exact go_iret (M := mX12_feed) rfl rfl dX12_feed_76
  · refine go1 (M := mX12_feed) (pc' := 39) (r_aload_n (M := mX12_feed) (i := 0) rfl dX12_feed_38) ?_
    refine go1 (M := mX12_feed) (pc' := 42) (r_getR (M := mX12_feed) fl_12_90 g0 rfl (wt_some hW g0 (by decide) (by decide) rfl) dX12_feed_39) ?_
    have hT6 : TY S (pr S p0 27) 13 := wt hW g0 (by decide) (by decide) rfl (by decide)
    refine go1 (M := mX12_feed) (pc' := 43) (r_aload_n (M := mX12_feed) (i := 0) rfl dX12_feed_42) ?_
    refine go1 (M := mX12_feed) (pc' := 46) (r_getI (M := mX12_feed) fl_12_94 g0 rfl dX12_feed_43) ?_
    refine go1 (M := mX12_feed) (pc' := 47) (r_lload_n (M := mX12_feed) (i := 2) rfl dX12_feed_46) ?_
    refine go1 (M := mX12_feed) (pc' := 49) (r_bipush (M := mX12_feed) (v := 8) (by decide) dX12_feed_47) ?_
    refine go1 (M := mX12_feed) (pc' := 51) (r_iload (M := mX12_feed) (i := 4) rfl dX12_feed_49) ?_
    refine go1 (M := mX12_feed) (pc' := 52) (r_imul (M := mX12_feed) dX12_feed_51) ?_
    refine go1 (M := mX12_feed) (pc' := 53) (r_lshr (M := mX12_feed) dX12_feed_52) ?_
    refine go1 (M := mX12_feed) (pc' := 54) (r_l2i (M := mX12_feed) dX12_feed_53) ?_
    refine go1 (M := mX12_feed) (pc' := 55) (r_i2b (M := mX12_feed) dX12_feed_54) ?_
    refine go_ck (fun hi7 => ?_)
    refine go1 (M := mX12_feed) (pc' := 56) (r_bast (M := mX12_feed) hT6 hi7 dX12_feed_55) ?_
    refine go_blx (fun x8 => ?_)
    refine go1 (M := mX12_feed) (pc' := 57) (r_aload_n (M := mX12_feed) (i := 0) rfl dX12_feed_56) ?_
    refine go1 (M := mX12_feed) (pc' := 58) (r_dup (M := mX12_feed) rfl dX12_feed_57) ?_
    refine go1 (M := mX12_feed) (pc' := 61) (r_getI (M := mX12_feed) fl_12_94 g0 rfl dX12_feed_58) ?_
    refine go1 (M := mX12_feed) (pc' := 62) (r_iconst (M := mX12_feed) (v := 1) (by decide) dX12_feed_61) ?_
    refine go1 (M := mX12_feed) (pc' := 63) (r_iadd (M := mX12_feed) dX12_feed_62) ?_
    refine go1 (M := mX12_feed) (pc' := 66) (r_putI (M := mX12_feed) fl_12_94 g0 rfl rfl dX12_feed_63) ?_
    refine go_blx (fun x9 => ?_)
    refine go1 (M := mX12_feed) (pc' := 69) (ls' := [some (.ref p0), some (.int p1), some (.long p2), none, some (.int (p4 + 1))]) (r_iinc (M := mX12_feed) (ls := [some (.ref p0), some (.int p1), some (.long p2), none, some (.int p4)]) (i := 4) (v := p4) (c' := 1) (by decide) rfl (by decide) rfl dX12_feed_66) ?_
    refine go1 (M := mX12_feed) (pc' := 32) (r_goto (M := mX12_feed) dX12_feed_69 (by decide)) ?_
    exact hbk32 (p4 + 1) x9
def lp_X12_feed_32 (N : Nat) (S : SH) (p0 : Nat) (p1 : Int32) (p2 : Int64) (p4 : Int32) (x : DY) : Option (Int32 × DY) :=
  itr (fun back (v : Int32 × DY) => lp_X12_feed_32_b N S (fun p4 y => back (p4, y)) p0 p1 p2 v.1 v.2) N (p4, x)
theorem lp_X12_feed_32_t {N d : Nat} {S : SH} (hW : WT S) (hd : 2 ≤ d) (p0 : Nat) (p1 : Int32) (p2 : Int64) (p4 : Int32) (x : DY) (g0 : TY S p0 12) : Go mX12_feed d S wSI 32 [some (.ref p0), some (.int p1), some (.long p2), none, some (.int p4)] [] x (lp_X12_feed_32 N S p0 p1 p2 p4 x) := by
  unfold lp_X12_feed_32
  exact go_itr (L := fun (v : Int32 × DY) => [some (.ref p0), some (.int p1), some (.long p2), none, some (.int v.1)]) (X := fun (v : Int32 × DY) => v.2) (fun back hB v => lp_X12_feed_32_b_t (N := N) hW hd (fun p4 y => back (p4, y)) p0 p1 p2 v.1 v.2 g0 (fun p4 y => hB (p4, y)) ) N (p4, x)
def f_X12_feed (N : Nat) (S : SH) (a0 : Nat) (a1 : Int32) (a2 : Int64) (x : DY) : Option (Int32 × DY) :=
  Option.bind (f_X12_in N S a0 a1 1 8 x) (fun r1 => (if r1 = 0 then some ((-2), x) else (if ((x.1 a0 28) + a1) ≤ 160 then lp_X12_feed_32 N S a0 a1 a2 0 x else some ((-4), x))))
set_option maxHeartbeats 1000000 in
theorem t_X12_feed {N d : Nat} {S : SH} (hW : WT S) {x : DY} {a0 : Nat} {a1 : Int32} {a2 : Int64} (hd : 2 ≤ d) (h0 : TY S a0 12) : CT mX12_feed d S [.ref a0, .int a1, .long a2] x wSI (f_X12_feed N S a0 a1 a2 x) := by
  refine CT.of [some (.ref a0), some (.int a1), some (.long a2), none, none] rfl (Nat.le_of_ble_eq_true rfl) (by decide +kernel) ?_
  unfold f_X12_feed
  refine go1 (M := mX12_feed) (pc' := 1) (r_aload_n (M := mX12_feed) (i := 0) rfl dX12_feed_0) ?_
  refine go1 (M := mX12_feed) (pc' := 2) (r_iload_n (M := mX12_feed) (i := 1) rfl dX12_feed_1) ?_
  refine go1 (M := mX12_feed) (pc' := 3) (r_iconst (M := mX12_feed) (v := 1) (by decide) dX12_feed_2) ?_
  refine go1 (M := mX12_feed) (pc' := 5) (r_bipush (M := mX12_feed) (v := 8) (by decide) dX12_feed_3) ?_
  refine go_V_PI (M := mX12_feed) (pc' := 8) (st := []) (As := [.int a1, .int 1, .int 8]) rfl ln_12_217 lb_X12_in (t_X12_in (N := N) hW (by omega) h0) (by omega) h0 (Nat.le_of_ble_eq_true rfl) rfl dX12_feed_5 (fun r1 => ?_)
  refine go_br (M := mX12_feed) (pt := 11) (pf := 14) (fun kt kf => r_if_ne (M := mX12_feed) dX12_feed_8 (by decide) kf kt) (fun hc2 => ?_) (fun hc2 => ?_)
  · refine go1 (M := mX12_feed) (pc' := 13) (r_bipush (M := mX12_feed) (v := (-2)) (by decide) dX12_feed_11) ?_
    exact go_iret (M := mX12_feed) rfl rfl dX12_feed_13
  · refine go1 (M := mX12_feed) (pc' := 15) (r_aload_n (M := mX12_feed) (i := 0) rfl dX12_feed_14) ?_
    refine go1 (M := mX12_feed) (pc' := 18) (r_getI (M := mX12_feed) fl_12_94 h0 rfl dX12_feed_15) ?_
    refine go1 (M := mX12_feed) (pc' := 19) (r_iload_n (M := mX12_feed) (i := 1) rfl dX12_feed_18) ?_
    refine go1 (M := mX12_feed) (pc' := 20) (r_iadd (M := mX12_feed) dX12_feed_19) ?_
    refine go1 (M := mX12_feed) (pc' := 23) (r_sipush (M := mX12_feed) (v := 160) (by decide) dX12_feed_20) ?_
    refine go_br (M := mX12_feed) (pt := 29) (pf := 26) (fun kt kf => r_icmp_le (M := mX12_feed) dX12_feed_23 (by decide) kt kf) (fun hc3 => ?_) (fun hc3 => ?_)
    · refine go1 (M := mX12_feed) (pc' := 30) (r_iconst (M := mX12_feed) (v := 0) (by decide) dX12_feed_29) ?_
      refine go1 (M := mX12_feed) (pc' := 32) (ls' := [some (.ref a0), some (.int a1), some (.long a2), none, some (.int 0)]) (r_istore (M := mX12_feed) (ls := [some (.ref a0), some (.int a1), some (.long a2), none, none]) (i := 4) (v := 0) (by decide) rfl dX12_feed_30) ?_
      refine lp_X12_feed_32_t (N := N) hW (by omega) a0 a1 a2 0 x h0
    · refine go1 (M := mX12_feed) (pc' := 28) (r_bipush (M := mX12_feed) (v := (-4)) (by decide) dX12_feed_26) ?_
      exact go_iret (M := mX12_feed) rfl rfl dX12_feed_28
def f_X12_isLetter (N : Nat) (S : SH) (a0 : Nat) (a1 : Int32) (x : DY) : Option Int32 :=
  (if a1 < 97 then some 0 else (if 122 < a1 then some 0 else some 1))
set_option maxHeartbeats 1000000 in
theorem t_X12_isLetter {N d : Nat} {S : SH} (hW : WT S) {x : DY} {a0 : Nat} {a1 : Int32} (hd : 1 ≤ d) (h0 : TY S a0 12) : CT mX12_isLetter d S [.ref a0, .int a1] x (wPI x) (f_X12_isLetter N S a0 a1 x) := by
  refine CT.of [some (.ref a0), some (.int a1)] rfl (Nat.le_of_ble_eq_true rfl) (by decide +kernel) ?_
  unfold f_X12_isLetter
  refine go1 (M := mX12_isLetter) (pc' := 1) (r_iload_n (M := mX12_isLetter) (i := 1) rfl dX12_isLetter_0) ?_
  refine go1 (M := mX12_isLetter) (pc' := 3) (r_bipush (M := mX12_isLetter) (v := 97) (by decide) dX12_isLetter_1) ?_
  refine go_br (M := mX12_isLetter) (pt := 16) (pf := 6) (fun kt kf => r_icmp_lt (M := mX12_isLetter) dX12_isLetter_3 (by decide) kt kf) (fun hc1 => ?_) (fun hc1 => ?_)
  · refine go1 (M := mX12_isLetter) (pc' := 17) (r_iconst (M := mX12_isLetter) (v := 0) (by decide) dX12_isLetter_16) ?_
    exact go_zret (M := mX12_isLetter) rfl rfl rfl dX12_isLetter_17
  · refine go1 (M := mX12_isLetter) (pc' := 7) (r_iload_n (M := mX12_isLetter) (i := 1) rfl dX12_isLetter_6) ?_
    refine go1 (M := mX12_isLetter) (pc' := 9) (r_bipush (M := mX12_isLetter) (v := 122) (by decide) dX12_isLetter_7) ?_
    refine go_br (M := mX12_isLetter) (pt := 16) (pf := 12) (fun kt kf => r_icmp_gt (M := mX12_isLetter) dX12_isLetter_9 (by decide) kt kf) (fun hc2 => ?_) (fun hc2 => ?_)
    · refine go1 (M := mX12_isLetter) (pc' := 17) (r_iconst (M := mX12_isLetter) (v := 0) (by decide) dX12_isLetter_16) ?_
      exact go_zret (M := mX12_isLetter) rfl rfl rfl dX12_isLetter_17
    · refine go1 (M := mX12_isLetter) (pc' := 13) (r_iconst (M := mX12_isLetter) (v := 1) (by decide) dX12_isLetter_12) ?_
      refine go1 (M := mX12_isLetter) (pc' := 17) (r_goto (M := mX12_isLetter) dX12_isLetter_13 (by decide)) ?_
      exact go_zret (M := mX12_isLetter) rfl rfl rfl dX12_isLetter_17
def f_X12_isDigit (N : Nat) (S : SH) (a0 : Nat) (a1 : Int32) (x : DY) : Option Int32 :=
  (if a1 < 48 then some 0 else (if 57 < a1 then some 0 else some 1))
set_option maxHeartbeats 1000000 in
theorem t_X12_isDigit {N d : Nat} {S : SH} (hW : WT S) {x : DY} {a0 : Nat} {a1 : Int32} (hd : 1 ≤ d) (h0 : TY S a0 12) : CT mX12_isDigit d S [.ref a0, .int a1] x (wPI x) (f_X12_isDigit N S a0 a1 x) := by
  refine CT.of [some (.ref a0), some (.int a1)] rfl (Nat.le_of_ble_eq_true rfl) (by decide +kernel) ?_
  unfold f_X12_isDigit
  refine go1 (M := mX12_isDigit) (pc' := 1) (r_iload_n (M := mX12_isDigit) (i := 1) rfl dX12_isDigit_0) ?_
  refine go1 (M := mX12_isDigit) (pc' := 3) (r_bipush (M := mX12_isDigit) (v := 48) (by decide) dX12_isDigit_1) ?_
  refine go_br (M := mX12_isDigit) (pt := 16) (pf := 6) (fun kt kf => r_icmp_lt (M := mX12_isDigit) dX12_isDigit_3 (by decide) kt kf) (fun hc1 => ?_) (fun hc1 => ?_)
  · refine go1 (M := mX12_isDigit) (pc' := 17) (r_iconst (M := mX12_isDigit) (v := 0) (by decide) dX12_isDigit_16) ?_
    exact go_zret (M := mX12_isDigit) rfl rfl rfl dX12_isDigit_17
  · refine go1 (M := mX12_isDigit) (pc' := 7) (r_iload_n (M := mX12_isDigit) (i := 1) rfl dX12_isDigit_6) ?_
    refine go1 (M := mX12_isDigit) (pc' := 9) (r_bipush (M := mX12_isDigit) (v := 57) (by decide) dX12_isDigit_7) ?_
    refine go_br (M := mX12_isDigit) (pt := 16) (pf := 12) (fun kt kf => r_icmp_gt (M := mX12_isDigit) dX12_isDigit_9 (by decide) kt kf) (fun hc2 => ?_) (fun hc2 => ?_)
    · refine go1 (M := mX12_isDigit) (pc' := 17) (r_iconst (M := mX12_isDigit) (v := 0) (by decide) dX12_isDigit_16) ?_
      exact go_zret (M := mX12_isDigit) rfl rfl rfl dX12_isDigit_17
    · refine go1 (M := mX12_isDigit) (pc' := 13) (r_iconst (M := mX12_isDigit) (v := 1) (by decide) dX12_isDigit_12) ?_
      refine go1 (M := mX12_isDigit) (pc' := 17) (r_goto (M := mX12_isDigit) dX12_isDigit_13 (by decide)) ?_
      exact go_zret (M := mX12_isDigit) rfl rfl rfl dX12_isDigit_17
def lp_X12_isWord_10_b (N : Nat) (S : SH) (k55 : Int64 → Int32 → Option Int32) (bk10 : Int64 → Int32 → Option Int32) (p0 : Nat) (p3 : Int64) (p5 : Int32) (x : DY) : Option Int32 :=
  (if p5 < (x.1 p0 36) then k55 p3 p5 else (if (lg_cmp p3 0) ≤ 0 then k55 p3 p5 else ck S (pr S p0 27) p5 ((if (lg_cmp (p3 &&& 31) ((((x.1 (pr S p0 27) p5.toNatClampNeg) - 96)).toInt64)) = 0 then bk10 (p3 >>> ((5 : Int32).toInt64 &&& 63)) (p5 + (-1)) else k55 p3 p5))))
set_option maxHeartbeats 1000000 in
theorem lp_X12_isWord_10_b_t {N d : Nat} {S : SH} (hW : WT S) (hd : 1 ≤ d) (k55 : Int64 → Int32 → Option Int32) (bk10 : Int64 → Int32 → Option Int32) (p0 : Nat) (p3 : Int64) (p5 : Int32) (x : DY) (g0 : TY S p0 12) (hk55 : ∀ (v3 : Int64) (v5 : Int32), Go mX12_isWord d S (wPI x) 55 [some (.ref p0), none, none, some (.long v3), none, some (.int v5)] [] x (k55 v3 v5)) (hbk10 : ∀ (v3 : Int64) (v5 : Int32), Go mX12_isWord d S (wPI x) 10 [some (.ref p0), none, none, some (.long v3), none, some (.int v5)] [] x (bk10 v3 v5)) : Go mX12_isWord d S (wPI x) 10 [some (.ref p0), none, none, some (.long p3), none, some (.int p5)] [] x (lp_X12_isWord_10_b N S k55 bk10 p0 p3 p5 x) := by
  unfold lp_X12_isWord_10_b
  refine go1 (M := mX12_isWord) (pc' := 12) (r_iload (M := mX12_isWord) (i := 5) rfl dX12_isWord_10) ?_
  refine go1 (M := mX12_isWord) (pc' := 13) (r_aload_n (M := mX12_isWord) (i := 0) rfl dX12_isWord_12) ?_
  refine go1 (M := mX12_isWord) (pc' := 16) (r_getI (M := mX12_isWord) fl_12_118 g0 rfl dX12_isWord_13) ?_
  refine go_br (M := mX12_isWord) (pt := 55) (pf := 19) (fun kt kf => r_icmp_lt (M := mX12_isWord) dX12_isWord_16 (by decide) kt kf) (fun hc2 => ?_) (fun hc2 => ?_)
  · exact hk55 p3 p5
  · refine go1 (M := mX12_isWord) (pc' := 20) (r_lload_n (M := mX12_isWord) (i := 3) rfl dX12_isWord_19) ?_
    refine go1 (M := mX12_isWord) (pc' := 21) (r_lconst (M := mX12_isWord) (v := 0) (by decide) dX12_isWord_20) ?_
    refine go1 (M := mX12_isWord) (pc' := 22) (r_lcmp (M := mX12_isWord) dX12_isWord_21) ?_
    refine go_br (M := mX12_isWord) (pt := 55) (pf := 25) (fun kt kf => r_if_le (M := mX12_isWord) dX12_isWord_22 (by decide) kt kf) (fun hc3 => ?_) (fun hc3 => ?_)
    · exact hk55 p3 p5
    · refine go1 (M := mX12_isWord) (pc' := 26) (r_lload_n (M := mX12_isWord) (i := 3) rfl dX12_isWord_25) ?_
      refine go1 (M := mX12_isWord) (pc' := 29) (r_ldc2 (M := mX12_isWord) (v := 31) (tb6 187 (by decide +kernel) rfl) dX12_isWord_26) ?_
      refine go1 (M := mX12_isWord) (pc' := 30) (r_land (M := mX12_isWord) dX12_isWord_29) ?_
      refine go1 (M := mX12_isWord) (pc' := 31) (r_aload_n (M := mX12_isWord) (i := 0) rfl dX12_isWord_30) ?_
      refine go1 (M := mX12_isWord) (pc' := 34) (r_getR (M := mX12_isWord) fl_12_90 g0 rfl (wt_some hW g0 (by decide) (by decide) rfl) dX12_isWord_31) ?_
      have hT4 : TY S (pr S p0 27) 13 := wt hW g0 (by decide) (by decide) rfl (by decide)
      refine go1 (M := mX12_isWord) (pc' := 36) (r_iload (M := mX12_isWord) (i := 5) rfl dX12_isWord_34) ?_
      refine go_ck (fun hi5 => ?_)
      refine go1 (M := mX12_isWord) (pc' := 37) (r_bald (M := mX12_isWord) hT4 hi5 dX12_isWord_36) ?_
      refine go1 (M := mX12_isWord) (pc' := 39) (r_bipush (M := mX12_isWord) (v := 96) (by decide) dX12_isWord_37) ?_
      refine go1 (M := mX12_isWord) (pc' := 40) (r_isub (M := mX12_isWord) dX12_isWord_39) ?_
      refine go1 (M := mX12_isWord) (pc' := 41) (r_i2l (M := mX12_isWord) dX12_isWord_40) ?_
      refine go1 (M := mX12_isWord) (pc' := 42) (r_lcmp (M := mX12_isWord) dX12_isWord_41) ?_
      refine go_br (M := mX12_isWord) (pt := 45) (pf := 55) (fun kt kf => r_if_ne (M := mX12_isWord) dX12_isWord_42 (by decide) kf kt) (fun hc6 => ?_) (fun hc6 => ?_)
      · refine go1 (M := mX12_isWord) (pc' := 46) (r_lload_n (M := mX12_isWord) (i := 3) rfl dX12_isWord_45) ?_
        refine go1 (M := mX12_isWord) (pc' := 47) (r_iconst (M := mX12_isWord) (v := 5) (by decide) dX12_isWord_46) ?_
        refine go1 (M := mX12_isWord) (pc' := 48) (r_lshr (M := mX12_isWord) dX12_isWord_47) ?_
        refine go1 (M := mX12_isWord) (pc' := 49) (ls' := [some (.ref p0), none, none, some (.long (p3 >>> ((5 : Int32).toInt64 &&& 63))), none, some (.int p5)]) (r_lstore_n (M := mX12_isWord) (ls := [some (.ref p0), none, none, some (.long p3), none, some (.int p5)]) (i := 3) (v := (p3 >>> ((5 : Int32).toInt64 &&& 63))) (by decide) rfl dX12_isWord_48) ?_
        refine go1 (M := mX12_isWord) (pc' := 52) (ls' := [some (.ref p0), none, none, some (.long (p3 >>> ((5 : Int32).toInt64 &&& 63))), none, some (.int (p5 + (-1)))]) (r_iinc (M := mX12_isWord) (ls := [some (.ref p0), none, none, some (.long (p3 >>> ((5 : Int32).toInt64 &&& 63))), none, some (.int p5)]) (i := 5) (v := p5) (c' := (-1)) (by decide) rfl (by decide) rfl dX12_isWord_49) ?_
        refine go1 (M := mX12_isWord) (pc' := 10) (r_goto (M := mX12_isWord) dX12_isWord_52 (by decide)) ?_
        exact hbk10 (p3 >>> ((5 : Int32).toInt64 &&& 63)) (p5 + (-1))
      · exact hk55 p3 p5
def lp_X12_isWord_10 (N : Nat) (S : SH) (k55 : Int64 → Int32 → Option Int32) (p0 : Nat) (p3 : Int64) (p5 : Int32) (x : DY) : Option Int32 :=
  itr (fun back (v : Int64 × Int32) => lp_X12_isWord_10_b N S k55 (fun p3 p5 => back (p3, p5)) p0 v.1 v.2 x) N (p3, p5)
theorem lp_X12_isWord_10_t {N d : Nat} {S : SH} (hW : WT S) (hd : 1 ≤ d) (k55 : Int64 → Int32 → Option Int32) (p0 : Nat) (p3 : Int64) (p5 : Int32) (x : DY) (g0 : TY S p0 12) (hk55 : ∀ (v3 : Int64) (v5 : Int32), Go mX12_isWord d S (wPI x) 55 [some (.ref p0), none, none, some (.long v3), none, some (.int v5)] [] x (k55 v3 v5)) : Go mX12_isWord d S (wPI x) 10 [some (.ref p0), none, none, some (.long p3), none, some (.int p5)] [] x (lp_X12_isWord_10 N S k55 p0 p3 p5 x) := by
  unfold lp_X12_isWord_10
  exact go_itr (L := fun (v : Int64 × Int32) => [some (.ref p0), none, none, some (.long v.1), none, some (.int v.2)]) (X := fun (v : Int64 × Int32) => x) (fun back hB v => lp_X12_isWord_10_b_t (N := N) hW hd k55 (fun p3 p5 => back (p3, p5)) p0 v.1 v.2 x g0 hk55 (fun p3 p5 => hB (p3, p5)) ) N (p3, p5)
def j_X12_isWord_55 (N : Nat) (S : SH) (p0 : Nat) (p3 : Int64) (p5 : Int32) (x : DY) : Option Int32 :=
  (if (lg_cmp p3 0) = 0 then (if p5 = ((x.1 p0 36) - 1) then some 1 else some 0) else some 0)
set_option maxHeartbeats 1000000 in
theorem j_X12_isWord_55_t {N d : Nat} {S : SH} (hW : WT S) (hd : 1 ≤ d) (p0 : Nat) (p3 : Int64) (p5 : Int32) (x : DY) (g0 : TY S p0 12) : Go mX12_isWord d S (wPI x) 55 [some (.ref p0), none, none, some (.long p3), none, some (.int p5)] [] x (j_X12_isWord_55 N S p0 p3 p5 x) := by
  unfold j_X12_isWord_55
  refine go1 (M := mX12_isWord) (pc' := 56) (r_lload_n (M := mX12_isWord) (i := 3) rfl dX12_isWord_55) ?_
  refine go1 (M := mX12_isWord) (pc' := 57) (r_lconst (M := mX12_isWord) (v := 0) (by decide) dX12_isWord_56) ?_
  refine go1 (M := mX12_isWord) (pc' := 58) (r_lcmp (M := mX12_isWord) dX12_isWord_57) ?_
  refine go_br (M := mX12_isWord) (pt := 61) (pf := 76) (fun kt kf => r_if_ne (M := mX12_isWord) dX12_isWord_58 (by decide) kf kt) (fun hc8 => ?_) (fun hc8 => ?_)
  · refine go1 (M := mX12_isWord) (pc' := 63) (r_iload (M := mX12_isWord) (i := 5) rfl dX12_isWord_61) ?_
    refine go1 (M := mX12_isWord) (pc' := 64) (r_aload_n (M := mX12_isWord) (i := 0) rfl dX12_isWord_63) ?_
    refine go1 (M := mX12_isWord) (pc' := 67) (r_getI (M := mX12_isWord) fl_12_118 g0 rfl dX12_isWord_64) ?_
    refine go1 (M := mX12_isWord) (pc' := 68) (r_iconst (M := mX12_isWord) (v := 1) (by decide) dX12_isWord_67) ?_
    refine go1 (M := mX12_isWord) (pc' := 69) (r_isub (M := mX12_isWord) dX12_isWord_68) ?_
    refine go_br (M := mX12_isWord) (pt := 72) (pf := 76) (fun kt kf => r_icmp_ne (M := mX12_isWord) dX12_isWord_69 (by decide) kf kt) (fun hc9 => ?_) (fun hc9 => ?_)
    · refine go1 (M := mX12_isWord) (pc' := 73) (r_iconst (M := mX12_isWord) (v := 1) (by decide) dX12_isWord_72) ?_
      refine go1 (M := mX12_isWord) (pc' := 77) (r_goto (M := mX12_isWord) dX12_isWord_73 (by decide)) ?_
      exact go_zret (M := mX12_isWord) rfl rfl rfl dX12_isWord_77
    · refine go1 (M := mX12_isWord) (pc' := 77) (r_iconst (M := mX12_isWord) (v := 0) (by decide) dX12_isWord_76) ?_
      exact go_zret (M := mX12_isWord) rfl rfl rfl dX12_isWord_77
  · refine go1 (M := mX12_isWord) (pc' := 77) (r_iconst (M := mX12_isWord) (v := 0) (by decide) dX12_isWord_76) ?_
    exact go_zret (M := mX12_isWord) rfl rfl rfl dX12_isWord_77
def f_X12_isWord (N : Nat) (S : SH) (a0 : Nat) (a1 : Int64) (x : DY) : Option Int32 :=
  lp_X12_isWord_10 N S (fun e3_6 e5_6 => j_X12_isWord_55 N S a0 e3_6 e5_6 x) a0 a1 ((x.1 a0 33) - 1) x
set_option maxHeartbeats 1000000 in
theorem t_X12_isWord {N d : Nat} {S : SH} (hW : WT S) {x : DY} {a0 : Nat} {a1 : Int64} (hd : 1 ≤ d) (h0 : TY S a0 12) : CT mX12_isWord d S [.ref a0, .long a1] x (wPI x) (f_X12_isWord N S a0 a1 x) := by
  refine CT.of [some (.ref a0), some (.long a1), none, none, none, none] rfl (Nat.le_of_ble_eq_true rfl) (by decide +kernel) ?_
  unfold f_X12_isWord
  refine go1 (M := mX12_isWord) (pc' := 1) (r_lload_n (M := mX12_isWord) (i := 1) rfl dX12_isWord_0) ?_
  refine go1 (M := mX12_isWord) (pc' := 2) (ls' := [some (.ref a0), some (.long a1), none, some (.long a1), none, none]) (r_lstore_n (M := mX12_isWord) (ls := [some (.ref a0), some (.long a1), none, none, none, none]) (i := 3) (v := a1) (by decide) rfl dX12_isWord_1) ?_
  refine go1 (M := mX12_isWord) (pc' := 3) (r_aload_n (M := mX12_isWord) (i := 0) rfl dX12_isWord_2) ?_
  refine go1 (M := mX12_isWord) (pc' := 6) (r_getI (M := mX12_isWord) fl_12_109 h0 rfl dX12_isWord_3) ?_
  refine go1 (M := mX12_isWord) (pc' := 7) (r_iconst (M := mX12_isWord) (v := 1) (by decide) dX12_isWord_6) ?_
  refine go1 (M := mX12_isWord) (pc' := 8) (r_isub (M := mX12_isWord) dX12_isWord_7) ?_
  refine go1 (M := mX12_isWord) (pc' := 10) (ls' := [some (.ref a0), some (.long a1), none, some (.long a1), none, some (.int ((x.1 a0 33) - 1))]) (r_istore (M := mX12_isWord) (ls := [some (.ref a0), some (.long a1), none, some (.long a1), none, none]) (i := 5) (v := ((x.1 a0 33) - 1)) (by decide) rfl dX12_isWord_8) ?_
  refine go_drop (ls' := [some (.ref a0), none, none, some (.long a1), none, some (.int ((x.1 a0 33) - 1))]) (And.intro rfl (And.intro rfl (And.intro rfl trivial))) ?_
  refine lp_X12_isWord_10_t (N := N) hW (by omega) _ a0 a1 ((x.1 a0 33) - 1) x h0 ?_
  · intro e3_6 e5_6
    exact j_X12_isWord_55_t (N := N) hW (by omega) a0 e3_6 e5_6 x h0
def lp_X12_wordToken_0_b (N : Nat) (S : SH) (k40 : DY → Option DY) (bk0 : DY → Option DY) (p0 : Nat) (x : DY) : Option DY :=
  (if (x.1 p0 28) ≤ (x.1 p0 33) then k40 x else ck S (pr S p0 27) (x.1 p0 33) (Option.bind (f_X12_isLetter N S p0 (x.1 (pr S p0 27) (x.1 p0 33).toNatClampNeg) x) (fun r5 => (if r5 = 0 then k40 x else bl (U1 x p0 33 ((x.1 p0 33) + 1)) (fun x7 => bk0 x7)))))
set_option maxHeartbeats 1000000 in
theorem lp_X12_wordToken_0_b_t {N d : Nat} {S : SH} (hW : WT S) (hd : 2 ≤ d) (k40 : DY → Option DY) (bk0 : DY → Option DY) (p0 : Nat) (x : DY) (g0 : TY S p0 12) (hk40 : ∀ (y : DY), Go mX12_wordToken d S wSV 40 [some (.ref p0)] [] y (k40 y)) (hbk0 : ∀ (y : DY), Go mX12_wordToken d S wSV 0 [some (.ref p0)] [] y (bk0 y)) : Go mX12_wordToken d S wSV 0 [some (.ref p0)] [] x (lp_X12_wordToken_0_b N S k40 bk0 p0 x) := by
  unfold lp_X12_wordToken_0_b
  refine go1 (M := mX12_wordToken) (pc' := 1) (r_aload_n (M := mX12_wordToken) (i := 0) rfl dX12_wordToken_0) ?_
  refine go1 (M := mX12_wordToken) (pc' := 4) (r_getI (M := mX12_wordToken) fl_12_109 g0 rfl dX12_wordToken_1) ?_
  refine go1 (M := mX12_wordToken) (pc' := 5) (r_aload_n (M := mX12_wordToken) (i := 0) rfl dX12_wordToken_4) ?_
  refine go1 (M := mX12_wordToken) (pc' := 8) (r_getI (M := mX12_wordToken) fl_12_94 g0 rfl dX12_wordToken_5) ?_
  refine go_br (M := mX12_wordToken) (pt := 40) (pf := 11) (fun kt kf => r_icmp_ge (M := mX12_wordToken) dX12_wordToken_8 (by decide) kt kf) (fun hc2 => ?_) (fun hc2 => ?_)
  · exact hk40 x
  · refine go1 (M := mX12_wordToken) (pc' := 12) (r_aload_n (M := mX12_wordToken) (i := 0) rfl dX12_wordToken_11) ?_
    refine go1 (M := mX12_wordToken) (pc' := 13) (r_aload_n (M := mX12_wordToken) (i := 0) rfl dX12_wordToken_12) ?_
    refine go1 (M := mX12_wordToken) (pc' := 16) (r_getR (M := mX12_wordToken) fl_12_90 g0 rfl (wt_some hW g0 (by decide) (by decide) rfl) dX12_wordToken_13) ?_
    have hT3 : TY S (pr S p0 27) 13 := wt hW g0 (by decide) (by decide) rfl (by decide)
    refine go1 (M := mX12_wordToken) (pc' := 17) (r_aload_n (M := mX12_wordToken) (i := 0) rfl dX12_wordToken_16) ?_
    refine go1 (M := mX12_wordToken) (pc' := 20) (r_getI (M := mX12_wordToken) fl_12_109 g0 rfl dX12_wordToken_17) ?_
    refine go_ck (fun hi4 => ?_)
    refine go1 (M := mX12_wordToken) (pc' := 21) (r_bald (M := mX12_wordToken) hT3 hi4 dX12_wordToken_20) ?_
    refine go_V_PI (M := mX12_wordToken) (pc' := 24) (st := []) (As := [.int (x.1 (pr S p0 27) (x.1 p0 33).toNatClampNeg)]) rfl ln_12_262 lb_X12_isLetter (t_X12_isLetter (N := N) hW (by omega) g0) (by omega) g0 (Nat.le_of_ble_eq_true rfl) rfl dX12_wordToken_21 (fun r5 => ?_)
    refine go_br (M := mX12_wordToken) (pt := 40) (pf := 27) (fun kt kf => r_if_eq (M := mX12_wordToken) dX12_wordToken_24 (by decide) kt kf) (fun hc6 => ?_) (fun hc6 => ?_)
    · exact hk40 x
    · refine go1 (M := mX12_wordToken) (pc' := 28) (r_aload_n (M := mX12_wordToken) (i := 0) rfl dX12_wordToken_27) ?_
      refine go1 (M := mX12_wordToken) (pc' := 29) (r_dup (M := mX12_wordToken) rfl dX12_wordToken_28) ?_
      refine go1 (M := mX12_wordToken) (pc' := 32) (r_getI (M := mX12_wordToken) fl_12_109 g0 rfl dX12_wordToken_29) ?_
      refine go1 (M := mX12_wordToken) (pc' := 33) (r_iconst (M := mX12_wordToken) (v := 1) (by decide) dX12_wordToken_32) ?_
      refine go1 (M := mX12_wordToken) (pc' := 34) (r_iadd (M := mX12_wordToken) dX12_wordToken_33) ?_
      refine go1 (M := mX12_wordToken) (pc' := 37) (r_putI (M := mX12_wordToken) fl_12_109 g0 rfl rfl dX12_wordToken_34) ?_
      refine go_blx (fun x7 => ?_)
      refine go1 (M := mX12_wordToken) (pc' := 0) (r_goto (M := mX12_wordToken) dX12_wordToken_37 (by decide)) ?_
      exact hbk0 x7
def lp_X12_wordToken_0 (N : Nat) (S : SH) (k40 : DY → Option DY) (p0 : Nat) (x : DY) : Option DY :=
  itr (fun back (v : DY) => lp_X12_wordToken_0_b N S k40 (fun y => back y) p0  v) N x
theorem lp_X12_wordToken_0_t {N d : Nat} {S : SH} (hW : WT S) (hd : 2 ≤ d) (k40 : DY → Option DY) (p0 : Nat) (x : DY) (g0 : TY S p0 12) (hk40 : ∀ (y : DY), Go mX12_wordToken d S wSV 40 [some (.ref p0)] [] y (k40 y)) : Go mX12_wordToken d S wSV 0 [some (.ref p0)] [] x (lp_X12_wordToken_0 N S k40 p0  x) := by
  unfold lp_X12_wordToken_0
  exact go_itr (L := fun (v : DY) => [some (.ref p0)]) (X := fun (v : DY) => v) (fun back hB v => lp_X12_wordToken_0_b_t (N := N) hW hd k40 (fun y => back y) p0  v g0 hk40 (fun y => hB y) ) N x
def j_X12_wordToken_219 (N : Nat) (S : SH) (p0 : Nat) (q0 : Int32) (q1 : Nat) (x : DY) : Option DY :=
  bl (U1 x q1 35 q0) (fun x35 => (if 0 ≤ (x35.1 p0 35) then some x35 else bl (U1 x35 p0 34 5) (fun x37 => some x37)))
set_option maxHeartbeats 1000000 in
theorem j_X12_wordToken_219_t {N d : Nat} {S : SH} (hW : WT S) (hd : 2 ≤ d) (p0 : Nat) (q0 : Int32) (q1 : Nat) (x : DY) (g0 : TY S p0 12) (gq1 : TY S q1 12) : Go mX12_wordToken d S wSV 219 [some (.ref p0)] [.int q0, .ref q1] x (j_X12_wordToken_219 N S p0 q0 q1 x) := by
  unfold j_X12_wordToken_219
  refine go1 (M := mX12_wordToken) (pc' := 222) (r_putI (M := mX12_wordToken) fl_12_115 gq1 rfl rfl dX12_wordToken_219) ?_
  refine go_blx (fun x35 => ?_)
  refine go1 (M := mX12_wordToken) (pc' := 223) (r_aload_n (M := mX12_wordToken) (i := 0) rfl dX12_wordToken_222) ?_
  refine go1 (M := mX12_wordToken) (pc' := 226) (r_getI (M := mX12_wordToken) fl_12_115 g0 rfl dX12_wordToken_223) ?_
  refine go_br (M := mX12_wordToken) (pt := 234) (pf := 229) (fun kt kf => r_if_ge (M := mX12_wordToken) dX12_wordToken_226 (by decide) kt kf) (fun hc36 => ?_) (fun hc36 => ?_)
  · exact go_vret (M := mX12_wordToken) rfl rfl dX12_wordToken_234
  · refine go1 (M := mX12_wordToken) (pc' := 230) (r_aload_n (M := mX12_wordToken) (i := 0) rfl dX12_wordToken_229) ?_
    refine go1 (M := mX12_wordToken) (pc' := 231) (r_iconst (M := mX12_wordToken) (v := 5) (by decide) dX12_wordToken_230) ?_
    refine go1 (M := mX12_wordToken) (pc' := 234) (r_putI (M := mX12_wordToken) fl_12_112 g0 rfl rfl dX12_wordToken_231) ?_
    refine go_blx (fun x37 => ?_)
    exact go_vret (M := mX12_wordToken) rfl rfl dX12_wordToken_234
def j_X12_wordToken_131 (N : Nat) (S : SH) (p0 : Nat) (q0 : Int32) (q1 : Nat) (x : DY) : Option DY :=
  bl (U1 x q1 35 q0) (fun x22 => (if (x22.1 p0 35) < 0 then bl (U1 x22 p0 34 3) (fun x24 => Option.bind (f_X12_isWord N S p0 656741 x24) (fun r25 => (if r25 = 0 then Option.bind (f_X12_isWord N S p0 239 x24) (fun r27 => (if r27 = 0 then Option.bind (f_X12_isWord N S p0 498 x24) (fun r29 => (if r29 = 0 then Option.bind (f_X12_isWord N S p0 1476 x24) (fun r31 => (if r31 = 0 then Option.bind (f_X12_isWord N S p0 14836 x24) (fun r33 => (if r33 = 0 then j_X12_wordToken_219 N S p0 (-1) p0 x24 else j_X12_wordToken_219 N S p0 4 p0 x24)) else j_X12_wordToken_219 N S p0 3 p0 x24)) else j_X12_wordToken_219 N S p0 2 p0 x24)) else j_X12_wordToken_219 N S p0 1 p0 x24)) else j_X12_wordToken_219 N S p0 0 p0 x24))) else some x22))
set_option maxHeartbeats 1000000 in
theorem j_X12_wordToken_131_t {N d : Nat} {S : SH} (hW : WT S) (hd : 2 ≤ d) (p0 : Nat) (q0 : Int32) (q1 : Nat) (x : DY) (g0 : TY S p0 12) (gq1 : TY S q1 12) : Go mX12_wordToken d S wSV 131 [some (.ref p0)] [.int q0, .ref q1] x (j_X12_wordToken_131 N S p0 q0 q1 x) := by
  unfold j_X12_wordToken_131
  refine go1 (M := mX12_wordToken) (pc' := 134) (r_putI (M := mX12_wordToken) fl_12_115 gq1 rfl rfl dX12_wordToken_131) ?_
  refine go_blx (fun x22 => ?_)
  refine go1 (M := mX12_wordToken) (pc' := 135) (r_aload_n (M := mX12_wordToken) (i := 0) rfl dX12_wordToken_134) ?_
  refine go1 (M := mX12_wordToken) (pc' := 138) (r_getI (M := mX12_wordToken) fl_12_115 g0 rfl dX12_wordToken_135) ?_
  refine go_br (M := mX12_wordToken) (pt := 142) (pf := 141) (fun kt kf => r_if_lt (M := mX12_wordToken) dX12_wordToken_138 (by decide) kt kf) (fun hc23 => ?_) (fun hc23 => ?_)
  · refine go1 (M := mX12_wordToken) (pc' := 143) (r_aload_n (M := mX12_wordToken) (i := 0) rfl dX12_wordToken_142) ?_
    refine go1 (M := mX12_wordToken) (pc' := 144) (r_iconst (M := mX12_wordToken) (v := 3) (by decide) dX12_wordToken_143) ?_
    refine go1 (M := mX12_wordToken) (pc' := 147) (r_putI (M := mX12_wordToken) fl_12_112 g0 rfl rfl dX12_wordToken_144) ?_
    refine go_blx (fun x24 => ?_)
    refine go1 (M := mX12_wordToken) (pc' := 148) (r_aload_n (M := mX12_wordToken) (i := 0) rfl dX12_wordToken_147) ?_
    refine go1 (M := mX12_wordToken) (pc' := 149) (r_aload_n (M := mX12_wordToken) (i := 0) rfl dX12_wordToken_148) ?_
    refine go1 (M := mX12_wordToken) (pc' := 152) (r_ldc2 (M := mX12_wordToken) (v := 656741) (tb6 193 (by decide +kernel) rfl) dX12_wordToken_149) ?_
    refine go_V_PI (M := mX12_wordToken) (pc' := 155) (st := [.ref p0]) (As := [.long 656741]) rfl ln_12_267 lb_X12_isWord (t_X12_isWord (N := N) hW (by omega) g0) (by omega) g0 (Nat.le_of_ble_eq_true rfl) rfl dX12_wordToken_152 (fun r25 => ?_)
    refine go_br (M := mX12_wordToken) (pt := 162) (pf := 158) (fun kt kf => r_if_eq (M := mX12_wordToken) dX12_wordToken_155 (by decide) kt kf) (fun hc26 => ?_) (fun hc26 => ?_)
    · refine go1 (M := mX12_wordToken) (pc' := 163) (r_aload_n (M := mX12_wordToken) (i := 0) rfl dX12_wordToken_162) ?_
      refine go1 (M := mX12_wordToken) (pc' := 166) (r_ldc2 (M := mX12_wordToken) (v := 239) (tb6 194 (by decide +kernel) rfl) dX12_wordToken_163) ?_
      refine go_V_PI (M := mX12_wordToken) (pc' := 169) (st := [.ref p0]) (As := [.long 239]) rfl ln_12_267 lb_X12_isWord (t_X12_isWord (N := N) hW (by omega) g0) (by omega) g0 (Nat.le_of_ble_eq_true rfl) rfl dX12_wordToken_166 (fun r27 => ?_)
      refine go_br (M := mX12_wordToken) (pt := 176) (pf := 172) (fun kt kf => r_if_eq (M := mX12_wordToken) dX12_wordToken_169 (by decide) kt kf) (fun hc28 => ?_) (fun hc28 => ?_)
      · refine go1 (M := mX12_wordToken) (pc' := 177) (r_aload_n (M := mX12_wordToken) (i := 0) rfl dX12_wordToken_176) ?_
        refine go1 (M := mX12_wordToken) (pc' := 180) (r_ldc2 (M := mX12_wordToken) (v := 498) (tb6 195 (by decide +kernel) rfl) dX12_wordToken_177) ?_
        refine go_V_PI (M := mX12_wordToken) (pc' := 183) (st := [.ref p0]) (As := [.long 498]) rfl ln_12_267 lb_X12_isWord (t_X12_isWord (N := N) hW (by omega) g0) (by omega) g0 (Nat.le_of_ble_eq_true rfl) rfl dX12_wordToken_180 (fun r29 => ?_)
        refine go_br (M := mX12_wordToken) (pt := 190) (pf := 186) (fun kt kf => r_if_eq (M := mX12_wordToken) dX12_wordToken_183 (by decide) kt kf) (fun hc30 => ?_) (fun hc30 => ?_)
        · refine go1 (M := mX12_wordToken) (pc' := 191) (r_aload_n (M := mX12_wordToken) (i := 0) rfl dX12_wordToken_190) ?_
          refine go1 (M := mX12_wordToken) (pc' := 194) (r_ldc2 (M := mX12_wordToken) (v := 1476) (tb6 196 (by decide +kernel) rfl) dX12_wordToken_191) ?_
          refine go_V_PI (M := mX12_wordToken) (pc' := 197) (st := [.ref p0]) (As := [.long 1476]) rfl ln_12_267 lb_X12_isWord (t_X12_isWord (N := N) hW (by omega) g0) (by omega) g0 (Nat.le_of_ble_eq_true rfl) rfl dX12_wordToken_194 (fun r31 => ?_)
          refine go_br (M := mX12_wordToken) (pt := 204) (pf := 200) (fun kt kf => r_if_eq (M := mX12_wordToken) dX12_wordToken_197 (by decide) kt kf) (fun hc32 => ?_) (fun hc32 => ?_)
          · refine go1 (M := mX12_wordToken) (pc' := 205) (r_aload_n (M := mX12_wordToken) (i := 0) rfl dX12_wordToken_204) ?_
            refine go1 (M := mX12_wordToken) (pc' := 208) (r_ldc2 (M := mX12_wordToken) (v := 14836) (tb6 197 (by decide +kernel) rfl) dX12_wordToken_205) ?_
            refine go_V_PI (M := mX12_wordToken) (pc' := 211) (st := [.ref p0]) (As := [.long 14836]) rfl ln_12_267 lb_X12_isWord (t_X12_isWord (N := N) hW (by omega) g0) (by omega) g0 (Nat.le_of_ble_eq_true rfl) rfl dX12_wordToken_208 (fun r33 => ?_)
            refine go_br (M := mX12_wordToken) (pt := 218) (pf := 214) (fun kt kf => r_if_eq (M := mX12_wordToken) dX12_wordToken_211 (by decide) kt kf) (fun hc34 => ?_) (fun hc34 => ?_)
            · refine go1 (M := mX12_wordToken) (pc' := 219) (r_iconst (M := mX12_wordToken) (v := (-1)) (by decide) dX12_wordToken_218) ?_
              exact j_X12_wordToken_219_t (N := N) hW (by omega) p0 (-1) p0 x24 g0 g0
            · refine go1 (M := mX12_wordToken) (pc' := 215) (r_iconst (M := mX12_wordToken) (v := 4) (by decide) dX12_wordToken_214) ?_
              refine go1 (M := mX12_wordToken) (pc' := 219) (r_goto (M := mX12_wordToken) dX12_wordToken_215 (by decide)) ?_
              exact j_X12_wordToken_219_t (N := N) hW (by omega) p0 4 p0 x24 g0 g0
          · refine go1 (M := mX12_wordToken) (pc' := 201) (r_iconst (M := mX12_wordToken) (v := 3) (by decide) dX12_wordToken_200) ?_
            refine go1 (M := mX12_wordToken) (pc' := 219) (r_goto (M := mX12_wordToken) dX12_wordToken_201 (by decide)) ?_
            exact j_X12_wordToken_219_t (N := N) hW (by omega) p0 3 p0 x24 g0 g0
        · refine go1 (M := mX12_wordToken) (pc' := 187) (r_iconst (M := mX12_wordToken) (v := 2) (by decide) dX12_wordToken_186) ?_
          refine go1 (M := mX12_wordToken) (pc' := 219) (r_goto (M := mX12_wordToken) dX12_wordToken_187 (by decide)) ?_
          exact j_X12_wordToken_219_t (N := N) hW (by omega) p0 2 p0 x24 g0 g0
      · refine go1 (M := mX12_wordToken) (pc' := 173) (r_iconst (M := mX12_wordToken) (v := 1) (by decide) dX12_wordToken_172) ?_
        refine go1 (M := mX12_wordToken) (pc' := 219) (r_goto (M := mX12_wordToken) dX12_wordToken_173 (by decide)) ?_
        exact j_X12_wordToken_219_t (N := N) hW (by omega) p0 1 p0 x24 g0 g0
    · refine go1 (M := mX12_wordToken) (pc' := 159) (r_iconst (M := mX12_wordToken) (v := 0) (by decide) dX12_wordToken_158) ?_
      refine go1 (M := mX12_wordToken) (pc' := 219) (r_goto (M := mX12_wordToken) dX12_wordToken_159 (by decide)) ?_
      exact j_X12_wordToken_219_t (N := N) hW (by omega) p0 0 p0 x24 g0 g0
  · exact go_vret (M := mX12_wordToken) rfl rfl dX12_wordToken_141
def j_X12_wordToken_40 (N : Nat) (S : SH) (p0 : Nat) (x : DY) : Option DY :=
  bl (U1 x p0 34 2) (fun x9 => Option.bind (f_X12_isWord N S p0 402789 x9) (fun r10 => (if r10 = 0 then Option.bind (f_X12_isWord N S p0 1253 x9) (fun r12 => (if r12 = 0 then Option.bind (f_X12_isWord N S p0 773116068 x9) (fun r14 => (if r14 = 0 then Option.bind (f_X12_isWord N S p0 5296302 x9) (fun r16 => (if r16 = 0 then Option.bind (f_X12_isWord N S p0 17376357 x9) (fun r18 => (if r18 = 0 then Option.bind (f_X12_isWord N S p0 605677 x9) (fun r20 => (if r20 = 0 then j_X12_wordToken_131 N S p0 (-1) p0 x9 else j_X12_wordToken_131 N S p0 5 p0 x9)) else j_X12_wordToken_131 N S p0 4 p0 x9)) else j_X12_wordToken_131 N S p0 3 p0 x9)) else j_X12_wordToken_131 N S p0 2 p0 x9)) else j_X12_wordToken_131 N S p0 1 p0 x9)) else j_X12_wordToken_131 N S p0 0 p0 x9)))
set_option maxHeartbeats 1000000 in
theorem j_X12_wordToken_40_t {N d : Nat} {S : SH} (hW : WT S) (hd : 2 ≤ d) (p0 : Nat) (x : DY) (g0 : TY S p0 12) : Go mX12_wordToken d S wSV 40 [some (.ref p0)] [] x (j_X12_wordToken_40 N S p0 x) := by
  unfold j_X12_wordToken_40
  refine go1 (M := mX12_wordToken) (pc' := 41) (r_aload_n (M := mX12_wordToken) (i := 0) rfl dX12_wordToken_40) ?_
  refine go1 (M := mX12_wordToken) (pc' := 42) (r_iconst (M := mX12_wordToken) (v := 2) (by decide) dX12_wordToken_41) ?_
  refine go1 (M := mX12_wordToken) (pc' := 45) (r_putI (M := mX12_wordToken) fl_12_112 g0 rfl rfl dX12_wordToken_42) ?_
  refine go_blx (fun x9 => ?_)
  refine go1 (M := mX12_wordToken) (pc' := 46) (r_aload_n (M := mX12_wordToken) (i := 0) rfl dX12_wordToken_45) ?_
  refine go1 (M := mX12_wordToken) (pc' := 47) (r_aload_n (M := mX12_wordToken) (i := 0) rfl dX12_wordToken_46) ?_
  refine go1 (M := mX12_wordToken) (pc' := 50) (r_ldc2 (M := mX12_wordToken) (v := 402789) (tb6 182 (by decide +kernel) rfl) dX12_wordToken_47) ?_
  refine go_V_PI (M := mX12_wordToken) (pc' := 53) (st := [.ref p0]) (As := [.long 402789]) rfl ln_12_267 lb_X12_isWord (t_X12_isWord (N := N) hW (by omega) g0) (by omega) g0 (Nat.le_of_ble_eq_true rfl) rfl dX12_wordToken_50 (fun r10 => ?_)
  refine go_br (M := mX12_wordToken) (pt := 60) (pf := 56) (fun kt kf => r_if_eq (M := mX12_wordToken) dX12_wordToken_53 (by decide) kt kf) (fun hc11 => ?_) (fun hc11 => ?_)
  · refine go1 (M := mX12_wordToken) (pc' := 61) (r_aload_n (M := mX12_wordToken) (i := 0) rfl dX12_wordToken_60) ?_
    refine go1 (M := mX12_wordToken) (pc' := 64) (r_ldc2 (M := mX12_wordToken) (v := 1253) (tb6 188 (by decide +kernel) rfl) dX12_wordToken_61) ?_
    refine go_V_PI (M := mX12_wordToken) (pc' := 67) (st := [.ref p0]) (As := [.long 1253]) rfl ln_12_267 lb_X12_isWord (t_X12_isWord (N := N) hW (by omega) g0) (by omega) g0 (Nat.le_of_ble_eq_true rfl) rfl dX12_wordToken_64 (fun r12 => ?_)
    refine go_br (M := mX12_wordToken) (pt := 74) (pf := 70) (fun kt kf => r_if_eq (M := mX12_wordToken) dX12_wordToken_67 (by decide) kt kf) (fun hc13 => ?_) (fun hc13 => ?_)
    · refine go1 (M := mX12_wordToken) (pc' := 75) (r_aload_n (M := mX12_wordToken) (i := 0) rfl dX12_wordToken_74) ?_
      refine go1 (M := mX12_wordToken) (pc' := 78) (r_ldc2 (M := mX12_wordToken) (v := 773116068) (tb6 189 (by decide +kernel) rfl) dX12_wordToken_75) ?_
      refine go_V_PI (M := mX12_wordToken) (pc' := 81) (st := [.ref p0]) (As := [.long 773116068]) rfl ln_12_267 lb_X12_isWord (t_X12_isWord (N := N) hW (by omega) g0) (by omega) g0 (Nat.le_of_ble_eq_true rfl) rfl dX12_wordToken_78 (fun r14 => ?_)
      refine go_br (M := mX12_wordToken) (pt := 88) (pf := 84) (fun kt kf => r_if_eq (M := mX12_wordToken) dX12_wordToken_81 (by decide) kt kf) (fun hc15 => ?_) (fun hc15 => ?_)
      · refine go1 (M := mX12_wordToken) (pc' := 89) (r_aload_n (M := mX12_wordToken) (i := 0) rfl dX12_wordToken_88) ?_
        refine go1 (M := mX12_wordToken) (pc' := 92) (r_ldc2 (M := mX12_wordToken) (v := 5296302) (tb6 190 (by decide +kernel) rfl) dX12_wordToken_89) ?_
        refine go_V_PI (M := mX12_wordToken) (pc' := 95) (st := [.ref p0]) (As := [.long 5296302]) rfl ln_12_267 lb_X12_isWord (t_X12_isWord (N := N) hW (by omega) g0) (by omega) g0 (Nat.le_of_ble_eq_true rfl) rfl dX12_wordToken_92 (fun r16 => ?_)
        refine go_br (M := mX12_wordToken) (pt := 102) (pf := 98) (fun kt kf => r_if_eq (M := mX12_wordToken) dX12_wordToken_95 (by decide) kt kf) (fun hc17 => ?_) (fun hc17 => ?_)
        · refine go1 (M := mX12_wordToken) (pc' := 103) (r_aload_n (M := mX12_wordToken) (i := 0) rfl dX12_wordToken_102) ?_
          refine go1 (M := mX12_wordToken) (pc' := 106) (r_ldc2 (M := mX12_wordToken) (v := 17376357) (tb6 191 (by decide +kernel) rfl) dX12_wordToken_103) ?_
          refine go_V_PI (M := mX12_wordToken) (pc' := 109) (st := [.ref p0]) (As := [.long 17376357]) rfl ln_12_267 lb_X12_isWord (t_X12_isWord (N := N) hW (by omega) g0) (by omega) g0 (Nat.le_of_ble_eq_true rfl) rfl dX12_wordToken_106 (fun r18 => ?_)
          refine go_br (M := mX12_wordToken) (pt := 116) (pf := 112) (fun kt kf => r_if_eq (M := mX12_wordToken) dX12_wordToken_109 (by decide) kt kf) (fun hc19 => ?_) (fun hc19 => ?_)
          · refine go1 (M := mX12_wordToken) (pc' := 117) (r_aload_n (M := mX12_wordToken) (i := 0) rfl dX12_wordToken_116) ?_
            refine go1 (M := mX12_wordToken) (pc' := 120) (r_ldc2 (M := mX12_wordToken) (v := 605677) (tb6 192 (by decide +kernel) rfl) dX12_wordToken_117) ?_
            refine go_V_PI (M := mX12_wordToken) (pc' := 123) (st := [.ref p0]) (As := [.long 605677]) rfl ln_12_267 lb_X12_isWord (t_X12_isWord (N := N) hW (by omega) g0) (by omega) g0 (Nat.le_of_ble_eq_true rfl) rfl dX12_wordToken_120 (fun r20 => ?_)
            refine go_br (M := mX12_wordToken) (pt := 130) (pf := 126) (fun kt kf => r_if_eq (M := mX12_wordToken) dX12_wordToken_123 (by decide) kt kf) (fun hc21 => ?_) (fun hc21 => ?_)
            · refine go1 (M := mX12_wordToken) (pc' := 131) (r_iconst (M := mX12_wordToken) (v := (-1)) (by decide) dX12_wordToken_130) ?_
              exact j_X12_wordToken_131_t (N := N) hW (by omega) p0 (-1) p0 x9 g0 g0
            · refine go1 (M := mX12_wordToken) (pc' := 127) (r_iconst (M := mX12_wordToken) (v := 5) (by decide) dX12_wordToken_126) ?_
              refine go1 (M := mX12_wordToken) (pc' := 131) (r_goto (M := mX12_wordToken) dX12_wordToken_127 (by decide)) ?_
              exact j_X12_wordToken_131_t (N := N) hW (by omega) p0 5 p0 x9 g0 g0
          · refine go1 (M := mX12_wordToken) (pc' := 113) (r_iconst (M := mX12_wordToken) (v := 4) (by decide) dX12_wordToken_112) ?_
            refine go1 (M := mX12_wordToken) (pc' := 131) (r_goto (M := mX12_wordToken) dX12_wordToken_113 (by decide)) ?_
            exact j_X12_wordToken_131_t (N := N) hW (by omega) p0 4 p0 x9 g0 g0
        · refine go1 (M := mX12_wordToken) (pc' := 99) (r_iconst (M := mX12_wordToken) (v := 3) (by decide) dX12_wordToken_98) ?_
          refine go1 (M := mX12_wordToken) (pc' := 131) (r_goto (M := mX12_wordToken) dX12_wordToken_99 (by decide)) ?_
          exact j_X12_wordToken_131_t (N := N) hW (by omega) p0 3 p0 x9 g0 g0
      · refine go1 (M := mX12_wordToken) (pc' := 85) (r_iconst (M := mX12_wordToken) (v := 2) (by decide) dX12_wordToken_84) ?_
        refine go1 (M := mX12_wordToken) (pc' := 131) (r_goto (M := mX12_wordToken) dX12_wordToken_85 (by decide)) ?_
        exact j_X12_wordToken_131_t (N := N) hW (by omega) p0 2 p0 x9 g0 g0
    · refine go1 (M := mX12_wordToken) (pc' := 71) (r_iconst (M := mX12_wordToken) (v := 1) (by decide) dX12_wordToken_70) ?_
      refine go1 (M := mX12_wordToken) (pc' := 131) (r_goto (M := mX12_wordToken) dX12_wordToken_71 (by decide)) ?_
      exact j_X12_wordToken_131_t (N := N) hW (by omega) p0 1 p0 x9 g0 g0
  · refine go1 (M := mX12_wordToken) (pc' := 57) (r_iconst (M := mX12_wordToken) (v := 0) (by decide) dX12_wordToken_56) ?_
    refine go1 (M := mX12_wordToken) (pc' := 131) (r_goto (M := mX12_wordToken) dX12_wordToken_57 (by decide)) ?_
    exact j_X12_wordToken_131_t (N := N) hW (by omega) p0 0 p0 x9 g0 g0
def f_X12_wordToken (N : Nat) (S : SH) (a0 : Nat) (x : DY) : Option DY :=
  lp_X12_wordToken_0 N S (fun y7 => j_X12_wordToken_40 N S a0 y7) a0 x
set_option maxHeartbeats 1000000 in
theorem t_X12_wordToken {N d : Nat} {S : SH} (hW : WT S) {x : DY} {a0 : Nat} (hd : 2 ≤ d) (h0 : TY S a0 12) : CT mX12_wordToken d S [.ref a0] x wSV (f_X12_wordToken N S a0 x) := by
  refine CT.of [some (.ref a0)] rfl (Nat.le_of_ble_eq_true rfl) (by decide +kernel) ?_
  unfold f_X12_wordToken
  refine lp_X12_wordToken_0_t (N := N) hW (by omega) _ a0 x h0 ?_
  · intro y7
    exact j_X12_wordToken_40_t (N := N) hW (by omega) a0 y7 h0
def j_X12_next_39 (N : Nat) (S : SH) (bk0 : DY → Option DY) (p0 : Nat) (x : DY) : Option DY :=
  bl (U1 x p0 33 ((x.1 p0 33) + 1)) (fun x6 => bk0 x6)
set_option maxHeartbeats 1000000 in
theorem j_X12_next_39_t {N d : Nat} {S : SH} (hW : WT S) (hd : 1 ≤ d) (bk0 : DY → Option DY) (p0 : Nat) (x : DY) (g0 : TY S p0 12) (hbk0 : ∀ (y : DY), Go mX12_next d S wSV 0 [some (.ref p0), none] [] y (bk0 y)) : Go mX12_next d S wSV 39 [some (.ref p0), none] [] x (j_X12_next_39 N S bk0 p0 x) := by
  unfold j_X12_next_39
  refine go1 (M := mX12_next) (pc' := 40) (r_aload_n (M := mX12_next) (i := 0) rfl dX12_next_39) ?_
  refine go1 (M := mX12_next) (pc' := 41) (r_dup (M := mX12_next) rfl dX12_next_40) ?_
  refine go1 (M := mX12_next) (pc' := 44) (r_getI (M := mX12_next) fl_12_109 g0 rfl dX12_next_41) ?_
  refine go1 (M := mX12_next) (pc' := 45) (r_iconst (M := mX12_next) (v := 1) (by decide) dX12_next_44) ?_
  refine go1 (M := mX12_next) (pc' := 46) (r_iadd (M := mX12_next) dX12_next_45) ?_
  refine go1 (M := mX12_next) (pc' := 49) (r_putI (M := mX12_next) fl_12_109 g0 rfl rfl dX12_next_46) ?_
  refine go_blx (fun x6 => ?_)
  refine go1 (M := mX12_next) (pc' := 0) (r_goto (M := mX12_next) dX12_next_49 (by decide)) ?_
  exact hbk0 x6
def lp_X12_next_0_b (N : Nat) (S : SH) (k52 : DY → Option DY) (bk0 : DY → Option DY) (p0 : Nat) (x : DY) : Option DY :=
  (if (x.1 p0 28) ≤ (x.1 p0 33) then k52 x else ck S (pr S p0 27) (x.1 p0 33) ((if (x.1 (pr S p0 27) (x.1 p0 33).toNatClampNeg) = 32 then j_X12_next_39 N S bk0 p0 x else ck S (pr S p0 27) (x.1 p0 33) ((if (x.1 (pr S p0 27) (x.1 p0 33).toNatClampNeg) = 10 then j_X12_next_39 N S bk0 p0 x else k52 x)))))
set_option maxHeartbeats 1000000 in
theorem lp_X12_next_0_b_t {N d : Nat} {S : SH} (hW : WT S) (hd : 1 ≤ d) (k52 : DY → Option DY) (bk0 : DY → Option DY) (p0 : Nat) (x : DY) (g0 : TY S p0 12) (hk52 : ∀ (y : DY), Go mX12_next d S wSV 52 [some (.ref p0), none] [] y (k52 y)) (hbk0 : ∀ (y : DY), Go mX12_next d S wSV 0 [some (.ref p0), none] [] y (bk0 y)) : Go mX12_next d S wSV 0 [some (.ref p0), none] [] x (lp_X12_next_0_b N S k52 bk0 p0 x) := by
  unfold lp_X12_next_0_b
  refine go1 (M := mX12_next) (pc' := 1) (r_aload_n (M := mX12_next) (i := 0) rfl dX12_next_0) ?_
  refine go1 (M := mX12_next) (pc' := 4) (r_getI (M := mX12_next) fl_12_109 g0 rfl dX12_next_1) ?_
  refine go1 (M := mX12_next) (pc' := 5) (r_aload_n (M := mX12_next) (i := 0) rfl dX12_next_4) ?_
  refine go1 (M := mX12_next) (pc' := 8) (r_getI (M := mX12_next) fl_12_94 g0 rfl dX12_next_5) ?_
  refine go_br (M := mX12_next) (pt := 52) (pf := 11) (fun kt kf => r_icmp_ge (M := mX12_next) dX12_next_8 (by decide) kt kf) (fun hc2 => ?_) (fun hc2 => ?_)
  · exact hk52 x
  · refine go1 (M := mX12_next) (pc' := 12) (r_aload_n (M := mX12_next) (i := 0) rfl dX12_next_11) ?_
    refine go1 (M := mX12_next) (pc' := 15) (r_getR (M := mX12_next) fl_12_90 g0 rfl (wt_some hW g0 (by decide) (by decide) rfl) dX12_next_12) ?_
    have hT3 : TY S (pr S p0 27) 13 := wt hW g0 (by decide) (by decide) rfl (by decide)
    refine go1 (M := mX12_next) (pc' := 16) (r_aload_n (M := mX12_next) (i := 0) rfl dX12_next_15) ?_
    refine go1 (M := mX12_next) (pc' := 19) (r_getI (M := mX12_next) fl_12_109 g0 rfl dX12_next_16) ?_
    refine go_ck (fun hi4 => ?_)
    refine go1 (M := mX12_next) (pc' := 20) (r_bald (M := mX12_next) hT3 hi4 dX12_next_19) ?_
    refine go1 (M := mX12_next) (pc' := 22) (r_bipush (M := mX12_next) (v := 32) (by decide) dX12_next_20) ?_
    refine go_br (M := mX12_next) (pt := 39) (pf := 25) (fun kt kf => r_icmp_eq (M := mX12_next) dX12_next_22 (by decide) kt kf) (fun hc5 => ?_) (fun hc5 => ?_)
    · exact j_X12_next_39_t (N := N) hW (by omega) bk0 p0 x g0 hbk0
    · refine go1 (M := mX12_next) (pc' := 26) (r_aload_n (M := mX12_next) (i := 0) rfl dX12_next_25) ?_
      refine go1 (M := mX12_next) (pc' := 29) (r_getR (M := mX12_next) fl_12_90 g0 rfl (wt_some hW g0 (by decide) (by decide) rfl) dX12_next_26) ?_
      refine go1 (M := mX12_next) (pc' := 30) (r_aload_n (M := mX12_next) (i := 0) rfl dX12_next_29) ?_
      refine go1 (M := mX12_next) (pc' := 33) (r_getI (M := mX12_next) fl_12_109 g0 rfl dX12_next_30) ?_
      refine go_ck (fun hi7 => ?_)
      refine go1 (M := mX12_next) (pc' := 34) (r_bald (M := mX12_next) hT3 hi7 dX12_next_33) ?_
      refine go1 (M := mX12_next) (pc' := 36) (r_bipush (M := mX12_next) (v := 10) (by decide) dX12_next_34) ?_
      refine go_br (M := mX12_next) (pt := 39) (pf := 52) (fun kt kf => r_icmp_ne (M := mX12_next) dX12_next_36 (by decide) kf kt) (fun hc8 => ?_) (fun hc8 => ?_)
      · exact j_X12_next_39_t (N := N) hW (by omega) bk0 p0 x g0 hbk0
      · exact hk52 x
def lp_X12_next_0 (N : Nat) (S : SH) (k52 : DY → Option DY) (p0 : Nat) (x : DY) : Option DY :=
  itr (fun back (v : DY) => lp_X12_next_0_b N S k52 (fun y => back y) p0  v) N x
theorem lp_X12_next_0_t {N d : Nat} {S : SH} (hW : WT S) (hd : 1 ≤ d) (k52 : DY → Option DY) (p0 : Nat) (x : DY) (g0 : TY S p0 12) (hk52 : ∀ (y : DY), Go mX12_next d S wSV 52 [some (.ref p0), none] [] y (k52 y)) : Go mX12_next d S wSV 0 [some (.ref p0), none] [] x (lp_X12_next_0 N S k52 p0  x) := by
  unfold lp_X12_next_0
  exact go_itr (L := fun (v : DY) => [some (.ref p0), none]) (X := fun (v : DY) => v) (fun back hB v => lp_X12_next_0_b_t (N := N) hW hd k52 (fun y => back y) p0  v g0 hk52 (fun y => hB y) ) N x
def j_X12_next_181 (N : Nat) (S : SH) (bk113 : DY → Option DY) (p0 : Nat) (q0 : Int32) (q1 : Nat) (x : DY) : Option DY :=
  bl (U1 x q1 35 q0) (fun x46 => bl (U1 x46 p0 33 ((x46.1 p0 33) + 1)) (fun x47 => bk113 x47))
set_option maxHeartbeats 1000000 in
theorem j_X12_next_181_t {N d : Nat} {S : SH} (hW : WT S) (hd : 2 ≤ d) (bk113 : DY → Option DY) (p0 : Nat) (q0 : Int32) (q1 : Nat) (x : DY) (g0 : TY S p0 12) (gq1 : TY S q1 12) (hbk113 : ∀ (y : DY), Go mX12_next d S wSV 113 [some (.ref p0), none] [] y (bk113 y)) : Go mX12_next d S wSV 181 [some (.ref p0), none] [.int q0, .ref q1] x (j_X12_next_181 N S bk113 p0 q0 q1 x) := by
  unfold j_X12_next_181
  refine go1 (M := mX12_next) (pc' := 184) (r_putI (M := mX12_next) fl_12_115 gq1 rfl rfl dX12_next_181) ?_
  refine go_blx (fun x46 => ?_)
  refine go1 (M := mX12_next) (pc' := 185) (r_aload_n (M := mX12_next) (i := 0) rfl dX12_next_184) ?_
  refine go1 (M := mX12_next) (pc' := 186) (r_dup (M := mX12_next) rfl dX12_next_185) ?_
  refine go1 (M := mX12_next) (pc' := 189) (r_getI (M := mX12_next) fl_12_109 g0 rfl dX12_next_186) ?_
  refine go1 (M := mX12_next) (pc' := 190) (r_iconst (M := mX12_next) (v := 1) (by decide) dX12_next_189) ?_
  refine go1 (M := mX12_next) (pc' := 191) (r_iadd (M := mX12_next) dX12_next_190) ?_
  refine go1 (M := mX12_next) (pc' := 194) (r_putI (M := mX12_next) fl_12_109 g0 rfl rfl dX12_next_191) ?_
  refine go_blx (fun x47 => ?_)
  refine go1 (M := mX12_next) (pc' := 113) (r_goto (M := mX12_next) dX12_next_194 (by decide)) ?_
  exact hbk113 x47
def lp_X12_next_113_b (N : Nat) (S : SH) (k197 : DY → Option DY) (bk113 : DY → Option DY) (p0 : Nat) (x : DY) : Option DY :=
  (if (x.1 p0 28) ≤ (x.1 p0 33) then k197 x else ck S (pr S p0 27) (x.1 p0 33) (Option.bind (f_X12_isDigit N S p0 (x.1 (pr S p0 27) (x.1 p0 33).toNatClampNeg) x) (fun r43 => (if r43 = 0 then k197 x else (if 4 ≤ ((x.1 p0 33) - (x.1 p0 36)) then j_X12_next_181 N S bk113 p0 (x.1 p0 35) p0 x else ck S (pr S p0 27) (x.1 p0 33) (j_X12_next_181 N S bk113 p0 (((10 * (x.1 p0 35)) + (x.1 (pr S p0 27) (x.1 p0 33).toNatClampNeg)) - 48) p0 x))))))
set_option maxHeartbeats 1000000 in
theorem lp_X12_next_113_b_t {N d : Nat} {S : SH} (hW : WT S) (hd : 2 ≤ d) (k197 : DY → Option DY) (bk113 : DY → Option DY) (p0 : Nat) (x : DY) (g0 : TY S p0 12) (hk197 : ∀ (y : DY), Go mX12_next d S wSV 197 [some (.ref p0), none] [] y (k197 y)) (hbk113 : ∀ (y : DY), Go mX12_next d S wSV 113 [some (.ref p0), none] [] y (bk113 y)) : Go mX12_next d S wSV 113 [some (.ref p0), none] [] x (lp_X12_next_113_b N S k197 bk113 p0 x) := by
  unfold lp_X12_next_113_b
  refine go1 (M := mX12_next) (pc' := 114) (r_aload_n (M := mX12_next) (i := 0) rfl dX12_next_113) ?_
  refine go1 (M := mX12_next) (pc' := 117) (r_getI (M := mX12_next) fl_12_109 g0 rfl dX12_next_114) ?_
  refine go1 (M := mX12_next) (pc' := 118) (r_aload_n (M := mX12_next) (i := 0) rfl dX12_next_117) ?_
  refine go1 (M := mX12_next) (pc' := 121) (r_getI (M := mX12_next) fl_12_94 g0 rfl dX12_next_118) ?_
  refine go_br (M := mX12_next) (pt := 197) (pf := 124) (fun kt kf => r_icmp_ge (M := mX12_next) dX12_next_121 (by decide) kt kf) (fun hc40 => ?_) (fun hc40 => ?_)
  · exact hk197 x
  · refine go1 (M := mX12_next) (pc' := 125) (r_aload_n (M := mX12_next) (i := 0) rfl dX12_next_124) ?_
    refine go1 (M := mX12_next) (pc' := 126) (r_aload_n (M := mX12_next) (i := 0) rfl dX12_next_125) ?_
    refine go1 (M := mX12_next) (pc' := 129) (r_getR (M := mX12_next) fl_12_90 g0 rfl (wt_some hW g0 (by decide) (by decide) rfl) dX12_next_126) ?_
    have hT41 : TY S (pr S p0 27) 13 := wt hW g0 (by decide) (by decide) rfl (by decide)
    refine go1 (M := mX12_next) (pc' := 130) (r_aload_n (M := mX12_next) (i := 0) rfl dX12_next_129) ?_
    refine go1 (M := mX12_next) (pc' := 133) (r_getI (M := mX12_next) fl_12_109 g0 rfl dX12_next_130) ?_
    refine go_ck (fun hi42 => ?_)
    refine go1 (M := mX12_next) (pc' := 134) (r_bald (M := mX12_next) hT41 hi42 dX12_next_133) ?_
    refine go_V_PI (M := mX12_next) (pc' := 137) (st := []) (As := [.int (x.1 (pr S p0 27) (x.1 p0 33).toNatClampNeg)]) rfl ln_12_294 lb_X12_isDigit (t_X12_isDigit (N := N) hW (by omega) g0) (by omega) g0 (Nat.le_of_ble_eq_true rfl) rfl dX12_next_134 (fun r43 => ?_)
    refine go_br (M := mX12_next) (pt := 197) (pf := 140) (fun kt kf => r_if_eq (M := mX12_next) dX12_next_137 (by decide) kt kf) (fun hc44 => ?_) (fun hc44 => ?_)
    · exact hk197 x
    · refine go1 (M := mX12_next) (pc' := 141) (r_aload_n (M := mX12_next) (i := 0) rfl dX12_next_140) ?_
      refine go1 (M := mX12_next) (pc' := 142) (r_aload_n (M := mX12_next) (i := 0) rfl dX12_next_141) ?_
      refine go1 (M := mX12_next) (pc' := 145) (r_getI (M := mX12_next) fl_12_109 g0 rfl dX12_next_142) ?_
      refine go1 (M := mX12_next) (pc' := 146) (r_aload_n (M := mX12_next) (i := 0) rfl dX12_next_145) ?_
      refine go1 (M := mX12_next) (pc' := 149) (r_getI (M := mX12_next) fl_12_118 g0 rfl dX12_next_146) ?_
      refine go1 (M := mX12_next) (pc' := 150) (r_isub (M := mX12_next) dX12_next_149) ?_
      refine go1 (M := mX12_next) (pc' := 151) (r_iconst (M := mX12_next) (v := 4) (by decide) dX12_next_150) ?_
      refine go_br (M := mX12_next) (pt := 177) (pf := 154) (fun kt kf => r_icmp_ge (M := mX12_next) dX12_next_151 (by decide) kt kf) (fun hc45 => ?_) (fun hc45 => ?_)
      · refine go1 (M := mX12_next) (pc' := 178) (r_aload_n (M := mX12_next) (i := 0) rfl dX12_next_177) ?_
        refine go1 (M := mX12_next) (pc' := 181) (r_getI (M := mX12_next) fl_12_115 g0 rfl dX12_next_178) ?_
        exact j_X12_next_181_t (N := N) hW (by omega) bk113 p0 (x.1 p0 35) p0 x g0 g0 hbk113
      · refine go1 (M := mX12_next) (pc' := 156) (r_bipush (M := mX12_next) (v := 10) (by decide) dX12_next_154) ?_
        refine go1 (M := mX12_next) (pc' := 157) (r_aload_n (M := mX12_next) (i := 0) rfl dX12_next_156) ?_
        refine go1 (M := mX12_next) (pc' := 160) (r_getI (M := mX12_next) fl_12_115 g0 rfl dX12_next_157) ?_
        refine go1 (M := mX12_next) (pc' := 161) (r_imul (M := mX12_next) dX12_next_160) ?_
        refine go1 (M := mX12_next) (pc' := 162) (r_aload_n (M := mX12_next) (i := 0) rfl dX12_next_161) ?_
        refine go1 (M := mX12_next) (pc' := 165) (r_getR (M := mX12_next) fl_12_90 g0 rfl (wt_some hW g0 (by decide) (by decide) rfl) dX12_next_162) ?_
        refine go1 (M := mX12_next) (pc' := 166) (r_aload_n (M := mX12_next) (i := 0) rfl dX12_next_165) ?_
        refine go1 (M := mX12_next) (pc' := 169) (r_getI (M := mX12_next) fl_12_109 g0 rfl dX12_next_166) ?_
        refine go_ck (fun hi48 => ?_)
        refine go1 (M := mX12_next) (pc' := 170) (r_bald (M := mX12_next) hT41 hi48 dX12_next_169) ?_
        refine go1 (M := mX12_next) (pc' := 171) (r_iadd (M := mX12_next) dX12_next_170) ?_
        refine go1 (M := mX12_next) (pc' := 173) (r_bipush (M := mX12_next) (v := 48) (by decide) dX12_next_171) ?_
        refine go1 (M := mX12_next) (pc' := 174) (r_isub (M := mX12_next) dX12_next_173) ?_
        refine go1 (M := mX12_next) (pc' := 181) (r_goto (M := mX12_next) dX12_next_174 (by decide)) ?_
        exact j_X12_next_181_t (N := N) hW (by omega) bk113 p0 (((10 * (x.1 p0 35)) + (x.1 (pr S p0 27) (x.1 p0 33).toNatClampNeg)) - 48) p0 x g0 g0 hbk113
def lp_X12_next_113 (N : Nat) (S : SH) (k197 : DY → Option DY) (p0 : Nat) (x : DY) : Option DY :=
  itr (fun back (v : DY) => lp_X12_next_113_b N S k197 (fun y => back y) p0  v) N x
theorem lp_X12_next_113_t {N d : Nat} {S : SH} (hW : WT S) (hd : 2 ≤ d) (k197 : DY → Option DY) (p0 : Nat) (x : DY) (g0 : TY S p0 12) (hk197 : ∀ (y : DY), Go mX12_next d S wSV 197 [some (.ref p0), none] [] y (k197 y)) : Go mX12_next d S wSV 113 [some (.ref p0), none] [] x (lp_X12_next_113 N S k197 p0  x) := by
  unfold lp_X12_next_113
  exact go_itr (L := fun (v : DY) => [some (.ref p0), none]) (X := fun (v : DY) => v) (fun back hB v => lp_X12_next_113_b_t (N := N) hW hd k197 (fun y => back y) p0  v g0 hk197 (fun y => hB y) ) N x
def j_X12_next_197 (N : Nat) (S : SH) (p0 : Nat) (x : DY) : Option DY :=
  (if ((x.1 p0 33) - (x.1 p0 36)) ≤ 4 then bl (U1 x p0 34 1) (fun x51 => some x51) else bl (U1 x p0 34 5) (fun x52 => some x52))
set_option maxHeartbeats 1000000 in
theorem j_X12_next_197_t {N d : Nat} {S : SH} (hW : WT S) (hd : 2 ≤ d) (p0 : Nat) (x : DY) (g0 : TY S p0 12) : Go mX12_next d S wSV 197 [some (.ref p0), none] [] x (j_X12_next_197 N S p0 x) := by
  unfold j_X12_next_197
  refine go1 (M := mX12_next) (pc' := 198) (r_aload_n (M := mX12_next) (i := 0) rfl dX12_next_197) ?_
  refine go1 (M := mX12_next) (pc' := 199) (r_aload_n (M := mX12_next) (i := 0) rfl dX12_next_198) ?_
  refine go1 (M := mX12_next) (pc' := 202) (r_getI (M := mX12_next) fl_12_109 g0 rfl dX12_next_199) ?_
  refine go1 (M := mX12_next) (pc' := 203) (r_aload_n (M := mX12_next) (i := 0) rfl dX12_next_202) ?_
  refine go1 (M := mX12_next) (pc' := 206) (r_getI (M := mX12_next) fl_12_118 g0 rfl dX12_next_203) ?_
  refine go1 (M := mX12_next) (pc' := 207) (r_isub (M := mX12_next) dX12_next_206) ?_
  refine go1 (M := mX12_next) (pc' := 208) (r_iconst (M := mX12_next) (v := 4) (by decide) dX12_next_207) ?_
  refine go_br (M := mX12_next) (pt := 215) (pf := 211) (fun kt kf => r_icmp_le (M := mX12_next) dX12_next_208 (by decide) kt kf) (fun hc50 => ?_) (fun hc50 => ?_)
  · refine go1 (M := mX12_next) (pc' := 216) (r_iconst (M := mX12_next) (v := 1) (by decide) dX12_next_215) ?_
    refine go1 (M := mX12_next) (pc' := 219) (r_putI (M := mX12_next) fl_12_112 g0 rfl rfl dX12_next_216) ?_
    refine go_blx (fun x51 => ?_)
    exact go_vret (M := mX12_next) rfl rfl dX12_next_219
  · refine go1 (M := mX12_next) (pc' := 212) (r_iconst (M := mX12_next) (v := 5) (by decide) dX12_next_211) ?_
    refine go1 (M := mX12_next) (pc' := 216) (r_goto (M := mX12_next) dX12_next_212 (by decide)) ?_
    refine go1 (M := mX12_next) (pc' := 219) (r_putI (M := mX12_next) fl_12_112 g0 rfl rfl dX12_next_216) ?_
    refine go_blx (fun x52 => ?_)
    exact go_vret (M := mX12_next) rfl rfl dX12_next_219
def j_X12_next_52 (N : Nat) (S : SH) (p0 : Nat) (x : DY) : Option DY :=
  bl (U1 x p0 36 (x.1 p0 33)) (fun x10 => bl (U1 x10 p0 34 0) (fun x11 => (if (x11.1 p0 33) = (x11.1 p0 28) then some x11 else ck S (pr S p0 27) (x11.1 p0 33) (Option.bind (f_X12_isLetter N S p0 (x11.1 (pr S p0 27) (x11.1 p0 33).toNatClampNeg) x11) (fun r15 => (if r15 = 0 then Option.bind (f_X12_isDigit N S p0 (x11.1 (pr S p0 27) (x11.1 p0 33).toNatClampNeg) x11) (fun r17 => (if r17 = 0 then bl (U1 x11 p0 33 ((x11.1 p0 33) + 1)) (fun x19 => bl (U1 x19 p0 35 (x11.1 (pr S p0 27) (x11.1 p0 33).toNatClampNeg)) (fun x20 => (if (x11.1 (pr S p0 27) (x11.1 p0 33).toNatClampNeg) = 40 then bl (U1 x20 p0 34 4) (fun x22 => some x22) else (if (x11.1 (pr S p0 27) (x11.1 p0 33).toNatClampNeg) = 41 then bl (U1 x20 p0 34 4) (fun x24 => some x24) else (if (x11.1 (pr S p0 27) (x11.1 p0 33).toNatClampNeg) = 59 then bl (U1 x20 p0 34 4) (fun x26 => some x26) else (if (x11.1 (pr S p0 27) (x11.1 p0 33).toNatClampNeg) = 43 then bl (U1 x20 p0 34 4) (fun x28 => some x28) else (if (x11.1 (pr S p0 27) (x11.1 p0 33).toNatClampNeg) = 45 then bl (U1 x20 p0 34 4) (fun x30 => some x30) else (if (x11.1 (pr S p0 27) (x11.1 p0 33).toNatClampNeg) = 42 then bl (U1 x20 p0 34 4) (fun x32 => some x32) else (if (x11.1 (pr S p0 27) (x11.1 p0 33).toNatClampNeg) = 60 then bl (U1 x20 p0 34 4) (fun x34 => some x34) else (if (x11.1 (pr S p0 27) (x11.1 p0 33).toNatClampNeg) = 61 then bl (U1 x20 p0 34 4) (fun x37 => some x37) else bl (U1 x20 p0 34 5) (fun x36 => some x36))))))))))) else bl (U1 x11 p0 35 0) (fun x38 => lp_X12_next_113 N S (fun y48 => j_X12_next_197 N S p0 y48) p0 x38))) else Option.bind (f_X12_wordToken N S p0 x11) (fun r54 => some r54)))))))
set_option maxHeartbeats 1000000 in
theorem j_X12_next_52_t {N d : Nat} {S : SH} (hW : WT S) (hd : 3 ≤ d) (p0 : Nat) (x : DY) (g0 : TY S p0 12) : Go mX12_next d S wSV 52 [some (.ref p0), none] [] x (j_X12_next_52 N S p0 x) := by
  unfold j_X12_next_52
  refine go1 (M := mX12_next) (pc' := 53) (r_aload_n (M := mX12_next) (i := 0) rfl dX12_next_52) ?_
  refine go1 (M := mX12_next) (pc' := 54) (r_aload_n (M := mX12_next) (i := 0) rfl dX12_next_53) ?_
  refine go1 (M := mX12_next) (pc' := 57) (r_getI (M := mX12_next) fl_12_109 g0 rfl dX12_next_54) ?_
  refine go1 (M := mX12_next) (pc' := 60) (r_putI (M := mX12_next) fl_12_118 g0 rfl rfl dX12_next_57) ?_
  refine go_blx (fun x10 => ?_)
  refine go1 (M := mX12_next) (pc' := 61) (r_aload_n (M := mX12_next) (i := 0) rfl dX12_next_60) ?_
  refine go1 (M := mX12_next) (pc' := 62) (r_iconst (M := mX12_next) (v := 0) (by decide) dX12_next_61) ?_
  refine go1 (M := mX12_next) (pc' := 65) (r_putI (M := mX12_next) fl_12_112 g0 rfl rfl dX12_next_62) ?_
  refine go_blx (fun x11 => ?_)
  refine go1 (M := mX12_next) (pc' := 66) (r_aload_n (M := mX12_next) (i := 0) rfl dX12_next_65) ?_
  refine go1 (M := mX12_next) (pc' := 69) (r_getI (M := mX12_next) fl_12_109 g0 rfl dX12_next_66) ?_
  refine go1 (M := mX12_next) (pc' := 70) (r_aload_n (M := mX12_next) (i := 0) rfl dX12_next_69) ?_
  refine go1 (M := mX12_next) (pc' := 73) (r_getI (M := mX12_next) fl_12_94 g0 rfl dX12_next_70) ?_
  refine go_br (M := mX12_next) (pt := 76) (pf := 77) (fun kt kf => r_icmp_ne (M := mX12_next) dX12_next_73 (by decide) kf kt) (fun hc12 => ?_) (fun hc12 => ?_)
  · exact go_vret (M := mX12_next) rfl rfl dX12_next_76
  · refine go1 (M := mX12_next) (pc' := 78) (r_aload_n (M := mX12_next) (i := 0) rfl dX12_next_77) ?_
    refine go1 (M := mX12_next) (pc' := 81) (r_getR (M := mX12_next) fl_12_90 g0 rfl (wt_some hW g0 (by decide) (by decide) rfl) dX12_next_78) ?_
    have hT13 : TY S (pr S p0 27) 13 := wt hW g0 (by decide) (by decide) rfl (by decide)
    refine go1 (M := mX12_next) (pc' := 82) (r_aload_n (M := mX12_next) (i := 0) rfl dX12_next_81) ?_
    refine go1 (M := mX12_next) (pc' := 85) (r_getI (M := mX12_next) fl_12_109 g0 rfl dX12_next_82) ?_
    refine go_ck (fun hi14 => ?_)
    refine go1 (M := mX12_next) (pc' := 86) (r_bald (M := mX12_next) hT13 hi14 dX12_next_85) ?_
    refine go1 (M := mX12_next) (pc' := 87) (ls' := [some (.ref p0), some (.int (x11.1 (pr S p0 27) (x11.1 p0 33).toNatClampNeg))]) (r_istore_n (M := mX12_next) (ls := [some (.ref p0), none]) (i := 1) (v := (x11.1 (pr S p0 27) (x11.1 p0 33).toNatClampNeg)) (by decide) rfl dX12_next_86) ?_
    refine go1 (M := mX12_next) (pc' := 88) (r_aload_n (M := mX12_next) (i := 0) rfl dX12_next_87) ?_
    refine go1 (M := mX12_next) (pc' := 89) (r_iload_n (M := mX12_next) (i := 1) rfl dX12_next_88) ?_
    refine go_V_PI (M := mX12_next) (pc' := 92) (st := []) (As := [.int (x11.1 (pr S p0 27) (x11.1 p0 33).toNatClampNeg)]) rfl ln_12_262 lb_X12_isLetter (t_X12_isLetter (N := N) hW (by omega) g0) (by omega) g0 (Nat.le_of_ble_eq_true rfl) rfl dX12_next_89 (fun r15 => ?_)
    refine go_br (M := mX12_next) (pt := 100) (pf := 95) (fun kt kf => r_if_eq (M := mX12_next) dX12_next_92 (by decide) kt kf) (fun hc16 => ?_) (fun hc16 => ?_)
    · refine go1 (M := mX12_next) (pc' := 101) (r_aload_n (M := mX12_next) (i := 0) rfl dX12_next_100) ?_
      refine go1 (M := mX12_next) (pc' := 102) (r_iload_n (M := mX12_next) (i := 1) rfl dX12_next_101) ?_
      refine go_V_PI (M := mX12_next) (pc' := 105) (st := []) (As := [.int (x11.1 (pr S p0 27) (x11.1 p0 33).toNatClampNeg)]) rfl ln_12_294 lb_X12_isDigit (t_X12_isDigit (N := N) hW (by omega) g0) (by omega) g0 (Nat.le_of_ble_eq_true rfl) rfl dX12_next_102 (fun r17 => ?_)
      refine go_br (M := mX12_next) (pt := 220) (pf := 108) (fun kt kf => r_if_eq (M := mX12_next) dX12_next_105 (by decide) kt kf) (fun hc18 => ?_) (fun hc18 => ?_)
      · refine go1 (M := mX12_next) (pc' := 221) (r_aload_n (M := mX12_next) (i := 0) rfl dX12_next_220) ?_
        refine go1 (M := mX12_next) (pc' := 222) (r_dup (M := mX12_next) rfl dX12_next_221) ?_
        refine go1 (M := mX12_next) (pc' := 225) (r_getI (M := mX12_next) fl_12_109 g0 rfl dX12_next_222) ?_
        refine go1 (M := mX12_next) (pc' := 226) (r_iconst (M := mX12_next) (v := 1) (by decide) dX12_next_225) ?_
        refine go1 (M := mX12_next) (pc' := 227) (r_iadd (M := mX12_next) dX12_next_226) ?_
        refine go1 (M := mX12_next) (pc' := 230) (r_putI (M := mX12_next) fl_12_109 g0 rfl rfl dX12_next_227) ?_
        refine go_blx (fun x19 => ?_)
        refine go1 (M := mX12_next) (pc' := 231) (r_aload_n (M := mX12_next) (i := 0) rfl dX12_next_230) ?_
        refine go1 (M := mX12_next) (pc' := 232) (r_iload_n (M := mX12_next) (i := 1) rfl dX12_next_231) ?_
        refine go1 (M := mX12_next) (pc' := 235) (r_putI (M := mX12_next) fl_12_115 g0 rfl rfl dX12_next_232) ?_
        refine go_blx (fun x20 => ?_)
        refine go1 (M := mX12_next) (pc' := 236) (r_aload_n (M := mX12_next) (i := 0) rfl dX12_next_235) ?_
        refine go1 (M := mX12_next) (pc' := 237) (r_iload_n (M := mX12_next) (i := 1) rfl dX12_next_236) ?_
        refine go1 (M := mX12_next) (pc' := 239) (r_bipush (M := mX12_next) (v := 40) (by decide) dX12_next_237) ?_
        refine go_br (M := mX12_next) (pt := 284) (pf := 242) (fun kt kf => r_icmp_eq (M := mX12_next) dX12_next_239 (by decide) kt kf) (fun hc21 => ?_) (fun hc21 => ?_)
        · refine go1 (M := mX12_next) (pc' := 285) (r_iconst (M := mX12_next) (v := 4) (by decide) dX12_next_284) ?_
          refine go1 (M := mX12_next) (pc' := 289) (r_goto (M := mX12_next) dX12_next_285 (by decide)) ?_
          refine go1 (M := mX12_next) (pc' := 292) (r_putI (M := mX12_next) fl_12_112 g0 rfl rfl dX12_next_289) ?_
          refine go_blx (fun x22 => ?_)
          exact go_vret (M := mX12_next) rfl rfl dX12_next_292
        · refine go1 (M := mX12_next) (pc' := 243) (r_iload_n (M := mX12_next) (i := 1) rfl dX12_next_242) ?_
          refine go1 (M := mX12_next) (pc' := 245) (r_bipush (M := mX12_next) (v := 41) (by decide) dX12_next_243) ?_
          refine go_br (M := mX12_next) (pt := 284) (pf := 248) (fun kt kf => r_icmp_eq (M := mX12_next) dX12_next_245 (by decide) kt kf) (fun hc23 => ?_) (fun hc23 => ?_)
          · refine go1 (M := mX12_next) (pc' := 285) (r_iconst (M := mX12_next) (v := 4) (by decide) dX12_next_284) ?_
            refine go1 (M := mX12_next) (pc' := 289) (r_goto (M := mX12_next) dX12_next_285 (by decide)) ?_
            refine go1 (M := mX12_next) (pc' := 292) (r_putI (M := mX12_next) fl_12_112 g0 rfl rfl dX12_next_289) ?_
            refine go_blx (fun x24 => ?_)
            exact go_vret (M := mX12_next) rfl rfl dX12_next_292
          · refine go1 (M := mX12_next) (pc' := 249) (r_iload_n (M := mX12_next) (i := 1) rfl dX12_next_248) ?_
            refine go1 (M := mX12_next) (pc' := 251) (r_bipush (M := mX12_next) (v := 59) (by decide) dX12_next_249) ?_
            refine go_br (M := mX12_next) (pt := 284) (pf := 254) (fun kt kf => r_icmp_eq (M := mX12_next) dX12_next_251 (by decide) kt kf) (fun hc25 => ?_) (fun hc25 => ?_)
            · refine go1 (M := mX12_next) (pc' := 285) (r_iconst (M := mX12_next) (v := 4) (by decide) dX12_next_284) ?_
              refine go1 (M := mX12_next) (pc' := 289) (r_goto (M := mX12_next) dX12_next_285 (by decide)) ?_
              refine go1 (M := mX12_next) (pc' := 292) (r_putI (M := mX12_next) fl_12_112 g0 rfl rfl dX12_next_289) ?_
              refine go_blx (fun x26 => ?_)
              exact go_vret (M := mX12_next) rfl rfl dX12_next_292
            · refine go1 (M := mX12_next) (pc' := 255) (r_iload_n (M := mX12_next) (i := 1) rfl dX12_next_254) ?_
              refine go1 (M := mX12_next) (pc' := 257) (r_bipush (M := mX12_next) (v := 43) (by decide) dX12_next_255) ?_
              refine go_br (M := mX12_next) (pt := 284) (pf := 260) (fun kt kf => r_icmp_eq (M := mX12_next) dX12_next_257 (by decide) kt kf) (fun hc27 => ?_) (fun hc27 => ?_)
              · refine go1 (M := mX12_next) (pc' := 285) (r_iconst (M := mX12_next) (v := 4) (by decide) dX12_next_284) ?_
                refine go1 (M := mX12_next) (pc' := 289) (r_goto (M := mX12_next) dX12_next_285 (by decide)) ?_
                refine go1 (M := mX12_next) (pc' := 292) (r_putI (M := mX12_next) fl_12_112 g0 rfl rfl dX12_next_289) ?_
                refine go_blx (fun x28 => ?_)
                exact go_vret (M := mX12_next) rfl rfl dX12_next_292
              · refine go1 (M := mX12_next) (pc' := 261) (r_iload_n (M := mX12_next) (i := 1) rfl dX12_next_260) ?_
                refine go1 (M := mX12_next) (pc' := 263) (r_bipush (M := mX12_next) (v := 45) (by decide) dX12_next_261) ?_
                refine go_br (M := mX12_next) (pt := 284) (pf := 266) (fun kt kf => r_icmp_eq (M := mX12_next) dX12_next_263 (by decide) kt kf) (fun hc29 => ?_) (fun hc29 => ?_)
                · refine go1 (M := mX12_next) (pc' := 285) (r_iconst (M := mX12_next) (v := 4) (by decide) dX12_next_284) ?_
                  refine go1 (M := mX12_next) (pc' := 289) (r_goto (M := mX12_next) dX12_next_285 (by decide)) ?_
                  refine go1 (M := mX12_next) (pc' := 292) (r_putI (M := mX12_next) fl_12_112 g0 rfl rfl dX12_next_289) ?_
                  refine go_blx (fun x30 => ?_)
                  exact go_vret (M := mX12_next) rfl rfl dX12_next_292
                · refine go1 (M := mX12_next) (pc' := 267) (r_iload_n (M := mX12_next) (i := 1) rfl dX12_next_266) ?_
                  refine go1 (M := mX12_next) (pc' := 269) (r_bipush (M := mX12_next) (v := 42) (by decide) dX12_next_267) ?_
                  refine go_br (M := mX12_next) (pt := 284) (pf := 272) (fun kt kf => r_icmp_eq (M := mX12_next) dX12_next_269 (by decide) kt kf) (fun hc31 => ?_) (fun hc31 => ?_)
                  · refine go1 (M := mX12_next) (pc' := 285) (r_iconst (M := mX12_next) (v := 4) (by decide) dX12_next_284) ?_
                    refine go1 (M := mX12_next) (pc' := 289) (r_goto (M := mX12_next) dX12_next_285 (by decide)) ?_
                    refine go1 (M := mX12_next) (pc' := 292) (r_putI (M := mX12_next) fl_12_112 g0 rfl rfl dX12_next_289) ?_
                    refine go_blx (fun x32 => ?_)
                    exact go_vret (M := mX12_next) rfl rfl dX12_next_292
                  · refine go1 (M := mX12_next) (pc' := 273) (r_iload_n (M := mX12_next) (i := 1) rfl dX12_next_272) ?_
                    refine go1 (M := mX12_next) (pc' := 275) (r_bipush (M := mX12_next) (v := 60) (by decide) dX12_next_273) ?_
                    refine go_br (M := mX12_next) (pt := 284) (pf := 278) (fun kt kf => r_icmp_eq (M := mX12_next) dX12_next_275 (by decide) kt kf) (fun hc33 => ?_) (fun hc33 => ?_)
                    · refine go1 (M := mX12_next) (pc' := 285) (r_iconst (M := mX12_next) (v := 4) (by decide) dX12_next_284) ?_
                      refine go1 (M := mX12_next) (pc' := 289) (r_goto (M := mX12_next) dX12_next_285 (by decide)) ?_
                      refine go1 (M := mX12_next) (pc' := 292) (r_putI (M := mX12_next) fl_12_112 g0 rfl rfl dX12_next_289) ?_
                      refine go_blx (fun x34 => ?_)
                      exact go_vret (M := mX12_next) rfl rfl dX12_next_292
                    · refine go1 (M := mX12_next) (pc' := 279) (r_iload_n (M := mX12_next) (i := 1) rfl dX12_next_278) ?_
                      refine go1 (M := mX12_next) (pc' := 281) (r_bipush (M := mX12_next) (v := 61) (by decide) dX12_next_279) ?_
                      refine go_br (M := mX12_next) (pt := 284) (pf := 288) (fun kt kf => r_icmp_ne (M := mX12_next) dX12_next_281 (by decide) kf kt) (fun hc35 => ?_) (fun hc35 => ?_)
                      · refine go1 (M := mX12_next) (pc' := 285) (r_iconst (M := mX12_next) (v := 4) (by decide) dX12_next_284) ?_
                        refine go1 (M := mX12_next) (pc' := 289) (r_goto (M := mX12_next) dX12_next_285 (by decide)) ?_
                        refine go1 (M := mX12_next) (pc' := 292) (r_putI (M := mX12_next) fl_12_112 g0 rfl rfl dX12_next_289) ?_
                        refine go_blx (fun x37 => ?_)
                        exact go_vret (M := mX12_next) rfl rfl dX12_next_292
                      · refine go1 (M := mX12_next) (pc' := 289) (r_iconst (M := mX12_next) (v := 5) (by decide) dX12_next_288) ?_
                        refine go1 (M := mX12_next) (pc' := 292) (r_putI (M := mX12_next) fl_12_112 g0 rfl rfl dX12_next_289) ?_
                        refine go_blx (fun x36 => ?_)
                        exact go_vret (M := mX12_next) rfl rfl dX12_next_292
      · refine go1 (M := mX12_next) (pc' := 109) (r_aload_n (M := mX12_next) (i := 0) rfl dX12_next_108) ?_
        refine go1 (M := mX12_next) (pc' := 110) (r_iconst (M := mX12_next) (v := 0) (by decide) dX12_next_109) ?_
        refine go1 (M := mX12_next) (pc' := 113) (r_putI (M := mX12_next) fl_12_115 g0 rfl rfl dX12_next_110) ?_
        refine go_blx (fun x38 => ?_)
        refine go_drop (ls' := [some (.ref p0), none]) (And.intro rfl trivial) ?_
        refine lp_X12_next_113_t (N := N) hW (by omega) _ p0 x38 g0 ?_
        · intro y48
          exact j_X12_next_197_t (N := N) hW (by omega) p0 y48 g0
    · refine go1 (M := mX12_next) (pc' := 96) (r_aload_n (M := mX12_next) (i := 0) rfl dX12_next_95) ?_
      refine go_V_SV (M := mX12_next) (pc' := 99) (st := []) (As := []) rfl ln_12_291 lb_X12_wordToken (t_X12_wordToken (N := N) hW (by omega) g0) (by omega) g0 (Nat.le_of_ble_eq_true rfl) rfl dX12_next_96 (fun r54 => ?_)
      exact go_vret (M := mX12_next) rfl rfl dX12_next_99
def f_X12_next (N : Nat) (S : SH) (a0 : Nat) (x : DY) : Option DY :=
  lp_X12_next_0 N S (fun y8 => j_X12_next_52 N S a0 y8) a0 x
set_option maxHeartbeats 1000000 in
theorem t_X12_next {N d : Nat} {S : SH} (hW : WT S) {x : DY} {a0 : Nat} (hd : 3 ≤ d) (h0 : TY S a0 12) : CT mX12_next d S [.ref a0] x wSV (f_X12_next N S a0 x) := by
  refine CT.of [some (.ref a0), none] rfl (Nat.le_of_ble_eq_true rfl) (by decide +kernel) ?_
  unfold f_X12_next
  refine lp_X12_next_0_t (N := N) hW (by omega) _ a0 x h0 ?_
  · intro y8
    exact j_X12_next_52_t (N := N) hW (by omega) a0 y8 h0
def f_X12_isKey (N : Nat) (S : SH) (a0 : Nat) (a1 : Int32) (x : DY) : Option Int32 :=
  (if (x.1 a0 34) = 3 then (if (x.1 a0 35) = a1 then some 1 else some 0) else some 0)
set_option maxHeartbeats 1000000 in
theorem t_X12_isKey {N d : Nat} {S : SH} (hW : WT S) {x : DY} {a0 : Nat} {a1 : Int32} (hd : 1 ≤ d) (h0 : TY S a0 12) : CT mX12_isKey d S [.ref a0, .int a1] x (wPI x) (f_X12_isKey N S a0 a1 x) := by
  refine CT.of [some (.ref a0), some (.int a1)] rfl (Nat.le_of_ble_eq_true rfl) (by decide +kernel) ?_
  unfold f_X12_isKey
  refine go1 (M := mX12_isKey) (pc' := 1) (r_aload_n (M := mX12_isKey) (i := 0) rfl dX12_isKey_0) ?_
  refine go1 (M := mX12_isKey) (pc' := 4) (r_getI (M := mX12_isKey) fl_12_112 h0 rfl dX12_isKey_1) ?_
  refine go1 (M := mX12_isKey) (pc' := 5) (r_iconst (M := mX12_isKey) (v := 3) (by decide) dX12_isKey_4) ?_
  refine go_br (M := mX12_isKey) (pt := 8) (pf := 20) (fun kt kf => r_icmp_ne (M := mX12_isKey) dX12_isKey_5 (by decide) kf kt) (fun hc1 => ?_) (fun hc1 => ?_)
  · refine go1 (M := mX12_isKey) (pc' := 9) (r_aload_n (M := mX12_isKey) (i := 0) rfl dX12_isKey_8) ?_
    refine go1 (M := mX12_isKey) (pc' := 12) (r_getI (M := mX12_isKey) fl_12_115 h0 rfl dX12_isKey_9) ?_
    refine go1 (M := mX12_isKey) (pc' := 13) (r_iload_n (M := mX12_isKey) (i := 1) rfl dX12_isKey_12) ?_
    refine go_br (M := mX12_isKey) (pt := 16) (pf := 20) (fun kt kf => r_icmp_ne (M := mX12_isKey) dX12_isKey_13 (by decide) kf kt) (fun hc2 => ?_) (fun hc2 => ?_)
    · refine go1 (M := mX12_isKey) (pc' := 17) (r_iconst (M := mX12_isKey) (v := 1) (by decide) dX12_isKey_16) ?_
      refine go1 (M := mX12_isKey) (pc' := 21) (r_goto (M := mX12_isKey) dX12_isKey_17 (by decide)) ?_
      exact go_zret (M := mX12_isKey) rfl rfl rfl dX12_isKey_21
    · refine go1 (M := mX12_isKey) (pc' := 21) (r_iconst (M := mX12_isKey) (v := 0) (by decide) dX12_isKey_20) ?_
      exact go_zret (M := mX12_isKey) rfl rfl rfl dX12_isKey_21
  · refine go1 (M := mX12_isKey) (pc' := 21) (r_iconst (M := mX12_isKey) (v := 0) (by decide) dX12_isKey_20) ?_
    exact go_zret (M := mX12_isKey) rfl rfl rfl dX12_isKey_21
def f_X12_isSign (N : Nat) (S : SH) (a0 : Nat) (a1 : Int32) (x : DY) : Option Int32 :=
  (if (x.1 a0 34) = 4 then (if (x.1 a0 35) = a1 then some 1 else some 0) else some 0)
set_option maxHeartbeats 1000000 in
theorem t_X12_isSign {N d : Nat} {S : SH} (hW : WT S) {x : DY} {a0 : Nat} {a1 : Int32} (hd : 1 ≤ d) (h0 : TY S a0 12) : CT mX12_isSign d S [.ref a0, .int a1] x (wPI x) (f_X12_isSign N S a0 a1 x) := by
  refine CT.of [some (.ref a0), some (.int a1)] rfl (Nat.le_of_ble_eq_true rfl) (by decide +kernel) ?_
  unfold f_X12_isSign
  refine go1 (M := mX12_isSign) (pc' := 1) (r_aload_n (M := mX12_isSign) (i := 0) rfl dX12_isSign_0) ?_
  refine go1 (M := mX12_isSign) (pc' := 4) (r_getI (M := mX12_isSign) fl_12_112 h0 rfl dX12_isSign_1) ?_
  refine go1 (M := mX12_isSign) (pc' := 5) (r_iconst (M := mX12_isSign) (v := 4) (by decide) dX12_isSign_4) ?_
  refine go_br (M := mX12_isSign) (pt := 8) (pf := 20) (fun kt kf => r_icmp_ne (M := mX12_isSign) dX12_isSign_5 (by decide) kf kt) (fun hc1 => ?_) (fun hc1 => ?_)
  · refine go1 (M := mX12_isSign) (pc' := 9) (r_aload_n (M := mX12_isSign) (i := 0) rfl dX12_isSign_8) ?_
    refine go1 (M := mX12_isSign) (pc' := 12) (r_getI (M := mX12_isSign) fl_12_115 h0 rfl dX12_isSign_9) ?_
    refine go1 (M := mX12_isSign) (pc' := 13) (r_iload_n (M := mX12_isSign) (i := 1) rfl dX12_isSign_12) ?_
    refine go_br (M := mX12_isSign) (pt := 16) (pf := 20) (fun kt kf => r_icmp_ne (M := mX12_isSign) dX12_isSign_13 (by decide) kf kt) (fun hc2 => ?_) (fun hc2 => ?_)
    · refine go1 (M := mX12_isSign) (pc' := 17) (r_iconst (M := mX12_isSign) (v := 1) (by decide) dX12_isSign_16) ?_
      refine go1 (M := mX12_isSign) (pc' := 21) (r_goto (M := mX12_isSign) dX12_isSign_17 (by decide)) ?_
      exact go_zret (M := mX12_isSign) rfl rfl rfl dX12_isSign_21
    · refine go1 (M := mX12_isSign) (pc' := 21) (r_iconst (M := mX12_isSign) (v := 0) (by decide) dX12_isSign_20) ?_
      exact go_zret (M := mX12_isSign) rfl rfl rfl dX12_isSign_21
  · refine go1 (M := mX12_isSign) (pc' := 21) (r_iconst (M := mX12_isSign) (v := 0) (by decide) dX12_isSign_20) ?_
    exact go_zret (M := mX12_isSign) rfl rfl rfl dX12_isSign_21
def f_X12_put (N : Nat) (S : SH) (a0 : Nat) (a1 : Int32) (x : DY) : Option DY :=
  ck S (pr S a0 31) (x.1 a0 42) (ck S (pr S a0 32) ((160 * (x.1 a0 42)) + (x.1 (pr S a0 31) (x.1 a0 42).toNatClampNeg)) (bl (U1 x (pr S a0 32) ((160 * (x.1 a0 42)) + (x.1 (pr S a0 31) (x.1 a0 42).toNatClampNeg)).toNatClampNeg a1) (fun x5 => ck S (pr S a0 31) (x5.1 a0 42) (ck S (pr S a0 31) (x5.1 a0 42) (bl (U1 x5 (pr S a0 31) (x5.1 a0 42).toNatClampNeg ((x5.1 (pr S a0 31) (x5.1 a0 42).toNatClampNeg) + 1)) (fun x8 => some x8))))))
set_option maxHeartbeats 1000000 in
theorem t_X12_put {N d : Nat} {S : SH} (hW : WT S) {x : DY} {a0 : Nat} {a1 : Int32} (hd : 1 ≤ d) (h0 : TY S a0 12) : CT mX12_put d S [.ref a0, .int a1] x wSV (f_X12_put N S a0 a1 x) := by
  refine CT.of [some (.ref a0), some (.int a1)] rfl (Nat.le_of_ble_eq_true rfl) (by decide +kernel) ?_
  unfold f_X12_put
  refine go1 (M := mX12_put) (pc' := 1) (r_aload_n (M := mX12_put) (i := 0) rfl dX12_put_0) ?_
  refine go1 (M := mX12_put) (pc' := 4) (r_getR (M := mX12_put) fl_12_106 h0 rfl (wt_some hW h0 (by decide) (by decide) rfl) dX12_put_1) ?_
  have hT1 : TY S (pr S a0 32) 14 := wt hW h0 (by decide) (by decide) rfl (by decide)
  refine go1 (M := mX12_put) (pc' := 7) (r_sipush (M := mX12_put) (v := 160) (by decide) dX12_put_4) ?_
  refine go1 (M := mX12_put) (pc' := 8) (r_aload_n (M := mX12_put) (i := 0) rfl dX12_put_7) ?_
  refine go1 (M := mX12_put) (pc' := 11) (r_getI (M := mX12_put) fl_12_136 h0 rfl dX12_put_8) ?_
  refine go1 (M := mX12_put) (pc' := 12) (r_imul (M := mX12_put) dX12_put_11) ?_
  refine go1 (M := mX12_put) (pc' := 13) (r_aload_n (M := mX12_put) (i := 0) rfl dX12_put_12) ?_
  refine go1 (M := mX12_put) (pc' := 16) (r_getR (M := mX12_put) fl_12_103 h0 rfl (wt_some hW h0 (by decide) (by decide) rfl) dX12_put_13) ?_
  have hT2 : TY S (pr S a0 31) 14 := wt hW h0 (by decide) (by decide) rfl (by decide)
  refine go1 (M := mX12_put) (pc' := 17) (r_aload_n (M := mX12_put) (i := 0) rfl dX12_put_16) ?_
  refine go1 (M := mX12_put) (pc' := 20) (r_getI (M := mX12_put) fl_12_136 h0 rfl dX12_put_17) ?_
  refine go_ck (fun hi3 => ?_)
  refine go1 (M := mX12_put) (pc' := 21) (r_iald (M := mX12_put) hT2 hi3 dX12_put_20) ?_
  refine go1 (M := mX12_put) (pc' := 22) (r_iadd (M := mX12_put) dX12_put_21) ?_
  refine go1 (M := mX12_put) (pc' := 23) (r_iload_n (M := mX12_put) (i := 1) rfl dX12_put_22) ?_
  refine go_ck (fun hi4 => ?_)
  refine go1 (M := mX12_put) (pc' := 24) (r_iast (M := mX12_put) hT1 hi4 dX12_put_23) ?_
  refine go_blx (fun x5 => ?_)
  refine go1 (M := mX12_put) (pc' := 25) (r_aload_n (M := mX12_put) (i := 0) rfl dX12_put_24) ?_
  refine go1 (M := mX12_put) (pc' := 28) (r_getR (M := mX12_put) fl_12_103 h0 rfl (wt_some hW h0 (by decide) (by decide) rfl) dX12_put_25) ?_
  refine go1 (M := mX12_put) (pc' := 29) (r_aload_n (M := mX12_put) (i := 0) rfl dX12_put_28) ?_
  refine go1 (M := mX12_put) (pc' := 32) (r_getI (M := mX12_put) fl_12_136 h0 rfl dX12_put_29) ?_
  refine go1 (M := mX12_put) (pc' := 33) (r_dup2 (M := mX12_put) rfl rfl dX12_put_32) ?_
  refine go_ck (fun hi6 => ?_)
  refine go1 (M := mX12_put) (pc' := 34) (r_iald (M := mX12_put) hT2 hi6 dX12_put_33) ?_
  refine go1 (M := mX12_put) (pc' := 35) (r_iconst (M := mX12_put) (v := 1) (by decide) dX12_put_34) ?_
  refine go1 (M := mX12_put) (pc' := 36) (r_iadd (M := mX12_put) dX12_put_35) ?_
  refine go_ck (fun hi7 => ?_)
  refine go1 (M := mX12_put) (pc' := 37) (r_iast (M := mX12_put) hT2 hi7 dX12_put_36) ?_
  refine go_blx (fun x8 => ?_)
  exact go_vret (M := mX12_put) rfl rfl dX12_put_37
def f_X12_rank (N : Nat) (S : SH) (a0 : Nat) (a1 : Int32) (x : DY) : Option Int32 :=
  (if a1 = (-1) then some 1 else (if a1 = (-2) then some 2 else (if a1 = (-3) then some 3 else (if a1 = (-4) then some 4 else (if a1 = (-5) then some 4 else (if a1 = (-6) then some 5 else (if a1 = (-7) then some 5 else (if a1 = (-8) then some 6 else (if a1 = (-9) then some 7 else some 0)))))))))
set_option maxHeartbeats 1000000 in
theorem t_X12_rank {N d : Nat} {S : SH} (hW : WT S) {x : DY} {a0 : Nat} {a1 : Int32} (hd : 1 ≤ d) (h0 : TY S a0 12) : CT mX12_rank d S [.ref a0, .int a1] x (wPI x) (f_X12_rank N S a0 a1 x) := by
  refine CT.of [some (.ref a0), some (.int a1)] rfl (Nat.le_of_ble_eq_true rfl) (by decide +kernel) ?_
  unfold f_X12_rank
  refine go1 (M := mX12_rank) (pc' := 1) (r_iload_n (M := mX12_rank) (i := 1) rfl dX12_rank_0) ?_
  refine go1 (M := mX12_rank) (pc' := 2) (r_iconst (M := mX12_rank) (v := (-1)) (by decide) dX12_rank_1) ?_
  refine go_br (M := mX12_rank) (pt := 5) (pf := 9) (fun kt kf => r_icmp_ne (M := mX12_rank) dX12_rank_2 (by decide) kf kt) (fun hc1 => ?_) (fun hc1 => ?_)
  · refine go1 (M := mX12_rank) (pc' := 6) (r_iconst (M := mX12_rank) (v := 1) (by decide) dX12_rank_5) ?_
    refine go1 (M := mX12_rank) (pc' := 84) (r_goto (M := mX12_rank) dX12_rank_6 (by decide)) ?_
    exact go_iret (M := mX12_rank) rfl rfl dX12_rank_84
  · refine go1 (M := mX12_rank) (pc' := 10) (r_iload_n (M := mX12_rank) (i := 1) rfl dX12_rank_9) ?_
    refine go1 (M := mX12_rank) (pc' := 12) (r_bipush (M := mX12_rank) (v := (-2)) (by decide) dX12_rank_10) ?_
    refine go_br (M := mX12_rank) (pt := 15) (pf := 19) (fun kt kf => r_icmp_ne (M := mX12_rank) dX12_rank_12 (by decide) kf kt) (fun hc2 => ?_) (fun hc2 => ?_)
    · refine go1 (M := mX12_rank) (pc' := 16) (r_iconst (M := mX12_rank) (v := 2) (by decide) dX12_rank_15) ?_
      refine go1 (M := mX12_rank) (pc' := 84) (r_goto (M := mX12_rank) dX12_rank_16 (by decide)) ?_
      exact go_iret (M := mX12_rank) rfl rfl dX12_rank_84
    · refine go1 (M := mX12_rank) (pc' := 20) (r_iload_n (M := mX12_rank) (i := 1) rfl dX12_rank_19) ?_
      refine go1 (M := mX12_rank) (pc' := 22) (r_bipush (M := mX12_rank) (v := (-3)) (by decide) dX12_rank_20) ?_
      refine go_br (M := mX12_rank) (pt := 25) (pf := 29) (fun kt kf => r_icmp_ne (M := mX12_rank) dX12_rank_22 (by decide) kf kt) (fun hc3 => ?_) (fun hc3 => ?_)
      · refine go1 (M := mX12_rank) (pc' := 26) (r_iconst (M := mX12_rank) (v := 3) (by decide) dX12_rank_25) ?_
        refine go1 (M := mX12_rank) (pc' := 84) (r_goto (M := mX12_rank) dX12_rank_26 (by decide)) ?_
        exact go_iret (M := mX12_rank) rfl rfl dX12_rank_84
      · refine go1 (M := mX12_rank) (pc' := 30) (r_iload_n (M := mX12_rank) (i := 1) rfl dX12_rank_29) ?_
        refine go1 (M := mX12_rank) (pc' := 32) (r_bipush (M := mX12_rank) (v := (-4)) (by decide) dX12_rank_30) ?_
        refine go_br (M := mX12_rank) (pt := 41) (pf := 35) (fun kt kf => r_icmp_eq (M := mX12_rank) dX12_rank_32 (by decide) kt kf) (fun hc4 => ?_) (fun hc4 => ?_)
        · refine go1 (M := mX12_rank) (pc' := 42) (r_iconst (M := mX12_rank) (v := 4) (by decide) dX12_rank_41) ?_
          refine go1 (M := mX12_rank) (pc' := 84) (r_goto (M := mX12_rank) dX12_rank_42 (by decide)) ?_
          exact go_iret (M := mX12_rank) rfl rfl dX12_rank_84
        · refine go1 (M := mX12_rank) (pc' := 36) (r_iload_n (M := mX12_rank) (i := 1) rfl dX12_rank_35) ?_
          refine go1 (M := mX12_rank) (pc' := 38) (r_bipush (M := mX12_rank) (v := (-5)) (by decide) dX12_rank_36) ?_
          refine go_br (M := mX12_rank) (pt := 41) (pf := 45) (fun kt kf => r_icmp_ne (M := mX12_rank) dX12_rank_38 (by decide) kf kt) (fun hc5 => ?_) (fun hc5 => ?_)
          · refine go1 (M := mX12_rank) (pc' := 42) (r_iconst (M := mX12_rank) (v := 4) (by decide) dX12_rank_41) ?_
            refine go1 (M := mX12_rank) (pc' := 84) (r_goto (M := mX12_rank) dX12_rank_42 (by decide)) ?_
            exact go_iret (M := mX12_rank) rfl rfl dX12_rank_84
          · refine go1 (M := mX12_rank) (pc' := 46) (r_iload_n (M := mX12_rank) (i := 1) rfl dX12_rank_45) ?_
            refine go1 (M := mX12_rank) (pc' := 48) (r_bipush (M := mX12_rank) (v := (-6)) (by decide) dX12_rank_46) ?_
            refine go_br (M := mX12_rank) (pt := 57) (pf := 51) (fun kt kf => r_icmp_eq (M := mX12_rank) dX12_rank_48 (by decide) kt kf) (fun hc6 => ?_) (fun hc6 => ?_)
            · refine go1 (M := mX12_rank) (pc' := 58) (r_iconst (M := mX12_rank) (v := 5) (by decide) dX12_rank_57) ?_
              refine go1 (M := mX12_rank) (pc' := 84) (r_goto (M := mX12_rank) dX12_rank_58 (by decide)) ?_
              exact go_iret (M := mX12_rank) rfl rfl dX12_rank_84
            · refine go1 (M := mX12_rank) (pc' := 52) (r_iload_n (M := mX12_rank) (i := 1) rfl dX12_rank_51) ?_
              refine go1 (M := mX12_rank) (pc' := 54) (r_bipush (M := mX12_rank) (v := (-7)) (by decide) dX12_rank_52) ?_
              refine go_br (M := mX12_rank) (pt := 57) (pf := 61) (fun kt kf => r_icmp_ne (M := mX12_rank) dX12_rank_54 (by decide) kf kt) (fun hc7 => ?_) (fun hc7 => ?_)
              · refine go1 (M := mX12_rank) (pc' := 58) (r_iconst (M := mX12_rank) (v := 5) (by decide) dX12_rank_57) ?_
                refine go1 (M := mX12_rank) (pc' := 84) (r_goto (M := mX12_rank) dX12_rank_58 (by decide)) ?_
                exact go_iret (M := mX12_rank) rfl rfl dX12_rank_84
              · refine go1 (M := mX12_rank) (pc' := 62) (r_iload_n (M := mX12_rank) (i := 1) rfl dX12_rank_61) ?_
                refine go1 (M := mX12_rank) (pc' := 64) (r_bipush (M := mX12_rank) (v := (-8)) (by decide) dX12_rank_62) ?_
                refine go_br (M := mX12_rank) (pt := 67) (pf := 72) (fun kt kf => r_icmp_ne (M := mX12_rank) dX12_rank_64 (by decide) kf kt) (fun hc8 => ?_) (fun hc8 => ?_)
                · refine go1 (M := mX12_rank) (pc' := 69) (r_bipush (M := mX12_rank) (v := 6) (by decide) dX12_rank_67) ?_
                  refine go1 (M := mX12_rank) (pc' := 84) (r_goto (M := mX12_rank) dX12_rank_69 (by decide)) ?_
                  exact go_iret (M := mX12_rank) rfl rfl dX12_rank_84
                · refine go1 (M := mX12_rank) (pc' := 73) (r_iload_n (M := mX12_rank) (i := 1) rfl dX12_rank_72) ?_
                  refine go1 (M := mX12_rank) (pc' := 75) (r_bipush (M := mX12_rank) (v := (-9)) (by decide) dX12_rank_73) ?_
                  refine go_br (M := mX12_rank) (pt := 78) (pf := 83) (fun kt kf => r_icmp_ne (M := mX12_rank) dX12_rank_75 (by decide) kf kt) (fun hc9 => ?_) (fun hc9 => ?_)
                  · refine go1 (M := mX12_rank) (pc' := 80) (r_bipush (M := mX12_rank) (v := 7) (by decide) dX12_rank_78) ?_
                    refine go1 (M := mX12_rank) (pc' := 84) (r_goto (M := mX12_rank) dX12_rank_80 (by decide)) ?_
                    exact go_iret (M := mX12_rank) rfl rfl dX12_rank_84
                  · refine go1 (M := mX12_rank) (pc' := 84) (r_iconst (M := mX12_rank) (v := 0) (by decide) dX12_rank_83) ?_
                    exact go_iret (M := mX12_rank) rfl rfl dX12_rank_84
def j_X12_settle_77 (N : Nat) (S : SH) (bk0 : DY → Option DY) (p0 : Nat) (p1 : Int32) (x : DY) : Option DY :=
  bl (U1 x p0 41 ((x.1 p0 41) - 1)) (fun x12 => bk0 x12)
set_option maxHeartbeats 1000000 in
theorem j_X12_settle_77_t {N d : Nat} {S : SH} (hW : WT S) (hd : 2 ≤ d) (bk0 : DY → Option DY) (p0 : Nat) (p1 : Int32) (x : DY) (g0 : TY S p0 12) (hbk0 : ∀ (y : DY), Go mX12_settle d S wSV 0 [some (.ref p0), some (.int p1)] [] y (bk0 y)) : Go mX12_settle d S wSV 77 [some (.ref p0), some (.int p1)] [] x (j_X12_settle_77 N S bk0 p0 p1 x) := by
  unfold j_X12_settle_77
  refine go1 (M := mX12_settle) (pc' := 78) (r_aload_n (M := mX12_settle) (i := 0) rfl dX12_settle_77) ?_
  refine go1 (M := mX12_settle) (pc' := 79) (r_dup (M := mX12_settle) rfl dX12_settle_78) ?_
  refine go1 (M := mX12_settle) (pc' := 82) (r_getI (M := mX12_settle) fl_12_133 g0 rfl dX12_settle_79) ?_
  refine go1 (M := mX12_settle) (pc' := 83) (r_iconst (M := mX12_settle) (v := 1) (by decide) dX12_settle_82) ?_
  refine go1 (M := mX12_settle) (pc' := 84) (r_isub (M := mX12_settle) dX12_settle_83) ?_
  refine go1 (M := mX12_settle) (pc' := 87) (r_putI (M := mX12_settle) fl_12_133 g0 rfl rfl dX12_settle_84) ?_
  refine go_blx (fun x12 => ?_)
  refine go1 (M := mX12_settle) (pc' := 0) (r_goto (M := mX12_settle) dX12_settle_87 (by decide)) ?_
  exact hbk0 x12
def lp_X12_settle_0_b (N : Nat) (S : SH) (bk0 : DY → Option DY) (p0 : Nat) (p1 : Int32) (x : DY) : Option DY :=
  (if (x.1 p0 39) ≤ 0 then some x else ck S (pr S p0 37) ((x.1 p0 39) - 1) (Option.bind (f_X12_rank N S p0 (x.1 (pr S p0 37) ((x.1 p0 39) - 1).toNatClampNeg) x) (fun r5 => (if r5 < p1 then some x else bl (U1 x p0 39 ((x.1 p0 39) - 1)) (fun x7 => ck S (pr S p0 37) (x7.1 p0 39) (Option.bind (f_X12_put N S p0 (x7.1 (pr S p0 37) (x7.1 p0 39).toNatClampNeg) x7) (fun r9 => ck S (pr S p0 37) (r9.1 p0 39) ((if (r9.1 (pr S p0 37) (r9.1 p0 39).toNatClampNeg) = (-3) then j_X12_settle_77 N S bk0 p0 p1 r9 else ck S (pr S p0 37) (r9.1 p0 39) ((if (r9.1 (pr S p0 37) (r9.1 p0 39).toNatClampNeg) = (-9) then j_X12_settle_77 N S bk0 p0 p1 r9 else bk0 r9)))))))))))
set_option maxHeartbeats 1000000 in
theorem lp_X12_settle_0_b_t {N d : Nat} {S : SH} (hW : WT S) (hd : 2 ≤ d) (bk0 : DY → Option DY) (p0 : Nat) (p1 : Int32) (x : DY) (g0 : TY S p0 12) (hbk0 : ∀ (y : DY), Go mX12_settle d S wSV 0 [some (.ref p0), some (.int p1)] [] y (bk0 y)) : Go mX12_settle d S wSV 0 [some (.ref p0), some (.int p1)] [] x (lp_X12_settle_0_b N S bk0 p0 p1 x) := by
  unfold lp_X12_settle_0_b
  refine go1 (M := mX12_settle) (pc' := 1) (r_aload_n (M := mX12_settle) (i := 0) rfl dX12_settle_0) ?_
  refine go1 (M := mX12_settle) (pc' := 4) (r_getI (M := mX12_settle) fl_12_127 g0 rfl dX12_settle_1) ?_
  refine go_br (M := mX12_settle) (pt := 90) (pf := 7) (fun kt kf => r_if_le (M := mX12_settle) dX12_settle_4 (by decide) kt kf) (fun hc2 => ?_) (fun hc2 => ?_)
  · exact go_vret (M := mX12_settle) rfl rfl dX12_settle_90
  · refine go1 (M := mX12_settle) (pc' := 8) (r_aload_n (M := mX12_settle) (i := 0) rfl dX12_settle_7) ?_
    refine go1 (M := mX12_settle) (pc' := 9) (r_aload_n (M := mX12_settle) (i := 0) rfl dX12_settle_8) ?_
    refine go1 (M := mX12_settle) (pc' := 12) (r_getR (M := mX12_settle) fl_12_121 g0 rfl (wt_some hW g0 (by decide) (by decide) rfl) dX12_settle_9) ?_
    have hT3 : TY S (pr S p0 37) 14 := wt hW g0 (by decide) (by decide) rfl (by decide)
    refine go1 (M := mX12_settle) (pc' := 13) (r_aload_n (M := mX12_settle) (i := 0) rfl dX12_settle_12) ?_
    refine go1 (M := mX12_settle) (pc' := 16) (r_getI (M := mX12_settle) fl_12_127 g0 rfl dX12_settle_13) ?_
    refine go1 (M := mX12_settle) (pc' := 17) (r_iconst (M := mX12_settle) (v := 1) (by decide) dX12_settle_16) ?_
    refine go1 (M := mX12_settle) (pc' := 18) (r_isub (M := mX12_settle) dX12_settle_17) ?_
    refine go_ck (fun hi4 => ?_)
    refine go1 (M := mX12_settle) (pc' := 19) (r_iald (M := mX12_settle) hT3 hi4 dX12_settle_18) ?_
    refine go_V_PI (M := mX12_settle) (pc' := 22) (st := []) (As := [.int (x.1 (pr S p0 37) ((x.1 p0 39) - 1).toNatClampNeg)]) rfl ln_12_297 lb_X12_rank (t_X12_rank (N := N) hW (by omega) g0) (by omega) g0 (Nat.le_of_ble_eq_true rfl) rfl dX12_settle_19 (fun r5 => ?_)
    refine go1 (M := mX12_settle) (pc' := 23) (r_iload_n (M := mX12_settle) (i := 1) rfl dX12_settle_22) ?_
    refine go_br (M := mX12_settle) (pt := 90) (pf := 26) (fun kt kf => r_icmp_lt (M := mX12_settle) dX12_settle_23 (by decide) kt kf) (fun hc6 => ?_) (fun hc6 => ?_)
    · exact go_vret (M := mX12_settle) rfl rfl dX12_settle_90
    · refine go1 (M := mX12_settle) (pc' := 27) (r_aload_n (M := mX12_settle) (i := 0) rfl dX12_settle_26) ?_
      refine go1 (M := mX12_settle) (pc' := 28) (r_dup (M := mX12_settle) rfl dX12_settle_27) ?_
      refine go1 (M := mX12_settle) (pc' := 31) (r_getI (M := mX12_settle) fl_12_127 g0 rfl dX12_settle_28) ?_
      refine go1 (M := mX12_settle) (pc' := 32) (r_iconst (M := mX12_settle) (v := 1) (by decide) dX12_settle_31) ?_
      refine go1 (M := mX12_settle) (pc' := 33) (r_isub (M := mX12_settle) dX12_settle_32) ?_
      refine go1 (M := mX12_settle) (pc' := 36) (r_putI (M := mX12_settle) fl_12_127 g0 rfl rfl dX12_settle_33) ?_
      refine go_blx (fun x7 => ?_)
      refine go1 (M := mX12_settle) (pc' := 37) (r_aload_n (M := mX12_settle) (i := 0) rfl dX12_settle_36) ?_
      refine go1 (M := mX12_settle) (pc' := 38) (r_aload_n (M := mX12_settle) (i := 0) rfl dX12_settle_37) ?_
      refine go1 (M := mX12_settle) (pc' := 41) (r_getR (M := mX12_settle) fl_12_121 g0 rfl (wt_some hW g0 (by decide) (by decide) rfl) dX12_settle_38) ?_
      refine go1 (M := mX12_settle) (pc' := 42) (r_aload_n (M := mX12_settle) (i := 0) rfl dX12_settle_41) ?_
      refine go1 (M := mX12_settle) (pc' := 45) (r_getI (M := mX12_settle) fl_12_127 g0 rfl dX12_settle_42) ?_
      refine go_ck (fun hi8 => ?_)
      refine go1 (M := mX12_settle) (pc' := 46) (r_iald (M := mX12_settle) hT3 hi8 dX12_settle_45) ?_
      refine go_V_SV (M := mX12_settle) (pc' := 49) (st := []) (As := [.int (x7.1 (pr S p0 37) (x7.1 p0 39).toNatClampNeg)]) rfl ln_12_300 lb_X12_put (t_X12_put (N := N) hW (by omega) g0) (by omega) g0 (Nat.le_of_ble_eq_true rfl) rfl dX12_settle_46 (fun r9 => ?_)
      refine go1 (M := mX12_settle) (pc' := 50) (r_aload_n (M := mX12_settle) (i := 0) rfl dX12_settle_49) ?_
      refine go1 (M := mX12_settle) (pc' := 53) (r_getR (M := mX12_settle) fl_12_121 g0 rfl (wt_some hW g0 (by decide) (by decide) rfl) dX12_settle_50) ?_
      refine go1 (M := mX12_settle) (pc' := 54) (r_aload_n (M := mX12_settle) (i := 0) rfl dX12_settle_53) ?_
      refine go1 (M := mX12_settle) (pc' := 57) (r_getI (M := mX12_settle) fl_12_127 g0 rfl dX12_settle_54) ?_
      refine go_ck (fun hi10 => ?_)
      refine go1 (M := mX12_settle) (pc' := 58) (r_iald (M := mX12_settle) hT3 hi10 dX12_settle_57) ?_
      refine go1 (M := mX12_settle) (pc' := 60) (r_bipush (M := mX12_settle) (v := (-3)) (by decide) dX12_settle_58) ?_
      refine go_br (M := mX12_settle) (pt := 77) (pf := 63) (fun kt kf => r_icmp_eq (M := mX12_settle) dX12_settle_60 (by decide) kt kf) (fun hc11 => ?_) (fun hc11 => ?_)
      · exact j_X12_settle_77_t (N := N) hW (by omega) bk0 p0 p1 r9 g0 hbk0
      · refine go1 (M := mX12_settle) (pc' := 64) (r_aload_n (M := mX12_settle) (i := 0) rfl dX12_settle_63) ?_
        refine go1 (M := mX12_settle) (pc' := 67) (r_getR (M := mX12_settle) fl_12_121 g0 rfl (wt_some hW g0 (by decide) (by decide) rfl) dX12_settle_64) ?_
        refine go1 (M := mX12_settle) (pc' := 68) (r_aload_n (M := mX12_settle) (i := 0) rfl dX12_settle_67) ?_
        refine go1 (M := mX12_settle) (pc' := 71) (r_getI (M := mX12_settle) fl_12_127 g0 rfl dX12_settle_68) ?_
        refine go_ck (fun hi13 => ?_)
        refine go1 (M := mX12_settle) (pc' := 72) (r_iald (M := mX12_settle) hT3 hi13 dX12_settle_71) ?_
        refine go1 (M := mX12_settle) (pc' := 74) (r_bipush (M := mX12_settle) (v := (-9)) (by decide) dX12_settle_72) ?_
        refine go_br (M := mX12_settle) (pt := 77) (pf := 0) (fun kt kf => r_icmp_ne (M := mX12_settle) dX12_settle_74 (by decide) kf kt) (fun hc14 => ?_) (fun hc14 => ?_)
        · exact j_X12_settle_77_t (N := N) hW (by omega) bk0 p0 p1 r9 g0 hbk0
        · exact hbk0 r9
def lp_X12_settle_0 (N : Nat) (S : SH) (p0 : Nat) (p1 : Int32) (x : DY) : Option DY :=
  itr (fun back (v : DY) => lp_X12_settle_0_b N S (fun y => back y) p0 p1  v) N x
theorem lp_X12_settle_0_t {N d : Nat} {S : SH} (hW : WT S) (hd : 2 ≤ d) (p0 : Nat) (p1 : Int32) (x : DY) (g0 : TY S p0 12) : Go mX12_settle d S wSV 0 [some (.ref p0), some (.int p1)] [] x (lp_X12_settle_0 N S p0 p1  x) := by
  unfold lp_X12_settle_0
  exact go_itr (L := fun (v : DY) => [some (.ref p0), some (.int p1)]) (X := fun (v : DY) => v) (fun back hB v => lp_X12_settle_0_b_t (N := N) hW hd (fun y => back y) p0 p1  v g0 (fun y => hB y) ) N x
def f_X12_settle (N : Nat) (S : SH) (a0 : Nat) (a1 : Int32) (x : DY) : Option DY :=
  lp_X12_settle_0 N S a0 a1 x
set_option maxHeartbeats 1000000 in
theorem t_X12_settle {N d : Nat} {S : SH} (hW : WT S) {x : DY} {a0 : Nat} {a1 : Int32} (hd : 2 ≤ d) (h0 : TY S a0 12) : CT mX12_settle d S [.ref a0, .int a1] x wSV (f_X12_settle N S a0 a1 x) := by
  refine CT.of [some (.ref a0), some (.int a1)] rfl (Nat.le_of_ble_eq_true rfl) (by decide +kernel) ?_
  unfold f_X12_settle
  refine lp_X12_settle_0_t (N := N) hW (by omega) a0 a1 x h0
def j_X12_hold_38 (N : Nat) (S : SH) (p0 : Nat) (x : DY) : Option DY :=
  bl (U1 x p0 41 ((x.1 p0 41) + 1)) (fun x6 => some x6)
set_option maxHeartbeats 1000000 in
theorem j_X12_hold_38_t {N d : Nat} {S : SH} (hW : WT S) (hd : 1 ≤ d) (p0 : Nat) (x : DY) (g0 : TY S p0 12) : Go mX12_hold d S wSV 38 [some (.ref p0), none] [] x (j_X12_hold_38 N S p0 x) := by
  unfold j_X12_hold_38
  refine go1 (M := mX12_hold) (pc' := 39) (r_aload_n (M := mX12_hold) (i := 0) rfl dX12_hold_38) ?_
  refine go1 (M := mX12_hold) (pc' := 40) (r_dup (M := mX12_hold) rfl dX12_hold_39) ?_
  refine go1 (M := mX12_hold) (pc' := 43) (r_getI (M := mX12_hold) fl_12_133 g0 rfl dX12_hold_40) ?_
  refine go1 (M := mX12_hold) (pc' := 44) (r_iconst (M := mX12_hold) (v := 1) (by decide) dX12_hold_43) ?_
  refine go1 (M := mX12_hold) (pc' := 45) (r_iadd (M := mX12_hold) dX12_hold_44) ?_
  refine go1 (M := mX12_hold) (pc' := 48) (r_putI (M := mX12_hold) fl_12_133 g0 rfl rfl dX12_hold_45) ?_
  refine go_blx (fun x6 => ?_)
  exact go_vret (M := mX12_hold) rfl rfl dX12_hold_48
def f_X12_hold (N : Nat) (S : SH) (a0 : Nat) (a1 : Int32) (x : DY) : Option DY :=
  ck S (pr S a0 37) (x.1 a0 39) (bl (U1 x (pr S a0 37) (x.1 a0 39).toNatClampNeg a1) (fun x3 => bl (U1 x3 a0 39 ((x3.1 a0 39) + 1)) (fun x4 => (if a1 = (-3) then j_X12_hold_38 N S a0 x4 else (if a1 = (-9) then j_X12_hold_38 N S a0 x4 else (if a1 = (-10) then j_X12_hold_38 N S a0 x4 else some x4))))))
set_option maxHeartbeats 1000000 in
theorem t_X12_hold {N d : Nat} {S : SH} (hW : WT S) {x : DY} {a0 : Nat} {a1 : Int32} (hd : 1 ≤ d) (h0 : TY S a0 12) : CT mX12_hold d S [.ref a0, .int a1] x wSV (f_X12_hold N S a0 a1 x) := by
  refine CT.of [some (.ref a0), some (.int a1)] rfl (Nat.le_of_ble_eq_true rfl) (by decide +kernel) ?_
  unfold f_X12_hold
  refine go1 (M := mX12_hold) (pc' := 1) (r_aload_n (M := mX12_hold) (i := 0) rfl dX12_hold_0) ?_
  refine go1 (M := mX12_hold) (pc' := 4) (r_getR (M := mX12_hold) fl_12_121 h0 rfl (wt_some hW h0 (by decide) (by decide) rfl) dX12_hold_1) ?_
  have hT1 : TY S (pr S a0 37) 14 := wt hW h0 (by decide) (by decide) rfl (by decide)
  refine go1 (M := mX12_hold) (pc' := 5) (r_aload_n (M := mX12_hold) (i := 0) rfl dX12_hold_4) ?_
  refine go1 (M := mX12_hold) (pc' := 8) (r_getI (M := mX12_hold) fl_12_127 h0 rfl dX12_hold_5) ?_
  refine go1 (M := mX12_hold) (pc' := 9) (r_iload_n (M := mX12_hold) (i := 1) rfl dX12_hold_8) ?_
  refine go_ck (fun hi2 => ?_)
  refine go1 (M := mX12_hold) (pc' := 10) (r_iast (M := mX12_hold) hT1 hi2 dX12_hold_9) ?_
  refine go_blx (fun x3 => ?_)
  refine go1 (M := mX12_hold) (pc' := 11) (r_aload_n (M := mX12_hold) (i := 0) rfl dX12_hold_10) ?_
  refine go1 (M := mX12_hold) (pc' := 12) (r_dup (M := mX12_hold) rfl dX12_hold_11) ?_
  refine go1 (M := mX12_hold) (pc' := 15) (r_getI (M := mX12_hold) fl_12_127 h0 rfl dX12_hold_12) ?_
  refine go1 (M := mX12_hold) (pc' := 16) (r_iconst (M := mX12_hold) (v := 1) (by decide) dX12_hold_15) ?_
  refine go1 (M := mX12_hold) (pc' := 17) (r_iadd (M := mX12_hold) dX12_hold_16) ?_
  refine go1 (M := mX12_hold) (pc' := 20) (r_putI (M := mX12_hold) fl_12_127 h0 rfl rfl dX12_hold_17) ?_
  refine go_blx (fun x4 => ?_)
  refine go1 (M := mX12_hold) (pc' := 21) (r_iload_n (M := mX12_hold) (i := 1) rfl dX12_hold_20) ?_
  refine go1 (M := mX12_hold) (pc' := 23) (r_bipush (M := mX12_hold) (v := (-3)) (by decide) dX12_hold_21) ?_
  refine go_br (M := mX12_hold) (pt := 38) (pf := 26) (fun kt kf => r_icmp_eq (M := mX12_hold) dX12_hold_23 (by decide) kt kf) (fun hc5 => ?_) (fun hc5 => ?_)
  · refine go_drop (ls' := [some (.ref a0), none]) (And.intro rfl trivial) ?_
    exact j_X12_hold_38_t (N := N) hW (by omega) a0 x4 h0
  · refine go1 (M := mX12_hold) (pc' := 27) (r_iload_n (M := mX12_hold) (i := 1) rfl dX12_hold_26) ?_
    refine go1 (M := mX12_hold) (pc' := 29) (r_bipush (M := mX12_hold) (v := (-9)) (by decide) dX12_hold_27) ?_
    refine go_br (M := mX12_hold) (pt := 38) (pf := 32) (fun kt kf => r_icmp_eq (M := mX12_hold) dX12_hold_29 (by decide) kt kf) (fun hc7 => ?_) (fun hc7 => ?_)
    · refine go_drop (ls' := [some (.ref a0), none]) (And.intro rfl trivial) ?_
      exact j_X12_hold_38_t (N := N) hW (by omega) a0 x4 h0
    · refine go1 (M := mX12_hold) (pc' := 33) (r_iload_n (M := mX12_hold) (i := 1) rfl dX12_hold_32) ?_
      refine go1 (M := mX12_hold) (pc' := 35) (r_bipush (M := mX12_hold) (v := (-10)) (by decide) dX12_hold_33) ?_
      refine go_br (M := mX12_hold) (pt := 38) (pf := 48) (fun kt kf => r_icmp_ne (M := mX12_hold) dX12_hold_35 (by decide) kf kt) (fun hc8 => ?_) (fun hc8 => ?_)
      · refine go_drop (ls' := [some (.ref a0), none]) (And.intro rfl trivial) ?_
        exact j_X12_hold_38_t (N := N) hW (by omega) a0 x4 h0
      · exact go_vret (M := mX12_hold) rfl rfl dX12_hold_48
def f_X12_ahead (N : Nat) (S : SH) (a0 : Nat) (a1 : Int32) (x : DY) : Option Int32 :=
  (if (x.1 a0 34) = 1 then some 1 else (if (x.1 a0 34) = 2 then some 1 else (if (x.1 a0 41) = 5 then some 0 else Option.bind (f_X12_isKey N S a0 4 x) (fun r4 => (if r4 = 0 then Option.bind (f_X12_isSign N S a0 40 x) (fun r6 => (if r6 = 0 then Option.bind (f_X12_isSign N S a0 45 x) (fun r8 => (if r8 = 0 then some 0 else some 1)) else some 1)) else bz a1 (some a1))))))
set_option maxHeartbeats 1000000 in
theorem t_X12_ahead {N d : Nat} {S : SH} (hW : WT S) {x : DY} {a0 : Nat} {a1 : Int32} (hd : 2 ≤ d) (h0 : TY S a0 12) : CT mX12_ahead d S [.ref a0, .int a1] x (wPI x) (f_X12_ahead N S a0 a1 x) := by
  refine CT.of [some (.ref a0), some (.int a1)] rfl (Nat.le_of_ble_eq_true rfl) (by decide +kernel) ?_
  unfold f_X12_ahead
  refine go1 (M := mX12_ahead) (pc' := 1) (r_aload_n (M := mX12_ahead) (i := 0) rfl dX12_ahead_0) ?_
  refine go1 (M := mX12_ahead) (pc' := 4) (r_getI (M := mX12_ahead) fl_12_112 h0 rfl dX12_ahead_1) ?_
  refine go1 (M := mX12_ahead) (pc' := 5) (r_iconst (M := mX12_ahead) (v := 1) (by decide) dX12_ahead_4) ?_
  refine go_br (M := mX12_ahead) (pt := 16) (pf := 8) (fun kt kf => r_icmp_eq (M := mX12_ahead) dX12_ahead_5 (by decide) kt kf) (fun hc1 => ?_) (fun hc1 => ?_)
  · refine go1 (M := mX12_ahead) (pc' := 17) (r_iconst (M := mX12_ahead) (v := 1) (by decide) dX12_ahead_16) ?_
    exact go_zret (M := mX12_ahead) rfl rfl rfl dX12_ahead_17
  · refine go1 (M := mX12_ahead) (pc' := 9) (r_aload_n (M := mX12_ahead) (i := 0) rfl dX12_ahead_8) ?_
    refine go1 (M := mX12_ahead) (pc' := 12) (r_getI (M := mX12_ahead) fl_12_112 h0 rfl dX12_ahead_9) ?_
    refine go1 (M := mX12_ahead) (pc' := 13) (r_iconst (M := mX12_ahead) (v := 2) (by decide) dX12_ahead_12) ?_
    refine go_br (M := mX12_ahead) (pt := 16) (pf := 18) (fun kt kf => r_icmp_ne (M := mX12_ahead) dX12_ahead_13 (by decide) kf kt) (fun hc2 => ?_) (fun hc2 => ?_)
    · refine go1 (M := mX12_ahead) (pc' := 17) (r_iconst (M := mX12_ahead) (v := 1) (by decide) dX12_ahead_16) ?_
      exact go_zret (M := mX12_ahead) rfl rfl rfl dX12_ahead_17
    · refine go1 (M := mX12_ahead) (pc' := 19) (r_aload_n (M := mX12_ahead) (i := 0) rfl dX12_ahead_18) ?_
      refine go1 (M := mX12_ahead) (pc' := 22) (r_getI (M := mX12_ahead) fl_12_133 h0 rfl dX12_ahead_19) ?_
      refine go1 (M := mX12_ahead) (pc' := 23) (r_iconst (M := mX12_ahead) (v := 5) (by decide) dX12_ahead_22) ?_
      refine go_br (M := mX12_ahead) (pt := 26) (pf := 28) (fun kt kf => r_icmp_ne (M := mX12_ahead) dX12_ahead_23 (by decide) kf kt) (fun hc3 => ?_) (fun hc3 => ?_)
      · refine go1 (M := mX12_ahead) (pc' := 27) (r_iconst (M := mX12_ahead) (v := 0) (by decide) dX12_ahead_26) ?_
        exact go_zret (M := mX12_ahead) rfl rfl rfl dX12_ahead_27
      · refine go1 (M := mX12_ahead) (pc' := 29) (r_aload_n (M := mX12_ahead) (i := 0) rfl dX12_ahead_28) ?_
        refine go1 (M := mX12_ahead) (pc' := 30) (r_iconst (M := mX12_ahead) (v := 4) (by decide) dX12_ahead_29) ?_
        refine go_V_PI (M := mX12_ahead) (pc' := 33) (st := []) (As := [.int 4]) rfl ln_12_304 lb_X12_isKey (t_X12_isKey (N := N) hW (by omega) h0) (by omega) h0 (Nat.le_of_ble_eq_true rfl) rfl dX12_ahead_30 (fun r4 => ?_)
        refine go_br (M := mX12_ahead) (pt := 38) (pf := 36) (fun kt kf => r_if_eq (M := mX12_ahead) dX12_ahead_33 (by decide) kt kf) (fun hc5 => ?_) (fun hc5 => ?_)
        · refine go1 (M := mX12_ahead) (pc' := 39) (r_aload_n (M := mX12_ahead) (i := 0) rfl dX12_ahead_38) ?_
          refine go1 (M := mX12_ahead) (pc' := 41) (r_bipush (M := mX12_ahead) (v := 40) (by decide) dX12_ahead_39) ?_
          refine go_V_PI (M := mX12_ahead) (pc' := 44) (st := []) (As := [.int 40]) rfl ln_12_307 lb_X12_isSign (t_X12_isSign (N := N) hW (by omega) h0) (by omega) h0 (Nat.le_of_ble_eq_true rfl) rfl dX12_ahead_41 (fun r6 => ?_)
          refine go_br (M := mX12_ahead) (pt := 47) (pf := 56) (fun kt kf => r_if_ne (M := mX12_ahead) dX12_ahead_44 (by decide) kf kt) (fun hc7 => ?_) (fun hc7 => ?_)
          · refine go1 (M := mX12_ahead) (pc' := 48) (r_aload_n (M := mX12_ahead) (i := 0) rfl dX12_ahead_47) ?_
            refine go1 (M := mX12_ahead) (pc' := 50) (r_bipush (M := mX12_ahead) (v := 45) (by decide) dX12_ahead_48) ?_
            refine go_V_PI (M := mX12_ahead) (pc' := 53) (st := []) (As := [.int 45]) rfl ln_12_307 lb_X12_isSign (t_X12_isSign (N := N) hW (by omega) h0) (by omega) h0 (Nat.le_of_ble_eq_true rfl) rfl dX12_ahead_50 (fun r8 => ?_)
            refine go_br (M := mX12_ahead) (pt := 60) (pf := 56) (fun kt kf => r_if_eq (M := mX12_ahead) dX12_ahead_53 (by decide) kt kf) (fun hc9 => ?_) (fun hc9 => ?_)
            · refine go1 (M := mX12_ahead) (pc' := 61) (r_iconst (M := mX12_ahead) (v := 0) (by decide) dX12_ahead_60) ?_
              exact go_zret (M := mX12_ahead) rfl rfl rfl dX12_ahead_61
            · refine go1 (M := mX12_ahead) (pc' := 57) (r_iconst (M := mX12_ahead) (v := 1) (by decide) dX12_ahead_56) ?_
              refine go1 (M := mX12_ahead) (pc' := 61) (r_goto (M := mX12_ahead) dX12_ahead_57 (by decide)) ?_
              exact go_zret (M := mX12_ahead) rfl rfl rfl dX12_ahead_61
          · refine go1 (M := mX12_ahead) (pc' := 57) (r_iconst (M := mX12_ahead) (v := 1) (by decide) dX12_ahead_56) ?_
            refine go1 (M := mX12_ahead) (pc' := 61) (r_goto (M := mX12_ahead) dX12_ahead_57 (by decide)) ?_
            exact go_zret (M := mX12_ahead) rfl rfl rfl dX12_ahead_61
        · refine go1 (M := mX12_ahead) (pc' := 37) (r_iload_n (M := mX12_ahead) (i := 1) rfl dX12_ahead_36) ?_
          refine go_bz (fun hn10 => ?_)
          exact go_zret (M := mX12_ahead) rfl hn10 rfl dX12_ahead_37
def f_X12_signOf (N : Nat) (S : SH) (a0 : Nat) (x : DY) : Option Int32 :=
  Option.bind (f_X12_isKey N S a0 2 x) (fun r1 => (if r1 = 0 then Option.bind (f_X12_isKey N S a0 3 x) (fun r3 => (if r3 = 0 then Option.bind (f_X12_isSign N S a0 60 x) (fun r5 => (if r5 = 0 then Option.bind (f_X12_isSign N S a0 61 x) (fun r7 => (if r7 = 0 then Option.bind (f_X12_isSign N S a0 43 x) (fun r9 => (if r9 = 0 then Option.bind (f_X12_isSign N S a0 45 x) (fun r11 => (if r11 = 0 then Option.bind (f_X12_isSign N S a0 42 x) (fun r13 => (if r13 = 0 then some 0 else some (-8))) else some (-7))) else some (-6))) else some (-5))) else some (-4))) else some (-2))) else some (-1)))
set_option maxHeartbeats 1000000 in
theorem t_X12_signOf {N d : Nat} {S : SH} (hW : WT S) {x : DY} {a0 : Nat} (hd : 2 ≤ d) (h0 : TY S a0 12) : CT mX12_signOf d S [.ref a0] x (wPI x) (f_X12_signOf N S a0 x) := by
  refine CT.of [some (.ref a0)] rfl (Nat.le_of_ble_eq_true rfl) (by decide +kernel) ?_
  unfold f_X12_signOf
  refine go1 (M := mX12_signOf) (pc' := 1) (r_aload_n (M := mX12_signOf) (i := 0) rfl dX12_signOf_0) ?_
  refine go1 (M := mX12_signOf) (pc' := 2) (r_iconst (M := mX12_signOf) (v := 2) (by decide) dX12_signOf_1) ?_
  refine go_V_PI (M := mX12_signOf) (pc' := 5) (st := []) (As := [.int 2]) rfl ln_12_304 lb_X12_isKey (t_X12_isKey (N := N) hW (by omega) h0) (by omega) h0 (Nat.le_of_ble_eq_true rfl) rfl dX12_signOf_2 (fun r1 => ?_)
  refine go_br (M := mX12_signOf) (pt := 12) (pf := 8) (fun kt kf => r_if_eq (M := mX12_signOf) dX12_signOf_5 (by decide) kt kf) (fun hc2 => ?_) (fun hc2 => ?_)
  · refine go1 (M := mX12_signOf) (pc' := 13) (r_aload_n (M := mX12_signOf) (i := 0) rfl dX12_signOf_12) ?_
    refine go1 (M := mX12_signOf) (pc' := 14) (r_iconst (M := mX12_signOf) (v := 3) (by decide) dX12_signOf_13) ?_
    refine go_V_PI (M := mX12_signOf) (pc' := 17) (st := []) (As := [.int 3]) rfl ln_12_304 lb_X12_isKey (t_X12_isKey (N := N) hW (by omega) h0) (by omega) h0 (Nat.le_of_ble_eq_true rfl) rfl dX12_signOf_14 (fun r3 => ?_)
    refine go_br (M := mX12_signOf) (pt := 25) (pf := 20) (fun kt kf => r_if_eq (M := mX12_signOf) dX12_signOf_17 (by decide) kt kf) (fun hc4 => ?_) (fun hc4 => ?_)
    · refine go1 (M := mX12_signOf) (pc' := 26) (r_aload_n (M := mX12_signOf) (i := 0) rfl dX12_signOf_25) ?_
      refine go1 (M := mX12_signOf) (pc' := 28) (r_bipush (M := mX12_signOf) (v := 60) (by decide) dX12_signOf_26) ?_
      refine go_V_PI (M := mX12_signOf) (pc' := 31) (st := []) (As := [.int 60]) rfl ln_12_307 lb_X12_isSign (t_X12_isSign (N := N) hW (by omega) h0) (by omega) h0 (Nat.le_of_ble_eq_true rfl) rfl dX12_signOf_28 (fun r5 => ?_)
      refine go_br (M := mX12_signOf) (pt := 39) (pf := 34) (fun kt kf => r_if_eq (M := mX12_signOf) dX12_signOf_31 (by decide) kt kf) (fun hc6 => ?_) (fun hc6 => ?_)
      · refine go1 (M := mX12_signOf) (pc' := 40) (r_aload_n (M := mX12_signOf) (i := 0) rfl dX12_signOf_39) ?_
        refine go1 (M := mX12_signOf) (pc' := 42) (r_bipush (M := mX12_signOf) (v := 61) (by decide) dX12_signOf_40) ?_
        refine go_V_PI (M := mX12_signOf) (pc' := 45) (st := []) (As := [.int 61]) rfl ln_12_307 lb_X12_isSign (t_X12_isSign (N := N) hW (by omega) h0) (by omega) h0 (Nat.le_of_ble_eq_true rfl) rfl dX12_signOf_42 (fun r7 => ?_)
        refine go_br (M := mX12_signOf) (pt := 53) (pf := 48) (fun kt kf => r_if_eq (M := mX12_signOf) dX12_signOf_45 (by decide) kt kf) (fun hc8 => ?_) (fun hc8 => ?_)
        · refine go1 (M := mX12_signOf) (pc' := 54) (r_aload_n (M := mX12_signOf) (i := 0) rfl dX12_signOf_53) ?_
          refine go1 (M := mX12_signOf) (pc' := 56) (r_bipush (M := mX12_signOf) (v := 43) (by decide) dX12_signOf_54) ?_
          refine go_V_PI (M := mX12_signOf) (pc' := 59) (st := []) (As := [.int 43]) rfl ln_12_307 lb_X12_isSign (t_X12_isSign (N := N) hW (by omega) h0) (by omega) h0 (Nat.le_of_ble_eq_true rfl) rfl dX12_signOf_56 (fun r9 => ?_)
          refine go_br (M := mX12_signOf) (pt := 67) (pf := 62) (fun kt kf => r_if_eq (M := mX12_signOf) dX12_signOf_59 (by decide) kt kf) (fun hc10 => ?_) (fun hc10 => ?_)
          · refine go1 (M := mX12_signOf) (pc' := 68) (r_aload_n (M := mX12_signOf) (i := 0) rfl dX12_signOf_67) ?_
            refine go1 (M := mX12_signOf) (pc' := 70) (r_bipush (M := mX12_signOf) (v := 45) (by decide) dX12_signOf_68) ?_
            refine go_V_PI (M := mX12_signOf) (pc' := 73) (st := []) (As := [.int 45]) rfl ln_12_307 lb_X12_isSign (t_X12_isSign (N := N) hW (by omega) h0) (by omega) h0 (Nat.le_of_ble_eq_true rfl) rfl dX12_signOf_70 (fun r11 => ?_)
            refine go_br (M := mX12_signOf) (pt := 81) (pf := 76) (fun kt kf => r_if_eq (M := mX12_signOf) dX12_signOf_73 (by decide) kt kf) (fun hc12 => ?_) (fun hc12 => ?_)
            · refine go1 (M := mX12_signOf) (pc' := 82) (r_aload_n (M := mX12_signOf) (i := 0) rfl dX12_signOf_81) ?_
              refine go1 (M := mX12_signOf) (pc' := 84) (r_bipush (M := mX12_signOf) (v := 42) (by decide) dX12_signOf_82) ?_
              refine go_V_PI (M := mX12_signOf) (pc' := 87) (st := []) (As := [.int 42]) rfl ln_12_307 lb_X12_isSign (t_X12_isSign (N := N) hW (by omega) h0) (by omega) h0 (Nat.le_of_ble_eq_true rfl) rfl dX12_signOf_84 (fun r13 => ?_)
              refine go_br (M := mX12_signOf) (pt := 95) (pf := 90) (fun kt kf => r_if_eq (M := mX12_signOf) dX12_signOf_87 (by decide) kt kf) (fun hc14 => ?_) (fun hc14 => ?_)
              · refine go1 (M := mX12_signOf) (pc' := 96) (r_iconst (M := mX12_signOf) (v := 0) (by decide) dX12_signOf_95) ?_
                exact go_iret (M := mX12_signOf) rfl rfl dX12_signOf_96
              · refine go1 (M := mX12_signOf) (pc' := 92) (r_bipush (M := mX12_signOf) (v := (-8)) (by decide) dX12_signOf_90) ?_
                refine go1 (M := mX12_signOf) (pc' := 96) (r_goto (M := mX12_signOf) dX12_signOf_92 (by decide)) ?_
                exact go_iret (M := mX12_signOf) rfl rfl dX12_signOf_96
            · refine go1 (M := mX12_signOf) (pc' := 78) (r_bipush (M := mX12_signOf) (v := (-7)) (by decide) dX12_signOf_76) ?_
              refine go1 (M := mX12_signOf) (pc' := 96) (r_goto (M := mX12_signOf) dX12_signOf_78 (by decide)) ?_
              exact go_iret (M := mX12_signOf) rfl rfl dX12_signOf_96
          · refine go1 (M := mX12_signOf) (pc' := 64) (r_bipush (M := mX12_signOf) (v := (-6)) (by decide) dX12_signOf_62) ?_
            refine go1 (M := mX12_signOf) (pc' := 96) (r_goto (M := mX12_signOf) dX12_signOf_64 (by decide)) ?_
            exact go_iret (M := mX12_signOf) rfl rfl dX12_signOf_96
        · refine go1 (M := mX12_signOf) (pc' := 50) (r_bipush (M := mX12_signOf) (v := (-5)) (by decide) dX12_signOf_48) ?_
          refine go1 (M := mX12_signOf) (pc' := 96) (r_goto (M := mX12_signOf) dX12_signOf_50 (by decide)) ?_
          exact go_iret (M := mX12_signOf) rfl rfl dX12_signOf_96
      · refine go1 (M := mX12_signOf) (pc' := 36) (r_bipush (M := mX12_signOf) (v := (-4)) (by decide) dX12_signOf_34) ?_
        refine go1 (M := mX12_signOf) (pc' := 96) (r_goto (M := mX12_signOf) dX12_signOf_36 (by decide)) ?_
        exact go_iret (M := mX12_signOf) rfl rfl dX12_signOf_96
    · refine go1 (M := mX12_signOf) (pc' := 22) (r_bipush (M := mX12_signOf) (v := (-2)) (by decide) dX12_signOf_20) ?_
      refine go1 (M := mX12_signOf) (pc' := 96) (r_goto (M := mX12_signOf) dX12_signOf_22 (by decide)) ?_
      exact go_iret (M := mX12_signOf) rfl rfl dX12_signOf_96
  · refine go1 (M := mX12_signOf) (pc' := 9) (r_iconst (M := mX12_signOf) (v := (-1)) (by decide) dX12_signOf_8) ?_
    refine go1 (M := mX12_signOf) (pc' := 96) (r_goto (M := mX12_signOf) dX12_signOf_9 (by decide)) ?_
    exact go_iret (M := mX12_signOf) rfl rfl dX12_signOf_96
def j_X12_part_368 (N : Nat) (S : SH) (bk36 : Int32 → Int32 → DY → Option (Int32 × DY)) (p0 : Nat) (p1 : Int32) (q0 : Int32) (x : DY) : Option (Int32 × DY) :=
  Option.bind (f_X12_next N S p0 x) (fun r30 => bk36 p1 q0 r30)
set_option maxHeartbeats 1000000 in
theorem j_X12_part_368_t {N d : Nat} {S : SH} (hW : WT S) (hd : 4 ≤ d) (bk36 : Int32 → Int32 → DY → Option (Int32 × DY)) (p0 : Nat) (p1 : Int32) (q0 : Int32) (x : DY) (g0 : TY S p0 12) (hbk36 : ∀ (v1 : Int32) (v2 : Int32) (y : DY), Go mX12_part d S wSI 36 [some (.ref p0), some (.int v1), some (.int v2), none] [] y (bk36 v1 v2 y)) : Go mX12_part d S wSI 368 [some (.ref p0), some (.int p1), none, none] [.int q0] x (j_X12_part_368 N S bk36 p0 p1 q0 x) := by
  unfold j_X12_part_368
  refine go1 (M := mX12_part) (pc' := 369) (ls' := [some (.ref p0), some (.int p1), some (.int q0), none]) (r_istore_n (M := mX12_part) (ls := [some (.ref p0), some (.int p1), none, none]) (i := 2) (v := q0) (by decide) rfl dX12_part_368) ?_
  refine go1 (M := mX12_part) (pc' := 370) (r_aload_n (M := mX12_part) (i := 0) rfl dX12_part_369) ?_
  refine go_V_SV (M := mX12_part) (pc' := 373) (st := []) (As := []) rfl ln_12_320 lb_X12_next (t_X12_next (N := N) hW (by omega) g0) (by omega) g0 (Nat.le_of_ble_eq_true rfl) rfl dX12_part_370 (fun r30 => ?_)
  refine go1 (M := mX12_part) (pc' := 36) (r_goto (M := mX12_part) dX12_part_373 (by decide)) ?_
  exact hbk36 p1 q0 r30
def j_X12_part_337 (N : Nat) (S : SH) (bk36 : Int32 → Int32 → DY → Option (Int32 × DY)) (p0 : Nat) (p3 : Int32) (q0 : Int32) (q1 : Int32) (q2 : Nat) (x : DY) : Option (Int32 × DY) :=
  ck S q2 q1 (bl (U1 x q2 q1.toNatClampNeg (vp_nar .boolean q0)) (fun x24 => Option.bind (f_X12_rank N S p0 p3 x24) (fun r25 => Option.bind (f_X12_settle N S p0 r25 x24) (fun r26 => Option.bind (f_X12_hold N S p0 p3 r26) (fun r27 => Option.bind (f_X12_rank N S p0 p3 r27) (fun r28 => (if 3 ≤ r28 then j_X12_part_368 N S bk36 p0 1 0 r27 else j_X12_part_368 N S bk36 p0 1 1 r27)))))))
set_option maxHeartbeats 1000000 in
theorem j_X12_part_337_t {N d : Nat} {S : SH} (hW : WT S) (hd : 4 ≤ d) (bk36 : Int32 → Int32 → DY → Option (Int32 × DY)) (p0 : Nat) (p3 : Int32) (q0 : Int32) (q1 : Int32) (q2 : Nat) (x : DY) (g0 : TY S p0 12) (gq2 : TY S q2 15) (hbk36 : ∀ (v1 : Int32) (v2 : Int32) (y : DY), Go mX12_part d S wSI 36 [some (.ref p0), some (.int v1), some (.int v2), none] [] y (bk36 v1 v2 y)) : Go mX12_part d S wSI 337 [some (.ref p0), none, none, some (.int p3)] [.int q0, .int q1, .ref q2] x (j_X12_part_337 N S bk36 p0 p3 q0 q1 q2 x) := by
  unfold j_X12_part_337
  refine go_ck (fun hi23 => ?_)
  refine go1 (M := mX12_part) (pc' := 338) (r_zast (M := mX12_part) gq2 hi23 dX12_part_337) ?_
  refine go_blx (fun x24 => ?_)
  refine go1 (M := mX12_part) (pc' := 339) (r_aload_n (M := mX12_part) (i := 0) rfl dX12_part_338) ?_
  refine go1 (M := mX12_part) (pc' := 340) (r_aload_n (M := mX12_part) (i := 0) rfl dX12_part_339) ?_
  refine go1 (M := mX12_part) (pc' := 341) (r_iload_n (M := mX12_part) (i := 3) rfl dX12_part_340) ?_
  refine go_V_PI (M := mX12_part) (pc' := 344) (st := [.ref p0]) (As := [.int p3]) rfl ln_12_297 lb_X12_rank (t_X12_rank (N := N) hW (by omega) g0) (by omega) g0 (Nat.le_of_ble_eq_true rfl) rfl dX12_part_341 (fun r25 => ?_)
  refine go_V_SV (M := mX12_part) (pc' := 347) (st := []) (As := [.int r25]) rfl ln_12_317 lb_X12_settle (t_X12_settle (N := N) hW (by omega) g0) (by omega) g0 (Nat.le_of_ble_eq_true rfl) rfl dX12_part_344 (fun r26 => ?_)
  refine go1 (M := mX12_part) (pc' := 348) (r_aload_n (M := mX12_part) (i := 0) rfl dX12_part_347) ?_
  refine go1 (M := mX12_part) (pc' := 349) (r_iload_n (M := mX12_part) (i := 3) rfl dX12_part_348) ?_
  refine go_V_SV (M := mX12_part) (pc' := 352) (st := []) (As := [.int p3]) rfl ln_12_314 lb_X12_hold (t_X12_hold (N := N) hW (by omega) g0) (by omega) g0 (Nat.le_of_ble_eq_true rfl) rfl dX12_part_349 (fun r27 => ?_)
  refine go1 (M := mX12_part) (pc' := 353) (r_iconst (M := mX12_part) (v := 1) (by decide) dX12_part_352) ?_
  refine go1 (M := mX12_part) (pc' := 354) (ls' := [some (.ref p0), some (.int 1), none, some (.int p3)]) (r_istore_n (M := mX12_part) (ls := [some (.ref p0), none, none, some (.int p3)]) (i := 1) (v := 1) (by decide) rfl dX12_part_353) ?_
  refine go1 (M := mX12_part) (pc' := 355) (r_aload_n (M := mX12_part) (i := 0) rfl dX12_part_354) ?_
  refine go1 (M := mX12_part) (pc' := 356) (r_iload_n (M := mX12_part) (i := 3) rfl dX12_part_355) ?_
  refine go_V_PI (M := mX12_part) (pc' := 359) (st := []) (As := [.int p3]) rfl ln_12_297 lb_X12_rank (t_X12_rank (N := N) hW (by omega) g0) (by omega) g0 (Nat.le_of_ble_eq_true rfl) rfl dX12_part_356 (fun r28 => ?_)
  refine go1 (M := mX12_part) (pc' := 360) (r_iconst (M := mX12_part) (v := 3) (by decide) dX12_part_359) ?_
  refine go_br (M := mX12_part) (pt := 367) (pf := 363) (fun kt kf => r_icmp_ge (M := mX12_part) dX12_part_360 (by decide) kt kf) (fun hc29 => ?_) (fun hc29 => ?_)
  · refine go1 (M := mX12_part) (pc' := 368) (r_iconst (M := mX12_part) (v := 0) (by decide) dX12_part_367) ?_
    refine go_drop (ls' := [some (.ref p0), some (.int 1), none, none]) (And.intro rfl (And.intro rfl trivial)) ?_
    exact j_X12_part_368_t (N := N) hW (by omega) bk36 p0 1 0 r27 g0 hbk36
  · refine go1 (M := mX12_part) (pc' := 364) (r_iconst (M := mX12_part) (v := 1) (by decide) dX12_part_363) ?_
    refine go1 (M := mX12_part) (pc' := 368) (r_goto (M := mX12_part) dX12_part_364 (by decide)) ?_
    refine go_drop (ls' := [some (.ref p0), some (.int 1), none, none]) (And.intro rfl (And.intro rfl trivial)) ?_
    exact j_X12_part_368_t (N := N) hW (by omega) bk36 p0 1 1 r27 g0 hbk36
def j_X12_part_332 (N : Nat) (S : SH) (bk36 : Int32 → Int32 → DY → Option (Int32 × DY)) (p0 : Nat) (p3 : Int32) (q0 : Int32) (q1 : Nat) (x : DY) : Option (Int32 × DY) :=
  j_X12_part_337 N S bk36 p0 p3 1 q0 q1 x
set_option maxHeartbeats 1000000 in
theorem j_X12_part_332_t {N d : Nat} {S : SH} (hW : WT S) (hd : 4 ≤ d) (bk36 : Int32 → Int32 → DY → Option (Int32 × DY)) (p0 : Nat) (p3 : Int32) (q0 : Int32) (q1 : Nat) (x : DY) (g0 : TY S p0 12) (gq1 : TY S q1 15) (hbk36 : ∀ (v1 : Int32) (v2 : Int32) (y : DY), Go mX12_part d S wSI 36 [some (.ref p0), some (.int v1), some (.int v2), none] [] y (bk36 v1 v2 y)) : Go mX12_part d S wSI 332 [some (.ref p0), none, none, some (.int p3)] [.int q0, .ref q1] x (j_X12_part_332 N S bk36 p0 p3 q0 q1 x) := by
  unfold j_X12_part_332
  refine go1 (M := mX12_part) (pc' := 333) (r_iconst (M := mX12_part) (v := 1) (by decide) dX12_part_332) ?_
  refine go1 (M := mX12_part) (pc' := 337) (r_goto (M := mX12_part) dX12_part_333 (by decide)) ?_
  exact j_X12_part_337_t (N := N) hW (by omega) bk36 p0 p3 1 q0 q1 x g0 gq1 hbk36
def j_X12_part_336 (N : Nat) (S : SH) (bk36 : Int32 → Int32 → DY → Option (Int32 × DY)) (p0 : Nat) (p3 : Int32) (q0 : Int32) (q1 : Nat) (x : DY) : Option (Int32 × DY) :=
  j_X12_part_337 N S bk36 p0 p3 0 q0 q1 x
set_option maxHeartbeats 1000000 in
theorem j_X12_part_336_t {N d : Nat} {S : SH} (hW : WT S) (hd : 4 ≤ d) (bk36 : Int32 → Int32 → DY → Option (Int32 × DY)) (p0 : Nat) (p3 : Int32) (q0 : Int32) (q1 : Nat) (x : DY) (g0 : TY S p0 12) (gq1 : TY S q1 15) (hbk36 : ∀ (v1 : Int32) (v2 : Int32) (y : DY), Go mX12_part d S wSI 36 [some (.ref p0), some (.int v1), some (.int v2), none] [] y (bk36 v1 v2 y)) : Go mX12_part d S wSI 336 [some (.ref p0), none, none, some (.int p3)] [.int q0, .ref q1] x (j_X12_part_336 N S bk36 p0 p3 q0 q1 x) := by
  unfold j_X12_part_336
  refine go1 (M := mX12_part) (pc' := 337) (r_iconst (M := mX12_part) (v := 0) (by decide) dX12_part_336) ?_
  exact j_X12_part_337_t (N := N) hW (by omega) bk36 p0 p3 0 q0 q1 x g0 gq1 hbk36
def j_X12_part_294 (N : Nat) (S : SH) (bk36 : Int32 → Int32 → DY → Option (Int32 × DY)) (p0 : Nat) (p3 : Int32) (x : DY) : Option (Int32 × DY) :=
  Option.bind (f_X12_rank N S p0 p3 x) (fun r21 => (if r21 = 4 then j_X12_part_332 N S bk36 p0 p3 (x.1 p0 40) (pr S p0 38) x else Option.bind (f_X12_rank N S p0 p3 x) (fun r31 => (if r31 ≤ 2 then j_X12_part_336 N S bk36 p0 p3 (x.1 p0 40) (pr S p0 38) x else ck S (pr S p0 38) (x.1 p0 40) ((if (x.1 (pr S p0 38) (x.1 p0 40).toNatClampNeg) = 0 then j_X12_part_336 N S bk36 p0 p3 (x.1 p0 40) (pr S p0 38) x else j_X12_part_332 N S bk36 p0 p3 (x.1 p0 40) (pr S p0 38) x))))))
set_option maxHeartbeats 1000000 in
theorem j_X12_part_294_t {N d : Nat} {S : SH} (hW : WT S) (hd : 4 ≤ d) (bk36 : Int32 → Int32 → DY → Option (Int32 × DY)) (p0 : Nat) (p3 : Int32) (x : DY) (g0 : TY S p0 12) (hbk36 : ∀ (v1 : Int32) (v2 : Int32) (y : DY), Go mX12_part d S wSI 36 [some (.ref p0), some (.int v1), some (.int v2), none] [] y (bk36 v1 v2 y)) : Go mX12_part d S wSI 294 [some (.ref p0), none, none, some (.int p3)] [] x (j_X12_part_294 N S bk36 p0 p3 x) := by
  unfold j_X12_part_294
  refine go1 (M := mX12_part) (pc' := 295) (r_aload_n (M := mX12_part) (i := 0) rfl dX12_part_294) ?_
  refine go1 (M := mX12_part) (pc' := 298) (r_getR (M := mX12_part) fl_12_124 g0 rfl (wt_some hW g0 (by decide) (by decide) rfl) dX12_part_295) ?_
  have hT20 : TY S (pr S p0 38) 15 := wt hW g0 (by decide) (by decide) rfl (by decide)
  refine go1 (M := mX12_part) (pc' := 299) (r_aload_n (M := mX12_part) (i := 0) rfl dX12_part_298) ?_
  refine go1 (M := mX12_part) (pc' := 302) (r_getI (M := mX12_part) fl_12_130 g0 rfl dX12_part_299) ?_
  refine go1 (M := mX12_part) (pc' := 303) (r_aload_n (M := mX12_part) (i := 0) rfl dX12_part_302) ?_
  refine go1 (M := mX12_part) (pc' := 304) (r_iload_n (M := mX12_part) (i := 3) rfl dX12_part_303) ?_
  refine go_V_PI (M := mX12_part) (pc' := 307) (st := [.int (x.1 p0 40), .ref (pr S p0 38)]) (As := [.int p3]) rfl ln_12_297 lb_X12_rank (t_X12_rank (N := N) hW (by omega) g0) (by omega) g0 (Nat.le_of_ble_eq_true rfl) rfl dX12_part_304 (fun r21 => ?_)
  refine go1 (M := mX12_part) (pc' := 308) (r_iconst (M := mX12_part) (v := 4) (by decide) dX12_part_307) ?_
  refine go_br (M := mX12_part) (pt := 332) (pf := 311) (fun kt kf => r_icmp_eq (M := mX12_part) dX12_part_308 (by decide) kt kf) (fun hc22 => ?_) (fun hc22 => ?_)
  · exact j_X12_part_332_t (N := N) hW (by omega) bk36 p0 p3 (x.1 p0 40) (pr S p0 38) x g0 hT20 hbk36
  · refine go1 (M := mX12_part) (pc' := 312) (r_aload_n (M := mX12_part) (i := 0) rfl dX12_part_311) ?_
    refine go1 (M := mX12_part) (pc' := 313) (r_iload_n (M := mX12_part) (i := 3) rfl dX12_part_312) ?_
    refine go_V_PI (M := mX12_part) (pc' := 316) (st := [.int (x.1 p0 40), .ref (pr S p0 38)]) (As := [.int p3]) rfl ln_12_297 lb_X12_rank (t_X12_rank (N := N) hW (by omega) g0) (by omega) g0 (Nat.le_of_ble_eq_true rfl) rfl dX12_part_313 (fun r31 => ?_)
    refine go1 (M := mX12_part) (pc' := 317) (r_iconst (M := mX12_part) (v := 2) (by decide) dX12_part_316) ?_
    refine go_br (M := mX12_part) (pt := 336) (pf := 320) (fun kt kf => r_icmp_le (M := mX12_part) dX12_part_317 (by decide) kt kf) (fun hc32 => ?_) (fun hc32 => ?_)
    · exact j_X12_part_336_t (N := N) hW (by omega) bk36 p0 p3 (x.1 p0 40) (pr S p0 38) x g0 hT20 hbk36
    · refine go1 (M := mX12_part) (pc' := 321) (r_aload_n (M := mX12_part) (i := 0) rfl dX12_part_320) ?_
      refine go1 (M := mX12_part) (pc' := 324) (r_getR (M := mX12_part) fl_12_124 g0 rfl (wt_some hW g0 (by decide) (by decide) rfl) dX12_part_321) ?_
      refine go1 (M := mX12_part) (pc' := 325) (r_aload_n (M := mX12_part) (i := 0) rfl dX12_part_324) ?_
      refine go1 (M := mX12_part) (pc' := 328) (r_getI (M := mX12_part) fl_12_130 g0 rfl dX12_part_325) ?_
      refine go_ck (fun hi33 => ?_)
      refine go1 (M := mX12_part) (pc' := 329) (r_zald (M := mX12_part) hT20 hi33 dX12_part_328) ?_
      refine go_br (M := mX12_part) (pt := 336) (pf := 332) (fun kt kf => r_if_eq (M := mX12_part) dX12_part_329 (by decide) kt kf) (fun hc34 => ?_) (fun hc34 => ?_)
      · exact j_X12_part_336_t (N := N) hW (by omega) bk36 p0 p3 (x.1 p0 40) (pr S p0 38) x g0 hT20 hbk36
      · exact j_X12_part_332_t (N := N) hW (by omega) bk36 p0 p3 (x.1 p0 40) (pr S p0 38) x g0 hT20 hbk36
def j_X12_part_162 (N : Nat) (S : SH) (bk36 : Int32 → Int32 → DY → Option (Int32 × DY)) (p0 : Nat) (p1 : Int32) (p2 : Int32) (x : DY) : Option (Int32 × DY) :=
  Option.bind (f_X12_next N S p0 x) (fun r56 => bk36 p1 p2 r56)
set_option maxHeartbeats 1000000 in
theorem j_X12_part_162_t {N d : Nat} {S : SH} (hW : WT S) (hd : 4 ≤ d) (bk36 : Int32 → Int32 → DY → Option (Int32 × DY)) (p0 : Nat) (p1 : Int32) (p2 : Int32) (x : DY) (g0 : TY S p0 12) (hbk36 : ∀ (v1 : Int32) (v2 : Int32) (y : DY), Go mX12_part d S wSI 36 [some (.ref p0), some (.int v1), some (.int v2), none] [] y (bk36 v1 v2 y)) : Go mX12_part d S wSI 162 [some (.ref p0), some (.int p1), some (.int p2), none] [] x (j_X12_part_162 N S bk36 p0 p1 p2 x) := by
  unfold j_X12_part_162
  refine go1 (M := mX12_part) (pc' := 163) (r_aload_n (M := mX12_part) (i := 0) rfl dX12_part_162) ?_
  refine go_V_SV (M := mX12_part) (pc' := 166) (st := []) (As := []) rfl ln_12_320 lb_X12_next (t_X12_next (N := N) hW (by omega) g0) (by omega) g0 (Nat.le_of_ble_eq_true rfl) rfl dX12_part_163 (fun r56 => ?_)
  refine go1 (M := mX12_part) (pc' := 36) (r_goto (M := mX12_part) dX12_part_166 (by decide)) ?_
  exact hbk36 p1 p2 r56
def j_X12_part_151 (N : Nat) (S : SH) (bk36 : Int32 → Int32 → DY → Option (Int32 × DY)) (p0 : Nat) (p2 : Int32) (q0 : Int32) (q1 : Nat) (x : DY) : Option (Int32 × DY) :=
  Option.bind (f_X12_put N S q1 q0 x) (fun r54 => Option.bind (f_X12_settle N S p0 7 r54) (fun r55 => j_X12_part_162 N S bk36 p0 0 p2 r55))
set_option maxHeartbeats 1000000 in
theorem j_X12_part_151_t {N d : Nat} {S : SH} (hW : WT S) (hd : 4 ≤ d) (bk36 : Int32 → Int32 → DY → Option (Int32 × DY)) (p0 : Nat) (p2 : Int32) (q0 : Int32) (q1 : Nat) (x : DY) (g0 : TY S p0 12) (gq1 : TY S q1 12) (hbk36 : ∀ (v1 : Int32) (v2 : Int32) (y : DY), Go mX12_part d S wSI 36 [some (.ref p0), some (.int v1), some (.int v2), none] [] y (bk36 v1 v2 y)) : Go mX12_part d S wSI 151 [some (.ref p0), none, some (.int p2), none] [.int q0, .ref q1] x (j_X12_part_151 N S bk36 p0 p2 q0 q1 x) := by
  unfold j_X12_part_151
  refine go_V_SV (M := mX12_part) (pc' := 154) (st := []) (As := [.int q0]) rfl ln_12_300 lb_X12_put (t_X12_put (N := N) hW (by omega) gq1) (by omega) gq1 (Nat.le_of_ble_eq_true rfl) rfl dX12_part_151 (fun r54 => ?_)
  refine go1 (M := mX12_part) (pc' := 155) (r_aload_n (M := mX12_part) (i := 0) rfl dX12_part_154) ?_
  refine go1 (M := mX12_part) (pc' := 157) (r_bipush (M := mX12_part) (v := 7) (by decide) dX12_part_155) ?_
  refine go_V_SV (M := mX12_part) (pc' := 160) (st := []) (As := [.int 7]) rfl ln_12_317 lb_X12_settle (t_X12_settle (N := N) hW (by omega) g0) (by omega) g0 (Nat.le_of_ble_eq_true rfl) rfl dX12_part_157 (fun r55 => ?_)
  refine go1 (M := mX12_part) (pc' := 161) (r_iconst (M := mX12_part) (v := 0) (by decide) dX12_part_160) ?_
  refine go1 (M := mX12_part) (pc' := 162) (ls' := [some (.ref p0), some (.int 0), some (.int p2), none]) (r_istore_n (M := mX12_part) (ls := [some (.ref p0), none, some (.int p2), none]) (i := 1) (v := 0) (by decide) rfl dX12_part_161) ?_
  exact j_X12_part_162_t (N := N) hW (by omega) bk36 p0 0 p2 r55 g0 hbk36
def lp_X12_part_36_b (N : Nat) (S : SH) (k178 : DY → Option (Int32 × DY)) (bk36 : Int32 → Int32 → DY → Option (Int32 × DY)) (p0 : Nat) (p1 : Int32) (p2 : Int32) (x : DY) : Option (Int32 × DY) :=
  (if p1 = 0 then Option.bind (f_X12_isSign N S p0 59 x) (fun r12 => (if r12 = 0 then Option.bind (f_X12_isSign N S p0 41 x) (fun r14 => (if r14 = 0 then Option.bind (f_X12_signOf N S p0 x) (fun r16 => (if r16 = 0 then some (0, x) else Option.bind (f_X12_rank N S p0 r16 x) (fun r18 => (if r18 = 4 then ck S (pr S p0 38) (x.1 p0 40) ((if (x.1 (pr S p0 38) (x.1 p0 40).toNatClampNeg) = 0 then j_X12_part_294 N S bk36 p0 r16 x else some (0, x))) else j_X12_part_294 N S bk36 p0 r16 x)))) else (if (x.1 p0 40) = 0 then some (0, x) else Option.bind (f_X12_settle N S p0 1 x) (fun r39 => bl (U1 r39 p0 39 ((r39.1 p0 39) - 1)) (fun x40 => bl (U1 x40 p0 41 ((x40.1 p0 41) - 1)) (fun x41 => bl (U1 x41 p0 40 ((x41.1 p0 40) - 1)) (fun x42 => Option.bind (f_X12_settle N S p0 7 x42) (fun r43 => Option.bind (f_X12_next N S p0 r43) (fun r44 => bk36 p1 p2 r44))))))))) else k178 x)) else Option.bind (f_X12_ahead N S p0 p2 x) (fun r45 => (if r45 = 0 then some (0, x) else Option.bind (f_X12_isKey N S p0 4 x) (fun r47 => (if r47 = 0 then Option.bind (f_X12_isSign N S p0 45 x) (fun r49 => (if r49 = 0 then Option.bind (f_X12_isSign N S p0 40 x) (fun r51 => (if r51 = 0 then (if (x.1 p0 34) = 1 then j_X12_part_151 N S bk36 p0 p2 (x.1 p0 35) p0 x else j_X12_part_151 N S bk36 p0 p2 (10000 + (x.1 p0 35)) p0 x) else Option.bind (f_X12_hold N S p0 (-10) x) (fun r57 => bl (U1 r57 p0 40 ((r57.1 p0 40) + 1)) (fun x58 => ck S (pr S p0 38) (x58.1 p0 40) (bl (U1 x58 (pr S p0 38) (x58.1 p0 40).toNatClampNeg (vp_nar .boolean 0)) (fun x61 => j_X12_part_162 N S bk36 p0 p1 1 x61)))))) else Option.bind (f_X12_hold N S p0 (-9) x) (fun r62 => j_X12_part_162 N S bk36 p0 p1 0 r62))) else Option.bind (f_X12_hold N S p0 (-3) x) (fun r63 => j_X12_part_162 N S bk36 p0 p1 p2 r63))))))
set_option maxHeartbeats 1000000 in
theorem lp_X12_part_36_b_t {N d : Nat} {S : SH} (hW : WT S) (hd : 4 ≤ d) (k178 : DY → Option (Int32 × DY)) (bk36 : Int32 → Int32 → DY → Option (Int32 × DY)) (p0 : Nat) (p1 : Int32) (p2 : Int32) (x : DY) (g0 : TY S p0 12) (hk178 : ∀ (y : DY), Go mX12_part d S wSI 178 [some (.ref p0), none, none, none] [] y (k178 y)) (hbk36 : ∀ (v1 : Int32) (v2 : Int32) (y : DY), Go mX12_part d S wSI 36 [some (.ref p0), some (.int v1), some (.int v2), none] [] y (bk36 v1 v2 y)) : Go mX12_part d S wSI 36 [some (.ref p0), some (.int p1), some (.int p2), none] [] x (lp_X12_part_36_b N S k178 bk36 p0 p1 p2 x) := by
  unfold lp_X12_part_36_b
  refine go1 (M := mX12_part) (pc' := 37) (r_iload_n (M := mX12_part) (i := 1) rfl dX12_part_36) ?_
  refine go_br (M := mX12_part) (pt := 169) (pf := 40) (fun kt kf => r_if_eq (M := mX12_part) dX12_part_37 (by decide) kt kf) (fun hc11 => ?_) (fun hc11 => ?_)
  · refine go1 (M := mX12_part) (pc' := 170) (r_aload_n (M := mX12_part) (i := 0) rfl dX12_part_169) ?_
    refine go1 (M := mX12_part) (pc' := 172) (r_bipush (M := mX12_part) (v := 59) (by decide) dX12_part_170) ?_
    refine go_V_PI (M := mX12_part) (pc' := 175) (st := []) (As := [.int 59]) rfl ln_12_307 lb_X12_isSign (t_X12_isSign (N := N) hW (by omega) g0) (by omega) g0 (Nat.le_of_ble_eq_true rfl) rfl dX12_part_172 (fun r12 => ?_)
    refine go_br (M := mX12_part) (pt := 196) (pf := 178) (fun kt kf => r_if_eq (M := mX12_part) dX12_part_175 (by decide) kt kf) (fun hc13 => ?_) (fun hc13 => ?_)
    · refine go1 (M := mX12_part) (pc' := 197) (r_aload_n (M := mX12_part) (i := 0) rfl dX12_part_196) ?_
      refine go1 (M := mX12_part) (pc' := 199) (r_bipush (M := mX12_part) (v := 41) (by decide) dX12_part_197) ?_
      refine go_V_PI (M := mX12_part) (pc' := 202) (st := []) (As := [.int 41]) rfl ln_12_307 lb_X12_isSign (t_X12_isSign (N := N) hW (by omega) g0) (by omega) g0 (Nat.le_of_ble_eq_true rfl) rfl dX12_part_199 (fun r14 => ?_)
      refine go_br (M := mX12_part) (pt := 262) (pf := 205) (fun kt kf => r_if_eq (M := mX12_part) dX12_part_202 (by decide) kt kf) (fun hc15 => ?_) (fun hc15 => ?_)
      · refine go1 (M := mX12_part) (pc' := 263) (r_aload_n (M := mX12_part) (i := 0) rfl dX12_part_262) ?_
        refine go_V_PI (M := mX12_part) (pc' := 266) (st := []) (As := []) rfl ln_12_323 lb_X12_signOf (t_X12_signOf (N := N) hW (by omega) g0) (by omega) g0 (Nat.le_of_ble_eq_true rfl) rfl dX12_part_263 (fun r16 => ?_)
        refine go1 (M := mX12_part) (pc' := 267) (ls' := [some (.ref p0), some (.int p1), some (.int p2), some (.int r16)]) (r_istore_n (M := mX12_part) (ls := [some (.ref p0), some (.int p1), some (.int p2), none]) (i := 3) (v := r16) (by decide) rfl dX12_part_266) ?_
        refine go1 (M := mX12_part) (pc' := 268) (r_iload_n (M := mX12_part) (i := 3) rfl dX12_part_267) ?_
        refine go_br (M := mX12_part) (pt := 292) (pf := 271) (fun kt kf => r_if_eq (M := mX12_part) dX12_part_268 (by decide) kt kf) (fun hc17 => ?_) (fun hc17 => ?_)
        · refine go1 (M := mX12_part) (pc' := 293) (r_iconst (M := mX12_part) (v := 0) (by decide) dX12_part_292) ?_
          exact go_zret (M := mX12_part) rfl rfl rfl dX12_part_293
        · refine go1 (M := mX12_part) (pc' := 272) (r_aload_n (M := mX12_part) (i := 0) rfl dX12_part_271) ?_
          refine go1 (M := mX12_part) (pc' := 273) (r_iload_n (M := mX12_part) (i := 3) rfl dX12_part_272) ?_
          refine go_V_PI (M := mX12_part) (pc' := 276) (st := []) (As := [.int r16]) rfl ln_12_297 lb_X12_rank (t_X12_rank (N := N) hW (by omega) g0) (by omega) g0 (Nat.le_of_ble_eq_true rfl) rfl dX12_part_273 (fun r18 => ?_)
          refine go1 (M := mX12_part) (pc' := 277) (r_iconst (M := mX12_part) (v := 4) (by decide) dX12_part_276) ?_
          refine go_br (M := mX12_part) (pt := 280) (pf := 294) (fun kt kf => r_icmp_ne (M := mX12_part) dX12_part_277 (by decide) kf kt) (fun hc19 => ?_) (fun hc19 => ?_)
          · refine go1 (M := mX12_part) (pc' := 281) (r_aload_n (M := mX12_part) (i := 0) rfl dX12_part_280) ?_
            refine go1 (M := mX12_part) (pc' := 284) (r_getR (M := mX12_part) fl_12_124 g0 rfl (wt_some hW g0 (by decide) (by decide) rfl) dX12_part_281) ?_
            have hT35 : TY S (pr S p0 38) 15 := wt hW g0 (by decide) (by decide) rfl (by decide)
            refine go1 (M := mX12_part) (pc' := 285) (r_aload_n (M := mX12_part) (i := 0) rfl dX12_part_284) ?_
            refine go1 (M := mX12_part) (pc' := 288) (r_getI (M := mX12_part) fl_12_130 g0 rfl dX12_part_285) ?_
            refine go_ck (fun hi36 => ?_)
            refine go1 (M := mX12_part) (pc' := 289) (r_zald (M := mX12_part) hT35 hi36 dX12_part_288) ?_
            refine go_br (M := mX12_part) (pt := 294) (pf := 292) (fun kt kf => r_if_eq (M := mX12_part) dX12_part_289 (by decide) kt kf) (fun hc37 => ?_) (fun hc37 => ?_)
            · refine go_drop (ls' := [some (.ref p0), none, none, some (.int r16)]) (And.intro rfl (And.intro rfl trivial)) ?_
              exact j_X12_part_294_t (N := N) hW (by omega) bk36 p0 r16 x g0 hbk36
            · refine go1 (M := mX12_part) (pc' := 293) (r_iconst (M := mX12_part) (v := 0) (by decide) dX12_part_292) ?_
              exact go_zret (M := mX12_part) rfl rfl rfl dX12_part_293
          · refine go_drop (ls' := [some (.ref p0), none, none, some (.int r16)]) (And.intro rfl (And.intro rfl trivial)) ?_
            exact j_X12_part_294_t (N := N) hW (by omega) bk36 p0 r16 x g0 hbk36
      · refine go1 (M := mX12_part) (pc' := 206) (r_aload_n (M := mX12_part) (i := 0) rfl dX12_part_205) ?_
        refine go1 (M := mX12_part) (pc' := 209) (r_getI (M := mX12_part) fl_12_130 g0 rfl dX12_part_206) ?_
        refine go_br (M := mX12_part) (pt := 212) (pf := 214) (fun kt kf => r_if_ne (M := mX12_part) dX12_part_209 (by decide) kf kt) (fun hc38 => ?_) (fun hc38 => ?_)
        · refine go1 (M := mX12_part) (pc' := 213) (r_iconst (M := mX12_part) (v := 0) (by decide) dX12_part_212) ?_
          exact go_zret (M := mX12_part) rfl rfl rfl dX12_part_213
        · refine go1 (M := mX12_part) (pc' := 215) (r_aload_n (M := mX12_part) (i := 0) rfl dX12_part_214) ?_
          refine go1 (M := mX12_part) (pc' := 216) (r_iconst (M := mX12_part) (v := 1) (by decide) dX12_part_215) ?_
          refine go_V_SV (M := mX12_part) (pc' := 219) (st := []) (As := [.int 1]) rfl ln_12_317 lb_X12_settle (t_X12_settle (N := N) hW (by omega) g0) (by omega) g0 (Nat.le_of_ble_eq_true rfl) rfl dX12_part_216 (fun r39 => ?_)
          refine go1 (M := mX12_part) (pc' := 220) (r_aload_n (M := mX12_part) (i := 0) rfl dX12_part_219) ?_
          refine go1 (M := mX12_part) (pc' := 221) (r_dup (M := mX12_part) rfl dX12_part_220) ?_
          refine go1 (M := mX12_part) (pc' := 224) (r_getI (M := mX12_part) fl_12_127 g0 rfl dX12_part_221) ?_
          refine go1 (M := mX12_part) (pc' := 225) (r_iconst (M := mX12_part) (v := 1) (by decide) dX12_part_224) ?_
          refine go1 (M := mX12_part) (pc' := 226) (r_isub (M := mX12_part) dX12_part_225) ?_
          refine go1 (M := mX12_part) (pc' := 229) (r_putI (M := mX12_part) fl_12_127 g0 rfl rfl dX12_part_226) ?_
          refine go_blx (fun x40 => ?_)
          refine go1 (M := mX12_part) (pc' := 230) (r_aload_n (M := mX12_part) (i := 0) rfl dX12_part_229) ?_
          refine go1 (M := mX12_part) (pc' := 231) (r_dup (M := mX12_part) rfl dX12_part_230) ?_
          refine go1 (M := mX12_part) (pc' := 234) (r_getI (M := mX12_part) fl_12_133 g0 rfl dX12_part_231) ?_
          refine go1 (M := mX12_part) (pc' := 235) (r_iconst (M := mX12_part) (v := 1) (by decide) dX12_part_234) ?_
          refine go1 (M := mX12_part) (pc' := 236) (r_isub (M := mX12_part) dX12_part_235) ?_
          refine go1 (M := mX12_part) (pc' := 239) (r_putI (M := mX12_part) fl_12_133 g0 rfl rfl dX12_part_236) ?_
          refine go_blx (fun x41 => ?_)
          refine go1 (M := mX12_part) (pc' := 240) (r_aload_n (M := mX12_part) (i := 0) rfl dX12_part_239) ?_
          refine go1 (M := mX12_part) (pc' := 241) (r_dup (M := mX12_part) rfl dX12_part_240) ?_
          refine go1 (M := mX12_part) (pc' := 244) (r_getI (M := mX12_part) fl_12_130 g0 rfl dX12_part_241) ?_
          refine go1 (M := mX12_part) (pc' := 245) (r_iconst (M := mX12_part) (v := 1) (by decide) dX12_part_244) ?_
          refine go1 (M := mX12_part) (pc' := 246) (r_isub (M := mX12_part) dX12_part_245) ?_
          refine go1 (M := mX12_part) (pc' := 249) (r_putI (M := mX12_part) fl_12_130 g0 rfl rfl dX12_part_246) ?_
          refine go_blx (fun x42 => ?_)
          refine go1 (M := mX12_part) (pc' := 250) (r_aload_n (M := mX12_part) (i := 0) rfl dX12_part_249) ?_
          refine go1 (M := mX12_part) (pc' := 252) (r_bipush (M := mX12_part) (v := 7) (by decide) dX12_part_250) ?_
          refine go_V_SV (M := mX12_part) (pc' := 255) (st := []) (As := [.int 7]) rfl ln_12_317 lb_X12_settle (t_X12_settle (N := N) hW (by omega) g0) (by omega) g0 (Nat.le_of_ble_eq_true rfl) rfl dX12_part_252 (fun r43 => ?_)
          refine go1 (M := mX12_part) (pc' := 256) (r_aload_n (M := mX12_part) (i := 0) rfl dX12_part_255) ?_
          refine go_V_SV (M := mX12_part) (pc' := 259) (st := []) (As := []) rfl ln_12_320 lb_X12_next (t_X12_next (N := N) hW (by omega) g0) (by omega) g0 (Nat.le_of_ble_eq_true rfl) rfl dX12_part_256 (fun r44 => ?_)
          refine go1 (M := mX12_part) (pc' := 36) (r_goto (M := mX12_part) dX12_part_259 (by decide)) ?_
          exact hbk36 p1 p2 r44
    · refine go_drop (ls' := [some (.ref p0), none, none, none]) (And.intro rfl trivial) ?_
      exact hk178 x
  · refine go1 (M := mX12_part) (pc' := 41) (r_aload_n (M := mX12_part) (i := 0) rfl dX12_part_40) ?_
    refine go1 (M := mX12_part) (pc' := 42) (r_iload_n (M := mX12_part) (i := 2) rfl dX12_part_41) ?_
    refine go_V_PI (M := mX12_part) (pc' := 45) (st := []) (As := [.int p2]) rfl ln_12_310 lb_X12_ahead (t_X12_ahead (N := N) hW (by omega) g0) (by omega) g0 (Nat.le_of_ble_eq_true rfl) rfl dX12_part_42 (fun r45 => ?_)
    refine go_br (M := mX12_part) (pt := 48) (pf := 50) (fun kt kf => r_if_ne (M := mX12_part) dX12_part_45 (by decide) kf kt) (fun hc46 => ?_) (fun hc46 => ?_)
    · refine go1 (M := mX12_part) (pc' := 49) (r_iconst (M := mX12_part) (v := 0) (by decide) dX12_part_48) ?_
      exact go_zret (M := mX12_part) rfl rfl rfl dX12_part_49
    · refine go1 (M := mX12_part) (pc' := 51) (r_aload_n (M := mX12_part) (i := 0) rfl dX12_part_50) ?_
      refine go1 (M := mX12_part) (pc' := 52) (r_iconst (M := mX12_part) (v := 4) (by decide) dX12_part_51) ?_
      refine go_V_PI (M := mX12_part) (pc' := 55) (st := []) (As := [.int 4]) rfl ln_12_304 lb_X12_isKey (t_X12_isKey (N := N) hW (by omega) g0) (by omega) g0 (Nat.le_of_ble_eq_true rfl) rfl dX12_part_52 (fun r47 => ?_)
      refine go_br (M := mX12_part) (pt := 67) (pf := 58) (fun kt kf => r_if_eq (M := mX12_part) dX12_part_55 (by decide) kt kf) (fun hc48 => ?_) (fun hc48 => ?_)
      · refine go1 (M := mX12_part) (pc' := 68) (r_aload_n (M := mX12_part) (i := 0) rfl dX12_part_67) ?_
        refine go1 (M := mX12_part) (pc' := 70) (r_bipush (M := mX12_part) (v := 45) (by decide) dX12_part_68) ?_
        refine go_V_PI (M := mX12_part) (pc' := 73) (st := []) (As := [.int 45]) rfl ln_12_307 lb_X12_isSign (t_X12_isSign (N := N) hW (by omega) g0) (by omega) g0 (Nat.le_of_ble_eq_true rfl) rfl dX12_part_70 (fun r49 => ?_)
        refine go_br (M := mX12_part) (pt := 87) (pf := 76) (fun kt kf => r_if_eq (M := mX12_part) dX12_part_73 (by decide) kt kf) (fun hc50 => ?_) (fun hc50 => ?_)
        · refine go1 (M := mX12_part) (pc' := 88) (r_aload_n (M := mX12_part) (i := 0) rfl dX12_part_87) ?_
          refine go1 (M := mX12_part) (pc' := 90) (r_bipush (M := mX12_part) (v := 40) (by decide) dX12_part_88) ?_
          refine go_V_PI (M := mX12_part) (pc' := 93) (st := []) (As := [.int 40]) rfl ln_12_307 lb_X12_isSign (t_X12_isSign (N := N) hW (by omega) g0) (by omega) g0 (Nat.le_of_ble_eq_true rfl) rfl dX12_part_90 (fun r51 => ?_)
          refine go_br (M := mX12_part) (pt := 127) (pf := 96) (fun kt kf => r_if_eq (M := mX12_part) dX12_part_93 (by decide) kt kf) (fun hc52 => ?_) (fun hc52 => ?_)
          · refine go1 (M := mX12_part) (pc' := 128) (r_aload_n (M := mX12_part) (i := 0) rfl dX12_part_127) ?_
            refine go1 (M := mX12_part) (pc' := 129) (r_aload_n (M := mX12_part) (i := 0) rfl dX12_part_128) ?_
            refine go1 (M := mX12_part) (pc' := 132) (r_getI (M := mX12_part) fl_12_112 g0 rfl dX12_part_129) ?_
            refine go1 (M := mX12_part) (pc' := 133) (r_iconst (M := mX12_part) (v := 1) (by decide) dX12_part_132) ?_
            refine go_br (M := mX12_part) (pt := 136) (pf := 143) (fun kt kf => r_icmp_ne (M := mX12_part) dX12_part_133 (by decide) kf kt) (fun hc53 => ?_) (fun hc53 => ?_)
            · refine go1 (M := mX12_part) (pc' := 137) (r_aload_n (M := mX12_part) (i := 0) rfl dX12_part_136) ?_
              refine go1 (M := mX12_part) (pc' := 140) (r_getI (M := mX12_part) fl_12_115 g0 rfl dX12_part_137) ?_
              refine go1 (M := mX12_part) (pc' := 151) (r_goto (M := mX12_part) dX12_part_140 (by decide)) ?_
              refine go_drop (ls' := [some (.ref p0), none, some (.int p2), none]) (And.intro rfl (And.intro rfl trivial)) ?_
              exact j_X12_part_151_t (N := N) hW (by omega) bk36 p0 p2 (x.1 p0 35) p0 x g0 g0 hbk36
            · refine go1 (M := mX12_part) (pc' := 146) (r_sipush (M := mX12_part) (v := 10000) (by decide) dX12_part_143) ?_
              refine go1 (M := mX12_part) (pc' := 147) (r_aload_n (M := mX12_part) (i := 0) rfl dX12_part_146) ?_
              refine go1 (M := mX12_part) (pc' := 150) (r_getI (M := mX12_part) fl_12_115 g0 rfl dX12_part_147) ?_
              refine go1 (M := mX12_part) (pc' := 151) (r_iadd (M := mX12_part) dX12_part_150) ?_
              refine go_drop (ls' := [some (.ref p0), none, some (.int p2), none]) (And.intro rfl (And.intro rfl trivial)) ?_
              exact j_X12_part_151_t (N := N) hW (by omega) bk36 p0 p2 (10000 + (x.1 p0 35)) p0 x g0 g0 hbk36
          · refine go1 (M := mX12_part) (pc' := 97) (r_aload_n (M := mX12_part) (i := 0) rfl dX12_part_96) ?_
            refine go1 (M := mX12_part) (pc' := 99) (r_bipush (M := mX12_part) (v := (-10)) (by decide) dX12_part_97) ?_
            refine go_V_SV (M := mX12_part) (pc' := 102) (st := []) (As := [.int (-10)]) rfl ln_12_314 lb_X12_hold (t_X12_hold (N := N) hW (by omega) g0) (by omega) g0 (Nat.le_of_ble_eq_true rfl) rfl dX12_part_99 (fun r57 => ?_)
            refine go1 (M := mX12_part) (pc' := 103) (r_aload_n (M := mX12_part) (i := 0) rfl dX12_part_102) ?_
            refine go1 (M := mX12_part) (pc' := 104) (r_dup (M := mX12_part) rfl dX12_part_103) ?_
            refine go1 (M := mX12_part) (pc' := 107) (r_getI (M := mX12_part) fl_12_130 g0 rfl dX12_part_104) ?_
            refine go1 (M := mX12_part) (pc' := 108) (r_iconst (M := mX12_part) (v := 1) (by decide) dX12_part_107) ?_
            refine go1 (M := mX12_part) (pc' := 109) (r_iadd (M := mX12_part) dX12_part_108) ?_
            refine go1 (M := mX12_part) (pc' := 112) (r_putI (M := mX12_part) fl_12_130 g0 rfl rfl dX12_part_109) ?_
            refine go_blx (fun x58 => ?_)
            refine go1 (M := mX12_part) (pc' := 113) (r_aload_n (M := mX12_part) (i := 0) rfl dX12_part_112) ?_
            refine go1 (M := mX12_part) (pc' := 116) (r_getR (M := mX12_part) fl_12_124 g0 rfl (wt_some hW g0 (by decide) (by decide) rfl) dX12_part_113) ?_
            have hT59 : TY S (pr S p0 38) 15 := wt hW g0 (by decide) (by decide) rfl (by decide)
            refine go1 (M := mX12_part) (pc' := 117) (r_aload_n (M := mX12_part) (i := 0) rfl dX12_part_116) ?_
            refine go1 (M := mX12_part) (pc' := 120) (r_getI (M := mX12_part) fl_12_130 g0 rfl dX12_part_117) ?_
            refine go1 (M := mX12_part) (pc' := 121) (r_iconst (M := mX12_part) (v := 0) (by decide) dX12_part_120) ?_
            refine go_ck (fun hi60 => ?_)
            refine go1 (M := mX12_part) (pc' := 122) (r_zast (M := mX12_part) hT59 hi60 dX12_part_121) ?_
            refine go_blx (fun x61 => ?_)
            refine go1 (M := mX12_part) (pc' := 123) (r_iconst (M := mX12_part) (v := 1) (by decide) dX12_part_122) ?_
            refine go1 (M := mX12_part) (pc' := 124) (ls' := [some (.ref p0), some (.int p1), some (.int 1), none]) (r_istore_n (M := mX12_part) (ls := [some (.ref p0), some (.int p1), some (.int p2), none]) (i := 2) (v := 1) (by decide) rfl dX12_part_123) ?_
            refine go1 (M := mX12_part) (pc' := 162) (r_goto (M := mX12_part) dX12_part_124 (by decide)) ?_
            exact j_X12_part_162_t (N := N) hW (by omega) bk36 p0 p1 1 x61 g0 hbk36
        · refine go1 (M := mX12_part) (pc' := 77) (r_aload_n (M := mX12_part) (i := 0) rfl dX12_part_76) ?_
          refine go1 (M := mX12_part) (pc' := 79) (r_bipush (M := mX12_part) (v := (-9)) (by decide) dX12_part_77) ?_
          refine go_V_SV (M := mX12_part) (pc' := 82) (st := []) (As := [.int (-9)]) rfl ln_12_314 lb_X12_hold (t_X12_hold (N := N) hW (by omega) g0) (by omega) g0 (Nat.le_of_ble_eq_true rfl) rfl dX12_part_79 (fun r62 => ?_)
          refine go1 (M := mX12_part) (pc' := 83) (r_iconst (M := mX12_part) (v := 0) (by decide) dX12_part_82) ?_
          refine go1 (M := mX12_part) (pc' := 84) (ls' := [some (.ref p0), some (.int p1), some (.int 0), none]) (r_istore_n (M := mX12_part) (ls := [some (.ref p0), some (.int p1), some (.int p2), none]) (i := 2) (v := 0) (by decide) rfl dX12_part_83) ?_
          refine go1 (M := mX12_part) (pc' := 162) (r_goto (M := mX12_part) dX12_part_84 (by decide)) ?_
          exact j_X12_part_162_t (N := N) hW (by omega) bk36 p0 p1 0 r62 g0 hbk36
      · refine go1 (M := mX12_part) (pc' := 59) (r_aload_n (M := mX12_part) (i := 0) rfl dX12_part_58) ?_
        refine go1 (M := mX12_part) (pc' := 61) (r_bipush (M := mX12_part) (v := (-3)) (by decide) dX12_part_59) ?_
        refine go_V_SV (M := mX12_part) (pc' := 64) (st := []) (As := [.int (-3)]) rfl ln_12_314 lb_X12_hold (t_X12_hold (N := N) hW (by omega) g0) (by omega) g0 (Nat.le_of_ble_eq_true rfl) rfl dX12_part_61 (fun r63 => ?_)
        refine go1 (M := mX12_part) (pc' := 162) (r_goto (M := mX12_part) dX12_part_64 (by decide)) ?_
        exact j_X12_part_162_t (N := N) hW (by omega) bk36 p0 p1 p2 r63 g0 hbk36
def lp_X12_part_36 (N : Nat) (S : SH) (k178 : DY → Option (Int32 × DY)) (p0 : Nat) (p1 : Int32) (p2 : Int32) (x : DY) : Option (Int32 × DY) :=
  itr (fun back (v : Int32 × Int32 × DY) => lp_X12_part_36_b N S k178 (fun p1 p2 y => back (p1, p2, y)) p0 v.1 v.2.1 v.2.2) N (p1, p2, x)
theorem lp_X12_part_36_t {N d : Nat} {S : SH} (hW : WT S) (hd : 4 ≤ d) (k178 : DY → Option (Int32 × DY)) (p0 : Nat) (p1 : Int32) (p2 : Int32) (x : DY) (g0 : TY S p0 12) (hk178 : ∀ (y : DY), Go mX12_part d S wSI 178 [some (.ref p0), none, none, none] [] y (k178 y)) : Go mX12_part d S wSI 36 [some (.ref p0), some (.int p1), some (.int p2), none] [] x (lp_X12_part_36 N S k178 p0 p1 p2 x) := by
  unfold lp_X12_part_36
  exact go_itr (L := fun (v : Int32 × Int32 × DY) => [some (.ref p0), some (.int v.1), some (.int v.2.1), none]) (X := fun (v : Int32 × Int32 × DY) => v.2.2) (fun back hB v => lp_X12_part_36_b_t (N := N) hW hd k178 (fun p1 p2 y => back (p1, p2, y)) p0 v.1 v.2.1 v.2.2 g0 hk178 (fun p1 p2 y => hB (p1, p2, y)) ) N (p1, p2, x)
def f_X12_part (N : Nat) (S : SH) (a0 : Nat) (x : DY) : Option (Int32 × DY) :=
  bl (U1 x a0 39 0) (fun x1 => bl (U1 x1 a0 40 0) (fun x2 => bl (U1 x2 a0 41 0) (fun x3 => ck S (pr S a0 31) (x3.1 a0 42) (bl (U1 x3 (pr S a0 31) (x3.1 a0 42).toNatClampNeg 0) (fun x6 => ck S (pr S a0 38) 0 (bl (U1 x6 (pr S a0 38) (0 : Int32).toNatClampNeg (vp_nar .boolean 0)) (fun x9 => lp_X12_part_36 N S (fun y63 => Option.bind (f_X12_settle N S a0 1 y63) (fun r65 => (if (r65.1 a0 40) = 0 then some (1, r65) else some (0, r65)))) a0 1 1 x9)))))))
set_option maxHeartbeats 1000000 in
theorem t_X12_part {N d : Nat} {S : SH} (hW : WT S) {x : DY} {a0 : Nat} (hd : 4 ≤ d) (h0 : TY S a0 12) : CT mX12_part d S [.ref a0] x wSI (f_X12_part N S a0 x) := by
  refine CT.of [some (.ref a0), none, none, none] rfl (Nat.le_of_ble_eq_true rfl) (by decide +kernel) ?_
  unfold f_X12_part
  refine go1 (M := mX12_part) (pc' := 1) (r_aload_n (M := mX12_part) (i := 0) rfl dX12_part_0) ?_
  refine go1 (M := mX12_part) (pc' := 2) (r_iconst (M := mX12_part) (v := 0) (by decide) dX12_part_1) ?_
  refine go1 (M := mX12_part) (pc' := 5) (r_putI (M := mX12_part) fl_12_127 h0 rfl rfl dX12_part_2) ?_
  refine go_blx (fun x1 => ?_)
  refine go1 (M := mX12_part) (pc' := 6) (r_aload_n (M := mX12_part) (i := 0) rfl dX12_part_5) ?_
  refine go1 (M := mX12_part) (pc' := 7) (r_iconst (M := mX12_part) (v := 0) (by decide) dX12_part_6) ?_
  refine go1 (M := mX12_part) (pc' := 10) (r_putI (M := mX12_part) fl_12_130 h0 rfl rfl dX12_part_7) ?_
  refine go_blx (fun x2 => ?_)
  refine go1 (M := mX12_part) (pc' := 11) (r_aload_n (M := mX12_part) (i := 0) rfl dX12_part_10) ?_
  refine go1 (M := mX12_part) (pc' := 12) (r_iconst (M := mX12_part) (v := 0) (by decide) dX12_part_11) ?_
  refine go1 (M := mX12_part) (pc' := 15) (r_putI (M := mX12_part) fl_12_133 h0 rfl rfl dX12_part_12) ?_
  refine go_blx (fun x3 => ?_)
  refine go1 (M := mX12_part) (pc' := 16) (r_aload_n (M := mX12_part) (i := 0) rfl dX12_part_15) ?_
  refine go1 (M := mX12_part) (pc' := 19) (r_getR (M := mX12_part) fl_12_103 h0 rfl (wt_some hW h0 (by decide) (by decide) rfl) dX12_part_16) ?_
  have hT4 : TY S (pr S a0 31) 14 := wt hW h0 (by decide) (by decide) rfl (by decide)
  refine go1 (M := mX12_part) (pc' := 20) (r_aload_n (M := mX12_part) (i := 0) rfl dX12_part_19) ?_
  refine go1 (M := mX12_part) (pc' := 23) (r_getI (M := mX12_part) fl_12_136 h0 rfl dX12_part_20) ?_
  refine go1 (M := mX12_part) (pc' := 24) (r_iconst (M := mX12_part) (v := 0) (by decide) dX12_part_23) ?_
  refine go_ck (fun hi5 => ?_)
  refine go1 (M := mX12_part) (pc' := 25) (r_iast (M := mX12_part) hT4 hi5 dX12_part_24) ?_
  refine go_blx (fun x6 => ?_)
  refine go1 (M := mX12_part) (pc' := 26) (r_aload_n (M := mX12_part) (i := 0) rfl dX12_part_25) ?_
  refine go1 (M := mX12_part) (pc' := 29) (r_getR (M := mX12_part) fl_12_124 h0 rfl (wt_some hW h0 (by decide) (by decide) rfl) dX12_part_26) ?_
  have hT7 : TY S (pr S a0 38) 15 := wt hW h0 (by decide) (by decide) rfl (by decide)
  refine go1 (M := mX12_part) (pc' := 30) (r_iconst (M := mX12_part) (v := 0) (by decide) dX12_part_29) ?_
  refine go1 (M := mX12_part) (pc' := 31) (r_iconst (M := mX12_part) (v := 0) (by decide) dX12_part_30) ?_
  refine go_ck (fun hi8 => ?_)
  refine go1 (M := mX12_part) (pc' := 32) (r_zast (M := mX12_part) hT7 hi8 dX12_part_31) ?_
  refine go_blx (fun x9 => ?_)
  refine go1 (M := mX12_part) (pc' := 33) (r_iconst (M := mX12_part) (v := 1) (by decide) dX12_part_32) ?_
  refine go1 (M := mX12_part) (pc' := 34) (ls' := [some (.ref a0), some (.int 1), none, none]) (r_istore_n (M := mX12_part) (ls := [some (.ref a0), none, none, none]) (i := 1) (v := 1) (by decide) rfl dX12_part_33) ?_
  refine go1 (M := mX12_part) (pc' := 35) (r_iconst (M := mX12_part) (v := 1) (by decide) dX12_part_34) ?_
  refine go1 (M := mX12_part) (pc' := 36) (ls' := [some (.ref a0), some (.int 1), some (.int 1), none]) (r_istore_n (M := mX12_part) (ls := [some (.ref a0), some (.int 1), none, none]) (i := 2) (v := 1) (by decide) rfl dX12_part_35) ?_
  refine lp_X12_part_36_t (N := N) hW (by omega) _ a0 1 1 x9 h0 ?_
  · intro y63
    refine go1 (M := mX12_part) (pc' := 179) (r_aload_n (M := mX12_part) (i := 0) rfl dX12_part_178) ?_
    refine go1 (M := mX12_part) (pc' := 180) (r_iconst (M := mX12_part) (v := 1) (by decide) dX12_part_179) ?_
    refine go_V_SV (M := mX12_part) (pc' := 183) (st := []) (As := [.int 1]) rfl ln_12_317 lb_X12_settle (t_X12_settle (N := N) hW (by omega) h0) (by omega) h0 (Nat.le_of_ble_eq_true rfl) rfl dX12_part_180 (fun r65 => ?_)
    refine go1 (M := mX12_part) (pc' := 184) (r_aload_n (M := mX12_part) (i := 0) rfl dX12_part_183) ?_
    refine go1 (M := mX12_part) (pc' := 187) (r_getI (M := mX12_part) fl_12_130 h0 rfl dX12_part_184) ?_
    refine go_br (M := mX12_part) (pt := 190) (pf := 194) (fun kt kf => r_if_ne (M := mX12_part) dX12_part_187 (by decide) kf kt) (fun hc66 => ?_) (fun hc66 => ?_)
    · refine go1 (M := mX12_part) (pc' := 191) (r_iconst (M := mX12_part) (v := 1) (by decide) dX12_part_190) ?_
      refine go1 (M := mX12_part) (pc' := 195) (r_goto (M := mX12_part) dX12_part_191 (by decide)) ?_
      exact go_zret (M := mX12_part) rfl rfl rfl dX12_part_195
    · refine go1 (M := mX12_part) (pc' := 195) (r_iconst (M := mX12_part) (v := 0) (by decide) dX12_part_194) ?_
      exact go_zret (M := mX12_part) rfl rfl rfl dX12_part_195
