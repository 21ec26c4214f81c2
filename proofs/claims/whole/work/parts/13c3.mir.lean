/-! MIRRORS, by program out of the class's bytecode: X5_readSum .. X11_seat -/
def j_X5_readSum_68 (N : Nat) (S : SH) (bk14 : Int32 → Int32 → Int32 → DY → Option (Int32 × DY)) (p0 : Nat) (p1 : Int32) (p2 : Int32) (p4 : Int32) (q0 : Int32) (q1 : Nat) (x : DY) : Option (Int32 × DY) :=
  Option.bind (f_X5_write N S q1 q0 x) (fun r12 => Option.bind (f_X5_token N S p0 r12) (fun r13 => bk14 p2 r13 (p4 + 1) r12))
set_option maxHeartbeats 1000000 in
theorem j_X5_readSum_68_t {N d dr : Nat} {S : SH} (hW : WT S) (hd : dr + 3 ≤ d) (bk14 : Int32 → Int32 → Int32 → DY → Option (Int32 × DY)) (p0 : Nat) (p1 : Int32) (p2 : Int32) (p4 : Int32) (q0 : Int32) (q1 : Nat) (x : DY) (g0 : TY S p0 5) (gq1 : TY S q1 5) (hbk14 : ∀ (v2 : Int32) (v3 : Int32) (v4 : Int32) (y : DY), Go mX5_readSum d S wSI 14 [some (.ref p0), some (.int p1), some (.int v2), some (.int v3), some (.int v4)] [] y (bk14 v2 v3 v4 y)) : Go mX5_readSum d S wSI 68 [some (.ref p0), some (.int p1), some (.int p2), none, some (.int p4)] [.int q0, .ref q1] x (j_X5_readSum_68 N S bk14 p0 p1 p2 p4 q0 q1 x) := by
  unfold j_X5_readSum_68
  refine go_V_SV (M := mX5_readSum) (pc' := 71) (st := []) (As := [.int q0]) rfl ln_5_87 lb_X5_write (t_X5_write (N := N) hW (by omega) gq1) (by omega) gq1 (Nat.le_of_ble_eq_true rfl) rfl dX5_readSum_68 (fun r12 => ?_)
  refine go1 (M := mX5_readSum) (pc' := 72) (r_aload_n (M := mX5_readSum) (i := 0) rfl dX5_readSum_71) ?_
  refine go_V_PI (M := mX5_readSum) (pc' := 75) (st := []) (As := []) rfl ln_5_76 lb_X5_token (t_X5_token (N := N) hW (by omega) g0) (by omega) g0 (Nat.le_of_ble_eq_true rfl) rfl dX5_readSum_72 (fun r13 => ?_)
  refine go1 (M := mX5_readSum) (pc' := 76) (ls' := [some (.ref p0), some (.int p1), some (.int p2), some (.int r13), some (.int p4)]) (r_istore_n (M := mX5_readSum) (ls := [some (.ref p0), some (.int p1), some (.int p2), none, some (.int p4)]) (i := 3) (v := r13) (by decide) rfl dX5_readSum_75) ?_
  refine go1 (M := mX5_readSum) (pc' := 79) (ls' := [some (.ref p0), some (.int p1), some (.int p2), some (.int r13), some (.int (p4 + 1))]) (r_iinc (M := mX5_readSum) (ls := [some (.ref p0), some (.int p1), some (.int p2), some (.int r13), some (.int p4)]) (i := 4) (v := p4) (c' := 1) (by decide) rfl (by decide) rfl dX5_readSum_76) ?_
  refine go1 (M := mX5_readSum) (pc' := 14) (r_goto (M := mX5_readSum) dX5_readSum_79 (by decide)) ?_
  exact hbk14 p2 r13 (p4 + 1) r12
def j_X5_readSum_38 (N : Nat) (rc_X5_readOne : Nat → Int32 → DY → Option (Int32 × DY)) (S : SH) (bk14 : Int32 → Int32 → Int32 → DY → Option (Int32 × DY)) (p0 : Nat) (p1 : Int32) (p3 : Int32) (p4 : Int32) (x : DY) : Option (Int32 × DY) :=
  bl (U1 x p0 6 ((x.1 p0 6) + 1)) (fun x9 => Option.bind (f_X5_readTerm N rc_X5_readOne S p0 p1 x9) (fun r10 => (if p3 = 43 then j_X5_readSum_68 N S bk14 p0 p1 r10.1 p4 (-13) p0 r10.2 else j_X5_readSum_68 N S bk14 p0 p1 r10.1 p4 (-14) p0 r10.2)))
set_option maxHeartbeats 1000000 in
theorem j_X5_readSum_38_t {N d dr : Nat} (rc_X5_readOne : Nat → Int32 → DY → Option (Int32 × DY)) {S : SH} (hW : WT S) (hd : dr + 3 ≤ d) (bk14 : Int32 → Int32 → Int32 → DY → Option (Int32 × DY)) (p0 : Nat) (p1 : Int32) (p3 : Int32) (p4 : Int32) (x : DY) (g0 : TY S p0 5) (hbk14 : ∀ (v2 : Int32) (v3 : Int32) (v4 : Int32) (y : DY), Go mX5_readSum d S wSI 14 [some (.ref p0), some (.int p1), some (.int v2), some (.int v3), some (.int v4)] [] y (bk14 v2 v3 v4 y)) (hr_X5_readOne : ∀ {d : Nat} {x : DY} {b0 : Nat} {b1 : Int32}, dr ≤ d → TY S b0 5 → CT mX5_readOne d S [.ref b0, .int b1] x wSI (rc_X5_readOne b0 b1 x)) : Go mX5_readSum d S wSI 38 [some (.ref p0), some (.int p1), none, some (.int p3), some (.int p4)] [] x (j_X5_readSum_38 N rc_X5_readOne S bk14 p0 p1 p3 p4 x) := by
  unfold j_X5_readSum_38
  refine go1 (M := mX5_readSum) (pc' := 39) (r_aload_n (M := mX5_readSum) (i := 0) rfl dX5_readSum_38) ?_
  refine go1 (M := mX5_readSum) (pc' := 40) (r_dup (M := mX5_readSum) rfl dX5_readSum_39) ?_
  refine go1 (M := mX5_readSum) (pc' := 43) (r_getI (M := mX5_readSum) fl_5_31 g0 rfl dX5_readSum_40) ?_
  refine go1 (M := mX5_readSum) (pc' := 44) (r_iconst (M := mX5_readSum) (v := 1) (by decide) dX5_readSum_43) ?_
  refine go1 (M := mX5_readSum) (pc' := 45) (r_iadd (M := mX5_readSum) dX5_readSum_44) ?_
  refine go1 (M := mX5_readSum) (pc' := 48) (r_putI (M := mX5_readSum) fl_5_31 g0 rfl rfl dX5_readSum_45) ?_
  refine go_blx (fun x9 => ?_)
  refine go1 (M := mX5_readSum) (pc' := 49) (r_aload_n (M := mX5_readSum) (i := 0) rfl dX5_readSum_48) ?_
  refine go1 (M := mX5_readSum) (pc' := 50) (r_iload_n (M := mX5_readSum) (i := 1) rfl dX5_readSum_49) ?_
  refine go_V_SI (M := mX5_readSum) (pc' := 53) (st := []) (As := [.int p1]) rfl ln_5_100 lb_X5_readTerm (t_X5_readTerm (N := N) (dr := dr) rc_X5_readOne hW (by omega) g0 hr_X5_readOne) (by omega) g0 (Nat.le_of_ble_eq_true rfl) rfl dX5_readSum_50 (fun r10 => ?_)
  refine go1 (M := mX5_readSum) (pc' := 54) (ls' := [some (.ref p0), some (.int p1), some (.int r10.1), some (.int p3), some (.int p4)]) (r_istore_n (M := mX5_readSum) (ls := [some (.ref p0), some (.int p1), none, some (.int p3), some (.int p4)]) (i := 2) (v := r10.1) (by decide) rfl dX5_readSum_53) ?_
  refine go1 (M := mX5_readSum) (pc' := 55) (r_aload_n (M := mX5_readSum) (i := 0) rfl dX5_readSum_54) ?_
  refine go1 (M := mX5_readSum) (pc' := 56) (r_iload_n (M := mX5_readSum) (i := 3) rfl dX5_readSum_55) ?_
  refine go1 (M := mX5_readSum) (pc' := 58) (r_bipush (M := mX5_readSum) (v := 43) (by decide) dX5_readSum_56) ?_
  refine go_br (M := mX5_readSum) (pt := 61) (pf := 66) (fun kt kf => r_icmp_ne (M := mX5_readSum) dX5_readSum_58 (by decide) kf kt) (fun hc11 => ?_) (fun hc11 => ?_)
  · refine go1 (M := mX5_readSum) (pc' := 63) (r_bipush (M := mX5_readSum) (v := (-13)) (by decide) dX5_readSum_61) ?_
    refine go1 (M := mX5_readSum) (pc' := 68) (r_goto (M := mX5_readSum) dX5_readSum_63 (by decide)) ?_
    refine go_drop (ls' := [some (.ref p0), some (.int p1), some (.int r10.1), none, some (.int p4)]) (And.intro rfl (And.intro rfl (And.intro rfl (And.intro rfl trivial)))) ?_
    exact j_X5_readSum_68_t (N := N) (dr := dr) hW (by omega) bk14 p0 p1 r10.1 p4 (-13) p0 r10.2 g0 g0 hbk14
  · refine go1 (M := mX5_readSum) (pc' := 68) (r_bipush (M := mX5_readSum) (v := (-14)) (by decide) dX5_readSum_66) ?_
    refine go_drop (ls' := [some (.ref p0), some (.int p1), some (.int r10.1), none, some (.int p4)]) (And.intro rfl (And.intro rfl (And.intro rfl (And.intro rfl trivial)))) ?_
    exact j_X5_readSum_68_t (N := N) (dr := dr) hW (by omega) bk14 p0 p1 r10.1 p4 (-14) p0 r10.2 g0 g0 hbk14
def lp_X5_readSum_14_b (N : Nat) (rc_X5_readOne : Nat → Int32 → DY → Option (Int32 × DY)) (S : SH) (bk14 : Int32 → Int32 → Int32 → DY → Option (Int32 × DY)) (p0 : Nat) (p1 : Int32) (p2 : Int32) (p3 : Int32) (p4 : Int32) (x : DY) : Option (Int32 × DY) :=
  (if 160 ≤ p4 then bz p2 (some (p2, x)) else (if p2 = 0 then bz p2 (some (p2, x)) else (if p3 = 43 then j_X5_readSum_38 N rc_X5_readOne S bk14 p0 p1 p3 p4 x else (if p3 = 45 then j_X5_readSum_38 N rc_X5_readOne S bk14 p0 p1 p3 p4 x else bz p2 (some (p2, x))))))
set_option maxHeartbeats 1000000 in
theorem lp_X5_readSum_14_b_t {N d dr : Nat} (rc_X5_readOne : Nat → Int32 → DY → Option (Int32 × DY)) {S : SH} (hW : WT S) (hd : dr + 3 ≤ d) (bk14 : Int32 → Int32 → Int32 → DY → Option (Int32 × DY)) (p0 : Nat) (p1 : Int32) (p2 : Int32) (p3 : Int32) (p4 : Int32) (x : DY) (g0 : TY S p0 5) (hbk14 : ∀ (v2 : Int32) (v3 : Int32) (v4 : Int32) (y : DY), Go mX5_readSum d S wSI 14 [some (.ref p0), some (.int p1), some (.int v2), some (.int v3), some (.int v4)] [] y (bk14 v2 v3 v4 y)) (hr_X5_readOne : ∀ {d : Nat} {x : DY} {b0 : Nat} {b1 : Int32}, dr ≤ d → TY S b0 5 → CT mX5_readOne d S [.ref b0, .int b1] x wSI (rc_X5_readOne b0 b1 x)) : Go mX5_readSum d S wSI 14 [some (.ref p0), some (.int p1), some (.int p2), some (.int p3), some (.int p4)] [] x (lp_X5_readSum_14_b N rc_X5_readOne S bk14 p0 p1 p2 p3 p4 x) := by
  unfold lp_X5_readSum_14_b
  refine go1 (M := mX5_readSum) (pc' := 16) (r_iload (M := mX5_readSum) (i := 4) rfl dX5_readSum_14) ?_
  refine go1 (M := mX5_readSum) (pc' := 19) (r_sipush (M := mX5_readSum) (v := 160) (by decide) dX5_readSum_16) ?_
  refine go_br (M := mX5_readSum) (pt := 82) (pf := 22) (fun kt kf => r_icmp_ge (M := mX5_readSum) dX5_readSum_19 (by decide) kt kf) (fun hc4 => ?_) (fun hc4 => ?_)
  · refine go1 (M := mX5_readSum) (pc' := 83) (r_iload_n (M := mX5_readSum) (i := 2) rfl dX5_readSum_82) ?_
    refine go_bz (fun hn5 => ?_)
    exact go_zret (M := mX5_readSum) rfl hn5 rfl dX5_readSum_83
  · refine go1 (M := mX5_readSum) (pc' := 23) (r_iload_n (M := mX5_readSum) (i := 2) rfl dX5_readSum_22) ?_
    refine go_br (M := mX5_readSum) (pt := 82) (pf := 26) (fun kt kf => r_if_eq (M := mX5_readSum) dX5_readSum_23 (by decide) kt kf) (fun hc6 => ?_) (fun hc6 => ?_)
    · refine go1 (M := mX5_readSum) (pc' := 83) (r_iload_n (M := mX5_readSum) (i := 2) rfl dX5_readSum_82) ?_
      refine go_bz (fun hn7 => ?_)
      exact go_zret (M := mX5_readSum) rfl hn7 rfl dX5_readSum_83
    · refine go1 (M := mX5_readSum) (pc' := 27) (r_iload_n (M := mX5_readSum) (i := 3) rfl dX5_readSum_26) ?_
      refine go1 (M := mX5_readSum) (pc' := 29) (r_bipush (M := mX5_readSum) (v := 43) (by decide) dX5_readSum_27) ?_
      refine go_br (M := mX5_readSum) (pt := 38) (pf := 32) (fun kt kf => r_icmp_eq (M := mX5_readSum) dX5_readSum_29 (by decide) kt kf) (fun hc8 => ?_) (fun hc8 => ?_)
      · refine go_drop (ls' := [some (.ref p0), some (.int p1), none, some (.int p3), some (.int p4)]) (And.intro rfl (And.intro rfl (And.intro rfl (And.intro rfl trivial)))) ?_
        exact j_X5_readSum_38_t (N := N) (dr := dr) rc_X5_readOne hW (by omega) bk14 p0 p1 p3 p4 x g0 hbk14 hr_X5_readOne
      · refine go1 (M := mX5_readSum) (pc' := 33) (r_iload_n (M := mX5_readSum) (i := 3) rfl dX5_readSum_32) ?_
        refine go1 (M := mX5_readSum) (pc' := 35) (r_bipush (M := mX5_readSum) (v := 45) (by decide) dX5_readSum_33) ?_
        refine go_br (M := mX5_readSum) (pt := 38) (pf := 82) (fun kt kf => r_icmp_ne (M := mX5_readSum) dX5_readSum_35 (by decide) kf kt) (fun hc14 => ?_) (fun hc14 => ?_)
        · refine go_drop (ls' := [some (.ref p0), some (.int p1), none, some (.int p3), some (.int p4)]) (And.intro rfl (And.intro rfl (And.intro rfl (And.intro rfl trivial)))) ?_
          exact j_X5_readSum_38_t (N := N) (dr := dr) rc_X5_readOne hW (by omega) bk14 p0 p1 p3 p4 x g0 hbk14 hr_X5_readOne
        · refine go1 (M := mX5_readSum) (pc' := 83) (r_iload_n (M := mX5_readSum) (i := 2) rfl dX5_readSum_82) ?_
          refine go_bz (fun hn15 => ?_)
          exact go_zret (M := mX5_readSum) rfl hn15 rfl dX5_readSum_83
def lp_X5_readSum_14 (N : Nat) (rc_X5_readOne : Nat → Int32 → DY → Option (Int32 × DY)) (S : SH) (p0 : Nat) (p1 : Int32) (p2 : Int32) (p3 : Int32) (p4 : Int32) (x : DY) : Option (Int32 × DY) :=
  itr (fun back (v : Int32 × Int32 × Int32 × DY) => lp_X5_readSum_14_b N rc_X5_readOne S (fun p2 p3 p4 y => back (p2, p3, p4, y)) p0 p1 v.1 v.2.1 v.2.2.1 v.2.2.2) N (p2, p3, p4, x)
theorem lp_X5_readSum_14_t {N d dr : Nat} (rc_X5_readOne : Nat → Int32 → DY → Option (Int32 × DY)) {S : SH} (hW : WT S) (hd : dr + 3 ≤ d) (p0 : Nat) (p1 : Int32) (p2 : Int32) (p3 : Int32) (p4 : Int32) (x : DY) (g0 : TY S p0 5) (hr_X5_readOne : ∀ {d : Nat} {x : DY} {b0 : Nat} {b1 : Int32}, dr ≤ d → TY S b0 5 → CT mX5_readOne d S [.ref b0, .int b1] x wSI (rc_X5_readOne b0 b1 x)) : Go mX5_readSum d S wSI 14 [some (.ref p0), some (.int p1), some (.int p2), some (.int p3), some (.int p4)] [] x (lp_X5_readSum_14 N rc_X5_readOne S p0 p1 p2 p3 p4 x) := by
  unfold lp_X5_readSum_14
  exact go_itr (L := fun (v : Int32 × Int32 × Int32 × DY) => [some (.ref p0), some (.int p1), some (.int v.1), some (.int v.2.1), some (.int v.2.2.1)]) (X := fun (v : Int32 × Int32 × Int32 × DY) => v.2.2.2) (fun back hB v => lp_X5_readSum_14_b_t (N := N) (dr := dr) rc_X5_readOne hW hd (fun p2 p3 p4 y => back (p2, p3, p4, y)) p0 p1 v.1 v.2.1 v.2.2.1 v.2.2.2 g0 (fun p2 p3 p4 y => hB (p2, p3, p4, y)) hr_X5_readOne) N (p2, p3, p4, x)
def f_X5_readSum (N : Nat) (rc_X5_readOne : Nat → Int32 → DY → Option (Int32 × DY)) (S : SH) (a0 : Nat) (a1 : Int32) (x : DY) : Option (Int32 × DY) :=
  Option.bind (f_X5_readTerm N rc_X5_readOne S a0 a1 x) (fun r1 => Option.bind (f_X5_token N S a0 r1.2) (fun r2 => lp_X5_readSum_14 N rc_X5_readOne S a0 a1 r1.1 r2 0 r1.2))
set_option maxHeartbeats 1000000 in
theorem t_X5_readSum {N d dr : Nat} (rc_X5_readOne : Nat → Int32 → DY → Option (Int32 × DY)) {S : SH} (hW : WT S) {x : DY} {a0 : Nat} {a1 : Int32} (hd : dr + 3 ≤ d) (h0 : TY S a0 5) (hr_X5_readOne : ∀ {d : Nat} {x : DY} {b0 : Nat} {b1 : Int32}, dr ≤ d → TY S b0 5 → CT mX5_readOne d S [.ref b0, .int b1] x wSI (rc_X5_readOne b0 b1 x)) : CT mX5_readSum d S [.ref a0, .int a1] x wSI (f_X5_readSum N rc_X5_readOne S a0 a1 x) := by
  refine CT.of [some (.ref a0), some (.int a1), none, none, none] rfl (Nat.le_of_ble_eq_true rfl) (by decide +kernel) ?_
  unfold f_X5_readSum
  refine go1 (M := mX5_readSum) (pc' := 1) (r_aload_n (M := mX5_readSum) (i := 0) rfl dX5_readSum_0) ?_
  refine go1 (M := mX5_readSum) (pc' := 2) (r_iload_n (M := mX5_readSum) (i := 1) rfl dX5_readSum_1) ?_
  refine go_V_SI (M := mX5_readSum) (pc' := 5) (st := []) (As := [.int a1]) rfl ln_5_100 lb_X5_readTerm (t_X5_readTerm (N := N) (dr := dr) rc_X5_readOne hW (by omega) h0 hr_X5_readOne) (by omega) h0 (Nat.le_of_ble_eq_true rfl) rfl dX5_readSum_2 (fun r1 => ?_)
  refine go1 (M := mX5_readSum) (pc' := 6) (ls' := [some (.ref a0), some (.int a1), some (.int r1.1), none, none]) (r_istore_n (M := mX5_readSum) (ls := [some (.ref a0), some (.int a1), none, none, none]) (i := 2) (v := r1.1) (by decide) rfl dX5_readSum_5) ?_
  refine go1 (M := mX5_readSum) (pc' := 7) (r_aload_n (M := mX5_readSum) (i := 0) rfl dX5_readSum_6) ?_
  refine go_V_PI (M := mX5_readSum) (pc' := 10) (st := []) (As := []) rfl ln_5_76 lb_X5_token (t_X5_token (N := N) hW (by omega) h0) (by omega) h0 (Nat.le_of_ble_eq_true rfl) rfl dX5_readSum_7 (fun r2 => ?_)
  refine go1 (M := mX5_readSum) (pc' := 11) (ls' := [some (.ref a0), some (.int a1), some (.int r1.1), some (.int r2), none]) (r_istore_n (M := mX5_readSum) (ls := [some (.ref a0), some (.int a1), some (.int r1.1), none, none]) (i := 3) (v := r2) (by decide) rfl dX5_readSum_10) ?_
  refine go1 (M := mX5_readSum) (pc' := 12) (r_iconst (M := mX5_readSum) (v := 0) (by decide) dX5_readSum_11) ?_
  refine go1 (M := mX5_readSum) (pc' := 14) (ls' := [some (.ref a0), some (.int a1), some (.int r1.1), some (.int r2), some (.int 0)]) (r_istore (M := mX5_readSum) (ls := [some (.ref a0), some (.int a1), some (.int r1.1), some (.int r2), none]) (i := 4) (v := 0) (by decide) rfl dX5_readSum_12) ?_
  refine lp_X5_readSum_14_t (N := N) (dr := dr) rc_X5_readOne hW (by omega) a0 a1 r1.1 r2 0 r1.2 h0  hr_X5_readOne
def j_X5_readComparison_59 (N : Nat) (S : SH) (p2 : Int32) (q0 : Int32) (q1 : Nat) (x : DY) : Option (Int32 × DY) :=
  Option.bind (f_X5_write N S q1 q0 x) (fun r9 => bz p2 (some (p2, r9)))
set_option maxHeartbeats 1000000 in
theorem j_X5_readComparison_59_t {N d dr : Nat} {S : SH} (hW : WT S) (hd : dr + 4 ≤ d) (p2 : Int32) (q0 : Int32) (q1 : Nat) (x : DY) (gq1 : TY S q1 5) : Go mX5_readComparison d S wSI 59 [none, none, some (.int p2), none] [.int q0, .ref q1] x (j_X5_readComparison_59 N S p2 q0 q1 x) := by
  unfold j_X5_readComparison_59
  refine go_V_SV (M := mX5_readComparison) (pc' := 62) (st := []) (As := [.int q0]) rfl ln_5_87 lb_X5_write (t_X5_write (N := N) hW (by omega) gq1) (by omega) gq1 (Nat.le_of_ble_eq_true rfl) rfl dX5_readComparison_59 (fun r9 => ?_)
  refine go1 (M := mX5_readComparison) (pc' := 63) (r_iload_n (M := mX5_readComparison) (i := 2) rfl dX5_readComparison_62) ?_
  refine go_bz (fun hn10 => ?_)
  exact go_zret (M := mX5_readComparison) rfl hn10 rfl dX5_readComparison_63
def j_X5_readComparison_29 (N : Nat) (rc_X5_readOne : Nat → Int32 → DY → Option (Int32 × DY)) (S : SH) (p0 : Nat) (p1 : Int32) (p3 : Int32) (x : DY) : Option (Int32 × DY) :=
  bl (U1 x p0 6 ((x.1 p0 6) + 1)) (fun x6 => Option.bind (f_X5_readSum N rc_X5_readOne S p0 p1 x6) (fun r7 => (if p3 = 60 then j_X5_readComparison_59 N S r7.1 (-11) p0 r7.2 else j_X5_readComparison_59 N S r7.1 (-12) p0 r7.2)))
set_option maxHeartbeats 1000000 in
theorem j_X5_readComparison_29_t {N d dr : Nat} (rc_X5_readOne : Nat → Int32 → DY → Option (Int32 × DY)) {S : SH} (hW : WT S) (hd : dr + 4 ≤ d) (p0 : Nat) (p1 : Int32) (p3 : Int32) (x : DY) (g0 : TY S p0 5) (hr_X5_readOne : ∀ {d : Nat} {x : DY} {b0 : Nat} {b1 : Int32}, dr ≤ d → TY S b0 5 → CT mX5_readOne d S [.ref b0, .int b1] x wSI (rc_X5_readOne b0 b1 x)) : Go mX5_readComparison d S wSI 29 [some (.ref p0), some (.int p1), none, some (.int p3)] [] x (j_X5_readComparison_29 N rc_X5_readOne S p0 p1 p3 x) := by
  unfold j_X5_readComparison_29
  refine go1 (M := mX5_readComparison) (pc' := 30) (r_aload_n (M := mX5_readComparison) (i := 0) rfl dX5_readComparison_29) ?_
  refine go1 (M := mX5_readComparison) (pc' := 31) (r_dup (M := mX5_readComparison) rfl dX5_readComparison_30) ?_
  refine go1 (M := mX5_readComparison) (pc' := 34) (r_getI (M := mX5_readComparison) fl_5_31 g0 rfl dX5_readComparison_31) ?_
  refine go1 (M := mX5_readComparison) (pc' := 35) (r_iconst (M := mX5_readComparison) (v := 1) (by decide) dX5_readComparison_34) ?_
  refine go1 (M := mX5_readComparison) (pc' := 36) (r_iadd (M := mX5_readComparison) dX5_readComparison_35) ?_
  refine go1 (M := mX5_readComparison) (pc' := 39) (r_putI (M := mX5_readComparison) fl_5_31 g0 rfl rfl dX5_readComparison_36) ?_
  refine go_blx (fun x6 => ?_)
  refine go1 (M := mX5_readComparison) (pc' := 40) (r_aload_n (M := mX5_readComparison) (i := 0) rfl dX5_readComparison_39) ?_
  refine go1 (M := mX5_readComparison) (pc' := 41) (r_iload_n (M := mX5_readComparison) (i := 1) rfl dX5_readComparison_40) ?_
  refine go_V_SI (M := mX5_readComparison) (pc' := 44) (st := []) (As := [.int p1]) rfl ln_5_97 lb_X5_readSum (t_X5_readSum (N := N) (dr := dr) rc_X5_readOne hW (by omega) g0 hr_X5_readOne) (by omega) g0 (Nat.le_of_ble_eq_true rfl) rfl dX5_readComparison_41 (fun r7 => ?_)
  refine go1 (M := mX5_readComparison) (pc' := 45) (ls' := [some (.ref p0), some (.int p1), some (.int r7.1), some (.int p3)]) (r_istore_n (M := mX5_readComparison) (ls := [some (.ref p0), some (.int p1), none, some (.int p3)]) (i := 2) (v := r7.1) (by decide) rfl dX5_readComparison_44) ?_
  refine go1 (M := mX5_readComparison) (pc' := 46) (r_aload_n (M := mX5_readComparison) (i := 0) rfl dX5_readComparison_45) ?_
  refine go1 (M := mX5_readComparison) (pc' := 47) (r_iload_n (M := mX5_readComparison) (i := 3) rfl dX5_readComparison_46) ?_
  refine go1 (M := mX5_readComparison) (pc' := 49) (r_bipush (M := mX5_readComparison) (v := 60) (by decide) dX5_readComparison_47) ?_
  refine go_br (M := mX5_readComparison) (pt := 52) (pf := 57) (fun kt kf => r_icmp_ne (M := mX5_readComparison) dX5_readComparison_49 (by decide) kf kt) (fun hc8 => ?_) (fun hc8 => ?_)
  · refine go1 (M := mX5_readComparison) (pc' := 54) (r_bipush (M := mX5_readComparison) (v := (-11)) (by decide) dX5_readComparison_52) ?_
    refine go1 (M := mX5_readComparison) (pc' := 59) (r_goto (M := mX5_readComparison) dX5_readComparison_54 (by decide)) ?_
    refine go_drop (ls' := [none, none, some (.int r7.1), none]) (And.intro rfl trivial) ?_
    exact j_X5_readComparison_59_t (N := N) (dr := dr) hW (by omega) r7.1 (-11) p0 r7.2 g0
  · refine go1 (M := mX5_readComparison) (pc' := 59) (r_bipush (M := mX5_readComparison) (v := (-12)) (by decide) dX5_readComparison_57) ?_
    refine go_drop (ls' := [none, none, some (.int r7.1), none]) (And.intro rfl trivial) ?_
    exact j_X5_readComparison_59_t (N := N) (dr := dr) hW (by omega) r7.1 (-12) p0 r7.2 g0
def f_X5_readComparison (N : Nat) (rc_X5_readOne : Nat → Int32 → DY → Option (Int32 × DY)) (S : SH) (a0 : Nat) (a1 : Int32) (x : DY) : Option (Int32 × DY) :=
  Option.bind (f_X5_readSum N rc_X5_readOne S a0 a1 x) (fun r1 => Option.bind (f_X5_token N S a0 r1.2) (fun r2 => (if r1.1 = 0 then bz r1.1 (some (r1.1, r1.2)) else (if r2 = 60 then j_X5_readComparison_29 N rc_X5_readOne S a0 a1 r2 r1.2 else (if r2 = 61 then j_X5_readComparison_29 N rc_X5_readOne S a0 a1 r2 r1.2 else bz r1.1 (some (r1.1, r1.2)))))))
set_option maxHeartbeats 1000000 in
theorem t_X5_readComparison {N d dr : Nat} (rc_X5_readOne : Nat → Int32 → DY → Option (Int32 × DY)) {S : SH} (hW : WT S) {x : DY} {a0 : Nat} {a1 : Int32} (hd : dr + 4 ≤ d) (h0 : TY S a0 5) (hr_X5_readOne : ∀ {d : Nat} {x : DY} {b0 : Nat} {b1 : Int32}, dr ≤ d → TY S b0 5 → CT mX5_readOne d S [.ref b0, .int b1] x wSI (rc_X5_readOne b0 b1 x)) : CT mX5_readComparison d S [.ref a0, .int a1] x wSI (f_X5_readComparison N rc_X5_readOne S a0 a1 x) := by
  refine CT.of [some (.ref a0), some (.int a1), none, none] rfl (Nat.le_of_ble_eq_true rfl) (by decide +kernel) ?_
  unfold f_X5_readComparison
  refine go1 (M := mX5_readComparison) (pc' := 1) (r_aload_n (M := mX5_readComparison) (i := 0) rfl dX5_readComparison_0) ?_
  refine go1 (M := mX5_readComparison) (pc' := 2) (r_iload_n (M := mX5_readComparison) (i := 1) rfl dX5_readComparison_1) ?_
  refine go_V_SI (M := mX5_readComparison) (pc' := 5) (st := []) (As := [.int a1]) rfl ln_5_97 lb_X5_readSum (t_X5_readSum (N := N) (dr := dr) rc_X5_readOne hW (by omega) h0 hr_X5_readOne) (by omega) h0 (Nat.le_of_ble_eq_true rfl) rfl dX5_readComparison_2 (fun r1 => ?_)
  refine go1 (M := mX5_readComparison) (pc' := 6) (ls' := [some (.ref a0), some (.int a1), some (.int r1.1), none]) (r_istore_n (M := mX5_readComparison) (ls := [some (.ref a0), some (.int a1), none, none]) (i := 2) (v := r1.1) (by decide) rfl dX5_readComparison_5) ?_
  refine go1 (M := mX5_readComparison) (pc' := 7) (r_aload_n (M := mX5_readComparison) (i := 0) rfl dX5_readComparison_6) ?_
  refine go_V_PI (M := mX5_readComparison) (pc' := 10) (st := []) (As := []) rfl ln_5_76 lb_X5_token (t_X5_token (N := N) hW (by omega) h0) (by omega) h0 (Nat.le_of_ble_eq_true rfl) rfl dX5_readComparison_7 (fun r2 => ?_)
  refine go1 (M := mX5_readComparison) (pc' := 11) (ls' := [some (.ref a0), some (.int a1), some (.int r1.1), some (.int r2)]) (r_istore_n (M := mX5_readComparison) (ls := [some (.ref a0), some (.int a1), some (.int r1.1), none]) (i := 3) (v := r2) (by decide) rfl dX5_readComparison_10) ?_
  refine go1 (M := mX5_readComparison) (pc' := 12) (r_iload_n (M := mX5_readComparison) (i := 2) rfl dX5_readComparison_11) ?_
  refine go_br (M := mX5_readComparison) (pt := 27) (pf := 15) (fun kt kf => r_if_eq (M := mX5_readComparison) dX5_readComparison_12 (by decide) kt kf) (fun hc3 => ?_) (fun hc3 => ?_)
  · refine go1 (M := mX5_readComparison) (pc' := 28) (r_iload_n (M := mX5_readComparison) (i := 2) rfl dX5_readComparison_27) ?_
    refine go_bz (fun hn4 => ?_)
    exact go_zret (M := mX5_readComparison) rfl hn4 rfl dX5_readComparison_28
  · refine go1 (M := mX5_readComparison) (pc' := 16) (r_iload_n (M := mX5_readComparison) (i := 3) rfl dX5_readComparison_15) ?_
    refine go1 (M := mX5_readComparison) (pc' := 18) (r_bipush (M := mX5_readComparison) (v := 60) (by decide) dX5_readComparison_16) ?_
    refine go_br (M := mX5_readComparison) (pt := 29) (pf := 21) (fun kt kf => r_icmp_eq (M := mX5_readComparison) dX5_readComparison_18 (by decide) kt kf) (fun hc5 => ?_) (fun hc5 => ?_)
    · refine go_drop (ls' := [some (.ref a0), some (.int a1), none, some (.int r2)]) (And.intro rfl (And.intro rfl (And.intro rfl trivial))) ?_
      exact j_X5_readComparison_29_t (N := N) (dr := dr) rc_X5_readOne hW (by omega) a0 a1 r2 r1.2 h0  hr_X5_readOne
    · refine go1 (M := mX5_readComparison) (pc' := 22) (r_iload_n (M := mX5_readComparison) (i := 3) rfl dX5_readComparison_21) ?_
      refine go1 (M := mX5_readComparison) (pc' := 24) (r_bipush (M := mX5_readComparison) (v := 61) (by decide) dX5_readComparison_22) ?_
      refine go_br (M := mX5_readComparison) (pt := 29) (pf := 27) (fun kt kf => r_icmp_eq (M := mX5_readComparison) dX5_readComparison_24 (by decide) kt kf) (fun hc11 => ?_) (fun hc11 => ?_)
      · refine go_drop (ls' := [some (.ref a0), some (.int a1), none, some (.int r2)]) (And.intro rfl (And.intro rfl (And.intro rfl trivial))) ?_
        exact j_X5_readComparison_29_t (N := N) (dr := dr) rc_X5_readOne hW (by omega) a0 a1 r2 r1.2 h0  hr_X5_readOne
      · refine go1 (M := mX5_readComparison) (pc' := 28) (r_iload_n (M := mX5_readComparison) (i := 2) rfl dX5_readComparison_27) ?_
        refine go_bz (fun hn12 => ?_)
        exact go_zret (M := mX5_readComparison) rfl hn12 rfl dX5_readComparison_28
def f_X5_readNot (N : Nat) (rc_X5_readNot : Nat → Int32 → DY → Option (Int32 × DY)) (rc_X5_readOne : Nat → Int32 → DY → Option (Int32 × DY)) (S : SH) (a0 : Nat) (a1 : Int32) (x : DY) : Option (Int32 × DY) :=
  Option.bind (f_X5_token N S a0 x) (fun r1 => (if r1 = (-9) then (if a1 < 5 then bl (U1 x a0 6 ((x.1 a0 6) + 1)) (fun x4 => Option.bind (rc_X5_readNot a0 (a1 + 1) x4) (fun r5 => Option.bind (f_X5_write N S a0 (-7) r5.2) (fun r6 => bz r5.1 (some (r5.1, r6))))) else Option.bind (f_X5_fail N S a0 x) (fun r8 => bz r8.1 (some (r8.1, r8.2)))) else Option.bind (f_X5_readComparison N rc_X5_readOne S a0 a1 x) (fun r10 => bz r10.1 (some (r10.1, r10.2)))))
set_option maxHeartbeats 1000000 in
theorem t_X5_readNot {N d dr : Nat} (rc_X5_readNot : Nat → Int32 → DY → Option (Int32 × DY)) (rc_X5_readOne : Nat → Int32 → DY → Option (Int32 × DY)) {S : SH} (hW : WT S) {x : DY} {a0 : Nat} {a1 : Int32} (hd : dr + 5 ≤ d) (h0 : TY S a0 5) (hr_X5_readNot : ∀ {d : Nat} {x : DY} {b0 : Nat} {b1 : Int32}, dr ≤ d → TY S b0 5 → CT mX5_readNot d S [.ref b0, .int b1] x wSI (rc_X5_readNot b0 b1 x)) (hr_X5_readOne : ∀ {d : Nat} {x : DY} {b0 : Nat} {b1 : Int32}, dr ≤ d → TY S b0 5 → CT mX5_readOne d S [.ref b0, .int b1] x wSI (rc_X5_readOne b0 b1 x)) : CT mX5_readNot d S [.ref a0, .int a1] x wSI (f_X5_readNot N rc_X5_readNot rc_X5_readOne S a0 a1 x) := by
  refine CT.of [some (.ref a0), some (.int a1), none] rfl (Nat.le_of_ble_eq_true rfl) (by decide +kernel) ?_
  unfold f_X5_readNot
  refine go1 (M := mX5_readNot) (pc' := 1) (r_aload_n (M := mX5_readNot) (i := 0) rfl dX5_readNot_0) ?_
  refine go_V_PI (M := mX5_readNot) (pc' := 4) (st := []) (As := []) rfl ln_5_76 lb_X5_token (t_X5_token (N := N) hW (by omega) h0) (by omega) h0 (Nat.le_of_ble_eq_true rfl) rfl dX5_readNot_1 (fun r1 => ?_)
  refine go1 (M := mX5_readNot) (pc' := 6) (r_bipush (M := mX5_readNot) (v := (-9)) (by decide) dX5_readNot_4) ?_
  refine go_br (M := mX5_readNot) (pt := 15) (pf := 9) (fun kt kf => r_icmp_eq (M := mX5_readNot) dX5_readNot_6 (by decide) kt kf) (fun hc2 => ?_) (fun hc2 => ?_)
  · refine go1 (M := mX5_readNot) (pc' := 16) (r_iload_n (M := mX5_readNot) (i := 1) rfl dX5_readNot_15) ?_
    refine go1 (M := mX5_readNot) (pc' := 17) (r_iconst (M := mX5_readNot) (v := 5) (by decide) dX5_readNot_16) ?_
    refine go_br (M := mX5_readNot) (pt := 25) (pf := 20) (fun kt kf => r_icmp_lt (M := mX5_readNot) dX5_readNot_17 (by decide) kt kf) (fun hc3 => ?_) (fun hc3 => ?_)
    · refine go1 (M := mX5_readNot) (pc' := 26) (r_aload_n (M := mX5_readNot) (i := 0) rfl dX5_readNot_25) ?_
      refine go1 (M := mX5_readNot) (pc' := 27) (r_dup (M := mX5_readNot) rfl dX5_readNot_26) ?_
      refine go1 (M := mX5_readNot) (pc' := 30) (r_getI (M := mX5_readNot) fl_5_31 h0 rfl dX5_readNot_27) ?_
      refine go1 (M := mX5_readNot) (pc' := 31) (r_iconst (M := mX5_readNot) (v := 1) (by decide) dX5_readNot_30) ?_
      refine go1 (M := mX5_readNot) (pc' := 32) (r_iadd (M := mX5_readNot) dX5_readNot_31) ?_
      refine go1 (M := mX5_readNot) (pc' := 35) (r_putI (M := mX5_readNot) fl_5_31 h0 rfl rfl dX5_readNot_32) ?_
      refine go_blx (fun x4 => ?_)
      refine go1 (M := mX5_readNot) (pc' := 36) (r_aload_n (M := mX5_readNot) (i := 0) rfl dX5_readNot_35) ?_
      refine go1 (M := mX5_readNot) (pc' := 37) (r_iload_n (M := mX5_readNot) (i := 1) rfl dX5_readNot_36) ?_
      refine go1 (M := mX5_readNot) (pc' := 38) (r_iconst (M := mX5_readNot) (v := 1) (by decide) dX5_readNot_37) ?_
      refine go1 (M := mX5_readNot) (pc' := 39) (r_iadd (M := mX5_readNot) dX5_readNot_38) ?_
      refine go_V_SI (M := mX5_readNot) (pc' := 42) (st := []) (As := [.int (a1 + 1)]) rfl ln_5_91 lb_X5_readNot (hr_X5_readNot (by omega) h0) (by omega) h0 (Nat.le_of_ble_eq_true rfl) rfl dX5_readNot_39 (fun r5 => ?_)
      refine go1 (M := mX5_readNot) (pc' := 43) (ls' := [some (.ref a0), some (.int a1), some (.int r5.1)]) (r_istore_n (M := mX5_readNot) (ls := [some (.ref a0), some (.int a1), none]) (i := 2) (v := r5.1) (by decide) rfl dX5_readNot_42) ?_
      refine go1 (M := mX5_readNot) (pc' := 44) (r_aload_n (M := mX5_readNot) (i := 0) rfl dX5_readNot_43) ?_
      refine go1 (M := mX5_readNot) (pc' := 46) (r_bipush (M := mX5_readNot) (v := (-7)) (by decide) dX5_readNot_44) ?_
      refine go_V_SV (M := mX5_readNot) (pc' := 49) (st := []) (As := [.int (-7)]) rfl ln_5_87 lb_X5_write (t_X5_write (N := N) hW (by omega) h0) (by omega) h0 (Nat.le_of_ble_eq_true rfl) rfl dX5_readNot_46 (fun r6 => ?_)
      refine go1 (M := mX5_readNot) (pc' := 50) (r_iload_n (M := mX5_readNot) (i := 2) rfl dX5_readNot_49) ?_
      refine go_bz (fun hn7 => ?_)
      exact go_zret (M := mX5_readNot) rfl hn7 rfl dX5_readNot_50
    · refine go1 (M := mX5_readNot) (pc' := 21) (r_aload_n (M := mX5_readNot) (i := 0) rfl dX5_readNot_20) ?_
      refine go_V_SI (M := mX5_readNot) (pc' := 24) (st := []) (As := []) rfl ln_5_80 lb_X5_fail (t_X5_fail (N := N) hW (by omega) h0) (by omega) h0 (Nat.le_of_ble_eq_true rfl) rfl dX5_readNot_21 (fun r8 => ?_)
      refine go_bz (fun hn9 => ?_)
      exact go_zret (M := mX5_readNot) rfl hn9 rfl dX5_readNot_24
  · refine go1 (M := mX5_readNot) (pc' := 10) (r_aload_n (M := mX5_readNot) (i := 0) rfl dX5_readNot_9) ?_
    refine go1 (M := mX5_readNot) (pc' := 11) (r_iload_n (M := mX5_readNot) (i := 1) rfl dX5_readNot_10) ?_
    refine go_V_SI (M := mX5_readNot) (pc' := 14) (st := []) (As := [.int a1]) rfl ln_5_94 lb_X5_readComparison (t_X5_readComparison (N := N) (dr := dr) rc_X5_readOne hW (by omega) h0 hr_X5_readOne) (by omega) h0 (Nat.le_of_ble_eq_true rfl) rfl dX5_readNot_11 (fun r10 => ?_)
    refine go_bz (fun hn11 => ?_)
    exact go_zret (M := mX5_readNot) rfl hn11 rfl dX5_readNot_14
def lp_X5_readBoth_8_b (N : Nat) (rc_X5_readNot : Nat → Int32 → DY → Option (Int32 × DY)) (S : SH) (bk8 : Int32 → Int32 → DY → Option (Int32 × DY)) (p0 : Nat) (p1 : Int32) (p2 : Int32) (p3 : Int32) (x : DY) : Option (Int32 × DY) :=
  (if 160 ≤ p3 then bz p2 (some (p2, x)) else (if p2 = 0 then bz p2 (some (p2, x)) else Option.bind (f_X5_token N S p0 x) (fun r7 => (if r7 = (-8) then bl (U1 x p0 6 ((x.1 p0 6) + 1)) (fun x10 => Option.bind (rc_X5_readNot p0 p1 x10) (fun r11 => Option.bind (f_X5_write N S p0 (-10) r11.2) (fun r12 => bk8 r11.1 (p3 + 1) r12))) else bz p2 (some (p2, x))))))
set_option maxHeartbeats 1000000 in
theorem lp_X5_readBoth_8_b_t {N d dr : Nat} (rc_X5_readNot : Nat → Int32 → DY → Option (Int32 × DY)) {S : SH} (hW : WT S) (hd : dr + 2 ≤ d) (bk8 : Int32 → Int32 → DY → Option (Int32 × DY)) (p0 : Nat) (p1 : Int32) (p2 : Int32) (p3 : Int32) (x : DY) (g0 : TY S p0 5) (hbk8 : ∀ (v2 : Int32) (v3 : Int32) (y : DY), Go mX5_readBoth d S wSI 8 [some (.ref p0), some (.int p1), some (.int v2), some (.int v3)] [] y (bk8 v2 v3 y)) (hr_X5_readNot : ∀ {d : Nat} {x : DY} {b0 : Nat} {b1 : Int32}, dr ≤ d → TY S b0 5 → CT mX5_readNot d S [.ref b0, .int b1] x wSI (rc_X5_readNot b0 b1 x)) : Go mX5_readBoth d S wSI 8 [some (.ref p0), some (.int p1), some (.int p2), some (.int p3)] [] x (lp_X5_readBoth_8_b N rc_X5_readNot S bk8 p0 p1 p2 p3 x) := by
  unfold lp_X5_readBoth_8_b
  refine go1 (M := mX5_readBoth) (pc' := 9) (r_iload_n (M := mX5_readBoth) (i := 3) rfl dX5_readBoth_8) ?_
  refine go1 (M := mX5_readBoth) (pc' := 12) (r_sipush (M := mX5_readBoth) (v := 160) (by decide) dX5_readBoth_9) ?_
  refine go_br (M := mX5_readBoth) (pt := 56) (pf := 15) (fun kt kf => r_icmp_ge (M := mX5_readBoth) dX5_readBoth_12 (by decide) kt kf) (fun hc3 => ?_) (fun hc3 => ?_)
  · refine go1 (M := mX5_readBoth) (pc' := 57) (r_iload_n (M := mX5_readBoth) (i := 2) rfl dX5_readBoth_56) ?_
    refine go_bz (fun hn4 => ?_)
    exact go_zret (M := mX5_readBoth) rfl hn4 rfl dX5_readBoth_57
  · refine go1 (M := mX5_readBoth) (pc' := 16) (r_iload_n (M := mX5_readBoth) (i := 2) rfl dX5_readBoth_15) ?_
    refine go_br (M := mX5_readBoth) (pt := 56) (pf := 19) (fun kt kf => r_if_eq (M := mX5_readBoth) dX5_readBoth_16 (by decide) kt kf) (fun hc5 => ?_) (fun hc5 => ?_)
    · refine go1 (M := mX5_readBoth) (pc' := 57) (r_iload_n (M := mX5_readBoth) (i := 2) rfl dX5_readBoth_56) ?_
      refine go_bz (fun hn6 => ?_)
      exact go_zret (M := mX5_readBoth) rfl hn6 rfl dX5_readBoth_57
    · refine go1 (M := mX5_readBoth) (pc' := 20) (r_aload_n (M := mX5_readBoth) (i := 0) rfl dX5_readBoth_19) ?_
      refine go_V_PI (M := mX5_readBoth) (pc' := 23) (st := []) (As := []) rfl ln_5_76 lb_X5_token (t_X5_token (N := N) hW (by omega) g0) (by omega) g0 (Nat.le_of_ble_eq_true rfl) rfl dX5_readBoth_20 (fun r7 => ?_)
      refine go1 (M := mX5_readBoth) (pc' := 25) (r_bipush (M := mX5_readBoth) (v := (-8)) (by decide) dX5_readBoth_23) ?_
      refine go_br (M := mX5_readBoth) (pt := 28) (pf := 56) (fun kt kf => r_icmp_ne (M := mX5_readBoth) dX5_readBoth_25 (by decide) kf kt) (fun hc8 => ?_) (fun hc8 => ?_)
      · refine go1 (M := mX5_readBoth) (pc' := 29) (r_aload_n (M := mX5_readBoth) (i := 0) rfl dX5_readBoth_28) ?_
        refine go1 (M := mX5_readBoth) (pc' := 30) (r_dup (M := mX5_readBoth) rfl dX5_readBoth_29) ?_
        refine go1 (M := mX5_readBoth) (pc' := 33) (r_getI (M := mX5_readBoth) fl_5_31 g0 rfl dX5_readBoth_30) ?_
        refine go1 (M := mX5_readBoth) (pc' := 34) (r_iconst (M := mX5_readBoth) (v := 1) (by decide) dX5_readBoth_33) ?_
        refine go1 (M := mX5_readBoth) (pc' := 35) (r_iadd (M := mX5_readBoth) dX5_readBoth_34) ?_
        refine go1 (M := mX5_readBoth) (pc' := 38) (r_putI (M := mX5_readBoth) fl_5_31 g0 rfl rfl dX5_readBoth_35) ?_
        refine go_blx (fun x10 => ?_)
        refine go1 (M := mX5_readBoth) (pc' := 39) (r_aload_n (M := mX5_readBoth) (i := 0) rfl dX5_readBoth_38) ?_
        refine go1 (M := mX5_readBoth) (pc' := 40) (r_iload_n (M := mX5_readBoth) (i := 1) rfl dX5_readBoth_39) ?_
        refine go_V_SI (M := mX5_readBoth) (pc' := 43) (st := []) (As := [.int p1]) rfl ln_5_91 lb_X5_readNot (hr_X5_readNot (by omega) g0) (by omega) g0 (Nat.le_of_ble_eq_true rfl) rfl dX5_readBoth_40 (fun r11 => ?_)
        refine go1 (M := mX5_readBoth) (pc' := 44) (ls' := [some (.ref p0), some (.int p1), some (.int r11.1), some (.int p3)]) (r_istore_n (M := mX5_readBoth) (ls := [some (.ref p0), some (.int p1), some (.int p2), some (.int p3)]) (i := 2) (v := r11.1) (by decide) rfl dX5_readBoth_43) ?_
        refine go1 (M := mX5_readBoth) (pc' := 45) (r_aload_n (M := mX5_readBoth) (i := 0) rfl dX5_readBoth_44) ?_
        refine go1 (M := mX5_readBoth) (pc' := 47) (r_bipush (M := mX5_readBoth) (v := (-10)) (by decide) dX5_readBoth_45) ?_
        refine go_V_SV (M := mX5_readBoth) (pc' := 50) (st := []) (As := [.int (-10)]) rfl ln_5_87 lb_X5_write (t_X5_write (N := N) hW (by omega) g0) (by omega) g0 (Nat.le_of_ble_eq_true rfl) rfl dX5_readBoth_47 (fun r12 => ?_)
        refine go1 (M := mX5_readBoth) (pc' := 53) (ls' := [some (.ref p0), some (.int p1), some (.int r11.1), some (.int (p3 + 1))]) (r_iinc (M := mX5_readBoth) (ls := [some (.ref p0), some (.int p1), some (.int r11.1), some (.int p3)]) (i := 3) (v := p3) (c' := 1) (by decide) rfl (by decide) rfl dX5_readBoth_50) ?_
        refine go1 (M := mX5_readBoth) (pc' := 8) (r_goto (M := mX5_readBoth) dX5_readBoth_53 (by decide)) ?_
        exact hbk8 r11.1 (p3 + 1) r12
      · refine go1 (M := mX5_readBoth) (pc' := 57) (r_iload_n (M := mX5_readBoth) (i := 2) rfl dX5_readBoth_56) ?_
        refine go_bz (fun hn9 => ?_)
        exact go_zret (M := mX5_readBoth) rfl hn9 rfl dX5_readBoth_57
def lp_X5_readBoth_8 (N : Nat) (rc_X5_readNot : Nat → Int32 → DY → Option (Int32 × DY)) (S : SH) (p0 : Nat) (p1 : Int32) (p2 : Int32) (p3 : Int32) (x : DY) : Option (Int32 × DY) :=
  itr (fun back (v : Int32 × Int32 × DY) => lp_X5_readBoth_8_b N rc_X5_readNot S (fun p2 p3 y => back (p2, p3, y)) p0 p1 v.1 v.2.1 v.2.2) N (p2, p3, x)
theorem lp_X5_readBoth_8_t {N d dr : Nat} (rc_X5_readNot : Nat → Int32 → DY → Option (Int32 × DY)) {S : SH} (hW : WT S) (hd : dr + 2 ≤ d) (p0 : Nat) (p1 : Int32) (p2 : Int32) (p3 : Int32) (x : DY) (g0 : TY S p0 5) (hr_X5_readNot : ∀ {d : Nat} {x : DY} {b0 : Nat} {b1 : Int32}, dr ≤ d → TY S b0 5 → CT mX5_readNot d S [.ref b0, .int b1] x wSI (rc_X5_readNot b0 b1 x)) : Go mX5_readBoth d S wSI 8 [some (.ref p0), some (.int p1), some (.int p2), some (.int p3)] [] x (lp_X5_readBoth_8 N rc_X5_readNot S p0 p1 p2 p3 x) := by
  unfold lp_X5_readBoth_8
  exact go_itr (L := fun (v : Int32 × Int32 × DY) => [some (.ref p0), some (.int p1), some (.int v.1), some (.int v.2.1)]) (X := fun (v : Int32 × Int32 × DY) => v.2.2) (fun back hB v => lp_X5_readBoth_8_b_t (N := N) (dr := dr) rc_X5_readNot hW hd (fun p2 p3 y => back (p2, p3, y)) p0 p1 v.1 v.2.1 v.2.2 g0 (fun p2 p3 y => hB (p2, p3, y)) hr_X5_readNot) N (p2, p3, x)
def f_X5_readBoth (N : Nat) (rc_X5_readNot : Nat → Int32 → DY → Option (Int32 × DY)) (S : SH) (a0 : Nat) (a1 : Int32) (x : DY) : Option (Int32 × DY) :=
  Option.bind (rc_X5_readNot a0 a1 x) (fun r1 => lp_X5_readBoth_8 N rc_X5_readNot S a0 a1 r1.1 0 r1.2)
set_option maxHeartbeats 1000000 in
theorem t_X5_readBoth {N d dr : Nat} (rc_X5_readNot : Nat → Int32 → DY → Option (Int32 × DY)) {S : SH} (hW : WT S) {x : DY} {a0 : Nat} {a1 : Int32} (hd : dr + 2 ≤ d) (h0 : TY S a0 5) (hr_X5_readNot : ∀ {d : Nat} {x : DY} {b0 : Nat} {b1 : Int32}, dr ≤ d → TY S b0 5 → CT mX5_readNot d S [.ref b0, .int b1] x wSI (rc_X5_readNot b0 b1 x)) : CT mX5_readBoth d S [.ref a0, .int a1] x wSI (f_X5_readBoth N rc_X5_readNot S a0 a1 x) := by
  refine CT.of [some (.ref a0), some (.int a1), none, none] rfl (Nat.le_of_ble_eq_true rfl) (by decide +kernel) ?_
  unfold f_X5_readBoth
  refine go1 (M := mX5_readBoth) (pc' := 1) (r_aload_n (M := mX5_readBoth) (i := 0) rfl dX5_readBoth_0) ?_
  refine go1 (M := mX5_readBoth) (pc' := 2) (r_iload_n (M := mX5_readBoth) (i := 1) rfl dX5_readBoth_1) ?_
  refine go_V_SI (M := mX5_readBoth) (pc' := 5) (st := []) (As := [.int a1]) rfl ln_5_91 lb_X5_readNot (hr_X5_readNot (by omega) h0) (by omega) h0 (Nat.le_of_ble_eq_true rfl) rfl dX5_readBoth_2 (fun r1 => ?_)
  refine go1 (M := mX5_readBoth) (pc' := 6) (ls' := [some (.ref a0), some (.int a1), some (.int r1.1), none]) (r_istore_n (M := mX5_readBoth) (ls := [some (.ref a0), some (.int a1), none, none]) (i := 2) (v := r1.1) (by decide) rfl dX5_readBoth_5) ?_
  refine go1 (M := mX5_readBoth) (pc' := 7) (r_iconst (M := mX5_readBoth) (v := 0) (by decide) dX5_readBoth_6) ?_
  refine go1 (M := mX5_readBoth) (pc' := 8) (ls' := [some (.ref a0), some (.int a1), some (.int r1.1), some (.int 0)]) (r_istore_n (M := mX5_readBoth) (ls := [some (.ref a0), some (.int a1), some (.int r1.1), none]) (i := 3) (v := 0) (by decide) rfl dX5_readBoth_7) ?_
  refine lp_X5_readBoth_8_t (N := N) (dr := dr) rc_X5_readNot hW (by omega) a0 a1 r1.1 0 r1.2 h0  hr_X5_readNot
def lp_X5_readEither_8_b (N : Nat) (rc_X5_readNot : Nat → Int32 → DY → Option (Int32 × DY)) (S : SH) (bk8 : Int32 → Int32 → DY → Option (Int32 × DY)) (p0 : Nat) (p1 : Int32) (p2 : Int32) (p3 : Int32) (x : DY) : Option (Int32 × DY) :=
  (if 160 ≤ p3 then bz p2 (some (p2, x)) else (if p2 = 0 then bz p2 (some (p2, x)) else Option.bind (f_X5_token N S p0 x) (fun r7 => (if r7 = (-7) then bl (U1 x p0 6 ((x.1 p0 6) + 1)) (fun x10 => Option.bind (f_X5_readBoth N rc_X5_readNot S p0 p1 x10) (fun r11 => Option.bind (f_X5_write N S p0 (-9) r11.2) (fun r12 => bk8 r11.1 (p3 + 1) r12))) else bz p2 (some (p2, x))))))
set_option maxHeartbeats 1000000 in
theorem lp_X5_readEither_8_b_t {N d dr : Nat} (rc_X5_readNot : Nat → Int32 → DY → Option (Int32 × DY)) {S : SH} (hW : WT S) (hd : dr + 3 ≤ d) (bk8 : Int32 → Int32 → DY → Option (Int32 × DY)) (p0 : Nat) (p1 : Int32) (p2 : Int32) (p3 : Int32) (x : DY) (g0 : TY S p0 5) (hbk8 : ∀ (v2 : Int32) (v3 : Int32) (y : DY), Go mX5_readEither d S wSI 8 [some (.ref p0), some (.int p1), some (.int v2), some (.int v3)] [] y (bk8 v2 v3 y)) (hr_X5_readNot : ∀ {d : Nat} {x : DY} {b0 : Nat} {b1 : Int32}, dr ≤ d → TY S b0 5 → CT mX5_readNot d S [.ref b0, .int b1] x wSI (rc_X5_readNot b0 b1 x)) : Go mX5_readEither d S wSI 8 [some (.ref p0), some (.int p1), some (.int p2), some (.int p3)] [] x (lp_X5_readEither_8_b N rc_X5_readNot S bk8 p0 p1 p2 p3 x) := by
  unfold lp_X5_readEither_8_b
  refine go1 (M := mX5_readEither) (pc' := 9) (r_iload_n (M := mX5_readEither) (i := 3) rfl dX5_readEither_8) ?_
  refine go1 (M := mX5_readEither) (pc' := 12) (r_sipush (M := mX5_readEither) (v := 160) (by decide) dX5_readEither_9) ?_
  refine go_br (M := mX5_readEither) (pt := 56) (pf := 15) (fun kt kf => r_icmp_ge (M := mX5_readEither) dX5_readEither_12 (by decide) kt kf) (fun hc3 => ?_) (fun hc3 => ?_)
  · refine go1 (M := mX5_readEither) (pc' := 57) (r_iload_n (M := mX5_readEither) (i := 2) rfl dX5_readEither_56) ?_
    refine go_bz (fun hn4 => ?_)
    exact go_zret (M := mX5_readEither) rfl hn4 rfl dX5_readEither_57
  · refine go1 (M := mX5_readEither) (pc' := 16) (r_iload_n (M := mX5_readEither) (i := 2) rfl dX5_readEither_15) ?_
    refine go_br (M := mX5_readEither) (pt := 56) (pf := 19) (fun kt kf => r_if_eq (M := mX5_readEither) dX5_readEither_16 (by decide) kt kf) (fun hc5 => ?_) (fun hc5 => ?_)
    · refine go1 (M := mX5_readEither) (pc' := 57) (r_iload_n (M := mX5_readEither) (i := 2) rfl dX5_readEither_56) ?_
      refine go_bz (fun hn6 => ?_)
      exact go_zret (M := mX5_readEither) rfl hn6 rfl dX5_readEither_57
    · refine go1 (M := mX5_readEither) (pc' := 20) (r_aload_n (M := mX5_readEither) (i := 0) rfl dX5_readEither_19) ?_
      refine go_V_PI (M := mX5_readEither) (pc' := 23) (st := []) (As := []) rfl ln_5_76 lb_X5_token (t_X5_token (N := N) hW (by omega) g0) (by omega) g0 (Nat.le_of_ble_eq_true rfl) rfl dX5_readEither_20 (fun r7 => ?_)
      refine go1 (M := mX5_readEither) (pc' := 25) (r_bipush (M := mX5_readEither) (v := (-7)) (by decide) dX5_readEither_23) ?_
      refine go_br (M := mX5_readEither) (pt := 28) (pf := 56) (fun kt kf => r_icmp_ne (M := mX5_readEither) dX5_readEither_25 (by decide) kf kt) (fun hc8 => ?_) (fun hc8 => ?_)
      · refine go1 (M := mX5_readEither) (pc' := 29) (r_aload_n (M := mX5_readEither) (i := 0) rfl dX5_readEither_28) ?_
        refine go1 (M := mX5_readEither) (pc' := 30) (r_dup (M := mX5_readEither) rfl dX5_readEither_29) ?_
        refine go1 (M := mX5_readEither) (pc' := 33) (r_getI (M := mX5_readEither) fl_5_31 g0 rfl dX5_readEither_30) ?_
        refine go1 (M := mX5_readEither) (pc' := 34) (r_iconst (M := mX5_readEither) (v := 1) (by decide) dX5_readEither_33) ?_
        refine go1 (M := mX5_readEither) (pc' := 35) (r_iadd (M := mX5_readEither) dX5_readEither_34) ?_
        refine go1 (M := mX5_readEither) (pc' := 38) (r_putI (M := mX5_readEither) fl_5_31 g0 rfl rfl dX5_readEither_35) ?_
        refine go_blx (fun x10 => ?_)
        refine go1 (M := mX5_readEither) (pc' := 39) (r_aload_n (M := mX5_readEither) (i := 0) rfl dX5_readEither_38) ?_
        refine go1 (M := mX5_readEither) (pc' := 40) (r_iload_n (M := mX5_readEither) (i := 1) rfl dX5_readEither_39) ?_
        refine go_V_SI (M := mX5_readEither) (pc' := 43) (st := []) (As := [.int p1]) rfl ln_5_84 lb_X5_readBoth (t_X5_readBoth (N := N) (dr := dr) rc_X5_readNot hW (by omega) g0 hr_X5_readNot) (by omega) g0 (Nat.le_of_ble_eq_true rfl) rfl dX5_readEither_40 (fun r11 => ?_)
        refine go1 (M := mX5_readEither) (pc' := 44) (ls' := [some (.ref p0), some (.int p1), some (.int r11.1), some (.int p3)]) (r_istore_n (M := mX5_readEither) (ls := [some (.ref p0), some (.int p1), some (.int p2), some (.int p3)]) (i := 2) (v := r11.1) (by decide) rfl dX5_readEither_43) ?_
        refine go1 (M := mX5_readEither) (pc' := 45) (r_aload_n (M := mX5_readEither) (i := 0) rfl dX5_readEither_44) ?_
        refine go1 (M := mX5_readEither) (pc' := 47) (r_bipush (M := mX5_readEither) (v := (-9)) (by decide) dX5_readEither_45) ?_
        refine go_V_SV (M := mX5_readEither) (pc' := 50) (st := []) (As := [.int (-9)]) rfl ln_5_87 lb_X5_write (t_X5_write (N := N) hW (by omega) g0) (by omega) g0 (Nat.le_of_ble_eq_true rfl) rfl dX5_readEither_47 (fun r12 => ?_)
        refine go1 (M := mX5_readEither) (pc' := 53) (ls' := [some (.ref p0), some (.int p1), some (.int r11.1), some (.int (p3 + 1))]) (r_iinc (M := mX5_readEither) (ls := [some (.ref p0), some (.int p1), some (.int r11.1), some (.int p3)]) (i := 3) (v := p3) (c' := 1) (by decide) rfl (by decide) rfl dX5_readEither_50) ?_
        refine go1 (M := mX5_readEither) (pc' := 8) (r_goto (M := mX5_readEither) dX5_readEither_53 (by decide)) ?_
        exact hbk8 r11.1 (p3 + 1) r12
      · refine go1 (M := mX5_readEither) (pc' := 57) (r_iload_n (M := mX5_readEither) (i := 2) rfl dX5_readEither_56) ?_
        refine go_bz (fun hn9 => ?_)
        exact go_zret (M := mX5_readEither) rfl hn9 rfl dX5_readEither_57
def lp_X5_readEither_8 (N : Nat) (rc_X5_readNot : Nat → Int32 → DY → Option (Int32 × DY)) (S : SH) (p0 : Nat) (p1 : Int32) (p2 : Int32) (p3 : Int32) (x : DY) : Option (Int32 × DY) :=
  itr (fun back (v : Int32 × Int32 × DY) => lp_X5_readEither_8_b N rc_X5_readNot S (fun p2 p3 y => back (p2, p3, y)) p0 p1 v.1 v.2.1 v.2.2) N (p2, p3, x)
theorem lp_X5_readEither_8_t {N d dr : Nat} (rc_X5_readNot : Nat → Int32 → DY → Option (Int32 × DY)) {S : SH} (hW : WT S) (hd : dr + 3 ≤ d) (p0 : Nat) (p1 : Int32) (p2 : Int32) (p3 : Int32) (x : DY) (g0 : TY S p0 5) (hr_X5_readNot : ∀ {d : Nat} {x : DY} {b0 : Nat} {b1 : Int32}, dr ≤ d → TY S b0 5 → CT mX5_readNot d S [.ref b0, .int b1] x wSI (rc_X5_readNot b0 b1 x)) : Go mX5_readEither d S wSI 8 [some (.ref p0), some (.int p1), some (.int p2), some (.int p3)] [] x (lp_X5_readEither_8 N rc_X5_readNot S p0 p1 p2 p3 x) := by
  unfold lp_X5_readEither_8
  exact go_itr (L := fun (v : Int32 × Int32 × DY) => [some (.ref p0), some (.int p1), some (.int v.1), some (.int v.2.1)]) (X := fun (v : Int32 × Int32 × DY) => v.2.2) (fun back hB v => lp_X5_readEither_8_b_t (N := N) (dr := dr) rc_X5_readNot hW hd (fun p2 p3 y => back (p2, p3, y)) p0 p1 v.1 v.2.1 v.2.2 g0 (fun p2 p3 y => hB (p2, p3, y)) hr_X5_readNot) N (p2, p3, x)
def f_X5_readEither (N : Nat) (rc_X5_readNot : Nat → Int32 → DY → Option (Int32 × DY)) (S : SH) (a0 : Nat) (a1 : Int32) (x : DY) : Option (Int32 × DY) :=
  Option.bind (f_X5_readBoth N rc_X5_readNot S a0 a1 x) (fun r1 => lp_X5_readEither_8 N rc_X5_readNot S a0 a1 r1.1 0 r1.2)
set_option maxHeartbeats 1000000 in
theorem t_X5_readEither {N d dr : Nat} (rc_X5_readNot : Nat → Int32 → DY → Option (Int32 × DY)) {S : SH} (hW : WT S) {x : DY} {a0 : Nat} {a1 : Int32} (hd : dr + 3 ≤ d) (h0 : TY S a0 5) (hr_X5_readNot : ∀ {d : Nat} {x : DY} {b0 : Nat} {b1 : Int32}, dr ≤ d → TY S b0 5 → CT mX5_readNot d S [.ref b0, .int b1] x wSI (rc_X5_readNot b0 b1 x)) : CT mX5_readEither d S [.ref a0, .int a1] x wSI (f_X5_readEither N rc_X5_readNot S a0 a1 x) := by
  refine CT.of [some (.ref a0), some (.int a1), none, none] rfl (Nat.le_of_ble_eq_true rfl) (by decide +kernel) ?_
  unfold f_X5_readEither
  refine go1 (M := mX5_readEither) (pc' := 1) (r_aload_n (M := mX5_readEither) (i := 0) rfl dX5_readEither_0) ?_
  refine go1 (M := mX5_readEither) (pc' := 2) (r_iload_n (M := mX5_readEither) (i := 1) rfl dX5_readEither_1) ?_
  refine go_V_SI (M := mX5_readEither) (pc' := 5) (st := []) (As := [.int a1]) rfl ln_5_84 lb_X5_readBoth (t_X5_readBoth (N := N) (dr := dr) rc_X5_readNot hW (by omega) h0 hr_X5_readNot) (by omega) h0 (Nat.le_of_ble_eq_true rfl) rfl dX5_readEither_2 (fun r1 => ?_)
  refine go1 (M := mX5_readEither) (pc' := 6) (ls' := [some (.ref a0), some (.int a1), some (.int r1.1), none]) (r_istore_n (M := mX5_readEither) (ls := [some (.ref a0), some (.int a1), none, none]) (i := 2) (v := r1.1) (by decide) rfl dX5_readEither_5) ?_
  refine go1 (M := mX5_readEither) (pc' := 7) (r_iconst (M := mX5_readEither) (v := 0) (by decide) dX5_readEither_6) ?_
  refine go1 (M := mX5_readEither) (pc' := 8) (ls' := [some (.ref a0), some (.int a1), some (.int r1.1), some (.int 0)]) (r_istore_n (M := mX5_readEither) (ls := [some (.ref a0), some (.int a1), some (.int r1.1), none]) (i := 3) (v := 0) (by decide) rfl dX5_readEither_7) ?_
  refine lp_X5_readEither_8_t (N := N) (dr := dr) rc_X5_readNot hW (by omega) a0 a1 r1.1 0 r1.2 h0  hr_X5_readNot
def fK_X5_reader (N : Nat) (S : SH) : Nat → (Nat → Int32 → DY → Option (Int32 × DY)) × (Nat → Int32 → DY → Option (Int32 × DY)) × (Nat → Int32 → DY → Option (Int32 × DY))
  | 0 => (fun _ _ _ => none, fun _ _ _ => none, fun _ _ _ => none)
  | n + 1 => (f_X5_readEither N ((fK_X5_reader N S n).2.1) S, f_X5_readNot N ((fK_X5_reader N S n).2.1) ((fK_X5_reader N S n).2.2) S, f_X5_readOne N ((fK_X5_reader N S n).1) ((fK_X5_reader N S n).2.2) S)
def fR_X5_readEither (N : Nat) (S : SH) (n : Nat) : Nat → Int32 → DY → Option (Int32 × DY) := (fK_X5_reader N S n).1
def fR_X5_readNot (N : Nat) (S : SH) (n : Nat) : Nat → Int32 → DY → Option (Int32 × DY) := (fK_X5_reader N S n).2.1
def fR_X5_readOne (N : Nat) (S : SH) (n : Nat) : Nat → Int32 → DY → Option (Int32 × DY) := (fK_X5_reader N S n).2.2
theorem tK_X5_reader {N : Nat} {S : SH} (hW : WT S) : ∀ n : Nat, (∀ {d : Nat} {x : DY} {b0 : Nat} {b1 : Int32}, n * 5 ≤ d → TY S b0 5 → CT mX5_readEither d S [.ref b0, .int b1] x wSI (fR_X5_readEither N S n b0 b1 x)) ∧ (∀ {d : Nat} {x : DY} {b0 : Nat} {b1 : Int32}, n * 5 ≤ d → TY S b0 5 → CT mX5_readNot d S [.ref b0, .int b1] x wSI (fR_X5_readNot N S n b0 b1 x)) ∧ (∀ {d : Nat} {x : DY} {b0 : Nat} {b1 : Int32}, n * 5 ≤ d → TY S b0 5 → CT mX5_readOne d S [.ref b0, .int b1] x wSI (fR_X5_readOne N S n b0 b1 x)) := by
  intro n
  induction n with
  | zero =>
    refine ⟨?_, ?_, ?_⟩
    · intro d x b0 b1 hd h0
      exact fun _ ha => by cases ha
    · intro d x b0 b1 hd h0
      exact fun _ ha => by cases ha
    · intro d x b0 b1 hd h0
      exact fun _ ha => by cases ha
  | succ n ih =>
    have hn : (n + 1) * 5 = n * 5 + 5 := Nat.succ_mul n 5
    obtain ⟨i0, i1, i2⟩ := ih
    refine ⟨?_, ?_, ?_⟩
    · intro d x b0 b1 hd h0
      exact t_X5_readEither (N := N) (dr := n * 5) ((fK_X5_reader N S n).2.1) hW (by omega) h0 i1
    · intro d x b0 b1 hd h0
      exact t_X5_readNot (N := N) (dr := n * 5) ((fK_X5_reader N S n).2.1) ((fK_X5_reader N S n).2.2) hW (by omega) h0 i1 i2
    · intro d x b0 b1 hd h0
      exact t_X5_readOne (N := N) (dr := n * 5) ((fK_X5_reader N S n).1) ((fK_X5_reader N S n).2.2) hW (by omega) h0 i0 i2

theorem tR_X5_readEither {N : Nat} {S : SH} (hW : WT S) (n : Nat) : ∀ {d : Nat} {x : DY} {b0 : Nat} {b1 : Int32}, n * 5 ≤ d → TY S b0 5 → CT mX5_readEither d S [.ref b0, .int b1] x wSI (fR_X5_readEither N S n b0 b1 x) := (tK_X5_reader (N := N) hW n).1
theorem tR_X5_readNot {N : Nat} {S : SH} (hW : WT S) (n : Nat) : ∀ {d : Nat} {x : DY} {b0 : Nat} {b1 : Int32}, n * 5 ≤ d → TY S b0 5 → CT mX5_readNot d S [.ref b0, .int b1] x wSI (fR_X5_readNot N S n b0 b1 x) := (tK_X5_reader (N := N) hW n).2.1
theorem tR_X5_readOne {N : Nat} {S : SH} (hW : WT S) (n : Nat) : ∀ {d : Nat} {x : DY} {b0 : Nat} {b1 : Int32}, n * 5 ≤ d → TY S b0 5 → CT mX5_readOne d S [.ref b0, .int b1] x wSI (fR_X5_readOne N S n b0 b1 x) := (tK_X5_reader (N := N) hW n).2.2
def f_X5_readAll (N : Nat) (S : SH) (a0 : Nat) (x : DY) : Option (Int32 × DY) :=
  Option.bind (f_X5_cutTokens N S a0 x) (fun r1 => bl (U1 r1 a0 6 0) (fun x2 => bl (U1 x2 a0 8 0) (fun x3 => Option.bind (f_X5_pass N S a0 (-5) x3) (fun r4 => (if r4.1 = 0 then some (0, r4.2) else Option.bind (fR_X5_readEither N S 20 a0 0 r4.2) (fun r6 => (if r6.1 = 0 then some (0, r6.2) else bl (U1 r6.2 a0 9 (r6.2.1 a0 8)) (fun x8 => Option.bind (f_X5_pass N S a0 59 x8) (fun r9 => (if r9.1 = 0 then some (0, r9.2) else Option.bind (f_X5_pass N S a0 (-6) r9.2) (fun r11 => (if r11.1 = 0 then some (0, r11.2) else Option.bind (fR_X5_readEither N S 20 a0 0 r11.2) (fun r13 => (if r13.1 = 0 then some (0, r13.2) else Option.bind (f_X5_pass N S a0 59 r13.2) (fun r15 => (if r15.1 = 0 then some (0, r15.2) else Option.bind (f_X5_pass N S a0 (-1) r15.2) (fun r17 => (if r17.1 = 0 then some (0, r17.2) else some (1, r17.2)))))))))))))))))))
set_option maxHeartbeats 1000000 in
theorem t_X5_readAll {N d : Nat} {S : SH} (hW : WT S) {x : DY} {a0 : Nat} (hd : 101 ≤ d) (h0 : TY S a0 5) : CT mX5_readAll d S [.ref a0] x wSI (f_X5_readAll N S a0 x) := by
  refine CT.of [some (.ref a0)] rfl (Nat.le_of_ble_eq_true rfl) (by decide +kernel) ?_
  unfold f_X5_readAll
  refine go1 (M := mX5_readAll) (pc' := 1) (r_aload_n (M := mX5_readAll) (i := 0) rfl dX5_readAll_0) ?_
  refine go_V_SV (M := mX5_readAll) (pc' := 4) (st := []) (As := []) rfl ln_5_46 lb_X5_cutTokens (t_X5_cutTokens (N := N) hW (by omega) h0) (by omega) h0 (Nat.le_of_ble_eq_true rfl) rfl dX5_readAll_1 (fun r1 => ?_)
  refine go1 (M := mX5_readAll) (pc' := 5) (r_aload_n (M := mX5_readAll) (i := 0) rfl dX5_readAll_4) ?_
  refine go1 (M := mX5_readAll) (pc' := 6) (r_iconst (M := mX5_readAll) (v := 0) (by decide) dX5_readAll_5) ?_
  refine go1 (M := mX5_readAll) (pc' := 9) (r_putI (M := mX5_readAll) fl_5_31 h0 rfl rfl dX5_readAll_6) ?_
  refine go_blx (fun x2 => ?_)
  refine go1 (M := mX5_readAll) (pc' := 10) (r_aload_n (M := mX5_readAll) (i := 0) rfl dX5_readAll_9) ?_
  refine go1 (M := mX5_readAll) (pc' := 11) (r_iconst (M := mX5_readAll) (v := 0) (by decide) dX5_readAll_10) ?_
  refine go1 (M := mX5_readAll) (pc' := 14) (r_putI (M := mX5_readAll) fl_5_37 h0 rfl rfl dX5_readAll_11) ?_
  refine go_blx (fun x3 => ?_)
  refine go1 (M := mX5_readAll) (pc' := 15) (r_aload_n (M := mX5_readAll) (i := 0) rfl dX5_readAll_14) ?_
  refine go1 (M := mX5_readAll) (pc' := 17) (r_bipush (M := mX5_readAll) (v := (-5)) (by decide) dX5_readAll_15) ?_
  refine go_V_SI (M := mX5_readAll) (pc' := 20) (st := []) (As := [.int (-5)]) rfl ln_5_49 lb_X5_pass (t_X5_pass (N := N) hW (by omega) h0) (by omega) h0 (Nat.le_of_ble_eq_true rfl) rfl dX5_readAll_17 (fun r4 => ?_)
  refine go_br (M := mX5_readAll) (pt := 31) (pf := 23) (fun kt kf => r_if_eq (M := mX5_readAll) dX5_readAll_20 (by decide) kt kf) (fun hc5 => ?_) (fun hc5 => ?_)
  · refine go1 (M := mX5_readAll) (pc' := 32) (r_iconst (M := mX5_readAll) (v := 0) (by decide) dX5_readAll_31) ?_
    exact go_zret (M := mX5_readAll) rfl rfl rfl dX5_readAll_32
  · refine go1 (M := mX5_readAll) (pc' := 24) (r_aload_n (M := mX5_readAll) (i := 0) rfl dX5_readAll_23) ?_
    refine go1 (M := mX5_readAll) (pc' := 25) (r_iconst (M := mX5_readAll) (v := 0) (by decide) dX5_readAll_24) ?_
    refine go_V_SI (M := mX5_readAll) (pc' := 28) (st := []) (As := [.int 0]) rfl ln_5_53 lb_X5_readEither (tR_X5_readEither (N := N) hW 20 (by omega) h0) (by omega) h0 (Nat.le_of_ble_eq_true rfl) rfl dX5_readAll_25 (fun r6 => ?_)
    refine go_br (M := mX5_readAll) (pt := 31) (pf := 33) (fun kt kf => r_if_ne (M := mX5_readAll) dX5_readAll_28 (by decide) kf kt) (fun hc7 => ?_) (fun hc7 => ?_)
    · refine go1 (M := mX5_readAll) (pc' := 32) (r_iconst (M := mX5_readAll) (v := 0) (by decide) dX5_readAll_31) ?_
      exact go_zret (M := mX5_readAll) rfl rfl rfl dX5_readAll_32
    · refine go1 (M := mX5_readAll) (pc' := 34) (r_aload_n (M := mX5_readAll) (i := 0) rfl dX5_readAll_33) ?_
      refine go1 (M := mX5_readAll) (pc' := 35) (r_aload_n (M := mX5_readAll) (i := 0) rfl dX5_readAll_34) ?_
      refine go1 (M := mX5_readAll) (pc' := 38) (r_getI (M := mX5_readAll) fl_5_37 h0 rfl dX5_readAll_35) ?_
      refine go1 (M := mX5_readAll) (pc' := 41) (r_putI (M := mX5_readAll) fl_5_40 h0 rfl rfl dX5_readAll_38) ?_
      refine go_blx (fun x8 => ?_)
      refine go1 (M := mX5_readAll) (pc' := 42) (r_aload_n (M := mX5_readAll) (i := 0) rfl dX5_readAll_41) ?_
      refine go1 (M := mX5_readAll) (pc' := 44) (r_bipush (M := mX5_readAll) (v := 59) (by decide) dX5_readAll_42) ?_
      refine go_V_SI (M := mX5_readAll) (pc' := 47) (st := []) (As := [.int 59]) rfl ln_5_49 lb_X5_pass (t_X5_pass (N := N) hW (by omega) h0) (by omega) h0 (Nat.le_of_ble_eq_true rfl) rfl dX5_readAll_44 (fun r9 => ?_)
      refine go_br (M := mX5_readAll) (pt := 88) (pf := 50) (fun kt kf => r_if_eq (M := mX5_readAll) dX5_readAll_47 (by decide) kt kf) (fun hc10 => ?_) (fun hc10 => ?_)
      · refine go1 (M := mX5_readAll) (pc' := 89) (r_iconst (M := mX5_readAll) (v := 0) (by decide) dX5_readAll_88) ?_
        exact go_zret (M := mX5_readAll) rfl rfl rfl dX5_readAll_89
      · refine go1 (M := mX5_readAll) (pc' := 51) (r_aload_n (M := mX5_readAll) (i := 0) rfl dX5_readAll_50) ?_
        refine go1 (M := mX5_readAll) (pc' := 53) (r_bipush (M := mX5_readAll) (v := (-6)) (by decide) dX5_readAll_51) ?_
        refine go_V_SI (M := mX5_readAll) (pc' := 56) (st := []) (As := [.int (-6)]) rfl ln_5_49 lb_X5_pass (t_X5_pass (N := N) hW (by omega) h0) (by omega) h0 (Nat.le_of_ble_eq_true rfl) rfl dX5_readAll_53 (fun r11 => ?_)
        refine go_br (M := mX5_readAll) (pt := 88) (pf := 59) (fun kt kf => r_if_eq (M := mX5_readAll) dX5_readAll_56 (by decide) kt kf) (fun hc12 => ?_) (fun hc12 => ?_)
        · refine go1 (M := mX5_readAll) (pc' := 89) (r_iconst (M := mX5_readAll) (v := 0) (by decide) dX5_readAll_88) ?_
          exact go_zret (M := mX5_readAll) rfl rfl rfl dX5_readAll_89
        · refine go1 (M := mX5_readAll) (pc' := 60) (r_aload_n (M := mX5_readAll) (i := 0) rfl dX5_readAll_59) ?_
          refine go1 (M := mX5_readAll) (pc' := 61) (r_iconst (M := mX5_readAll) (v := 0) (by decide) dX5_readAll_60) ?_
          refine go_V_SI (M := mX5_readAll) (pc' := 64) (st := []) (As := [.int 0]) rfl ln_5_53 lb_X5_readEither (tR_X5_readEither (N := N) hW 20 (by omega) h0) (by omega) h0 (Nat.le_of_ble_eq_true rfl) rfl dX5_readAll_61 (fun r13 => ?_)
          refine go_br (M := mX5_readAll) (pt := 88) (pf := 67) (fun kt kf => r_if_eq (M := mX5_readAll) dX5_readAll_64 (by decide) kt kf) (fun hc14 => ?_) (fun hc14 => ?_)
          · refine go1 (M := mX5_readAll) (pc' := 89) (r_iconst (M := mX5_readAll) (v := 0) (by decide) dX5_readAll_88) ?_
            exact go_zret (M := mX5_readAll) rfl rfl rfl dX5_readAll_89
          · refine go1 (M := mX5_readAll) (pc' := 68) (r_aload_n (M := mX5_readAll) (i := 0) rfl dX5_readAll_67) ?_
            refine go1 (M := mX5_readAll) (pc' := 70) (r_bipush (M := mX5_readAll) (v := 59) (by decide) dX5_readAll_68) ?_
            refine go_V_SI (M := mX5_readAll) (pc' := 73) (st := []) (As := [.int 59]) rfl ln_5_49 lb_X5_pass (t_X5_pass (N := N) hW (by omega) h0) (by omega) h0 (Nat.le_of_ble_eq_true rfl) rfl dX5_readAll_70 (fun r15 => ?_)
            refine go_br (M := mX5_readAll) (pt := 88) (pf := 76) (fun kt kf => r_if_eq (M := mX5_readAll) dX5_readAll_73 (by decide) kt kf) (fun hc16 => ?_) (fun hc16 => ?_)
            · refine go1 (M := mX5_readAll) (pc' := 89) (r_iconst (M := mX5_readAll) (v := 0) (by decide) dX5_readAll_88) ?_
              exact go_zret (M := mX5_readAll) rfl rfl rfl dX5_readAll_89
            · refine go1 (M := mX5_readAll) (pc' := 77) (r_aload_n (M := mX5_readAll) (i := 0) rfl dX5_readAll_76) ?_
              refine go1 (M := mX5_readAll) (pc' := 78) (r_iconst (M := mX5_readAll) (v := (-1)) (by decide) dX5_readAll_77) ?_
              refine go_V_SI (M := mX5_readAll) (pc' := 81) (st := []) (As := [.int (-1)]) rfl ln_5_49 lb_X5_pass (t_X5_pass (N := N) hW (by omega) h0) (by omega) h0 (Nat.le_of_ble_eq_true rfl) rfl dX5_readAll_78 (fun r17 => ?_)
              refine go_br (M := mX5_readAll) (pt := 88) (pf := 84) (fun kt kf => r_if_eq (M := mX5_readAll) dX5_readAll_81 (by decide) kt kf) (fun hc18 => ?_) (fun hc18 => ?_)
              · refine go1 (M := mX5_readAll) (pc' := 89) (r_iconst (M := mX5_readAll) (v := 0) (by decide) dX5_readAll_88) ?_
                exact go_zret (M := mX5_readAll) rfl rfl rfl dX5_readAll_89
              · refine go1 (M := mX5_readAll) (pc' := 85) (r_iconst (M := mX5_readAll) (v := 1) (by decide) dX5_readAll_84) ?_
                refine go1 (M := mX5_readAll) (pc' := 89) (r_goto (M := mX5_readAll) dX5_readAll_85 (by decide)) ?_
                exact go_zret (M := mX5_readAll) rfl rfl rfl dX5_readAll_89
def lp_X11_find_2_b (N : Nat) (S : SH) (bk2 : Int32 → Option Int32) (p0 : Nat) (p1 : Int32) (p2 : Int32) (x : DY) : Option Int32 :=
  (if (nI (S.2.2.1 p0)) ≤ p2 then some (-1) else ck S p0 p2 ((if (x.1 p0 p2.toNatClampNeg) = p1 then some p2 else bk2 (p2 + 1))))
set_option maxHeartbeats 1000000 in
theorem lp_X11_find_2_b_t {N d : Nat} {S : SH} (hW : WT S) (hd : 1 ≤ d) (bk2 : Int32 → Option Int32) (p0 : Nat) (p1 : Int32) (p2 : Int32) (x : DY) (g0 : TY S p0 14) (hbk2 : ∀ (v2 : Int32), Go mX11_find d S (wPI x) 2 [some (.ref p0), some (.int p1), some (.int v2)] [] x (bk2 v2)) : Go mX11_find d S (wPI x) 2 [some (.ref p0), some (.int p1), some (.int p2)] [] x (lp_X11_find_2_b N S bk2 p0 p1 p2 x) := by
  unfold lp_X11_find_2_b
  refine go1 (M := mX11_find) (pc' := 3) (r_iload_n (M := mX11_find) (i := 2) rfl dX11_find_2) ?_
  refine go1 (M := mX11_find) (pc' := 4) (r_aload_n (M := mX11_find) (i := 0) rfl dX11_find_3) ?_
  refine go1 (M := mX11_find) (pc' := 5) (r_alen (M := mX11_find) g0 (by decide) (by decide) dX11_find_4) ?_
  refine go_br (M := mX11_find) (pt := 23) (pf := 8) (fun kt kf => r_icmp_ge (M := mX11_find) dX11_find_5 (by decide) kt kf) (fun hc2 => ?_) (fun hc2 => ?_)
  · refine go1 (M := mX11_find) (pc' := 24) (r_iconst (M := mX11_find) (v := (-1)) (by decide) dX11_find_23) ?_
    exact go_iret (M := mX11_find) rfl rfl dX11_find_24
  · refine go1 (M := mX11_find) (pc' := 9) (r_aload_n (M := mX11_find) (i := 0) rfl dX11_find_8) ?_
    refine go1 (M := mX11_find) (pc' := 10) (r_iload_n (M := mX11_find) (i := 2) rfl dX11_find_9) ?_
    refine go_ck (fun hi3 => ?_)
    refine go1 (M := mX11_find) (pc' := 11) (r_iald (M := mX11_find) g0 hi3 dX11_find_10) ?_
    refine go1 (M := mX11_find) (pc' := 12) (r_iload_n (M := mX11_find) (i := 1) rfl dX11_find_11) ?_
    refine go_br (M := mX11_find) (pt := 15) (pf := 17) (fun kt kf => r_icmp_ne (M := mX11_find) dX11_find_12 (by decide) kf kt) (fun hc4 => ?_) (fun hc4 => ?_)
    · refine go1 (M := mX11_find) (pc' := 16) (r_iload_n (M := mX11_find) (i := 2) rfl dX11_find_15) ?_
      exact go_iret (M := mX11_find) rfl rfl dX11_find_16
    · refine go1 (M := mX11_find) (pc' := 20) (ls' := [some (.ref p0), some (.int p1), some (.int (p2 + 1))]) (r_iinc (M := mX11_find) (ls := [some (.ref p0), some (.int p1), some (.int p2)]) (i := 2) (v := p2) (c' := 1) (by decide) rfl (by decide) rfl dX11_find_17) ?_
      refine go1 (M := mX11_find) (pc' := 2) (r_goto (M := mX11_find) dX11_find_20 (by decide)) ?_
      exact hbk2 (p2 + 1)
def lp_X11_find_2 (N : Nat) (S : SH) (p0 : Nat) (p1 : Int32) (p2 : Int32) (x : DY) : Option Int32 :=
  itr (fun back (v : Int32) => lp_X11_find_2_b N S (fun p2 => back p2) p0 p1 v x) N p2
theorem lp_X11_find_2_t {N d : Nat} {S : SH} (hW : WT S) (hd : 1 ≤ d) (p0 : Nat) (p1 : Int32) (p2 : Int32) (x : DY) (g0 : TY S p0 14) : Go mX11_find d S (wPI x) 2 [some (.ref p0), some (.int p1), some (.int p2)] [] x (lp_X11_find_2 N S p0 p1 p2 x) := by
  unfold lp_X11_find_2
  exact go_itr (L := fun (v : Int32) => [some (.ref p0), some (.int p1), some (.int v)]) (X := fun (v : Int32) => x) (fun back hB v => lp_X11_find_2_b_t (N := N) hW hd (fun p2 => back p2) p0 p1 v x g0 (fun p2 => hB p2) ) N p2
def f_X11_find (N : Nat) (S : SH) (a0 : Nat) (a1 : Int32) (x : DY) : Option Int32 :=
  lp_X11_find_2 N S a0 a1 0 x
set_option maxHeartbeats 1000000 in
theorem t_X11_find {N d : Nat} {S : SH} (hW : WT S) {x : DY} {a0 : Nat} {a1 : Int32} (hd : 1 ≤ d) (h0 : TY S a0 14) : CT mX11_find d S [.ref a0, .int a1] x (wPI x) (f_X11_find N S a0 a1 x) := by
  refine CT.of [some (.ref a0), some (.int a1), none] rfl (Nat.le_of_ble_eq_true rfl) (by decide +kernel) ?_
  unfold f_X11_find
  refine go1 (M := mX11_find) (pc' := 1) (r_iconst (M := mX11_find) (v := 0) (by decide) dX11_find_0) ?_
  refine go1 (M := mX11_find) (pc' := 2) (ls' := [some (.ref a0), some (.int a1), some (.int 0)]) (r_istore_n (M := mX11_find) (ls := [some (.ref a0), some (.int a1), none]) (i := 2) (v := 0) (by decide) rfl dX11_find_1) ?_
  refine lp_X11_find_2_t (N := N) hW (by omega) a0 a1 0 x h0
def f_X6_whereIs (N : Nat) (S : SH) (a0 : Nat) (a1 : Int32) (x : DY) : Option Int32 :=
  Option.bind (f_X4_has N S (pr S a0 3) a1 x) (fun r2 => (if r2 = 0 then some (-1) else ck S (pr S (pr S a0 3) 3) a1 ((if (x.1 (pr S (pr S a0 3) 3) a1.toNatClampNeg) = 0 then Option.bind (f_X11_find N S (pr S a0 2) a1 x) (fun r8 => some r8) else (if (x.1 (pr S (pr S a0 3) 3) a1.toNatClampNeg) = 1 then Option.bind (f_X11_find N S (pr S (pr S a0 5) 0) a1 x) (fun r12 => some r12) else (if (x.1 (pr S (pr S a0 3) 3) a1.toNatClampNeg) = 2 then ck S (pr S (pr S a0 3) 4) a1 (some (x.1 (pr S (pr S a0 3) 4) a1.toNatClampNeg)) else some (-1)))))))
set_option maxHeartbeats 1000000 in
theorem t_X6_whereIs {N d : Nat} {S : SH} (hW : WT S) {x : DY} {a0 : Nat} {a1 : Int32} (hd : 2 ≤ d) (h0 : TY S a0 6) : CT mX6_whereIs d S [.ref a0, .int a1] x (wPI x) (f_X6_whereIs N S a0 a1 x) := by
  refine CT.of [some (.ref a0), some (.int a1)] rfl (Nat.le_of_ble_eq_true rfl) (by decide +kernel) ?_
  unfold f_X6_whereIs
  refine go1 (M := mX6_whereIs) (pc' := 1) (r_aload_n (M := mX6_whereIs) (i := 0) rfl dX6_whereIs_0) ?_
  refine go1 (M := mX6_whereIs) (pc' := 4) (r_getR (M := mX6_whereIs) fl_6_12 h0 rfl (wt_some hW h0 (by decide) (by decide) rfl) dX6_whereIs_1) ?_
  have hT1 : TY S (pr S a0 3) 4 := wt hW h0 (by decide) (by decide) rfl (by decide)
  refine go1 (M := mX6_whereIs) (pc' := 5) (r_iload_n (M := mX6_whereIs) (i := 1) rfl dX6_whereIs_4) ?_
  refine go_V_PI (M := mX6_whereIs) (pc' := 8) (st := []) (As := [.int a1]) rfl ln_6_80 lb_X4_has (t_X4_has (N := N) hW (by omega) hT1) (by omega) hT1 (Nat.le_of_ble_eq_true rfl) rfl dX6_whereIs_5 (fun r2 => ?_)
  refine go_br (M := mX6_whereIs) (pt := 11) (pf := 13) (fun kt kf => r_if_ne (M := mX6_whereIs) dX6_whereIs_8 (by decide) kf kt) (fun hc3 => ?_) (fun hc3 => ?_)
  · refine go1 (M := mX6_whereIs) (pc' := 12) (r_iconst (M := mX6_whereIs) (v := (-1)) (by decide) dX6_whereIs_11) ?_
    exact go_iret (M := mX6_whereIs) rfl rfl dX6_whereIs_12
  · refine go1 (M := mX6_whereIs) (pc' := 14) (r_aload_n (M := mX6_whereIs) (i := 0) rfl dX6_whereIs_13) ?_
    refine go1 (M := mX6_whereIs) (pc' := 17) (r_getR (M := mX6_whereIs) fl_6_12 h0 rfl (wt_some hW h0 (by decide) (by decide) rfl) dX6_whereIs_14) ?_
    refine go1 (M := mX6_whereIs) (pc' := 20) (r_getR (M := mX6_whereIs) fl_6_84 hT1 rfl (wt_some hW hT1 (by decide) (by decide) rfl) dX6_whereIs_17) ?_
    have hT4 : TY S (pr S (pr S a0 3) 3) 14 := wt hW hT1 (by decide) (by decide) rfl (by decide)
    refine go1 (M := mX6_whereIs) (pc' := 21) (r_iload_n (M := mX6_whereIs) (i := 1) rfl dX6_whereIs_20) ?_
    refine go_ck (fun hi5 => ?_)
    refine go1 (M := mX6_whereIs) (pc' := 22) (r_iald (M := mX6_whereIs) hT4 hi5 dX6_whereIs_21) ?_
    refine go_case (fun hk6 => ?_) (fun hk6 => ?_)
    · refine go1 (M := mX6_whereIs) (pc' := 48) (r_tsw (M := mX6_whereIs) (off := 26) dX6_whereIs_22 (by rw [hk6]; decide) (by decide)) ?_
      refine go1 (M := mX6_whereIs) (pc' := 49) (r_aload_n (M := mX6_whereIs) (i := 0) rfl dX6_whereIs_48) ?_
      refine go1 (M := mX6_whereIs) (pc' := 52) (r_getR (M := mX6_whereIs) fl_6_59 h0 rfl (wt_some hW h0 (by decide) (by decide) rfl) dX6_whereIs_49) ?_
      have hT7 : TY S (pr S a0 2) 14 := wt hW h0 (by decide) (by decide) rfl (by decide)
      refine go1 (M := mX6_whereIs) (pc' := 53) (r_iload_n (M := mX6_whereIs) (i := 1) rfl dX6_whereIs_52) ?_
      refine go_SN_PI (M := mX6_whereIs) (pc' := 56) (st := []) (As := [.ref (pr S a0 2), .int a1]) rfl ln_6_87 lb_X11_find (t_X11_find (N := N) hW (by omega) hT7) (by omega) (Nat.le_of_ble_eq_true rfl) rfl dX6_whereIs_53 (fun r8 => ?_)
      exact go_iret (M := mX6_whereIs) rfl rfl dX6_whereIs_56
    · refine go_case (fun hk9 => ?_) (fun hk9 => ?_)
      · refine go1 (M := mX6_whereIs) (pc' := 57) (r_tsw (M := mX6_whereIs) (off := 35) dX6_whereIs_22 (by rw [hk9]; decide) (by decide)) ?_
        refine go1 (M := mX6_whereIs) (pc' := 58) (r_aload_n (M := mX6_whereIs) (i := 0) rfl dX6_whereIs_57) ?_
        refine go1 (M := mX6_whereIs) (pc' := 61) (r_getR (M := mX6_whereIs) fl_6_73 h0 rfl (wt_some hW h0 (by decide) (by decide) rfl) dX6_whereIs_58) ?_
        have hT10 : TY S (pr S a0 5) 2 := wt hW h0 (by decide) (by decide) rfl (by decide)
        refine go1 (M := mX6_whereIs) (pc' := 64) (r_getR (M := mX6_whereIs) fl_6_77 hT10 rfl (wt_some hW hT10 (by decide) (by decide) rfl) dX6_whereIs_61) ?_
        have hT11 : TY S (pr S (pr S a0 5) 0) 14 := wt hW hT10 (by decide) (by decide) rfl (by decide)
        refine go1 (M := mX6_whereIs) (pc' := 65) (r_iload_n (M := mX6_whereIs) (i := 1) rfl dX6_whereIs_64) ?_
        refine go_SN_PI (M := mX6_whereIs) (pc' := 68) (st := []) (As := [.ref (pr S (pr S a0 5) 0), .int a1]) rfl ln_6_87 lb_X11_find (t_X11_find (N := N) hW (by omega) hT11) (by omega) (Nat.le_of_ble_eq_true rfl) rfl dX6_whereIs_65 (fun r12 => ?_)
        exact go_iret (M := mX6_whereIs) rfl rfl dX6_whereIs_68
      · refine go_case (fun hk13 => ?_) (fun hk13 => ?_)
        · refine go1 (M := mX6_whereIs) (pc' := 69) (r_tsw (M := mX6_whereIs) (off := 47) dX6_whereIs_22 (by rw [hk13]; decide) (by decide)) ?_
          refine go1 (M := mX6_whereIs) (pc' := 70) (r_aload_n (M := mX6_whereIs) (i := 0) rfl dX6_whereIs_69) ?_
          refine go1 (M := mX6_whereIs) (pc' := 73) (r_getR (M := mX6_whereIs) fl_6_12 h0 rfl (wt_some hW h0 (by decide) (by decide) rfl) dX6_whereIs_70) ?_
          refine go1 (M := mX6_whereIs) (pc' := 76) (r_getR (M := mX6_whereIs) fl_6_91 hT1 rfl (wt_some hW hT1 (by decide) (by decide) rfl) dX6_whereIs_73) ?_
          have hT14 : TY S (pr S (pr S a0 3) 4) 14 := wt hW hT1 (by decide) (by decide) rfl (by decide)
          refine go1 (M := mX6_whereIs) (pc' := 77) (r_iload_n (M := mX6_whereIs) (i := 1) rfl dX6_whereIs_76) ?_
          refine go_ck (fun hi15 => ?_)
          refine go1 (M := mX6_whereIs) (pc' := 78) (r_iald (M := mX6_whereIs) hT14 hi15 dX6_whereIs_77) ?_
          exact go_iret (M := mX6_whereIs) rfl rfl dX6_whereIs_78
        · have hq0 := lv_neT hk6 (show (0 : Int32).toInt = (0 : Int) by decide)
          have hq1 := lv_neT hk9 (show (1 : Int32).toInt = (1 : Int) by decide)
          have hq2 := lv_neT hk13 (show (2 : Int32).toInt = (2 : Int) by decide)
          refine go1 (M := mX6_whereIs) (pc' := 79) (r_tswO (M := mX6_whereIs) dX6_whereIs_22 (by omega) (by decide)) ?_
          refine go1 (M := mX6_whereIs) (pc' := 80) (r_iconst (M := mX6_whereIs) (v := (-1)) (by decide) dX6_whereIs_79) ?_
          exact go_iret (M := mX6_whereIs) rfl rfl dX6_whereIs_80
def f_X6_sendTray (N : Nat) (S : SH) (a0 : Nat) (a1 : Int32) (a2 : Int32) (x : DY) : Option (Int32 × DY) :=
  Option.bind (f_X2_isQueueFull N S (pr S a0 5) x) (fun r2 => (if r2 = 0 then Option.bind (f_X11_isDish N S a2 x) (fun r4 => (if r4 = 0 then some ((-4), x) else ck S (pr S (pr S a0 0) 0) a2 (Option.bind (f_X4_make N S (pr S a0 3) a2 (x.1 (pr S (pr S a0 0) 0) a2.toNatClampNeg) 1 a1 x) (fun r10 => (if r10.1 < 0 then some (r10.1, r10.2) else Option.bind (f_X2_join N S (pr S a0 5) r10.1 r10.2) (fun r12 => some (r10.1, r12))))))) else some ((-4), x)))
set_option maxHeartbeats 1000000 in
theorem t_X6_sendTray {N d : Nat} {S : SH} (hW : WT S) {x : DY} {a0 : Nat} {a1 : Int32} {a2 : Int32} (hd : 3 ≤ d) (h0 : TY S a0 6) : CT mX6_sendTray d S [.ref a0, .int a1, .int a2] x wSI (f_X6_sendTray N S a0 a1 a2 x) := by
  refine CT.of [some (.ref a0), some (.int a1), some (.int a2), none] rfl (Nat.le_of_ble_eq_true rfl) (by decide +kernel) ?_
  unfold f_X6_sendTray
  refine go1 (M := mX6_sendTray) (pc' := 1) (r_aload_n (M := mX6_sendTray) (i := 0) rfl dX6_sendTray_0) ?_
  refine go1 (M := mX6_sendTray) (pc' := 4) (r_getR (M := mX6_sendTray) fl_6_73 h0 rfl (wt_some hW h0 (by decide) (by decide) rfl) dX6_sendTray_1) ?_
  have hT1 : TY S (pr S a0 5) 2 := wt hW h0 (by decide) (by decide) rfl (by decide)
  refine go_V_PI (M := mX6_sendTray) (pc' := 7) (st := []) (As := []) rfl ln_6_105 lb_X2_isQueueFull (t_X2_isQueueFull (N := N) hW (by omega) hT1) (by omega) hT1 (Nat.le_of_ble_eq_true rfl) rfl dX6_sendTray_4 (fun r2 => ?_)
  refine go_br (M := mX6_sendTray) (pt := 10) (pf := 17) (fun kt kf => r_if_ne (M := mX6_sendTray) dX6_sendTray_7 (by decide) kf kt) (fun hc3 => ?_) (fun hc3 => ?_)
  · refine go1 (M := mX6_sendTray) (pc' := 11) (r_iload_n (M := mX6_sendTray) (i := 2) rfl dX6_sendTray_10) ?_
    refine go_SN_PI (M := mX6_sendTray) (pc' := 14) (st := []) (As := [.int a2]) rfl ln_6_93 lb_X11_isDish (t_X11_isDish (N := N) hW (by omega) ) (by omega) (Nat.le_of_ble_eq_true rfl) rfl dX6_sendTray_11 (fun r4 => ?_)
    refine go_br (M := mX6_sendTray) (pt := 17) (pf := 20) (fun kt kf => r_if_ne (M := mX6_sendTray) dX6_sendTray_14 (by decide) kf kt) (fun hc5 => ?_) (fun hc5 => ?_)
    · refine go1 (M := mX6_sendTray) (pc' := 19) (r_bipush (M := mX6_sendTray) (v := (-4)) (by decide) dX6_sendTray_17) ?_
      exact go_iret (M := mX6_sendTray) rfl rfl dX6_sendTray_19
    · refine go1 (M := mX6_sendTray) (pc' := 21) (r_aload_n (M := mX6_sendTray) (i := 0) rfl dX6_sendTray_20) ?_
      refine go1 (M := mX6_sendTray) (pc' := 24) (r_getR (M := mX6_sendTray) fl_6_12 h0 rfl (wt_some hW h0 (by decide) (by decide) rfl) dX6_sendTray_21) ?_
      have hT6 : TY S (pr S a0 3) 4 := wt hW h0 (by decide) (by decide) rfl (by decide)
      refine go1 (M := mX6_sendTray) (pc' := 25) (r_iload_n (M := mX6_sendTray) (i := 2) rfl dX6_sendTray_24) ?_
      refine go1 (M := mX6_sendTray) (pc' := 26) (r_aload_n (M := mX6_sendTray) (i := 0) rfl dX6_sendTray_25) ?_
      refine go1 (M := mX6_sendTray) (pc' := 29) (r_getR (M := mX6_sendTray) fl_6_45 h0 rfl (wt_some hW h0 (by decide) (by decide) rfl) dX6_sendTray_26) ?_
      have hT7 : TY S (pr S a0 0) 3 := wt hW h0 (by decide) (by decide) rfl (by decide)
      refine go1 (M := mX6_sendTray) (pc' := 32) (r_getR (M := mX6_sendTray) fl_6_96 hT7 rfl (wt_some hW hT7 (by decide) (by decide) rfl) dX6_sendTray_29) ?_
      have hT8 : TY S (pr S (pr S a0 0) 0) 14 := wt hW hT7 (by decide) (by decide) rfl (by decide)
      refine go1 (M := mX6_sendTray) (pc' := 33) (r_iload_n (M := mX6_sendTray) (i := 2) rfl dX6_sendTray_32) ?_
      refine go_ck (fun hi9 => ?_)
      refine go1 (M := mX6_sendTray) (pc' := 34) (r_iald (M := mX6_sendTray) hT8 hi9 dX6_sendTray_33) ?_
      refine go1 (M := mX6_sendTray) (pc' := 35) (r_iconst (M := mX6_sendTray) (v := 1) (by decide) dX6_sendTray_34) ?_
      refine go1 (M := mX6_sendTray) (pc' := 36) (r_iload_n (M := mX6_sendTray) (i := 1) rfl dX6_sendTray_35) ?_
      refine go_V_SI (M := mX6_sendTray) (pc' := 39) (st := []) (As := [.int a2, .int (x.1 (pr S (pr S a0 0) 0) a2.toNatClampNeg), .int 1, .int a1]) rfl ln_6_101 lb_X4_make (t_X4_make (N := N) hW (by omega) hT6) (by omega) hT6 (Nat.le_of_ble_eq_true rfl) rfl dX6_sendTray_36 (fun r10 => ?_)
      refine go1 (M := mX6_sendTray) (pc' := 40) (ls' := [some (.ref a0), some (.int a1), some (.int a2), some (.int r10.1)]) (r_istore_n (M := mX6_sendTray) (ls := [some (.ref a0), some (.int a1), some (.int a2), none]) (i := 3) (v := r10.1) (by decide) rfl dX6_sendTray_39) ?_
      refine go1 (M := mX6_sendTray) (pc' := 41) (r_iload_n (M := mX6_sendTray) (i := 3) rfl dX6_sendTray_40) ?_
      refine go_br (M := mX6_sendTray) (pt := 52) (pf := 44) (fun kt kf => r_if_lt (M := mX6_sendTray) dX6_sendTray_41 (by decide) kt kf) (fun hc11 => ?_) (fun hc11 => ?_)
      · refine go1 (M := mX6_sendTray) (pc' := 53) (r_iload_n (M := mX6_sendTray) (i := 3) rfl dX6_sendTray_52) ?_
        exact go_iret (M := mX6_sendTray) rfl rfl dX6_sendTray_53
      · refine go1 (M := mX6_sendTray) (pc' := 45) (r_aload_n (M := mX6_sendTray) (i := 0) rfl dX6_sendTray_44) ?_
        refine go1 (M := mX6_sendTray) (pc' := 48) (r_getR (M := mX6_sendTray) fl_6_73 h0 rfl (wt_some hW h0 (by decide) (by decide) rfl) dX6_sendTray_45) ?_
        refine go1 (M := mX6_sendTray) (pc' := 49) (r_iload_n (M := mX6_sendTray) (i := 3) rfl dX6_sendTray_48) ?_
        refine go_V_SV (M := mX6_sendTray) (pc' := 52) (st := []) (As := [.int r10.1]) rfl ln_6_109 lb_X2_join (t_X2_join (N := N) hW (by omega) hT1) (by omega) hT1 (Nat.le_of_ble_eq_true rfl) rfl dX6_sendTray_49 (fun r12 => ?_)
        refine go1 (M := mX6_sendTray) (pc' := 53) (r_iload_n (M := mX6_sendTray) (i := 3) rfl dX6_sendTray_52) ?_
        exact go_iret (M := mX6_sendTray) rfl rfl dX6_sendTray_53
  · refine go1 (M := mX6_sendTray) (pc' := 19) (r_bipush (M := mX6_sendTray) (v := (-4)) (by decide) dX6_sendTray_17) ?_
    exact go_iret (M := mX6_sendTray) rfl rfl dX6_sendTray_19
def f_X6_returnPlate (N : Nat) (S : SH) (a0 : Nat) (a1 : Int32) (x : DY) : Option (Int32 × DY) :=
  Option.bind (f_X8_isTaken N S (pr S a0 4) a1 x) (fun r2 => (if r2 = 0 then some ((-3), x) else ck S (pr S (pr S a0 4) 6) a1 (ck S (pr S (pr S a0 4) 0) a1 (Option.bind (f_X4_has N S (pr S a0 3) (x.1 (pr S (pr S a0 4) 6) a1.toNatClampNeg) x) (fun r9 => (if r9 = 0 then some ((-3), x) else Option.bind (f_X6_isPlace N S a0 (x.1 (pr S (pr S a0 4) 0) a1.toNatClampNeg) x) (fun r11 => (if r11 = 0 then some ((-3), x) else ck S (pr S a0 2) (x.1 (pr S (pr S a0 4) 0) a1.toNatClampNeg) ((if (x.1 (pr S a0 2) (x.1 (pr S (pr S a0 4) 0) a1.toNatClampNeg).toNatClampNeg) = (-1) then ck S (pr S a0 2) (x.1 (pr S (pr S a0 4) 0) a1.toNatClampNeg) (bl (U1 x (pr S a0 2) (x.1 (pr S (pr S a0 4) 0) a1.toNatClampNeg).toNatClampNeg (x.1 (pr S (pr S a0 4) 6) a1.toNatClampNeg)) (fun x17 => Option.bind (f_X4_become N S (pr S a0 3) (x.1 (pr S (pr S a0 4) 6) a1.toNatClampNeg) 0 (-1) x17) (fun r18 => ck S (pr S (pr S a0 4) 3) a1 (ck S (pr S (pr S a0 4) 3) a1 (bl (U1 r18 (pr S (pr S a0 4) 3) a1.toNatClampNeg ((r18.1 (pr S (pr S a0 4) 3) a1.toNatClampNeg) - 1)) (fun x22 => ck S (pr S (pr S a0 4) 6) a1 (bl (U1 x22 (pr S (pr S a0 4) 6) a1.toNatClampNeg (-1)) (fun x24 => some ((x.1 (pr S (pr S a0 4) 6) a1.toNatClampNeg), x24))))))))) else some ((-3), x)))))))))))
set_option maxHeartbeats 1000000 in
theorem t_X6_returnPlate {N d : Nat} {S : SH} (hW : WT S) {x : DY} {a0 : Nat} {a1 : Int32} (hd : 2 ≤ d) (h0 : TY S a0 6) : CT mX6_returnPlate d S [.ref a0, .int a1] x wSI (f_X6_returnPlate N S a0 a1 x) := by
  refine CT.of [some (.ref a0), some (.int a1), none, none] rfl (Nat.le_of_ble_eq_true rfl) (by decide +kernel) ?_
  unfold f_X6_returnPlate
  refine go1 (M := mX6_returnPlate) (pc' := 1) (r_aload_n (M := mX6_returnPlate) (i := 0) rfl dX6_returnPlate_0) ?_
  refine go1 (M := mX6_returnPlate) (pc' := 4) (r_getR (M := mX6_returnPlate) fl_6_21 h0 rfl (wt_some hW h0 (by decide) (by decide) rfl) dX6_returnPlate_1) ?_
  have hT1 : TY S (pr S a0 4) 8 := wt hW h0 (by decide) (by decide) rfl (by decide)
  refine go1 (M := mX6_returnPlate) (pc' := 5) (r_iload_n (M := mX6_returnPlate) (i := 1) rfl dX6_returnPlate_4) ?_
  refine go_V_PI (M := mX6_returnPlate) (pc' := 8) (st := []) (As := [.int a1]) rfl ln_6_112 lb_X8_isTaken (t_X8_isTaken (N := N) hW (by omega) hT1) (by omega) hT1 (Nat.le_of_ble_eq_true rfl) rfl dX6_returnPlate_5 (fun r2 => ?_)
  refine go_br (M := mX6_returnPlate) (pt := 11) (pf := 14) (fun kt kf => r_if_ne (M := mX6_returnPlate) dX6_returnPlate_8 (by decide) kf kt) (fun hc3 => ?_) (fun hc3 => ?_)
  · refine go1 (M := mX6_returnPlate) (pc' := 13) (r_bipush (M := mX6_returnPlate) (v := (-3)) (by decide) dX6_returnPlate_11) ?_
    exact go_iret (M := mX6_returnPlate) rfl rfl dX6_returnPlate_13
  · refine go1 (M := mX6_returnPlate) (pc' := 15) (r_aload_n (M := mX6_returnPlate) (i := 0) rfl dX6_returnPlate_14) ?_
    refine go1 (M := mX6_returnPlate) (pc' := 18) (r_getR (M := mX6_returnPlate) fl_6_21 h0 rfl (wt_some hW h0 (by decide) (by decide) rfl) dX6_returnPlate_15) ?_
    refine go1 (M := mX6_returnPlate) (pc' := 21) (r_getR (M := mX6_returnPlate) fl_6_115 hT1 rfl (wt_some hW hT1 (by decide) (by decide) rfl) dX6_returnPlate_18) ?_
    have hT4 : TY S (pr S (pr S a0 4) 6) 14 := wt hW hT1 (by decide) (by decide) rfl (by decide)
    refine go1 (M := mX6_returnPlate) (pc' := 22) (r_iload_n (M := mX6_returnPlate) (i := 1) rfl dX6_returnPlate_21) ?_
    refine go_ck (fun hi5 => ?_)
    refine go1 (M := mX6_returnPlate) (pc' := 23) (r_iald (M := mX6_returnPlate) hT4 hi5 dX6_returnPlate_22) ?_
    refine go1 (M := mX6_returnPlate) (pc' := 24) (ls' := [some (.ref a0), some (.int a1), some (.int (x.1 (pr S (pr S a0 4) 6) a1.toNatClampNeg)), none]) (r_istore_n (M := mX6_returnPlate) (ls := [some (.ref a0), some (.int a1), none, none]) (i := 2) (v := (x.1 (pr S (pr S a0 4) 6) a1.toNatClampNeg)) (by decide) rfl dX6_returnPlate_23) ?_
    refine go1 (M := mX6_returnPlate) (pc' := 25) (r_aload_n (M := mX6_returnPlate) (i := 0) rfl dX6_returnPlate_24) ?_
    refine go1 (M := mX6_returnPlate) (pc' := 28) (r_getR (M := mX6_returnPlate) fl_6_21 h0 rfl (wt_some hW h0 (by decide) (by decide) rfl) dX6_returnPlate_25) ?_
    refine go1 (M := mX6_returnPlate) (pc' := 31) (r_getR (M := mX6_returnPlate) fl_6_118 hT1 rfl (wt_some hW hT1 (by decide) (by decide) rfl) dX6_returnPlate_28) ?_
    have hT6 : TY S (pr S (pr S a0 4) 0) 14 := wt hW hT1 (by decide) (by decide) rfl (by decide)
    refine go1 (M := mX6_returnPlate) (pc' := 32) (r_iload_n (M := mX6_returnPlate) (i := 1) rfl dX6_returnPlate_31) ?_
    refine go_ck (fun hi7 => ?_)
    refine go1 (M := mX6_returnPlate) (pc' := 33) (r_iald (M := mX6_returnPlate) hT6 hi7 dX6_returnPlate_32) ?_
    refine go1 (M := mX6_returnPlate) (pc' := 34) (ls' := [some (.ref a0), some (.int a1), some (.int (x.1 (pr S (pr S a0 4) 6) a1.toNatClampNeg)), some (.int (x.1 (pr S (pr S a0 4) 0) a1.toNatClampNeg))]) (r_istore_n (M := mX6_returnPlate) (ls := [some (.ref a0), some (.int a1), some (.int (x.1 (pr S (pr S a0 4) 6) a1.toNatClampNeg)), none]) (i := 3) (v := (x.1 (pr S (pr S a0 4) 0) a1.toNatClampNeg)) (by decide) rfl dX6_returnPlate_33) ?_
    refine go1 (M := mX6_returnPlate) (pc' := 35) (r_aload_n (M := mX6_returnPlate) (i := 0) rfl dX6_returnPlate_34) ?_
    refine go1 (M := mX6_returnPlate) (pc' := 38) (r_getR (M := mX6_returnPlate) fl_6_12 h0 rfl (wt_some hW h0 (by decide) (by decide) rfl) dX6_returnPlate_35) ?_
    have hT8 : TY S (pr S a0 3) 4 := wt hW h0 (by decide) (by decide) rfl (by decide)
    refine go1 (M := mX6_returnPlate) (pc' := 39) (r_iload_n (M := mX6_returnPlate) (i := 2) rfl dX6_returnPlate_38) ?_
    refine go_V_PI (M := mX6_returnPlate) (pc' := 42) (st := []) (As := [.int (x.1 (pr S (pr S a0 4) 6) a1.toNatClampNeg)]) rfl ln_6_80 lb_X4_has (t_X4_has (N := N) hW (by omega) hT8) (by omega) hT8 (Nat.le_of_ble_eq_true rfl) rfl dX6_returnPlate_39 (fun r9 => ?_)
    refine go_br (M := mX6_returnPlate) (pt := 63) (pf := 45) (fun kt kf => r_if_eq (M := mX6_returnPlate) dX6_returnPlate_42 (by decide) kt kf) (fun hc10 => ?_) (fun hc10 => ?_)
    · refine go1 (M := mX6_returnPlate) (pc' := 65) (r_bipush (M := mX6_returnPlate) (v := (-3)) (by decide) dX6_returnPlate_63) ?_
      exact go_iret (M := mX6_returnPlate) rfl rfl dX6_returnPlate_65
    · refine go1 (M := mX6_returnPlate) (pc' := 46) (r_aload_n (M := mX6_returnPlate) (i := 0) rfl dX6_returnPlate_45) ?_
      refine go1 (M := mX6_returnPlate) (pc' := 47) (r_iload_n (M := mX6_returnPlate) (i := 3) rfl dX6_returnPlate_46) ?_
      refine go_V_PI (M := mX6_returnPlate) (pc' := 50) (st := []) (As := [.int (x.1 (pr S (pr S a0 4) 0) a1.toNatClampNeg)]) rfl ln_6_121 lb_X6_isPlace (t_X6_isPlace (N := N) hW (by omega) h0) (by omega) h0 (Nat.le_of_ble_eq_true rfl) rfl dX6_returnPlate_47 (fun r11 => ?_)
      refine go_br (M := mX6_returnPlate) (pt := 63) (pf := 53) (fun kt kf => r_if_eq (M := mX6_returnPlate) dX6_returnPlate_50 (by decide) kt kf) (fun hc12 => ?_) (fun hc12 => ?_)
      · refine go1 (M := mX6_returnPlate) (pc' := 65) (r_bipush (M := mX6_returnPlate) (v := (-3)) (by decide) dX6_returnPlate_63) ?_
        exact go_iret (M := mX6_returnPlate) rfl rfl dX6_returnPlate_65
      · refine go1 (M := mX6_returnPlate) (pc' := 54) (r_aload_n (M := mX6_returnPlate) (i := 0) rfl dX6_returnPlate_53) ?_
        refine go1 (M := mX6_returnPlate) (pc' := 57) (r_getR (M := mX6_returnPlate) fl_6_59 h0 rfl (wt_some hW h0 (by decide) (by decide) rfl) dX6_returnPlate_54) ?_
        have hT13 : TY S (pr S a0 2) 14 := wt hW h0 (by decide) (by decide) rfl (by decide)
        refine go1 (M := mX6_returnPlate) (pc' := 58) (r_iload_n (M := mX6_returnPlate) (i := 3) rfl dX6_returnPlate_57) ?_
        refine go_ck (fun hi14 => ?_)
        refine go1 (M := mX6_returnPlate) (pc' := 59) (r_iald (M := mX6_returnPlate) hT13 hi14 dX6_returnPlate_58) ?_
        refine go1 (M := mX6_returnPlate) (pc' := 60) (r_iconst (M := mX6_returnPlate) (v := (-1)) (by decide) dX6_returnPlate_59) ?_
        refine go_br (M := mX6_returnPlate) (pt := 66) (pf := 63) (fun kt kf => r_icmp_eq (M := mX6_returnPlate) dX6_returnPlate_60 (by decide) kt kf) (fun hc15 => ?_) (fun hc15 => ?_)
        · refine go1 (M := mX6_returnPlate) (pc' := 67) (r_aload_n (M := mX6_returnPlate) (i := 0) rfl dX6_returnPlate_66) ?_
          refine go1 (M := mX6_returnPlate) (pc' := 70) (r_getR (M := mX6_returnPlate) fl_6_59 h0 rfl (wt_some hW h0 (by decide) (by decide) rfl) dX6_returnPlate_67) ?_
          refine go1 (M := mX6_returnPlate) (pc' := 71) (r_iload_n (M := mX6_returnPlate) (i := 3) rfl dX6_returnPlate_70) ?_
          refine go1 (M := mX6_returnPlate) (pc' := 72) (r_iload_n (M := mX6_returnPlate) (i := 2) rfl dX6_returnPlate_71) ?_
          refine go_ck (fun hi16 => ?_)
          refine go1 (M := mX6_returnPlate) (pc' := 73) (r_iast (M := mX6_returnPlate) hT13 hi16 dX6_returnPlate_72) ?_
          refine go_blx (fun x17 => ?_)
          refine go1 (M := mX6_returnPlate) (pc' := 74) (r_aload_n (M := mX6_returnPlate) (i := 0) rfl dX6_returnPlate_73) ?_
          refine go1 (M := mX6_returnPlate) (pc' := 77) (r_getR (M := mX6_returnPlate) fl_6_12 h0 rfl (wt_some hW h0 (by decide) (by decide) rfl) dX6_returnPlate_74) ?_
          refine go1 (M := mX6_returnPlate) (pc' := 78) (r_iload_n (M := mX6_returnPlate) (i := 2) rfl dX6_returnPlate_77) ?_
          refine go1 (M := mX6_returnPlate) (pc' := 79) (r_iconst (M := mX6_returnPlate) (v := 0) (by decide) dX6_returnPlate_78) ?_
          refine go1 (M := mX6_returnPlate) (pc' := 80) (r_iconst (M := mX6_returnPlate) (v := (-1)) (by decide) dX6_returnPlate_79) ?_
          refine go_V_SV (M := mX6_returnPlate) (pc' := 83) (st := []) (As := [.int (x.1 (pr S (pr S a0 4) 6) a1.toNatClampNeg), .int 0, .int (-1)]) rfl ln_6_124 lb_X4_become (t_X4_become (N := N) hW (by omega) hT8) (by omega) hT8 (Nat.le_of_ble_eq_true rfl) rfl dX6_returnPlate_80 (fun r18 => ?_)
          refine go1 (M := mX6_returnPlate) (pc' := 84) (r_aload_n (M := mX6_returnPlate) (i := 0) rfl dX6_returnPlate_83) ?_
          refine go1 (M := mX6_returnPlate) (pc' := 87) (r_getR (M := mX6_returnPlate) fl_6_21 h0 rfl (wt_some hW h0 (by decide) (by decide) rfl) dX6_returnPlate_84) ?_
          refine go1 (M := mX6_returnPlate) (pc' := 90) (r_getR (M := mX6_returnPlate) fl_6_128 hT1 rfl (wt_some hW hT1 (by decide) (by decide) rfl) dX6_returnPlate_87) ?_
          have hT19 : TY S (pr S (pr S a0 4) 3) 14 := wt hW hT1 (by decide) (by decide) rfl (by decide)
          refine go1 (M := mX6_returnPlate) (pc' := 91) (r_iload_n (M := mX6_returnPlate) (i := 1) rfl dX6_returnPlate_90) ?_
          refine go1 (M := mX6_returnPlate) (pc' := 92) (r_dup2 (M := mX6_returnPlate) rfl rfl dX6_returnPlate_91) ?_
          refine go_ck (fun hi20 => ?_)
          refine go1 (M := mX6_returnPlate) (pc' := 93) (r_iald (M := mX6_returnPlate) hT19 hi20 dX6_returnPlate_92) ?_
          refine go1 (M := mX6_returnPlate) (pc' := 94) (r_iconst (M := mX6_returnPlate) (v := 1) (by decide) dX6_returnPlate_93) ?_
          refine go1 (M := mX6_returnPlate) (pc' := 95) (r_isub (M := mX6_returnPlate) dX6_returnPlate_94) ?_
          refine go_ck (fun hi21 => ?_)
          refine go1 (M := mX6_returnPlate) (pc' := 96) (r_iast (M := mX6_returnPlate) hT19 hi21 dX6_returnPlate_95) ?_
          refine go_blx (fun x22 => ?_)
          refine go1 (M := mX6_returnPlate) (pc' := 97) (r_aload_n (M := mX6_returnPlate) (i := 0) rfl dX6_returnPlate_96) ?_
          refine go1 (M := mX6_returnPlate) (pc' := 100) (r_getR (M := mX6_returnPlate) fl_6_21 h0 rfl (wt_some hW h0 (by decide) (by decide) rfl) dX6_returnPlate_97) ?_
          refine go1 (M := mX6_returnPlate) (pc' := 103) (r_getR (M := mX6_returnPlate) fl_6_115 hT1 rfl (wt_some hW hT1 (by decide) (by decide) rfl) dX6_returnPlate_100) ?_
          refine go1 (M := mX6_returnPlate) (pc' := 104) (r_iload_n (M := mX6_returnPlate) (i := 1) rfl dX6_returnPlate_103) ?_
          refine go1 (M := mX6_returnPlate) (pc' := 105) (r_iconst (M := mX6_returnPlate) (v := (-1)) (by decide) dX6_returnPlate_104) ?_
          refine go_ck (fun hi23 => ?_)
          refine go1 (M := mX6_returnPlate) (pc' := 106) (r_iast (M := mX6_returnPlate) hT4 hi23 dX6_returnPlate_105) ?_
          refine go_blx (fun x24 => ?_)
          refine go1 (M := mX6_returnPlate) (pc' := 107) (r_iload_n (M := mX6_returnPlate) (i := 2) rfl dX6_returnPlate_106) ?_
          exact go_iret (M := mX6_returnPlate) rfl rfl dX6_returnPlate_107
        · refine go1 (M := mX6_returnPlate) (pc' := 65) (r_bipush (M := mX6_returnPlate) (v := (-3)) (by decide) dX6_returnPlate_63) ?_
          exact go_iret (M := mX6_returnPlate) rfl rfl dX6_returnPlate_65
def f_X7_areFull (N : Nat) (S : SH) (a0 : Nat) (x : DY) : Option Int32 :=
  (if (x.1 a0 2) < 0 then some 1 else (if (x.1 a0 2) < (nI (S.2.2.1 (pr S a0 0))) then some 0 else some 1))
set_option maxHeartbeats 1000000 in
theorem t_X7_areFull {N d : Nat} {S : SH} (hW : WT S) {x : DY} {a0 : Nat} (hd : 1 ≤ d) (h0 : TY S a0 7) : CT mX7_areFull d S [.ref a0] x (wPI x) (f_X7_areFull N S a0 x) := by
  refine CT.of [some (.ref a0)] rfl (Nat.le_of_ble_eq_true rfl) (by decide +kernel) ?_
  unfold f_X7_areFull
  refine go1 (M := mX7_areFull) (pc' := 1) (r_aload_n (M := mX7_areFull) (i := 0) rfl dX7_areFull_0) ?_
  refine go1 (M := mX7_areFull) (pc' := 4) (r_getI (M := mX7_areFull) fl_7_31 h0 rfl dX7_areFull_1) ?_
  refine go_br (M := mX7_areFull) (pt := 19) (pf := 7) (fun kt kf => r_if_lt (M := mX7_areFull) dX7_areFull_4 (by decide) kt kf) (fun hc1 => ?_) (fun hc1 => ?_)
  · refine go1 (M := mX7_areFull) (pc' := 20) (r_iconst (M := mX7_areFull) (v := 1) (by decide) dX7_areFull_19) ?_
    refine go1 (M := mX7_areFull) (pc' := 24) (r_goto (M := mX7_areFull) dX7_areFull_20 (by decide)) ?_
    exact go_zret (M := mX7_areFull) rfl rfl rfl dX7_areFull_24
  · refine go1 (M := mX7_areFull) (pc' := 8) (r_aload_n (M := mX7_areFull) (i := 0) rfl dX7_areFull_7) ?_
    refine go1 (M := mX7_areFull) (pc' := 11) (r_getI (M := mX7_areFull) fl_7_31 h0 rfl dX7_areFull_8) ?_
    refine go1 (M := mX7_areFull) (pc' := 12) (r_aload_n (M := mX7_areFull) (i := 0) rfl dX7_areFull_11) ?_
    refine go1 (M := mX7_areFull) (pc' := 15) (r_getR (M := mX7_areFull) fl_7_11 h0 rfl (wt_some hW h0 (by decide) (by decide) rfl) dX7_areFull_12) ?_
    have hT2 : TY S (pr S a0 0) 17 := wt hW h0 (by decide) (by decide) rfl (by decide)
    refine go1 (M := mX7_areFull) (pc' := 16) (r_alen (M := mX7_areFull) hT2 (by decide) (by decide) dX7_areFull_15) ?_
    refine go_br (M := mX7_areFull) (pt := 23) (pf := 19) (fun kt kf => r_icmp_lt (M := mX7_areFull) dX7_areFull_16 (by decide) kt kf) (fun hc3 => ?_) (fun hc3 => ?_)
    · refine go1 (M := mX7_areFull) (pc' := 24) (r_iconst (M := mX7_areFull) (v := 0) (by decide) dX7_areFull_23) ?_
      exact go_zret (M := mX7_areFull) rfl rfl rfl dX7_areFull_24
    · refine go1 (M := mX7_areFull) (pc' := 20) (r_iconst (M := mX7_areFull) (v := 1) (by decide) dX7_areFull_19) ?_
      refine go1 (M := mX7_areFull) (pc' := 24) (r_goto (M := mX7_areFull) dX7_areFull_20 (by decide)) ?_
      exact go_zret (M := mX7_areFull) rfl rfl rfl dX7_areFull_24
def f_X8_isKind (N : Nat) (S : SH) (a0 : Int32) (x : DY) : Option Int32 :=
  (if a0 < 0 then some 0 else (if (nI (S.2.2.1 0)) ≤ a0 then some 0 else some 1))
set_option maxHeartbeats 1000000 in
theorem t_X8_isKind {N d : Nat} {S : SH} (hW : WT S) {x : DY} {a0 : Int32} (hd : 1 ≤ d) : CT mX8_isKind d S [.int a0] x (wPI x) (f_X8_isKind N S a0 x) := by
  refine CT.of [some (.int a0)] rfl (Nat.le_of_ble_eq_true rfl) (by decide +kernel) ?_
  unfold f_X8_isKind
  refine go1 (M := mX8_isKind) (pc' := 1) (r_iload_n (M := mX8_isKind) (i := 0) rfl dX8_isKind_0) ?_
  refine go_br (M := mX8_isKind) (pt := 16) (pf := 4) (fun kt kf => r_if_lt (M := mX8_isKind) dX8_isKind_1 (by decide) kt kf) (fun hc1 => ?_) (fun hc1 => ?_)
  · refine go1 (M := mX8_isKind) (pc' := 17) (r_iconst (M := mX8_isKind) (v := 0) (by decide) dX8_isKind_16) ?_
    exact go_zret (M := mX8_isKind) rfl rfl rfl dX8_isKind_17
  · refine go1 (M := mX8_isKind) (pc' := 5) (r_iload_n (M := mX8_isKind) (i := 0) rfl dX8_isKind_4) ?_
    refine go1 (M := mX8_isKind) (pc' := 8) (r_getst (M := mX8_isKind) (a := 0) (by decide) (tb3 12 (by decide +kernel) rfl) dX8_isKind_5) ?_
    refine go1 (M := mX8_isKind) (pc' := 9) (r_alenX2 (M := mX8_isKind) (Or.inl (by decide)) dX8_isKind_8) ?_
    refine go_br (M := mX8_isKind) (pt := 16) (pf := 12) (fun kt kf => r_icmp_ge (M := mX8_isKind) dX8_isKind_9 (by decide) kt kf) (fun hc2 => ?_) (fun hc2 => ?_)
    · refine go1 (M := mX8_isKind) (pc' := 17) (r_iconst (M := mX8_isKind) (v := 0) (by decide) dX8_isKind_16) ?_
      exact go_zret (M := mX8_isKind) rfl rfl rfl dX8_isKind_17
    · refine go1 (M := mX8_isKind) (pc' := 13) (r_iconst (M := mX8_isKind) (v := 1) (by decide) dX8_isKind_12) ?_
      refine go1 (M := mX8_isKind) (pc' := 17) (r_goto (M := mX8_isKind) dX8_isKind_13 (by decide)) ?_
      exact go_zret (M := mX8_isKind) rfl rfl rfl dX8_isKind_17
def lp_X8_isUnder_4_b (N : Nat) (S : SH) (bk4 : Int32 → Int32 → Option Int32) (p1 : Int32) (p2 : Int32) (p3 : Int32) (x : DY) : Option Int32 :=
  (if (nI (S.2.2.1 0)) ≤ p3 then some 0 else Option.bind (f_X8_isKind N S p2 x) (fun r3 => (if r3 = 0 then some 0 else (if p2 = p1 then some 1 else ck S 0 p2 (bk4 (x.1 0 p2.toNatClampNeg) (p3 + 1))))))
set_option maxHeartbeats 1000000 in
theorem lp_X8_isUnder_4_b_t {N d : Nat} {S : SH} (hW : WT S) (hd : 2 ≤ d) (bk4 : Int32 → Int32 → Option Int32) (p1 : Int32) (p2 : Int32) (p3 : Int32) (x : DY) (hbk4 : ∀ (v2 : Int32) (v3 : Int32), Go mX8_isUnder d S (wPI x) 4 [none, some (.int p1), some (.int v2), some (.int v3)] [] x (bk4 v2 v3)) : Go mX8_isUnder d S (wPI x) 4 [none, some (.int p1), some (.int p2), some (.int p3)] [] x (lp_X8_isUnder_4_b N S bk4 p1 p2 p3 x) := by
  unfold lp_X8_isUnder_4_b
  refine go1 (M := mX8_isUnder) (pc' := 5) (r_iload_n (M := mX8_isUnder) (i := 3) rfl dX8_isUnder_4) ?_
  refine go1 (M := mX8_isUnder) (pc' := 8) (r_getst (M := mX8_isUnder) (a := 0) (by decide) (tb3 12 (by decide +kernel) rfl) dX8_isUnder_5) ?_
  refine go1 (M := mX8_isUnder) (pc' := 9) (r_alenX2 (M := mX8_isUnder) (Or.inl (by decide)) dX8_isUnder_8) ?_
  refine go_br (M := mX8_isUnder) (pt := 38) (pf := 12) (fun kt kf => r_icmp_ge (M := mX8_isUnder) dX8_isUnder_9 (by decide) kt kf) (fun hc2 => ?_) (fun hc2 => ?_)
  · refine go1 (M := mX8_isUnder) (pc' := 39) (r_iconst (M := mX8_isUnder) (v := 0) (by decide) dX8_isUnder_38) ?_
    exact go_zret (M := mX8_isUnder) rfl rfl rfl dX8_isUnder_39
  · refine go1 (M := mX8_isUnder) (pc' := 13) (r_iload_n (M := mX8_isUnder) (i := 2) rfl dX8_isUnder_12) ?_
    refine go_S_PI (M := mX8_isUnder) (pc' := 16) (st := []) (As := [.int p2]) rfl ln_8_40 lb_X8_isKind (t_X8_isKind (N := N) hW (by omega) ) (by omega) (Nat.le_of_ble_eq_true rfl) rfl dX8_isUnder_13 (fun r3 => ?_)
    refine go_br (M := mX8_isUnder) (pt := 38) (pf := 19) (fun kt kf => r_if_eq (M := mX8_isUnder) dX8_isUnder_16 (by decide) kt kf) (fun hc4 => ?_) (fun hc4 => ?_)
    · refine go1 (M := mX8_isUnder) (pc' := 39) (r_iconst (M := mX8_isUnder) (v := 0) (by decide) dX8_isUnder_38) ?_
      exact go_zret (M := mX8_isUnder) rfl rfl rfl dX8_isUnder_39
    · refine go1 (M := mX8_isUnder) (pc' := 20) (r_iload_n (M := mX8_isUnder) (i := 2) rfl dX8_isUnder_19) ?_
      refine go1 (M := mX8_isUnder) (pc' := 21) (r_iload_n (M := mX8_isUnder) (i := 1) rfl dX8_isUnder_20) ?_
      refine go_br (M := mX8_isUnder) (pt := 24) (pf := 26) (fun kt kf => r_icmp_ne (M := mX8_isUnder) dX8_isUnder_21 (by decide) kf kt) (fun hc5 => ?_) (fun hc5 => ?_)
      · refine go1 (M := mX8_isUnder) (pc' := 25) (r_iconst (M := mX8_isUnder) (v := 1) (by decide) dX8_isUnder_24) ?_
        exact go_zret (M := mX8_isUnder) rfl rfl rfl dX8_isUnder_25
      · refine go1 (M := mX8_isUnder) (pc' := 29) (r_getst (M := mX8_isUnder) (a := 0) (by decide) (tb3 12 (by decide +kernel) rfl) dX8_isUnder_26) ?_
        refine go1 (M := mX8_isUnder) (pc' := 30) (r_iload_n (M := mX8_isUnder) (i := 2) rfl dX8_isUnder_29) ?_
        refine go_ck (fun hi6 => ?_)
        refine go1 (M := mX8_isUnder) (pc' := 31) (r_ialdX2 (M := mX8_isUnder) (Or.inl (by decide)) hi6 dX8_isUnder_30) ?_
        refine go1 (M := mX8_isUnder) (pc' := 32) (ls' := [none, some (.int p1), some (.int (x.1 0 p2.toNatClampNeg)), some (.int p3)]) (r_istore_n (M := mX8_isUnder) (ls := [none, some (.int p1), some (.int p2), some (.int p3)]) (i := 2) (v := (x.1 0 p2.toNatClampNeg)) (by decide) rfl dX8_isUnder_31) ?_
        refine go1 (M := mX8_isUnder) (pc' := 35) (ls' := [none, some (.int p1), some (.int (x.1 0 p2.toNatClampNeg)), some (.int (p3 + 1))]) (r_iinc (M := mX8_isUnder) (ls := [none, some (.int p1), some (.int (x.1 0 p2.toNatClampNeg)), some (.int p3)]) (i := 3) (v := p3) (c' := 1) (by decide) rfl (by decide) rfl dX8_isUnder_32) ?_
        refine go1 (M := mX8_isUnder) (pc' := 4) (r_goto (M := mX8_isUnder) dX8_isUnder_35 (by decide)) ?_
        exact hbk4 (x.1 0 p2.toNatClampNeg) (p3 + 1)
def lp_X8_isUnder_4 (N : Nat) (S : SH) (p1 : Int32) (p2 : Int32) (p3 : Int32) (x : DY) : Option Int32 :=
  itr (fun back (v : Int32 × Int32) => lp_X8_isUnder_4_b N S (fun p2 p3 => back (p2, p3)) p1 v.1 v.2 x) N (p2, p3)
theorem lp_X8_isUnder_4_t {N d : Nat} {S : SH} (hW : WT S) (hd : 2 ≤ d) (p1 : Int32) (p2 : Int32) (p3 : Int32) (x : DY) : Go mX8_isUnder d S (wPI x) 4 [none, some (.int p1), some (.int p2), some (.int p3)] [] x (lp_X8_isUnder_4 N S p1 p2 p3 x) := by
  unfold lp_X8_isUnder_4
  exact go_itr (L := fun (v : Int32 × Int32) => [none, some (.int p1), some (.int v.1), some (.int v.2)]) (X := fun (v : Int32 × Int32) => x) (fun back hB v => lp_X8_isUnder_4_b_t (N := N) hW hd (fun p2 p3 => back (p2, p3)) p1 v.1 v.2 x  (fun p2 p3 => hB (p2, p3)) ) N (p2, p3)
def f_X8_isUnder (N : Nat) (S : SH) (a0 : Int32) (a1 : Int32) (x : DY) : Option Int32 :=
  lp_X8_isUnder_4 N S a1 a0 0 x
set_option maxHeartbeats 1000000 in
theorem t_X8_isUnder {N d : Nat} {S : SH} (hW : WT S) {x : DY} {a0 : Int32} {a1 : Int32} (hd : 2 ≤ d) : CT mX8_isUnder d S [.int a0, .int a1] x (wPI x) (f_X8_isUnder N S a0 a1 x) := by
  refine CT.of [some (.int a0), some (.int a1), none, none] rfl (Nat.le_of_ble_eq_true rfl) (by decide +kernel) ?_
  unfold f_X8_isUnder
  refine go1 (M := mX8_isUnder) (pc' := 1) (r_iload_n (M := mX8_isUnder) (i := 0) rfl dX8_isUnder_0) ?_
  refine go1 (M := mX8_isUnder) (pc' := 2) (ls' := [some (.int a0), some (.int a1), some (.int a0), none]) (r_istore_n (M := mX8_isUnder) (ls := [some (.int a0), some (.int a1), none, none]) (i := 2) (v := a0) (by decide) rfl dX8_isUnder_1) ?_
  refine go1 (M := mX8_isUnder) (pc' := 3) (r_iconst (M := mX8_isUnder) (v := 0) (by decide) dX8_isUnder_2) ?_
  refine go1 (M := mX8_isUnder) (pc' := 4) (ls' := [some (.int a0), some (.int a1), some (.int a0), some (.int 0)]) (r_istore_n (M := mX8_isUnder) (ls := [some (.int a0), some (.int a1), some (.int a0), none]) (i := 3) (v := 0) (by decide) rfl dX8_isUnder_3) ?_
  refine go_drop (ls' := [none, some (.int a1), some (.int a0), some (.int 0)]) (And.intro rfl (And.intro rfl (And.intro rfl trivial))) ?_
  refine lp_X8_isUnder_4_t (N := N) hW (by omega) a1 a0 0 x
def lp_X8_hasOneAt_2_b (N : Nat) (S : SH) (bk2 : Int32 → Option Int32) (p0 : Nat) (p1 : Int32) (p2 : Int32) (x : DY) : Option Int32 :=
  (if (x.1 p0 7) ≤ p2 then some 0 else ck S (pr S p0 0) p2 ((if (x.1 (pr S p0 0) p2.toNatClampNeg) = p1 then some 1 else bk2 (p2 + 1))))
set_option maxHeartbeats 1000000 in
theorem lp_X8_hasOneAt_2_b_t {N d : Nat} {S : SH} (hW : WT S) (hd : 1 ≤ d) (bk2 : Int32 → Option Int32) (p0 : Nat) (p1 : Int32) (p2 : Int32) (x : DY) (g0 : TY S p0 8) (hbk2 : ∀ (v2 : Int32), Go mX8_hasOneAt d S (wPI x) 2 [some (.ref p0), some (.int p1), some (.int v2)] [] x (bk2 v2)) : Go mX8_hasOneAt d S (wPI x) 2 [some (.ref p0), some (.int p1), some (.int p2)] [] x (lp_X8_hasOneAt_2_b N S bk2 p0 p1 p2 x) := by
  unfold lp_X8_hasOneAt_2_b
  refine go1 (M := mX8_hasOneAt) (pc' := 3) (r_iload_n (M := mX8_hasOneAt) (i := 2) rfl dX8_hasOneAt_2) ?_
  refine go1 (M := mX8_hasOneAt) (pc' := 4) (r_aload_n (M := mX8_hasOneAt) (i := 0) rfl dX8_hasOneAt_3) ?_
  refine go1 (M := mX8_hasOneAt) (pc' := 7) (r_getI (M := mX8_hasOneAt) fl_8_33 g0 rfl dX8_hasOneAt_4) ?_
  refine go_br (M := mX8_hasOneAt) (pt := 28) (pf := 10) (fun kt kf => r_icmp_ge (M := mX8_hasOneAt) dX8_hasOneAt_7 (by decide) kt kf) (fun hc2 => ?_) (fun hc2 => ?_)
  · refine go1 (M := mX8_hasOneAt) (pc' := 29) (r_iconst (M := mX8_hasOneAt) (v := 0) (by decide) dX8_hasOneAt_28) ?_
    exact go_zret (M := mX8_hasOneAt) rfl rfl rfl dX8_hasOneAt_29
  · refine go1 (M := mX8_hasOneAt) (pc' := 11) (r_aload_n (M := mX8_hasOneAt) (i := 0) rfl dX8_hasOneAt_10) ?_
    refine go1 (M := mX8_hasOneAt) (pc' := 14) (r_getR (M := mX8_hasOneAt) fl_8_9 g0 rfl (wt_some hW g0 (by decide) (by decide) rfl) dX8_hasOneAt_11) ?_
    have hT3 : TY S (pr S p0 0) 14 := wt hW g0 (by decide) (by decide) rfl (by decide)
    refine go1 (M := mX8_hasOneAt) (pc' := 15) (r_iload_n (M := mX8_hasOneAt) (i := 2) rfl dX8_hasOneAt_14) ?_
    refine go_ck (fun hi4 => ?_)
    refine go1 (M := mX8_hasOneAt) (pc' := 16) (r_iald (M := mX8_hasOneAt) hT3 hi4 dX8_hasOneAt_15) ?_
    refine go1 (M := mX8_hasOneAt) (pc' := 17) (r_iload_n (M := mX8_hasOneAt) (i := 1) rfl dX8_hasOneAt_16) ?_
    refine go_br (M := mX8_hasOneAt) (pt := 20) (pf := 22) (fun kt kf => r_icmp_ne (M := mX8_hasOneAt) dX8_hasOneAt_17 (by decide) kf kt) (fun hc5 => ?_) (fun hc5 => ?_)
    · refine go1 (M := mX8_hasOneAt) (pc' := 21) (r_iconst (M := mX8_hasOneAt) (v := 1) (by decide) dX8_hasOneAt_20) ?_
      exact go_zret (M := mX8_hasOneAt) rfl rfl rfl dX8_hasOneAt_21
    · refine go1 (M := mX8_hasOneAt) (pc' := 25) (ls' := [some (.ref p0), some (.int p1), some (.int (p2 + 1))]) (r_iinc (M := mX8_hasOneAt) (ls := [some (.ref p0), some (.int p1), some (.int p2)]) (i := 2) (v := p2) (c' := 1) (by decide) rfl (by decide) rfl dX8_hasOneAt_22) ?_
      refine go1 (M := mX8_hasOneAt) (pc' := 2) (r_goto (M := mX8_hasOneAt) dX8_hasOneAt_25 (by decide)) ?_
      exact hbk2 (p2 + 1)
def lp_X8_hasOneAt_2 (N : Nat) (S : SH) (p0 : Nat) (p1 : Int32) (p2 : Int32) (x : DY) : Option Int32 :=
  itr (fun back (v : Int32) => lp_X8_hasOneAt_2_b N S (fun p2 => back p2) p0 p1 v x) N p2
theorem lp_X8_hasOneAt_2_t {N d : Nat} {S : SH} (hW : WT S) (hd : 1 ≤ d) (p0 : Nat) (p1 : Int32) (p2 : Int32) (x : DY) (g0 : TY S p0 8) : Go mX8_hasOneAt d S (wPI x) 2 [some (.ref p0), some (.int p1), some (.int p2)] [] x (lp_X8_hasOneAt_2 N S p0 p1 p2 x) := by
  unfold lp_X8_hasOneAt_2
  exact go_itr (L := fun (v : Int32) => [some (.ref p0), some (.int p1), some (.int v)]) (X := fun (v : Int32) => x) (fun back hB v => lp_X8_hasOneAt_2_b_t (N := N) hW hd (fun p2 => back p2) p0 p1 v x g0 (fun p2 => hB p2) ) N p2
def f_X8_hasOneAt (N : Nat) (S : SH) (a0 : Nat) (a1 : Int32) (x : DY) : Option Int32 :=
  lp_X8_hasOneAt_2 N S a0 a1 0 x
set_option maxHeartbeats 1000000 in
theorem t_X8_hasOneAt {N d : Nat} {S : SH} (hW : WT S) {x : DY} {a0 : Nat} {a1 : Int32} (hd : 1 ≤ d) (h0 : TY S a0 8) : CT mX8_hasOneAt d S [.ref a0, .int a1] x (wPI x) (f_X8_hasOneAt N S a0 a1 x) := by
  refine CT.of [some (.ref a0), some (.int a1), none] rfl (Nat.le_of_ble_eq_true rfl) (by decide +kernel) ?_
  unfold f_X8_hasOneAt
  refine go1 (M := mX8_hasOneAt) (pc' := 1) (r_iconst (M := mX8_hasOneAt) (v := 0) (by decide) dX8_hasOneAt_0) ?_
  refine go1 (M := mX8_hasOneAt) (pc' := 2) (ls' := [some (.ref a0), some (.int a1), some (.int 0)]) (r_istore_n (M := mX8_hasOneAt) (ls := [some (.ref a0), some (.int a1), none]) (i := 2) (v := 0) (by decide) rfl dX8_hasOneAt_1) ?_
  refine lp_X8_hasOneAt_2_t (N := N) hW (by omega) a0 a1 0 x h0
def f_X8_add (N : Nat) (S : SH) (a0 : Nat) (a1 : Int32) (x : DY) : Option (Int32 × DY) :=
  (if (x.1 a0 7) < 0 then some ((-4), x) else (if (x.1 a0 7) < 8 then bl (U1 x a0 7 ((x.1 a0 7) + 1)) (fun x3 => ck S (pr S a0 0) (x.1 a0 7) (bl (U1 x3 (pr S a0 0) (x.1 a0 7).toNatClampNeg a1) (fun x6 => Option.bind (f_X8_clear N S a0 (x.1 a0 7) x6) (fun r7 => some ((x.1 a0 7), r7))))) else some ((-4), x)))
set_option maxHeartbeats 1000000 in
theorem t_X8_add {N d : Nat} {S : SH} (hW : WT S) {x : DY} {a0 : Nat} {a1 : Int32} (hd : 2 ≤ d) (h0 : TY S a0 8) : CT mX8_add d S [.ref a0, .int a1] x wSI (f_X8_add N S a0 a1 x) := by
  refine CT.of [some (.ref a0), some (.int a1), none] rfl (Nat.le_of_ble_eq_true rfl) (by decide +kernel) ?_
  unfold f_X8_add
  refine go1 (M := mX8_add) (pc' := 1) (r_aload_n (M := mX8_add) (i := 0) rfl dX8_add_0) ?_
  refine go1 (M := mX8_add) (pc' := 4) (r_getI (M := mX8_add) fl_8_33 h0 rfl dX8_add_1) ?_
  refine go1 (M := mX8_add) (pc' := 5) (ls' := [some (.ref a0), some (.int a1), some (.int (x.1 a0 7))]) (r_istore_n (M := mX8_add) (ls := [some (.ref a0), some (.int a1), none]) (i := 2) (v := (x.1 a0 7)) (by decide) rfl dX8_add_4) ?_
  refine go1 (M := mX8_add) (pc' := 6) (r_iload_n (M := mX8_add) (i := 2) rfl dX8_add_5) ?_
  refine go_br (M := mX8_add) (pt := 15) (pf := 9) (fun kt kf => r_if_lt (M := mX8_add) dX8_add_6 (by decide) kt kf) (fun hc1 => ?_) (fun hc1 => ?_)
  · refine go1 (M := mX8_add) (pc' := 17) (r_bipush (M := mX8_add) (v := (-4)) (by decide) dX8_add_15) ?_
    exact go_iret (M := mX8_add) rfl rfl dX8_add_17
  · refine go1 (M := mX8_add) (pc' := 10) (r_iload_n (M := mX8_add) (i := 2) rfl dX8_add_9) ?_
    refine go1 (M := mX8_add) (pc' := 12) (r_bipush (M := mX8_add) (v := 8) (by decide) dX8_add_10) ?_
    refine go_br (M := mX8_add) (pt := 18) (pf := 15) (fun kt kf => r_icmp_lt (M := mX8_add) dX8_add_12 (by decide) kt kf) (fun hc2 => ?_) (fun hc2 => ?_)
    · refine go1 (M := mX8_add) (pc' := 19) (r_aload_n (M := mX8_add) (i := 0) rfl dX8_add_18) ?_
      refine go1 (M := mX8_add) (pc' := 20) (r_dup (M := mX8_add) rfl dX8_add_19) ?_
      refine go1 (M := mX8_add) (pc' := 23) (r_getI (M := mX8_add) fl_8_33 h0 rfl dX8_add_20) ?_
      refine go1 (M := mX8_add) (pc' := 24) (r_iconst (M := mX8_add) (v := 1) (by decide) dX8_add_23) ?_
      refine go1 (M := mX8_add) (pc' := 25) (r_iadd (M := mX8_add) dX8_add_24) ?_
      refine go1 (M := mX8_add) (pc' := 28) (r_putI (M := mX8_add) fl_8_33 h0 rfl rfl dX8_add_25) ?_
      refine go_blx (fun x3 => ?_)
      refine go1 (M := mX8_add) (pc' := 29) (r_aload_n (M := mX8_add) (i := 0) rfl dX8_add_28) ?_
      refine go1 (M := mX8_add) (pc' := 32) (r_getR (M := mX8_add) fl_8_9 h0 rfl (wt_some hW h0 (by decide) (by decide) rfl) dX8_add_29) ?_
      have hT4 : TY S (pr S a0 0) 14 := wt hW h0 (by decide) (by decide) rfl (by decide)
      refine go1 (M := mX8_add) (pc' := 33) (r_iload_n (M := mX8_add) (i := 2) rfl dX8_add_32) ?_
      refine go1 (M := mX8_add) (pc' := 34) (r_iload_n (M := mX8_add) (i := 1) rfl dX8_add_33) ?_
      refine go_ck (fun hi5 => ?_)
      refine go1 (M := mX8_add) (pc' := 35) (r_iast (M := mX8_add) hT4 hi5 dX8_add_34) ?_
      refine go_blx (fun x6 => ?_)
      refine go1 (M := mX8_add) (pc' := 36) (r_aload_n (M := mX8_add) (i := 0) rfl dX8_add_35) ?_
      refine go1 (M := mX8_add) (pc' := 37) (r_iload_n (M := mX8_add) (i := 2) rfl dX8_add_36) ?_
      refine go_V_SV (M := mX8_add) (pc' := 40) (st := []) (As := [.int (x.1 a0 7)]) rfl ln_8_50 lb_X8_clear (t_X8_clear (N := N) hW (by omega) h0) (by omega) h0 (Nat.le_of_ble_eq_true rfl) rfl dX8_add_37 (fun r7 => ?_)
      refine go1 (M := mX8_add) (pc' := 41) (r_iload_n (M := mX8_add) (i := 2) rfl dX8_add_40) ?_
      exact go_iret (M := mX8_add) rfl rfl dX8_add_41
    · refine go1 (M := mX8_add) (pc' := 17) (r_bipush (M := mX8_add) (v := (-4)) (by decide) dX8_add_15) ?_
      exact go_iret (M := mX8_add) rfl rfl dX8_add_17
def f_X8_welcome (N : Nat) (S : SH) (a0 : Nat) (a1 : Int32) (a2 : Int32) (a3 : Int32) (x : DY) : Option DY :=
  Option.bind (f_X8_has N S a0 a1 x) (fun r1 => (if r1 = 0 then some x else Option.bind (f_X8_clear N S a0 a1 x) (fun r3 => ck S (pr S a0 1) a1 (bl (U1 r3 (pr S a0 1) a1.toNatClampNeg a2) (fun x6 => ck S (pr S a0 2) a1 (bl (U1 x6 (pr S a0 2) a1.toNatClampNeg a3) (fun x9 => some x9)))))))
set_option maxHeartbeats 1000000 in
theorem t_X8_welcome {N d : Nat} {S : SH} (hW : WT S) {x : DY} {a0 : Nat} {a1 : Int32} {a2 : Int32} {a3 : Int32} (hd : 2 ≤ d) (h0 : TY S a0 8) : CT mX8_welcome d S [.ref a0, .int a1, .int a2, .int a3] x wSV (f_X8_welcome N S a0 a1 a2 a3 x) := by
  refine CT.of [some (.ref a0), some (.int a1), some (.int a2), some (.int a3)] rfl (Nat.le_of_ble_eq_true rfl) (by decide +kernel) ?_
  unfold f_X8_welcome
  refine go1 (M := mX8_welcome) (pc' := 1) (r_aload_n (M := mX8_welcome) (i := 0) rfl dX8_welcome_0) ?_
  refine go1 (M := mX8_welcome) (pc' := 2) (r_iload_n (M := mX8_welcome) (i := 1) rfl dX8_welcome_1) ?_
  refine go_V_PI (M := mX8_welcome) (pc' := 5) (st := []) (As := [.int a1]) rfl ln_8_54 lb_X8_has (t_X8_has (N := N) hW (by omega) h0) (by omega) h0 (Nat.le_of_ble_eq_true rfl) rfl dX8_welcome_2 (fun r1 => ?_)
  refine go_br (M := mX8_welcome) (pt := 27) (pf := 8) (fun kt kf => r_if_eq (M := mX8_welcome) dX8_welcome_5 (by decide) kt kf) (fun hc2 => ?_) (fun hc2 => ?_)
  · exact go_vret (M := mX8_welcome) rfl rfl dX8_welcome_27
  · refine go1 (M := mX8_welcome) (pc' := 9) (r_aload_n (M := mX8_welcome) (i := 0) rfl dX8_welcome_8) ?_
    refine go1 (M := mX8_welcome) (pc' := 10) (r_iload_n (M := mX8_welcome) (i := 1) rfl dX8_welcome_9) ?_
    refine go_V_SV (M := mX8_welcome) (pc' := 13) (st := []) (As := [.int a1]) rfl ln_8_50 lb_X8_clear (t_X8_clear (N := N) hW (by omega) h0) (by omega) h0 (Nat.le_of_ble_eq_true rfl) rfl dX8_welcome_10 (fun r3 => ?_)
    refine go1 (M := mX8_welcome) (pc' := 14) (r_aload_n (M := mX8_welcome) (i := 0) rfl dX8_welcome_13) ?_
    refine go1 (M := mX8_welcome) (pc' := 17) (r_getR (M := mX8_welcome) fl_8_15 h0 rfl (wt_some hW h0 (by decide) (by decide) rfl) dX8_welcome_14) ?_
    have hT4 : TY S (pr S a0 1) 14 := wt hW h0 (by decide) (by decide) rfl (by decide)
    refine go1 (M := mX8_welcome) (pc' := 18) (r_iload_n (M := mX8_welcome) (i := 1) rfl dX8_welcome_17) ?_
    refine go1 (M := mX8_welcome) (pc' := 19) (r_iload_n (M := mX8_welcome) (i := 2) rfl dX8_welcome_18) ?_
    refine go_ck (fun hi5 => ?_)
    refine go1 (M := mX8_welcome) (pc' := 20) (r_iast (M := mX8_welcome) hT4 hi5 dX8_welcome_19) ?_
    refine go_blx (fun x6 => ?_)
    refine go1 (M := mX8_welcome) (pc' := 21) (r_aload_n (M := mX8_welcome) (i := 0) rfl dX8_welcome_20) ?_
    refine go1 (M := mX8_welcome) (pc' := 24) (r_getR (M := mX8_welcome) fl_8_18 h0 rfl (wt_some hW h0 (by decide) (by decide) rfl) dX8_welcome_21) ?_
    have hT7 : TY S (pr S a0 2) 14 := wt hW h0 (by decide) (by decide) rfl (by decide)
    refine go1 (M := mX8_welcome) (pc' := 25) (r_iload_n (M := mX8_welcome) (i := 1) rfl dX8_welcome_24) ?_
    refine go1 (M := mX8_welcome) (pc' := 26) (r_iload_n (M := mX8_welcome) (i := 3) rfl dX8_welcome_25) ?_
    refine go_ck (fun hi8 => ?_)
    refine go1 (M := mX8_welcome) (pc' := 27) (r_iast (M := mX8_welcome) hT7 hi8 dX8_welcome_26) ?_
    refine go_blx (fun x9 => ?_)
    exact go_vret (M := mX8_welcome) rfl rfl dX8_welcome_27
def j_X8_guests_26 (N : Nat) (S : SH) (bk4 : Int32 → Int32 → Option Int32) (p0 : Nat) (p2 : Int32) (q0 : Int32) (q1 : Int32) (x : DY) : Option Int32 :=
  bk4 (q1 + q0) (p2 + 1)
set_option maxHeartbeats 1000000 in
theorem j_X8_guests_26_t {N d : Nat} {S : SH} (hW : WT S) (hd : 2 ≤ d) (bk4 : Int32 → Int32 → Option Int32) (p0 : Nat) (p2 : Int32) (q0 : Int32) (q1 : Int32) (x : DY) (g0 : TY S p0 8) (hbk4 : ∀ (v1 : Int32) (v2 : Int32), Go mX8_guests d S (wPI x) 4 [some (.ref p0), some (.int v1), some (.int v2)] [] x (bk4 v1 v2)) : Go mX8_guests d S (wPI x) 26 [some (.ref p0), none, some (.int p2)] [.int q0, .int q1] x (j_X8_guests_26 N S bk4 p0 p2 q0 q1 x) := by
  unfold j_X8_guests_26
  refine go1 (M := mX8_guests) (pc' := 27) (r_iadd (M := mX8_guests) dX8_guests_26) ?_
  refine go1 (M := mX8_guests) (pc' := 28) (ls' := [some (.ref p0), some (.int (q1 + q0)), some (.int p2)]) (r_istore_n (M := mX8_guests) (ls := [some (.ref p0), none, some (.int p2)]) (i := 1) (v := (q1 + q0)) (by decide) rfl dX8_guests_27) ?_
  refine go1 (M := mX8_guests) (pc' := 31) (ls' := [some (.ref p0), some (.int (q1 + q0)), some (.int (p2 + 1))]) (r_iinc (M := mX8_guests) (ls := [some (.ref p0), some (.int (q1 + q0)), some (.int p2)]) (i := 2) (v := p2) (c' := 1) (by decide) rfl (by decide) rfl dX8_guests_28) ?_
  refine go1 (M := mX8_guests) (pc' := 4) (r_goto (M := mX8_guests) dX8_guests_31 (by decide)) ?_
  exact hbk4 (q1 + q0) (p2 + 1)
def lp_X8_guests_4_b (N : Nat) (S : SH) (bk4 : Int32 → Int32 → Option Int32) (p0 : Nat) (p1 : Int32) (p2 : Int32) (x : DY) : Option Int32 :=
  (if (x.1 p0 7) ≤ p2 then some p1 else Option.bind (f_X8_isTaken N S p0 p2 x) (fun r3 => (if r3 = 0 then j_X8_guests_26 N S bk4 p0 p2 0 p1 x else j_X8_guests_26 N S bk4 p0 p2 1 p1 x)))
set_option maxHeartbeats 1000000 in
theorem lp_X8_guests_4_b_t {N d : Nat} {S : SH} (hW : WT S) (hd : 2 ≤ d) (bk4 : Int32 → Int32 → Option Int32) (p0 : Nat) (p1 : Int32) (p2 : Int32) (x : DY) (g0 : TY S p0 8) (hbk4 : ∀ (v1 : Int32) (v2 : Int32), Go mX8_guests d S (wPI x) 4 [some (.ref p0), some (.int v1), some (.int v2)] [] x (bk4 v1 v2)) : Go mX8_guests d S (wPI x) 4 [some (.ref p0), some (.int p1), some (.int p2)] [] x (lp_X8_guests_4_b N S bk4 p0 p1 p2 x) := by
  unfold lp_X8_guests_4_b
  refine go1 (M := mX8_guests) (pc' := 5) (r_iload_n (M := mX8_guests) (i := 2) rfl dX8_guests_4) ?_
  refine go1 (M := mX8_guests) (pc' := 6) (r_aload_n (M := mX8_guests) (i := 0) rfl dX8_guests_5) ?_
  refine go1 (M := mX8_guests) (pc' := 9) (r_getI (M := mX8_guests) fl_8_33 g0 rfl dX8_guests_6) ?_
  refine go_br (M := mX8_guests) (pt := 34) (pf := 12) (fun kt kf => r_icmp_ge (M := mX8_guests) dX8_guests_9 (by decide) kt kf) (fun hc2 => ?_) (fun hc2 => ?_)
  · refine go1 (M := mX8_guests) (pc' := 35) (r_iload_n (M := mX8_guests) (i := 1) rfl dX8_guests_34) ?_
    exact go_iret (M := mX8_guests) rfl rfl dX8_guests_35
  · refine go1 (M := mX8_guests) (pc' := 13) (r_iload_n (M := mX8_guests) (i := 1) rfl dX8_guests_12) ?_
    refine go1 (M := mX8_guests) (pc' := 14) (r_aload_n (M := mX8_guests) (i := 0) rfl dX8_guests_13) ?_
    refine go1 (M := mX8_guests) (pc' := 15) (r_iload_n (M := mX8_guests) (i := 2) rfl dX8_guests_14) ?_
    refine go_V_PI (M := mX8_guests) (pc' := 18) (st := [.int p1]) (As := [.int p2]) rfl ln_8_57 lb_X8_isTaken (t_X8_isTaken (N := N) hW (by omega) g0) (by omega) g0 (Nat.le_of_ble_eq_true rfl) rfl dX8_guests_15 (fun r3 => ?_)
    refine go_br (M := mX8_guests) (pt := 25) (pf := 21) (fun kt kf => r_if_eq (M := mX8_guests) dX8_guests_18 (by decide) kt kf) (fun hc4 => ?_) (fun hc4 => ?_)
    · refine go1 (M := mX8_guests) (pc' := 26) (r_iconst (M := mX8_guests) (v := 0) (by decide) dX8_guests_25) ?_
      refine go_drop (ls' := [some (.ref p0), none, some (.int p2)]) (And.intro rfl (And.intro rfl trivial)) ?_
      exact j_X8_guests_26_t (N := N) hW (by omega) bk4 p0 p2 0 p1 x g0 hbk4
    · refine go1 (M := mX8_guests) (pc' := 22) (r_iconst (M := mX8_guests) (v := 1) (by decide) dX8_guests_21) ?_
      refine go1 (M := mX8_guests) (pc' := 26) (r_goto (M := mX8_guests) dX8_guests_22 (by decide)) ?_
      refine go_drop (ls' := [some (.ref p0), none, some (.int p2)]) (And.intro rfl (And.intro rfl trivial)) ?_
      exact j_X8_guests_26_t (N := N) hW (by omega) bk4 p0 p2 1 p1 x g0 hbk4
def lp_X8_guests_4 (N : Nat) (S : SH) (p0 : Nat) (p1 : Int32) (p2 : Int32) (x : DY) : Option Int32 :=
  itr (fun back (v : Int32 × Int32) => lp_X8_guests_4_b N S (fun p1 p2 => back (p1, p2)) p0 v.1 v.2 x) N (p1, p2)
theorem lp_X8_guests_4_t {N d : Nat} {S : SH} (hW : WT S) (hd : 2 ≤ d) (p0 : Nat) (p1 : Int32) (p2 : Int32) (x : DY) (g0 : TY S p0 8) : Go mX8_guests d S (wPI x) 4 [some (.ref p0), some (.int p1), some (.int p2)] [] x (lp_X8_guests_4 N S p0 p1 p2 x) := by
  unfold lp_X8_guests_4
  exact go_itr (L := fun (v : Int32 × Int32) => [some (.ref p0), some (.int v.1), some (.int v.2)]) (X := fun (v : Int32 × Int32) => x) (fun back hB v => lp_X8_guests_4_b_t (N := N) hW hd (fun p1 p2 => back (p1, p2)) p0 v.1 v.2 x g0 (fun p1 p2 => hB (p1, p2)) ) N (p1, p2)
def f_X8_guests (N : Nat) (S : SH) (a0 : Nat) (x : DY) : Option Int32 :=
  lp_X8_guests_4 N S a0 0 0 x
set_option maxHeartbeats 1000000 in
theorem t_X8_guests {N d : Nat} {S : SH} (hW : WT S) {x : DY} {a0 : Nat} (hd : 2 ≤ d) (h0 : TY S a0 8) : CT mX8_guests d S [.ref a0] x (wPI x) (f_X8_guests N S a0 x) := by
  refine CT.of [some (.ref a0), none, none] rfl (Nat.le_of_ble_eq_true rfl) (by decide +kernel) ?_
  unfold f_X8_guests
  refine go1 (M := mX8_guests) (pc' := 1) (r_iconst (M := mX8_guests) (v := 0) (by decide) dX8_guests_0) ?_
  refine go1 (M := mX8_guests) (pc' := 2) (ls' := [some (.ref a0), some (.int 0), none]) (r_istore_n (M := mX8_guests) (ls := [some (.ref a0), none, none]) (i := 1) (v := 0) (by decide) rfl dX8_guests_1) ?_
  refine go1 (M := mX8_guests) (pc' := 3) (r_iconst (M := mX8_guests) (v := 0) (by decide) dX8_guests_2) ?_
  refine go1 (M := mX8_guests) (pc' := 4) (ls' := [some (.ref a0), some (.int 0), some (.int 0)]) (r_istore_n (M := mX8_guests) (ls := [some (.ref a0), some (.int 0), none]) (i := 2) (v := 0) (by decide) rfl dX8_guests_3) ?_
  refine lp_X8_guests_4_t (N := N) hW (by omega) a0 0 0 x h0
def f_X9_isSheet (N : Nat) (S : SH) (a0 : Int32) (x : DY) : Option Int32 :=
  Option.bind (f_X11_within N S a0 0 3 x) (fun r1 => bz r1 (some r1))
set_option maxHeartbeats 1000000 in
theorem t_X9_isSheet {N d : Nat} {S : SH} (hW : WT S) {x : DY} {a0 : Int32} (hd : 2 ≤ d) : CT mX9_isSheet d S [.int a0] x (wPI x) (f_X9_isSheet N S a0 x) := by
  refine CT.of [some (.int a0)] rfl (Nat.le_of_ble_eq_true rfl) (by decide +kernel) ?_
  unfold f_X9_isSheet
  refine go1 (M := mX9_isSheet) (pc' := 1) (r_iload_n (M := mX9_isSheet) (i := 0) rfl dX9_isSheet_0) ?_
  refine go1 (M := mX9_isSheet) (pc' := 2) (r_iconst (M := mX9_isSheet) (v := 0) (by decide) dX9_isSheet_1) ?_
  refine go1 (M := mX9_isSheet) (pc' := 3) (r_iconst (M := mX9_isSheet) (v := 3) (by decide) dX9_isSheet_2) ?_
  refine go_SN_PI (M := mX9_isSheet) (pc' := 6) (st := []) (As := [.int a0, .int 0, .int 3]) rfl ln_9_21 lb_X11_within (t_X11_within (N := N) hW (by omega) ) (by omega) (Nat.le_of_ble_eq_true rfl) rfl dX9_isSheet_3 (fun r1 => ?_)
  refine go_bz (fun hn2 => ?_)
  exact go_zret (M := mX9_isSheet) rfl hn2 rfl dX9_isSheet_6
def f_X9_isSort (N : Nat) (S : SH) (a0 : Int32) (x : DY) : Option Int32 :=
  Option.bind (f_X11_within N S a0 0 2 x) (fun r1 => bz r1 (some r1))
set_option maxHeartbeats 1000000 in
theorem t_X9_isSort {N d : Nat} {S : SH} (hW : WT S) {x : DY} {a0 : Int32} (hd : 2 ≤ d) : CT mX9_isSort d S [.int a0] x (wPI x) (f_X9_isSort N S a0 x) := by
  refine CT.of [some (.int a0)] rfl (Nat.le_of_ble_eq_true rfl) (by decide +kernel) ?_
  unfold f_X9_isSort
  refine go1 (M := mX9_isSort) (pc' := 1) (r_iload_n (M := mX9_isSort) (i := 0) rfl dX9_isSort_0) ?_
  refine go1 (M := mX9_isSort) (pc' := 2) (r_iconst (M := mX9_isSort) (v := 0) (by decide) dX9_isSort_1) ?_
  refine go1 (M := mX9_isSort) (pc' := 3) (r_iconst (M := mX9_isSort) (v := 2) (by decide) dX9_isSort_2) ?_
  refine go_SN_PI (M := mX9_isSort) (pc' := 6) (st := []) (As := [.int a0, .int 0, .int 2]) rfl ln_9_21 lb_X11_within (t_X11_within (N := N) hW (by omega) ) (by omega) (Nat.le_of_ble_eq_true rfl) rfl dX9_isSort_3 (fun r1 => ?_)
  refine go_bz (fun hn2 => ?_)
  exact go_zret (M := mX9_isSort) rfl hn2 rfl dX9_isSort_6
def f_X9_hasItem (N : Nat) (S : SH) (a0 : Nat) (a1 : Int32) (a2 : Int32) (x : DY) : Option Int32 :=
  Option.bind (f_X9_isSheet N S a1 x) (fun r1 => (if r1 = 0 then some 0 else (if a2 < 0 then some 0 else ck S (pr S a0 1) a1 ((if (x.1 (pr S a0 1) a1.toNatClampNeg) ≤ a2 then some 0 else (if 40 ≤ a2 then some 0 else some 1))))))
set_option maxHeartbeats 1000000 in
theorem t_X9_hasItem {N d : Nat} {S : SH} (hW : WT S) {x : DY} {a0 : Nat} {a1 : Int32} {a2 : Int32} (hd : 3 ≤ d) (h0 : TY S a0 9) : CT mX9_hasItem d S [.ref a0, .int a1, .int a2] x (wPI x) (f_X9_hasItem N S a0 a1 a2 x) := by
  refine CT.of [some (.ref a0), some (.int a1), some (.int a2)] rfl (Nat.le_of_ble_eq_true rfl) (by decide +kernel) ?_
  unfold f_X9_hasItem
  refine go1 (M := mX9_hasItem) (pc' := 1) (r_iload_n (M := mX9_hasItem) (i := 1) rfl dX9_hasItem_0) ?_
  refine go_S_PI (M := mX9_hasItem) (pc' := 4) (st := []) (As := [.int a1]) rfl ln_9_27 lb_X9_isSheet (t_X9_isSheet (N := N) hW (by omega) ) (by omega) (Nat.le_of_ble_eq_true rfl) rfl dX9_hasItem_1 (fun r1 => ?_)
  refine go_br (M := mX9_hasItem) (pt := 31) (pf := 7) (fun kt kf => r_if_eq (M := mX9_hasItem) dX9_hasItem_4 (by decide) kt kf) (fun hc2 => ?_) (fun hc2 => ?_)
  · refine go1 (M := mX9_hasItem) (pc' := 32) (r_iconst (M := mX9_hasItem) (v := 0) (by decide) dX9_hasItem_31) ?_
    exact go_zret (M := mX9_hasItem) rfl rfl rfl dX9_hasItem_32
  · refine go1 (M := mX9_hasItem) (pc' := 8) (r_iload_n (M := mX9_hasItem) (i := 2) rfl dX9_hasItem_7) ?_
    refine go_br (M := mX9_hasItem) (pt := 31) (pf := 11) (fun kt kf => r_if_lt (M := mX9_hasItem) dX9_hasItem_8 (by decide) kt kf) (fun hc3 => ?_) (fun hc3 => ?_)
    · refine go1 (M := mX9_hasItem) (pc' := 32) (r_iconst (M := mX9_hasItem) (v := 0) (by decide) dX9_hasItem_31) ?_
      exact go_zret (M := mX9_hasItem) rfl rfl rfl dX9_hasItem_32
    · refine go1 (M := mX9_hasItem) (pc' := 12) (r_iload_n (M := mX9_hasItem) (i := 2) rfl dX9_hasItem_11) ?_
      refine go1 (M := mX9_hasItem) (pc' := 13) (r_aload_n (M := mX9_hasItem) (i := 0) rfl dX9_hasItem_12) ?_
      refine go1 (M := mX9_hasItem) (pc' := 16) (r_getR (M := mX9_hasItem) fl_9_13 h0 rfl (wt_some hW h0 (by decide) (by decide) rfl) dX9_hasItem_13) ?_
      have hT4 : TY S (pr S a0 1) 14 := wt hW h0 (by decide) (by decide) rfl (by decide)
      refine go1 (M := mX9_hasItem) (pc' := 17) (r_iload_n (M := mX9_hasItem) (i := 1) rfl dX9_hasItem_16) ?_
      refine go_ck (fun hi5 => ?_)
      refine go1 (M := mX9_hasItem) (pc' := 18) (r_iald (M := mX9_hasItem) hT4 hi5 dX9_hasItem_17) ?_
      refine go_br (M := mX9_hasItem) (pt := 31) (pf := 21) (fun kt kf => r_icmp_ge (M := mX9_hasItem) dX9_hasItem_18 (by decide) kt kf) (fun hc6 => ?_) (fun hc6 => ?_)
      · refine go1 (M := mX9_hasItem) (pc' := 32) (r_iconst (M := mX9_hasItem) (v := 0) (by decide) dX9_hasItem_31) ?_
        exact go_zret (M := mX9_hasItem) rfl rfl rfl dX9_hasItem_32
      · refine go1 (M := mX9_hasItem) (pc' := 22) (r_iload_n (M := mX9_hasItem) (i := 2) rfl dX9_hasItem_21) ?_
        refine go1 (M := mX9_hasItem) (pc' := 24) (r_bipush (M := mX9_hasItem) (v := 40) (by decide) dX9_hasItem_22) ?_
        refine go_br (M := mX9_hasItem) (pt := 31) (pf := 27) (fun kt kf => r_icmp_ge (M := mX9_hasItem) dX9_hasItem_24 (by decide) kt kf) (fun hc7 => ?_) (fun hc7 => ?_)
        · refine go1 (M := mX9_hasItem) (pc' := 32) (r_iconst (M := mX9_hasItem) (v := 0) (by decide) dX9_hasItem_31) ?_
          exact go_zret (M := mX9_hasItem) rfl rfl rfl dX9_hasItem_32
        · refine go1 (M := mX9_hasItem) (pc' := 28) (r_iconst (M := mX9_hasItem) (v := 1) (by decide) dX9_hasItem_27) ?_
          refine go1 (M := mX9_hasItem) (pc' := 32) (r_goto (M := mX9_hasItem) dX9_hasItem_28 (by decide)) ?_
          exact go_zret (M := mX9_hasItem) rfl rfl rfl dX9_hasItem_32
def f_X9_remove (N : Nat) (S : SH) (a0 : Nat) (a1 : Int32) (x : DY) : Option DY :=
  Option.bind (f_X9_isSheet N S a1 x) (fun r1 => (if r1 = 0 then some x else ck S (pr S a0 0) a1 (bl (U1 x (pr S a0 0) a1.toNatClampNeg (-1)) (fun x5 => ck S (pr S a0 1) a1 (bl (U1 x5 (pr S a0 1) a1.toNatClampNeg 0) (fun x8 => some x8))))))
set_option maxHeartbeats 1000000 in
theorem t_X9_remove {N d : Nat} {S : SH} (hW : WT S) {x : DY} {a0 : Nat} {a1 : Int32} (hd : 3 ≤ d) (h0 : TY S a0 9) : CT mX9_remove d S [.ref a0, .int a1] x wSV (f_X9_remove N S a0 a1 x) := by
  refine CT.of [some (.ref a0), some (.int a1)] rfl (Nat.le_of_ble_eq_true rfl) (by decide +kernel) ?_
  unfold f_X9_remove
  refine go1 (M := mX9_remove) (pc' := 1) (r_iload_n (M := mX9_remove) (i := 1) rfl dX9_remove_0) ?_
  refine go_S_PI (M := mX9_remove) (pc' := 4) (st := []) (As := [.int a1]) rfl ln_9_27 lb_X9_isSheet (t_X9_isSheet (N := N) hW (by omega) ) (by omega) (Nat.le_of_ble_eq_true rfl) rfl dX9_remove_1 (fun r1 => ?_)
  refine go_br (M := mX9_remove) (pt := 21) (pf := 7) (fun kt kf => r_if_eq (M := mX9_remove) dX9_remove_4 (by decide) kt kf) (fun hc2 => ?_) (fun hc2 => ?_)
  · exact go_vret (M := mX9_remove) rfl rfl dX9_remove_21
  · refine go1 (M := mX9_remove) (pc' := 8) (r_aload_n (M := mX9_remove) (i := 0) rfl dX9_remove_7) ?_
    refine go1 (M := mX9_remove) (pc' := 11) (r_getR (M := mX9_remove) fl_9_9 h0 rfl (wt_some hW h0 (by decide) (by decide) rfl) dX9_remove_8) ?_
    have hT3 : TY S (pr S a0 0) 14 := wt hW h0 (by decide) (by decide) rfl (by decide)
    refine go1 (M := mX9_remove) (pc' := 12) (r_iload_n (M := mX9_remove) (i := 1) rfl dX9_remove_11) ?_
    refine go1 (M := mX9_remove) (pc' := 13) (r_iconst (M := mX9_remove) (v := (-1)) (by decide) dX9_remove_12) ?_
    refine go_ck (fun hi4 => ?_)
    refine go1 (M := mX9_remove) (pc' := 14) (r_iast (M := mX9_remove) hT3 hi4 dX9_remove_13) ?_
    refine go_blx (fun x5 => ?_)
    refine go1 (M := mX9_remove) (pc' := 15) (r_aload_n (M := mX9_remove) (i := 0) rfl dX9_remove_14) ?_
    refine go1 (M := mX9_remove) (pc' := 18) (r_getR (M := mX9_remove) fl_9_13 h0 rfl (wt_some hW h0 (by decide) (by decide) rfl) dX9_remove_15) ?_
    have hT6 : TY S (pr S a0 1) 14 := wt hW h0 (by decide) (by decide) rfl (by decide)
    refine go1 (M := mX9_remove) (pc' := 19) (r_iload_n (M := mX9_remove) (i := 1) rfl dX9_remove_18) ?_
    refine go1 (M := mX9_remove) (pc' := 20) (r_iconst (M := mX9_remove) (v := 0) (by decide) dX9_remove_19) ?_
    refine go_ck (fun hi7 => ?_)
    refine go1 (M := mX9_remove) (pc' := 21) (r_iast (M := mX9_remove) hT6 hi7 dX9_remove_20) ?_
    refine go_blx (fun x8 => ?_)
    exact go_vret (M := mX9_remove) rfl rfl dX9_remove_21
def lp_J7_fill_53178_5_b (N : Nat) (S : SH) (bk5 : Int32 → DY → Option DY) (p0 : Nat) (p1 : Int32) (p3 : Int32) (p2 : Int32) (x : DY) : Option DY :=
  (if p3 ≤ p2 then some x else ck S p0 p2 (bl (U1 x p0 p2.toNatClampNeg p1) (fun x4 => bk5 (p2 + 1) x4)))
set_option maxHeartbeats 1000000 in
theorem lp_J7_fill_53178_5_b_t {N d : Nat} {S : SH} (hd : 1 ≤ d) (bk5 : Int32 → DY → Option DY) (p0 : Nat) (p1 : Int32) (p3 : Int32) (p2 : Int32) (x : DY) (g0 : TY S p0 14) (hbk5 : ∀ (v2 : Int32) (y : DY), Go mJ7_fill_53178 d S wSV 5 [some (.ref p0), some (.int p1), some (.int v2), some (.int p3)] [] y (bk5 v2 y)) : Go mJ7_fill_53178 d S wSV 5 [some (.ref p0), some (.int p1), some (.int p2), some (.int p3)] [] x (lp_J7_fill_53178_5_b N S bk5 p0 p1 p3 p2 x) := by
  unfold lp_J7_fill_53178_5_b
  refine go1 (M := mJ7_fill_53178) (pc' := 6) (r_iload_n (M := mJ7_fill_53178) (i := 2) rfl dJ7_fill_53178_5) ?_
  refine go1 (M := mJ7_fill_53178) (pc' := 7) (r_iload_n (M := mJ7_fill_53178) (i := 3) rfl dJ7_fill_53178_6) ?_
  refine go_br (M := mJ7_fill_53178) (pt := 20) (pf := 10) (fun kt kf => r_icmp_ge (M := mJ7_fill_53178) dJ7_fill_53178_7 (by decide) kt kf) (fun hc2 => ?_) (fun hc2 => ?_)
  · exact go_vret (M := mJ7_fill_53178) rfl rfl dJ7_fill_53178_20
  · refine go1 (M := mJ7_fill_53178) (pc' := 11) (r_aload_n (M := mJ7_fill_53178) (i := 0) rfl dJ7_fill_53178_10) ?_
    refine go1 (M := mJ7_fill_53178) (pc' := 12) (r_iload_n (M := mJ7_fill_53178) (i := 2) rfl dJ7_fill_53178_11) ?_
    refine go1 (M := mJ7_fill_53178) (pc' := 13) (r_iload_n (M := mJ7_fill_53178) (i := 1) rfl dJ7_fill_53178_12) ?_
    refine go_ck (fun hi3 => ?_)
    refine go1 (M := mJ7_fill_53178) (pc' := 14) (r_iast (M := mJ7_fill_53178) g0 hi3 dJ7_fill_53178_13) ?_
    refine go_blx (fun x4 => ?_)
    refine go1 (M := mJ7_fill_53178) (pc' := 17) (ls' := [some (.ref p0), some (.int p1), some (.int (p2 + 1)), some (.int p3)]) (r_iinc (M := mJ7_fill_53178) (ls := [some (.ref p0), some (.int p1), some (.int p2), some (.int p3)]) (i := 2) (v := p2) (c' := 1) (by decide) rfl (by decide) rfl dJ7_fill_53178_14) ?_
    refine go1 (M := mJ7_fill_53178) (pc' := 5) (r_goto (M := mJ7_fill_53178) dJ7_fill_53178_17 (by decide)) ?_
    exact hbk5 (p2 + 1) x4
def lp_J7_fill_53178_5 (N : Nat) (S : SH) (p0 : Nat) (p1 : Int32) (p3 : Int32) (p2 : Int32) (x : DY) : Option DY :=
  itr (fun back (v : Int32 × DY) => lp_J7_fill_53178_5_b N S (fun p2 y => back (p2, y)) p0 p1 p3 v.1 v.2) N (p2, x)
theorem lp_J7_fill_53178_5_t {N d : Nat} {S : SH} (hd : 1 ≤ d) (p0 : Nat) (p1 : Int32) (p3 : Int32) (p2 : Int32) (x : DY) (g0 : TY S p0 14) : Go mJ7_fill_53178 d S wSV 5 [some (.ref p0), some (.int p1), some (.int p2), some (.int p3)] [] x (lp_J7_fill_53178_5 N S p0 p1 p3 p2 x) := by
  unfold lp_J7_fill_53178_5
  exact go_itr (L := fun (v : Int32 × DY) => [some (.ref p0), some (.int p1), some (.int v.1), some (.int p3)]) (X := fun (v : Int32 × DY) => v.2) (fun back hB v => lp_J7_fill_53178_5_b_t (N := N) hd (fun p2 y => back (p2, y)) p0 p1 p3 v.1 v.2 g0 (fun p2 y => hB (p2, y)) ) N (p2, x)
def f_J7_fill_53178 (N : Nat) (S : SH) (a0 : Nat) (a1 : Int32) (x : DY) : Option DY :=
  lp_J7_fill_53178_5 N S a0 a1 (nI (S.2.2.1 a0)) 0 x
set_option maxHeartbeats 1000000 in
theorem t_J7_fill_53178 {N d : Nat} {S : SH} {x : DY} {a0 : Nat} {a1 : Int32} (hd : 1 ≤ d) (h0 : TY S a0 14) : CT mJ7_fill_53178 d S [.ref a0, .int a1] x wSV (f_J7_fill_53178 N S a0 a1 x) := by
  refine CT.of [some (.ref a0), some (.int a1), none, none] rfl (Nat.le_of_ble_eq_true rfl) (by decide +kernel) ?_
  unfold f_J7_fill_53178
  refine go1 (M := mJ7_fill_53178) (pc' := 1) (r_iconst (M := mJ7_fill_53178) (v := 0) (by decide) dJ7_fill_53178_0) ?_
  refine go1 (M := mJ7_fill_53178) (pc' := 2) (ls' := [some (.ref a0), some (.int a1), some (.int 0), none]) (r_istore_n (M := mJ7_fill_53178) (ls := [some (.ref a0), some (.int a1), none, none]) (i := 2) (v := 0) (by decide) rfl dJ7_fill_53178_1) ?_
  refine go1 (M := mJ7_fill_53178) (pc' := 3) (r_aload_n (M := mJ7_fill_53178) (i := 0) rfl dJ7_fill_53178_2) ?_
  refine go1 (M := mJ7_fill_53178) (pc' := 4) (r_alen (M := mJ7_fill_53178) h0 (by decide) (by decide) dJ7_fill_53178_3) ?_
  refine go1 (M := mJ7_fill_53178) (pc' := 5) (ls' := [some (.ref a0), some (.int a1), some (.int 0), some (.int (nI (S.2.2.1 a0)))]) (r_istore_n (M := mJ7_fill_53178) (ls := [some (.ref a0), some (.int a1), some (.int 0), none]) (i := 3) (v := (nI (S.2.2.1 a0))) (by decide) rfl dJ7_fill_53178_4) ?_
  refine lp_J7_fill_53178_5_t (N := N) (by omega) a0 a1 (nI (S.2.2.1 a0)) 0 x h0
def f_X9_make (N : Nat) (S : SH) (a0 : Nat) (a1 : Int32) (a2 : Int32) (a3 : Int32) (x : DY) : Option DY :=
  Option.bind (f_X9_isSheet N S a1 x) (fun r1 => (if r1 = 0 then some x else ck S (pr S a0 0) a1 (bl (U1 x (pr S a0 0) a1.toNatClampNeg a2) (fun x5 => ck S (pr S a0 1) a1 (bl (U1 x5 (pr S a0 1) a1.toNatClampNeg a3) (fun x8 => ck S (pr S a0 2) a1 (rfk (S.2.2.2 (pr S a0 2) a1.toNatClampNeg) (fun b10 => Option.bind (f_J7_fill_53178 N S b10 0 x8) (fun r13 => some r13)))))))))
set_option maxHeartbeats 1000000 in
theorem t_X9_make {N d : Nat} {S : SH} (hW : WT S) {x : DY} {a0 : Nat} {a1 : Int32} {a2 : Int32} {a3 : Int32} (hd : 3 ≤ d) (h0 : TY S a0 9) : CT mX9_make d S [.ref a0, .int a1, .int a2, .int a3] x wSV (f_X9_make N S a0 a1 a2 a3 x) := by
  refine CT.of [some (.ref a0), some (.int a1), some (.int a2), some (.int a3)] rfl (Nat.le_of_ble_eq_true rfl) (by decide +kernel) ?_
  unfold f_X9_make
  refine go1 (M := mX9_make) (pc' := 1) (r_iload_n (M := mX9_make) (i := 1) rfl dX9_make_0) ?_
  refine go_S_PI (M := mX9_make) (pc' := 4) (st := []) (As := [.int a1]) rfl ln_9_27 lb_X9_isSheet (t_X9_isSheet (N := N) hW (by omega) ) (by omega) (Nat.le_of_ble_eq_true rfl) rfl dX9_make_1 (fun r1 => ?_)
  refine go_br (M := mX9_make) (pt := 31) (pf := 7) (fun kt kf => r_if_eq (M := mX9_make) dX9_make_4 (by decide) kt kf) (fun hc2 => ?_) (fun hc2 => ?_)
  · exact go_vret (M := mX9_make) rfl rfl dX9_make_31
  · refine go1 (M := mX9_make) (pc' := 8) (r_aload_n (M := mX9_make) (i := 0) rfl dX9_make_7) ?_
    refine go1 (M := mX9_make) (pc' := 11) (r_getR (M := mX9_make) fl_9_9 h0 rfl (wt_some hW h0 (by decide) (by decide) rfl) dX9_make_8) ?_
    have hT3 : TY S (pr S a0 0) 14 := wt hW h0 (by decide) (by decide) rfl (by decide)
    refine go1 (M := mX9_make) (pc' := 12) (r_iload_n (M := mX9_make) (i := 1) rfl dX9_make_11) ?_
    refine go1 (M := mX9_make) (pc' := 13) (r_iload_n (M := mX9_make) (i := 2) rfl dX9_make_12) ?_
    refine go_ck (fun hi4 => ?_)
    refine go1 (M := mX9_make) (pc' := 14) (r_iast (M := mX9_make) hT3 hi4 dX9_make_13) ?_
    refine go_blx (fun x5 => ?_)
    refine go1 (M := mX9_make) (pc' := 15) (r_aload_n (M := mX9_make) (i := 0) rfl dX9_make_14) ?_
    refine go1 (M := mX9_make) (pc' := 18) (r_getR (M := mX9_make) fl_9_13 h0 rfl (wt_some hW h0 (by decide) (by decide) rfl) dX9_make_15) ?_
    have hT6 : TY S (pr S a0 1) 14 := wt hW h0 (by decide) (by decide) rfl (by decide)
    refine go1 (M := mX9_make) (pc' := 19) (r_iload_n (M := mX9_make) (i := 1) rfl dX9_make_18) ?_
    refine go1 (M := mX9_make) (pc' := 20) (r_iload_n (M := mX9_make) (i := 3) rfl dX9_make_19) ?_
    refine go_ck (fun hi7 => ?_)
    refine go1 (M := mX9_make) (pc' := 21) (r_iast (M := mX9_make) hT6 hi7 dX9_make_20) ?_
    refine go_blx (fun x8 => ?_)
    refine go1 (M := mX9_make) (pc' := 22) (r_aload_n (M := mX9_make) (i := 0) rfl dX9_make_21) ?_
    refine go1 (M := mX9_make) (pc' := 25) (r_getR (M := mX9_make) fl_9_18 h0 rfl (wt_some hW h0 (by decide) (by decide) rfl) dX9_make_22) ?_
    have hT9 : TY S (pr S a0 2) 18 := wt hW h0 (by decide) (by decide) rfl (by decide)
    refine go1 (M := mX9_make) (pc' := 26) (r_iload_n (M := mX9_make) (i := 1) rfl dX9_make_25) ?_
    refine go_aald (M := mX9_make) (pc' := 27) rfl hT9 (by decide) dX9_make_26 (fun b10 hb11 => ?_)
    have hT12 : TY S b10 14 := hW.2.2.2 _ hT9 _ _ hb11
    refine go1 (M := mX9_make) (pc' := 28) (r_iconst (M := mX9_make) (v := 0) (by decide) dX9_make_27) ?_
    refine go_S_SV (M := mX9_make) (pc' := 31) (st := []) (As := [.ref b10, .int 0]) rfl ln_9_31 lb_J7_fill_53178 (t_J7_fill_53178 (N := N) (by omega) hT12) (by omega) (Nat.le_of_ble_eq_true rfl) rfl dX9_make_28 (fun r13 => ?_)
    exact go_vret (M := mX9_make) rfl rfl dX9_make_31
def f_X9_put (N : Nat) (S : SH) (a0 : Nat) (a1 : Int32) (a2 : Int32) (a3 : Int32) (x : DY) : Option DY :=
  Option.bind (f_X9_hasItem N S a0 a1 a2 x) (fun r1 => (if r1 = 0 then some x else ck S (pr S a0 0) a1 ((if (x.1 (pr S a0 0) a1.toNatClampNeg) = 0 then ck S (pr S a0 2) a1 (rfk (S.2.2.2 (pr S a0 2) a1.toNatClampNeg) (fun b7 => ck S b7 a2 (bl (U1 x b7 a2.toNatClampNeg ((a3).toInt8.toInt32)) (fun x11 => some x11)))) else (if (x.1 (pr S a0 0) a1.toNatClampNeg) = 1 then ck S (pr S a0 2) a1 (rfk (S.2.2.2 (pr S a0 2) a1.toNatClampNeg) (fun b14 => ck S b14 a2 (bl (U1 x b14 a2.toNatClampNeg ((a3).toInt16.toInt32)) (fun x18 => some x18)))) else ck S (pr S a0 2) a1 (rfk (S.2.2.2 (pr S a0 2) a1.toNatClampNeg) (fun b20 => ck S b20 a2 (bl (U1 x b20 a2.toNatClampNeg a3) (fun x24 => some x24)))))))))
set_option maxHeartbeats 1000000 in
theorem t_X9_put {N d : Nat} {S : SH} (hW : WT S) {x : DY} {a0 : Nat} {a1 : Int32} {a2 : Int32} {a3 : Int32} (hd : 4 ≤ d) (h0 : TY S a0 9) : CT mX9_put d S [.ref a0, .int a1, .int a2, .int a3] x wSV (f_X9_put N S a0 a1 a2 a3 x) := by
  refine CT.of [some (.ref a0), some (.int a1), some (.int a2), some (.int a3)] rfl (Nat.le_of_ble_eq_true rfl) (by decide +kernel) ?_
  unfold f_X9_put
  refine go1 (M := mX9_put) (pc' := 1) (r_aload_n (M := mX9_put) (i := 0) rfl dX9_put_0) ?_
  refine go1 (M := mX9_put) (pc' := 2) (r_iload_n (M := mX9_put) (i := 1) rfl dX9_put_1) ?_
  refine go1 (M := mX9_put) (pc' := 3) (r_iload_n (M := mX9_put) (i := 2) rfl dX9_put_2) ?_
  refine go_V_PI (M := mX9_put) (pc' := 6) (st := []) (As := [.int a1, .int a2]) rfl ln_9_37 lb_X9_hasItem (t_X9_hasItem (N := N) hW (by omega) h0) (by omega) h0 (Nat.le_of_ble_eq_true rfl) rfl dX9_put_3 (fun r1 => ?_)
  refine go_br (M := mX9_put) (pt := 9) (pf := 10) (fun kt kf => r_if_ne (M := mX9_put) dX9_put_6 (by decide) kf kt) (fun hc2 => ?_) (fun hc2 => ?_)
  · exact go_vret (M := mX9_put) rfl rfl dX9_put_9
  · refine go1 (M := mX9_put) (pc' := 11) (r_aload_n (M := mX9_put) (i := 0) rfl dX9_put_10) ?_
    refine go1 (M := mX9_put) (pc' := 14) (r_getR (M := mX9_put) fl_9_9 h0 rfl (wt_some hW h0 (by decide) (by decide) rfl) dX9_put_11) ?_
    have hT3 : TY S (pr S a0 0) 14 := wt hW h0 (by decide) (by decide) rfl (by decide)
    refine go1 (M := mX9_put) (pc' := 15) (r_iload_n (M := mX9_put) (i := 1) rfl dX9_put_14) ?_
    refine go_ck (fun hi4 => ?_)
    refine go1 (M := mX9_put) (pc' := 16) (r_iald (M := mX9_put) hT3 hi4 dX9_put_15) ?_
    refine go_case (fun hk5 => ?_) (fun hk5 => ?_)
    · refine go1 (M := mX9_put) (pc' := 44) (r_lsw (M := mX9_put) (off := 28) dX9_put_16 (by decide) (by rw [hk5]; rfl) (by decide)) ?_
      refine go1 (M := mX9_put) (pc' := 45) (r_aload_n (M := mX9_put) (i := 0) rfl dX9_put_44) ?_
      refine go1 (M := mX9_put) (pc' := 48) (r_getR (M := mX9_put) fl_9_18 h0 rfl (wt_some hW h0 (by decide) (by decide) rfl) dX9_put_45) ?_
      have hT6 : TY S (pr S a0 2) 18 := wt hW h0 (by decide) (by decide) rfl (by decide)
      refine go1 (M := mX9_put) (pc' := 49) (r_iload_n (M := mX9_put) (i := 1) rfl dX9_put_48) ?_
      refine go_aald (M := mX9_put) (pc' := 50) rfl hT6 (by decide) dX9_put_49 (fun b7 hb8 => ?_)
      have hT9 : TY S b7 14 := hW.2.2.2 _ hT6 _ _ hb8
      refine go1 (M := mX9_put) (pc' := 51) (r_iload_n (M := mX9_put) (i := 2) rfl dX9_put_50) ?_
      refine go1 (M := mX9_put) (pc' := 52) (r_iload_n (M := mX9_put) (i := 3) rfl dX9_put_51) ?_
      refine go1 (M := mX9_put) (pc' := 53) (r_i2b (M := mX9_put) dX9_put_52) ?_
      refine go_ck (fun hi10 => ?_)
      refine go1 (M := mX9_put) (pc' := 54) (r_iast (M := mX9_put) hT9 hi10 dX9_put_53) ?_
      refine go_blx (fun x11 => ?_)
      refine go1 (M := mX9_put) (pc' := 79) (r_goto (M := mX9_put) dX9_put_54 (by decide)) ?_
      exact go_vret (M := mX9_put) rfl rfl dX9_put_79
    · refine go_case (fun hk12 => ?_) (fun hk12 => ?_)
      · refine go1 (M := mX9_put) (pc' := 57) (r_lsw (M := mX9_put) (off := 41) dX9_put_16 (by decide) (by rw [hk12]; rfl) (by decide)) ?_
        refine go1 (M := mX9_put) (pc' := 58) (r_aload_n (M := mX9_put) (i := 0) rfl dX9_put_57) ?_
        refine go1 (M := mX9_put) (pc' := 61) (r_getR (M := mX9_put) fl_9_18 h0 rfl (wt_some hW h0 (by decide) (by decide) rfl) dX9_put_58) ?_
        have hT13 : TY S (pr S a0 2) 18 := wt hW h0 (by decide) (by decide) rfl (by decide)
        refine go1 (M := mX9_put) (pc' := 62) (r_iload_n (M := mX9_put) (i := 1) rfl dX9_put_61) ?_
        refine go_aald (M := mX9_put) (pc' := 63) rfl hT13 (by decide) dX9_put_62 (fun b14 hb15 => ?_)
        have hT16 : TY S b14 14 := hW.2.2.2 _ hT13 _ _ hb15
        refine go1 (M := mX9_put) (pc' := 64) (r_iload_n (M := mX9_put) (i := 2) rfl dX9_put_63) ?_
        refine go1 (M := mX9_put) (pc' := 65) (r_iload_n (M := mX9_put) (i := 3) rfl dX9_put_64) ?_
        refine go1 (M := mX9_put) (pc' := 66) (r_i2s (M := mX9_put) dX9_put_65) ?_
        refine go_ck (fun hi17 => ?_)
        refine go1 (M := mX9_put) (pc' := 67) (r_iast (M := mX9_put) hT16 hi17 dX9_put_66) ?_
        refine go_blx (fun x18 => ?_)
        refine go1 (M := mX9_put) (pc' := 79) (r_goto (M := mX9_put) dX9_put_67 (by decide)) ?_
        exact go_vret (M := mX9_put) rfl rfl dX9_put_79
      · refine go1 (M := mX9_put) (pc' := 70) (r_lsw (M := mX9_put) dX9_put_16 (by decide) (lsw_out [(0, 28), (1, 41)] 54 (by simp only [List.mem_cons, List.not_mem_nil, or_false, forall_eq_or_imp, forall_eq]; exact ⟨lv_neT hk5 (show (0 : Int32).toInt = (0 : Int) by decide), lv_neT hk12 (show (1 : Int32).toInt = (1 : Int) by decide)⟩)) (by decide)) ?_
        refine go1 (M := mX9_put) (pc' := 71) (r_aload_n (M := mX9_put) (i := 0) rfl dX9_put_70) ?_
        refine go1 (M := mX9_put) (pc' := 74) (r_getR (M := mX9_put) fl_9_18 h0 rfl (wt_some hW h0 (by decide) (by decide) rfl) dX9_put_71) ?_
        have hT19 : TY S (pr S a0 2) 18 := wt hW h0 (by decide) (by decide) rfl (by decide)
        refine go1 (M := mX9_put) (pc' := 75) (r_iload_n (M := mX9_put) (i := 1) rfl dX9_put_74) ?_
        refine go_aald (M := mX9_put) (pc' := 76) rfl hT19 (by decide) dX9_put_75 (fun b20 hb21 => ?_)
        have hT22 : TY S b20 14 := hW.2.2.2 _ hT19 _ _ hb21
        refine go1 (M := mX9_put) (pc' := 77) (r_iload_n (M := mX9_put) (i := 2) rfl dX9_put_76) ?_
        refine go1 (M := mX9_put) (pc' := 78) (r_iload_n (M := mX9_put) (i := 3) rfl dX9_put_77) ?_
        refine go_ck (fun hi23 => ?_)
        refine go1 (M := mX9_put) (pc' := 79) (r_iast (M := mX9_put) hT22 hi23 dX9_put_78) ?_
        refine go_blx (fun x24 => ?_)
        exact go_vret (M := mX9_put) rfl rfl dX9_put_79
def f_X11_dish (N : Nat) (S : SH) (a0 : Nat) (a1 : Int32) (a2 : Int32) (a3 : Int32) (x : DY) : Option (Int32 × DY) :=
  Option.bind (f_X11_isDish N S a1 x) (fun r1 => (if r1 = 0 then some ((-2), x) else Option.bind (f_X11_isColour N S a2 x) (fun r3 => (if r3 = 0 then some ((-2), x) else Option.bind (f_X11_within N S a3 1 60 x) (fun r5 => (if r5 = 0 then some ((-2), x) else ck S (pr S (pr S a0 0) 0) a1 (ck S (pr S (pr S a0 0) 0) a1 (bl (U1 x (pr S (pr S a0 0) 0) a1.toNatClampNeg a2) (fun x11 => ck S (pr S (pr S a0 0) 1) a1 (bl (U1 x11 (pr S (pr S a0 0) 1) a1.toNatClampNeg a3) (fun x14 => some ((x.1 (pr S (pr S a0 0) 0) a1.toNatClampNeg), x14))))))))))))
set_option maxHeartbeats 1000000 in
theorem t_X11_dish {N d : Nat} {S : SH} (hW : WT S) {x : DY} {a0 : Nat} {a1 : Int32} {a2 : Int32} {a3 : Int32} (hd : 2 ≤ d) (h0 : TY S a0 11) : CT mX11_dish d S [.ref a0, .int a1, .int a2, .int a3] x wSI (f_X11_dish N S a0 a1 a2 a3 x) := by
  refine CT.of [some (.ref a0), some (.int a1), some (.int a2), some (.int a3), none] rfl (Nat.le_of_ble_eq_true rfl) (by decide +kernel) ?_
  unfold f_X11_dish
  refine go1 (M := mX11_dish) (pc' := 1) (r_iload_n (M := mX11_dish) (i := 1) rfl dX11_dish_0) ?_
  refine go_S_PI (M := mX11_dish) (pc' := 4) (st := []) (As := [.int a1]) rfl ln_11_66 lb_X11_isDish (t_X11_isDish (N := N) hW (by omega) ) (by omega) (Nat.le_of_ble_eq_true rfl) rfl dX11_dish_1 (fun r1 => ?_)
  refine go_br (M := mX11_dish) (pt := 24) (pf := 7) (fun kt kf => r_if_eq (M := mX11_dish) dX11_dish_4 (by decide) kt kf) (fun hc2 => ?_) (fun hc2 => ?_)
  · refine go1 (M := mX11_dish) (pc' := 26) (r_bipush (M := mX11_dish) (v := (-2)) (by decide) dX11_dish_24) ?_
    exact go_iret (M := mX11_dish) rfl rfl dX11_dish_26
  · refine go1 (M := mX11_dish) (pc' := 8) (r_iload_n (M := mX11_dish) (i := 2) rfl dX11_dish_7) ?_
    refine go_S_PI (M := mX11_dish) (pc' := 11) (st := []) (As := [.int a2]) rfl ln_11_70 lb_X11_isColour (t_X11_isColour (N := N) hW (by omega) ) (by omega) (Nat.le_of_ble_eq_true rfl) rfl dX11_dish_8 (fun r3 => ?_)
    refine go_br (M := mX11_dish) (pt := 24) (pf := 14) (fun kt kf => r_if_eq (M := mX11_dish) dX11_dish_11 (by decide) kt kf) (fun hc4 => ?_) (fun hc4 => ?_)
    · refine go1 (M := mX11_dish) (pc' := 26) (r_bipush (M := mX11_dish) (v := (-2)) (by decide) dX11_dish_24) ?_
      exact go_iret (M := mX11_dish) rfl rfl dX11_dish_26
    · refine go1 (M := mX11_dish) (pc' := 15) (r_iload_n (M := mX11_dish) (i := 3) rfl dX11_dish_14) ?_
      refine go1 (M := mX11_dish) (pc' := 16) (r_iconst (M := mX11_dish) (v := 1) (by decide) dX11_dish_15) ?_
      refine go1 (M := mX11_dish) (pc' := 18) (r_bipush (M := mX11_dish) (v := 60) (by decide) dX11_dish_16) ?_
      refine go_S_PI (M := mX11_dish) (pc' := 21) (st := []) (As := [.int a3, .int 1, .int 60]) rfl ln_11_73 lb_X11_within (t_X11_within (N := N) hW (by omega) ) (by omega) (Nat.le_of_ble_eq_true rfl) rfl dX11_dish_18 (fun r5 => ?_)
      refine go_br (M := mX11_dish) (pt := 24) (pf := 27) (fun kt kf => r_if_ne (M := mX11_dish) dX11_dish_21 (by decide) kf kt) (fun hc6 => ?_) (fun hc6 => ?_)
      · refine go1 (M := mX11_dish) (pc' := 26) (r_bipush (M := mX11_dish) (v := (-2)) (by decide) dX11_dish_24) ?_
        exact go_iret (M := mX11_dish) rfl rfl dX11_dish_26
      · refine go1 (M := mX11_dish) (pc' := 28) (r_aload_n (M := mX11_dish) (i := 0) rfl dX11_dish_27) ?_
        refine go1 (M := mX11_dish) (pc' := 31) (r_getR (M := mX11_dish) fl_11_10 h0 rfl (wt_some hW h0 (by decide) (by decide) rfl) dX11_dish_28) ?_
        have hT7 : TY S (pr S a0 0) 3 := wt hW h0 (by decide) (by decide) rfl (by decide)
        refine go1 (M := mX11_dish) (pc' := 34) (r_getR (M := mX11_dish) fl_11_77 hT7 rfl (wt_some hW hT7 (by decide) (by decide) rfl) dX11_dish_31) ?_
        have hT8 : TY S (pr S (pr S a0 0) 0) 14 := wt hW hT7 (by decide) (by decide) rfl (by decide)
        refine go1 (M := mX11_dish) (pc' := 35) (r_iload_n (M := mX11_dish) (i := 1) rfl dX11_dish_34) ?_
        refine go_ck (fun hi9 => ?_)
        refine go1 (M := mX11_dish) (pc' := 36) (r_iald (M := mX11_dish) hT8 hi9 dX11_dish_35) ?_
        refine go1 (M := mX11_dish) (pc' := 38) (ls' := [some (.ref a0), some (.int a1), some (.int a2), some (.int a3), some (.int (x.1 (pr S (pr S a0 0) 0) a1.toNatClampNeg))]) (r_istore (M := mX11_dish) (ls := [some (.ref a0), some (.int a1), some (.int a2), some (.int a3), none]) (i := 4) (v := (x.1 (pr S (pr S a0 0) 0) a1.toNatClampNeg)) (by decide) rfl dX11_dish_36) ?_
        refine go1 (M := mX11_dish) (pc' := 39) (r_aload_n (M := mX11_dish) (i := 0) rfl dX11_dish_38) ?_
        refine go1 (M := mX11_dish) (pc' := 42) (r_getR (M := mX11_dish) fl_11_10 h0 rfl (wt_some hW h0 (by decide) (by decide) rfl) dX11_dish_39) ?_
        refine go1 (M := mX11_dish) (pc' := 45) (r_getR (M := mX11_dish) fl_11_77 hT7 rfl (wt_some hW hT7 (by decide) (by decide) rfl) dX11_dish_42) ?_
        refine go1 (M := mX11_dish) (pc' := 46) (r_iload_n (M := mX11_dish) (i := 1) rfl dX11_dish_45) ?_
        refine go1 (M := mX11_dish) (pc' := 47) (r_iload_n (M := mX11_dish) (i := 2) rfl dX11_dish_46) ?_
        refine go_ck (fun hi10 => ?_)
        refine go1 (M := mX11_dish) (pc' := 48) (r_iast (M := mX11_dish) hT8 hi10 dX11_dish_47) ?_
        refine go_blx (fun x11 => ?_)
        refine go1 (M := mX11_dish) (pc' := 49) (r_aload_n (M := mX11_dish) (i := 0) rfl dX11_dish_48) ?_
        refine go1 (M := mX11_dish) (pc' := 52) (r_getR (M := mX11_dish) fl_11_10 h0 rfl (wt_some hW h0 (by decide) (by decide) rfl) dX11_dish_49) ?_
        refine go1 (M := mX11_dish) (pc' := 55) (r_getR (M := mX11_dish) fl_11_81 hT7 rfl (wt_some hW hT7 (by decide) (by decide) rfl) dX11_dish_52) ?_
        have hT12 : TY S (pr S (pr S a0 0) 1) 14 := wt hW hT7 (by decide) (by decide) rfl (by decide)
        refine go1 (M := mX11_dish) (pc' := 56) (r_iload_n (M := mX11_dish) (i := 1) rfl dX11_dish_55) ?_
        refine go1 (M := mX11_dish) (pc' := 57) (r_iload_n (M := mX11_dish) (i := 3) rfl dX11_dish_56) ?_
        refine go_ck (fun hi13 => ?_)
        refine go1 (M := mX11_dish) (pc' := 58) (r_iast (M := mX11_dish) hT12 hi13 dX11_dish_57) ?_
        refine go_blx (fun x14 => ?_)
        refine go1 (M := mX11_dish) (pc' := 60) (r_iload (M := mX11_dish) (i := 4) rfl dX11_dish_58) ?_
        exact go_iret (M := mX11_dish) rfl rfl dX11_dish_60
def f_X11_price (N : Nat) (S : SH) (a0 : Nat) (a1 : Int32) (a2 : Int32) (x : DY) : Option (Int32 × DY) :=
  Option.bind (f_X11_isColour N S a1 x) (fun r1 => (if r1 = 0 then some ((-2), x) else Option.bind (f_X11_within N S a2 0 999 x) (fun r3 => (if r3 = 0 then some ((-2), x) else ck S (pr S (pr S a0 0) 2) a1 (ck S (pr S (pr S a0 0) 2) a1 (bl (U1 x (pr S (pr S a0 0) 2) a1.toNatClampNeg a2) (fun x9 => some ((x.1 (pr S (pr S a0 0) 2) a1.toNatClampNeg), x9))))))))
set_option maxHeartbeats 1000000 in
theorem t_X11_price {N d : Nat} {S : SH} (hW : WT S) {x : DY} {a0 : Nat} {a1 : Int32} {a2 : Int32} (hd : 2 ≤ d) (h0 : TY S a0 11) : CT mX11_price d S [.ref a0, .int a1, .int a2] x wSI (f_X11_price N S a0 a1 a2 x) := by
  refine CT.of [some (.ref a0), some (.int a1), some (.int a2), none] rfl (Nat.le_of_ble_eq_true rfl) (by decide +kernel) ?_
  unfold f_X11_price
  refine go1 (M := mX11_price) (pc' := 1) (r_iload_n (M := mX11_price) (i := 1) rfl dX11_price_0) ?_
  refine go_S_PI (M := mX11_price) (pc' := 4) (st := []) (As := [.int a1]) rfl ln_11_70 lb_X11_isColour (t_X11_isColour (N := N) hW (by omega) ) (by omega) (Nat.le_of_ble_eq_true rfl) rfl dX11_price_1 (fun r1 => ?_)
  refine go_br (M := mX11_price) (pt := 18) (pf := 7) (fun kt kf => r_if_eq (M := mX11_price) dX11_price_4 (by decide) kt kf) (fun hc2 => ?_) (fun hc2 => ?_)
  · refine go1 (M := mX11_price) (pc' := 20) (r_bipush (M := mX11_price) (v := (-2)) (by decide) dX11_price_18) ?_
    exact go_iret (M := mX11_price) rfl rfl dX11_price_20
  · refine go1 (M := mX11_price) (pc' := 8) (r_iload_n (M := mX11_price) (i := 2) rfl dX11_price_7) ?_
    refine go1 (M := mX11_price) (pc' := 9) (r_iconst (M := mX11_price) (v := 0) (by decide) dX11_price_8) ?_
    refine go1 (M := mX11_price) (pc' := 12) (r_sipush (M := mX11_price) (v := 999) (by decide) dX11_price_9) ?_
    refine go_S_PI (M := mX11_price) (pc' := 15) (st := []) (As := [.int a2, .int 0, .int 999]) rfl ln_11_73 lb_X11_within (t_X11_within (N := N) hW (by omega) ) (by omega) (Nat.le_of_ble_eq_true rfl) rfl dX11_price_12 (fun r3 => ?_)
    refine go_br (M := mX11_price) (pt := 18) (pf := 21) (fun kt kf => r_if_ne (M := mX11_price) dX11_price_15 (by decide) kf kt) (fun hc4 => ?_) (fun hc4 => ?_)
    · refine go1 (M := mX11_price) (pc' := 20) (r_bipush (M := mX11_price) (v := (-2)) (by decide) dX11_price_18) ?_
      exact go_iret (M := mX11_price) rfl rfl dX11_price_20
    · refine go1 (M := mX11_price) (pc' := 22) (r_aload_n (M := mX11_price) (i := 0) rfl dX11_price_21) ?_
      refine go1 (M := mX11_price) (pc' := 25) (r_getR (M := mX11_price) fl_11_10 h0 rfl (wt_some hW h0 (by decide) (by decide) rfl) dX11_price_22) ?_
      have hT5 : TY S (pr S a0 0) 3 := wt hW h0 (by decide) (by decide) rfl (by decide)
      refine go1 (M := mX11_price) (pc' := 28) (r_getR (M := mX11_price) fl_11_84 hT5 rfl (wt_some hW hT5 (by decide) (by decide) rfl) dX11_price_25) ?_
      have hT6 : TY S (pr S (pr S a0 0) 2) 14 := wt hW hT5 (by decide) (by decide) rfl (by decide)
      refine go1 (M := mX11_price) (pc' := 29) (r_iload_n (M := mX11_price) (i := 1) rfl dX11_price_28) ?_
      refine go_ck (fun hi7 => ?_)
      refine go1 (M := mX11_price) (pc' := 30) (r_iald (M := mX11_price) hT6 hi7 dX11_price_29) ?_
      refine go1 (M := mX11_price) (pc' := 31) (ls' := [some (.ref a0), some (.int a1), some (.int a2), some (.int (x.1 (pr S (pr S a0 0) 2) a1.toNatClampNeg))]) (r_istore_n (M := mX11_price) (ls := [some (.ref a0), some (.int a1), some (.int a2), none]) (i := 3) (v := (x.1 (pr S (pr S a0 0) 2) a1.toNatClampNeg)) (by decide) rfl dX11_price_30) ?_
      refine go1 (M := mX11_price) (pc' := 32) (r_aload_n (M := mX11_price) (i := 0) rfl dX11_price_31) ?_
      refine go1 (M := mX11_price) (pc' := 35) (r_getR (M := mX11_price) fl_11_10 h0 rfl (wt_some hW h0 (by decide) (by decide) rfl) dX11_price_32) ?_
      refine go1 (M := mX11_price) (pc' := 38) (r_getR (M := mX11_price) fl_11_84 hT5 rfl (wt_some hW hT5 (by decide) (by decide) rfl) dX11_price_35) ?_
      refine go1 (M := mX11_price) (pc' := 39) (r_iload_n (M := mX11_price) (i := 1) rfl dX11_price_38) ?_
      refine go1 (M := mX11_price) (pc' := 40) (r_iload_n (M := mX11_price) (i := 2) rfl dX11_price_39) ?_
      refine go_ck (fun hi8 => ?_)
      refine go1 (M := mX11_price) (pc' := 41) (r_iast (M := mX11_price) hT6 hi8 dX11_price_40) ?_
      refine go_blx (fun x9 => ?_)
      refine go1 (M := mX11_price) (pc' := 42) (r_iload_n (M := mX11_price) (i := 3) rfl dX11_price_41) ?_
      exact go_iret (M := mX11_price) rfl rfl dX11_price_42
def f_X11_lay (N : Nat) (S : SH) (a0 : Nat) (a1 : Int32) (x : DY) : Option (Int32 × DY) :=
  Option.bind (f_X6_layAtHatch N S (pr S a0 5) a1 x) (fun r2 => some (r2.1, r2.2))
set_option maxHeartbeats 1000000 in
theorem t_X11_lay {N d : Nat} {S : SH} (hW : WT S) {x : DY} {a0 : Nat} {a1 : Int32} (hd : 4 ≤ d) (h0 : TY S a0 11) : CT mX11_lay d S [.ref a0, .int a1] x wSI (f_X11_lay N S a0 a1 x) := by
  refine CT.of [some (.ref a0), some (.int a1)] rfl (Nat.le_of_ble_eq_true rfl) (by decide +kernel) ?_
  unfold f_X11_lay
  refine go1 (M := mX11_lay) (pc' := 1) (r_aload_n (M := mX11_lay) (i := 0) rfl dX11_lay_0) ?_
  refine go1 (M := mX11_lay) (pc' := 4) (r_getR (M := mX11_lay) fl_11_55 h0 rfl (wt_some hW h0 (by decide) (by decide) rfl) dX11_lay_1) ?_
  have hT1 : TY S (pr S a0 5) 6 := wt hW h0 (by decide) (by decide) rfl (by decide)
  refine go1 (M := mX11_lay) (pc' := 5) (r_iload_n (M := mX11_lay) (i := 1) rfl dX11_lay_4) ?_
  refine go_V_SI (M := mX11_lay) (pc' := 8) (st := []) (As := [.int a1]) rfl ln_11_87 lb_X6_layAtHatch (t_X6_layAtHatch (N := N) hW (by omega) hT1) (by omega) hT1 (Nat.le_of_ble_eq_true rfl) rfl dX11_lay_5 (fun r2 => ?_)
  exact go_iret (M := mX11_lay) rfl rfl dX11_lay_8
def f_X11_plate (N : Nat) (S : SH) (a0 : Nat) (a1 : Int32) (a2 : Int32) (x : DY) : Option Int32 :=
  Option.bind (f_X4_has N S (pr S (pr S a0 5) 3) a1 x) (fun r3 => (if r3 = 0 then some (-2) else (if a2 = 0 then ck S (pr S (pr S (pr S a0 5) 3) 0) a1 (some (x.1 (pr S (pr S (pr S a0 5) 3) 0) a1.toNatClampNeg)) else (if a2 = 1 then ck S (pr S (pr S (pr S a0 5) 3) 1) a1 (some (x.1 (pr S (pr S (pr S a0 5) 3) 1) a1.toNatClampNeg)) else (if a2 = 2 then ck S (pr S (pr S (pr S a0 5) 3) 2) a1 (some (x.1 (pr S (pr S (pr S a0 5) 3) 2) a1.toNatClampNeg)) else (if a2 = 3 then ck S (pr S (pr S (pr S a0 5) 3) 3) a1 (some (x.1 (pr S (pr S (pr S a0 5) 3) 3) a1.toNatClampNeg)) else (if a2 = 4 then Option.bind (f_X6_whereIs N S (pr S a0 5) a1 x) (fun r18 => some r18) else some (-2))))))))
set_option maxHeartbeats 1000000 in
theorem t_X11_plate {N d : Nat} {S : SH} (hW : WT S) {x : DY} {a0 : Nat} {a1 : Int32} {a2 : Int32} (hd : 3 ≤ d) (h0 : TY S a0 11) : CT mX11_plate d S [.ref a0, .int a1, .int a2] x (wPI x) (f_X11_plate N S a0 a1 a2 x) := by
  refine CT.of [some (.ref a0), some (.int a1), some (.int a2), none] rfl (Nat.le_of_ble_eq_true rfl) (by decide +kernel) ?_
  unfold f_X11_plate
  refine go1 (M := mX11_plate) (pc' := 1) (r_aload_n (M := mX11_plate) (i := 0) rfl dX11_plate_0) ?_
  refine go1 (M := mX11_plate) (pc' := 4) (r_getR (M := mX11_plate) fl_11_55 h0 rfl (wt_some hW h0 (by decide) (by decide) rfl) dX11_plate_1) ?_
  have hT1 : TY S (pr S a0 5) 6 := wt hW h0 (by decide) (by decide) rfl (by decide)
  refine go1 (M := mX11_plate) (pc' := 7) (r_getR (M := mX11_plate) fl_11_91 hT1 rfl (wt_some hW hT1 (by decide) (by decide) rfl) dX11_plate_4) ?_
  have hT2 : TY S (pr S (pr S a0 5) 3) 4 := wt hW hT1 (by decide) (by decide) rfl (by decide)
  refine go1 (M := mX11_plate) (pc' := 8) (ls' := [some (.ref a0), some (.int a1), some (.int a2), some (.ref (pr S (pr S a0 5) 3))]) (r_astore_n (M := mX11_plate) (ls := [some (.ref a0), some (.int a1), some (.int a2), none]) (i := 3) (v := (pr S (pr S a0 5) 3)) (by decide) rfl dX11_plate_7) ?_
  refine go1 (M := mX11_plate) (pc' := 9) (r_aload_n (M := mX11_plate) (i := 3) rfl dX11_plate_8) ?_
  refine go1 (M := mX11_plate) (pc' := 10) (r_iload_n (M := mX11_plate) (i := 1) rfl dX11_plate_9) ?_
  refine go_V_PI (M := mX11_plate) (pc' := 13) (st := []) (As := [.int a1]) rfl ln_11_95 lb_X4_has (t_X4_has (N := N) hW (by omega) hT2) (by omega) hT2 (Nat.le_of_ble_eq_true rfl) rfl dX11_plate_10 (fun r3 => ?_)
  refine go_br (M := mX11_plate) (pt := 16) (pf := 19) (fun kt kf => r_if_ne (M := mX11_plate) dX11_plate_13 (by decide) kf kt) (fun hc4 => ?_) (fun hc4 => ?_)
  · refine go1 (M := mX11_plate) (pc' := 18) (r_bipush (M := mX11_plate) (v := (-2)) (by decide) dX11_plate_16) ?_
    exact go_iret (M := mX11_plate) rfl rfl dX11_plate_18
  · refine go1 (M := mX11_plate) (pc' := 20) (r_iload_n (M := mX11_plate) (i := 2) rfl dX11_plate_19) ?_
    refine go_case (fun hk5 => ?_) (fun hk5 => ?_)
    · refine go1 (M := mX11_plate) (pc' := 56) (r_tsw (M := mX11_plate) (off := 36) dX11_plate_20 (by rw [hk5]; decide) (by decide)) ?_
      refine go1 (M := mX11_plate) (pc' := 57) (r_aload_n (M := mX11_plate) (i := 3) rfl dX11_plate_56) ?_
      refine go1 (M := mX11_plate) (pc' := 60) (r_getR (M := mX11_plate) fl_11_100 hT2 rfl (wt_some hW hT2 (by decide) (by decide) rfl) dX11_plate_57) ?_
      have hT6 : TY S (pr S (pr S (pr S a0 5) 3) 0) 14 := wt hW hT2 (by decide) (by decide) rfl (by decide)
      refine go1 (M := mX11_plate) (pc' := 61) (r_iload_n (M := mX11_plate) (i := 1) rfl dX11_plate_60) ?_
      refine go_ck (fun hi7 => ?_)
      refine go1 (M := mX11_plate) (pc' := 62) (r_iald (M := mX11_plate) hT6 hi7 dX11_plate_61) ?_
      exact go_iret (M := mX11_plate) rfl rfl dX11_plate_62
    · refine go_case (fun hk8 => ?_) (fun hk8 => ?_)
      · refine go1 (M := mX11_plate) (pc' := 63) (r_tsw (M := mX11_plate) (off := 43) dX11_plate_20 (by rw [hk8]; decide) (by decide)) ?_
        refine go1 (M := mX11_plate) (pc' := 64) (r_aload_n (M := mX11_plate) (i := 3) rfl dX11_plate_63) ?_
        refine go1 (M := mX11_plate) (pc' := 67) (r_getR (M := mX11_plate) fl_11_103 hT2 rfl (wt_some hW hT2 (by decide) (by decide) rfl) dX11_plate_64) ?_
        have hT9 : TY S (pr S (pr S (pr S a0 5) 3) 1) 14 := wt hW hT2 (by decide) (by decide) rfl (by decide)
        refine go1 (M := mX11_plate) (pc' := 68) (r_iload_n (M := mX11_plate) (i := 1) rfl dX11_plate_67) ?_
        refine go_ck (fun hi10 => ?_)
        refine go1 (M := mX11_plate) (pc' := 69) (r_iald (M := mX11_plate) hT9 hi10 dX11_plate_68) ?_
        exact go_iret (M := mX11_plate) rfl rfl dX11_plate_69
      · refine go_case (fun hk11 => ?_) (fun hk11 => ?_)
        · refine go1 (M := mX11_plate) (pc' := 70) (r_tsw (M := mX11_plate) (off := 50) dX11_plate_20 (by rw [hk11]; decide) (by decide)) ?_
          refine go1 (M := mX11_plate) (pc' := 71) (r_aload_n (M := mX11_plate) (i := 3) rfl dX11_plate_70) ?_
          refine go1 (M := mX11_plate) (pc' := 74) (r_getR (M := mX11_plate) fl_11_104 hT2 rfl (wt_some hW hT2 (by decide) (by decide) rfl) dX11_plate_71) ?_
          have hT12 : TY S (pr S (pr S (pr S a0 5) 3) 2) 14 := wt hW hT2 (by decide) (by decide) rfl (by decide)
          refine go1 (M := mX11_plate) (pc' := 75) (r_iload_n (M := mX11_plate) (i := 1) rfl dX11_plate_74) ?_
          refine go_ck (fun hi13 => ?_)
          refine go1 (M := mX11_plate) (pc' := 76) (r_iald (M := mX11_plate) hT12 hi13 dX11_plate_75) ?_
          exact go_iret (M := mX11_plate) rfl rfl dX11_plate_76
        · refine go_case (fun hk14 => ?_) (fun hk14 => ?_)
          · refine go1 (M := mX11_plate) (pc' := 77) (r_tsw (M := mX11_plate) (off := 57) dX11_plate_20 (by rw [hk14]; decide) (by decide)) ?_
            refine go1 (M := mX11_plate) (pc' := 78) (r_aload_n (M := mX11_plate) (i := 3) rfl dX11_plate_77) ?_
            refine go1 (M := mX11_plate) (pc' := 81) (r_getR (M := mX11_plate) fl_11_107 hT2 rfl (wt_some hW hT2 (by decide) (by decide) rfl) dX11_plate_78) ?_
            have hT15 : TY S (pr S (pr S (pr S a0 5) 3) 3) 14 := wt hW hT2 (by decide) (by decide) rfl (by decide)
            refine go1 (M := mX11_plate) (pc' := 82) (r_iload_n (M := mX11_plate) (i := 1) rfl dX11_plate_81) ?_
            refine go_ck (fun hi16 => ?_)
            refine go1 (M := mX11_plate) (pc' := 83) (r_iald (M := mX11_plate) hT15 hi16 dX11_plate_82) ?_
            exact go_iret (M := mX11_plate) rfl rfl dX11_plate_83
          · refine go_case (fun hk17 => ?_) (fun hk17 => ?_)
            · refine go1 (M := mX11_plate) (pc' := 84) (r_tsw (M := mX11_plate) (off := 64) dX11_plate_20 (by rw [hk17]; decide) (by decide)) ?_
              refine go1 (M := mX11_plate) (pc' := 85) (r_aload_n (M := mX11_plate) (i := 0) rfl dX11_plate_84) ?_
              refine go1 (M := mX11_plate) (pc' := 88) (r_getR (M := mX11_plate) fl_11_55 h0 rfl (wt_some hW h0 (by decide) (by decide) rfl) dX11_plate_85) ?_
              refine go1 (M := mX11_plate) (pc' := 89) (r_iload_n (M := mX11_plate) (i := 1) rfl dX11_plate_88) ?_
              refine go_V_PI (M := mX11_plate) (pc' := 92) (st := []) (As := [.int a1]) rfl ln_11_110 lb_X6_whereIs (t_X6_whereIs (N := N) hW (by omega) hT1) (by omega) hT1 (Nat.le_of_ble_eq_true rfl) rfl dX11_plate_89 (fun r18 => ?_)
              exact go_iret (M := mX11_plate) rfl rfl dX11_plate_92
            · have hq0 := lv_neT hk5 (show (0 : Int32).toInt = (0 : Int) by decide)
              have hq1 := lv_neT hk8 (show (1 : Int32).toInt = (1 : Int) by decide)
              have hq2 := lv_neT hk11 (show (2 : Int32).toInt = (2 : Int) by decide)
              have hq3 := lv_neT hk14 (show (3 : Int32).toInt = (3 : Int) by decide)
              have hq4 := lv_neT hk17 (show (4 : Int32).toInt = (4 : Int) by decide)
              refine go1 (M := mX11_plate) (pc' := 93) (r_tswO (M := mX11_plate) dX11_plate_20 (by omega) (by decide)) ?_
              refine go1 (M := mX11_plate) (pc' := 95) (r_bipush (M := mX11_plate) (v := (-2)) (by decide) dX11_plate_93) ?_
              exact go_iret (M := mX11_plate) rfl rfl dX11_plate_95
def f_X11_at (N : Nat) (S : SH) (a0 : Nat) (a1 : Int32) (x : DY) : Option Int32 :=
  Option.bind (f_X6_isPlace N S (pr S a0 5) a1 x) (fun r2 => (if r2 = 0 then some (-2) else ck S (pr S (pr S a0 5) 2) a1 (some (x.1 (pr S (pr S a0 5) 2) a1.toNatClampNeg))))
set_option maxHeartbeats 1000000 in
theorem t_X11_at {N d : Nat} {S : SH} (hW : WT S) {x : DY} {a0 : Nat} {a1 : Int32} (hd : 2 ≤ d) (h0 : TY S a0 11) : CT mX11_at d S [.ref a0, .int a1] x (wPI x) (f_X11_at N S a0 a1 x) := by
  refine CT.of [some (.ref a0), some (.int a1)] rfl (Nat.le_of_ble_eq_true rfl) (by decide +kernel) ?_
  unfold f_X11_at
  refine go1 (M := mX11_at) (pc' := 1) (r_aload_n (M := mX11_at) (i := 0) rfl dX11_at_0) ?_
  refine go1 (M := mX11_at) (pc' := 4) (r_getR (M := mX11_at) fl_11_55 h0 rfl (wt_some hW h0 (by decide) (by decide) rfl) dX11_at_1) ?_
  have hT1 : TY S (pr S a0 5) 6 := wt hW h0 (by decide) (by decide) rfl (by decide)
  refine go1 (M := mX11_at) (pc' := 5) (r_iload_n (M := mX11_at) (i := 1) rfl dX11_at_4) ?_
  refine go_V_PI (M := mX11_at) (pc' := 8) (st := []) (As := [.int a1]) rfl ln_11_113 lb_X6_isPlace (t_X6_isPlace (N := N) hW (by omega) hT1) (by omega) hT1 (Nat.le_of_ble_eq_true rfl) rfl dX11_at_5 (fun r2 => ?_)
  refine go_br (M := mX11_at) (pt := 23) (pf := 11) (fun kt kf => r_if_eq (M := mX11_at) dX11_at_8 (by decide) kt kf) (fun hc3 => ?_) (fun hc3 => ?_)
  · refine go1 (M := mX11_at) (pc' := 25) (r_bipush (M := mX11_at) (v := (-2)) (by decide) dX11_at_23) ?_
    exact go_iret (M := mX11_at) rfl rfl dX11_at_25
  · refine go1 (M := mX11_at) (pc' := 12) (r_aload_n (M := mX11_at) (i := 0) rfl dX11_at_11) ?_
    refine go1 (M := mX11_at) (pc' := 15) (r_getR (M := mX11_at) fl_11_55 h0 rfl (wt_some hW h0 (by decide) (by decide) rfl) dX11_at_12) ?_
    refine go1 (M := mX11_at) (pc' := 18) (r_getR (M := mX11_at) fl_11_116 hT1 rfl (wt_some hW hT1 (by decide) (by decide) rfl) dX11_at_15) ?_
    have hT4 : TY S (pr S (pr S a0 5) 2) 14 := wt hW hT1 (by decide) (by decide) rfl (by decide)
    refine go1 (M := mX11_at) (pc' := 19) (r_iload_n (M := mX11_at) (i := 1) rfl dX11_at_18) ?_
    refine go_ck (fun hi5 => ?_)
    refine go1 (M := mX11_at) (pc' := 20) (r_iald (M := mX11_at) hT4 hi5 dX11_at_19) ?_
    refine go1 (M := mX11_at) (pc' := 25) (r_goto (M := mX11_at) dX11_at_20 (by decide)) ?_
    exact go_iret (M := mX11_at) rfl rfl dX11_at_25
def f_X11_gone (N : Nat) (S : SH) (a0 : Nat) (a1 : Int32) (x : DY) : Option (Int32 × DY) :=
  Option.bind (f_X6_isPlace N S (pr S a0 5) a1 x) (fun r2 => (if r2 = 0 then some ((-2), x) else ck S (pr S (pr S a0 5) 2) a1 ((if (x.1 (pr S (pr S a0 5) 2) a1.toNatClampNeg) = (-1) then some ((-3), x) else ck S (pr S (pr S a0 5) 2) a1 (bl (U1 x (pr S (pr S a0 5) 2) a1.toNatClampNeg (-1)) (fun x8 => Option.bind (f_X4_become N S (pr S (pr S a0 5) 3) (x.1 (pr S (pr S a0 5) 2) a1.toNatClampNeg) 5 (-1) x8) (fun r10 => some ((x.1 (pr S (pr S a0 5) 2) a1.toNatClampNeg), r10))))))))
set_option maxHeartbeats 1000000 in
theorem t_X11_gone {N d : Nat} {S : SH} (hW : WT S) {x : DY} {a0 : Nat} {a1 : Int32} (hd : 2 ≤ d) (h0 : TY S a0 11) : CT mX11_gone d S [.ref a0, .int a1] x wSI (f_X11_gone N S a0 a1 x) := by
  refine CT.of [some (.ref a0), some (.int a1), none] rfl (Nat.le_of_ble_eq_true rfl) (by decide +kernel) ?_
  unfold f_X11_gone
  refine go1 (M := mX11_gone) (pc' := 1) (r_aload_n (M := mX11_gone) (i := 0) rfl dX11_gone_0) ?_
  refine go1 (M := mX11_gone) (pc' := 4) (r_getR (M := mX11_gone) fl_11_55 h0 rfl (wt_some hW h0 (by decide) (by decide) rfl) dX11_gone_1) ?_
  have hT1 : TY S (pr S a0 5) 6 := wt hW h0 (by decide) (by decide) rfl (by decide)
  refine go1 (M := mX11_gone) (pc' := 5) (r_iload_n (M := mX11_gone) (i := 1) rfl dX11_gone_4) ?_
  refine go_V_PI (M := mX11_gone) (pc' := 8) (st := []) (As := [.int a1]) rfl ln_11_113 lb_X6_isPlace (t_X6_isPlace (N := N) hW (by omega) hT1) (by omega) hT1 (Nat.le_of_ble_eq_true rfl) rfl dX11_gone_5 (fun r2 => ?_)
  refine go_br (M := mX11_gone) (pt := 11) (pf := 14) (fun kt kf => r_if_ne (M := mX11_gone) dX11_gone_8 (by decide) kf kt) (fun hc3 => ?_) (fun hc3 => ?_)
  · refine go1 (M := mX11_gone) (pc' := 13) (r_bipush (M := mX11_gone) (v := (-2)) (by decide) dX11_gone_11) ?_
    exact go_iret (M := mX11_gone) rfl rfl dX11_gone_13
  · refine go1 (M := mX11_gone) (pc' := 15) (r_aload_n (M := mX11_gone) (i := 0) rfl dX11_gone_14) ?_
    refine go1 (M := mX11_gone) (pc' := 18) (r_getR (M := mX11_gone) fl_11_55 h0 rfl (wt_some hW h0 (by decide) (by decide) rfl) dX11_gone_15) ?_
    refine go1 (M := mX11_gone) (pc' := 21) (r_getR (M := mX11_gone) fl_11_116 hT1 rfl (wt_some hW hT1 (by decide) (by decide) rfl) dX11_gone_18) ?_
    have hT4 : TY S (pr S (pr S a0 5) 2) 14 := wt hW hT1 (by decide) (by decide) rfl (by decide)
    refine go1 (M := mX11_gone) (pc' := 22) (r_iload_n (M := mX11_gone) (i := 1) rfl dX11_gone_21) ?_
    refine go_ck (fun hi5 => ?_)
    refine go1 (M := mX11_gone) (pc' := 23) (r_iald (M := mX11_gone) hT4 hi5 dX11_gone_22) ?_
    refine go1 (M := mX11_gone) (pc' := 24) (ls' := [some (.ref a0), some (.int a1), some (.int (x.1 (pr S (pr S a0 5) 2) a1.toNatClampNeg))]) (r_istore_n (M := mX11_gone) (ls := [some (.ref a0), some (.int a1), none]) (i := 2) (v := (x.1 (pr S (pr S a0 5) 2) a1.toNatClampNeg)) (by decide) rfl dX11_gone_23) ?_
    refine go1 (M := mX11_gone) (pc' := 25) (r_iload_n (M := mX11_gone) (i := 2) rfl dX11_gone_24) ?_
    refine go1 (M := mX11_gone) (pc' := 26) (r_iconst (M := mX11_gone) (v := (-1)) (by decide) dX11_gone_25) ?_
    refine go_br (M := mX11_gone) (pt := 29) (pf := 32) (fun kt kf => r_icmp_ne (M := mX11_gone) dX11_gone_26 (by decide) kf kt) (fun hc6 => ?_) (fun hc6 => ?_)
    · refine go1 (M := mX11_gone) (pc' := 31) (r_bipush (M := mX11_gone) (v := (-3)) (by decide) dX11_gone_29) ?_
      exact go_iret (M := mX11_gone) rfl rfl dX11_gone_31
    · refine go1 (M := mX11_gone) (pc' := 33) (r_aload_n (M := mX11_gone) (i := 0) rfl dX11_gone_32) ?_
      refine go1 (M := mX11_gone) (pc' := 36) (r_getR (M := mX11_gone) fl_11_55 h0 rfl (wt_some hW h0 (by decide) (by decide) rfl) dX11_gone_33) ?_
      refine go1 (M := mX11_gone) (pc' := 39) (r_getR (M := mX11_gone) fl_11_116 hT1 rfl (wt_some hW hT1 (by decide) (by decide) rfl) dX11_gone_36) ?_
      refine go1 (M := mX11_gone) (pc' := 40) (r_iload_n (M := mX11_gone) (i := 1) rfl dX11_gone_39) ?_
      refine go1 (M := mX11_gone) (pc' := 41) (r_iconst (M := mX11_gone) (v := (-1)) (by decide) dX11_gone_40) ?_
      refine go_ck (fun hi7 => ?_)
      refine go1 (M := mX11_gone) (pc' := 42) (r_iast (M := mX11_gone) hT4 hi7 dX11_gone_41) ?_
      refine go_blx (fun x8 => ?_)
      refine go1 (M := mX11_gone) (pc' := 43) (r_aload_n (M := mX11_gone) (i := 0) rfl dX11_gone_42) ?_
      refine go1 (M := mX11_gone) (pc' := 46) (r_getR (M := mX11_gone) fl_11_55 h0 rfl (wt_some hW h0 (by decide) (by decide) rfl) dX11_gone_43) ?_
      refine go1 (M := mX11_gone) (pc' := 49) (r_getR (M := mX11_gone) fl_11_91 hT1 rfl (wt_some hW hT1 (by decide) (by decide) rfl) dX11_gone_46) ?_
      have hT9 : TY S (pr S (pr S a0 5) 3) 4 := wt hW hT1 (by decide) (by decide) rfl (by decide)
      refine go1 (M := mX11_gone) (pc' := 50) (r_iload_n (M := mX11_gone) (i := 2) rfl dX11_gone_49) ?_
      refine go1 (M := mX11_gone) (pc' := 51) (r_iconst (M := mX11_gone) (v := 5) (by decide) dX11_gone_50) ?_
      refine go1 (M := mX11_gone) (pc' := 52) (r_iconst (M := mX11_gone) (v := (-1)) (by decide) dX11_gone_51) ?_
      refine go_V_SV (M := mX11_gone) (pc' := 55) (st := []) (As := [.int (x.1 (pr S (pr S a0 5) 2) a1.toNatClampNeg), .int 5, .int (-1)]) rfl ln_11_119 lb_X4_become (t_X4_become (N := N) hW (by omega) hT9) (by omega) hT9 (Nat.le_of_ble_eq_true rfl) rfl dX11_gone_52 (fun r10 => ?_)
      refine go1 (M := mX11_gone) (pc' := 56) (r_iload_n (M := mX11_gone) (i := 2) rfl dX11_gone_55) ?_
      exact go_iret (M := mX11_gone) rfl rfl dX11_gone_56
def f_X11_seat (N : Nat) (S : SH) (a0 : Nat) (a1 : Int32) (x : DY) : Option (Int32 × DY) :=
  Option.bind (f_X6_isPlace N S (pr S a0 5) a1 x) (fun r2 => (if r2 = 0 then some ((-2), x) else (if a1 = 0 then some ((-2), x) else Option.bind (f_X8_hasOneAt N S (pr S (pr S a0 5) 4) a1 x) (fun r6 => (if r6 = 0 then Option.bind (f_X8_add N S (pr S (pr S a0 5) 4) a1 x) (fun r8 => some (r8.1, r8.2)) else some ((-2), x))))))
set_option maxHeartbeats 1000000 in
theorem t_X11_seat {N d : Nat} {S : SH} (hW : WT S) {x : DY} {a0 : Nat} {a1 : Int32} (hd : 3 ≤ d) (h0 : TY S a0 11) : CT mX11_seat d S [.ref a0, .int a1] x wSI (f_X11_seat N S a0 a1 x) := by
  refine CT.of [some (.ref a0), some (.int a1)] rfl (Nat.le_of_ble_eq_true rfl) (by decide +kernel) ?_
  unfold f_X11_seat
  refine go1 (M := mX11_seat) (pc' := 1) (r_aload_n (M := mX11_seat) (i := 0) rfl dX11_seat_0) ?_
  refine go1 (M := mX11_seat) (pc' := 4) (r_getR (M := mX11_seat) fl_11_55 h0 rfl (wt_some hW h0 (by decide) (by decide) rfl) dX11_seat_1) ?_
  have hT1 : TY S (pr S a0 5) 6 := wt hW h0 (by decide) (by decide) rfl (by decide)
  refine go1 (M := mX11_seat) (pc' := 5) (r_iload_n (M := mX11_seat) (i := 1) rfl dX11_seat_4) ?_
  refine go_V_PI (M := mX11_seat) (pc' := 8) (st := []) (As := [.int a1]) rfl ln_11_113 lb_X6_isPlace (t_X6_isPlace (N := N) hW (by omega) hT1) (by omega) hT1 (Nat.le_of_ble_eq_true rfl) rfl dX11_seat_5 (fun r2 => ?_)
  refine go_br (M := mX11_seat) (pt := 29) (pf := 11) (fun kt kf => r_if_eq (M := mX11_seat) dX11_seat_8 (by decide) kt kf) (fun hc3 => ?_) (fun hc3 => ?_)
  · refine go1 (M := mX11_seat) (pc' := 31) (r_bipush (M := mX11_seat) (v := (-2)) (by decide) dX11_seat_29) ?_
    exact go_iret (M := mX11_seat) rfl rfl dX11_seat_31
  · refine go1 (M := mX11_seat) (pc' := 12) (r_iload_n (M := mX11_seat) (i := 1) rfl dX11_seat_11) ?_
    refine go_br (M := mX11_seat) (pt := 29) (pf := 15) (fun kt kf => r_if_eq (M := mX11_seat) dX11_seat_12 (by decide) kt kf) (fun hc4 => ?_) (fun hc4 => ?_)
    · refine go1 (M := mX11_seat) (pc' := 31) (r_bipush (M := mX11_seat) (v := (-2)) (by decide) dX11_seat_29) ?_
      exact go_iret (M := mX11_seat) rfl rfl dX11_seat_31
    · refine go1 (M := mX11_seat) (pc' := 16) (r_aload_n (M := mX11_seat) (i := 0) rfl dX11_seat_15) ?_
      refine go1 (M := mX11_seat) (pc' := 19) (r_getR (M := mX11_seat) fl_11_55 h0 rfl (wt_some hW h0 (by decide) (by decide) rfl) dX11_seat_16) ?_
      refine go1 (M := mX11_seat) (pc' := 22) (r_getR (M := mX11_seat) fl_11_123 hT1 rfl (wt_some hW hT1 (by decide) (by decide) rfl) dX11_seat_19) ?_
      have hT5 : TY S (pr S (pr S a0 5) 4) 8 := wt hW hT1 (by decide) (by decide) rfl (by decide)
      refine go1 (M := mX11_seat) (pc' := 23) (r_iload_n (M := mX11_seat) (i := 1) rfl dX11_seat_22) ?_
      refine go_V_PI (M := mX11_seat) (pc' := 26) (st := []) (As := [.int a1]) rfl ln_11_127 lb_X8_hasOneAt (t_X8_hasOneAt (N := N) hW (by omega) hT5) (by omega) hT5 (Nat.le_of_ble_eq_true rfl) rfl dX11_seat_23 (fun r6 => ?_)
      refine go_br (M := mX11_seat) (pt := 32) (pf := 29) (fun kt kf => r_if_eq (M := mX11_seat) dX11_seat_26 (by decide) kt kf) (fun hc7 => ?_) (fun hc7 => ?_)
      · refine go1 (M := mX11_seat) (pc' := 33) (r_aload_n (M := mX11_seat) (i := 0) rfl dX11_seat_32) ?_
        refine go1 (M := mX11_seat) (pc' := 36) (r_getR (M := mX11_seat) fl_11_55 h0 rfl (wt_some hW h0 (by decide) (by decide) rfl) dX11_seat_33) ?_
        refine go1 (M := mX11_seat) (pc' := 39) (r_getR (M := mX11_seat) fl_11_123 hT1 rfl (wt_some hW hT1 (by decide) (by decide) rfl) dX11_seat_36) ?_
        refine go1 (M := mX11_seat) (pc' := 40) (r_iload_n (M := mX11_seat) (i := 1) rfl dX11_seat_39) ?_
        refine go_V_SI (M := mX11_seat) (pc' := 43) (st := []) (As := [.int a1]) rfl ln_11_132 lb_X8_add (t_X8_add (N := N) hW (by omega) hT5) (by omega) hT5 (Nat.le_of_ble_eq_true rfl) rfl dX11_seat_40 (fun r8 => ?_)
        exact go_iret (M := mX11_seat) rfl rfl dX11_seat_43
      · refine go1 (M := mX11_seat) (pc' := 31) (r_bipush (M := mX11_seat) (v := (-2)) (by decide) dX11_seat_29) ?_
        exact go_iret (M := mX11_seat) rfl rfl dX11_seat_31
