/-! MIRRORS, by program out of the class's bytecode: X12_worth .. X12_taken -/
def f_X12_worth (N : Nat) (S : SH) (a0 : Nat) (a1 : Int32) (a2 : Int32) (x : DY) : Option (Int64 × DY) :=
  Option.bind (f_X12_isAhead N S a0 a1 a2 x) (fun r1 => (if r1 = 0 then some ((-4611686018427387904), x) else Option.bind (f_X12_lookAhead N S a0 a1 a2 x) (fun r3 => some ((((r3.1 a0 61)).toInt64), r3))))
set_option maxHeartbeats 1000000 in
theorem t_X12_worth {N d : Nat} {S : SH} (hW : WT S) {x : DY} {a0 : Nat} {a1 : Int32} {a2 : Int32} (hd : 6 ≤ d) (h0 : TY S a0 12) : CT mX12_worth d S [.ref a0, .int a1, .int a2] x wSL (f_X12_worth N S a0 a1 a2 x) := by
  refine CT.of [some (.ref a0), some (.int a1), some (.int a2)] rfl (Nat.le_of_ble_eq_true rfl) (by decide +kernel) ?_
  unfold f_X12_worth
  refine go1 (M := mX12_worth) (pc' := 1) (r_aload_n (M := mX12_worth) (i := 0) rfl dX12_worth_0) ?_
  refine go1 (M := mX12_worth) (pc' := 2) (r_iload_n (M := mX12_worth) (i := 1) rfl dX12_worth_1) ?_
  refine go1 (M := mX12_worth) (pc' := 3) (r_iload_n (M := mX12_worth) (i := 2) rfl dX12_worth_2) ?_
  refine go_V_PI (M := mX12_worth) (pc' := 6) (st := []) (As := [.int a1, .int a2]) rfl ln_12_376 lb_X12_isAhead (t_X12_isAhead (N := N) hW (by omega) h0) (by omega) h0 (Nat.le_of_ble_eq_true rfl) rfl dX12_worth_3 (fun r1 => ?_)
  refine go_br (M := mX12_worth) (pt := 9) (pf := 13) (fun kt kf => r_if_ne (M := mX12_worth) dX12_worth_6 (by decide) kf kt) (fun hc2 => ?_) (fun hc2 => ?_)
  · refine go1 (M := mX12_worth) (pc' := 12) (r_ldc2 (M := mX12_worth) (v := (-4611686018427387904)) (tb6 149 (by decide +kernel) rfl) dX12_worth_9) ?_
    exact go_lret (M := mX12_worth) rfl rfl dX12_worth_12
  · refine go1 (M := mX12_worth) (pc' := 14) (r_aload_n (M := mX12_worth) (i := 0) rfl dX12_worth_13) ?_
    refine go1 (M := mX12_worth) (pc' := 15) (r_iload_n (M := mX12_worth) (i := 1) rfl dX12_worth_14) ?_
    refine go1 (M := mX12_worth) (pc' := 16) (r_iload_n (M := mX12_worth) (i := 2) rfl dX12_worth_15) ?_
    refine go_V_SV (M := mX12_worth) (pc' := 19) (st := []) (As := [.int a1, .int a2]) rfl ln_12_380 lb_X12_lookAhead (t_X12_lookAhead (N := N) hW (by omega) h0) (by omega) h0 (Nat.le_of_ble_eq_true rfl) rfl dX12_worth_16 (fun r3 => ?_)
    refine go1 (M := mX12_worth) (pc' := 20) (r_aload_n (M := mX12_worth) (i := 0) rfl dX12_worth_19) ?_
    refine go1 (M := mX12_worth) (pc' := 23) (r_getI (M := mX12_worth) fl_12_193 h0 rfl dX12_worth_20) ?_
    refine go1 (M := mX12_worth) (pc' := 24) (r_i2l (M := mX12_worth) dX12_worth_23) ?_
    exact go_lret (M := mX12_worth) rfl rfl dX12_worth_24
def f_X12_piece (N : Nat) (S : SH) (a0 : Nat) (a1 : Int32) (a2 : Int32) (x : DY) : Option (Int32 × DY) :=
  Option.bind (f_X12_in N S a0 a1 1 6 x) (fun r1 => (if r1 = 0 then some ((-2), x) else Option.bind (f_X12_in N S a0 a2 0 999 x) (fun r3 => (if r3 = 0 then some ((-2), x) else ck S (pr S a0 62) a1 (ck S (pr S a0 62) a1 (bl (U1 x (pr S a0 62) a1.toNatClampNeg a2) (fun x8 => some ((x.1 (pr S a0 62) a1.toNatClampNeg), x8))))))))
set_option maxHeartbeats 1000000 in
theorem t_X12_piece {N d : Nat} {S : SH} (hW : WT S) {x : DY} {a0 : Nat} {a1 : Int32} {a2 : Int32} (hd : 2 ≤ d) (h0 : TY S a0 12) : CT mX12_piece d S [.ref a0, .int a1, .int a2] x wSI (f_X12_piece N S a0 a1 a2 x) := by
  refine CT.of [some (.ref a0), some (.int a1), some (.int a2), none] rfl (Nat.le_of_ble_eq_true rfl) (by decide +kernel) ?_
  unfold f_X12_piece
  refine go1 (M := mX12_piece) (pc' := 1) (r_aload_n (M := mX12_piece) (i := 0) rfl dX12_piece_0) ?_
  refine go1 (M := mX12_piece) (pc' := 2) (r_iload_n (M := mX12_piece) (i := 1) rfl dX12_piece_1) ?_
  refine go1 (M := mX12_piece) (pc' := 3) (r_iconst (M := mX12_piece) (v := 1) (by decide) dX12_piece_2) ?_
  refine go1 (M := mX12_piece) (pc' := 5) (r_bipush (M := mX12_piece) (v := 6) (by decide) dX12_piece_3) ?_
  refine go_V_PI (M := mX12_piece) (pc' := 8) (st := []) (As := [.int a1, .int 1, .int 6]) rfl ln_12_217 lb_X12_in (t_X12_in (N := N) hW (by omega) h0) (by omega) h0 (Nat.le_of_ble_eq_true rfl) rfl dX12_piece_5 (fun r1 => ?_)
  refine go_br (M := mX12_piece) (pt := 23) (pf := 11) (fun kt kf => r_if_eq (M := mX12_piece) dX12_piece_8 (by decide) kt kf) (fun hc2 => ?_) (fun hc2 => ?_)
  · refine go1 (M := mX12_piece) (pc' := 25) (r_bipush (M := mX12_piece) (v := (-2)) (by decide) dX12_piece_23) ?_
    exact go_iret (M := mX12_piece) rfl rfl dX12_piece_25
  · refine go1 (M := mX12_piece) (pc' := 12) (r_aload_n (M := mX12_piece) (i := 0) rfl dX12_piece_11) ?_
    refine go1 (M := mX12_piece) (pc' := 13) (r_iload_n (M := mX12_piece) (i := 2) rfl dX12_piece_12) ?_
    refine go1 (M := mX12_piece) (pc' := 14) (r_iconst (M := mX12_piece) (v := 0) (by decide) dX12_piece_13) ?_
    refine go1 (M := mX12_piece) (pc' := 17) (r_sipush (M := mX12_piece) (v := 999) (by decide) dX12_piece_14) ?_
    refine go_V_PI (M := mX12_piece) (pc' := 20) (st := []) (As := [.int a2, .int 0, .int 999]) rfl ln_12_217 lb_X12_in (t_X12_in (N := N) hW (by omega) h0) (by omega) h0 (Nat.le_of_ble_eq_true rfl) rfl dX12_piece_17 (fun r3 => ?_)
    refine go_br (M := mX12_piece) (pt := 23) (pf := 26) (fun kt kf => r_if_ne (M := mX12_piece) dX12_piece_20 (by decide) kf kt) (fun hc4 => ?_) (fun hc4 => ?_)
    · refine go1 (M := mX12_piece) (pc' := 25) (r_bipush (M := mX12_piece) (v := (-2)) (by decide) dX12_piece_23) ?_
      exact go_iret (M := mX12_piece) rfl rfl dX12_piece_25
    · refine go1 (M := mX12_piece) (pc' := 27) (r_aload_n (M := mX12_piece) (i := 0) rfl dX12_piece_26) ?_
      refine go1 (M := mX12_piece) (pc' := 30) (r_getR (M := mX12_piece) fl_12_196 h0 rfl (wt_some hW h0 (by decide) (by decide) rfl) dX12_piece_27) ?_
      have hT5 : TY S (pr S a0 62) 14 := wt hW h0 (by decide) (by decide) rfl (by decide)
      refine go1 (M := mX12_piece) (pc' := 31) (r_iload_n (M := mX12_piece) (i := 1) rfl dX12_piece_30) ?_
      refine go_ck (fun hi6 => ?_)
      refine go1 (M := mX12_piece) (pc' := 32) (r_iald (M := mX12_piece) hT5 hi6 dX12_piece_31) ?_
      refine go1 (M := mX12_piece) (pc' := 33) (ls' := [some (.ref a0), some (.int a1), some (.int a2), some (.int (x.1 (pr S a0 62) a1.toNatClampNeg))]) (r_istore_n (M := mX12_piece) (ls := [some (.ref a0), some (.int a1), some (.int a2), none]) (i := 3) (v := (x.1 (pr S a0 62) a1.toNatClampNeg)) (by decide) rfl dX12_piece_32) ?_
      refine go1 (M := mX12_piece) (pc' := 34) (r_aload_n (M := mX12_piece) (i := 0) rfl dX12_piece_33) ?_
      refine go1 (M := mX12_piece) (pc' := 37) (r_getR (M := mX12_piece) fl_12_196 h0 rfl (wt_some hW h0 (by decide) (by decide) rfl) dX12_piece_34) ?_
      refine go1 (M := mX12_piece) (pc' := 38) (r_iload_n (M := mX12_piece) (i := 1) rfl dX12_piece_37) ?_
      refine go1 (M := mX12_piece) (pc' := 39) (r_iload_n (M := mX12_piece) (i := 2) rfl dX12_piece_38) ?_
      refine go_ck (fun hi7 => ?_)
      refine go1 (M := mX12_piece) (pc' := 40) (r_iast (M := mX12_piece) hT5 hi7 dX12_piece_39) ?_
      refine go_blx (fun x8 => ?_)
      refine go1 (M := mX12_piece) (pc' := 41) (r_iload_n (M := mX12_piece) (i := 3) rfl dX12_piece_40) ?_
      exact go_iret (M := mX12_piece) rfl rfl dX12_piece_41
def j_X12_partOf_26 (N : Nat) (S : SH) (p0 : Nat) (p1 : Int32) (p2 : Int32) (q0 : Int32) (x : DY) : Option Int32 :=
  (if p2 = p1 then some (q0 + 0) else ck S (pr S p0 63) (p1 - p2) (some (q0 + (x.1 (pr S p0 63) (p1 - p2).toNatClampNeg))))
set_option maxHeartbeats 1000000 in
theorem j_X12_partOf_26_t {N d : Nat} {S : SH} (hW : WT S) (hd : 1 ≤ d) (p0 : Nat) (p1 : Int32) (p2 : Int32) (q0 : Int32) (x : DY) (g0 : TY S p0 12) : Go mX12_partOf d S (wPI x) 26 [some (.ref p0), some (.int p1), some (.int p2), none, none] [.int q0] x (j_X12_partOf_26 N S p0 p1 p2 q0 x) := by
  unfold j_X12_partOf_26
  refine go1 (M := mX12_partOf) (pc' := 28) (ls' := [some (.ref p0), some (.int p1), some (.int p2), none, some (.int q0)]) (r_istore (M := mX12_partOf) (ls := [some (.ref p0), some (.int p1), some (.int p2), none, none]) (i := 4) (v := q0) (by decide) rfl dX12_partOf_26) ?_
  refine go1 (M := mX12_partOf) (pc' := 30) (r_iload (M := mX12_partOf) (i := 4) rfl dX12_partOf_28) ?_
  refine go1 (M := mX12_partOf) (pc' := 31) (r_iload_n (M := mX12_partOf) (i := 2) rfl dX12_partOf_30) ?_
  refine go1 (M := mX12_partOf) (pc' := 32) (r_iload_n (M := mX12_partOf) (i := 1) rfl dX12_partOf_31) ?_
  refine go_br (M := mX12_partOf) (pt := 35) (pf := 39) (fun kt kf => r_icmp_ne (M := mX12_partOf) dX12_partOf_32 (by decide) kf kt) (fun hc4 => ?_) (fun hc4 => ?_)
  · refine go1 (M := mX12_partOf) (pc' := 36) (r_iconst (M := mX12_partOf) (v := 0) (by decide) dX12_partOf_35) ?_
    refine go1 (M := mX12_partOf) (pc' := 47) (r_goto (M := mX12_partOf) dX12_partOf_36 (by decide)) ?_
    refine go1 (M := mX12_partOf) (pc' := 48) (r_iadd (M := mX12_partOf) dX12_partOf_47) ?_
    exact go_iret (M := mX12_partOf) rfl rfl dX12_partOf_48
  · refine go1 (M := mX12_partOf) (pc' := 40) (r_aload_n (M := mX12_partOf) (i := 0) rfl dX12_partOf_39) ?_
    refine go1 (M := mX12_partOf) (pc' := 43) (r_getR (M := mX12_partOf) fl_12_199 g0 rfl (wt_some hW g0 (by decide) (by decide) rfl) dX12_partOf_40) ?_
    have hT5 : TY S (pr S p0 63) 14 := wt hW g0 (by decide) (by decide) rfl (by decide)
    refine go1 (M := mX12_partOf) (pc' := 44) (r_iload_n (M := mX12_partOf) (i := 1) rfl dX12_partOf_43) ?_
    refine go1 (M := mX12_partOf) (pc' := 45) (r_iload_n (M := mX12_partOf) (i := 2) rfl dX12_partOf_44) ?_
    refine go1 (M := mX12_partOf) (pc' := 46) (r_isub (M := mX12_partOf) dX12_partOf_45) ?_
    refine go_ck (fun hi6 => ?_)
    refine go1 (M := mX12_partOf) (pc' := 47) (r_iald (M := mX12_partOf) hT5 hi6 dX12_partOf_46) ?_
    refine go1 (M := mX12_partOf) (pc' := 48) (r_iadd (M := mX12_partOf) dX12_partOf_47) ?_
    exact go_iret (M := mX12_partOf) rfl rfl dX12_partOf_48
def j_X12_partOf_9 (N : Nat) (S : SH) (p0 : Nat) (p1 : Int32) (p2 : Int32) (x : DY) : Option Int32 :=
  ck S (pr S p0 62) p2 (j_X12_partOf_26 N S p0 p1 p2 ((x.1 (pr S p0 62) p2.toNatClampNeg) / 2) x)
set_option maxHeartbeats 1000000 in
theorem j_X12_partOf_9_t {N d : Nat} {S : SH} (hW : WT S) (hd : 1 ≤ d) (p0 : Nat) (p1 : Int32) (p2 : Int32) (x : DY) (g0 : TY S p0 12) : Go mX12_partOf d S (wPI x) 9 [some (.ref p0), some (.int p1), some (.int p2), none, none] [] x (j_X12_partOf_9 N S p0 p1 p2 x) := by
  unfold j_X12_partOf_9
  refine go1 (M := mX12_partOf) (pc' := 10) (r_aload_n (M := mX12_partOf) (i := 0) rfl dX12_partOf_9) ?_
  refine go1 (M := mX12_partOf) (pc' := 13) (r_getR (M := mX12_partOf) fl_12_196 g0 rfl (wt_some hW g0 (by decide) (by decide) rfl) dX12_partOf_10) ?_
  have hT2 : TY S (pr S p0 62) 14 := wt hW g0 (by decide) (by decide) rfl (by decide)
  refine go1 (M := mX12_partOf) (pc' := 14) (r_iload_n (M := mX12_partOf) (i := 2) rfl dX12_partOf_13) ?_
  refine go_ck (fun hi3 => ?_)
  refine go1 (M := mX12_partOf) (pc' := 15) (r_iald (M := mX12_partOf) hT2 hi3 dX12_partOf_14) ?_
  refine go1 (M := mX12_partOf) (pc' := 16) (r_iconst (M := mX12_partOf) (v := 2) (by decide) dX12_partOf_15) ?_
  refine go1 (M := mX12_partOf) (pc' := 17) (r_idiv (M := mX12_partOf) (by decide) dX12_partOf_16) ?_
  refine go1 (M := mX12_partOf) (pc' := 26) (r_goto (M := mX12_partOf) dX12_partOf_17 (by decide)) ?_
  exact j_X12_partOf_26_t (N := N) hW (by omega) p0 p1 p2 ((x.1 (pr S p0 62) p2.toNatClampNeg) / 2) x g0
def f_X12_partOf (N : Nat) (S : SH) (a0 : Nat) (a1 : Int32) (a2 : Int32) (a3 : Int32) (x : DY) : Option Int32 :=
  (if a3 = 0 then (if a2 = a1 then j_X12_partOf_9 N S a0 a1 a2 x else ck S (pr S a0 62) a2 (j_X12_partOf_26 N S a0 a1 a2 (x.1 (pr S a0 62) a2.toNatClampNeg) x)) else j_X12_partOf_9 N S a0 a1 a2 x)
set_option maxHeartbeats 1000000 in
theorem t_X12_partOf {N d : Nat} {S : SH} (hW : WT S) {x : DY} {a0 : Nat} {a1 : Int32} {a2 : Int32} {a3 : Int32} (hd : 1 ≤ d) (h0 : TY S a0 12) : CT mX12_partOf d S [.ref a0, .int a1, .int a2, .int a3] x (wPI x) (f_X12_partOf N S a0 a1 a2 a3 x) := by
  refine CT.of [some (.ref a0), some (.int a1), some (.int a2), some (.int a3), none] rfl (Nat.le_of_ble_eq_true rfl) (by decide +kernel) ?_
  unfold f_X12_partOf
  refine go1 (M := mX12_partOf) (pc' := 1) (r_iload_n (M := mX12_partOf) (i := 3) rfl dX12_partOf_0) ?_
  refine go_br (M := mX12_partOf) (pt := 4) (pf := 9) (fun kt kf => r_if_ne (M := mX12_partOf) dX12_partOf_1 (by decide) kf kt) (fun hc1 => ?_) (fun hc1 => ?_)
  · refine go1 (M := mX12_partOf) (pc' := 5) (r_iload_n (M := mX12_partOf) (i := 2) rfl dX12_partOf_4) ?_
    refine go1 (M := mX12_partOf) (pc' := 6) (r_iload_n (M := mX12_partOf) (i := 1) rfl dX12_partOf_5) ?_
    refine go_br (M := mX12_partOf) (pt := 9) (pf := 20) (fun kt kf => r_icmp_ne (M := mX12_partOf) dX12_partOf_6 (by decide) kf kt) (fun hc7 => ?_) (fun hc7 => ?_)
    · refine go_drop (ls' := [some (.ref a0), some (.int a1), some (.int a2), none, none]) (And.intro rfl (And.intro rfl (And.intro rfl trivial))) ?_
      exact j_X12_partOf_9_t (N := N) hW (by omega) a0 a1 a2 x h0
    · refine go1 (M := mX12_partOf) (pc' := 21) (r_aload_n (M := mX12_partOf) (i := 0) rfl dX12_partOf_20) ?_
      refine go1 (M := mX12_partOf) (pc' := 24) (r_getR (M := mX12_partOf) fl_12_196 h0 rfl (wt_some hW h0 (by decide) (by decide) rfl) dX12_partOf_21) ?_
      have hT8 : TY S (pr S a0 62) 14 := wt hW h0 (by decide) (by decide) rfl (by decide)
      refine go1 (M := mX12_partOf) (pc' := 25) (r_iload_n (M := mX12_partOf) (i := 2) rfl dX12_partOf_24) ?_
      refine go_ck (fun hi9 => ?_)
      refine go1 (M := mX12_partOf) (pc' := 26) (r_iald (M := mX12_partOf) hT8 hi9 dX12_partOf_25) ?_
      refine go_drop (ls' := [some (.ref a0), some (.int a1), some (.int a2), none, none]) (And.intro rfl (And.intro rfl (And.intro rfl trivial))) ?_
      exact j_X12_partOf_26_t (N := N) hW (by omega) a0 a1 a2 (x.1 (pr S a0 62) a2.toNatClampNeg) x h0
  · refine go_drop (ls' := [some (.ref a0), some (.int a1), some (.int a2), none, none]) (And.intro rfl (And.intro rfl (And.intro rfl trivial))) ?_
    exact j_X12_partOf_9_t (N := N) hW (by omega) a0 a1 a2 x h0
def j_X12_most_48 (N : Nat) (S : SH) (bk5 : Int32 → Int32 → Option Int32) (p0 : Nat) (p1 : Int32) (p2 : Int32) (p4 : Int32) (q0 : Int32) (x : DY) : Option Int32 :=
  bk5 q0 (p4 + 1)
set_option maxHeartbeats 1000000 in
theorem j_X12_most_48_t {N d : Nat} {S : SH} (hW : WT S) (hd : 2 ≤ d) (bk5 : Int32 → Int32 → Option Int32) (p0 : Nat) (p1 : Int32) (p2 : Int32) (p4 : Int32) (q0 : Int32) (x : DY) (g0 : TY S p0 12) (hbk5 : ∀ (v3 : Int32) (v4 : Int32), Go mX12_most d S (wPI x) 5 [some (.ref p0), some (.int p1), some (.int p2), some (.int v3), some (.int v4)] [] x (bk5 v3 v4)) : Go mX12_most d S (wPI x) 48 [some (.ref p0), some (.int p1), some (.int p2), none, some (.int p4)] [.int q0] x (j_X12_most_48 N S bk5 p0 p1 p2 p4 q0 x) := by
  unfold j_X12_most_48
  refine go1 (M := mX12_most) (pc' := 49) (ls' := [some (.ref p0), some (.int p1), some (.int p2), some (.int q0), some (.int p4)]) (r_istore_n (M := mX12_most) (ls := [some (.ref p0), some (.int p1), some (.int p2), none, some (.int p4)]) (i := 3) (v := q0) (by decide) rfl dX12_most_48) ?_
  refine go1 (M := mX12_most) (pc' := 52) (ls' := [some (.ref p0), some (.int p1), some (.int p2), some (.int q0), some (.int (p4 + 1))]) (r_iinc (M := mX12_most) (ls := [some (.ref p0), some (.int p1), some (.int p2), some (.int q0), some (.int p4)]) (i := 4) (v := p4) (c' := 1) (by decide) rfl (by decide) rfl dX12_most_49) ?_
  refine go1 (M := mX12_most) (pc' := 5) (r_goto (M := mX12_most) dX12_most_52 (by decide)) ?_
  exact hbk5 q0 (p4 + 1)
def j_X12_most_36 (N : Nat) (S : SH) (bk5 : Int32 → Int32 → Option Int32) (p0 : Nat) (p1 : Int32) (p2 : Int32) (p4 : Int32) (x : DY) : Option Int32 :=
  Option.bind (f_X12_partOf N S p0 p1 p4 p2 x) (fun r5 => j_X12_most_48 N S bk5 p0 p1 p2 p4 r5 x)
set_option maxHeartbeats 1000000 in
theorem j_X12_most_36_t {N d : Nat} {S : SH} (hW : WT S) (hd : 2 ≤ d) (bk5 : Int32 → Int32 → Option Int32) (p0 : Nat) (p1 : Int32) (p2 : Int32) (p4 : Int32) (x : DY) (g0 : TY S p0 12) (hbk5 : ∀ (v3 : Int32) (v4 : Int32), Go mX12_most d S (wPI x) 5 [some (.ref p0), some (.int p1), some (.int p2), some (.int v3), some (.int v4)] [] x (bk5 v3 v4)) : Go mX12_most d S (wPI x) 36 [some (.ref p0), some (.int p1), some (.int p2), none, some (.int p4)] [] x (j_X12_most_36 N S bk5 p0 p1 p2 p4 x) := by
  unfold j_X12_most_36
  refine go1 (M := mX12_most) (pc' := 37) (r_aload_n (M := mX12_most) (i := 0) rfl dX12_most_36) ?_
  refine go1 (M := mX12_most) (pc' := 38) (r_iload_n (M := mX12_most) (i := 1) rfl dX12_most_37) ?_
  refine go1 (M := mX12_most) (pc' := 40) (r_iload (M := mX12_most) (i := 4) rfl dX12_most_38) ?_
  refine go1 (M := mX12_most) (pc' := 41) (r_iload_n (M := mX12_most) (i := 2) rfl dX12_most_40) ?_
  refine go_V_PI (M := mX12_most) (pc' := 44) (st := []) (As := [.int p1, .int p4, .int p2]) rfl ln_12_383 lb_X12_partOf (t_X12_partOf (N := N) hW (by omega) g0) (by omega) g0 (Nat.le_of_ble_eq_true rfl) rfl dX12_most_41 (fun r5 => ?_)
  refine go1 (M := mX12_most) (pc' := 48) (r_goto (M := mX12_most) dX12_most_44 (by decide)) ?_
  exact j_X12_most_48_t (N := N) hW (by omega) bk5 p0 p1 p2 p4 r5 x g0 hbk5
def lp_X12_most_5_b (N : Nat) (S : SH) (bk5 : Int32 → Int32 → Option Int32) (p0 : Nat) (p1 : Int32) (p2 : Int32) (p3 : Int32) (p4 : Int32) (x : DY) : Option Int32 :=
  (if 7 ≤ p4 then some p3 else (if p1 < p4 then some p3 else (if p4 = 1 then j_X12_most_36 N S bk5 p0 p1 p2 p4 x else Option.bind (f_X12_partOf N S p0 p1 p4 p2 x) (fun r6 => (if r6 ≤ p3 then j_X12_most_48 N S bk5 p0 p1 p2 p4 p3 x else j_X12_most_36 N S bk5 p0 p1 p2 p4 x)))))
set_option maxHeartbeats 1000000 in
theorem lp_X12_most_5_b_t {N d : Nat} {S : SH} (hW : WT S) (hd : 2 ≤ d) (bk5 : Int32 → Int32 → Option Int32) (p0 : Nat) (p1 : Int32) (p2 : Int32) (p3 : Int32) (p4 : Int32) (x : DY) (g0 : TY S p0 12) (hbk5 : ∀ (v3 : Int32) (v4 : Int32), Go mX12_most d S (wPI x) 5 [some (.ref p0), some (.int p1), some (.int p2), some (.int v3), some (.int v4)] [] x (bk5 v3 v4)) : Go mX12_most d S (wPI x) 5 [some (.ref p0), some (.int p1), some (.int p2), some (.int p3), some (.int p4)] [] x (lp_X12_most_5_b N S bk5 p0 p1 p2 p3 p4 x) := by
  unfold lp_X12_most_5_b
  refine go1 (M := mX12_most) (pc' := 7) (r_iload (M := mX12_most) (i := 4) rfl dX12_most_5) ?_
  refine go1 (M := mX12_most) (pc' := 9) (r_bipush (M := mX12_most) (v := 7) (by decide) dX12_most_7) ?_
  refine go_br (M := mX12_most) (pt := 55) (pf := 12) (fun kt kf => r_icmp_ge (M := mX12_most) dX12_most_9 (by decide) kt kf) (fun hc2 => ?_) (fun hc2 => ?_)
  · refine go1 (M := mX12_most) (pc' := 56) (r_iload_n (M := mX12_most) (i := 3) rfl dX12_most_55) ?_
    exact go_iret (M := mX12_most) rfl rfl dX12_most_56
  · refine go1 (M := mX12_most) (pc' := 14) (r_iload (M := mX12_most) (i := 4) rfl dX12_most_12) ?_
    refine go1 (M := mX12_most) (pc' := 15) (r_iload_n (M := mX12_most) (i := 1) rfl dX12_most_14) ?_
    refine go_br (M := mX12_most) (pt := 55) (pf := 18) (fun kt kf => r_icmp_gt (M := mX12_most) dX12_most_15 (by decide) kt kf) (fun hc3 => ?_) (fun hc3 => ?_)
    · refine go1 (M := mX12_most) (pc' := 56) (r_iload_n (M := mX12_most) (i := 3) rfl dX12_most_55) ?_
      exact go_iret (M := mX12_most) rfl rfl dX12_most_56
    · refine go1 (M := mX12_most) (pc' := 20) (r_iload (M := mX12_most) (i := 4) rfl dX12_most_18) ?_
      refine go1 (M := mX12_most) (pc' := 21) (r_iconst (M := mX12_most) (v := 1) (by decide) dX12_most_20) ?_
      refine go_br (M := mX12_most) (pt := 36) (pf := 24) (fun kt kf => r_icmp_eq (M := mX12_most) dX12_most_21 (by decide) kt kf) (fun hc4 => ?_) (fun hc4 => ?_)
      · refine go_drop (ls' := [some (.ref p0), some (.int p1), some (.int p2), none, some (.int p4)]) (And.intro rfl (And.intro rfl (And.intro rfl (And.intro rfl trivial)))) ?_
        exact j_X12_most_36_t (N := N) hW (by omega) bk5 p0 p1 p2 p4 x g0 hbk5
      · refine go1 (M := mX12_most) (pc' := 25) (r_aload_n (M := mX12_most) (i := 0) rfl dX12_most_24) ?_
        refine go1 (M := mX12_most) (pc' := 26) (r_iload_n (M := mX12_most) (i := 1) rfl dX12_most_25) ?_
        refine go1 (M := mX12_most) (pc' := 28) (r_iload (M := mX12_most) (i := 4) rfl dX12_most_26) ?_
        refine go1 (M := mX12_most) (pc' := 29) (r_iload_n (M := mX12_most) (i := 2) rfl dX12_most_28) ?_
        refine go_V_PI (M := mX12_most) (pc' := 32) (st := []) (As := [.int p1, .int p4, .int p2]) rfl ln_12_383 lb_X12_partOf (t_X12_partOf (N := N) hW (by omega) g0) (by omega) g0 (Nat.le_of_ble_eq_true rfl) rfl dX12_most_29 (fun r6 => ?_)
        refine go1 (M := mX12_most) (pc' := 33) (r_iload_n (M := mX12_most) (i := 3) rfl dX12_most_32) ?_
        refine go_br (M := mX12_most) (pt := 47) (pf := 36) (fun kt kf => r_icmp_le (M := mX12_most) dX12_most_33 (by decide) kt kf) (fun hc7 => ?_) (fun hc7 => ?_)
        · refine go1 (M := mX12_most) (pc' := 48) (r_iload_n (M := mX12_most) (i := 3) rfl dX12_most_47) ?_
          refine go_drop (ls' := [some (.ref p0), some (.int p1), some (.int p2), none, some (.int p4)]) (And.intro rfl (And.intro rfl (And.intro rfl (And.intro rfl trivial)))) ?_
          exact j_X12_most_48_t (N := N) hW (by omega) bk5 p0 p1 p2 p4 p3 x g0 hbk5
        · refine go_drop (ls' := [some (.ref p0), some (.int p1), some (.int p2), none, some (.int p4)]) (And.intro rfl (And.intro rfl (And.intro rfl (And.intro rfl trivial)))) ?_
          exact j_X12_most_36_t (N := N) hW (by omega) bk5 p0 p1 p2 p4 x g0 hbk5
def lp_X12_most_5 (N : Nat) (S : SH) (p0 : Nat) (p1 : Int32) (p2 : Int32) (p3 : Int32) (p4 : Int32) (x : DY) : Option Int32 :=
  itr (fun back (v : Int32 × Int32) => lp_X12_most_5_b N S (fun p3 p4 => back (p3, p4)) p0 p1 p2 v.1 v.2 x) N (p3, p4)
theorem lp_X12_most_5_t {N d : Nat} {S : SH} (hW : WT S) (hd : 2 ≤ d) (p0 : Nat) (p1 : Int32) (p2 : Int32) (p3 : Int32) (p4 : Int32) (x : DY) (g0 : TY S p0 12) : Go mX12_most d S (wPI x) 5 [some (.ref p0), some (.int p1), some (.int p2), some (.int p3), some (.int p4)] [] x (lp_X12_most_5 N S p0 p1 p2 p3 p4 x) := by
  unfold lp_X12_most_5
  exact go_itr (L := fun (v : Int32 × Int32) => [some (.ref p0), some (.int p1), some (.int p2), some (.int v.1), some (.int v.2)]) (X := fun (v : Int32 × Int32) => x) (fun back hB v => lp_X12_most_5_b_t (N := N) hW hd (fun p3 p4 => back (p3, p4)) p0 p1 p2 v.1 v.2 x g0 (fun p3 p4 => hB (p3, p4)) ) N (p3, p4)
def f_X12_most (N : Nat) (S : SH) (a0 : Nat) (a1 : Int32) (a2 : Int32) (x : DY) : Option Int32 :=
  lp_X12_most_5 N S a0 a1 a2 0 1 x
set_option maxHeartbeats 1000000 in
theorem t_X12_most {N d : Nat} {S : SH} (hW : WT S) {x : DY} {a0 : Nat} {a1 : Int32} {a2 : Int32} (hd : 2 ≤ d) (h0 : TY S a0 12) : CT mX12_most d S [.ref a0, .int a1, .int a2] x (wPI x) (f_X12_most N S a0 a1 a2 x) := by
  refine CT.of [some (.ref a0), some (.int a1), some (.int a2), none, none] rfl (Nat.le_of_ble_eq_true rfl) (by decide +kernel) ?_
  unfold f_X12_most
  refine go1 (M := mX12_most) (pc' := 1) (r_iconst (M := mX12_most) (v := 0) (by decide) dX12_most_0) ?_
  refine go1 (M := mX12_most) (pc' := 2) (ls' := [some (.ref a0), some (.int a1), some (.int a2), some (.int 0), none]) (r_istore_n (M := mX12_most) (ls := [some (.ref a0), some (.int a1), some (.int a2), none, none]) (i := 3) (v := 0) (by decide) rfl dX12_most_1) ?_
  refine go1 (M := mX12_most) (pc' := 3) (r_iconst (M := mX12_most) (v := 1) (by decide) dX12_most_2) ?_
  refine go1 (M := mX12_most) (pc' := 5) (ls' := [some (.ref a0), some (.int a1), some (.int a2), some (.int 0), some (.int 1)]) (r_istore (M := mX12_most) (ls := [some (.ref a0), some (.int a1), some (.int a2), some (.int 0), none]) (i := 4) (v := 1) (by decide) rfl dX12_most_3) ?_
  refine lp_X12_most_5_t (N := N) hW (by omega) a0 a1 a2 0 1 x h0
def lp_X12_cut_16_b (N : Nat) (S : SH) (k39 : DY → Option (Int32 × DY)) (bk16 : Int32 → DY → Option (Int32 × DY)) (p0 : Nat) (p1 : Int32) (p2 : Int32) (p3 : Int32) (x : DY) : Option (Int32 × DY) :=
  (if p1 < p3 then k39 x else Option.bind (f_X12_most N S p0 p3 0 x) (fun r6 => ck S (pr S p0 63) p3 (bl (U1 x (pr S p0 63) p3.toNatClampNeg r6) (fun x8 => bk16 (p3 + 1) x8))))
set_option maxHeartbeats 1000000 in
theorem lp_X12_cut_16_b_t {N d : Nat} {S : SH} (hW : WT S) (hd : 3 ≤ d) (k39 : DY → Option (Int32 × DY)) (bk16 : Int32 → DY → Option (Int32 × DY)) (p0 : Nat) (p1 : Int32) (p2 : Int32) (p3 : Int32) (x : DY) (g0 : TY S p0 12) (hk39 : ∀ (y : DY), Go mX12_cut d S wSI 39 [some (.ref p0), some (.int p1), some (.int p2), none, none, none] [] y (k39 y)) (hbk16 : ∀ (v3 : Int32) (y : DY), Go mX12_cut d S wSI 16 [some (.ref p0), some (.int p1), some (.int p2), some (.int v3), none, none] [] y (bk16 v3 y)) : Go mX12_cut d S wSI 16 [some (.ref p0), some (.int p1), some (.int p2), some (.int p3), none, none] [] x (lp_X12_cut_16_b N S k39 bk16 p0 p1 p2 p3 x) := by
  unfold lp_X12_cut_16_b
  refine go1 (M := mX12_cut) (pc' := 17) (r_iload_n (M := mX12_cut) (i := 3) rfl dX12_cut_16) ?_
  refine go1 (M := mX12_cut) (pc' := 18) (r_iload_n (M := mX12_cut) (i := 1) rfl dX12_cut_17) ?_
  refine go_br (M := mX12_cut) (pt := 39) (pf := 21) (fun kt kf => r_icmp_gt (M := mX12_cut) dX12_cut_18 (by decide) kt kf) (fun hc4 => ?_) (fun hc4 => ?_)
  · refine go_drop (ls' := [some (.ref p0), some (.int p1), some (.int p2), none, none, none]) (And.intro rfl (And.intro rfl (And.intro rfl trivial))) ?_
    exact hk39 x
  · refine go1 (M := mX12_cut) (pc' := 22) (r_aload_n (M := mX12_cut) (i := 0) rfl dX12_cut_21) ?_
    refine go1 (M := mX12_cut) (pc' := 25) (r_getR (M := mX12_cut) fl_12_199 g0 rfl (wt_some hW g0 (by decide) (by decide) rfl) dX12_cut_22) ?_
    have hT5 : TY S (pr S p0 63) 14 := wt hW g0 (by decide) (by decide) rfl (by decide)
    refine go1 (M := mX12_cut) (pc' := 26) (r_iload_n (M := mX12_cut) (i := 3) rfl dX12_cut_25) ?_
    refine go1 (M := mX12_cut) (pc' := 27) (r_aload_n (M := mX12_cut) (i := 0) rfl dX12_cut_26) ?_
    refine go1 (M := mX12_cut) (pc' := 28) (r_iload_n (M := mX12_cut) (i := 3) rfl dX12_cut_27) ?_
    refine go1 (M := mX12_cut) (pc' := 29) (r_iconst (M := mX12_cut) (v := 0) (by decide) dX12_cut_28) ?_
    refine go_V_PI (M := mX12_cut) (pc' := 32) (st := [.int p3, .ref (pr S p0 63)]) (As := [.int p3, .int 0]) rfl ln_12_387 lb_X12_most (t_X12_most (N := N) hW (by omega) g0) (by omega) g0 (Nat.le_of_ble_eq_true rfl) rfl dX12_cut_29 (fun r6 => ?_)
    refine go_ck (fun hi7 => ?_)
    refine go1 (M := mX12_cut) (pc' := 33) (r_iast (M := mX12_cut) hT5 hi7 dX12_cut_32) ?_
    refine go_blx (fun x8 => ?_)
    refine go1 (M := mX12_cut) (pc' := 36) (ls' := [some (.ref p0), some (.int p1), some (.int p2), some (.int (p3 + 1)), none, none]) (r_iinc (M := mX12_cut) (ls := [some (.ref p0), some (.int p1), some (.int p2), some (.int p3), none, none]) (i := 3) (v := p3) (c' := 1) (by decide) rfl (by decide) rfl dX12_cut_33) ?_
    refine go1 (M := mX12_cut) (pc' := 16) (r_goto (M := mX12_cut) dX12_cut_36 (by decide)) ?_
    exact hbk16 (p3 + 1) x8
def lp_X12_cut_16 (N : Nat) (S : SH) (k39 : DY → Option (Int32 × DY)) (p0 : Nat) (p1 : Int32) (p2 : Int32) (p3 : Int32) (x : DY) : Option (Int32 × DY) :=
  itr (fun back (v : Int32 × DY) => lp_X12_cut_16_b N S k39 (fun p3 y => back (p3, y)) p0 p1 p2 v.1 v.2) N (p3, x)
theorem lp_X12_cut_16_t {N d : Nat} {S : SH} (hW : WT S) (hd : 3 ≤ d) (k39 : DY → Option (Int32 × DY)) (p0 : Nat) (p1 : Int32) (p2 : Int32) (p3 : Int32) (x : DY) (g0 : TY S p0 12) (hk39 : ∀ (y : DY), Go mX12_cut d S wSI 39 [some (.ref p0), some (.int p1), some (.int p2), none, none, none] [] y (k39 y)) : Go mX12_cut d S wSI 16 [some (.ref p0), some (.int p1), some (.int p2), some (.int p3), none, none] [] x (lp_X12_cut_16 N S k39 p0 p1 p2 p3 x) := by
  unfold lp_X12_cut_16
  exact go_itr (L := fun (v : Int32 × DY) => [some (.ref p0), some (.int p1), some (.int p2), some (.int v.1), none, none]) (X := fun (v : Int32 × DY) => v.2) (fun back hB v => lp_X12_cut_16_b_t (N := N) hW hd k39 (fun p3 y => back (p3, y)) p0 p1 p2 v.1 v.2 g0 hk39 (fun p3 y => hB (p3, y)) ) N (p3, x)
def j_X12_cut_96 (N : Nat) (S : SH) (k108 : Int32 → Option (Int32 × DY)) (bk67 : Int32 → Option (Int32 × DY)) (p0 : Nat) (p2 : Int32) (p3 : Int32) (p4 : Int32) (p5 : Int32) (q0 : Int32) (q1 : Int32) (q2 : Nat) (q3 : Int32) (x : DY) : Option (Int32 × DY) :=
  Option.bind (f_X12_most N S q2 q1 q0 x) (fun r18 => (if q3 = r18 then k108 p5 else bk67 (p5 + 1)))
set_option maxHeartbeats 1000000 in
theorem j_X12_cut_96_t {N d : Nat} {S : SH} (hW : WT S) (hd : 3 ≤ d) (k108 : Int32 → Option (Int32 × DY)) (bk67 : Int32 → Option (Int32 × DY)) (p0 : Nat) (p2 : Int32) (p3 : Int32) (p4 : Int32) (p5 : Int32) (q0 : Int32) (q1 : Int32) (q2 : Nat) (q3 : Int32) (x : DY) (g0 : TY S p0 12) (gq2 : TY S q2 12) (hk108 : ∀ (v5 : Int32), Go mX12_cut d S wSI 108 [some (.ref p0), none, some (.int p2), some (.int p3), some (.int p4), some (.int v5)] [] x (k108 v5)) (hbk67 : ∀ (v5 : Int32), Go mX12_cut d S wSI 67 [some (.ref p0), none, some (.int p2), some (.int p3), some (.int p4), some (.int v5)] [] x (bk67 v5)) : Go mX12_cut d S wSI 96 [some (.ref p0), none, some (.int p2), some (.int p3), some (.int p4), some (.int p5)] [.int q0, .int q1, .ref q2, .int q3] x (j_X12_cut_96 N S k108 bk67 p0 p2 p3 p4 p5 q0 q1 q2 q3 x) := by
  unfold j_X12_cut_96
  refine go_V_PI (M := mX12_cut) (pc' := 99) (st := [.int q3]) (As := [.int q1, .int q0]) rfl ln_12_387 lb_X12_most (t_X12_most (N := N) hW (by omega) gq2) (by omega) gq2 (Nat.le_of_ble_eq_true rfl) rfl dX12_cut_96 (fun r18 => ?_)
  refine go_br (M := mX12_cut) (pt := 108) (pf := 102) (fun kt kf => r_icmp_eq (M := mX12_cut) dX12_cut_99 (by decide) kt kf) (fun hc19 => ?_) (fun hc19 => ?_)
  · exact hk108 p5
  · refine go1 (M := mX12_cut) (pc' := 105) (ls' := [some (.ref p0), none, some (.int p2), some (.int p3), some (.int p4), some (.int (p5 + 1))]) (r_iinc (M := mX12_cut) (ls := [some (.ref p0), none, some (.int p2), some (.int p3), some (.int p4), some (.int p5)]) (i := 5) (v := p5) (c' := 1) (by decide) rfl (by decide) rfl dX12_cut_102) ?_
    refine go1 (M := mX12_cut) (pc' := 67) (r_goto (M := mX12_cut) dX12_cut_105 (by decide)) ?_
    exact hbk67 (p5 + 1)
def j_X12_cut_81 (N : Nat) (S : SH) (k108 : Int32 → Option (Int32 × DY)) (bk67 : Int32 → Option (Int32 × DY)) (p0 : Nat) (p2 : Int32) (p3 : Int32) (p4 : Int32) (p5 : Int32) (q0 : Int32) (q1 : Int32) (q2 : Int32) (q3 : Nat) (x : DY) : Option (Int32 × DY) :=
  Option.bind (f_X12_partOf N S q3 q2 q1 q0 x) (fun r16 => (if p4 = 0 then j_X12_cut_96 N S k108 bk67 p0 p2 p3 p4 p5 1 p3 p0 r16 x else j_X12_cut_96 N S k108 bk67 p0 p2 p3 p4 p5 0 p3 p0 r16 x))
set_option maxHeartbeats 1000000 in
theorem j_X12_cut_81_t {N d : Nat} {S : SH} (hW : WT S) (hd : 3 ≤ d) (k108 : Int32 → Option (Int32 × DY)) (bk67 : Int32 → Option (Int32 × DY)) (p0 : Nat) (p2 : Int32) (p3 : Int32) (p4 : Int32) (p5 : Int32) (q0 : Int32) (q1 : Int32) (q2 : Int32) (q3 : Nat) (x : DY) (g0 : TY S p0 12) (gq3 : TY S q3 12) (hk108 : ∀ (v5 : Int32), Go mX12_cut d S wSI 108 [some (.ref p0), none, some (.int p2), some (.int p3), some (.int p4), some (.int v5)] [] x (k108 v5)) (hbk67 : ∀ (v5 : Int32), Go mX12_cut d S wSI 67 [some (.ref p0), none, some (.int p2), some (.int p3), some (.int p4), some (.int v5)] [] x (bk67 v5)) : Go mX12_cut d S wSI 81 [some (.ref p0), none, some (.int p2), some (.int p3), some (.int p4), some (.int p5)] [.int q0, .int q1, .int q2, .ref q3] x (j_X12_cut_81 N S k108 bk67 p0 p2 p3 p4 p5 q0 q1 q2 q3 x) := by
  unfold j_X12_cut_81
  refine go_V_PI (M := mX12_cut) (pc' := 84) (st := []) (As := [.int q2, .int q1, .int q0]) rfl ln_12_383 lb_X12_partOf (t_X12_partOf (N := N) hW (by omega) gq3) (by omega) gq3 (Nat.le_of_ble_eq_true rfl) rfl dX12_cut_81 (fun r16 => ?_)
  refine go1 (M := mX12_cut) (pc' := 85) (r_aload_n (M := mX12_cut) (i := 0) rfl dX12_cut_84) ?_
  refine go1 (M := mX12_cut) (pc' := 86) (r_iload_n (M := mX12_cut) (i := 3) rfl dX12_cut_85) ?_
  refine go1 (M := mX12_cut) (pc' := 88) (r_iload (M := mX12_cut) (i := 4) rfl dX12_cut_86) ?_
  refine go_br (M := mX12_cut) (pt := 91) (pf := 95) (fun kt kf => r_if_ne (M := mX12_cut) dX12_cut_88 (by decide) kf kt) (fun hc17 => ?_) (fun hc17 => ?_)
  · refine go1 (M := mX12_cut) (pc' := 92) (r_iconst (M := mX12_cut) (v := 1) (by decide) dX12_cut_91) ?_
    refine go1 (M := mX12_cut) (pc' := 96) (r_goto (M := mX12_cut) dX12_cut_92 (by decide)) ?_
    exact j_X12_cut_96_t (N := N) hW (by omega) k108 bk67 p0 p2 p3 p4 p5 1 p3 p0 r16 x g0 g0 hk108 hbk67
  · refine go1 (M := mX12_cut) (pc' := 96) (r_iconst (M := mX12_cut) (v := 0) (by decide) dX12_cut_95) ?_
    exact j_X12_cut_96_t (N := N) hW (by omega) k108 bk67 p0 p2 p3 p4 p5 0 p3 p0 r16 x g0 g0 hk108 hbk67
def lp_X12_cut_67_b (N : Nat) (S : SH) (k108 : Int32 → Option (Int32 × DY)) (bk67 : Int32 → Option (Int32 × DY)) (p0 : Nat) (p2 : Int32) (p3 : Int32) (p4 : Int32) (p5 : Int32) (x : DY) : Option (Int32 × DY) :=
  (if p4 = 0 then j_X12_cut_81 N S k108 bk67 p0 p2 p3 p4 p5 1 p5 p3 p0 x else j_X12_cut_81 N S k108 bk67 p0 p2 p3 p4 p5 0 p5 p3 p0 x)
set_option maxHeartbeats 1000000 in
theorem lp_X12_cut_67_b_t {N d : Nat} {S : SH} (hW : WT S) (hd : 3 ≤ d) (k108 : Int32 → Option (Int32 × DY)) (bk67 : Int32 → Option (Int32 × DY)) (p0 : Nat) (p2 : Int32) (p3 : Int32) (p4 : Int32) (p5 : Int32) (x : DY) (g0 : TY S p0 12) (hk108 : ∀ (v5 : Int32), Go mX12_cut d S wSI 108 [some (.ref p0), none, some (.int p2), some (.int p3), some (.int p4), some (.int v5)] [] x (k108 v5)) (hbk67 : ∀ (v5 : Int32), Go mX12_cut d S wSI 67 [some (.ref p0), none, some (.int p2), some (.int p3), some (.int p4), some (.int v5)] [] x (bk67 v5)) : Go mX12_cut d S wSI 67 [some (.ref p0), none, some (.int p2), some (.int p3), some (.int p4), some (.int p5)] [] x (lp_X12_cut_67_b N S k108 bk67 p0 p2 p3 p4 p5 x) := by
  unfold lp_X12_cut_67_b
  refine go1 (M := mX12_cut) (pc' := 68) (r_aload_n (M := mX12_cut) (i := 0) rfl dX12_cut_67) ?_
  refine go1 (M := mX12_cut) (pc' := 69) (r_iload_n (M := mX12_cut) (i := 3) rfl dX12_cut_68) ?_
  refine go1 (M := mX12_cut) (pc' := 71) (r_iload (M := mX12_cut) (i := 5) rfl dX12_cut_69) ?_
  refine go1 (M := mX12_cut) (pc' := 73) (r_iload (M := mX12_cut) (i := 4) rfl dX12_cut_71) ?_
  refine go_br (M := mX12_cut) (pt := 76) (pf := 80) (fun kt kf => r_if_ne (M := mX12_cut) dX12_cut_73 (by decide) kf kt) (fun hc15 => ?_) (fun hc15 => ?_)
  · refine go1 (M := mX12_cut) (pc' := 77) (r_iconst (M := mX12_cut) (v := 1) (by decide) dX12_cut_76) ?_
    refine go1 (M := mX12_cut) (pc' := 81) (r_goto (M := mX12_cut) dX12_cut_77 (by decide)) ?_
    exact j_X12_cut_81_t (N := N) hW (by omega) k108 bk67 p0 p2 p3 p4 p5 1 p5 p3 p0 x g0 g0 hk108 hbk67
  · refine go1 (M := mX12_cut) (pc' := 81) (r_iconst (M := mX12_cut) (v := 0) (by decide) dX12_cut_80) ?_
    exact j_X12_cut_81_t (N := N) hW (by omega) k108 bk67 p0 p2 p3 p4 p5 0 p5 p3 p0 x g0 g0 hk108 hbk67
def lp_X12_cut_67 (N : Nat) (S : SH) (k108 : Int32 → Option (Int32 × DY)) (p0 : Nat) (p2 : Int32) (p3 : Int32) (p4 : Int32) (p5 : Int32) (x : DY) : Option (Int32 × DY) :=
  itr (fun back (v : Int32) => lp_X12_cut_67_b N S k108 (fun p5 => back p5) p0 p2 p3 p4 v x) N p5
theorem lp_X12_cut_67_t {N d : Nat} {S : SH} (hW : WT S) (hd : 3 ≤ d) (k108 : Int32 → Option (Int32 × DY)) (p0 : Nat) (p2 : Int32) (p3 : Int32) (p4 : Int32) (p5 : Int32) (x : DY) (g0 : TY S p0 12) (hk108 : ∀ (v5 : Int32), Go mX12_cut d S wSI 108 [some (.ref p0), none, some (.int p2), some (.int p3), some (.int p4), some (.int v5)] [] x (k108 v5)) : Go mX12_cut d S wSI 67 [some (.ref p0), none, some (.int p2), some (.int p3), some (.int p4), some (.int p5)] [] x (lp_X12_cut_67 N S k108 p0 p2 p3 p4 p5 x) := by
  unfold lp_X12_cut_67
  exact go_itr (L := fun (v : Int32) => [some (.ref p0), none, some (.int p2), some (.int p3), some (.int p4), some (.int v)]) (X := fun (v : Int32) => x) (fun back hB v => lp_X12_cut_67_b_t (N := N) hW hd k108 (fun p5 => back p5) p0 p2 p3 p4 v x g0 hk108 (fun p5 => hB p5) ) N p5
def lp_X12_cut_56_b (N : Nat) (S : SH) (bk56 : Int32 → Int32 → Option (Int32 × DY)) (p0 : Nat) (p2 : Int32) (p3 : Int32) (p4 : Int32) (x : DY) : Option (Int32 × DY) :=
  (if p3 ≤ 0 then some ((-1), x) else (if p2 < 0 then some ((-1), x) else lp_X12_cut_67 N S (fun e5_19 => (if p4 = p2 then some (e5_19, x) else bk56 (p3 - e5_19) (p4 + 1))) p0 p2 p3 p4 1 x))
set_option maxHeartbeats 1000000 in
theorem lp_X12_cut_56_b_t {N d : Nat} {S : SH} (hW : WT S) (hd : 3 ≤ d) (bk56 : Int32 → Int32 → Option (Int32 × DY)) (p0 : Nat) (p2 : Int32) (p3 : Int32) (p4 : Int32) (x : DY) (g0 : TY S p0 12) (hbk56 : ∀ (v3 : Int32) (v4 : Int32), Go mX12_cut d S wSI 56 [some (.ref p0), none, some (.int p2), some (.int v3), some (.int v4), none] [] x (bk56 v3 v4)) : Go mX12_cut d S wSI 56 [some (.ref p0), none, some (.int p2), some (.int p3), some (.int p4), none] [] x (lp_X12_cut_56_b N S bk56 p0 p2 p3 p4 x) := by
  unfold lp_X12_cut_56_b
  refine go1 (M := mX12_cut) (pc' := 57) (r_iload_n (M := mX12_cut) (i := 3) rfl dX12_cut_56) ?_
  refine go_br (M := mX12_cut) (pt := 128) (pf := 60) (fun kt kf => r_if_le (M := mX12_cut) dX12_cut_57 (by decide) kt kf) (fun hc12 => ?_) (fun hc12 => ?_)
  · refine go1 (M := mX12_cut) (pc' := 129) (r_iconst (M := mX12_cut) (v := (-1)) (by decide) dX12_cut_128) ?_
    exact go_iret (M := mX12_cut) rfl rfl dX12_cut_129
  · refine go1 (M := mX12_cut) (pc' := 61) (r_iload_n (M := mX12_cut) (i := 2) rfl dX12_cut_60) ?_
    refine go_br (M := mX12_cut) (pt := 128) (pf := 64) (fun kt kf => r_if_lt (M := mX12_cut) dX12_cut_61 (by decide) kt kf) (fun hc13 => ?_) (fun hc13 => ?_)
    · refine go1 (M := mX12_cut) (pc' := 129) (r_iconst (M := mX12_cut) (v := (-1)) (by decide) dX12_cut_128) ?_
      exact go_iret (M := mX12_cut) rfl rfl dX12_cut_129
    · refine go1 (M := mX12_cut) (pc' := 65) (r_iconst (M := mX12_cut) (v := 1) (by decide) dX12_cut_64) ?_
      refine go1 (M := mX12_cut) (pc' := 67) (ls' := [some (.ref p0), none, some (.int p2), some (.int p3), some (.int p4), some (.int 1)]) (r_istore (M := mX12_cut) (ls := [some (.ref p0), none, some (.int p2), some (.int p3), some (.int p4), none]) (i := 5) (v := 1) (by decide) rfl dX12_cut_65) ?_
      refine lp_X12_cut_67_t (N := N) hW (by omega) _ p0 p2 p3 p4 1 x g0 ?_
      · intro e5_19
        refine go1 (M := mX12_cut) (pc' := 110) (r_iload (M := mX12_cut) (i := 4) rfl dX12_cut_108) ?_
        refine go1 (M := mX12_cut) (pc' := 111) (r_iload_n (M := mX12_cut) (i := 2) rfl dX12_cut_110) ?_
        refine go_br (M := mX12_cut) (pt := 114) (pf := 117) (fun kt kf => r_icmp_ne (M := mX12_cut) dX12_cut_111 (by decide) kf kt) (fun hc21 => ?_) (fun hc21 => ?_)
        · refine go1 (M := mX12_cut) (pc' := 116) (r_iload (M := mX12_cut) (i := 5) rfl dX12_cut_114) ?_
          exact go_iret (M := mX12_cut) rfl rfl dX12_cut_116
        · refine go1 (M := mX12_cut) (pc' := 118) (r_iload_n (M := mX12_cut) (i := 3) rfl dX12_cut_117) ?_
          refine go1 (M := mX12_cut) (pc' := 120) (r_iload (M := mX12_cut) (i := 5) rfl dX12_cut_118) ?_
          refine go1 (M := mX12_cut) (pc' := 121) (r_isub (M := mX12_cut) dX12_cut_120) ?_
          refine go1 (M := mX12_cut) (pc' := 122) (ls' := [some (.ref p0), none, some (.int p2), some (.int (p3 - e5_19)), some (.int p4), some (.int e5_19)]) (r_istore_n (M := mX12_cut) (ls := [some (.ref p0), none, some (.int p2), some (.int p3), some (.int p4), some (.int e5_19)]) (i := 3) (v := (p3 - e5_19)) (by decide) rfl dX12_cut_121) ?_
          refine go1 (M := mX12_cut) (pc' := 125) (ls' := [some (.ref p0), none, some (.int p2), some (.int (p3 - e5_19)), some (.int (p4 + 1)), some (.int e5_19)]) (r_iinc (M := mX12_cut) (ls := [some (.ref p0), none, some (.int p2), some (.int (p3 - e5_19)), some (.int p4), some (.int e5_19)]) (i := 4) (v := p4) (c' := 1) (by decide) rfl (by decide) rfl dX12_cut_122) ?_
          refine go1 (M := mX12_cut) (pc' := 56) (r_goto (M := mX12_cut) dX12_cut_125 (by decide)) ?_
          refine go_drop (ls' := [some (.ref p0), none, some (.int p2), some (.int (p3 - e5_19)), some (.int (p4 + 1)), none]) (And.intro rfl (And.intro rfl (And.intro rfl (And.intro rfl trivial)))) ?_
          exact hbk56 (p3 - e5_19) (p4 + 1)
def lp_X12_cut_56 (N : Nat) (S : SH) (p0 : Nat) (p2 : Int32) (p3 : Int32) (p4 : Int32) (x : DY) : Option (Int32 × DY) :=
  itr (fun back (v : Int32 × Int32) => lp_X12_cut_56_b N S (fun p3 p4 => back (p3, p4)) p0 p2 v.1 v.2 x) N (p3, p4)
theorem lp_X12_cut_56_t {N d : Nat} {S : SH} (hW : WT S) (hd : 3 ≤ d) (p0 : Nat) (p2 : Int32) (p3 : Int32) (p4 : Int32) (x : DY) (g0 : TY S p0 12) : Go mX12_cut d S wSI 56 [some (.ref p0), none, some (.int p2), some (.int p3), some (.int p4), none] [] x (lp_X12_cut_56 N S p0 p2 p3 p4 x) := by
  unfold lp_X12_cut_56
  exact go_itr (L := fun (v : Int32 × Int32) => [some (.ref p0), none, some (.int p2), some (.int v.1), some (.int v.2), none]) (X := fun (v : Int32 × Int32) => x) (fun back hB v => lp_X12_cut_56_b_t (N := N) hW hd (fun p3 p4 => back (p3, p4)) p0 p2 v.1 v.2 x g0 (fun p3 p4 => hB (p3, p4)) ) N (p3, p4)
def f_X12_cut (N : Nat) (S : SH) (a0 : Nat) (a1 : Int32) (a2 : Int32) (x : DY) : Option (Int32 × DY) :=
  Option.bind (f_X12_in N S a0 a1 1 30 x) (fun r1 => (if r1 = 0 then some ((-2), x) else lp_X12_cut_16 N S (fun y8 => (if a2 = (-1) then Option.bind (f_X12_most N S a0 a1 1 y8) (fun r23 => some (r23, y8)) else lp_X12_cut_56 N S a0 a2 a1 0 y8)) a0 a1 a2 1 x))
set_option maxHeartbeats 1000000 in
theorem t_X12_cut {N d : Nat} {S : SH} (hW : WT S) {x : DY} {a0 : Nat} {a1 : Int32} {a2 : Int32} (hd : 3 ≤ d) (h0 : TY S a0 12) : CT mX12_cut d S [.ref a0, .int a1, .int a2] x wSI (f_X12_cut N S a0 a1 a2 x) := by
  refine CT.of [some (.ref a0), some (.int a1), some (.int a2), none, none, none] rfl (Nat.le_of_ble_eq_true rfl) (by decide +kernel) ?_
  unfold f_X12_cut
  refine go1 (M := mX12_cut) (pc' := 1) (r_aload_n (M := mX12_cut) (i := 0) rfl dX12_cut_0) ?_
  refine go1 (M := mX12_cut) (pc' := 2) (r_iload_n (M := mX12_cut) (i := 1) rfl dX12_cut_1) ?_
  refine go1 (M := mX12_cut) (pc' := 3) (r_iconst (M := mX12_cut) (v := 1) (by decide) dX12_cut_2) ?_
  refine go1 (M := mX12_cut) (pc' := 5) (r_bipush (M := mX12_cut) (v := 30) (by decide) dX12_cut_3) ?_
  refine go_V_PI (M := mX12_cut) (pc' := 8) (st := []) (As := [.int a1, .int 1, .int 30]) rfl ln_12_217 lb_X12_in (t_X12_in (N := N) hW (by omega) h0) (by omega) h0 (Nat.le_of_ble_eq_true rfl) rfl dX12_cut_5 (fun r1 => ?_)
  refine go_br (M := mX12_cut) (pt := 11) (pf := 14) (fun kt kf => r_if_ne (M := mX12_cut) dX12_cut_8 (by decide) kf kt) (fun hc2 => ?_) (fun hc2 => ?_)
  · refine go1 (M := mX12_cut) (pc' := 13) (r_bipush (M := mX12_cut) (v := (-2)) (by decide) dX12_cut_11) ?_
    exact go_iret (M := mX12_cut) rfl rfl dX12_cut_13
  · refine go1 (M := mX12_cut) (pc' := 15) (r_iconst (M := mX12_cut) (v := 1) (by decide) dX12_cut_14) ?_
    refine go1 (M := mX12_cut) (pc' := 16) (ls' := [some (.ref a0), some (.int a1), some (.int a2), some (.int 1), none, none]) (r_istore_n (M := mX12_cut) (ls := [some (.ref a0), some (.int a1), some (.int a2), none, none, none]) (i := 3) (v := 1) (by decide) rfl dX12_cut_15) ?_
    refine lp_X12_cut_16_t (N := N) hW (by omega) _ a0 a1 a2 1 x h0 ?_
    · intro y8
      refine go1 (M := mX12_cut) (pc' := 40) (r_iload_n (M := mX12_cut) (i := 2) rfl dX12_cut_39) ?_
      refine go1 (M := mX12_cut) (pc' := 41) (r_iconst (M := mX12_cut) (v := (-1)) (by decide) dX12_cut_40) ?_
      refine go_br (M := mX12_cut) (pt := 44) (pf := 51) (fun kt kf => r_icmp_ne (M := mX12_cut) dX12_cut_41 (by decide) kf kt) (fun hc10 => ?_) (fun hc10 => ?_)
      · refine go1 (M := mX12_cut) (pc' := 45) (r_aload_n (M := mX12_cut) (i := 0) rfl dX12_cut_44) ?_
        refine go1 (M := mX12_cut) (pc' := 46) (r_iload_n (M := mX12_cut) (i := 1) rfl dX12_cut_45) ?_
        refine go1 (M := mX12_cut) (pc' := 47) (r_iconst (M := mX12_cut) (v := 1) (by decide) dX12_cut_46) ?_
        refine go_V_PI (M := mX12_cut) (pc' := 50) (st := []) (As := [.int a1, .int 1]) rfl ln_12_387 lb_X12_most (t_X12_most (N := N) hW (by omega) h0) (by omega) h0 (Nat.le_of_ble_eq_true rfl) rfl dX12_cut_47 (fun r23 => ?_)
        exact go_iret (M := mX12_cut) rfl rfl dX12_cut_50
      · refine go1 (M := mX12_cut) (pc' := 52) (r_iload_n (M := mX12_cut) (i := 1) rfl dX12_cut_51) ?_
        refine go1 (M := mX12_cut) (pc' := 53) (ls' := [some (.ref a0), some (.int a1), some (.int a2), some (.int a1), none, none]) (r_istore_n (M := mX12_cut) (ls := [some (.ref a0), some (.int a1), some (.int a2), none, none, none]) (i := 3) (v := a1) (by decide) rfl dX12_cut_52) ?_
        refine go1 (M := mX12_cut) (pc' := 54) (r_iconst (M := mX12_cut) (v := 0) (by decide) dX12_cut_53) ?_
        refine go1 (M := mX12_cut) (pc' := 56) (ls' := [some (.ref a0), some (.int a1), some (.int a2), some (.int a1), some (.int 0), none]) (r_istore (M := mX12_cut) (ls := [some (.ref a0), some (.int a1), some (.int a2), some (.int a1), none, none]) (i := 4) (v := 0) (by decide) rfl dX12_cut_54) ?_
        refine go_drop (ls' := [some (.ref a0), none, some (.int a2), some (.int a1), some (.int 0), none]) (And.intro rfl (And.intro rfl (And.intro rfl (And.intro rfl trivial)))) ?_
        refine lp_X12_cut_56_t (N := N) hW (by omega) a0 a2 a1 0 y8 h0
def j_X12_sitting_27 (N : Nat) (S : SH) (bk4 : Int32 → Int32 → Option Int32) (p0 : Nat) (p2 : Int32) (q0 : Int32) (q1 : Int32) (x : DY) : Option Int32 :=
  bk4 (q1 + q0) (p2 + 1)
set_option maxHeartbeats 1000000 in
theorem j_X12_sitting_27_t {N d : Nat} {S : SH} (hW : WT S) (hd : 1 ≤ d) (bk4 : Int32 → Int32 → Option Int32) (p0 : Nat) (p2 : Int32) (q0 : Int32) (q1 : Int32) (x : DY) (g0 : TY S p0 12) (hbk4 : ∀ (v1 : Int32) (v2 : Int32), Go mX12_sitting d S (wPI x) 4 [some (.ref p0), some (.int v1), some (.int v2)] [] x (bk4 v1 v2)) : Go mX12_sitting d S (wPI x) 27 [some (.ref p0), none, some (.int p2)] [.int q0, .int q1] x (j_X12_sitting_27 N S bk4 p0 p2 q0 q1 x) := by
  unfold j_X12_sitting_27
  refine go1 (M := mX12_sitting) (pc' := 28) (r_iadd (M := mX12_sitting) dX12_sitting_27) ?_
  refine go1 (M := mX12_sitting) (pc' := 29) (ls' := [some (.ref p0), some (.int (q1 + q0)), some (.int p2)]) (r_istore_n (M := mX12_sitting) (ls := [some (.ref p0), none, some (.int p2)]) (i := 1) (v := (q1 + q0)) (by decide) rfl dX12_sitting_28) ?_
  refine go1 (M := mX12_sitting) (pc' := 32) (ls' := [some (.ref p0), some (.int (q1 + q0)), some (.int (p2 + 1))]) (r_iinc (M := mX12_sitting) (ls := [some (.ref p0), some (.int (q1 + q0)), some (.int p2)]) (i := 2) (v := p2) (c' := 1) (by decide) rfl (by decide) rfl dX12_sitting_29) ?_
  refine go1 (M := mX12_sitting) (pc' := 4) (r_goto (M := mX12_sitting) dX12_sitting_32 (by decide)) ?_
  exact hbk4 (q1 + q0) (p2 + 1)
def lp_X12_sitting_4_b (N : Nat) (S : SH) (bk4 : Int32 → Int32 → Option Int32) (p0 : Nat) (p1 : Int32) (p2 : Int32) (x : DY) : Option Int32 :=
  (if (x.1 p0 18) ≤ p2 then some p1 else ck S (pr S p0 26) p2 ((if (x.1 (pr S p0 26) p2.toNatClampNeg) = 0 then j_X12_sitting_27 N S bk4 p0 p2 0 p1 x else j_X12_sitting_27 N S bk4 p0 p2 1 p1 x)))
set_option maxHeartbeats 1000000 in
theorem lp_X12_sitting_4_b_t {N d : Nat} {S : SH} (hW : WT S) (hd : 1 ≤ d) (bk4 : Int32 → Int32 → Option Int32) (p0 : Nat) (p1 : Int32) (p2 : Int32) (x : DY) (g0 : TY S p0 12) (hbk4 : ∀ (v1 : Int32) (v2 : Int32), Go mX12_sitting d S (wPI x) 4 [some (.ref p0), some (.int v1), some (.int v2)] [] x (bk4 v1 v2)) : Go mX12_sitting d S (wPI x) 4 [some (.ref p0), some (.int p1), some (.int p2)] [] x (lp_X12_sitting_4_b N S bk4 p0 p1 p2 x) := by
  unfold lp_X12_sitting_4_b
  refine go1 (M := mX12_sitting) (pc' := 5) (r_iload_n (M := mX12_sitting) (i := 2) rfl dX12_sitting_4) ?_
  refine go1 (M := mX12_sitting) (pc' := 6) (r_aload_n (M := mX12_sitting) (i := 0) rfl dX12_sitting_5) ?_
  refine go1 (M := mX12_sitting) (pc' := 9) (r_getI (M := mX12_sitting) fl_12_62 g0 rfl dX12_sitting_6) ?_
  refine go_br (M := mX12_sitting) (pt := 35) (pf := 12) (fun kt kf => r_icmp_ge (M := mX12_sitting) dX12_sitting_9 (by decide) kt kf) (fun hc2 => ?_) (fun hc2 => ?_)
  · refine go1 (M := mX12_sitting) (pc' := 36) (r_iload_n (M := mX12_sitting) (i := 1) rfl dX12_sitting_35) ?_
    exact go_iret (M := mX12_sitting) rfl rfl dX12_sitting_36
  · refine go1 (M := mX12_sitting) (pc' := 13) (r_iload_n (M := mX12_sitting) (i := 1) rfl dX12_sitting_12) ?_
    refine go1 (M := mX12_sitting) (pc' := 14) (r_aload_n (M := mX12_sitting) (i := 0) rfl dX12_sitting_13) ?_
    refine go1 (M := mX12_sitting) (pc' := 17) (r_getR (M := mX12_sitting) fl_12_86 g0 rfl (wt_some hW g0 (by decide) (by decide) rfl) dX12_sitting_14) ?_
    have hT3 : TY S (pr S p0 26) 15 := wt hW g0 (by decide) (by decide) rfl (by decide)
    refine go1 (M := mX12_sitting) (pc' := 18) (r_iload_n (M := mX12_sitting) (i := 2) rfl dX12_sitting_17) ?_
    refine go_ck (fun hi4 => ?_)
    refine go1 (M := mX12_sitting) (pc' := 19) (r_zald (M := mX12_sitting) hT3 hi4 dX12_sitting_18) ?_
    refine go_br (M := mX12_sitting) (pt := 26) (pf := 22) (fun kt kf => r_if_eq (M := mX12_sitting) dX12_sitting_19 (by decide) kt kf) (fun hc5 => ?_) (fun hc5 => ?_)
    · refine go1 (M := mX12_sitting) (pc' := 27) (r_iconst (M := mX12_sitting) (v := 0) (by decide) dX12_sitting_26) ?_
      refine go_drop (ls' := [some (.ref p0), none, some (.int p2)]) (And.intro rfl (And.intro rfl trivial)) ?_
      exact j_X12_sitting_27_t (N := N) hW (by omega) bk4 p0 p2 0 p1 x g0 hbk4
    · refine go1 (M := mX12_sitting) (pc' := 23) (r_iconst (M := mX12_sitting) (v := 1) (by decide) dX12_sitting_22) ?_
      refine go1 (M := mX12_sitting) (pc' := 27) (r_goto (M := mX12_sitting) dX12_sitting_23 (by decide)) ?_
      refine go_drop (ls' := [some (.ref p0), none, some (.int p2)]) (And.intro rfl (And.intro rfl trivial)) ?_
      exact j_X12_sitting_27_t (N := N) hW (by omega) bk4 p0 p2 1 p1 x g0 hbk4
def lp_X12_sitting_4 (N : Nat) (S : SH) (p0 : Nat) (p1 : Int32) (p2 : Int32) (x : DY) : Option Int32 :=
  itr (fun back (v : Int32 × Int32) => lp_X12_sitting_4_b N S (fun p1 p2 => back (p1, p2)) p0 v.1 v.2 x) N (p1, p2)
theorem lp_X12_sitting_4_t {N d : Nat} {S : SH} (hW : WT S) (hd : 1 ≤ d) (p0 : Nat) (p1 : Int32) (p2 : Int32) (x : DY) (g0 : TY S p0 12) : Go mX12_sitting d S (wPI x) 4 [some (.ref p0), some (.int p1), some (.int p2)] [] x (lp_X12_sitting_4 N S p0 p1 p2 x) := by
  unfold lp_X12_sitting_4
  exact go_itr (L := fun (v : Int32 × Int32) => [some (.ref p0), some (.int v.1), some (.int v.2)]) (X := fun (v : Int32 × Int32) => x) (fun back hB v => lp_X12_sitting_4_b_t (N := N) hW hd (fun p1 p2 => back (p1, p2)) p0 v.1 v.2 x g0 (fun p1 p2 => hB (p1, p2)) ) N (p1, p2)
def f_X12_sitting (N : Nat) (S : SH) (a0 : Nat) (x : DY) : Option Int32 :=
  lp_X12_sitting_4 N S a0 0 0 x
set_option maxHeartbeats 1000000 in
theorem t_X12_sitting {N d : Nat} {S : SH} (hW : WT S) {x : DY} {a0 : Nat} (hd : 1 ≤ d) (h0 : TY S a0 12) : CT mX12_sitting d S [.ref a0] x (wPI x) (f_X12_sitting N S a0 x) := by
  refine CT.of [some (.ref a0), none, none] rfl (Nat.le_of_ble_eq_true rfl) (by decide +kernel) ?_
  unfold f_X12_sitting
  refine go1 (M := mX12_sitting) (pc' := 1) (r_iconst (M := mX12_sitting) (v := 0) (by decide) dX12_sitting_0) ?_
  refine go1 (M := mX12_sitting) (pc' := 2) (ls' := [some (.ref a0), some (.int 0), none]) (r_istore_n (M := mX12_sitting) (ls := [some (.ref a0), none, none]) (i := 1) (v := 0) (by decide) rfl dX12_sitting_1) ?_
  refine go1 (M := mX12_sitting) (pc' := 3) (r_iconst (M := mX12_sitting) (v := 0) (by decide) dX12_sitting_2) ?_
  refine go1 (M := mX12_sitting) (pc' := 4) (ls' := [some (.ref a0), some (.int 0), some (.int 0)]) (r_istore_n (M := mX12_sitting) (ls := [some (.ref a0), some (.int 0), none]) (i := 2) (v := 0) (by decide) rfl dX12_sitting_3) ?_
  refine lp_X12_sitting_4_t (N := N) hW (by omega) a0 0 0 x h0
def j_X12_trays_27 (N : Nat) (S : SH) (bk4 : Int32 → Int32 → Option Int32) (p0 : Nat) (p2 : Int32) (q0 : Int32) (q1 : Int32) (x : DY) : Option Int32 :=
  bk4 (q1 + q0) (p2 + 1)
set_option maxHeartbeats 1000000 in
theorem j_X12_trays_27_t {N d : Nat} {S : SH} (hW : WT S) (hd : 1 ≤ d) (bk4 : Int32 → Int32 → Option Int32) (p0 : Nat) (p2 : Int32) (q0 : Int32) (q1 : Int32) (x : DY) (g0 : TY S p0 12) (hbk4 : ∀ (v1 : Int32) (v2 : Int32), Go mX12_trays d S (wPI x) 4 [some (.ref p0), some (.int v1), some (.int v2)] [] x (bk4 v1 v2)) : Go mX12_trays d S (wPI x) 27 [some (.ref p0), none, some (.int p2)] [.int q0, .int q1] x (j_X12_trays_27 N S bk4 p0 p2 q0 q1 x) := by
  unfold j_X12_trays_27
  refine go1 (M := mX12_trays) (pc' := 28) (r_iadd (M := mX12_trays) dX12_trays_27) ?_
  refine go1 (M := mX12_trays) (pc' := 29) (ls' := [some (.ref p0), some (.int (q1 + q0)), some (.int p2)]) (r_istore_n (M := mX12_trays) (ls := [some (.ref p0), none, some (.int p2)]) (i := 1) (v := (q1 + q0)) (by decide) rfl dX12_trays_28) ?_
  refine go1 (M := mX12_trays) (pc' := 32) (ls' := [some (.ref p0), some (.int (q1 + q0)), some (.int (p2 + 1))]) (r_iinc (M := mX12_trays) (ls := [some (.ref p0), some (.int (q1 + q0)), some (.int p2)]) (i := 2) (v := p2) (c' := 1) (by decide) rfl (by decide) rfl dX12_trays_29) ?_
  refine go1 (M := mX12_trays) (pc' := 4) (r_goto (M := mX12_trays) dX12_trays_32 (by decide)) ?_
  exact hbk4 (q1 + q0) (p2 + 1)
def lp_X12_trays_4_b (N : Nat) (S : SH) (bk4 : Int32 → Int32 → Option Int32) (p0 : Nat) (p1 : Int32) (p2 : Int32) (x : DY) : Option Int32 :=
  (if (x.1 p0 0) ≤ p2 then some p1 else ck S (pr S p0 14) p2 ((if 0 ≤ (x.1 (pr S p0 14) p2.toNatClampNeg) then j_X12_trays_27 N S bk4 p0 p2 1 p1 x else j_X12_trays_27 N S bk4 p0 p2 0 p1 x)))
set_option maxHeartbeats 1000000 in
theorem lp_X12_trays_4_b_t {N d : Nat} {S : SH} (hW : WT S) (hd : 1 ≤ d) (bk4 : Int32 → Int32 → Option Int32) (p0 : Nat) (p1 : Int32) (p2 : Int32) (x : DY) (g0 : TY S p0 12) (hbk4 : ∀ (v1 : Int32) (v2 : Int32), Go mX12_trays d S (wPI x) 4 [some (.ref p0), some (.int v1), some (.int v2)] [] x (bk4 v1 v2)) : Go mX12_trays d S (wPI x) 4 [some (.ref p0), some (.int p1), some (.int p2)] [] x (lp_X12_trays_4_b N S bk4 p0 p1 p2 x) := by
  unfold lp_X12_trays_4_b
  refine go1 (M := mX12_trays) (pc' := 5) (r_iload_n (M := mX12_trays) (i := 2) rfl dX12_trays_4) ?_
  refine go1 (M := mX12_trays) (pc' := 6) (r_aload_n (M := mX12_trays) (i := 0) rfl dX12_trays_5) ?_
  refine go1 (M := mX12_trays) (pc' := 9) (r_getI (M := mX12_trays) fl_12_211 g0 rfl dX12_trays_6) ?_
  refine go_br (M := mX12_trays) (pt := 35) (pf := 12) (fun kt kf => r_icmp_ge (M := mX12_trays) dX12_trays_9 (by decide) kt kf) (fun hc2 => ?_) (fun hc2 => ?_)
  · refine go1 (M := mX12_trays) (pc' := 36) (r_iload_n (M := mX12_trays) (i := 1) rfl dX12_trays_35) ?_
    exact go_iret (M := mX12_trays) rfl rfl dX12_trays_36
  · refine go1 (M := mX12_trays) (pc' := 13) (r_iload_n (M := mX12_trays) (i := 1) rfl dX12_trays_12) ?_
    refine go1 (M := mX12_trays) (pc' := 14) (r_aload_n (M := mX12_trays) (i := 0) rfl dX12_trays_13) ?_
    refine go1 (M := mX12_trays) (pc' := 17) (r_getR (M := mX12_trays) fl_12_50 g0 rfl (wt_some hW g0 (by decide) (by decide) rfl) dX12_trays_14) ?_
    have hT3 : TY S (pr S p0 14) 14 := wt hW g0 (by decide) (by decide) rfl (by decide)
    refine go1 (M := mX12_trays) (pc' := 18) (r_iload_n (M := mX12_trays) (i := 2) rfl dX12_trays_17) ?_
    refine go_ck (fun hi4 => ?_)
    refine go1 (M := mX12_trays) (pc' := 19) (r_iald (M := mX12_trays) hT3 hi4 dX12_trays_18) ?_
    refine go_br (M := mX12_trays) (pt := 26) (pf := 22) (fun kt kf => r_if_ge (M := mX12_trays) dX12_trays_19 (by decide) kt kf) (fun hc5 => ?_) (fun hc5 => ?_)
    · refine go1 (M := mX12_trays) (pc' := 27) (r_iconst (M := mX12_trays) (v := 1) (by decide) dX12_trays_26) ?_
      refine go_drop (ls' := [some (.ref p0), none, some (.int p2)]) (And.intro rfl (And.intro rfl trivial)) ?_
      exact j_X12_trays_27_t (N := N) hW (by omega) bk4 p0 p2 1 p1 x g0 hbk4
    · refine go1 (M := mX12_trays) (pc' := 23) (r_iconst (M := mX12_trays) (v := 0) (by decide) dX12_trays_22) ?_
      refine go1 (M := mX12_trays) (pc' := 27) (r_goto (M := mX12_trays) dX12_trays_23 (by decide)) ?_
      refine go_drop (ls' := [some (.ref p0), none, some (.int p2)]) (And.intro rfl (And.intro rfl trivial)) ?_
      exact j_X12_trays_27_t (N := N) hW (by omega) bk4 p0 p2 0 p1 x g0 hbk4
def lp_X12_trays_4 (N : Nat) (S : SH) (p0 : Nat) (p1 : Int32) (p2 : Int32) (x : DY) : Option Int32 :=
  itr (fun back (v : Int32 × Int32) => lp_X12_trays_4_b N S (fun p1 p2 => back (p1, p2)) p0 v.1 v.2 x) N (p1, p2)
theorem lp_X12_trays_4_t {N d : Nat} {S : SH} (hW : WT S) (hd : 1 ≤ d) (p0 : Nat) (p1 : Int32) (p2 : Int32) (x : DY) (g0 : TY S p0 12) : Go mX12_trays d S (wPI x) 4 [some (.ref p0), some (.int p1), some (.int p2)] [] x (lp_X12_trays_4 N S p0 p1 p2 x) := by
  unfold lp_X12_trays_4
  exact go_itr (L := fun (v : Int32 × Int32) => [some (.ref p0), some (.int v.1), some (.int v.2)]) (X := fun (v : Int32 × Int32) => x) (fun back hB v => lp_X12_trays_4_b_t (N := N) hW hd (fun p1 p2 => back (p1, p2)) p0 v.1 v.2 x g0 (fun p1 p2 => hB (p1, p2)) ) N (p1, p2)
def f_X12_trays (N : Nat) (S : SH) (a0 : Nat) (x : DY) : Option Int32 :=
  lp_X12_trays_4 N S a0 0 0 x
set_option maxHeartbeats 1000000 in
theorem t_X12_trays {N d : Nat} {S : SH} (hW : WT S) {x : DY} {a0 : Nat} (hd : 1 ≤ d) (h0 : TY S a0 12) : CT mX12_trays d S [.ref a0] x (wPI x) (f_X12_trays N S a0 x) := by
  refine CT.of [some (.ref a0), none, none] rfl (Nat.le_of_ble_eq_true rfl) (by decide +kernel) ?_
  unfold f_X12_trays
  refine go1 (M := mX12_trays) (pc' := 1) (r_iconst (M := mX12_trays) (v := 0) (by decide) dX12_trays_0) ?_
  refine go1 (M := mX12_trays) (pc' := 2) (ls' := [some (.ref a0), some (.int 0), none]) (r_istore_n (M := mX12_trays) (ls := [some (.ref a0), none, none]) (i := 1) (v := 0) (by decide) rfl dX12_trays_1) ?_
  refine go1 (M := mX12_trays) (pc' := 3) (r_iconst (M := mX12_trays) (v := 0) (by decide) dX12_trays_2) ?_
  refine go1 (M := mX12_trays) (pc' := 4) (ls' := [some (.ref a0), some (.int 0), some (.int 0)]) (r_istore_n (M := mX12_trays) (ls := [some (.ref a0), some (.int 0), none]) (i := 2) (v := 0) (by decide) rfl dX12_trays_3) ?_
  refine lp_X12_trays_4_t (N := N) hW (by omega) a0 0 0 x h0
def f_X12_count (N : Nat) (S : SH) (a0 : Nat) (a1 : Int32) (x : DY) : Option Int32 :=
  (if a1 = 0 then some (x.1 a0 0) else (if a1 = 1 then some (x.1 a0 1) else (if a1 = 2 then some (x.1 a0 18) else (if a1 = 3 then Option.bind (f_X12_sitting N S a0 x) (fun r5 => some r5) else (if a1 = 4 then some (x.1 a0 2) else (if a1 = 5 then Option.bind (f_X12_trays N S a0 x) (fun r8 => some r8) else (if a1 = 6 then some (x.1 a0 17) else (if a1 = 7 then some (x.1 a0 3) else (if a1 = 8 then some (x.1 a0 29) else (if a1 = 9 then some (x.1 a0 28) else (if a1 = 10 then some (x.1 a0 30) else some (-2))))))))))))
set_option maxHeartbeats 1000000 in
theorem t_X12_count {N d : Nat} {S : SH} (hW : WT S) {x : DY} {a0 : Nat} {a1 : Int32} (hd : 2 ≤ d) (h0 : TY S a0 12) : CT mX12_count d S [.ref a0, .int a1] x (wPI x) (f_X12_count N S a0 a1 x) := by
  refine CT.of [some (.ref a0), some (.int a1)] rfl (Nat.le_of_ble_eq_true rfl) (by decide +kernel) ?_
  unfold f_X12_count
  refine go1 (M := mX12_count) (pc' := 1) (r_iload_n (M := mX12_count) (i := 1) rfl dX12_count_0) ?_
  refine go_case (fun hk1 => ?_) (fun hk1 => ?_)
  · refine go1 (M := mX12_count) (pc' := 60) (r_tsw (M := mX12_count) (off := 59) dX12_count_1 (by rw [hk1]; decide) (by decide)) ?_
    refine go1 (M := mX12_count) (pc' := 61) (r_aload_n (M := mX12_count) (i := 0) rfl dX12_count_60) ?_
    refine go1 (M := mX12_count) (pc' := 64) (r_getI (M := mX12_count) fl_12_211 h0 rfl dX12_count_61) ?_
    exact go_iret (M := mX12_count) rfl rfl dX12_count_64
  · refine go_case (fun hk2 => ?_) (fun hk2 => ?_)
    · refine go1 (M := mX12_count) (pc' := 65) (r_tsw (M := mX12_count) (off := 64) dX12_count_1 (by rw [hk2]; decide) (by decide)) ?_
      refine go1 (M := mX12_count) (pc' := 66) (r_aload_n (M := mX12_count) (i := 0) rfl dX12_count_65) ?_
      refine go1 (M := mX12_count) (pc' := 69) (r_getI (M := mX12_count) fl_12_7 h0 rfl dX12_count_66) ?_
      exact go_iret (M := mX12_count) rfl rfl dX12_count_69
    · refine go_case (fun hk3 => ?_) (fun hk3 => ?_)
      · refine go1 (M := mX12_count) (pc' := 70) (r_tsw (M := mX12_count) (off := 69) dX12_count_1 (by rw [hk3]; decide) (by decide)) ?_
        refine go1 (M := mX12_count) (pc' := 71) (r_aload_n (M := mX12_count) (i := 0) rfl dX12_count_70) ?_
        refine go1 (M := mX12_count) (pc' := 74) (r_getI (M := mX12_count) fl_12_62 h0 rfl dX12_count_71) ?_
        exact go_iret (M := mX12_count) rfl rfl dX12_count_74
      · refine go_case (fun hk4 => ?_) (fun hk4 => ?_)
        · refine go1 (M := mX12_count) (pc' := 75) (r_tsw (M := mX12_count) (off := 74) dX12_count_1 (by rw [hk4]; decide) (by decide)) ?_
          refine go1 (M := mX12_count) (pc' := 76) (r_aload_n (M := mX12_count) (i := 0) rfl dX12_count_75) ?_
          refine go_V_PI (M := mX12_count) (pc' := 79) (st := []) (As := []) rfl ln_12_390 lb_X12_sitting (t_X12_sitting (N := N) hW (by omega) h0) (by omega) h0 (Nat.le_of_ble_eq_true rfl) rfl dX12_count_76 (fun r5 => ?_)
          exact go_iret (M := mX12_count) rfl rfl dX12_count_79
        · refine go_case (fun hk6 => ?_) (fun hk6 => ?_)
          · refine go1 (M := mX12_count) (pc' := 80) (r_tsw (M := mX12_count) (off := 79) dX12_count_1 (by rw [hk6]; decide) (by decide)) ?_
            refine go1 (M := mX12_count) (pc' := 81) (r_aload_n (M := mX12_count) (i := 0) rfl dX12_count_80) ?_
            refine go1 (M := mX12_count) (pc' := 84) (r_getI (M := mX12_count) fl_12_13 h0 rfl dX12_count_81) ?_
            exact go_iret (M := mX12_count) rfl rfl dX12_count_84
          · refine go_case (fun hk7 => ?_) (fun hk7 => ?_)
            · refine go1 (M := mX12_count) (pc' := 85) (r_tsw (M := mX12_count) (off := 84) dX12_count_1 (by rw [hk7]; decide) (by decide)) ?_
              refine go1 (M := mX12_count) (pc' := 86) (r_aload_n (M := mX12_count) (i := 0) rfl dX12_count_85) ?_
              refine go_V_PI (M := mX12_count) (pc' := 89) (st := []) (As := []) rfl ln_12_393 lb_X12_trays (t_X12_trays (N := N) hW (by omega) h0) (by omega) h0 (Nat.le_of_ble_eq_true rfl) rfl dX12_count_86 (fun r8 => ?_)
              exact go_iret (M := mX12_count) rfl rfl dX12_count_89
            · refine go_case (fun hk9 => ?_) (fun hk9 => ?_)
              · refine go1 (M := mX12_count) (pc' := 90) (r_tsw (M := mX12_count) (off := 89) dX12_count_1 (by rw [hk9]; decide) (by decide)) ?_
                refine go1 (M := mX12_count) (pc' := 91) (r_aload_n (M := mX12_count) (i := 0) rfl dX12_count_90) ?_
                refine go1 (M := mX12_count) (pc' := 94) (r_getI (M := mX12_count) fl_12_59 h0 rfl dX12_count_91) ?_
                exact go_iret (M := mX12_count) rfl rfl dX12_count_94
              · refine go_case (fun hk10 => ?_) (fun hk10 => ?_)
                · refine go1 (M := mX12_count) (pc' := 95) (r_tsw (M := mX12_count) (off := 94) dX12_count_1 (by rw [hk10]; decide) (by decide)) ?_
                  refine go1 (M := mX12_count) (pc' := 96) (r_aload_n (M := mX12_count) (i := 0) rfl dX12_count_95) ?_
                  refine go1 (M := mX12_count) (pc' := 99) (r_getI (M := mX12_count) fl_12_16 h0 rfl dX12_count_96) ?_
                  exact go_iret (M := mX12_count) rfl rfl dX12_count_99
                · refine go_case (fun hk11 => ?_) (fun hk11 => ?_)
                  · refine go1 (M := mX12_count) (pc' := 100) (r_tsw (M := mX12_count) (off := 99) dX12_count_1 (by rw [hk11]; decide) (by decide)) ?_
                    refine go1 (M := mX12_count) (pc' := 101) (r_aload_n (M := mX12_count) (i := 0) rfl dX12_count_100) ?_
                    refine go1 (M := mX12_count) (pc' := 104) (r_getI (M := mX12_count) fl_12_97 h0 rfl dX12_count_101) ?_
                    exact go_iret (M := mX12_count) rfl rfl dX12_count_104
                  · refine go_case (fun hk12 => ?_) (fun hk12 => ?_)
                    · refine go1 (M := mX12_count) (pc' := 105) (r_tsw (M := mX12_count) (off := 104) dX12_count_1 (by rw [hk12]; decide) (by decide)) ?_
                      refine go1 (M := mX12_count) (pc' := 106) (r_aload_n (M := mX12_count) (i := 0) rfl dX12_count_105) ?_
                      refine go1 (M := mX12_count) (pc' := 109) (r_getI (M := mX12_count) fl_12_94 h0 rfl dX12_count_106) ?_
                      exact go_iret (M := mX12_count) rfl rfl dX12_count_109
                    · refine go_case (fun hk13 => ?_) (fun hk13 => ?_)
                      · refine go1 (M := mX12_count) (pc' := 110) (r_tsw (M := mX12_count) (off := 109) dX12_count_1 (by rw [hk13]; decide) (by decide)) ?_
                        refine go1 (M := mX12_count) (pc' := 111) (r_aload_n (M := mX12_count) (i := 0) rfl dX12_count_110) ?_
                        refine go1 (M := mX12_count) (pc' := 114) (r_getI (M := mX12_count) fl_12_100 h0 rfl dX12_count_111) ?_
                        exact go_iret (M := mX12_count) rfl rfl dX12_count_114
                      · have hq0 := lv_neT hk1 (show (0 : Int32).toInt = (0 : Int) by decide)
                        have hq1 := lv_neT hk2 (show (1 : Int32).toInt = (1 : Int) by decide)
                        have hq2 := lv_neT hk3 (show (2 : Int32).toInt = (2 : Int) by decide)
                        have hq3 := lv_neT hk4 (show (3 : Int32).toInt = (3 : Int) by decide)
                        have hq4 := lv_neT hk6 (show (4 : Int32).toInt = (4 : Int) by decide)
                        have hq5 := lv_neT hk7 (show (5 : Int32).toInt = (5 : Int) by decide)
                        have hq6 := lv_neT hk9 (show (6 : Int32).toInt = (6 : Int) by decide)
                        have hq7 := lv_neT hk10 (show (7 : Int32).toInt = (7 : Int) by decide)
                        have hq8 := lv_neT hk11 (show (8 : Int32).toInt = (8 : Int) by decide)
                        have hq9 := lv_neT hk12 (show (9 : Int32).toInt = (9 : Int) by decide)
                        have hq10 := lv_neT hk13 (show (10 : Int32).toInt = (10 : Int) by decide)
                        refine go1 (M := mX12_count) (pc' := 115) (r_tswO (M := mX12_count) dX12_count_1 (by omega) (by decide)) ?_
                        refine go1 (M := mX12_count) (pc' := 117) (r_bipush (M := mX12_count) (v := (-2)) (by decide) dX12_count_115) ?_
                        exact go_iret (M := mX12_count) rfl rfl dX12_count_117
def f_X12_isSheet (N : Nat) (S : SH) (a0 : Nat) (a1 : Int32) (x : DY) : Option Int32 :=
  Option.bind (f_X12_in N S a0 a1 0 3 x) (fun r1 => bz r1 (some r1))
set_option maxHeartbeats 1000000 in
theorem t_X12_isSheet {N d : Nat} {S : SH} (hW : WT S) {x : DY} {a0 : Nat} {a1 : Int32} (hd : 2 ≤ d) (h0 : TY S a0 12) : CT mX12_isSheet d S [.ref a0, .int a1] x (wPI x) (f_X12_isSheet N S a0 a1 x) := by
  refine CT.of [some (.ref a0), some (.int a1)] rfl (Nat.le_of_ble_eq_true rfl) (by decide +kernel) ?_
  unfold f_X12_isSheet
  refine go1 (M := mX12_isSheet) (pc' := 1) (r_aload_n (M := mX12_isSheet) (i := 0) rfl dX12_isSheet_0) ?_
  refine go1 (M := mX12_isSheet) (pc' := 2) (r_iload_n (M := mX12_isSheet) (i := 1) rfl dX12_isSheet_1) ?_
  refine go1 (M := mX12_isSheet) (pc' := 3) (r_iconst (M := mX12_isSheet) (v := 0) (by decide) dX12_isSheet_2) ?_
  refine go1 (M := mX12_isSheet) (pc' := 4) (r_iconst (M := mX12_isSheet) (v := 3) (by decide) dX12_isSheet_3) ?_
  refine go_V_PI (M := mX12_isSheet) (pc' := 7) (st := []) (As := [.int a1, .int 0, .int 3]) rfl ln_12_217 lb_X12_in (t_X12_in (N := N) hW (by omega) h0) (by omega) h0 (Nat.le_of_ble_eq_true rfl) rfl dX12_isSheet_4 (fun r1 => ?_)
  refine go_bz (fun hn2 => ?_)
  exact go_zret (M := mX12_isSheet) rfl hn2 rfl dX12_isSheet_7
def lp_X12_sheet_67_b (N : Nat) (S : SH) (bk67 : Int32 → DY → Option (Int32 × DY)) (p0 : Nat) (p1 : Int32) (p4 : Int32) (x : DY) : Option (Int32 × DY) :=
  (if 40 ≤ p4 then some (1, x) else ck S (pr S p0 66) ((40 * p1) + p4) (bl (U1 x (pr S p0 66) ((40 * p1) + p4).toNatClampNeg 0) (fun x18 => bk67 (p4 + 1) x18)))
set_option maxHeartbeats 1000000 in
theorem lp_X12_sheet_67_b_t {N d : Nat} {S : SH} (hW : WT S) (hd : 3 ≤ d) (bk67 : Int32 → DY → Option (Int32 × DY)) (p0 : Nat) (p1 : Int32) (p4 : Int32) (x : DY) (g0 : TY S p0 12) (hbk67 : ∀ (v4 : Int32) (y : DY), Go mX12_sheet d S wSI 67 [some (.ref p0), some (.int p1), none, none, some (.int v4)] [] y (bk67 v4 y)) : Go mX12_sheet d S wSI 67 [some (.ref p0), some (.int p1), none, none, some (.int p4)] [] x (lp_X12_sheet_67_b N S bk67 p0 p1 p4 x) := by
  unfold lp_X12_sheet_67_b
  refine go1 (M := mX12_sheet) (pc' := 69) (r_iload (M := mX12_sheet) (i := 4) rfl dX12_sheet_67) ?_
  refine go1 (M := mX12_sheet) (pc' := 71) (r_bipush (M := mX12_sheet) (v := 40) (by decide) dX12_sheet_69) ?_
  refine go_br (M := mX12_sheet) (pt := 93) (pf := 74) (fun kt kf => r_icmp_ge (M := mX12_sheet) dX12_sheet_71 (by decide) kt kf) (fun hc15 => ?_) (fun hc15 => ?_)
  · refine go1 (M := mX12_sheet) (pc' := 94) (r_iconst (M := mX12_sheet) (v := 1) (by decide) dX12_sheet_93) ?_
    exact go_iret (M := mX12_sheet) rfl rfl dX12_sheet_94
  · refine go1 (M := mX12_sheet) (pc' := 75) (r_aload_n (M := mX12_sheet) (i := 0) rfl dX12_sheet_74) ?_
    refine go1 (M := mX12_sheet) (pc' := 78) (r_getR (M := mX12_sheet) fl_12_208 g0 rfl (wt_some hW g0 (by decide) (by decide) rfl) dX12_sheet_75) ?_
    have hT16 : TY S (pr S p0 66) 14 := wt hW g0 (by decide) (by decide) rfl (by decide)
    refine go1 (M := mX12_sheet) (pc' := 80) (r_bipush (M := mX12_sheet) (v := 40) (by decide) dX12_sheet_78) ?_
    refine go1 (M := mX12_sheet) (pc' := 81) (r_iload_n (M := mX12_sheet) (i := 1) rfl dX12_sheet_80) ?_
    refine go1 (M := mX12_sheet) (pc' := 82) (r_imul (M := mX12_sheet) dX12_sheet_81) ?_
    refine go1 (M := mX12_sheet) (pc' := 84) (r_iload (M := mX12_sheet) (i := 4) rfl dX12_sheet_82) ?_
    refine go1 (M := mX12_sheet) (pc' := 85) (r_iadd (M := mX12_sheet) dX12_sheet_84) ?_
    refine go1 (M := mX12_sheet) (pc' := 86) (r_iconst (M := mX12_sheet) (v := 0) (by decide) dX12_sheet_85) ?_
    refine go_ck (fun hi17 => ?_)
    refine go1 (M := mX12_sheet) (pc' := 87) (r_iast (M := mX12_sheet) hT16 hi17 dX12_sheet_86) ?_
    refine go_blx (fun x18 => ?_)
    refine go1 (M := mX12_sheet) (pc' := 90) (ls' := [some (.ref p0), some (.int p1), none, none, some (.int (p4 + 1))]) (r_iinc (M := mX12_sheet) (ls := [some (.ref p0), some (.int p1), none, none, some (.int p4)]) (i := 4) (v := p4) (c' := 1) (by decide) rfl (by decide) rfl dX12_sheet_87) ?_
    refine go1 (M := mX12_sheet) (pc' := 67) (r_goto (M := mX12_sheet) dX12_sheet_90 (by decide)) ?_
    exact hbk67 (p4 + 1) x18
def lp_X12_sheet_67 (N : Nat) (S : SH) (p0 : Nat) (p1 : Int32) (p4 : Int32) (x : DY) : Option (Int32 × DY) :=
  itr (fun back (v : Int32 × DY) => lp_X12_sheet_67_b N S (fun p4 y => back (p4, y)) p0 p1 v.1 v.2) N (p4, x)
theorem lp_X12_sheet_67_t {N d : Nat} {S : SH} (hW : WT S) (hd : 3 ≤ d) (p0 : Nat) (p1 : Int32) (p4 : Int32) (x : DY) (g0 : TY S p0 12) : Go mX12_sheet d S wSI 67 [some (.ref p0), some (.int p1), none, none, some (.int p4)] [] x (lp_X12_sheet_67 N S p0 p1 p4 x) := by
  unfold lp_X12_sheet_67
  exact go_itr (L := fun (v : Int32 × DY) => [some (.ref p0), some (.int p1), none, none, some (.int v.1)]) (X := fun (v : Int32 × DY) => v.2) (fun back hB v => lp_X12_sheet_67_b_t (N := N) hW hd (fun p4 y => back (p4, y)) p0 p1 v.1 v.2 g0 (fun p4 y => hB (p4, y)) ) N (p4, x)
def j_X12_sheet_63 (N : Nat) (S : SH) (p0 : Nat) (p1 : Int32) (q0 : Int32) (q1 : Int32) (q2 : Nat) (x : DY) : Option (Int32 × DY) :=
  ck S q2 q1 (bl (U1 x q2 q1.toNatClampNeg q0) (fun x13 => lp_X12_sheet_67 N S p0 p1 0 x13))
set_option maxHeartbeats 1000000 in
theorem j_X12_sheet_63_t {N d : Nat} {S : SH} (hW : WT S) (hd : 3 ≤ d) (p0 : Nat) (p1 : Int32) (q0 : Int32) (q1 : Int32) (q2 : Nat) (x : DY) (g0 : TY S p0 12) (gq2 : TY S q2 14) : Go mX12_sheet d S wSI 63 [some (.ref p0), some (.int p1), none, none, none] [.int q0, .int q1, .ref q2] x (j_X12_sheet_63 N S p0 p1 q0 q1 q2 x) := by
  unfold j_X12_sheet_63
  refine go_ck (fun hi12 => ?_)
  refine go1 (M := mX12_sheet) (pc' := 64) (r_iast (M := mX12_sheet) gq2 hi12 dX12_sheet_63) ?_
  refine go_blx (fun x13 => ?_)
  refine go1 (M := mX12_sheet) (pc' := 65) (r_iconst (M := mX12_sheet) (v := 0) (by decide) dX12_sheet_64) ?_
  refine go1 (M := mX12_sheet) (pc' := 67) (ls' := [some (.ref p0), some (.int p1), none, none, some (.int 0)]) (r_istore (M := mX12_sheet) (ls := [some (.ref p0), some (.int p1), none, none, none]) (i := 4) (v := 0) (by decide) rfl dX12_sheet_65) ?_
  refine lp_X12_sheet_67_t (N := N) hW (by omega) p0 p1 0 x13 g0
def j_X12_sheet_42 (N : Nat) (S : SH) (p0 : Nat) (p1 : Int32) (p2 : Int32) (p3 : Int32) (x : DY) : Option (Int32 × DY) :=
  ck S (pr S p0 64) p1 (bl (U1 x (pr S p0 64) p1.toNatClampNeg p2) (fun x9 => (if 0 ≤ p2 then j_X12_sheet_63 N S p0 p1 p3 p1 (pr S p0 65) x9 else j_X12_sheet_63 N S p0 p1 0 p1 (pr S p0 65) x9)))
set_option maxHeartbeats 1000000 in
theorem j_X12_sheet_42_t {N d : Nat} {S : SH} (hW : WT S) (hd : 3 ≤ d) (p0 : Nat) (p1 : Int32) (p2 : Int32) (p3 : Int32) (x : DY) (g0 : TY S p0 12) : Go mX12_sheet d S wSI 42 [some (.ref p0), some (.int p1), some (.int p2), some (.int p3), none] [] x (j_X12_sheet_42 N S p0 p1 p2 p3 x) := by
  unfold j_X12_sheet_42
  refine go1 (M := mX12_sheet) (pc' := 43) (r_aload_n (M := mX12_sheet) (i := 0) rfl dX12_sheet_42) ?_
  refine go1 (M := mX12_sheet) (pc' := 46) (r_getR (M := mX12_sheet) fl_12_202 g0 rfl (wt_some hW g0 (by decide) (by decide) rfl) dX12_sheet_43) ?_
  have hT7 : TY S (pr S p0 64) 14 := wt hW g0 (by decide) (by decide) rfl (by decide)
  refine go1 (M := mX12_sheet) (pc' := 47) (r_iload_n (M := mX12_sheet) (i := 1) rfl dX12_sheet_46) ?_
  refine go1 (M := mX12_sheet) (pc' := 48) (r_iload_n (M := mX12_sheet) (i := 2) rfl dX12_sheet_47) ?_
  refine go_ck (fun hi8 => ?_)
  refine go1 (M := mX12_sheet) (pc' := 49) (r_iast (M := mX12_sheet) hT7 hi8 dX12_sheet_48) ?_
  refine go_blx (fun x9 => ?_)
  refine go1 (M := mX12_sheet) (pc' := 50) (r_aload_n (M := mX12_sheet) (i := 0) rfl dX12_sheet_49) ?_
  refine go1 (M := mX12_sheet) (pc' := 53) (r_getR (M := mX12_sheet) fl_12_205 g0 rfl (wt_some hW g0 (by decide) (by decide) rfl) dX12_sheet_50) ?_
  have hT10 : TY S (pr S p0 65) 14 := wt hW g0 (by decide) (by decide) rfl (by decide)
  refine go1 (M := mX12_sheet) (pc' := 54) (r_iload_n (M := mX12_sheet) (i := 1) rfl dX12_sheet_53) ?_
  refine go1 (M := mX12_sheet) (pc' := 55) (r_iload_n (M := mX12_sheet) (i := 2) rfl dX12_sheet_54) ?_
  refine go_br (M := mX12_sheet) (pt := 62) (pf := 58) (fun kt kf => r_if_ge (M := mX12_sheet) dX12_sheet_55 (by decide) kt kf) (fun hc11 => ?_) (fun hc11 => ?_)
  · refine go1 (M := mX12_sheet) (pc' := 63) (r_iload_n (M := mX12_sheet) (i := 3) rfl dX12_sheet_62) ?_
    refine go_drop (ls' := [some (.ref p0), some (.int p1), none, none, none]) (And.intro rfl (And.intro rfl trivial)) ?_
    exact j_X12_sheet_63_t (N := N) hW (by omega) p0 p1 p3 p1 (pr S p0 65) x9 g0 hT10
  · refine go1 (M := mX12_sheet) (pc' := 59) (r_iconst (M := mX12_sheet) (v := 0) (by decide) dX12_sheet_58) ?_
    refine go1 (M := mX12_sheet) (pc' := 63) (r_goto (M := mX12_sheet) dX12_sheet_59 (by decide)) ?_
    refine go_drop (ls' := [some (.ref p0), some (.int p1), none, none, none]) (And.intro rfl (And.intro rfl trivial)) ?_
    exact j_X12_sheet_63_t (N := N) hW (by omega) p0 p1 0 p1 (pr S p0 65) x9 g0 hT10
def j_X12_sheet_31 (N : Nat) (S : SH) (p0 : Nat) (p1 : Int32) (p2 : Int32) (p3 : Int32) (x : DY) : Option (Int32 × DY) :=
  (if p2 < 0 then j_X12_sheet_42 N S p0 p1 p2 p3 x else (if 0 ≤ p3 then j_X12_sheet_42 N S p0 p1 p2 p3 x else some ((-14), x)))
set_option maxHeartbeats 1000000 in
theorem j_X12_sheet_31_t {N d : Nat} {S : SH} (hW : WT S) (hd : 3 ≤ d) (p0 : Nat) (p1 : Int32) (p2 : Int32) (p3 : Int32) (x : DY) (g0 : TY S p0 12) : Go mX12_sheet d S wSI 31 [some (.ref p0), some (.int p1), some (.int p2), some (.int p3), none] [] x (j_X12_sheet_31 N S p0 p1 p2 p3 x) := by
  unfold j_X12_sheet_31
  refine go1 (M := mX12_sheet) (pc' := 32) (r_iload_n (M := mX12_sheet) (i := 2) rfl dX12_sheet_31) ?_
  refine go_br (M := mX12_sheet) (pt := 42) (pf := 35) (fun kt kf => r_if_lt (M := mX12_sheet) dX12_sheet_32 (by decide) kt kf) (fun hc6 => ?_) (fun hc6 => ?_)
  · exact j_X12_sheet_42_t (N := N) hW (by omega) p0 p1 p2 p3 x g0
  · refine go1 (M := mX12_sheet) (pc' := 36) (r_iload_n (M := mX12_sheet) (i := 3) rfl dX12_sheet_35) ?_
    refine go_br (M := mX12_sheet) (pt := 42) (pf := 39) (fun kt kf => r_if_ge (M := mX12_sheet) dX12_sheet_36 (by decide) kt kf) (fun hc19 => ?_) (fun hc19 => ?_)
    · exact j_X12_sheet_42_t (N := N) hW (by omega) p0 p1 p2 p3 x g0
    · refine go1 (M := mX12_sheet) (pc' := 41) (r_bipush (M := mX12_sheet) (v := (-14)) (by decide) dX12_sheet_39) ?_
      exact go_iret (M := mX12_sheet) rfl rfl dX12_sheet_41
def f_X12_sheet (N : Nat) (S : SH) (a0 : Nat) (a1 : Int32) (a2 : Int32) (a3 : Int32) (x : DY) : Option (Int32 × DY) :=
  Option.bind (f_X12_isSheet N S a0 a1 x) (fun r1 => (if r1 = 0 then some ((-2), x) else Option.bind (f_X12_in N S a0 a2 (-1) 2 x) (fun r3 => (if r3 = 0 then some ((-2), x) else (if a2 < 0 then j_X12_sheet_31 N S a0 a1 a2 a3 x else (if a3 ≤ 40 then j_X12_sheet_31 N S a0 a1 a2 a3 x else some ((-2), x)))))))
set_option maxHeartbeats 1000000 in
theorem t_X12_sheet {N d : Nat} {S : SH} (hW : WT S) {x : DY} {a0 : Nat} {a1 : Int32} {a2 : Int32} {a3 : Int32} (hd : 3 ≤ d) (h0 : TY S a0 12) : CT mX12_sheet d S [.ref a0, .int a1, .int a2, .int a3] x wSI (f_X12_sheet N S a0 a1 a2 a3 x) := by
  refine CT.of [some (.ref a0), some (.int a1), some (.int a2), some (.int a3), none] rfl (Nat.le_of_ble_eq_true rfl) (by decide +kernel) ?_
  unfold f_X12_sheet
  refine go1 (M := mX12_sheet) (pc' := 1) (r_aload_n (M := mX12_sheet) (i := 0) rfl dX12_sheet_0) ?_
  refine go1 (M := mX12_sheet) (pc' := 2) (r_iload_n (M := mX12_sheet) (i := 1) rfl dX12_sheet_1) ?_
  refine go_V_PI (M := mX12_sheet) (pc' := 5) (st := []) (As := [.int a1]) rfl ln_12_396 lb_X12_isSheet (t_X12_isSheet (N := N) hW (by omega) h0) (by omega) h0 (Nat.le_of_ble_eq_true rfl) rfl dX12_sheet_2 (fun r1 => ?_)
  refine go_br (M := mX12_sheet) (pt := 28) (pf := 8) (fun kt kf => r_if_eq (M := mX12_sheet) dX12_sheet_5 (by decide) kt kf) (fun hc2 => ?_) (fun hc2 => ?_)
  · refine go1 (M := mX12_sheet) (pc' := 30) (r_bipush (M := mX12_sheet) (v := (-2)) (by decide) dX12_sheet_28) ?_
    exact go_iret (M := mX12_sheet) rfl rfl dX12_sheet_30
  · refine go1 (M := mX12_sheet) (pc' := 9) (r_aload_n (M := mX12_sheet) (i := 0) rfl dX12_sheet_8) ?_
    refine go1 (M := mX12_sheet) (pc' := 10) (r_iload_n (M := mX12_sheet) (i := 2) rfl dX12_sheet_9) ?_
    refine go1 (M := mX12_sheet) (pc' := 11) (r_iconst (M := mX12_sheet) (v := (-1)) (by decide) dX12_sheet_10) ?_
    refine go1 (M := mX12_sheet) (pc' := 12) (r_iconst (M := mX12_sheet) (v := 2) (by decide) dX12_sheet_11) ?_
    refine go_V_PI (M := mX12_sheet) (pc' := 15) (st := []) (As := [.int a2, .int (-1), .int 2]) rfl ln_12_217 lb_X12_in (t_X12_in (N := N) hW (by omega) h0) (by omega) h0 (Nat.le_of_ble_eq_true rfl) rfl dX12_sheet_12 (fun r3 => ?_)
    refine go_br (M := mX12_sheet) (pt := 28) (pf := 18) (fun kt kf => r_if_eq (M := mX12_sheet) dX12_sheet_15 (by decide) kt kf) (fun hc4 => ?_) (fun hc4 => ?_)
    · refine go1 (M := mX12_sheet) (pc' := 30) (r_bipush (M := mX12_sheet) (v := (-2)) (by decide) dX12_sheet_28) ?_
      exact go_iret (M := mX12_sheet) rfl rfl dX12_sheet_30
    · refine go1 (M := mX12_sheet) (pc' := 19) (r_iload_n (M := mX12_sheet) (i := 2) rfl dX12_sheet_18) ?_
      refine go_br (M := mX12_sheet) (pt := 31) (pf := 22) (fun kt kf => r_if_lt (M := mX12_sheet) dX12_sheet_19 (by decide) kt kf) (fun hc5 => ?_) (fun hc5 => ?_)
      · exact j_X12_sheet_31_t (N := N) hW (by omega) a0 a1 a2 a3 x h0
      · refine go1 (M := mX12_sheet) (pc' := 23) (r_iload_n (M := mX12_sheet) (i := 3) rfl dX12_sheet_22) ?_
        refine go1 (M := mX12_sheet) (pc' := 25) (r_bipush (M := mX12_sheet) (v := 40) (by decide) dX12_sheet_23) ?_
        refine go_br (M := mX12_sheet) (pt := 31) (pf := 28) (fun kt kf => r_icmp_le (M := mX12_sheet) dX12_sheet_25 (by decide) kt kf) (fun hc20 => ?_) (fun hc20 => ?_)
        · exact j_X12_sheet_31_t (N := N) hW (by omega) a0 a1 a2 a3 x h0
        · refine go1 (M := mX12_sheet) (pc' := 30) (r_bipush (M := mX12_sheet) (v := (-2)) (by decide) dX12_sheet_28) ?_
          exact go_iret (M := mX12_sheet) rfl rfl dX12_sheet_30
def f_X12_cell (N : Nat) (S : SH) (a0 : Nat) (a1 : Int32) (a2 : Int32) (a3 : Int32) (x : DY) : Option (Int32 × DY) :=
  Option.bind (f_X12_isSheet N S a0 a1 x) (fun r1 => (if r1 = 0 then some ((-2), x) else ck S (pr S a0 64) a1 ((if 0 ≤ (x.1 (pr S a0 64) a1.toNatClampNeg) then ck S (pr S a0 65) a1 (Option.bind (f_X12_in N S a0 a2 0 ((x.1 (pr S a0 65) a1.toNatClampNeg) - 1) x) (fun r8 => (if r8 = 0 then some ((-12), x) else ck S (pr S a0 64) a1 ((if (x.1 (pr S a0 64) a1.toNatClampNeg) = 0 then ck S (pr S a0 66) ((40 * a1) + a2) (bl (U1 x (pr S a0 66) ((40 * a1) + a2).toNatClampNeg ((a3).toInt8.toInt32)) (fun x20 => some (1, x20))) else ck S (pr S a0 64) a1 ((if (x.1 (pr S a0 64) a1.toNatClampNeg) = 1 then ck S (pr S a0 66) ((40 * a1) + a2) (bl (U1 x (pr S a0 66) ((40 * a1) + a2).toNatClampNeg ((a3).toInt16.toInt32)) (fun x18 => some (1, x18))) else ck S (pr S a0 66) ((40 * a1) + a2) (bl (U1 x (pr S a0 66) ((40 * a1) + a2).toNatClampNeg a3) (fun x16 => some (1, x16)))))))))) else some ((-11), x)))))
set_option maxHeartbeats 1000000 in
theorem t_X12_cell {N d : Nat} {S : SH} (hW : WT S) {x : DY} {a0 : Nat} {a1 : Int32} {a2 : Int32} {a3 : Int32} (hd : 3 ≤ d) (h0 : TY S a0 12) : CT mX12_cell d S [.ref a0, .int a1, .int a2, .int a3] x wSI (f_X12_cell N S a0 a1 a2 a3 x) := by
  refine CT.of [some (.ref a0), some (.int a1), some (.int a2), some (.int a3)] rfl (Nat.le_of_ble_eq_true rfl) (by decide +kernel) ?_
  unfold f_X12_cell
  refine go1 (M := mX12_cell) (pc' := 1) (r_aload_n (M := mX12_cell) (i := 0) rfl dX12_cell_0) ?_
  refine go1 (M := mX12_cell) (pc' := 2) (r_iload_n (M := mX12_cell) (i := 1) rfl dX12_cell_1) ?_
  refine go_V_PI (M := mX12_cell) (pc' := 5) (st := []) (As := [.int a1]) rfl ln_12_396 lb_X12_isSheet (t_X12_isSheet (N := N) hW (by omega) h0) (by omega) h0 (Nat.le_of_ble_eq_true rfl) rfl dX12_cell_2 (fun r1 => ?_)
  refine go_br (M := mX12_cell) (pt := 8) (pf := 11) (fun kt kf => r_if_ne (M := mX12_cell) dX12_cell_5 (by decide) kf kt) (fun hc2 => ?_) (fun hc2 => ?_)
  · refine go1 (M := mX12_cell) (pc' := 10) (r_bipush (M := mX12_cell) (v := (-2)) (by decide) dX12_cell_8) ?_
    exact go_iret (M := mX12_cell) rfl rfl dX12_cell_10
  · refine go1 (M := mX12_cell) (pc' := 12) (r_aload_n (M := mX12_cell) (i := 0) rfl dX12_cell_11) ?_
    refine go1 (M := mX12_cell) (pc' := 15) (r_getR (M := mX12_cell) fl_12_202 h0 rfl (wt_some hW h0 (by decide) (by decide) rfl) dX12_cell_12) ?_
    have hT3 : TY S (pr S a0 64) 14 := wt hW h0 (by decide) (by decide) rfl (by decide)
    refine go1 (M := mX12_cell) (pc' := 16) (r_iload_n (M := mX12_cell) (i := 1) rfl dX12_cell_15) ?_
    refine go_ck (fun hi4 => ?_)
    refine go1 (M := mX12_cell) (pc' := 17) (r_iald (M := mX12_cell) hT3 hi4 dX12_cell_16) ?_
    refine go_br (M := mX12_cell) (pt := 23) (pf := 20) (fun kt kf => r_if_ge (M := mX12_cell) dX12_cell_17 (by decide) kt kf) (fun hc5 => ?_) (fun hc5 => ?_)
    · refine go1 (M := mX12_cell) (pc' := 24) (r_aload_n (M := mX12_cell) (i := 0) rfl dX12_cell_23) ?_
      refine go1 (M := mX12_cell) (pc' := 25) (r_iload_n (M := mX12_cell) (i := 2) rfl dX12_cell_24) ?_
      refine go1 (M := mX12_cell) (pc' := 26) (r_iconst (M := mX12_cell) (v := 0) (by decide) dX12_cell_25) ?_
      refine go1 (M := mX12_cell) (pc' := 27) (r_aload_n (M := mX12_cell) (i := 0) rfl dX12_cell_26) ?_
      refine go1 (M := mX12_cell) (pc' := 30) (r_getR (M := mX12_cell) fl_12_205 h0 rfl (wt_some hW h0 (by decide) (by decide) rfl) dX12_cell_27) ?_
      have hT6 : TY S (pr S a0 65) 14 := wt hW h0 (by decide) (by decide) rfl (by decide)
      refine go1 (M := mX12_cell) (pc' := 31) (r_iload_n (M := mX12_cell) (i := 1) rfl dX12_cell_30) ?_
      refine go_ck (fun hi7 => ?_)
      refine go1 (M := mX12_cell) (pc' := 32) (r_iald (M := mX12_cell) hT6 hi7 dX12_cell_31) ?_
      refine go1 (M := mX12_cell) (pc' := 33) (r_iconst (M := mX12_cell) (v := 1) (by decide) dX12_cell_32) ?_
      refine go1 (M := mX12_cell) (pc' := 34) (r_isub (M := mX12_cell) dX12_cell_33) ?_
      refine go_V_PI (M := mX12_cell) (pc' := 37) (st := []) (As := [.int a2, .int 0, .int ((x.1 (pr S a0 65) a1.toNatClampNeg) - 1)]) rfl ln_12_217 lb_X12_in (t_X12_in (N := N) hW (by omega) h0) (by omega) h0 (Nat.le_of_ble_eq_true rfl) rfl dX12_cell_34 (fun r8 => ?_)
      refine go_br (M := mX12_cell) (pt := 40) (pf := 43) (fun kt kf => r_if_ne (M := mX12_cell) dX12_cell_37 (by decide) kf kt) (fun hc9 => ?_) (fun hc9 => ?_)
      · refine go1 (M := mX12_cell) (pc' := 42) (r_bipush (M := mX12_cell) (v := (-12)) (by decide) dX12_cell_40) ?_
        exact go_iret (M := mX12_cell) rfl rfl dX12_cell_42
      · refine go1 (M := mX12_cell) (pc' := 44) (r_aload_n (M := mX12_cell) (i := 0) rfl dX12_cell_43) ?_
        refine go1 (M := mX12_cell) (pc' := 47) (r_getR (M := mX12_cell) fl_12_208 h0 rfl (wt_some hW h0 (by decide) (by decide) rfl) dX12_cell_44) ?_
        have hT10 : TY S (pr S a0 66) 14 := wt hW h0 (by decide) (by decide) rfl (by decide)
        refine go1 (M := mX12_cell) (pc' := 49) (r_bipush (M := mX12_cell) (v := 40) (by decide) dX12_cell_47) ?_
        refine go1 (M := mX12_cell) (pc' := 50) (r_iload_n (M := mX12_cell) (i := 1) rfl dX12_cell_49) ?_
        refine go1 (M := mX12_cell) (pc' := 51) (r_imul (M := mX12_cell) dX12_cell_50) ?_
        refine go1 (M := mX12_cell) (pc' := 52) (r_iload_n (M := mX12_cell) (i := 2) rfl dX12_cell_51) ?_
        refine go1 (M := mX12_cell) (pc' := 53) (r_iadd (M := mX12_cell) dX12_cell_52) ?_
        refine go1 (M := mX12_cell) (pc' := 54) (r_aload_n (M := mX12_cell) (i := 0) rfl dX12_cell_53) ?_
        refine go1 (M := mX12_cell) (pc' := 57) (r_getR (M := mX12_cell) fl_12_202 h0 rfl (wt_some hW h0 (by decide) (by decide) rfl) dX12_cell_54) ?_
        refine go1 (M := mX12_cell) (pc' := 58) (r_iload_n (M := mX12_cell) (i := 1) rfl dX12_cell_57) ?_
        refine go_ck (fun hi11 => ?_)
        refine go1 (M := mX12_cell) (pc' := 59) (r_iald (M := mX12_cell) hT3 hi11 dX12_cell_58) ?_
        refine go_br (M := mX12_cell) (pt := 62) (pf := 67) (fun kt kf => r_if_ne (M := mX12_cell) dX12_cell_59 (by decide) kf kt) (fun hc12 => ?_) (fun hc12 => ?_)
        · refine go1 (M := mX12_cell) (pc' := 63) (r_iload_n (M := mX12_cell) (i := 3) rfl dX12_cell_62) ?_
          refine go1 (M := mX12_cell) (pc' := 64) (r_i2b (M := mX12_cell) dX12_cell_63) ?_
          refine go1 (M := mX12_cell) (pc' := 83) (r_goto (M := mX12_cell) dX12_cell_64 (by decide)) ?_
          refine go_ck (fun hi19 => ?_)
          refine go1 (M := mX12_cell) (pc' := 84) (r_iast (M := mX12_cell) hT10 hi19 dX12_cell_83) ?_
          refine go_blx (fun x20 => ?_)
          refine go1 (M := mX12_cell) (pc' := 85) (r_iconst (M := mX12_cell) (v := 1) (by decide) dX12_cell_84) ?_
          exact go_iret (M := mX12_cell) rfl rfl dX12_cell_85
        · refine go1 (M := mX12_cell) (pc' := 68) (r_aload_n (M := mX12_cell) (i := 0) rfl dX12_cell_67) ?_
          refine go1 (M := mX12_cell) (pc' := 71) (r_getR (M := mX12_cell) fl_12_202 h0 rfl (wt_some hW h0 (by decide) (by decide) rfl) dX12_cell_68) ?_
          refine go1 (M := mX12_cell) (pc' := 72) (r_iload_n (M := mX12_cell) (i := 1) rfl dX12_cell_71) ?_
          refine go_ck (fun hi13 => ?_)
          refine go1 (M := mX12_cell) (pc' := 73) (r_iald (M := mX12_cell) hT3 hi13 dX12_cell_72) ?_
          refine go1 (M := mX12_cell) (pc' := 74) (r_iconst (M := mX12_cell) (v := 1) (by decide) dX12_cell_73) ?_
          refine go_br (M := mX12_cell) (pt := 77) (pf := 82) (fun kt kf => r_icmp_ne (M := mX12_cell) dX12_cell_74 (by decide) kf kt) (fun hc14 => ?_) (fun hc14 => ?_)
          · refine go1 (M := mX12_cell) (pc' := 78) (r_iload_n (M := mX12_cell) (i := 3) rfl dX12_cell_77) ?_
            refine go1 (M := mX12_cell) (pc' := 79) (r_i2s (M := mX12_cell) dX12_cell_78) ?_
            refine go1 (M := mX12_cell) (pc' := 83) (r_goto (M := mX12_cell) dX12_cell_79 (by decide)) ?_
            refine go_ck (fun hi17 => ?_)
            refine go1 (M := mX12_cell) (pc' := 84) (r_iast (M := mX12_cell) hT10 hi17 dX12_cell_83) ?_
            refine go_blx (fun x18 => ?_)
            refine go1 (M := mX12_cell) (pc' := 85) (r_iconst (M := mX12_cell) (v := 1) (by decide) dX12_cell_84) ?_
            exact go_iret (M := mX12_cell) rfl rfl dX12_cell_85
          · refine go1 (M := mX12_cell) (pc' := 83) (r_iload_n (M := mX12_cell) (i := 3) rfl dX12_cell_82) ?_
            refine go_ck (fun hi15 => ?_)
            refine go1 (M := mX12_cell) (pc' := 84) (r_iast (M := mX12_cell) hT10 hi15 dX12_cell_83) ?_
            refine go_blx (fun x16 => ?_)
            refine go1 (M := mX12_cell) (pc' := 85) (r_iconst (M := mX12_cell) (v := 1) (by decide) dX12_cell_84) ?_
            exact go_iret (M := mX12_cell) rfl rfl dX12_cell_85
    · refine go1 (M := mX12_cell) (pc' := 22) (r_bipush (M := mX12_cell) (v := (-11)) (by decide) dX12_cell_20) ?_
      exact go_iret (M := mX12_cell) rfl rfl dX12_cell_22
def j_X12_lays_146 (N : Nat) (S : SH) (bk89 : Int32 → Int32 → DY → Option (Int32 × DY)) (p0 : Nat) (p1 : Int32) (p3 : Int32) (p4 : Int32) (p6 : Int32) (q0 : Int32) (q1 : Int32) (x : DY) : Option (Int32 × DY) :=
  Option.bind (f_X12_goTick N S p0 x) (fun r24 => bk89 (q1 + q0) (p6 + 1) r24)
set_option maxHeartbeats 1000000 in
theorem j_X12_lays_146_t {N d : Nat} {S : SH} (hW : WT S) (hd : 5 ≤ d) (bk89 : Int32 → Int32 → DY → Option (Int32 × DY)) (p0 : Nat) (p1 : Int32) (p3 : Int32) (p4 : Int32) (p6 : Int32) (q0 : Int32) (q1 : Int32) (x : DY) (g0 : TY S p0 12) (hbk89 : ∀ (v5 : Int32) (v6 : Int32) (y : DY), Go mX12_lays d S wSI 89 [some (.ref p0), some (.int p1), none, some (.int p3), some (.int p4), some (.int v5), some (.int v6)] [] y (bk89 v5 v6 y)) : Go mX12_lays d S wSI 146 [some (.ref p0), some (.int p1), none, some (.int p3), some (.int p4), none, some (.int p6)] [.int q0, .int q1] x (j_X12_lays_146 N S bk89 p0 p1 p3 p4 p6 q0 q1 x) := by
  unfold j_X12_lays_146
  refine go1 (M := mX12_lays) (pc' := 147) (r_iadd (M := mX12_lays) dX12_lays_146) ?_
  refine go1 (M := mX12_lays) (pc' := 149) (ls' := [some (.ref p0), some (.int p1), none, some (.int p3), some (.int p4), some (.int (q1 + q0)), some (.int p6)]) (r_istore (M := mX12_lays) (ls := [some (.ref p0), some (.int p1), none, some (.int p3), some (.int p4), none, some (.int p6)]) (i := 5) (v := (q1 + q0)) (by decide) rfl dX12_lays_147) ?_
  refine go1 (M := mX12_lays) (pc' := 150) (r_aload_n (M := mX12_lays) (i := 0) rfl dX12_lays_149) ?_
  refine go_V_SV (M := mX12_lays) (pc' := 153) (st := []) (As := []) rfl ln_12_358 lb_X12_goTick (t_X12_goTick (N := N) hW (by omega) g0) (by omega) g0 (Nat.le_of_ble_eq_true rfl) rfl dX12_lays_150 (fun r24 => ?_)
  refine go1 (M := mX12_lays) (pc' := 156) (ls' := [some (.ref p0), some (.int p1), none, some (.int p3), some (.int p4), some (.int (q1 + q0)), some (.int (p6 + 1))]) (r_iinc (M := mX12_lays) (ls := [some (.ref p0), some (.int p1), none, some (.int p3), some (.int p4), some (.int (q1 + q0)), some (.int p6)]) (i := 6) (v := p6) (c' := 1) (by decide) rfl (by decide) rfl dX12_lays_153) ?_
  refine go1 (M := mX12_lays) (pc' := 89) (r_goto (M := mX12_lays) dX12_lays_156 (by decide)) ?_
  exact hbk89 (q1 + q0) (p6 + 1) r24
def lp_X12_lays_89_b (N : Nat) (S : SH) (bk89 : Int32 → Int32 → DY → Option (Int32 × DY)) (p0 : Nat) (p1 : Int32) (p3 : Int32) (p4 : Int32) (p5 : Int32) (p6 : Int32) (x : DY) : Option (Int32 × DY) :=
  (if p4 ≤ p6 then some (p5, x) else (if p3 < 0 then some ((-12), x) else ck S (pr S p0 65) p1 ((if p3 ≤ (((x.1 (pr S p0 65) p1.toNatClampNeg) - p6) - 1) then ck S (pr S p0 66) (((40 * p1) + p3) + p6) (Option.bind (f_X12_lay N S p0 (x.1 (pr S p0 66) (((40 * p1) + p3) + p6).toNatClampNeg) x) (fun r22 => (if r22.1 < 0 then j_X12_lays_146 N S bk89 p0 p1 p3 p4 p6 0 p5 r22.2 else j_X12_lays_146 N S bk89 p0 p1 p3 p4 p6 1 p5 r22.2))) else some ((-12), x)))))
set_option maxHeartbeats 1000000 in
theorem lp_X12_lays_89_b_t {N d : Nat} {S : SH} (hW : WT S) (hd : 5 ≤ d) (bk89 : Int32 → Int32 → DY → Option (Int32 × DY)) (p0 : Nat) (p1 : Int32) (p3 : Int32) (p4 : Int32) (p5 : Int32) (p6 : Int32) (x : DY) (g0 : TY S p0 12) (hbk89 : ∀ (v5 : Int32) (v6 : Int32) (y : DY), Go mX12_lays d S wSI 89 [some (.ref p0), some (.int p1), none, some (.int p3), some (.int p4), some (.int v5), some (.int v6)] [] y (bk89 v5 v6 y)) : Go mX12_lays d S wSI 89 [some (.ref p0), some (.int p1), none, some (.int p3), some (.int p4), some (.int p5), some (.int p6)] [] x (lp_X12_lays_89_b N S bk89 p0 p1 p3 p4 p5 p6 x) := by
  unfold lp_X12_lays_89_b
  refine go1 (M := mX12_lays) (pc' := 91) (r_iload (M := mX12_lays) (i := 6) rfl dX12_lays_89) ?_
  refine go1 (M := mX12_lays) (pc' := 93) (r_iload (M := mX12_lays) (i := 4) rfl dX12_lays_91) ?_
  refine go_br (M := mX12_lays) (pt := 159) (pf := 96) (fun kt kf => r_icmp_ge (M := mX12_lays) dX12_lays_93 (by decide) kt kf) (fun hc15 => ?_) (fun hc15 => ?_)
  · refine go1 (M := mX12_lays) (pc' := 161) (r_iload (M := mX12_lays) (i := 5) rfl dX12_lays_159) ?_
    exact go_iret (M := mX12_lays) rfl rfl dX12_lays_161
  · refine go1 (M := mX12_lays) (pc' := 97) (r_iload_n (M := mX12_lays) (i := 3) rfl dX12_lays_96) ?_
    refine go_br (M := mX12_lays) (pt := 115) (pf := 100) (fun kt kf => r_if_lt (M := mX12_lays) dX12_lays_97 (by decide) kt kf) (fun hc16 => ?_) (fun hc16 => ?_)
    · refine go1 (M := mX12_lays) (pc' := 117) (r_bipush (M := mX12_lays) (v := (-12)) (by decide) dX12_lays_115) ?_
      exact go_iret (M := mX12_lays) rfl rfl dX12_lays_117
    · refine go1 (M := mX12_lays) (pc' := 101) (r_iload_n (M := mX12_lays) (i := 3) rfl dX12_lays_100) ?_
      refine go1 (M := mX12_lays) (pc' := 102) (r_aload_n (M := mX12_lays) (i := 0) rfl dX12_lays_101) ?_
      refine go1 (M := mX12_lays) (pc' := 105) (r_getR (M := mX12_lays) fl_12_205 g0 rfl (wt_some hW g0 (by decide) (by decide) rfl) dX12_lays_102) ?_
      have hT17 : TY S (pr S p0 65) 14 := wt hW g0 (by decide) (by decide) rfl (by decide)
      refine go1 (M := mX12_lays) (pc' := 106) (r_iload_n (M := mX12_lays) (i := 1) rfl dX12_lays_105) ?_
      refine go_ck (fun hi18 => ?_)
      refine go1 (M := mX12_lays) (pc' := 107) (r_iald (M := mX12_lays) hT17 hi18 dX12_lays_106) ?_
      refine go1 (M := mX12_lays) (pc' := 109) (r_iload (M := mX12_lays) (i := 6) rfl dX12_lays_107) ?_
      refine go1 (M := mX12_lays) (pc' := 110) (r_isub (M := mX12_lays) dX12_lays_109) ?_
      refine go1 (M := mX12_lays) (pc' := 111) (r_iconst (M := mX12_lays) (v := 1) (by decide) dX12_lays_110) ?_
      refine go1 (M := mX12_lays) (pc' := 112) (r_isub (M := mX12_lays) dX12_lays_111) ?_
      refine go_br (M := mX12_lays) (pt := 118) (pf := 115) (fun kt kf => r_icmp_le (M := mX12_lays) dX12_lays_112 (by decide) kt kf) (fun hc19 => ?_) (fun hc19 => ?_)
      · refine go1 (M := mX12_lays) (pc' := 120) (r_iload (M := mX12_lays) (i := 5) rfl dX12_lays_118) ?_
        refine go1 (M := mX12_lays) (pc' := 121) (r_aload_n (M := mX12_lays) (i := 0) rfl dX12_lays_120) ?_
        refine go1 (M := mX12_lays) (pc' := 122) (r_aload_n (M := mX12_lays) (i := 0) rfl dX12_lays_121) ?_
        refine go1 (M := mX12_lays) (pc' := 125) (r_getR (M := mX12_lays) fl_12_208 g0 rfl (wt_some hW g0 (by decide) (by decide) rfl) dX12_lays_122) ?_
        have hT20 : TY S (pr S p0 66) 14 := wt hW g0 (by decide) (by decide) rfl (by decide)
        refine go1 (M := mX12_lays) (pc' := 127) (r_bipush (M := mX12_lays) (v := 40) (by decide) dX12_lays_125) ?_
        refine go1 (M := mX12_lays) (pc' := 128) (r_iload_n (M := mX12_lays) (i := 1) rfl dX12_lays_127) ?_
        refine go1 (M := mX12_lays) (pc' := 129) (r_imul (M := mX12_lays) dX12_lays_128) ?_
        refine go1 (M := mX12_lays) (pc' := 130) (r_iload_n (M := mX12_lays) (i := 3) rfl dX12_lays_129) ?_
        refine go1 (M := mX12_lays) (pc' := 131) (r_iadd (M := mX12_lays) dX12_lays_130) ?_
        refine go1 (M := mX12_lays) (pc' := 133) (r_iload (M := mX12_lays) (i := 6) rfl dX12_lays_131) ?_
        refine go1 (M := mX12_lays) (pc' := 134) (r_iadd (M := mX12_lays) dX12_lays_133) ?_
        refine go_ck (fun hi21 => ?_)
        refine go1 (M := mX12_lays) (pc' := 135) (r_iald (M := mX12_lays) hT20 hi21 dX12_lays_134) ?_
        refine go_V_SI (M := mX12_lays) (pc' := 138) (st := [.int p5]) (As := [.int (x.1 (pr S p0 66) (((40 * p1) + p3) + p6).toNatClampNeg)]) rfl ln_12_370 lb_X12_lay (t_X12_lay (N := N) hW (by omega) g0) (by omega) g0 (Nat.le_of_ble_eq_true rfl) rfl dX12_lays_135 (fun r22 => ?_)
        refine go_br (M := mX12_lays) (pt := 145) (pf := 141) (fun kt kf => r_if_lt (M := mX12_lays) dX12_lays_138 (by decide) kt kf) (fun hc23 => ?_) (fun hc23 => ?_)
        · refine go1 (M := mX12_lays) (pc' := 146) (r_iconst (M := mX12_lays) (v := 0) (by decide) dX12_lays_145) ?_
          refine go_drop (ls' := [some (.ref p0), some (.int p1), none, some (.int p3), some (.int p4), none, some (.int p6)]) (And.intro rfl (And.intro rfl (And.intro rfl (And.intro rfl (And.intro rfl trivial))))) ?_
          exact j_X12_lays_146_t (N := N) hW (by omega) bk89 p0 p1 p3 p4 p6 0 p5 r22.2 g0 hbk89
        · refine go1 (M := mX12_lays) (pc' := 142) (r_iconst (M := mX12_lays) (v := 1) (by decide) dX12_lays_141) ?_
          refine go1 (M := mX12_lays) (pc' := 146) (r_goto (M := mX12_lays) dX12_lays_142 (by decide)) ?_
          refine go_drop (ls' := [some (.ref p0), some (.int p1), none, some (.int p3), some (.int p4), none, some (.int p6)]) (And.intro rfl (And.intro rfl (And.intro rfl (And.intro rfl (And.intro rfl trivial))))) ?_
          exact j_X12_lays_146_t (N := N) hW (by omega) bk89 p0 p1 p3 p4 p6 1 p5 r22.2 g0 hbk89
      · refine go1 (M := mX12_lays) (pc' := 117) (r_bipush (M := mX12_lays) (v := (-12)) (by decide) dX12_lays_115) ?_
        exact go_iret (M := mX12_lays) rfl rfl dX12_lays_117
def lp_X12_lays_89 (N : Nat) (S : SH) (p0 : Nat) (p1 : Int32) (p3 : Int32) (p4 : Int32) (p5 : Int32) (p6 : Int32) (x : DY) : Option (Int32 × DY) :=
  itr (fun back (v : Int32 × Int32 × DY) => lp_X12_lays_89_b N S (fun p5 p6 y => back (p5, p6, y)) p0 p1 p3 p4 v.1 v.2.1 v.2.2) N (p5, p6, x)
theorem lp_X12_lays_89_t {N d : Nat} {S : SH} (hW : WT S) (hd : 5 ≤ d) (p0 : Nat) (p1 : Int32) (p3 : Int32) (p4 : Int32) (p5 : Int32) (p6 : Int32) (x : DY) (g0 : TY S p0 12) : Go mX12_lays d S wSI 89 [some (.ref p0), some (.int p1), none, some (.int p3), some (.int p4), some (.int p5), some (.int p6)] [] x (lp_X12_lays_89 N S p0 p1 p3 p4 p5 p6 x) := by
  unfold lp_X12_lays_89
  exact go_itr (L := fun (v : Int32 × Int32 × DY) => [some (.ref p0), some (.int p1), none, some (.int p3), some (.int p4), some (.int v.1), some (.int v.2.1)]) (X := fun (v : Int32 × Int32 × DY) => v.2.2) (fun back hB v => lp_X12_lays_89_b_t (N := N) hW hd (fun p5 p6 y => back (p5, p6, y)) p0 p1 p3 p4 v.1 v.2.1 v.2.2 g0 (fun p5 p6 y => hB (p5, p6, y)) ) N (p5, p6, x)
def j_X12_lays_71 (N : Nat) (S : SH) (p0 : Nat) (p1 : Int32) (p3 : Int32) (p4 : Int32) (x : DY) : Option (Int32 × DY) :=
  ck S (pr S p0 64) p1 ((if 0 ≤ (x.1 (pr S p0 64) p1.toNatClampNeg) then lp_X12_lays_89 N S p0 p1 p3 p4 0 0 x else some ((-11), x)))
set_option maxHeartbeats 1000000 in
theorem j_X12_lays_71_t {N d : Nat} {S : SH} (hW : WT S) (hd : 5 ≤ d) (p0 : Nat) (p1 : Int32) (p3 : Int32) (p4 : Int32) (x : DY) (g0 : TY S p0 12) : Go mX12_lays d S wSI 71 [some (.ref p0), some (.int p1), none, some (.int p3), some (.int p4), none, none] [] x (j_X12_lays_71 N S p0 p1 p3 p4 x) := by
  unfold j_X12_lays_71
  refine go1 (M := mX12_lays) (pc' := 72) (r_aload_n (M := mX12_lays) (i := 0) rfl dX12_lays_71) ?_
  refine go1 (M := mX12_lays) (pc' := 75) (r_getR (M := mX12_lays) fl_12_202 g0 rfl (wt_some hW g0 (by decide) (by decide) rfl) dX12_lays_72) ?_
  have hT11 : TY S (pr S p0 64) 14 := wt hW g0 (by decide) (by decide) rfl (by decide)
  refine go1 (M := mX12_lays) (pc' := 76) (r_iload_n (M := mX12_lays) (i := 1) rfl dX12_lays_75) ?_
  refine go_ck (fun hi12 => ?_)
  refine go1 (M := mX12_lays) (pc' := 77) (r_iald (M := mX12_lays) hT11 hi12 dX12_lays_76) ?_
  refine go_br (M := mX12_lays) (pt := 83) (pf := 80) (fun kt kf => r_if_ge (M := mX12_lays) dX12_lays_77 (by decide) kt kf) (fun hc13 => ?_) (fun hc13 => ?_)
  · refine go1 (M := mX12_lays) (pc' := 84) (r_iconst (M := mX12_lays) (v := 0) (by decide) dX12_lays_83) ?_
    refine go1 (M := mX12_lays) (pc' := 86) (ls' := [some (.ref p0), some (.int p1), none, some (.int p3), some (.int p4), some (.int 0), none]) (r_istore (M := mX12_lays) (ls := [some (.ref p0), some (.int p1), none, some (.int p3), some (.int p4), none, none]) (i := 5) (v := 0) (by decide) rfl dX12_lays_84) ?_
    refine go1 (M := mX12_lays) (pc' := 87) (r_iconst (M := mX12_lays) (v := 0) (by decide) dX12_lays_86) ?_
    refine go1 (M := mX12_lays) (pc' := 89) (ls' := [some (.ref p0), some (.int p1), none, some (.int p3), some (.int p4), some (.int 0), some (.int 0)]) (r_istore (M := mX12_lays) (ls := [some (.ref p0), some (.int p1), none, some (.int p3), some (.int p4), some (.int 0), none]) (i := 6) (v := 0) (by decide) rfl dX12_lays_87) ?_
    refine lp_X12_lays_89_t (N := N) hW (by omega) p0 p1 p3 p4 0 0 x g0
  · refine go1 (M := mX12_lays) (pc' := 82) (r_bipush (M := mX12_lays) (v := (-11)) (by decide) dX12_lays_80) ?_
    exact go_iret (M := mX12_lays) rfl rfl dX12_lays_82
def f_X12_lays (N : Nat) (S : SH) (a0 : Nat) (a1 : Int32) (a2 : Int32) (a3 : Int32) (a4 : Int32) (x : DY) : Option (Int32 × DY) :=
  Option.bind (f_X12_isSheet N S a0 a1 x) (fun r1 => (if r1 = 0 then some ((-2), x) else Option.bind (f_X12_in N S a0 a2 0 2 x) (fun r3 => (if r3 = 0 then some ((-2), x) else Option.bind (f_X12_in N S a0 a4 0 24 x) (fun r5 => (if r5 = 0 then some ((-2), x) else (if ((x.1 a0 2) + a4) ≤ 9999 then ck S (pr S a0 64) a1 ((if (x.1 (pr S a0 64) a1.toNatClampNeg) < 0 then j_X12_lays_71 N S a0 a1 a3 a4 x else ck S (pr S a0 64) a1 ((if (x.1 (pr S a0 64) a1.toNatClampNeg) = a2 then j_X12_lays_71 N S a0 a1 a3 a4 x else some ((-13), x))))) else some ((-4), x))))))))
set_option maxHeartbeats 1000000 in
theorem t_X12_lays {N d : Nat} {S : SH} (hW : WT S) {x : DY} {a0 : Nat} {a1 : Int32} {a2 : Int32} {a3 : Int32} {a4 : Int32} (hd : 5 ≤ d) (h0 : TY S a0 12) : CT mX12_lays d S [.ref a0, .int a1, .int a2, .int a3, .int a4] x wSI (f_X12_lays N S a0 a1 a2 a3 a4 x) := by
  refine CT.of [some (.ref a0), some (.int a1), some (.int a2), some (.int a3), some (.int a4), none, none] rfl (Nat.le_of_ble_eq_true rfl) (by decide +kernel) ?_
  unfold f_X12_lays
  refine go1 (M := mX12_lays) (pc' := 1) (r_aload_n (M := mX12_lays) (i := 0) rfl dX12_lays_0) ?_
  refine go1 (M := mX12_lays) (pc' := 2) (r_iload_n (M := mX12_lays) (i := 1) rfl dX12_lays_1) ?_
  refine go_V_PI (M := mX12_lays) (pc' := 5) (st := []) (As := [.int a1]) rfl ln_12_396 lb_X12_isSheet (t_X12_isSheet (N := N) hW (by omega) h0) (by omega) h0 (Nat.le_of_ble_eq_true rfl) rfl dX12_lays_2 (fun r1 => ?_)
  refine go_br (M := mX12_lays) (pt := 30) (pf := 8) (fun kt kf => r_if_eq (M := mX12_lays) dX12_lays_5 (by decide) kt kf) (fun hc2 => ?_) (fun hc2 => ?_)
  · refine go1 (M := mX12_lays) (pc' := 32) (r_bipush (M := mX12_lays) (v := (-2)) (by decide) dX12_lays_30) ?_
    exact go_iret (M := mX12_lays) rfl rfl dX12_lays_32
  · refine go1 (M := mX12_lays) (pc' := 9) (r_aload_n (M := mX12_lays) (i := 0) rfl dX12_lays_8) ?_
    refine go1 (M := mX12_lays) (pc' := 10) (r_iload_n (M := mX12_lays) (i := 2) rfl dX12_lays_9) ?_
    refine go1 (M := mX12_lays) (pc' := 11) (r_iconst (M := mX12_lays) (v := 0) (by decide) dX12_lays_10) ?_
    refine go1 (M := mX12_lays) (pc' := 12) (r_iconst (M := mX12_lays) (v := 2) (by decide) dX12_lays_11) ?_
    refine go_V_PI (M := mX12_lays) (pc' := 15) (st := []) (As := [.int a2, .int 0, .int 2]) rfl ln_12_217 lb_X12_in (t_X12_in (N := N) hW (by omega) h0) (by omega) h0 (Nat.le_of_ble_eq_true rfl) rfl dX12_lays_12 (fun r3 => ?_)
    refine go_br (M := mX12_lays) (pt := 30) (pf := 18) (fun kt kf => r_if_eq (M := mX12_lays) dX12_lays_15 (by decide) kt kf) (fun hc4 => ?_) (fun hc4 => ?_)
    · refine go1 (M := mX12_lays) (pc' := 32) (r_bipush (M := mX12_lays) (v := (-2)) (by decide) dX12_lays_30) ?_
      exact go_iret (M := mX12_lays) rfl rfl dX12_lays_32
    · refine go1 (M := mX12_lays) (pc' := 19) (r_aload_n (M := mX12_lays) (i := 0) rfl dX12_lays_18) ?_
      refine go1 (M := mX12_lays) (pc' := 21) (r_iload (M := mX12_lays) (i := 4) rfl dX12_lays_19) ?_
      refine go1 (M := mX12_lays) (pc' := 22) (r_iconst (M := mX12_lays) (v := 0) (by decide) dX12_lays_21) ?_
      refine go1 (M := mX12_lays) (pc' := 24) (r_bipush (M := mX12_lays) (v := 24) (by decide) dX12_lays_22) ?_
      refine go_V_PI (M := mX12_lays) (pc' := 27) (st := []) (As := [.int a4, .int 0, .int 24]) rfl ln_12_217 lb_X12_in (t_X12_in (N := N) hW (by omega) h0) (by omega) h0 (Nat.le_of_ble_eq_true rfl) rfl dX12_lays_24 (fun r5 => ?_)
      refine go_br (M := mX12_lays) (pt := 30) (pf := 33) (fun kt kf => r_if_ne (M := mX12_lays) dX12_lays_27 (by decide) kf kt) (fun hc6 => ?_) (fun hc6 => ?_)
      · refine go1 (M := mX12_lays) (pc' := 32) (r_bipush (M := mX12_lays) (v := (-2)) (by decide) dX12_lays_30) ?_
        exact go_iret (M := mX12_lays) rfl rfl dX12_lays_32
      · refine go1 (M := mX12_lays) (pc' := 34) (r_aload_n (M := mX12_lays) (i := 0) rfl dX12_lays_33) ?_
        refine go1 (M := mX12_lays) (pc' := 37) (r_getI (M := mX12_lays) fl_12_13 h0 rfl dX12_lays_34) ?_
        refine go1 (M := mX12_lays) (pc' := 39) (r_iload (M := mX12_lays) (i := 4) rfl dX12_lays_37) ?_
        refine go1 (M := mX12_lays) (pc' := 40) (r_iadd (M := mX12_lays) dX12_lays_39) ?_
        refine go1 (M := mX12_lays) (pc' := 43) (r_sipush (M := mX12_lays) (v := 9999) (by decide) dX12_lays_40) ?_
        refine go_br (M := mX12_lays) (pt := 49) (pf := 46) (fun kt kf => r_icmp_le (M := mX12_lays) dX12_lays_43 (by decide) kt kf) (fun hc7 => ?_) (fun hc7 => ?_)
        · refine go1 (M := mX12_lays) (pc' := 50) (r_aload_n (M := mX12_lays) (i := 0) rfl dX12_lays_49) ?_
          refine go1 (M := mX12_lays) (pc' := 53) (r_getR (M := mX12_lays) fl_12_202 h0 rfl (wt_some hW h0 (by decide) (by decide) rfl) dX12_lays_50) ?_
          have hT8 : TY S (pr S a0 64) 14 := wt hW h0 (by decide) (by decide) rfl (by decide)
          refine go1 (M := mX12_lays) (pc' := 54) (r_iload_n (M := mX12_lays) (i := 1) rfl dX12_lays_53) ?_
          refine go_ck (fun hi9 => ?_)
          refine go1 (M := mX12_lays) (pc' := 55) (r_iald (M := mX12_lays) hT8 hi9 dX12_lays_54) ?_
          refine go_br (M := mX12_lays) (pt := 71) (pf := 58) (fun kt kf => r_if_lt (M := mX12_lays) dX12_lays_55 (by decide) kt kf) (fun hc10 => ?_) (fun hc10 => ?_)
          · refine go_drop (ls' := [some (.ref a0), some (.int a1), none, some (.int a3), some (.int a4), none, none]) (And.intro rfl (And.intro rfl (And.intro rfl (And.intro rfl trivial)))) ?_
            exact j_X12_lays_71_t (N := N) hW (by omega) a0 a1 a3 a4 x h0
          · refine go1 (M := mX12_lays) (pc' := 59) (r_aload_n (M := mX12_lays) (i := 0) rfl dX12_lays_58) ?_
            refine go1 (M := mX12_lays) (pc' := 62) (r_getR (M := mX12_lays) fl_12_202 h0 rfl (wt_some hW h0 (by decide) (by decide) rfl) dX12_lays_59) ?_
            refine go1 (M := mX12_lays) (pc' := 63) (r_iload_n (M := mX12_lays) (i := 1) rfl dX12_lays_62) ?_
            refine go_ck (fun hi25 => ?_)
            refine go1 (M := mX12_lays) (pc' := 64) (r_iald (M := mX12_lays) hT8 hi25 dX12_lays_63) ?_
            refine go1 (M := mX12_lays) (pc' := 65) (r_iload_n (M := mX12_lays) (i := 2) rfl dX12_lays_64) ?_
            refine go_br (M := mX12_lays) (pt := 71) (pf := 68) (fun kt kf => r_icmp_eq (M := mX12_lays) dX12_lays_65 (by decide) kt kf) (fun hc26 => ?_) (fun hc26 => ?_)
            · refine go_drop (ls' := [some (.ref a0), some (.int a1), none, some (.int a3), some (.int a4), none, none]) (And.intro rfl (And.intro rfl (And.intro rfl (And.intro rfl trivial)))) ?_
              exact j_X12_lays_71_t (N := N) hW (by omega) a0 a1 a3 a4 x h0
            · refine go1 (M := mX12_lays) (pc' := 70) (r_bipush (M := mX12_lays) (v := (-13)) (by decide) dX12_lays_68) ?_
              exact go_iret (M := mX12_lays) rfl rfl dX12_lays_70
        · refine go1 (M := mX12_lays) (pc' := 48) (r_bipush (M := mX12_lays) (v := (-4)) (by decide) dX12_lays_46) ?_
          exact go_iret (M := mX12_lays) rfl rfl dX12_lays_48
def j_X12_isUnder_19 (N : Nat) (S : SH) (p1 : Int32) (p2 : Int32) (x : DY) : Option Int32 :=
  (if p2 = 2 then (if p1 = 4 then some 1 else some 0) else some 0)
set_option maxHeartbeats 1000000 in
theorem j_X12_isUnder_19_t {N d : Nat} {S : SH} (hW : WT S) (hd : 1 ≤ d) (p1 : Int32) (p2 : Int32) (x : DY) : Go mX12_isUnder d S (wPI x) 19 [none, some (.int p1), some (.int p2)] [] x (j_X12_isUnder_19 N S p1 p2 x) := by
  unfold j_X12_isUnder_19
  refine go1 (M := mX12_isUnder) (pc' := 20) (r_iload_n (M := mX12_isUnder) (i := 2) rfl dX12_isUnder_19) ?_
  refine go1 (M := mX12_isUnder) (pc' := 21) (r_iconst (M := mX12_isUnder) (v := 2) (by decide) dX12_isUnder_20) ?_
  refine go_br (M := mX12_isUnder) (pt := 24) (pf := 33) (fun kt kf => r_icmp_ne (M := mX12_isUnder) dX12_isUnder_21 (by decide) kf kt) (fun hc4 => ?_) (fun hc4 => ?_)
  · refine go1 (M := mX12_isUnder) (pc' := 25) (r_iload_n (M := mX12_isUnder) (i := 1) rfl dX12_isUnder_24) ?_
    refine go1 (M := mX12_isUnder) (pc' := 26) (r_iconst (M := mX12_isUnder) (v := 4) (by decide) dX12_isUnder_25) ?_
    refine go_br (M := mX12_isUnder) (pt := 29) (pf := 33) (fun kt kf => r_icmp_ne (M := mX12_isUnder) dX12_isUnder_26 (by decide) kf kt) (fun hc5 => ?_) (fun hc5 => ?_)
    · refine go1 (M := mX12_isUnder) (pc' := 30) (r_iconst (M := mX12_isUnder) (v := 1) (by decide) dX12_isUnder_29) ?_
      refine go1 (M := mX12_isUnder) (pc' := 34) (r_goto (M := mX12_isUnder) dX12_isUnder_30 (by decide)) ?_
      exact go_zret (M := mX12_isUnder) rfl rfl rfl dX12_isUnder_34
    · refine go1 (M := mX12_isUnder) (pc' := 34) (r_iconst (M := mX12_isUnder) (v := 0) (by decide) dX12_isUnder_33) ?_
      exact go_zret (M := mX12_isUnder) rfl rfl rfl dX12_isUnder_34
  · refine go1 (M := mX12_isUnder) (pc' := 34) (r_iconst (M := mX12_isUnder) (v := 0) (by decide) dX12_isUnder_33) ?_
    exact go_zret (M := mX12_isUnder) rfl rfl rfl dX12_isUnder_34
def f_X12_isUnder (N : Nat) (S : SH) (a0 : Nat) (a1 : Int32) (a2 : Int32) (x : DY) : Option Int32 :=
  (if a2 = 0 then some 1 else (if a1 = a2 then some 1 else (if a2 = 1 then (if a1 = 5 then some 1 else j_X12_isUnder_19 N S a1 a2 x) else j_X12_isUnder_19 N S a1 a2 x)))
set_option maxHeartbeats 1000000 in
theorem t_X12_isUnder {N d : Nat} {S : SH} (hW : WT S) {x : DY} {a0 : Nat} {a1 : Int32} {a2 : Int32} (hd : 1 ≤ d) (h0 : TY S a0 12) : CT mX12_isUnder d S [.ref a0, .int a1, .int a2] x (wPI x) (f_X12_isUnder N S a0 a1 a2 x) := by
  refine CT.of [some (.ref a0), some (.int a1), some (.int a2)] rfl (Nat.le_of_ble_eq_true rfl) (by decide +kernel) ?_
  unfold f_X12_isUnder
  refine go1 (M := mX12_isUnder) (pc' := 1) (r_iload_n (M := mX12_isUnder) (i := 2) rfl dX12_isUnder_0) ?_
  refine go_br (M := mX12_isUnder) (pt := 29) (pf := 4) (fun kt kf => r_if_eq (M := mX12_isUnder) dX12_isUnder_1 (by decide) kt kf) (fun hc1 => ?_) (fun hc1 => ?_)
  · refine go1 (M := mX12_isUnder) (pc' := 30) (r_iconst (M := mX12_isUnder) (v := 1) (by decide) dX12_isUnder_29) ?_
    refine go1 (M := mX12_isUnder) (pc' := 34) (r_goto (M := mX12_isUnder) dX12_isUnder_30 (by decide)) ?_
    exact go_zret (M := mX12_isUnder) rfl rfl rfl dX12_isUnder_34
  · refine go1 (M := mX12_isUnder) (pc' := 5) (r_iload_n (M := mX12_isUnder) (i := 1) rfl dX12_isUnder_4) ?_
    refine go1 (M := mX12_isUnder) (pc' := 6) (r_iload_n (M := mX12_isUnder) (i := 2) rfl dX12_isUnder_5) ?_
    refine go_br (M := mX12_isUnder) (pt := 29) (pf := 9) (fun kt kf => r_icmp_eq (M := mX12_isUnder) dX12_isUnder_6 (by decide) kt kf) (fun hc2 => ?_) (fun hc2 => ?_)
    · refine go1 (M := mX12_isUnder) (pc' := 30) (r_iconst (M := mX12_isUnder) (v := 1) (by decide) dX12_isUnder_29) ?_
      refine go1 (M := mX12_isUnder) (pc' := 34) (r_goto (M := mX12_isUnder) dX12_isUnder_30 (by decide)) ?_
      exact go_zret (M := mX12_isUnder) rfl rfl rfl dX12_isUnder_34
    · refine go1 (M := mX12_isUnder) (pc' := 10) (r_iload_n (M := mX12_isUnder) (i := 2) rfl dX12_isUnder_9) ?_
      refine go1 (M := mX12_isUnder) (pc' := 11) (r_iconst (M := mX12_isUnder) (v := 1) (by decide) dX12_isUnder_10) ?_
      refine go_br (M := mX12_isUnder) (pt := 14) (pf := 19) (fun kt kf => r_icmp_ne (M := mX12_isUnder) dX12_isUnder_11 (by decide) kf kt) (fun hc3 => ?_) (fun hc3 => ?_)
      · refine go1 (M := mX12_isUnder) (pc' := 15) (r_iload_n (M := mX12_isUnder) (i := 1) rfl dX12_isUnder_14) ?_
        refine go1 (M := mX12_isUnder) (pc' := 16) (r_iconst (M := mX12_isUnder) (v := 5) (by decide) dX12_isUnder_15) ?_
        refine go_br (M := mX12_isUnder) (pt := 29) (pf := 19) (fun kt kf => r_icmp_eq (M := mX12_isUnder) dX12_isUnder_16 (by decide) kt kf) (fun hc6 => ?_) (fun hc6 => ?_)
        · refine go1 (M := mX12_isUnder) (pc' := 30) (r_iconst (M := mX12_isUnder) (v := 1) (by decide) dX12_isUnder_29) ?_
          refine go1 (M := mX12_isUnder) (pc' := 34) (r_goto (M := mX12_isUnder) dX12_isUnder_30 (by decide)) ?_
          exact go_zret (M := mX12_isUnder) rfl rfl rfl dX12_isUnder_34
        · refine go_drop (ls' := [none, some (.int a1), some (.int a2)]) (And.intro rfl (And.intro rfl trivial)) ?_
          exact j_X12_isUnder_19_t (N := N) hW (by omega) a1 a2 x
      · refine go_drop (ls' := [none, some (.int a1), some (.int a2)]) (And.intro rfl (And.intro rfl trivial)) ?_
        exact j_X12_isUnder_19_t (N := N) hW (by omega) a1 a2 x
def f_X12_taken (N : Nat) (S : SH) (a0 : Nat) (a1 : Int32) (a2 : Int32) (x : DY) : Option Int32 :=
  Option.bind (f_X12_in N S a0 a2 0 5 x) (fun r1 => (if r1 = 0 then some (-2) else Option.bind (f_X12_isSat N S a0 a1 x) (fun r3 => (if r3 = 0 then some (-11) else ck S (pr S a0 20) a1 (Option.bind (f_X12_isUnder N S a0 (x.1 (pr S a0 20) a1.toNatClampNeg) a2 x) (fun r7 => (if r7 = 0 then some (-13) else ck S (pr S a0 21) a1 (some (x.1 (pr S a0 21) a1.toNatClampNeg)))))))))
set_option maxHeartbeats 1000000 in
theorem t_X12_taken {N d : Nat} {S : SH} (hW : WT S) {x : DY} {a0 : Nat} {a1 : Int32} {a2 : Int32} (hd : 4 ≤ d) (h0 : TY S a0 12) : CT mX12_taken d S [.ref a0, .int a1, .int a2] x (wPI x) (f_X12_taken N S a0 a1 a2 x) := by
  refine CT.of [some (.ref a0), some (.int a1), some (.int a2)] rfl (Nat.le_of_ble_eq_true rfl) (by decide +kernel) ?_
  unfold f_X12_taken
  refine go1 (M := mX12_taken) (pc' := 1) (r_aload_n (M := mX12_taken) (i := 0) rfl dX12_taken_0) ?_
  refine go1 (M := mX12_taken) (pc' := 2) (r_iload_n (M := mX12_taken) (i := 2) rfl dX12_taken_1) ?_
  refine go1 (M := mX12_taken) (pc' := 3) (r_iconst (M := mX12_taken) (v := 0) (by decide) dX12_taken_2) ?_
  refine go1 (M := mX12_taken) (pc' := 4) (r_iconst (M := mX12_taken) (v := 5) (by decide) dX12_taken_3) ?_
  refine go_V_PI (M := mX12_taken) (pc' := 7) (st := []) (As := [.int a2, .int 0, .int 5]) rfl ln_12_217 lb_X12_in (t_X12_in (N := N) hW (by omega) h0) (by omega) h0 (Nat.le_of_ble_eq_true rfl) rfl dX12_taken_4 (fun r1 => ?_)
  refine go_br (M := mX12_taken) (pt := 10) (pf := 13) (fun kt kf => r_if_ne (M := mX12_taken) dX12_taken_7 (by decide) kf kt) (fun hc2 => ?_) (fun hc2 => ?_)
  · refine go1 (M := mX12_taken) (pc' := 12) (r_bipush (M := mX12_taken) (v := (-2)) (by decide) dX12_taken_10) ?_
    exact go_iret (M := mX12_taken) rfl rfl dX12_taken_12
  · refine go1 (M := mX12_taken) (pc' := 14) (r_aload_n (M := mX12_taken) (i := 0) rfl dX12_taken_13) ?_
    refine go1 (M := mX12_taken) (pc' := 15) (r_iload_n (M := mX12_taken) (i := 1) rfl dX12_taken_14) ?_
    refine go_V_PI (M := mX12_taken) (pc' := 18) (st := []) (As := [.int a1]) rfl ln_12_251 lb_X12_isSat (t_X12_isSat (N := N) hW (by omega) h0) (by omega) h0 (Nat.le_of_ble_eq_true rfl) rfl dX12_taken_15 (fun r3 => ?_)
    refine go_br (M := mX12_taken) (pt := 21) (pf := 24) (fun kt kf => r_if_ne (M := mX12_taken) dX12_taken_18 (by decide) kf kt) (fun hc4 => ?_) (fun hc4 => ?_)
    · refine go1 (M := mX12_taken) (pc' := 23) (r_bipush (M := mX12_taken) (v := (-11)) (by decide) dX12_taken_21) ?_
      exact go_iret (M := mX12_taken) rfl rfl dX12_taken_23
    · refine go1 (M := mX12_taken) (pc' := 25) (r_aload_n (M := mX12_taken) (i := 0) rfl dX12_taken_24) ?_
      refine go1 (M := mX12_taken) (pc' := 26) (r_aload_n (M := mX12_taken) (i := 0) rfl dX12_taken_25) ?_
      refine go1 (M := mX12_taken) (pc' := 29) (r_getR (M := mX12_taken) fl_12_68 h0 rfl (wt_some hW h0 (by decide) (by decide) rfl) dX12_taken_26) ?_
      have hT5 : TY S (pr S a0 20) 14 := wt hW h0 (by decide) (by decide) rfl (by decide)
      refine go1 (M := mX12_taken) (pc' := 30) (r_iload_n (M := mX12_taken) (i := 1) rfl dX12_taken_29) ?_
      refine go_ck (fun hi6 => ?_)
      refine go1 (M := mX12_taken) (pc' := 31) (r_iald (M := mX12_taken) hT5 hi6 dX12_taken_30) ?_
      refine go1 (M := mX12_taken) (pc' := 32) (r_iload_n (M := mX12_taken) (i := 2) rfl dX12_taken_31) ?_
      refine go_V_PI (M := mX12_taken) (pc' := 35) (st := []) (As := [.int (x.1 (pr S a0 20) a1.toNatClampNeg), .int a2]) rfl ln_12_399 lb_X12_isUnder (t_X12_isUnder (N := N) hW (by omega) h0) (by omega) h0 (Nat.le_of_ble_eq_true rfl) rfl dX12_taken_32 (fun r7 => ?_)
      refine go_br (M := mX12_taken) (pt := 47) (pf := 38) (fun kt kf => r_if_eq (M := mX12_taken) dX12_taken_35 (by decide) kt kf) (fun hc8 => ?_) (fun hc8 => ?_)
      · refine go1 (M := mX12_taken) (pc' := 49) (r_bipush (M := mX12_taken) (v := (-13)) (by decide) dX12_taken_47) ?_
        exact go_iret (M := mX12_taken) rfl rfl dX12_taken_49
      · refine go1 (M := mX12_taken) (pc' := 39) (r_aload_n (M := mX12_taken) (i := 0) rfl dX12_taken_38) ?_
        refine go1 (M := mX12_taken) (pc' := 42) (r_getR (M := mX12_taken) fl_12_71 h0 rfl (wt_some hW h0 (by decide) (by decide) rfl) dX12_taken_39) ?_
        have hT9 : TY S (pr S a0 21) 14 := wt hW h0 (by decide) (by decide) rfl (by decide)
        refine go1 (M := mX12_taken) (pc' := 43) (r_iload_n (M := mX12_taken) (i := 1) rfl dX12_taken_42) ?_
        refine go_ck (fun hi10 => ?_)
        refine go1 (M := mX12_taken) (pc' := 44) (r_iald (M := mX12_taken) hT9 hi10 dX12_taken_43) ?_
        refine go1 (M := mX12_taken) (pc' := 49) (r_goto (M := mX12_taken) dX12_taken_44 (by decide)) ?_
        exact go_iret (M := mX12_taken) rfl rfl dX12_taken_49
