/-! MIRRORS, by program out of the class's bytecode: X11_within .. X6_likingOf -/
def f_X11_within (N : Nat) (S : SH) (a0 : Int32) (a1 : Int32) (a2 : Int32) (x : DY) : Option Int32 :=
  (if a0 < a1 then some 0 else (if a2 < a0 then some 0 else some 1))
set_option maxHeartbeats 1000000 in
theorem t_X11_within {N d : Nat} {S : SH} (hW : WT S) {x : DY} {a0 : Int32} {a1 : Int32} {a2 : Int32} (hd : 1 ≤ d) : CT mX11_within d S [.int a0, .int a1, .int a2] x (wPI x) (f_X11_within N S a0 a1 a2 x) := by
  refine CT.of [some (.int a0), some (.int a1), some (.int a2)] rfl (Nat.le_of_ble_eq_true rfl) (by decide +kernel) ?_
  unfold f_X11_within
  refine go1 (M := mX11_within) (pc' := 1) (r_iload_n (M := mX11_within) (i := 0) rfl dX11_within_0) ?_
  refine go1 (M := mX11_within) (pc' := 2) (r_iload_n (M := mX11_within) (i := 1) rfl dX11_within_1) ?_
  refine go_br (M := mX11_within) (pt := 14) (pf := 5) (fun kt kf => r_icmp_lt (M := mX11_within) dX11_within_2 (by decide) kt kf) (fun hc1 => ?_) (fun hc1 => ?_)
  · refine go1 (M := mX11_within) (pc' := 15) (r_iconst (M := mX11_within) (v := 0) (by decide) dX11_within_14) ?_
    exact go_zret (M := mX11_within) rfl rfl rfl dX11_within_15
  · refine go1 (M := mX11_within) (pc' := 6) (r_iload_n (M := mX11_within) (i := 0) rfl dX11_within_5) ?_
    refine go1 (M := mX11_within) (pc' := 7) (r_iload_n (M := mX11_within) (i := 2) rfl dX11_within_6) ?_
    refine go_br (M := mX11_within) (pt := 14) (pf := 10) (fun kt kf => r_icmp_gt (M := mX11_within) dX11_within_7 (by decide) kt kf) (fun hc2 => ?_) (fun hc2 => ?_)
    · refine go1 (M := mX11_within) (pc' := 15) (r_iconst (M := mX11_within) (v := 0) (by decide) dX11_within_14) ?_
      exact go_zret (M := mX11_within) rfl rfl rfl dX11_within_15
    · refine go1 (M := mX11_within) (pc' := 11) (r_iconst (M := mX11_within) (v := 1) (by decide) dX11_within_10) ?_
      refine go1 (M := mX11_within) (pc' := 15) (r_goto (M := mX11_within) dX11_within_11 (by decide)) ?_
      exact go_zret (M := mX11_within) rfl rfl rfl dX11_within_15
def j_X0_bringsWith_60 (N : Nat) (S : SH) (p0 : Nat) (p1 : Int32) (p2 : Int32) (q0 : Int32) (x : DY) : Option Int32 :=
  ck S (pr S p0 1) (p2 - p1) (some (q0 + (x.1 (pr S p0 1) (p2 - p1).toNatClampNeg)))
set_option maxHeartbeats 1000000 in
theorem j_X0_bringsWith_60_t {N d : Nat} {S : SH} (hW : WT S) (hd : 2 ≤ d) (p0 : Nat) (p1 : Int32) (p2 : Int32) (q0 : Int32) (x : DY) (g0 : TY S p0 0) : Go mX0_bringsWith d S (wPI x) 60 [some (.ref p0), some (.int p1), some (.int p2), none, none] [.int q0] x (j_X0_bringsWith_60 N S p0 p1 p2 q0 x) := by
  unfold j_X0_bringsWith_60
  refine go1 (M := mX0_bringsWith) (pc' := 61) (r_aload_n (M := mX0_bringsWith) (i := 0) rfl dX0_bringsWith_60) ?_
  refine go1 (M := mX0_bringsWith) (pc' := 64) (r_getR (M := mX0_bringsWith) fl_0_13 g0 rfl (wt_some hW g0 (by decide) (by decide) rfl) dX0_bringsWith_61) ?_
  have hT9 : TY S (pr S p0 1) 14 := wt hW g0 (by decide) (by decide) rfl (by decide)
  refine go1 (M := mX0_bringsWith) (pc' := 65) (r_iload_n (M := mX0_bringsWith) (i := 2) rfl dX0_bringsWith_64) ?_
  refine go1 (M := mX0_bringsWith) (pc' := 66) (r_iload_n (M := mX0_bringsWith) (i := 1) rfl dX0_bringsWith_65) ?_
  refine go1 (M := mX0_bringsWith) (pc' := 67) (r_isub (M := mX0_bringsWith) dX0_bringsWith_66) ?_
  refine go_ck (fun hi10 => ?_)
  refine go1 (M := mX0_bringsWith) (pc' := 68) (r_iald (M := mX0_bringsWith) hT9 hi10 dX0_bringsWith_67) ?_
  refine go1 (M := mX0_bringsWith) (pc' := 69) (r_iadd (M := mX0_bringsWith) dX0_bringsWith_68) ?_
  exact go_iret (M := mX0_bringsWith) rfl rfl dX0_bringsWith_69
def j_X0_bringsWith_36 (N : Nat) (S : SH) (p0 : Nat) (p1 : Int32) (p2 : Int32) (q0 : Int32) (x : DY) : Option Int32 :=
  (if q0 = 0 then ck S (pr S p0 0) p1 (j_X0_bringsWith_60 N S p0 p1 p2 (x.1 (pr S p0 0) p1.toNatClampNeg) x) else ck S (pr S p0 0) p1 (j_X0_bringsWith_60 N S p0 p1 p2 ((x.1 (pr S p0 0) p1.toNatClampNeg) / 2) x))
set_option maxHeartbeats 1000000 in
theorem j_X0_bringsWith_36_t {N d : Nat} {S : SH} (hW : WT S) (hd : 2 ≤ d) (p0 : Nat) (p1 : Int32) (p2 : Int32) (q0 : Int32) (x : DY) (g0 : TY S p0 0) : Go mX0_bringsWith d S (wPI x) 36 [some (.ref p0), some (.int p1), some (.int p2), none, none] [.int q0] x (j_X0_bringsWith_36 N S p0 p1 p2 q0 x) := by
  unfold j_X0_bringsWith_36
  refine go1 (M := mX0_bringsWith) (pc' := 38) (ls' := [some (.ref p0), some (.int p1), some (.int p2), none, some (.int q0)]) (r_istore (M := mX0_bringsWith) (ls := [some (.ref p0), some (.int p1), some (.int p2), none, none]) (i := 4) (v := q0) (by decide) rfl dX0_bringsWith_36) ?_
  refine go1 (M := mX0_bringsWith) (pc' := 40) (r_iload (M := mX0_bringsWith) (i := 4) rfl dX0_bringsWith_38) ?_
  refine go_br (M := mX0_bringsWith) (pt := 54) (pf := 43) (fun kt kf => r_if_eq (M := mX0_bringsWith) dX0_bringsWith_40 (by decide) kt kf) (fun hc6 => ?_) (fun hc6 => ?_)
  · refine go1 (M := mX0_bringsWith) (pc' := 55) (r_aload_n (M := mX0_bringsWith) (i := 0) rfl dX0_bringsWith_54) ?_
    refine go1 (M := mX0_bringsWith) (pc' := 58) (r_getR (M := mX0_bringsWith) fl_0_9 g0 rfl (wt_some hW g0 (by decide) (by decide) rfl) dX0_bringsWith_55) ?_
    have hT7 : TY S (pr S p0 0) 14 := wt hW g0 (by decide) (by decide) rfl (by decide)
    refine go1 (M := mX0_bringsWith) (pc' := 59) (r_iload_n (M := mX0_bringsWith) (i := 1) rfl dX0_bringsWith_58) ?_
    refine go_ck (fun hi8 => ?_)
    refine go1 (M := mX0_bringsWith) (pc' := 60) (r_iald (M := mX0_bringsWith) hT7 hi8 dX0_bringsWith_59) ?_
    refine go_drop (ls' := [some (.ref p0), some (.int p1), some (.int p2), none, none]) (And.intro rfl (And.intro rfl (And.intro rfl trivial))) ?_
    exact j_X0_bringsWith_60_t (N := N) hW (by omega) p0 p1 p2 (x.1 (pr S p0 0) p1.toNatClampNeg) x g0
  · refine go1 (M := mX0_bringsWith) (pc' := 44) (r_aload_n (M := mX0_bringsWith) (i := 0) rfl dX0_bringsWith_43) ?_
    refine go1 (M := mX0_bringsWith) (pc' := 47) (r_getR (M := mX0_bringsWith) fl_0_9 g0 rfl (wt_some hW g0 (by decide) (by decide) rfl) dX0_bringsWith_44) ?_
    have hT11 : TY S (pr S p0 0) 14 := wt hW g0 (by decide) (by decide) rfl (by decide)
    refine go1 (M := mX0_bringsWith) (pc' := 48) (r_iload_n (M := mX0_bringsWith) (i := 1) rfl dX0_bringsWith_47) ?_
    refine go_ck (fun hi12 => ?_)
    refine go1 (M := mX0_bringsWith) (pc' := 49) (r_iald (M := mX0_bringsWith) hT11 hi12 dX0_bringsWith_48) ?_
    refine go1 (M := mX0_bringsWith) (pc' := 50) (r_iconst (M := mX0_bringsWith) (v := 2) (by decide) dX0_bringsWith_49) ?_
    refine go1 (M := mX0_bringsWith) (pc' := 51) (r_idiv (M := mX0_bringsWith) (by decide) dX0_bringsWith_50) ?_
    refine go1 (M := mX0_bringsWith) (pc' := 60) (r_goto (M := mX0_bringsWith) dX0_bringsWith_51 (by decide)) ?_
    refine go_drop (ls' := [some (.ref p0), some (.int p1), some (.int p2), none, none]) (And.intro rfl (And.intro rfl (And.intro rfl trivial))) ?_
    exact j_X0_bringsWith_60_t (N := N) hW (by omega) p0 p1 p2 ((x.1 (pr S p0 0) p1.toNatClampNeg) / 2) x g0
def j_X0_bringsWith_31 (N : Nat) (S : SH) (p0 : Nat) (p1 : Int32) (p2 : Int32) (x : DY) : Option Int32 :=
  j_X0_bringsWith_36 N S p0 p1 p2 1 x
set_option maxHeartbeats 1000000 in
theorem j_X0_bringsWith_31_t {N d : Nat} {S : SH} (hW : WT S) (hd : 2 ≤ d) (p0 : Nat) (p1 : Int32) (p2 : Int32) (x : DY) (g0 : TY S p0 0) : Go mX0_bringsWith d S (wPI x) 31 [some (.ref p0), some (.int p1), some (.int p2), none, none] [] x (j_X0_bringsWith_31 N S p0 p1 p2 x) := by
  unfold j_X0_bringsWith_31
  refine go1 (M := mX0_bringsWith) (pc' := 32) (r_iconst (M := mX0_bringsWith) (v := 1) (by decide) dX0_bringsWith_31) ?_
  refine go1 (M := mX0_bringsWith) (pc' := 36) (r_goto (M := mX0_bringsWith) dX0_bringsWith_32 (by decide)) ?_
  exact j_X0_bringsWith_36_t (N := N) hW (by omega) p0 p1 p2 1 x g0
def f_X0_bringsWith (N : Nat) (S : SH) (a0 : Nat) (a1 : Int32) (a2 : Int32) (a3 : Int32) (x : DY) : Option Int32 :=
  Option.bind (f_X11_within N S a1 1 6 x) (fun r1 => (if r1 = 0 then some 0 else Option.bind (f_X11_within N S a2 a1 30 x) (fun r3 => (if r3 = 0 then some 0 else (if a3 = 0 then (if a1 = a2 then j_X0_bringsWith_31 N S a0 a1 a2 x else j_X0_bringsWith_36 N S a0 a1 a2 0 x) else j_X0_bringsWith_31 N S a0 a1 a2 x)))))
set_option maxHeartbeats 1000000 in
theorem t_X0_bringsWith {N d : Nat} {S : SH} (hW : WT S) {x : DY} {a0 : Nat} {a1 : Int32} {a2 : Int32} {a3 : Int32} (hd : 2 ≤ d) (h0 : TY S a0 0) : CT mX0_bringsWith d S [.ref a0, .int a1, .int a2, .int a3] x (wPI x) (f_X0_bringsWith N S a0 a1 a2 a3 x) := by
  refine CT.of [some (.ref a0), some (.int a1), some (.int a2), some (.int a3), none] rfl (Nat.le_of_ble_eq_true rfl) (by decide +kernel) ?_
  unfold f_X0_bringsWith
  refine go1 (M := mX0_bringsWith) (pc' := 1) (r_iload_n (M := mX0_bringsWith) (i := 1) rfl dX0_bringsWith_0) ?_
  refine go1 (M := mX0_bringsWith) (pc' := 2) (r_iconst (M := mX0_bringsWith) (v := 1) (by decide) dX0_bringsWith_1) ?_
  refine go1 (M := mX0_bringsWith) (pc' := 4) (r_bipush (M := mX0_bringsWith) (v := 6) (by decide) dX0_bringsWith_2) ?_
  refine go_SN_PI (M := mX0_bringsWith) (pc' := 7) (st := []) (As := [.int a1, .int 1, .int 6]) rfl ln_0_40 lb_X11_within (t_X11_within (N := N) hW (by omega) ) (by omega) (Nat.le_of_ble_eq_true rfl) rfl dX0_bringsWith_4 (fun r1 => ?_)
  refine go_br (M := mX0_bringsWith) (pt := 20) (pf := 10) (fun kt kf => r_if_eq (M := mX0_bringsWith) dX0_bringsWith_7 (by decide) kt kf) (fun hc2 => ?_) (fun hc2 => ?_)
  · refine go1 (M := mX0_bringsWith) (pc' := 21) (r_iconst (M := mX0_bringsWith) (v := 0) (by decide) dX0_bringsWith_20) ?_
    exact go_iret (M := mX0_bringsWith) rfl rfl dX0_bringsWith_21
  · refine go1 (M := mX0_bringsWith) (pc' := 11) (r_iload_n (M := mX0_bringsWith) (i := 2) rfl dX0_bringsWith_10) ?_
    refine go1 (M := mX0_bringsWith) (pc' := 12) (r_iload_n (M := mX0_bringsWith) (i := 1) rfl dX0_bringsWith_11) ?_
    refine go1 (M := mX0_bringsWith) (pc' := 14) (r_bipush (M := mX0_bringsWith) (v := 30) (by decide) dX0_bringsWith_12) ?_
    refine go_SN_PI (M := mX0_bringsWith) (pc' := 17) (st := []) (As := [.int a2, .int a1, .int 30]) rfl ln_0_40 lb_X11_within (t_X11_within (N := N) hW (by omega) ) (by omega) (Nat.le_of_ble_eq_true rfl) rfl dX0_bringsWith_14 (fun r3 => ?_)
    refine go_br (M := mX0_bringsWith) (pt := 20) (pf := 22) (fun kt kf => r_if_ne (M := mX0_bringsWith) dX0_bringsWith_17 (by decide) kf kt) (fun hc4 => ?_) (fun hc4 => ?_)
    · refine go1 (M := mX0_bringsWith) (pc' := 21) (r_iconst (M := mX0_bringsWith) (v := 0) (by decide) dX0_bringsWith_20) ?_
      exact go_iret (M := mX0_bringsWith) rfl rfl dX0_bringsWith_21
    · refine go1 (M := mX0_bringsWith) (pc' := 23) (r_iload_n (M := mX0_bringsWith) (i := 3) rfl dX0_bringsWith_22) ?_
      refine go_br (M := mX0_bringsWith) (pt := 26) (pf := 31) (fun kt kf => r_if_ne (M := mX0_bringsWith) dX0_bringsWith_23 (by decide) kf kt) (fun hc5 => ?_) (fun hc5 => ?_)
      · refine go1 (M := mX0_bringsWith) (pc' := 27) (r_iload_n (M := mX0_bringsWith) (i := 1) rfl dX0_bringsWith_26) ?_
        refine go1 (M := mX0_bringsWith) (pc' := 28) (r_iload_n (M := mX0_bringsWith) (i := 2) rfl dX0_bringsWith_27) ?_
        refine go_br (M := mX0_bringsWith) (pt := 31) (pf := 35) (fun kt kf => r_icmp_ne (M := mX0_bringsWith) dX0_bringsWith_28 (by decide) kf kt) (fun hc13 => ?_) (fun hc13 => ?_)
        · refine go_drop (ls' := [some (.ref a0), some (.int a1), some (.int a2), none, none]) (And.intro rfl (And.intro rfl (And.intro rfl trivial))) ?_
          exact j_X0_bringsWith_31_t (N := N) hW (by omega) a0 a1 a2 x h0
        · refine go1 (M := mX0_bringsWith) (pc' := 36) (r_iconst (M := mX0_bringsWith) (v := 0) (by decide) dX0_bringsWith_35) ?_
          refine go_drop (ls' := [some (.ref a0), some (.int a1), some (.int a2), none, none]) (And.intro rfl (And.intro rfl (And.intro rfl trivial))) ?_
          exact j_X0_bringsWith_36_t (N := N) hW (by omega) a0 a1 a2 0 x h0
      · refine go_drop (ls' := [some (.ref a0), some (.int a1), some (.int a2), none, none]) (And.intro rfl (And.intro rfl (And.intro rfl trivial))) ?_
        exact j_X0_bringsWith_31_t (N := N) hW (by omega) a0 a1 a2 x h0
def j_X0_bestPiece_39 (N : Nat) (S : SH) (bk5 : Int32 → Int32 → Option Int32) (p0 : Nat) (p1 : Int32) (p2 : Int32) (p3 : Int32) (p4 : Int32) (x : DY) : Option Int32 :=
  bk5 p3 (p4 + 1)
set_option maxHeartbeats 1000000 in
theorem j_X0_bestPiece_39_t {N d : Nat} {S : SH} (hW : WT S) (hd : 3 ≤ d) (bk5 : Int32 → Int32 → Option Int32) (p0 : Nat) (p1 : Int32) (p2 : Int32) (p3 : Int32) (p4 : Int32) (x : DY) (g0 : TY S p0 0) (hbk5 : ∀ (v3 : Int32) (v4 : Int32), Go mX0_bestPiece d S (wPI x) 5 [some (.ref p0), some (.int p1), some (.int p2), some (.int v3), some (.int v4)] [] x (bk5 v3 v4)) : Go mX0_bestPiece d S (wPI x) 39 [some (.ref p0), some (.int p1), some (.int p2), some (.int p3), some (.int p4)] [] x (j_X0_bestPiece_39 N S bk5 p0 p1 p2 p3 p4 x) := by
  unfold j_X0_bestPiece_39
  refine go1 (M := mX0_bestPiece) (pc' := 42) (ls' := [some (.ref p0), some (.int p1), some (.int p2), some (.int p3), some (.int (p4 + 1))]) (r_iinc (M := mX0_bestPiece) (ls := [some (.ref p0), some (.int p1), some (.int p2), some (.int p3), some (.int p4)]) (i := 4) (v := p4) (c' := 1) (by decide) rfl (by decide) rfl dX0_bestPiece_39) ?_
  refine go1 (M := mX0_bestPiece) (pc' := 5) (r_goto (M := mX0_bestPiece) dX0_bestPiece_42 (by decide)) ?_
  exact hbk5 p3 (p4 + 1)
def lp_X0_bestPiece_5_b (N : Nat) (S : SH) (bk5 : Int32 → Int32 → Option Int32) (p0 : Nat) (p1 : Int32) (p2 : Int32) (p3 : Int32) (p4 : Int32) (x : DY) : Option Int32 :=
  (if 6 < p4 then some p3 else (if p1 < p4 then some p3 else Option.bind (f_X0_bringsWith N S p0 p4 p1 p2 x) (fun r4 => Option.bind (f_X0_bringsWith N S p0 p3 p1 p2 x) (fun r5 => (if r4 ≤ r5 then j_X0_bestPiece_39 N S bk5 p0 p1 p2 p3 p4 x else j_X0_bestPiece_39 N S bk5 p0 p1 p2 p4 p4 x)))))
set_option maxHeartbeats 1000000 in
theorem lp_X0_bestPiece_5_b_t {N d : Nat} {S : SH} (hW : WT S) (hd : 3 ≤ d) (bk5 : Int32 → Int32 → Option Int32) (p0 : Nat) (p1 : Int32) (p2 : Int32) (p3 : Int32) (p4 : Int32) (x : DY) (g0 : TY S p0 0) (hbk5 : ∀ (v3 : Int32) (v4 : Int32), Go mX0_bestPiece d S (wPI x) 5 [some (.ref p0), some (.int p1), some (.int p2), some (.int v3), some (.int v4)] [] x (bk5 v3 v4)) : Go mX0_bestPiece d S (wPI x) 5 [some (.ref p0), some (.int p1), some (.int p2), some (.int p3), some (.int p4)] [] x (lp_X0_bestPiece_5_b N S bk5 p0 p1 p2 p3 p4 x) := by
  unfold lp_X0_bestPiece_5_b
  refine go1 (M := mX0_bestPiece) (pc' := 7) (r_iload (M := mX0_bestPiece) (i := 4) rfl dX0_bestPiece_5) ?_
  refine go1 (M := mX0_bestPiece) (pc' := 9) (r_bipush (M := mX0_bestPiece) (v := 6) (by decide) dX0_bestPiece_7) ?_
  refine go_br (M := mX0_bestPiece) (pt := 45) (pf := 12) (fun kt kf => r_icmp_gt (M := mX0_bestPiece) dX0_bestPiece_9 (by decide) kt kf) (fun hc2 => ?_) (fun hc2 => ?_)
  · refine go1 (M := mX0_bestPiece) (pc' := 46) (r_iload_n (M := mX0_bestPiece) (i := 3) rfl dX0_bestPiece_45) ?_
    exact go_iret (M := mX0_bestPiece) rfl rfl dX0_bestPiece_46
  · refine go1 (M := mX0_bestPiece) (pc' := 14) (r_iload (M := mX0_bestPiece) (i := 4) rfl dX0_bestPiece_12) ?_
    refine go1 (M := mX0_bestPiece) (pc' := 15) (r_iload_n (M := mX0_bestPiece) (i := 1) rfl dX0_bestPiece_14) ?_
    refine go_br (M := mX0_bestPiece) (pt := 45) (pf := 18) (fun kt kf => r_icmp_gt (M := mX0_bestPiece) dX0_bestPiece_15 (by decide) kt kf) (fun hc3 => ?_) (fun hc3 => ?_)
    · refine go1 (M := mX0_bestPiece) (pc' := 46) (r_iload_n (M := mX0_bestPiece) (i := 3) rfl dX0_bestPiece_45) ?_
      exact go_iret (M := mX0_bestPiece) rfl rfl dX0_bestPiece_46
    · refine go1 (M := mX0_bestPiece) (pc' := 19) (r_aload_n (M := mX0_bestPiece) (i := 0) rfl dX0_bestPiece_18) ?_
      refine go1 (M := mX0_bestPiece) (pc' := 21) (r_iload (M := mX0_bestPiece) (i := 4) rfl dX0_bestPiece_19) ?_
      refine go1 (M := mX0_bestPiece) (pc' := 22) (r_iload_n (M := mX0_bestPiece) (i := 1) rfl dX0_bestPiece_21) ?_
      refine go1 (M := mX0_bestPiece) (pc' := 23) (r_iload_n (M := mX0_bestPiece) (i := 2) rfl dX0_bestPiece_22) ?_
      refine go_V_PI (M := mX0_bestPiece) (pc' := 26) (st := []) (As := [.int p4, .int p1, .int p2]) rfl ln_0_30 lb_X0_bringsWith (t_X0_bringsWith (N := N) hW (by omega) g0) (by omega) g0 (Nat.le_of_ble_eq_true rfl) rfl dX0_bestPiece_23 (fun r4 => ?_)
      refine go1 (M := mX0_bestPiece) (pc' := 27) (r_aload_n (M := mX0_bestPiece) (i := 0) rfl dX0_bestPiece_26) ?_
      refine go1 (M := mX0_bestPiece) (pc' := 28) (r_iload_n (M := mX0_bestPiece) (i := 3) rfl dX0_bestPiece_27) ?_
      refine go1 (M := mX0_bestPiece) (pc' := 29) (r_iload_n (M := mX0_bestPiece) (i := 1) rfl dX0_bestPiece_28) ?_
      refine go1 (M := mX0_bestPiece) (pc' := 30) (r_iload_n (M := mX0_bestPiece) (i := 2) rfl dX0_bestPiece_29) ?_
      refine go_V_PI (M := mX0_bestPiece) (pc' := 33) (st := [.int r4]) (As := [.int p3, .int p1, .int p2]) rfl ln_0_30 lb_X0_bringsWith (t_X0_bringsWith (N := N) hW (by omega) g0) (by omega) g0 (Nat.le_of_ble_eq_true rfl) rfl dX0_bestPiece_30 (fun r5 => ?_)
      refine go_br (M := mX0_bestPiece) (pt := 39) (pf := 36) (fun kt kf => r_icmp_le (M := mX0_bestPiece) dX0_bestPiece_33 (by decide) kt kf) (fun hc6 => ?_) (fun hc6 => ?_)
      · exact j_X0_bestPiece_39_t (N := N) hW (by omega) bk5 p0 p1 p2 p3 p4 x g0 hbk5
      · refine go1 (M := mX0_bestPiece) (pc' := 38) (r_iload (M := mX0_bestPiece) (i := 4) rfl dX0_bestPiece_36) ?_
        refine go1 (M := mX0_bestPiece) (pc' := 39) (ls' := [some (.ref p0), some (.int p1), some (.int p2), some (.int p4), some (.int p4)]) (r_istore_n (M := mX0_bestPiece) (ls := [some (.ref p0), some (.int p1), some (.int p2), some (.int p3), some (.int p4)]) (i := 3) (v := p4) (by decide) rfl dX0_bestPiece_38) ?_
        exact j_X0_bestPiece_39_t (N := N) hW (by omega) bk5 p0 p1 p2 p4 p4 x g0 hbk5
def lp_X0_bestPiece_5 (N : Nat) (S : SH) (p0 : Nat) (p1 : Int32) (p2 : Int32) (p3 : Int32) (p4 : Int32) (x : DY) : Option Int32 :=
  itr (fun back (v : Int32 × Int32) => lp_X0_bestPiece_5_b N S (fun p3 p4 => back (p3, p4)) p0 p1 p2 v.1 v.2 x) N (p3, p4)
theorem lp_X0_bestPiece_5_t {N d : Nat} {S : SH} (hW : WT S) (hd : 3 ≤ d) (p0 : Nat) (p1 : Int32) (p2 : Int32) (p3 : Int32) (p4 : Int32) (x : DY) (g0 : TY S p0 0) : Go mX0_bestPiece d S (wPI x) 5 [some (.ref p0), some (.int p1), some (.int p2), some (.int p3), some (.int p4)] [] x (lp_X0_bestPiece_5 N S p0 p1 p2 p3 p4 x) := by
  unfold lp_X0_bestPiece_5
  exact go_itr (L := fun (v : Int32 × Int32) => [some (.ref p0), some (.int p1), some (.int p2), some (.int v.1), some (.int v.2)]) (X := fun (v : Int32 × Int32) => x) (fun back hB v => lp_X0_bestPiece_5_b_t (N := N) hW hd (fun p3 p4 => back (p3, p4)) p0 p1 p2 v.1 v.2 x g0 (fun p3 p4 => hB (p3, p4)) ) N (p3, p4)
def f_X0_bestPiece (N : Nat) (S : SH) (a0 : Nat) (a1 : Int32) (a2 : Int32) (x : DY) : Option Int32 :=
  lp_X0_bestPiece_5 N S a0 a1 a2 1 2 x
set_option maxHeartbeats 1000000 in
theorem t_X0_bestPiece {N d : Nat} {S : SH} (hW : WT S) {x : DY} {a0 : Nat} {a1 : Int32} {a2 : Int32} (hd : 3 ≤ d) (h0 : TY S a0 0) : CT mX0_bestPiece d S [.ref a0, .int a1, .int a2] x (wPI x) (f_X0_bestPiece N S a0 a1 a2 x) := by
  refine CT.of [some (.ref a0), some (.int a1), some (.int a2), none, none] rfl (Nat.le_of_ble_eq_true rfl) (by decide +kernel) ?_
  unfold f_X0_bestPiece
  refine go1 (M := mX0_bestPiece) (pc' := 1) (r_iconst (M := mX0_bestPiece) (v := 1) (by decide) dX0_bestPiece_0) ?_
  refine go1 (M := mX0_bestPiece) (pc' := 2) (ls' := [some (.ref a0), some (.int a1), some (.int a2), some (.int 1), none]) (r_istore_n (M := mX0_bestPiece) (ls := [some (.ref a0), some (.int a1), some (.int a2), none, none]) (i := 3) (v := 1) (by decide) rfl dX0_bestPiece_1) ?_
  refine go1 (M := mX0_bestPiece) (pc' := 3) (r_iconst (M := mX0_bestPiece) (v := 2) (by decide) dX0_bestPiece_2) ?_
  refine go1 (M := mX0_bestPiece) (pc' := 5) (ls' := [some (.ref a0), some (.int a1), some (.int a2), some (.int 1), some (.int 2)]) (r_istore (M := mX0_bestPiece) (ls := [some (.ref a0), some (.int a1), some (.int a2), some (.int 1), none]) (i := 4) (v := 2) (by decide) rfl dX0_bestPiece_3) ?_
  refine lp_X0_bestPiece_5_t (N := N) hW (by omega) a0 a1 a2 1 2 x h0
def f_J9_min_7cf53 (N : Nat) (S : SH) (a0 : Int32) (a1 : Int32) (x : DY) : Option Int32 :=
  (if a1 < a0 then some a1 else some a0)
set_option maxHeartbeats 1000000 in
theorem t_J9_min_7cf53 {N d : Nat} {S : SH} {x : DY} {a0 : Int32} {a1 : Int32} (hd : 1 ≤ d) : CT mJ9_min_7cf53 d S [.int a0, .int a1] x (wPI x) (f_J9_min_7cf53 N S a0 a1 x) := by
  refine CT.of [some (.int a0), some (.int a1)] rfl (Nat.le_of_ble_eq_true rfl) (by decide +kernel) ?_
  unfold f_J9_min_7cf53
  refine go1 (M := mJ9_min_7cf53) (pc' := 1) (r_iload_n (M := mJ9_min_7cf53) (i := 0) rfl dJ9_min_7cf53_0) ?_
  refine go1 (M := mJ9_min_7cf53) (pc' := 2) (r_iload_n (M := mJ9_min_7cf53) (i := 1) rfl dJ9_min_7cf53_1) ?_
  refine go_br (M := mJ9_min_7cf53) (pt := 9) (pf := 5) (fun kt kf => r_icmp_gt (M := mJ9_min_7cf53) dJ9_min_7cf53_2 (by decide) kt kf) (fun hc1 => ?_) (fun hc1 => ?_)
  · refine go1 (M := mJ9_min_7cf53) (pc' := 10) (r_iload_n (M := mJ9_min_7cf53) (i := 1) rfl dJ9_min_7cf53_9) ?_
    exact go_iret (M := mJ9_min_7cf53) rfl rfl dJ9_min_7cf53_10
  · refine go1 (M := mJ9_min_7cf53) (pc' := 6) (r_iload_n (M := mJ9_min_7cf53) (i := 0) rfl dJ9_min_7cf53_5) ?_
    refine go1 (M := mJ9_min_7cf53) (pc' := 10) (r_goto (M := mJ9_min_7cf53) dJ9_min_7cf53_6 (by decide)) ?_
    exact go_iret (M := mJ9_min_7cf53) rfl rfl dJ9_min_7cf53_10
def lp_X0_plan_2_b (N : Nat) (S : SH) (k32 : DY → Option DY) (bk2 : Int32 → DY → Option DY) (p0 : Nat) (p1 : Int32) (p2 : Int32) (x : DY) : Option DY :=
  (if 30 < p2 then k32 x else Option.bind (f_X0_bestPiece N S p0 p2 0 x) (fun r4 => Option.bind (f_X0_bringsWith N S p0 r4 p2 0 x) (fun r5 => ck S (pr S p0 1) p2 (bl (U1 x (pr S p0 1) p2.toNatClampNeg r5) (fun x7 => bk2 (p2 + 1) x7)))))
set_option maxHeartbeats 1000000 in
theorem lp_X0_plan_2_b_t {N d : Nat} {S : SH} (hW : WT S) (hd : 4 ≤ d) (k32 : DY → Option DY) (bk2 : Int32 → DY → Option DY) (p0 : Nat) (p1 : Int32) (p2 : Int32) (x : DY) (g0 : TY S p0 0) (hk32 : ∀ (y : DY), Go mX0_plan d S wSV 32 [some (.ref p0), some (.int p1), none, none] [] y (k32 y)) (hbk2 : ∀ (v2 : Int32) (y : DY), Go mX0_plan d S wSV 2 [some (.ref p0), some (.int p1), some (.int v2), none] [] y (bk2 v2 y)) : Go mX0_plan d S wSV 2 [some (.ref p0), some (.int p1), some (.int p2), none] [] x (lp_X0_plan_2_b N S k32 bk2 p0 p1 p2 x) := by
  unfold lp_X0_plan_2_b
  refine go1 (M := mX0_plan) (pc' := 3) (r_iload_n (M := mX0_plan) (i := 2) rfl dX0_plan_2) ?_
  refine go1 (M := mX0_plan) (pc' := 5) (r_bipush (M := mX0_plan) (v := 30) (by decide) dX0_plan_3) ?_
  refine go_br (M := mX0_plan) (pt := 32) (pf := 8) (fun kt kf => r_icmp_gt (M := mX0_plan) dX0_plan_5 (by decide) kt kf) (fun hc2 => ?_) (fun hc2 => ?_)
  · refine go_drop (ls' := [some (.ref p0), some (.int p1), none, none]) (And.intro rfl (And.intro rfl trivial)) ?_
    exact hk32 x
  · refine go1 (M := mX0_plan) (pc' := 9) (r_aload_n (M := mX0_plan) (i := 0) rfl dX0_plan_8) ?_
    refine go1 (M := mX0_plan) (pc' := 12) (r_getR (M := mX0_plan) fl_0_13 g0 rfl (wt_some hW g0 (by decide) (by decide) rfl) dX0_plan_9) ?_
    have hT3 : TY S (pr S p0 1) 14 := wt hW g0 (by decide) (by decide) rfl (by decide)
    refine go1 (M := mX0_plan) (pc' := 13) (r_iload_n (M := mX0_plan) (i := 2) rfl dX0_plan_12) ?_
    refine go1 (M := mX0_plan) (pc' := 14) (r_aload_n (M := mX0_plan) (i := 0) rfl dX0_plan_13) ?_
    refine go1 (M := mX0_plan) (pc' := 15) (r_aload_n (M := mX0_plan) (i := 0) rfl dX0_plan_14) ?_
    refine go1 (M := mX0_plan) (pc' := 16) (r_iload_n (M := mX0_plan) (i := 2) rfl dX0_plan_15) ?_
    refine go1 (M := mX0_plan) (pc' := 17) (r_iconst (M := mX0_plan) (v := 0) (by decide) dX0_plan_16) ?_
    refine go_V_PI (M := mX0_plan) (pc' := 20) (st := [.ref p0, .int p2, .ref (pr S p0 1)]) (As := [.int p2, .int 0]) rfl ln_0_26 lb_X0_bestPiece (t_X0_bestPiece (N := N) hW (by omega) g0) (by omega) g0 (Nat.le_of_ble_eq_true rfl) rfl dX0_plan_17 (fun r4 => ?_)
    refine go1 (M := mX0_plan) (pc' := 21) (r_iload_n (M := mX0_plan) (i := 2) rfl dX0_plan_20) ?_
    refine go1 (M := mX0_plan) (pc' := 22) (r_iconst (M := mX0_plan) (v := 0) (by decide) dX0_plan_21) ?_
    refine go_V_PI (M := mX0_plan) (pc' := 25) (st := [.int p2, .ref (pr S p0 1)]) (As := [.int r4, .int p2, .int 0]) rfl ln_0_30 lb_X0_bringsWith (t_X0_bringsWith (N := N) hW (by omega) g0) (by omega) g0 (Nat.le_of_ble_eq_true rfl) rfl dX0_plan_22 (fun r5 => ?_)
    refine go_ck (fun hi6 => ?_)
    refine go1 (M := mX0_plan) (pc' := 26) (r_iast (M := mX0_plan) hT3 hi6 dX0_plan_25) ?_
    refine go_blx (fun x7 => ?_)
    refine go1 (M := mX0_plan) (pc' := 29) (ls' := [some (.ref p0), some (.int p1), some (.int (p2 + 1)), none]) (r_iinc (M := mX0_plan) (ls := [some (.ref p0), some (.int p1), some (.int p2), none]) (i := 2) (v := p2) (c' := 1) (by decide) rfl (by decide) rfl dX0_plan_26) ?_
    refine go1 (M := mX0_plan) (pc' := 2) (r_goto (M := mX0_plan) dX0_plan_29 (by decide)) ?_
    exact hbk2 (p2 + 1) x7
def lp_X0_plan_2 (N : Nat) (S : SH) (k32 : DY → Option DY) (p0 : Nat) (p1 : Int32) (p2 : Int32) (x : DY) : Option DY :=
  itr (fun back (v : Int32 × DY) => lp_X0_plan_2_b N S k32 (fun p2 y => back (p2, y)) p0 p1 v.1 v.2) N (p2, x)
theorem lp_X0_plan_2_t {N d : Nat} {S : SH} (hW : WT S) (hd : 4 ≤ d) (k32 : DY → Option DY) (p0 : Nat) (p1 : Int32) (p2 : Int32) (x : DY) (g0 : TY S p0 0) (hk32 : ∀ (y : DY), Go mX0_plan d S wSV 32 [some (.ref p0), some (.int p1), none, none] [] y (k32 y)) : Go mX0_plan d S wSV 2 [some (.ref p0), some (.int p1), some (.int p2), none] [] x (lp_X0_plan_2 N S k32 p0 p1 p2 x) := by
  unfold lp_X0_plan_2
  exact go_itr (L := fun (v : Int32 × DY) => [some (.ref p0), some (.int p1), some (.int v.1), none]) (X := fun (v : Int32 × DY) => v.2) (fun back hB v => lp_X0_plan_2_b_t (N := N) hW hd k32 (fun p2 y => back (p2, y)) p0 p1 v.1 v.2 g0 hk32 (fun p2 y => hB (p2, y)) ) N (p2, x)
def j_X0_plan_88 (N : Nat) (S : SH) (bk62 : Int32 → Int32 → DY → Option DY) (p0 : Nat) (p2 : Int32) (p3 : Int32) (q0 : Int32) (q1 : Int32) (q2 : Nat) (q3 : Int32) (q4 : Nat) (x : DY) : Option DY :=
  Option.bind (f_X0_bestPiece N S q2 q1 q0 x) (fun r19 => ck S q4 q3 (bl (U1 x q4 q3.toNatClampNeg r19) (fun x21 => ck S (pr S p0 2) p3 (bl (U1 x21 p0 3 ((x21.1 p0 3) + 1)) (fun x24 => bk62 (p2 - (x21.1 (pr S p0 2) p3.toNatClampNeg)) (p3 + 1) x24)))))
set_option maxHeartbeats 1000000 in
theorem j_X0_plan_88_t {N d : Nat} {S : SH} (hW : WT S) (hd : 4 ≤ d) (bk62 : Int32 → Int32 → DY → Option DY) (p0 : Nat) (p2 : Int32) (p3 : Int32) (q0 : Int32) (q1 : Int32) (q2 : Nat) (q3 : Int32) (q4 : Nat) (x : DY) (g0 : TY S p0 0) (gq2 : TY S q2 0) (gq4 : TY S q4 14) (hbk62 : ∀ (v2 : Int32) (v3 : Int32) (y : DY), Go mX0_plan d S wSV 62 [some (.ref p0), none, some (.int v2), some (.int v3)] [] y (bk62 v2 v3 y)) : Go mX0_plan d S wSV 88 [some (.ref p0), none, some (.int p2), some (.int p3)] [.int q0, .int q1, .ref q2, .int q3, .ref q4] x (j_X0_plan_88 N S bk62 p0 p2 p3 q0 q1 q2 q3 q4 x) := by
  unfold j_X0_plan_88
  refine go_V_PI (M := mX0_plan) (pc' := 91) (st := [.int q3, .ref q4]) (As := [.int q1, .int q0]) rfl ln_0_26 lb_X0_bestPiece (t_X0_bestPiece (N := N) hW (by omega) gq2) (by omega) gq2 (Nat.le_of_ble_eq_true rfl) rfl dX0_plan_88 (fun r19 => ?_)
  refine go_ck (fun hi20 => ?_)
  refine go1 (M := mX0_plan) (pc' := 92) (r_iast (M := mX0_plan) gq4 hi20 dX0_plan_91) ?_
  refine go_blx (fun x21 => ?_)
  refine go1 (M := mX0_plan) (pc' := 93) (r_iload_n (M := mX0_plan) (i := 2) rfl dX0_plan_92) ?_
  refine go1 (M := mX0_plan) (pc' := 94) (r_aload_n (M := mX0_plan) (i := 0) rfl dX0_plan_93) ?_
  refine go1 (M := mX0_plan) (pc' := 97) (r_getR (M := mX0_plan) fl_0_16 g0 rfl (wt_some hW g0 (by decide) (by decide) rfl) dX0_plan_94) ?_
  have hT22 : TY S (pr S p0 2) 14 := wt hW g0 (by decide) (by decide) rfl (by decide)
  refine go1 (M := mX0_plan) (pc' := 98) (r_iload_n (M := mX0_plan) (i := 3) rfl dX0_plan_97) ?_
  refine go_ck (fun hi23 => ?_)
  refine go1 (M := mX0_plan) (pc' := 99) (r_iald (M := mX0_plan) hT22 hi23 dX0_plan_98) ?_
  refine go1 (M := mX0_plan) (pc' := 100) (r_isub (M := mX0_plan) dX0_plan_99) ?_
  refine go1 (M := mX0_plan) (pc' := 101) (ls' := [some (.ref p0), none, some (.int (p2 - (x21.1 (pr S p0 2) p3.toNatClampNeg))), some (.int p3)]) (r_istore_n (M := mX0_plan) (ls := [some (.ref p0), none, some (.int p2), some (.int p3)]) (i := 2) (v := (p2 - (x21.1 (pr S p0 2) p3.toNatClampNeg))) (by decide) rfl dX0_plan_100) ?_
  refine go1 (M := mX0_plan) (pc' := 102) (r_aload_n (M := mX0_plan) (i := 0) rfl dX0_plan_101) ?_
  refine go1 (M := mX0_plan) (pc' := 103) (r_dup (M := mX0_plan) rfl dX0_plan_102) ?_
  refine go1 (M := mX0_plan) (pc' := 106) (r_getI (M := mX0_plan) fl_0_19 g0 rfl dX0_plan_103) ?_
  refine go1 (M := mX0_plan) (pc' := 107) (r_iconst (M := mX0_plan) (v := 1) (by decide) dX0_plan_106) ?_
  refine go1 (M := mX0_plan) (pc' := 108) (r_iadd (M := mX0_plan) dX0_plan_107) ?_
  refine go1 (M := mX0_plan) (pc' := 111) (r_putI (M := mX0_plan) fl_0_19 g0 rfl rfl dX0_plan_108) ?_
  refine go_blx (fun x24 => ?_)
  refine go1 (M := mX0_plan) (pc' := 114) (ls' := [some (.ref p0), none, some (.int (p2 - (x21.1 (pr S p0 2) p3.toNatClampNeg))), some (.int (p3 + 1))]) (r_iinc (M := mX0_plan) (ls := [some (.ref p0), none, some (.int (p2 - (x21.1 (pr S p0 2) p3.toNatClampNeg))), some (.int p3)]) (i := 3) (v := p3) (c' := 1) (by decide) rfl (by decide) rfl dX0_plan_111) ?_
  refine go1 (M := mX0_plan) (pc' := 62) (r_goto (M := mX0_plan) dX0_plan_114 (by decide)) ?_
  exact hbk62 (p2 - (x21.1 (pr S p0 2) p3.toNatClampNeg)) (p3 + 1) x24
def lp_X0_plan_62_b (N : Nat) (S : SH) (bk62 : Int32 → Int32 → DY → Option DY) (p0 : Nat) (p2 : Int32) (p3 : Int32) (x : DY) : Option DY :=
  (if 30 ≤ p3 then some x else (if p2 ≤ 0 then some x else (if p3 = 0 then j_X0_plan_88 N S bk62 p0 p2 p3 1 p2 p0 p3 (pr S p0 2) x else j_X0_plan_88 N S bk62 p0 p2 p3 0 p2 p0 p3 (pr S p0 2) x)))
set_option maxHeartbeats 1000000 in
theorem lp_X0_plan_62_b_t {N d : Nat} {S : SH} (hW : WT S) (hd : 4 ≤ d) (bk62 : Int32 → Int32 → DY → Option DY) (p0 : Nat) (p2 : Int32) (p3 : Int32) (x : DY) (g0 : TY S p0 0) (hbk62 : ∀ (v2 : Int32) (v3 : Int32) (y : DY), Go mX0_plan d S wSV 62 [some (.ref p0), none, some (.int v2), some (.int v3)] [] y (bk62 v2 v3 y)) : Go mX0_plan d S wSV 62 [some (.ref p0), none, some (.int p2), some (.int p3)] [] x (lp_X0_plan_62_b N S bk62 p0 p2 p3 x) := by
  unfold lp_X0_plan_62_b
  refine go1 (M := mX0_plan) (pc' := 63) (r_iload_n (M := mX0_plan) (i := 3) rfl dX0_plan_62) ?_
  refine go1 (M := mX0_plan) (pc' := 65) (r_bipush (M := mX0_plan) (v := 30) (by decide) dX0_plan_63) ?_
  refine go_br (M := mX0_plan) (pt := 117) (pf := 68) (fun kt kf => r_icmp_ge (M := mX0_plan) dX0_plan_65 (by decide) kt kf) (fun hc15 => ?_) (fun hc15 => ?_)
  · exact go_vret (M := mX0_plan) rfl rfl dX0_plan_117
  · refine go1 (M := mX0_plan) (pc' := 69) (r_iload_n (M := mX0_plan) (i := 2) rfl dX0_plan_68) ?_
    refine go_br (M := mX0_plan) (pt := 117) (pf := 72) (fun kt kf => r_if_le (M := mX0_plan) dX0_plan_69 (by decide) kt kf) (fun hc16 => ?_) (fun hc16 => ?_)
    · exact go_vret (M := mX0_plan) rfl rfl dX0_plan_117
    · refine go1 (M := mX0_plan) (pc' := 73) (r_aload_n (M := mX0_plan) (i := 0) rfl dX0_plan_72) ?_
      refine go1 (M := mX0_plan) (pc' := 76) (r_getR (M := mX0_plan) fl_0_16 g0 rfl (wt_some hW g0 (by decide) (by decide) rfl) dX0_plan_73) ?_
      have hT17 : TY S (pr S p0 2) 14 := wt hW g0 (by decide) (by decide) rfl (by decide)
      refine go1 (M := mX0_plan) (pc' := 77) (r_iload_n (M := mX0_plan) (i := 3) rfl dX0_plan_76) ?_
      refine go1 (M := mX0_plan) (pc' := 78) (r_aload_n (M := mX0_plan) (i := 0) rfl dX0_plan_77) ?_
      refine go1 (M := mX0_plan) (pc' := 79) (r_iload_n (M := mX0_plan) (i := 2) rfl dX0_plan_78) ?_
      refine go1 (M := mX0_plan) (pc' := 80) (r_iload_n (M := mX0_plan) (i := 3) rfl dX0_plan_79) ?_
      refine go_br (M := mX0_plan) (pt := 83) (pf := 87) (fun kt kf => r_if_ne (M := mX0_plan) dX0_plan_80 (by decide) kf kt) (fun hc18 => ?_) (fun hc18 => ?_)
      · refine go1 (M := mX0_plan) (pc' := 84) (r_iconst (M := mX0_plan) (v := 1) (by decide) dX0_plan_83) ?_
        refine go1 (M := mX0_plan) (pc' := 88) (r_goto (M := mX0_plan) dX0_plan_84 (by decide)) ?_
        exact j_X0_plan_88_t (N := N) hW (by omega) bk62 p0 p2 p3 1 p2 p0 p3 (pr S p0 2) x g0 g0 hT17 hbk62
      · refine go1 (M := mX0_plan) (pc' := 88) (r_iconst (M := mX0_plan) (v := 0) (by decide) dX0_plan_87) ?_
        exact j_X0_plan_88_t (N := N) hW (by omega) bk62 p0 p2 p3 0 p2 p0 p3 (pr S p0 2) x g0 g0 hT17 hbk62
def lp_X0_plan_62 (N : Nat) (S : SH) (p0 : Nat) (p2 : Int32) (p3 : Int32) (x : DY) : Option DY :=
  itr (fun back (v : Int32 × Int32 × DY) => lp_X0_plan_62_b N S (fun p2 p3 y => back (p2, p3, y)) p0 v.1 v.2.1 v.2.2) N (p2, p3, x)
theorem lp_X0_plan_62_t {N d : Nat} {S : SH} (hW : WT S) (hd : 4 ≤ d) (p0 : Nat) (p2 : Int32) (p3 : Int32) (x : DY) (g0 : TY S p0 0) : Go mX0_plan d S wSV 62 [some (.ref p0), none, some (.int p2), some (.int p3)] [] x (lp_X0_plan_62 N S p0 p2 p3 x) := by
  unfold lp_X0_plan_62
  exact go_itr (L := fun (v : Int32 × Int32 × DY) => [some (.ref p0), none, some (.int v.1), some (.int v.2.1)]) (X := fun (v : Int32 × Int32 × DY) => v.2.2) (fun back hB v => lp_X0_plan_62_b_t (N := N) hW hd (fun p2 p3 y => back (p2, p3, y)) p0 v.1 v.2.1 v.2.2 g0 (fun p2 p3 y => hB (p2, p3, y)) ) N (p2, p3, x)
def f_X0_plan (N : Nat) (S : SH) (a0 : Nat) (a1 : Int32) (x : DY) : Option DY :=
  lp_X0_plan_2 N S (fun y7 => bl (U1 y7 a0 3 0) (fun x9 => Option.bind (f_J9_min_7cf53 N S a1 30 x9) (fun r10 => Option.bind (f_X0_bestPiece N S a0 r10 1 x9) (fun r11 => Option.bind (f_X0_bringsWith N S a0 r11 r10 1 x9) (fun r12 => bl (U1 x9 a0 4 r12) (fun x13 => lp_X0_plan_62 N S a0 r10 0 x13)))))) a0 a1 1 x
set_option maxHeartbeats 1000000 in
theorem t_X0_plan {N d : Nat} {S : SH} (hW : WT S) {x : DY} {a0 : Nat} {a1 : Int32} (hd : 4 ≤ d) (h0 : TY S a0 0) : CT mX0_plan d S [.ref a0, .int a1] x wSV (f_X0_plan N S a0 a1 x) := by
  refine CT.of [some (.ref a0), some (.int a1), none, none] rfl (Nat.le_of_ble_eq_true rfl) (by decide +kernel) ?_
  unfold f_X0_plan
  refine go1 (M := mX0_plan) (pc' := 1) (r_iconst (M := mX0_plan) (v := 1) (by decide) dX0_plan_0) ?_
  refine go1 (M := mX0_plan) (pc' := 2) (ls' := [some (.ref a0), some (.int a1), some (.int 1), none]) (r_istore_n (M := mX0_plan) (ls := [some (.ref a0), some (.int a1), none, none]) (i := 2) (v := 1) (by decide) rfl dX0_plan_1) ?_
  refine lp_X0_plan_2_t (N := N) hW (by omega) _ a0 a1 1 x h0 ?_
  · intro y7
    refine go1 (M := mX0_plan) (pc' := 33) (r_aload_n (M := mX0_plan) (i := 0) rfl dX0_plan_32) ?_
    refine go1 (M := mX0_plan) (pc' := 34) (r_iconst (M := mX0_plan) (v := 0) (by decide) dX0_plan_33) ?_
    refine go1 (M := mX0_plan) (pc' := 37) (r_putI (M := mX0_plan) fl_0_19 h0 rfl rfl dX0_plan_34) ?_
    refine go_blx (fun x9 => ?_)
    refine go1 (M := mX0_plan) (pc' := 38) (r_iload_n (M := mX0_plan) (i := 1) rfl dX0_plan_37) ?_
    refine go1 (M := mX0_plan) (pc' := 40) (r_bipush (M := mX0_plan) (v := 30) (by decide) dX0_plan_38) ?_
    refine go_S_PI (M := mX0_plan) (pc' := 43) (st := []) (As := [.int a1, .int 30]) rfl ln_0_34 lb_J9_min_7cf53 (t_J9_min_7cf53 (N := N) (by omega) ) (by omega) (Nat.le_of_ble_eq_true rfl) rfl dX0_plan_40 (fun r10 => ?_)
    refine go1 (M := mX0_plan) (pc' := 44) (ls' := [some (.ref a0), some (.int a1), some (.int r10), none]) (r_istore_n (M := mX0_plan) (ls := [some (.ref a0), some (.int a1), none, none]) (i := 2) (v := r10) (by decide) rfl dX0_plan_43) ?_
    refine go1 (M := mX0_plan) (pc' := 45) (r_aload_n (M := mX0_plan) (i := 0) rfl dX0_plan_44) ?_
    refine go1 (M := mX0_plan) (pc' := 46) (r_aload_n (M := mX0_plan) (i := 0) rfl dX0_plan_45) ?_
    refine go1 (M := mX0_plan) (pc' := 47) (r_aload_n (M := mX0_plan) (i := 0) rfl dX0_plan_46) ?_
    refine go1 (M := mX0_plan) (pc' := 48) (r_iload_n (M := mX0_plan) (i := 2) rfl dX0_plan_47) ?_
    refine go1 (M := mX0_plan) (pc' := 49) (r_iconst (M := mX0_plan) (v := 1) (by decide) dX0_plan_48) ?_
    refine go_V_PI (M := mX0_plan) (pc' := 52) (st := [.ref a0, .ref a0]) (As := [.int r10, .int 1]) rfl ln_0_26 lb_X0_bestPiece (t_X0_bestPiece (N := N) hW (by omega) h0) (by omega) h0 (Nat.le_of_ble_eq_true rfl) rfl dX0_plan_49 (fun r11 => ?_)
    refine go1 (M := mX0_plan) (pc' := 53) (r_iload_n (M := mX0_plan) (i := 2) rfl dX0_plan_52) ?_
    refine go1 (M := mX0_plan) (pc' := 54) (r_iconst (M := mX0_plan) (v := 1) (by decide) dX0_plan_53) ?_
    refine go_V_PI (M := mX0_plan) (pc' := 57) (st := [.ref a0]) (As := [.int r11, .int r10, .int 1]) rfl ln_0_30 lb_X0_bringsWith (t_X0_bringsWith (N := N) hW (by omega) h0) (by omega) h0 (Nat.le_of_ble_eq_true rfl) rfl dX0_plan_54 (fun r12 => ?_)
    refine go1 (M := mX0_plan) (pc' := 60) (r_putI (M := mX0_plan) fl_0_23 h0 rfl rfl dX0_plan_57) ?_
    refine go_blx (fun x13 => ?_)
    refine go1 (M := mX0_plan) (pc' := 61) (r_iconst (M := mX0_plan) (v := 0) (by decide) dX0_plan_60) ?_
    refine go1 (M := mX0_plan) (pc' := 62) (ls' := [some (.ref a0), some (.int a1), some (.int r10), some (.int 0)]) (r_istore_n (M := mX0_plan) (ls := [some (.ref a0), some (.int a1), some (.int r10), none]) (i := 3) (v := 0) (by decide) rfl dX0_plan_61) ?_
    refine go_drop (ls' := [some (.ref a0), none, some (.int r10), some (.int 0)]) (And.intro rfl (And.intro rfl (And.intro rfl trivial))) ?_
    refine lp_X0_plan_62_t (N := N) hW (by omega) a0 r10 0 x13 h0
def f_X1_canLook (N : Nat) (S : SH) (a0 : Int32) (a1 : Int32) (x : DY) : Option Int32 :=
  Option.bind (f_X11_within N S a0 1 3 x) (fun r1 => (if r1 = 0 then some 0 else Option.bind (f_X11_within N S a1 0 24 x) (fun r3 => (if r3 = 0 then some 0 else some 1))))
set_option maxHeartbeats 1000000 in
theorem t_X1_canLook {N d : Nat} {S : SH} (hW : WT S) {x : DY} {a0 : Int32} {a1 : Int32} (hd : 2 ≤ d) : CT mX1_canLook d S [.int a0, .int a1] x (wPI x) (f_X1_canLook N S a0 a1 x) := by
  refine CT.of [some (.int a0), some (.int a1)] rfl (Nat.le_of_ble_eq_true rfl) (by decide +kernel) ?_
  unfold f_X1_canLook
  refine go1 (M := mX1_canLook) (pc' := 1) (r_iload_n (M := mX1_canLook) (i := 0) rfl dX1_canLook_0) ?_
  refine go1 (M := mX1_canLook) (pc' := 2) (r_iconst (M := mX1_canLook) (v := 1) (by decide) dX1_canLook_1) ?_
  refine go1 (M := mX1_canLook) (pc' := 3) (r_iconst (M := mX1_canLook) (v := 3) (by decide) dX1_canLook_2) ?_
  refine go_SN_PI (M := mX1_canLook) (pc' := 6) (st := []) (As := [.int a0, .int 1, .int 3]) rfl ln_1_33 lb_X11_within (t_X11_within (N := N) hW (by omega) ) (by omega) (Nat.le_of_ble_eq_true rfl) rfl dX1_canLook_3 (fun r1 => ?_)
  refine go_br (M := mX1_canLook) (pt := 23) (pf := 9) (fun kt kf => r_if_eq (M := mX1_canLook) dX1_canLook_6 (by decide) kt kf) (fun hc2 => ?_) (fun hc2 => ?_)
  · refine go1 (M := mX1_canLook) (pc' := 24) (r_iconst (M := mX1_canLook) (v := 0) (by decide) dX1_canLook_23) ?_
    exact go_zret (M := mX1_canLook) rfl rfl rfl dX1_canLook_24
  · refine go1 (M := mX1_canLook) (pc' := 10) (r_iload_n (M := mX1_canLook) (i := 1) rfl dX1_canLook_9) ?_
    refine go1 (M := mX1_canLook) (pc' := 11) (r_iconst (M := mX1_canLook) (v := 0) (by decide) dX1_canLook_10) ?_
    refine go1 (M := mX1_canLook) (pc' := 13) (r_bipush (M := mX1_canLook) (v := 24) (by decide) dX1_canLook_11) ?_
    refine go_SN_PI (M := mX1_canLook) (pc' := 16) (st := []) (As := [.int a1, .int 0, .int 24]) rfl ln_1_33 lb_X11_within (t_X11_within (N := N) hW (by omega) ) (by omega) (Nat.le_of_ble_eq_true rfl) rfl dX1_canLook_13 (fun r3 => ?_)
    refine go_br (M := mX1_canLook) (pt := 23) (pf := 19) (fun kt kf => r_if_eq (M := mX1_canLook) dX1_canLook_16 (by decide) kt kf) (fun hc4 => ?_) (fun hc4 => ?_)
    · refine go1 (M := mX1_canLook) (pc' := 24) (r_iconst (M := mX1_canLook) (v := 0) (by decide) dX1_canLook_23) ?_
      exact go_zret (M := mX1_canLook) rfl rfl rfl dX1_canLook_24
    · refine go1 (M := mX1_canLook) (pc' := 20) (r_iconst (M := mX1_canLook) (v := 1) (by decide) dX1_canLook_19) ?_
      refine go1 (M := mX1_canLook) (pc' := 24) (r_goto (M := mX1_canLook) dX1_canLook_20 (by decide)) ?_
      exact go_zret (M := mX1_canLook) rfl rfl rfl dX1_canLook_24
def f_X4_areFull (N : Nat) (S : SH) (a0 : Nat) (x : DY) : Option Int32 :=
  (if (x.1 a0 5) < 300 then some 0 else some 1)
set_option maxHeartbeats 1000000 in
theorem t_X4_areFull {N d : Nat} {S : SH} (hW : WT S) {x : DY} {a0 : Nat} (hd : 1 ≤ d) (h0 : TY S a0 4) : CT mX4_areFull d S [.ref a0] x (wPI x) (f_X4_areFull N S a0 x) := by
  refine CT.of [some (.ref a0)] rfl (Nat.le_of_ble_eq_true rfl) (by decide +kernel) ?_
  unfold f_X4_areFull
  refine go1 (M := mX4_areFull) (pc' := 1) (r_aload_n (M := mX4_areFull) (i := 0) rfl dX4_areFull_0) ?_
  refine go1 (M := mX4_areFull) (pc' := 4) (r_getI (M := mX4_areFull) fl_4_27 h0 rfl dX4_areFull_1) ?_
  refine go1 (M := mX4_areFull) (pc' := 7) (r_sipush (M := mX4_areFull) (v := 300) (by decide) dX4_areFull_4) ?_
  refine go_br (M := mX4_areFull) (pt := 14) (pf := 10) (fun kt kf => r_icmp_lt (M := mX4_areFull) dX4_areFull_7 (by decide) kt kf) (fun hc1 => ?_) (fun hc1 => ?_)
  · refine go1 (M := mX4_areFull) (pc' := 15) (r_iconst (M := mX4_areFull) (v := 0) (by decide) dX4_areFull_14) ?_
    exact go_zret (M := mX4_areFull) rfl rfl rfl dX4_areFull_15
  · refine go1 (M := mX4_areFull) (pc' := 11) (r_iconst (M := mX4_areFull) (v := 1) (by decide) dX4_areFull_10) ?_
    refine go1 (M := mX4_areFull) (pc' := 15) (r_goto (M := mX4_areFull) dX4_areFull_11 (by decide)) ?_
    exact go_zret (M := mX4_areFull) rfl rfl rfl dX4_areFull_15
def f_X4_copy (N : Nat) (S : SH) (a0 : Nat) (a1 : Nat) (x : DY) : Option DY :=
  Option.bind (f_J9_min_7cf53 N S (x.1 a1 5) 300 x) (fun r1 => (if 0 ≤ r1 then cpk S (pr S a1 0) 0 (pr S a0 0) 0 r1 (bl (cpX S (pr S a1 0) 0 (pr S a0 0) 0 r1 x) (fun x6 => cpk S (pr S a1 1) 0 (pr S a0 1) 0 r1 (bl (cpX S (pr S a1 1) 0 (pr S a0 1) 0 r1 x6) (fun x10 => cpk S (pr S a1 2) 0 (pr S a0 2) 0 r1 (bl (cpX S (pr S a1 2) 0 (pr S a0 2) 0 r1 x10) (fun x14 => cpk S (pr S a1 3) 0 (pr S a0 3) 0 r1 (bl (cpX S (pr S a1 3) 0 (pr S a0 3) 0 r1 x14) (fun x18 => cpk S (pr S a1 4) 0 (pr S a0 4) 0 r1 (bl (cpX S (pr S a1 4) 0 (pr S a0 4) 0 r1 x18) (fun x22 => bl (U1 x22 a0 5 r1) (fun x23 => some x23))))))))))) else some x))
set_option maxHeartbeats 1000000 in
theorem t_X4_copy {N d : Nat} {S : SH} (hW : WT S) {x : DY} {a0 : Nat} {a1 : Nat} (hd : 2 ≤ d) (h0 : TY S a0 4) (h1 : TY S a1 4) : CT mX4_copy d S [.ref a0, .ref a1] x wSV (f_X4_copy N S a0 a1 x) := by
  refine CT.of [some (.ref a0), some (.ref a1), none] rfl (Nat.le_of_ble_eq_true rfl) (by decide +kernel) ?_
  unfold f_X4_copy
  refine go1 (M := mX4_copy) (pc' := 1) (r_aload_n (M := mX4_copy) (i := 1) rfl dX4_copy_0) ?_
  refine go1 (M := mX4_copy) (pc' := 4) (r_getI (M := mX4_copy) fl_4_27 h1 rfl dX4_copy_1) ?_
  refine go1 (M := mX4_copy) (pc' := 7) (r_sipush (M := mX4_copy) (v := 300) (by decide) dX4_copy_4) ?_
  refine go_S_PI (M := mX4_copy) (pc' := 10) (st := []) (As := [.int (x.1 a1 5), .int 300]) rfl ln_4_63 lb_J9_min_7cf53 (t_J9_min_7cf53 (N := N) (by omega) ) (by omega) (Nat.le_of_ble_eq_true rfl) rfl dX4_copy_7 (fun r1 => ?_)
  refine go1 (M := mX4_copy) (pc' := 11) (ls' := [some (.ref a0), some (.ref a1), some (.int r1)]) (r_istore_n (M := mX4_copy) (ls := [some (.ref a0), some (.ref a1), none]) (i := 2) (v := r1) (by decide) rfl dX4_copy_10) ?_
  refine go1 (M := mX4_copy) (pc' := 12) (r_iload_n (M := mX4_copy) (i := 2) rfl dX4_copy_11) ?_
  refine go_br (M := mX4_copy) (pt := 16) (pf := 15) (fun kt kf => r_if_ge (M := mX4_copy) dX4_copy_12 (by decide) kt kf) (fun hc2 => ?_) (fun hc2 => ?_)
  · refine go1 (M := mX4_copy) (pc' := 17) (r_aload_n (M := mX4_copy) (i := 1) rfl dX4_copy_16) ?_
    refine go1 (M := mX4_copy) (pc' := 20) (r_getR (M := mX4_copy) fl_4_9 h1 rfl (wt_some hW h1 (by decide) (by decide) rfl) dX4_copy_17) ?_
    have hT3 : TY S (pr S a1 0) 14 := wt hW h1 (by decide) (by decide) rfl (by decide)
    refine go1 (M := mX4_copy) (pc' := 21) (r_iconst (M := mX4_copy) (v := 0) (by decide) dX4_copy_20) ?_
    refine go1 (M := mX4_copy) (pc' := 22) (r_aload_n (M := mX4_copy) (i := 0) rfl dX4_copy_21) ?_
    refine go1 (M := mX4_copy) (pc' := 25) (r_getR (M := mX4_copy) fl_4_9 h0 rfl (wt_some hW h0 (by decide) (by decide) rfl) dX4_copy_22) ?_
    have hT4 : TY S (pr S a0 0) 14 := wt hW h0 (by decide) (by decide) rfl (by decide)
    refine go1 (M := mX4_copy) (pc' := 26) (r_iconst (M := mX4_copy) (v := 0) (by decide) dX4_copy_25) ?_
    refine go1 (M := mX4_copy) (pc' := 27) (r_iload_n (M := mX4_copy) (i := 2) rfl dX4_copy_26) ?_
    refine go_cpk (fun hy5 => ?_)
    refine go1 (M := mX4_copy) (pc' := 30) (r_copy (M := mX4_copy) (tb4 218 (by decide +kernel) rfl) hT3 hT4 hy5 (Nat.le_of_ble_eq_true rfl) (by omega) dX4_copy_27) ?_
    refine go_blx (fun x6 => ?_)
    refine go1 (M := mX4_copy) (pc' := 31) (r_aload_n (M := mX4_copy) (i := 1) rfl dX4_copy_30) ?_
    refine go1 (M := mX4_copy) (pc' := 34) (r_getR (M := mX4_copy) fl_4_15 h1 rfl (wt_some hW h1 (by decide) (by decide) rfl) dX4_copy_31) ?_
    have hT7 : TY S (pr S a1 1) 14 := wt hW h1 (by decide) (by decide) rfl (by decide)
    refine go1 (M := mX4_copy) (pc' := 35) (r_iconst (M := mX4_copy) (v := 0) (by decide) dX4_copy_34) ?_
    refine go1 (M := mX4_copy) (pc' := 36) (r_aload_n (M := mX4_copy) (i := 0) rfl dX4_copy_35) ?_
    refine go1 (M := mX4_copy) (pc' := 39) (r_getR (M := mX4_copy) fl_4_15 h0 rfl (wt_some hW h0 (by decide) (by decide) rfl) dX4_copy_36) ?_
    have hT8 : TY S (pr S a0 1) 14 := wt hW h0 (by decide) (by decide) rfl (by decide)
    refine go1 (M := mX4_copy) (pc' := 40) (r_iconst (M := mX4_copy) (v := 0) (by decide) dX4_copy_39) ?_
    refine go1 (M := mX4_copy) (pc' := 41) (r_iload_n (M := mX4_copy) (i := 2) rfl dX4_copy_40) ?_
    refine go_cpk (fun hy9 => ?_)
    refine go1 (M := mX4_copy) (pc' := 44) (r_copy (M := mX4_copy) (tb4 218 (by decide +kernel) rfl) hT7 hT8 hy9 (Nat.le_of_ble_eq_true rfl) (by omega) dX4_copy_41) ?_
    refine go_blx (fun x10 => ?_)
    refine go1 (M := mX4_copy) (pc' := 45) (r_aload_n (M := mX4_copy) (i := 1) rfl dX4_copy_44) ?_
    refine go1 (M := mX4_copy) (pc' := 48) (r_getR (M := mX4_copy) fl_4_18 h1 rfl (wt_some hW h1 (by decide) (by decide) rfl) dX4_copy_45) ?_
    have hT11 : TY S (pr S a1 2) 14 := wt hW h1 (by decide) (by decide) rfl (by decide)
    refine go1 (M := mX4_copy) (pc' := 49) (r_iconst (M := mX4_copy) (v := 0) (by decide) dX4_copy_48) ?_
    refine go1 (M := mX4_copy) (pc' := 50) (r_aload_n (M := mX4_copy) (i := 0) rfl dX4_copy_49) ?_
    refine go1 (M := mX4_copy) (pc' := 53) (r_getR (M := mX4_copy) fl_4_18 h0 rfl (wt_some hW h0 (by decide) (by decide) rfl) dX4_copy_50) ?_
    have hT12 : TY S (pr S a0 2) 14 := wt hW h0 (by decide) (by decide) rfl (by decide)
    refine go1 (M := mX4_copy) (pc' := 54) (r_iconst (M := mX4_copy) (v := 0) (by decide) dX4_copy_53) ?_
    refine go1 (M := mX4_copy) (pc' := 55) (r_iload_n (M := mX4_copy) (i := 2) rfl dX4_copy_54) ?_
    refine go_cpk (fun hy13 => ?_)
    refine go1 (M := mX4_copy) (pc' := 58) (r_copy (M := mX4_copy) (tb4 218 (by decide +kernel) rfl) hT11 hT12 hy13 (Nat.le_of_ble_eq_true rfl) (by omega) dX4_copy_55) ?_
    refine go_blx (fun x14 => ?_)
    refine go1 (M := mX4_copy) (pc' := 59) (r_aload_n (M := mX4_copy) (i := 1) rfl dX4_copy_58) ?_
    refine go1 (M := mX4_copy) (pc' := 62) (r_getR (M := mX4_copy) fl_4_21 h1 rfl (wt_some hW h1 (by decide) (by decide) rfl) dX4_copy_59) ?_
    have hT15 : TY S (pr S a1 3) 14 := wt hW h1 (by decide) (by decide) rfl (by decide)
    refine go1 (M := mX4_copy) (pc' := 63) (r_iconst (M := mX4_copy) (v := 0) (by decide) dX4_copy_62) ?_
    refine go1 (M := mX4_copy) (pc' := 64) (r_aload_n (M := mX4_copy) (i := 0) rfl dX4_copy_63) ?_
    refine go1 (M := mX4_copy) (pc' := 67) (r_getR (M := mX4_copy) fl_4_21 h0 rfl (wt_some hW h0 (by decide) (by decide) rfl) dX4_copy_64) ?_
    have hT16 : TY S (pr S a0 3) 14 := wt hW h0 (by decide) (by decide) rfl (by decide)
    refine go1 (M := mX4_copy) (pc' := 68) (r_iconst (M := mX4_copy) (v := 0) (by decide) dX4_copy_67) ?_
    refine go1 (M := mX4_copy) (pc' := 69) (r_iload_n (M := mX4_copy) (i := 2) rfl dX4_copy_68) ?_
    refine go_cpk (fun hy17 => ?_)
    refine go1 (M := mX4_copy) (pc' := 72) (r_copy (M := mX4_copy) (tb4 218 (by decide +kernel) rfl) hT15 hT16 hy17 (Nat.le_of_ble_eq_true rfl) (by omega) dX4_copy_69) ?_
    refine go_blx (fun x18 => ?_)
    refine go1 (M := mX4_copy) (pc' := 73) (r_aload_n (M := mX4_copy) (i := 1) rfl dX4_copy_72) ?_
    refine go1 (M := mX4_copy) (pc' := 76) (r_getR (M := mX4_copy) fl_4_24 h1 rfl (wt_some hW h1 (by decide) (by decide) rfl) dX4_copy_73) ?_
    have hT19 : TY S (pr S a1 4) 14 := wt hW h1 (by decide) (by decide) rfl (by decide)
    refine go1 (M := mX4_copy) (pc' := 77) (r_iconst (M := mX4_copy) (v := 0) (by decide) dX4_copy_76) ?_
    refine go1 (M := mX4_copy) (pc' := 78) (r_aload_n (M := mX4_copy) (i := 0) rfl dX4_copy_77) ?_
    refine go1 (M := mX4_copy) (pc' := 81) (r_getR (M := mX4_copy) fl_4_24 h0 rfl (wt_some hW h0 (by decide) (by decide) rfl) dX4_copy_78) ?_
    have hT20 : TY S (pr S a0 4) 14 := wt hW h0 (by decide) (by decide) rfl (by decide)
    refine go1 (M := mX4_copy) (pc' := 82) (r_iconst (M := mX4_copy) (v := 0) (by decide) dX4_copy_81) ?_
    refine go1 (M := mX4_copy) (pc' := 83) (r_iload_n (M := mX4_copy) (i := 2) rfl dX4_copy_82) ?_
    refine go_cpk (fun hy21 => ?_)
    refine go1 (M := mX4_copy) (pc' := 86) (r_copy (M := mX4_copy) (tb4 218 (by decide +kernel) rfl) hT19 hT20 hy21 (Nat.le_of_ble_eq_true rfl) (by omega) dX4_copy_83) ?_
    refine go_blx (fun x22 => ?_)
    refine go1 (M := mX4_copy) (pc' := 87) (r_aload_n (M := mX4_copy) (i := 0) rfl dX4_copy_86) ?_
    refine go1 (M := mX4_copy) (pc' := 88) (r_iload_n (M := mX4_copy) (i := 2) rfl dX4_copy_87) ?_
    refine go1 (M := mX4_copy) (pc' := 91) (r_putI (M := mX4_copy) fl_4_27 h0 rfl rfl dX4_copy_88) ?_
    refine go_blx (fun x23 => ?_)
    exact go_vret (M := mX4_copy) rfl rfl dX4_copy_91
  · exact go_vret (M := mX4_copy) rfl rfl dX4_copy_15
def f_X8_copy (N : Nat) (S : SH) (a0 : Nat) (a1 : Nat) (x : DY) : Option DY :=
  cpk S (pr S a1 0) 0 (pr S a0 0) 0 8 (bl (cpX S (pr S a1 0) 0 (pr S a0 0) 0 8 x) (fun x4 => cpk S (pr S a1 1) 0 (pr S a0 1) 0 8 (bl (cpX S (pr S a1 1) 0 (pr S a0 1) 0 8 x4) (fun x8 => cpk S (pr S a1 2) 0 (pr S a0 2) 0 8 (bl (cpX S (pr S a1 2) 0 (pr S a0 2) 0 8 x8) (fun x12 => cpk S (pr S a1 3) 0 (pr S a0 3) 0 8 (bl (cpX S (pr S a1 3) 0 (pr S a0 3) 0 8 x12) (fun x16 => cpk S (pr S a1 4) 0 (pr S a0 4) 0 8 (bl (cpX S (pr S a1 4) 0 (pr S a0 4) 0 8 x16) (fun x20 => cpk S (pr S a1 5) 0 (pr S a0 5) 0 8 (bl (cpX S (pr S a1 5) 0 (pr S a0 5) 0 8 x20) (fun x24 => cpk S (pr S a1 6) 0 (pr S a0 6) 0 8 (bl (cpX S (pr S a1 6) 0 (pr S a0 6) 0 8 x24) (fun x28 => bl (U1 x28 a0 7 (x28.1 a1 7)) (fun x29 => some x29)))))))))))))))
set_option maxHeartbeats 1000000 in
theorem t_X8_copy {N d : Nat} {S : SH} (hW : WT S) {x : DY} {a0 : Nat} {a1 : Nat} (hd : 2 ≤ d) (h0 : TY S a0 8) (h1 : TY S a1 8) : CT mX8_copy d S [.ref a0, .ref a1] x wSV (f_X8_copy N S a0 a1 x) := by
  refine CT.of [some (.ref a0), some (.ref a1)] rfl (Nat.le_of_ble_eq_true rfl) (by decide +kernel) ?_
  unfold f_X8_copy
  refine go1 (M := mX8_copy) (pc' := 1) (r_aload_n (M := mX8_copy) (i := 1) rfl dX8_copy_0) ?_
  refine go1 (M := mX8_copy) (pc' := 4) (r_getR (M := mX8_copy) fl_8_9 h1 rfl (wt_some hW h1 (by decide) (by decide) rfl) dX8_copy_1) ?_
  have hT1 : TY S (pr S a1 0) 14 := wt hW h1 (by decide) (by decide) rfl (by decide)
  refine go1 (M := mX8_copy) (pc' := 5) (r_iconst (M := mX8_copy) (v := 0) (by decide) dX8_copy_4) ?_
  refine go1 (M := mX8_copy) (pc' := 6) (r_aload_n (M := mX8_copy) (i := 0) rfl dX8_copy_5) ?_
  refine go1 (M := mX8_copy) (pc' := 9) (r_getR (M := mX8_copy) fl_8_9 h0 rfl (wt_some hW h0 (by decide) (by decide) rfl) dX8_copy_6) ?_
  have hT2 : TY S (pr S a0 0) 14 := wt hW h0 (by decide) (by decide) rfl (by decide)
  refine go1 (M := mX8_copy) (pc' := 10) (r_iconst (M := mX8_copy) (v := 0) (by decide) dX8_copy_9) ?_
  refine go1 (M := mX8_copy) (pc' := 12) (r_bipush (M := mX8_copy) (v := 8) (by decide) dX8_copy_10) ?_
  refine go_cpk (fun hy3 => ?_)
  refine go1 (M := mX8_copy) (pc' := 15) (r_copy (M := mX8_copy) (tb4 223 (by decide +kernel) rfl) hT1 hT2 hy3 (Nat.le_of_ble_eq_true rfl) (by omega) dX8_copy_12) ?_
  refine go_blx (fun x4 => ?_)
  refine go1 (M := mX8_copy) (pc' := 16) (r_aload_n (M := mX8_copy) (i := 1) rfl dX8_copy_15) ?_
  refine go1 (M := mX8_copy) (pc' := 19) (r_getR (M := mX8_copy) fl_8_15 h1 rfl (wt_some hW h1 (by decide) (by decide) rfl) dX8_copy_16) ?_
  have hT5 : TY S (pr S a1 1) 14 := wt hW h1 (by decide) (by decide) rfl (by decide)
  refine go1 (M := mX8_copy) (pc' := 20) (r_iconst (M := mX8_copy) (v := 0) (by decide) dX8_copy_19) ?_
  refine go1 (M := mX8_copy) (pc' := 21) (r_aload_n (M := mX8_copy) (i := 0) rfl dX8_copy_20) ?_
  refine go1 (M := mX8_copy) (pc' := 24) (r_getR (M := mX8_copy) fl_8_15 h0 rfl (wt_some hW h0 (by decide) (by decide) rfl) dX8_copy_21) ?_
  have hT6 : TY S (pr S a0 1) 14 := wt hW h0 (by decide) (by decide) rfl (by decide)
  refine go1 (M := mX8_copy) (pc' := 25) (r_iconst (M := mX8_copy) (v := 0) (by decide) dX8_copy_24) ?_
  refine go1 (M := mX8_copy) (pc' := 27) (r_bipush (M := mX8_copy) (v := 8) (by decide) dX8_copy_25) ?_
  refine go_cpk (fun hy7 => ?_)
  refine go1 (M := mX8_copy) (pc' := 30) (r_copy (M := mX8_copy) (tb4 223 (by decide +kernel) rfl) hT5 hT6 hy7 (Nat.le_of_ble_eq_true rfl) (by omega) dX8_copy_27) ?_
  refine go_blx (fun x8 => ?_)
  refine go1 (M := mX8_copy) (pc' := 31) (r_aload_n (M := mX8_copy) (i := 1) rfl dX8_copy_30) ?_
  refine go1 (M := mX8_copy) (pc' := 34) (r_getR (M := mX8_copy) fl_8_18 h1 rfl (wt_some hW h1 (by decide) (by decide) rfl) dX8_copy_31) ?_
  have hT9 : TY S (pr S a1 2) 14 := wt hW h1 (by decide) (by decide) rfl (by decide)
  refine go1 (M := mX8_copy) (pc' := 35) (r_iconst (M := mX8_copy) (v := 0) (by decide) dX8_copy_34) ?_
  refine go1 (M := mX8_copy) (pc' := 36) (r_aload_n (M := mX8_copy) (i := 0) rfl dX8_copy_35) ?_
  refine go1 (M := mX8_copy) (pc' := 39) (r_getR (M := mX8_copy) fl_8_18 h0 rfl (wt_some hW h0 (by decide) (by decide) rfl) dX8_copy_36) ?_
  have hT10 : TY S (pr S a0 2) 14 := wt hW h0 (by decide) (by decide) rfl (by decide)
  refine go1 (M := mX8_copy) (pc' := 40) (r_iconst (M := mX8_copy) (v := 0) (by decide) dX8_copy_39) ?_
  refine go1 (M := mX8_copy) (pc' := 42) (r_bipush (M := mX8_copy) (v := 8) (by decide) dX8_copy_40) ?_
  refine go_cpk (fun hy11 => ?_)
  refine go1 (M := mX8_copy) (pc' := 45) (r_copy (M := mX8_copy) (tb4 223 (by decide +kernel) rfl) hT9 hT10 hy11 (Nat.le_of_ble_eq_true rfl) (by omega) dX8_copy_42) ?_
  refine go_blx (fun x12 => ?_)
  refine go1 (M := mX8_copy) (pc' := 46) (r_aload_n (M := mX8_copy) (i := 1) rfl dX8_copy_45) ?_
  refine go1 (M := mX8_copy) (pc' := 49) (r_getR (M := mX8_copy) fl_8_21 h1 rfl (wt_some hW h1 (by decide) (by decide) rfl) dX8_copy_46) ?_
  have hT13 : TY S (pr S a1 3) 14 := wt hW h1 (by decide) (by decide) rfl (by decide)
  refine go1 (M := mX8_copy) (pc' := 50) (r_iconst (M := mX8_copy) (v := 0) (by decide) dX8_copy_49) ?_
  refine go1 (M := mX8_copy) (pc' := 51) (r_aload_n (M := mX8_copy) (i := 0) rfl dX8_copy_50) ?_
  refine go1 (M := mX8_copy) (pc' := 54) (r_getR (M := mX8_copy) fl_8_21 h0 rfl (wt_some hW h0 (by decide) (by decide) rfl) dX8_copy_51) ?_
  have hT14 : TY S (pr S a0 3) 14 := wt hW h0 (by decide) (by decide) rfl (by decide)
  refine go1 (M := mX8_copy) (pc' := 55) (r_iconst (M := mX8_copy) (v := 0) (by decide) dX8_copy_54) ?_
  refine go1 (M := mX8_copy) (pc' := 57) (r_bipush (M := mX8_copy) (v := 8) (by decide) dX8_copy_55) ?_
  refine go_cpk (fun hy15 => ?_)
  refine go1 (M := mX8_copy) (pc' := 60) (r_copy (M := mX8_copy) (tb4 223 (by decide +kernel) rfl) hT13 hT14 hy15 (Nat.le_of_ble_eq_true rfl) (by omega) dX8_copy_57) ?_
  refine go_blx (fun x16 => ?_)
  refine go1 (M := mX8_copy) (pc' := 61) (r_aload_n (M := mX8_copy) (i := 1) rfl dX8_copy_60) ?_
  refine go1 (M := mX8_copy) (pc' := 64) (r_getR (M := mX8_copy) fl_8_24 h1 rfl (wt_some hW h1 (by decide) (by decide) rfl) dX8_copy_61) ?_
  have hT17 : TY S (pr S a1 4) 14 := wt hW h1 (by decide) (by decide) rfl (by decide)
  refine go1 (M := mX8_copy) (pc' := 65) (r_iconst (M := mX8_copy) (v := 0) (by decide) dX8_copy_64) ?_
  refine go1 (M := mX8_copy) (pc' := 66) (r_aload_n (M := mX8_copy) (i := 0) rfl dX8_copy_65) ?_
  refine go1 (M := mX8_copy) (pc' := 69) (r_getR (M := mX8_copy) fl_8_24 h0 rfl (wt_some hW h0 (by decide) (by decide) rfl) dX8_copy_66) ?_
  have hT18 : TY S (pr S a0 4) 14 := wt hW h0 (by decide) (by decide) rfl (by decide)
  refine go1 (M := mX8_copy) (pc' := 70) (r_iconst (M := mX8_copy) (v := 0) (by decide) dX8_copy_69) ?_
  refine go1 (M := mX8_copy) (pc' := 72) (r_bipush (M := mX8_copy) (v := 8) (by decide) dX8_copy_70) ?_
  refine go_cpk (fun hy19 => ?_)
  refine go1 (M := mX8_copy) (pc' := 75) (r_copy (M := mX8_copy) (tb4 223 (by decide +kernel) rfl) hT17 hT18 hy19 (Nat.le_of_ble_eq_true rfl) (by omega) dX8_copy_72) ?_
  refine go_blx (fun x20 => ?_)
  refine go1 (M := mX8_copy) (pc' := 76) (r_aload_n (M := mX8_copy) (i := 1) rfl dX8_copy_75) ?_
  refine go1 (M := mX8_copy) (pc' := 79) (r_getR (M := mX8_copy) fl_8_27 h1 rfl (wt_some hW h1 (by decide) (by decide) rfl) dX8_copy_76) ?_
  have hT21 : TY S (pr S a1 5) 14 := wt hW h1 (by decide) (by decide) rfl (by decide)
  refine go1 (M := mX8_copy) (pc' := 80) (r_iconst (M := mX8_copy) (v := 0) (by decide) dX8_copy_79) ?_
  refine go1 (M := mX8_copy) (pc' := 81) (r_aload_n (M := mX8_copy) (i := 0) rfl dX8_copy_80) ?_
  refine go1 (M := mX8_copy) (pc' := 84) (r_getR (M := mX8_copy) fl_8_27 h0 rfl (wt_some hW h0 (by decide) (by decide) rfl) dX8_copy_81) ?_
  have hT22 : TY S (pr S a0 5) 14 := wt hW h0 (by decide) (by decide) rfl (by decide)
  refine go1 (M := mX8_copy) (pc' := 85) (r_iconst (M := mX8_copy) (v := 0) (by decide) dX8_copy_84) ?_
  refine go1 (M := mX8_copy) (pc' := 87) (r_bipush (M := mX8_copy) (v := 8) (by decide) dX8_copy_85) ?_
  refine go_cpk (fun hy23 => ?_)
  refine go1 (M := mX8_copy) (pc' := 90) (r_copy (M := mX8_copy) (tb4 223 (by decide +kernel) rfl) hT21 hT22 hy23 (Nat.le_of_ble_eq_true rfl) (by omega) dX8_copy_87) ?_
  refine go_blx (fun x24 => ?_)
  refine go1 (M := mX8_copy) (pc' := 91) (r_aload_n (M := mX8_copy) (i := 1) rfl dX8_copy_90) ?_
  refine go1 (M := mX8_copy) (pc' := 94) (r_getR (M := mX8_copy) fl_8_30 h1 rfl (wt_some hW h1 (by decide) (by decide) rfl) dX8_copy_91) ?_
  have hT25 : TY S (pr S a1 6) 14 := wt hW h1 (by decide) (by decide) rfl (by decide)
  refine go1 (M := mX8_copy) (pc' := 95) (r_iconst (M := mX8_copy) (v := 0) (by decide) dX8_copy_94) ?_
  refine go1 (M := mX8_copy) (pc' := 96) (r_aload_n (M := mX8_copy) (i := 0) rfl dX8_copy_95) ?_
  refine go1 (M := mX8_copy) (pc' := 99) (r_getR (M := mX8_copy) fl_8_30 h0 rfl (wt_some hW h0 (by decide) (by decide) rfl) dX8_copy_96) ?_
  have hT26 : TY S (pr S a0 6) 14 := wt hW h0 (by decide) (by decide) rfl (by decide)
  refine go1 (M := mX8_copy) (pc' := 100) (r_iconst (M := mX8_copy) (v := 0) (by decide) dX8_copy_99) ?_
  refine go1 (M := mX8_copy) (pc' := 102) (r_bipush (M := mX8_copy) (v := 8) (by decide) dX8_copy_100) ?_
  refine go_cpk (fun hy27 => ?_)
  refine go1 (M := mX8_copy) (pc' := 105) (r_copy (M := mX8_copy) (tb4 223 (by decide +kernel) rfl) hT25 hT26 hy27 (Nat.le_of_ble_eq_true rfl) (by omega) dX8_copy_102) ?_
  refine go_blx (fun x28 => ?_)
  refine go1 (M := mX8_copy) (pc' := 106) (r_aload_n (M := mX8_copy) (i := 0) rfl dX8_copy_105) ?_
  refine go1 (M := mX8_copy) (pc' := 107) (r_aload_n (M := mX8_copy) (i := 1) rfl dX8_copy_106) ?_
  refine go1 (M := mX8_copy) (pc' := 110) (r_getI (M := mX8_copy) fl_8_33 h1 rfl dX8_copy_107) ?_
  refine go1 (M := mX8_copy) (pc' := 113) (r_putI (M := mX8_copy) fl_8_33 h0 rfl rfl dX8_copy_110) ?_
  refine go_blx (fun x29 => ?_)
  exact go_vret (M := mX8_copy) rfl rfl dX8_copy_113
def j_X2_copy_31 (N : Nat) (S : SH) (p0 : Nat) (p1 : Nat) (x : DY) : Option DY :=
  cpk S (pr S p1 1) 0 (pr S p0 1) 0 16 (bl (cpX S (pr S p1 1) 0 (pr S p0 1) 0 16 x) (fun x7 => bl (U1 x7 p0 2 (x7.1 p1 2)) (fun x8 => some x8)))
set_option maxHeartbeats 1000000 in
theorem j_X2_copy_31_t {N d : Nat} {S : SH} (hW : WT S) (hd : 2 ≤ d) (p0 : Nat) (p1 : Nat) (x : DY) (g0 : TY S p0 2) (g1 : TY S p1 2) : Go mX2_copy d S wSV 31 [some (.ref p0), some (.ref p1)] [] x (j_X2_copy_31 N S p0 p1 x) := by
  unfold j_X2_copy_31
  refine go1 (M := mX2_copy) (pc' := 32) (r_aload_n (M := mX2_copy) (i := 1) rfl dX2_copy_31) ?_
  refine go1 (M := mX2_copy) (pc' := 35) (r_getR (M := mX2_copy) fl_2_9 g1 rfl (wt_some hW g1 (by decide) (by decide) rfl) dX2_copy_32) ?_
  have hT4 : TY S (pr S p1 1) 14 := wt hW g1 (by decide) (by decide) rfl (by decide)
  refine go1 (M := mX2_copy) (pc' := 36) (r_iconst (M := mX2_copy) (v := 0) (by decide) dX2_copy_35) ?_
  refine go1 (M := mX2_copy) (pc' := 37) (r_aload_n (M := mX2_copy) (i := 0) rfl dX2_copy_36) ?_
  refine go1 (M := mX2_copy) (pc' := 40) (r_getR (M := mX2_copy) fl_2_9 g0 rfl (wt_some hW g0 (by decide) (by decide) rfl) dX2_copy_37) ?_
  have hT5 : TY S (pr S p0 1) 14 := wt hW g0 (by decide) (by decide) rfl (by decide)
  refine go1 (M := mX2_copy) (pc' := 41) (r_iconst (M := mX2_copy) (v := 0) (by decide) dX2_copy_40) ?_
  refine go1 (M := mX2_copy) (pc' := 43) (r_bipush (M := mX2_copy) (v := 16) (by decide) dX2_copy_41) ?_
  refine go_cpk (fun hy6 => ?_)
  refine go1 (M := mX2_copy) (pc' := 46) (r_copy (M := mX2_copy) (tb4 125 (by decide +kernel) rfl) hT4 hT5 hy6 (Nat.le_of_ble_eq_true rfl) (by omega) dX2_copy_43) ?_
  refine go_blx (fun x7 => ?_)
  refine go1 (M := mX2_copy) (pc' := 47) (r_aload_n (M := mX2_copy) (i := 0) rfl dX2_copy_46) ?_
  refine go1 (M := mX2_copy) (pc' := 48) (r_aload_n (M := mX2_copy) (i := 1) rfl dX2_copy_47) ?_
  refine go1 (M := mX2_copy) (pc' := 51) (r_getI (M := mX2_copy) fl_2_15 g1 rfl dX2_copy_48) ?_
  refine go1 (M := mX2_copy) (pc' := 54) (r_putI (M := mX2_copy) fl_2_15 g0 rfl rfl dX2_copy_51) ?_
  refine go_blx (fun x8 => ?_)
  exact go_vret (M := mX2_copy) rfl rfl dX2_copy_54
def f_X2_copy (N : Nat) (S : SH) (a0 : Nat) (a1 : Nat) (x : DY) : Option DY :=
  (if (nI (S.2.2.1 (pr S a1 0))) = (nI (S.2.2.1 (pr S a0 0))) then cpk S (pr S a1 0) 0 (pr S a0 0) 0 (nI (S.2.2.1 (pr S a0 0))) (bl (cpX S (pr S a1 0) 0 (pr S a0 0) 0 (nI (S.2.2.1 (pr S a0 0))) x) (fun x10 => j_X2_copy_31 N S a0 a1 x10)) else j_X2_copy_31 N S a0 a1 x)
set_option maxHeartbeats 1000000 in
theorem t_X2_copy {N d : Nat} {S : SH} (hW : WT S) {x : DY} {a0 : Nat} {a1 : Nat} (hd : 2 ≤ d) (h0 : TY S a0 2) (h1 : TY S a1 2) : CT mX2_copy d S [.ref a0, .ref a1] x wSV (f_X2_copy N S a0 a1 x) := by
  refine CT.of [some (.ref a0), some (.ref a1)] rfl (Nat.le_of_ble_eq_true rfl) (by decide +kernel) ?_
  unfold f_X2_copy
  refine go1 (M := mX2_copy) (pc' := 1) (r_aload_n (M := mX2_copy) (i := 1) rfl dX2_copy_0) ?_
  refine go1 (M := mX2_copy) (pc' := 4) (r_getR (M := mX2_copy) fl_2_25 h1 rfl (wt_some hW h1 (by decide) (by decide) rfl) dX2_copy_1) ?_
  have hT1 : TY S (pr S a1 0) 14 := wt hW h1 (by decide) (by decide) rfl (by decide)
  refine go1 (M := mX2_copy) (pc' := 5) (r_alen (M := mX2_copy) hT1 (by decide) (by decide) dX2_copy_4) ?_
  refine go1 (M := mX2_copy) (pc' := 6) (r_aload_n (M := mX2_copy) (i := 0) rfl dX2_copy_5) ?_
  refine go1 (M := mX2_copy) (pc' := 9) (r_getR (M := mX2_copy) fl_2_25 h0 rfl (wt_some hW h0 (by decide) (by decide) rfl) dX2_copy_6) ?_
  have hT2 : TY S (pr S a0 0) 14 := wt hW h0 (by decide) (by decide) rfl (by decide)
  refine go1 (M := mX2_copy) (pc' := 10) (r_alen (M := mX2_copy) hT2 (by decide) (by decide) dX2_copy_9) ?_
  refine go_br (M := mX2_copy) (pt := 13) (pf := 31) (fun kt kf => r_icmp_ne (M := mX2_copy) dX2_copy_10 (by decide) kf kt) (fun hc3 => ?_) (fun hc3 => ?_)
  · refine go1 (M := mX2_copy) (pc' := 14) (r_aload_n (M := mX2_copy) (i := 1) rfl dX2_copy_13) ?_
    refine go1 (M := mX2_copy) (pc' := 17) (r_getR (M := mX2_copy) fl_2_25 h1 rfl (wt_some hW h1 (by decide) (by decide) rfl) dX2_copy_14) ?_
    refine go1 (M := mX2_copy) (pc' := 18) (r_iconst (M := mX2_copy) (v := 0) (by decide) dX2_copy_17) ?_
    refine go1 (M := mX2_copy) (pc' := 19) (r_aload_n (M := mX2_copy) (i := 0) rfl dX2_copy_18) ?_
    refine go1 (M := mX2_copy) (pc' := 22) (r_getR (M := mX2_copy) fl_2_25 h0 rfl (wt_some hW h0 (by decide) (by decide) rfl) dX2_copy_19) ?_
    refine go1 (M := mX2_copy) (pc' := 23) (r_iconst (M := mX2_copy) (v := 0) (by decide) dX2_copy_22) ?_
    refine go1 (M := mX2_copy) (pc' := 24) (r_aload_n (M := mX2_copy) (i := 0) rfl dX2_copy_23) ?_
    refine go1 (M := mX2_copy) (pc' := 27) (r_getR (M := mX2_copy) fl_2_25 h0 rfl (wt_some hW h0 (by decide) (by decide) rfl) dX2_copy_24) ?_
    refine go1 (M := mX2_copy) (pc' := 28) (r_alen (M := mX2_copy) hT2 (by decide) (by decide) dX2_copy_27) ?_
    refine go_cpk (fun hy9 => ?_)
    refine go1 (M := mX2_copy) (pc' := 31) (r_copy (M := mX2_copy) (tb4 125 (by decide +kernel) rfl) hT1 hT2 hy9 (Nat.le_of_ble_eq_true rfl) (by omega) dX2_copy_28) ?_
    refine go_blx (fun x10 => ?_)
    exact j_X2_copy_31_t (N := N) hW (by omega) a0 a1 x10 h0 h1
  · exact j_X2_copy_31_t (N := N) hW (by omega) a0 a1 x h0 h1
def j_X6_copy_31 (N : Nat) (S : SH) (p0 : Nat) (p1 : Nat) (x : DY) : Option DY :=
  Option.bind (f_X4_copy N S (pr S p0 3) (pr S p1 3) x) (fun r6 => Option.bind (f_X8_copy N S (pr S p0 4) (pr S p1 4) r6) (fun r9 => Option.bind (f_X2_copy N S (pr S p0 5) (pr S p1 5) r9) (fun r12 => bl (U1 r12 p0 7 (r12.1 p1 7)) (fun x13 => bl (U1 x13 p0 8 (x13.1 p1 8)) (fun x14 => bl (U1 x14 p0 9 (x14.1 p1 9)) (fun x15 => bl (U2 x15 p0 10 (x15.2 p1 10)) (fun x16 => some x16)))))))
set_option maxHeartbeats 1000000 in
theorem j_X6_copy_31_t {N d : Nat} {S : SH} (hW : WT S) (hd : 3 ≤ d) (p0 : Nat) (p1 : Nat) (x : DY) (g0 : TY S p0 6) (g1 : TY S p1 6) : Go mX6_copy d S wSV 31 [some (.ref p0), some (.ref p1)] [] x (j_X6_copy_31 N S p0 p1 x) := by
  unfold j_X6_copy_31
  refine go1 (M := mX6_copy) (pc' := 32) (r_aload_n (M := mX6_copy) (i := 0) rfl dX6_copy_31) ?_
  refine go1 (M := mX6_copy) (pc' := 35) (r_getR (M := mX6_copy) fl_6_12 g0 rfl (wt_some hW g0 (by decide) (by decide) rfl) dX6_copy_32) ?_
  have hT4 : TY S (pr S p0 3) 4 := wt hW g0 (by decide) (by decide) rfl (by decide)
  refine go1 (M := mX6_copy) (pc' := 36) (r_aload_n (M := mX6_copy) (i := 1) rfl dX6_copy_35) ?_
  refine go1 (M := mX6_copy) (pc' := 39) (r_getR (M := mX6_copy) fl_6_12 g1 rfl (wt_some hW g1 (by decide) (by decide) rfl) dX6_copy_36) ?_
  have hT5 : TY S (pr S p1 3) 4 := wt hW g1 (by decide) (by decide) rfl (by decide)
  refine go_V_SV (M := mX6_copy) (pc' := 42) (st := []) (As := [.ref (pr S p1 3)]) rfl ln_6_245 lb_X4_copy (t_X4_copy (N := N) hW (by omega) hT4 hT5) (by omega) hT4 (Nat.le_of_ble_eq_true rfl) rfl dX6_copy_39 (fun r6 => ?_)
  refine go1 (M := mX6_copy) (pc' := 43) (r_aload_n (M := mX6_copy) (i := 0) rfl dX6_copy_42) ?_
  refine go1 (M := mX6_copy) (pc' := 46) (r_getR (M := mX6_copy) fl_6_21 g0 rfl (wt_some hW g0 (by decide) (by decide) rfl) dX6_copy_43) ?_
  have hT7 : TY S (pr S p0 4) 8 := wt hW g0 (by decide) (by decide) rfl (by decide)
  refine go1 (M := mX6_copy) (pc' := 47) (r_aload_n (M := mX6_copy) (i := 1) rfl dX6_copy_46) ?_
  refine go1 (M := mX6_copy) (pc' := 50) (r_getR (M := mX6_copy) fl_6_21 g1 rfl (wt_some hW g1 (by decide) (by decide) rfl) dX6_copy_47) ?_
  have hT8 : TY S (pr S p1 4) 8 := wt hW g1 (by decide) (by decide) rfl (by decide)
  refine go_V_SV (M := mX6_copy) (pc' := 53) (st := []) (As := [.ref (pr S p1 4)]) rfl ln_6_249 lb_X8_copy (t_X8_copy (N := N) hW (by omega) hT7 hT8) (by omega) hT7 (Nat.le_of_ble_eq_true rfl) rfl dX6_copy_50 (fun r9 => ?_)
  refine go1 (M := mX6_copy) (pc' := 54) (r_aload_n (M := mX6_copy) (i := 0) rfl dX6_copy_53) ?_
  refine go1 (M := mX6_copy) (pc' := 57) (r_getR (M := mX6_copy) fl_6_73 g0 rfl (wt_some hW g0 (by decide) (by decide) rfl) dX6_copy_54) ?_
  have hT10 : TY S (pr S p0 5) 2 := wt hW g0 (by decide) (by decide) rfl (by decide)
  refine go1 (M := mX6_copy) (pc' := 58) (r_aload_n (M := mX6_copy) (i := 1) rfl dX6_copy_57) ?_
  refine go1 (M := mX6_copy) (pc' := 61) (r_getR (M := mX6_copy) fl_6_73 g1 rfl (wt_some hW g1 (by decide) (by decide) rfl) dX6_copy_58) ?_
  have hT11 : TY S (pr S p1 5) 2 := wt hW g1 (by decide) (by decide) rfl (by decide)
  refine go_V_SV (M := mX6_copy) (pc' := 64) (st := []) (As := [.ref (pr S p1 5)]) rfl ln_6_252 lb_X2_copy (t_X2_copy (N := N) hW (by omega) hT10 hT11) (by omega) hT10 (Nat.le_of_ble_eq_true rfl) rfl dX6_copy_61 (fun r12 => ?_)
  refine go1 (M := mX6_copy) (pc' := 65) (r_aload_n (M := mX6_copy) (i := 0) rfl dX6_copy_64) ?_
  refine go1 (M := mX6_copy) (pc' := 66) (r_aload_n (M := mX6_copy) (i := 1) rfl dX6_copy_65) ?_
  refine go1 (M := mX6_copy) (pc' := 69) (r_getI (M := mX6_copy) fl_6_31 g1 rfl dX6_copy_66) ?_
  refine go1 (M := mX6_copy) (pc' := 72) (r_putI (M := mX6_copy) fl_6_31 g0 rfl rfl dX6_copy_69) ?_
  refine go_blx (fun x13 => ?_)
  refine go1 (M := mX6_copy) (pc' := 73) (r_aload_n (M := mX6_copy) (i := 0) rfl dX6_copy_72) ?_
  refine go1 (M := mX6_copy) (pc' := 74) (r_aload_n (M := mX6_copy) (i := 1) rfl dX6_copy_73) ?_
  refine go1 (M := mX6_copy) (pc' := 77) (r_getI (M := mX6_copy) fl_6_35 g1 rfl dX6_copy_74) ?_
  refine go1 (M := mX6_copy) (pc' := 80) (r_putI (M := mX6_copy) fl_6_35 g0 rfl rfl dX6_copy_77) ?_
  refine go_blx (fun x14 => ?_)
  refine go1 (M := mX6_copy) (pc' := 81) (r_aload_n (M := mX6_copy) (i := 0) rfl dX6_copy_80) ?_
  refine go1 (M := mX6_copy) (pc' := 82) (r_aload_n (M := mX6_copy) (i := 1) rfl dX6_copy_81) ?_
  refine go1 (M := mX6_copy) (pc' := 85) (r_getI (M := mX6_copy) fl_6_38 g1 rfl dX6_copy_82) ?_
  refine go1 (M := mX6_copy) (pc' := 88) (r_putI (M := mX6_copy) fl_6_38 g0 rfl rfl dX6_copy_85) ?_
  refine go_blx (fun x15 => ?_)
  refine go1 (M := mX6_copy) (pc' := 89) (r_aload_n (M := mX6_copy) (i := 0) rfl dX6_copy_88) ?_
  refine go1 (M := mX6_copy) (pc' := 90) (r_aload_n (M := mX6_copy) (i := 1) rfl dX6_copy_89) ?_
  refine go1 (M := mX6_copy) (pc' := 93) (r_getL (M := mX6_copy) fl_6_41 g1 rfl dX6_copy_90) ?_
  refine go1 (M := mX6_copy) (pc' := 96) (r_putL (M := mX6_copy) fl_6_41 g0 rfl rfl dX6_copy_93) ?_
  refine go_blx (fun x16 => ?_)
  exact go_vret (M := mX6_copy) rfl rfl dX6_copy_96
def f_X6_copy (N : Nat) (S : SH) (a0 : Nat) (a1 : Nat) (x : DY) : Option DY :=
  (if (nI (S.2.2.1 (pr S a1 2))) = (nI (S.2.2.1 (pr S a0 2))) then cpk S (pr S a1 2) 0 (pr S a0 2) 0 (nI (S.2.2.1 (pr S a0 2))) (bl (cpX S (pr S a1 2) 0 (pr S a0 2) 0 (nI (S.2.2.1 (pr S a0 2))) x) (fun x18 => j_X6_copy_31 N S a0 a1 x18)) else j_X6_copy_31 N S a0 a1 x)
set_option maxHeartbeats 1000000 in
theorem t_X6_copy {N d : Nat} {S : SH} (hW : WT S) {x : DY} {a0 : Nat} {a1 : Nat} (hd : 3 ≤ d) (h0 : TY S a0 6) (h1 : TY S a1 6) : CT mX6_copy d S [.ref a0, .ref a1] x wSV (f_X6_copy N S a0 a1 x) := by
  refine CT.of [some (.ref a0), some (.ref a1)] rfl (Nat.le_of_ble_eq_true rfl) (by decide +kernel) ?_
  unfold f_X6_copy
  refine go1 (M := mX6_copy) (pc' := 1) (r_aload_n (M := mX6_copy) (i := 1) rfl dX6_copy_0) ?_
  refine go1 (M := mX6_copy) (pc' := 4) (r_getR (M := mX6_copy) fl_6_59 h1 rfl (wt_some hW h1 (by decide) (by decide) rfl) dX6_copy_1) ?_
  have hT1 : TY S (pr S a1 2) 14 := wt hW h1 (by decide) (by decide) rfl (by decide)
  refine go1 (M := mX6_copy) (pc' := 5) (r_alen (M := mX6_copy) hT1 (by decide) (by decide) dX6_copy_4) ?_
  refine go1 (M := mX6_copy) (pc' := 6) (r_aload_n (M := mX6_copy) (i := 0) rfl dX6_copy_5) ?_
  refine go1 (M := mX6_copy) (pc' := 9) (r_getR (M := mX6_copy) fl_6_59 h0 rfl (wt_some hW h0 (by decide) (by decide) rfl) dX6_copy_6) ?_
  have hT2 : TY S (pr S a0 2) 14 := wt hW h0 (by decide) (by decide) rfl (by decide)
  refine go1 (M := mX6_copy) (pc' := 10) (r_alen (M := mX6_copy) hT2 (by decide) (by decide) dX6_copy_9) ?_
  refine go_br (M := mX6_copy) (pt := 13) (pf := 31) (fun kt kf => r_icmp_ne (M := mX6_copy) dX6_copy_10 (by decide) kf kt) (fun hc3 => ?_) (fun hc3 => ?_)
  · refine go1 (M := mX6_copy) (pc' := 14) (r_aload_n (M := mX6_copy) (i := 1) rfl dX6_copy_13) ?_
    refine go1 (M := mX6_copy) (pc' := 17) (r_getR (M := mX6_copy) fl_6_59 h1 rfl (wt_some hW h1 (by decide) (by decide) rfl) dX6_copy_14) ?_
    refine go1 (M := mX6_copy) (pc' := 18) (r_iconst (M := mX6_copy) (v := 0) (by decide) dX6_copy_17) ?_
    refine go1 (M := mX6_copy) (pc' := 19) (r_aload_n (M := mX6_copy) (i := 0) rfl dX6_copy_18) ?_
    refine go1 (M := mX6_copy) (pc' := 22) (r_getR (M := mX6_copy) fl_6_59 h0 rfl (wt_some hW h0 (by decide) (by decide) rfl) dX6_copy_19) ?_
    refine go1 (M := mX6_copy) (pc' := 23) (r_iconst (M := mX6_copy) (v := 0) (by decide) dX6_copy_22) ?_
    refine go1 (M := mX6_copy) (pc' := 24) (r_aload_n (M := mX6_copy) (i := 0) rfl dX6_copy_23) ?_
    refine go1 (M := mX6_copy) (pc' := 27) (r_getR (M := mX6_copy) fl_6_59 h0 rfl (wt_some hW h0 (by decide) (by decide) rfl) dX6_copy_24) ?_
    refine go1 (M := mX6_copy) (pc' := 28) (r_alen (M := mX6_copy) hT2 (by decide) (by decide) dX6_copy_27) ?_
    refine go_cpk (fun hy17 => ?_)
    refine go1 (M := mX6_copy) (pc' := 31) (r_copy (M := mX6_copy) (tb4 212 (by decide +kernel) rfl) hT1 hT2 hy17 (Nat.le_of_ble_eq_true rfl) (by omega) dX6_copy_28) ?_
    refine go_blx (fun x18 => ?_)
    exact j_X6_copy_31_t (N := N) hW (by omega) a0 a1 x18 h0 h1
  · exact j_X6_copy_31_t (N := N) hW (by omega) a0 a1 x h0 h1
def f_X11_isDish (N : Nat) (S : SH) (a0 : Int32) (x : DY) : Option Int32 :=
  (if a0 < 0 then some 0 else (if 6 ≤ a0 then some 0 else some 1))
set_option maxHeartbeats 1000000 in
theorem t_X11_isDish {N d : Nat} {S : SH} (hW : WT S) {x : DY} {a0 : Int32} (hd : 1 ≤ d) : CT mX11_isDish d S [.int a0] x (wPI x) (f_X11_isDish N S a0 x) := by
  refine CT.of [some (.int a0)] rfl (Nat.le_of_ble_eq_true rfl) (by decide +kernel) ?_
  unfold f_X11_isDish
  refine go1 (M := mX11_isDish) (pc' := 1) (r_iload_n (M := mX11_isDish) (i := 0) rfl dX11_isDish_0) ?_
  refine go_br (M := mX11_isDish) (pt := 14) (pf := 4) (fun kt kf => r_if_lt (M := mX11_isDish) dX11_isDish_1 (by decide) kt kf) (fun hc1 => ?_) (fun hc1 => ?_)
  · refine go1 (M := mX11_isDish) (pc' := 15) (r_iconst (M := mX11_isDish) (v := 0) (by decide) dX11_isDish_14) ?_
    exact go_zret (M := mX11_isDish) rfl rfl rfl dX11_isDish_15
  · refine go1 (M := mX11_isDish) (pc' := 5) (r_iload_n (M := mX11_isDish) (i := 0) rfl dX11_isDish_4) ?_
    refine go1 (M := mX11_isDish) (pc' := 7) (r_bipush (M := mX11_isDish) (v := 6) (by decide) dX11_isDish_5) ?_
    refine go_br (M := mX11_isDish) (pt := 14) (pf := 10) (fun kt kf => r_icmp_ge (M := mX11_isDish) dX11_isDish_7 (by decide) kt kf) (fun hc2 => ?_) (fun hc2 => ?_)
    · refine go1 (M := mX11_isDish) (pc' := 15) (r_iconst (M := mX11_isDish) (v := 0) (by decide) dX11_isDish_14) ?_
      exact go_zret (M := mX11_isDish) rfl rfl rfl dX11_isDish_15
    · refine go1 (M := mX11_isDish) (pc' := 11) (r_iconst (M := mX11_isDish) (v := 1) (by decide) dX11_isDish_10) ?_
      refine go1 (M := mX11_isDish) (pc' := 15) (r_goto (M := mX11_isDish) dX11_isDish_11 (by decide)) ?_
      exact go_zret (M := mX11_isDish) rfl rfl rfl dX11_isDish_15
def f_X4_become (N : Nat) (S : SH) (a0 : Nat) (a1 : Int32) (a2 : Int32) (a3 : Int32) (x : DY) : Option DY :=
  (if a1 < 0 then some x else (if (x.1 a0 5) ≤ a1 then some x else ck S (pr S a0 3) a1 (bl (U1 x (pr S a0 3) a1.toNatClampNeg a2) (fun x5 => ck S (pr S a0 4) a1 (bl (U1 x5 (pr S a0 4) a1.toNatClampNeg a3) (fun x8 => some x8))))))
set_option maxHeartbeats 1000000 in
theorem t_X4_become {N d : Nat} {S : SH} (hW : WT S) {x : DY} {a0 : Nat} {a1 : Int32} {a2 : Int32} {a3 : Int32} (hd : 1 ≤ d) (h0 : TY S a0 4) : CT mX4_become d S [.ref a0, .int a1, .int a2, .int a3] x wSV (f_X4_become N S a0 a1 a2 a3 x) := by
  refine CT.of [some (.ref a0), some (.int a1), some (.int a2), some (.int a3)] rfl (Nat.le_of_ble_eq_true rfl) (by decide +kernel) ?_
  unfold f_X4_become
  refine go1 (M := mX4_become) (pc' := 1) (r_iload_n (M := mX4_become) (i := 1) rfl dX4_become_0) ?_
  refine go_br (M := mX4_become) (pt := 26) (pf := 4) (fun kt kf => r_if_lt (M := mX4_become) dX4_become_1 (by decide) kt kf) (fun hc1 => ?_) (fun hc1 => ?_)
  · exact go_vret (M := mX4_become) rfl rfl dX4_become_26
  · refine go1 (M := mX4_become) (pc' := 5) (r_iload_n (M := mX4_become) (i := 1) rfl dX4_become_4) ?_
    refine go1 (M := mX4_become) (pc' := 6) (r_aload_n (M := mX4_become) (i := 0) rfl dX4_become_5) ?_
    refine go1 (M := mX4_become) (pc' := 9) (r_getI (M := mX4_become) fl_4_27 h0 rfl dX4_become_6) ?_
    refine go_br (M := mX4_become) (pt := 26) (pf := 12) (fun kt kf => r_icmp_ge (M := mX4_become) dX4_become_9 (by decide) kt kf) (fun hc2 => ?_) (fun hc2 => ?_)
    · exact go_vret (M := mX4_become) rfl rfl dX4_become_26
    · refine go1 (M := mX4_become) (pc' := 13) (r_aload_n (M := mX4_become) (i := 0) rfl dX4_become_12) ?_
      refine go1 (M := mX4_become) (pc' := 16) (r_getR (M := mX4_become) fl_4_21 h0 rfl (wt_some hW h0 (by decide) (by decide) rfl) dX4_become_13) ?_
      have hT3 : TY S (pr S a0 3) 14 := wt hW h0 (by decide) (by decide) rfl (by decide)
      refine go1 (M := mX4_become) (pc' := 17) (r_iload_n (M := mX4_become) (i := 1) rfl dX4_become_16) ?_
      refine go1 (M := mX4_become) (pc' := 18) (r_iload_n (M := mX4_become) (i := 2) rfl dX4_become_17) ?_
      refine go_ck (fun hi4 => ?_)
      refine go1 (M := mX4_become) (pc' := 19) (r_iast (M := mX4_become) hT3 hi4 dX4_become_18) ?_
      refine go_blx (fun x5 => ?_)
      refine go1 (M := mX4_become) (pc' := 20) (r_aload_n (M := mX4_become) (i := 0) rfl dX4_become_19) ?_
      refine go1 (M := mX4_become) (pc' := 23) (r_getR (M := mX4_become) fl_4_24 h0 rfl (wt_some hW h0 (by decide) (by decide) rfl) dX4_become_20) ?_
      have hT6 : TY S (pr S a0 4) 14 := wt hW h0 (by decide) (by decide) rfl (by decide)
      refine go1 (M := mX4_become) (pc' := 24) (r_iload_n (M := mX4_become) (i := 1) rfl dX4_become_23) ?_
      refine go1 (M := mX4_become) (pc' := 25) (r_iload_n (M := mX4_become) (i := 3) rfl dX4_become_24) ?_
      refine go_ck (fun hi7 => ?_)
      refine go1 (M := mX4_become) (pc' := 26) (r_iast (M := mX4_become) hT6 hi7 dX4_become_25) ?_
      refine go_blx (fun x8 => ?_)
      exact go_vret (M := mX4_become) rfl rfl dX4_become_26
def f_X4_make (N : Nat) (S : SH) (a0 : Nat) (a1 : Int32) (a2 : Int32) (a3 : Int32) (a4 : Int32) (x : DY) : Option (Int32 × DY) :=
  Option.bind (f_X4_areFull N S a0 x) (fun r1 => (if r1 = 0 then (if 0 ≤ (x.1 a0 5) then bl (U1 x a0 5 ((x.1 a0 5) + 1)) (fun x4 => ck S (pr S a0 0) (x.1 a0 5) (bl (U1 x4 (pr S a0 0) (x.1 a0 5).toNatClampNeg a1) (fun x7 => ck S (pr S a0 1) (x.1 a0 5) (bl (U1 x7 (pr S a0 1) (x.1 a0 5).toNatClampNeg a2) (fun x10 => ck S (pr S a0 2) (x.1 a0 5) (bl (U1 x10 (pr S a0 2) (x.1 a0 5).toNatClampNeg 0) (fun x13 => Option.bind (f_X4_become N S a0 (x.1 a0 5) a3 a4 x13) (fun r14 => some ((x.1 a0 5), r14))))))))) else some ((-4), x)) else some ((-4), x)))
set_option maxHeartbeats 1000000 in
theorem t_X4_make {N d : Nat} {S : SH} (hW : WT S) {x : DY} {a0 : Nat} {a1 : Int32} {a2 : Int32} {a3 : Int32} {a4 : Int32} (hd : 2 ≤ d) (h0 : TY S a0 4) : CT mX4_make d S [.ref a0, .int a1, .int a2, .int a3, .int a4] x wSI (f_X4_make N S a0 a1 a2 a3 a4 x) := by
  refine CT.of [some (.ref a0), some (.int a1), some (.int a2), some (.int a3), some (.int a4), none] rfl (Nat.le_of_ble_eq_true rfl) (by decide +kernel) ?_
  unfold f_X4_make
  refine go1 (M := mX4_make) (pc' := 1) (r_aload_n (M := mX4_make) (i := 0) rfl dX4_make_0) ?_
  refine go1 (M := mX4_make) (pc' := 4) (r_getI (M := mX4_make) fl_4_27 h0 rfl dX4_make_1) ?_
  refine go1 (M := mX4_make) (pc' := 6) (ls' := [some (.ref a0), some (.int a1), some (.int a2), some (.int a3), some (.int a4), some (.int (x.1 a0 5))]) (r_istore (M := mX4_make) (ls := [some (.ref a0), some (.int a1), some (.int a2), some (.int a3), some (.int a4), none]) (i := 5) (v := (x.1 a0 5)) (by decide) rfl dX4_make_4) ?_
  refine go1 (M := mX4_make) (pc' := 7) (r_aload_n (M := mX4_make) (i := 0) rfl dX4_make_6) ?_
  refine go_V_PI (M := mX4_make) (pc' := 10) (st := []) (As := []) rfl ln_4_31 lb_X4_areFull (t_X4_areFull (N := N) hW (by omega) h0) (by omega) h0 (Nat.le_of_ble_eq_true rfl) rfl dX4_make_7 (fun r1 => ?_)
  refine go_br (M := mX4_make) (pt := 13) (pf := 18) (fun kt kf => r_if_ne (M := mX4_make) dX4_make_10 (by decide) kf kt) (fun hc2 => ?_) (fun hc2 => ?_)
  · refine go1 (M := mX4_make) (pc' := 15) (r_iload (M := mX4_make) (i := 5) rfl dX4_make_13) ?_
    refine go_br (M := mX4_make) (pt := 21) (pf := 18) (fun kt kf => r_if_ge (M := mX4_make) dX4_make_15 (by decide) kt kf) (fun hc3 => ?_) (fun hc3 => ?_)
    · refine go1 (M := mX4_make) (pc' := 22) (r_aload_n (M := mX4_make) (i := 0) rfl dX4_make_21) ?_
      refine go1 (M := mX4_make) (pc' := 23) (r_dup (M := mX4_make) rfl dX4_make_22) ?_
      refine go1 (M := mX4_make) (pc' := 26) (r_getI (M := mX4_make) fl_4_27 h0 rfl dX4_make_23) ?_
      refine go1 (M := mX4_make) (pc' := 27) (r_iconst (M := mX4_make) (v := 1) (by decide) dX4_make_26) ?_
      refine go1 (M := mX4_make) (pc' := 28) (r_iadd (M := mX4_make) dX4_make_27) ?_
      refine go1 (M := mX4_make) (pc' := 31) (r_putI (M := mX4_make) fl_4_27 h0 rfl rfl dX4_make_28) ?_
      refine go_blx (fun x4 => ?_)
      refine go1 (M := mX4_make) (pc' := 32) (r_aload_n (M := mX4_make) (i := 0) rfl dX4_make_31) ?_
      refine go1 (M := mX4_make) (pc' := 35) (r_getR (M := mX4_make) fl_4_9 h0 rfl (wt_some hW h0 (by decide) (by decide) rfl) dX4_make_32) ?_
      have hT5 : TY S (pr S a0 0) 14 := wt hW h0 (by decide) (by decide) rfl (by decide)
      refine go1 (M := mX4_make) (pc' := 37) (r_iload (M := mX4_make) (i := 5) rfl dX4_make_35) ?_
      refine go1 (M := mX4_make) (pc' := 38) (r_iload_n (M := mX4_make) (i := 1) rfl dX4_make_37) ?_
      refine go_ck (fun hi6 => ?_)
      refine go1 (M := mX4_make) (pc' := 39) (r_iast (M := mX4_make) hT5 hi6 dX4_make_38) ?_
      refine go_blx (fun x7 => ?_)
      refine go1 (M := mX4_make) (pc' := 40) (r_aload_n (M := mX4_make) (i := 0) rfl dX4_make_39) ?_
      refine go1 (M := mX4_make) (pc' := 43) (r_getR (M := mX4_make) fl_4_15 h0 rfl (wt_some hW h0 (by decide) (by decide) rfl) dX4_make_40) ?_
      have hT8 : TY S (pr S a0 1) 14 := wt hW h0 (by decide) (by decide) rfl (by decide)
      refine go1 (M := mX4_make) (pc' := 45) (r_iload (M := mX4_make) (i := 5) rfl dX4_make_43) ?_
      refine go1 (M := mX4_make) (pc' := 46) (r_iload_n (M := mX4_make) (i := 2) rfl dX4_make_45) ?_
      refine go_ck (fun hi9 => ?_)
      refine go1 (M := mX4_make) (pc' := 47) (r_iast (M := mX4_make) hT8 hi9 dX4_make_46) ?_
      refine go_blx (fun x10 => ?_)
      refine go1 (M := mX4_make) (pc' := 48) (r_aload_n (M := mX4_make) (i := 0) rfl dX4_make_47) ?_
      refine go1 (M := mX4_make) (pc' := 51) (r_getR (M := mX4_make) fl_4_18 h0 rfl (wt_some hW h0 (by decide) (by decide) rfl) dX4_make_48) ?_
      have hT11 : TY S (pr S a0 2) 14 := wt hW h0 (by decide) (by decide) rfl (by decide)
      refine go1 (M := mX4_make) (pc' := 53) (r_iload (M := mX4_make) (i := 5) rfl dX4_make_51) ?_
      refine go1 (M := mX4_make) (pc' := 54) (r_iconst (M := mX4_make) (v := 0) (by decide) dX4_make_53) ?_
      refine go_ck (fun hi12 => ?_)
      refine go1 (M := mX4_make) (pc' := 55) (r_iast (M := mX4_make) hT11 hi12 dX4_make_54) ?_
      refine go_blx (fun x13 => ?_)
      refine go1 (M := mX4_make) (pc' := 56) (r_aload_n (M := mX4_make) (i := 0) rfl dX4_make_55) ?_
      refine go1 (M := mX4_make) (pc' := 58) (r_iload (M := mX4_make) (i := 5) rfl dX4_make_56) ?_
      refine go1 (M := mX4_make) (pc' := 59) (r_iload_n (M := mX4_make) (i := 3) rfl dX4_make_58) ?_
      refine go1 (M := mX4_make) (pc' := 61) (r_iload (M := mX4_make) (i := 4) rfl dX4_make_59) ?_
      refine go_V_SV (M := mX4_make) (pc' := 64) (st := []) (As := [.int (x.1 a0 5), .int a3, .int a4]) rfl ln_4_35 lb_X4_become (t_X4_become (N := N) hW (by omega) h0) (by omega) h0 (Nat.le_of_ble_eq_true rfl) rfl dX4_make_61 (fun r14 => ?_)
      refine go1 (M := mX4_make) (pc' := 66) (r_iload (M := mX4_make) (i := 5) rfl dX4_make_64) ?_
      exact go_iret (M := mX4_make) rfl rfl dX4_make_66
    · refine go1 (M := mX4_make) (pc' := 20) (r_bipush (M := mX4_make) (v := (-4)) (by decide) dX4_make_18) ?_
      exact go_iret (M := mX4_make) rfl rfl dX4_make_20
  · refine go1 (M := mX4_make) (pc' := 20) (r_bipush (M := mX4_make) (v := (-4)) (by decide) dX4_make_18) ?_
    exact go_iret (M := mX4_make) rfl rfl dX4_make_20
def f_X6_layAtHatch (N : Nat) (S : SH) (a0 : Nat) (a1 : Int32) (x : DY) : Option (Int32 × DY) :=
  Option.bind (f_X11_isDish N S a1 x) (fun r1 => (if r1 = 0 then some ((-2), x) else ck S (pr S a0 2) 0 ((if (x.1 (pr S a0 2) (0 : Int32).toNatClampNeg) = (-1) then ck S (pr S (pr S a0 0) 0) a1 (Option.bind (f_X4_make N S (pr S a0 3) a1 (x.1 (pr S (pr S a0 0) 0) a1.toNatClampNeg) 0 (-1) x) (fun r10 => (if r10.1 < 0 then some (r10.1, r10.2) else ck S (pr S a0 2) 0 (bl (U1 r10.2 (pr S a0 2) (0 : Int32).toNatClampNeg r10.1) (fun x13 => some (r10.1, x13)))))) else some ((-3), x)))))
set_option maxHeartbeats 1000000 in
theorem t_X6_layAtHatch {N d : Nat} {S : SH} (hW : WT S) {x : DY} {a0 : Nat} {a1 : Int32} (hd : 3 ≤ d) (h0 : TY S a0 6) : CT mX6_layAtHatch d S [.ref a0, .int a1] x wSI (f_X6_layAtHatch N S a0 a1 x) := by
  refine CT.of [some (.ref a0), some (.int a1), none] rfl (Nat.le_of_ble_eq_true rfl) (by decide +kernel) ?_
  unfold f_X6_layAtHatch
  refine go1 (M := mX6_layAtHatch) (pc' := 1) (r_iload_n (M := mX6_layAtHatch) (i := 1) rfl dX6_layAtHatch_0) ?_
  refine go_SN_PI (M := mX6_layAtHatch) (pc' := 4) (st := []) (As := [.int a1]) rfl ln_6_93 lb_X11_isDish (t_X11_isDish (N := N) hW (by omega) ) (by omega) (Nat.le_of_ble_eq_true rfl) rfl dX6_layAtHatch_1 (fun r1 => ?_)
  refine go_br (M := mX6_layAtHatch) (pt := 7) (pf := 10) (fun kt kf => r_if_ne (M := mX6_layAtHatch) dX6_layAtHatch_4 (by decide) kf kt) (fun hc2 => ?_) (fun hc2 => ?_)
  · refine go1 (M := mX6_layAtHatch) (pc' := 9) (r_bipush (M := mX6_layAtHatch) (v := (-2)) (by decide) dX6_layAtHatch_7) ?_
    exact go_iret (M := mX6_layAtHatch) rfl rfl dX6_layAtHatch_9
  · refine go1 (M := mX6_layAtHatch) (pc' := 11) (r_aload_n (M := mX6_layAtHatch) (i := 0) rfl dX6_layAtHatch_10) ?_
    refine go1 (M := mX6_layAtHatch) (pc' := 14) (r_getR (M := mX6_layAtHatch) fl_6_59 h0 rfl (wt_some hW h0 (by decide) (by decide) rfl) dX6_layAtHatch_11) ?_
    have hT3 : TY S (pr S a0 2) 14 := wt hW h0 (by decide) (by decide) rfl (by decide)
    refine go1 (M := mX6_layAtHatch) (pc' := 15) (r_iconst (M := mX6_layAtHatch) (v := 0) (by decide) dX6_layAtHatch_14) ?_
    refine go_ck (fun hi4 => ?_)
    refine go1 (M := mX6_layAtHatch) (pc' := 16) (r_iald (M := mX6_layAtHatch) hT3 hi4 dX6_layAtHatch_15) ?_
    refine go1 (M := mX6_layAtHatch) (pc' := 17) (r_iconst (M := mX6_layAtHatch) (v := (-1)) (by decide) dX6_layAtHatch_16) ?_
    refine go_br (M := mX6_layAtHatch) (pt := 23) (pf := 20) (fun kt kf => r_icmp_eq (M := mX6_layAtHatch) dX6_layAtHatch_17 (by decide) kt kf) (fun hc5 => ?_) (fun hc5 => ?_)
    · refine go1 (M := mX6_layAtHatch) (pc' := 24) (r_aload_n (M := mX6_layAtHatch) (i := 0) rfl dX6_layAtHatch_23) ?_
      refine go1 (M := mX6_layAtHatch) (pc' := 27) (r_getR (M := mX6_layAtHatch) fl_6_12 h0 rfl (wt_some hW h0 (by decide) (by decide) rfl) dX6_layAtHatch_24) ?_
      have hT6 : TY S (pr S a0 3) 4 := wt hW h0 (by decide) (by decide) rfl (by decide)
      refine go1 (M := mX6_layAtHatch) (pc' := 28) (r_iload_n (M := mX6_layAtHatch) (i := 1) rfl dX6_layAtHatch_27) ?_
      refine go1 (M := mX6_layAtHatch) (pc' := 29) (r_aload_n (M := mX6_layAtHatch) (i := 0) rfl dX6_layAtHatch_28) ?_
      refine go1 (M := mX6_layAtHatch) (pc' := 32) (r_getR (M := mX6_layAtHatch) fl_6_45 h0 rfl (wt_some hW h0 (by decide) (by decide) rfl) dX6_layAtHatch_29) ?_
      have hT7 : TY S (pr S a0 0) 3 := wt hW h0 (by decide) (by decide) rfl (by decide)
      refine go1 (M := mX6_layAtHatch) (pc' := 35) (r_getR (M := mX6_layAtHatch) fl_6_96 hT7 rfl (wt_some hW hT7 (by decide) (by decide) rfl) dX6_layAtHatch_32) ?_
      have hT8 : TY S (pr S (pr S a0 0) 0) 14 := wt hW hT7 (by decide) (by decide) rfl (by decide)
      refine go1 (M := mX6_layAtHatch) (pc' := 36) (r_iload_n (M := mX6_layAtHatch) (i := 1) rfl dX6_layAtHatch_35) ?_
      refine go_ck (fun hi9 => ?_)
      refine go1 (M := mX6_layAtHatch) (pc' := 37) (r_iald (M := mX6_layAtHatch) hT8 hi9 dX6_layAtHatch_36) ?_
      refine go1 (M := mX6_layAtHatch) (pc' := 38) (r_iconst (M := mX6_layAtHatch) (v := 0) (by decide) dX6_layAtHatch_37) ?_
      refine go1 (M := mX6_layAtHatch) (pc' := 39) (r_iconst (M := mX6_layAtHatch) (v := (-1)) (by decide) dX6_layAtHatch_38) ?_
      refine go_V_SI (M := mX6_layAtHatch) (pc' := 42) (st := []) (As := [.int a1, .int (x.1 (pr S (pr S a0 0) 0) a1.toNatClampNeg), .int 0, .int (-1)]) rfl ln_6_101 lb_X4_make (t_X4_make (N := N) hW (by omega) hT6) (by omega) hT6 (Nat.le_of_ble_eq_true rfl) rfl dX6_layAtHatch_39 (fun r10 => ?_)
      refine go1 (M := mX6_layAtHatch) (pc' := 43) (ls' := [some (.ref a0), some (.int a1), some (.int r10.1)]) (r_istore_n (M := mX6_layAtHatch) (ls := [some (.ref a0), some (.int a1), none]) (i := 2) (v := r10.1) (by decide) rfl dX6_layAtHatch_42) ?_
      refine go1 (M := mX6_layAtHatch) (pc' := 44) (r_iload_n (M := mX6_layAtHatch) (i := 2) rfl dX6_layAtHatch_43) ?_
      refine go_br (M := mX6_layAtHatch) (pt := 54) (pf := 47) (fun kt kf => r_if_lt (M := mX6_layAtHatch) dX6_layAtHatch_44 (by decide) kt kf) (fun hc11 => ?_) (fun hc11 => ?_)
      · refine go1 (M := mX6_layAtHatch) (pc' := 55) (r_iload_n (M := mX6_layAtHatch) (i := 2) rfl dX6_layAtHatch_54) ?_
        exact go_iret (M := mX6_layAtHatch) rfl rfl dX6_layAtHatch_55
      · refine go1 (M := mX6_layAtHatch) (pc' := 48) (r_aload_n (M := mX6_layAtHatch) (i := 0) rfl dX6_layAtHatch_47) ?_
        refine go1 (M := mX6_layAtHatch) (pc' := 51) (r_getR (M := mX6_layAtHatch) fl_6_59 h0 rfl (wt_some hW h0 (by decide) (by decide) rfl) dX6_layAtHatch_48) ?_
        refine go1 (M := mX6_layAtHatch) (pc' := 52) (r_iconst (M := mX6_layAtHatch) (v := 0) (by decide) dX6_layAtHatch_51) ?_
        refine go1 (M := mX6_layAtHatch) (pc' := 53) (r_iload_n (M := mX6_layAtHatch) (i := 2) rfl dX6_layAtHatch_52) ?_
        refine go_ck (fun hi12 => ?_)
        refine go1 (M := mX6_layAtHatch) (pc' := 54) (r_iast (M := mX6_layAtHatch) hT3 hi12 dX6_layAtHatch_53) ?_
        refine go_blx (fun x13 => ?_)
        refine go1 (M := mX6_layAtHatch) (pc' := 55) (r_iload_n (M := mX6_layAtHatch) (i := 2) rfl dX6_layAtHatch_54) ?_
        exact go_iret (M := mX6_layAtHatch) rfl rfl dX6_layAtHatch_55
    · refine go1 (M := mX6_layAtHatch) (pc' := 22) (r_bipush (M := mX6_layAtHatch) (v := (-3)) (by decide) dX6_layAtHatch_20) ?_
      exact go_iret (M := mX6_layAtHatch) rfl rfl dX6_layAtHatch_22
def f_X4_has (N : Nat) (S : SH) (a0 : Nat) (a1 : Int32) (x : DY) : Option Int32 :=
  (if a1 < 0 then some 0 else (if (x.1 a0 5) ≤ a1 then some 0 else some 1))
set_option maxHeartbeats 1000000 in
theorem t_X4_has {N d : Nat} {S : SH} (hW : WT S) {x : DY} {a0 : Nat} {a1 : Int32} (hd : 1 ≤ d) (h0 : TY S a0 4) : CT mX4_has d S [.ref a0, .int a1] x (wPI x) (f_X4_has N S a0 a1 x) := by
  refine CT.of [some (.ref a0), some (.int a1)] rfl (Nat.le_of_ble_eq_true rfl) (by decide +kernel) ?_
  unfold f_X4_has
  refine go1 (M := mX4_has) (pc' := 1) (r_iload_n (M := mX4_has) (i := 1) rfl dX4_has_0) ?_
  refine go_br (M := mX4_has) (pt := 16) (pf := 4) (fun kt kf => r_if_lt (M := mX4_has) dX4_has_1 (by decide) kt kf) (fun hc1 => ?_) (fun hc1 => ?_)
  · refine go1 (M := mX4_has) (pc' := 17) (r_iconst (M := mX4_has) (v := 0) (by decide) dX4_has_16) ?_
    exact go_zret (M := mX4_has) rfl rfl rfl dX4_has_17
  · refine go1 (M := mX4_has) (pc' := 5) (r_iload_n (M := mX4_has) (i := 1) rfl dX4_has_4) ?_
    refine go1 (M := mX4_has) (pc' := 6) (r_aload_n (M := mX4_has) (i := 0) rfl dX4_has_5) ?_
    refine go1 (M := mX4_has) (pc' := 9) (r_getI (M := mX4_has) fl_4_27 h0 rfl dX4_has_6) ?_
    refine go_br (M := mX4_has) (pt := 16) (pf := 12) (fun kt kf => r_icmp_ge (M := mX4_has) dX4_has_9 (by decide) kt kf) (fun hc2 => ?_) (fun hc2 => ?_)
    · refine go1 (M := mX4_has) (pc' := 17) (r_iconst (M := mX4_has) (v := 0) (by decide) dX4_has_16) ?_
      exact go_zret (M := mX4_has) rfl rfl rfl dX4_has_17
    · refine go1 (M := mX4_has) (pc' := 13) (r_iconst (M := mX4_has) (v := 1) (by decide) dX4_has_12) ?_
      refine go1 (M := mX4_has) (pc' := 17) (r_goto (M := mX4_has) dX4_has_13 (by decide)) ?_
      exact go_zret (M := mX4_has) rfl rfl rfl dX4_has_17
def f_X4_growOlder (N : Nat) (S : SH) (a0 : Nat) (a1 : Int32) (x : DY) : Option DY :=
  Option.bind (f_X4_has N S a0 a1 x) (fun r1 => (if r1 = 0 then some x else ck S (pr S a0 2) a1 (ck S (pr S a0 2) a1 (bl (U1 x (pr S a0 2) a1.toNatClampNeg ((x.1 (pr S a0 2) a1.toNatClampNeg) + 1)) (fun x6 => some x6)))))
set_option maxHeartbeats 1000000 in
theorem t_X4_growOlder {N d : Nat} {S : SH} (hW : WT S) {x : DY} {a0 : Nat} {a1 : Int32} (hd : 2 ≤ d) (h0 : TY S a0 4) : CT mX4_growOlder d S [.ref a0, .int a1] x wSV (f_X4_growOlder N S a0 a1 x) := by
  refine CT.of [some (.ref a0), some (.int a1)] rfl (Nat.le_of_ble_eq_true rfl) (by decide +kernel) ?_
  unfold f_X4_growOlder
  refine go1 (M := mX4_growOlder) (pc' := 1) (r_aload_n (M := mX4_growOlder) (i := 0) rfl dX4_growOlder_0) ?_
  refine go1 (M := mX4_growOlder) (pc' := 2) (r_iload_n (M := mX4_growOlder) (i := 1) rfl dX4_growOlder_1) ?_
  refine go_V_PI (M := mX4_growOlder) (pc' := 5) (st := []) (As := [.int a1]) rfl ln_4_39 lb_X4_has (t_X4_has (N := N) hW (by omega) h0) (by omega) h0 (Nat.le_of_ble_eq_true rfl) rfl dX4_growOlder_2 (fun r1 => ?_)
  refine go_br (M := mX4_growOlder) (pt := 18) (pf := 8) (fun kt kf => r_if_eq (M := mX4_growOlder) dX4_growOlder_5 (by decide) kt kf) (fun hc2 => ?_) (fun hc2 => ?_)
  · exact go_vret (M := mX4_growOlder) rfl rfl dX4_growOlder_18
  · refine go1 (M := mX4_growOlder) (pc' := 9) (r_aload_n (M := mX4_growOlder) (i := 0) rfl dX4_growOlder_8) ?_
    refine go1 (M := mX4_growOlder) (pc' := 12) (r_getR (M := mX4_growOlder) fl_4_18 h0 rfl (wt_some hW h0 (by decide) (by decide) rfl) dX4_growOlder_9) ?_
    have hT3 : TY S (pr S a0 2) 14 := wt hW h0 (by decide) (by decide) rfl (by decide)
    refine go1 (M := mX4_growOlder) (pc' := 13) (r_iload_n (M := mX4_growOlder) (i := 1) rfl dX4_growOlder_12) ?_
    refine go1 (M := mX4_growOlder) (pc' := 14) (r_dup2 (M := mX4_growOlder) rfl rfl dX4_growOlder_13) ?_
    refine go_ck (fun hi4 => ?_)
    refine go1 (M := mX4_growOlder) (pc' := 15) (r_iald (M := mX4_growOlder) hT3 hi4 dX4_growOlder_14) ?_
    refine go1 (M := mX4_growOlder) (pc' := 16) (r_iconst (M := mX4_growOlder) (v := 1) (by decide) dX4_growOlder_15) ?_
    refine go1 (M := mX4_growOlder) (pc' := 17) (r_iadd (M := mX4_growOlder) dX4_growOlder_16) ?_
    refine go_ck (fun hi5 => ?_)
    refine go1 (M := mX4_growOlder) (pc' := 18) (r_iast (M := mX4_growOlder) hT3 hi5 dX4_growOlder_17) ?_
    refine go_blx (fun x6 => ?_)
    exact go_vret (M := mX4_growOlder) rfl rfl dX4_growOlder_18
def lp_X6_turnBelt_21_b (N : Nat) (S : SH) (k58 : DY → Option DY) (bk21 : Int32 → DY → Option DY) (p0 : Nat) (p1 : Int32) (p2 : Int32) (x : DY) : Option DY :=
  (if p2 ≤ 0 then k58 x else ck S (pr S p0 2) (p2 - 1) (ck S (pr S p0 2) p2 (bl (U1 x (pr S p0 2) p2.toNatClampNeg (x.1 (pr S p0 2) (p2 - 1).toNatClampNeg)) (fun x8 => ck S (pr S p0 2) p2 (Option.bind (f_X4_growOlder N S (pr S p0 3) (x8.1 (pr S p0 2) p2.toNatClampNeg) x8) (fun r11 => bk21 (p2 + (-1)) r11))))))
set_option maxHeartbeats 1000000 in
theorem lp_X6_turnBelt_21_b_t {N d : Nat} {S : SH} (hW : WT S) (hd : 3 ≤ d) (k58 : DY → Option DY) (bk21 : Int32 → DY → Option DY) (p0 : Nat) (p1 : Int32) (p2 : Int32) (x : DY) (g0 : TY S p0 6) (hk58 : ∀ (y : DY), Go mX6_turnBelt d S wSV 58 [some (.ref p0), some (.int p1), none] [] y (k58 y)) (hbk21 : ∀ (v2 : Int32) (y : DY), Go mX6_turnBelt d S wSV 21 [some (.ref p0), some (.int p1), some (.int v2)] [] y (bk21 v2 y)) : Go mX6_turnBelt d S wSV 21 [some (.ref p0), some (.int p1), some (.int p2)] [] x (lp_X6_turnBelt_21_b N S k58 bk21 p0 p1 p2 x) := by
  unfold lp_X6_turnBelt_21_b
  refine go1 (M := mX6_turnBelt) (pc' := 22) (r_iload_n (M := mX6_turnBelt) (i := 2) rfl dX6_turnBelt_21) ?_
  refine go_br (M := mX6_turnBelt) (pt := 58) (pf := 25) (fun kt kf => r_if_le (M := mX6_turnBelt) dX6_turnBelt_22 (by decide) kt kf) (fun hc4 => ?_) (fun hc4 => ?_)
  · refine go_drop (ls' := [some (.ref p0), some (.int p1), none]) (And.intro rfl (And.intro rfl trivial)) ?_
    exact hk58 x
  · refine go1 (M := mX6_turnBelt) (pc' := 26) (r_aload_n (M := mX6_turnBelt) (i := 0) rfl dX6_turnBelt_25) ?_
    refine go1 (M := mX6_turnBelt) (pc' := 29) (r_getR (M := mX6_turnBelt) fl_6_59 g0 rfl (wt_some hW g0 (by decide) (by decide) rfl) dX6_turnBelt_26) ?_
    have hT5 : TY S (pr S p0 2) 14 := wt hW g0 (by decide) (by decide) rfl (by decide)
    refine go1 (M := mX6_turnBelt) (pc' := 30) (r_iload_n (M := mX6_turnBelt) (i := 2) rfl dX6_turnBelt_29) ?_
    refine go1 (M := mX6_turnBelt) (pc' := 31) (r_aload_n (M := mX6_turnBelt) (i := 0) rfl dX6_turnBelt_30) ?_
    refine go1 (M := mX6_turnBelt) (pc' := 34) (r_getR (M := mX6_turnBelt) fl_6_59 g0 rfl (wt_some hW g0 (by decide) (by decide) rfl) dX6_turnBelt_31) ?_
    refine go1 (M := mX6_turnBelt) (pc' := 35) (r_iload_n (M := mX6_turnBelt) (i := 2) rfl dX6_turnBelt_34) ?_
    refine go1 (M := mX6_turnBelt) (pc' := 36) (r_iconst (M := mX6_turnBelt) (v := 1) (by decide) dX6_turnBelt_35) ?_
    refine go1 (M := mX6_turnBelt) (pc' := 37) (r_isub (M := mX6_turnBelt) dX6_turnBelt_36) ?_
    refine go_ck (fun hi6 => ?_)
    refine go1 (M := mX6_turnBelt) (pc' := 38) (r_iald (M := mX6_turnBelt) hT5 hi6 dX6_turnBelt_37) ?_
    refine go_ck (fun hi7 => ?_)
    refine go1 (M := mX6_turnBelt) (pc' := 39) (r_iast (M := mX6_turnBelt) hT5 hi7 dX6_turnBelt_38) ?_
    refine go_blx (fun x8 => ?_)
    refine go1 (M := mX6_turnBelt) (pc' := 40) (r_aload_n (M := mX6_turnBelt) (i := 0) rfl dX6_turnBelt_39) ?_
    refine go1 (M := mX6_turnBelt) (pc' := 43) (r_getR (M := mX6_turnBelt) fl_6_12 g0 rfl (wt_some hW g0 (by decide) (by decide) rfl) dX6_turnBelt_40) ?_
    have hT9 : TY S (pr S p0 3) 4 := wt hW g0 (by decide) (by decide) rfl (by decide)
    refine go1 (M := mX6_turnBelt) (pc' := 44) (r_aload_n (M := mX6_turnBelt) (i := 0) rfl dX6_turnBelt_43) ?_
    refine go1 (M := mX6_turnBelt) (pc' := 47) (r_getR (M := mX6_turnBelt) fl_6_59 g0 rfl (wt_some hW g0 (by decide) (by decide) rfl) dX6_turnBelt_44) ?_
    refine go1 (M := mX6_turnBelt) (pc' := 48) (r_iload_n (M := mX6_turnBelt) (i := 2) rfl dX6_turnBelt_47) ?_
    refine go_ck (fun hi10 => ?_)
    refine go1 (M := mX6_turnBelt) (pc' := 49) (r_iald (M := mX6_turnBelt) hT5 hi10 dX6_turnBelt_48) ?_
    refine go_V_SV (M := mX6_turnBelt) (pc' := 52) (st := []) (As := [.int (x8.1 (pr S p0 2) p2.toNatClampNeg)]) rfl ln_6_162 lb_X4_growOlder (t_X4_growOlder (N := N) hW (by omega) hT9) (by omega) hT9 (Nat.le_of_ble_eq_true rfl) rfl dX6_turnBelt_49 (fun r11 => ?_)
    refine go1 (M := mX6_turnBelt) (pc' := 55) (ls' := [some (.ref p0), some (.int p1), some (.int (p2 + (-1)))]) (r_iinc (M := mX6_turnBelt) (ls := [some (.ref p0), some (.int p1), some (.int p2)]) (i := 2) (v := p2) (c' := (-1)) (by decide) rfl (by decide) rfl dX6_turnBelt_52) ?_
    refine go1 (M := mX6_turnBelt) (pc' := 21) (r_goto (M := mX6_turnBelt) dX6_turnBelt_55 (by decide)) ?_
    exact hbk21 (p2 + (-1)) r11
def lp_X6_turnBelt_21 (N : Nat) (S : SH) (k58 : DY → Option DY) (p0 : Nat) (p1 : Int32) (p2 : Int32) (x : DY) : Option DY :=
  itr (fun back (v : Int32 × DY) => lp_X6_turnBelt_21_b N S k58 (fun p2 y => back (p2, y)) p0 p1 v.1 v.2) N (p2, x)
theorem lp_X6_turnBelt_21_t {N d : Nat} {S : SH} (hW : WT S) (hd : 3 ≤ d) (k58 : DY → Option DY) (p0 : Nat) (p1 : Int32) (p2 : Int32) (x : DY) (g0 : TY S p0 6) (hk58 : ∀ (y : DY), Go mX6_turnBelt d S wSV 58 [some (.ref p0), some (.int p1), none] [] y (k58 y)) : Go mX6_turnBelt d S wSV 21 [some (.ref p0), some (.int p1), some (.int p2)] [] x (lp_X6_turnBelt_21 N S k58 p0 p1 p2 x) := by
  unfold lp_X6_turnBelt_21
  exact go_itr (L := fun (v : Int32 × DY) => [some (.ref p0), some (.int p1), some (.int v.1)]) (X := fun (v : Int32 × DY) => v.2) (fun back hB v => lp_X6_turnBelt_21_b_t (N := N) hW hd k58 (fun p2 y => back (p2, y)) p0 p1 v.1 v.2 g0 hk58 (fun p2 y => hB (p2, y)) ) N (p2, x)
def f_X6_turnBelt (N : Nat) (S : SH) (a0 : Nat) (x : DY) : Option DY :=
  ck S (pr S a0 2) ((nI (S.2.2.1 (pr S a0 2))) - 1) (lp_X6_turnBelt_21 N S (fun y11 => ck S (pr S a0 2) 0 (bl (U1 y11 (pr S a0 2) (0 : Int32).toNatClampNeg (x.1 (pr S a0 2) ((nI (S.2.2.1 (pr S a0 2))) - 1).toNatClampNeg)) (fun x15 => Option.bind (f_X4_growOlder N S (pr S a0 3) (x.1 (pr S a0 2) ((nI (S.2.2.1 (pr S a0 2))) - 1).toNatClampNeg) x15) (fun r17 => some r17)))) a0 (x.1 (pr S a0 2) ((nI (S.2.2.1 (pr S a0 2))) - 1).toNatClampNeg) ((nI (S.2.2.1 (pr S a0 2))) - 1) x)
set_option maxHeartbeats 1000000 in
theorem t_X6_turnBelt {N d : Nat} {S : SH} (hW : WT S) {x : DY} {a0 : Nat} (hd : 3 ≤ d) (h0 : TY S a0 6) : CT mX6_turnBelt d S [.ref a0] x wSV (f_X6_turnBelt N S a0 x) := by
  refine CT.of [some (.ref a0), none, none] rfl (Nat.le_of_ble_eq_true rfl) (by decide +kernel) ?_
  unfold f_X6_turnBelt
  refine go1 (M := mX6_turnBelt) (pc' := 1) (r_aload_n (M := mX6_turnBelt) (i := 0) rfl dX6_turnBelt_0) ?_
  refine go1 (M := mX6_turnBelt) (pc' := 4) (r_getR (M := mX6_turnBelt) fl_6_59 h0 rfl (wt_some hW h0 (by decide) (by decide) rfl) dX6_turnBelt_1) ?_
  have hT1 : TY S (pr S a0 2) 14 := wt hW h0 (by decide) (by decide) rfl (by decide)
  refine go1 (M := mX6_turnBelt) (pc' := 5) (r_aload_n (M := mX6_turnBelt) (i := 0) rfl dX6_turnBelt_4) ?_
  refine go1 (M := mX6_turnBelt) (pc' := 8) (r_getR (M := mX6_turnBelt) fl_6_59 h0 rfl (wt_some hW h0 (by decide) (by decide) rfl) dX6_turnBelt_5) ?_
  refine go1 (M := mX6_turnBelt) (pc' := 9) (r_alen (M := mX6_turnBelt) hT1 (by decide) (by decide) dX6_turnBelt_8) ?_
  refine go1 (M := mX6_turnBelt) (pc' := 10) (r_iconst (M := mX6_turnBelt) (v := 1) (by decide) dX6_turnBelt_9) ?_
  refine go1 (M := mX6_turnBelt) (pc' := 11) (r_isub (M := mX6_turnBelt) dX6_turnBelt_10) ?_
  refine go_ck (fun hi2 => ?_)
  refine go1 (M := mX6_turnBelt) (pc' := 12) (r_iald (M := mX6_turnBelt) hT1 hi2 dX6_turnBelt_11) ?_
  refine go1 (M := mX6_turnBelt) (pc' := 13) (ls' := [some (.ref a0), some (.int (x.1 (pr S a0 2) ((nI (S.2.2.1 (pr S a0 2))) - 1).toNatClampNeg)), none]) (r_istore_n (M := mX6_turnBelt) (ls := [some (.ref a0), none, none]) (i := 1) (v := (x.1 (pr S a0 2) ((nI (S.2.2.1 (pr S a0 2))) - 1).toNatClampNeg)) (by decide) rfl dX6_turnBelt_12) ?_
  refine go1 (M := mX6_turnBelt) (pc' := 14) (r_aload_n (M := mX6_turnBelt) (i := 0) rfl dX6_turnBelt_13) ?_
  refine go1 (M := mX6_turnBelt) (pc' := 17) (r_getR (M := mX6_turnBelt) fl_6_59 h0 rfl (wt_some hW h0 (by decide) (by decide) rfl) dX6_turnBelt_14) ?_
  refine go1 (M := mX6_turnBelt) (pc' := 18) (r_alen (M := mX6_turnBelt) hT1 (by decide) (by decide) dX6_turnBelt_17) ?_
  refine go1 (M := mX6_turnBelt) (pc' := 19) (r_iconst (M := mX6_turnBelt) (v := 1) (by decide) dX6_turnBelt_18) ?_
  refine go1 (M := mX6_turnBelt) (pc' := 20) (r_isub (M := mX6_turnBelt) dX6_turnBelt_19) ?_
  refine go1 (M := mX6_turnBelt) (pc' := 21) (ls' := [some (.ref a0), some (.int (x.1 (pr S a0 2) ((nI (S.2.2.1 (pr S a0 2))) - 1).toNatClampNeg)), some (.int ((nI (S.2.2.1 (pr S a0 2))) - 1))]) (r_istore_n (M := mX6_turnBelt) (ls := [some (.ref a0), some (.int (x.1 (pr S a0 2) ((nI (S.2.2.1 (pr S a0 2))) - 1).toNatClampNeg)), none]) (i := 2) (v := ((nI (S.2.2.1 (pr S a0 2))) - 1)) (by decide) rfl dX6_turnBelt_20) ?_
  refine lp_X6_turnBelt_21_t (N := N) hW (by omega) _ a0 (x.1 (pr S a0 2) ((nI (S.2.2.1 (pr S a0 2))) - 1).toNatClampNeg) ((nI (S.2.2.1 (pr S a0 2))) - 1) x h0 ?_
  · intro y11
    refine go1 (M := mX6_turnBelt) (pc' := 59) (r_aload_n (M := mX6_turnBelt) (i := 0) rfl dX6_turnBelt_58) ?_
    refine go1 (M := mX6_turnBelt) (pc' := 62) (r_getR (M := mX6_turnBelt) fl_6_59 h0 rfl (wt_some hW h0 (by decide) (by decide) rfl) dX6_turnBelt_59) ?_
    have hT13 : TY S (pr S a0 2) 14 := wt hW h0 (by decide) (by decide) rfl (by decide)
    refine go1 (M := mX6_turnBelt) (pc' := 63) (r_iconst (M := mX6_turnBelt) (v := 0) (by decide) dX6_turnBelt_62) ?_
    refine go1 (M := mX6_turnBelt) (pc' := 64) (r_iload_n (M := mX6_turnBelt) (i := 1) rfl dX6_turnBelt_63) ?_
    refine go_ck (fun hi14 => ?_)
    refine go1 (M := mX6_turnBelt) (pc' := 65) (r_iast (M := mX6_turnBelt) hT13 hi14 dX6_turnBelt_64) ?_
    refine go_blx (fun x15 => ?_)
    refine go1 (M := mX6_turnBelt) (pc' := 66) (r_aload_n (M := mX6_turnBelt) (i := 0) rfl dX6_turnBelt_65) ?_
    refine go1 (M := mX6_turnBelt) (pc' := 69) (r_getR (M := mX6_turnBelt) fl_6_12 h0 rfl (wt_some hW h0 (by decide) (by decide) rfl) dX6_turnBelt_66) ?_
    have hT16 : TY S (pr S a0 3) 4 := wt hW h0 (by decide) (by decide) rfl (by decide)
    refine go1 (M := mX6_turnBelt) (pc' := 70) (r_iload_n (M := mX6_turnBelt) (i := 1) rfl dX6_turnBelt_69) ?_
    refine go_V_SV (M := mX6_turnBelt) (pc' := 73) (st := []) (As := [.int (x.1 (pr S a0 2) ((nI (S.2.2.1 (pr S a0 2))) - 1).toNatClampNeg)]) rfl ln_6_162 lb_X4_growOlder (t_X4_growOlder (N := N) hW (by omega) hT16) (by omega) hT16 (Nat.le_of_ble_eq_true rfl) rfl dX6_turnBelt_70 (fun r17 => ?_)
    exact go_vret (M := mX6_turnBelt) rfl rfl dX6_turnBelt_73
def f_X6_discard (N : Nat) (S : SH) (a0 : Nat) (a1 : Int32) (x : DY) : Option DY :=
  Option.bind (f_X4_become N S (pr S a0 3) a1 4 (-1) x) (fun r2 => bl (U2 r2 a0 10 ((r2.2 a0 10) - (((r2.1 (pr S a0 0) 3)).toInt64))) (fun x4 => some x4))
set_option maxHeartbeats 1000000 in
theorem t_X6_discard {N d : Nat} {S : SH} (hW : WT S) {x : DY} {a0 : Nat} {a1 : Int32} (hd : 2 ≤ d) (h0 : TY S a0 6) : CT mX6_discard d S [.ref a0, .int a1] x wSV (f_X6_discard N S a0 a1 x) := by
  refine CT.of [some (.ref a0), some (.int a1)] rfl (Nat.le_of_ble_eq_true rfl) (by decide +kernel) ?_
  unfold f_X6_discard
  refine go1 (M := mX6_discard) (pc' := 1) (r_aload_n (M := mX6_discard) (i := 0) rfl dX6_discard_0) ?_
  refine go1 (M := mX6_discard) (pc' := 4) (r_getR (M := mX6_discard) fl_6_12 h0 rfl (wt_some hW h0 (by decide) (by decide) rfl) dX6_discard_1) ?_
  have hT1 : TY S (pr S a0 3) 4 := wt hW h0 (by decide) (by decide) rfl (by decide)
  refine go1 (M := mX6_discard) (pc' := 5) (r_iload_n (M := mX6_discard) (i := 1) rfl dX6_discard_4) ?_
  refine go1 (M := mX6_discard) (pc' := 6) (r_iconst (M := mX6_discard) (v := 4) (by decide) dX6_discard_5) ?_
  refine go1 (M := mX6_discard) (pc' := 7) (r_iconst (M := mX6_discard) (v := (-1)) (by decide) dX6_discard_6) ?_
  refine go_V_SV (M := mX6_discard) (pc' := 10) (st := []) (As := [.int a1, .int 4, .int (-1)]) rfl ln_6_124 lb_X4_become (t_X4_become (N := N) hW (by omega) hT1) (by omega) hT1 (Nat.le_of_ble_eq_true rfl) rfl dX6_discard_7 (fun r2 => ?_)
  refine go1 (M := mX6_discard) (pc' := 11) (r_aload_n (M := mX6_discard) (i := 0) rfl dX6_discard_10) ?_
  refine go1 (M := mX6_discard) (pc' := 12) (r_dup (M := mX6_discard) rfl dX6_discard_11) ?_
  refine go1 (M := mX6_discard) (pc' := 15) (r_getL (M := mX6_discard) fl_6_41 h0 rfl dX6_discard_12) ?_
  refine go1 (M := mX6_discard) (pc' := 16) (r_aload_n (M := mX6_discard) (i := 0) rfl dX6_discard_15) ?_
  refine go1 (M := mX6_discard) (pc' := 19) (r_getR (M := mX6_discard) fl_6_45 h0 rfl (wt_some hW h0 (by decide) (by decide) rfl) dX6_discard_16) ?_
  have hT3 : TY S (pr S a0 0) 3 := wt hW h0 (by decide) (by decide) rfl (by decide)
  refine go1 (M := mX6_discard) (pc' := 22) (r_getI (M := mX6_discard) fl_6_177 hT3 rfl dX6_discard_19) ?_
  refine go1 (M := mX6_discard) (pc' := 23) (r_i2l (M := mX6_discard) dX6_discard_22) ?_
  refine go1 (M := mX6_discard) (pc' := 24) (r_lsub (M := mX6_discard) dX6_discard_23) ?_
  refine go1 (M := mX6_discard) (pc' := 27) (r_putL (M := mX6_discard) fl_6_41 h0 rfl rfl dX6_discard_24) ?_
  refine go_blx (fun x4 => ?_)
  exact go_vret (M := mX6_discard) rfl rfl dX6_discard_27
def f_X6_throwStale (N : Nat) (S : SH) (a0 : Nat) (x : DY) : Option DY :=
  ck S (pr S a0 2) 0 (Option.bind (f_X4_has N S (pr S a0 3) (x.1 (pr S a0 2) (0 : Int32).toNatClampNeg) x) (fun r4 => (if r4 = 0 then some x else ck S (pr S (pr S a0 3) 0) (x.1 (pr S a0 2) (0 : Int32).toNatClampNeg) (Option.bind (f_X11_isDish N S (x.1 (pr S (pr S a0 3) 0) (x.1 (pr S a0 2) (0 : Int32).toNatClampNeg).toNatClampNeg) x) (fun r8 => (if r8 = 0 then some x else ck S (pr S (pr S a0 3) 2) (x.1 (pr S a0 2) (0 : Int32).toNatClampNeg) (ck S (pr S (pr S a0 0) 1) (x.1 (pr S (pr S a0 3) 0) (x.1 (pr S a0 2) (0 : Int32).toNatClampNeg).toNatClampNeg) ((if (x.1 (pr S (pr S a0 3) 2) (x.1 (pr S a0 2) (0 : Int32).toNatClampNeg).toNatClampNeg) ≤ (x.1 (pr S (pr S a0 0) 1) (x.1 (pr S (pr S a0 3) 0) (x.1 (pr S a0 2) (0 : Int32).toNatClampNeg).toNatClampNeg).toNatClampNeg) then some x else ck S (pr S a0 2) 0 (bl (U1 x (pr S a0 2) (0 : Int32).toNatClampNeg (-1)) (fun x17 => Option.bind (f_X6_discard N S a0 (x.1 (pr S a0 2) (0 : Int32).toNatClampNeg) x17) (fun r18 => some r18))))))))))))
set_option maxHeartbeats 1000000 in
theorem t_X6_throwStale {N d : Nat} {S : SH} (hW : WT S) {x : DY} {a0 : Nat} (hd : 3 ≤ d) (h0 : TY S a0 6) : CT mX6_throwStale d S [.ref a0] x wSV (f_X6_throwStale N S a0 x) := by
  refine CT.of [some (.ref a0), none, none] rfl (Nat.le_of_ble_eq_true rfl) (by decide +kernel) ?_
  unfold f_X6_throwStale
  refine go1 (M := mX6_throwStale) (pc' := 1) (r_aload_n (M := mX6_throwStale) (i := 0) rfl dX6_throwStale_0) ?_
  refine go1 (M := mX6_throwStale) (pc' := 4) (r_getR (M := mX6_throwStale) fl_6_59 h0 rfl (wt_some hW h0 (by decide) (by decide) rfl) dX6_throwStale_1) ?_
  have hT1 : TY S (pr S a0 2) 14 := wt hW h0 (by decide) (by decide) rfl (by decide)
  refine go1 (M := mX6_throwStale) (pc' := 5) (r_iconst (M := mX6_throwStale) (v := 0) (by decide) dX6_throwStale_4) ?_
  refine go_ck (fun hi2 => ?_)
  refine go1 (M := mX6_throwStale) (pc' := 6) (r_iald (M := mX6_throwStale) hT1 hi2 dX6_throwStale_5) ?_
  refine go1 (M := mX6_throwStale) (pc' := 7) (ls' := [some (.ref a0), some (.int (x.1 (pr S a0 2) (0 : Int32).toNatClampNeg)), none]) (r_istore_n (M := mX6_throwStale) (ls := [some (.ref a0), none, none]) (i := 1) (v := (x.1 (pr S a0 2) (0 : Int32).toNatClampNeg)) (by decide) rfl dX6_throwStale_6) ?_
  refine go1 (M := mX6_throwStale) (pc' := 8) (r_aload_n (M := mX6_throwStale) (i := 0) rfl dX6_throwStale_7) ?_
  refine go1 (M := mX6_throwStale) (pc' := 11) (r_getR (M := mX6_throwStale) fl_6_12 h0 rfl (wt_some hW h0 (by decide) (by decide) rfl) dX6_throwStale_8) ?_
  have hT3 : TY S (pr S a0 3) 4 := wt hW h0 (by decide) (by decide) rfl (by decide)
  refine go1 (M := mX6_throwStale) (pc' := 12) (r_iload_n (M := mX6_throwStale) (i := 1) rfl dX6_throwStale_11) ?_
  refine go_V_PI (M := mX6_throwStale) (pc' := 15) (st := []) (As := [.int (x.1 (pr S a0 2) (0 : Int32).toNatClampNeg)]) rfl ln_6_80 lb_X4_has (t_X4_has (N := N) hW (by omega) hT3) (by omega) hT3 (Nat.le_of_ble_eq_true rfl) rfl dX6_throwStale_12 (fun r4 => ?_)
  refine go_br (M := mX6_throwStale) (pt := 18) (pf := 19) (fun kt kf => r_if_ne (M := mX6_throwStale) dX6_throwStale_15 (by decide) kf kt) (fun hc5 => ?_) (fun hc5 => ?_)
  · exact go_vret (M := mX6_throwStale) rfl rfl dX6_throwStale_18
  · refine go1 (M := mX6_throwStale) (pc' := 20) (r_aload_n (M := mX6_throwStale) (i := 0) rfl dX6_throwStale_19) ?_
    refine go1 (M := mX6_throwStale) (pc' := 23) (r_getR (M := mX6_throwStale) fl_6_12 h0 rfl (wt_some hW h0 (by decide) (by decide) rfl) dX6_throwStale_20) ?_
    refine go1 (M := mX6_throwStale) (pc' := 26) (r_getR (M := mX6_throwStale) fl_6_165 hT3 rfl (wt_some hW hT3 (by decide) (by decide) rfl) dX6_throwStale_23) ?_
    have hT6 : TY S (pr S (pr S a0 3) 0) 14 := wt hW hT3 (by decide) (by decide) rfl (by decide)
    refine go1 (M := mX6_throwStale) (pc' := 27) (r_iload_n (M := mX6_throwStale) (i := 1) rfl dX6_throwStale_26) ?_
    refine go_ck (fun hi7 => ?_)
    refine go1 (M := mX6_throwStale) (pc' := 28) (r_iald (M := mX6_throwStale) hT6 hi7 dX6_throwStale_27) ?_
    refine go1 (M := mX6_throwStale) (pc' := 29) (ls' := [some (.ref a0), some (.int (x.1 (pr S a0 2) (0 : Int32).toNatClampNeg)), some (.int (x.1 (pr S (pr S a0 3) 0) (x.1 (pr S a0 2) (0 : Int32).toNatClampNeg).toNatClampNeg))]) (r_istore_n (M := mX6_throwStale) (ls := [some (.ref a0), some (.int (x.1 (pr S a0 2) (0 : Int32).toNatClampNeg)), none]) (i := 2) (v := (x.1 (pr S (pr S a0 3) 0) (x.1 (pr S a0 2) (0 : Int32).toNatClampNeg).toNatClampNeg)) (by decide) rfl dX6_throwStale_28) ?_
    refine go1 (M := mX6_throwStale) (pc' := 30) (r_iload_n (M := mX6_throwStale) (i := 2) rfl dX6_throwStale_29) ?_
    refine go_SN_PI (M := mX6_throwStale) (pc' := 33) (st := []) (As := [.int (x.1 (pr S (pr S a0 3) 0) (x.1 (pr S a0 2) (0 : Int32).toNatClampNeg).toNatClampNeg)]) rfl ln_6_93 lb_X11_isDish (t_X11_isDish (N := N) hW (by omega) ) (by omega) (Nat.le_of_ble_eq_true rfl) rfl dX6_throwStale_30 (fun r8 => ?_)
    refine go_br (M := mX6_throwStale) (pt := 69) (pf := 36) (fun kt kf => r_if_eq (M := mX6_throwStale) dX6_throwStale_33 (by decide) kt kf) (fun hc9 => ?_) (fun hc9 => ?_)
    · exact go_vret (M := mX6_throwStale) rfl rfl dX6_throwStale_69
    · refine go1 (M := mX6_throwStale) (pc' := 37) (r_aload_n (M := mX6_throwStale) (i := 0) rfl dX6_throwStale_36) ?_
      refine go1 (M := mX6_throwStale) (pc' := 40) (r_getR (M := mX6_throwStale) fl_6_12 h0 rfl (wt_some hW h0 (by decide) (by decide) rfl) dX6_throwStale_37) ?_
      refine go1 (M := mX6_throwStale) (pc' := 43) (r_getR (M := mX6_throwStale) fl_6_168 hT3 rfl (wt_some hW hT3 (by decide) (by decide) rfl) dX6_throwStale_40) ?_
      have hT10 : TY S (pr S (pr S a0 3) 2) 14 := wt hW hT3 (by decide) (by decide) rfl (by decide)
      refine go1 (M := mX6_throwStale) (pc' := 44) (r_iload_n (M := mX6_throwStale) (i := 1) rfl dX6_throwStale_43) ?_
      refine go_ck (fun hi11 => ?_)
      refine go1 (M := mX6_throwStale) (pc' := 45) (r_iald (M := mX6_throwStale) hT10 hi11 dX6_throwStale_44) ?_
      refine go1 (M := mX6_throwStale) (pc' := 46) (r_aload_n (M := mX6_throwStale) (i := 0) rfl dX6_throwStale_45) ?_
      refine go1 (M := mX6_throwStale) (pc' := 49) (r_getR (M := mX6_throwStale) fl_6_45 h0 rfl (wt_some hW h0 (by decide) (by decide) rfl) dX6_throwStale_46) ?_
      have hT12 : TY S (pr S a0 0) 3 := wt hW h0 (by decide) (by decide) rfl (by decide)
      refine go1 (M := mX6_throwStale) (pc' := 52) (r_getR (M := mX6_throwStale) fl_6_171 hT12 rfl (wt_some hW hT12 (by decide) (by decide) rfl) dX6_throwStale_49) ?_
      have hT13 : TY S (pr S (pr S a0 0) 1) 14 := wt hW hT12 (by decide) (by decide) rfl (by decide)
      refine go1 (M := mX6_throwStale) (pc' := 53) (r_iload_n (M := mX6_throwStale) (i := 2) rfl dX6_throwStale_52) ?_
      refine go_ck (fun hi14 => ?_)
      refine go1 (M := mX6_throwStale) (pc' := 54) (r_iald (M := mX6_throwStale) hT13 hi14 dX6_throwStale_53) ?_
      refine go_br (M := mX6_throwStale) (pt := 69) (pf := 57) (fun kt kf => r_icmp_le (M := mX6_throwStale) dX6_throwStale_54 (by decide) kt kf) (fun hc15 => ?_) (fun hc15 => ?_)
      · exact go_vret (M := mX6_throwStale) rfl rfl dX6_throwStale_69
      · refine go1 (M := mX6_throwStale) (pc' := 58) (r_aload_n (M := mX6_throwStale) (i := 0) rfl dX6_throwStale_57) ?_
        refine go1 (M := mX6_throwStale) (pc' := 61) (r_getR (M := mX6_throwStale) fl_6_59 h0 rfl (wt_some hW h0 (by decide) (by decide) rfl) dX6_throwStale_58) ?_
        refine go1 (M := mX6_throwStale) (pc' := 62) (r_iconst (M := mX6_throwStale) (v := 0) (by decide) dX6_throwStale_61) ?_
        refine go1 (M := mX6_throwStale) (pc' := 63) (r_iconst (M := mX6_throwStale) (v := (-1)) (by decide) dX6_throwStale_62) ?_
        refine go_ck (fun hi16 => ?_)
        refine go1 (M := mX6_throwStale) (pc' := 64) (r_iast (M := mX6_throwStale) hT1 hi16 dX6_throwStale_63) ?_
        refine go_blx (fun x17 => ?_)
        refine go1 (M := mX6_throwStale) (pc' := 65) (r_aload_n (M := mX6_throwStale) (i := 0) rfl dX6_throwStale_64) ?_
        refine go1 (M := mX6_throwStale) (pc' := 66) (r_iload_n (M := mX6_throwStale) (i := 1) rfl dX6_throwStale_65) ?_
        refine go_V_SV (M := mX6_throwStale) (pc' := 69) (st := []) (As := [.int (x.1 (pr S a0 2) (0 : Int32).toNatClampNeg)]) rfl ln_6_174 lb_X6_discard (t_X6_discard (N := N) hW (by omega) h0) (by omega) h0 (Nat.le_of_ble_eq_true rfl) rfl dX6_throwStale_66 (fun r18 => ?_)
        exact go_vret (M := mX6_throwStale) rfl rfl dX6_throwStale_69
def f_X8_has (N : Nat) (S : SH) (a0 : Nat) (a1 : Int32) (x : DY) : Option Int32 :=
  (if a1 < 0 then some 0 else (if (x.1 a0 7) ≤ a1 then some 0 else some 1))
set_option maxHeartbeats 1000000 in
theorem t_X8_has {N d : Nat} {S : SH} (hW : WT S) {x : DY} {a0 : Nat} {a1 : Int32} (hd : 1 ≤ d) (h0 : TY S a0 8) : CT mX8_has d S [.ref a0, .int a1] x (wPI x) (f_X8_has N S a0 a1 x) := by
  refine CT.of [some (.ref a0), some (.int a1)] rfl (Nat.le_of_ble_eq_true rfl) (by decide +kernel) ?_
  unfold f_X8_has
  refine go1 (M := mX8_has) (pc' := 1) (r_iload_n (M := mX8_has) (i := 1) rfl dX8_has_0) ?_
  refine go_br (M := mX8_has) (pt := 16) (pf := 4) (fun kt kf => r_if_lt (M := mX8_has) dX8_has_1 (by decide) kt kf) (fun hc1 => ?_) (fun hc1 => ?_)
  · refine go1 (M := mX8_has) (pc' := 17) (r_iconst (M := mX8_has) (v := 0) (by decide) dX8_has_16) ?_
    exact go_zret (M := mX8_has) rfl rfl rfl dX8_has_17
  · refine go1 (M := mX8_has) (pc' := 5) (r_iload_n (M := mX8_has) (i := 1) rfl dX8_has_4) ?_
    refine go1 (M := mX8_has) (pc' := 6) (r_aload_n (M := mX8_has) (i := 0) rfl dX8_has_5) ?_
    refine go1 (M := mX8_has) (pc' := 9) (r_getI (M := mX8_has) fl_8_33 h0 rfl dX8_has_6) ?_
    refine go_br (M := mX8_has) (pt := 16) (pf := 12) (fun kt kf => r_icmp_ge (M := mX8_has) dX8_has_9 (by decide) kt kf) (fun hc2 => ?_) (fun hc2 => ?_)
    · refine go1 (M := mX8_has) (pc' := 17) (r_iconst (M := mX8_has) (v := 0) (by decide) dX8_has_16) ?_
      exact go_zret (M := mX8_has) rfl rfl rfl dX8_has_17
    · refine go1 (M := mX8_has) (pc' := 13) (r_iconst (M := mX8_has) (v := 1) (by decide) dX8_has_12) ?_
      refine go1 (M := mX8_has) (pc' := 17) (r_goto (M := mX8_has) dX8_has_13 (by decide)) ?_
      exact go_zret (M := mX8_has) rfl rfl rfl dX8_has_17
def f_X8_isTaken (N : Nat) (S : SH) (a0 : Nat) (a1 : Int32) (x : DY) : Option Int32 :=
  (if a1 < 0 then some 0 else (if (x.1 a0 7) ≤ a1 then some 0 else ck S (pr S a0 1) a1 ((if (x.1 (pr S a0 1) a1.toNatClampNeg) = (-1) then some 0 else some 1))))
set_option maxHeartbeats 1000000 in
theorem t_X8_isTaken {N d : Nat} {S : SH} (hW : WT S) {x : DY} {a0 : Nat} {a1 : Int32} (hd : 1 ≤ d) (h0 : TY S a0 8) : CT mX8_isTaken d S [.ref a0, .int a1] x (wPI x) (f_X8_isTaken N S a0 a1 x) := by
  refine CT.of [some (.ref a0), some (.int a1)] rfl (Nat.le_of_ble_eq_true rfl) (by decide +kernel) ?_
  unfold f_X8_isTaken
  refine go1 (M := mX8_isTaken) (pc' := 1) (r_iload_n (M := mX8_isTaken) (i := 1) rfl dX8_isTaken_0) ?_
  refine go_br (M := mX8_isTaken) (pt := 26) (pf := 4) (fun kt kf => r_if_lt (M := mX8_isTaken) dX8_isTaken_1 (by decide) kt kf) (fun hc1 => ?_) (fun hc1 => ?_)
  · refine go1 (M := mX8_isTaken) (pc' := 27) (r_iconst (M := mX8_isTaken) (v := 0) (by decide) dX8_isTaken_26) ?_
    exact go_zret (M := mX8_isTaken) rfl rfl rfl dX8_isTaken_27
  · refine go1 (M := mX8_isTaken) (pc' := 5) (r_iload_n (M := mX8_isTaken) (i := 1) rfl dX8_isTaken_4) ?_
    refine go1 (M := mX8_isTaken) (pc' := 6) (r_aload_n (M := mX8_isTaken) (i := 0) rfl dX8_isTaken_5) ?_
    refine go1 (M := mX8_isTaken) (pc' := 9) (r_getI (M := mX8_isTaken) fl_8_33 h0 rfl dX8_isTaken_6) ?_
    refine go_br (M := mX8_isTaken) (pt := 26) (pf := 12) (fun kt kf => r_icmp_ge (M := mX8_isTaken) dX8_isTaken_9 (by decide) kt kf) (fun hc2 => ?_) (fun hc2 => ?_)
    · refine go1 (M := mX8_isTaken) (pc' := 27) (r_iconst (M := mX8_isTaken) (v := 0) (by decide) dX8_isTaken_26) ?_
      exact go_zret (M := mX8_isTaken) rfl rfl rfl dX8_isTaken_27
    · refine go1 (M := mX8_isTaken) (pc' := 13) (r_aload_n (M := mX8_isTaken) (i := 0) rfl dX8_isTaken_12) ?_
      refine go1 (M := mX8_isTaken) (pc' := 16) (r_getR (M := mX8_isTaken) fl_8_15 h0 rfl (wt_some hW h0 (by decide) (by decide) rfl) dX8_isTaken_13) ?_
      have hT3 : TY S (pr S a0 1) 14 := wt hW h0 (by decide) (by decide) rfl (by decide)
      refine go1 (M := mX8_isTaken) (pc' := 17) (r_iload_n (M := mX8_isTaken) (i := 1) rfl dX8_isTaken_16) ?_
      refine go_ck (fun hi4 => ?_)
      refine go1 (M := mX8_isTaken) (pc' := 18) (r_iald (M := mX8_isTaken) hT3 hi4 dX8_isTaken_17) ?_
      refine go1 (M := mX8_isTaken) (pc' := 19) (r_iconst (M := mX8_isTaken) (v := (-1)) (by decide) dX8_isTaken_18) ?_
      refine go_br (M := mX8_isTaken) (pt := 26) (pf := 22) (fun kt kf => r_icmp_eq (M := mX8_isTaken) dX8_isTaken_19 (by decide) kt kf) (fun hc5 => ?_) (fun hc5 => ?_)
      · refine go1 (M := mX8_isTaken) (pc' := 27) (r_iconst (M := mX8_isTaken) (v := 0) (by decide) dX8_isTaken_26) ?_
        exact go_zret (M := mX8_isTaken) rfl rfl rfl dX8_isTaken_27
      · refine go1 (M := mX8_isTaken) (pc' := 23) (r_iconst (M := mX8_isTaken) (v := 1) (by decide) dX8_isTaken_22) ?_
        refine go1 (M := mX8_isTaken) (pc' := 27) (r_goto (M := mX8_isTaken) dX8_isTaken_23 (by decide)) ?_
        exact go_zret (M := mX8_isTaken) rfl rfl rfl dX8_isTaken_27
def f_X2_isFree (N : Nat) (S : SH) (a0 : Nat) (a1 : Int32) (x : DY) : Option Int32 :=
  (if a1 < 0 then some 0 else (if (nI (S.2.2.1 (pr S a0 0))) ≤ a1 then some 0 else ck S (pr S a0 0) a1 ((if (x.1 (pr S a0 0) a1.toNatClampNeg) = (-1) then some 1 else some 0))))
set_option maxHeartbeats 1000000 in
theorem t_X2_isFree {N d : Nat} {S : SH} (hW : WT S) {x : DY} {a0 : Nat} {a1 : Int32} (hd : 1 ≤ d) (h0 : TY S a0 2) : CT mX2_isFree d S [.ref a0, .int a1] x (wPI x) (f_X2_isFree N S a0 a1 x) := by
  refine CT.of [some (.ref a0), some (.int a1)] rfl (Nat.le_of_ble_eq_true rfl) (by decide +kernel) ?_
  unfold f_X2_isFree
  refine go1 (M := mX2_isFree) (pc' := 1) (r_iload_n (M := mX2_isFree) (i := 1) rfl dX2_isFree_0) ?_
  refine go_br (M := mX2_isFree) (pt := 27) (pf := 4) (fun kt kf => r_if_lt (M := mX2_isFree) dX2_isFree_1 (by decide) kt kf) (fun hc1 => ?_) (fun hc1 => ?_)
  · refine go1 (M := mX2_isFree) (pc' := 28) (r_iconst (M := mX2_isFree) (v := 0) (by decide) dX2_isFree_27) ?_
    exact go_zret (M := mX2_isFree) rfl rfl rfl dX2_isFree_28
  · refine go1 (M := mX2_isFree) (pc' := 5) (r_iload_n (M := mX2_isFree) (i := 1) rfl dX2_isFree_4) ?_
    refine go1 (M := mX2_isFree) (pc' := 6) (r_aload_n (M := mX2_isFree) (i := 0) rfl dX2_isFree_5) ?_
    refine go1 (M := mX2_isFree) (pc' := 9) (r_getR (M := mX2_isFree) fl_2_25 h0 rfl (wt_some hW h0 (by decide) (by decide) rfl) dX2_isFree_6) ?_
    have hT2 : TY S (pr S a0 0) 14 := wt hW h0 (by decide) (by decide) rfl (by decide)
    refine go1 (M := mX2_isFree) (pc' := 10) (r_alen (M := mX2_isFree) hT2 (by decide) (by decide) dX2_isFree_9) ?_
    refine go_br (M := mX2_isFree) (pt := 27) (pf := 13) (fun kt kf => r_icmp_ge (M := mX2_isFree) dX2_isFree_10 (by decide) kt kf) (fun hc3 => ?_) (fun hc3 => ?_)
    · refine go1 (M := mX2_isFree) (pc' := 28) (r_iconst (M := mX2_isFree) (v := 0) (by decide) dX2_isFree_27) ?_
      exact go_zret (M := mX2_isFree) rfl rfl rfl dX2_isFree_28
    · refine go1 (M := mX2_isFree) (pc' := 14) (r_aload_n (M := mX2_isFree) (i := 0) rfl dX2_isFree_13) ?_
      refine go1 (M := mX2_isFree) (pc' := 17) (r_getR (M := mX2_isFree) fl_2_25 h0 rfl (wt_some hW h0 (by decide) (by decide) rfl) dX2_isFree_14) ?_
      refine go1 (M := mX2_isFree) (pc' := 18) (r_iload_n (M := mX2_isFree) (i := 1) rfl dX2_isFree_17) ?_
      refine go_ck (fun hi4 => ?_)
      refine go1 (M := mX2_isFree) (pc' := 19) (r_iald (M := mX2_isFree) hT2 hi4 dX2_isFree_18) ?_
      refine go1 (M := mX2_isFree) (pc' := 20) (r_iconst (M := mX2_isFree) (v := (-1)) (by decide) dX2_isFree_19) ?_
      refine go_br (M := mX2_isFree) (pt := 23) (pf := 27) (fun kt kf => r_icmp_ne (M := mX2_isFree) dX2_isFree_20 (by decide) kf kt) (fun hc5 => ?_) (fun hc5 => ?_)
      · refine go1 (M := mX2_isFree) (pc' := 24) (r_iconst (M := mX2_isFree) (v := 1) (by decide) dX2_isFree_23) ?_
        refine go1 (M := mX2_isFree) (pc' := 28) (r_goto (M := mX2_isFree) dX2_isFree_24 (by decide)) ?_
        exact go_zret (M := mX2_isFree) rfl rfl rfl dX2_isFree_28
      · refine go1 (M := mX2_isFree) (pc' := 28) (r_iconst (M := mX2_isFree) (v := 0) (by decide) dX2_isFree_27) ?_
        exact go_zret (M := mX2_isFree) rfl rfl rfl dX2_isFree_28
def j_X6_moveTray_93 (N : Nat) (S : SH) (p0 : Nat) (p1 : Int32) (p2 : Int32) (x : DY) : Option DY :=
  Option.bind (f_X2_isFree N S (pr S p0 5) (p1 + 1) x) (fun r14 => (if r14 = 0 then some x else ck S (pr S (pr S p0 5) 0) p1 (bl (U1 x (pr S (pr S p0 5) 0) p1.toNatClampNeg (-1)) (fun x18 => ck S (pr S (pr S p0 5) 0) (p1 + 1) (bl (U1 x18 (pr S (pr S p0 5) 0) (p1 + 1).toNatClampNeg p2) (fun x20 => some x20))))))
set_option maxHeartbeats 1000000 in
theorem j_X6_moveTray_93_t {N d : Nat} {S : SH} (hW : WT S) (hd : 3 ≤ d) (p0 : Nat) (p1 : Int32) (p2 : Int32) (x : DY) (g0 : TY S p0 6) : Go mX6_moveTray d S wSV 93 [some (.ref p0), some (.int p1), some (.int p2), none] [] x (j_X6_moveTray_93 N S p0 p1 p2 x) := by
  unfold j_X6_moveTray_93
  refine go1 (M := mX6_moveTray) (pc' := 94) (r_aload_n (M := mX6_moveTray) (i := 0) rfl dX6_moveTray_93) ?_
  refine go1 (M := mX6_moveTray) (pc' := 97) (r_getR (M := mX6_moveTray) fl_6_73 g0 rfl (wt_some hW g0 (by decide) (by decide) rfl) dX6_moveTray_94) ?_
  have hT13 : TY S (pr S p0 5) 2 := wt hW g0 (by decide) (by decide) rfl (by decide)
  refine go1 (M := mX6_moveTray) (pc' := 98) (r_iload_n (M := mX6_moveTray) (i := 1) rfl dX6_moveTray_97) ?_
  refine go1 (M := mX6_moveTray) (pc' := 99) (r_iconst (M := mX6_moveTray) (v := 1) (by decide) dX6_moveTray_98) ?_
  refine go1 (M := mX6_moveTray) (pc' := 100) (r_iadd (M := mX6_moveTray) dX6_moveTray_99) ?_
  refine go_V_PI (M := mX6_moveTray) (pc' := 103) (st := []) (As := [.int (p1 + 1)]) rfl ln_6_134 lb_X2_isFree (t_X2_isFree (N := N) hW (by omega) hT13) (by omega) hT13 (Nat.le_of_ble_eq_true rfl) rfl dX6_moveTray_100 (fun r14 => ?_)
  refine go_br (M := mX6_moveTray) (pt := 128) (pf := 106) (fun kt kf => r_if_eq (M := mX6_moveTray) dX6_moveTray_103 (by decide) kt kf) (fun hc15 => ?_) (fun hc15 => ?_)
  · exact go_vret (M := mX6_moveTray) rfl rfl dX6_moveTray_128
  · refine go1 (M := mX6_moveTray) (pc' := 107) (r_aload_n (M := mX6_moveTray) (i := 0) rfl dX6_moveTray_106) ?_
    refine go1 (M := mX6_moveTray) (pc' := 110) (r_getR (M := mX6_moveTray) fl_6_73 g0 rfl (wt_some hW g0 (by decide) (by decide) rfl) dX6_moveTray_107) ?_
    refine go1 (M := mX6_moveTray) (pc' := 113) (r_getR (M := mX6_moveTray) fl_6_77 hT13 rfl (wt_some hW hT13 (by decide) (by decide) rfl) dX6_moveTray_110) ?_
    have hT16 : TY S (pr S (pr S p0 5) 0) 14 := wt hW hT13 (by decide) (by decide) rfl (by decide)
    refine go1 (M := mX6_moveTray) (pc' := 114) (r_iload_n (M := mX6_moveTray) (i := 1) rfl dX6_moveTray_113) ?_
    refine go1 (M := mX6_moveTray) (pc' := 115) (r_iconst (M := mX6_moveTray) (v := (-1)) (by decide) dX6_moveTray_114) ?_
    refine go_ck (fun hi17 => ?_)
    refine go1 (M := mX6_moveTray) (pc' := 116) (r_iast (M := mX6_moveTray) hT16 hi17 dX6_moveTray_115) ?_
    refine go_blx (fun x18 => ?_)
    refine go1 (M := mX6_moveTray) (pc' := 117) (r_aload_n (M := mX6_moveTray) (i := 0) rfl dX6_moveTray_116) ?_
    refine go1 (M := mX6_moveTray) (pc' := 120) (r_getR (M := mX6_moveTray) fl_6_73 g0 rfl (wt_some hW g0 (by decide) (by decide) rfl) dX6_moveTray_117) ?_
    refine go1 (M := mX6_moveTray) (pc' := 123) (r_getR (M := mX6_moveTray) fl_6_77 hT13 rfl (wt_some hW hT13 (by decide) (by decide) rfl) dX6_moveTray_120) ?_
    refine go1 (M := mX6_moveTray) (pc' := 124) (r_iload_n (M := mX6_moveTray) (i := 1) rfl dX6_moveTray_123) ?_
    refine go1 (M := mX6_moveTray) (pc' := 125) (r_iconst (M := mX6_moveTray) (v := 1) (by decide) dX6_moveTray_124) ?_
    refine go1 (M := mX6_moveTray) (pc' := 126) (r_iadd (M := mX6_moveTray) dX6_moveTray_125) ?_
    refine go1 (M := mX6_moveTray) (pc' := 127) (r_iload_n (M := mX6_moveTray) (i := 2) rfl dX6_moveTray_126) ?_
    refine go_ck (fun hi19 => ?_)
    refine go1 (M := mX6_moveTray) (pc' := 128) (r_iast (M := mX6_moveTray) hT16 hi19 dX6_moveTray_127) ?_
    refine go_blx (fun x20 => ?_)
    exact go_vret (M := mX6_moveTray) rfl rfl dX6_moveTray_128
def f_X6_moveTray (N : Nat) (S : SH) (a0 : Nat) (a1 : Int32) (x : DY) : Option DY :=
  ck S (pr S (pr S a0 5) 0) a1 (Option.bind (f_X4_has N S (pr S a0 3) (x.1 (pr S (pr S a0 5) 0) a1.toNatClampNeg) x) (fun r5 => (if r5 = 0 then some x else Option.bind (f_X4_growOlder N S (pr S a0 3) (x.1 (pr S (pr S a0 5) 0) a1.toNatClampNeg) x) (fun r7 => ck S (pr S (pr S a0 3) 4) (x.1 (pr S (pr S a0 5) 0) a1.toNatClampNeg) (Option.bind (f_X8_has N S (pr S a0 4) (r7.1 (pr S (pr S a0 3) 4) (x.1 (pr S (pr S a0 5) 0) a1.toNatClampNeg).toNatClampNeg) r7) (fun r11 => (if r11 = 0 then j_X6_moveTray_93 N S a0 a1 (x.1 (pr S (pr S a0 5) 0) a1.toNatClampNeg) r7 else ck S (pr S (pr S a0 4) 0) (r7.1 (pr S (pr S a0 3) 4) (x.1 (pr S (pr S a0 5) 0) a1.toNatClampNeg).toNatClampNeg) ((if (r7.1 (pr S (pr S a0 4) 0) (r7.1 (pr S (pr S a0 3) 4) (x.1 (pr S (pr S a0 5) 0) a1.toNatClampNeg).toNatClampNeg).toNatClampNeg) = a1 then Option.bind (f_X8_isTaken N S (pr S a0 4) (r7.1 (pr S (pr S a0 3) 4) (x.1 (pr S (pr S a0 5) 0) a1.toNatClampNeg).toNatClampNeg) r7) (fun r24 => (if r24 = 0 then ck S (pr S (pr S a0 5) 0) a1 (bl (U1 r7 (pr S (pr S a0 5) 0) a1.toNatClampNeg (-1)) (fun x27 => Option.bind (f_X6_discard N S a0 (x.1 (pr S (pr S a0 5) 0) a1.toNatClampNeg) x27) (fun r28 => some r28))) else some r7)) else j_X6_moveTray_93 N S a0 a1 (x.1 (pr S (pr S a0 5) 0) a1.toNatClampNeg) r7)))))))))
set_option maxHeartbeats 1000000 in
theorem t_X6_moveTray {N d : Nat} {S : SH} (hW : WT S) {x : DY} {a0 : Nat} {a1 : Int32} (hd : 3 ≤ d) (h0 : TY S a0 6) : CT mX6_moveTray d S [.ref a0, .int a1] x wSV (f_X6_moveTray N S a0 a1 x) := by
  refine CT.of [some (.ref a0), some (.int a1), none, none] rfl (Nat.le_of_ble_eq_true rfl) (by decide +kernel) ?_
  unfold f_X6_moveTray
  refine go1 (M := mX6_moveTray) (pc' := 1) (r_aload_n (M := mX6_moveTray) (i := 0) rfl dX6_moveTray_0) ?_
  refine go1 (M := mX6_moveTray) (pc' := 4) (r_getR (M := mX6_moveTray) fl_6_73 h0 rfl (wt_some hW h0 (by decide) (by decide) rfl) dX6_moveTray_1) ?_
  have hT1 : TY S (pr S a0 5) 2 := wt hW h0 (by decide) (by decide) rfl (by decide)
  refine go1 (M := mX6_moveTray) (pc' := 7) (r_getR (M := mX6_moveTray) fl_6_77 hT1 rfl (wt_some hW hT1 (by decide) (by decide) rfl) dX6_moveTray_4) ?_
  have hT2 : TY S (pr S (pr S a0 5) 0) 14 := wt hW hT1 (by decide) (by decide) rfl (by decide)
  refine go1 (M := mX6_moveTray) (pc' := 8) (r_iload_n (M := mX6_moveTray) (i := 1) rfl dX6_moveTray_7) ?_
  refine go_ck (fun hi3 => ?_)
  refine go1 (M := mX6_moveTray) (pc' := 9) (r_iald (M := mX6_moveTray) hT2 hi3 dX6_moveTray_8) ?_
  refine go1 (M := mX6_moveTray) (pc' := 10) (ls' := [some (.ref a0), some (.int a1), some (.int (x.1 (pr S (pr S a0 5) 0) a1.toNatClampNeg)), none]) (r_istore_n (M := mX6_moveTray) (ls := [some (.ref a0), some (.int a1), none, none]) (i := 2) (v := (x.1 (pr S (pr S a0 5) 0) a1.toNatClampNeg)) (by decide) rfl dX6_moveTray_9) ?_
  refine go1 (M := mX6_moveTray) (pc' := 11) (r_aload_n (M := mX6_moveTray) (i := 0) rfl dX6_moveTray_10) ?_
  refine go1 (M := mX6_moveTray) (pc' := 14) (r_getR (M := mX6_moveTray) fl_6_12 h0 rfl (wt_some hW h0 (by decide) (by decide) rfl) dX6_moveTray_11) ?_
  have hT4 : TY S (pr S a0 3) 4 := wt hW h0 (by decide) (by decide) rfl (by decide)
  refine go1 (M := mX6_moveTray) (pc' := 15) (r_iload_n (M := mX6_moveTray) (i := 2) rfl dX6_moveTray_14) ?_
  refine go_V_PI (M := mX6_moveTray) (pc' := 18) (st := []) (As := [.int (x.1 (pr S (pr S a0 5) 0) a1.toNatClampNeg)]) rfl ln_6_80 lb_X4_has (t_X4_has (N := N) hW (by omega) hT4) (by omega) hT4 (Nat.le_of_ble_eq_true rfl) rfl dX6_moveTray_15 (fun r5 => ?_)
  refine go_br (M := mX6_moveTray) (pt := 21) (pf := 22) (fun kt kf => r_if_ne (M := mX6_moveTray) dX6_moveTray_18 (by decide) kf kt) (fun hc6 => ?_) (fun hc6 => ?_)
  · exact go_vret (M := mX6_moveTray) rfl rfl dX6_moveTray_21
  · refine go1 (M := mX6_moveTray) (pc' := 23) (r_aload_n (M := mX6_moveTray) (i := 0) rfl dX6_moveTray_22) ?_
    refine go1 (M := mX6_moveTray) (pc' := 26) (r_getR (M := mX6_moveTray) fl_6_12 h0 rfl (wt_some hW h0 (by decide) (by decide) rfl) dX6_moveTray_23) ?_
    refine go1 (M := mX6_moveTray) (pc' := 27) (r_iload_n (M := mX6_moveTray) (i := 2) rfl dX6_moveTray_26) ?_
    refine go_V_SV (M := mX6_moveTray) (pc' := 30) (st := []) (As := [.int (x.1 (pr S (pr S a0 5) 0) a1.toNatClampNeg)]) rfl ln_6_162 lb_X4_growOlder (t_X4_growOlder (N := N) hW (by omega) hT4) (by omega) hT4 (Nat.le_of_ble_eq_true rfl) rfl dX6_moveTray_27 (fun r7 => ?_)
    refine go1 (M := mX6_moveTray) (pc' := 31) (r_aload_n (M := mX6_moveTray) (i := 0) rfl dX6_moveTray_30) ?_
    refine go1 (M := mX6_moveTray) (pc' := 34) (r_getR (M := mX6_moveTray) fl_6_12 h0 rfl (wt_some hW h0 (by decide) (by decide) rfl) dX6_moveTray_31) ?_
    refine go1 (M := mX6_moveTray) (pc' := 37) (r_getR (M := mX6_moveTray) fl_6_91 hT4 rfl (wt_some hW hT4 (by decide) (by decide) rfl) dX6_moveTray_34) ?_
    have hT8 : TY S (pr S (pr S a0 3) 4) 14 := wt hW hT4 (by decide) (by decide) rfl (by decide)
    refine go1 (M := mX6_moveTray) (pc' := 38) (r_iload_n (M := mX6_moveTray) (i := 2) rfl dX6_moveTray_37) ?_
    refine go_ck (fun hi9 => ?_)
    refine go1 (M := mX6_moveTray) (pc' := 39) (r_iald (M := mX6_moveTray) hT8 hi9 dX6_moveTray_38) ?_
    refine go1 (M := mX6_moveTray) (pc' := 40) (ls' := [some (.ref a0), some (.int a1), some (.int (x.1 (pr S (pr S a0 5) 0) a1.toNatClampNeg)), some (.int (r7.1 (pr S (pr S a0 3) 4) (x.1 (pr S (pr S a0 5) 0) a1.toNatClampNeg).toNatClampNeg))]) (r_istore_n (M := mX6_moveTray) (ls := [some (.ref a0), some (.int a1), some (.int (x.1 (pr S (pr S a0 5) 0) a1.toNatClampNeg)), none]) (i := 3) (v := (r7.1 (pr S (pr S a0 3) 4) (x.1 (pr S (pr S a0 5) 0) a1.toNatClampNeg).toNatClampNeg)) (by decide) rfl dX6_moveTray_39) ?_
    refine go1 (M := mX6_moveTray) (pc' := 41) (r_aload_n (M := mX6_moveTray) (i := 0) rfl dX6_moveTray_40) ?_
    refine go1 (M := mX6_moveTray) (pc' := 44) (r_getR (M := mX6_moveTray) fl_6_21 h0 rfl (wt_some hW h0 (by decide) (by decide) rfl) dX6_moveTray_41) ?_
    have hT10 : TY S (pr S a0 4) 8 := wt hW h0 (by decide) (by decide) rfl (by decide)
    refine go1 (M := mX6_moveTray) (pc' := 45) (r_iload_n (M := mX6_moveTray) (i := 3) rfl dX6_moveTray_44) ?_
    refine go_V_PI (M := mX6_moveTray) (pc' := 48) (st := []) (As := [.int (r7.1 (pr S (pr S a0 3) 4) (x.1 (pr S (pr S a0 5) 0) a1.toNatClampNeg).toNatClampNeg)]) rfl ln_6_180 lb_X8_has (t_X8_has (N := N) hW (by omega) hT10) (by omega) hT10 (Nat.le_of_ble_eq_true rfl) rfl dX6_moveTray_45 (fun r11 => ?_)
    refine go_br (M := mX6_moveTray) (pt := 93) (pf := 51) (fun kt kf => r_if_eq (M := mX6_moveTray) dX6_moveTray_48 (by decide) kt kf) (fun hc12 => ?_) (fun hc12 => ?_)
    · refine go_drop (ls' := [some (.ref a0), some (.int a1), some (.int (x.1 (pr S (pr S a0 5) 0) a1.toNatClampNeg)), none]) (And.intro rfl (And.intro rfl (And.intro rfl trivial))) ?_
      exact j_X6_moveTray_93_t (N := N) hW (by omega) a0 a1 (x.1 (pr S (pr S a0 5) 0) a1.toNatClampNeg) r7 h0
    · refine go1 (M := mX6_moveTray) (pc' := 52) (r_aload_n (M := mX6_moveTray) (i := 0) rfl dX6_moveTray_51) ?_
      refine go1 (M := mX6_moveTray) (pc' := 55) (r_getR (M := mX6_moveTray) fl_6_21 h0 rfl (wt_some hW h0 (by decide) (by decide) rfl) dX6_moveTray_52) ?_
      refine go1 (M := mX6_moveTray) (pc' := 58) (r_getR (M := mX6_moveTray) fl_6_118 hT10 rfl (wt_some hW hT10 (by decide) (by decide) rfl) dX6_moveTray_55) ?_
      have hT21 : TY S (pr S (pr S a0 4) 0) 14 := wt hW hT10 (by decide) (by decide) rfl (by decide)
      refine go1 (M := mX6_moveTray) (pc' := 59) (r_iload_n (M := mX6_moveTray) (i := 3) rfl dX6_moveTray_58) ?_
      refine go_ck (fun hi22 => ?_)
      refine go1 (M := mX6_moveTray) (pc' := 60) (r_iald (M := mX6_moveTray) hT21 hi22 dX6_moveTray_59) ?_
      refine go1 (M := mX6_moveTray) (pc' := 61) (r_iload_n (M := mX6_moveTray) (i := 1) rfl dX6_moveTray_60) ?_
      refine go_br (M := mX6_moveTray) (pt := 64) (pf := 93) (fun kt kf => r_icmp_ne (M := mX6_moveTray) dX6_moveTray_61 (by decide) kf kt) (fun hc23 => ?_) (fun hc23 => ?_)
      · refine go1 (M := mX6_moveTray) (pc' := 65) (r_aload_n (M := mX6_moveTray) (i := 0) rfl dX6_moveTray_64) ?_
        refine go1 (M := mX6_moveTray) (pc' := 68) (r_getR (M := mX6_moveTray) fl_6_21 h0 rfl (wt_some hW h0 (by decide) (by decide) rfl) dX6_moveTray_65) ?_
        refine go1 (M := mX6_moveTray) (pc' := 69) (r_iload_n (M := mX6_moveTray) (i := 3) rfl dX6_moveTray_68) ?_
        refine go_V_PI (M := mX6_moveTray) (pc' := 72) (st := []) (As := [.int (r7.1 (pr S (pr S a0 3) 4) (x.1 (pr S (pr S a0 5) 0) a1.toNatClampNeg).toNatClampNeg)]) rfl ln_6_112 lb_X8_isTaken (t_X8_isTaken (N := N) hW (by omega) hT10) (by omega) hT10 (Nat.le_of_ble_eq_true rfl) rfl dX6_moveTray_69 (fun r24 => ?_)
        refine go_br (M := mX6_moveTray) (pt := 75) (pf := 128) (fun kt kf => r_if_ne (M := mX6_moveTray) dX6_moveTray_72 (by decide) kf kt) (fun hc25 => ?_) (fun hc25 => ?_)
        · refine go1 (M := mX6_moveTray) (pc' := 76) (r_aload_n (M := mX6_moveTray) (i := 0) rfl dX6_moveTray_75) ?_
          refine go1 (M := mX6_moveTray) (pc' := 79) (r_getR (M := mX6_moveTray) fl_6_73 h0 rfl (wt_some hW h0 (by decide) (by decide) rfl) dX6_moveTray_76) ?_
          refine go1 (M := mX6_moveTray) (pc' := 82) (r_getR (M := mX6_moveTray) fl_6_77 hT1 rfl (wt_some hW hT1 (by decide) (by decide) rfl) dX6_moveTray_79) ?_
          refine go1 (M := mX6_moveTray) (pc' := 83) (r_iload_n (M := mX6_moveTray) (i := 1) rfl dX6_moveTray_82) ?_
          refine go1 (M := mX6_moveTray) (pc' := 84) (r_iconst (M := mX6_moveTray) (v := (-1)) (by decide) dX6_moveTray_83) ?_
          refine go_ck (fun hi26 => ?_)
          refine go1 (M := mX6_moveTray) (pc' := 85) (r_iast (M := mX6_moveTray) hT2 hi26 dX6_moveTray_84) ?_
          refine go_blx (fun x27 => ?_)
          refine go1 (M := mX6_moveTray) (pc' := 86) (r_aload_n (M := mX6_moveTray) (i := 0) rfl dX6_moveTray_85) ?_
          refine go1 (M := mX6_moveTray) (pc' := 87) (r_iload_n (M := mX6_moveTray) (i := 2) rfl dX6_moveTray_86) ?_
          refine go_V_SV (M := mX6_moveTray) (pc' := 90) (st := []) (As := [.int (x.1 (pr S (pr S a0 5) 0) a1.toNatClampNeg)]) rfl ln_6_174 lb_X6_discard (t_X6_discard (N := N) hW (by omega) h0) (by omega) h0 (Nat.le_of_ble_eq_true rfl) rfl dX6_moveTray_87 (fun r28 => ?_)
          refine go1 (M := mX6_moveTray) (pc' := 128) (r_goto (M := mX6_moveTray) dX6_moveTray_90 (by decide)) ?_
          exact go_vret (M := mX6_moveTray) rfl rfl dX6_moveTray_128
        · exact go_vret (M := mX6_moveTray) rfl rfl dX6_moveTray_128
      · refine go_drop (ls' := [some (.ref a0), some (.int a1), some (.int (x.1 (pr S (pr S a0 5) 0) a1.toNatClampNeg)), none]) (And.intro rfl (And.intro rfl (And.intro rfl trivial))) ?_
        exact j_X6_moveTray_93_t (N := N) hW (by omega) a0 a1 (x.1 (pr S (pr S a0 5) 0) a1.toNatClampNeg) r7 h0
def f_X2_letIn (N : Nat) (S : SH) (a0 : Nat) (x : DY) : Option DY :=
  Option.bind (f_X2_isFree N S a0 0 x) (fun r1 => (if r1 = 0 then some x else (if (x.1 a0 2) ≤ 0 then some x else (if (x.1 a0 2) ≤ (nI (S.2.2.1 (pr S a0 1))) then ck S (pr S a0 1) 0 (ck S (pr S a0 0) 0 (bl (U1 x (pr S a0 0) (0 : Int32).toNatClampNeg (x.1 (pr S a0 1) (0 : Int32).toNatClampNeg)) (fun x9 => bl (U1 x9 a0 2 ((x9.1 a0 2) - 1)) (fun x10 => cpk S (pr S a0 1) 1 (pr S a0 1) 0 (x10.1 a0 2) (bl (cpX S (pr S a0 1) 1 (pr S a0 1) 0 (x10.1 a0 2) x10) (fun x12 => some x12)))))) else some x))))
set_option maxHeartbeats 1000000 in
theorem t_X2_letIn {N d : Nat} {S : SH} (hW : WT S) {x : DY} {a0 : Nat} (hd : 2 ≤ d) (h0 : TY S a0 2) : CT mX2_letIn d S [.ref a0] x wSV (f_X2_letIn N S a0 x) := by
  refine CT.of [some (.ref a0)] rfl (Nat.le_of_ble_eq_true rfl) (by decide +kernel) ?_
  unfold f_X2_letIn
  refine go1 (M := mX2_letIn) (pc' := 1) (r_aload_n (M := mX2_letIn) (i := 0) rfl dX2_letIn_0) ?_
  refine go1 (M := mX2_letIn) (pc' := 2) (r_iconst (M := mX2_letIn) (v := 0) (by decide) dX2_letIn_1) ?_
  refine go_V_PI (M := mX2_letIn) (pc' := 5) (st := []) (As := [.int 0]) rfl ln_2_38 lb_X2_isFree (t_X2_isFree (N := N) hW (by omega) h0) (by omega) h0 (Nat.le_of_ble_eq_true rfl) rfl dX2_letIn_2 (fun r1 => ?_)
  refine go_br (M := mX2_letIn) (pt := 27) (pf := 8) (fun kt kf => r_if_eq (M := mX2_letIn) dX2_letIn_5 (by decide) kt kf) (fun hc2 => ?_) (fun hc2 => ?_)
  · exact go_vret (M := mX2_letIn) rfl rfl dX2_letIn_27
  · refine go1 (M := mX2_letIn) (pc' := 9) (r_aload_n (M := mX2_letIn) (i := 0) rfl dX2_letIn_8) ?_
    refine go1 (M := mX2_letIn) (pc' := 12) (r_getI (M := mX2_letIn) fl_2_15 h0 rfl dX2_letIn_9) ?_
    refine go_br (M := mX2_letIn) (pt := 27) (pf := 15) (fun kt kf => r_if_le (M := mX2_letIn) dX2_letIn_12 (by decide) kt kf) (fun hc3 => ?_) (fun hc3 => ?_)
    · exact go_vret (M := mX2_letIn) rfl rfl dX2_letIn_27
    · refine go1 (M := mX2_letIn) (pc' := 16) (r_aload_n (M := mX2_letIn) (i := 0) rfl dX2_letIn_15) ?_
      refine go1 (M := mX2_letIn) (pc' := 19) (r_getI (M := mX2_letIn) fl_2_15 h0 rfl dX2_letIn_16) ?_
      refine go1 (M := mX2_letIn) (pc' := 20) (r_aload_n (M := mX2_letIn) (i := 0) rfl dX2_letIn_19) ?_
      refine go1 (M := mX2_letIn) (pc' := 23) (r_getR (M := mX2_letIn) fl_2_9 h0 rfl (wt_some hW h0 (by decide) (by decide) rfl) dX2_letIn_20) ?_
      have hT4 : TY S (pr S a0 1) 14 := wt hW h0 (by decide) (by decide) rfl (by decide)
      refine go1 (M := mX2_letIn) (pc' := 24) (r_alen (M := mX2_letIn) hT4 (by decide) (by decide) dX2_letIn_23) ?_
      refine go_br (M := mX2_letIn) (pt := 28) (pf := 27) (fun kt kf => r_icmp_le (M := mX2_letIn) dX2_letIn_24 (by decide) kt kf) (fun hc5 => ?_) (fun hc5 => ?_)
      · refine go1 (M := mX2_letIn) (pc' := 29) (r_aload_n (M := mX2_letIn) (i := 0) rfl dX2_letIn_28) ?_
        refine go1 (M := mX2_letIn) (pc' := 32) (r_getR (M := mX2_letIn) fl_2_25 h0 rfl (wt_some hW h0 (by decide) (by decide) rfl) dX2_letIn_29) ?_
        have hT6 : TY S (pr S a0 0) 14 := wt hW h0 (by decide) (by decide) rfl (by decide)
        refine go1 (M := mX2_letIn) (pc' := 33) (r_iconst (M := mX2_letIn) (v := 0) (by decide) dX2_letIn_32) ?_
        refine go1 (M := mX2_letIn) (pc' := 34) (r_aload_n (M := mX2_letIn) (i := 0) rfl dX2_letIn_33) ?_
        refine go1 (M := mX2_letIn) (pc' := 37) (r_getR (M := mX2_letIn) fl_2_9 h0 rfl (wt_some hW h0 (by decide) (by decide) rfl) dX2_letIn_34) ?_
        refine go1 (M := mX2_letIn) (pc' := 38) (r_iconst (M := mX2_letIn) (v := 0) (by decide) dX2_letIn_37) ?_
        refine go_ck (fun hi7 => ?_)
        refine go1 (M := mX2_letIn) (pc' := 39) (r_iald (M := mX2_letIn) hT4 hi7 dX2_letIn_38) ?_
        refine go_ck (fun hi8 => ?_)
        refine go1 (M := mX2_letIn) (pc' := 40) (r_iast (M := mX2_letIn) hT6 hi8 dX2_letIn_39) ?_
        refine go_blx (fun x9 => ?_)
        refine go1 (M := mX2_letIn) (pc' := 41) (r_aload_n (M := mX2_letIn) (i := 0) rfl dX2_letIn_40) ?_
        refine go1 (M := mX2_letIn) (pc' := 42) (r_dup (M := mX2_letIn) rfl dX2_letIn_41) ?_
        refine go1 (M := mX2_letIn) (pc' := 45) (r_getI (M := mX2_letIn) fl_2_15 h0 rfl dX2_letIn_42) ?_
        refine go1 (M := mX2_letIn) (pc' := 46) (r_iconst (M := mX2_letIn) (v := 1) (by decide) dX2_letIn_45) ?_
        refine go1 (M := mX2_letIn) (pc' := 47) (r_isub (M := mX2_letIn) dX2_letIn_46) ?_
        refine go1 (M := mX2_letIn) (pc' := 50) (r_putI (M := mX2_letIn) fl_2_15 h0 rfl rfl dX2_letIn_47) ?_
        refine go_blx (fun x10 => ?_)
        refine go1 (M := mX2_letIn) (pc' := 51) (r_aload_n (M := mX2_letIn) (i := 0) rfl dX2_letIn_50) ?_
        refine go1 (M := mX2_letIn) (pc' := 54) (r_getR (M := mX2_letIn) fl_2_9 h0 rfl (wt_some hW h0 (by decide) (by decide) rfl) dX2_letIn_51) ?_
        refine go1 (M := mX2_letIn) (pc' := 55) (r_iconst (M := mX2_letIn) (v := 1) (by decide) dX2_letIn_54) ?_
        refine go1 (M := mX2_letIn) (pc' := 56) (r_aload_n (M := mX2_letIn) (i := 0) rfl dX2_letIn_55) ?_
        refine go1 (M := mX2_letIn) (pc' := 59) (r_getR (M := mX2_letIn) fl_2_9 h0 rfl (wt_some hW h0 (by decide) (by decide) rfl) dX2_letIn_56) ?_
        refine go1 (M := mX2_letIn) (pc' := 60) (r_iconst (M := mX2_letIn) (v := 0) (by decide) dX2_letIn_59) ?_
        refine go1 (M := mX2_letIn) (pc' := 61) (r_aload_n (M := mX2_letIn) (i := 0) rfl dX2_letIn_60) ?_
        refine go1 (M := mX2_letIn) (pc' := 64) (r_getI (M := mX2_letIn) fl_2_15 h0 rfl dX2_letIn_61) ?_
        refine go_cpk (fun hy11 => ?_)
        refine go1 (M := mX2_letIn) (pc' := 67) (r_copy (M := mX2_letIn) (tb4 125 (by decide +kernel) rfl) hT4 hT4 hy11 (Nat.le_of_ble_eq_true rfl) (by omega) dX2_letIn_64) ?_
        refine go_blx (fun x12 => ?_)
        exact go_vret (M := mX2_letIn) rfl rfl dX2_letIn_67
      · exact go_vret (M := mX2_letIn) rfl rfl dX2_letIn_27
def f_X6_isPlace (N : Nat) (S : SH) (a0 : Nat) (a1 : Int32) (x : DY) : Option Int32 :=
  (if a1 < 0 then some 0 else (if (nI (S.2.2.1 (pr S a0 2))) ≤ a1 then some 0 else (if (nI (S.2.2.1 (pr S (pr S a0 5) 0))) ≤ a1 then some 0 else some 1)))
set_option maxHeartbeats 1000000 in
theorem t_X6_isPlace {N d : Nat} {S : SH} (hW : WT S) {x : DY} {a0 : Nat} {a1 : Int32} (hd : 1 ≤ d) (h0 : TY S a0 6) : CT mX6_isPlace d S [.ref a0, .int a1] x (wPI x) (f_X6_isPlace N S a0 a1 x) := by
  refine CT.of [some (.ref a0), some (.int a1)] rfl (Nat.le_of_ble_eq_true rfl) (by decide +kernel) ?_
  unfold f_X6_isPlace
  refine go1 (M := mX6_isPlace) (pc' := 1) (r_iload_n (M := mX6_isPlace) (i := 1) rfl dX6_isPlace_0) ?_
  refine go_br (M := mX6_isPlace) (pt := 29) (pf := 4) (fun kt kf => r_if_lt (M := mX6_isPlace) dX6_isPlace_1 (by decide) kt kf) (fun hc1 => ?_) (fun hc1 => ?_)
  · refine go1 (M := mX6_isPlace) (pc' := 30) (r_iconst (M := mX6_isPlace) (v := 0) (by decide) dX6_isPlace_29) ?_
    exact go_zret (M := mX6_isPlace) rfl rfl rfl dX6_isPlace_30
  · refine go1 (M := mX6_isPlace) (pc' := 5) (r_iload_n (M := mX6_isPlace) (i := 1) rfl dX6_isPlace_4) ?_
    refine go1 (M := mX6_isPlace) (pc' := 6) (r_aload_n (M := mX6_isPlace) (i := 0) rfl dX6_isPlace_5) ?_
    refine go1 (M := mX6_isPlace) (pc' := 9) (r_getR (M := mX6_isPlace) fl_6_59 h0 rfl (wt_some hW h0 (by decide) (by decide) rfl) dX6_isPlace_6) ?_
    have hT2 : TY S (pr S a0 2) 14 := wt hW h0 (by decide) (by decide) rfl (by decide)
    refine go1 (M := mX6_isPlace) (pc' := 10) (r_alen (M := mX6_isPlace) hT2 (by decide) (by decide) dX6_isPlace_9) ?_
    refine go_br (M := mX6_isPlace) (pt := 29) (pf := 13) (fun kt kf => r_icmp_ge (M := mX6_isPlace) dX6_isPlace_10 (by decide) kt kf) (fun hc3 => ?_) (fun hc3 => ?_)
    · refine go1 (M := mX6_isPlace) (pc' := 30) (r_iconst (M := mX6_isPlace) (v := 0) (by decide) dX6_isPlace_29) ?_
      exact go_zret (M := mX6_isPlace) rfl rfl rfl dX6_isPlace_30
    · refine go1 (M := mX6_isPlace) (pc' := 14) (r_iload_n (M := mX6_isPlace) (i := 1) rfl dX6_isPlace_13) ?_
      refine go1 (M := mX6_isPlace) (pc' := 15) (r_aload_n (M := mX6_isPlace) (i := 0) rfl dX6_isPlace_14) ?_
      refine go1 (M := mX6_isPlace) (pc' := 18) (r_getR (M := mX6_isPlace) fl_6_73 h0 rfl (wt_some hW h0 (by decide) (by decide) rfl) dX6_isPlace_15) ?_
      have hT4 : TY S (pr S a0 5) 2 := wt hW h0 (by decide) (by decide) rfl (by decide)
      refine go1 (M := mX6_isPlace) (pc' := 21) (r_getR (M := mX6_isPlace) fl_6_77 hT4 rfl (wt_some hW hT4 (by decide) (by decide) rfl) dX6_isPlace_18) ?_
      have hT5 : TY S (pr S (pr S a0 5) 0) 14 := wt hW hT4 (by decide) (by decide) rfl (by decide)
      refine go1 (M := mX6_isPlace) (pc' := 22) (r_alen (M := mX6_isPlace) hT5 (by decide) (by decide) dX6_isPlace_21) ?_
      refine go_br (M := mX6_isPlace) (pt := 29) (pf := 25) (fun kt kf => r_icmp_ge (M := mX6_isPlace) dX6_isPlace_22 (by decide) kt kf) (fun hc6 => ?_) (fun hc6 => ?_)
      · refine go1 (M := mX6_isPlace) (pc' := 30) (r_iconst (M := mX6_isPlace) (v := 0) (by decide) dX6_isPlace_29) ?_
        exact go_zret (M := mX6_isPlace) rfl rfl rfl dX6_isPlace_30
      · refine go1 (M := mX6_isPlace) (pc' := 26) (r_iconst (M := mX6_isPlace) (v := 1) (by decide) dX6_isPlace_25) ?_
        refine go1 (M := mX6_isPlace) (pc' := 30) (r_goto (M := mX6_isPlace) dX6_isPlace_26 (by decide)) ?_
        exact go_zret (M := mX6_isPlace) rfl rfl rfl dX6_isPlace_30
def f_X11_isColour (N : Nat) (S : SH) (a0 : Int32) (x : DY) : Option Int32 :=
  (if a0 < 0 then some 0 else (if 5 ≤ a0 then some 0 else some 1))
set_option maxHeartbeats 1000000 in
theorem t_X11_isColour {N d : Nat} {S : SH} (hW : WT S) {x : DY} {a0 : Int32} (hd : 1 ≤ d) : CT mX11_isColour d S [.int a0] x (wPI x) (f_X11_isColour N S a0 x) := by
  refine CT.of [some (.int a0)] rfl (Nat.le_of_ble_eq_true rfl) (by decide +kernel) ?_
  unfold f_X11_isColour
  refine go1 (M := mX11_isColour) (pc' := 1) (r_iload_n (M := mX11_isColour) (i := 0) rfl dX11_isColour_0) ?_
  refine go_br (M := mX11_isColour) (pt := 13) (pf := 4) (fun kt kf => r_if_lt (M := mX11_isColour) dX11_isColour_1 (by decide) kt kf) (fun hc1 => ?_) (fun hc1 => ?_)
  · refine go1 (M := mX11_isColour) (pc' := 14) (r_iconst (M := mX11_isColour) (v := 0) (by decide) dX11_isColour_13) ?_
    exact go_zret (M := mX11_isColour) rfl rfl rfl dX11_isColour_14
  · refine go1 (M := mX11_isColour) (pc' := 5) (r_iload_n (M := mX11_isColour) (i := 0) rfl dX11_isColour_4) ?_
    refine go1 (M := mX11_isColour) (pc' := 6) (r_iconst (M := mX11_isColour) (v := 5) (by decide) dX11_isColour_5) ?_
    refine go_br (M := mX11_isColour) (pt := 13) (pf := 9) (fun kt kf => r_icmp_ge (M := mX11_isColour) dX11_isColour_6 (by decide) kt kf) (fun hc2 => ?_) (fun hc2 => ?_)
    · refine go1 (M := mX11_isColour) (pc' := 14) (r_iconst (M := mX11_isColour) (v := 0) (by decide) dX11_isColour_13) ?_
      exact go_zret (M := mX11_isColour) rfl rfl rfl dX11_isColour_14
    · refine go1 (M := mX11_isColour) (pc' := 10) (r_iconst (M := mX11_isColour) (v := 1) (by decide) dX11_isColour_9) ?_
      refine go1 (M := mX11_isColour) (pc' := 14) (r_goto (M := mX11_isColour) dX11_isColour_10 (by decide)) ?_
      exact go_zret (M := mX11_isColour) rfl rfl rfl dX11_isColour_14
def j_X6_priceOf_24 (N : Nat) (S : SH) (p0 : Nat) (q0 : Int32) (x : DY) : Option Int32 :=
  Option.bind (f_X11_isColour N S q0 x) (fun r4 => (if r4 = 0 then some 0 else ck S (pr S (pr S p0 0) 2) q0 (some (x.1 (pr S (pr S p0 0) 2) q0.toNatClampNeg))))
set_option maxHeartbeats 1000000 in
theorem j_X6_priceOf_24_t {N d : Nat} {S : SH} (hW : WT S) (hd : 2 ≤ d) (p0 : Nat) (q0 : Int32) (x : DY) (g0 : TY S p0 6) : Go mX6_priceOf d S (wPI x) 24 [some (.ref p0), none, none] [.int q0] x (j_X6_priceOf_24 N S p0 q0 x) := by
  unfold j_X6_priceOf_24
  refine go1 (M := mX6_priceOf) (pc' := 25) (ls' := [some (.ref p0), none, some (.int q0)]) (r_istore_n (M := mX6_priceOf) (ls := [some (.ref p0), none, none]) (i := 2) (v := q0) (by decide) rfl dX6_priceOf_24) ?_
  refine go1 (M := mX6_priceOf) (pc' := 26) (r_iload_n (M := mX6_priceOf) (i := 2) rfl dX6_priceOf_25) ?_
  refine go_SN_PI (M := mX6_priceOf) (pc' := 29) (st := []) (As := [.int q0]) rfl ln_6_208 lb_X11_isColour (t_X11_isColour (N := N) hW (by omega) ) (by omega) (Nat.le_of_ble_eq_true rfl) rfl dX6_priceOf_26 (fun r4 => ?_)
  refine go_br (M := mX6_priceOf) (pt := 44) (pf := 32) (fun kt kf => r_if_eq (M := mX6_priceOf) dX6_priceOf_29 (by decide) kt kf) (fun hc5 => ?_) (fun hc5 => ?_)
  · refine go1 (M := mX6_priceOf) (pc' := 45) (r_iconst (M := mX6_priceOf) (v := 0) (by decide) dX6_priceOf_44) ?_
    exact go_iret (M := mX6_priceOf) rfl rfl dX6_priceOf_45
  · refine go1 (M := mX6_priceOf) (pc' := 33) (r_aload_n (M := mX6_priceOf) (i := 0) rfl dX6_priceOf_32) ?_
    refine go1 (M := mX6_priceOf) (pc' := 36) (r_getR (M := mX6_priceOf) fl_6_45 g0 rfl (wt_some hW g0 (by decide) (by decide) rfl) dX6_priceOf_33) ?_
    have hT6 : TY S (pr S p0 0) 3 := wt hW g0 (by decide) (by decide) rfl (by decide)
    refine go1 (M := mX6_priceOf) (pc' := 39) (r_getR (M := mX6_priceOf) fl_6_211 hT6 rfl (wt_some hW hT6 (by decide) (by decide) rfl) dX6_priceOf_36) ?_
    have hT7 : TY S (pr S (pr S p0 0) 2) 14 := wt hW hT6 (by decide) (by decide) rfl (by decide)
    refine go1 (M := mX6_priceOf) (pc' := 40) (r_iload_n (M := mX6_priceOf) (i := 2) rfl dX6_priceOf_39) ?_
    refine go_ck (fun hi8 => ?_)
    refine go1 (M := mX6_priceOf) (pc' := 41) (r_iald (M := mX6_priceOf) hT7 hi8 dX6_priceOf_40) ?_
    refine go1 (M := mX6_priceOf) (pc' := 45) (r_goto (M := mX6_priceOf) dX6_priceOf_41 (by decide)) ?_
    exact go_iret (M := mX6_priceOf) rfl rfl dX6_priceOf_45
def f_X6_priceOf (N : Nat) (S : SH) (a0 : Nat) (a1 : Int32) (x : DY) : Option Int32 :=
  Option.bind (f_X4_has N S (pr S a0 3) a1 x) (fun r2 => (if r2 = 0 then j_X6_priceOf_24 N S a0 (-1) x else ck S (pr S (pr S a0 3) 1) a1 (j_X6_priceOf_24 N S a0 (x.1 (pr S (pr S a0 3) 1) a1.toNatClampNeg) x)))
set_option maxHeartbeats 1000000 in
theorem t_X6_priceOf {N d : Nat} {S : SH} (hW : WT S) {x : DY} {a0 : Nat} {a1 : Int32} (hd : 2 ≤ d) (h0 : TY S a0 6) : CT mX6_priceOf d S [.ref a0, .int a1] x (wPI x) (f_X6_priceOf N S a0 a1 x) := by
  refine CT.of [some (.ref a0), some (.int a1), none] rfl (Nat.le_of_ble_eq_true rfl) (by decide +kernel) ?_
  unfold f_X6_priceOf
  refine go1 (M := mX6_priceOf) (pc' := 1) (r_aload_n (M := mX6_priceOf) (i := 0) rfl dX6_priceOf_0) ?_
  refine go1 (M := mX6_priceOf) (pc' := 4) (r_getR (M := mX6_priceOf) fl_6_12 h0 rfl (wt_some hW h0 (by decide) (by decide) rfl) dX6_priceOf_1) ?_
  have hT1 : TY S (pr S a0 3) 4 := wt hW h0 (by decide) (by decide) rfl (by decide)
  refine go1 (M := mX6_priceOf) (pc' := 5) (r_iload_n (M := mX6_priceOf) (i := 1) rfl dX6_priceOf_4) ?_
  refine go_V_PI (M := mX6_priceOf) (pc' := 8) (st := []) (As := [.int a1]) rfl ln_6_80 lb_X4_has (t_X4_has (N := N) hW (by omega) hT1) (by omega) hT1 (Nat.le_of_ble_eq_true rfl) rfl dX6_priceOf_5 (fun r2 => ?_)
  refine go_br (M := mX6_priceOf) (pt := 23) (pf := 11) (fun kt kf => r_if_eq (M := mX6_priceOf) dX6_priceOf_8 (by decide) kt kf) (fun hc3 => ?_) (fun hc3 => ?_)
  · refine go1 (M := mX6_priceOf) (pc' := 24) (r_iconst (M := mX6_priceOf) (v := (-1)) (by decide) dX6_priceOf_23) ?_
    refine go_drop (ls' := [some (.ref a0), none, none]) (And.intro rfl trivial) ?_
    exact j_X6_priceOf_24_t (N := N) hW (by omega) a0 (-1) x h0
  · refine go1 (M := mX6_priceOf) (pc' := 12) (r_aload_n (M := mX6_priceOf) (i := 0) rfl dX6_priceOf_11) ?_
    refine go1 (M := mX6_priceOf) (pc' := 15) (r_getR (M := mX6_priceOf) fl_6_12 h0 rfl (wt_some hW h0 (by decide) (by decide) rfl) dX6_priceOf_12) ?_
    refine go1 (M := mX6_priceOf) (pc' := 18) (r_getR (M := mX6_priceOf) fl_6_207 hT1 rfl (wt_some hW hT1 (by decide) (by decide) rfl) dX6_priceOf_15) ?_
    have hT9 : TY S (pr S (pr S a0 3) 1) 14 := wt hW hT1 (by decide) (by decide) rfl (by decide)
    refine go1 (M := mX6_priceOf) (pc' := 19) (r_iload_n (M := mX6_priceOf) (i := 1) rfl dX6_priceOf_18) ?_
    refine go_ck (fun hi10 => ?_)
    refine go1 (M := mX6_priceOf) (pc' := 20) (r_iald (M := mX6_priceOf) hT9 hi10 dX6_priceOf_19) ?_
    refine go1 (M := mX6_priceOf) (pc' := 24) (r_goto (M := mX6_priceOf) dX6_priceOf_20 (by decide)) ?_
    refine go_drop (ls' := [some (.ref a0), none, none]) (And.intro rfl trivial) ?_
    exact j_X6_priceOf_24_t (N := N) hW (by omega) a0 (x.1 (pr S (pr S a0 3) 1) a1.toNatClampNeg) x h0
def f_X6_eat (N : Nat) (S : SH) (a0 : Nat) (a1 : Int32) (a2 : Int32) (x : DY) : Option DY :=
  Option.bind (f_X4_become N S (pr S a0 3) a2 2 a1 x) (fun r2 => ck S (pr S (pr S a0 4) 3) a1 (ck S (pr S (pr S a0 4) 3) a1 (bl (U1 r2 (pr S (pr S a0 4) 3) a1.toNatClampNeg ((r2.1 (pr S (pr S a0 4) 3) a1.toNatClampNeg) + 1)) (fun x7 => ck S (pr S (pr S a0 4) 4) a1 (bl (U1 x7 (pr S (pr S a0 4) 4) a1.toNatClampNeg 0) (fun x10 => bl (U1 x10 a0 9 ((x10.1 a0 9) + 1)) (fun x11 => Option.bind (f_X6_priceOf N S a0 a2 x11) (fun r12 => bl (U2 x11 a0 10 ((x11.2 a0 10) + ((r12).toInt64))) (fun x13 => some x13)))))))))
set_option maxHeartbeats 1000000 in
theorem t_X6_eat {N d : Nat} {S : SH} (hW : WT S) {x : DY} {a0 : Nat} {a1 : Int32} {a2 : Int32} (hd : 3 ≤ d) (h0 : TY S a0 6) : CT mX6_eat d S [.ref a0, .int a1, .int a2] x wSV (f_X6_eat N S a0 a1 a2 x) := by
  refine CT.of [some (.ref a0), some (.int a1), some (.int a2)] rfl (Nat.le_of_ble_eq_true rfl) (by decide +kernel) ?_
  unfold f_X6_eat
  refine go1 (M := mX6_eat) (pc' := 1) (r_aload_n (M := mX6_eat) (i := 0) rfl dX6_eat_0) ?_
  refine go1 (M := mX6_eat) (pc' := 4) (r_getR (M := mX6_eat) fl_6_12 h0 rfl (wt_some hW h0 (by decide) (by decide) rfl) dX6_eat_1) ?_
  have hT1 : TY S (pr S a0 3) 4 := wt hW h0 (by decide) (by decide) rfl (by decide)
  refine go1 (M := mX6_eat) (pc' := 5) (r_iload_n (M := mX6_eat) (i := 2) rfl dX6_eat_4) ?_
  refine go1 (M := mX6_eat) (pc' := 6) (r_iconst (M := mX6_eat) (v := 2) (by decide) dX6_eat_5) ?_
  refine go1 (M := mX6_eat) (pc' := 7) (r_iload_n (M := mX6_eat) (i := 1) rfl dX6_eat_6) ?_
  refine go_V_SV (M := mX6_eat) (pc' := 10) (st := []) (As := [.int a2, .int 2, .int a1]) rfl ln_6_124 lb_X4_become (t_X4_become (N := N) hW (by omega) hT1) (by omega) hT1 (Nat.le_of_ble_eq_true rfl) rfl dX6_eat_7 (fun r2 => ?_)
  refine go1 (M := mX6_eat) (pc' := 11) (r_aload_n (M := mX6_eat) (i := 0) rfl dX6_eat_10) ?_
  refine go1 (M := mX6_eat) (pc' := 14) (r_getR (M := mX6_eat) fl_6_21 h0 rfl (wt_some hW h0 (by decide) (by decide) rfl) dX6_eat_11) ?_
  have hT3 : TY S (pr S a0 4) 8 := wt hW h0 (by decide) (by decide) rfl (by decide)
  refine go1 (M := mX6_eat) (pc' := 17) (r_getR (M := mX6_eat) fl_6_128 hT3 rfl (wt_some hW hT3 (by decide) (by decide) rfl) dX6_eat_14) ?_
  have hT4 : TY S (pr S (pr S a0 4) 3) 14 := wt hW hT3 (by decide) (by decide) rfl (by decide)
  refine go1 (M := mX6_eat) (pc' := 18) (r_iload_n (M := mX6_eat) (i := 1) rfl dX6_eat_17) ?_
  refine go1 (M := mX6_eat) (pc' := 19) (r_dup2 (M := mX6_eat) rfl rfl dX6_eat_18) ?_
  refine go_ck (fun hi5 => ?_)
  refine go1 (M := mX6_eat) (pc' := 20) (r_iald (M := mX6_eat) hT4 hi5 dX6_eat_19) ?_
  refine go1 (M := mX6_eat) (pc' := 21) (r_iconst (M := mX6_eat) (v := 1) (by decide) dX6_eat_20) ?_
  refine go1 (M := mX6_eat) (pc' := 22) (r_iadd (M := mX6_eat) dX6_eat_21) ?_
  refine go_ck (fun hi6 => ?_)
  refine go1 (M := mX6_eat) (pc' := 23) (r_iast (M := mX6_eat) hT4 hi6 dX6_eat_22) ?_
  refine go_blx (fun x7 => ?_)
  refine go1 (M := mX6_eat) (pc' := 24) (r_aload_n (M := mX6_eat) (i := 0) rfl dX6_eat_23) ?_
  refine go1 (M := mX6_eat) (pc' := 27) (r_getR (M := mX6_eat) fl_6_21 h0 rfl (wt_some hW h0 (by decide) (by decide) rfl) dX6_eat_24) ?_
  refine go1 (M := mX6_eat) (pc' := 30) (r_getR (M := mX6_eat) fl_6_188 hT3 rfl (wt_some hW hT3 (by decide) (by decide) rfl) dX6_eat_27) ?_
  have hT8 : TY S (pr S (pr S a0 4) 4) 14 := wt hW hT3 (by decide) (by decide) rfl (by decide)
  refine go1 (M := mX6_eat) (pc' := 31) (r_iload_n (M := mX6_eat) (i := 1) rfl dX6_eat_30) ?_
  refine go1 (M := mX6_eat) (pc' := 32) (r_iconst (M := mX6_eat) (v := 0) (by decide) dX6_eat_31) ?_
  refine go_ck (fun hi9 => ?_)
  refine go1 (M := mX6_eat) (pc' := 33) (r_iast (M := mX6_eat) hT8 hi9 dX6_eat_32) ?_
  refine go_blx (fun x10 => ?_)
  refine go1 (M := mX6_eat) (pc' := 34) (r_aload_n (M := mX6_eat) (i := 0) rfl dX6_eat_33) ?_
  refine go1 (M := mX6_eat) (pc' := 35) (r_dup (M := mX6_eat) rfl dX6_eat_34) ?_
  refine go1 (M := mX6_eat) (pc' := 38) (r_getI (M := mX6_eat) fl_6_38 h0 rfl dX6_eat_35) ?_
  refine go1 (M := mX6_eat) (pc' := 39) (r_iconst (M := mX6_eat) (v := 1) (by decide) dX6_eat_38) ?_
  refine go1 (M := mX6_eat) (pc' := 40) (r_iadd (M := mX6_eat) dX6_eat_39) ?_
  refine go1 (M := mX6_eat) (pc' := 43) (r_putI (M := mX6_eat) fl_6_38 h0 rfl rfl dX6_eat_40) ?_
  refine go_blx (fun x11 => ?_)
  refine go1 (M := mX6_eat) (pc' := 44) (r_aload_n (M := mX6_eat) (i := 0) rfl dX6_eat_43) ?_
  refine go1 (M := mX6_eat) (pc' := 45) (r_dup (M := mX6_eat) rfl dX6_eat_44) ?_
  refine go1 (M := mX6_eat) (pc' := 48) (r_getL (M := mX6_eat) fl_6_41 h0 rfl dX6_eat_45) ?_
  refine go1 (M := mX6_eat) (pc' := 49) (r_aload_n (M := mX6_eat) (i := 0) rfl dX6_eat_48) ?_
  refine go1 (M := mX6_eat) (pc' := 50) (r_iload_n (M := mX6_eat) (i := 2) rfl dX6_eat_49) ?_
  refine go_V_PI (M := mX6_eat) (pc' := 53) (st := [.long (x11.2 a0 10), .ref a0]) (As := [.int a2]) rfl ln_6_191 lb_X6_priceOf (t_X6_priceOf (N := N) hW (by omega) h0) (by omega) h0 (Nat.le_of_ble_eq_true rfl) rfl dX6_eat_50 (fun r12 => ?_)
  refine go1 (M := mX6_eat) (pc' := 54) (r_i2l (M := mX6_eat) dX6_eat_53) ?_
  refine go1 (M := mX6_eat) (pc' := 55) (r_ladd (M := mX6_eat) dX6_eat_54) ?_
  refine go1 (M := mX6_eat) (pc' := 58) (r_putL (M := mX6_eat) fl_6_41 h0 rfl rfl dX6_eat_55) ?_
  refine go_blx (fun x13 => ?_)
  exact go_vret (M := mX6_eat) rfl rfl dX6_eat_58
def f_X8_likesOf (N : Nat) (S : SH) (a0 : Nat) (a1 : Int32) (a2 : Int32) (x : DY) : Option Int32 :=
  (if a1 < 0 then some 0 else (if (x.1 a0 7) ≤ a1 then some 0 else (if a2 < 0 then some 0 else (if a2 < (nI (S.2.2.1 2)) then ck S (pr S a0 2) a1 (ck S 2 a2 (dv (x.1 2 a2.toNatClampNeg) (some (((x.1 (pr S a0 2) a1.toNatClampNeg) / (x.1 2 a2.toNatClampNeg)) - ((x.1 (pr S a0 2) a1.toNatClampNeg) / (x.1 2 a2.toNatClampNeg)) / 10 * 10)))) else some 0))))
set_option maxHeartbeats 1000000 in
theorem t_X8_likesOf {N d : Nat} {S : SH} (hW : WT S) {x : DY} {a0 : Nat} {a1 : Int32} {a2 : Int32} (hd : 1 ≤ d) (h0 : TY S a0 8) : CT mX8_likesOf d S [.ref a0, .int a1, .int a2] x (wPI x) (f_X8_likesOf N S a0 a1 a2 x) := by
  refine CT.of [some (.ref a0), some (.int a1), some (.int a2)] rfl (Nat.le_of_ble_eq_true rfl) (by decide +kernel) ?_
  unfold f_X8_likesOf
  refine go1 (M := mX8_likesOf) (pc' := 1) (r_iload_n (M := mX8_likesOf) (i := 1) rfl dX8_likesOf_0) ?_
  refine go_br (M := mX8_likesOf) (pt := 24) (pf := 4) (fun kt kf => r_if_lt (M := mX8_likesOf) dX8_likesOf_1 (by decide) kt kf) (fun hc1 => ?_) (fun hc1 => ?_)
  · refine go1 (M := mX8_likesOf) (pc' := 25) (r_iconst (M := mX8_likesOf) (v := 0) (by decide) dX8_likesOf_24) ?_
    exact go_iret (M := mX8_likesOf) rfl rfl dX8_likesOf_25
  · refine go1 (M := mX8_likesOf) (pc' := 5) (r_iload_n (M := mX8_likesOf) (i := 1) rfl dX8_likesOf_4) ?_
    refine go1 (M := mX8_likesOf) (pc' := 6) (r_aload_n (M := mX8_likesOf) (i := 0) rfl dX8_likesOf_5) ?_
    refine go1 (M := mX8_likesOf) (pc' := 9) (r_getI (M := mX8_likesOf) fl_8_33 h0 rfl dX8_likesOf_6) ?_
    refine go_br (M := mX8_likesOf) (pt := 24) (pf := 12) (fun kt kf => r_icmp_ge (M := mX8_likesOf) dX8_likesOf_9 (by decide) kt kf) (fun hc2 => ?_) (fun hc2 => ?_)
    · refine go1 (M := mX8_likesOf) (pc' := 25) (r_iconst (M := mX8_likesOf) (v := 0) (by decide) dX8_likesOf_24) ?_
      exact go_iret (M := mX8_likesOf) rfl rfl dX8_likesOf_25
    · refine go1 (M := mX8_likesOf) (pc' := 13) (r_iload_n (M := mX8_likesOf) (i := 2) rfl dX8_likesOf_12) ?_
      refine go_br (M := mX8_likesOf) (pt := 24) (pf := 16) (fun kt kf => r_if_lt (M := mX8_likesOf) dX8_likesOf_13 (by decide) kt kf) (fun hc3 => ?_) (fun hc3 => ?_)
      · refine go1 (M := mX8_likesOf) (pc' := 25) (r_iconst (M := mX8_likesOf) (v := 0) (by decide) dX8_likesOf_24) ?_
        exact go_iret (M := mX8_likesOf) rfl rfl dX8_likesOf_25
      · refine go1 (M := mX8_likesOf) (pc' := 17) (r_iload_n (M := mX8_likesOf) (i := 2) rfl dX8_likesOf_16) ?_
        refine go1 (M := mX8_likesOf) (pc' := 20) (r_getst (M := mX8_likesOf) (a := 2) (by decide) (tb3 65 (by decide +kernel) rfl) dX8_likesOf_17) ?_
        refine go1 (M := mX8_likesOf) (pc' := 21) (r_alenX2 (M := mX8_likesOf) (Or.inl (by decide)) dX8_likesOf_20) ?_
        refine go_br (M := mX8_likesOf) (pt := 26) (pf := 24) (fun kt kf => r_icmp_lt (M := mX8_likesOf) dX8_likesOf_21 (by decide) kt kf) (fun hc4 => ?_) (fun hc4 => ?_)
        · refine go1 (M := mX8_likesOf) (pc' := 27) (r_aload_n (M := mX8_likesOf) (i := 0) rfl dX8_likesOf_26) ?_
          refine go1 (M := mX8_likesOf) (pc' := 30) (r_getR (M := mX8_likesOf) fl_8_18 h0 rfl (wt_some hW h0 (by decide) (by decide) rfl) dX8_likesOf_27) ?_
          have hT5 : TY S (pr S a0 2) 14 := wt hW h0 (by decide) (by decide) rfl (by decide)
          refine go1 (M := mX8_likesOf) (pc' := 31) (r_iload_n (M := mX8_likesOf) (i := 1) rfl dX8_likesOf_30) ?_
          refine go_ck (fun hi6 => ?_)
          refine go1 (M := mX8_likesOf) (pc' := 32) (r_iald (M := mX8_likesOf) hT5 hi6 dX8_likesOf_31) ?_
          refine go1 (M := mX8_likesOf) (pc' := 35) (r_getst (M := mX8_likesOf) (a := 2) (by decide) (tb3 65 (by decide +kernel) rfl) dX8_likesOf_32) ?_
          refine go1 (M := mX8_likesOf) (pc' := 36) (r_iload_n (M := mX8_likesOf) (i := 2) rfl dX8_likesOf_35) ?_
          refine go_ck (fun hi7 => ?_)
          refine go1 (M := mX8_likesOf) (pc' := 37) (r_ialdX2 (M := mX8_likesOf) (Or.inl (by decide)) hi7 dX8_likesOf_36) ?_
          refine go_dv (fun hz8 => ?_)
          refine go1 (M := mX8_likesOf) (pc' := 38) (r_idiv (M := mX8_likesOf) hz8 dX8_likesOf_37) ?_
          refine go1 (M := mX8_likesOf) (pc' := 40) (r_bipush (M := mX8_likesOf) (v := 10) (by decide) dX8_likesOf_38) ?_
          refine go1 (M := mX8_likesOf) (pc' := 41) (r_irem (M := mX8_likesOf) (by decide) dX8_likesOf_40) ?_
          exact go_iret (M := mX8_likesOf) rfl rfl dX8_likesOf_41
        · refine go1 (M := mX8_likesOf) (pc' := 25) (r_iconst (M := mX8_likesOf) (v := 0) (by decide) dX8_likesOf_24) ?_
          exact go_iret (M := mX8_likesOf) rfl rfl dX8_likesOf_25
def j_X6_likingOf_54 (N : Nat) (S : SH) (p0 : Nat) (p1 : Int32) (p2 : Int32) (p4 : Int32) (q0 : Int32) (x : DY) : Option Int32 :=
  ck S (pr S (pr S p0 4) 1) p1 ((if (x.1 (pr S (pr S p0 4) 1) p1.toNatClampNeg) = 1 then some (p4 + q0) else (if (x.1 (pr S (pr S p0 4) 1) p1.toNatClampNeg) = 2 then some (p4 + 1) else (if (x.1 (pr S (pr S p0 4) 1) p1.toNatClampNeg) = 3 then ck S (pr S (pr S p0 3) 2) p2 (some (p4 - ((x.1 (pr S (pr S p0 3) 2) p2.toNatClampNeg) / 4))) else (if (x.1 (pr S (pr S p0 4) 1) p1.toNatClampNeg) = 4 then ck S (pr S (pr S p0 4) 4) p1 (some ((p4 + 1) + ((x.1 (pr S (pr S p0 4) 4) p1.toNatClampNeg) / 5))) else (if (x.1 (pr S (pr S p0 4) 1) p1.toNatClampNeg) = 5 then ck S (pr S (pr S p0 4) 3) p1 ((if 2 ≤ (x.1 (pr S (pr S p0 4) 3) p1.toNatClampNeg) then some p4 else some (p4 + q0))) else some p4))))))
set_option maxHeartbeats 1000000 in
theorem j_X6_likingOf_54_t {N d : Nat} {S : SH} (hW : WT S) (hd : 2 ≤ d) (p0 : Nat) (p1 : Int32) (p2 : Int32) (p4 : Int32) (q0 : Int32) (x : DY) (g0 : TY S p0 6) : Go mX6_likingOf d S (wPI x) 54 [some (.ref p0), some (.int p1), some (.int p2), none, some (.int p4), none] [.int q0] x (j_X6_likingOf_54 N S p0 p1 p2 p4 q0 x) := by
  unfold j_X6_likingOf_54
  refine go1 (M := mX6_likingOf) (pc' := 56) (ls' := [some (.ref p0), some (.int p1), some (.int p2), none, some (.int p4), some (.int q0)]) (r_istore (M := mX6_likingOf) (ls := [some (.ref p0), some (.int p1), some (.int p2), none, some (.int p4), none]) (i := 5) (v := q0) (by decide) rfl dX6_likingOf_54) ?_
  refine go1 (M := mX6_likingOf) (pc' := 57) (r_aload_n (M := mX6_likingOf) (i := 0) rfl dX6_likingOf_56) ?_
  refine go1 (M := mX6_likingOf) (pc' := 60) (r_getR (M := mX6_likingOf) fl_6_21 g0 rfl (wt_some hW g0 (by decide) (by decide) rfl) dX6_likingOf_57) ?_
  have hT11 : TY S (pr S p0 4) 8 := wt hW g0 (by decide) (by decide) rfl (by decide)
  refine go1 (M := mX6_likingOf) (pc' := 63) (r_getR (M := mX6_likingOf) fl_6_217 hT11 rfl (wt_some hW hT11 (by decide) (by decide) rfl) dX6_likingOf_60) ?_
  have hT12 : TY S (pr S (pr S p0 4) 1) 14 := wt hW hT11 (by decide) (by decide) rfl (by decide)
  refine go1 (M := mX6_likingOf) (pc' := 64) (r_iload_n (M := mX6_likingOf) (i := 1) rfl dX6_likingOf_63) ?_
  refine go_ck (fun hi13 => ?_)
  refine go1 (M := mX6_likingOf) (pc' := 65) (r_iald (M := mX6_likingOf) hT12 hi13 dX6_likingOf_64) ?_
  refine go_case (fun hk14 => ?_) (fun hk14 => ?_)
  · refine go1 (M := mX6_likingOf) (pc' := 100) (r_tsw (M := mX6_likingOf) (off := 35) dX6_likingOf_65 (by rw [hk14]; decide) (by decide)) ?_
    refine go1 (M := mX6_likingOf) (pc' := 102) (r_iload (M := mX6_likingOf) (i := 4) rfl dX6_likingOf_100) ?_
    refine go1 (M := mX6_likingOf) (pc' := 104) (r_iload (M := mX6_likingOf) (i := 5) rfl dX6_likingOf_102) ?_
    refine go1 (M := mX6_likingOf) (pc' := 105) (r_iadd (M := mX6_likingOf) dX6_likingOf_104) ?_
    exact go_iret (M := mX6_likingOf) rfl rfl dX6_likingOf_105
  · refine go_case (fun hk15 => ?_) (fun hk15 => ?_)
    · refine go1 (M := mX6_likingOf) (pc' := 106) (r_tsw (M := mX6_likingOf) (off := 41) dX6_likingOf_65 (by rw [hk15]; decide) (by decide)) ?_
      refine go1 (M := mX6_likingOf) (pc' := 108) (r_iload (M := mX6_likingOf) (i := 4) rfl dX6_likingOf_106) ?_
      refine go1 (M := mX6_likingOf) (pc' := 109) (r_iconst (M := mX6_likingOf) (v := 1) (by decide) dX6_likingOf_108) ?_
      refine go1 (M := mX6_likingOf) (pc' := 110) (r_iadd (M := mX6_likingOf) dX6_likingOf_109) ?_
      exact go_iret (M := mX6_likingOf) rfl rfl dX6_likingOf_110
    · refine go_case (fun hk16 => ?_) (fun hk16 => ?_)
      · refine go1 (M := mX6_likingOf) (pc' := 111) (r_tsw (M := mX6_likingOf) (off := 46) dX6_likingOf_65 (by rw [hk16]; decide) (by decide)) ?_
        refine go1 (M := mX6_likingOf) (pc' := 113) (r_iload (M := mX6_likingOf) (i := 4) rfl dX6_likingOf_111) ?_
        refine go1 (M := mX6_likingOf) (pc' := 114) (r_aload_n (M := mX6_likingOf) (i := 0) rfl dX6_likingOf_113) ?_
        refine go1 (M := mX6_likingOf) (pc' := 117) (r_getR (M := mX6_likingOf) fl_6_12 g0 rfl (wt_some hW g0 (by decide) (by decide) rfl) dX6_likingOf_114) ?_
        have hT17 : TY S (pr S p0 3) 4 := wt hW g0 (by decide) (by decide) rfl (by decide)
        refine go1 (M := mX6_likingOf) (pc' := 120) (r_getR (M := mX6_likingOf) fl_6_168 hT17 rfl (wt_some hW hT17 (by decide) (by decide) rfl) dX6_likingOf_117) ?_
        have hT18 : TY S (pr S (pr S p0 3) 2) 14 := wt hW hT17 (by decide) (by decide) rfl (by decide)
        refine go1 (M := mX6_likingOf) (pc' := 121) (r_iload_n (M := mX6_likingOf) (i := 2) rfl dX6_likingOf_120) ?_
        refine go_ck (fun hi19 => ?_)
        refine go1 (M := mX6_likingOf) (pc' := 122) (r_iald (M := mX6_likingOf) hT18 hi19 dX6_likingOf_121) ?_
        refine go1 (M := mX6_likingOf) (pc' := 123) (r_iconst (M := mX6_likingOf) (v := 4) (by decide) dX6_likingOf_122) ?_
        refine go1 (M := mX6_likingOf) (pc' := 124) (r_idiv (M := mX6_likingOf) (by decide) dX6_likingOf_123) ?_
        refine go1 (M := mX6_likingOf) (pc' := 125) (r_isub (M := mX6_likingOf) dX6_likingOf_124) ?_
        exact go_iret (M := mX6_likingOf) rfl rfl dX6_likingOf_125
      · refine go_case (fun hk20 => ?_) (fun hk20 => ?_)
        · refine go1 (M := mX6_likingOf) (pc' := 126) (r_tsw (M := mX6_likingOf) (off := 61) dX6_likingOf_65 (by rw [hk20]; decide) (by decide)) ?_
          refine go1 (M := mX6_likingOf) (pc' := 128) (r_iload (M := mX6_likingOf) (i := 4) rfl dX6_likingOf_126) ?_
          refine go1 (M := mX6_likingOf) (pc' := 129) (r_iconst (M := mX6_likingOf) (v := 1) (by decide) dX6_likingOf_128) ?_
          refine go1 (M := mX6_likingOf) (pc' := 130) (r_iadd (M := mX6_likingOf) dX6_likingOf_129) ?_
          refine go1 (M := mX6_likingOf) (pc' := 131) (r_aload_n (M := mX6_likingOf) (i := 0) rfl dX6_likingOf_130) ?_
          refine go1 (M := mX6_likingOf) (pc' := 134) (r_getR (M := mX6_likingOf) fl_6_21 g0 rfl (wt_some hW g0 (by decide) (by decide) rfl) dX6_likingOf_131) ?_
          refine go1 (M := mX6_likingOf) (pc' := 137) (r_getR (M := mX6_likingOf) fl_6_188 hT11 rfl (wt_some hW hT11 (by decide) (by decide) rfl) dX6_likingOf_134) ?_
          have hT21 : TY S (pr S (pr S p0 4) 4) 14 := wt hW hT11 (by decide) (by decide) rfl (by decide)
          refine go1 (M := mX6_likingOf) (pc' := 138) (r_iload_n (M := mX6_likingOf) (i := 1) rfl dX6_likingOf_137) ?_
          refine go_ck (fun hi22 => ?_)
          refine go1 (M := mX6_likingOf) (pc' := 139) (r_iald (M := mX6_likingOf) hT21 hi22 dX6_likingOf_138) ?_
          refine go1 (M := mX6_likingOf) (pc' := 140) (r_iconst (M := mX6_likingOf) (v := 5) (by decide) dX6_likingOf_139) ?_
          refine go1 (M := mX6_likingOf) (pc' := 141) (r_idiv (M := mX6_likingOf) (by decide) dX6_likingOf_140) ?_
          refine go1 (M := mX6_likingOf) (pc' := 142) (r_iadd (M := mX6_likingOf) dX6_likingOf_141) ?_
          exact go_iret (M := mX6_likingOf) rfl rfl dX6_likingOf_142
        · refine go_case (fun hk23 => ?_) (fun hk23 => ?_)
          · refine go1 (M := mX6_likingOf) (pc' := 143) (r_tsw (M := mX6_likingOf) (off := 78) dX6_likingOf_65 (by rw [hk23]; decide) (by decide)) ?_
            refine go1 (M := mX6_likingOf) (pc' := 144) (r_aload_n (M := mX6_likingOf) (i := 0) rfl dX6_likingOf_143) ?_
            refine go1 (M := mX6_likingOf) (pc' := 147) (r_getR (M := mX6_likingOf) fl_6_21 g0 rfl (wt_some hW g0 (by decide) (by decide) rfl) dX6_likingOf_144) ?_
            refine go1 (M := mX6_likingOf) (pc' := 150) (r_getR (M := mX6_likingOf) fl_6_128 hT11 rfl (wt_some hW hT11 (by decide) (by decide) rfl) dX6_likingOf_147) ?_
            have hT24 : TY S (pr S (pr S p0 4) 3) 14 := wt hW hT11 (by decide) (by decide) rfl (by decide)
            refine go1 (M := mX6_likingOf) (pc' := 151) (r_iload_n (M := mX6_likingOf) (i := 1) rfl dX6_likingOf_150) ?_
            refine go_ck (fun hi25 => ?_)
            refine go1 (M := mX6_likingOf) (pc' := 152) (r_iald (M := mX6_likingOf) hT24 hi25 dX6_likingOf_151) ?_
            refine go1 (M := mX6_likingOf) (pc' := 153) (r_iconst (M := mX6_likingOf) (v := 2) (by decide) dX6_likingOf_152) ?_
            refine go_br (M := mX6_likingOf) (pt := 164) (pf := 156) (fun kt kf => r_icmp_ge (M := mX6_likingOf) dX6_likingOf_153 (by decide) kt kf) (fun hc26 => ?_) (fun hc26 => ?_)
            · refine go1 (M := mX6_likingOf) (pc' := 166) (r_iload (M := mX6_likingOf) (i := 4) rfl dX6_likingOf_164) ?_
              exact go_iret (M := mX6_likingOf) rfl rfl dX6_likingOf_166
            · refine go1 (M := mX6_likingOf) (pc' := 158) (r_iload (M := mX6_likingOf) (i := 4) rfl dX6_likingOf_156) ?_
              refine go1 (M := mX6_likingOf) (pc' := 160) (r_iload (M := mX6_likingOf) (i := 5) rfl dX6_likingOf_158) ?_
              refine go1 (M := mX6_likingOf) (pc' := 161) (r_iadd (M := mX6_likingOf) dX6_likingOf_160) ?_
              refine go1 (M := mX6_likingOf) (pc' := 166) (r_goto (M := mX6_likingOf) dX6_likingOf_161 (by decide)) ?_
              exact go_iret (M := mX6_likingOf) rfl rfl dX6_likingOf_166
          · have hq0 := lv_neT hk14 (show (1 : Int32).toInt = (1 : Int) by decide)
            have hq1 := lv_neT hk15 (show (2 : Int32).toInt = (2 : Int) by decide)
            have hq2 := lv_neT hk16 (show (3 : Int32).toInt = (3 : Int) by decide)
            have hq3 := lv_neT hk20 (show (4 : Int32).toInt = (4 : Int) by decide)
            have hq4 := lv_neT hk23 (show (5 : Int32).toInt = (5 : Int) by decide)
            refine go1 (M := mX6_likingOf) (pc' := 167) (r_tswO (M := mX6_likingOf) dX6_likingOf_65 (by omega) (by decide)) ?_
            refine go1 (M := mX6_likingOf) (pc' := 169) (r_iload (M := mX6_likingOf) (i := 4) rfl dX6_likingOf_167) ?_
            exact go_iret (M := mX6_likingOf) rfl rfl dX6_likingOf_169
def f_X6_likingOf (N : Nat) (S : SH) (a0 : Nat) (a1 : Int32) (a2 : Int32) (x : DY) : Option Int32 :=
  Option.bind (f_X8_isTaken N S (pr S a0 4) a1 x) (fun r2 => (if r2 = 0 then some 0 else Option.bind (f_X4_has N S (pr S a0 3) a2 x) (fun r5 => (if r5 = 0 then some 0 else ck S (pr S (pr S a0 3) 0) a2 (Option.bind (f_X8_likesOf N S (pr S a0 4) a1 (x.1 (pr S (pr S a0 3) 0) a2.toNatClampNeg) x) (fun r9 => (if (x.1 (pr S (pr S a0 3) 0) a2.toNatClampNeg) = 0 then j_X6_likingOf_54 N S a0 a1 a2 r9 2 x else j_X6_likingOf_54 N S a0 a1 a2 r9 0 x)))))))
set_option maxHeartbeats 1000000 in
theorem t_X6_likingOf {N d : Nat} {S : SH} (hW : WT S) {x : DY} {a0 : Nat} {a1 : Int32} {a2 : Int32} (hd : 2 ≤ d) (h0 : TY S a0 6) : CT mX6_likingOf d S [.ref a0, .int a1, .int a2] x (wPI x) (f_X6_likingOf N S a0 a1 a2 x) := by
  refine CT.of [some (.ref a0), some (.int a1), some (.int a2), none, none, none] rfl (Nat.le_of_ble_eq_true rfl) (by decide +kernel) ?_
  unfold f_X6_likingOf
  refine go1 (M := mX6_likingOf) (pc' := 1) (r_aload_n (M := mX6_likingOf) (i := 0) rfl dX6_likingOf_0) ?_
  refine go1 (M := mX6_likingOf) (pc' := 4) (r_getR (M := mX6_likingOf) fl_6_21 h0 rfl (wt_some hW h0 (by decide) (by decide) rfl) dX6_likingOf_1) ?_
  have hT1 : TY S (pr S a0 4) 8 := wt hW h0 (by decide) (by decide) rfl (by decide)
  refine go1 (M := mX6_likingOf) (pc' := 5) (r_iload_n (M := mX6_likingOf) (i := 1) rfl dX6_likingOf_4) ?_
  refine go_V_PI (M := mX6_likingOf) (pc' := 8) (st := []) (As := [.int a1]) rfl ln_6_112 lb_X8_isTaken (t_X8_isTaken (N := N) hW (by omega) hT1) (by omega) hT1 (Nat.le_of_ble_eq_true rfl) rfl dX6_likingOf_5 (fun r2 => ?_)
  refine go_br (M := mX6_likingOf) (pt := 22) (pf := 11) (fun kt kf => r_if_eq (M := mX6_likingOf) dX6_likingOf_8 (by decide) kt kf) (fun hc3 => ?_) (fun hc3 => ?_)
  · refine go1 (M := mX6_likingOf) (pc' := 23) (r_iconst (M := mX6_likingOf) (v := 0) (by decide) dX6_likingOf_22) ?_
    exact go_iret (M := mX6_likingOf) rfl rfl dX6_likingOf_23
  · refine go1 (M := mX6_likingOf) (pc' := 12) (r_aload_n (M := mX6_likingOf) (i := 0) rfl dX6_likingOf_11) ?_
    refine go1 (M := mX6_likingOf) (pc' := 15) (r_getR (M := mX6_likingOf) fl_6_12 h0 rfl (wt_some hW h0 (by decide) (by decide) rfl) dX6_likingOf_12) ?_
    have hT4 : TY S (pr S a0 3) 4 := wt hW h0 (by decide) (by decide) rfl (by decide)
    refine go1 (M := mX6_likingOf) (pc' := 16) (r_iload_n (M := mX6_likingOf) (i := 2) rfl dX6_likingOf_15) ?_
    refine go_V_PI (M := mX6_likingOf) (pc' := 19) (st := []) (As := [.int a2]) rfl ln_6_80 lb_X4_has (t_X4_has (N := N) hW (by omega) hT4) (by omega) hT4 (Nat.le_of_ble_eq_true rfl) rfl dX6_likingOf_16 (fun r5 => ?_)
    refine go_br (M := mX6_likingOf) (pt := 22) (pf := 24) (fun kt kf => r_if_ne (M := mX6_likingOf) dX6_likingOf_19 (by decide) kf kt) (fun hc6 => ?_) (fun hc6 => ?_)
    · refine go1 (M := mX6_likingOf) (pc' := 23) (r_iconst (M := mX6_likingOf) (v := 0) (by decide) dX6_likingOf_22) ?_
      exact go_iret (M := mX6_likingOf) rfl rfl dX6_likingOf_23
    · refine go1 (M := mX6_likingOf) (pc' := 25) (r_aload_n (M := mX6_likingOf) (i := 0) rfl dX6_likingOf_24) ?_
      refine go1 (M := mX6_likingOf) (pc' := 28) (r_getR (M := mX6_likingOf) fl_6_12 h0 rfl (wt_some hW h0 (by decide) (by decide) rfl) dX6_likingOf_25) ?_
      refine go1 (M := mX6_likingOf) (pc' := 31) (r_getR (M := mX6_likingOf) fl_6_165 hT4 rfl (wt_some hW hT4 (by decide) (by decide) rfl) dX6_likingOf_28) ?_
      have hT7 : TY S (pr S (pr S a0 3) 0) 14 := wt hW hT4 (by decide) (by decide) rfl (by decide)
      refine go1 (M := mX6_likingOf) (pc' := 32) (r_iload_n (M := mX6_likingOf) (i := 2) rfl dX6_likingOf_31) ?_
      refine go_ck (fun hi8 => ?_)
      refine go1 (M := mX6_likingOf) (pc' := 33) (r_iald (M := mX6_likingOf) hT7 hi8 dX6_likingOf_32) ?_
      refine go1 (M := mX6_likingOf) (pc' := 34) (ls' := [some (.ref a0), some (.int a1), some (.int a2), some (.int (x.1 (pr S (pr S a0 3) 0) a2.toNatClampNeg)), none, none]) (r_istore_n (M := mX6_likingOf) (ls := [some (.ref a0), some (.int a1), some (.int a2), none, none, none]) (i := 3) (v := (x.1 (pr S (pr S a0 3) 0) a2.toNatClampNeg)) (by decide) rfl dX6_likingOf_33) ?_
      refine go1 (M := mX6_likingOf) (pc' := 35) (r_aload_n (M := mX6_likingOf) (i := 0) rfl dX6_likingOf_34) ?_
      refine go1 (M := mX6_likingOf) (pc' := 38) (r_getR (M := mX6_likingOf) fl_6_21 h0 rfl (wt_some hW h0 (by decide) (by decide) rfl) dX6_likingOf_35) ?_
      refine go1 (M := mX6_likingOf) (pc' := 39) (r_iload_n (M := mX6_likingOf) (i := 1) rfl dX6_likingOf_38) ?_
      refine go1 (M := mX6_likingOf) (pc' := 40) (r_iload_n (M := mX6_likingOf) (i := 3) rfl dX6_likingOf_39) ?_
      refine go_V_PI (M := mX6_likingOf) (pc' := 43) (st := []) (As := [.int a1, .int (x.1 (pr S (pr S a0 3) 0) a2.toNatClampNeg)]) rfl ln_6_214 lb_X8_likesOf (t_X8_likesOf (N := N) hW (by omega) hT1) (by omega) hT1 (Nat.le_of_ble_eq_true rfl) rfl dX6_likingOf_40 (fun r9 => ?_)
      refine go1 (M := mX6_likingOf) (pc' := 45) (ls' := [some (.ref a0), some (.int a1), some (.int a2), some (.int (x.1 (pr S (pr S a0 3) 0) a2.toNatClampNeg)), some (.int r9), none]) (r_istore (M := mX6_likingOf) (ls := [some (.ref a0), some (.int a1), some (.int a2), some (.int (x.1 (pr S (pr S a0 3) 0) a2.toNatClampNeg)), none, none]) (i := 4) (v := r9) (by decide) rfl dX6_likingOf_43) ?_
      refine go1 (M := mX6_likingOf) (pc' := 46) (r_iload_n (M := mX6_likingOf) (i := 3) rfl dX6_likingOf_45) ?_
      refine go_br (M := mX6_likingOf) (pt := 49) (pf := 53) (fun kt kf => r_if_ne (M := mX6_likingOf) dX6_likingOf_46 (by decide) kf kt) (fun hc10 => ?_) (fun hc10 => ?_)
      · refine go1 (M := mX6_likingOf) (pc' := 50) (r_iconst (M := mX6_likingOf) (v := 2) (by decide) dX6_likingOf_49) ?_
        refine go1 (M := mX6_likingOf) (pc' := 54) (r_goto (M := mX6_likingOf) dX6_likingOf_50 (by decide)) ?_
        refine go_drop (ls' := [some (.ref a0), some (.int a1), some (.int a2), none, some (.int r9), none]) (And.intro rfl (And.intro rfl (And.intro rfl (And.intro rfl trivial)))) ?_
        exact j_X6_likingOf_54_t (N := N) hW (by omega) a0 a1 a2 r9 2 x h0
      · refine go1 (M := mX6_likingOf) (pc' := 54) (r_iconst (M := mX6_likingOf) (v := 0) (by decide) dX6_likingOf_53) ?_
        refine go_drop (ls' := [some (.ref a0), some (.int a1), some (.int a2), none, some (.int r9), none]) (And.intro rfl (And.intro rfl (And.intro rfl (And.intro rfl trivial)))) ?_
        exact j_X6_likingOf_54_t (N := N) hW (by omega) a0 a1 a2 r9 0 x h0
