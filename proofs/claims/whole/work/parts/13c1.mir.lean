/-! MIRRORS, by program out of the class's bytecode: X8_roomOf .. X1_tryChoices -/
def j_X8_roomOf_22 (N : Nat) (S : SH) (q0 : Int32) (x : DY) : Option Int32 :=
  (if q0 < 0 then some 0 else (if (nI (S.2.2.1 1)) ≤ q0 then some 0 else ck S 1 q0 (some (x.1 1 q0.toNatClampNeg))))
set_option maxHeartbeats 1000000 in
theorem j_X8_roomOf_22_t {N d : Nat} {S : SH} (hW : WT S) (hd : 1 ≤ d) (q0 : Int32) (x : DY) : Go mX8_roomOf d S (wPI x) 22 [none, none, none] [.int q0] x (j_X8_roomOf_22 N S q0 x) := by
  unfold j_X8_roomOf_22
  refine go1 (M := mX8_roomOf) (pc' := 23) (ls' := [none, none, some (.int q0)]) (r_istore_n (M := mX8_roomOf) (ls := [none, none, none]) (i := 2) (v := q0) (by decide) rfl dX8_roomOf_22) ?_
  refine go1 (M := mX8_roomOf) (pc' := 24) (r_iload_n (M := mX8_roomOf) (i := 2) rfl dX8_roomOf_23) ?_
  refine go_br (M := mX8_roomOf) (pt := 43) (pf := 27) (fun kt kf => r_if_lt (M := mX8_roomOf) dX8_roomOf_24 (by decide) kt kf) (fun hc2 => ?_) (fun hc2 => ?_)
  · refine go1 (M := mX8_roomOf) (pc' := 44) (r_iconst (M := mX8_roomOf) (v := 0) (by decide) dX8_roomOf_43) ?_
    exact go_iret (M := mX8_roomOf) rfl rfl dX8_roomOf_44
  · refine go1 (M := mX8_roomOf) (pc' := 28) (r_iload_n (M := mX8_roomOf) (i := 2) rfl dX8_roomOf_27) ?_
    refine go1 (M := mX8_roomOf) (pc' := 31) (r_getst (M := mX8_roomOf) (a := 1) (by decide) (tb3 49 (by decide +kernel) rfl) dX8_roomOf_28) ?_
    refine go1 (M := mX8_roomOf) (pc' := 32) (r_alenX2 (M := mX8_roomOf) (Or.inl (by decide)) dX8_roomOf_31) ?_
    refine go_br (M := mX8_roomOf) (pt := 43) (pf := 35) (fun kt kf => r_icmp_ge (M := mX8_roomOf) dX8_roomOf_32 (by decide) kt kf) (fun hc3 => ?_) (fun hc3 => ?_)
    · refine go1 (M := mX8_roomOf) (pc' := 44) (r_iconst (M := mX8_roomOf) (v := 0) (by decide) dX8_roomOf_43) ?_
      exact go_iret (M := mX8_roomOf) rfl rfl dX8_roomOf_44
    · refine go1 (M := mX8_roomOf) (pc' := 38) (r_getst (M := mX8_roomOf) (a := 1) (by decide) (tb3 49 (by decide +kernel) rfl) dX8_roomOf_35) ?_
      refine go1 (M := mX8_roomOf) (pc' := 39) (r_iload_n (M := mX8_roomOf) (i := 2) rfl dX8_roomOf_38) ?_
      refine go_ck (fun hi4 => ?_)
      refine go1 (M := mX8_roomOf) (pc' := 40) (r_ialdX2 (M := mX8_roomOf) (Or.inl (by decide)) hi4 dX8_roomOf_39) ?_
      refine go1 (M := mX8_roomOf) (pc' := 44) (r_goto (M := mX8_roomOf) dX8_roomOf_40 (by decide)) ?_
      exact go_iret (M := mX8_roomOf) rfl rfl dX8_roomOf_44
def j_X8_roomOf_21 (N : Nat) (S : SH) (x : DY) : Option Int32 :=
  j_X8_roomOf_22 N S (-1) x
set_option maxHeartbeats 1000000 in
theorem j_X8_roomOf_21_t {N d : Nat} {S : SH} (hW : WT S) (hd : 1 ≤ d) (x : DY) : Go mX8_roomOf d S (wPI x) 21 [none, none, none] [] x (j_X8_roomOf_21 N S  x) := by
  unfold j_X8_roomOf_21
  refine go1 (M := mX8_roomOf) (pc' := 22) (r_iconst (M := mX8_roomOf) (v := (-1)) (by decide) dX8_roomOf_21) ?_
  exact j_X8_roomOf_22_t (N := N) hW (by omega) (-1) x
def f_X8_roomOf (N : Nat) (S : SH) (a0 : Nat) (a1 : Int32) (x : DY) : Option Int32 :=
  (if a1 < 0 then j_X8_roomOf_21 N S x else (if (x.1 a0 7) ≤ a1 then j_X8_roomOf_21 N S x else ck S (pr S a0 1) a1 (j_X8_roomOf_22 N S (x.1 (pr S a0 1) a1.toNatClampNeg) x)))
set_option maxHeartbeats 1000000 in
theorem t_X8_roomOf {N d : Nat} {S : SH} (hW : WT S) {x : DY} {a0 : Nat} {a1 : Int32} (hd : 1 ≤ d) (h0 : TY S a0 8) : CT mX8_roomOf d S [.ref a0, .int a1] x (wPI x) (f_X8_roomOf N S a0 a1 x) := by
  refine CT.of [some (.ref a0), some (.int a1), none] rfl (Nat.le_of_ble_eq_true rfl) (by decide +kernel) ?_
  unfold f_X8_roomOf
  refine go1 (M := mX8_roomOf) (pc' := 1) (r_iload_n (M := mX8_roomOf) (i := 1) rfl dX8_roomOf_0) ?_
  refine go_br (M := mX8_roomOf) (pt := 21) (pf := 4) (fun kt kf => r_if_lt (M := mX8_roomOf) dX8_roomOf_1 (by decide) kt kf) (fun hc1 => ?_) (fun hc1 => ?_)
  · refine go_drop (ls' := [none, none, none]) trivial ?_
    exact j_X8_roomOf_21_t (N := N) hW (by omega) x
  · refine go1 (M := mX8_roomOf) (pc' := 5) (r_iload_n (M := mX8_roomOf) (i := 1) rfl dX8_roomOf_4) ?_
    refine go1 (M := mX8_roomOf) (pc' := 6) (r_aload_n (M := mX8_roomOf) (i := 0) rfl dX8_roomOf_5) ?_
    refine go1 (M := mX8_roomOf) (pc' := 9) (r_getI (M := mX8_roomOf) fl_8_33 h0 rfl dX8_roomOf_6) ?_
    refine go_br (M := mX8_roomOf) (pt := 21) (pf := 12) (fun kt kf => r_icmp_ge (M := mX8_roomOf) dX8_roomOf_9 (by decide) kt kf) (fun hc5 => ?_) (fun hc5 => ?_)
    · refine go_drop (ls' := [none, none, none]) trivial ?_
      exact j_X8_roomOf_21_t (N := N) hW (by omega) x
    · refine go1 (M := mX8_roomOf) (pc' := 13) (r_aload_n (M := mX8_roomOf) (i := 0) rfl dX8_roomOf_12) ?_
      refine go1 (M := mX8_roomOf) (pc' := 16) (r_getR (M := mX8_roomOf) fl_8_15 h0 rfl (wt_some hW h0 (by decide) (by decide) rfl) dX8_roomOf_13) ?_
      have hT6 : TY S (pr S a0 1) 14 := wt hW h0 (by decide) (by decide) rfl (by decide)
      refine go1 (M := mX8_roomOf) (pc' := 17) (r_iload_n (M := mX8_roomOf) (i := 1) rfl dX8_roomOf_16) ?_
      refine go_ck (fun hi7 => ?_)
      refine go1 (M := mX8_roomOf) (pc' := 18) (r_iald (M := mX8_roomOf) hT6 hi7 dX8_roomOf_17) ?_
      refine go1 (M := mX8_roomOf) (pc' := 22) (r_goto (M := mX8_roomOf) dX8_roomOf_18 (by decide)) ?_
      refine go_drop (ls' := [none, none, none]) trivial ?_
      exact j_X8_roomOf_22_t (N := N) hW (by omega) (x.1 (pr S a0 1) a1.toNatClampNeg) x
def f_X6_learnGuest (N : Nat) (S : SH) (a0 : Nat) (a1 : Int32) (x : DY) : Option DY :=
  ck S (pr S (pr S a0 4) 4) a1 (ck S (pr S a0 6) 2 (bl (U1 x (pr S a0 6) (2 : Int32).toNatClampNeg (x.1 (pr S (pr S a0 4) 4) a1.toNatClampNeg)) (fun x6 => ck S (pr S (pr S a0 4) 3) a1 (ck S (pr S a0 6) 3 (bl (U1 x6 (pr S a0 6) (3 : Int32).toNatClampNeg (x6.1 (pr S (pr S a0 4) 3) a1.toNatClampNeg)) (fun x10 => Option.bind (f_X8_roomOf N S (pr S a0 4) a1 x10) (fun r11 => ck S (pr S a0 6) 5 (bl (U1 x10 (pr S a0 6) (5 : Int32).toNatClampNeg r11) (fun x13 => some x13)))))))))
set_option maxHeartbeats 1000000 in
theorem t_X6_learnGuest {N d : Nat} {S : SH} (hW : WT S) {x : DY} {a0 : Nat} {a1 : Int32} (hd : 2 ≤ d) (h0 : TY S a0 6) : CT mX6_learnGuest d S [.ref a0, .int a1] x wSV (f_X6_learnGuest N S a0 a1 x) := by
  refine CT.of [some (.ref a0), some (.int a1)] rfl (Nat.le_of_ble_eq_true rfl) (by decide +kernel) ?_
  unfold f_X6_learnGuest
  refine go1 (M := mX6_learnGuest) (pc' := 1) (r_aload_n (M := mX6_learnGuest) (i := 0) rfl dX6_learnGuest_0) ?_
  refine go1 (M := mX6_learnGuest) (pc' := 4) (r_getR (M := mX6_learnGuest) fl_6_27 h0 rfl (wt_some hW h0 (by decide) (by decide) rfl) dX6_learnGuest_1) ?_
  have hT1 : TY S (pr S a0 6) 14 := wt hW h0 (by decide) (by decide) rfl (by decide)
  refine go1 (M := mX6_learnGuest) (pc' := 5) (r_iconst (M := mX6_learnGuest) (v := 2) (by decide) dX6_learnGuest_4) ?_
  refine go1 (M := mX6_learnGuest) (pc' := 6) (r_aload_n (M := mX6_learnGuest) (i := 0) rfl dX6_learnGuest_5) ?_
  refine go1 (M := mX6_learnGuest) (pc' := 9) (r_getR (M := mX6_learnGuest) fl_6_21 h0 rfl (wt_some hW h0 (by decide) (by decide) rfl) dX6_learnGuest_6) ?_
  have hT2 : TY S (pr S a0 4) 8 := wt hW h0 (by decide) (by decide) rfl (by decide)
  refine go1 (M := mX6_learnGuest) (pc' := 12) (r_getR (M := mX6_learnGuest) fl_6_188 hT2 rfl (wt_some hW hT2 (by decide) (by decide) rfl) dX6_learnGuest_9) ?_
  have hT3 : TY S (pr S (pr S a0 4) 4) 14 := wt hW hT2 (by decide) (by decide) rfl (by decide)
  refine go1 (M := mX6_learnGuest) (pc' := 13) (r_iload_n (M := mX6_learnGuest) (i := 1) rfl dX6_learnGuest_12) ?_
  refine go_ck (fun hi4 => ?_)
  refine go1 (M := mX6_learnGuest) (pc' := 14) (r_iald (M := mX6_learnGuest) hT3 hi4 dX6_learnGuest_13) ?_
  refine go_ck (fun hi5 => ?_)
  refine go1 (M := mX6_learnGuest) (pc' := 15) (r_iast (M := mX6_learnGuest) hT1 hi5 dX6_learnGuest_14) ?_
  refine go_blx (fun x6 => ?_)
  refine go1 (M := mX6_learnGuest) (pc' := 16) (r_aload_n (M := mX6_learnGuest) (i := 0) rfl dX6_learnGuest_15) ?_
  refine go1 (M := mX6_learnGuest) (pc' := 19) (r_getR (M := mX6_learnGuest) fl_6_27 h0 rfl (wt_some hW h0 (by decide) (by decide) rfl) dX6_learnGuest_16) ?_
  refine go1 (M := mX6_learnGuest) (pc' := 20) (r_iconst (M := mX6_learnGuest) (v := 3) (by decide) dX6_learnGuest_19) ?_
  refine go1 (M := mX6_learnGuest) (pc' := 21) (r_aload_n (M := mX6_learnGuest) (i := 0) rfl dX6_learnGuest_20) ?_
  refine go1 (M := mX6_learnGuest) (pc' := 24) (r_getR (M := mX6_learnGuest) fl_6_21 h0 rfl (wt_some hW h0 (by decide) (by decide) rfl) dX6_learnGuest_21) ?_
  refine go1 (M := mX6_learnGuest) (pc' := 27) (r_getR (M := mX6_learnGuest) fl_6_128 hT2 rfl (wt_some hW hT2 (by decide) (by decide) rfl) dX6_learnGuest_24) ?_
  have hT7 : TY S (pr S (pr S a0 4) 3) 14 := wt hW hT2 (by decide) (by decide) rfl (by decide)
  refine go1 (M := mX6_learnGuest) (pc' := 28) (r_iload_n (M := mX6_learnGuest) (i := 1) rfl dX6_learnGuest_27) ?_
  refine go_ck (fun hi8 => ?_)
  refine go1 (M := mX6_learnGuest) (pc' := 29) (r_iald (M := mX6_learnGuest) hT7 hi8 dX6_learnGuest_28) ?_
  refine go_ck (fun hi9 => ?_)
  refine go1 (M := mX6_learnGuest) (pc' := 30) (r_iast (M := mX6_learnGuest) hT1 hi9 dX6_learnGuest_29) ?_
  refine go_blx (fun x10 => ?_)
  refine go1 (M := mX6_learnGuest) (pc' := 31) (r_aload_n (M := mX6_learnGuest) (i := 0) rfl dX6_learnGuest_30) ?_
  refine go1 (M := mX6_learnGuest) (pc' := 34) (r_getR (M := mX6_learnGuest) fl_6_27 h0 rfl (wt_some hW h0 (by decide) (by decide) rfl) dX6_learnGuest_31) ?_
  refine go1 (M := mX6_learnGuest) (pc' := 35) (r_iconst (M := mX6_learnGuest) (v := 5) (by decide) dX6_learnGuest_34) ?_
  refine go1 (M := mX6_learnGuest) (pc' := 36) (r_aload_n (M := mX6_learnGuest) (i := 0) rfl dX6_learnGuest_35) ?_
  refine go1 (M := mX6_learnGuest) (pc' := 39) (r_getR (M := mX6_learnGuest) fl_6_21 h0 rfl (wt_some hW h0 (by decide) (by decide) rfl) dX6_learnGuest_36) ?_
  refine go1 (M := mX6_learnGuest) (pc' := 40) (r_iload_n (M := mX6_learnGuest) (i := 1) rfl dX6_learnGuest_39) ?_
  refine go_V_PI (M := mX6_learnGuest) (pc' := 43) (st := [.int 5, .ref (pr S a0 6)]) (As := [.int a1]) rfl ln_6_236 lb_X8_roomOf (t_X8_roomOf (N := N) hW (by omega) hT2) (by omega) hT2 (Nat.le_of_ble_eq_true rfl) rfl dX6_learnGuest_40 (fun r11 => ?_)
  refine go_ck (fun hi12 => ?_)
  refine go1 (M := mX6_learnGuest) (pc' := 44) (r_iast (M := mX6_learnGuest) hT1 hi12 dX6_learnGuest_43) ?_
  refine go_blx (fun x13 => ?_)
  exact go_vret (M := mX6_learnGuest) rfl rfl dX6_learnGuest_44
def f_X10_alone (N : Nat) (S : SH) (a0 : Int32) (a1 : Int32) (x : DY) : Option Int32 :=
  (if a0 = (-8) then some ((-a1)) else (if a1 = 0 then some 1 else some 0))
set_option maxHeartbeats 1000000 in
theorem t_X10_alone {N d : Nat} {S : SH} (hW : WT S) {x : DY} {a0 : Int32} {a1 : Int32} (hd : 1 ≤ d) : CT mX10_alone d S [.int a0, .int a1] x (wPI x) (f_X10_alone N S a0 a1 x) := by
  refine CT.of [some (.int a0), some (.int a1)] rfl (Nat.le_of_ble_eq_true rfl) (by decide +kernel) ?_
  unfold f_X10_alone
  refine go1 (M := mX10_alone) (pc' := 1) (r_iload_n (M := mX10_alone) (i := 0) rfl dX10_alone_0) ?_
  refine go1 (M := mX10_alone) (pc' := 3) (r_bipush (M := mX10_alone) (v := (-8)) (by decide) dX10_alone_1) ?_
  refine go_br (M := mX10_alone) (pt := 6) (pf := 9) (fun kt kf => r_icmp_ne (M := mX10_alone) dX10_alone_3 (by decide) kf kt) (fun hc1 => ?_) (fun hc1 => ?_)
  · refine go1 (M := mX10_alone) (pc' := 7) (r_iload_n (M := mX10_alone) (i := 1) rfl dX10_alone_6) ?_
    refine go1 (M := mX10_alone) (pc' := 8) (r_ineg (M := mX10_alone) dX10_alone_7) ?_
    exact go_iret (M := mX10_alone) rfl rfl dX10_alone_8
  · refine go1 (M := mX10_alone) (pc' := 10) (r_iload_n (M := mX10_alone) (i := 1) rfl dX10_alone_9) ?_
    refine go_br (M := mX10_alone) (pt := 13) (pf := 17) (fun kt kf => r_if_ne (M := mX10_alone) dX10_alone_10 (by decide) kf kt) (fun hc2 => ?_) (fun hc2 => ?_)
    · refine go1 (M := mX10_alone) (pc' := 14) (r_iconst (M := mX10_alone) (v := 1) (by decide) dX10_alone_13) ?_
      refine go1 (M := mX10_alone) (pc' := 18) (r_goto (M := mX10_alone) dX10_alone_14 (by decide)) ?_
      exact go_iret (M := mX10_alone) rfl rfl dX10_alone_18
    · refine go1 (M := mX10_alone) (pc' := 18) (r_iconst (M := mX10_alone) (v := 0) (by decide) dX10_alone_17) ?_
      exact go_iret (M := mX10_alone) rfl rfl dX10_alone_18
def f_X10_together (N : Nat) (S : SH) (a0 : Int32) (a1 : Int32) (a2 : Int32) (x : DY) : Option Int32 :=
  (if a0 = (-14) then some (a1 - a2) else (if a0 = (-13) then some (a1 + a2) else (if a0 = (-12) then (if a1 = a2 then some 1 else some 0) else (if a0 = (-11) then (if a2 ≤ a1 then some 0 else some 1) else (if a0 = (-10) then (if a1 = 0 then some 0 else (if a2 = 0 then some 0 else some 1)) else (if a0 = (-9) then (if a1 = 0 then (if a2 = 0 then some 0 else some 1) else some 1) else some (a1 * a2)))))))
set_option maxHeartbeats 1000000 in
theorem t_X10_together {N d : Nat} {S : SH} (hW : WT S) {x : DY} {a0 : Int32} {a1 : Int32} {a2 : Int32} (hd : 1 ≤ d) : CT mX10_together d S [.int a0, .int a1, .int a2] x (wPI x) (f_X10_together N S a0 a1 a2 x) := by
  refine CT.of [some (.int a0), some (.int a1), some (.int a2)] rfl (Nat.le_of_ble_eq_true rfl) (by decide +kernel) ?_
  unfold f_X10_together
  refine go1 (M := mX10_together) (pc' := 1) (r_iload_n (M := mX10_together) (i := 0) rfl dX10_together_0) ?_
  refine go_case (fun hk1 => ?_) (fun hk1 => ?_)
  · refine go1 (M := mX10_together) (pc' := 94) (r_tsw (M := mX10_together) (off := 93) dX10_together_1 (by rw [hk1]; decide) (by decide)) ?_
    refine go1 (M := mX10_together) (pc' := 95) (r_iload_n (M := mX10_together) (i := 1) rfl dX10_together_94) ?_
    refine go1 (M := mX10_together) (pc' := 96) (r_iload_n (M := mX10_together) (i := 2) rfl dX10_together_95) ?_
    refine go1 (M := mX10_together) (pc' := 97) (r_isub (M := mX10_together) dX10_together_96) ?_
    exact go_iret (M := mX10_together) rfl rfl dX10_together_97
  · refine go_case (fun hk2 => ?_) (fun hk2 => ?_)
    · refine go1 (M := mX10_together) (pc' := 90) (r_tsw (M := mX10_together) (off := 89) dX10_together_1 (by rw [hk2]; decide) (by decide)) ?_
      refine go1 (M := mX10_together) (pc' := 91) (r_iload_n (M := mX10_together) (i := 1) rfl dX10_together_90) ?_
      refine go1 (M := mX10_together) (pc' := 92) (r_iload_n (M := mX10_together) (i := 2) rfl dX10_together_91) ?_
      refine go1 (M := mX10_together) (pc' := 93) (r_iadd (M := mX10_together) dX10_together_92) ?_
      exact go_iret (M := mX10_together) rfl rfl dX10_together_93
    · refine go_case (fun hk3 => ?_) (fun hk3 => ?_)
      · refine go1 (M := mX10_together) (pc' := 79) (r_tsw (M := mX10_together) (off := 78) dX10_together_1 (by rw [hk3]; decide) (by decide)) ?_
        refine go1 (M := mX10_together) (pc' := 80) (r_iload_n (M := mX10_together) (i := 1) rfl dX10_together_79) ?_
        refine go1 (M := mX10_together) (pc' := 81) (r_iload_n (M := mX10_together) (i := 2) rfl dX10_together_80) ?_
        refine go_br (M := mX10_together) (pt := 84) (pf := 88) (fun kt kf => r_icmp_ne (M := mX10_together) dX10_together_81 (by decide) kf kt) (fun hc4 => ?_) (fun hc4 => ?_)
        · refine go1 (M := mX10_together) (pc' := 85) (r_iconst (M := mX10_together) (v := 1) (by decide) dX10_together_84) ?_
          refine go1 (M := mX10_together) (pc' := 89) (r_goto (M := mX10_together) dX10_together_85 (by decide)) ?_
          exact go_iret (M := mX10_together) rfl rfl dX10_together_89
        · refine go1 (M := mX10_together) (pc' := 89) (r_iconst (M := mX10_together) (v := 0) (by decide) dX10_together_88) ?_
          exact go_iret (M := mX10_together) rfl rfl dX10_together_89
      · refine go_case (fun hk5 => ?_) (fun hk5 => ?_)
        · refine go1 (M := mX10_together) (pc' := 68) (r_tsw (M := mX10_together) (off := 67) dX10_together_1 (by rw [hk5]; decide) (by decide)) ?_
          refine go1 (M := mX10_together) (pc' := 69) (r_iload_n (M := mX10_together) (i := 1) rfl dX10_together_68) ?_
          refine go1 (M := mX10_together) (pc' := 70) (r_iload_n (M := mX10_together) (i := 2) rfl dX10_together_69) ?_
          refine go_br (M := mX10_together) (pt := 77) (pf := 73) (fun kt kf => r_icmp_ge (M := mX10_together) dX10_together_70 (by decide) kt kf) (fun hc6 => ?_) (fun hc6 => ?_)
          · refine go1 (M := mX10_together) (pc' := 78) (r_iconst (M := mX10_together) (v := 0) (by decide) dX10_together_77) ?_
            exact go_iret (M := mX10_together) rfl rfl dX10_together_78
          · refine go1 (M := mX10_together) (pc' := 74) (r_iconst (M := mX10_together) (v := 1) (by decide) dX10_together_73) ?_
            refine go1 (M := mX10_together) (pc' := 78) (r_goto (M := mX10_together) dX10_together_74 (by decide)) ?_
            exact go_iret (M := mX10_together) rfl rfl dX10_together_78
        · refine go_case (fun hk7 => ?_) (fun hk7 => ?_)
          · refine go1 (M := mX10_together) (pc' := 54) (r_tsw (M := mX10_together) (off := 53) dX10_together_1 (by rw [hk7]; decide) (by decide)) ?_
            refine go1 (M := mX10_together) (pc' := 55) (r_iload_n (M := mX10_together) (i := 1) rfl dX10_together_54) ?_
            refine go_br (M := mX10_together) (pt := 66) (pf := 58) (fun kt kf => r_if_eq (M := mX10_together) dX10_together_55 (by decide) kt kf) (fun hc8 => ?_) (fun hc8 => ?_)
            · refine go1 (M := mX10_together) (pc' := 67) (r_iconst (M := mX10_together) (v := 0) (by decide) dX10_together_66) ?_
              exact go_iret (M := mX10_together) rfl rfl dX10_together_67
            · refine go1 (M := mX10_together) (pc' := 59) (r_iload_n (M := mX10_together) (i := 2) rfl dX10_together_58) ?_
              refine go_br (M := mX10_together) (pt := 66) (pf := 62) (fun kt kf => r_if_eq (M := mX10_together) dX10_together_59 (by decide) kt kf) (fun hc9 => ?_) (fun hc9 => ?_)
              · refine go1 (M := mX10_together) (pc' := 67) (r_iconst (M := mX10_together) (v := 0) (by decide) dX10_together_66) ?_
                exact go_iret (M := mX10_together) rfl rfl dX10_together_67
              · refine go1 (M := mX10_together) (pc' := 63) (r_iconst (M := mX10_together) (v := 1) (by decide) dX10_together_62) ?_
                refine go1 (M := mX10_together) (pc' := 67) (r_goto (M := mX10_together) dX10_together_63 (by decide)) ?_
                exact go_iret (M := mX10_together) rfl rfl dX10_together_67
          · refine go_case (fun hk10 => ?_) (fun hk10 => ?_)
            · refine go1 (M := mX10_together) (pc' := 40) (r_tsw (M := mX10_together) (off := 39) dX10_together_1 (by rw [hk10]; decide) (by decide)) ?_
              refine go1 (M := mX10_together) (pc' := 41) (r_iload_n (M := mX10_together) (i := 1) rfl dX10_together_40) ?_
              refine go_br (M := mX10_together) (pt := 44) (pf := 48) (fun kt kf => r_if_ne (M := mX10_together) dX10_together_41 (by decide) kf kt) (fun hc11 => ?_) (fun hc11 => ?_)
              · refine go1 (M := mX10_together) (pc' := 45) (r_iload_n (M := mX10_together) (i := 2) rfl dX10_together_44) ?_
                refine go_br (M := mX10_together) (pt := 52) (pf := 48) (fun kt kf => r_if_eq (M := mX10_together) dX10_together_45 (by decide) kt kf) (fun hc12 => ?_) (fun hc12 => ?_)
                · refine go1 (M := mX10_together) (pc' := 53) (r_iconst (M := mX10_together) (v := 0) (by decide) dX10_together_52) ?_
                  exact go_iret (M := mX10_together) rfl rfl dX10_together_53
                · refine go1 (M := mX10_together) (pc' := 49) (r_iconst (M := mX10_together) (v := 1) (by decide) dX10_together_48) ?_
                  refine go1 (M := mX10_together) (pc' := 53) (r_goto (M := mX10_together) dX10_together_49 (by decide)) ?_
                  exact go_iret (M := mX10_together) rfl rfl dX10_together_53
              · refine go1 (M := mX10_together) (pc' := 49) (r_iconst (M := mX10_together) (v := 1) (by decide) dX10_together_48) ?_
                refine go1 (M := mX10_together) (pc' := 53) (r_goto (M := mX10_together) dX10_together_49 (by decide)) ?_
                exact go_iret (M := mX10_together) rfl rfl dX10_together_53
            · have hq0 := lv_neT hk1 (show ((-14) : Int32).toInt = (-14 : Int) by decide)
              have hq1 := lv_neT hk2 (show ((-13) : Int32).toInt = (-13 : Int) by decide)
              have hq2 := lv_neT hk3 (show ((-12) : Int32).toInt = (-12 : Int) by decide)
              have hq3 := lv_neT hk5 (show ((-11) : Int32).toInt = (-11 : Int) by decide)
              have hq4 := lv_neT hk7 (show ((-10) : Int32).toInt = (-10 : Int) by decide)
              have hq5 := lv_neT hk10 (show ((-9) : Int32).toInt = (-9 : Int) by decide)
              refine go1 (M := mX10_together) (pc' := 98) (r_tswO (M := mX10_together) dX10_together_1 (by omega) (by decide)) ?_
              refine go1 (M := mX10_together) (pc' := 99) (r_iload_n (M := mX10_together) (i := 1) rfl dX10_together_98) ?_
              refine go1 (M := mX10_together) (pc' := 100) (r_iload_n (M := mX10_together) (i := 2) rfl dX10_together_99) ?_
              refine go1 (M := mX10_together) (pc' := 101) (r_imul (M := mX10_together) dX10_together_100) ?_
              exact go_iret (M := mX10_together) rfl rfl dX10_together_101
def j_X10_value_170 (N : Nat) (S : SH) (bk22 : Int32 → Int32 → DY → Option (Int32 × DY)) (p0 : Nat) (p2 : Nat) (p3 : Nat) (p4 : Int32) (p5 : Int32) (x : DY) : Option (Int32 × DY) :=
  bk22 p4 (p5 + 1) x
set_option maxHeartbeats 1000000 in
theorem j_X10_value_170_t {N d : Nat} {S : SH} (hW : WT S) (hd : 1 ≤ d) (bk22 : Int32 → Int32 → DY → Option (Int32 × DY)) (p0 : Nat) (p2 : Nat) (p3 : Nat) (p4 : Int32) (p5 : Int32) (x : DY) (g0 : TY S p0 10) (g2 : TY S p2 14) (g3 : TXX S p3) (hbk22 : ∀ (v4 : Int32) (v5 : Int32) (y : DY), Go mX10_value d S wSI 22 [some (.ref p0), none, some (.ref p2), some (.ref p3), some (.int v4), some (.int v5), none, none] [] y (bk22 v4 v5 y)) : Go mX10_value d S wSI 170 [some (.ref p0), none, some (.ref p2), some (.ref p3), some (.int p4), some (.int p5), none, none] [] x (j_X10_value_170 N S bk22 p0 p2 p3 p4 p5 x) := by
  unfold j_X10_value_170
  refine go1 (M := mX10_value) (pc' := 173) (ls' := [some (.ref p0), none, some (.ref p2), some (.ref p3), some (.int p4), some (.int (p5 + 1)), none, none]) (r_iinc (M := mX10_value) (ls := [some (.ref p0), none, some (.ref p2), some (.ref p3), some (.int p4), some (.int p5), none, none]) (i := 5) (v := p5) (c' := 1) (by decide) rfl (by decide) rfl dX10_value_170) ?_
  refine go1 (M := mX10_value) (pc' := 22) (r_goto (M := mX10_value) dX10_value_173 (by decide)) ?_
  exact hbk22 p4 (p5 + 1) x
def j_X10_value_85 (N : Nat) (S : SH) (bk22 : Int32 → Int32 → DY → Option (Int32 × DY)) (p0 : Nat) (p2 : Nat) (p3 : Nat) (p4 : Int32) (p5 : Int32) (q0 : Int32) (q1 : Int32) (q2 : Nat) (x : DY) : Option (Int32 × DY) :=
  ck S q2 q1 (bl (U1 x q2 q1.toNatClampNeg q0) (fun x25 => j_X10_value_170 N S bk22 p0 p2 p3 (p4 + 1) p5 x25))
set_option maxHeartbeats 1000000 in
theorem j_X10_value_85_t {N d : Nat} {S : SH} (hW : WT S) (hd : 2 ≤ d) (bk22 : Int32 → Int32 → DY → Option (Int32 × DY)) (p0 : Nat) (p2 : Nat) (p3 : Nat) (p4 : Int32) (p5 : Int32) (q0 : Int32) (q1 : Int32) (q2 : Nat) (x : DY) (g0 : TY S p0 10) (g2 : TY S p2 14) (g3 : TXX S p3) (gq2 : TY S q2 14) (hbk22 : ∀ (v4 : Int32) (v5 : Int32) (y : DY), Go mX10_value d S wSI 22 [some (.ref p0), none, some (.ref p2), some (.ref p3), some (.int v4), some (.int v5), none, none] [] y (bk22 v4 v5 y)) : Go mX10_value d S wSI 85 [some (.ref p0), none, some (.ref p2), some (.ref p3), some (.int p4), some (.int p5), none, none] [.int q0, .int q1, .ref q2] x (j_X10_value_85 N S bk22 p0 p2 p3 p4 p5 q0 q1 q2 x) := by
  unfold j_X10_value_85
  refine go_ck (fun hi24 => ?_)
  refine go1 (M := mX10_value) (pc' := 86) (r_iast (M := mX10_value) gq2 hi24 dX10_value_85) ?_
  refine go_blx (fun x25 => ?_)
  refine go1 (M := mX10_value) (pc' := 89) (ls' := [some (.ref p0), none, some (.ref p2), some (.ref p3), some (.int (p4 + 1)), some (.int p5), none, none]) (r_iinc (M := mX10_value) (ls := [some (.ref p0), none, some (.ref p2), some (.ref p3), some (.int p4), some (.int p5), none, none]) (i := 4) (v := p4) (c' := 1) (by decide) rfl (by decide) rfl dX10_value_86) ?_
  refine go1 (M := mX10_value) (pc' := 170) (r_goto (M := mX10_value) dX10_value_89 (by decide)) ?_
  exact j_X10_value_170_t (N := N) hW (by omega) bk22 p0 p2 p3 (p4 + 1) p5 x25 g0 g2 g3 hbk22
def j_X10_value_83 (N : Nat) (S : SH) (bk22 : Int32 → Int32 → DY → Option (Int32 × DY)) (p0 : Nat) (p2 : Nat) (p3 : Nat) (p4 : Int32) (p5 : Int32) (p6 : Int32) (q0 : Int32) (q1 : Nat) (x : DY) : Option (Int32 × DY) :=
  j_X10_value_85 N S bk22 p0 p2 p3 p4 p5 p6 q0 q1 x
set_option maxHeartbeats 1000000 in
theorem j_X10_value_83_t {N d : Nat} {S : SH} (hW : WT S) (hd : 2 ≤ d) (bk22 : Int32 → Int32 → DY → Option (Int32 × DY)) (p0 : Nat) (p2 : Nat) (p3 : Nat) (p4 : Int32) (p5 : Int32) (p6 : Int32) (q0 : Int32) (q1 : Nat) (x : DY) (g0 : TY S p0 10) (g2 : TY S p2 14) (g3 : TXX S p3) (gq1 : TY S q1 14) (hbk22 : ∀ (v4 : Int32) (v5 : Int32) (y : DY), Go mX10_value d S wSI 22 [some (.ref p0), none, some (.ref p2), some (.ref p3), some (.int v4), some (.int v5), none, none] [] y (bk22 v4 v5 y)) : Go mX10_value d S wSI 83 [some (.ref p0), none, some (.ref p2), some (.ref p3), some (.int p4), some (.int p5), some (.int p6), none] [.int q0, .ref q1] x (j_X10_value_83 N S bk22 p0 p2 p3 p4 p5 p6 q0 q1 x) := by
  unfold j_X10_value_83
  refine go1 (M := mX10_value) (pc' := 85) (r_iload (M := mX10_value) (i := 6) rfl dX10_value_83) ?_
  refine go_drop (ls' := [some (.ref p0), none, some (.ref p2), some (.ref p3), some (.int p4), some (.int p5), none, none]) (And.intro rfl (And.intro rfl (And.intro rfl (And.intro rfl (And.intro rfl trivial))))) ?_
  exact j_X10_value_85_t (N := N) hW (by omega) bk22 p0 p2 p3 p4 p5 p6 q0 q1 x g0 g2 g3 gq1 hbk22
def lp_X10_value_22_b (N : Nat) (S : SH) (k176 : Int32 → DY → Option (Int32 × DY)) (bk22 : Int32 → Int32 → DY → Option (Int32 × DY)) (p0 : Nat) (p2 : Nat) (p3 : Nat) (p4 : Int32) (p5 : Int32) (x : DY) : Option (Int32 × DY) :=
  (if (nI (S.2.2.1 p3)) ≤ p5 then k176 p4 x else ck S p3 p5 ((if (x.1 p3 p5.toNatClampNeg) ≤ (-7) then (if (x.1 p3 p5.toNatClampNeg) < (-8) then (if p4 < 2 then j_X10_value_170 N S bk22 p0 p2 p3 p4 p5 x else ck S (pr S p0 2) ((p4 + (-1)) - 1) (ck S (pr S p0 2) (p4 + (-1)) (Option.bind (f_X10_together N S (x.1 p3 p5.toNatClampNeg) (x.1 (pr S p0 2) ((p4 + (-1)) - 1).toNatClampNeg) (x.1 (pr S p0 2) (p4 + (-1)).toNatClampNeg) x) (fun r12 => ck S (pr S p0 2) ((p4 + (-1)) - 1) (bl (U1 x (pr S p0 2) ((p4 + (-1)) - 1).toNatClampNeg r12) (fun x14 => j_X10_value_170 N S bk22 p0 p2 p3 (p4 + (-1)) p5 x14)))))) else (if p4 < 1 then j_X10_value_170 N S bk22 p0 p2 p3 p4 p5 x else ck S (pr S p0 2) (p4 - 1) (Option.bind (f_X10_alone N S (x.1 p3 p5.toNatClampNeg) (x.1 (pr S p0 2) (p4 - 1).toNatClampNeg) x) (fun r18 => ck S (pr S p0 2) (p4 - 1) (bl (U1 x (pr S p0 2) (p4 - 1).toNatClampNeg r18) (fun x20 => j_X10_value_170 N S bk22 p0 p2 p3 p4 p5 x20)))))) else (if (nI (S.2.2.1 (pr S p0 2))) ≤ p4 then j_X10_value_170 N S bk22 p0 p2 p3 p4 p5 x else (if ((-1) - (x.1 p3 p5.toNatClampNeg)) < 0 then j_X10_value_83 N S bk22 p0 p2 p3 p4 p5 (x.1 p3 p5.toNatClampNeg) p4 (pr S p0 2) x else (if (nI (S.2.2.1 p2)) ≤ ((-1) - (x.1 p3 p5.toNatClampNeg)) then j_X10_value_83 N S bk22 p0 p2 p3 p4 p5 (x.1 p3 p5.toNatClampNeg) p4 (pr S p0 2) x else ck S p2 ((-1) - (x.1 p3 p5.toNatClampNeg)) (j_X10_value_85 N S bk22 p0 p2 p3 p4 p5 (x.1 p2 ((-1) - (x.1 p3 p5.toNatClampNeg)).toNatClampNeg) p4 (pr S p0 2) x)))))))
set_option maxHeartbeats 1000000 in
theorem lp_X10_value_22_b_t {N d : Nat} {S : SH} (hW : WT S) (hd : 2 ≤ d) (k176 : Int32 → DY → Option (Int32 × DY)) (bk22 : Int32 → Int32 → DY → Option (Int32 × DY)) (p0 : Nat) (p2 : Nat) (p3 : Nat) (p4 : Int32) (p5 : Int32) (x : DY) (g0 : TY S p0 10) (g2 : TY S p2 14) (g3 : TXX S p3) (hk176 : ∀ (v4 : Int32) (y : DY), Go mX10_value d S wSI 176 [some (.ref p0), none, none, none, some (.int v4), none, none, none] [] y (k176 v4 y)) (hbk22 : ∀ (v4 : Int32) (v5 : Int32) (y : DY), Go mX10_value d S wSI 22 [some (.ref p0), none, some (.ref p2), some (.ref p3), some (.int v4), some (.int v5), none, none] [] y (bk22 v4 v5 y)) : Go mX10_value d S wSI 22 [some (.ref p0), none, some (.ref p2), some (.ref p3), some (.int p4), some (.int p5), none, none] [] x (lp_X10_value_22_b N S k176 bk22 p0 p2 p3 p4 p5 x) := by
  unfold lp_X10_value_22_b
  refine go1 (M := mX10_value) (pc' := 24) (r_iload (M := mX10_value) (i := 5) rfl dX10_value_22) ?_
  refine go1 (M := mX10_value) (pc' := 25) (r_aload_n (M := mX10_value) (i := 3) rfl dX10_value_24) ?_
  refine go1 (M := mX10_value) (pc' := 26) (r_alenX2 (M := mX10_value) g3 dX10_value_25) ?_
  refine go_br (M := mX10_value) (pt := 176) (pf := 29) (fun kt kf => r_icmp_ge (M := mX10_value) dX10_value_26 (by decide) kt kf) (fun hc4 => ?_) (fun hc4 => ?_)
  · refine go_drop (ls' := [some (.ref p0), none, none, none, some (.int p4), none, none, none]) (And.intro rfl (And.intro rfl trivial)) ?_
    exact hk176 p4 x
  · refine go1 (M := mX10_value) (pc' := 30) (r_aload_n (M := mX10_value) (i := 3) rfl dX10_value_29) ?_
    refine go1 (M := mX10_value) (pc' := 32) (r_iload (M := mX10_value) (i := 5) rfl dX10_value_30) ?_
    refine go_ck (fun hi5 => ?_)
    refine go1 (M := mX10_value) (pc' := 33) (r_ialdX2 (M := mX10_value) g3 hi5 dX10_value_32) ?_
    refine go1 (M := mX10_value) (pc' := 35) (ls' := [some (.ref p0), none, some (.ref p2), some (.ref p3), some (.int p4), some (.int p5), some (.int (x.1 p3 p5.toNatClampNeg)), none]) (r_istore (M := mX10_value) (ls := [some (.ref p0), none, some (.ref p2), some (.ref p3), some (.int p4), some (.int p5), none, none]) (i := 6) (v := (x.1 p3 p5.toNatClampNeg)) (by decide) rfl dX10_value_33) ?_
    refine go1 (M := mX10_value) (pc' := 36) (r_iconst (M := mX10_value) (v := (-1)) (by decide) dX10_value_35) ?_
    refine go1 (M := mX10_value) (pc' := 38) (r_iload (M := mX10_value) (i := 6) rfl dX10_value_36) ?_
    refine go1 (M := mX10_value) (pc' := 39) (r_isub (M := mX10_value) dX10_value_38) ?_
    refine go1 (M := mX10_value) (pc' := 41) (ls' := [some (.ref p0), none, some (.ref p2), some (.ref p3), some (.int p4), some (.int p5), some (.int (x.1 p3 p5.toNatClampNeg)), some (.int ((-1) - (x.1 p3 p5.toNatClampNeg)))]) (r_istore (M := mX10_value) (ls := [some (.ref p0), none, some (.ref p2), some (.ref p3), some (.int p4), some (.int p5), some (.int (x.1 p3 p5.toNatClampNeg)), none]) (i := 7) (v := ((-1) - (x.1 p3 p5.toNatClampNeg))) (by decide) rfl dX10_value_39) ?_
    refine go1 (M := mX10_value) (pc' := 43) (r_iload (M := mX10_value) (i := 6) rfl dX10_value_41) ?_
    refine go1 (M := mX10_value) (pc' := 45) (r_bipush (M := mX10_value) (v := (-7)) (by decide) dX10_value_43) ?_
    refine go_br (M := mX10_value) (pt := 92) (pf := 48) (fun kt kf => r_icmp_le (M := mX10_value) dX10_value_45 (by decide) kt kf) (fun hc6 => ?_) (fun hc6 => ?_)
    · refine go1 (M := mX10_value) (pc' := 94) (r_iload (M := mX10_value) (i := 6) rfl dX10_value_92) ?_
      refine go1 (M := mX10_value) (pc' := 96) (r_bipush (M := mX10_value) (v := (-8)) (by decide) dX10_value_94) ?_
      refine go_br (M := mX10_value) (pt := 131) (pf := 99) (fun kt kf => r_icmp_lt (M := mX10_value) dX10_value_96 (by decide) kt kf) (fun hc7 => ?_) (fun hc7 => ?_)
      · refine go1 (M := mX10_value) (pc' := 133) (r_iload (M := mX10_value) (i := 4) rfl dX10_value_131) ?_
        refine go1 (M := mX10_value) (pc' := 134) (r_iconst (M := mX10_value) (v := 2) (by decide) dX10_value_133) ?_
        refine go_br (M := mX10_value) (pt := 170) (pf := 137) (fun kt kf => r_icmp_lt (M := mX10_value) dX10_value_134 (by decide) kt kf) (fun hc8 => ?_) (fun hc8 => ?_)
        · refine go_drop (ls' := [some (.ref p0), none, some (.ref p2), some (.ref p3), some (.int p4), some (.int p5), none, none]) (And.intro rfl (And.intro rfl (And.intro rfl (And.intro rfl (And.intro rfl trivial))))) ?_
          exact j_X10_value_170_t (N := N) hW (by omega) bk22 p0 p2 p3 p4 p5 x g0 g2 g3 hbk22
        · refine go1 (M := mX10_value) (pc' := 140) (ls' := [some (.ref p0), none, some (.ref p2), some (.ref p3), some (.int (p4 + (-1))), some (.int p5), some (.int (x.1 p3 p5.toNatClampNeg)), some (.int ((-1) - (x.1 p3 p5.toNatClampNeg)))]) (r_iinc (M := mX10_value) (ls := [some (.ref p0), none, some (.ref p2), some (.ref p3), some (.int p4), some (.int p5), some (.int (x.1 p3 p5.toNatClampNeg)), some (.int ((-1) - (x.1 p3 p5.toNatClampNeg)))]) (i := 4) (v := p4) (c' := (-1)) (by decide) rfl (by decide) rfl dX10_value_137) ?_
          refine go1 (M := mX10_value) (pc' := 141) (r_aload_n (M := mX10_value) (i := 0) rfl dX10_value_140) ?_
          refine go1 (M := mX10_value) (pc' := 144) (r_getR (M := mX10_value) fl_10_22 g0 rfl (wt_some hW g0 (by decide) (by decide) rfl) dX10_value_141) ?_
          have hT9 : TY S (pr S p0 2) 14 := wt hW g0 (by decide) (by decide) rfl (by decide)
          refine go1 (M := mX10_value) (pc' := 146) (r_iload (M := mX10_value) (i := 4) rfl dX10_value_144) ?_
          refine go1 (M := mX10_value) (pc' := 147) (r_iconst (M := mX10_value) (v := 1) (by decide) dX10_value_146) ?_
          refine go1 (M := mX10_value) (pc' := 148) (r_isub (M := mX10_value) dX10_value_147) ?_
          refine go1 (M := mX10_value) (pc' := 150) (r_iload (M := mX10_value) (i := 6) rfl dX10_value_148) ?_
          refine go1 (M := mX10_value) (pc' := 151) (r_aload_n (M := mX10_value) (i := 0) rfl dX10_value_150) ?_
          refine go1 (M := mX10_value) (pc' := 154) (r_getR (M := mX10_value) fl_10_22 g0 rfl (wt_some hW g0 (by decide) (by decide) rfl) dX10_value_151) ?_
          refine go1 (M := mX10_value) (pc' := 156) (r_iload (M := mX10_value) (i := 4) rfl dX10_value_154) ?_
          refine go1 (M := mX10_value) (pc' := 157) (r_iconst (M := mX10_value) (v := 1) (by decide) dX10_value_156) ?_
          refine go1 (M := mX10_value) (pc' := 158) (r_isub (M := mX10_value) dX10_value_157) ?_
          refine go_ck (fun hi10 => ?_)
          refine go1 (M := mX10_value) (pc' := 159) (r_iald (M := mX10_value) hT9 hi10 dX10_value_158) ?_
          refine go1 (M := mX10_value) (pc' := 160) (r_aload_n (M := mX10_value) (i := 0) rfl dX10_value_159) ?_
          refine go1 (M := mX10_value) (pc' := 163) (r_getR (M := mX10_value) fl_10_22 g0 rfl (wt_some hW g0 (by decide) (by decide) rfl) dX10_value_160) ?_
          refine go1 (M := mX10_value) (pc' := 165) (r_iload (M := mX10_value) (i := 4) rfl dX10_value_163) ?_
          refine go_ck (fun hi11 => ?_)
          refine go1 (M := mX10_value) (pc' := 166) (r_iald (M := mX10_value) hT9 hi11 dX10_value_165) ?_
          refine go_S_PI (M := mX10_value) (pc' := 169) (st := [.int ((p4 + (-1)) - 1), .ref (pr S p0 2)]) (As := [.int (x.1 p3 p5.toNatClampNeg), .int (x.1 (pr S p0 2) ((p4 + (-1)) - 1).toNatClampNeg), .int (x.1 (pr S p0 2) (p4 + (-1)).toNatClampNeg)]) rfl ln_10_28 lb_X10_together (t_X10_together (N := N) hW (by omega) ) (by omega) (Nat.le_of_ble_eq_true rfl) rfl dX10_value_166 (fun r12 => ?_)
          refine go_ck (fun hi13 => ?_)
          refine go1 (M := mX10_value) (pc' := 170) (r_iast (M := mX10_value) hT9 hi13 dX10_value_169) ?_
          refine go_blx (fun x14 => ?_)
          refine go_drop (ls' := [some (.ref p0), none, some (.ref p2), some (.ref p3), some (.int (p4 + (-1))), some (.int p5), none, none]) (And.intro rfl (And.intro rfl (And.intro rfl (And.intro rfl (And.intro rfl trivial))))) ?_
          exact j_X10_value_170_t (N := N) hW (by omega) bk22 p0 p2 p3 (p4 + (-1)) p5 x14 g0 g2 g3 hbk22
      · refine go1 (M := mX10_value) (pc' := 101) (r_iload (M := mX10_value) (i := 4) rfl dX10_value_99) ?_
        refine go1 (M := mX10_value) (pc' := 102) (r_iconst (M := mX10_value) (v := 1) (by decide) dX10_value_101) ?_
        refine go_br (M := mX10_value) (pt := 170) (pf := 105) (fun kt kf => r_icmp_lt (M := mX10_value) dX10_value_102 (by decide) kt kf) (fun hc15 => ?_) (fun hc15 => ?_)
        · refine go_drop (ls' := [some (.ref p0), none, some (.ref p2), some (.ref p3), some (.int p4), some (.int p5), none, none]) (And.intro rfl (And.intro rfl (And.intro rfl (And.intro rfl (And.intro rfl trivial))))) ?_
          exact j_X10_value_170_t (N := N) hW (by omega) bk22 p0 p2 p3 p4 p5 x g0 g2 g3 hbk22
        · refine go1 (M := mX10_value) (pc' := 106) (r_aload_n (M := mX10_value) (i := 0) rfl dX10_value_105) ?_
          refine go1 (M := mX10_value) (pc' := 109) (r_getR (M := mX10_value) fl_10_22 g0 rfl (wt_some hW g0 (by decide) (by decide) rfl) dX10_value_106) ?_
          have hT16 : TY S (pr S p0 2) 14 := wt hW g0 (by decide) (by decide) rfl (by decide)
          refine go1 (M := mX10_value) (pc' := 111) (r_iload (M := mX10_value) (i := 4) rfl dX10_value_109) ?_
          refine go1 (M := mX10_value) (pc' := 112) (r_iconst (M := mX10_value) (v := 1) (by decide) dX10_value_111) ?_
          refine go1 (M := mX10_value) (pc' := 113) (r_isub (M := mX10_value) dX10_value_112) ?_
          refine go1 (M := mX10_value) (pc' := 115) (r_iload (M := mX10_value) (i := 6) rfl dX10_value_113) ?_
          refine go1 (M := mX10_value) (pc' := 116) (r_aload_n (M := mX10_value) (i := 0) rfl dX10_value_115) ?_
          refine go1 (M := mX10_value) (pc' := 119) (r_getR (M := mX10_value) fl_10_22 g0 rfl (wt_some hW g0 (by decide) (by decide) rfl) dX10_value_116) ?_
          refine go1 (M := mX10_value) (pc' := 121) (r_iload (M := mX10_value) (i := 4) rfl dX10_value_119) ?_
          refine go1 (M := mX10_value) (pc' := 122) (r_iconst (M := mX10_value) (v := 1) (by decide) dX10_value_121) ?_
          refine go1 (M := mX10_value) (pc' := 123) (r_isub (M := mX10_value) dX10_value_122) ?_
          refine go_ck (fun hi17 => ?_)
          refine go1 (M := mX10_value) (pc' := 124) (r_iald (M := mX10_value) hT16 hi17 dX10_value_123) ?_
          refine go_S_PI (M := mX10_value) (pc' := 127) (st := [.int (p4 - 1), .ref (pr S p0 2)]) (As := [.int (x.1 p3 p5.toNatClampNeg), .int (x.1 (pr S p0 2) (p4 - 1).toNatClampNeg)]) rfl ln_10_25 lb_X10_alone (t_X10_alone (N := N) hW (by omega) ) (by omega) (Nat.le_of_ble_eq_true rfl) rfl dX10_value_124 (fun r18 => ?_)
          refine go_ck (fun hi19 => ?_)
          refine go1 (M := mX10_value) (pc' := 128) (r_iast (M := mX10_value) hT16 hi19 dX10_value_127) ?_
          refine go_blx (fun x20 => ?_)
          refine go1 (M := mX10_value) (pc' := 170) (r_goto (M := mX10_value) dX10_value_128 (by decide)) ?_
          refine go_drop (ls' := [some (.ref p0), none, some (.ref p2), some (.ref p3), some (.int p4), some (.int p5), none, none]) (And.intro rfl (And.intro rfl (And.intro rfl (And.intro rfl (And.intro rfl trivial))))) ?_
          exact j_X10_value_170_t (N := N) hW (by omega) bk22 p0 p2 p3 p4 p5 x20 g0 g2 g3 hbk22
    · refine go1 (M := mX10_value) (pc' := 50) (r_iload (M := mX10_value) (i := 4) rfl dX10_value_48) ?_
      refine go1 (M := mX10_value) (pc' := 51) (r_aload_n (M := mX10_value) (i := 0) rfl dX10_value_50) ?_
      refine go1 (M := mX10_value) (pc' := 54) (r_getR (M := mX10_value) fl_10_22 g0 rfl (wt_some hW g0 (by decide) (by decide) rfl) dX10_value_51) ?_
      have hT21 : TY S (pr S p0 2) 14 := wt hW g0 (by decide) (by decide) rfl (by decide)
      refine go1 (M := mX10_value) (pc' := 55) (r_alen (M := mX10_value) hT21 (by decide) (by decide) dX10_value_54) ?_
      refine go_br (M := mX10_value) (pt := 170) (pf := 58) (fun kt kf => r_icmp_ge (M := mX10_value) dX10_value_55 (by decide) kt kf) (fun hc22 => ?_) (fun hc22 => ?_)
      · refine go_drop (ls' := [some (.ref p0), none, some (.ref p2), some (.ref p3), some (.int p4), some (.int p5), none, none]) (And.intro rfl (And.intro rfl (And.intro rfl (And.intro rfl (And.intro rfl trivial))))) ?_
        exact j_X10_value_170_t (N := N) hW (by omega) bk22 p0 p2 p3 p4 p5 x g0 g2 g3 hbk22
      · refine go1 (M := mX10_value) (pc' := 59) (r_aload_n (M := mX10_value) (i := 0) rfl dX10_value_58) ?_
        refine go1 (M := mX10_value) (pc' := 62) (r_getR (M := mX10_value) fl_10_22 g0 rfl (wt_some hW g0 (by decide) (by decide) rfl) dX10_value_59) ?_
        refine go1 (M := mX10_value) (pc' := 64) (r_iload (M := mX10_value) (i := 4) rfl dX10_value_62) ?_
        refine go1 (M := mX10_value) (pc' := 66) (r_iload (M := mX10_value) (i := 7) rfl dX10_value_64) ?_
        refine go_br (M := mX10_value) (pt := 83) (pf := 69) (fun kt kf => r_if_lt (M := mX10_value) dX10_value_66 (by decide) kt kf) (fun hc23 => ?_) (fun hc23 => ?_)
        · refine go_drop (ls' := [some (.ref p0), none, some (.ref p2), some (.ref p3), some (.int p4), some (.int p5), some (.int (x.1 p3 p5.toNatClampNeg)), none]) (And.intro rfl (And.intro rfl (And.intro rfl (And.intro rfl (And.intro rfl (And.intro rfl trivial)))))) ?_
          exact j_X10_value_83_t (N := N) hW (by omega) bk22 p0 p2 p3 p4 p5 (x.1 p3 p5.toNatClampNeg) p4 (pr S p0 2) x g0 g2 g3 hT21 hbk22
        · refine go1 (M := mX10_value) (pc' := 71) (r_iload (M := mX10_value) (i := 7) rfl dX10_value_69) ?_
          refine go1 (M := mX10_value) (pc' := 72) (r_aload_n (M := mX10_value) (i := 2) rfl dX10_value_71) ?_
          refine go1 (M := mX10_value) (pc' := 73) (r_alen (M := mX10_value) g2 (by decide) (by decide) dX10_value_72) ?_
          refine go_br (M := mX10_value) (pt := 83) (pf := 76) (fun kt kf => r_icmp_ge (M := mX10_value) dX10_value_73 (by decide) kt kf) (fun hc26 => ?_) (fun hc26 => ?_)
          · refine go_drop (ls' := [some (.ref p0), none, some (.ref p2), some (.ref p3), some (.int p4), some (.int p5), some (.int (x.1 p3 p5.toNatClampNeg)), none]) (And.intro rfl (And.intro rfl (And.intro rfl (And.intro rfl (And.intro rfl (And.intro rfl trivial)))))) ?_
            exact j_X10_value_83_t (N := N) hW (by omega) bk22 p0 p2 p3 p4 p5 (x.1 p3 p5.toNatClampNeg) p4 (pr S p0 2) x g0 g2 g3 hT21 hbk22
          · refine go1 (M := mX10_value) (pc' := 77) (r_aload_n (M := mX10_value) (i := 2) rfl dX10_value_76) ?_
            refine go1 (M := mX10_value) (pc' := 79) (r_iload (M := mX10_value) (i := 7) rfl dX10_value_77) ?_
            refine go_ck (fun hi27 => ?_)
            refine go1 (M := mX10_value) (pc' := 80) (r_iald (M := mX10_value) g2 hi27 dX10_value_79) ?_
            refine go1 (M := mX10_value) (pc' := 85) (r_goto (M := mX10_value) dX10_value_80 (by decide)) ?_
            refine go_drop (ls' := [some (.ref p0), none, some (.ref p2), some (.ref p3), some (.int p4), some (.int p5), none, none]) (And.intro rfl (And.intro rfl (And.intro rfl (And.intro rfl (And.intro rfl trivial))))) ?_
            exact j_X10_value_85_t (N := N) hW (by omega) bk22 p0 p2 p3 p4 p5 (x.1 p2 ((-1) - (x.1 p3 p5.toNatClampNeg)).toNatClampNeg) p4 (pr S p0 2) x g0 g2 g3 hT21 hbk22
def lp_X10_value_22 (N : Nat) (S : SH) (k176 : Int32 → DY → Option (Int32 × DY)) (p0 : Nat) (p2 : Nat) (p3 : Nat) (p4 : Int32) (p5 : Int32) (x : DY) : Option (Int32 × DY) :=
  itr (fun back (v : Int32 × Int32 × DY) => lp_X10_value_22_b N S k176 (fun p4 p5 y => back (p4, p5, y)) p0 p2 p3 v.1 v.2.1 v.2.2) N (p4, p5, x)
theorem lp_X10_value_22_t {N d : Nat} {S : SH} (hW : WT S) (hd : 2 ≤ d) (k176 : Int32 → DY → Option (Int32 × DY)) (p0 : Nat) (p2 : Nat) (p3 : Nat) (p4 : Int32) (p5 : Int32) (x : DY) (g0 : TY S p0 10) (g2 : TY S p2 14) (g3 : TXX S p3) (hk176 : ∀ (v4 : Int32) (y : DY), Go mX10_value d S wSI 176 [some (.ref p0), none, none, none, some (.int v4), none, none, none] [] y (k176 v4 y)) : Go mX10_value d S wSI 22 [some (.ref p0), none, some (.ref p2), some (.ref p3), some (.int p4), some (.int p5), none, none] [] x (lp_X10_value_22 N S k176 p0 p2 p3 p4 p5 x) := by
  unfold lp_X10_value_22
  exact go_itr (L := fun (v : Int32 × Int32 × DY) => [some (.ref p0), none, some (.ref p2), some (.ref p3), some (.int v.1), some (.int v.2.1), none, none]) (X := fun (v : Int32 × Int32 × DY) => v.2.2) (fun back hB v => lp_X10_value_22_b_t (N := N) hW hd k176 (fun p4 p5 y => back (p4, p5, y)) p0 p2 p3 v.1 v.2.1 v.2.2 g0 g2 g3 hk176 (fun p4 p5 y => hB (p4, p5, y)) ) N (p4, p5, x)
def j_X10_value_15 (N : Nat) (S : SH) (p0 : Nat) (p2 : Nat) (q0 : Nat) (x : DY) : Option (Int32 × DY) :=
  lp_X10_value_22 N S (fun e4_27 y27 => (if e4_27 < 1 then some (0, y27) else ck S (pr S p0 2) (e4_27 - 1) (some ((y27.1 (pr S p0 2) (e4_27 - 1).toNatClampNeg), y27)))) p0 p2 q0 0 0 x
set_option maxHeartbeats 1000000 in
theorem j_X10_value_15_t {N d : Nat} {S : SH} (hW : WT S) (hd : 2 ≤ d) (p0 : Nat) (p2 : Nat) (q0 : Nat) (x : DY) (g0 : TY S p0 10) (g2 : TY S p2 14) (gq0 : TXX S q0) : Go mX10_value d S wSI 15 [some (.ref p0), none, some (.ref p2), none, none, none, none, none] [.ref q0] x (j_X10_value_15 N S p0 p2 q0 x) := by
  unfold j_X10_value_15
  refine go1 (M := mX10_value) (pc' := 16) (ls' := [some (.ref p0), none, some (.ref p2), some (.ref q0), none, none, none, none]) (r_astore_n (M := mX10_value) (ls := [some (.ref p0), none, some (.ref p2), none, none, none, none, none]) (i := 3) (v := q0) (by decide) rfl dX10_value_15) ?_
  refine go1 (M := mX10_value) (pc' := 17) (r_iconst (M := mX10_value) (v := 0) (by decide) dX10_value_16) ?_
  refine go1 (M := mX10_value) (pc' := 19) (ls' := [some (.ref p0), none, some (.ref p2), some (.ref q0), some (.int 0), none, none, none]) (r_istore (M := mX10_value) (ls := [some (.ref p0), none, some (.ref p2), some (.ref q0), none, none, none, none]) (i := 4) (v := 0) (by decide) rfl dX10_value_17) ?_
  refine go1 (M := mX10_value) (pc' := 20) (r_iconst (M := mX10_value) (v := 0) (by decide) dX10_value_19) ?_
  refine go1 (M := mX10_value) (pc' := 22) (ls' := [some (.ref p0), none, some (.ref p2), some (.ref q0), some (.int 0), some (.int 0), none, none]) (r_istore (M := mX10_value) (ls := [some (.ref p0), none, some (.ref p2), some (.ref q0), some (.int 0), none, none, none]) (i := 5) (v := 0) (by decide) rfl dX10_value_20) ?_
  refine lp_X10_value_22_t (N := N) hW (by omega) _ p0 p2 q0 0 0 x g0 g2 gq0 ?_
  · intro e4_27 y27
    refine go1 (M := mX10_value) (pc' := 178) (r_iload (M := mX10_value) (i := 4) rfl dX10_value_176) ?_
    refine go1 (M := mX10_value) (pc' := 179) (r_iconst (M := mX10_value) (v := 1) (by decide) dX10_value_178) ?_
    refine go_br (M := mX10_value) (pt := 194) (pf := 182) (fun kt kf => r_icmp_lt (M := mX10_value) dX10_value_179 (by decide) kt kf) (fun hc29 => ?_) (fun hc29 => ?_)
    · refine go1 (M := mX10_value) (pc' := 195) (r_iconst (M := mX10_value) (v := 0) (by decide) dX10_value_194) ?_
      exact go_iret (M := mX10_value) rfl rfl dX10_value_195
    · refine go1 (M := mX10_value) (pc' := 183) (r_aload_n (M := mX10_value) (i := 0) rfl dX10_value_182) ?_
      refine go1 (M := mX10_value) (pc' := 186) (r_getR (M := mX10_value) fl_10_22 g0 rfl (wt_some hW g0 (by decide) (by decide) rfl) dX10_value_183) ?_
      have hT30 : TY S (pr S p0 2) 14 := wt hW g0 (by decide) (by decide) rfl (by decide)
      refine go1 (M := mX10_value) (pc' := 188) (r_iload (M := mX10_value) (i := 4) rfl dX10_value_186) ?_
      refine go1 (M := mX10_value) (pc' := 189) (r_iconst (M := mX10_value) (v := 1) (by decide) dX10_value_188) ?_
      refine go1 (M := mX10_value) (pc' := 190) (r_isub (M := mX10_value) dX10_value_189) ?_
      refine go_ck (fun hi31 => ?_)
      refine go1 (M := mX10_value) (pc' := 191) (r_iald (M := mX10_value) hT30 hi31 dX10_value_190) ?_
      refine go1 (M := mX10_value) (pc' := 195) (r_goto (M := mX10_value) dX10_value_191 (by decide)) ?_
      exact go_iret (M := mX10_value) rfl rfl dX10_value_195
def f_X10_value (N : Nat) (S : SH) (a0 : Nat) (a1 : Int32) (a2 : Nat) (x : DY) : Option (Int32 × DY) :=
  (if a1 = 0 then j_X10_value_15 N S a0 a2 (pr S a0 0) x else j_X10_value_15 N S a0 a2 (pr S a0 1) x)
set_option maxHeartbeats 1000000 in
theorem t_X10_value {N d : Nat} {S : SH} (hW : WT S) {x : DY} {a0 : Nat} {a1 : Int32} {a2 : Nat} (hd : 2 ≤ d) (h0 : TY S a0 10) (h2 : TY S a2 14) : CT mX10_value d S [.ref a0, .int a1, .ref a2] x wSI (f_X10_value N S a0 a1 a2 x) := by
  refine CT.of [some (.ref a0), some (.int a1), some (.ref a2), none, none, none, none, none] rfl (Nat.le_of_ble_eq_true rfl) (by decide +kernel) ?_
  unfold f_X10_value
  refine go1 (M := mX10_value) (pc' := 1) (r_iload_n (M := mX10_value) (i := 1) rfl dX10_value_0) ?_
  refine go_br (M := mX10_value) (pt := 4) (pf := 11) (fun kt kf => r_if_ne (M := mX10_value) dX10_value_1 (by decide) kf kt) (fun hc1 => ?_) (fun hc1 => ?_)
  · refine go1 (M := mX10_value) (pc' := 5) (r_aload_n (M := mX10_value) (i := 0) rfl dX10_value_4) ?_
    refine go1 (M := mX10_value) (pc' := 8) (r_getR (M := mX10_value) fl_10_7 h0 rfl (wt_some hW h0 (by decide) (by decide) rfl) dX10_value_5) ?_
    have hT33 : TXX S (pr S a0 0) := wtX hW h0 (by decide) (by decide) rfl (by decide)
    refine go1 (M := mX10_value) (pc' := 15) (r_goto (M := mX10_value) dX10_value_8 (by decide)) ?_
    refine go_drop (ls' := [some (.ref a0), none, some (.ref a2), none, none, none, none, none]) (And.intro rfl (And.intro rfl trivial)) ?_
    exact j_X10_value_15_t (N := N) hW (by omega) a0 a2 (pr S a0 0) x h0 h2 hT33
  · refine go1 (M := mX10_value) (pc' := 12) (r_aload_n (M := mX10_value) (i := 0) rfl dX10_value_11) ?_
    refine go1 (M := mX10_value) (pc' := 15) (r_getR (M := mX10_value) fl_10_13 h0 rfl (wt_some hW h0 (by decide) (by decide) rfl) dX10_value_12) ?_
    have hT2 : TXX S (pr S a0 1) := wtX hW h0 (by decide) (by decide) rfl (by decide)
    refine go_drop (ls' := [some (.ref a0), none, some (.ref a2), none, none, none, none, none]) (And.intro rfl (And.intro rfl trivial)) ?_
    exact j_X10_value_15_t (N := N) hW (by omega) a0 a2 (pr S a0 1) x h0 h2 hT2
def f_X6_takeValue (N : Nat) (S : SH) (a0 : Nat) (a1 : Int32) (a2 : Int32) (x : DY) : Option (Int32 × DY) :=
  Option.bind (f_X8_isTaken N S (pr S a0 4) a1 x) (fun r2 => (if r2 = 0 then some (0, x) else Option.bind (f_X4_has N S (pr S a0 3) a2 x) (fun r5 => (if r5 = 0 then some (0, x) else Option.bind (f_X6_likingOf N S a0 a1 a2 x) (fun r8 => ck S (pr S a0 6) 0 (bl (U1 x (pr S a0 6) (0 : Int32).toNatClampNeg r8) (fun x10 => ck S (pr S (pr S a0 3) 2) a2 (ck S (pr S a0 6) 1 (bl (U1 x10 (pr S a0 6) (1 : Int32).toNatClampNeg (x10.1 (pr S (pr S a0 3) 2) a2.toNatClampNeg)) (fun x14 => Option.bind (f_X6_priceOf N S a0 a2 x14) (fun r15 => ck S (pr S a0 6) 4 (bl (U1 x14 (pr S a0 6) (4 : Int32).toNatClampNeg r15) (fun x17 => Option.bind (f_X6_learnGuest N S a0 a1 x17) (fun r18 => Option.bind (f_X10_value N S (pr S (pr S a0 1) 1) 0 (pr S a0 6) r18) (fun r21 => some (r21.1, r21.2))))))))))))))))
set_option maxHeartbeats 1000000 in
theorem t_X6_takeValue {N d : Nat} {S : SH} (hW : WT S) {x : DY} {a0 : Nat} {a1 : Int32} {a2 : Int32} (hd : 3 ≤ d) (h0 : TY S a0 6) : CT mX6_takeValue d S [.ref a0, .int a1, .int a2] x wSI (f_X6_takeValue N S a0 a1 a2 x) := by
  refine CT.of [some (.ref a0), some (.int a1), some (.int a2)] rfl (Nat.le_of_ble_eq_true rfl) (by decide +kernel) ?_
  unfold f_X6_takeValue
  refine go1 (M := mX6_takeValue) (pc' := 1) (r_aload_n (M := mX6_takeValue) (i := 0) rfl dX6_takeValue_0) ?_
  refine go1 (M := mX6_takeValue) (pc' := 4) (r_getR (M := mX6_takeValue) fl_6_21 h0 rfl (wt_some hW h0 (by decide) (by decide) rfl) dX6_takeValue_1) ?_
  have hT1 : TY S (pr S a0 4) 8 := wt hW h0 (by decide) (by decide) rfl (by decide)
  refine go1 (M := mX6_takeValue) (pc' := 5) (r_iload_n (M := mX6_takeValue) (i := 1) rfl dX6_takeValue_4) ?_
  refine go_V_PI (M := mX6_takeValue) (pc' := 8) (st := []) (As := [.int a1]) rfl ln_6_112 lb_X8_isTaken (t_X8_isTaken (N := N) hW (by omega) hT1) (by omega) hT1 (Nat.le_of_ble_eq_true rfl) rfl dX6_takeValue_5 (fun r2 => ?_)
  refine go_br (M := mX6_takeValue) (pt := 22) (pf := 11) (fun kt kf => r_if_eq (M := mX6_takeValue) dX6_takeValue_8 (by decide) kt kf) (fun hc3 => ?_) (fun hc3 => ?_)
  · refine go1 (M := mX6_takeValue) (pc' := 23) (r_iconst (M := mX6_takeValue) (v := 0) (by decide) dX6_takeValue_22) ?_
    exact go_iret (M := mX6_takeValue) rfl rfl dX6_takeValue_23
  · refine go1 (M := mX6_takeValue) (pc' := 12) (r_aload_n (M := mX6_takeValue) (i := 0) rfl dX6_takeValue_11) ?_
    refine go1 (M := mX6_takeValue) (pc' := 15) (r_getR (M := mX6_takeValue) fl_6_12 h0 rfl (wt_some hW h0 (by decide) (by decide) rfl) dX6_takeValue_12) ?_
    have hT4 : TY S (pr S a0 3) 4 := wt hW h0 (by decide) (by decide) rfl (by decide)
    refine go1 (M := mX6_takeValue) (pc' := 16) (r_iload_n (M := mX6_takeValue) (i := 2) rfl dX6_takeValue_15) ?_
    refine go_V_PI (M := mX6_takeValue) (pc' := 19) (st := []) (As := [.int a2]) rfl ln_6_80 lb_X4_has (t_X4_has (N := N) hW (by omega) hT4) (by omega) hT4 (Nat.le_of_ble_eq_true rfl) rfl dX6_takeValue_16 (fun r5 => ?_)
    refine go_br (M := mX6_takeValue) (pt := 22) (pf := 24) (fun kt kf => r_if_ne (M := mX6_takeValue) dX6_takeValue_19 (by decide) kf kt) (fun hc6 => ?_) (fun hc6 => ?_)
    · refine go1 (M := mX6_takeValue) (pc' := 23) (r_iconst (M := mX6_takeValue) (v := 0) (by decide) dX6_takeValue_22) ?_
      exact go_iret (M := mX6_takeValue) rfl rfl dX6_takeValue_23
    · refine go1 (M := mX6_takeValue) (pc' := 25) (r_aload_n (M := mX6_takeValue) (i := 0) rfl dX6_takeValue_24) ?_
      refine go1 (M := mX6_takeValue) (pc' := 28) (r_getR (M := mX6_takeValue) fl_6_27 h0 rfl (wt_some hW h0 (by decide) (by decide) rfl) dX6_takeValue_25) ?_
      have hT7 : TY S (pr S a0 6) 14 := wt hW h0 (by decide) (by decide) rfl (by decide)
      refine go1 (M := mX6_takeValue) (pc' := 29) (r_iconst (M := mX6_takeValue) (v := 0) (by decide) dX6_takeValue_28) ?_
      refine go1 (M := mX6_takeValue) (pc' := 30) (r_aload_n (M := mX6_takeValue) (i := 0) rfl dX6_takeValue_29) ?_
      refine go1 (M := mX6_takeValue) (pc' := 31) (r_iload_n (M := mX6_takeValue) (i := 1) rfl dX6_takeValue_30) ?_
      refine go1 (M := mX6_takeValue) (pc' := 32) (r_iload_n (M := mX6_takeValue) (i := 2) rfl dX6_takeValue_31) ?_
      refine go_V_PI (M := mX6_takeValue) (pc' := 35) (st := [.int 0, .ref (pr S a0 6)]) (As := [.int a1, .int a2]) rfl ln_6_220 lb_X6_likingOf (t_X6_likingOf (N := N) hW (by omega) h0) (by omega) h0 (Nat.le_of_ble_eq_true rfl) rfl dX6_takeValue_32 (fun r8 => ?_)
      refine go_ck (fun hi9 => ?_)
      refine go1 (M := mX6_takeValue) (pc' := 36) (r_iast (M := mX6_takeValue) hT7 hi9 dX6_takeValue_35) ?_
      refine go_blx (fun x10 => ?_)
      refine go1 (M := mX6_takeValue) (pc' := 37) (r_aload_n (M := mX6_takeValue) (i := 0) rfl dX6_takeValue_36) ?_
      refine go1 (M := mX6_takeValue) (pc' := 40) (r_getR (M := mX6_takeValue) fl_6_27 h0 rfl (wt_some hW h0 (by decide) (by decide) rfl) dX6_takeValue_37) ?_
      refine go1 (M := mX6_takeValue) (pc' := 41) (r_iconst (M := mX6_takeValue) (v := 1) (by decide) dX6_takeValue_40) ?_
      refine go1 (M := mX6_takeValue) (pc' := 42) (r_aload_n (M := mX6_takeValue) (i := 0) rfl dX6_takeValue_41) ?_
      refine go1 (M := mX6_takeValue) (pc' := 45) (r_getR (M := mX6_takeValue) fl_6_12 h0 rfl (wt_some hW h0 (by decide) (by decide) rfl) dX6_takeValue_42) ?_
      refine go1 (M := mX6_takeValue) (pc' := 48) (r_getR (M := mX6_takeValue) fl_6_168 hT4 rfl (wt_some hW hT4 (by decide) (by decide) rfl) dX6_takeValue_45) ?_
      have hT11 : TY S (pr S (pr S a0 3) 2) 14 := wt hW hT4 (by decide) (by decide) rfl (by decide)
      refine go1 (M := mX6_takeValue) (pc' := 49) (r_iload_n (M := mX6_takeValue) (i := 2) rfl dX6_takeValue_48) ?_
      refine go_ck (fun hi12 => ?_)
      refine go1 (M := mX6_takeValue) (pc' := 50) (r_iald (M := mX6_takeValue) hT11 hi12 dX6_takeValue_49) ?_
      refine go_ck (fun hi13 => ?_)
      refine go1 (M := mX6_takeValue) (pc' := 51) (r_iast (M := mX6_takeValue) hT7 hi13 dX6_takeValue_50) ?_
      refine go_blx (fun x14 => ?_)
      refine go1 (M := mX6_takeValue) (pc' := 52) (r_aload_n (M := mX6_takeValue) (i := 0) rfl dX6_takeValue_51) ?_
      refine go1 (M := mX6_takeValue) (pc' := 55) (r_getR (M := mX6_takeValue) fl_6_27 h0 rfl (wt_some hW h0 (by decide) (by decide) rfl) dX6_takeValue_52) ?_
      refine go1 (M := mX6_takeValue) (pc' := 56) (r_iconst (M := mX6_takeValue) (v := 4) (by decide) dX6_takeValue_55) ?_
      refine go1 (M := mX6_takeValue) (pc' := 57) (r_aload_n (M := mX6_takeValue) (i := 0) rfl dX6_takeValue_56) ?_
      refine go1 (M := mX6_takeValue) (pc' := 58) (r_iload_n (M := mX6_takeValue) (i := 2) rfl dX6_takeValue_57) ?_
      refine go_V_PI (M := mX6_takeValue) (pc' := 61) (st := [.int 4, .ref (pr S a0 6)]) (As := [.int a2]) rfl ln_6_191 lb_X6_priceOf (t_X6_priceOf (N := N) hW (by omega) h0) (by omega) h0 (Nat.le_of_ble_eq_true rfl) rfl dX6_takeValue_58 (fun r15 => ?_)
      refine go_ck (fun hi16 => ?_)
      refine go1 (M := mX6_takeValue) (pc' := 62) (r_iast (M := mX6_takeValue) hT7 hi16 dX6_takeValue_61) ?_
      refine go_blx (fun x17 => ?_)
      refine go1 (M := mX6_takeValue) (pc' := 63) (r_aload_n (M := mX6_takeValue) (i := 0) rfl dX6_takeValue_62) ?_
      refine go1 (M := mX6_takeValue) (pc' := 64) (r_iload_n (M := mX6_takeValue) (i := 1) rfl dX6_takeValue_63) ?_
      refine go_V_SV (M := mX6_takeValue) (pc' := 67) (st := []) (As := [.int a1]) rfl ln_6_223 lb_X6_learnGuest (t_X6_learnGuest (N := N) hW (by omega) h0) (by omega) h0 (Nat.le_of_ble_eq_true rfl) rfl dX6_takeValue_64 (fun r18 => ?_)
      refine go1 (M := mX6_takeValue) (pc' := 68) (r_aload_n (M := mX6_takeValue) (i := 0) rfl dX6_takeValue_67) ?_
      refine go1 (M := mX6_takeValue) (pc' := 71) (r_getR (M := mX6_takeValue) fl_6_49 h0 rfl (wt_some hW h0 (by decide) (by decide) rfl) dX6_takeValue_68) ?_
      have hT19 : TY S (pr S a0 1) 7 := wt hW h0 (by decide) (by decide) rfl (by decide)
      refine go1 (M := mX6_takeValue) (pc' := 74) (r_getR (M := mX6_takeValue) fl_6_226 hT19 rfl (wt_some hW hT19 (by decide) (by decide) rfl) dX6_takeValue_71) ?_
      have hT20 : TY S (pr S (pr S a0 1) 1) 10 := wt hW hT19 (by decide) (by decide) rfl (by decide)
      refine go1 (M := mX6_takeValue) (pc' := 75) (r_iconst (M := mX6_takeValue) (v := 0) (by decide) dX6_takeValue_74) ?_
      refine go1 (M := mX6_takeValue) (pc' := 76) (r_aload_n (M := mX6_takeValue) (i := 0) rfl dX6_takeValue_75) ?_
      refine go1 (M := mX6_takeValue) (pc' := 79) (r_getR (M := mX6_takeValue) fl_6_27 h0 rfl (wt_some hW h0 (by decide) (by decide) rfl) dX6_takeValue_76) ?_
      refine go_V_SI (M := mX6_takeValue) (pc' := 82) (st := []) (As := [.int 0, .ref (pr S a0 6)]) rfl ln_6_232 lb_X10_value (t_X10_value (N := N) hW (by omega) hT20 hT7) (by omega) hT20 (Nat.le_of_ble_eq_true rfl) rfl dX6_takeValue_79 (fun r21 => ?_)
      exact go_iret (M := mX6_takeValue) rfl rfl dX6_takeValue_82
def j_X6_serve_151 (N : Nat) (S : SH) (p0 : Nat) (p1 : Int32) (x : DY) : Option DY :=
  ck S (pr S (pr S p0 4) 4) p1 (ck S (pr S (pr S p0 4) 4) p1 (bl (U1 x (pr S (pr S p0 4) 4) p1.toNatClampNeg ((x.1 (pr S (pr S p0 4) 4) p1.toNatClampNeg) + 1)) (fun x26 => some x26)))
set_option maxHeartbeats 1000000 in
theorem j_X6_serve_151_t {N d : Nat} {S : SH} (hW : WT S) (hd : 2 ≤ d) (p0 : Nat) (p1 : Int32) (x : DY) (g0 : TY S p0 6) : Go mX6_serve d S wSV 151 [some (.ref p0), some (.int p1), none, none, none] [] x (j_X6_serve_151 N S p0 p1 x) := by
  unfold j_X6_serve_151
  refine go1 (M := mX6_serve) (pc' := 152) (r_aload_n (M := mX6_serve) (i := 0) rfl dX6_serve_151) ?_
  refine go1 (M := mX6_serve) (pc' := 155) (r_getR (M := mX6_serve) fl_6_21 g0 rfl (wt_some hW g0 (by decide) (by decide) rfl) dX6_serve_152) ?_
  have hT22 : TY S (pr S p0 4) 8 := wt hW g0 (by decide) (by decide) rfl (by decide)
  refine go1 (M := mX6_serve) (pc' := 158) (r_getR (M := mX6_serve) fl_6_188 hT22 rfl (wt_some hW hT22 (by decide) (by decide) rfl) dX6_serve_155) ?_
  have hT23 : TY S (pr S (pr S p0 4) 4) 14 := wt hW hT22 (by decide) (by decide) rfl (by decide)
  refine go1 (M := mX6_serve) (pc' := 159) (r_iload_n (M := mX6_serve) (i := 1) rfl dX6_serve_158) ?_
  refine go1 (M := mX6_serve) (pc' := 160) (r_dup2 (M := mX6_serve) rfl rfl dX6_serve_159) ?_
  refine go_ck (fun hi24 => ?_)
  refine go1 (M := mX6_serve) (pc' := 161) (r_iald (M := mX6_serve) hT23 hi24 dX6_serve_160) ?_
  refine go1 (M := mX6_serve) (pc' := 162) (r_iconst (M := mX6_serve) (v := 1) (by decide) dX6_serve_161) ?_
  refine go1 (M := mX6_serve) (pc' := 163) (r_iadd (M := mX6_serve) dX6_serve_162) ?_
  refine go_ck (fun hi25 => ?_)
  refine go1 (M := mX6_serve) (pc' := 164) (r_iast (M := mX6_serve) hT23 hi25 dX6_serve_163) ?_
  refine go_blx (fun x26 => ?_)
  exact go_vret (M := mX6_serve) rfl rfl dX6_serve_164
def j_X6_serve_101 (N : Nat) (S : SH) (p0 : Nat) (p1 : Int32) (p2 : Int32) (p4 : Int32) (x : DY) : Option DY :=
  Option.bind (f_X4_has N S (pr S p0 3) p4 x) (fun r20 => (if r20 = 0 then j_X6_serve_151 N S p0 p1 x else Option.bind (f_X6_takeValue N S p0 p1 p4 x) (fun r27 => (if r27.1 = 0 then j_X6_serve_151 N S p0 p1 r27.2 else ck S (pr S p0 2) p2 (bl (U1 r27.2 (pr S p0 2) p2.toNatClampNeg (-1)) (fun x31 => ck S (pr S (pr S p0 4) 6) p1 (bl (U1 x31 (pr S (pr S p0 4) 6) p1.toNatClampNeg p4) (fun x35 => Option.bind (f_X6_eat N S p0 p1 p4 x35) (fun r36 => some r36)))))))))
set_option maxHeartbeats 1000000 in
theorem j_X6_serve_101_t {N d : Nat} {S : SH} (hW : WT S) (hd : 4 ≤ d) (p0 : Nat) (p1 : Int32) (p2 : Int32) (p4 : Int32) (x : DY) (g0 : TY S p0 6) : Go mX6_serve d S wSV 101 [some (.ref p0), some (.int p1), some (.int p2), none, some (.int p4)] [] x (j_X6_serve_101 N S p0 p1 p2 p4 x) := by
  unfold j_X6_serve_101
  refine go1 (M := mX6_serve) (pc' := 102) (r_aload_n (M := mX6_serve) (i := 0) rfl dX6_serve_101) ?_
  refine go1 (M := mX6_serve) (pc' := 105) (r_getR (M := mX6_serve) fl_6_12 g0 rfl (wt_some hW g0 (by decide) (by decide) rfl) dX6_serve_102) ?_
  have hT19 : TY S (pr S p0 3) 4 := wt hW g0 (by decide) (by decide) rfl (by decide)
  refine go1 (M := mX6_serve) (pc' := 107) (r_iload (M := mX6_serve) (i := 4) rfl dX6_serve_105) ?_
  refine go_V_PI (M := mX6_serve) (pc' := 110) (st := []) (As := [.int p4]) rfl ln_6_80 lb_X4_has (t_X4_has (N := N) hW (by omega) hT19) (by omega) hT19 (Nat.le_of_ble_eq_true rfl) rfl dX6_serve_107 (fun r20 => ?_)
  refine go_br (M := mX6_serve) (pt := 151) (pf := 113) (fun kt kf => r_if_eq (M := mX6_serve) dX6_serve_110 (by decide) kt kf) (fun hc21 => ?_) (fun hc21 => ?_)
  · refine go_drop (ls' := [some (.ref p0), some (.int p1), none, none, none]) (And.intro rfl (And.intro rfl trivial)) ?_
    exact j_X6_serve_151_t (N := N) hW (by omega) p0 p1 x g0
  · refine go1 (M := mX6_serve) (pc' := 114) (r_aload_n (M := mX6_serve) (i := 0) rfl dX6_serve_113) ?_
    refine go1 (M := mX6_serve) (pc' := 115) (r_iload_n (M := mX6_serve) (i := 1) rfl dX6_serve_114) ?_
    refine go1 (M := mX6_serve) (pc' := 117) (r_iload (M := mX6_serve) (i := 4) rfl dX6_serve_115) ?_
    refine go_V_SI (M := mX6_serve) (pc' := 120) (st := []) (As := [.int p1, .int p4]) rfl ln_6_185 lb_X6_takeValue (t_X6_takeValue (N := N) hW (by omega) g0) (by omega) g0 (Nat.le_of_ble_eq_true rfl) rfl dX6_serve_117 (fun r27 => ?_)
    refine go_br (M := mX6_serve) (pt := 151) (pf := 123) (fun kt kf => r_if_eq (M := mX6_serve) dX6_serve_120 (by decide) kt kf) (fun hc28 => ?_) (fun hc28 => ?_)
    · refine go_drop (ls' := [some (.ref p0), some (.int p1), none, none, none]) (And.intro rfl (And.intro rfl trivial)) ?_
      exact j_X6_serve_151_t (N := N) hW (by omega) p0 p1 r27.2 g0
    · refine go1 (M := mX6_serve) (pc' := 124) (r_aload_n (M := mX6_serve) (i := 0) rfl dX6_serve_123) ?_
      refine go1 (M := mX6_serve) (pc' := 127) (r_getR (M := mX6_serve) fl_6_59 g0 rfl (wt_some hW g0 (by decide) (by decide) rfl) dX6_serve_124) ?_
      have hT29 : TY S (pr S p0 2) 14 := wt hW g0 (by decide) (by decide) rfl (by decide)
      refine go1 (M := mX6_serve) (pc' := 128) (r_iload_n (M := mX6_serve) (i := 2) rfl dX6_serve_127) ?_
      refine go1 (M := mX6_serve) (pc' := 129) (r_iconst (M := mX6_serve) (v := (-1)) (by decide) dX6_serve_128) ?_
      refine go_ck (fun hi30 => ?_)
      refine go1 (M := mX6_serve) (pc' := 130) (r_iast (M := mX6_serve) hT29 hi30 dX6_serve_129) ?_
      refine go_blx (fun x31 => ?_)
      refine go1 (M := mX6_serve) (pc' := 131) (r_aload_n (M := mX6_serve) (i := 0) rfl dX6_serve_130) ?_
      refine go1 (M := mX6_serve) (pc' := 134) (r_getR (M := mX6_serve) fl_6_21 g0 rfl (wt_some hW g0 (by decide) (by decide) rfl) dX6_serve_131) ?_
      have hT32 : TY S (pr S p0 4) 8 := wt hW g0 (by decide) (by decide) rfl (by decide)
      refine go1 (M := mX6_serve) (pc' := 137) (r_getR (M := mX6_serve) fl_6_115 hT32 rfl (wt_some hW hT32 (by decide) (by decide) rfl) dX6_serve_134) ?_
      have hT33 : TY S (pr S (pr S p0 4) 6) 14 := wt hW hT32 (by decide) (by decide) rfl (by decide)
      refine go1 (M := mX6_serve) (pc' := 138) (r_iload_n (M := mX6_serve) (i := 1) rfl dX6_serve_137) ?_
      refine go1 (M := mX6_serve) (pc' := 140) (r_iload (M := mX6_serve) (i := 4) rfl dX6_serve_138) ?_
      refine go_ck (fun hi34 => ?_)
      refine go1 (M := mX6_serve) (pc' := 141) (r_iast (M := mX6_serve) hT33 hi34 dX6_serve_140) ?_
      refine go_blx (fun x35 => ?_)
      refine go1 (M := mX6_serve) (pc' := 142) (r_aload_n (M := mX6_serve) (i := 0) rfl dX6_serve_141) ?_
      refine go1 (M := mX6_serve) (pc' := 143) (r_iload_n (M := mX6_serve) (i := 1) rfl dX6_serve_142) ?_
      refine go1 (M := mX6_serve) (pc' := 145) (r_iload (M := mX6_serve) (i := 4) rfl dX6_serve_143) ?_
      refine go_V_SV (M := mX6_serve) (pc' := 148) (st := []) (As := [.int p1, .int p4]) rfl ln_6_181 lb_X6_eat (t_X6_eat (N := N) hW (by omega) g0) (by omega) g0 (Nat.le_of_ble_eq_true rfl) rfl dX6_serve_145 (fun r36 => ?_)
      refine go1 (M := mX6_serve) (pc' := 164) (r_goto (M := mX6_serve) dX6_serve_148 (by decide)) ?_
      exact go_vret (M := mX6_serve) rfl rfl dX6_serve_164
def f_X6_serve (N : Nat) (S : SH) (a0 : Nat) (a1 : Int32) (x : DY) : Option DY :=
  ck S (pr S (pr S a0 4) 6) a1 (bl (U1 x (pr S (pr S a0 4) 6) a1.toNatClampNeg (-1)) (fun x4 => ck S (pr S (pr S a0 4) 0) a1 (Option.bind (f_X8_isTaken N S (pr S a0 4) a1 x4) (fun r7 => (if r7 = 0 then some x4 else Option.bind (f_X6_isPlace N S a0 (x4.1 (pr S (pr S a0 4) 0) a1.toNatClampNeg) x4) (fun r9 => (if r9 = 0 then some x4 else ck S (pr S (pr S a0 5) 0) (x4.1 (pr S (pr S a0 4) 0) a1.toNatClampNeg) (ck S (pr S a0 2) (x4.1 (pr S (pr S a0 4) 0) a1.toNatClampNeg) (Option.bind (f_X4_has N S (pr S a0 3) (x4.1 (pr S (pr S a0 5) 0) (x4.1 (pr S (pr S a0 4) 0) a1.toNatClampNeg).toNatClampNeg) x4) (fun r17 => (if r17 = 0 then j_X6_serve_101 N S a0 a1 (x4.1 (pr S (pr S a0 4) 0) a1.toNatClampNeg) (x4.1 (pr S a0 2) (x4.1 (pr S (pr S a0 4) 0) a1.toNatClampNeg).toNatClampNeg) x4 else ck S (pr S (pr S a0 3) 4) (x4.1 (pr S (pr S a0 5) 0) (x4.1 (pr S (pr S a0 4) 0) a1.toNatClampNeg).toNatClampNeg) ((if (x4.1 (pr S (pr S a0 3) 4) (x4.1 (pr S (pr S a0 5) 0) (x4.1 (pr S (pr S a0 4) 0) a1.toNatClampNeg).toNatClampNeg).toNatClampNeg) = a1 then ck S (pr S (pr S a0 5) 0) (x4.1 (pr S (pr S a0 4) 0) a1.toNatClampNeg) (bl (U1 x4 (pr S (pr S a0 5) 0) (x4.1 (pr S (pr S a0 4) 0) a1.toNatClampNeg).toNatClampNeg (-1)) (fun x41 => Option.bind (f_X6_eat N S a0 a1 (x4.1 (pr S (pr S a0 5) 0) (x4.1 (pr S (pr S a0 4) 0) a1.toNatClampNeg).toNatClampNeg) x41) (fun r42 => some r42))) else j_X6_serve_101 N S a0 a1 (x4.1 (pr S (pr S a0 4) 0) a1.toNatClampNeg) (x4.1 (pr S a0 2) (x4.1 (pr S (pr S a0 4) 0) a1.toNatClampNeg).toNatClampNeg) x4)))))))))))))
set_option maxHeartbeats 1000000 in
theorem t_X6_serve {N d : Nat} {S : SH} (hW : WT S) {x : DY} {a0 : Nat} {a1 : Int32} (hd : 4 ≤ d) (h0 : TY S a0 6) : CT mX6_serve d S [.ref a0, .int a1] x wSV (f_X6_serve N S a0 a1 x) := by
  refine CT.of [some (.ref a0), some (.int a1), none, none, none] rfl (Nat.le_of_ble_eq_true rfl) (by decide +kernel) ?_
  unfold f_X6_serve
  refine go1 (M := mX6_serve) (pc' := 1) (r_aload_n (M := mX6_serve) (i := 0) rfl dX6_serve_0) ?_
  refine go1 (M := mX6_serve) (pc' := 4) (r_getR (M := mX6_serve) fl_6_21 h0 rfl (wt_some hW h0 (by decide) (by decide) rfl) dX6_serve_1) ?_
  have hT1 : TY S (pr S a0 4) 8 := wt hW h0 (by decide) (by decide) rfl (by decide)
  refine go1 (M := mX6_serve) (pc' := 7) (r_getR (M := mX6_serve) fl_6_115 hT1 rfl (wt_some hW hT1 (by decide) (by decide) rfl) dX6_serve_4) ?_
  have hT2 : TY S (pr S (pr S a0 4) 6) 14 := wt hW hT1 (by decide) (by decide) rfl (by decide)
  refine go1 (M := mX6_serve) (pc' := 8) (r_iload_n (M := mX6_serve) (i := 1) rfl dX6_serve_7) ?_
  refine go1 (M := mX6_serve) (pc' := 9) (r_iconst (M := mX6_serve) (v := (-1)) (by decide) dX6_serve_8) ?_
  refine go_ck (fun hi3 => ?_)
  refine go1 (M := mX6_serve) (pc' := 10) (r_iast (M := mX6_serve) hT2 hi3 dX6_serve_9) ?_
  refine go_blx (fun x4 => ?_)
  refine go1 (M := mX6_serve) (pc' := 11) (r_aload_n (M := mX6_serve) (i := 0) rfl dX6_serve_10) ?_
  refine go1 (M := mX6_serve) (pc' := 14) (r_getR (M := mX6_serve) fl_6_21 h0 rfl (wt_some hW h0 (by decide) (by decide) rfl) dX6_serve_11) ?_
  refine go1 (M := mX6_serve) (pc' := 17) (r_getR (M := mX6_serve) fl_6_118 hT1 rfl (wt_some hW hT1 (by decide) (by decide) rfl) dX6_serve_14) ?_
  have hT5 : TY S (pr S (pr S a0 4) 0) 14 := wt hW hT1 (by decide) (by decide) rfl (by decide)
  refine go1 (M := mX6_serve) (pc' := 18) (r_iload_n (M := mX6_serve) (i := 1) rfl dX6_serve_17) ?_
  refine go_ck (fun hi6 => ?_)
  refine go1 (M := mX6_serve) (pc' := 19) (r_iald (M := mX6_serve) hT5 hi6 dX6_serve_18) ?_
  refine go1 (M := mX6_serve) (pc' := 20) (ls' := [some (.ref a0), some (.int a1), some (.int (x4.1 (pr S (pr S a0 4) 0) a1.toNatClampNeg)), none, none]) (r_istore_n (M := mX6_serve) (ls := [some (.ref a0), some (.int a1), none, none, none]) (i := 2) (v := (x4.1 (pr S (pr S a0 4) 0) a1.toNatClampNeg)) (by decide) rfl dX6_serve_19) ?_
  refine go1 (M := mX6_serve) (pc' := 21) (r_aload_n (M := mX6_serve) (i := 0) rfl dX6_serve_20) ?_
  refine go1 (M := mX6_serve) (pc' := 24) (r_getR (M := mX6_serve) fl_6_21 h0 rfl (wt_some hW h0 (by decide) (by decide) rfl) dX6_serve_21) ?_
  refine go1 (M := mX6_serve) (pc' := 25) (r_iload_n (M := mX6_serve) (i := 1) rfl dX6_serve_24) ?_
  refine go_V_PI (M := mX6_serve) (pc' := 28) (st := []) (As := [.int a1]) rfl ln_6_112 lb_X8_isTaken (t_X8_isTaken (N := N) hW (by omega) hT1) (by omega) hT1 (Nat.le_of_ble_eq_true rfl) rfl dX6_serve_25 (fun r7 => ?_)
  refine go_br (M := mX6_serve) (pt := 39) (pf := 31) (fun kt kf => r_if_eq (M := mX6_serve) dX6_serve_28 (by decide) kt kf) (fun hc8 => ?_) (fun hc8 => ?_)
  · exact go_vret (M := mX6_serve) rfl rfl dX6_serve_39
  · refine go1 (M := mX6_serve) (pc' := 32) (r_aload_n (M := mX6_serve) (i := 0) rfl dX6_serve_31) ?_
    refine go1 (M := mX6_serve) (pc' := 33) (r_iload_n (M := mX6_serve) (i := 2) rfl dX6_serve_32) ?_
    refine go_V_PI (M := mX6_serve) (pc' := 36) (st := []) (As := [.int (x4.1 (pr S (pr S a0 4) 0) a1.toNatClampNeg)]) rfl ln_6_121 lb_X6_isPlace (t_X6_isPlace (N := N) hW (by omega) h0) (by omega) h0 (Nat.le_of_ble_eq_true rfl) rfl dX6_serve_33 (fun r9 => ?_)
    refine go_br (M := mX6_serve) (pt := 39) (pf := 40) (fun kt kf => r_if_ne (M := mX6_serve) dX6_serve_36 (by decide) kf kt) (fun hc10 => ?_) (fun hc10 => ?_)
    · exact go_vret (M := mX6_serve) rfl rfl dX6_serve_39
    · refine go1 (M := mX6_serve) (pc' := 41) (r_aload_n (M := mX6_serve) (i := 0) rfl dX6_serve_40) ?_
      refine go1 (M := mX6_serve) (pc' := 44) (r_getR (M := mX6_serve) fl_6_73 h0 rfl (wt_some hW h0 (by decide) (by decide) rfl) dX6_serve_41) ?_
      have hT11 : TY S (pr S a0 5) 2 := wt hW h0 (by decide) (by decide) rfl (by decide)
      refine go1 (M := mX6_serve) (pc' := 47) (r_getR (M := mX6_serve) fl_6_77 hT11 rfl (wt_some hW hT11 (by decide) (by decide) rfl) dX6_serve_44) ?_
      have hT12 : TY S (pr S (pr S a0 5) 0) 14 := wt hW hT11 (by decide) (by decide) rfl (by decide)
      refine go1 (M := mX6_serve) (pc' := 48) (r_iload_n (M := mX6_serve) (i := 2) rfl dX6_serve_47) ?_
      refine go_ck (fun hi13 => ?_)
      refine go1 (M := mX6_serve) (pc' := 49) (r_iald (M := mX6_serve) hT12 hi13 dX6_serve_48) ?_
      refine go1 (M := mX6_serve) (pc' := 50) (ls' := [some (.ref a0), some (.int a1), some (.int (x4.1 (pr S (pr S a0 4) 0) a1.toNatClampNeg)), some (.int (x4.1 (pr S (pr S a0 5) 0) (x4.1 (pr S (pr S a0 4) 0) a1.toNatClampNeg).toNatClampNeg)), none]) (r_istore_n (M := mX6_serve) (ls := [some (.ref a0), some (.int a1), some (.int (x4.1 (pr S (pr S a0 4) 0) a1.toNatClampNeg)), none, none]) (i := 3) (v := (x4.1 (pr S (pr S a0 5) 0) (x4.1 (pr S (pr S a0 4) 0) a1.toNatClampNeg).toNatClampNeg)) (by decide) rfl dX6_serve_49) ?_
      refine go1 (M := mX6_serve) (pc' := 51) (r_aload_n (M := mX6_serve) (i := 0) rfl dX6_serve_50) ?_
      refine go1 (M := mX6_serve) (pc' := 54) (r_getR (M := mX6_serve) fl_6_59 h0 rfl (wt_some hW h0 (by decide) (by decide) rfl) dX6_serve_51) ?_
      have hT14 : TY S (pr S a0 2) 14 := wt hW h0 (by decide) (by decide) rfl (by decide)
      refine go1 (M := mX6_serve) (pc' := 55) (r_iload_n (M := mX6_serve) (i := 2) rfl dX6_serve_54) ?_
      refine go_ck (fun hi15 => ?_)
      refine go1 (M := mX6_serve) (pc' := 56) (r_iald (M := mX6_serve) hT14 hi15 dX6_serve_55) ?_
      refine go1 (M := mX6_serve) (pc' := 58) (ls' := [some (.ref a0), some (.int a1), some (.int (x4.1 (pr S (pr S a0 4) 0) a1.toNatClampNeg)), some (.int (x4.1 (pr S (pr S a0 5) 0) (x4.1 (pr S (pr S a0 4) 0) a1.toNatClampNeg).toNatClampNeg)), some (.int (x4.1 (pr S a0 2) (x4.1 (pr S (pr S a0 4) 0) a1.toNatClampNeg).toNatClampNeg))]) (r_istore (M := mX6_serve) (ls := [some (.ref a0), some (.int a1), some (.int (x4.1 (pr S (pr S a0 4) 0) a1.toNatClampNeg)), some (.int (x4.1 (pr S (pr S a0 5) 0) (x4.1 (pr S (pr S a0 4) 0) a1.toNatClampNeg).toNatClampNeg)), none]) (i := 4) (v := (x4.1 (pr S a0 2) (x4.1 (pr S (pr S a0 4) 0) a1.toNatClampNeg).toNatClampNeg)) (by decide) rfl dX6_serve_56) ?_
      refine go1 (M := mX6_serve) (pc' := 59) (r_aload_n (M := mX6_serve) (i := 0) rfl dX6_serve_58) ?_
      refine go1 (M := mX6_serve) (pc' := 62) (r_getR (M := mX6_serve) fl_6_12 h0 rfl (wt_some hW h0 (by decide) (by decide) rfl) dX6_serve_59) ?_
      have hT16 : TY S (pr S a0 3) 4 := wt hW h0 (by decide) (by decide) rfl (by decide)
      refine go1 (M := mX6_serve) (pc' := 63) (r_iload_n (M := mX6_serve) (i := 3) rfl dX6_serve_62) ?_
      refine go_V_PI (M := mX6_serve) (pc' := 66) (st := []) (As := [.int (x4.1 (pr S (pr S a0 5) 0) (x4.1 (pr S (pr S a0 4) 0) a1.toNatClampNeg).toNatClampNeg)]) rfl ln_6_80 lb_X4_has (t_X4_has (N := N) hW (by omega) hT16) (by omega) hT16 (Nat.le_of_ble_eq_true rfl) rfl dX6_serve_63 (fun r17 => ?_)
      refine go_br (M := mX6_serve) (pt := 101) (pf := 69) (fun kt kf => r_if_eq (M := mX6_serve) dX6_serve_66 (by decide) kt kf) (fun hc18 => ?_) (fun hc18 => ?_)
      · refine go_drop (ls' := [some (.ref a0), some (.int a1), some (.int (x4.1 (pr S (pr S a0 4) 0) a1.toNatClampNeg)), none, some (.int (x4.1 (pr S a0 2) (x4.1 (pr S (pr S a0 4) 0) a1.toNatClampNeg).toNatClampNeg))]) (And.intro rfl (And.intro rfl (And.intro rfl (And.intro rfl trivial)))) ?_
        exact j_X6_serve_101_t (N := N) hW (by omega) a0 a1 (x4.1 (pr S (pr S a0 4) 0) a1.toNatClampNeg) (x4.1 (pr S a0 2) (x4.1 (pr S (pr S a0 4) 0) a1.toNatClampNeg).toNatClampNeg) x4 h0
      · refine go1 (M := mX6_serve) (pc' := 70) (r_aload_n (M := mX6_serve) (i := 0) rfl dX6_serve_69) ?_
        refine go1 (M := mX6_serve) (pc' := 73) (r_getR (M := mX6_serve) fl_6_12 h0 rfl (wt_some hW h0 (by decide) (by decide) rfl) dX6_serve_70) ?_
        refine go1 (M := mX6_serve) (pc' := 76) (r_getR (M := mX6_serve) fl_6_91 hT16 rfl (wt_some hW hT16 (by decide) (by decide) rfl) dX6_serve_73) ?_
        have hT37 : TY S (pr S (pr S a0 3) 4) 14 := wt hW hT16 (by decide) (by decide) rfl (by decide)
        refine go1 (M := mX6_serve) (pc' := 77) (r_iload_n (M := mX6_serve) (i := 3) rfl dX6_serve_76) ?_
        refine go_ck (fun hi38 => ?_)
        refine go1 (M := mX6_serve) (pc' := 78) (r_iald (M := mX6_serve) hT37 hi38 dX6_serve_77) ?_
        refine go1 (M := mX6_serve) (pc' := 79) (r_iload_n (M := mX6_serve) (i := 1) rfl dX6_serve_78) ?_
        refine go_br (M := mX6_serve) (pt := 82) (pf := 101) (fun kt kf => r_icmp_ne (M := mX6_serve) dX6_serve_79 (by decide) kf kt) (fun hc39 => ?_) (fun hc39 => ?_)
        · refine go1 (M := mX6_serve) (pc' := 83) (r_aload_n (M := mX6_serve) (i := 0) rfl dX6_serve_82) ?_
          refine go1 (M := mX6_serve) (pc' := 86) (r_getR (M := mX6_serve) fl_6_73 h0 rfl (wt_some hW h0 (by decide) (by decide) rfl) dX6_serve_83) ?_
          refine go1 (M := mX6_serve) (pc' := 89) (r_getR (M := mX6_serve) fl_6_77 hT11 rfl (wt_some hW hT11 (by decide) (by decide) rfl) dX6_serve_86) ?_
          refine go1 (M := mX6_serve) (pc' := 90) (r_iload_n (M := mX6_serve) (i := 2) rfl dX6_serve_89) ?_
          refine go1 (M := mX6_serve) (pc' := 91) (r_iconst (M := mX6_serve) (v := (-1)) (by decide) dX6_serve_90) ?_
          refine go_ck (fun hi40 => ?_)
          refine go1 (M := mX6_serve) (pc' := 92) (r_iast (M := mX6_serve) hT12 hi40 dX6_serve_91) ?_
          refine go_blx (fun x41 => ?_)
          refine go1 (M := mX6_serve) (pc' := 93) (r_aload_n (M := mX6_serve) (i := 0) rfl dX6_serve_92) ?_
          refine go1 (M := mX6_serve) (pc' := 94) (r_iload_n (M := mX6_serve) (i := 1) rfl dX6_serve_93) ?_
          refine go1 (M := mX6_serve) (pc' := 95) (r_iload_n (M := mX6_serve) (i := 3) rfl dX6_serve_94) ?_
          refine go_V_SV (M := mX6_serve) (pc' := 98) (st := []) (As := [.int a1, .int (x4.1 (pr S (pr S a0 5) 0) (x4.1 (pr S (pr S a0 4) 0) a1.toNatClampNeg).toNatClampNeg)]) rfl ln_6_181 lb_X6_eat (t_X6_eat (N := N) hW (by omega) h0) (by omega) h0 (Nat.le_of_ble_eq_true rfl) rfl dX6_serve_95 (fun r42 => ?_)
          refine go1 (M := mX6_serve) (pc' := 164) (r_goto (M := mX6_serve) dX6_serve_98 (by decide)) ?_
          exact go_vret (M := mX6_serve) rfl rfl dX6_serve_164
        · refine go_drop (ls' := [some (.ref a0), some (.int a1), some (.int (x4.1 (pr S (pr S a0 4) 0) a1.toNatClampNeg)), none, some (.int (x4.1 (pr S a0 2) (x4.1 (pr S (pr S a0 4) 0) a1.toNatClampNeg).toNatClampNeg))]) (And.intro rfl (And.intro rfl (And.intro rfl (And.intro rfl trivial)))) ?_
          exact j_X6_serve_101_t (N := N) hW (by omega) a0 a1 (x4.1 (pr S (pr S a0 4) 0) a1.toNatClampNeg) (x4.1 (pr S a0 2) (x4.1 (pr S (pr S a0 4) 0) a1.toNatClampNeg).toNatClampNeg) x4 h0
def f_X6_goValue (N : Nat) (S : SH) (a0 : Nat) (a1 : Int32) (x : DY) : Option (Int32 × DY) :=
  Option.bind (f_X8_isTaken N S (pr S a0 4) a1 x) (fun r2 => (if r2 = 0 then some (0, x) else ck S (pr S a0 6) 0 (bl (U1 x (pr S a0 6) (0 : Int32).toNatClampNeg 0) (fun x6 => ck S (pr S a0 6) 1 (bl (U1 x6 (pr S a0 6) (1 : Int32).toNatClampNeg 0) (fun x8 => ck S (pr S a0 6) 4 (bl (U1 x8 (pr S a0 6) (4 : Int32).toNatClampNeg 0) (fun x10 => Option.bind (f_X6_learnGuest N S a0 a1 x10) (fun r11 => Option.bind (f_X10_value N S (pr S (pr S a0 1) 1) 1 (pr S a0 6) r11) (fun r14 => some (r14.1, r14.2)))))))))))
set_option maxHeartbeats 1000000 in
theorem t_X6_goValue {N d : Nat} {S : SH} (hW : WT S) {x : DY} {a0 : Nat} {a1 : Int32} (hd : 3 ≤ d) (h0 : TY S a0 6) : CT mX6_goValue d S [.ref a0, .int a1] x wSI (f_X6_goValue N S a0 a1 x) := by
  refine CT.of [some (.ref a0), some (.int a1)] rfl (Nat.le_of_ble_eq_true rfl) (by decide +kernel) ?_
  unfold f_X6_goValue
  refine go1 (M := mX6_goValue) (pc' := 1) (r_aload_n (M := mX6_goValue) (i := 0) rfl dX6_goValue_0) ?_
  refine go1 (M := mX6_goValue) (pc' := 4) (r_getR (M := mX6_goValue) fl_6_21 h0 rfl (wt_some hW h0 (by decide) (by decide) rfl) dX6_goValue_1) ?_
  have hT1 : TY S (pr S a0 4) 8 := wt hW h0 (by decide) (by decide) rfl (by decide)
  refine go1 (M := mX6_goValue) (pc' := 5) (r_iload_n (M := mX6_goValue) (i := 1) rfl dX6_goValue_4) ?_
  refine go_V_PI (M := mX6_goValue) (pc' := 8) (st := []) (As := [.int a1]) rfl ln_6_112 lb_X8_isTaken (t_X8_isTaken (N := N) hW (by omega) hT1) (by omega) hT1 (Nat.le_of_ble_eq_true rfl) rfl dX6_goValue_5 (fun r2 => ?_)
  refine go_br (M := mX6_goValue) (pt := 11) (pf := 13) (fun kt kf => r_if_ne (M := mX6_goValue) dX6_goValue_8 (by decide) kf kt) (fun hc3 => ?_) (fun hc3 => ?_)
  · refine go1 (M := mX6_goValue) (pc' := 12) (r_iconst (M := mX6_goValue) (v := 0) (by decide) dX6_goValue_11) ?_
    exact go_iret (M := mX6_goValue) rfl rfl dX6_goValue_12
  · refine go1 (M := mX6_goValue) (pc' := 14) (r_aload_n (M := mX6_goValue) (i := 0) rfl dX6_goValue_13) ?_
    refine go1 (M := mX6_goValue) (pc' := 17) (r_getR (M := mX6_goValue) fl_6_27 h0 rfl (wt_some hW h0 (by decide) (by decide) rfl) dX6_goValue_14) ?_
    have hT4 : TY S (pr S a0 6) 14 := wt hW h0 (by decide) (by decide) rfl (by decide)
    refine go1 (M := mX6_goValue) (pc' := 18) (r_iconst (M := mX6_goValue) (v := 0) (by decide) dX6_goValue_17) ?_
    refine go1 (M := mX6_goValue) (pc' := 19) (r_iconst (M := mX6_goValue) (v := 0) (by decide) dX6_goValue_18) ?_
    refine go_ck (fun hi5 => ?_)
    refine go1 (M := mX6_goValue) (pc' := 20) (r_iast (M := mX6_goValue) hT4 hi5 dX6_goValue_19) ?_
    refine go_blx (fun x6 => ?_)
    refine go1 (M := mX6_goValue) (pc' := 21) (r_aload_n (M := mX6_goValue) (i := 0) rfl dX6_goValue_20) ?_
    refine go1 (M := mX6_goValue) (pc' := 24) (r_getR (M := mX6_goValue) fl_6_27 h0 rfl (wt_some hW h0 (by decide) (by decide) rfl) dX6_goValue_21) ?_
    refine go1 (M := mX6_goValue) (pc' := 25) (r_iconst (M := mX6_goValue) (v := 1) (by decide) dX6_goValue_24) ?_
    refine go1 (M := mX6_goValue) (pc' := 26) (r_iconst (M := mX6_goValue) (v := 0) (by decide) dX6_goValue_25) ?_
    refine go_ck (fun hi7 => ?_)
    refine go1 (M := mX6_goValue) (pc' := 27) (r_iast (M := mX6_goValue) hT4 hi7 dX6_goValue_26) ?_
    refine go_blx (fun x8 => ?_)
    refine go1 (M := mX6_goValue) (pc' := 28) (r_aload_n (M := mX6_goValue) (i := 0) rfl dX6_goValue_27) ?_
    refine go1 (M := mX6_goValue) (pc' := 31) (r_getR (M := mX6_goValue) fl_6_27 h0 rfl (wt_some hW h0 (by decide) (by decide) rfl) dX6_goValue_28) ?_
    refine go1 (M := mX6_goValue) (pc' := 32) (r_iconst (M := mX6_goValue) (v := 4) (by decide) dX6_goValue_31) ?_
    refine go1 (M := mX6_goValue) (pc' := 33) (r_iconst (M := mX6_goValue) (v := 0) (by decide) dX6_goValue_32) ?_
    refine go_ck (fun hi9 => ?_)
    refine go1 (M := mX6_goValue) (pc' := 34) (r_iast (M := mX6_goValue) hT4 hi9 dX6_goValue_33) ?_
    refine go_blx (fun x10 => ?_)
    refine go1 (M := mX6_goValue) (pc' := 35) (r_aload_n (M := mX6_goValue) (i := 0) rfl dX6_goValue_34) ?_
    refine go1 (M := mX6_goValue) (pc' := 36) (r_iload_n (M := mX6_goValue) (i := 1) rfl dX6_goValue_35) ?_
    refine go_V_SV (M := mX6_goValue) (pc' := 39) (st := []) (As := [.int a1]) rfl ln_6_223 lb_X6_learnGuest (t_X6_learnGuest (N := N) hW (by omega) h0) (by omega) h0 (Nat.le_of_ble_eq_true rfl) rfl dX6_goValue_36 (fun r11 => ?_)
    refine go1 (M := mX6_goValue) (pc' := 40) (r_aload_n (M := mX6_goValue) (i := 0) rfl dX6_goValue_39) ?_
    refine go1 (M := mX6_goValue) (pc' := 43) (r_getR (M := mX6_goValue) fl_6_49 h0 rfl (wt_some hW h0 (by decide) (by decide) rfl) dX6_goValue_40) ?_
    have hT12 : TY S (pr S a0 1) 7 := wt hW h0 (by decide) (by decide) rfl (by decide)
    refine go1 (M := mX6_goValue) (pc' := 46) (r_getR (M := mX6_goValue) fl_6_226 hT12 rfl (wt_some hW hT12 (by decide) (by decide) rfl) dX6_goValue_43) ?_
    have hT13 : TY S (pr S (pr S a0 1) 1) 10 := wt hW hT12 (by decide) (by decide) rfl (by decide)
    refine go1 (M := mX6_goValue) (pc' := 47) (r_iconst (M := mX6_goValue) (v := 1) (by decide) dX6_goValue_46) ?_
    refine go1 (M := mX6_goValue) (pc' := 48) (r_aload_n (M := mX6_goValue) (i := 0) rfl dX6_goValue_47) ?_
    refine go1 (M := mX6_goValue) (pc' := 51) (r_getR (M := mX6_goValue) fl_6_27 h0 rfl (wt_some hW h0 (by decide) (by decide) rfl) dX6_goValue_48) ?_
    refine go_V_SI (M := mX6_goValue) (pc' := 54) (st := []) (As := [.int 1, .ref (pr S a0 6)]) rfl ln_6_232 lb_X10_value (t_X10_value (N := N) hW (by omega) hT13 hT4) (by omega) hT13 (Nat.le_of_ble_eq_true rfl) rfl dX6_goValue_51 (fun r14 => ?_)
    exact go_iret (M := mX6_goValue) rfl rfl dX6_goValue_54
def f_X4_isOnBill (N : Nat) (S : SH) (a0 : Nat) (a1 : Int32) (a2 : Int32) (x : DY) : Option Int32 :=
  ck S (pr S a0 3) a1 ((if (x.1 (pr S a0 3) a1.toNatClampNeg) = 2 then ck S (pr S a0 4) a1 ((if (x.1 (pr S a0 4) a1.toNatClampNeg) = a2 then some 1 else some 0)) else some 0))
set_option maxHeartbeats 1000000 in
theorem t_X4_isOnBill {N d : Nat} {S : SH} (hW : WT S) {x : DY} {a0 : Nat} {a1 : Int32} {a2 : Int32} (hd : 1 ≤ d) (h0 : TY S a0 4) : CT mX4_isOnBill d S [.ref a0, .int a1, .int a2] x (wPI x) (f_X4_isOnBill N S a0 a1 a2 x) := by
  refine CT.of [some (.ref a0), some (.int a1), some (.int a2)] rfl (Nat.le_of_ble_eq_true rfl) (by decide +kernel) ?_
  unfold f_X4_isOnBill
  refine go1 (M := mX4_isOnBill) (pc' := 1) (r_aload_n (M := mX4_isOnBill) (i := 0) rfl dX4_isOnBill_0) ?_
  refine go1 (M := mX4_isOnBill) (pc' := 4) (r_getR (M := mX4_isOnBill) fl_4_21 h0 rfl (wt_some hW h0 (by decide) (by decide) rfl) dX4_isOnBill_1) ?_
  have hT1 : TY S (pr S a0 3) 14 := wt hW h0 (by decide) (by decide) rfl (by decide)
  refine go1 (M := mX4_isOnBill) (pc' := 5) (r_iload_n (M := mX4_isOnBill) (i := 1) rfl dX4_isOnBill_4) ?_
  refine go_ck (fun hi2 => ?_)
  refine go1 (M := mX4_isOnBill) (pc' := 6) (r_iald (M := mX4_isOnBill) hT1 hi2 dX4_isOnBill_5) ?_
  refine go1 (M := mX4_isOnBill) (pc' := 7) (r_iconst (M := mX4_isOnBill) (v := 2) (by decide) dX4_isOnBill_6) ?_
  refine go_br (M := mX4_isOnBill) (pt := 10) (pf := 24) (fun kt kf => r_icmp_ne (M := mX4_isOnBill) dX4_isOnBill_7 (by decide) kf kt) (fun hc3 => ?_) (fun hc3 => ?_)
  · refine go1 (M := mX4_isOnBill) (pc' := 11) (r_aload_n (M := mX4_isOnBill) (i := 0) rfl dX4_isOnBill_10) ?_
    refine go1 (M := mX4_isOnBill) (pc' := 14) (r_getR (M := mX4_isOnBill) fl_4_24 h0 rfl (wt_some hW h0 (by decide) (by decide) rfl) dX4_isOnBill_11) ?_
    have hT4 : TY S (pr S a0 4) 14 := wt hW h0 (by decide) (by decide) rfl (by decide)
    refine go1 (M := mX4_isOnBill) (pc' := 15) (r_iload_n (M := mX4_isOnBill) (i := 1) rfl dX4_isOnBill_14) ?_
    refine go_ck (fun hi5 => ?_)
    refine go1 (M := mX4_isOnBill) (pc' := 16) (r_iald (M := mX4_isOnBill) hT4 hi5 dX4_isOnBill_15) ?_
    refine go1 (M := mX4_isOnBill) (pc' := 17) (r_iload_n (M := mX4_isOnBill) (i := 2) rfl dX4_isOnBill_16) ?_
    refine go_br (M := mX4_isOnBill) (pt := 20) (pf := 24) (fun kt kf => r_icmp_ne (M := mX4_isOnBill) dX4_isOnBill_17 (by decide) kf kt) (fun hc6 => ?_) (fun hc6 => ?_)
    · refine go1 (M := mX4_isOnBill) (pc' := 21) (r_iconst (M := mX4_isOnBill) (v := 1) (by decide) dX4_isOnBill_20) ?_
      refine go1 (M := mX4_isOnBill) (pc' := 25) (r_goto (M := mX4_isOnBill) dX4_isOnBill_21 (by decide)) ?_
      exact go_zret (M := mX4_isOnBill) rfl rfl rfl dX4_isOnBill_25
    · refine go1 (M := mX4_isOnBill) (pc' := 25) (r_iconst (M := mX4_isOnBill) (v := 0) (by decide) dX4_isOnBill_24) ?_
      exact go_zret (M := mX4_isOnBill) rfl rfl rfl dX4_isOnBill_25
  · refine go1 (M := mX4_isOnBill) (pc' := 25) (r_iconst (M := mX4_isOnBill) (v := 0) (by decide) dX4_isOnBill_24) ?_
    exact go_zret (M := mX4_isOnBill) rfl rfl rfl dX4_isOnBill_25
def j_X4_clearBill_30 (N : Nat) (S : SH) (bk3 : Int32 → DY → Option DY) (p0 : Nat) (p1 : Int32) (p2 : Int32) (p3 : Int32) (p4 : Int32) (x : DY) : Option DY :=
  bk3 (p4 + 1) x
set_option maxHeartbeats 1000000 in
theorem j_X4_clearBill_30_t {N d : Nat} {S : SH} (hW : WT S) (hd : 2 ≤ d) (bk3 : Int32 → DY → Option DY) (p0 : Nat) (p1 : Int32) (p2 : Int32) (p3 : Int32) (p4 : Int32) (x : DY) (g0 : TY S p0 4) (hbk3 : ∀ (v4 : Int32) (y : DY), Go mX4_clearBill d S wSV 3 [some (.ref p0), some (.int p1), some (.int p2), some (.int p3), some (.int v4)] [] y (bk3 v4 y)) : Go mX4_clearBill d S wSV 30 [some (.ref p0), some (.int p1), some (.int p2), some (.int p3), some (.int p4)] [] x (j_X4_clearBill_30 N S bk3 p0 p1 p2 p3 p4 x) := by
  unfold j_X4_clearBill_30
  refine go1 (M := mX4_clearBill) (pc' := 33) (ls' := [some (.ref p0), some (.int p1), some (.int p2), some (.int p3), some (.int (p4 + 1))]) (r_iinc (M := mX4_clearBill) (ls := [some (.ref p0), some (.int p1), some (.int p2), some (.int p3), some (.int p4)]) (i := 4) (v := p4) (c' := 1) (by decide) rfl (by decide) rfl dX4_clearBill_30) ?_
  refine go1 (M := mX4_clearBill) (pc' := 3) (r_goto (M := mX4_clearBill) dX4_clearBill_33 (by decide)) ?_
  exact hbk3 (p4 + 1) x
def lp_X4_clearBill_3_b (N : Nat) (S : SH) (bk3 : Int32 → DY → Option DY) (p0 : Nat) (p1 : Int32) (p2 : Int32) (p3 : Int32) (p4 : Int32) (x : DY) : Option DY :=
  (if (x.1 p0 5) ≤ p4 then some x else Option.bind (f_X4_isOnBill N S p0 p4 p1 x) (fun r3 => (if r3 = 0 then j_X4_clearBill_30 N S bk3 p0 p1 p2 p3 p4 x else Option.bind (f_X4_become N S p0 p4 p2 p3 x) (fun r5 => j_X4_clearBill_30 N S bk3 p0 p1 p2 p3 p4 r5))))
set_option maxHeartbeats 1000000 in
theorem lp_X4_clearBill_3_b_t {N d : Nat} {S : SH} (hW : WT S) (hd : 2 ≤ d) (bk3 : Int32 → DY → Option DY) (p0 : Nat) (p1 : Int32) (p2 : Int32) (p3 : Int32) (p4 : Int32) (x : DY) (g0 : TY S p0 4) (hbk3 : ∀ (v4 : Int32) (y : DY), Go mX4_clearBill d S wSV 3 [some (.ref p0), some (.int p1), some (.int p2), some (.int p3), some (.int v4)] [] y (bk3 v4 y)) : Go mX4_clearBill d S wSV 3 [some (.ref p0), some (.int p1), some (.int p2), some (.int p3), some (.int p4)] [] x (lp_X4_clearBill_3_b N S bk3 p0 p1 p2 p3 p4 x) := by
  unfold lp_X4_clearBill_3_b
  refine go1 (M := mX4_clearBill) (pc' := 5) (r_iload (M := mX4_clearBill) (i := 4) rfl dX4_clearBill_3) ?_
  refine go1 (M := mX4_clearBill) (pc' := 6) (r_aload_n (M := mX4_clearBill) (i := 0) rfl dX4_clearBill_5) ?_
  refine go1 (M := mX4_clearBill) (pc' := 9) (r_getI (M := mX4_clearBill) fl_4_27 g0 rfl dX4_clearBill_6) ?_
  refine go_br (M := mX4_clearBill) (pt := 36) (pf := 12) (fun kt kf => r_icmp_ge (M := mX4_clearBill) dX4_clearBill_9 (by decide) kt kf) (fun hc2 => ?_) (fun hc2 => ?_)
  · exact go_vret (M := mX4_clearBill) rfl rfl dX4_clearBill_36
  · refine go1 (M := mX4_clearBill) (pc' := 13) (r_aload_n (M := mX4_clearBill) (i := 0) rfl dX4_clearBill_12) ?_
    refine go1 (M := mX4_clearBill) (pc' := 15) (r_iload (M := mX4_clearBill) (i := 4) rfl dX4_clearBill_13) ?_
    refine go1 (M := mX4_clearBill) (pc' := 16) (r_iload_n (M := mX4_clearBill) (i := 1) rfl dX4_clearBill_15) ?_
    refine go_V_PI (M := mX4_clearBill) (pc' := 19) (st := []) (As := [.int p4, .int p1]) rfl ln_4_51 lb_X4_isOnBill (t_X4_isOnBill (N := N) hW (by omega) g0) (by omega) g0 (Nat.le_of_ble_eq_true rfl) rfl dX4_clearBill_16 (fun r3 => ?_)
    refine go_br (M := mX4_clearBill) (pt := 30) (pf := 22) (fun kt kf => r_if_eq (M := mX4_clearBill) dX4_clearBill_19 (by decide) kt kf) (fun hc4 => ?_) (fun hc4 => ?_)
    · exact j_X4_clearBill_30_t (N := N) hW (by omega) bk3 p0 p1 p2 p3 p4 x g0 hbk3
    · refine go1 (M := mX4_clearBill) (pc' := 23) (r_aload_n (M := mX4_clearBill) (i := 0) rfl dX4_clearBill_22) ?_
      refine go1 (M := mX4_clearBill) (pc' := 25) (r_iload (M := mX4_clearBill) (i := 4) rfl dX4_clearBill_23) ?_
      refine go1 (M := mX4_clearBill) (pc' := 26) (r_iload_n (M := mX4_clearBill) (i := 2) rfl dX4_clearBill_25) ?_
      refine go1 (M := mX4_clearBill) (pc' := 27) (r_iload_n (M := mX4_clearBill) (i := 3) rfl dX4_clearBill_26) ?_
      refine go_V_SV (M := mX4_clearBill) (pc' := 30) (st := []) (As := [.int p4, .int p2, .int p3]) rfl ln_4_35 lb_X4_become (t_X4_become (N := N) hW (by omega) g0) (by omega) g0 (Nat.le_of_ble_eq_true rfl) rfl dX4_clearBill_27 (fun r5 => ?_)
      exact j_X4_clearBill_30_t (N := N) hW (by omega) bk3 p0 p1 p2 p3 p4 r5 g0 hbk3
def lp_X4_clearBill_3 (N : Nat) (S : SH) (p0 : Nat) (p1 : Int32) (p2 : Int32) (p3 : Int32) (p4 : Int32) (x : DY) : Option DY :=
  itr (fun back (v : Int32 × DY) => lp_X4_clearBill_3_b N S (fun p4 y => back (p4, y)) p0 p1 p2 p3 v.1 v.2) N (p4, x)
theorem lp_X4_clearBill_3_t {N d : Nat} {S : SH} (hW : WT S) (hd : 2 ≤ d) (p0 : Nat) (p1 : Int32) (p2 : Int32) (p3 : Int32) (p4 : Int32) (x : DY) (g0 : TY S p0 4) : Go mX4_clearBill d S wSV 3 [some (.ref p0), some (.int p1), some (.int p2), some (.int p3), some (.int p4)] [] x (lp_X4_clearBill_3 N S p0 p1 p2 p3 p4 x) := by
  unfold lp_X4_clearBill_3
  exact go_itr (L := fun (v : Int32 × DY) => [some (.ref p0), some (.int p1), some (.int p2), some (.int p3), some (.int v.1)]) (X := fun (v : Int32 × DY) => v.2) (fun back hB v => lp_X4_clearBill_3_b_t (N := N) hW hd (fun p4 y => back (p4, y)) p0 p1 p2 p3 v.1 v.2 g0 (fun p4 y => hB (p4, y)) ) N (p4, x)
def f_X4_clearBill (N : Nat) (S : SH) (a0 : Nat) (a1 : Int32) (a2 : Int32) (a3 : Int32) (x : DY) : Option DY :=
  lp_X4_clearBill_3 N S a0 a1 a2 a3 0 x
set_option maxHeartbeats 1000000 in
theorem t_X4_clearBill {N d : Nat} {S : SH} (hW : WT S) {x : DY} {a0 : Nat} {a1 : Int32} {a2 : Int32} {a3 : Int32} (hd : 2 ≤ d) (h0 : TY S a0 4) : CT mX4_clearBill d S [.ref a0, .int a1, .int a2, .int a3] x wSV (f_X4_clearBill N S a0 a1 a2 a3 x) := by
  refine CT.of [some (.ref a0), some (.int a1), some (.int a2), some (.int a3), none] rfl (Nat.le_of_ble_eq_true rfl) (by decide +kernel) ?_
  unfold f_X4_clearBill
  refine go1 (M := mX4_clearBill) (pc' := 1) (r_iconst (M := mX4_clearBill) (v := 0) (by decide) dX4_clearBill_0) ?_
  refine go1 (M := mX4_clearBill) (pc' := 3) (ls' := [some (.ref a0), some (.int a1), some (.int a2), some (.int a3), some (.int 0)]) (r_istore (M := mX4_clearBill) (ls := [some (.ref a0), some (.int a1), some (.int a2), some (.int a3), none]) (i := 4) (v := 0) (by decide) rfl dX4_clearBill_1) ?_
  refine lp_X4_clearBill_3_t (N := N) hW (by omega) a0 a1 a2 a3 0 x h0
def j_X4_billOf_51 (N : Nat) (S : SH) (bk5 : Int32 → Int32 → Option Int32) (p0 : Nat) (p1 : Int32) (p2 : Nat) (p3 : Int32) (p4 : Int32) (x : DY) : Option Int32 :=
  bk5 p3 (p4 + 1)
set_option maxHeartbeats 1000000 in
theorem j_X4_billOf_51_t {N d : Nat} {S : SH} (hW : WT S) (hd : 2 ≤ d) (bk5 : Int32 → Int32 → Option Int32) (p0 : Nat) (p1 : Int32) (p2 : Nat) (p3 : Int32) (p4 : Int32) (x : DY) (g0 : TY S p0 4) (g2 : TY S p2 3) (hbk5 : ∀ (v3 : Int32) (v4 : Int32), Go mX4_billOf d S (wPI x) 5 [some (.ref p0), some (.int p1), some (.ref p2), some (.int v3), some (.int v4), none] [] x (bk5 v3 v4)) : Go mX4_billOf d S (wPI x) 51 [some (.ref p0), some (.int p1), some (.ref p2), some (.int p3), some (.int p4), none] [] x (j_X4_billOf_51 N S bk5 p0 p1 p2 p3 p4 x) := by
  unfold j_X4_billOf_51
  refine go1 (M := mX4_billOf) (pc' := 54) (ls' := [some (.ref p0), some (.int p1), some (.ref p2), some (.int p3), some (.int (p4 + 1)), none]) (r_iinc (M := mX4_billOf) (ls := [some (.ref p0), some (.int p1), some (.ref p2), some (.int p3), some (.int p4), none]) (i := 4) (v := p4) (c' := 1) (by decide) rfl (by decide) rfl dX4_billOf_51) ?_
  refine go1 (M := mX4_billOf) (pc' := 5) (r_goto (M := mX4_billOf) dX4_billOf_54 (by decide)) ?_
  exact hbk5 p3 (p4 + 1)
def lp_X4_billOf_5_b (N : Nat) (S : SH) (bk5 : Int32 → Int32 → Option Int32) (p0 : Nat) (p1 : Int32) (p2 : Nat) (p3 : Int32) (p4 : Int32) (x : DY) : Option Int32 :=
  (if (x.1 p0 5) ≤ p4 then some p3 else ck S (pr S p0 1) p4 (Option.bind (f_X4_isOnBill N S p0 p4 p1 x) (fun r5 => (if r5 = 0 then j_X4_billOf_51 N S bk5 p0 p1 p2 p3 p4 x else Option.bind (f_X11_isColour N S (x.1 (pr S p0 1) p4.toNatClampNeg) x) (fun r7 => (if r7 = 0 then j_X4_billOf_51 N S bk5 p0 p1 p2 p3 p4 x else ck S (pr S p2 2) (x.1 (pr S p0 1) p4.toNatClampNeg) (j_X4_billOf_51 N S bk5 p0 p1 p2 (p3 + (x.1 (pr S p2 2) (x.1 (pr S p0 1) p4.toNatClampNeg).toNatClampNeg)) p4 x)))))))
set_option maxHeartbeats 1000000 in
theorem lp_X4_billOf_5_b_t {N d : Nat} {S : SH} (hW : WT S) (hd : 2 ≤ d) (bk5 : Int32 → Int32 → Option Int32) (p0 : Nat) (p1 : Int32) (p2 : Nat) (p3 : Int32) (p4 : Int32) (x : DY) (g0 : TY S p0 4) (g2 : TY S p2 3) (hbk5 : ∀ (v3 : Int32) (v4 : Int32), Go mX4_billOf d S (wPI x) 5 [some (.ref p0), some (.int p1), some (.ref p2), some (.int v3), some (.int v4), none] [] x (bk5 v3 v4)) : Go mX4_billOf d S (wPI x) 5 [some (.ref p0), some (.int p1), some (.ref p2), some (.int p3), some (.int p4), none] [] x (lp_X4_billOf_5_b N S bk5 p0 p1 p2 p3 p4 x) := by
  unfold lp_X4_billOf_5_b
  refine go1 (M := mX4_billOf) (pc' := 7) (r_iload (M := mX4_billOf) (i := 4) rfl dX4_billOf_5) ?_
  refine go1 (M := mX4_billOf) (pc' := 8) (r_aload_n (M := mX4_billOf) (i := 0) rfl dX4_billOf_7) ?_
  refine go1 (M := mX4_billOf) (pc' := 11) (r_getI (M := mX4_billOf) fl_4_27 g0 rfl dX4_billOf_8) ?_
  refine go_br (M := mX4_billOf) (pt := 57) (pf := 14) (fun kt kf => r_icmp_ge (M := mX4_billOf) dX4_billOf_11 (by decide) kt kf) (fun hc2 => ?_) (fun hc2 => ?_)
  · refine go1 (M := mX4_billOf) (pc' := 58) (r_iload_n (M := mX4_billOf) (i := 3) rfl dX4_billOf_57) ?_
    exact go_iret (M := mX4_billOf) rfl rfl dX4_billOf_58
  · refine go1 (M := mX4_billOf) (pc' := 15) (r_aload_n (M := mX4_billOf) (i := 0) rfl dX4_billOf_14) ?_
    refine go1 (M := mX4_billOf) (pc' := 18) (r_getR (M := mX4_billOf) fl_4_15 g0 rfl (wt_some hW g0 (by decide) (by decide) rfl) dX4_billOf_15) ?_
    have hT3 : TY S (pr S p0 1) 14 := wt hW g0 (by decide) (by decide) rfl (by decide)
    refine go1 (M := mX4_billOf) (pc' := 20) (r_iload (M := mX4_billOf) (i := 4) rfl dX4_billOf_18) ?_
    refine go_ck (fun hi4 => ?_)
    refine go1 (M := mX4_billOf) (pc' := 21) (r_iald (M := mX4_billOf) hT3 hi4 dX4_billOf_20) ?_
    refine go1 (M := mX4_billOf) (pc' := 23) (ls' := [some (.ref p0), some (.int p1), some (.ref p2), some (.int p3), some (.int p4), some (.int (x.1 (pr S p0 1) p4.toNatClampNeg))]) (r_istore (M := mX4_billOf) (ls := [some (.ref p0), some (.int p1), some (.ref p2), some (.int p3), some (.int p4), none]) (i := 5) (v := (x.1 (pr S p0 1) p4.toNatClampNeg)) (by decide) rfl dX4_billOf_21) ?_
    refine go1 (M := mX4_billOf) (pc' := 24) (r_aload_n (M := mX4_billOf) (i := 0) rfl dX4_billOf_23) ?_
    refine go1 (M := mX4_billOf) (pc' := 26) (r_iload (M := mX4_billOf) (i := 4) rfl dX4_billOf_24) ?_
    refine go1 (M := mX4_billOf) (pc' := 27) (r_iload_n (M := mX4_billOf) (i := 1) rfl dX4_billOf_26) ?_
    refine go_V_PI (M := mX4_billOf) (pc' := 30) (st := []) (As := [.int p4, .int p1]) rfl ln_4_51 lb_X4_isOnBill (t_X4_isOnBill (N := N) hW (by omega) g0) (by omega) g0 (Nat.le_of_ble_eq_true rfl) rfl dX4_billOf_27 (fun r5 => ?_)
    refine go_br (M := mX4_billOf) (pt := 51) (pf := 33) (fun kt kf => r_if_eq (M := mX4_billOf) dX4_billOf_30 (by decide) kt kf) (fun hc6 => ?_) (fun hc6 => ?_)
    · refine go_drop (ls' := [some (.ref p0), some (.int p1), some (.ref p2), some (.int p3), some (.int p4), none]) (And.intro rfl (And.intro rfl (And.intro rfl (And.intro rfl (And.intro rfl trivial))))) ?_
      exact j_X4_billOf_51_t (N := N) hW (by omega) bk5 p0 p1 p2 p3 p4 x g0 g2 hbk5
    · refine go1 (M := mX4_billOf) (pc' := 35) (r_iload (M := mX4_billOf) (i := 5) rfl dX4_billOf_33) ?_
      refine go_SN_PI (M := mX4_billOf) (pc' := 38) (st := []) (As := [.int (x.1 (pr S p0 1) p4.toNatClampNeg)]) rfl ln_4_55 lb_X11_isColour (t_X11_isColour (N := N) hW (by omega) ) (by omega) (Nat.le_of_ble_eq_true rfl) rfl dX4_billOf_35 (fun r7 => ?_)
      refine go_br (M := mX4_billOf) (pt := 51) (pf := 41) (fun kt kf => r_if_eq (M := mX4_billOf) dX4_billOf_38 (by decide) kt kf) (fun hc8 => ?_) (fun hc8 => ?_)
      · refine go_drop (ls' := [some (.ref p0), some (.int p1), some (.ref p2), some (.int p3), some (.int p4), none]) (And.intro rfl (And.intro rfl (And.intro rfl (And.intro rfl (And.intro rfl trivial))))) ?_
        exact j_X4_billOf_51_t (N := N) hW (by omega) bk5 p0 p1 p2 p3 p4 x g0 g2 hbk5
      · refine go1 (M := mX4_billOf) (pc' := 42) (r_iload_n (M := mX4_billOf) (i := 3) rfl dX4_billOf_41) ?_
        refine go1 (M := mX4_billOf) (pc' := 43) (r_aload_n (M := mX4_billOf) (i := 2) rfl dX4_billOf_42) ?_
        refine go1 (M := mX4_billOf) (pc' := 46) (r_getR (M := mX4_billOf) fl_4_58 g2 rfl (wt_some hW g2 (by decide) (by decide) rfl) dX4_billOf_43) ?_
        have hT9 : TY S (pr S p2 2) 14 := wt hW g2 (by decide) (by decide) rfl (by decide)
        refine go1 (M := mX4_billOf) (pc' := 48) (r_iload (M := mX4_billOf) (i := 5) rfl dX4_billOf_46) ?_
        refine go_ck (fun hi10 => ?_)
        refine go1 (M := mX4_billOf) (pc' := 49) (r_iald (M := mX4_billOf) hT9 hi10 dX4_billOf_48) ?_
        refine go1 (M := mX4_billOf) (pc' := 50) (r_iadd (M := mX4_billOf) dX4_billOf_49) ?_
        refine go1 (M := mX4_billOf) (pc' := 51) (ls' := [some (.ref p0), some (.int p1), some (.ref p2), some (.int (p3 + (x.1 (pr S p2 2) (x.1 (pr S p0 1) p4.toNatClampNeg).toNatClampNeg))), some (.int p4), some (.int (x.1 (pr S p0 1) p4.toNatClampNeg))]) (r_istore_n (M := mX4_billOf) (ls := [some (.ref p0), some (.int p1), some (.ref p2), some (.int p3), some (.int p4), some (.int (x.1 (pr S p0 1) p4.toNatClampNeg))]) (i := 3) (v := (p3 + (x.1 (pr S p2 2) (x.1 (pr S p0 1) p4.toNatClampNeg).toNatClampNeg))) (by decide) rfl dX4_billOf_50) ?_
        refine go_drop (ls' := [some (.ref p0), some (.int p1), some (.ref p2), some (.int (p3 + (x.1 (pr S p2 2) (x.1 (pr S p0 1) p4.toNatClampNeg).toNatClampNeg))), some (.int p4), none]) (And.intro rfl (And.intro rfl (And.intro rfl (And.intro rfl (And.intro rfl trivial))))) ?_
        exact j_X4_billOf_51_t (N := N) hW (by omega) bk5 p0 p1 p2 (p3 + (x.1 (pr S p2 2) (x.1 (pr S p0 1) p4.toNatClampNeg).toNatClampNeg)) p4 x g0 g2 hbk5
def lp_X4_billOf_5 (N : Nat) (S : SH) (p0 : Nat) (p1 : Int32) (p2 : Nat) (p3 : Int32) (p4 : Int32) (x : DY) : Option Int32 :=
  itr (fun back (v : Int32 × Int32) => lp_X4_billOf_5_b N S (fun p3 p4 => back (p3, p4)) p0 p1 p2 v.1 v.2 x) N (p3, p4)
theorem lp_X4_billOf_5_t {N d : Nat} {S : SH} (hW : WT S) (hd : 2 ≤ d) (p0 : Nat) (p1 : Int32) (p2 : Nat) (p3 : Int32) (p4 : Int32) (x : DY) (g0 : TY S p0 4) (g2 : TY S p2 3) : Go mX4_billOf d S (wPI x) 5 [some (.ref p0), some (.int p1), some (.ref p2), some (.int p3), some (.int p4), none] [] x (lp_X4_billOf_5 N S p0 p1 p2 p3 p4 x) := by
  unfold lp_X4_billOf_5
  exact go_itr (L := fun (v : Int32 × Int32) => [some (.ref p0), some (.int p1), some (.ref p2), some (.int v.1), some (.int v.2), none]) (X := fun (v : Int32 × Int32) => x) (fun back hB v => lp_X4_billOf_5_b_t (N := N) hW hd (fun p3 p4 => back (p3, p4)) p0 p1 p2 v.1 v.2 x g0 g2 (fun p3 p4 => hB (p3, p4)) ) N (p3, p4)
def f_X4_billOf (N : Nat) (S : SH) (a0 : Nat) (a1 : Int32) (a2 : Nat) (x : DY) : Option Int32 :=
  lp_X4_billOf_5 N S a0 a1 a2 0 0 x
set_option maxHeartbeats 1000000 in
theorem t_X4_billOf {N d : Nat} {S : SH} (hW : WT S) {x : DY} {a0 : Nat} {a1 : Int32} {a2 : Nat} (hd : 2 ≤ d) (h0 : TY S a0 4) (h2 : TY S a2 3) : CT mX4_billOf d S [.ref a0, .int a1, .ref a2] x (wPI x) (f_X4_billOf N S a0 a1 a2 x) := by
  refine CT.of [some (.ref a0), some (.int a1), some (.ref a2), none, none, none] rfl (Nat.le_of_ble_eq_true rfl) (by decide +kernel) ?_
  unfold f_X4_billOf
  refine go1 (M := mX4_billOf) (pc' := 1) (r_iconst (M := mX4_billOf) (v := 0) (by decide) dX4_billOf_0) ?_
  refine go1 (M := mX4_billOf) (pc' := 2) (ls' := [some (.ref a0), some (.int a1), some (.ref a2), some (.int 0), none, none]) (r_istore_n (M := mX4_billOf) (ls := [some (.ref a0), some (.int a1), some (.ref a2), none, none, none]) (i := 3) (v := 0) (by decide) rfl dX4_billOf_1) ?_
  refine go1 (M := mX4_billOf) (pc' := 3) (r_iconst (M := mX4_billOf) (v := 0) (by decide) dX4_billOf_2) ?_
  refine go1 (M := mX4_billOf) (pc' := 5) (ls' := [some (.ref a0), some (.int a1), some (.ref a2), some (.int 0), some (.int 0), none]) (r_istore (M := mX4_billOf) (ls := [some (.ref a0), some (.int a1), some (.ref a2), some (.int 0), none, none]) (i := 4) (v := 0) (by decide) rfl dX4_billOf_3) ?_
  refine lp_X4_billOf_5_t (N := N) hW (by omega) a0 a1 a2 0 0 x h0 h2
def f_X8_clear (N : Nat) (S : SH) (a0 : Nat) (a1 : Int32) (x : DY) : Option DY :=
  ck S (pr S a0 1) a1 (bl (U1 x (pr S a0 1) a1.toNatClampNeg (-1)) (fun x3 => ck S (pr S a0 2) a1 (bl (U1 x3 (pr S a0 2) a1.toNatClampNeg 0) (fun x6 => ck S (pr S a0 3) a1 (bl (U1 x6 (pr S a0 3) a1.toNatClampNeg 0) (fun x9 => ck S (pr S a0 4) a1 (bl (U1 x9 (pr S a0 4) a1.toNatClampNeg 0) (fun x12 => ck S (pr S a0 5) a1 (bl (U1 x12 (pr S a0 5) a1.toNatClampNeg (-1)) (fun x15 => ck S (pr S a0 6) a1 (bl (U1 x15 (pr S a0 6) a1.toNatClampNeg (-1)) (fun x18 => some x18))))))))))))
set_option maxHeartbeats 1000000 in
theorem t_X8_clear {N d : Nat} {S : SH} (hW : WT S) {x : DY} {a0 : Nat} {a1 : Int32} (hd : 1 ≤ d) (h0 : TY S a0 8) : CT mX8_clear d S [.ref a0, .int a1] x wSV (f_X8_clear N S a0 a1 x) := by
  refine CT.of [some (.ref a0), some (.int a1)] rfl (Nat.le_of_ble_eq_true rfl) (by decide +kernel) ?_
  unfold f_X8_clear
  refine go1 (M := mX8_clear) (pc' := 1) (r_aload_n (M := mX8_clear) (i := 0) rfl dX8_clear_0) ?_
  refine go1 (M := mX8_clear) (pc' := 4) (r_getR (M := mX8_clear) fl_8_15 h0 rfl (wt_some hW h0 (by decide) (by decide) rfl) dX8_clear_1) ?_
  have hT1 : TY S (pr S a0 1) 14 := wt hW h0 (by decide) (by decide) rfl (by decide)
  refine go1 (M := mX8_clear) (pc' := 5) (r_iload_n (M := mX8_clear) (i := 1) rfl dX8_clear_4) ?_
  refine go1 (M := mX8_clear) (pc' := 6) (r_iconst (M := mX8_clear) (v := (-1)) (by decide) dX8_clear_5) ?_
  refine go_ck (fun hi2 => ?_)
  refine go1 (M := mX8_clear) (pc' := 7) (r_iast (M := mX8_clear) hT1 hi2 dX8_clear_6) ?_
  refine go_blx (fun x3 => ?_)
  refine go1 (M := mX8_clear) (pc' := 8) (r_aload_n (M := mX8_clear) (i := 0) rfl dX8_clear_7) ?_
  refine go1 (M := mX8_clear) (pc' := 11) (r_getR (M := mX8_clear) fl_8_18 h0 rfl (wt_some hW h0 (by decide) (by decide) rfl) dX8_clear_8) ?_
  have hT4 : TY S (pr S a0 2) 14 := wt hW h0 (by decide) (by decide) rfl (by decide)
  refine go1 (M := mX8_clear) (pc' := 12) (r_iload_n (M := mX8_clear) (i := 1) rfl dX8_clear_11) ?_
  refine go1 (M := mX8_clear) (pc' := 13) (r_iconst (M := mX8_clear) (v := 0) (by decide) dX8_clear_12) ?_
  refine go_ck (fun hi5 => ?_)
  refine go1 (M := mX8_clear) (pc' := 14) (r_iast (M := mX8_clear) hT4 hi5 dX8_clear_13) ?_
  refine go_blx (fun x6 => ?_)
  refine go1 (M := mX8_clear) (pc' := 15) (r_aload_n (M := mX8_clear) (i := 0) rfl dX8_clear_14) ?_
  refine go1 (M := mX8_clear) (pc' := 18) (r_getR (M := mX8_clear) fl_8_21 h0 rfl (wt_some hW h0 (by decide) (by decide) rfl) dX8_clear_15) ?_
  have hT7 : TY S (pr S a0 3) 14 := wt hW h0 (by decide) (by decide) rfl (by decide)
  refine go1 (M := mX8_clear) (pc' := 19) (r_iload_n (M := mX8_clear) (i := 1) rfl dX8_clear_18) ?_
  refine go1 (M := mX8_clear) (pc' := 20) (r_iconst (M := mX8_clear) (v := 0) (by decide) dX8_clear_19) ?_
  refine go_ck (fun hi8 => ?_)
  refine go1 (M := mX8_clear) (pc' := 21) (r_iast (M := mX8_clear) hT7 hi8 dX8_clear_20) ?_
  refine go_blx (fun x9 => ?_)
  refine go1 (M := mX8_clear) (pc' := 22) (r_aload_n (M := mX8_clear) (i := 0) rfl dX8_clear_21) ?_
  refine go1 (M := mX8_clear) (pc' := 25) (r_getR (M := mX8_clear) fl_8_24 h0 rfl (wt_some hW h0 (by decide) (by decide) rfl) dX8_clear_22) ?_
  have hT10 : TY S (pr S a0 4) 14 := wt hW h0 (by decide) (by decide) rfl (by decide)
  refine go1 (M := mX8_clear) (pc' := 26) (r_iload_n (M := mX8_clear) (i := 1) rfl dX8_clear_25) ?_
  refine go1 (M := mX8_clear) (pc' := 27) (r_iconst (M := mX8_clear) (v := 0) (by decide) dX8_clear_26) ?_
  refine go_ck (fun hi11 => ?_)
  refine go1 (M := mX8_clear) (pc' := 28) (r_iast (M := mX8_clear) hT10 hi11 dX8_clear_27) ?_
  refine go_blx (fun x12 => ?_)
  refine go1 (M := mX8_clear) (pc' := 29) (r_aload_n (M := mX8_clear) (i := 0) rfl dX8_clear_28) ?_
  refine go1 (M := mX8_clear) (pc' := 32) (r_getR (M := mX8_clear) fl_8_27 h0 rfl (wt_some hW h0 (by decide) (by decide) rfl) dX8_clear_29) ?_
  have hT13 : TY S (pr S a0 5) 14 := wt hW h0 (by decide) (by decide) rfl (by decide)
  refine go1 (M := mX8_clear) (pc' := 33) (r_iload_n (M := mX8_clear) (i := 1) rfl dX8_clear_32) ?_
  refine go1 (M := mX8_clear) (pc' := 34) (r_iconst (M := mX8_clear) (v := (-1)) (by decide) dX8_clear_33) ?_
  refine go_ck (fun hi14 => ?_)
  refine go1 (M := mX8_clear) (pc' := 35) (r_iast (M := mX8_clear) hT13 hi14 dX8_clear_34) ?_
  refine go_blx (fun x15 => ?_)
  refine go1 (M := mX8_clear) (pc' := 36) (r_aload_n (M := mX8_clear) (i := 0) rfl dX8_clear_35) ?_
  refine go1 (M := mX8_clear) (pc' := 39) (r_getR (M := mX8_clear) fl_8_30 h0 rfl (wt_some hW h0 (by decide) (by decide) rfl) dX8_clear_36) ?_
  have hT16 : TY S (pr S a0 6) 14 := wt hW h0 (by decide) (by decide) rfl (by decide)
  refine go1 (M := mX8_clear) (pc' := 40) (r_iload_n (M := mX8_clear) (i := 1) rfl dX8_clear_39) ?_
  refine go1 (M := mX8_clear) (pc' := 41) (r_iconst (M := mX8_clear) (v := (-1)) (by decide) dX8_clear_40) ?_
  refine go_ck (fun hi17 => ?_)
  refine go1 (M := mX8_clear) (pc' := 42) (r_iast (M := mX8_clear) hT16 hi17 dX8_clear_41) ?_
  refine go_blx (fun x18 => ?_)
  exact go_vret (M := mX8_clear) rfl rfl dX8_clear_42
def j_X8_dismiss_41 (N : Nat) (S : SH) (bk16 : Int32 → DY → Option DY) (p0 : Nat) (p1 : Int32) (p2 : Int32) (x : DY) : Option DY :=
  bk16 (p2 + 1) x
set_option maxHeartbeats 1000000 in
theorem j_X8_dismiss_41_t {N d : Nat} {S : SH} (hW : WT S) (hd : 2 ≤ d) (bk16 : Int32 → DY → Option DY) (p0 : Nat) (p1 : Int32) (p2 : Int32) (x : DY) (g0 : TY S p0 8) (hbk16 : ∀ (v2 : Int32) (y : DY), Go mX8_dismiss d S wSV 16 [some (.ref p0), some (.int p1), some (.int v2)] [] y (bk16 v2 y)) : Go mX8_dismiss d S wSV 41 [some (.ref p0), some (.int p1), some (.int p2)] [] x (j_X8_dismiss_41 N S bk16 p0 p1 p2 x) := by
  unfold j_X8_dismiss_41
  refine go1 (M := mX8_dismiss) (pc' := 44) (ls' := [some (.ref p0), some (.int p1), some (.int (p2 + 1))]) (r_iinc (M := mX8_dismiss) (ls := [some (.ref p0), some (.int p1), some (.int p2)]) (i := 2) (v := p2) (c' := 1) (by decide) rfl (by decide) rfl dX8_dismiss_41) ?_
  refine go1 (M := mX8_dismiss) (pc' := 16) (r_goto (M := mX8_dismiss) dX8_dismiss_44 (by decide)) ?_
  exact hbk16 (p2 + 1) x
def lp_X8_dismiss_16_b (N : Nat) (S : SH) (bk16 : Int32 → DY → Option DY) (p0 : Nat) (p1 : Int32) (p2 : Int32) (x : DY) : Option DY :=
  (if (x.1 p0 7) ≤ p2 then some x else ck S (pr S p0 5) p2 ((if (x.1 (pr S p0 5) p2.toNatClampNeg) = p1 then ck S (pr S p0 5) p2 (bl (U1 x (pr S p0 5) p2.toNatClampNeg (-1)) (fun x10 => j_X8_dismiss_41 N S bk16 p0 p1 p2 x10)) else j_X8_dismiss_41 N S bk16 p0 p1 p2 x)))
set_option maxHeartbeats 1000000 in
theorem lp_X8_dismiss_16_b_t {N d : Nat} {S : SH} (hW : WT S) (hd : 2 ≤ d) (bk16 : Int32 → DY → Option DY) (p0 : Nat) (p1 : Int32) (p2 : Int32) (x : DY) (g0 : TY S p0 8) (hbk16 : ∀ (v2 : Int32) (y : DY), Go mX8_dismiss d S wSV 16 [some (.ref p0), some (.int p1), some (.int v2)] [] y (bk16 v2 y)) : Go mX8_dismiss d S wSV 16 [some (.ref p0), some (.int p1), some (.int p2)] [] x (lp_X8_dismiss_16_b N S bk16 p0 p1 p2 x) := by
  unfold lp_X8_dismiss_16_b
  refine go1 (M := mX8_dismiss) (pc' := 17) (r_iload_n (M := mX8_dismiss) (i := 2) rfl dX8_dismiss_16) ?_
  refine go1 (M := mX8_dismiss) (pc' := 18) (r_aload_n (M := mX8_dismiss) (i := 0) rfl dX8_dismiss_17) ?_
  refine go1 (M := mX8_dismiss) (pc' := 21) (r_getI (M := mX8_dismiss) fl_8_33 g0 rfl dX8_dismiss_18) ?_
  refine go_br (M := mX8_dismiss) (pt := 47) (pf := 24) (fun kt kf => r_icmp_ge (M := mX8_dismiss) dX8_dismiss_21 (by decide) kt kf) (fun hc5 => ?_) (fun hc5 => ?_)
  · exact go_vret (M := mX8_dismiss) rfl rfl dX8_dismiss_47
  · refine go1 (M := mX8_dismiss) (pc' := 25) (r_aload_n (M := mX8_dismiss) (i := 0) rfl dX8_dismiss_24) ?_
    refine go1 (M := mX8_dismiss) (pc' := 28) (r_getR (M := mX8_dismiss) fl_8_27 g0 rfl (wt_some hW g0 (by decide) (by decide) rfl) dX8_dismiss_25) ?_
    have hT6 : TY S (pr S p0 5) 14 := wt hW g0 (by decide) (by decide) rfl (by decide)
    refine go1 (M := mX8_dismiss) (pc' := 29) (r_iload_n (M := mX8_dismiss) (i := 2) rfl dX8_dismiss_28) ?_
    refine go_ck (fun hi7 => ?_)
    refine go1 (M := mX8_dismiss) (pc' := 30) (r_iald (M := mX8_dismiss) hT6 hi7 dX8_dismiss_29) ?_
    refine go1 (M := mX8_dismiss) (pc' := 31) (r_iload_n (M := mX8_dismiss) (i := 1) rfl dX8_dismiss_30) ?_
    refine go_br (M := mX8_dismiss) (pt := 34) (pf := 41) (fun kt kf => r_icmp_ne (M := mX8_dismiss) dX8_dismiss_31 (by decide) kf kt) (fun hc8 => ?_) (fun hc8 => ?_)
    · refine go1 (M := mX8_dismiss) (pc' := 35) (r_aload_n (M := mX8_dismiss) (i := 0) rfl dX8_dismiss_34) ?_
      refine go1 (M := mX8_dismiss) (pc' := 38) (r_getR (M := mX8_dismiss) fl_8_27 g0 rfl (wt_some hW g0 (by decide) (by decide) rfl) dX8_dismiss_35) ?_
      refine go1 (M := mX8_dismiss) (pc' := 39) (r_iload_n (M := mX8_dismiss) (i := 2) rfl dX8_dismiss_38) ?_
      refine go1 (M := mX8_dismiss) (pc' := 40) (r_iconst (M := mX8_dismiss) (v := (-1)) (by decide) dX8_dismiss_39) ?_
      refine go_ck (fun hi9 => ?_)
      refine go1 (M := mX8_dismiss) (pc' := 41) (r_iast (M := mX8_dismiss) hT6 hi9 dX8_dismiss_40) ?_
      refine go_blx (fun x10 => ?_)
      exact j_X8_dismiss_41_t (N := N) hW (by omega) bk16 p0 p1 p2 x10 g0 hbk16
    · exact j_X8_dismiss_41_t (N := N) hW (by omega) bk16 p0 p1 p2 x g0 hbk16
def lp_X8_dismiss_16 (N : Nat) (S : SH) (p0 : Nat) (p1 : Int32) (p2 : Int32) (x : DY) : Option DY :=
  itr (fun back (v : Int32 × DY) => lp_X8_dismiss_16_b N S (fun p2 y => back (p2, y)) p0 p1 v.1 v.2) N (p2, x)
theorem lp_X8_dismiss_16_t {N d : Nat} {S : SH} (hW : WT S) (hd : 2 ≤ d) (p0 : Nat) (p1 : Int32) (p2 : Int32) (x : DY) (g0 : TY S p0 8) : Go mX8_dismiss d S wSV 16 [some (.ref p0), some (.int p1), some (.int p2)] [] x (lp_X8_dismiss_16 N S p0 p1 p2 x) := by
  unfold lp_X8_dismiss_16
  exact go_itr (L := fun (v : Int32 × DY) => [some (.ref p0), some (.int p1), some (.int v.1)]) (X := fun (v : Int32 × DY) => v.2) (fun back hB v => lp_X8_dismiss_16_b_t (N := N) hW hd (fun p2 y => back (p2, y)) p0 p1 v.1 v.2 g0 (fun p2 y => hB (p2, y)) ) N (p2, x)
def f_X8_dismiss (N : Nat) (S : SH) (a0 : Nat) (a1 : Int32) (x : DY) : Option DY :=
  Option.bind (f_X8_has N S a0 a1 x) (fun r1 => (if r1 = 0 then some x else Option.bind (f_X8_clear N S a0 a1 x) (fun r3 => lp_X8_dismiss_16 N S a0 a1 0 r3)))
set_option maxHeartbeats 1000000 in
theorem t_X8_dismiss {N d : Nat} {S : SH} (hW : WT S) {x : DY} {a0 : Nat} {a1 : Int32} (hd : 2 ≤ d) (h0 : TY S a0 8) : CT mX8_dismiss d S [.ref a0, .int a1] x wSV (f_X8_dismiss N S a0 a1 x) := by
  refine CT.of [some (.ref a0), some (.int a1), none] rfl (Nat.le_of_ble_eq_true rfl) (by decide +kernel) ?_
  unfold f_X8_dismiss
  refine go1 (M := mX8_dismiss) (pc' := 1) (r_aload_n (M := mX8_dismiss) (i := 0) rfl dX8_dismiss_0) ?_
  refine go1 (M := mX8_dismiss) (pc' := 2) (r_iload_n (M := mX8_dismiss) (i := 1) rfl dX8_dismiss_1) ?_
  refine go_V_PI (M := mX8_dismiss) (pc' := 5) (st := []) (As := [.int a1]) rfl ln_8_54 lb_X8_has (t_X8_has (N := N) hW (by omega) h0) (by omega) h0 (Nat.le_of_ble_eq_true rfl) rfl dX8_dismiss_2 (fun r1 => ?_)
  refine go_br (M := mX8_dismiss) (pt := 8) (pf := 9) (fun kt kf => r_if_ne (M := mX8_dismiss) dX8_dismiss_5 (by decide) kf kt) (fun hc2 => ?_) (fun hc2 => ?_)
  · exact go_vret (M := mX8_dismiss) rfl rfl dX8_dismiss_8
  · refine go1 (M := mX8_dismiss) (pc' := 10) (r_aload_n (M := mX8_dismiss) (i := 0) rfl dX8_dismiss_9) ?_
    refine go1 (M := mX8_dismiss) (pc' := 11) (r_iload_n (M := mX8_dismiss) (i := 1) rfl dX8_dismiss_10) ?_
    refine go_V_SV (M := mX8_dismiss) (pc' := 14) (st := []) (As := [.int a1]) rfl ln_8_50 lb_X8_clear (t_X8_clear (N := N) hW (by omega) h0) (by omega) h0 (Nat.le_of_ble_eq_true rfl) rfl dX8_dismiss_11 (fun r3 => ?_)
    refine go1 (M := mX8_dismiss) (pc' := 15) (r_iconst (M := mX8_dismiss) (v := 0) (by decide) dX8_dismiss_14) ?_
    refine go1 (M := mX8_dismiss) (pc' := 16) (ls' := [some (.ref a0), some (.int a1), some (.int 0)]) (r_istore_n (M := mX8_dismiss) (ls := [some (.ref a0), some (.int a1), none]) (i := 2) (v := 0) (by decide) rfl dX8_dismiss_15) ?_
    refine lp_X8_dismiss_16_t (N := N) hW (by omega) a0 a1 0 r3 h0
def j_X6_leave_65 (N : Nat) (S : SH) (p0 : Nat) (p1 : Int32) (x : DY) : Option DY :=
  Option.bind (f_X8_dismiss N S (pr S p0 4) p1 x) (fun r12 => some r12)
set_option maxHeartbeats 1000000 in
theorem j_X6_leave_65_t {N d : Nat} {S : SH} (hW : WT S) (hd : 3 ≤ d) (p0 : Nat) (p1 : Int32) (x : DY) (g0 : TY S p0 6) : Go mX6_leave d S wSV 65 [some (.ref p0), some (.int p1), none] [] x (j_X6_leave_65 N S p0 p1 x) := by
  unfold j_X6_leave_65
  refine go1 (M := mX6_leave) (pc' := 66) (r_aload_n (M := mX6_leave) (i := 0) rfl dX6_leave_65) ?_
  refine go1 (M := mX6_leave) (pc' := 69) (r_getR (M := mX6_leave) fl_6_21 g0 rfl (wt_some hW g0 (by decide) (by decide) rfl) dX6_leave_66) ?_
  have hT11 : TY S (pr S p0 4) 8 := wt hW g0 (by decide) (by decide) rfl (by decide)
  refine go1 (M := mX6_leave) (pc' := 70) (r_iload_n (M := mX6_leave) (i := 1) rfl dX6_leave_69) ?_
  refine go_V_SV (M := mX6_leave) (pc' := 73) (st := []) (As := [.int p1]) rfl ln_6_204 lb_X8_dismiss (t_X8_dismiss (N := N) hW (by omega) hT11) (by omega) hT11 (Nat.le_of_ble_eq_true rfl) rfl dX6_leave_70 (fun r12 => ?_)
  exact go_vret (M := mX6_leave) rfl rfl dX6_leave_73
def f_X6_leave (N : Nat) (S : SH) (a0 : Nat) (a1 : Int32) (x : DY) : Option DY :=
  ck S (pr S (pr S a0 4) 5) a1 (Option.bind (f_X8_isTaken N S (pr S a0 4) (x.1 (pr S (pr S a0 4) 5) a1.toNatClampNeg) x) (fun r4 => (if r4 = 0 then Option.bind (f_X4_billOf N S (pr S a0 3) a1 (pr S a0 0) x) (fun r8 => bl (U1 x a0 8 ((x.1 a0 8) + r8)) (fun x9 => Option.bind (f_X4_clearBill N S (pr S a0 3) a1 3 (-1) x9) (fun r10 => j_X6_leave_65 N S a0 a1 r10))) else Option.bind (f_X4_clearBill N S (pr S a0 3) a1 2 (x.1 (pr S (pr S a0 4) 5) a1.toNatClampNeg) x) (fun r14 => j_X6_leave_65 N S a0 a1 r14))))
set_option maxHeartbeats 1000000 in
theorem t_X6_leave {N d : Nat} {S : SH} (hW : WT S) {x : DY} {a0 : Nat} {a1 : Int32} (hd : 3 ≤ d) (h0 : TY S a0 6) : CT mX6_leave d S [.ref a0, .int a1] x wSV (f_X6_leave N S a0 a1 x) := by
  refine CT.of [some (.ref a0), some (.int a1), none] rfl (Nat.le_of_ble_eq_true rfl) (by decide +kernel) ?_
  unfold f_X6_leave
  refine go1 (M := mX6_leave) (pc' := 1) (r_aload_n (M := mX6_leave) (i := 0) rfl dX6_leave_0) ?_
  refine go1 (M := mX6_leave) (pc' := 4) (r_getR (M := mX6_leave) fl_6_21 h0 rfl (wt_some hW h0 (by decide) (by decide) rfl) dX6_leave_1) ?_
  have hT1 : TY S (pr S a0 4) 8 := wt hW h0 (by decide) (by decide) rfl (by decide)
  refine go1 (M := mX6_leave) (pc' := 7) (r_getR (M := mX6_leave) fl_6_194 hT1 rfl (wt_some hW hT1 (by decide) (by decide) rfl) dX6_leave_4) ?_
  have hT2 : TY S (pr S (pr S a0 4) 5) 14 := wt hW hT1 (by decide) (by decide) rfl (by decide)
  refine go1 (M := mX6_leave) (pc' := 8) (r_iload_n (M := mX6_leave) (i := 1) rfl dX6_leave_7) ?_
  refine go_ck (fun hi3 => ?_)
  refine go1 (M := mX6_leave) (pc' := 9) (r_iald (M := mX6_leave) hT2 hi3 dX6_leave_8) ?_
  refine go1 (M := mX6_leave) (pc' := 10) (ls' := [some (.ref a0), some (.int a1), some (.int (x.1 (pr S (pr S a0 4) 5) a1.toNatClampNeg))]) (r_istore_n (M := mX6_leave) (ls := [some (.ref a0), some (.int a1), none]) (i := 2) (v := (x.1 (pr S (pr S a0 4) 5) a1.toNatClampNeg)) (by decide) rfl dX6_leave_9) ?_
  refine go1 (M := mX6_leave) (pc' := 11) (r_aload_n (M := mX6_leave) (i := 0) rfl dX6_leave_10) ?_
  refine go1 (M := mX6_leave) (pc' := 14) (r_getR (M := mX6_leave) fl_6_21 h0 rfl (wt_some hW h0 (by decide) (by decide) rfl) dX6_leave_11) ?_
  refine go1 (M := mX6_leave) (pc' := 15) (r_iload_n (M := mX6_leave) (i := 2) rfl dX6_leave_14) ?_
  refine go_V_PI (M := mX6_leave) (pc' := 18) (st := []) (As := [.int (x.1 (pr S (pr S a0 4) 5) a1.toNatClampNeg)]) rfl ln_6_112 lb_X8_isTaken (t_X8_isTaken (N := N) hW (by omega) hT1) (by omega) hT1 (Nat.le_of_ble_eq_true rfl) rfl dX6_leave_15 (fun r4 => ?_)
  refine go_br (M := mX6_leave) (pt := 34) (pf := 21) (fun kt kf => r_if_eq (M := mX6_leave) dX6_leave_18 (by decide) kt kf) (fun hc5 => ?_) (fun hc5 => ?_)
  · refine go1 (M := mX6_leave) (pc' := 35) (r_aload_n (M := mX6_leave) (i := 0) rfl dX6_leave_34) ?_
    refine go1 (M := mX6_leave) (pc' := 36) (r_dup (M := mX6_leave) rfl dX6_leave_35) ?_
    refine go1 (M := mX6_leave) (pc' := 39) (r_getI (M := mX6_leave) fl_6_35 h0 rfl dX6_leave_36) ?_
    refine go1 (M := mX6_leave) (pc' := 40) (r_aload_n (M := mX6_leave) (i := 0) rfl dX6_leave_39) ?_
    refine go1 (M := mX6_leave) (pc' := 43) (r_getR (M := mX6_leave) fl_6_12 h0 rfl (wt_some hW h0 (by decide) (by decide) rfl) dX6_leave_40) ?_
    have hT6 : TY S (pr S a0 3) 4 := wt hW h0 (by decide) (by decide) rfl (by decide)
    refine go1 (M := mX6_leave) (pc' := 44) (r_iload_n (M := mX6_leave) (i := 1) rfl dX6_leave_43) ?_
    refine go1 (M := mX6_leave) (pc' := 45) (r_aload_n (M := mX6_leave) (i := 0) rfl dX6_leave_44) ?_
    refine go1 (M := mX6_leave) (pc' := 48) (r_getR (M := mX6_leave) fl_6_45 h0 rfl (wt_some hW h0 (by decide) (by decide) rfl) dX6_leave_45) ?_
    have hT7 : TY S (pr S a0 0) 3 := wt hW h0 (by decide) (by decide) rfl (by decide)
    refine go_V_PI (M := mX6_leave) (pc' := 51) (st := [.int (x.1 a0 8), .ref a0]) (As := [.int a1, .ref (pr S a0 0)]) rfl ln_6_200 lb_X4_billOf (t_X4_billOf (N := N) hW (by omega) hT6 hT7) (by omega) hT6 (Nat.le_of_ble_eq_true rfl) rfl dX6_leave_48 (fun r8 => ?_)
    refine go1 (M := mX6_leave) (pc' := 52) (r_iadd (M := mX6_leave) dX6_leave_51) ?_
    refine go1 (M := mX6_leave) (pc' := 55) (r_putI (M := mX6_leave) fl_6_35 h0 rfl rfl dX6_leave_52) ?_
    refine go_blx (fun x9 => ?_)
    refine go1 (M := mX6_leave) (pc' := 56) (r_aload_n (M := mX6_leave) (i := 0) rfl dX6_leave_55) ?_
    refine go1 (M := mX6_leave) (pc' := 59) (r_getR (M := mX6_leave) fl_6_12 h0 rfl (wt_some hW h0 (by decide) (by decide) rfl) dX6_leave_56) ?_
    refine go1 (M := mX6_leave) (pc' := 60) (r_iload_n (M := mX6_leave) (i := 1) rfl dX6_leave_59) ?_
    refine go1 (M := mX6_leave) (pc' := 61) (r_iconst (M := mX6_leave) (v := 3) (by decide) dX6_leave_60) ?_
    refine go1 (M := mX6_leave) (pc' := 62) (r_iconst (M := mX6_leave) (v := (-1)) (by decide) dX6_leave_61) ?_
    refine go_V_SV (M := mX6_leave) (pc' := 65) (st := []) (As := [.int a1, .int 3, .int (-1)]) rfl ln_6_197 lb_X4_clearBill (t_X4_clearBill (N := N) hW (by omega) hT6) (by omega) hT6 (Nat.le_of_ble_eq_true rfl) rfl dX6_leave_62 (fun r10 => ?_)
    refine go_drop (ls' := [some (.ref a0), some (.int a1), none]) (And.intro rfl (And.intro rfl trivial)) ?_
    exact j_X6_leave_65_t (N := N) hW (by omega) a0 a1 r10 h0
  · refine go1 (M := mX6_leave) (pc' := 22) (r_aload_n (M := mX6_leave) (i := 0) rfl dX6_leave_21) ?_
    refine go1 (M := mX6_leave) (pc' := 25) (r_getR (M := mX6_leave) fl_6_12 h0 rfl (wt_some hW h0 (by decide) (by decide) rfl) dX6_leave_22) ?_
    have hT13 : TY S (pr S a0 3) 4 := wt hW h0 (by decide) (by decide) rfl (by decide)
    refine go1 (M := mX6_leave) (pc' := 26) (r_iload_n (M := mX6_leave) (i := 1) rfl dX6_leave_25) ?_
    refine go1 (M := mX6_leave) (pc' := 27) (r_iconst (M := mX6_leave) (v := 2) (by decide) dX6_leave_26) ?_
    refine go1 (M := mX6_leave) (pc' := 28) (r_iload_n (M := mX6_leave) (i := 2) rfl dX6_leave_27) ?_
    refine go_V_SV (M := mX6_leave) (pc' := 31) (st := []) (As := [.int a1, .int 2, .int (x.1 (pr S (pr S a0 4) 5) a1.toNatClampNeg)]) rfl ln_6_197 lb_X4_clearBill (t_X4_clearBill (N := N) hW (by omega) hT13) (by omega) hT13 (Nat.le_of_ble_eq_true rfl) rfl dX6_leave_28 (fun r14 => ?_)
    refine go1 (M := mX6_leave) (pc' := 65) (r_goto (M := mX6_leave) dX6_leave_31 (by decide)) ?_
    refine go_drop (ls' := [some (.ref a0), some (.int a1), none]) (And.intro rfl (And.intro rfl trivial)) ?_
    exact j_X6_leave_65_t (N := N) hW (by omega) a0 a1 r14 h0
def lp_X6_goByOnce_19_b (N : Nat) (S : SH) (k34 : DY → Option DY) (bk19 : Int32 → DY → Option DY) (p0 : Nat) (p1 : Int32) (x : DY) : Option DY :=
  (if p1 < 0 then k34 x else Option.bind (f_X6_moveTray N S p0 p1 x) (fun r7 => bk19 (p1 + (-1)) r7))
set_option maxHeartbeats 1000000 in
theorem lp_X6_goByOnce_19_b_t {N d : Nat} {S : SH} (hW : WT S) (hd : 4 ≤ d) (k34 : DY → Option DY) (bk19 : Int32 → DY → Option DY) (p0 : Nat) (p1 : Int32) (x : DY) (g0 : TY S p0 6) (hk34 : ∀ (y : DY), Go mX6_goByOnce d S wSV 34 [some (.ref p0), none] [] y (k34 y)) (hbk19 : ∀ (v1 : Int32) (y : DY), Go mX6_goByOnce d S wSV 19 [some (.ref p0), some (.int v1)] [] y (bk19 v1 y)) : Go mX6_goByOnce d S wSV 19 [some (.ref p0), some (.int p1)] [] x (lp_X6_goByOnce_19_b N S k34 bk19 p0 p1 x) := by
  unfold lp_X6_goByOnce_19_b
  refine go1 (M := mX6_goByOnce) (pc' := 20) (r_iload_n (M := mX6_goByOnce) (i := 1) rfl dX6_goByOnce_19) ?_
  refine go_br (M := mX6_goByOnce) (pt := 34) (pf := 23) (fun kt kf => r_if_lt (M := mX6_goByOnce) dX6_goByOnce_20 (by decide) kt kf) (fun hc6 => ?_) (fun hc6 => ?_)
  · refine go_drop (ls' := [some (.ref p0), none]) (And.intro rfl trivial) ?_
    exact hk34 x
  · refine go1 (M := mX6_goByOnce) (pc' := 24) (r_aload_n (M := mX6_goByOnce) (i := 0) rfl dX6_goByOnce_23) ?_
    refine go1 (M := mX6_goByOnce) (pc' := 25) (r_iload_n (M := mX6_goByOnce) (i := 1) rfl dX6_goByOnce_24) ?_
    refine go_V_SV (M := mX6_goByOnce) (pc' := 28) (st := []) (As := [.int p1]) rfl ln_6_143 lb_X6_moveTray (t_X6_moveTray (N := N) hW (by omega) g0) (by omega) g0 (Nat.le_of_ble_eq_true rfl) rfl dX6_goByOnce_25 (fun r7 => ?_)
    refine go1 (M := mX6_goByOnce) (pc' := 31) (ls' := [some (.ref p0), some (.int (p1 + (-1)))]) (r_iinc (M := mX6_goByOnce) (ls := [some (.ref p0), some (.int p1)]) (i := 1) (v := p1) (c' := (-1)) (by decide) rfl (by decide) rfl dX6_goByOnce_28) ?_
    refine go1 (M := mX6_goByOnce) (pc' := 19) (r_goto (M := mX6_goByOnce) dX6_goByOnce_31 (by decide)) ?_
    exact hbk19 (p1 + (-1)) r7
def lp_X6_goByOnce_19 (N : Nat) (S : SH) (k34 : DY → Option DY) (p0 : Nat) (p1 : Int32) (x : DY) : Option DY :=
  itr (fun back (v : Int32 × DY) => lp_X6_goByOnce_19_b N S k34 (fun p1 y => back (p1, y)) p0 v.1 v.2) N (p1, x)
theorem lp_X6_goByOnce_19_t {N d : Nat} {S : SH} (hW : WT S) (hd : 4 ≤ d) (k34 : DY → Option DY) (p0 : Nat) (p1 : Int32) (x : DY) (g0 : TY S p0 6) (hk34 : ∀ (y : DY), Go mX6_goByOnce d S wSV 34 [some (.ref p0), none] [] y (k34 y)) : Go mX6_goByOnce d S wSV 19 [some (.ref p0), some (.int p1)] [] x (lp_X6_goByOnce_19 N S k34 p0 p1 x) := by
  unfold lp_X6_goByOnce_19
  exact go_itr (L := fun (v : Int32 × DY) => [some (.ref p0), some (.int v.1)]) (X := fun (v : Int32 × DY) => v.2) (fun back hB v => lp_X6_goByOnce_19_b_t (N := N) hW hd k34 (fun p1 y => back (p1, y)) p0 v.1 v.2 g0 hk34 (fun p1 y => hB (p1, y)) ) N (p1, x)
def lp_X6_goByOnce_43_b (N : Nat) (S : SH) (k65 : DY → Option DY) (bk43 : Int32 → DY → Option DY) (p0 : Nat) (p1 : Int32) (x : DY) : Option DY :=
  (if (x.1 (pr S p0 4) 7) ≤ p1 then k65 x else Option.bind (f_X6_serve N S p0 p1 x) (fun r14 => bk43 (p1 + 1) r14))
set_option maxHeartbeats 1000000 in
theorem lp_X6_goByOnce_43_b_t {N d : Nat} {S : SH} (hW : WT S) (hd : 5 ≤ d) (k65 : DY → Option DY) (bk43 : Int32 → DY → Option DY) (p0 : Nat) (p1 : Int32) (x : DY) (g0 : TY S p0 6) (hk65 : ∀ (y : DY), Go mX6_goByOnce d S wSV 65 [some (.ref p0), none] [] y (k65 y)) (hbk43 : ∀ (v1 : Int32) (y : DY), Go mX6_goByOnce d S wSV 43 [some (.ref p0), some (.int v1)] [] y (bk43 v1 y)) : Go mX6_goByOnce d S wSV 43 [some (.ref p0), some (.int p1)] [] x (lp_X6_goByOnce_43_b N S k65 bk43 p0 p1 x) := by
  unfold lp_X6_goByOnce_43_b
  refine go1 (M := mX6_goByOnce) (pc' := 44) (r_iload_n (M := mX6_goByOnce) (i := 1) rfl dX6_goByOnce_43) ?_
  refine go1 (M := mX6_goByOnce) (pc' := 45) (r_aload_n (M := mX6_goByOnce) (i := 0) rfl dX6_goByOnce_44) ?_
  refine go1 (M := mX6_goByOnce) (pc' := 48) (r_getR (M := mX6_goByOnce) fl_6_21 g0 rfl (wt_some hW g0 (by decide) (by decide) rfl) dX6_goByOnce_45) ?_
  have hT12 : TY S (pr S p0 4) 8 := wt hW g0 (by decide) (by decide) rfl (by decide)
  refine go1 (M := mX6_goByOnce) (pc' := 51) (r_getI (M := mX6_goByOnce) fl_6_149 hT12 rfl dX6_goByOnce_48) ?_
  refine go_br (M := mX6_goByOnce) (pt := 65) (pf := 54) (fun kt kf => r_icmp_ge (M := mX6_goByOnce) dX6_goByOnce_51 (by decide) kt kf) (fun hc13 => ?_) (fun hc13 => ?_)
  · refine go_drop (ls' := [some (.ref p0), none]) (And.intro rfl trivial) ?_
    exact hk65 x
  · refine go1 (M := mX6_goByOnce) (pc' := 55) (r_aload_n (M := mX6_goByOnce) (i := 0) rfl dX6_goByOnce_54) ?_
    refine go1 (M := mX6_goByOnce) (pc' := 56) (r_iload_n (M := mX6_goByOnce) (i := 1) rfl dX6_goByOnce_55) ?_
    refine go_V_SV (M := mX6_goByOnce) (pc' := 59) (st := []) (As := [.int p1]) rfl ln_6_152 lb_X6_serve (t_X6_serve (N := N) hW (by omega) g0) (by omega) g0 (Nat.le_of_ble_eq_true rfl) rfl dX6_goByOnce_56 (fun r14 => ?_)
    refine go1 (M := mX6_goByOnce) (pc' := 62) (ls' := [some (.ref p0), some (.int (p1 + 1))]) (r_iinc (M := mX6_goByOnce) (ls := [some (.ref p0), some (.int p1)]) (i := 1) (v := p1) (c' := 1) (by decide) rfl (by decide) rfl dX6_goByOnce_59) ?_
    refine go1 (M := mX6_goByOnce) (pc' := 43) (r_goto (M := mX6_goByOnce) dX6_goByOnce_62 (by decide)) ?_
    exact hbk43 (p1 + 1) r14
def lp_X6_goByOnce_43 (N : Nat) (S : SH) (k65 : DY → Option DY) (p0 : Nat) (p1 : Int32) (x : DY) : Option DY :=
  itr (fun back (v : Int32 × DY) => lp_X6_goByOnce_43_b N S k65 (fun p1 y => back (p1, y)) p0 v.1 v.2) N (p1, x)
theorem lp_X6_goByOnce_43_t {N d : Nat} {S : SH} (hW : WT S) (hd : 5 ≤ d) (k65 : DY → Option DY) (p0 : Nat) (p1 : Int32) (x : DY) (g0 : TY S p0 6) (hk65 : ∀ (y : DY), Go mX6_goByOnce d S wSV 65 [some (.ref p0), none] [] y (k65 y)) : Go mX6_goByOnce d S wSV 43 [some (.ref p0), some (.int p1)] [] x (lp_X6_goByOnce_43 N S k65 p0 p1 x) := by
  unfold lp_X6_goByOnce_43
  exact go_itr (L := fun (v : Int32 × DY) => [some (.ref p0), some (.int v.1)]) (X := fun (v : Int32 × DY) => v.2) (fun back hB v => lp_X6_goByOnce_43_b_t (N := N) hW hd k65 (fun p1 y => back (p1, y)) p0 v.1 v.2 g0 hk65 (fun p1 y => hB (p1, y)) ) N (p1, x)
def j_X6_goByOnce_102 (N : Nat) (S : SH) (bk67 : Int32 → DY → Option DY) (p0 : Nat) (p1 : Int32) (x : DY) : Option DY :=
  bk67 (p1 + 1) x
set_option maxHeartbeats 1000000 in
theorem j_X6_goByOnce_102_t {N d : Nat} {S : SH} (hW : WT S) (hd : 5 ≤ d) (bk67 : Int32 → DY → Option DY) (p0 : Nat) (p1 : Int32) (x : DY) (g0 : TY S p0 6) (hbk67 : ∀ (v1 : Int32) (y : DY), Go mX6_goByOnce d S wSV 67 [some (.ref p0), some (.int v1)] [] y (bk67 v1 y)) : Go mX6_goByOnce d S wSV 102 [some (.ref p0), some (.int p1)] [] x (j_X6_goByOnce_102 N S bk67 p0 p1 x) := by
  unfold j_X6_goByOnce_102
  refine go1 (M := mX6_goByOnce) (pc' := 105) (ls' := [some (.ref p0), some (.int (p1 + 1))]) (r_iinc (M := mX6_goByOnce) (ls := [some (.ref p0), some (.int p1)]) (i := 1) (v := p1) (c' := 1) (by decide) rfl (by decide) rfl dX6_goByOnce_102) ?_
  refine go1 (M := mX6_goByOnce) (pc' := 67) (r_goto (M := mX6_goByOnce) dX6_goByOnce_105 (by decide)) ?_
  exact hbk67 (p1 + 1) x
def lp_X6_goByOnce_67_b (N : Nat) (S : SH) (k108 : DY → Option DY) (bk67 : Int32 → DY → Option DY) (p0 : Nat) (p1 : Int32) (x : DY) : Option DY :=
  (if (x.1 (pr S p0 4) 7) ≤ p1 then k108 x else Option.bind (f_X8_isTaken N S (pr S p0 4) p1 x) (fun r19 => (if r19 = 0 then j_X6_goByOnce_102 N S bk67 p0 p1 x else Option.bind (f_X6_goValue N S p0 p1 x) (fun r21 => (if r21.1 = 0 then j_X6_goByOnce_102 N S bk67 p0 p1 r21.2 else Option.bind (f_X6_leave N S p0 p1 r21.2) (fun r23 => j_X6_goByOnce_102 N S bk67 p0 p1 r23))))))
set_option maxHeartbeats 1000000 in
theorem lp_X6_goByOnce_67_b_t {N d : Nat} {S : SH} (hW : WT S) (hd : 5 ≤ d) (k108 : DY → Option DY) (bk67 : Int32 → DY → Option DY) (p0 : Nat) (p1 : Int32) (x : DY) (g0 : TY S p0 6) (hk108 : ∀ (y : DY), Go mX6_goByOnce d S wSV 108 [some (.ref p0), none] [] y (k108 y)) (hbk67 : ∀ (v1 : Int32) (y : DY), Go mX6_goByOnce d S wSV 67 [some (.ref p0), some (.int v1)] [] y (bk67 v1 y)) : Go mX6_goByOnce d S wSV 67 [some (.ref p0), some (.int p1)] [] x (lp_X6_goByOnce_67_b N S k108 bk67 p0 p1 x) := by
  unfold lp_X6_goByOnce_67_b
  refine go1 (M := mX6_goByOnce) (pc' := 68) (r_iload_n (M := mX6_goByOnce) (i := 1) rfl dX6_goByOnce_67) ?_
  refine go1 (M := mX6_goByOnce) (pc' := 69) (r_aload_n (M := mX6_goByOnce) (i := 0) rfl dX6_goByOnce_68) ?_
  refine go1 (M := mX6_goByOnce) (pc' := 72) (r_getR (M := mX6_goByOnce) fl_6_21 g0 rfl (wt_some hW g0 (by decide) (by decide) rfl) dX6_goByOnce_69) ?_
  have hT17 : TY S (pr S p0 4) 8 := wt hW g0 (by decide) (by decide) rfl (by decide)
  refine go1 (M := mX6_goByOnce) (pc' := 75) (r_getI (M := mX6_goByOnce) fl_6_149 hT17 rfl dX6_goByOnce_72) ?_
  refine go_br (M := mX6_goByOnce) (pt := 108) (pf := 78) (fun kt kf => r_icmp_ge (M := mX6_goByOnce) dX6_goByOnce_75 (by decide) kt kf) (fun hc18 => ?_) (fun hc18 => ?_)
  · refine go_drop (ls' := [some (.ref p0), none]) (And.intro rfl trivial) ?_
    exact hk108 x
  · refine go1 (M := mX6_goByOnce) (pc' := 79) (r_aload_n (M := mX6_goByOnce) (i := 0) rfl dX6_goByOnce_78) ?_
    refine go1 (M := mX6_goByOnce) (pc' := 82) (r_getR (M := mX6_goByOnce) fl_6_21 g0 rfl (wt_some hW g0 (by decide) (by decide) rfl) dX6_goByOnce_79) ?_
    refine go1 (M := mX6_goByOnce) (pc' := 83) (r_iload_n (M := mX6_goByOnce) (i := 1) rfl dX6_goByOnce_82) ?_
    refine go_V_PI (M := mX6_goByOnce) (pc' := 86) (st := []) (As := [.int p1]) rfl ln_6_112 lb_X8_isTaken (t_X8_isTaken (N := N) hW (by omega) hT17) (by omega) hT17 (Nat.le_of_ble_eq_true rfl) rfl dX6_goByOnce_83 (fun r19 => ?_)
    refine go_br (M := mX6_goByOnce) (pt := 102) (pf := 89) (fun kt kf => r_if_eq (M := mX6_goByOnce) dX6_goByOnce_86 (by decide) kt kf) (fun hc20 => ?_) (fun hc20 => ?_)
    · exact j_X6_goByOnce_102_t (N := N) hW (by omega) bk67 p0 p1 x g0 hbk67
    · refine go1 (M := mX6_goByOnce) (pc' := 90) (r_aload_n (M := mX6_goByOnce) (i := 0) rfl dX6_goByOnce_89) ?_
      refine go1 (M := mX6_goByOnce) (pc' := 91) (r_iload_n (M := mX6_goByOnce) (i := 1) rfl dX6_goByOnce_90) ?_
      refine go_V_SI (M := mX6_goByOnce) (pc' := 94) (st := []) (As := [.int p1]) rfl ln_6_155 lb_X6_goValue (t_X6_goValue (N := N) hW (by omega) g0) (by omega) g0 (Nat.le_of_ble_eq_true rfl) rfl dX6_goByOnce_91 (fun r21 => ?_)
      refine go_br (M := mX6_goByOnce) (pt := 102) (pf := 97) (fun kt kf => r_if_eq (M := mX6_goByOnce) dX6_goByOnce_94 (by decide) kt kf) (fun hc22 => ?_) (fun hc22 => ?_)
      · exact j_X6_goByOnce_102_t (N := N) hW (by omega) bk67 p0 p1 r21.2 g0 hbk67
      · refine go1 (M := mX6_goByOnce) (pc' := 98) (r_aload_n (M := mX6_goByOnce) (i := 0) rfl dX6_goByOnce_97) ?_
        refine go1 (M := mX6_goByOnce) (pc' := 99) (r_iload_n (M := mX6_goByOnce) (i := 1) rfl dX6_goByOnce_98) ?_
        refine go_V_SV (M := mX6_goByOnce) (pc' := 102) (st := []) (As := [.int p1]) rfl ln_6_159 lb_X6_leave (t_X6_leave (N := N) hW (by omega) g0) (by omega) g0 (Nat.le_of_ble_eq_true rfl) rfl dX6_goByOnce_99 (fun r23 => ?_)
        exact j_X6_goByOnce_102_t (N := N) hW (by omega) bk67 p0 p1 r23 g0 hbk67
def lp_X6_goByOnce_67 (N : Nat) (S : SH) (k108 : DY → Option DY) (p0 : Nat) (p1 : Int32) (x : DY) : Option DY :=
  itr (fun back (v : Int32 × DY) => lp_X6_goByOnce_67_b N S k108 (fun p1 y => back (p1, y)) p0 v.1 v.2) N (p1, x)
theorem lp_X6_goByOnce_67_t {N d : Nat} {S : SH} (hW : WT S) (hd : 5 ≤ d) (k108 : DY → Option DY) (p0 : Nat) (p1 : Int32) (x : DY) (g0 : TY S p0 6) (hk108 : ∀ (y : DY), Go mX6_goByOnce d S wSV 108 [some (.ref p0), none] [] y (k108 y)) : Go mX6_goByOnce d S wSV 67 [some (.ref p0), some (.int p1)] [] x (lp_X6_goByOnce_67 N S k108 p0 p1 x) := by
  unfold lp_X6_goByOnce_67
  exact go_itr (L := fun (v : Int32 × DY) => [some (.ref p0), some (.int v.1)]) (X := fun (v : Int32 × DY) => v.2) (fun back hB v => lp_X6_goByOnce_67_b_t (N := N) hW hd k108 (fun p1 y => back (p1, y)) p0 v.1 v.2 g0 hk108 (fun p1 y => hB (p1, y)) ) N (p1, x)
def f_X6_goByOnce (N : Nat) (S : SH) (a0 : Nat) (x : DY) : Option DY :=
  Option.bind (f_X6_turnBelt N S a0 x) (fun r1 => Option.bind (f_X6_throwStale N S a0 r1) (fun r2 => lp_X6_goByOnce_19 N S (fun y7 => Option.bind (f_X2_letIn N S (pr S a0 5) y7) (fun r10 => lp_X6_goByOnce_43 N S (fun y14 => lp_X6_goByOnce_67 N S (fun y23 => bl (U1 y23 a0 7 ((y23.1 a0 7) + 1)) (fun x25 => some x25)) a0 0 y14) a0 0 r10)) a0 ((nI (S.2.2.1 (pr S (pr S a0 5) 0))) - 1) r2))
set_option maxHeartbeats 1000000 in
theorem t_X6_goByOnce {N d : Nat} {S : SH} (hW : WT S) {x : DY} {a0 : Nat} (hd : 5 ≤ d) (h0 : TY S a0 6) : CT mX6_goByOnce d S [.ref a0] x wSV (f_X6_goByOnce N S a0 x) := by
  refine CT.of [some (.ref a0), none] rfl (Nat.le_of_ble_eq_true rfl) (by decide +kernel) ?_
  unfold f_X6_goByOnce
  refine go1 (M := mX6_goByOnce) (pc' := 1) (r_aload_n (M := mX6_goByOnce) (i := 0) rfl dX6_goByOnce_0) ?_
  refine go_V_SV (M := mX6_goByOnce) (pc' := 4) (st := []) (As := []) rfl ln_6_137 lb_X6_turnBelt (t_X6_turnBelt (N := N) hW (by omega) h0) (by omega) h0 (Nat.le_of_ble_eq_true rfl) rfl dX6_goByOnce_1 (fun r1 => ?_)
  refine go1 (M := mX6_goByOnce) (pc' := 5) (r_aload_n (M := mX6_goByOnce) (i := 0) rfl dX6_goByOnce_4) ?_
  refine go_V_SV (M := mX6_goByOnce) (pc' := 8) (st := []) (As := []) rfl ln_6_140 lb_X6_throwStale (t_X6_throwStale (N := N) hW (by omega) h0) (by omega) h0 (Nat.le_of_ble_eq_true rfl) rfl dX6_goByOnce_5 (fun r2 => ?_)
  refine go1 (M := mX6_goByOnce) (pc' := 9) (r_aload_n (M := mX6_goByOnce) (i := 0) rfl dX6_goByOnce_8) ?_
  refine go1 (M := mX6_goByOnce) (pc' := 12) (r_getR (M := mX6_goByOnce) fl_6_73 h0 rfl (wt_some hW h0 (by decide) (by decide) rfl) dX6_goByOnce_9) ?_
  have hT3 : TY S (pr S a0 5) 2 := wt hW h0 (by decide) (by decide) rfl (by decide)
  refine go1 (M := mX6_goByOnce) (pc' := 15) (r_getR (M := mX6_goByOnce) fl_6_77 hT3 rfl (wt_some hW hT3 (by decide) (by decide) rfl) dX6_goByOnce_12) ?_
  have hT4 : TY S (pr S (pr S a0 5) 0) 14 := wt hW hT3 (by decide) (by decide) rfl (by decide)
  refine go1 (M := mX6_goByOnce) (pc' := 16) (r_alen (M := mX6_goByOnce) hT4 (by decide) (by decide) dX6_goByOnce_15) ?_
  refine go1 (M := mX6_goByOnce) (pc' := 17) (r_iconst (M := mX6_goByOnce) (v := 1) (by decide) dX6_goByOnce_16) ?_
  refine go1 (M := mX6_goByOnce) (pc' := 18) (r_isub (M := mX6_goByOnce) dX6_goByOnce_17) ?_
  refine go1 (M := mX6_goByOnce) (pc' := 19) (ls' := [some (.ref a0), some (.int ((nI (S.2.2.1 (pr S (pr S a0 5) 0))) - 1))]) (r_istore_n (M := mX6_goByOnce) (ls := [some (.ref a0), none]) (i := 1) (v := ((nI (S.2.2.1 (pr S (pr S a0 5) 0))) - 1)) (by decide) rfl dX6_goByOnce_18) ?_
  refine lp_X6_goByOnce_19_t (N := N) hW (by omega) _ a0 ((nI (S.2.2.1 (pr S (pr S a0 5) 0))) - 1) r2 h0 ?_
  · intro y7
    refine go1 (M := mX6_goByOnce) (pc' := 35) (r_aload_n (M := mX6_goByOnce) (i := 0) rfl dX6_goByOnce_34) ?_
    refine go1 (M := mX6_goByOnce) (pc' := 38) (r_getR (M := mX6_goByOnce) fl_6_73 h0 rfl (wt_some hW h0 (by decide) (by decide) rfl) dX6_goByOnce_35) ?_
    have hT9 : TY S (pr S a0 5) 2 := wt hW h0 (by decide) (by decide) rfl (by decide)
    refine go_V_SV (M := mX6_goByOnce) (pc' := 41) (st := []) (As := []) rfl ln_6_146 lb_X2_letIn (t_X2_letIn (N := N) hW (by omega) hT9) (by omega) hT9 (Nat.le_of_ble_eq_true rfl) rfl dX6_goByOnce_38 (fun r10 => ?_)
    refine go1 (M := mX6_goByOnce) (pc' := 42) (r_iconst (M := mX6_goByOnce) (v := 0) (by decide) dX6_goByOnce_41) ?_
    refine go1 (M := mX6_goByOnce) (pc' := 43) (ls' := [some (.ref a0), some (.int 0)]) (r_istore_n (M := mX6_goByOnce) (ls := [some (.ref a0), none]) (i := 1) (v := 0) (by decide) rfl dX6_goByOnce_42) ?_
    refine lp_X6_goByOnce_43_t (N := N) hW (by omega) _ a0 0 r10 h0 ?_
    · intro y14
      refine go1 (M := mX6_goByOnce) (pc' := 66) (r_iconst (M := mX6_goByOnce) (v := 0) (by decide) dX6_goByOnce_65) ?_
      refine go1 (M := mX6_goByOnce) (pc' := 67) (ls' := [some (.ref a0), some (.int 0)]) (r_istore_n (M := mX6_goByOnce) (ls := [some (.ref a0), none]) (i := 1) (v := 0) (by decide) rfl dX6_goByOnce_66) ?_
      refine lp_X6_goByOnce_67_t (N := N) hW (by omega) _ a0 0 y14 h0 ?_
      · intro y23
        refine go1 (M := mX6_goByOnce) (pc' := 109) (r_aload_n (M := mX6_goByOnce) (i := 0) rfl dX6_goByOnce_108) ?_
        refine go1 (M := mX6_goByOnce) (pc' := 110) (r_dup (M := mX6_goByOnce) rfl dX6_goByOnce_109) ?_
        refine go1 (M := mX6_goByOnce) (pc' := 113) (r_getI (M := mX6_goByOnce) fl_6_31 h0 rfl dX6_goByOnce_110) ?_
        refine go1 (M := mX6_goByOnce) (pc' := 114) (r_iconst (M := mX6_goByOnce) (v := 1) (by decide) dX6_goByOnce_113) ?_
        refine go1 (M := mX6_goByOnce) (pc' := 115) (r_iadd (M := mX6_goByOnce) dX6_goByOnce_114) ?_
        refine go1 (M := mX6_goByOnce) (pc' := 118) (r_putI (M := mX6_goByOnce) fl_6_31 h0 rfl rfl dX6_goByOnce_115) ?_
        refine go_blx (fun x25 => ?_)
        exact go_vret (M := mX6_goByOnce) rfl rfl dX6_goByOnce_118
def lp_X6_isBusy_14_b (N : Nat) (S : SH) (bk14 : Int32 → Option Int32) (p0 : Nat) (p1 : Int32) (x : DY) : Option Int32 :=
  (if (nI (S.2.2.1 (pr S p0 2))) ≤ p1 then some 0 else ck S (pr S p0 2) p1 ((if (x.1 (pr S p0 2) p1.toNatClampNeg) = (-1) then Option.bind (f_X2_isFree N S (pr S p0 5) p1 x) (fun r9 => (if r9 = 0 then some 1 else bk14 (p1 + 1))) else some 1)))
set_option maxHeartbeats 1000000 in
theorem lp_X6_isBusy_14_b_t {N d : Nat} {S : SH} (hW : WT S) (hd : 2 ≤ d) (bk14 : Int32 → Option Int32) (p0 : Nat) (p1 : Int32) (x : DY) (g0 : TY S p0 6) (hbk14 : ∀ (v1 : Int32), Go mX6_isBusy d S (wPI x) 14 [some (.ref p0), some (.int v1)] [] x (bk14 v1)) : Go mX6_isBusy d S (wPI x) 14 [some (.ref p0), some (.int p1)] [] x (lp_X6_isBusy_14_b N S bk14 p0 p1 x) := by
  unfold lp_X6_isBusy_14_b
  refine go1 (M := mX6_isBusy) (pc' := 15) (r_iload_n (M := mX6_isBusy) (i := 1) rfl dX6_isBusy_14) ?_
  refine go1 (M := mX6_isBusy) (pc' := 16) (r_aload_n (M := mX6_isBusy) (i := 0) rfl dX6_isBusy_15) ?_
  refine go1 (M := mX6_isBusy) (pc' := 19) (r_getR (M := mX6_isBusy) fl_6_59 g0 rfl (wt_some hW g0 (by decide) (by decide) rfl) dX6_isBusy_16) ?_
  have hT4 : TY S (pr S p0 2) 14 := wt hW g0 (by decide) (by decide) rfl (by decide)
  refine go1 (M := mX6_isBusy) (pc' := 20) (r_alen (M := mX6_isBusy) hT4 (by decide) (by decide) dX6_isBusy_19) ?_
  refine go_br (M := mX6_isBusy) (pt := 52) (pf := 23) (fun kt kf => r_icmp_ge (M := mX6_isBusy) dX6_isBusy_20 (by decide) kt kf) (fun hc5 => ?_) (fun hc5 => ?_)
  · refine go1 (M := mX6_isBusy) (pc' := 53) (r_iconst (M := mX6_isBusy) (v := 0) (by decide) dX6_isBusy_52) ?_
    exact go_zret (M := mX6_isBusy) rfl rfl rfl dX6_isBusy_53
  · refine go1 (M := mX6_isBusy) (pc' := 24) (r_aload_n (M := mX6_isBusy) (i := 0) rfl dX6_isBusy_23) ?_
    refine go1 (M := mX6_isBusy) (pc' := 27) (r_getR (M := mX6_isBusy) fl_6_59 g0 rfl (wt_some hW g0 (by decide) (by decide) rfl) dX6_isBusy_24) ?_
    refine go1 (M := mX6_isBusy) (pc' := 28) (r_iload_n (M := mX6_isBusy) (i := 1) rfl dX6_isBusy_27) ?_
    refine go_ck (fun hi6 => ?_)
    refine go1 (M := mX6_isBusy) (pc' := 29) (r_iald (M := mX6_isBusy) hT4 hi6 dX6_isBusy_28) ?_
    refine go1 (M := mX6_isBusy) (pc' := 30) (r_iconst (M := mX6_isBusy) (v := (-1)) (by decide) dX6_isBusy_29) ?_
    refine go_br (M := mX6_isBusy) (pt := 33) (pf := 44) (fun kt kf => r_icmp_ne (M := mX6_isBusy) dX6_isBusy_30 (by decide) kf kt) (fun hc7 => ?_) (fun hc7 => ?_)
    · refine go1 (M := mX6_isBusy) (pc' := 34) (r_aload_n (M := mX6_isBusy) (i := 0) rfl dX6_isBusy_33) ?_
      refine go1 (M := mX6_isBusy) (pc' := 37) (r_getR (M := mX6_isBusy) fl_6_73 g0 rfl (wt_some hW g0 (by decide) (by decide) rfl) dX6_isBusy_34) ?_
      have hT8 : TY S (pr S p0 5) 2 := wt hW g0 (by decide) (by decide) rfl (by decide)
      refine go1 (M := mX6_isBusy) (pc' := 38) (r_iload_n (M := mX6_isBusy) (i := 1) rfl dX6_isBusy_37) ?_
      refine go_V_PI (M := mX6_isBusy) (pc' := 41) (st := []) (As := [.int p1]) rfl ln_6_134 lb_X2_isFree (t_X2_isFree (N := N) hW (by omega) hT8) (by omega) hT8 (Nat.le_of_ble_eq_true rfl) rfl dX6_isBusy_38 (fun r9 => ?_)
      refine go_br (M := mX6_isBusy) (pt := 44) (pf := 46) (fun kt kf => r_if_ne (M := mX6_isBusy) dX6_isBusy_41 (by decide) kf kt) (fun hc10 => ?_) (fun hc10 => ?_)
      · refine go1 (M := mX6_isBusy) (pc' := 45) (r_iconst (M := mX6_isBusy) (v := 1) (by decide) dX6_isBusy_44) ?_
        exact go_zret (M := mX6_isBusy) rfl rfl rfl dX6_isBusy_45
      · refine go1 (M := mX6_isBusy) (pc' := 49) (ls' := [some (.ref p0), some (.int (p1 + 1))]) (r_iinc (M := mX6_isBusy) (ls := [some (.ref p0), some (.int p1)]) (i := 1) (v := p1) (c' := 1) (by decide) rfl (by decide) rfl dX6_isBusy_46) ?_
        refine go1 (M := mX6_isBusy) (pc' := 14) (r_goto (M := mX6_isBusy) dX6_isBusy_49 (by decide)) ?_
        exact hbk14 (p1 + 1)
    · refine go1 (M := mX6_isBusy) (pc' := 45) (r_iconst (M := mX6_isBusy) (v := 1) (by decide) dX6_isBusy_44) ?_
      exact go_zret (M := mX6_isBusy) rfl rfl rfl dX6_isBusy_45
def lp_X6_isBusy_14 (N : Nat) (S : SH) (p0 : Nat) (p1 : Int32) (x : DY) : Option Int32 :=
  itr (fun back (v : Int32) => lp_X6_isBusy_14_b N S (fun p1 => back p1) p0 v x) N p1
theorem lp_X6_isBusy_14_t {N d : Nat} {S : SH} (hW : WT S) (hd : 2 ≤ d) (p0 : Nat) (p1 : Int32) (x : DY) (g0 : TY S p0 6) : Go mX6_isBusy d S (wPI x) 14 [some (.ref p0), some (.int p1)] [] x (lp_X6_isBusy_14 N S p0 p1 x) := by
  unfold lp_X6_isBusy_14
  exact go_itr (L := fun (v : Int32) => [some (.ref p0), some (.int v)]) (X := fun (v : Int32) => x) (fun back hB v => lp_X6_isBusy_14_b_t (N := N) hW hd (fun p1 => back p1) p0 v x g0 (fun p1 => hB p1) ) N p1
def f_X6_isBusy (N : Nat) (S : SH) (a0 : Nat) (x : DY) : Option Int32 :=
  (if (x.1 (pr S a0 5) 2) ≤ 0 then lp_X6_isBusy_14 N S a0 0 x else some 1)
set_option maxHeartbeats 1000000 in
theorem t_X6_isBusy {N d : Nat} {S : SH} (hW : WT S) {x : DY} {a0 : Nat} (hd : 2 ≤ d) (h0 : TY S a0 6) : CT mX6_isBusy d S [.ref a0] x (wPI x) (f_X6_isBusy N S a0 x) := by
  refine CT.of [some (.ref a0), none] rfl (Nat.le_of_ble_eq_true rfl) (by decide +kernel) ?_
  unfold f_X6_isBusy
  refine go1 (M := mX6_isBusy) (pc' := 1) (r_aload_n (M := mX6_isBusy) (i := 0) rfl dX6_isBusy_0) ?_
  refine go1 (M := mX6_isBusy) (pc' := 4) (r_getR (M := mX6_isBusy) fl_6_73 h0 rfl (wt_some hW h0 (by decide) (by decide) rfl) dX6_isBusy_1) ?_
  have hT1 : TY S (pr S a0 5) 2 := wt hW h0 (by decide) (by decide) rfl (by decide)
  refine go1 (M := mX6_isBusy) (pc' := 7) (r_getI (M := mX6_isBusy) fl_6_131 hT1 rfl dX6_isBusy_4) ?_
  refine go_br (M := mX6_isBusy) (pt := 12) (pf := 10) (fun kt kf => r_if_le (M := mX6_isBusy) dX6_isBusy_7 (by decide) kt kf) (fun hc2 => ?_) (fun hc2 => ?_)
  · refine go1 (M := mX6_isBusy) (pc' := 13) (r_iconst (M := mX6_isBusy) (v := 0) (by decide) dX6_isBusy_12) ?_
    refine go1 (M := mX6_isBusy) (pc' := 14) (ls' := [some (.ref a0), some (.int 0)]) (r_istore_n (M := mX6_isBusy) (ls := [some (.ref a0), none]) (i := 1) (v := 0) (by decide) rfl dX6_isBusy_13) ?_
    refine lp_X6_isBusy_14_t (N := N) hW (by omega) a0 0 x h0
  · refine go1 (M := mX6_isBusy) (pc' := 11) (r_iconst (M := mX6_isBusy) (v := 1) (by decide) dX6_isBusy_10) ?_
    exact go_zret (M := mX6_isBusy) rfl rfl rfl dX6_isBusy_11
def f_X1_keepBest (N : Nat) (S : SH) (a0 : Nat) (a1 : Int64) (x : DY) : Option DY :=
  (if (lg_cmp a1 (x.2 a0 3)) ≤ 0 then some x else bl (U2 x a0 3 a1) (fun x2 => cpk S (pr S a0 1) 0 (pr S a0 2) 0 3 (bl (cpX S (pr S a0 1) 0 (pr S a0 2) 0 3 x2) (fun x6 => some x6))))
set_option maxHeartbeats 1000000 in
theorem t_X1_keepBest {N d : Nat} {S : SH} (hW : WT S) {x : DY} {a0 : Nat} {a1 : Int64} (hd : 2 ≤ d) (h0 : TY S a0 1) : CT mX1_keepBest d S [.ref a0, .long a1] x wSV (f_X1_keepBest N S a0 a1 x) := by
  refine CT.of [some (.ref a0), some (.long a1), none] rfl (Nat.le_of_ble_eq_true rfl) (by decide +kernel) ?_
  unfold f_X1_keepBest
  refine go1 (M := mX1_keepBest) (pc' := 1) (r_lload_n (M := mX1_keepBest) (i := 1) rfl dX1_keepBest_0) ?_
  refine go1 (M := mX1_keepBest) (pc' := 2) (r_aload_n (M := mX1_keepBest) (i := 0) rfl dX1_keepBest_1) ?_
  refine go1 (M := mX1_keepBest) (pc' := 5) (r_getL (M := mX1_keepBest) fl_1_26 h0 rfl dX1_keepBest_2) ?_
  refine go1 (M := mX1_keepBest) (pc' := 6) (r_lcmp (M := mX1_keepBest) dX1_keepBest_5) ?_
  refine go_br (M := mX1_keepBest) (pt := 28) (pf := 9) (fun kt kf => r_if_le (M := mX1_keepBest) dX1_keepBest_6 (by decide) kt kf) (fun hc1 => ?_) (fun hc1 => ?_)
  · exact go_vret (M := mX1_keepBest) rfl rfl dX1_keepBest_28
  · refine go1 (M := mX1_keepBest) (pc' := 10) (r_aload_n (M := mX1_keepBest) (i := 0) rfl dX1_keepBest_9) ?_
    refine go1 (M := mX1_keepBest) (pc' := 11) (r_lload_n (M := mX1_keepBest) (i := 1) rfl dX1_keepBest_10) ?_
    refine go1 (M := mX1_keepBest) (pc' := 14) (r_putL (M := mX1_keepBest) fl_1_26 h0 rfl rfl dX1_keepBest_11) ?_
    refine go_blx (fun x2 => ?_)
    refine go1 (M := mX1_keepBest) (pc' := 15) (r_aload_n (M := mX1_keepBest) (i := 0) rfl dX1_keepBest_14) ?_
    refine go1 (M := mX1_keepBest) (pc' := 18) (r_getR (M := mX1_keepBest) fl_1_17 h0 rfl (wt_some hW h0 (by decide) (by decide) rfl) dX1_keepBest_15) ?_
    have hT3 : TY S (pr S a0 1) 14 := wt hW h0 (by decide) (by decide) rfl (by decide)
    refine go1 (M := mX1_keepBest) (pc' := 19) (r_iconst (M := mX1_keepBest) (v := 0) (by decide) dX1_keepBest_18) ?_
    refine go1 (M := mX1_keepBest) (pc' := 20) (r_aload_n (M := mX1_keepBest) (i := 0) rfl dX1_keepBest_19) ?_
    refine go1 (M := mX1_keepBest) (pc' := 23) (r_getR (M := mX1_keepBest) fl_1_21 h0 rfl (wt_some hW h0 (by decide) (by decide) rfl) dX1_keepBest_20) ?_
    have hT4 : TY S (pr S a0 2) 14 := wt hW h0 (by decide) (by decide) rfl (by decide)
    refine go1 (M := mX1_keepBest) (pc' := 24) (r_iconst (M := mX1_keepBest) (v := 0) (by decide) dX1_keepBest_23) ?_
    refine go1 (M := mX1_keepBest) (pc' := 25) (r_iconst (M := mX1_keepBest) (v := 3) (by decide) dX1_keepBest_24) ?_
    refine go_cpk (fun hy5 => ?_)
    refine go1 (M := mX1_keepBest) (pc' := 28) (r_copy (M := mX1_keepBest) (tb4 238 (by decide +kernel) rfl) hT3 hT4 hy5 (Nat.le_of_ble_eq_true rfl) (by omega) dX1_keepBest_25) ?_
    refine go_blx (fun x6 => ?_)
    exact go_vret (M := mX1_keepBest) rfl rfl dX1_keepBest_28
def lp_X1_tryChoices_131_b (N : Nat) (S : SH) (k157 : DY → Option DY) (bk131 : Int32 → DY → Option DY) (p0 : Nat) (p1 : Nat) (p2 : Int32) (p3 : Int32) (p4 : Int32) (p5 : Nat) (p7 : Int32) (p8 : Int32) (p9 : Int32) (x : DY) : Option DY :=
  (if p4 ≤ p9 then k157 x else Option.bind (f_X6_isBusy N S p5 x) (fun r23 => (if r23 = 0 then k157 x else Option.bind (f_X6_goByOnce N S p5 x) (fun r25 => bk131 (p9 + 1) r25))))
set_option maxHeartbeats 1000000 in
theorem lp_X1_tryChoices_131_b_t {N d dr : Nat} {S : SH} (hW : WT S) (hd : dr + 6 ≤ d) (k157 : DY → Option DY) (bk131 : Int32 → DY → Option DY) (p0 : Nat) (p1 : Nat) (p2 : Int32) (p3 : Int32) (p4 : Int32) (p5 : Nat) (p7 : Int32) (p8 : Int32) (p9 : Int32) (x : DY) (g0 : TY S p0 1) (g1 : TY S p1 6) (g5 : TY S p5 6) (hk157 : ∀ (y : DY), Go mX1_tryChoices d S wSV 157 [some (.ref p0), some (.ref p1), some (.int p2), some (.int p3), some (.int p4), some (.ref p5), none, some (.int p7), some (.int p8), none] [] y (k157 y)) (hbk131 : ∀ (v9 : Int32) (y : DY), Go mX1_tryChoices d S wSV 131 [some (.ref p0), some (.ref p1), some (.int p2), some (.int p3), some (.int p4), some (.ref p5), none, some (.int p7), some (.int p8), some (.int v9)] [] y (bk131 v9 y)) : Go mX1_tryChoices d S wSV 131 [some (.ref p0), some (.ref p1), some (.int p2), some (.int p3), some (.int p4), some (.ref p5), none, some (.int p7), some (.int p8), some (.int p9)] [] x (lp_X1_tryChoices_131_b N S k157 bk131 p0 p1 p2 p3 p4 p5 p7 p8 p9 x) := by
  unfold lp_X1_tryChoices_131_b
  refine go1 (M := mX1_tryChoices) (pc' := 133) (r_iload (M := mX1_tryChoices) (i := 9) rfl dX1_tryChoices_131) ?_
  refine go1 (M := mX1_tryChoices) (pc' := 135) (r_iload (M := mX1_tryChoices) (i := 4) rfl dX1_tryChoices_133) ?_
  refine go_br (M := mX1_tryChoices) (pt := 157) (pf := 138) (fun kt kf => r_icmp_ge (M := mX1_tryChoices) dX1_tryChoices_135 (by decide) kt kf) (fun hc22 => ?_) (fun hc22 => ?_)
  · refine go_drop (ls' := [some (.ref p0), some (.ref p1), some (.int p2), some (.int p3), some (.int p4), some (.ref p5), none, some (.int p7), some (.int p8), none]) (And.intro rfl (And.intro rfl (And.intro rfl (And.intro rfl (And.intro rfl (And.intro rfl (And.intro rfl (And.intro rfl trivial)))))))) ?_
    exact hk157 x
  · refine go1 (M := mX1_tryChoices) (pc' := 140) (r_aload (M := mX1_tryChoices) (i := 5) rfl dX1_tryChoices_138) ?_
    refine go_V_PI (M := mX1_tryChoices) (pc' := 143) (st := []) (As := []) rfl ln_1_68 lb_X6_isBusy (t_X6_isBusy (N := N) hW (by omega) g5) (by omega) g5 (Nat.le_of_ble_eq_true rfl) rfl dX1_tryChoices_140 (fun r23 => ?_)
    refine go_br (M := mX1_tryChoices) (pt := 157) (pf := 146) (fun kt kf => r_if_eq (M := mX1_tryChoices) dX1_tryChoices_143 (by decide) kt kf) (fun hc24 => ?_) (fun hc24 => ?_)
    · refine go_drop (ls' := [some (.ref p0), some (.ref p1), some (.int p2), some (.int p3), some (.int p4), some (.ref p5), none, some (.int p7), some (.int p8), none]) (And.intro rfl (And.intro rfl (And.intro rfl (And.intro rfl (And.intro rfl (And.intro rfl (And.intro rfl (And.intro rfl trivial)))))))) ?_
      exact hk157 x
    · refine go1 (M := mX1_tryChoices) (pc' := 148) (r_aload (M := mX1_tryChoices) (i := 5) rfl dX1_tryChoices_146) ?_
      refine go_V_SV (M := mX1_tryChoices) (pc' := 151) (st := []) (As := []) rfl ln_1_65 lb_X6_goByOnce (t_X6_goByOnce (N := N) hW (by omega) g5) (by omega) g5 (Nat.le_of_ble_eq_true rfl) rfl dX1_tryChoices_148 (fun r25 => ?_)
      refine go1 (M := mX1_tryChoices) (pc' := 154) (ls' := [some (.ref p0), some (.ref p1), some (.int p2), some (.int p3), some (.int p4), some (.ref p5), none, some (.int p7), some (.int p8), some (.int (p9 + 1))]) (r_iinc (M := mX1_tryChoices) (ls := [some (.ref p0), some (.ref p1), some (.int p2), some (.int p3), some (.int p4), some (.ref p5), none, some (.int p7), some (.int p8), some (.int p9)]) (i := 9) (v := p9) (c' := 1) (by decide) rfl (by decide) rfl dX1_tryChoices_151) ?_
      refine go1 (M := mX1_tryChoices) (pc' := 131) (r_goto (M := mX1_tryChoices) dX1_tryChoices_154 (by decide)) ?_
      exact hbk131 (p9 + 1) r25
def lp_X1_tryChoices_131 (N : Nat) (S : SH) (k157 : DY → Option DY) (p0 : Nat) (p1 : Nat) (p2 : Int32) (p3 : Int32) (p4 : Int32) (p5 : Nat) (p7 : Int32) (p8 : Int32) (p9 : Int32) (x : DY) : Option DY :=
  itr (fun back (v : Int32 × DY) => lp_X1_tryChoices_131_b N S k157 (fun p9 y => back (p9, y)) p0 p1 p2 p3 p4 p5 p7 p8 v.1 v.2) N (p9, x)
theorem lp_X1_tryChoices_131_t {N d dr : Nat} {S : SH} (hW : WT S) (hd : dr + 6 ≤ d) (k157 : DY → Option DY) (p0 : Nat) (p1 : Nat) (p2 : Int32) (p3 : Int32) (p4 : Int32) (p5 : Nat) (p7 : Int32) (p8 : Int32) (p9 : Int32) (x : DY) (g0 : TY S p0 1) (g1 : TY S p1 6) (g5 : TY S p5 6) (hk157 : ∀ (y : DY), Go mX1_tryChoices d S wSV 157 [some (.ref p0), some (.ref p1), some (.int p2), some (.int p3), some (.int p4), some (.ref p5), none, some (.int p7), some (.int p8), none] [] y (k157 y)) : Go mX1_tryChoices d S wSV 131 [some (.ref p0), some (.ref p1), some (.int p2), some (.int p3), some (.int p4), some (.ref p5), none, some (.int p7), some (.int p8), some (.int p9)] [] x (lp_X1_tryChoices_131 N S k157 p0 p1 p2 p3 p4 p5 p7 p8 p9 x) := by
  unfold lp_X1_tryChoices_131
  exact go_itr (L := fun (v : Int32 × DY) => [some (.ref p0), some (.ref p1), some (.int p2), some (.int p3), some (.int p4), some (.ref p5), none, some (.int p7), some (.int p8), some (.int v.1)]) (X := fun (v : Int32 × DY) => v.2) (fun back hB v => lp_X1_tryChoices_131_b_t (N := N) (dr := dr) hW hd k157 (fun p9 y => back (p9, y)) p0 p1 p2 p3 p4 p5 p7 p8 v.1 v.2 g0 g1 g5 hk157 (fun p9 y => hB (p9, y)) ) N (p9, x)
def j_X1_tryChoices_166 (N : Nat) (S : SH) (bk72 : Int32 → DY → Option DY) (p0 : Nat) (p1 : Nat) (p2 : Int32) (p3 : Int32) (p4 : Int32) (p5 : Nat) (p7 : Int32) (p8 : Int32) (x : DY) : Option DY :=
  bk72 (p8 + 1) x
set_option maxHeartbeats 1000000 in
theorem j_X1_tryChoices_166_t {N d dr : Nat} {S : SH} (hW : WT S) (hd : dr + 6 ≤ d) (bk72 : Int32 → DY → Option DY) (p0 : Nat) (p1 : Nat) (p2 : Int32) (p3 : Int32) (p4 : Int32) (p5 : Nat) (p7 : Int32) (p8 : Int32) (x : DY) (g0 : TY S p0 1) (g1 : TY S p1 6) (g5 : TY S p5 6) (hbk72 : ∀ (v8 : Int32) (y : DY), Go mX1_tryChoices d S wSV 72 [some (.ref p0), some (.ref p1), some (.int p2), some (.int p3), some (.int p4), some (.ref p5), none, some (.int p7), some (.int v8), none] [] y (bk72 v8 y)) : Go mX1_tryChoices d S wSV 166 [some (.ref p0), some (.ref p1), some (.int p2), some (.int p3), some (.int p4), some (.ref p5), none, some (.int p7), some (.int p8), none] [] x (j_X1_tryChoices_166 N S bk72 p0 p1 p2 p3 p4 p5 p7 p8 x) := by
  unfold j_X1_tryChoices_166
  refine go1 (M := mX1_tryChoices) (pc' := 169) (ls' := [some (.ref p0), some (.ref p1), some (.int p2), some (.int p3), some (.int p4), some (.ref p5), none, some (.int p7), some (.int (p8 + 1)), none]) (r_iinc (M := mX1_tryChoices) (ls := [some (.ref p0), some (.ref p1), some (.int p2), some (.int p3), some (.int p4), some (.ref p5), none, some (.int p7), some (.int p8), none]) (i := 8) (v := p8) (c' := 1) (by decide) rfl (by decide) rfl dX1_tryChoices_166) ?_
  refine go1 (M := mX1_tryChoices) (pc' := 72) (r_goto (M := mX1_tryChoices) dX1_tryChoices_169 (by decide)) ?_
  exact hbk72 (p8 + 1) x
def j_X1_tryChoices_157 (N : Nat) (S : SH) (bk72 : Int32 → DY → Option DY) (p0 : Nat) (p1 : Nat) (p2 : Int32) (p3 : Int32) (p4 : Int32) (p5 : Nat) (p7 : Int32) (p8 : Int32) (x : DY) : Option DY :=
  Option.bind (f_X1_keepBest N S p0 (x.2 p5 10) x) (fun r27 => j_X1_tryChoices_166 N S bk72 p0 p1 p2 p3 p4 p5 p7 p8 r27)
set_option maxHeartbeats 1000000 in
theorem j_X1_tryChoices_157_t {N d dr : Nat} {S : SH} (hW : WT S) (hd : dr + 6 ≤ d) (bk72 : Int32 → DY → Option DY) (p0 : Nat) (p1 : Nat) (p2 : Int32) (p3 : Int32) (p4 : Int32) (p5 : Nat) (p7 : Int32) (p8 : Int32) (x : DY) (g0 : TY S p0 1) (g1 : TY S p1 6) (g5 : TY S p5 6) (hbk72 : ∀ (v8 : Int32) (y : DY), Go mX1_tryChoices d S wSV 72 [some (.ref p0), some (.ref p1), some (.int p2), some (.int p3), some (.int p4), some (.ref p5), none, some (.int p7), some (.int v8), none] [] y (bk72 v8 y)) : Go mX1_tryChoices d S wSV 157 [some (.ref p0), some (.ref p1), some (.int p2), some (.int p3), some (.int p4), some (.ref p5), none, some (.int p7), some (.int p8), none] [] x (j_X1_tryChoices_157 N S bk72 p0 p1 p2 p3 p4 p5 p7 p8 x) := by
  unfold j_X1_tryChoices_157
  refine go1 (M := mX1_tryChoices) (pc' := 158) (r_aload_n (M := mX1_tryChoices) (i := 0) rfl dX1_tryChoices_157) ?_
  refine go1 (M := mX1_tryChoices) (pc' := 160) (r_aload (M := mX1_tryChoices) (i := 5) rfl dX1_tryChoices_158) ?_
  refine go1 (M := mX1_tryChoices) (pc' := 163) (r_getL (M := mX1_tryChoices) fl_1_37 g5 rfl dX1_tryChoices_160) ?_
  refine go_V_SV (M := mX1_tryChoices) (pc' := 166) (st := []) (As := [.long (x.2 p5 10)]) rfl ln_1_71 lb_X1_keepBest (t_X1_keepBest (N := N) hW (by omega) g0) (by omega) g0 (Nat.le_of_ble_eq_true rfl) rfl dX1_tryChoices_163 (fun r27 => ?_)
  exact j_X1_tryChoices_166_t (N := N) (dr := dr) hW (by omega) bk72 p0 p1 p2 p3 p4 p5 p7 p8 r27 g0 g1 g5 hbk72
def lp_X1_tryChoices_72_b (N : Nat) (rc_X1_tryChoices : Nat → Nat → Int32 → Int32 → Int32 → DY → Option DY) (S : SH) (bk72 : Int32 → DY → Option DY) (p0 : Nat) (p1 : Nat) (p2 : Int32) (p3 : Int32) (p4 : Int32) (p5 : Nat) (p7 : Int32) (p8 : Int32) (x : DY) : Option DY :=
  (if p7 < p8 then some x else ck S (pr S p0 1) p2 (bl (U1 x (pr S p0 1) p2.toNatClampNeg p8) (fun x16 => Option.bind (f_X6_copy N S p5 p1 x16) (fun r17 => Option.bind (f_X6_layAtHatch N S p5 p8 r17) (fun r18 => Option.bind (f_X6_goByOnce N S p5 r18.2) (fun r19 => (if p3 ≤ (p2 + 1) then lp_X1_tryChoices_131 N S (fun y25 => j_X1_tryChoices_157 N S bk72 p0 p1 p2 p3 p4 p5 p7 p8 y25) p0 p1 p2 p3 p4 p5 p7 p8 0 r19 else Option.bind (rc_X1_tryChoices p0 p5 (p2 + 1) p3 p4 r19) (fun r29 => j_X1_tryChoices_166 N S bk72 p0 p1 p2 p3 p4 p5 p7 p8 r29))))))))
set_option maxHeartbeats 1000000 in
theorem lp_X1_tryChoices_72_b_t {N d dr : Nat} (rc_X1_tryChoices : Nat → Nat → Int32 → Int32 → Int32 → DY → Option DY) {S : SH} (hW : WT S) (hd : dr + 6 ≤ d) (bk72 : Int32 → DY → Option DY) (p0 : Nat) (p1 : Nat) (p2 : Int32) (p3 : Int32) (p4 : Int32) (p5 : Nat) (p7 : Int32) (p8 : Int32) (x : DY) (g0 : TY S p0 1) (g1 : TY S p1 6) (g5 : TY S p5 6) (hbk72 : ∀ (v8 : Int32) (y : DY), Go mX1_tryChoices d S wSV 72 [some (.ref p0), some (.ref p1), some (.int p2), some (.int p3), some (.int p4), some (.ref p5), none, some (.int p7), some (.int v8), none] [] y (bk72 v8 y)) (hr_X1_tryChoices : ∀ {d : Nat} {x : DY} {b0 : Nat} {b1 : Nat} {b2 : Int32} {b3 : Int32} {b4 : Int32}, dr ≤ d → TY S b0 1 → TY S b1 6 → CT mX1_tryChoices d S [.ref b0, .ref b1, .int b2, .int b3, .int b4] x wSV (rc_X1_tryChoices b0 b1 b2 b3 b4 x)) : Go mX1_tryChoices d S wSV 72 [some (.ref p0), some (.ref p1), some (.int p2), some (.int p3), some (.int p4), some (.ref p5), none, some (.int p7), some (.int p8), none] [] x (lp_X1_tryChoices_72_b N rc_X1_tryChoices S bk72 p0 p1 p2 p3 p4 p5 p7 p8 x) := by
  unfold lp_X1_tryChoices_72_b
  refine go1 (M := mX1_tryChoices) (pc' := 74) (r_iload (M := mX1_tryChoices) (i := 8) rfl dX1_tryChoices_72) ?_
  refine go1 (M := mX1_tryChoices) (pc' := 76) (r_iload (M := mX1_tryChoices) (i := 7) rfl dX1_tryChoices_74) ?_
  refine go_br (M := mX1_tryChoices) (pt := 172) (pf := 79) (fun kt kf => r_icmp_gt (M := mX1_tryChoices) dX1_tryChoices_76 (by decide) kt kf) (fun hc13 => ?_) (fun hc13 => ?_)
  · exact go_vret (M := mX1_tryChoices) rfl rfl dX1_tryChoices_172
  · refine go1 (M := mX1_tryChoices) (pc' := 80) (r_aload_n (M := mX1_tryChoices) (i := 0) rfl dX1_tryChoices_79) ?_
    refine go1 (M := mX1_tryChoices) (pc' := 83) (r_getR (M := mX1_tryChoices) fl_1_17 g0 rfl (wt_some hW g0 (by decide) (by decide) rfl) dX1_tryChoices_80) ?_
    have hT14 : TY S (pr S p0 1) 14 := wt hW g0 (by decide) (by decide) rfl (by decide)
    refine go1 (M := mX1_tryChoices) (pc' := 84) (r_iload_n (M := mX1_tryChoices) (i := 2) rfl dX1_tryChoices_83) ?_
    refine go1 (M := mX1_tryChoices) (pc' := 86) (r_iload (M := mX1_tryChoices) (i := 8) rfl dX1_tryChoices_84) ?_
    refine go_ck (fun hi15 => ?_)
    refine go1 (M := mX1_tryChoices) (pc' := 87) (r_iast (M := mX1_tryChoices) hT14 hi15 dX1_tryChoices_86) ?_
    refine go_blx (fun x16 => ?_)
    refine go1 (M := mX1_tryChoices) (pc' := 89) (r_aload (M := mX1_tryChoices) (i := 5) rfl dX1_tryChoices_87) ?_
    refine go1 (M := mX1_tryChoices) (pc' := 90) (r_aload_n (M := mX1_tryChoices) (i := 1) rfl dX1_tryChoices_89) ?_
    refine go_V_SV (M := mX1_tryChoices) (pc' := 93) (st := []) (As := [.ref p1]) rfl ln_1_57 lb_X6_copy (t_X6_copy (N := N) hW (by omega) g5 g1) (by omega) g5 (Nat.le_of_ble_eq_true rfl) rfl dX1_tryChoices_90 (fun r17 => ?_)
    refine go1 (M := mX1_tryChoices) (pc' := 95) (r_aload (M := mX1_tryChoices) (i := 5) rfl dX1_tryChoices_93) ?_
    refine go1 (M := mX1_tryChoices) (pc' := 97) (r_iload (M := mX1_tryChoices) (i := 8) rfl dX1_tryChoices_95) ?_
    refine go_V_SI (M := mX1_tryChoices) (pc' := 100) (st := []) (As := [.int p8]) rfl ln_1_61 lb_X6_layAtHatch (t_X6_layAtHatch (N := N) hW (by omega) g5) (by omega) g5 (Nat.le_of_ble_eq_true rfl) rfl dX1_tryChoices_97 (fun r18 => ?_)
    refine go1 (M := mX1_tryChoices) (pc' := 101) (r_pop (M := mX1_tryChoices) rfl dX1_tryChoices_100) ?_
    refine go1 (M := mX1_tryChoices) (pc' := 103) (r_aload (M := mX1_tryChoices) (i := 5) rfl dX1_tryChoices_101) ?_
    refine go_V_SV (M := mX1_tryChoices) (pc' := 106) (st := []) (As := []) rfl ln_1_65 lb_X6_goByOnce (t_X6_goByOnce (N := N) hW (by omega) g5) (by omega) g5 (Nat.le_of_ble_eq_true rfl) rfl dX1_tryChoices_103 (fun r19 => ?_)
    refine go1 (M := mX1_tryChoices) (pc' := 107) (r_iload_n (M := mX1_tryChoices) (i := 2) rfl dX1_tryChoices_106) ?_
    refine go1 (M := mX1_tryChoices) (pc' := 108) (r_iconst (M := mX1_tryChoices) (v := 1) (by decide) dX1_tryChoices_107) ?_
    refine go1 (M := mX1_tryChoices) (pc' := 109) (r_iadd (M := mX1_tryChoices) dX1_tryChoices_108) ?_
    refine go1 (M := mX1_tryChoices) (pc' := 110) (r_iload_n (M := mX1_tryChoices) (i := 3) rfl dX1_tryChoices_109) ?_
    refine go_br (M := mX1_tryChoices) (pt := 128) (pf := 113) (fun kt kf => r_icmp_ge (M := mX1_tryChoices) dX1_tryChoices_110 (by decide) kt kf) (fun hc20 => ?_) (fun hc20 => ?_)
    · refine go1 (M := mX1_tryChoices) (pc' := 129) (r_iconst (M := mX1_tryChoices) (v := 0) (by decide) dX1_tryChoices_128) ?_
      refine go1 (M := mX1_tryChoices) (pc' := 131) (ls' := [some (.ref p0), some (.ref p1), some (.int p2), some (.int p3), some (.int p4), some (.ref p5), none, some (.int p7), some (.int p8), some (.int 0)]) (r_istore (M := mX1_tryChoices) (ls := [some (.ref p0), some (.ref p1), some (.int p2), some (.int p3), some (.int p4), some (.ref p5), none, some (.int p7), some (.int p8), none]) (i := 9) (v := 0) (by decide) rfl dX1_tryChoices_129) ?_
      refine lp_X1_tryChoices_131_t (N := N) (dr := dr) hW (by omega) _ p0 p1 p2 p3 p4 p5 p7 p8 0 r19 g0 g1 g5 ?_
      · intro y25
        exact j_X1_tryChoices_157_t (N := N) (dr := dr) hW (by omega) bk72 p0 p1 p2 p3 p4 p5 p7 p8 y25 g0 g1 g5 hbk72
    · refine go1 (M := mX1_tryChoices) (pc' := 114) (r_aload_n (M := mX1_tryChoices) (i := 0) rfl dX1_tryChoices_113) ?_
      refine go1 (M := mX1_tryChoices) (pc' := 116) (r_aload (M := mX1_tryChoices) (i := 5) rfl dX1_tryChoices_114) ?_
      refine go1 (M := mX1_tryChoices) (pc' := 117) (r_iload_n (M := mX1_tryChoices) (i := 2) rfl dX1_tryChoices_116) ?_
      refine go1 (M := mX1_tryChoices) (pc' := 118) (r_iconst (M := mX1_tryChoices) (v := 1) (by decide) dX1_tryChoices_117) ?_
      refine go1 (M := mX1_tryChoices) (pc' := 119) (r_iadd (M := mX1_tryChoices) dX1_tryChoices_118) ?_
      refine go1 (M := mX1_tryChoices) (pc' := 120) (r_iload_n (M := mX1_tryChoices) (i := 3) rfl dX1_tryChoices_119) ?_
      refine go1 (M := mX1_tryChoices) (pc' := 122) (r_iload (M := mX1_tryChoices) (i := 4) rfl dX1_tryChoices_120) ?_
      refine go_S_SV (M := mX1_tryChoices) (pc' := 125) (st := []) (As := [.ref p0, .ref p5, .int (p2 + 1), .int p3, .int p4]) rfl ln_1_40 lb_X1_tryChoices (hr_X1_tryChoices (by omega) g0 g5) (by omega) (Nat.le_of_ble_eq_true rfl) rfl dX1_tryChoices_122 (fun r29 => ?_)
      refine go1 (M := mX1_tryChoices) (pc' := 166) (r_goto (M := mX1_tryChoices) dX1_tryChoices_125 (by decide)) ?_
      exact j_X1_tryChoices_166_t (N := N) (dr := dr) hW (by omega) bk72 p0 p1 p2 p3 p4 p5 p7 p8 r29 g0 g1 g5 hbk72
def lp_X1_tryChoices_72 (N : Nat) (rc_X1_tryChoices : Nat → Nat → Int32 → Int32 → Int32 → DY → Option DY) (S : SH) (p0 : Nat) (p1 : Nat) (p2 : Int32) (p3 : Int32) (p4 : Int32) (p5 : Nat) (p7 : Int32) (p8 : Int32) (x : DY) : Option DY :=
  itr (fun back (v : Int32 × DY) => lp_X1_tryChoices_72_b N rc_X1_tryChoices S (fun p8 y => back (p8, y)) p0 p1 p2 p3 p4 p5 p7 v.1 v.2) N (p8, x)
theorem lp_X1_tryChoices_72_t {N d dr : Nat} (rc_X1_tryChoices : Nat → Nat → Int32 → Int32 → Int32 → DY → Option DY) {S : SH} (hW : WT S) (hd : dr + 6 ≤ d) (p0 : Nat) (p1 : Nat) (p2 : Int32) (p3 : Int32) (p4 : Int32) (p5 : Nat) (p7 : Int32) (p8 : Int32) (x : DY) (g0 : TY S p0 1) (g1 : TY S p1 6) (g5 : TY S p5 6) (hr_X1_tryChoices : ∀ {d : Nat} {x : DY} {b0 : Nat} {b1 : Nat} {b2 : Int32} {b3 : Int32} {b4 : Int32}, dr ≤ d → TY S b0 1 → TY S b1 6 → CT mX1_tryChoices d S [.ref b0, .ref b1, .int b2, .int b3, .int b4] x wSV (rc_X1_tryChoices b0 b1 b2 b3 b4 x)) : Go mX1_tryChoices d S wSV 72 [some (.ref p0), some (.ref p1), some (.int p2), some (.int p3), some (.int p4), some (.ref p5), none, some (.int p7), some (.int p8), none] [] x (lp_X1_tryChoices_72 N rc_X1_tryChoices S p0 p1 p2 p3 p4 p5 p7 p8 x) := by
  unfold lp_X1_tryChoices_72
  exact go_itr (L := fun (v : Int32 × DY) => [some (.ref p0), some (.ref p1), some (.int p2), some (.int p3), some (.int p4), some (.ref p5), none, some (.int p7), some (.int v.1), none]) (X := fun (v : Int32 × DY) => v.2) (fun back hB v => lp_X1_tryChoices_72_b_t (N := N) (dr := dr) rc_X1_tryChoices hW hd (fun p8 y => back (p8, y)) p0 p1 p2 p3 p4 p5 p7 v.1 v.2 g0 g1 g5 (fun p8 y => hB (p8, y)) hr_X1_tryChoices) N (p8, x)
def j_X1_tryChoices_67 (N : Nat) (rc_X1_tryChoices : Nat → Nat → Int32 → Int32 → Int32 → DY → Option DY) (S : SH) (p0 : Nat) (p1 : Nat) (p2 : Int32) (p3 : Int32) (p4 : Int32) (p5 : Nat) (q0 : Int32) (x : DY) : Option DY :=
  lp_X1_tryChoices_72 N rc_X1_tryChoices S p0 p1 p2 p3 p4 p5 q0 0 x
set_option maxHeartbeats 1000000 in
theorem j_X1_tryChoices_67_t {N d dr : Nat} (rc_X1_tryChoices : Nat → Nat → Int32 → Int32 → Int32 → DY → Option DY) {S : SH} (hW : WT S) (hd : dr + 6 ≤ d) (p0 : Nat) (p1 : Nat) (p2 : Int32) (p3 : Int32) (p4 : Int32) (p5 : Nat) (q0 : Int32) (x : DY) (g0 : TY S p0 1) (g1 : TY S p1 6) (g5 : TY S p5 6) (hr_X1_tryChoices : ∀ {d : Nat} {x : DY} {b0 : Nat} {b1 : Nat} {b2 : Int32} {b3 : Int32} {b4 : Int32}, dr ≤ d → TY S b0 1 → TY S b1 6 → CT mX1_tryChoices d S [.ref b0, .ref b1, .int b2, .int b3, .int b4] x wSV (rc_X1_tryChoices b0 b1 b2 b3 b4 x)) : Go mX1_tryChoices d S wSV 67 [some (.ref p0), some (.ref p1), some (.int p2), some (.int p3), some (.int p4), some (.ref p5), none, none, none, none] [.int q0] x (j_X1_tryChoices_67 N rc_X1_tryChoices S p0 p1 p2 p3 p4 p5 q0 x) := by
  unfold j_X1_tryChoices_67
  refine go1 (M := mX1_tryChoices) (pc' := 69) (ls' := [some (.ref p0), some (.ref p1), some (.int p2), some (.int p3), some (.int p4), some (.ref p5), none, some (.int q0), none, none]) (r_istore (M := mX1_tryChoices) (ls := [some (.ref p0), some (.ref p1), some (.int p2), some (.int p3), some (.int p4), some (.ref p5), none, none, none, none]) (i := 7) (v := q0) (by decide) rfl dX1_tryChoices_67) ?_
  refine go1 (M := mX1_tryChoices) (pc' := 70) (r_iconst (M := mX1_tryChoices) (v := 0) (by decide) dX1_tryChoices_69) ?_
  refine go1 (M := mX1_tryChoices) (pc' := 72) (ls' := [some (.ref p0), some (.ref p1), some (.int p2), some (.int p3), some (.int p4), some (.ref p5), none, some (.int q0), some (.int 0), none]) (r_istore (M := mX1_tryChoices) (ls := [some (.ref p0), some (.ref p1), some (.int p2), some (.int p3), some (.int p4), some (.ref p5), none, some (.int q0), none, none]) (i := 8) (v := 0) (by decide) rfl dX1_tryChoices_70) ?_
  refine lp_X1_tryChoices_72_t (N := N) (dr := dr) rc_X1_tryChoices hW (by omega) p0 p1 p2 p3 p4 p5 q0 0 x g0 g1 g5  hr_X1_tryChoices
def j_X1_tryChoices_54 (N : Nat) (rc_X1_tryChoices : Nat → Nat → Int32 → Int32 → Int32 → DY → Option DY) (S : SH) (p0 : Nat) (p1 : Nat) (p2 : Int32) (p3 : Int32) (p4 : Int32) (p5 : Nat) (q0 : Int32) (x : DY) : Option DY :=
  (if q0 = 0 then j_X1_tryChoices_67 N rc_X1_tryChoices S p0 p1 p2 p3 p4 p5 6 x else j_X1_tryChoices_67 N rc_X1_tryChoices S p0 p1 p2 p3 p4 p5 0 x)
set_option maxHeartbeats 1000000 in
theorem j_X1_tryChoices_54_t {N d dr : Nat} (rc_X1_tryChoices : Nat → Nat → Int32 → Int32 → Int32 → DY → Option DY) {S : SH} (hW : WT S) (hd : dr + 6 ≤ d) (p0 : Nat) (p1 : Nat) (p2 : Int32) (p3 : Int32) (p4 : Int32) (p5 : Nat) (q0 : Int32) (x : DY) (g0 : TY S p0 1) (g1 : TY S p1 6) (g5 : TY S p5 6) (hr_X1_tryChoices : ∀ {d : Nat} {x : DY} {b0 : Nat} {b1 : Nat} {b2 : Int32} {b3 : Int32} {b4 : Int32}, dr ≤ d → TY S b0 1 → TY S b1 6 → CT mX1_tryChoices d S [.ref b0, .ref b1, .int b2, .int b3, .int b4] x wSV (rc_X1_tryChoices b0 b1 b2 b3 b4 x)) : Go mX1_tryChoices d S wSV 54 [some (.ref p0), some (.ref p1), some (.int p2), some (.int p3), some (.int p4), some (.ref p5), none, none, none, none] [.int q0] x (j_X1_tryChoices_54 N rc_X1_tryChoices S p0 p1 p2 p3 p4 p5 q0 x) := by
  unfold j_X1_tryChoices_54
  refine go1 (M := mX1_tryChoices) (pc' := 56) (ls' := [some (.ref p0), some (.ref p1), some (.int p2), some (.int p3), some (.int p4), some (.ref p5), some (.int q0), none, none, none]) (r_istore (M := mX1_tryChoices) (ls := [some (.ref p0), some (.ref p1), some (.int p2), some (.int p3), some (.int p4), some (.ref p5), none, none, none, none]) (i := 6) (v := q0) (by decide) rfl dX1_tryChoices_54) ?_
  refine go1 (M := mX1_tryChoices) (pc' := 58) (r_iload (M := mX1_tryChoices) (i := 6) rfl dX1_tryChoices_56) ?_
  refine go_br (M := mX1_tryChoices) (pt := 65) (pf := 61) (fun kt kf => r_if_eq (M := mX1_tryChoices) dX1_tryChoices_58 (by decide) kt kf) (fun hc11 => ?_) (fun hc11 => ?_)
  · refine go1 (M := mX1_tryChoices) (pc' := 67) (r_bipush (M := mX1_tryChoices) (v := 6) (by decide) dX1_tryChoices_65) ?_
    refine go_drop (ls' := [some (.ref p0), some (.ref p1), some (.int p2), some (.int p3), some (.int p4), some (.ref p5), none, none, none, none]) (And.intro rfl (And.intro rfl (And.intro rfl (And.intro rfl (And.intro rfl (And.intro rfl trivial)))))) ?_
    exact j_X1_tryChoices_67_t (N := N) (dr := dr) rc_X1_tryChoices hW (by omega) p0 p1 p2 p3 p4 p5 6 x g0 g1 g5  hr_X1_tryChoices
  · refine go1 (M := mX1_tryChoices) (pc' := 62) (r_iconst (M := mX1_tryChoices) (v := 0) (by decide) dX1_tryChoices_61) ?_
    refine go1 (M := mX1_tryChoices) (pc' := 67) (r_goto (M := mX1_tryChoices) dX1_tryChoices_62 (by decide)) ?_
    refine go_drop (ls' := [some (.ref p0), some (.ref p1), some (.int p2), some (.int p3), some (.int p4), some (.ref p5), none, none, none, none]) (And.intro rfl (And.intro rfl (And.intro rfl (And.intro rfl (And.intro rfl (And.intro rfl trivial)))))) ?_
    exact j_X1_tryChoices_67_t (N := N) (dr := dr) rc_X1_tryChoices hW (by omega) p0 p1 p2 p3 p4 p5 0 x g0 g1 g5  hr_X1_tryChoices
def j_X1_tryChoices_49 (N : Nat) (rc_X1_tryChoices : Nat → Nat → Int32 → Int32 → Int32 → DY → Option DY) (S : SH) (p0 : Nat) (p1 : Nat) (p2 : Int32) (p3 : Int32) (p4 : Int32) (p5 : Nat) (x : DY) : Option DY :=
  j_X1_tryChoices_54 N rc_X1_tryChoices S p0 p1 p2 p3 p4 p5 1 x
set_option maxHeartbeats 1000000 in
theorem j_X1_tryChoices_49_t {N d dr : Nat} (rc_X1_tryChoices : Nat → Nat → Int32 → Int32 → Int32 → DY → Option DY) {S : SH} (hW : WT S) (hd : dr + 6 ≤ d) (p0 : Nat) (p1 : Nat) (p2 : Int32) (p3 : Int32) (p4 : Int32) (p5 : Nat) (x : DY) (g0 : TY S p0 1) (g1 : TY S p1 6) (g5 : TY S p5 6) (hr_X1_tryChoices : ∀ {d : Nat} {x : DY} {b0 : Nat} {b1 : Nat} {b2 : Int32} {b3 : Int32} {b4 : Int32}, dr ≤ d → TY S b0 1 → TY S b1 6 → CT mX1_tryChoices d S [.ref b0, .ref b1, .int b2, .int b3, .int b4] x wSV (rc_X1_tryChoices b0 b1 b2 b3 b4 x)) : Go mX1_tryChoices d S wSV 49 [some (.ref p0), some (.ref p1), some (.int p2), some (.int p3), some (.int p4), some (.ref p5), none, none, none, none] [] x (j_X1_tryChoices_49 N rc_X1_tryChoices S p0 p1 p2 p3 p4 p5 x) := by
  unfold j_X1_tryChoices_49
  refine go1 (M := mX1_tryChoices) (pc' := 50) (r_iconst (M := mX1_tryChoices) (v := 1) (by decide) dX1_tryChoices_49) ?_
  refine go1 (M := mX1_tryChoices) (pc' := 54) (r_goto (M := mX1_tryChoices) dX1_tryChoices_50 (by decide)) ?_
  exact j_X1_tryChoices_54_t (N := N) (dr := dr) rc_X1_tryChoices hW (by omega) p0 p1 p2 p3 p4 p5 1 x g0 g1 g5  hr_X1_tryChoices
def f_X1_tryChoices (N : Nat) (rc_X1_tryChoices : Nat → Nat → Int32 → Int32 → Int32 → DY → Option DY) (S : SH) (a0 : Nat) (a1 : Nat) (a2 : Int32) (a3 : Int32) (a4 : Int32) (x : DY) : Option DY :=
  (if a2 < 0 then some x else (if a3 ≤ a2 then some x else (if a2 < 3 then ck S (pr S a0 0) a2 (rfk (S.2.2.2 (pr S a0 0) a2.toNatClampNeg) (fun b5 => ck S (pr S a1 2) 0 ((if (x.1 (pr S a1 2) (0 : Int32).toNatClampNeg) = (-1) then Option.bind (f_X4_areFull N S (pr S a1 3) x) (fun r31 => (if r31 = 0 then j_X1_tryChoices_54 N rc_X1_tryChoices S a0 a1 a2 a3 a4 b5 0 x else j_X1_tryChoices_49 N rc_X1_tryChoices S a0 a1 a2 a3 a4 b5 x)) else j_X1_tryChoices_49 N rc_X1_tryChoices S a0 a1 a2 a3 a4 b5 x)))) else some x)))
set_option maxHeartbeats 1000000 in
theorem t_X1_tryChoices {N d dr : Nat} (rc_X1_tryChoices : Nat → Nat → Int32 → Int32 → Int32 → DY → Option DY) {S : SH} (hW : WT S) {x : DY} {a0 : Nat} {a1 : Nat} {a2 : Int32} {a3 : Int32} {a4 : Int32} (hd : dr + 6 ≤ d) (h0 : TY S a0 1) (h1 : TY S a1 6) (hr_X1_tryChoices : ∀ {d : Nat} {x : DY} {b0 : Nat} {b1 : Nat} {b2 : Int32} {b3 : Int32} {b4 : Int32}, dr ≤ d → TY S b0 1 → TY S b1 6 → CT mX1_tryChoices d S [.ref b0, .ref b1, .int b2, .int b3, .int b4] x wSV (rc_X1_tryChoices b0 b1 b2 b3 b4 x)) : CT mX1_tryChoices d S [.ref a0, .ref a1, .int a2, .int a3, .int a4] x wSV (f_X1_tryChoices N rc_X1_tryChoices S a0 a1 a2 a3 a4 x) := by
  refine CT.of [some (.ref a0), some (.ref a1), some (.int a2), some (.int a3), some (.int a4), none, none, none, none, none] rfl (Nat.le_of_ble_eq_true rfl) (by decide +kernel) ?_
  unfold f_X1_tryChoices
  refine go1 (M := mX1_tryChoices) (pc' := 1) (r_iload_n (M := mX1_tryChoices) (i := 2) rfl dX1_tryChoices_0) ?_
  refine go_br (M := mX1_tryChoices) (pt := 14) (pf := 4) (fun kt kf => r_if_lt (M := mX1_tryChoices) dX1_tryChoices_1 (by decide) kt kf) (fun hc1 => ?_) (fun hc1 => ?_)
  · exact go_vret (M := mX1_tryChoices) rfl rfl dX1_tryChoices_14
  · refine go1 (M := mX1_tryChoices) (pc' := 5) (r_iload_n (M := mX1_tryChoices) (i := 2) rfl dX1_tryChoices_4) ?_
    refine go1 (M := mX1_tryChoices) (pc' := 6) (r_iload_n (M := mX1_tryChoices) (i := 3) rfl dX1_tryChoices_5) ?_
    refine go_br (M := mX1_tryChoices) (pt := 14) (pf := 9) (fun kt kf => r_icmp_ge (M := mX1_tryChoices) dX1_tryChoices_6 (by decide) kt kf) (fun hc2 => ?_) (fun hc2 => ?_)
    · exact go_vret (M := mX1_tryChoices) rfl rfl dX1_tryChoices_14
    · refine go1 (M := mX1_tryChoices) (pc' := 10) (r_iload_n (M := mX1_tryChoices) (i := 2) rfl dX1_tryChoices_9) ?_
      refine go1 (M := mX1_tryChoices) (pc' := 11) (r_iconst (M := mX1_tryChoices) (v := 3) (by decide) dX1_tryChoices_10) ?_
      refine go_br (M := mX1_tryChoices) (pt := 15) (pf := 14) (fun kt kf => r_icmp_lt (M := mX1_tryChoices) dX1_tryChoices_11 (by decide) kt kf) (fun hc3 => ?_) (fun hc3 => ?_)
      · refine go1 (M := mX1_tryChoices) (pc' := 16) (r_aload_n (M := mX1_tryChoices) (i := 0) rfl dX1_tryChoices_15) ?_
        refine go1 (M := mX1_tryChoices) (pc' := 19) (r_getR (M := mX1_tryChoices) fl_1_13 h0 rfl (wt_some hW h0 (by decide) (by decide) rfl) dX1_tryChoices_16) ?_
        have hT4 : TY S (pr S a0 0) 16 := wt hW h0 (by decide) (by decide) rfl (by decide)
        refine go1 (M := mX1_tryChoices) (pc' := 20) (r_iload_n (M := mX1_tryChoices) (i := 2) rfl dX1_tryChoices_19) ?_
        refine go_aald (M := mX1_tryChoices) (pc' := 21) rfl hT4 (by decide) dX1_tryChoices_20 (fun b5 hb6 => ?_)
        have hT7 : TY S b5 6 := hW.2.1 _ hT4 _ _ hb6
        refine go1 (M := mX1_tryChoices) (pc' := 23) (ls' := [some (.ref a0), some (.ref a1), some (.int a2), some (.int a3), some (.int a4), some (.ref b5), none, none, none, none]) (r_astore (M := mX1_tryChoices) (ls := [some (.ref a0), some (.ref a1), some (.int a2), some (.int a3), some (.int a4), none, none, none, none, none]) (i := 5) (v := b5) (by decide) rfl dX1_tryChoices_21) ?_
        refine go1 (M := mX1_tryChoices) (pc' := 25) (r_aload (M := mX1_tryChoices) (i := 5) rfl dX1_tryChoices_23) ?_
        refine go1 (M := mX1_tryChoices) (pc' := 29) (r_nonnull (M := mX1_tryChoices) dX1_tryChoices_25 (by decide)) ?_
        refine go1 (M := mX1_tryChoices) (pc' := 30) (r_aload_n (M := mX1_tryChoices) (i := 1) rfl dX1_tryChoices_29) ?_
        refine go1 (M := mX1_tryChoices) (pc' := 33) (r_getR (M := mX1_tryChoices) fl_1_44 h1 rfl (wt_some hW h1 (by decide) (by decide) rfl) dX1_tryChoices_30) ?_
        have hT8 : TY S (pr S a1 2) 14 := wt hW h1 (by decide) (by decide) rfl (by decide)
        refine go1 (M := mX1_tryChoices) (pc' := 34) (r_iconst (M := mX1_tryChoices) (v := 0) (by decide) dX1_tryChoices_33) ?_
        refine go_ck (fun hi9 => ?_)
        refine go1 (M := mX1_tryChoices) (pc' := 35) (r_iald (M := mX1_tryChoices) hT8 hi9 dX1_tryChoices_34) ?_
        refine go1 (M := mX1_tryChoices) (pc' := 36) (r_iconst (M := mX1_tryChoices) (v := (-1)) (by decide) dX1_tryChoices_35) ?_
        refine go_br (M := mX1_tryChoices) (pt := 39) (pf := 49) (fun kt kf => r_icmp_ne (M := mX1_tryChoices) dX1_tryChoices_36 (by decide) kf kt) (fun hc10 => ?_) (fun hc10 => ?_)
        · refine go1 (M := mX1_tryChoices) (pc' := 40) (r_aload_n (M := mX1_tryChoices) (i := 1) rfl dX1_tryChoices_39) ?_
          refine go1 (M := mX1_tryChoices) (pc' := 43) (r_getR (M := mX1_tryChoices) fl_1_47 h1 rfl (wt_some hW h1 (by decide) (by decide) rfl) dX1_tryChoices_40) ?_
          have hT30 : TY S (pr S a1 3) 4 := wt hW h1 (by decide) (by decide) rfl (by decide)
          refine go_V_PI (M := mX1_tryChoices) (pc' := 46) (st := []) (As := []) rfl ln_1_51 lb_X4_areFull (t_X4_areFull (N := N) hW (by omega) hT30) (by omega) hT30 (Nat.le_of_ble_eq_true rfl) rfl dX1_tryChoices_43 (fun r31 => ?_)
          refine go_br (M := mX1_tryChoices) (pt := 53) (pf := 49) (fun kt kf => r_if_eq (M := mX1_tryChoices) dX1_tryChoices_46 (by decide) kt kf) (fun hc32 => ?_) (fun hc32 => ?_)
          · refine go1 (M := mX1_tryChoices) (pc' := 54) (r_iconst (M := mX1_tryChoices) (v := 0) (by decide) dX1_tryChoices_53) ?_
            exact j_X1_tryChoices_54_t (N := N) (dr := dr) rc_X1_tryChoices hW (by omega) a0 a1 a2 a3 a4 b5 0 x h0 h1 hT7  hr_X1_tryChoices
          · exact j_X1_tryChoices_49_t (N := N) (dr := dr) rc_X1_tryChoices hW (by omega) a0 a1 a2 a3 a4 b5 x h0 h1 hT7  hr_X1_tryChoices
        · exact j_X1_tryChoices_49_t (N := N) (dr := dr) rc_X1_tryChoices hW (by omega) a0 a1 a2 a3 a4 b5 x h0 h1 hT7  hr_X1_tryChoices
      · exact go_vret (M := mX1_tryChoices) rfl rfl dX1_tryChoices_14
def fK_X1_tryChoices (N : Nat) (S : SH) : Nat → (Nat → Nat → Int32 → Int32 → Int32 → DY → Option DY)
  | 0 => fun _ _ _ _ _ _ => none
  | n + 1 => f_X1_tryChoices N (fK_X1_tryChoices N S n) S
def fR_X1_tryChoices (N : Nat) (S : SH) (n : Nat) : Nat → Nat → Int32 → Int32 → Int32 → DY → Option DY := fK_X1_tryChoices N S n
theorem tK_X1_tryChoices {N : Nat} {S : SH} (hW : WT S) : ∀ n : Nat, (∀ {d : Nat} {x : DY} {b0 : Nat} {b1 : Nat} {b2 : Int32} {b3 : Int32} {b4 : Int32}, n * 6 ≤ d → TY S b0 1 → TY S b1 6 → CT mX1_tryChoices d S [.ref b0, .ref b1, .int b2, .int b3, .int b4] x wSV (fR_X1_tryChoices N S n b0 b1 b2 b3 b4 x)) := by
  intro n
  induction n with
  | zero =>
    · intro d x b0 b1 b2 b3 b4 hd h0 h1
      exact fun _ ha => by cases ha
  | succ n ih =>
    have hn : (n + 1) * 6 = n * 6 + 6 := Nat.succ_mul n 6
    · intro d x b0 b1 b2 b3 b4 hd h0 h1
      exact t_X1_tryChoices (N := N) (dr := n * 6) (fK_X1_tryChoices N S n) hW (by omega) h0 h1 @ih

theorem tR_X1_tryChoices {N : Nat} {S : SH} (hW : WT S) (n : Nat) : ∀ {d : Nat} {x : DY} {b0 : Nat} {b1 : Nat} {b2 : Int32} {b3 : Int32} {b4 : Int32}, n * 6 ≤ d → TY S b0 1 → TY S b1 6 → CT mX1_tryChoices d S [.ref b0, .ref b1, .int b2, .int b3, .int b4] x wSV (fR_X1_tryChoices N S n b0 b1 b2 b3 b4 x) := tK_X1_tryChoices (N := N) hW n
