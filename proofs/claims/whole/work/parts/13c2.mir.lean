/-! MIRRORS, by program out of the class's bytecode: X1_look .. X5_readTerm -/
def f_X1_look (N : Nat) (S : SH) (a0 : Nat) (a1 : Nat) (a2 : Int32) (a3 : Int32) (x : DY) : Option DY :=
  bl (U2 x a0 3 (-4611686018427387904)) (fun x1 => bl (U2 x1 a1 10 0) (fun x2 => Option.bind (fR_X1_tryChoices N S 4 a0 a1 0 a2 a3 x2) (fun r3 => some r3)))
set_option maxHeartbeats 1000000 in
theorem t_X1_look {N d : Nat} {S : SH} (hW : WT S) {x : DY} {a0 : Nat} {a1 : Nat} {a2 : Int32} {a3 : Int32} (hd : 25 ≤ d) (h0 : TY S a0 1) (h1 : TY S a1 6) : CT mX1_look d S [.ref a0, .ref a1, .int a2, .int a3] x wSV (f_X1_look N S a0 a1 a2 a3 x) := by
  refine CT.of [some (.ref a0), some (.ref a1), some (.int a2), some (.int a3)] rfl (Nat.le_of_ble_eq_true rfl) (by decide +kernel) ?_
  unfold f_X1_look
  refine go1 (M := mX1_look) (pc' := 1) (r_aload_n (M := mX1_look) (i := 0) rfl dX1_look_0) ?_
  refine go1 (M := mX1_look) (pc' := 4) (r_ldc2 (M := mX1_look) (v := (-4611686018427387904)) (tb2 119 (by decide +kernel) rfl) dX1_look_1) ?_
  refine go1 (M := mX1_look) (pc' := 7) (r_putL (M := mX1_look) fl_1_26 h0 rfl rfl dX1_look_4) ?_
  refine go_blx (fun x1 => ?_)
  refine go1 (M := mX1_look) (pc' := 8) (r_aload_n (M := mX1_look) (i := 1) rfl dX1_look_7) ?_
  refine go1 (M := mX1_look) (pc' := 9) (r_lconst (M := mX1_look) (v := 0) (by decide) dX1_look_8) ?_
  refine go1 (M := mX1_look) (pc' := 12) (r_putL (M := mX1_look) fl_1_37 h1 rfl rfl dX1_look_9) ?_
  refine go_blx (fun x2 => ?_)
  refine go1 (M := mX1_look) (pc' := 13) (r_aload_n (M := mX1_look) (i := 0) rfl dX1_look_12) ?_
  refine go1 (M := mX1_look) (pc' := 14) (r_aload_n (M := mX1_look) (i := 1) rfl dX1_look_13) ?_
  refine go1 (M := mX1_look) (pc' := 15) (r_iconst (M := mX1_look) (v := 0) (by decide) dX1_look_14) ?_
  refine go1 (M := mX1_look) (pc' := 16) (r_iload_n (M := mX1_look) (i := 2) rfl dX1_look_15) ?_
  refine go1 (M := mX1_look) (pc' := 17) (r_iload_n (M := mX1_look) (i := 3) rfl dX1_look_16) ?_
  refine go_S_SV (M := mX1_look) (pc' := 20) (st := []) (As := [.ref a0, .ref a1, .int 0, .int a2, .int a3]) rfl ln_1_40 lb_X1_tryChoices (tR_X1_tryChoices (N := N) hW 4 (by omega) h0 h1) (by omega) (Nat.le_of_ble_eq_true rfl) rfl dX1_look_17 (fun r3 => ?_)
  exact go_vret (M := mX1_look) rfl rfl dX1_look_20
def f_X2_isQueueFull (N : Nat) (S : SH) (a0 : Nat) (x : DY) : Option Int32 :=
  (if (x.1 a0 2) < 0 then some 1 else (if (x.1 a0 2) < (nI (S.2.2.1 (pr S a0 1))) then some 0 else some 1))
set_option maxHeartbeats 1000000 in
theorem t_X2_isQueueFull {N d : Nat} {S : SH} (hW : WT S) {x : DY} {a0 : Nat} (hd : 1 ≤ d) (h0 : TY S a0 2) : CT mX2_isQueueFull d S [.ref a0] x (wPI x) (f_X2_isQueueFull N S a0 x) := by
  refine CT.of [some (.ref a0)] rfl (Nat.le_of_ble_eq_true rfl) (by decide +kernel) ?_
  unfold f_X2_isQueueFull
  refine go1 (M := mX2_isQueueFull) (pc' := 1) (r_aload_n (M := mX2_isQueueFull) (i := 0) rfl dX2_isQueueFull_0) ?_
  refine go1 (M := mX2_isQueueFull) (pc' := 4) (r_getI (M := mX2_isQueueFull) fl_2_15 h0 rfl dX2_isQueueFull_1) ?_
  refine go_br (M := mX2_isQueueFull) (pt := 19) (pf := 7) (fun kt kf => r_if_lt (M := mX2_isQueueFull) dX2_isQueueFull_4 (by decide) kt kf) (fun hc1 => ?_) (fun hc1 => ?_)
  · refine go1 (M := mX2_isQueueFull) (pc' := 20) (r_iconst (M := mX2_isQueueFull) (v := 1) (by decide) dX2_isQueueFull_19) ?_
    refine go1 (M := mX2_isQueueFull) (pc' := 24) (r_goto (M := mX2_isQueueFull) dX2_isQueueFull_20 (by decide)) ?_
    exact go_zret (M := mX2_isQueueFull) rfl rfl rfl dX2_isQueueFull_24
  · refine go1 (M := mX2_isQueueFull) (pc' := 8) (r_aload_n (M := mX2_isQueueFull) (i := 0) rfl dX2_isQueueFull_7) ?_
    refine go1 (M := mX2_isQueueFull) (pc' := 11) (r_getI (M := mX2_isQueueFull) fl_2_15 h0 rfl dX2_isQueueFull_8) ?_
    refine go1 (M := mX2_isQueueFull) (pc' := 12) (r_aload_n (M := mX2_isQueueFull) (i := 0) rfl dX2_isQueueFull_11) ?_
    refine go1 (M := mX2_isQueueFull) (pc' := 15) (r_getR (M := mX2_isQueueFull) fl_2_9 h0 rfl (wt_some hW h0 (by decide) (by decide) rfl) dX2_isQueueFull_12) ?_
    have hT2 : TY S (pr S a0 1) 14 := wt hW h0 (by decide) (by decide) rfl (by decide)
    refine go1 (M := mX2_isQueueFull) (pc' := 16) (r_alen (M := mX2_isQueueFull) hT2 (by decide) (by decide) dX2_isQueueFull_15) ?_
    refine go_br (M := mX2_isQueueFull) (pt := 23) (pf := 19) (fun kt kf => r_icmp_lt (M := mX2_isQueueFull) dX2_isQueueFull_16 (by decide) kt kf) (fun hc3 => ?_) (fun hc3 => ?_)
    · refine go1 (M := mX2_isQueueFull) (pc' := 24) (r_iconst (M := mX2_isQueueFull) (v := 0) (by decide) dX2_isQueueFull_23) ?_
      exact go_zret (M := mX2_isQueueFull) rfl rfl rfl dX2_isQueueFull_24
    · refine go1 (M := mX2_isQueueFull) (pc' := 20) (r_iconst (M := mX2_isQueueFull) (v := 1) (by decide) dX2_isQueueFull_19) ?_
      refine go1 (M := mX2_isQueueFull) (pc' := 24) (r_goto (M := mX2_isQueueFull) dX2_isQueueFull_20 (by decide)) ?_
      exact go_zret (M := mX2_isQueueFull) rfl rfl rfl dX2_isQueueFull_24
def f_X2_join (N : Nat) (S : SH) (a0 : Nat) (a1 : Int32) (x : DY) : Option DY :=
  Option.bind (f_X2_isQueueFull N S a0 x) (fun r1 => (if r1 = 0 then ck S (pr S a0 1) (x.1 a0 2) (bl (U1 x (pr S a0 1) (x.1 a0 2).toNatClampNeg a1) (fun x5 => bl (U1 x5 a0 2 ((x5.1 a0 2) + 1)) (fun x6 => some x6))) else some x))
set_option maxHeartbeats 1000000 in
theorem t_X2_join {N d : Nat} {S : SH} (hW : WT S) {x : DY} {a0 : Nat} {a1 : Int32} (hd : 2 ≤ d) (h0 : TY S a0 2) : CT mX2_join d S [.ref a0, .int a1] x wSV (f_X2_join N S a0 a1 x) := by
  refine CT.of [some (.ref a0), some (.int a1)] rfl (Nat.le_of_ble_eq_true rfl) (by decide +kernel) ?_
  unfold f_X2_join
  refine go1 (M := mX2_join) (pc' := 1) (r_aload_n (M := mX2_join) (i := 0) rfl dX2_join_0) ?_
  refine go_V_PI (M := mX2_join) (pc' := 4) (st := []) (As := []) rfl ln_2_34 lb_X2_isQueueFull (t_X2_isQueueFull (N := N) hW (by omega) h0) (by omega) h0 (Nat.le_of_ble_eq_true rfl) rfl dX2_join_1 (fun r1 => ?_)
  refine go_br (M := mX2_join) (pt := 7) (pf := 27) (fun kt kf => r_if_ne (M := mX2_join) dX2_join_4 (by decide) kf kt) (fun hc2 => ?_) (fun hc2 => ?_)
  · refine go1 (M := mX2_join) (pc' := 8) (r_aload_n (M := mX2_join) (i := 0) rfl dX2_join_7) ?_
    refine go1 (M := mX2_join) (pc' := 11) (r_getR (M := mX2_join) fl_2_9 h0 rfl (wt_some hW h0 (by decide) (by decide) rfl) dX2_join_8) ?_
    have hT3 : TY S (pr S a0 1) 14 := wt hW h0 (by decide) (by decide) rfl (by decide)
    refine go1 (M := mX2_join) (pc' := 12) (r_aload_n (M := mX2_join) (i := 0) rfl dX2_join_11) ?_
    refine go1 (M := mX2_join) (pc' := 15) (r_getI (M := mX2_join) fl_2_15 h0 rfl dX2_join_12) ?_
    refine go1 (M := mX2_join) (pc' := 16) (r_iload_n (M := mX2_join) (i := 1) rfl dX2_join_15) ?_
    refine go_ck (fun hi4 => ?_)
    refine go1 (M := mX2_join) (pc' := 17) (r_iast (M := mX2_join) hT3 hi4 dX2_join_16) ?_
    refine go_blx (fun x5 => ?_)
    refine go1 (M := mX2_join) (pc' := 18) (r_aload_n (M := mX2_join) (i := 0) rfl dX2_join_17) ?_
    refine go1 (M := mX2_join) (pc' := 19) (r_dup (M := mX2_join) rfl dX2_join_18) ?_
    refine go1 (M := mX2_join) (pc' := 22) (r_getI (M := mX2_join) fl_2_15 h0 rfl dX2_join_19) ?_
    refine go1 (M := mX2_join) (pc' := 23) (r_iconst (M := mX2_join) (v := 1) (by decide) dX2_join_22) ?_
    refine go1 (M := mX2_join) (pc' := 24) (r_iadd (M := mX2_join) dX2_join_23) ?_
    refine go1 (M := mX2_join) (pc' := 27) (r_putI (M := mX2_join) fl_2_15 h0 rfl rfl dX2_join_24) ?_
    refine go_blx (fun x6 => ?_)
    exact go_vret (M := mX2_join) rfl rfl dX2_join_27
  · exact go_vret (M := mX2_join) rfl rfl dX2_join_27
def j_X2_trays_29 (N : Nat) (S : SH) (bk4 : Int32 → Int32 → Option Int32) (p0 : Nat) (p2 : Int32) (q0 : Int32) (q1 : Int32) (x : DY) : Option Int32 :=
  bk4 (q1 + q0) (p2 + 1)
set_option maxHeartbeats 1000000 in
theorem j_X2_trays_29_t {N d : Nat} {S : SH} (hW : WT S) (hd : 1 ≤ d) (bk4 : Int32 → Int32 → Option Int32) (p0 : Nat) (p2 : Int32) (q0 : Int32) (q1 : Int32) (x : DY) (g0 : TY S p0 2) (hbk4 : ∀ (v1 : Int32) (v2 : Int32), Go mX2_trays d S (wPI x) 4 [some (.ref p0), some (.int v1), some (.int v2)] [] x (bk4 v1 v2)) : Go mX2_trays d S (wPI x) 29 [some (.ref p0), none, some (.int p2)] [.int q0, .int q1] x (j_X2_trays_29 N S bk4 p0 p2 q0 q1 x) := by
  unfold j_X2_trays_29
  refine go1 (M := mX2_trays) (pc' := 30) (r_iadd (M := mX2_trays) dX2_trays_29) ?_
  refine go1 (M := mX2_trays) (pc' := 31) (ls' := [some (.ref p0), some (.int (q1 + q0)), some (.int p2)]) (r_istore_n (M := mX2_trays) (ls := [some (.ref p0), none, some (.int p2)]) (i := 1) (v := (q1 + q0)) (by decide) rfl dX2_trays_30) ?_
  refine go1 (M := mX2_trays) (pc' := 34) (ls' := [some (.ref p0), some (.int (q1 + q0)), some (.int (p2 + 1))]) (r_iinc (M := mX2_trays) (ls := [some (.ref p0), some (.int (q1 + q0)), some (.int p2)]) (i := 2) (v := p2) (c' := 1) (by decide) rfl (by decide) rfl dX2_trays_31) ?_
  refine go1 (M := mX2_trays) (pc' := 4) (r_goto (M := mX2_trays) dX2_trays_34 (by decide)) ?_
  exact hbk4 (q1 + q0) (p2 + 1)
def lp_X2_trays_4_b (N : Nat) (S : SH) (bk4 : Int32 → Int32 → Option Int32) (p0 : Nat) (p1 : Int32) (p2 : Int32) (x : DY) : Option Int32 :=
  (if (nI (S.2.2.1 (pr S p0 0))) ≤ p2 then some p1 else ck S (pr S p0 0) p2 ((if (x.1 (pr S p0 0) p2.toNatClampNeg) = (-1) then j_X2_trays_29 N S bk4 p0 p2 0 p1 x else j_X2_trays_29 N S bk4 p0 p2 1 p1 x)))
set_option maxHeartbeats 1000000 in
theorem lp_X2_trays_4_b_t {N d : Nat} {S : SH} (hW : WT S) (hd : 1 ≤ d) (bk4 : Int32 → Int32 → Option Int32) (p0 : Nat) (p1 : Int32) (p2 : Int32) (x : DY) (g0 : TY S p0 2) (hbk4 : ∀ (v1 : Int32) (v2 : Int32), Go mX2_trays d S (wPI x) 4 [some (.ref p0), some (.int v1), some (.int v2)] [] x (bk4 v1 v2)) : Go mX2_trays d S (wPI x) 4 [some (.ref p0), some (.int p1), some (.int p2)] [] x (lp_X2_trays_4_b N S bk4 p0 p1 p2 x) := by
  unfold lp_X2_trays_4_b
  refine go1 (M := mX2_trays) (pc' := 5) (r_iload_n (M := mX2_trays) (i := 2) rfl dX2_trays_4) ?_
  refine go1 (M := mX2_trays) (pc' := 6) (r_aload_n (M := mX2_trays) (i := 0) rfl dX2_trays_5) ?_
  refine go1 (M := mX2_trays) (pc' := 9) (r_getR (M := mX2_trays) fl_2_25 g0 rfl (wt_some hW g0 (by decide) (by decide) rfl) dX2_trays_6) ?_
  have hT2 : TY S (pr S p0 0) 14 := wt hW g0 (by decide) (by decide) rfl (by decide)
  refine go1 (M := mX2_trays) (pc' := 10) (r_alen (M := mX2_trays) hT2 (by decide) (by decide) dX2_trays_9) ?_
  refine go_br (M := mX2_trays) (pt := 37) (pf := 13) (fun kt kf => r_icmp_ge (M := mX2_trays) dX2_trays_10 (by decide) kt kf) (fun hc3 => ?_) (fun hc3 => ?_)
  · refine go1 (M := mX2_trays) (pc' := 38) (r_iload_n (M := mX2_trays) (i := 1) rfl dX2_trays_37) ?_
    exact go_iret (M := mX2_trays) rfl rfl dX2_trays_38
  · refine go1 (M := mX2_trays) (pc' := 14) (r_iload_n (M := mX2_trays) (i := 1) rfl dX2_trays_13) ?_
    refine go1 (M := mX2_trays) (pc' := 15) (r_aload_n (M := mX2_trays) (i := 0) rfl dX2_trays_14) ?_
    refine go1 (M := mX2_trays) (pc' := 18) (r_getR (M := mX2_trays) fl_2_25 g0 rfl (wt_some hW g0 (by decide) (by decide) rfl) dX2_trays_15) ?_
    refine go1 (M := mX2_trays) (pc' := 19) (r_iload_n (M := mX2_trays) (i := 2) rfl dX2_trays_18) ?_
    refine go_ck (fun hi4 => ?_)
    refine go1 (M := mX2_trays) (pc' := 20) (r_iald (M := mX2_trays) hT2 hi4 dX2_trays_19) ?_
    refine go1 (M := mX2_trays) (pc' := 21) (r_iconst (M := mX2_trays) (v := (-1)) (by decide) dX2_trays_20) ?_
    refine go_br (M := mX2_trays) (pt := 24) (pf := 28) (fun kt kf => r_icmp_ne (M := mX2_trays) dX2_trays_21 (by decide) kf kt) (fun hc5 => ?_) (fun hc5 => ?_)
    · refine go1 (M := mX2_trays) (pc' := 25) (r_iconst (M := mX2_trays) (v := 0) (by decide) dX2_trays_24) ?_
      refine go1 (M := mX2_trays) (pc' := 29) (r_goto (M := mX2_trays) dX2_trays_25 (by decide)) ?_
      refine go_drop (ls' := [some (.ref p0), none, some (.int p2)]) (And.intro rfl (And.intro rfl trivial)) ?_
      exact j_X2_trays_29_t (N := N) hW (by omega) bk4 p0 p2 0 p1 x g0 hbk4
    · refine go1 (M := mX2_trays) (pc' := 29) (r_iconst (M := mX2_trays) (v := 1) (by decide) dX2_trays_28) ?_
      refine go_drop (ls' := [some (.ref p0), none, some (.int p2)]) (And.intro rfl (And.intro rfl trivial)) ?_
      exact j_X2_trays_29_t (N := N) hW (by omega) bk4 p0 p2 1 p1 x g0 hbk4
def lp_X2_trays_4 (N : Nat) (S : SH) (p0 : Nat) (p1 : Int32) (p2 : Int32) (x : DY) : Option Int32 :=
  itr (fun back (v : Int32 × Int32) => lp_X2_trays_4_b N S (fun p1 p2 => back (p1, p2)) p0 v.1 v.2 x) N (p1, p2)
theorem lp_X2_trays_4_t {N d : Nat} {S : SH} (hW : WT S) (hd : 1 ≤ d) (p0 : Nat) (p1 : Int32) (p2 : Int32) (x : DY) (g0 : TY S p0 2) : Go mX2_trays d S (wPI x) 4 [some (.ref p0), some (.int p1), some (.int p2)] [] x (lp_X2_trays_4 N S p0 p1 p2 x) := by
  unfold lp_X2_trays_4
  exact go_itr (L := fun (v : Int32 × Int32) => [some (.ref p0), some (.int v.1), some (.int v.2)]) (X := fun (v : Int32 × Int32) => x) (fun back hB v => lp_X2_trays_4_b_t (N := N) hW hd (fun p1 p2 => back (p1, p2)) p0 v.1 v.2 x g0 (fun p1 p2 => hB (p1, p2)) ) N (p1, p2)
def f_X2_trays (N : Nat) (S : SH) (a0 : Nat) (x : DY) : Option Int32 :=
  lp_X2_trays_4 N S a0 0 0 x
set_option maxHeartbeats 1000000 in
theorem t_X2_trays {N d : Nat} {S : SH} (hW : WT S) {x : DY} {a0 : Nat} (hd : 1 ≤ d) (h0 : TY S a0 2) : CT mX2_trays d S [.ref a0] x (wPI x) (f_X2_trays N S a0 x) := by
  refine CT.of [some (.ref a0), none, none] rfl (Nat.le_of_ble_eq_true rfl) (by decide +kernel) ?_
  unfold f_X2_trays
  refine go1 (M := mX2_trays) (pc' := 1) (r_iconst (M := mX2_trays) (v := 0) (by decide) dX2_trays_0) ?_
  refine go1 (M := mX2_trays) (pc' := 2) (ls' := [some (.ref a0), some (.int 0), none]) (r_istore_n (M := mX2_trays) (ls := [some (.ref a0), none, none]) (i := 1) (v := 0) (by decide) rfl dX2_trays_1) ?_
  refine go1 (M := mX2_trays) (pc' := 3) (r_iconst (M := mX2_trays) (v := 0) (by decide) dX2_trays_2) ?_
  refine go1 (M := mX2_trays) (pc' := 4) (ls' := [some (.ref a0), some (.int 0), some (.int 0)]) (r_istore_n (M := mX2_trays) (ls := [some (.ref a0), some (.int 0), none]) (i := 2) (v := 0) (by decide) rfl dX2_trays_3) ?_
  refine lp_X2_trays_4_t (N := N) hW (by omega) a0 0 0 x h0
def j_X4_madeOf_28 (N : Nat) (S : SH) (bk4 : Int32 → Int32 → Option Int32) (p0 : Nat) (p1 : Int32) (p3 : Int32) (q0 : Int32) (q1 : Int32) (x : DY) : Option Int32 :=
  bk4 (q1 + q0) (p3 + 1)
set_option maxHeartbeats 1000000 in
theorem j_X4_madeOf_28_t {N d : Nat} {S : SH} (hW : WT S) (hd : 1 ≤ d) (bk4 : Int32 → Int32 → Option Int32) (p0 : Nat) (p1 : Int32) (p3 : Int32) (q0 : Int32) (q1 : Int32) (x : DY) (g0 : TY S p0 4) (hbk4 : ∀ (v2 : Int32) (v3 : Int32), Go mX4_madeOf d S (wPI x) 4 [some (.ref p0), some (.int p1), some (.int v2), some (.int v3)] [] x (bk4 v2 v3)) : Go mX4_madeOf d S (wPI x) 28 [some (.ref p0), some (.int p1), none, some (.int p3)] [.int q0, .int q1] x (j_X4_madeOf_28 N S bk4 p0 p1 p3 q0 q1 x) := by
  unfold j_X4_madeOf_28
  refine go1 (M := mX4_madeOf) (pc' := 29) (r_iadd (M := mX4_madeOf) dX4_madeOf_28) ?_
  refine go1 (M := mX4_madeOf) (pc' := 30) (ls' := [some (.ref p0), some (.int p1), some (.int (q1 + q0)), some (.int p3)]) (r_istore_n (M := mX4_madeOf) (ls := [some (.ref p0), some (.int p1), none, some (.int p3)]) (i := 2) (v := (q1 + q0)) (by decide) rfl dX4_madeOf_29) ?_
  refine go1 (M := mX4_madeOf) (pc' := 33) (ls' := [some (.ref p0), some (.int p1), some (.int (q1 + q0)), some (.int (p3 + 1))]) (r_iinc (M := mX4_madeOf) (ls := [some (.ref p0), some (.int p1), some (.int (q1 + q0)), some (.int p3)]) (i := 3) (v := p3) (c' := 1) (by decide) rfl (by decide) rfl dX4_madeOf_30) ?_
  refine go1 (M := mX4_madeOf) (pc' := 4) (r_goto (M := mX4_madeOf) dX4_madeOf_33 (by decide)) ?_
  exact hbk4 (q1 + q0) (p3 + 1)
def lp_X4_madeOf_4_b (N : Nat) (S : SH) (bk4 : Int32 → Int32 → Option Int32) (p0 : Nat) (p1 : Int32) (p2 : Int32) (p3 : Int32) (x : DY) : Option Int32 :=
  (if (x.1 p0 5) ≤ p3 then some p2 else ck S (pr S p0 1) p3 ((if (x.1 (pr S p0 1) p3.toNatClampNeg) = p1 then j_X4_madeOf_28 N S bk4 p0 p1 p3 1 p2 x else j_X4_madeOf_28 N S bk4 p0 p1 p3 0 p2 x)))
set_option maxHeartbeats 1000000 in
theorem lp_X4_madeOf_4_b_t {N d : Nat} {S : SH} (hW : WT S) (hd : 1 ≤ d) (bk4 : Int32 → Int32 → Option Int32) (p0 : Nat) (p1 : Int32) (p2 : Int32) (p3 : Int32) (x : DY) (g0 : TY S p0 4) (hbk4 : ∀ (v2 : Int32) (v3 : Int32), Go mX4_madeOf d S (wPI x) 4 [some (.ref p0), some (.int p1), some (.int v2), some (.int v3)] [] x (bk4 v2 v3)) : Go mX4_madeOf d S (wPI x) 4 [some (.ref p0), some (.int p1), some (.int p2), some (.int p3)] [] x (lp_X4_madeOf_4_b N S bk4 p0 p1 p2 p3 x) := by
  unfold lp_X4_madeOf_4_b
  refine go1 (M := mX4_madeOf) (pc' := 5) (r_iload_n (M := mX4_madeOf) (i := 3) rfl dX4_madeOf_4) ?_
  refine go1 (M := mX4_madeOf) (pc' := 6) (r_aload_n (M := mX4_madeOf) (i := 0) rfl dX4_madeOf_5) ?_
  refine go1 (M := mX4_madeOf) (pc' := 9) (r_getI (M := mX4_madeOf) fl_4_27 g0 rfl dX4_madeOf_6) ?_
  refine go_br (M := mX4_madeOf) (pt := 36) (pf := 12) (fun kt kf => r_icmp_ge (M := mX4_madeOf) dX4_madeOf_9 (by decide) kt kf) (fun hc2 => ?_) (fun hc2 => ?_)
  · refine go1 (M := mX4_madeOf) (pc' := 37) (r_iload_n (M := mX4_madeOf) (i := 2) rfl dX4_madeOf_36) ?_
    exact go_iret (M := mX4_madeOf) rfl rfl dX4_madeOf_37
  · refine go1 (M := mX4_madeOf) (pc' := 13) (r_iload_n (M := mX4_madeOf) (i := 2) rfl dX4_madeOf_12) ?_
    refine go1 (M := mX4_madeOf) (pc' := 14) (r_aload_n (M := mX4_madeOf) (i := 0) rfl dX4_madeOf_13) ?_
    refine go1 (M := mX4_madeOf) (pc' := 17) (r_getR (M := mX4_madeOf) fl_4_15 g0 rfl (wt_some hW g0 (by decide) (by decide) rfl) dX4_madeOf_14) ?_
    have hT3 : TY S (pr S p0 1) 14 := wt hW g0 (by decide) (by decide) rfl (by decide)
    refine go1 (M := mX4_madeOf) (pc' := 18) (r_iload_n (M := mX4_madeOf) (i := 3) rfl dX4_madeOf_17) ?_
    refine go_ck (fun hi4 => ?_)
    refine go1 (M := mX4_madeOf) (pc' := 19) (r_iald (M := mX4_madeOf) hT3 hi4 dX4_madeOf_18) ?_
    refine go1 (M := mX4_madeOf) (pc' := 20) (r_iload_n (M := mX4_madeOf) (i := 1) rfl dX4_madeOf_19) ?_
    refine go_br (M := mX4_madeOf) (pt := 23) (pf := 27) (fun kt kf => r_icmp_ne (M := mX4_madeOf) dX4_madeOf_20 (by decide) kf kt) (fun hc5 => ?_) (fun hc5 => ?_)
    · refine go1 (M := mX4_madeOf) (pc' := 24) (r_iconst (M := mX4_madeOf) (v := 1) (by decide) dX4_madeOf_23) ?_
      refine go1 (M := mX4_madeOf) (pc' := 28) (r_goto (M := mX4_madeOf) dX4_madeOf_24 (by decide)) ?_
      refine go_drop (ls' := [some (.ref p0), some (.int p1), none, some (.int p3)]) (And.intro rfl (And.intro rfl (And.intro rfl trivial))) ?_
      exact j_X4_madeOf_28_t (N := N) hW (by omega) bk4 p0 p1 p3 1 p2 x g0 hbk4
    · refine go1 (M := mX4_madeOf) (pc' := 28) (r_iconst (M := mX4_madeOf) (v := 0) (by decide) dX4_madeOf_27) ?_
      refine go_drop (ls' := [some (.ref p0), some (.int p1), none, some (.int p3)]) (And.intro rfl (And.intro rfl (And.intro rfl trivial))) ?_
      exact j_X4_madeOf_28_t (N := N) hW (by omega) bk4 p0 p1 p3 0 p2 x g0 hbk4
def lp_X4_madeOf_4 (N : Nat) (S : SH) (p0 : Nat) (p1 : Int32) (p2 : Int32) (p3 : Int32) (x : DY) : Option Int32 :=
  itr (fun back (v : Int32 × Int32) => lp_X4_madeOf_4_b N S (fun p2 p3 => back (p2, p3)) p0 p1 v.1 v.2 x) N (p2, p3)
theorem lp_X4_madeOf_4_t {N d : Nat} {S : SH} (hW : WT S) (hd : 1 ≤ d) (p0 : Nat) (p1 : Int32) (p2 : Int32) (p3 : Int32) (x : DY) (g0 : TY S p0 4) : Go mX4_madeOf d S (wPI x) 4 [some (.ref p0), some (.int p1), some (.int p2), some (.int p3)] [] x (lp_X4_madeOf_4 N S p0 p1 p2 p3 x) := by
  unfold lp_X4_madeOf_4
  exact go_itr (L := fun (v : Int32 × Int32) => [some (.ref p0), some (.int p1), some (.int v.1), some (.int v.2)]) (X := fun (v : Int32 × Int32) => x) (fun back hB v => lp_X4_madeOf_4_b_t (N := N) hW hd (fun p2 p3 => back (p2, p3)) p0 p1 v.1 v.2 x g0 (fun p2 p3 => hB (p2, p3)) ) N (p2, p3)
def f_X4_madeOf (N : Nat) (S : SH) (a0 : Nat) (a1 : Int32) (x : DY) : Option Int32 :=
  lp_X4_madeOf_4 N S a0 a1 0 0 x
set_option maxHeartbeats 1000000 in
theorem t_X4_madeOf {N d : Nat} {S : SH} (hW : WT S) {x : DY} {a0 : Nat} {a1 : Int32} (hd : 1 ≤ d) (h0 : TY S a0 4) : CT mX4_madeOf d S [.ref a0, .int a1] x (wPI x) (f_X4_madeOf N S a0 a1 x) := by
  refine CT.of [some (.ref a0), some (.int a1), none, none] rfl (Nat.le_of_ble_eq_true rfl) (by decide +kernel) ?_
  unfold f_X4_madeOf
  refine go1 (M := mX4_madeOf) (pc' := 1) (r_iconst (M := mX4_madeOf) (v := 0) (by decide) dX4_madeOf_0) ?_
  refine go1 (M := mX4_madeOf) (pc' := 2) (ls' := [some (.ref a0), some (.int a1), some (.int 0), none]) (r_istore_n (M := mX4_madeOf) (ls := [some (.ref a0), some (.int a1), none, none]) (i := 2) (v := 0) (by decide) rfl dX4_madeOf_1) ?_
  refine go1 (M := mX4_madeOf) (pc' := 3) (r_iconst (M := mX4_madeOf) (v := 0) (by decide) dX4_madeOf_2) ?_
  refine go1 (M := mX4_madeOf) (pc' := 4) (ls' := [some (.ref a0), some (.int a1), some (.int 0), some (.int 0)]) (r_istore_n (M := mX4_madeOf) (ls := [some (.ref a0), some (.int a1), some (.int 0), none]) (i := 3) (v := 0) (by decide) rfl dX4_madeOf_3) ?_
  refine lp_X4_madeOf_4_t (N := N) hW (by omega) a0 a1 0 0 x h0
def j_X4_inState_42 (N : Nat) (S : SH) (bk5 : Int32 → Int32 → Option Int32) (p0 : Nat) (p1 : Int32) (p2 : Int32) (p4 : Int32) (q0 : Int32) (q1 : Int32) (x : DY) : Option Int32 :=
  bk5 (q1 + q0) (p4 + 1)
set_option maxHeartbeats 1000000 in
theorem j_X4_inState_42_t {N d : Nat} {S : SH} (hW : WT S) (hd : 1 ≤ d) (bk5 : Int32 → Int32 → Option Int32) (p0 : Nat) (p1 : Int32) (p2 : Int32) (p4 : Int32) (q0 : Int32) (q1 : Int32) (x : DY) (g0 : TY S p0 4) (hbk5 : ∀ (v3 : Int32) (v4 : Int32), Go mX4_inState d S (wPI x) 5 [some (.ref p0), some (.int p1), some (.int p2), some (.int v3), some (.int v4)] [] x (bk5 v3 v4)) : Go mX4_inState d S (wPI x) 42 [some (.ref p0), some (.int p1), some (.int p2), none, some (.int p4)] [.int q0, .int q1] x (j_X4_inState_42 N S bk5 p0 p1 p2 p4 q0 q1 x) := by
  unfold j_X4_inState_42
  refine go1 (M := mX4_inState) (pc' := 43) (r_iadd (M := mX4_inState) dX4_inState_42) ?_
  refine go1 (M := mX4_inState) (pc' := 44) (ls' := [some (.ref p0), some (.int p1), some (.int p2), some (.int (q1 + q0)), some (.int p4)]) (r_istore_n (M := mX4_inState) (ls := [some (.ref p0), some (.int p1), some (.int p2), none, some (.int p4)]) (i := 3) (v := (q1 + q0)) (by decide) rfl dX4_inState_43) ?_
  refine go1 (M := mX4_inState) (pc' := 47) (ls' := [some (.ref p0), some (.int p1), some (.int p2), some (.int (q1 + q0)), some (.int (p4 + 1))]) (r_iinc (M := mX4_inState) (ls := [some (.ref p0), some (.int p1), some (.int p2), some (.int (q1 + q0)), some (.int p4)]) (i := 4) (v := p4) (c' := 1) (by decide) rfl (by decide) rfl dX4_inState_44) ?_
  refine go1 (M := mX4_inState) (pc' := 5) (r_goto (M := mX4_inState) dX4_inState_47 (by decide)) ?_
  exact hbk5 (q1 + q0) (p4 + 1)
def j_X4_inState_41 (N : Nat) (S : SH) (bk5 : Int32 → Int32 → Option Int32) (p0 : Nat) (p1 : Int32) (p2 : Int32) (p4 : Int32) (q0 : Int32) (x : DY) : Option Int32 :=
  j_X4_inState_42 N S bk5 p0 p1 p2 p4 0 q0 x
set_option maxHeartbeats 1000000 in
theorem j_X4_inState_41_t {N d : Nat} {S : SH} (hW : WT S) (hd : 1 ≤ d) (bk5 : Int32 → Int32 → Option Int32) (p0 : Nat) (p1 : Int32) (p2 : Int32) (p4 : Int32) (q0 : Int32) (x : DY) (g0 : TY S p0 4) (hbk5 : ∀ (v3 : Int32) (v4 : Int32), Go mX4_inState d S (wPI x) 5 [some (.ref p0), some (.int p1), some (.int p2), some (.int v3), some (.int v4)] [] x (bk5 v3 v4)) : Go mX4_inState d S (wPI x) 41 [some (.ref p0), some (.int p1), some (.int p2), none, some (.int p4)] [.int q0] x (j_X4_inState_41 N S bk5 p0 p1 p2 p4 q0 x) := by
  unfold j_X4_inState_41
  refine go1 (M := mX4_inState) (pc' := 42) (r_iconst (M := mX4_inState) (v := 0) (by decide) dX4_inState_41) ?_
  exact j_X4_inState_42_t (N := N) hW (by omega) bk5 p0 p1 p2 p4 0 q0 x g0 hbk5
def lp_X4_inState_5_b (N : Nat) (S : SH) (bk5 : Int32 → Int32 → Option Int32) (p0 : Nat) (p1 : Int32) (p2 : Int32) (p3 : Int32) (p4 : Int32) (x : DY) : Option Int32 :=
  (if (x.1 p0 5) ≤ p4 then some p3 else ck S (pr S p0 1) p4 ((if (x.1 (pr S p0 1) p4.toNatClampNeg) = p1 then ck S (pr S p0 3) p4 ((if (x.1 (pr S p0 3) p4.toNatClampNeg) = p2 then j_X4_inState_42 N S bk5 p0 p1 p2 p4 1 p3 x else j_X4_inState_41 N S bk5 p0 p1 p2 p4 p3 x)) else j_X4_inState_41 N S bk5 p0 p1 p2 p4 p3 x)))
set_option maxHeartbeats 1000000 in
theorem lp_X4_inState_5_b_t {N d : Nat} {S : SH} (hW : WT S) (hd : 1 ≤ d) (bk5 : Int32 → Int32 → Option Int32) (p0 : Nat) (p1 : Int32) (p2 : Int32) (p3 : Int32) (p4 : Int32) (x : DY) (g0 : TY S p0 4) (hbk5 : ∀ (v3 : Int32) (v4 : Int32), Go mX4_inState d S (wPI x) 5 [some (.ref p0), some (.int p1), some (.int p2), some (.int v3), some (.int v4)] [] x (bk5 v3 v4)) : Go mX4_inState d S (wPI x) 5 [some (.ref p0), some (.int p1), some (.int p2), some (.int p3), some (.int p4)] [] x (lp_X4_inState_5_b N S bk5 p0 p1 p2 p3 p4 x) := by
  unfold lp_X4_inState_5_b
  refine go1 (M := mX4_inState) (pc' := 7) (r_iload (M := mX4_inState) (i := 4) rfl dX4_inState_5) ?_
  refine go1 (M := mX4_inState) (pc' := 8) (r_aload_n (M := mX4_inState) (i := 0) rfl dX4_inState_7) ?_
  refine go1 (M := mX4_inState) (pc' := 11) (r_getI (M := mX4_inState) fl_4_27 g0 rfl dX4_inState_8) ?_
  refine go_br (M := mX4_inState) (pt := 50) (pf := 14) (fun kt kf => r_icmp_ge (M := mX4_inState) dX4_inState_11 (by decide) kt kf) (fun hc2 => ?_) (fun hc2 => ?_)
  · refine go1 (M := mX4_inState) (pc' := 51) (r_iload_n (M := mX4_inState) (i := 3) rfl dX4_inState_50) ?_
    exact go_iret (M := mX4_inState) rfl rfl dX4_inState_51
  · refine go1 (M := mX4_inState) (pc' := 15) (r_iload_n (M := mX4_inState) (i := 3) rfl dX4_inState_14) ?_
    refine go1 (M := mX4_inState) (pc' := 16) (r_aload_n (M := mX4_inState) (i := 0) rfl dX4_inState_15) ?_
    refine go1 (M := mX4_inState) (pc' := 19) (r_getR (M := mX4_inState) fl_4_15 g0 rfl (wt_some hW g0 (by decide) (by decide) rfl) dX4_inState_16) ?_
    have hT3 : TY S (pr S p0 1) 14 := wt hW g0 (by decide) (by decide) rfl (by decide)
    refine go1 (M := mX4_inState) (pc' := 21) (r_iload (M := mX4_inState) (i := 4) rfl dX4_inState_19) ?_
    refine go_ck (fun hi4 => ?_)
    refine go1 (M := mX4_inState) (pc' := 22) (r_iald (M := mX4_inState) hT3 hi4 dX4_inState_21) ?_
    refine go1 (M := mX4_inState) (pc' := 23) (r_iload_n (M := mX4_inState) (i := 1) rfl dX4_inState_22) ?_
    refine go_br (M := mX4_inState) (pt := 26) (pf := 41) (fun kt kf => r_icmp_ne (M := mX4_inState) dX4_inState_23 (by decide) kf kt) (fun hc5 => ?_) (fun hc5 => ?_)
    · refine go1 (M := mX4_inState) (pc' := 27) (r_aload_n (M := mX4_inState) (i := 0) rfl dX4_inState_26) ?_
      refine go1 (M := mX4_inState) (pc' := 30) (r_getR (M := mX4_inState) fl_4_21 g0 rfl (wt_some hW g0 (by decide) (by decide) rfl) dX4_inState_27) ?_
      have hT6 : TY S (pr S p0 3) 14 := wt hW g0 (by decide) (by decide) rfl (by decide)
      refine go1 (M := mX4_inState) (pc' := 32) (r_iload (M := mX4_inState) (i := 4) rfl dX4_inState_30) ?_
      refine go_ck (fun hi7 => ?_)
      refine go1 (M := mX4_inState) (pc' := 33) (r_iald (M := mX4_inState) hT6 hi7 dX4_inState_32) ?_
      refine go1 (M := mX4_inState) (pc' := 34) (r_iload_n (M := mX4_inState) (i := 2) rfl dX4_inState_33) ?_
      refine go_br (M := mX4_inState) (pt := 37) (pf := 41) (fun kt kf => r_icmp_ne (M := mX4_inState) dX4_inState_34 (by decide) kf kt) (fun hc8 => ?_) (fun hc8 => ?_)
      · refine go1 (M := mX4_inState) (pc' := 38) (r_iconst (M := mX4_inState) (v := 1) (by decide) dX4_inState_37) ?_
        refine go1 (M := mX4_inState) (pc' := 42) (r_goto (M := mX4_inState) dX4_inState_38 (by decide)) ?_
        refine go_drop (ls' := [some (.ref p0), some (.int p1), some (.int p2), none, some (.int p4)]) (And.intro rfl (And.intro rfl (And.intro rfl (And.intro rfl trivial)))) ?_
        exact j_X4_inState_42_t (N := N) hW (by omega) bk5 p0 p1 p2 p4 1 p3 x g0 hbk5
      · refine go_drop (ls' := [some (.ref p0), some (.int p1), some (.int p2), none, some (.int p4)]) (And.intro rfl (And.intro rfl (And.intro rfl (And.intro rfl trivial)))) ?_
        exact j_X4_inState_41_t (N := N) hW (by omega) bk5 p0 p1 p2 p4 p3 x g0 hbk5
    · refine go_drop (ls' := [some (.ref p0), some (.int p1), some (.int p2), none, some (.int p4)]) (And.intro rfl (And.intro rfl (And.intro rfl (And.intro rfl trivial)))) ?_
      exact j_X4_inState_41_t (N := N) hW (by omega) bk5 p0 p1 p2 p4 p3 x g0 hbk5
def lp_X4_inState_5 (N : Nat) (S : SH) (p0 : Nat) (p1 : Int32) (p2 : Int32) (p3 : Int32) (p4 : Int32) (x : DY) : Option Int32 :=
  itr (fun back (v : Int32 × Int32) => lp_X4_inState_5_b N S (fun p3 p4 => back (p3, p4)) p0 p1 p2 v.1 v.2 x) N (p3, p4)
theorem lp_X4_inState_5_t {N d : Nat} {S : SH} (hW : WT S) (hd : 1 ≤ d) (p0 : Nat) (p1 : Int32) (p2 : Int32) (p3 : Int32) (p4 : Int32) (x : DY) (g0 : TY S p0 4) : Go mX4_inState d S (wPI x) 5 [some (.ref p0), some (.int p1), some (.int p2), some (.int p3), some (.int p4)] [] x (lp_X4_inState_5 N S p0 p1 p2 p3 p4 x) := by
  unfold lp_X4_inState_5
  exact go_itr (L := fun (v : Int32 × Int32) => [some (.ref p0), some (.int p1), some (.int p2), some (.int v.1), some (.int v.2)]) (X := fun (v : Int32 × Int32) => x) (fun back hB v => lp_X4_inState_5_b_t (N := N) hW hd (fun p3 p4 => back (p3, p4)) p0 p1 p2 v.1 v.2 x g0 (fun p3 p4 => hB (p3, p4)) ) N (p3, p4)
def f_X4_inState (N : Nat) (S : SH) (a0 : Nat) (a1 : Int32) (a2 : Int32) (x : DY) : Option Int32 :=
  lp_X4_inState_5 N S a0 a1 a2 0 0 x
set_option maxHeartbeats 1000000 in
theorem t_X4_inState {N d : Nat} {S : SH} (hW : WT S) {x : DY} {a0 : Nat} {a1 : Int32} {a2 : Int32} (hd : 1 ≤ d) (h0 : TY S a0 4) : CT mX4_inState d S [.ref a0, .int a1, .int a2] x (wPI x) (f_X4_inState N S a0 a1 a2 x) := by
  refine CT.of [some (.ref a0), some (.int a1), some (.int a2), none, none] rfl (Nat.le_of_ble_eq_true rfl) (by decide +kernel) ?_
  unfold f_X4_inState
  refine go1 (M := mX4_inState) (pc' := 1) (r_iconst (M := mX4_inState) (v := 0) (by decide) dX4_inState_0) ?_
  refine go1 (M := mX4_inState) (pc' := 2) (ls' := [some (.ref a0), some (.int a1), some (.int a2), some (.int 0), none]) (r_istore_n (M := mX4_inState) (ls := [some (.ref a0), some (.int a1), some (.int a2), none, none]) (i := 3) (v := 0) (by decide) rfl dX4_inState_1) ?_
  refine go1 (M := mX4_inState) (pc' := 3) (r_iconst (M := mX4_inState) (v := 0) (by decide) dX4_inState_2) ?_
  refine go1 (M := mX4_inState) (pc' := 5) (ls' := [some (.ref a0), some (.int a1), some (.int a2), some (.int 0), some (.int 0)]) (r_istore (M := mX4_inState) (ls := [some (.ref a0), some (.int a1), some (.int a2), some (.int 0), none]) (i := 4) (v := 0) (by decide) rfl dX4_inState_3) ?_
  refine lp_X4_inState_5_t (N := N) hW (by omega) a0 a1 a2 0 0 x h0
def lp_X4_missing_8_b (N : Nat) (S : SH) (bk8 : Int32 → Int32 → Option Int32) (p0 : Nat) (p1 : Int32) (p2 : Int32) (p3 : Int32) (x : DY) : Option Int32 :=
  (if 4 < p3 then some p2 else Option.bind (f_X4_inState N S p0 p1 p3 x) (fun r4 => bk8 (p2 - r4) (p3 + 1)))
set_option maxHeartbeats 1000000 in
theorem lp_X4_missing_8_b_t {N d : Nat} {S : SH} (hW : WT S) (hd : 2 ≤ d) (bk8 : Int32 → Int32 → Option Int32) (p0 : Nat) (p1 : Int32) (p2 : Int32) (p3 : Int32) (x : DY) (g0 : TY S p0 4) (hbk8 : ∀ (v2 : Int32) (v3 : Int32), Go mX4_missing d S (wPI x) 8 [some (.ref p0), some (.int p1), some (.int v2), some (.int v3)] [] x (bk8 v2 v3)) : Go mX4_missing d S (wPI x) 8 [some (.ref p0), some (.int p1), some (.int p2), some (.int p3)] [] x (lp_X4_missing_8_b N S bk8 p0 p1 p2 p3 x) := by
  unfold lp_X4_missing_8_b
  refine go1 (M := mX4_missing) (pc' := 9) (r_iload_n (M := mX4_missing) (i := 3) rfl dX4_missing_8) ?_
  refine go1 (M := mX4_missing) (pc' := 10) (r_iconst (M := mX4_missing) (v := 4) (by decide) dX4_missing_9) ?_
  refine go_br (M := mX4_missing) (pt := 28) (pf := 13) (fun kt kf => r_icmp_gt (M := mX4_missing) dX4_missing_10 (by decide) kt kf) (fun hc3 => ?_) (fun hc3 => ?_)
  · refine go1 (M := mX4_missing) (pc' := 29) (r_iload_n (M := mX4_missing) (i := 2) rfl dX4_missing_28) ?_
    exact go_iret (M := mX4_missing) rfl rfl dX4_missing_29
  · refine go1 (M := mX4_missing) (pc' := 14) (r_iload_n (M := mX4_missing) (i := 2) rfl dX4_missing_13) ?_
    refine go1 (M := mX4_missing) (pc' := 15) (r_aload_n (M := mX4_missing) (i := 0) rfl dX4_missing_14) ?_
    refine go1 (M := mX4_missing) (pc' := 16) (r_iload_n (M := mX4_missing) (i := 1) rfl dX4_missing_15) ?_
    refine go1 (M := mX4_missing) (pc' := 17) (r_iload_n (M := mX4_missing) (i := 3) rfl dX4_missing_16) ?_
    refine go_V_PI (M := mX4_missing) (pc' := 20) (st := [.int p2]) (As := [.int p1, .int p3]) rfl ln_4_47 lb_X4_inState (t_X4_inState (N := N) hW (by omega) g0) (by omega) g0 (Nat.le_of_ble_eq_true rfl) rfl dX4_missing_17 (fun r4 => ?_)
    refine go1 (M := mX4_missing) (pc' := 21) (r_isub (M := mX4_missing) dX4_missing_20) ?_
    refine go1 (M := mX4_missing) (pc' := 22) (ls' := [some (.ref p0), some (.int p1), some (.int (p2 - r4)), some (.int p3)]) (r_istore_n (M := mX4_missing) (ls := [some (.ref p0), some (.int p1), some (.int p2), some (.int p3)]) (i := 2) (v := (p2 - r4)) (by decide) rfl dX4_missing_21) ?_
    refine go1 (M := mX4_missing) (pc' := 25) (ls' := [some (.ref p0), some (.int p1), some (.int (p2 - r4)), some (.int (p3 + 1))]) (r_iinc (M := mX4_missing) (ls := [some (.ref p0), some (.int p1), some (.int (p2 - r4)), some (.int p3)]) (i := 3) (v := p3) (c' := 1) (by decide) rfl (by decide) rfl dX4_missing_22) ?_
    refine go1 (M := mX4_missing) (pc' := 8) (r_goto (M := mX4_missing) dX4_missing_25 (by decide)) ?_
    exact hbk8 (p2 - r4) (p3 + 1)
def lp_X4_missing_8 (N : Nat) (S : SH) (p0 : Nat) (p1 : Int32) (p2 : Int32) (p3 : Int32) (x : DY) : Option Int32 :=
  itr (fun back (v : Int32 × Int32) => lp_X4_missing_8_b N S (fun p2 p3 => back (p2, p3)) p0 p1 v.1 v.2 x) N (p2, p3)
theorem lp_X4_missing_8_t {N d : Nat} {S : SH} (hW : WT S) (hd : 2 ≤ d) (p0 : Nat) (p1 : Int32) (p2 : Int32) (p3 : Int32) (x : DY) (g0 : TY S p0 4) : Go mX4_missing d S (wPI x) 8 [some (.ref p0), some (.int p1), some (.int p2), some (.int p3)] [] x (lp_X4_missing_8 N S p0 p1 p2 p3 x) := by
  unfold lp_X4_missing_8
  exact go_itr (L := fun (v : Int32 × Int32) => [some (.ref p0), some (.int p1), some (.int v.1), some (.int v.2)]) (X := fun (v : Int32 × Int32) => x) (fun back hB v => lp_X4_missing_8_b_t (N := N) hW hd (fun p2 p3 => back (p2, p3)) p0 p1 v.1 v.2 x g0 (fun p2 p3 => hB (p2, p3)) ) N (p2, p3)
def f_X4_missing (N : Nat) (S : SH) (a0 : Nat) (a1 : Int32) (x : DY) : Option Int32 :=
  Option.bind (f_X4_madeOf N S a0 a1 x) (fun r1 => lp_X4_missing_8 N S a0 a1 r1 0 x)
set_option maxHeartbeats 1000000 in
theorem t_X4_missing {N d : Nat} {S : SH} (hW : WT S) {x : DY} {a0 : Nat} {a1 : Int32} (hd : 2 ≤ d) (h0 : TY S a0 4) : CT mX4_missing d S [.ref a0, .int a1] x (wPI x) (f_X4_missing N S a0 a1 x) := by
  refine CT.of [some (.ref a0), some (.int a1), none, none] rfl (Nat.le_of_ble_eq_true rfl) (by decide +kernel) ?_
  unfold f_X4_missing
  refine go1 (M := mX4_missing) (pc' := 1) (r_aload_n (M := mX4_missing) (i := 0) rfl dX4_missing_0) ?_
  refine go1 (M := mX4_missing) (pc' := 2) (r_iload_n (M := mX4_missing) (i := 1) rfl dX4_missing_1) ?_
  refine go_V_PI (M := mX4_missing) (pc' := 5) (st := []) (As := [.int a1]) rfl ln_4_43 lb_X4_madeOf (t_X4_madeOf (N := N) hW (by omega) h0) (by omega) h0 (Nat.le_of_ble_eq_true rfl) rfl dX4_missing_2 (fun r1 => ?_)
  refine go1 (M := mX4_missing) (pc' := 6) (ls' := [some (.ref a0), some (.int a1), some (.int r1), none]) (r_istore_n (M := mX4_missing) (ls := [some (.ref a0), some (.int a1), none, none]) (i := 2) (v := r1) (by decide) rfl dX4_missing_5) ?_
  refine go1 (M := mX4_missing) (pc' := 7) (r_iconst (M := mX4_missing) (v := 0) (by decide) dX4_missing_6) ?_
  refine go1 (M := mX4_missing) (pc' := 8) (ls' := [some (.ref a0), some (.int a1), some (.int r1), some (.int 0)]) (r_istore_n (M := mX4_missing) (ls := [some (.ref a0), some (.int a1), some (.int r1), none]) (i := 3) (v := 0) (by decide) rfl dX4_missing_7) ?_
  refine lp_X4_missing_8_t (N := N) hW (by omega) a0 a1 r1 0 x h0
def j_X4_onBill_27 (N : Nat) (S : SH) (bk4 : Int32 → Int32 → Option Int32) (p0 : Nat) (p1 : Int32) (p3 : Int32) (q0 : Int32) (q1 : Int32) (x : DY) : Option Int32 :=
  bk4 (q1 + q0) (p3 + 1)
set_option maxHeartbeats 1000000 in
theorem j_X4_onBill_27_t {N d : Nat} {S : SH} (hW : WT S) (hd : 2 ≤ d) (bk4 : Int32 → Int32 → Option Int32) (p0 : Nat) (p1 : Int32) (p3 : Int32) (q0 : Int32) (q1 : Int32) (x : DY) (g0 : TY S p0 4) (hbk4 : ∀ (v2 : Int32) (v3 : Int32), Go mX4_onBill d S (wPI x) 4 [some (.ref p0), some (.int p1), some (.int v2), some (.int v3)] [] x (bk4 v2 v3)) : Go mX4_onBill d S (wPI x) 27 [some (.ref p0), some (.int p1), none, some (.int p3)] [.int q0, .int q1] x (j_X4_onBill_27 N S bk4 p0 p1 p3 q0 q1 x) := by
  unfold j_X4_onBill_27
  refine go1 (M := mX4_onBill) (pc' := 28) (r_iadd (M := mX4_onBill) dX4_onBill_27) ?_
  refine go1 (M := mX4_onBill) (pc' := 29) (ls' := [some (.ref p0), some (.int p1), some (.int (q1 + q0)), some (.int p3)]) (r_istore_n (M := mX4_onBill) (ls := [some (.ref p0), some (.int p1), none, some (.int p3)]) (i := 2) (v := (q1 + q0)) (by decide) rfl dX4_onBill_28) ?_
  refine go1 (M := mX4_onBill) (pc' := 32) (ls' := [some (.ref p0), some (.int p1), some (.int (q1 + q0)), some (.int (p3 + 1))]) (r_iinc (M := mX4_onBill) (ls := [some (.ref p0), some (.int p1), some (.int (q1 + q0)), some (.int p3)]) (i := 3) (v := p3) (c' := 1) (by decide) rfl (by decide) rfl dX4_onBill_29) ?_
  refine go1 (M := mX4_onBill) (pc' := 4) (r_goto (M := mX4_onBill) dX4_onBill_32 (by decide)) ?_
  exact hbk4 (q1 + q0) (p3 + 1)
def lp_X4_onBill_4_b (N : Nat) (S : SH) (bk4 : Int32 → Int32 → Option Int32) (p0 : Nat) (p1 : Int32) (p2 : Int32) (p3 : Int32) (x : DY) : Option Int32 :=
  (if (x.1 p0 5) ≤ p3 then some p2 else Option.bind (f_X4_isOnBill N S p0 p3 p1 x) (fun r3 => (if r3 = 0 then j_X4_onBill_27 N S bk4 p0 p1 p3 0 p2 x else j_X4_onBill_27 N S bk4 p0 p1 p3 1 p2 x)))
set_option maxHeartbeats 1000000 in
theorem lp_X4_onBill_4_b_t {N d : Nat} {S : SH} (hW : WT S) (hd : 2 ≤ d) (bk4 : Int32 → Int32 → Option Int32) (p0 : Nat) (p1 : Int32) (p2 : Int32) (p3 : Int32) (x : DY) (g0 : TY S p0 4) (hbk4 : ∀ (v2 : Int32) (v3 : Int32), Go mX4_onBill d S (wPI x) 4 [some (.ref p0), some (.int p1), some (.int v2), some (.int v3)] [] x (bk4 v2 v3)) : Go mX4_onBill d S (wPI x) 4 [some (.ref p0), some (.int p1), some (.int p2), some (.int p3)] [] x (lp_X4_onBill_4_b N S bk4 p0 p1 p2 p3 x) := by
  unfold lp_X4_onBill_4_b
  refine go1 (M := mX4_onBill) (pc' := 5) (r_iload_n (M := mX4_onBill) (i := 3) rfl dX4_onBill_4) ?_
  refine go1 (M := mX4_onBill) (pc' := 6) (r_aload_n (M := mX4_onBill) (i := 0) rfl dX4_onBill_5) ?_
  refine go1 (M := mX4_onBill) (pc' := 9) (r_getI (M := mX4_onBill) fl_4_27 g0 rfl dX4_onBill_6) ?_
  refine go_br (M := mX4_onBill) (pt := 35) (pf := 12) (fun kt kf => r_icmp_ge (M := mX4_onBill) dX4_onBill_9 (by decide) kt kf) (fun hc2 => ?_) (fun hc2 => ?_)
  · refine go1 (M := mX4_onBill) (pc' := 36) (r_iload_n (M := mX4_onBill) (i := 2) rfl dX4_onBill_35) ?_
    exact go_iret (M := mX4_onBill) rfl rfl dX4_onBill_36
  · refine go1 (M := mX4_onBill) (pc' := 13) (r_iload_n (M := mX4_onBill) (i := 2) rfl dX4_onBill_12) ?_
    refine go1 (M := mX4_onBill) (pc' := 14) (r_aload_n (M := mX4_onBill) (i := 0) rfl dX4_onBill_13) ?_
    refine go1 (M := mX4_onBill) (pc' := 15) (r_iload_n (M := mX4_onBill) (i := 3) rfl dX4_onBill_14) ?_
    refine go1 (M := mX4_onBill) (pc' := 16) (r_iload_n (M := mX4_onBill) (i := 1) rfl dX4_onBill_15) ?_
    refine go_V_PI (M := mX4_onBill) (pc' := 19) (st := [.int p2]) (As := [.int p3, .int p1]) rfl ln_4_51 lb_X4_isOnBill (t_X4_isOnBill (N := N) hW (by omega) g0) (by omega) g0 (Nat.le_of_ble_eq_true rfl) rfl dX4_onBill_16 (fun r3 => ?_)
    refine go_br (M := mX4_onBill) (pt := 26) (pf := 22) (fun kt kf => r_if_eq (M := mX4_onBill) dX4_onBill_19 (by decide) kt kf) (fun hc4 => ?_) (fun hc4 => ?_)
    · refine go1 (M := mX4_onBill) (pc' := 27) (r_iconst (M := mX4_onBill) (v := 0) (by decide) dX4_onBill_26) ?_
      refine go_drop (ls' := [some (.ref p0), some (.int p1), none, some (.int p3)]) (And.intro rfl (And.intro rfl (And.intro rfl trivial))) ?_
      exact j_X4_onBill_27_t (N := N) hW (by omega) bk4 p0 p1 p3 0 p2 x g0 hbk4
    · refine go1 (M := mX4_onBill) (pc' := 23) (r_iconst (M := mX4_onBill) (v := 1) (by decide) dX4_onBill_22) ?_
      refine go1 (M := mX4_onBill) (pc' := 27) (r_goto (M := mX4_onBill) dX4_onBill_23 (by decide)) ?_
      refine go_drop (ls' := [some (.ref p0), some (.int p1), none, some (.int p3)]) (And.intro rfl (And.intro rfl (And.intro rfl trivial))) ?_
      exact j_X4_onBill_27_t (N := N) hW (by omega) bk4 p0 p1 p3 1 p2 x g0 hbk4
def lp_X4_onBill_4 (N : Nat) (S : SH) (p0 : Nat) (p1 : Int32) (p2 : Int32) (p3 : Int32) (x : DY) : Option Int32 :=
  itr (fun back (v : Int32 × Int32) => lp_X4_onBill_4_b N S (fun p2 p3 => back (p2, p3)) p0 p1 v.1 v.2 x) N (p2, p3)
theorem lp_X4_onBill_4_t {N d : Nat} {S : SH} (hW : WT S) (hd : 2 ≤ d) (p0 : Nat) (p1 : Int32) (p2 : Int32) (p3 : Int32) (x : DY) (g0 : TY S p0 4) : Go mX4_onBill d S (wPI x) 4 [some (.ref p0), some (.int p1), some (.int p2), some (.int p3)] [] x (lp_X4_onBill_4 N S p0 p1 p2 p3 x) := by
  unfold lp_X4_onBill_4
  exact go_itr (L := fun (v : Int32 × Int32) => [some (.ref p0), some (.int p1), some (.int v.1), some (.int v.2)]) (X := fun (v : Int32 × Int32) => x) (fun back hB v => lp_X4_onBill_4_b_t (N := N) hW hd (fun p2 p3 => back (p2, p3)) p0 p1 v.1 v.2 x g0 (fun p2 p3 => hB (p2, p3)) ) N (p2, p3)
def f_X4_onBill (N : Nat) (S : SH) (a0 : Nat) (a1 : Int32) (x : DY) : Option Int32 :=
  lp_X4_onBill_4 N S a0 a1 0 0 x
set_option maxHeartbeats 1000000 in
theorem t_X4_onBill {N d : Nat} {S : SH} (hW : WT S) {x : DY} {a0 : Nat} {a1 : Int32} (hd : 2 ≤ d) (h0 : TY S a0 4) : CT mX4_onBill d S [.ref a0, .int a1] x (wPI x) (f_X4_onBill N S a0 a1 x) := by
  refine CT.of [some (.ref a0), some (.int a1), none, none] rfl (Nat.le_of_ble_eq_true rfl) (by decide +kernel) ?_
  unfold f_X4_onBill
  refine go1 (M := mX4_onBill) (pc' := 1) (r_iconst (M := mX4_onBill) (v := 0) (by decide) dX4_onBill_0) ?_
  refine go1 (M := mX4_onBill) (pc' := 2) (ls' := [some (.ref a0), some (.int a1), some (.int 0), none]) (r_istore_n (M := mX4_onBill) (ls := [some (.ref a0), some (.int a1), none, none]) (i := 2) (v := 0) (by decide) rfl dX4_onBill_1) ?_
  refine go1 (M := mX4_onBill) (pc' := 3) (r_iconst (M := mX4_onBill) (v := 0) (by decide) dX4_onBill_2) ?_
  refine go1 (M := mX4_onBill) (pc' := 4) (ls' := [some (.ref a0), some (.int a1), some (.int 0), some (.int 0)]) (r_istore_n (M := mX4_onBill) (ls := [some (.ref a0), some (.int a1), some (.int 0), none]) (i := 3) (v := 0) (by decide) rfl dX4_onBill_3) ?_
  refine lp_X4_onBill_4_t (N := N) hW (by omega) a0 a1 0 0 x h0
def lp_X5_append_22_b (N : Nat) (S : SH) (bk22 : Int32 → DY → Option (Int32 × DY)) (p0 : Nat) (p1 : Int32) (p2 : Int64) (p4 : Int32) (x : DY) : Option (Int32 × DY) :=
  (if p1 ≤ p4 then some ((x.1 p0 1), x) else ck S (pr S p0 0) (x.1 p0 1) (bl (U1 x (pr S p0 0) (x.1 p0 1).toNatClampNeg (((((p2.toUInt64 >>> ((8 * p4).toInt64.toUInt64 &&& Int64.toUInt64 63)).toInt64)).toInt32) &&& 255)) (fun x7 => bl (U1 x7 p0 1 ((x7.1 p0 1) + 1)) (fun x8 => bk22 (p4 + 1) x8))))
set_option maxHeartbeats 1000000 in
theorem lp_X5_append_22_b_t {N d : Nat} {S : SH} (hW : WT S) (hd : 1 ≤ d) (bk22 : Int32 → DY → Option (Int32 × DY)) (p0 : Nat) (p1 : Int32) (p2 : Int64) (p4 : Int32) (x : DY) (g0 : TY S p0 5) (hbk22 : ∀ (v4 : Int32) (y : DY), Go mX5_append d S wSI 22 [some (.ref p0), some (.int p1), some (.long p2), none, some (.int v4)] [] y (bk22 v4 y)) : Go mX5_append d S wSI 22 [some (.ref p0), some (.int p1), some (.long p2), none, some (.int p4)] [] x (lp_X5_append_22_b N S bk22 p0 p1 p2 p4 x) := by
  unfold lp_X5_append_22_b
  refine go1 (M := mX5_append) (pc' := 24) (r_iload (M := mX5_append) (i := 4) rfl dX5_append_22) ?_
  refine go1 (M := mX5_append) (pc' := 25) (r_iload_n (M := mX5_append) (i := 1) rfl dX5_append_24) ?_
  refine go_br (M := mX5_append) (pt := 65) (pf := 28) (fun kt kf => r_icmp_ge (M := mX5_append) dX5_append_25 (by decide) kt kf) (fun hc4 => ?_) (fun hc4 => ?_)
  · refine go1 (M := mX5_append) (pc' := 66) (r_aload_n (M := mX5_append) (i := 0) rfl dX5_append_65) ?_
    refine go1 (M := mX5_append) (pc' := 69) (r_getI (M := mX5_append) fl_5_15 g0 rfl dX5_append_66) ?_
    exact go_iret (M := mX5_append) rfl rfl dX5_append_69
  · refine go1 (M := mX5_append) (pc' := 29) (r_aload_n (M := mX5_append) (i := 0) rfl dX5_append_28) ?_
    refine go1 (M := mX5_append) (pc' := 32) (r_getR (M := mX5_append) fl_5_9 g0 rfl (wt_some hW g0 (by decide) (by decide) rfl) dX5_append_29) ?_
    have hT5 : TY S (pr S p0 0) 14 := wt hW g0 (by decide) (by decide) rfl (by decide)
    refine go1 (M := mX5_append) (pc' := 33) (r_aload_n (M := mX5_append) (i := 0) rfl dX5_append_32) ?_
    refine go1 (M := mX5_append) (pc' := 36) (r_getI (M := mX5_append) fl_5_15 g0 rfl dX5_append_33) ?_
    refine go1 (M := mX5_append) (pc' := 37) (r_lload_n (M := mX5_append) (i := 2) rfl dX5_append_36) ?_
    refine go1 (M := mX5_append) (pc' := 39) (r_bipush (M := mX5_append) (v := 8) (by decide) dX5_append_37) ?_
    refine go1 (M := mX5_append) (pc' := 41) (r_iload (M := mX5_append) (i := 4) rfl dX5_append_39) ?_
    refine go1 (M := mX5_append) (pc' := 42) (r_imul (M := mX5_append) dX5_append_41) ?_
    refine go1 (M := mX5_append) (pc' := 43) (r_lushr (M := mX5_append) dX5_append_42) ?_
    refine go1 (M := mX5_append) (pc' := 44) (r_l2i (M := mX5_append) dX5_append_43) ?_
    refine go1 (M := mX5_append) (pc' := 47) (r_sipush (M := mX5_append) (v := 255) (by decide) dX5_append_44) ?_
    refine go1 (M := mX5_append) (pc' := 48) (r_iand (M := mX5_append) dX5_append_47) ?_
    refine go_ck (fun hi6 => ?_)
    refine go1 (M := mX5_append) (pc' := 49) (r_iast (M := mX5_append) hT5 hi6 dX5_append_48) ?_
    refine go_blx (fun x7 => ?_)
    refine go1 (M := mX5_append) (pc' := 50) (r_aload_n (M := mX5_append) (i := 0) rfl dX5_append_49) ?_
    refine go1 (M := mX5_append) (pc' := 51) (r_dup (M := mX5_append) rfl dX5_append_50) ?_
    refine go1 (M := mX5_append) (pc' := 54) (r_getI (M := mX5_append) fl_5_15 g0 rfl dX5_append_51) ?_
    refine go1 (M := mX5_append) (pc' := 55) (r_iconst (M := mX5_append) (v := 1) (by decide) dX5_append_54) ?_
    refine go1 (M := mX5_append) (pc' := 56) (r_iadd (M := mX5_append) dX5_append_55) ?_
    refine go1 (M := mX5_append) (pc' := 59) (r_putI (M := mX5_append) fl_5_15 g0 rfl rfl dX5_append_56) ?_
    refine go_blx (fun x8 => ?_)
    refine go1 (M := mX5_append) (pc' := 62) (ls' := [some (.ref p0), some (.int p1), some (.long p2), none, some (.int (p4 + 1))]) (r_iinc (M := mX5_append) (ls := [some (.ref p0), some (.int p1), some (.long p2), none, some (.int p4)]) (i := 4) (v := p4) (c' := 1) (by decide) rfl (by decide) rfl dX5_append_59) ?_
    refine go1 (M := mX5_append) (pc' := 22) (r_goto (M := mX5_append) dX5_append_62 (by decide)) ?_
    exact hbk22 (p4 + 1) x8
def lp_X5_append_22 (N : Nat) (S : SH) (p0 : Nat) (p1 : Int32) (p2 : Int64) (p4 : Int32) (x : DY) : Option (Int32 × DY) :=
  itr (fun back (v : Int32 × DY) => lp_X5_append_22_b N S (fun p4 y => back (p4, y)) p0 p1 p2 v.1 v.2) N (p4, x)
theorem lp_X5_append_22_t {N d : Nat} {S : SH} (hW : WT S) (hd : 1 ≤ d) (p0 : Nat) (p1 : Int32) (p2 : Int64) (p4 : Int32) (x : DY) (g0 : TY S p0 5) : Go mX5_append d S wSI 22 [some (.ref p0), some (.int p1), some (.long p2), none, some (.int p4)] [] x (lp_X5_append_22 N S p0 p1 p2 p4 x) := by
  unfold lp_X5_append_22
  exact go_itr (L := fun (v : Int32 × DY) => [some (.ref p0), some (.int p1), some (.long p2), none, some (.int v.1)]) (X := fun (v : Int32 × DY) => v.2) (fun back hB v => lp_X5_append_22_b_t (N := N) hW hd (fun p4 y => back (p4, y)) p0 p1 p2 v.1 v.2 g0 (fun p4 y => hB (p4, y)) ) N (p4, x)
def f_X5_append (N : Nat) (S : SH) (a0 : Nat) (a1 : Int32) (a2 : Int64) (x : DY) : Option (Int32 × DY) :=
  (if a1 < 0 then some ((-4), x) else (if a1 ≤ (160 - (x.1 a0 1)) then lp_X5_append_22 N S a0 a1 a2 0 x else some ((-4), x)))
set_option maxHeartbeats 1000000 in
theorem t_X5_append {N d : Nat} {S : SH} (hW : WT S) {x : DY} {a0 : Nat} {a1 : Int32} {a2 : Int64} (hd : 1 ≤ d) (h0 : TY S a0 5) : CT mX5_append d S [.ref a0, .int a1, .long a2] x wSI (f_X5_append N S a0 a1 a2 x) := by
  refine CT.of [some (.ref a0), some (.int a1), some (.long a2), none, none] rfl (Nat.le_of_ble_eq_true rfl) (by decide +kernel) ?_
  unfold f_X5_append
  refine go1 (M := mX5_append) (pc' := 1) (r_iload_n (M := mX5_append) (i := 1) rfl dX5_append_0) ?_
  refine go_br (M := mX5_append) (pt := 16) (pf := 4) (fun kt kf => r_if_lt (M := mX5_append) dX5_append_1 (by decide) kt kf) (fun hc1 => ?_) (fun hc1 => ?_)
  · refine go1 (M := mX5_append) (pc' := 18) (r_bipush (M := mX5_append) (v := (-4)) (by decide) dX5_append_16) ?_
    exact go_iret (M := mX5_append) rfl rfl dX5_append_18
  · refine go1 (M := mX5_append) (pc' := 5) (r_iload_n (M := mX5_append) (i := 1) rfl dX5_append_4) ?_
    refine go1 (M := mX5_append) (pc' := 8) (r_sipush (M := mX5_append) (v := 160) (by decide) dX5_append_5) ?_
    refine go1 (M := mX5_append) (pc' := 9) (r_aload_n (M := mX5_append) (i := 0) rfl dX5_append_8) ?_
    refine go1 (M := mX5_append) (pc' := 12) (r_getI (M := mX5_append) fl_5_15 h0 rfl dX5_append_9) ?_
    refine go1 (M := mX5_append) (pc' := 13) (r_isub (M := mX5_append) dX5_append_12) ?_
    refine go_br (M := mX5_append) (pt := 19) (pf := 16) (fun kt kf => r_icmp_le (M := mX5_append) dX5_append_13 (by decide) kt kf) (fun hc2 => ?_) (fun hc2 => ?_)
    · refine go1 (M := mX5_append) (pc' := 20) (r_iconst (M := mX5_append) (v := 0) (by decide) dX5_append_19) ?_
      refine go1 (M := mX5_append) (pc' := 22) (ls' := [some (.ref a0), some (.int a1), some (.long a2), none, some (.int 0)]) (r_istore (M := mX5_append) (ls := [some (.ref a0), some (.int a1), some (.long a2), none, none]) (i := 4) (v := 0) (by decide) rfl dX5_append_20) ?_
      refine lp_X5_append_22_t (N := N) hW (by omega) a0 a1 a2 0 x h0
    · refine go1 (M := mX5_append) (pc' := 18) (r_bipush (M := mX5_append) (v := (-4)) (by decide) dX5_append_16) ?_
      exact go_iret (M := mX5_append) rfl rfl dX5_append_18
def f_X5_isLetter (N : Nat) (S : SH) (a0 : Int32) (x : DY) : Option Int32 :=
  (if a0 < 97 then some 0 else (if 122 < a0 then some 0 else some 1))
set_option maxHeartbeats 1000000 in
theorem t_X5_isLetter {N d : Nat} {S : SH} (hW : WT S) {x : DY} {a0 : Int32} (hd : 1 ≤ d) : CT mX5_isLetter d S [.int a0] x (wPI x) (f_X5_isLetter N S a0 x) := by
  refine CT.of [some (.int a0)] rfl (Nat.le_of_ble_eq_true rfl) (by decide +kernel) ?_
  unfold f_X5_isLetter
  refine go1 (M := mX5_isLetter) (pc' := 1) (r_iload_n (M := mX5_isLetter) (i := 0) rfl dX5_isLetter_0) ?_
  refine go1 (M := mX5_isLetter) (pc' := 3) (r_bipush (M := mX5_isLetter) (v := 97) (by decide) dX5_isLetter_1) ?_
  refine go_br (M := mX5_isLetter) (pt := 16) (pf := 6) (fun kt kf => r_icmp_lt (M := mX5_isLetter) dX5_isLetter_3 (by decide) kt kf) (fun hc1 => ?_) (fun hc1 => ?_)
  · refine go1 (M := mX5_isLetter) (pc' := 17) (r_iconst (M := mX5_isLetter) (v := 0) (by decide) dX5_isLetter_16) ?_
    exact go_zret (M := mX5_isLetter) rfl rfl rfl dX5_isLetter_17
  · refine go1 (M := mX5_isLetter) (pc' := 7) (r_iload_n (M := mX5_isLetter) (i := 0) rfl dX5_isLetter_6) ?_
    refine go1 (M := mX5_isLetter) (pc' := 9) (r_bipush (M := mX5_isLetter) (v := 122) (by decide) dX5_isLetter_7) ?_
    refine go_br (M := mX5_isLetter) (pt := 16) (pf := 12) (fun kt kf => r_icmp_gt (M := mX5_isLetter) dX5_isLetter_9 (by decide) kt kf) (fun hc2 => ?_) (fun hc2 => ?_)
    · refine go1 (M := mX5_isLetter) (pc' := 17) (r_iconst (M := mX5_isLetter) (v := 0) (by decide) dX5_isLetter_16) ?_
      exact go_zret (M := mX5_isLetter) rfl rfl rfl dX5_isLetter_17
    · refine go1 (M := mX5_isLetter) (pc' := 13) (r_iconst (M := mX5_isLetter) (v := 1) (by decide) dX5_isLetter_12) ?_
      refine go1 (M := mX5_isLetter) (pc' := 17) (r_goto (M := mX5_isLetter) dX5_isLetter_13 (by decide)) ?_
      exact go_zret (M := mX5_isLetter) rfl rfl rfl dX5_isLetter_17
def lp_X5_endOfWord_2_b (N : Nat) (S : SH) (bk2 : Int32 → Option Int32) (p0 : Nat) (p2 : Int32) (x : DY) : Option Int32 :=
  (if (x.1 p0 1) ≤ p2 then some p2 else ck S (pr S p0 0) p2 (Option.bind (f_X5_isLetter N S (x.1 (pr S p0 0) p2.toNatClampNeg) x) (fun r5 => (if r5 = 0 then some p2 else bk2 (p2 + 1)))))
set_option maxHeartbeats 1000000 in
theorem lp_X5_endOfWord_2_b_t {N d : Nat} {S : SH} (hW : WT S) (hd : 2 ≤ d) (bk2 : Int32 → Option Int32) (p0 : Nat) (p2 : Int32) (x : DY) (g0 : TY S p0 5) (hbk2 : ∀ (v2 : Int32), Go mX5_endOfWord d S (wPI x) 2 [some (.ref p0), none, some (.int v2)] [] x (bk2 v2)) : Go mX5_endOfWord d S (wPI x) 2 [some (.ref p0), none, some (.int p2)] [] x (lp_X5_endOfWord_2_b N S bk2 p0 p2 x) := by
  unfold lp_X5_endOfWord_2_b
  refine go1 (M := mX5_endOfWord) (pc' := 3) (r_iload_n (M := mX5_endOfWord) (i := 2) rfl dX5_endOfWord_2) ?_
  refine go1 (M := mX5_endOfWord) (pc' := 4) (r_aload_n (M := mX5_endOfWord) (i := 0) rfl dX5_endOfWord_3) ?_
  refine go1 (M := mX5_endOfWord) (pc' := 7) (r_getI (M := mX5_endOfWord) fl_5_15 g0 rfl dX5_endOfWord_4) ?_
  refine go_br (M := mX5_endOfWord) (pt := 28) (pf := 10) (fun kt kf => r_icmp_ge (M := mX5_endOfWord) dX5_endOfWord_7 (by decide) kt kf) (fun hc2 => ?_) (fun hc2 => ?_)
  · refine go1 (M := mX5_endOfWord) (pc' := 29) (r_iload_n (M := mX5_endOfWord) (i := 2) rfl dX5_endOfWord_28) ?_
    exact go_iret (M := mX5_endOfWord) rfl rfl dX5_endOfWord_29
  · refine go1 (M := mX5_endOfWord) (pc' := 11) (r_aload_n (M := mX5_endOfWord) (i := 0) rfl dX5_endOfWord_10) ?_
    refine go1 (M := mX5_endOfWord) (pc' := 14) (r_getR (M := mX5_endOfWord) fl_5_9 g0 rfl (wt_some hW g0 (by decide) (by decide) rfl) dX5_endOfWord_11) ?_
    have hT3 : TY S (pr S p0 0) 14 := wt hW g0 (by decide) (by decide) rfl (by decide)
    refine go1 (M := mX5_endOfWord) (pc' := 15) (r_iload_n (M := mX5_endOfWord) (i := 2) rfl dX5_endOfWord_14) ?_
    refine go_ck (fun hi4 => ?_)
    refine go1 (M := mX5_endOfWord) (pc' := 16) (r_iald (M := mX5_endOfWord) hT3 hi4 dX5_endOfWord_15) ?_
    refine go_S_PI (M := mX5_endOfWord) (pc' := 19) (st := []) (As := [.int (x.1 (pr S p0 0) p2.toNatClampNeg)]) rfl ln_5_106 lb_X5_isLetter (t_X5_isLetter (N := N) hW (by omega) ) (by omega) (Nat.le_of_ble_eq_true rfl) rfl dX5_endOfWord_16 (fun r5 => ?_)
    refine go_br (M := mX5_endOfWord) (pt := 28) (pf := 22) (fun kt kf => r_if_eq (M := mX5_endOfWord) dX5_endOfWord_19 (by decide) kt kf) (fun hc6 => ?_) (fun hc6 => ?_)
    · refine go1 (M := mX5_endOfWord) (pc' := 29) (r_iload_n (M := mX5_endOfWord) (i := 2) rfl dX5_endOfWord_28) ?_
      exact go_iret (M := mX5_endOfWord) rfl rfl dX5_endOfWord_29
    · refine go1 (M := mX5_endOfWord) (pc' := 25) (ls' := [some (.ref p0), none, some (.int (p2 + 1))]) (r_iinc (M := mX5_endOfWord) (ls := [some (.ref p0), none, some (.int p2)]) (i := 2) (v := p2) (c' := 1) (by decide) rfl (by decide) rfl dX5_endOfWord_22) ?_
      refine go1 (M := mX5_endOfWord) (pc' := 2) (r_goto (M := mX5_endOfWord) dX5_endOfWord_25 (by decide)) ?_
      exact hbk2 (p2 + 1)
def lp_X5_endOfWord_2 (N : Nat) (S : SH) (p0 : Nat) (p2 : Int32) (x : DY) : Option Int32 :=
  itr (fun back (v : Int32) => lp_X5_endOfWord_2_b N S (fun p2 => back p2) p0 v x) N p2
theorem lp_X5_endOfWord_2_t {N d : Nat} {S : SH} (hW : WT S) (hd : 2 ≤ d) (p0 : Nat) (p2 : Int32) (x : DY) (g0 : TY S p0 5) : Go mX5_endOfWord d S (wPI x) 2 [some (.ref p0), none, some (.int p2)] [] x (lp_X5_endOfWord_2 N S p0 p2 x) := by
  unfold lp_X5_endOfWord_2
  exact go_itr (L := fun (v : Int32) => [some (.ref p0), none, some (.int v)]) (X := fun (v : Int32) => x) (fun back hB v => lp_X5_endOfWord_2_b_t (N := N) hW hd (fun p2 => back p2) p0 v x g0 (fun p2 => hB p2) ) N p2
def f_X5_endOfWord (N : Nat) (S : SH) (a0 : Nat) (a1 : Int32) (x : DY) : Option Int32 :=
  lp_X5_endOfWord_2 N S a0 a1 x
set_option maxHeartbeats 1000000 in
theorem t_X5_endOfWord {N d : Nat} {S : SH} (hW : WT S) {x : DY} {a0 : Nat} {a1 : Int32} (hd : 2 ≤ d) (h0 : TY S a0 5) : CT mX5_endOfWord d S [.ref a0, .int a1] x (wPI x) (f_X5_endOfWord N S a0 a1 x) := by
  refine CT.of [some (.ref a0), some (.int a1), none] rfl (Nat.le_of_ble_eq_true rfl) (by decide +kernel) ?_
  unfold f_X5_endOfWord
  refine go1 (M := mX5_endOfWord) (pc' := 1) (r_iload_n (M := mX5_endOfWord) (i := 1) rfl dX5_endOfWord_0) ?_
  refine go1 (M := mX5_endOfWord) (pc' := 2) (ls' := [some (.ref a0), some (.int a1), some (.int a1)]) (r_istore_n (M := mX5_endOfWord) (ls := [some (.ref a0), some (.int a1), none]) (i := 2) (v := a1) (by decide) rfl dX5_endOfWord_1) ?_
  refine go_drop (ls' := [some (.ref a0), none, some (.int a1)]) (And.intro rfl (And.intro rfl trivial)) ?_
  refine lp_X5_endOfWord_2_t (N := N) hW (by omega) a0 a1 x h0
def lp_X5_spells_27_b (N : Nat) (S : SH) (bk27 : Int32 → Option Int32) (p0 : Nat) (p1 : Nat) (p2 : Int32) (p4 : Int32) (x : DY) : Option Int32 :=
  (if (nI (S.2.2.1 p1)) ≤ p4 then some 1 else ck S (pr S p0 0) (p2 + p4) (ck S p1 p4 ((if (x.1 (pr S p0 0) (p2 + p4).toNatClampNeg) = (x.1 p1 p4.toNatClampNeg) then bk27 (p4 + 1) else some 0))))
set_option maxHeartbeats 1000000 in
theorem lp_X5_spells_27_b_t {N d : Nat} {S : SH} (hW : WT S) (hd : 7 ≤ d) (bk27 : Int32 → Option Int32) (p0 : Nat) (p1 : Nat) (p2 : Int32) (p4 : Int32) (x : DY) (g0 : TY S p0 5) (g1 : 5 ≤ p1 ∧ p1 < 16) (hbk27 : ∀ (v4 : Int32), Go mX5_spells d S (wPI x) 27 [some (.ref p0), some (.ref p1), some (.int p2), none, some (.int v4)] [] x (bk27 v4)) : Go mX5_spells d S (wPI x) 27 [some (.ref p0), some (.ref p1), some (.int p2), none, some (.int p4)] [] x (lp_X5_spells_27_b N S bk27 p0 p1 p2 p4 x) := by
  unfold lp_X5_spells_27_b
  refine go1 (M := mX5_spells) (pc' := 29) (r_iload (M := mX5_spells) (i := 4) rfl dX5_spells_27) ?_
  refine go1 (M := mX5_spells) (pc' := 30) (r_aload_n (M := mX5_spells) (i := 1) rfl dX5_spells_29) ?_
  refine go_slen (M := mX5_spells) (pc' := 33) (i := 165) rfl g1 (tb3 125 (by decide +kernel) rfl) (by omega) (Nat.le_of_ble_eq_true rfl) dX5_spells_30 ?_
  refine go_br (M := mX5_spells) (pt := 62) (pf := 36) (fun kt kf => r_icmp_ge (M := mX5_spells) dX5_spells_33 (by decide) kt kf) (fun hc5 => ?_) (fun hc5 => ?_)
  · refine go1 (M := mX5_spells) (pc' := 63) (r_iconst (M := mX5_spells) (v := 1) (by decide) dX5_spells_62) ?_
    exact go_zret (M := mX5_spells) rfl rfl rfl dX5_spells_63
  · refine go1 (M := mX5_spells) (pc' := 37) (r_aload_n (M := mX5_spells) (i := 0) rfl dX5_spells_36) ?_
    refine go1 (M := mX5_spells) (pc' := 40) (r_getR (M := mX5_spells) fl_5_9 g0 rfl (wt_some hW g0 (by decide) (by decide) rfl) dX5_spells_37) ?_
    have hT6 : TY S (pr S p0 0) 14 := wt hW g0 (by decide) (by decide) rfl (by decide)
    refine go1 (M := mX5_spells) (pc' := 41) (r_iload_n (M := mX5_spells) (i := 2) rfl dX5_spells_40) ?_
    refine go1 (M := mX5_spells) (pc' := 43) (r_iload (M := mX5_spells) (i := 4) rfl dX5_spells_41) ?_
    refine go1 (M := mX5_spells) (pc' := 44) (r_iadd (M := mX5_spells) dX5_spells_43) ?_
    refine go_ck (fun hi7 => ?_)
    refine go1 (M := mX5_spells) (pc' := 45) (r_iald (M := mX5_spells) hT6 hi7 dX5_spells_44) ?_
    refine go1 (M := mX5_spells) (pc' := 46) (r_aload_n (M := mX5_spells) (i := 1) rfl dX5_spells_45) ?_
    refine go1 (M := mX5_spells) (pc' := 48) (r_iload (M := mX5_spells) (i := 4) rfl dX5_spells_46) ?_
    refine go_ck (fun hi8 => ?_)
    refine go_schar (M := mX5_spells) (pc' := 51) (i := 170) rfl g1 hi8 (tb3 135 (by decide +kernel) rfl) (by omega) (Nat.le_of_ble_eq_true rfl) dX5_spells_48 ?_
    refine go_br (M := mX5_spells) (pt := 56) (pf := 54) (fun kt kf => r_icmp_eq (M := mX5_spells) dX5_spells_51 (by decide) kt kf) (fun hc9 => ?_) (fun hc9 => ?_)
    · refine go1 (M := mX5_spells) (pc' := 59) (ls' := [some (.ref p0), some (.ref p1), some (.int p2), none, some (.int (p4 + 1))]) (r_iinc (M := mX5_spells) (ls := [some (.ref p0), some (.ref p1), some (.int p2), none, some (.int p4)]) (i := 4) (v := p4) (c' := 1) (by decide) rfl (by decide) rfl dX5_spells_56) ?_
      refine go1 (M := mX5_spells) (pc' := 27) (r_goto (M := mX5_spells) dX5_spells_59 (by decide)) ?_
      exact hbk27 (p4 + 1)
    · refine go1 (M := mX5_spells) (pc' := 55) (r_iconst (M := mX5_spells) (v := 0) (by decide) dX5_spells_54) ?_
      exact go_zret (M := mX5_spells) rfl rfl rfl dX5_spells_55
def lp_X5_spells_27 (N : Nat) (S : SH) (p0 : Nat) (p1 : Nat) (p2 : Int32) (p4 : Int32) (x : DY) : Option Int32 :=
  itr (fun back (v : Int32) => lp_X5_spells_27_b N S (fun p4 => back p4) p0 p1 p2 v x) N p4
theorem lp_X5_spells_27_t {N d : Nat} {S : SH} (hW : WT S) (hd : 7 ≤ d) (p0 : Nat) (p1 : Nat) (p2 : Int32) (p4 : Int32) (x : DY) (g0 : TY S p0 5) (g1 : 5 ≤ p1 ∧ p1 < 16) : Go mX5_spells d S (wPI x) 27 [some (.ref p0), some (.ref p1), some (.int p2), none, some (.int p4)] [] x (lp_X5_spells_27 N S p0 p1 p2 p4 x) := by
  unfold lp_X5_spells_27
  exact go_itr (L := fun (v : Int32) => [some (.ref p0), some (.ref p1), some (.int p2), none, some (.int v)]) (X := fun (v : Int32) => x) (fun back hB v => lp_X5_spells_27_b_t (N := N) hW hd (fun p4 => back p4) p0 p1 p2 v x g0 g1 (fun p4 => hB p4) ) N p4
def f_X5_spells (N : Nat) (S : SH) (a0 : Nat) (a1 : Nat) (a2 : Int32) (a3 : Int32) (x : DY) : Option Int32 :=
  (if (a3 - a2) = (nI (S.2.2.1 a1)) then (if a2 < 0 then some 0 else (if a3 ≤ (x.1 a0 1) then lp_X5_spells_27 N S a0 a1 a2 0 x else some 0)) else some 0)
set_option maxHeartbeats 1000000 in
theorem t_X5_spells {N d : Nat} {S : SH} (hW : WT S) {x : DY} {a0 : Nat} {a1 : Nat} {a2 : Int32} {a3 : Int32} (hd : 7 ≤ d) (h0 : TY S a0 5) (h1 : 5 ≤ a1 ∧ a1 < 16) : CT mX5_spells d S [.ref a0, .ref a1, .int a2, .int a3] x (wPI x) (f_X5_spells N S a0 a1 a2 a3 x) := by
  refine CT.of [some (.ref a0), some (.ref a1), some (.int a2), some (.int a3), none] rfl (Nat.le_of_ble_eq_true rfl) (by decide +kernel) ?_
  unfold f_X5_spells
  refine go1 (M := mX5_spells) (pc' := 1) (r_iload_n (M := mX5_spells) (i := 3) rfl dX5_spells_0) ?_
  refine go1 (M := mX5_spells) (pc' := 2) (r_iload_n (M := mX5_spells) (i := 2) rfl dX5_spells_1) ?_
  refine go1 (M := mX5_spells) (pc' := 3) (r_isub (M := mX5_spells) dX5_spells_2) ?_
  refine go1 (M := mX5_spells) (pc' := 4) (r_aload_n (M := mX5_spells) (i := 1) rfl dX5_spells_3) ?_
  refine go_slen (M := mX5_spells) (pc' := 7) (i := 165) rfl h1 (tb3 125 (by decide +kernel) rfl) (by omega) (Nat.le_of_ble_eq_true rfl) dX5_spells_4 ?_
  refine go_br (M := mX5_spells) (pt := 10) (pf := 22) (fun kt kf => r_icmp_ne (M := mX5_spells) dX5_spells_7 (by decide) kf kt) (fun hc1 => ?_) (fun hc1 => ?_)
  · refine go1 (M := mX5_spells) (pc' := 11) (r_iload_n (M := mX5_spells) (i := 2) rfl dX5_spells_10) ?_
    refine go_br (M := mX5_spells) (pt := 22) (pf := 14) (fun kt kf => r_if_lt (M := mX5_spells) dX5_spells_11 (by decide) kt kf) (fun hc2 => ?_) (fun hc2 => ?_)
    · refine go1 (M := mX5_spells) (pc' := 23) (r_iconst (M := mX5_spells) (v := 0) (by decide) dX5_spells_22) ?_
      exact go_zret (M := mX5_spells) rfl rfl rfl dX5_spells_23
    · refine go1 (M := mX5_spells) (pc' := 15) (r_iload_n (M := mX5_spells) (i := 3) rfl dX5_spells_14) ?_
      refine go1 (M := mX5_spells) (pc' := 16) (r_aload_n (M := mX5_spells) (i := 0) rfl dX5_spells_15) ?_
      refine go1 (M := mX5_spells) (pc' := 19) (r_getI (M := mX5_spells) fl_5_15 h0 rfl dX5_spells_16) ?_
      refine go_br (M := mX5_spells) (pt := 24) (pf := 22) (fun kt kf => r_icmp_le (M := mX5_spells) dX5_spells_19 (by decide) kt kf) (fun hc3 => ?_) (fun hc3 => ?_)
      · refine go1 (M := mX5_spells) (pc' := 25) (r_iconst (M := mX5_spells) (v := 0) (by decide) dX5_spells_24) ?_
        refine go1 (M := mX5_spells) (pc' := 27) (ls' := [some (.ref a0), some (.ref a1), some (.int a2), some (.int a3), some (.int 0)]) (r_istore (M := mX5_spells) (ls := [some (.ref a0), some (.ref a1), some (.int a2), some (.int a3), none]) (i := 4) (v := 0) (by decide) rfl dX5_spells_25) ?_
        refine go_drop (ls' := [some (.ref a0), some (.ref a1), some (.int a2), none, some (.int 0)]) (And.intro rfl (And.intro rfl (And.intro rfl (And.intro rfl trivial)))) ?_
        refine lp_X5_spells_27_t (N := N) hW (by omega) a0 a1 a2 0 x h0 h1
      · refine go1 (M := mX5_spells) (pc' := 23) (r_iconst (M := mX5_spells) (v := 0) (by decide) dX5_spells_22) ?_
        exact go_zret (M := mX5_spells) rfl rfl rfl dX5_spells_23
  · refine go1 (M := mX5_spells) (pc' := 23) (r_iconst (M := mX5_spells) (v := 0) (by decide) dX5_spells_22) ?_
    exact go_zret (M := mX5_spells) rfl rfl rfl dX5_spells_23
def f_X5_nameOf (N : Nat) (S : SH) (a0 : Nat) (a1 : Int32) (a2 : Int32) (x : DY) : Option Int32 :=
  Option.bind (f_X5_spells N S a0 5 a1 a2 x) (fun r1 => (if r1 = 0 then Option.bind (f_X5_spells N S a0 6 a1 a2 x) (fun r3 => (if r3 = 0 then Option.bind (f_X5_spells N S a0 7 a1 a2 x) (fun r5 => (if r5 = 0 then Option.bind (f_X5_spells N S a0 8 a1 a2 x) (fun r7 => (if r7 = 0 then Option.bind (f_X5_spells N S a0 9 a1 a2 x) (fun r9 => (if r9 = 0 then Option.bind (f_X5_spells N S a0 10 a1 a2 x) (fun r11 => (if r11 = 0 then some (-1) else some 5)) else some 4)) else some 3)) else some 2)) else some 1)) else some 0))
set_option maxHeartbeats 1000000 in
theorem t_X5_nameOf {N d : Nat} {S : SH} (hW : WT S) {x : DY} {a0 : Nat} {a1 : Int32} {a2 : Int32} (hd : 8 ≤ d) (h0 : TY S a0 5) : CT mX5_nameOf d S [.ref a0, .int a1, .int a2] x (wPI x) (f_X5_nameOf N S a0 a1 a2 x) := by
  refine CT.of [some (.ref a0), some (.int a1), some (.int a2)] rfl (Nat.le_of_ble_eq_true rfl) (by decide +kernel) ?_
  unfold f_X5_nameOf
  refine go1 (M := mX5_nameOf) (pc' := 1) (r_aload_n (M := mX5_nameOf) (i := 0) rfl dX5_nameOf_0) ?_
  refine go1 (M := mX5_nameOf) (pc' := 3) (r_ldcS (M := mX5_nameOf) (i := 0) (by decide) rfl rfl dX5_nameOf_1) ?_
  refine go1 (M := mX5_nameOf) (pc' := 4) (r_iload_n (M := mX5_nameOf) (i := 1) rfl dX5_nameOf_3) ?_
  refine go1 (M := mX5_nameOf) (pc' := 5) (r_iload_n (M := mX5_nameOf) (i := 2) rfl dX5_nameOf_4) ?_
  refine go_V_PI (M := mX5_nameOf) (pc' := 8) (st := []) (As := [.ref 5, .int a1, .int a2]) rfl ln_5_141 lb_X5_spells (t_X5_spells (N := N) hW (by omega) h0 (⟨by decide, by decide⟩)) (by omega) h0 (Nat.le_of_ble_eq_true rfl) rfl dX5_nameOf_5 (fun r1 => ?_)
  refine go_br (M := mX5_nameOf) (pt := 13) (pf := 11) (fun kt kf => r_if_eq (M := mX5_nameOf) dX5_nameOf_8 (by decide) kt kf) (fun hc2 => ?_) (fun hc2 => ?_)
  · refine go1 (M := mX5_nameOf) (pc' := 14) (r_aload_n (M := mX5_nameOf) (i := 0) rfl dX5_nameOf_13) ?_
    refine go1 (M := mX5_nameOf) (pc' := 16) (r_ldcS (M := mX5_nameOf) (i := 1) (by decide) rfl rfl dX5_nameOf_14) ?_
    refine go1 (M := mX5_nameOf) (pc' := 17) (r_iload_n (M := mX5_nameOf) (i := 1) rfl dX5_nameOf_16) ?_
    refine go1 (M := mX5_nameOf) (pc' := 18) (r_iload_n (M := mX5_nameOf) (i := 2) rfl dX5_nameOf_17) ?_
    refine go_V_PI (M := mX5_nameOf) (pc' := 21) (st := []) (As := [.ref 6, .int a1, .int a2]) rfl ln_5_141 lb_X5_spells (t_X5_spells (N := N) hW (by omega) h0 (⟨by decide, by decide⟩)) (by omega) h0 (Nat.le_of_ble_eq_true rfl) rfl dX5_nameOf_18 (fun r3 => ?_)
    refine go_br (M := mX5_nameOf) (pt := 26) (pf := 24) (fun kt kf => r_if_eq (M := mX5_nameOf) dX5_nameOf_21 (by decide) kt kf) (fun hc4 => ?_) (fun hc4 => ?_)
    · refine go1 (M := mX5_nameOf) (pc' := 27) (r_aload_n (M := mX5_nameOf) (i := 0) rfl dX5_nameOf_26) ?_
      refine go1 (M := mX5_nameOf) (pc' := 29) (r_ldcS (M := mX5_nameOf) (i := 2) (by decide) rfl rfl dX5_nameOf_27) ?_
      refine go1 (M := mX5_nameOf) (pc' := 30) (r_iload_n (M := mX5_nameOf) (i := 1) rfl dX5_nameOf_29) ?_
      refine go1 (M := mX5_nameOf) (pc' := 31) (r_iload_n (M := mX5_nameOf) (i := 2) rfl dX5_nameOf_30) ?_
      refine go_V_PI (M := mX5_nameOf) (pc' := 34) (st := []) (As := [.ref 7, .int a1, .int a2]) rfl ln_5_141 lb_X5_spells (t_X5_spells (N := N) hW (by omega) h0 (⟨by decide, by decide⟩)) (by omega) h0 (Nat.le_of_ble_eq_true rfl) rfl dX5_nameOf_31 (fun r5 => ?_)
      refine go_br (M := mX5_nameOf) (pt := 39) (pf := 37) (fun kt kf => r_if_eq (M := mX5_nameOf) dX5_nameOf_34 (by decide) kt kf) (fun hc6 => ?_) (fun hc6 => ?_)
      · refine go1 (M := mX5_nameOf) (pc' := 40) (r_aload_n (M := mX5_nameOf) (i := 0) rfl dX5_nameOf_39) ?_
        refine go1 (M := mX5_nameOf) (pc' := 42) (r_ldcS (M := mX5_nameOf) (i := 3) (by decide) rfl rfl dX5_nameOf_40) ?_
        refine go1 (M := mX5_nameOf) (pc' := 43) (r_iload_n (M := mX5_nameOf) (i := 1) rfl dX5_nameOf_42) ?_
        refine go1 (M := mX5_nameOf) (pc' := 44) (r_iload_n (M := mX5_nameOf) (i := 2) rfl dX5_nameOf_43) ?_
        refine go_V_PI (M := mX5_nameOf) (pc' := 47) (st := []) (As := [.ref 8, .int a1, .int a2]) rfl ln_5_141 lb_X5_spells (t_X5_spells (N := N) hW (by omega) h0 (⟨by decide, by decide⟩)) (by omega) h0 (Nat.le_of_ble_eq_true rfl) rfl dX5_nameOf_44 (fun r7 => ?_)
        refine go_br (M := mX5_nameOf) (pt := 52) (pf := 50) (fun kt kf => r_if_eq (M := mX5_nameOf) dX5_nameOf_47 (by decide) kt kf) (fun hc8 => ?_) (fun hc8 => ?_)
        · refine go1 (M := mX5_nameOf) (pc' := 53) (r_aload_n (M := mX5_nameOf) (i := 0) rfl dX5_nameOf_52) ?_
          refine go1 (M := mX5_nameOf) (pc' := 55) (r_ldcS (M := mX5_nameOf) (i := 4) (by decide) rfl rfl dX5_nameOf_53) ?_
          refine go1 (M := mX5_nameOf) (pc' := 56) (r_iload_n (M := mX5_nameOf) (i := 1) rfl dX5_nameOf_55) ?_
          refine go1 (M := mX5_nameOf) (pc' := 57) (r_iload_n (M := mX5_nameOf) (i := 2) rfl dX5_nameOf_56) ?_
          refine go_V_PI (M := mX5_nameOf) (pc' := 60) (st := []) (As := [.ref 9, .int a1, .int a2]) rfl ln_5_141 lb_X5_spells (t_X5_spells (N := N) hW (by omega) h0 (⟨by decide, by decide⟩)) (by omega) h0 (Nat.le_of_ble_eq_true rfl) rfl dX5_nameOf_57 (fun r9 => ?_)
          refine go_br (M := mX5_nameOf) (pt := 65) (pf := 63) (fun kt kf => r_if_eq (M := mX5_nameOf) dX5_nameOf_60 (by decide) kt kf) (fun hc10 => ?_) (fun hc10 => ?_)
          · refine go1 (M := mX5_nameOf) (pc' := 66) (r_aload_n (M := mX5_nameOf) (i := 0) rfl dX5_nameOf_65) ?_
            refine go1 (M := mX5_nameOf) (pc' := 68) (r_ldcS (M := mX5_nameOf) (i := 5) (by decide) rfl rfl dX5_nameOf_66) ?_
            refine go1 (M := mX5_nameOf) (pc' := 69) (r_iload_n (M := mX5_nameOf) (i := 1) rfl dX5_nameOf_68) ?_
            refine go1 (M := mX5_nameOf) (pc' := 70) (r_iload_n (M := mX5_nameOf) (i := 2) rfl dX5_nameOf_69) ?_
            refine go_V_PI (M := mX5_nameOf) (pc' := 73) (st := []) (As := [.ref 10, .int a1, .int a2]) rfl ln_5_141 lb_X5_spells (t_X5_spells (N := N) hW (by omega) h0 (⟨by decide, by decide⟩)) (by omega) h0 (Nat.le_of_ble_eq_true rfl) rfl dX5_nameOf_70 (fun r11 => ?_)
            refine go_br (M := mX5_nameOf) (pt := 80) (pf := 76) (fun kt kf => r_if_eq (M := mX5_nameOf) dX5_nameOf_73 (by decide) kt kf) (fun hc12 => ?_) (fun hc12 => ?_)
            · refine go1 (M := mX5_nameOf) (pc' := 81) (r_iconst (M := mX5_nameOf) (v := (-1)) (by decide) dX5_nameOf_80) ?_
              exact go_iret (M := mX5_nameOf) rfl rfl dX5_nameOf_81
            · refine go1 (M := mX5_nameOf) (pc' := 77) (r_iconst (M := mX5_nameOf) (v := 5) (by decide) dX5_nameOf_76) ?_
              refine go1 (M := mX5_nameOf) (pc' := 81) (r_goto (M := mX5_nameOf) dX5_nameOf_77 (by decide)) ?_
              exact go_iret (M := mX5_nameOf) rfl rfl dX5_nameOf_81
          · refine go1 (M := mX5_nameOf) (pc' := 64) (r_iconst (M := mX5_nameOf) (v := 4) (by decide) dX5_nameOf_63) ?_
            exact go_iret (M := mX5_nameOf) rfl rfl dX5_nameOf_64
        · refine go1 (M := mX5_nameOf) (pc' := 51) (r_iconst (M := mX5_nameOf) (v := 3) (by decide) dX5_nameOf_50) ?_
          exact go_iret (M := mX5_nameOf) rfl rfl dX5_nameOf_51
      · refine go1 (M := mX5_nameOf) (pc' := 38) (r_iconst (M := mX5_nameOf) (v := 2) (by decide) dX5_nameOf_37) ?_
        exact go_iret (M := mX5_nameOf) rfl rfl dX5_nameOf_38
    · refine go1 (M := mX5_nameOf) (pc' := 25) (r_iconst (M := mX5_nameOf) (v := 1) (by decide) dX5_nameOf_24) ?_
      exact go_iret (M := mX5_nameOf) rfl rfl dX5_nameOf_25
  · refine go1 (M := mX5_nameOf) (pc' := 12) (r_iconst (M := mX5_nameOf) (v := 0) (by decide) dX5_nameOf_11) ?_
    exact go_iret (M := mX5_nameOf) rfl rfl dX5_nameOf_12
def f_X5_keyOf (N : Nat) (S : SH) (a0 : Nat) (a1 : Int32) (a2 : Int32) (x : DY) : Option Int32 :=
  Option.bind (f_X5_spells N S a0 11 a1 a2 x) (fun r1 => (if r1 = 0 then Option.bind (f_X5_spells N S a0 12 a1 a2 x) (fun r3 => (if r3 = 0 then Option.bind (f_X5_spells N S a0 13 a1 a2 x) (fun r5 => (if r5 = 0 then Option.bind (f_X5_spells N S a0 14 a1 a2 x) (fun r7 => (if r7 = 0 then Option.bind (f_X5_spells N S a0 15 a1 a2 x) (fun r9 => (if r9 = 0 then some (-2) else some (-9))) else some (-8))) else some (-7))) else some (-6))) else some (-5)))
set_option maxHeartbeats 1000000 in
theorem t_X5_keyOf {N d : Nat} {S : SH} (hW : WT S) {x : DY} {a0 : Nat} {a1 : Int32} {a2 : Int32} (hd : 8 ≤ d) (h0 : TY S a0 5) : CT mX5_keyOf d S [.ref a0, .int a1, .int a2] x (wPI x) (f_X5_keyOf N S a0 a1 a2 x) := by
  refine CT.of [some (.ref a0), some (.int a1), some (.int a2)] rfl (Nat.le_of_ble_eq_true rfl) (by decide +kernel) ?_
  unfold f_X5_keyOf
  refine go1 (M := mX5_keyOf) (pc' := 1) (r_aload_n (M := mX5_keyOf) (i := 0) rfl dX5_keyOf_0) ?_
  refine go1 (M := mX5_keyOf) (pc' := 3) (r_ldcS (M := mX5_keyOf) (i := 6) (by decide) rfl rfl dX5_keyOf_1) ?_
  refine go1 (M := mX5_keyOf) (pc' := 4) (r_iload_n (M := mX5_keyOf) (i := 1) rfl dX5_keyOf_3) ?_
  refine go1 (M := mX5_keyOf) (pc' := 5) (r_iload_n (M := mX5_keyOf) (i := 2) rfl dX5_keyOf_4) ?_
  refine go_V_PI (M := mX5_keyOf) (pc' := 8) (st := []) (As := [.ref 11, .int a1, .int a2]) rfl ln_5_141 lb_X5_spells (t_X5_spells (N := N) hW (by omega) h0 (⟨by decide, by decide⟩)) (by omega) h0 (Nat.le_of_ble_eq_true rfl) rfl dX5_keyOf_5 (fun r1 => ?_)
  refine go_br (M := mX5_keyOf) (pt := 14) (pf := 11) (fun kt kf => r_if_eq (M := mX5_keyOf) dX5_keyOf_8 (by decide) kt kf) (fun hc2 => ?_) (fun hc2 => ?_)
  · refine go1 (M := mX5_keyOf) (pc' := 15) (r_aload_n (M := mX5_keyOf) (i := 0) rfl dX5_keyOf_14) ?_
    refine go1 (M := mX5_keyOf) (pc' := 17) (r_ldcS (M := mX5_keyOf) (i := 7) (by decide) rfl rfl dX5_keyOf_15) ?_
    refine go1 (M := mX5_keyOf) (pc' := 18) (r_iload_n (M := mX5_keyOf) (i := 1) rfl dX5_keyOf_17) ?_
    refine go1 (M := mX5_keyOf) (pc' := 19) (r_iload_n (M := mX5_keyOf) (i := 2) rfl dX5_keyOf_18) ?_
    refine go_V_PI (M := mX5_keyOf) (pc' := 22) (st := []) (As := [.ref 12, .int a1, .int a2]) rfl ln_5_141 lb_X5_spells (t_X5_spells (N := N) hW (by omega) h0 (⟨by decide, by decide⟩)) (by omega) h0 (Nat.le_of_ble_eq_true rfl) rfl dX5_keyOf_19 (fun r3 => ?_)
    refine go_br (M := mX5_keyOf) (pt := 28) (pf := 25) (fun kt kf => r_if_eq (M := mX5_keyOf) dX5_keyOf_22 (by decide) kt kf) (fun hc4 => ?_) (fun hc4 => ?_)
    · refine go1 (M := mX5_keyOf) (pc' := 29) (r_aload_n (M := mX5_keyOf) (i := 0) rfl dX5_keyOf_28) ?_
      refine go1 (M := mX5_keyOf) (pc' := 31) (r_ldcS (M := mX5_keyOf) (i := 8) (by decide) rfl rfl dX5_keyOf_29) ?_
      refine go1 (M := mX5_keyOf) (pc' := 32) (r_iload_n (M := mX5_keyOf) (i := 1) rfl dX5_keyOf_31) ?_
      refine go1 (M := mX5_keyOf) (pc' := 33) (r_iload_n (M := mX5_keyOf) (i := 2) rfl dX5_keyOf_32) ?_
      refine go_V_PI (M := mX5_keyOf) (pc' := 36) (st := []) (As := [.ref 13, .int a1, .int a2]) rfl ln_5_141 lb_X5_spells (t_X5_spells (N := N) hW (by omega) h0 (⟨by decide, by decide⟩)) (by omega) h0 (Nat.le_of_ble_eq_true rfl) rfl dX5_keyOf_33 (fun r5 => ?_)
      refine go_br (M := mX5_keyOf) (pt := 42) (pf := 39) (fun kt kf => r_if_eq (M := mX5_keyOf) dX5_keyOf_36 (by decide) kt kf) (fun hc6 => ?_) (fun hc6 => ?_)
      · refine go1 (M := mX5_keyOf) (pc' := 43) (r_aload_n (M := mX5_keyOf) (i := 0) rfl dX5_keyOf_42) ?_
        refine go1 (M := mX5_keyOf) (pc' := 45) (r_ldcS (M := mX5_keyOf) (i := 9) (by decide) rfl rfl dX5_keyOf_43) ?_
        refine go1 (M := mX5_keyOf) (pc' := 46) (r_iload_n (M := mX5_keyOf) (i := 1) rfl dX5_keyOf_45) ?_
        refine go1 (M := mX5_keyOf) (pc' := 47) (r_iload_n (M := mX5_keyOf) (i := 2) rfl dX5_keyOf_46) ?_
        refine go_V_PI (M := mX5_keyOf) (pc' := 50) (st := []) (As := [.ref 14, .int a1, .int a2]) rfl ln_5_141 lb_X5_spells (t_X5_spells (N := N) hW (by omega) h0 (⟨by decide, by decide⟩)) (by omega) h0 (Nat.le_of_ble_eq_true rfl) rfl dX5_keyOf_47 (fun r7 => ?_)
        refine go_br (M := mX5_keyOf) (pt := 56) (pf := 53) (fun kt kf => r_if_eq (M := mX5_keyOf) dX5_keyOf_50 (by decide) kt kf) (fun hc8 => ?_) (fun hc8 => ?_)
        · refine go1 (M := mX5_keyOf) (pc' := 57) (r_aload_n (M := mX5_keyOf) (i := 0) rfl dX5_keyOf_56) ?_
          refine go1 (M := mX5_keyOf) (pc' := 59) (r_ldcS (M := mX5_keyOf) (i := 10) (by decide) rfl rfl dX5_keyOf_57) ?_
          refine go1 (M := mX5_keyOf) (pc' := 60) (r_iload_n (M := mX5_keyOf) (i := 1) rfl dX5_keyOf_59) ?_
          refine go1 (M := mX5_keyOf) (pc' := 61) (r_iload_n (M := mX5_keyOf) (i := 2) rfl dX5_keyOf_60) ?_
          refine go_V_PI (M := mX5_keyOf) (pc' := 64) (st := []) (As := [.ref 15, .int a1, .int a2]) rfl ln_5_141 lb_X5_spells (t_X5_spells (N := N) hW (by omega) h0 (⟨by decide, by decide⟩)) (by omega) h0 (Nat.le_of_ble_eq_true rfl) rfl dX5_keyOf_61 (fun r9 => ?_)
          refine go_br (M := mX5_keyOf) (pt := 72) (pf := 67) (fun kt kf => r_if_eq (M := mX5_keyOf) dX5_keyOf_64 (by decide) kt kf) (fun hc10 => ?_) (fun hc10 => ?_)
          · refine go1 (M := mX5_keyOf) (pc' := 74) (r_bipush (M := mX5_keyOf) (v := (-2)) (by decide) dX5_keyOf_72) ?_
            exact go_iret (M := mX5_keyOf) rfl rfl dX5_keyOf_74
          · refine go1 (M := mX5_keyOf) (pc' := 69) (r_bipush (M := mX5_keyOf) (v := (-9)) (by decide) dX5_keyOf_67) ?_
            refine go1 (M := mX5_keyOf) (pc' := 74) (r_goto (M := mX5_keyOf) dX5_keyOf_69 (by decide)) ?_
            exact go_iret (M := mX5_keyOf) rfl rfl dX5_keyOf_74
        · refine go1 (M := mX5_keyOf) (pc' := 55) (r_bipush (M := mX5_keyOf) (v := (-8)) (by decide) dX5_keyOf_53) ?_
          exact go_iret (M := mX5_keyOf) rfl rfl dX5_keyOf_55
      · refine go1 (M := mX5_keyOf) (pc' := 41) (r_bipush (M := mX5_keyOf) (v := (-7)) (by decide) dX5_keyOf_39) ?_
        exact go_iret (M := mX5_keyOf) rfl rfl dX5_keyOf_41
    · refine go1 (M := mX5_keyOf) (pc' := 27) (r_bipush (M := mX5_keyOf) (v := (-6)) (by decide) dX5_keyOf_25) ?_
      exact go_iret (M := mX5_keyOf) rfl rfl dX5_keyOf_27
  · refine go1 (M := mX5_keyOf) (pc' := 13) (r_bipush (M := mX5_keyOf) (v := (-5)) (by decide) dX5_keyOf_11) ?_
    exact go_iret (M := mX5_keyOf) rfl rfl dX5_keyOf_13
def f_X5_addToken (N : Nat) (S : SH) (a0 : Nat) (a1 : Int32) (a2 : Int32) (a3 : Int32) (x : DY) : Option DY :=
  (if (nI (S.2.2.1 (pr S a0 2))) ≤ (x.1 a0 5) then some x else ck S (pr S a0 2) (x.1 a0 5) (bl (U1 x (pr S a0 2) (x.1 a0 5).toNatClampNeg a1) (fun x4 => ck S (pr S a0 3) (x4.1 a0 5) (bl (U1 x4 (pr S a0 3) (x4.1 a0 5).toNatClampNeg a2) (fun x7 => ck S (pr S a0 4) (x7.1 a0 5) (bl (U1 x7 (pr S a0 4) (x7.1 a0 5).toNatClampNeg a3) (fun x10 => bl (U1 x10 a0 5 ((x10.1 a0 5) + 1)) (fun x11 => some x11))))))))
set_option maxHeartbeats 1000000 in
theorem t_X5_addToken {N d : Nat} {S : SH} (hW : WT S) {x : DY} {a0 : Nat} {a1 : Int32} {a2 : Int32} {a3 : Int32} (hd : 1 ≤ d) (h0 : TY S a0 5) : CT mX5_addToken d S [.ref a0, .int a1, .int a2, .int a3] x wSV (f_X5_addToken N S a0 a1 a2 a3 x) := by
  refine CT.of [some (.ref a0), some (.int a1), some (.int a2), some (.int a3)] rfl (Nat.le_of_ble_eq_true rfl) (by decide +kernel) ?_
  unfold f_X5_addToken
  refine go1 (M := mX5_addToken) (pc' := 1) (r_aload_n (M := mX5_addToken) (i := 0) rfl dX5_addToken_0) ?_
  refine go1 (M := mX5_addToken) (pc' := 4) (r_getI (M := mX5_addToken) fl_5_28 h0 rfl dX5_addToken_1) ?_
  refine go1 (M := mX5_addToken) (pc' := 5) (r_aload_n (M := mX5_addToken) (i := 0) rfl dX5_addToken_4) ?_
  refine go1 (M := mX5_addToken) (pc' := 8) (r_getR (M := mX5_addToken) fl_5_19 h0 rfl (wt_some hW h0 (by decide) (by decide) rfl) dX5_addToken_5) ?_
  have hT1 : TY S (pr S a0 2) 14 := wt hW h0 (by decide) (by decide) rfl (by decide)
  refine go1 (M := mX5_addToken) (pc' := 9) (r_alen (M := mX5_addToken) hT1 (by decide) (by decide) dX5_addToken_8) ?_
  refine go_br (M := mX5_addToken) (pt := 52) (pf := 12) (fun kt kf => r_icmp_ge (M := mX5_addToken) dX5_addToken_9 (by decide) kt kf) (fun hc2 => ?_) (fun hc2 => ?_)
  · exact go_vret (M := mX5_addToken) rfl rfl dX5_addToken_52
  · refine go1 (M := mX5_addToken) (pc' := 13) (r_aload_n (M := mX5_addToken) (i := 0) rfl dX5_addToken_12) ?_
    refine go1 (M := mX5_addToken) (pc' := 16) (r_getR (M := mX5_addToken) fl_5_19 h0 rfl (wt_some hW h0 (by decide) (by decide) rfl) dX5_addToken_13) ?_
    refine go1 (M := mX5_addToken) (pc' := 17) (r_aload_n (M := mX5_addToken) (i := 0) rfl dX5_addToken_16) ?_
    refine go1 (M := mX5_addToken) (pc' := 20) (r_getI (M := mX5_addToken) fl_5_28 h0 rfl dX5_addToken_17) ?_
    refine go1 (M := mX5_addToken) (pc' := 21) (r_iload_n (M := mX5_addToken) (i := 1) rfl dX5_addToken_20) ?_
    refine go_ck (fun hi3 => ?_)
    refine go1 (M := mX5_addToken) (pc' := 22) (r_iast (M := mX5_addToken) hT1 hi3 dX5_addToken_21) ?_
    refine go_blx (fun x4 => ?_)
    refine go1 (M := mX5_addToken) (pc' := 23) (r_aload_n (M := mX5_addToken) (i := 0) rfl dX5_addToken_22) ?_
    refine go1 (M := mX5_addToken) (pc' := 26) (r_getR (M := mX5_addToken) fl_5_22 h0 rfl (wt_some hW h0 (by decide) (by decide) rfl) dX5_addToken_23) ?_
    have hT5 : TY S (pr S a0 3) 14 := wt hW h0 (by decide) (by decide) rfl (by decide)
    refine go1 (M := mX5_addToken) (pc' := 27) (r_aload_n (M := mX5_addToken) (i := 0) rfl dX5_addToken_26) ?_
    refine go1 (M := mX5_addToken) (pc' := 30) (r_getI (M := mX5_addToken) fl_5_28 h0 rfl dX5_addToken_27) ?_
    refine go1 (M := mX5_addToken) (pc' := 31) (r_iload_n (M := mX5_addToken) (i := 2) rfl dX5_addToken_30) ?_
    refine go_ck (fun hi6 => ?_)
    refine go1 (M := mX5_addToken) (pc' := 32) (r_iast (M := mX5_addToken) hT5 hi6 dX5_addToken_31) ?_
    refine go_blx (fun x7 => ?_)
    refine go1 (M := mX5_addToken) (pc' := 33) (r_aload_n (M := mX5_addToken) (i := 0) rfl dX5_addToken_32) ?_
    refine go1 (M := mX5_addToken) (pc' := 36) (r_getR (M := mX5_addToken) fl_5_25 h0 rfl (wt_some hW h0 (by decide) (by decide) rfl) dX5_addToken_33) ?_
    have hT8 : TY S (pr S a0 4) 14 := wt hW h0 (by decide) (by decide) rfl (by decide)
    refine go1 (M := mX5_addToken) (pc' := 37) (r_aload_n (M := mX5_addToken) (i := 0) rfl dX5_addToken_36) ?_
    refine go1 (M := mX5_addToken) (pc' := 40) (r_getI (M := mX5_addToken) fl_5_28 h0 rfl dX5_addToken_37) ?_
    refine go1 (M := mX5_addToken) (pc' := 41) (r_iload_n (M := mX5_addToken) (i := 3) rfl dX5_addToken_40) ?_
    refine go_ck (fun hi9 => ?_)
    refine go1 (M := mX5_addToken) (pc' := 42) (r_iast (M := mX5_addToken) hT8 hi9 dX5_addToken_41) ?_
    refine go_blx (fun x10 => ?_)
    refine go1 (M := mX5_addToken) (pc' := 43) (r_aload_n (M := mX5_addToken) (i := 0) rfl dX5_addToken_42) ?_
    refine go1 (M := mX5_addToken) (pc' := 44) (r_dup (M := mX5_addToken) rfl dX5_addToken_43) ?_
    refine go1 (M := mX5_addToken) (pc' := 47) (r_getI (M := mX5_addToken) fl_5_28 h0 rfl dX5_addToken_44) ?_
    refine go1 (M := mX5_addToken) (pc' := 48) (r_iconst (M := mX5_addToken) (v := 1) (by decide) dX5_addToken_47) ?_
    refine go1 (M := mX5_addToken) (pc' := 49) (r_iadd (M := mX5_addToken) dX5_addToken_48) ?_
    refine go1 (M := mX5_addToken) (pc' := 52) (r_putI (M := mX5_addToken) fl_5_28 h0 rfl rfl dX5_addToken_49) ?_
    refine go_blx (fun x11 => ?_)
    exact go_vret (M := mX5_addToken) rfl rfl dX5_addToken_52
def f_X5_addWord (N : Nat) (S : SH) (a0 : Nat) (a1 : Int32) (a2 : Int32) (x : DY) : Option DY :=
  Option.bind (f_X5_nameOf N S a0 a1 a2 x) (fun r1 => (if r1 = (-1) then Option.bind (f_X5_keyOf N S a0 a1 a2 x) (fun r4 => Option.bind (f_X5_addToken N S a0 r4 a1 0 x) (fun r5 => some r5)) else Option.bind (f_X5_addToken N S a0 (-4) a1 ((-1) - r1) x) (fun r3 => some r3)))
set_option maxHeartbeats 1000000 in
theorem t_X5_addWord {N d : Nat} {S : SH} (hW : WT S) {x : DY} {a0 : Nat} {a1 : Int32} {a2 : Int32} (hd : 9 ≤ d) (h0 : TY S a0 5) : CT mX5_addWord d S [.ref a0, .int a1, .int a2] x wSV (f_X5_addWord N S a0 a1 a2 x) := by
  refine CT.of [some (.ref a0), some (.int a1), some (.int a2), none] rfl (Nat.le_of_ble_eq_true rfl) (by decide +kernel) ?_
  unfold f_X5_addWord
  refine go1 (M := mX5_addWord) (pc' := 1) (r_aload_n (M := mX5_addWord) (i := 0) rfl dX5_addWord_0) ?_
  refine go1 (M := mX5_addWord) (pc' := 2) (r_iload_n (M := mX5_addWord) (i := 1) rfl dX5_addWord_1) ?_
  refine go1 (M := mX5_addWord) (pc' := 3) (r_iload_n (M := mX5_addWord) (i := 2) rfl dX5_addWord_2) ?_
  refine go_V_PI (M := mX5_addWord) (pc' := 6) (st := []) (As := [.int a1, .int a2]) rfl ln_5_133 lb_X5_nameOf (t_X5_nameOf (N := N) hW (by omega) h0) (by omega) h0 (Nat.le_of_ble_eq_true rfl) rfl dX5_addWord_3 (fun r1 => ?_)
  refine go1 (M := mX5_addWord) (pc' := 7) (ls' := [some (.ref a0), some (.int a1), some (.int a2), some (.int r1)]) (r_istore_n (M := mX5_addWord) (ls := [some (.ref a0), some (.int a1), some (.int a2), none]) (i := 3) (v := r1) (by decide) rfl dX5_addWord_6) ?_
  refine go1 (M := mX5_addWord) (pc' := 8) (r_iload_n (M := mX5_addWord) (i := 3) rfl dX5_addWord_7) ?_
  refine go1 (M := mX5_addWord) (pc' := 9) (r_iconst (M := mX5_addWord) (v := (-1)) (by decide) dX5_addWord_8) ?_
  refine go_br (M := mX5_addWord) (pt := 12) (pf := 27) (fun kt kf => r_icmp_ne (M := mX5_addWord) dX5_addWord_9 (by decide) kf kt) (fun hc2 => ?_) (fun hc2 => ?_)
  · refine go1 (M := mX5_addWord) (pc' := 13) (r_aload_n (M := mX5_addWord) (i := 0) rfl dX5_addWord_12) ?_
    refine go1 (M := mX5_addWord) (pc' := 14) (r_aload_n (M := mX5_addWord) (i := 0) rfl dX5_addWord_13) ?_
    refine go1 (M := mX5_addWord) (pc' := 15) (r_iload_n (M := mX5_addWord) (i := 1) rfl dX5_addWord_14) ?_
    refine go1 (M := mX5_addWord) (pc' := 16) (r_iload_n (M := mX5_addWord) (i := 2) rfl dX5_addWord_15) ?_
    refine go_V_PI (M := mX5_addWord) (pc' := 19) (st := [.ref a0]) (As := [.int a1, .int a2]) rfl ln_5_136 lb_X5_keyOf (t_X5_keyOf (N := N) hW (by omega) h0) (by omega) h0 (Nat.le_of_ble_eq_true rfl) rfl dX5_addWord_16 (fun r4 => ?_)
    refine go1 (M := mX5_addWord) (pc' := 20) (r_iload_n (M := mX5_addWord) (i := 1) rfl dX5_addWord_19) ?_
    refine go1 (M := mX5_addWord) (pc' := 21) (r_iconst (M := mX5_addWord) (v := 0) (by decide) dX5_addWord_20) ?_
    refine go_V_SV (M := mX5_addWord) (pc' := 24) (st := []) (As := [.int r4, .int a1, .int 0]) rfl ln_5_129 lb_X5_addToken (t_X5_addToken (N := N) hW (by omega) h0) (by omega) h0 (Nat.le_of_ble_eq_true rfl) rfl dX5_addWord_21 (fun r5 => ?_)
    refine go1 (M := mX5_addWord) (pc' := 37) (r_goto (M := mX5_addWord) dX5_addWord_24 (by decide)) ?_
    exact go_vret (M := mX5_addWord) rfl rfl dX5_addWord_37
  · refine go1 (M := mX5_addWord) (pc' := 28) (r_aload_n (M := mX5_addWord) (i := 0) rfl dX5_addWord_27) ?_
    refine go1 (M := mX5_addWord) (pc' := 30) (r_bipush (M := mX5_addWord) (v := (-4)) (by decide) dX5_addWord_28) ?_
    refine go1 (M := mX5_addWord) (pc' := 31) (r_iload_n (M := mX5_addWord) (i := 1) rfl dX5_addWord_30) ?_
    refine go1 (M := mX5_addWord) (pc' := 32) (r_iconst (M := mX5_addWord) (v := (-1)) (by decide) dX5_addWord_31) ?_
    refine go1 (M := mX5_addWord) (pc' := 33) (r_iload_n (M := mX5_addWord) (i := 3) rfl dX5_addWord_32) ?_
    refine go1 (M := mX5_addWord) (pc' := 34) (r_isub (M := mX5_addWord) dX5_addWord_33) ?_
    refine go_V_SV (M := mX5_addWord) (pc' := 37) (st := []) (As := [.int (-4), .int a1, .int ((-1) - r1)]) rfl ln_5_129 lb_X5_addToken (t_X5_addToken (N := N) hW (by omega) h0) (by omega) h0 (Nat.le_of_ble_eq_true rfl) rfl dX5_addWord_34 (fun r3 => ?_)
    exact go_vret (M := mX5_addWord) rfl rfl dX5_addWord_37
def f_X5_isDigit (N : Nat) (S : SH) (a0 : Int32) (x : DY) : Option Int32 :=
  (if a0 < 48 then some 0 else (if 57 < a0 then some 0 else some 1))
set_option maxHeartbeats 1000000 in
theorem t_X5_isDigit {N d : Nat} {S : SH} (hW : WT S) {x : DY} {a0 : Int32} (hd : 1 ≤ d) : CT mX5_isDigit d S [.int a0] x (wPI x) (f_X5_isDigit N S a0 x) := by
  refine CT.of [some (.int a0)] rfl (Nat.le_of_ble_eq_true rfl) (by decide +kernel) ?_
  unfold f_X5_isDigit
  refine go1 (M := mX5_isDigit) (pc' := 1) (r_iload_n (M := mX5_isDigit) (i := 0) rfl dX5_isDigit_0) ?_
  refine go1 (M := mX5_isDigit) (pc' := 3) (r_bipush (M := mX5_isDigit) (v := 48) (by decide) dX5_isDigit_1) ?_
  refine go_br (M := mX5_isDigit) (pt := 16) (pf := 6) (fun kt kf => r_icmp_lt (M := mX5_isDigit) dX5_isDigit_3 (by decide) kt kf) (fun hc1 => ?_) (fun hc1 => ?_)
  · refine go1 (M := mX5_isDigit) (pc' := 17) (r_iconst (M := mX5_isDigit) (v := 0) (by decide) dX5_isDigit_16) ?_
    exact go_zret (M := mX5_isDigit) rfl rfl rfl dX5_isDigit_17
  · refine go1 (M := mX5_isDigit) (pc' := 7) (r_iload_n (M := mX5_isDigit) (i := 0) rfl dX5_isDigit_6) ?_
    refine go1 (M := mX5_isDigit) (pc' := 9) (r_bipush (M := mX5_isDigit) (v := 57) (by decide) dX5_isDigit_7) ?_
    refine go_br (M := mX5_isDigit) (pt := 16) (pf := 12) (fun kt kf => r_icmp_gt (M := mX5_isDigit) dX5_isDigit_9 (by decide) kt kf) (fun hc2 => ?_) (fun hc2 => ?_)
    · refine go1 (M := mX5_isDigit) (pc' := 17) (r_iconst (M := mX5_isDigit) (v := 0) (by decide) dX5_isDigit_16) ?_
      exact go_zret (M := mX5_isDigit) rfl rfl rfl dX5_isDigit_17
    · refine go1 (M := mX5_isDigit) (pc' := 13) (r_iconst (M := mX5_isDigit) (v := 1) (by decide) dX5_isDigit_12) ?_
      refine go1 (M := mX5_isDigit) (pc' := 17) (r_goto (M := mX5_isDigit) dX5_isDigit_13 (by decide)) ?_
      exact go_zret (M := mX5_isDigit) rfl rfl rfl dX5_isDigit_17
def lp_X5_endOfNumber_2_b (N : Nat) (S : SH) (bk2 : Int32 → Option Int32) (p0 : Nat) (p2 : Int32) (x : DY) : Option Int32 :=
  (if (x.1 p0 1) ≤ p2 then some p2 else ck S (pr S p0 0) p2 (Option.bind (f_X5_isDigit N S (x.1 (pr S p0 0) p2.toNatClampNeg) x) (fun r5 => (if r5 = 0 then some p2 else bk2 (p2 + 1)))))
set_option maxHeartbeats 1000000 in
theorem lp_X5_endOfNumber_2_b_t {N d : Nat} {S : SH} (hW : WT S) (hd : 2 ≤ d) (bk2 : Int32 → Option Int32) (p0 : Nat) (p2 : Int32) (x : DY) (g0 : TY S p0 5) (hbk2 : ∀ (v2 : Int32), Go mX5_endOfNumber d S (wPI x) 2 [some (.ref p0), none, some (.int v2)] [] x (bk2 v2)) : Go mX5_endOfNumber d S (wPI x) 2 [some (.ref p0), none, some (.int p2)] [] x (lp_X5_endOfNumber_2_b N S bk2 p0 p2 x) := by
  unfold lp_X5_endOfNumber_2_b
  refine go1 (M := mX5_endOfNumber) (pc' := 3) (r_iload_n (M := mX5_endOfNumber) (i := 2) rfl dX5_endOfNumber_2) ?_
  refine go1 (M := mX5_endOfNumber) (pc' := 4) (r_aload_n (M := mX5_endOfNumber) (i := 0) rfl dX5_endOfNumber_3) ?_
  refine go1 (M := mX5_endOfNumber) (pc' := 7) (r_getI (M := mX5_endOfNumber) fl_5_15 g0 rfl dX5_endOfNumber_4) ?_
  refine go_br (M := mX5_endOfNumber) (pt := 28) (pf := 10) (fun kt kf => r_icmp_ge (M := mX5_endOfNumber) dX5_endOfNumber_7 (by decide) kt kf) (fun hc2 => ?_) (fun hc2 => ?_)
  · refine go1 (M := mX5_endOfNumber) (pc' := 29) (r_iload_n (M := mX5_endOfNumber) (i := 2) rfl dX5_endOfNumber_28) ?_
    exact go_iret (M := mX5_endOfNumber) rfl rfl dX5_endOfNumber_29
  · refine go1 (M := mX5_endOfNumber) (pc' := 11) (r_aload_n (M := mX5_endOfNumber) (i := 0) rfl dX5_endOfNumber_10) ?_
    refine go1 (M := mX5_endOfNumber) (pc' := 14) (r_getR (M := mX5_endOfNumber) fl_5_9 g0 rfl (wt_some hW g0 (by decide) (by decide) rfl) dX5_endOfNumber_11) ?_
    have hT3 : TY S (pr S p0 0) 14 := wt hW g0 (by decide) (by decide) rfl (by decide)
    refine go1 (M := mX5_endOfNumber) (pc' := 15) (r_iload_n (M := mX5_endOfNumber) (i := 2) rfl dX5_endOfNumber_14) ?_
    refine go_ck (fun hi4 => ?_)
    refine go1 (M := mX5_endOfNumber) (pc' := 16) (r_iald (M := mX5_endOfNumber) hT3 hi4 dX5_endOfNumber_15) ?_
    refine go_S_PI (M := mX5_endOfNumber) (pc' := 19) (st := []) (As := [.int (x.1 (pr S p0 0) p2.toNatClampNeg)]) rfl ln_5_117 lb_X5_isDigit (t_X5_isDigit (N := N) hW (by omega) ) (by omega) (Nat.le_of_ble_eq_true rfl) rfl dX5_endOfNumber_16 (fun r5 => ?_)
    refine go_br (M := mX5_endOfNumber) (pt := 28) (pf := 22) (fun kt kf => r_if_eq (M := mX5_endOfNumber) dX5_endOfNumber_19 (by decide) kt kf) (fun hc6 => ?_) (fun hc6 => ?_)
    · refine go1 (M := mX5_endOfNumber) (pc' := 29) (r_iload_n (M := mX5_endOfNumber) (i := 2) rfl dX5_endOfNumber_28) ?_
      exact go_iret (M := mX5_endOfNumber) rfl rfl dX5_endOfNumber_29
    · refine go1 (M := mX5_endOfNumber) (pc' := 25) (ls' := [some (.ref p0), none, some (.int (p2 + 1))]) (r_iinc (M := mX5_endOfNumber) (ls := [some (.ref p0), none, some (.int p2)]) (i := 2) (v := p2) (c' := 1) (by decide) rfl (by decide) rfl dX5_endOfNumber_22) ?_
      refine go1 (M := mX5_endOfNumber) (pc' := 2) (r_goto (M := mX5_endOfNumber) dX5_endOfNumber_25 (by decide)) ?_
      exact hbk2 (p2 + 1)
def lp_X5_endOfNumber_2 (N : Nat) (S : SH) (p0 : Nat) (p2 : Int32) (x : DY) : Option Int32 :=
  itr (fun back (v : Int32) => lp_X5_endOfNumber_2_b N S (fun p2 => back p2) p0 v x) N p2
theorem lp_X5_endOfNumber_2_t {N d : Nat} {S : SH} (hW : WT S) (hd : 2 ≤ d) (p0 : Nat) (p2 : Int32) (x : DY) (g0 : TY S p0 5) : Go mX5_endOfNumber d S (wPI x) 2 [some (.ref p0), none, some (.int p2)] [] x (lp_X5_endOfNumber_2 N S p0 p2 x) := by
  unfold lp_X5_endOfNumber_2
  exact go_itr (L := fun (v : Int32) => [some (.ref p0), none, some (.int v)]) (X := fun (v : Int32) => x) (fun back hB v => lp_X5_endOfNumber_2_b_t (N := N) hW hd (fun p2 => back p2) p0 v x g0 (fun p2 => hB p2) ) N p2
def f_X5_endOfNumber (N : Nat) (S : SH) (a0 : Nat) (a1 : Int32) (x : DY) : Option Int32 :=
  lp_X5_endOfNumber_2 N S a0 a1 x
set_option maxHeartbeats 1000000 in
theorem t_X5_endOfNumber {N d : Nat} {S : SH} (hW : WT S) {x : DY} {a0 : Nat} {a1 : Int32} (hd : 2 ≤ d) (h0 : TY S a0 5) : CT mX5_endOfNumber d S [.ref a0, .int a1] x (wPI x) (f_X5_endOfNumber N S a0 a1 x) := by
  refine CT.of [some (.ref a0), some (.int a1), none] rfl (Nat.le_of_ble_eq_true rfl) (by decide +kernel) ?_
  unfold f_X5_endOfNumber
  refine go1 (M := mX5_endOfNumber) (pc' := 1) (r_iload_n (M := mX5_endOfNumber) (i := 1) rfl dX5_endOfNumber_0) ?_
  refine go1 (M := mX5_endOfNumber) (pc' := 2) (ls' := [some (.ref a0), some (.int a1), some (.int a1)]) (r_istore_n (M := mX5_endOfNumber) (ls := [some (.ref a0), some (.int a1), none]) (i := 2) (v := a1) (by decide) rfl dX5_endOfNumber_1) ?_
  refine go_drop (ls' := [some (.ref a0), none, some (.int a1)]) (And.intro rfl (And.intro rfl trivial)) ?_
  refine lp_X5_endOfNumber_2_t (N := N) hW (by omega) a0 a1 x h0
def lp_X5_addNumber_5_b (N : Nat) (S : SH) (k33 : Int32 → Option DY) (bk5 : Int32 → Int32 → Option DY) (p0 : Nat) (p1 : Int32) (p2 : Int32) (p3 : Int32) (p4 : Int32) (x : DY) : Option DY :=
  (if p2 ≤ p4 then k33 p3 else ck S (pr S p0 0) p4 (bk5 (((p3 * 10) + (x.1 (pr S p0 0) p4.toNatClampNeg)) - 48) (p4 + 1)))
set_option maxHeartbeats 1000000 in
theorem lp_X5_addNumber_5_b_t {N d : Nat} {S : SH} (hW : WT S) (hd : 1 ≤ d) (k33 : Int32 → Option DY) (bk5 : Int32 → Int32 → Option DY) (p0 : Nat) (p1 : Int32) (p2 : Int32) (p3 : Int32) (p4 : Int32) (x : DY) (g0 : TY S p0 5) (hk33 : ∀ (v3 : Int32), Go mX5_addNumber d S wSV 33 [some (.ref p0), some (.int p1), some (.int p2), some (.int v3), none] [] x (k33 v3)) (hbk5 : ∀ (v3 : Int32) (v4 : Int32), Go mX5_addNumber d S wSV 5 [some (.ref p0), some (.int p1), some (.int p2), some (.int v3), some (.int v4)] [] x (bk5 v3 v4)) : Go mX5_addNumber d S wSV 5 [some (.ref p0), some (.int p1), some (.int p2), some (.int p3), some (.int p4)] [] x (lp_X5_addNumber_5_b N S k33 bk5 p0 p1 p2 p3 p4 x) := by
  unfold lp_X5_addNumber_5_b
  refine go1 (M := mX5_addNumber) (pc' := 7) (r_iload (M := mX5_addNumber) (i := 4) rfl dX5_addNumber_5) ?_
  refine go1 (M := mX5_addNumber) (pc' := 8) (r_iload_n (M := mX5_addNumber) (i := 2) rfl dX5_addNumber_7) ?_
  refine go_br (M := mX5_addNumber) (pt := 33) (pf := 11) (fun kt kf => r_icmp_ge (M := mX5_addNumber) dX5_addNumber_8 (by decide) kt kf) (fun hc2 => ?_) (fun hc2 => ?_)
  · refine go_drop (ls' := [some (.ref p0), some (.int p1), some (.int p2), some (.int p3), none]) (And.intro rfl (And.intro rfl (And.intro rfl (And.intro rfl trivial)))) ?_
    exact hk33 p3
  · refine go1 (M := mX5_addNumber) (pc' := 12) (r_iload_n (M := mX5_addNumber) (i := 3) rfl dX5_addNumber_11) ?_
    refine go1 (M := mX5_addNumber) (pc' := 14) (r_bipush (M := mX5_addNumber) (v := 10) (by decide) dX5_addNumber_12) ?_
    refine go1 (M := mX5_addNumber) (pc' := 15) (r_imul (M := mX5_addNumber) dX5_addNumber_14) ?_
    refine go1 (M := mX5_addNumber) (pc' := 16) (r_aload_n (M := mX5_addNumber) (i := 0) rfl dX5_addNumber_15) ?_
    refine go1 (M := mX5_addNumber) (pc' := 19) (r_getR (M := mX5_addNumber) fl_5_9 g0 rfl (wt_some hW g0 (by decide) (by decide) rfl) dX5_addNumber_16) ?_
    have hT3 : TY S (pr S p0 0) 14 := wt hW g0 (by decide) (by decide) rfl (by decide)
    refine go1 (M := mX5_addNumber) (pc' := 21) (r_iload (M := mX5_addNumber) (i := 4) rfl dX5_addNumber_19) ?_
    refine go_ck (fun hi4 => ?_)
    refine go1 (M := mX5_addNumber) (pc' := 22) (r_iald (M := mX5_addNumber) hT3 hi4 dX5_addNumber_21) ?_
    refine go1 (M := mX5_addNumber) (pc' := 23) (r_iadd (M := mX5_addNumber) dX5_addNumber_22) ?_
    refine go1 (M := mX5_addNumber) (pc' := 25) (r_bipush (M := mX5_addNumber) (v := 48) (by decide) dX5_addNumber_23) ?_
    refine go1 (M := mX5_addNumber) (pc' := 26) (r_isub (M := mX5_addNumber) dX5_addNumber_25) ?_
    refine go1 (M := mX5_addNumber) (pc' := 27) (ls' := [some (.ref p0), some (.int p1), some (.int p2), some (.int (((p3 * 10) + (x.1 (pr S p0 0) p4.toNatClampNeg)) - 48)), some (.int p4)]) (r_istore_n (M := mX5_addNumber) (ls := [some (.ref p0), some (.int p1), some (.int p2), some (.int p3), some (.int p4)]) (i := 3) (v := (((p3 * 10) + (x.1 (pr S p0 0) p4.toNatClampNeg)) - 48)) (by decide) rfl dX5_addNumber_26) ?_
    refine go1 (M := mX5_addNumber) (pc' := 30) (ls' := [some (.ref p0), some (.int p1), some (.int p2), some (.int (((p3 * 10) + (x.1 (pr S p0 0) p4.toNatClampNeg)) - 48)), some (.int (p4 + 1))]) (r_iinc (M := mX5_addNumber) (ls := [some (.ref p0), some (.int p1), some (.int p2), some (.int (((p3 * 10) + (x.1 (pr S p0 0) p4.toNatClampNeg)) - 48)), some (.int p4)]) (i := 4) (v := p4) (c' := 1) (by decide) rfl (by decide) rfl dX5_addNumber_27) ?_
    refine go1 (M := mX5_addNumber) (pc' := 5) (r_goto (M := mX5_addNumber) dX5_addNumber_30 (by decide)) ?_
    exact hbk5 (((p3 * 10) + (x.1 (pr S p0 0) p4.toNatClampNeg)) - 48) (p4 + 1)
def lp_X5_addNumber_5 (N : Nat) (S : SH) (k33 : Int32 → Option DY) (p0 : Nat) (p1 : Int32) (p2 : Int32) (p3 : Int32) (p4 : Int32) (x : DY) : Option DY :=
  itr (fun back (v : Int32 × Int32) => lp_X5_addNumber_5_b N S k33 (fun p3 p4 => back (p3, p4)) p0 p1 p2 v.1 v.2 x) N (p3, p4)
theorem lp_X5_addNumber_5_t {N d : Nat} {S : SH} (hW : WT S) (hd : 1 ≤ d) (k33 : Int32 → Option DY) (p0 : Nat) (p1 : Int32) (p2 : Int32) (p3 : Int32) (p4 : Int32) (x : DY) (g0 : TY S p0 5) (hk33 : ∀ (v3 : Int32), Go mX5_addNumber d S wSV 33 [some (.ref p0), some (.int p1), some (.int p2), some (.int v3), none] [] x (k33 v3)) : Go mX5_addNumber d S wSV 5 [some (.ref p0), some (.int p1), some (.int p2), some (.int p3), some (.int p4)] [] x (lp_X5_addNumber_5 N S k33 p0 p1 p2 p3 p4 x) := by
  unfold lp_X5_addNumber_5
  exact go_itr (L := fun (v : Int32 × Int32) => [some (.ref p0), some (.int p1), some (.int p2), some (.int v.1), some (.int v.2)]) (X := fun (v : Int32 × Int32) => x) (fun back hB v => lp_X5_addNumber_5_b_t (N := N) hW hd k33 (fun p3 p4 => back (p3, p4)) p0 p1 p2 v.1 v.2 x g0 hk33 (fun p3 p4 => hB (p3, p4)) ) N (p3, p4)
def j_X5_addNumber_48 (N : Nat) (S : SH) (p1 : Int32) (p3 : Int32) (q0 : Int32) (q1 : Nat) (x : DY) : Option DY :=
  Option.bind (f_X5_addToken N S q1 q0 p1 p3 x) (fun r7 => some r7)
set_option maxHeartbeats 1000000 in
theorem j_X5_addNumber_48_t {N d : Nat} {S : SH} (hW : WT S) (hd : 2 ≤ d) (p1 : Int32) (p3 : Int32) (q0 : Int32) (q1 : Nat) (x : DY) (gq1 : TY S q1 5) : Go mX5_addNumber d S wSV 48 [none, some (.int p1), none, some (.int p3), none] [.int q0, .ref q1] x (j_X5_addNumber_48 N S p1 p3 q0 q1 x) := by
  unfold j_X5_addNumber_48
  refine go1 (M := mX5_addNumber) (pc' := 49) (r_iload_n (M := mX5_addNumber) (i := 1) rfl dX5_addNumber_48) ?_
  refine go1 (M := mX5_addNumber) (pc' := 50) (r_iload_n (M := mX5_addNumber) (i := 3) rfl dX5_addNumber_49) ?_
  refine go_V_SV (M := mX5_addNumber) (pc' := 53) (st := []) (As := [.int q0, .int p1, .int p3]) rfl ln_5_129 lb_X5_addToken (t_X5_addToken (N := N) hW (by omega) gq1) (by omega) gq1 (Nat.le_of_ble_eq_true rfl) rfl dX5_addNumber_50 (fun r7 => ?_)
  exact go_vret (M := mX5_addNumber) rfl rfl dX5_addNumber_53
def f_X5_addNumber (N : Nat) (S : SH) (a0 : Nat) (a1 : Int32) (a2 : Int32) (x : DY) : Option DY :=
  lp_X5_addNumber_5 N S (fun e3_4 => (if (a2 - a1) ≤ 4 then j_X5_addNumber_48 N S a1 e3_4 (-3) a0 x else j_X5_addNumber_48 N S a1 e3_4 (-2) a0 x)) a0 a1 a2 0 a1 x
set_option maxHeartbeats 1000000 in
theorem t_X5_addNumber {N d : Nat} {S : SH} (hW : WT S) {x : DY} {a0 : Nat} {a1 : Int32} {a2 : Int32} (hd : 2 ≤ d) (h0 : TY S a0 5) : CT mX5_addNumber d S [.ref a0, .int a1, .int a2] x wSV (f_X5_addNumber N S a0 a1 a2 x) := by
  refine CT.of [some (.ref a0), some (.int a1), some (.int a2), none, none] rfl (Nat.le_of_ble_eq_true rfl) (by decide +kernel) ?_
  unfold f_X5_addNumber
  refine go1 (M := mX5_addNumber) (pc' := 1) (r_iconst (M := mX5_addNumber) (v := 0) (by decide) dX5_addNumber_0) ?_
  refine go1 (M := mX5_addNumber) (pc' := 2) (ls' := [some (.ref a0), some (.int a1), some (.int a2), some (.int 0), none]) (r_istore_n (M := mX5_addNumber) (ls := [some (.ref a0), some (.int a1), some (.int a2), none, none]) (i := 3) (v := 0) (by decide) rfl dX5_addNumber_1) ?_
  refine go1 (M := mX5_addNumber) (pc' := 3) (r_iload_n (M := mX5_addNumber) (i := 1) rfl dX5_addNumber_2) ?_
  refine go1 (M := mX5_addNumber) (pc' := 5) (ls' := [some (.ref a0), some (.int a1), some (.int a2), some (.int 0), some (.int a1)]) (r_istore (M := mX5_addNumber) (ls := [some (.ref a0), some (.int a1), some (.int a2), some (.int 0), none]) (i := 4) (v := a1) (by decide) rfl dX5_addNumber_3) ?_
  refine lp_X5_addNumber_5_t (N := N) hW (by omega) _ a0 a1 a2 0 a1 x h0 ?_
  · intro e3_4
    refine go1 (M := mX5_addNumber) (pc' := 34) (r_aload_n (M := mX5_addNumber) (i := 0) rfl dX5_addNumber_33) ?_
    refine go1 (M := mX5_addNumber) (pc' := 35) (r_iload_n (M := mX5_addNumber) (i := 2) rfl dX5_addNumber_34) ?_
    refine go1 (M := mX5_addNumber) (pc' := 36) (r_iload_n (M := mX5_addNumber) (i := 1) rfl dX5_addNumber_35) ?_
    refine go1 (M := mX5_addNumber) (pc' := 37) (r_isub (M := mX5_addNumber) dX5_addNumber_36) ?_
    refine go1 (M := mX5_addNumber) (pc' := 38) (r_iconst (M := mX5_addNumber) (v := 4) (by decide) dX5_addNumber_37) ?_
    refine go_br (M := mX5_addNumber) (pt := 46) (pf := 41) (fun kt kf => r_icmp_le (M := mX5_addNumber) dX5_addNumber_38 (by decide) kt kf) (fun hc6 => ?_) (fun hc6 => ?_)
    · refine go1 (M := mX5_addNumber) (pc' := 48) (r_bipush (M := mX5_addNumber) (v := (-3)) (by decide) dX5_addNumber_46) ?_
      refine go_drop (ls' := [none, some (.int a1), none, some (.int e3_4), none]) (And.intro rfl (And.intro rfl trivial)) ?_
      exact j_X5_addNumber_48_t (N := N) hW (by omega) a1 e3_4 (-3) a0 x h0
    · refine go1 (M := mX5_addNumber) (pc' := 43) (r_bipush (M := mX5_addNumber) (v := (-2)) (by decide) dX5_addNumber_41) ?_
      refine go1 (M := mX5_addNumber) (pc' := 48) (r_goto (M := mX5_addNumber) dX5_addNumber_43 (by decide)) ?_
      refine go_drop (ls' := [none, some (.int a1), none, some (.int e3_4), none]) (And.intro rfl (And.intro rfl trivial)) ?_
      exact j_X5_addNumber_48_t (N := N) hW (by omega) a1 e3_4 (-2) a0 x h0
def f_X5_isSign (N : Nat) (S : SH) (a0 : Int32) (x : DY) : Option Int32 :=
  (if a0 = 40 then some 1 else (if a0 = 41 then some 1 else (if a0 = 42 then some 1 else (if a0 = 43 then some 1 else (if a0 = 44 then some 0 else (if a0 = 45 then some 1 else (if a0 = 46 then some 0 else (if a0 = 47 then some 0 else (if a0 = 48 then some 0 else (if a0 = 49 then some 0 else (if a0 = 50 then some 0 else (if a0 = 51 then some 0 else (if a0 = 52 then some 0 else (if a0 = 53 then some 0 else (if a0 = 54 then some 0 else (if a0 = 55 then some 0 else (if a0 = 56 then some 0 else (if a0 = 57 then some 0 else (if a0 = 58 then some 0 else (if a0 = 59 then some 1 else (if a0 = 60 then some 1 else (if a0 = 61 then some 1 else some 0))))))))))))))))))))))
set_option maxHeartbeats 1000000 in
theorem t_X5_isSign {N d : Nat} {S : SH} (hW : WT S) {x : DY} {a0 : Int32} (hd : 1 ≤ d) : CT mX5_isSign d S [.int a0] x (wPI x) (f_X5_isSign N S a0 x) := by
  refine CT.of [some (.int a0)] rfl (Nat.le_of_ble_eq_true rfl) (by decide +kernel) ?_
  unfold f_X5_isSign
  refine go1 (M := mX5_isSign) (pc' := 1) (r_iload_n (M := mX5_isSign) (i := 0) rfl dX5_isSign_0) ?_
  refine go_case (fun hk1 => ?_) (fun hk1 => ?_)
  · refine go1 (M := mX5_isSign) (pc' := 104) (r_tsw (M := mX5_isSign) (off := 103) dX5_isSign_1 (by rw [hk1]; decide) (by decide)) ?_
    refine go1 (M := mX5_isSign) (pc' := 105) (r_iconst (M := mX5_isSign) (v := 1) (by decide) dX5_isSign_104) ?_
    exact go_zret (M := mX5_isSign) rfl rfl rfl dX5_isSign_105
  · refine go_case (fun hk2 => ?_) (fun hk2 => ?_)
    · refine go1 (M := mX5_isSign) (pc' := 104) (r_tsw (M := mX5_isSign) (off := 103) dX5_isSign_1 (by rw [hk2]; decide) (by decide)) ?_
      refine go1 (M := mX5_isSign) (pc' := 105) (r_iconst (M := mX5_isSign) (v := 1) (by decide) dX5_isSign_104) ?_
      exact go_zret (M := mX5_isSign) rfl rfl rfl dX5_isSign_105
    · refine go_case (fun hk3 => ?_) (fun hk3 => ?_)
      · refine go1 (M := mX5_isSign) (pc' := 104) (r_tsw (M := mX5_isSign) (off := 103) dX5_isSign_1 (by rw [hk3]; decide) (by decide)) ?_
        refine go1 (M := mX5_isSign) (pc' := 105) (r_iconst (M := mX5_isSign) (v := 1) (by decide) dX5_isSign_104) ?_
        exact go_zret (M := mX5_isSign) rfl rfl rfl dX5_isSign_105
      · refine go_case (fun hk4 => ?_) (fun hk4 => ?_)
        · refine go1 (M := mX5_isSign) (pc' := 104) (r_tsw (M := mX5_isSign) (off := 103) dX5_isSign_1 (by rw [hk4]; decide) (by decide)) ?_
          refine go1 (M := mX5_isSign) (pc' := 105) (r_iconst (M := mX5_isSign) (v := 1) (by decide) dX5_isSign_104) ?_
          exact go_zret (M := mX5_isSign) rfl rfl rfl dX5_isSign_105
        · refine go_case (fun hk5 => ?_) (fun hk5 => ?_)
          · refine go1 (M := mX5_isSign) (pc' := 106) (r_tsw (M := mX5_isSign) (off := 105) dX5_isSign_1 (by rw [hk5]; decide) (by decide)) ?_
            refine go1 (M := mX5_isSign) (pc' := 107) (r_iconst (M := mX5_isSign) (v := 0) (by decide) dX5_isSign_106) ?_
            exact go_zret (M := mX5_isSign) rfl rfl rfl dX5_isSign_107
          · refine go_case (fun hk6 => ?_) (fun hk6 => ?_)
            · refine go1 (M := mX5_isSign) (pc' := 104) (r_tsw (M := mX5_isSign) (off := 103) dX5_isSign_1 (by rw [hk6]; decide) (by decide)) ?_
              refine go1 (M := mX5_isSign) (pc' := 105) (r_iconst (M := mX5_isSign) (v := 1) (by decide) dX5_isSign_104) ?_
              exact go_zret (M := mX5_isSign) rfl rfl rfl dX5_isSign_105
            · refine go_case (fun hk7 => ?_) (fun hk7 => ?_)
              · refine go1 (M := mX5_isSign) (pc' := 106) (r_tsw (M := mX5_isSign) (off := 105) dX5_isSign_1 (by rw [hk7]; decide) (by decide)) ?_
                refine go1 (M := mX5_isSign) (pc' := 107) (r_iconst (M := mX5_isSign) (v := 0) (by decide) dX5_isSign_106) ?_
                exact go_zret (M := mX5_isSign) rfl rfl rfl dX5_isSign_107
              · refine go_case (fun hk8 => ?_) (fun hk8 => ?_)
                · refine go1 (M := mX5_isSign) (pc' := 106) (r_tsw (M := mX5_isSign) (off := 105) dX5_isSign_1 (by rw [hk8]; decide) (by decide)) ?_
                  refine go1 (M := mX5_isSign) (pc' := 107) (r_iconst (M := mX5_isSign) (v := 0) (by decide) dX5_isSign_106) ?_
                  exact go_zret (M := mX5_isSign) rfl rfl rfl dX5_isSign_107
                · refine go_case (fun hk9 => ?_) (fun hk9 => ?_)
                  · refine go1 (M := mX5_isSign) (pc' := 106) (r_tsw (M := mX5_isSign) (off := 105) dX5_isSign_1 (by rw [hk9]; decide) (by decide)) ?_
                    refine go1 (M := mX5_isSign) (pc' := 107) (r_iconst (M := mX5_isSign) (v := 0) (by decide) dX5_isSign_106) ?_
                    exact go_zret (M := mX5_isSign) rfl rfl rfl dX5_isSign_107
                  · refine go_case (fun hk10 => ?_) (fun hk10 => ?_)
                    · refine go1 (M := mX5_isSign) (pc' := 106) (r_tsw (M := mX5_isSign) (off := 105) dX5_isSign_1 (by rw [hk10]; decide) (by decide)) ?_
                      refine go1 (M := mX5_isSign) (pc' := 107) (r_iconst (M := mX5_isSign) (v := 0) (by decide) dX5_isSign_106) ?_
                      exact go_zret (M := mX5_isSign) rfl rfl rfl dX5_isSign_107
                    · refine go_case (fun hk11 => ?_) (fun hk11 => ?_)
                      · refine go1 (M := mX5_isSign) (pc' := 106) (r_tsw (M := mX5_isSign) (off := 105) dX5_isSign_1 (by rw [hk11]; decide) (by decide)) ?_
                        refine go1 (M := mX5_isSign) (pc' := 107) (r_iconst (M := mX5_isSign) (v := 0) (by decide) dX5_isSign_106) ?_
                        exact go_zret (M := mX5_isSign) rfl rfl rfl dX5_isSign_107
                      · refine go_case (fun hk12 => ?_) (fun hk12 => ?_)
                        · refine go1 (M := mX5_isSign) (pc' := 106) (r_tsw (M := mX5_isSign) (off := 105) dX5_isSign_1 (by rw [hk12]; decide) (by decide)) ?_
                          refine go1 (M := mX5_isSign) (pc' := 107) (r_iconst (M := mX5_isSign) (v := 0) (by decide) dX5_isSign_106) ?_
                          exact go_zret (M := mX5_isSign) rfl rfl rfl dX5_isSign_107
                        · refine go_case (fun hk13 => ?_) (fun hk13 => ?_)
                          · refine go1 (M := mX5_isSign) (pc' := 106) (r_tsw (M := mX5_isSign) (off := 105) dX5_isSign_1 (by rw [hk13]; decide) (by decide)) ?_
                            refine go1 (M := mX5_isSign) (pc' := 107) (r_iconst (M := mX5_isSign) (v := 0) (by decide) dX5_isSign_106) ?_
                            exact go_zret (M := mX5_isSign) rfl rfl rfl dX5_isSign_107
                          · refine go_case (fun hk14 => ?_) (fun hk14 => ?_)
                            · refine go1 (M := mX5_isSign) (pc' := 106) (r_tsw (M := mX5_isSign) (off := 105) dX5_isSign_1 (by rw [hk14]; decide) (by decide)) ?_
                              refine go1 (M := mX5_isSign) (pc' := 107) (r_iconst (M := mX5_isSign) (v := 0) (by decide) dX5_isSign_106) ?_
                              exact go_zret (M := mX5_isSign) rfl rfl rfl dX5_isSign_107
                            · refine go_case (fun hk15 => ?_) (fun hk15 => ?_)
                              · refine go1 (M := mX5_isSign) (pc' := 106) (r_tsw (M := mX5_isSign) (off := 105) dX5_isSign_1 (by rw [hk15]; decide) (by decide)) ?_
                                refine go1 (M := mX5_isSign) (pc' := 107) (r_iconst (M := mX5_isSign) (v := 0) (by decide) dX5_isSign_106) ?_
                                exact go_zret (M := mX5_isSign) rfl rfl rfl dX5_isSign_107
                              · refine go_case (fun hk16 => ?_) (fun hk16 => ?_)
                                · refine go1 (M := mX5_isSign) (pc' := 106) (r_tsw (M := mX5_isSign) (off := 105) dX5_isSign_1 (by rw [hk16]; decide) (by decide)) ?_
                                  refine go1 (M := mX5_isSign) (pc' := 107) (r_iconst (M := mX5_isSign) (v := 0) (by decide) dX5_isSign_106) ?_
                                  exact go_zret (M := mX5_isSign) rfl rfl rfl dX5_isSign_107
                                · refine go_case (fun hk17 => ?_) (fun hk17 => ?_)
                                  · refine go1 (M := mX5_isSign) (pc' := 106) (r_tsw (M := mX5_isSign) (off := 105) dX5_isSign_1 (by rw [hk17]; decide) (by decide)) ?_
                                    refine go1 (M := mX5_isSign) (pc' := 107) (r_iconst (M := mX5_isSign) (v := 0) (by decide) dX5_isSign_106) ?_
                                    exact go_zret (M := mX5_isSign) rfl rfl rfl dX5_isSign_107
                                  · refine go_case (fun hk18 => ?_) (fun hk18 => ?_)
                                    · refine go1 (M := mX5_isSign) (pc' := 106) (r_tsw (M := mX5_isSign) (off := 105) dX5_isSign_1 (by rw [hk18]; decide) (by decide)) ?_
                                      refine go1 (M := mX5_isSign) (pc' := 107) (r_iconst (M := mX5_isSign) (v := 0) (by decide) dX5_isSign_106) ?_
                                      exact go_zret (M := mX5_isSign) rfl rfl rfl dX5_isSign_107
                                    · refine go_case (fun hk19 => ?_) (fun hk19 => ?_)
                                      · refine go1 (M := mX5_isSign) (pc' := 106) (r_tsw (M := mX5_isSign) (off := 105) dX5_isSign_1 (by rw [hk19]; decide) (by decide)) ?_
                                        refine go1 (M := mX5_isSign) (pc' := 107) (r_iconst (M := mX5_isSign) (v := 0) (by decide) dX5_isSign_106) ?_
                                        exact go_zret (M := mX5_isSign) rfl rfl rfl dX5_isSign_107
                                      · refine go_case (fun hk20 => ?_) (fun hk20 => ?_)
                                        · refine go1 (M := mX5_isSign) (pc' := 104) (r_tsw (M := mX5_isSign) (off := 103) dX5_isSign_1 (by rw [hk20]; decide) (by decide)) ?_
                                          refine go1 (M := mX5_isSign) (pc' := 105) (r_iconst (M := mX5_isSign) (v := 1) (by decide) dX5_isSign_104) ?_
                                          exact go_zret (M := mX5_isSign) rfl rfl rfl dX5_isSign_105
                                        · refine go_case (fun hk21 => ?_) (fun hk21 => ?_)
                                          · refine go1 (M := mX5_isSign) (pc' := 104) (r_tsw (M := mX5_isSign) (off := 103) dX5_isSign_1 (by rw [hk21]; decide) (by decide)) ?_
                                            refine go1 (M := mX5_isSign) (pc' := 105) (r_iconst (M := mX5_isSign) (v := 1) (by decide) dX5_isSign_104) ?_
                                            exact go_zret (M := mX5_isSign) rfl rfl rfl dX5_isSign_105
                                          · refine go_case (fun hk22 => ?_) (fun hk22 => ?_)
                                            · refine go1 (M := mX5_isSign) (pc' := 104) (r_tsw (M := mX5_isSign) (off := 103) dX5_isSign_1 (by rw [hk22]; decide) (by decide)) ?_
                                              refine go1 (M := mX5_isSign) (pc' := 105) (r_iconst (M := mX5_isSign) (v := 1) (by decide) dX5_isSign_104) ?_
                                              exact go_zret (M := mX5_isSign) rfl rfl rfl dX5_isSign_105
                                            · have hq0 := lv_neT hk1 (show (40 : Int32).toInt = (40 : Int) by decide)
                                              have hq1 := lv_neT hk2 (show (41 : Int32).toInt = (41 : Int) by decide)
                                              have hq2 := lv_neT hk3 (show (42 : Int32).toInt = (42 : Int) by decide)
                                              have hq3 := lv_neT hk4 (show (43 : Int32).toInt = (43 : Int) by decide)
                                              have hq4 := lv_neT hk5 (show (44 : Int32).toInt = (44 : Int) by decide)
                                              have hq5 := lv_neT hk6 (show (45 : Int32).toInt = (45 : Int) by decide)
                                              have hq6 := lv_neT hk7 (show (46 : Int32).toInt = (46 : Int) by decide)
                                              have hq7 := lv_neT hk8 (show (47 : Int32).toInt = (47 : Int) by decide)
                                              have hq8 := lv_neT hk9 (show (48 : Int32).toInt = (48 : Int) by decide)
                                              have hq9 := lv_neT hk10 (show (49 : Int32).toInt = (49 : Int) by decide)
                                              have hq10 := lv_neT hk11 (show (50 : Int32).toInt = (50 : Int) by decide)
                                              have hq11 := lv_neT hk12 (show (51 : Int32).toInt = (51 : Int) by decide)
                                              have hq12 := lv_neT hk13 (show (52 : Int32).toInt = (52 : Int) by decide)
                                              have hq13 := lv_neT hk14 (show (53 : Int32).toInt = (53 : Int) by decide)
                                              have hq14 := lv_neT hk15 (show (54 : Int32).toInt = (54 : Int) by decide)
                                              have hq15 := lv_neT hk16 (show (55 : Int32).toInt = (55 : Int) by decide)
                                              have hq16 := lv_neT hk17 (show (56 : Int32).toInt = (56 : Int) by decide)
                                              have hq17 := lv_neT hk18 (show (57 : Int32).toInt = (57 : Int) by decide)
                                              have hq18 := lv_neT hk19 (show (58 : Int32).toInt = (58 : Int) by decide)
                                              have hq19 := lv_neT hk20 (show (59 : Int32).toInt = (59 : Int) by decide)
                                              have hq20 := lv_neT hk21 (show (60 : Int32).toInt = (60 : Int) by decide)
                                              have hq21 := lv_neT hk22 (show (61 : Int32).toInt = (61 : Int) by decide)
                                              refine go1 (M := mX5_isSign) (pc' := 106) (r_tswO (M := mX5_isSign) dX5_isSign_1 (by omega) (by decide)) ?_
                                              refine go1 (M := mX5_isSign) (pc' := 107) (r_iconst (M := mX5_isSign) (v := 0) (by decide) dX5_isSign_106) ?_
                                              exact go_zret (M := mX5_isSign) rfl rfl rfl dX5_isSign_107
def j_X5_cutTokens_117 (N : Nat) (S : SH) (bk9 : Int32 → Int32 → DY → Option DY) (p0 : Nat) (p2 : Int32) (p3 : Int32) (x : DY) : Option DY :=
  bk9 p3 (p2 + 1) x
set_option maxHeartbeats 1000000 in
theorem j_X5_cutTokens_117_t {N d : Nat} {S : SH} (hW : WT S) (hd : 2 ≤ d) (bk9 : Int32 → Int32 → DY → Option DY) (p0 : Nat) (p2 : Int32) (p3 : Int32) (x : DY) (g0 : TY S p0 5) (hbk9 : ∀ (v1 : Int32) (v2 : Int32) (y : DY), Go mX5_cutTokens d S wSV 9 [some (.ref p0), some (.int v1), some (.int v2), none, none] [] y (bk9 v1 v2 y)) : Go mX5_cutTokens d S wSV 117 [some (.ref p0), none, some (.int p2), some (.int p3), none] [] x (j_X5_cutTokens_117 N S bk9 p0 p2 p3 x) := by
  unfold j_X5_cutTokens_117
  refine go1 (M := mX5_cutTokens) (pc' := 118) (r_iload_n (M := mX5_cutTokens) (i := 3) rfl dX5_cutTokens_117) ?_
  refine go1 (M := mX5_cutTokens) (pc' := 119) (ls' := [some (.ref p0), some (.int p3), some (.int p2), some (.int p3), none]) (r_istore_n (M := mX5_cutTokens) (ls := [some (.ref p0), none, some (.int p2), some (.int p3), none]) (i := 1) (v := p3) (by decide) rfl dX5_cutTokens_118) ?_
  refine go1 (M := mX5_cutTokens) (pc' := 122) (ls' := [some (.ref p0), some (.int p3), some (.int (p2 + 1)), some (.int p3), none]) (r_iinc (M := mX5_cutTokens) (ls := [some (.ref p0), some (.int p3), some (.int p2), some (.int p3), none]) (i := 2) (v := p2) (c' := 1) (by decide) rfl (by decide) rfl dX5_cutTokens_119) ?_
  refine go1 (M := mX5_cutTokens) (pc' := 9) (r_goto (M := mX5_cutTokens) dX5_cutTokens_122 (by decide)) ?_
  refine go_drop (ls' := [some (.ref p0), some (.int p3), some (.int (p2 + 1)), none, none]) (And.intro rfl (And.intro rfl (And.intro rfl trivial))) ?_
  exact hbk9 p3 (p2 + 1) x
def j_X5_cutTokens_112 (N : Nat) (S : SH) (bk9 : Int32 → Int32 → DY → Option DY) (p0 : Nat) (p1 : Int32) (p2 : Int32) (p3 : Int32) (q0 : Int32) (q1 : Nat) (x : DY) : Option DY :=
  Option.bind (f_X5_addToken N S q1 q0 p1 0 x) (fun r15 => j_X5_cutTokens_117 N S bk9 p0 p2 p3 r15)
set_option maxHeartbeats 1000000 in
theorem j_X5_cutTokens_112_t {N d : Nat} {S : SH} (hW : WT S) (hd : 2 ≤ d) (bk9 : Int32 → Int32 → DY → Option DY) (p0 : Nat) (p1 : Int32) (p2 : Int32) (p3 : Int32) (q0 : Int32) (q1 : Nat) (x : DY) (g0 : TY S p0 5) (gq1 : TY S q1 5) (hbk9 : ∀ (v1 : Int32) (v2 : Int32) (y : DY), Go mX5_cutTokens d S wSV 9 [some (.ref p0), some (.int v1), some (.int v2), none, none] [] y (bk9 v1 v2 y)) : Go mX5_cutTokens d S wSV 112 [some (.ref p0), some (.int p1), some (.int p2), some (.int p3), none] [.int q0, .ref q1] x (j_X5_cutTokens_112 N S bk9 p0 p1 p2 p3 q0 q1 x) := by
  unfold j_X5_cutTokens_112
  refine go1 (M := mX5_cutTokens) (pc' := 113) (r_iload_n (M := mX5_cutTokens) (i := 1) rfl dX5_cutTokens_112) ?_
  refine go1 (M := mX5_cutTokens) (pc' := 114) (r_iconst (M := mX5_cutTokens) (v := 0) (by decide) dX5_cutTokens_113) ?_
  refine go_V_SV (M := mX5_cutTokens) (pc' := 117) (st := []) (As := [.int q0, .int p1, .int 0]) rfl ln_5_129 lb_X5_addToken (t_X5_addToken (N := N) hW (by omega) gq1) (by omega) gq1 (Nat.le_of_ble_eq_true rfl) rfl dX5_cutTokens_114 (fun r15 => ?_)
  refine go_drop (ls' := [some (.ref p0), none, some (.int p2), some (.int p3), none]) (And.intro rfl (And.intro rfl (And.intro rfl trivial))) ?_
  exact j_X5_cutTokens_117_t (N := N) hW (by omega) bk9 p0 p2 p3 r15 g0 hbk9
def lp_X5_cutTokens_9_b (N : Nat) (S : SH) (bk9 : Int32 → Int32 → DY → Option DY) (p0 : Nat) (p1 : Int32) (p2 : Int32) (x : DY) : Option DY :=
  (if 160 ≤ p2 then some x else (if (x.1 p0 1) ≤ p1 then some x else ck S (pr S p0 0) p1 (Option.bind (f_X5_isLetter N S (x.1 (pr S p0 0) p1.toNatClampNeg) x) (fun r7 => (if r7 = 0 then Option.bind (f_X5_isDigit N S (x.1 (pr S p0 0) p1.toNatClampNeg) x) (fun r9 => (if r9 = 0 then (if (x.1 (pr S p0 0) p1.toNatClampNeg) = 32 then j_X5_cutTokens_117 N S bk9 p0 p2 (p1 + 1) x else (if (x.1 (pr S p0 0) p1.toNatClampNeg) = 10 then j_X5_cutTokens_117 N S bk9 p0 p2 (p1 + 1) x else Option.bind (f_X5_isSign N S (x.1 (pr S p0 0) p1.toNatClampNeg) x) (fun r13 => (if r13 = 0 then j_X5_cutTokens_112 N S bk9 p0 p1 p2 (p1 + 1) (-2) p0 x else j_X5_cutTokens_112 N S bk9 p0 p1 p2 (p1 + 1) (x.1 (pr S p0 0) p1.toNatClampNeg) p0 x)))) else Option.bind (f_X5_endOfNumber N S p0 p1 x) (fun r16 => Option.bind (f_X5_addNumber N S p0 p1 r16 x) (fun r17 => j_X5_cutTokens_117 N S bk9 p0 p2 r16 r17)))) else Option.bind (f_X5_endOfWord N S p0 p1 x) (fun r18 => Option.bind (f_X5_addWord N S p0 p1 r18 x) (fun r19 => j_X5_cutTokens_117 N S bk9 p0 p2 r18 r19)))))))
set_option maxHeartbeats 1000000 in
theorem lp_X5_cutTokens_9_b_t {N d : Nat} {S : SH} (hW : WT S) (hd : 10 ≤ d) (bk9 : Int32 → Int32 → DY → Option DY) (p0 : Nat) (p1 : Int32) (p2 : Int32) (x : DY) (g0 : TY S p0 5) (hbk9 : ∀ (v1 : Int32) (v2 : Int32) (y : DY), Go mX5_cutTokens d S wSV 9 [some (.ref p0), some (.int v1), some (.int v2), none, none] [] y (bk9 v1 v2 y)) : Go mX5_cutTokens d S wSV 9 [some (.ref p0), some (.int p1), some (.int p2), none, none] [] x (lp_X5_cutTokens_9_b N S bk9 p0 p1 p2 x) := by
  unfold lp_X5_cutTokens_9_b
  refine go1 (M := mX5_cutTokens) (pc' := 10) (r_iload_n (M := mX5_cutTokens) (i := 2) rfl dX5_cutTokens_9) ?_
  refine go1 (M := mX5_cutTokens) (pc' := 13) (r_sipush (M := mX5_cutTokens) (v := 160) (by decide) dX5_cutTokens_10) ?_
  refine go_br (M := mX5_cutTokens) (pt := 125) (pf := 16) (fun kt kf => r_icmp_ge (M := mX5_cutTokens) dX5_cutTokens_13 (by decide) kt kf) (fun hc3 => ?_) (fun hc3 => ?_)
  · exact go_vret (M := mX5_cutTokens) rfl rfl dX5_cutTokens_125
  · refine go1 (M := mX5_cutTokens) (pc' := 17) (r_iload_n (M := mX5_cutTokens) (i := 1) rfl dX5_cutTokens_16) ?_
    refine go1 (M := mX5_cutTokens) (pc' := 18) (r_aload_n (M := mX5_cutTokens) (i := 0) rfl dX5_cutTokens_17) ?_
    refine go1 (M := mX5_cutTokens) (pc' := 21) (r_getI (M := mX5_cutTokens) fl_5_15 g0 rfl dX5_cutTokens_18) ?_
    refine go_br (M := mX5_cutTokens) (pt := 125) (pf := 24) (fun kt kf => r_icmp_ge (M := mX5_cutTokens) dX5_cutTokens_21 (by decide) kt kf) (fun hc4 => ?_) (fun hc4 => ?_)
    · exact go_vret (M := mX5_cutTokens) rfl rfl dX5_cutTokens_125
    · refine go1 (M := mX5_cutTokens) (pc' := 25) (r_iload_n (M := mX5_cutTokens) (i := 1) rfl dX5_cutTokens_24) ?_
      refine go1 (M := mX5_cutTokens) (pc' := 26) (r_iconst (M := mX5_cutTokens) (v := 1) (by decide) dX5_cutTokens_25) ?_
      refine go1 (M := mX5_cutTokens) (pc' := 27) (r_iadd (M := mX5_cutTokens) dX5_cutTokens_26) ?_
      refine go1 (M := mX5_cutTokens) (pc' := 28) (ls' := [some (.ref p0), some (.int p1), some (.int p2), some (.int (p1 + 1)), none]) (r_istore_n (M := mX5_cutTokens) (ls := [some (.ref p0), some (.int p1), some (.int p2), none, none]) (i := 3) (v := (p1 + 1)) (by decide) rfl dX5_cutTokens_27) ?_
      refine go1 (M := mX5_cutTokens) (pc' := 29) (r_aload_n (M := mX5_cutTokens) (i := 0) rfl dX5_cutTokens_28) ?_
      refine go1 (M := mX5_cutTokens) (pc' := 32) (r_getR (M := mX5_cutTokens) fl_5_9 g0 rfl (wt_some hW g0 (by decide) (by decide) rfl) dX5_cutTokens_29) ?_
      have hT5 : TY S (pr S p0 0) 14 := wt hW g0 (by decide) (by decide) rfl (by decide)
      refine go1 (M := mX5_cutTokens) (pc' := 33) (r_iload_n (M := mX5_cutTokens) (i := 1) rfl dX5_cutTokens_32) ?_
      refine go_ck (fun hi6 => ?_)
      refine go1 (M := mX5_cutTokens) (pc' := 34) (r_iald (M := mX5_cutTokens) hT5 hi6 dX5_cutTokens_33) ?_
      refine go1 (M := mX5_cutTokens) (pc' := 36) (ls' := [some (.ref p0), some (.int p1), some (.int p2), some (.int (p1 + 1)), some (.int (x.1 (pr S p0 0) p1.toNatClampNeg))]) (r_istore (M := mX5_cutTokens) (ls := [some (.ref p0), some (.int p1), some (.int p2), some (.int (p1 + 1)), none]) (i := 4) (v := (x.1 (pr S p0 0) p1.toNatClampNeg)) (by decide) rfl dX5_cutTokens_34) ?_
      refine go1 (M := mX5_cutTokens) (pc' := 38) (r_iload (M := mX5_cutTokens) (i := 4) rfl dX5_cutTokens_36) ?_
      refine go_S_PI (M := mX5_cutTokens) (pc' := 41) (st := []) (As := [.int (x.1 (pr S p0 0) p1.toNatClampNeg)]) rfl ln_5_106 lb_X5_isLetter (t_X5_isLetter (N := N) hW (by omega) ) (by omega) (Nat.le_of_ble_eq_true rfl) rfl dX5_cutTokens_38 (fun r7 => ?_)
      refine go_br (M := mX5_cutTokens) (pt := 59) (pf := 44) (fun kt kf => r_if_eq (M := mX5_cutTokens) dX5_cutTokens_41 (by decide) kt kf) (fun hc8 => ?_) (fun hc8 => ?_)
      · refine go1 (M := mX5_cutTokens) (pc' := 61) (r_iload (M := mX5_cutTokens) (i := 4) rfl dX5_cutTokens_59) ?_
        refine go_S_PI (M := mX5_cutTokens) (pc' := 64) (st := []) (As := [.int (x.1 (pr S p0 0) p1.toNatClampNeg)]) rfl ln_5_117 lb_X5_isDigit (t_X5_isDigit (N := N) hW (by omega) ) (by omega) (Nat.le_of_ble_eq_true rfl) rfl dX5_cutTokens_61 (fun r9 => ?_)
        refine go_br (M := mX5_cutTokens) (pt := 82) (pf := 67) (fun kt kf => r_if_eq (M := mX5_cutTokens) dX5_cutTokens_64 (by decide) kt kf) (fun hc10 => ?_) (fun hc10 => ?_)
        · refine go1 (M := mX5_cutTokens) (pc' := 84) (r_iload (M := mX5_cutTokens) (i := 4) rfl dX5_cutTokens_82) ?_
          refine go1 (M := mX5_cutTokens) (pc' := 86) (r_bipush (M := mX5_cutTokens) (v := 32) (by decide) dX5_cutTokens_84) ?_
          refine go_br (M := mX5_cutTokens) (pt := 117) (pf := 89) (fun kt kf => r_icmp_eq (M := mX5_cutTokens) dX5_cutTokens_86 (by decide) kt kf) (fun hc11 => ?_) (fun hc11 => ?_)
          · refine go_drop (ls' := [some (.ref p0), none, some (.int p2), some (.int (p1 + 1)), none]) (And.intro rfl (And.intro rfl (And.intro rfl trivial))) ?_
            exact j_X5_cutTokens_117_t (N := N) hW (by omega) bk9 p0 p2 (p1 + 1) x g0 hbk9
          · refine go1 (M := mX5_cutTokens) (pc' := 91) (r_iload (M := mX5_cutTokens) (i := 4) rfl dX5_cutTokens_89) ?_
            refine go1 (M := mX5_cutTokens) (pc' := 93) (r_bipush (M := mX5_cutTokens) (v := 10) (by decide) dX5_cutTokens_91) ?_
            refine go_br (M := mX5_cutTokens) (pt := 117) (pf := 96) (fun kt kf => r_icmp_eq (M := mX5_cutTokens) dX5_cutTokens_93 (by decide) kt kf) (fun hc12 => ?_) (fun hc12 => ?_)
            · refine go_drop (ls' := [some (.ref p0), none, some (.int p2), some (.int (p1 + 1)), none]) (And.intro rfl (And.intro rfl (And.intro rfl trivial))) ?_
              exact j_X5_cutTokens_117_t (N := N) hW (by omega) bk9 p0 p2 (p1 + 1) x g0 hbk9
            · refine go1 (M := mX5_cutTokens) (pc' := 97) (r_aload_n (M := mX5_cutTokens) (i := 0) rfl dX5_cutTokens_96) ?_
              refine go1 (M := mX5_cutTokens) (pc' := 99) (r_iload (M := mX5_cutTokens) (i := 4) rfl dX5_cutTokens_97) ?_
              refine go_S_PI (M := mX5_cutTokens) (pc' := 102) (st := [.ref p0]) (As := [.int (x.1 (pr S p0 0) p1.toNatClampNeg)]) rfl ln_5_126 lb_X5_isSign (t_X5_isSign (N := N) hW (by omega) ) (by omega) (Nat.le_of_ble_eq_true rfl) rfl dX5_cutTokens_99 (fun r13 => ?_)
              refine go_br (M := mX5_cutTokens) (pt := 110) (pf := 105) (fun kt kf => r_if_eq (M := mX5_cutTokens) dX5_cutTokens_102 (by decide) kt kf) (fun hc14 => ?_) (fun hc14 => ?_)
              · refine go1 (M := mX5_cutTokens) (pc' := 112) (r_bipush (M := mX5_cutTokens) (v := (-2)) (by decide) dX5_cutTokens_110) ?_
                refine go_drop (ls' := [some (.ref p0), some (.int p1), some (.int p2), some (.int (p1 + 1)), none]) (And.intro rfl (And.intro rfl (And.intro rfl (And.intro rfl trivial)))) ?_
                exact j_X5_cutTokens_112_t (N := N) hW (by omega) bk9 p0 p1 p2 (p1 + 1) (-2) p0 x g0 g0 hbk9
              · refine go1 (M := mX5_cutTokens) (pc' := 107) (r_iload (M := mX5_cutTokens) (i := 4) rfl dX5_cutTokens_105) ?_
                refine go1 (M := mX5_cutTokens) (pc' := 112) (r_goto (M := mX5_cutTokens) dX5_cutTokens_107 (by decide)) ?_
                refine go_drop (ls' := [some (.ref p0), some (.int p1), some (.int p2), some (.int (p1 + 1)), none]) (And.intro rfl (And.intro rfl (And.intro rfl (And.intro rfl trivial)))) ?_
                exact j_X5_cutTokens_112_t (N := N) hW (by omega) bk9 p0 p1 p2 (p1 + 1) (x.1 (pr S p0 0) p1.toNatClampNeg) p0 x g0 g0 hbk9
        · refine go1 (M := mX5_cutTokens) (pc' := 68) (r_aload_n (M := mX5_cutTokens) (i := 0) rfl dX5_cutTokens_67) ?_
          refine go1 (M := mX5_cutTokens) (pc' := 69) (r_iload_n (M := mX5_cutTokens) (i := 1) rfl dX5_cutTokens_68) ?_
          refine go_V_PI (M := mX5_cutTokens) (pc' := 72) (st := []) (As := [.int p1]) rfl ln_5_120 lb_X5_endOfNumber (t_X5_endOfNumber (N := N) hW (by omega) g0) (by omega) g0 (Nat.le_of_ble_eq_true rfl) rfl dX5_cutTokens_69 (fun r16 => ?_)
          refine go1 (M := mX5_cutTokens) (pc' := 73) (ls' := [some (.ref p0), some (.int p1), some (.int p2), some (.int r16), some (.int (x.1 (pr S p0 0) p1.toNatClampNeg))]) (r_istore_n (M := mX5_cutTokens) (ls := [some (.ref p0), some (.int p1), some (.int p2), some (.int (p1 + 1)), some (.int (x.1 (pr S p0 0) p1.toNatClampNeg))]) (i := 3) (v := r16) (by decide) rfl dX5_cutTokens_72) ?_
          refine go1 (M := mX5_cutTokens) (pc' := 74) (r_aload_n (M := mX5_cutTokens) (i := 0) rfl dX5_cutTokens_73) ?_
          refine go1 (M := mX5_cutTokens) (pc' := 75) (r_iload_n (M := mX5_cutTokens) (i := 1) rfl dX5_cutTokens_74) ?_
          refine go1 (M := mX5_cutTokens) (pc' := 76) (r_iload_n (M := mX5_cutTokens) (i := 3) rfl dX5_cutTokens_75) ?_
          refine go_V_SV (M := mX5_cutTokens) (pc' := 79) (st := []) (As := [.int p1, .int r16]) rfl ln_5_123 lb_X5_addNumber (t_X5_addNumber (N := N) hW (by omega) g0) (by omega) g0 (Nat.le_of_ble_eq_true rfl) rfl dX5_cutTokens_76 (fun r17 => ?_)
          refine go1 (M := mX5_cutTokens) (pc' := 117) (r_goto (M := mX5_cutTokens) dX5_cutTokens_79 (by decide)) ?_
          refine go_drop (ls' := [some (.ref p0), none, some (.int p2), some (.int r16), none]) (And.intro rfl (And.intro rfl (And.intro rfl trivial))) ?_
          exact j_X5_cutTokens_117_t (N := N) hW (by omega) bk9 p0 p2 r16 r17 g0 hbk9
      · refine go1 (M := mX5_cutTokens) (pc' := 45) (r_aload_n (M := mX5_cutTokens) (i := 0) rfl dX5_cutTokens_44) ?_
        refine go1 (M := mX5_cutTokens) (pc' := 46) (r_iload_n (M := mX5_cutTokens) (i := 1) rfl dX5_cutTokens_45) ?_
        refine go_V_PI (M := mX5_cutTokens) (pc' := 49) (st := []) (As := [.int p1]) rfl ln_5_109 lb_X5_endOfWord (t_X5_endOfWord (N := N) hW (by omega) g0) (by omega) g0 (Nat.le_of_ble_eq_true rfl) rfl dX5_cutTokens_46 (fun r18 => ?_)
        refine go1 (M := mX5_cutTokens) (pc' := 50) (ls' := [some (.ref p0), some (.int p1), some (.int p2), some (.int r18), some (.int (x.1 (pr S p0 0) p1.toNatClampNeg))]) (r_istore_n (M := mX5_cutTokens) (ls := [some (.ref p0), some (.int p1), some (.int p2), some (.int (p1 + 1)), some (.int (x.1 (pr S p0 0) p1.toNatClampNeg))]) (i := 3) (v := r18) (by decide) rfl dX5_cutTokens_49) ?_
        refine go1 (M := mX5_cutTokens) (pc' := 51) (r_aload_n (M := mX5_cutTokens) (i := 0) rfl dX5_cutTokens_50) ?_
        refine go1 (M := mX5_cutTokens) (pc' := 52) (r_iload_n (M := mX5_cutTokens) (i := 1) rfl dX5_cutTokens_51) ?_
        refine go1 (M := mX5_cutTokens) (pc' := 53) (r_iload_n (M := mX5_cutTokens) (i := 3) rfl dX5_cutTokens_52) ?_
        refine go_V_SV (M := mX5_cutTokens) (pc' := 56) (st := []) (As := [.int p1, .int r18]) rfl ln_5_113 lb_X5_addWord (t_X5_addWord (N := N) hW (by omega) g0) (by omega) g0 (Nat.le_of_ble_eq_true rfl) rfl dX5_cutTokens_53 (fun r19 => ?_)
        refine go1 (M := mX5_cutTokens) (pc' := 117) (r_goto (M := mX5_cutTokens) dX5_cutTokens_56 (by decide)) ?_
        refine go_drop (ls' := [some (.ref p0), none, some (.int p2), some (.int r18), none]) (And.intro rfl (And.intro rfl (And.intro rfl trivial))) ?_
        exact j_X5_cutTokens_117_t (N := N) hW (by omega) bk9 p0 p2 r18 r19 g0 hbk9
def lp_X5_cutTokens_9 (N : Nat) (S : SH) (p0 : Nat) (p1 : Int32) (p2 : Int32) (x : DY) : Option DY :=
  itr (fun back (v : Int32 × Int32 × DY) => lp_X5_cutTokens_9_b N S (fun p1 p2 y => back (p1, p2, y)) p0 v.1 v.2.1 v.2.2) N (p1, p2, x)
theorem lp_X5_cutTokens_9_t {N d : Nat} {S : SH} (hW : WT S) (hd : 10 ≤ d) (p0 : Nat) (p1 : Int32) (p2 : Int32) (x : DY) (g0 : TY S p0 5) : Go mX5_cutTokens d S wSV 9 [some (.ref p0), some (.int p1), some (.int p2), none, none] [] x (lp_X5_cutTokens_9 N S p0 p1 p2 x) := by
  unfold lp_X5_cutTokens_9
  exact go_itr (L := fun (v : Int32 × Int32 × DY) => [some (.ref p0), some (.int v.1), some (.int v.2.1), none, none]) (X := fun (v : Int32 × Int32 × DY) => v.2.2) (fun back hB v => lp_X5_cutTokens_9_b_t (N := N) hW hd (fun p1 p2 y => back (p1, p2, y)) p0 v.1 v.2.1 v.2.2 g0 (fun p1 p2 y => hB (p1, p2, y)) ) N (p1, p2, x)
def f_X5_cutTokens (N : Nat) (S : SH) (a0 : Nat) (x : DY) : Option DY :=
  bl (U1 x a0 5 0) (fun x1 => lp_X5_cutTokens_9 N S a0 0 0 x1)
set_option maxHeartbeats 1000000 in
theorem t_X5_cutTokens {N d : Nat} {S : SH} (hW : WT S) {x : DY} {a0 : Nat} (hd : 10 ≤ d) (h0 : TY S a0 5) : CT mX5_cutTokens d S [.ref a0] x wSV (f_X5_cutTokens N S a0 x) := by
  refine CT.of [some (.ref a0), none, none, none, none] rfl (Nat.le_of_ble_eq_true rfl) (by decide +kernel) ?_
  unfold f_X5_cutTokens
  refine go1 (M := mX5_cutTokens) (pc' := 1) (r_aload_n (M := mX5_cutTokens) (i := 0) rfl dX5_cutTokens_0) ?_
  refine go1 (M := mX5_cutTokens) (pc' := 2) (r_iconst (M := mX5_cutTokens) (v := 0) (by decide) dX5_cutTokens_1) ?_
  refine go1 (M := mX5_cutTokens) (pc' := 5) (r_putI (M := mX5_cutTokens) fl_5_28 h0 rfl rfl dX5_cutTokens_2) ?_
  refine go_blx (fun x1 => ?_)
  refine go1 (M := mX5_cutTokens) (pc' := 6) (r_iconst (M := mX5_cutTokens) (v := 0) (by decide) dX5_cutTokens_5) ?_
  refine go1 (M := mX5_cutTokens) (pc' := 7) (ls' := [some (.ref a0), some (.int 0), none, none, none]) (r_istore_n (M := mX5_cutTokens) (ls := [some (.ref a0), none, none, none, none]) (i := 1) (v := 0) (by decide) rfl dX5_cutTokens_6) ?_
  refine go1 (M := mX5_cutTokens) (pc' := 8) (r_iconst (M := mX5_cutTokens) (v := 0) (by decide) dX5_cutTokens_7) ?_
  refine go1 (M := mX5_cutTokens) (pc' := 9) (ls' := [some (.ref a0), some (.int 0), some (.int 0), none, none]) (r_istore_n (M := mX5_cutTokens) (ls := [some (.ref a0), some (.int 0), none, none, none]) (i := 2) (v := 0) (by decide) rfl dX5_cutTokens_8) ?_
  refine lp_X5_cutTokens_9_t (N := N) hW (by omega) a0 0 0 x1 h0
def f_X5_token (N : Nat) (S : SH) (a0 : Nat) (x : DY) : Option Int32 :=
  (if (x.1 a0 6) < 0 then some (-1) else (if (x.1 a0 5) ≤ (x.1 a0 6) then some (-1) else ck S (pr S a0 2) (x.1 a0 6) (some (x.1 (pr S a0 2) (x.1 a0 6).toNatClampNeg))))
set_option maxHeartbeats 1000000 in
theorem t_X5_token {N d : Nat} {S : SH} (hW : WT S) {x : DY} {a0 : Nat} (hd : 1 ≤ d) (h0 : TY S a0 5) : CT mX5_token d S [.ref a0] x (wPI x) (f_X5_token N S a0 x) := by
  refine CT.of [some (.ref a0)] rfl (Nat.le_of_ble_eq_true rfl) (by decide +kernel) ?_
  unfold f_X5_token
  refine go1 (M := mX5_token) (pc' := 1) (r_aload_n (M := mX5_token) (i := 0) rfl dX5_token_0) ?_
  refine go1 (M := mX5_token) (pc' := 4) (r_getI (M := mX5_token) fl_5_31 h0 rfl dX5_token_1) ?_
  refine go_br (M := mX5_token) (pt := 30) (pf := 7) (fun kt kf => r_if_lt (M := mX5_token) dX5_token_4 (by decide) kt kf) (fun hc1 => ?_) (fun hc1 => ?_)
  · refine go1 (M := mX5_token) (pc' := 31) (r_iconst (M := mX5_token) (v := (-1)) (by decide) dX5_token_30) ?_
    exact go_iret (M := mX5_token) rfl rfl dX5_token_31
  · refine go1 (M := mX5_token) (pc' := 8) (r_aload_n (M := mX5_token) (i := 0) rfl dX5_token_7) ?_
    refine go1 (M := mX5_token) (pc' := 11) (r_getI (M := mX5_token) fl_5_31 h0 rfl dX5_token_8) ?_
    refine go1 (M := mX5_token) (pc' := 12) (r_aload_n (M := mX5_token) (i := 0) rfl dX5_token_11) ?_
    refine go1 (M := mX5_token) (pc' := 15) (r_getI (M := mX5_token) fl_5_28 h0 rfl dX5_token_12) ?_
    refine go_br (M := mX5_token) (pt := 30) (pf := 18) (fun kt kf => r_icmp_ge (M := mX5_token) dX5_token_15 (by decide) kt kf) (fun hc2 => ?_) (fun hc2 => ?_)
    · refine go1 (M := mX5_token) (pc' := 31) (r_iconst (M := mX5_token) (v := (-1)) (by decide) dX5_token_30) ?_
      exact go_iret (M := mX5_token) rfl rfl dX5_token_31
    · refine go1 (M := mX5_token) (pc' := 19) (r_aload_n (M := mX5_token) (i := 0) rfl dX5_token_18) ?_
      refine go1 (M := mX5_token) (pc' := 22) (r_getR (M := mX5_token) fl_5_19 h0 rfl (wt_some hW h0 (by decide) (by decide) rfl) dX5_token_19) ?_
      have hT3 : TY S (pr S a0 2) 14 := wt hW h0 (by decide) (by decide) rfl (by decide)
      refine go1 (M := mX5_token) (pc' := 23) (r_aload_n (M := mX5_token) (i := 0) rfl dX5_token_22) ?_
      refine go1 (M := mX5_token) (pc' := 26) (r_getI (M := mX5_token) fl_5_31 h0 rfl dX5_token_23) ?_
      refine go_ck (fun hi4 => ?_)
      refine go1 (M := mX5_token) (pc' := 27) (r_iald (M := mX5_token) hT3 hi4 dX5_token_26) ?_
      refine go1 (M := mX5_token) (pc' := 31) (r_goto (M := mX5_token) dX5_token_27 (by decide)) ?_
      exact go_iret (M := mX5_token) rfl rfl dX5_token_31
def f_X5_fail (N : Nat) (S : SH) (a0 : Nat) (x : DY) : Option (Int32 × DY) :=
  (if (x.1 a0 6) < 0 then bl (U1 x a0 10 (x.1 a0 1)) (fun x2 => some (0, x2)) else (if (x.1 a0 5) ≤ (x.1 a0 6) then bl (U1 x a0 10 (x.1 a0 1)) (fun x4 => some (0, x4)) else ck S (pr S a0 3) (x.1 a0 6) (bl (U1 x a0 10 (x.1 (pr S a0 3) (x.1 a0 6).toNatClampNeg)) (fun x7 => some (0, x7)))))
set_option maxHeartbeats 1000000 in
theorem t_X5_fail {N d : Nat} {S : SH} (hW : WT S) {x : DY} {a0 : Nat} (hd : 1 ≤ d) (h0 : TY S a0 5) : CT mX5_fail d S [.ref a0] x wSI (f_X5_fail N S a0 x) := by
  refine CT.of [some (.ref a0)] rfl (Nat.le_of_ble_eq_true rfl) (by decide +kernel) ?_
  unfold f_X5_fail
  refine go1 (M := mX5_fail) (pc' := 1) (r_aload_n (M := mX5_fail) (i := 0) rfl dX5_fail_0) ?_
  refine go1 (M := mX5_fail) (pc' := 2) (r_aload_n (M := mX5_fail) (i := 0) rfl dX5_fail_1) ?_
  refine go1 (M := mX5_fail) (pc' := 5) (r_getI (M := mX5_fail) fl_5_31 h0 rfl dX5_fail_2) ?_
  refine go_br (M := mX5_fail) (pt := 31) (pf := 8) (fun kt kf => r_if_lt (M := mX5_fail) dX5_fail_5 (by decide) kt kf) (fun hc1 => ?_) (fun hc1 => ?_)
  · refine go1 (M := mX5_fail) (pc' := 32) (r_aload_n (M := mX5_fail) (i := 0) rfl dX5_fail_31) ?_
    refine go1 (M := mX5_fail) (pc' := 35) (r_getI (M := mX5_fail) fl_5_15 h0 rfl dX5_fail_32) ?_
    refine go1 (M := mX5_fail) (pc' := 38) (r_putI (M := mX5_fail) fl_5_43 h0 rfl rfl dX5_fail_35) ?_
    refine go_blx (fun x2 => ?_)
    refine go1 (M := mX5_fail) (pc' := 39) (r_iconst (M := mX5_fail) (v := 0) (by decide) dX5_fail_38) ?_
    exact go_zret (M := mX5_fail) rfl rfl rfl dX5_fail_39
  · refine go1 (M := mX5_fail) (pc' := 9) (r_aload_n (M := mX5_fail) (i := 0) rfl dX5_fail_8) ?_
    refine go1 (M := mX5_fail) (pc' := 12) (r_getI (M := mX5_fail) fl_5_31 h0 rfl dX5_fail_9) ?_
    refine go1 (M := mX5_fail) (pc' := 13) (r_aload_n (M := mX5_fail) (i := 0) rfl dX5_fail_12) ?_
    refine go1 (M := mX5_fail) (pc' := 16) (r_getI (M := mX5_fail) fl_5_28 h0 rfl dX5_fail_13) ?_
    refine go_br (M := mX5_fail) (pt := 31) (pf := 19) (fun kt kf => r_icmp_ge (M := mX5_fail) dX5_fail_16 (by decide) kt kf) (fun hc3 => ?_) (fun hc3 => ?_)
    · refine go1 (M := mX5_fail) (pc' := 32) (r_aload_n (M := mX5_fail) (i := 0) rfl dX5_fail_31) ?_
      refine go1 (M := mX5_fail) (pc' := 35) (r_getI (M := mX5_fail) fl_5_15 h0 rfl dX5_fail_32) ?_
      refine go1 (M := mX5_fail) (pc' := 38) (r_putI (M := mX5_fail) fl_5_43 h0 rfl rfl dX5_fail_35) ?_
      refine go_blx (fun x4 => ?_)
      refine go1 (M := mX5_fail) (pc' := 39) (r_iconst (M := mX5_fail) (v := 0) (by decide) dX5_fail_38) ?_
      exact go_zret (M := mX5_fail) rfl rfl rfl dX5_fail_39
    · refine go1 (M := mX5_fail) (pc' := 20) (r_aload_n (M := mX5_fail) (i := 0) rfl dX5_fail_19) ?_
      refine go1 (M := mX5_fail) (pc' := 23) (r_getR (M := mX5_fail) fl_5_22 h0 rfl (wt_some hW h0 (by decide) (by decide) rfl) dX5_fail_20) ?_
      have hT5 : TY S (pr S a0 3) 14 := wt hW h0 (by decide) (by decide) rfl (by decide)
      refine go1 (M := mX5_fail) (pc' := 24) (r_aload_n (M := mX5_fail) (i := 0) rfl dX5_fail_23) ?_
      refine go1 (M := mX5_fail) (pc' := 27) (r_getI (M := mX5_fail) fl_5_31 h0 rfl dX5_fail_24) ?_
      refine go_ck (fun hi6 => ?_)
      refine go1 (M := mX5_fail) (pc' := 28) (r_iald (M := mX5_fail) hT5 hi6 dX5_fail_27) ?_
      refine go1 (M := mX5_fail) (pc' := 35) (r_goto (M := mX5_fail) dX5_fail_28 (by decide)) ?_
      refine go1 (M := mX5_fail) (pc' := 38) (r_putI (M := mX5_fail) fl_5_43 h0 rfl rfl dX5_fail_35) ?_
      refine go_blx (fun x7 => ?_)
      refine go1 (M := mX5_fail) (pc' := 39) (r_iconst (M := mX5_fail) (v := 0) (by decide) dX5_fail_38) ?_
      exact go_zret (M := mX5_fail) rfl rfl rfl dX5_fail_39
def f_X5_pass (N : Nat) (S : SH) (a0 : Nat) (a1 : Int32) (x : DY) : Option (Int32 × DY) :=
  Option.bind (f_X5_token N S a0 x) (fun r1 => (if r1 = a1 then bl (U1 x a0 6 ((x.1 a0 6) + 1)) (fun x3 => some (1, x3)) else Option.bind (f_X5_fail N S a0 x) (fun r4 => bz r4.1 (some (r4.1, r4.2)))))
set_option maxHeartbeats 1000000 in
theorem t_X5_pass {N d : Nat} {S : SH} (hW : WT S) {x : DY} {a0 : Nat} {a1 : Int32} (hd : 2 ≤ d) (h0 : TY S a0 5) : CT mX5_pass d S [.ref a0, .int a1] x wSI (f_X5_pass N S a0 a1 x) := by
  refine CT.of [some (.ref a0), some (.int a1)] rfl (Nat.le_of_ble_eq_true rfl) (by decide +kernel) ?_
  unfold f_X5_pass
  refine go1 (M := mX5_pass) (pc' := 1) (r_aload_n (M := mX5_pass) (i := 0) rfl dX5_pass_0) ?_
  refine go_V_PI (M := mX5_pass) (pc' := 4) (st := []) (As := []) rfl ln_5_76 lb_X5_token (t_X5_token (N := N) hW (by omega) h0) (by omega) h0 (Nat.le_of_ble_eq_true rfl) rfl dX5_pass_1 (fun r1 => ?_)
  refine go1 (M := mX5_pass) (pc' := 5) (r_iload_n (M := mX5_pass) (i := 1) rfl dX5_pass_4) ?_
  refine go_br (M := mX5_pass) (pt := 13) (pf := 8) (fun kt kf => r_icmp_eq (M := mX5_pass) dX5_pass_5 (by decide) kt kf) (fun hc2 => ?_) (fun hc2 => ?_)
  · refine go1 (M := mX5_pass) (pc' := 14) (r_aload_n (M := mX5_pass) (i := 0) rfl dX5_pass_13) ?_
    refine go1 (M := mX5_pass) (pc' := 15) (r_dup (M := mX5_pass) rfl dX5_pass_14) ?_
    refine go1 (M := mX5_pass) (pc' := 18) (r_getI (M := mX5_pass) fl_5_31 h0 rfl dX5_pass_15) ?_
    refine go1 (M := mX5_pass) (pc' := 19) (r_iconst (M := mX5_pass) (v := 1) (by decide) dX5_pass_18) ?_
    refine go1 (M := mX5_pass) (pc' := 20) (r_iadd (M := mX5_pass) dX5_pass_19) ?_
    refine go1 (M := mX5_pass) (pc' := 23) (r_putI (M := mX5_pass) fl_5_31 h0 rfl rfl dX5_pass_20) ?_
    refine go_blx (fun x3 => ?_)
    refine go1 (M := mX5_pass) (pc' := 24) (r_iconst (M := mX5_pass) (v := 1) (by decide) dX5_pass_23) ?_
    exact go_zret (M := mX5_pass) rfl rfl rfl dX5_pass_24
  · refine go1 (M := mX5_pass) (pc' := 9) (r_aload_n (M := mX5_pass) (i := 0) rfl dX5_pass_8) ?_
    refine go_V_SI (M := mX5_pass) (pc' := 12) (st := []) (As := []) rfl ln_5_80 lb_X5_fail (t_X5_fail (N := N) hW (by omega) h0) (by omega) h0 (Nat.le_of_ble_eq_true rfl) rfl dX5_pass_9 (fun r4 => ?_)
    refine go_bz (fun hn5 => ?_)
    exact go_zret (M := mX5_pass) rfl hn5 rfl dX5_pass_12
def f_X5_write (N : Nat) (S : SH) (a0 : Nat) (a1 : Int32) (x : DY) : Option DY :=
  (if (nI (S.2.2.1 (pr S a0 7))) ≤ (x.1 a0 8) then some x else ck S (pr S a0 7) (x.1 a0 8) (bl (U1 x (pr S a0 7) (x.1 a0 8).toNatClampNeg a1) (fun x4 => bl (U1 x4 a0 8 ((x4.1 a0 8) + 1)) (fun x5 => some x5))))
set_option maxHeartbeats 1000000 in
theorem t_X5_write {N d : Nat} {S : SH} (hW : WT S) {x : DY} {a0 : Nat} {a1 : Int32} (hd : 1 ≤ d) (h0 : TY S a0 5) : CT mX5_write d S [.ref a0, .int a1] x wSV (f_X5_write N S a0 a1 x) := by
  refine CT.of [some (.ref a0), some (.int a1)] rfl (Nat.le_of_ble_eq_true rfl) (by decide +kernel) ?_
  unfold f_X5_write
  refine go1 (M := mX5_write) (pc' := 1) (r_aload_n (M := mX5_write) (i := 0) rfl dX5_write_0) ?_
  refine go1 (M := mX5_write) (pc' := 4) (r_getI (M := mX5_write) fl_5_37 h0 rfl dX5_write_1) ?_
  refine go1 (M := mX5_write) (pc' := 5) (r_aload_n (M := mX5_write) (i := 0) rfl dX5_write_4) ?_
  refine go1 (M := mX5_write) (pc' := 8) (r_getR (M := mX5_write) fl_5_34 h0 rfl (wt_some hW h0 (by decide) (by decide) rfl) dX5_write_5) ?_
  have hT1 : TY S (pr S a0 7) 14 := wt hW h0 (by decide) (by decide) rfl (by decide)
  refine go1 (M := mX5_write) (pc' := 9) (r_alen (M := mX5_write) hT1 (by decide) (by decide) dX5_write_8) ?_
  refine go_br (M := mX5_write) (pt := 32) (pf := 12) (fun kt kf => r_icmp_ge (M := mX5_write) dX5_write_9 (by decide) kt kf) (fun hc2 => ?_) (fun hc2 => ?_)
  · exact go_vret (M := mX5_write) rfl rfl dX5_write_32
  · refine go1 (M := mX5_write) (pc' := 13) (r_aload_n (M := mX5_write) (i := 0) rfl dX5_write_12) ?_
    refine go1 (M := mX5_write) (pc' := 16) (r_getR (M := mX5_write) fl_5_34 h0 rfl (wt_some hW h0 (by decide) (by decide) rfl) dX5_write_13) ?_
    refine go1 (M := mX5_write) (pc' := 17) (r_aload_n (M := mX5_write) (i := 0) rfl dX5_write_16) ?_
    refine go1 (M := mX5_write) (pc' := 20) (r_getI (M := mX5_write) fl_5_37 h0 rfl dX5_write_17) ?_
    refine go1 (M := mX5_write) (pc' := 21) (r_iload_n (M := mX5_write) (i := 1) rfl dX5_write_20) ?_
    refine go_ck (fun hi3 => ?_)
    refine go1 (M := mX5_write) (pc' := 22) (r_iast (M := mX5_write) hT1 hi3 dX5_write_21) ?_
    refine go_blx (fun x4 => ?_)
    refine go1 (M := mX5_write) (pc' := 23) (r_aload_n (M := mX5_write) (i := 0) rfl dX5_write_22) ?_
    refine go1 (M := mX5_write) (pc' := 24) (r_dup (M := mX5_write) rfl dX5_write_23) ?_
    refine go1 (M := mX5_write) (pc' := 27) (r_getI (M := mX5_write) fl_5_37 h0 rfl dX5_write_24) ?_
    refine go1 (M := mX5_write) (pc' := 28) (r_iconst (M := mX5_write) (v := 1) (by decide) dX5_write_27) ?_
    refine go1 (M := mX5_write) (pc' := 29) (r_iadd (M := mX5_write) dX5_write_28) ?_
    refine go1 (M := mX5_write) (pc' := 32) (r_putI (M := mX5_write) fl_5_37 h0 rfl rfl dX5_write_29) ?_
    refine go_blx (fun x5 => ?_)
    exact go_vret (M := mX5_write) rfl rfl dX5_write_32
def j_X5_readOne_71 (N : Nat) (S : SH) (p0 : Nat) (x : DY) : Option (Int32 × DY) :=
  Option.bind (f_X5_fail N S p0 x) (fun r16 => bz r16.1 (some (r16.1, r16.2)))
set_option maxHeartbeats 1000000 in
theorem j_X5_readOne_71_t {N d dr : Nat} {S : SH} (hW : WT S) (hd : dr + 3 ≤ d) (p0 : Nat) (x : DY) (g0 : TY S p0 5) : Go mX5_readOne d S wSI 71 [some (.ref p0), none, none, none] [] x (j_X5_readOne_71 N S p0 x) := by
  unfold j_X5_readOne_71
  refine go1 (M := mX5_readOne) (pc' := 72) (r_aload_n (M := mX5_readOne) (i := 0) rfl dX5_readOne_71) ?_
  refine go_V_SI (M := mX5_readOne) (pc' := 75) (st := []) (As := []) rfl ln_5_80 lb_X5_fail (t_X5_fail (N := N) hW (by omega) g0) (by omega) g0 (Nat.le_of_ble_eq_true rfl) rfl dX5_readOne_72 (fun r16 => ?_)
  refine go_bz (fun hn17 => ?_)
  exact go_zret (M := mX5_readOne) rfl hn17 rfl dX5_readOne_75
def j_X5_readOne_66 (N : Nat) (rc_X5_readEither : Nat → Int32 → DY → Option (Int32 × DY)) (rc_X5_readOne : Nat → Int32 → DY → Option (Int32 × DY)) (S : SH) (p0 : Nat) (p1 : Int32) (p2 : Int32) (x : DY) : Option (Int32 × DY) :=
  (if p1 < 5 then bl (U1 x p0 6 ((x.1 p0 6) + 1)) (fun x7 => (if p2 = 40 then Option.bind (rc_X5_readEither p0 (p1 + 1) x7) (fun r12 => (if r12.1 = 0 then some (0, r12.2) else Option.bind (f_X5_pass N S p0 41 r12.2) (fun r14 => (if r14.1 = 0 then some (0, r14.2) else some (1, r14.2))))) else Option.bind (rc_X5_readOne p0 (p1 + 1) x7) (fun r9 => Option.bind (f_X5_write N S p0 (-8) r9.2) (fun r10 => bz r9.1 (some (r9.1, r10)))))) else j_X5_readOne_71 N S p0 x)
set_option maxHeartbeats 1000000 in
theorem j_X5_readOne_66_t {N d dr : Nat} (rc_X5_readEither : Nat → Int32 → DY → Option (Int32 × DY)) (rc_X5_readOne : Nat → Int32 → DY → Option (Int32 × DY)) {S : SH} (hW : WT S) (hd : dr + 3 ≤ d) (p0 : Nat) (p1 : Int32) (p2 : Int32) (x : DY) (g0 : TY S p0 5) (hr_X5_readEither : ∀ {d : Nat} {x : DY} {b0 : Nat} {b1 : Int32}, dr ≤ d → TY S b0 5 → CT mX5_readEither d S [.ref b0, .int b1] x wSI (rc_X5_readEither b0 b1 x)) (hr_X5_readOne : ∀ {d : Nat} {x : DY} {b0 : Nat} {b1 : Int32}, dr ≤ d → TY S b0 5 → CT mX5_readOne d S [.ref b0, .int b1] x wSI (rc_X5_readOne b0 b1 x)) : Go mX5_readOne d S wSI 66 [some (.ref p0), some (.int p1), some (.int p2), none] [] x (j_X5_readOne_66 N rc_X5_readEither rc_X5_readOne S p0 p1 p2 x) := by
  unfold j_X5_readOne_66
  refine go1 (M := mX5_readOne) (pc' := 67) (r_iload_n (M := mX5_readOne) (i := 1) rfl dX5_readOne_66) ?_
  refine go1 (M := mX5_readOne) (pc' := 68) (r_iconst (M := mX5_readOne) (v := 5) (by decide) dX5_readOne_67) ?_
  refine go_br (M := mX5_readOne) (pt := 76) (pf := 71) (fun kt kf => r_icmp_lt (M := mX5_readOne) dX5_readOne_68 (by decide) kt kf) (fun hc6 => ?_) (fun hc6 => ?_)
  · refine go1 (M := mX5_readOne) (pc' := 77) (r_aload_n (M := mX5_readOne) (i := 0) rfl dX5_readOne_76) ?_
    refine go1 (M := mX5_readOne) (pc' := 78) (r_dup (M := mX5_readOne) rfl dX5_readOne_77) ?_
    refine go1 (M := mX5_readOne) (pc' := 81) (r_getI (M := mX5_readOne) fl_5_31 g0 rfl dX5_readOne_78) ?_
    refine go1 (M := mX5_readOne) (pc' := 82) (r_iconst (M := mX5_readOne) (v := 1) (by decide) dX5_readOne_81) ?_
    refine go1 (M := mX5_readOne) (pc' := 83) (r_iadd (M := mX5_readOne) dX5_readOne_82) ?_
    refine go1 (M := mX5_readOne) (pc' := 86) (r_putI (M := mX5_readOne) fl_5_31 g0 rfl rfl dX5_readOne_83) ?_
    refine go_blx (fun x7 => ?_)
    refine go1 (M := mX5_readOne) (pc' := 87) (r_iload_n (M := mX5_readOne) (i := 2) rfl dX5_readOne_86) ?_
    refine go1 (M := mX5_readOne) (pc' := 89) (r_bipush (M := mX5_readOne) (v := 40) (by decide) dX5_readOne_87) ?_
    refine go_br (M := mX5_readOne) (pt := 92) (pf := 117) (fun kt kf => r_icmp_ne (M := mX5_readOne) dX5_readOne_89 (by decide) kf kt) (fun hc8 => ?_) (fun hc8 => ?_)
    · refine go1 (M := mX5_readOne) (pc' := 93) (r_aload_n (M := mX5_readOne) (i := 0) rfl dX5_readOne_92) ?_
      refine go1 (M := mX5_readOne) (pc' := 94) (r_iload_n (M := mX5_readOne) (i := 1) rfl dX5_readOne_93) ?_
      refine go1 (M := mX5_readOne) (pc' := 95) (r_iconst (M := mX5_readOne) (v := 1) (by decide) dX5_readOne_94) ?_
      refine go1 (M := mX5_readOne) (pc' := 96) (r_iadd (M := mX5_readOne) dX5_readOne_95) ?_
      refine go_V_SI (M := mX5_readOne) (pc' := 99) (st := []) (As := [.int (p1 + 1)]) rfl ln_5_53 lb_X5_readEither (hr_X5_readEither (by omega) g0) (by omega) g0 (Nat.le_of_ble_eq_true rfl) rfl dX5_readOne_96 (fun r12 => ?_)
      refine go_br (M := mX5_readOne) (pt := 115) (pf := 102) (fun kt kf => r_if_eq (M := mX5_readOne) dX5_readOne_99 (by decide) kt kf) (fun hc13 => ?_) (fun hc13 => ?_)
      · refine go1 (M := mX5_readOne) (pc' := 116) (r_iconst (M := mX5_readOne) (v := 0) (by decide) dX5_readOne_115) ?_
        exact go_zret (M := mX5_readOne) rfl rfl rfl dX5_readOne_116
      · refine go1 (M := mX5_readOne) (pc' := 103) (r_aload_n (M := mX5_readOne) (i := 0) rfl dX5_readOne_102) ?_
        refine go1 (M := mX5_readOne) (pc' := 105) (r_bipush (M := mX5_readOne) (v := 41) (by decide) dX5_readOne_103) ?_
        refine go_V_SI (M := mX5_readOne) (pc' := 108) (st := []) (As := [.int 41]) rfl ln_5_49 lb_X5_pass (t_X5_pass (N := N) hW (by omega) g0) (by omega) g0 (Nat.le_of_ble_eq_true rfl) rfl dX5_readOne_105 (fun r14 => ?_)
        refine go_br (M := mX5_readOne) (pt := 115) (pf := 111) (fun kt kf => r_if_eq (M := mX5_readOne) dX5_readOne_108 (by decide) kt kf) (fun hc15 => ?_) (fun hc15 => ?_)
        · refine go1 (M := mX5_readOne) (pc' := 116) (r_iconst (M := mX5_readOne) (v := 0) (by decide) dX5_readOne_115) ?_
          exact go_zret (M := mX5_readOne) rfl rfl rfl dX5_readOne_116
        · refine go1 (M := mX5_readOne) (pc' := 112) (r_iconst (M := mX5_readOne) (v := 1) (by decide) dX5_readOne_111) ?_
          refine go1 (M := mX5_readOne) (pc' := 116) (r_goto (M := mX5_readOne) dX5_readOne_112 (by decide)) ?_
          exact go_zret (M := mX5_readOne) rfl rfl rfl dX5_readOne_116
    · refine go1 (M := mX5_readOne) (pc' := 118) (r_aload_n (M := mX5_readOne) (i := 0) rfl dX5_readOne_117) ?_
      refine go1 (M := mX5_readOne) (pc' := 119) (r_iload_n (M := mX5_readOne) (i := 1) rfl dX5_readOne_118) ?_
      refine go1 (M := mX5_readOne) (pc' := 120) (r_iconst (M := mX5_readOne) (v := 1) (by decide) dX5_readOne_119) ?_
      refine go1 (M := mX5_readOne) (pc' := 121) (r_iadd (M := mX5_readOne) dX5_readOne_120) ?_
      refine go_V_SI (M := mX5_readOne) (pc' := 124) (st := []) (As := [.int (p1 + 1)]) rfl ln_5_103 lb_X5_readOne (hr_X5_readOne (by omega) g0) (by omega) g0 (Nat.le_of_ble_eq_true rfl) rfl dX5_readOne_121 (fun r9 => ?_)
      refine go1 (M := mX5_readOne) (pc' := 125) (ls' := [some (.ref p0), some (.int p1), some (.int p2), some (.int r9.1)]) (r_istore_n (M := mX5_readOne) (ls := [some (.ref p0), some (.int p1), some (.int p2), none]) (i := 3) (v := r9.1) (by decide) rfl dX5_readOne_124) ?_
      refine go1 (M := mX5_readOne) (pc' := 126) (r_aload_n (M := mX5_readOne) (i := 0) rfl dX5_readOne_125) ?_
      refine go1 (M := mX5_readOne) (pc' := 128) (r_bipush (M := mX5_readOne) (v := (-8)) (by decide) dX5_readOne_126) ?_
      refine go_V_SV (M := mX5_readOne) (pc' := 131) (st := []) (As := [.int (-8)]) rfl ln_5_87 lb_X5_write (t_X5_write (N := N) hW (by omega) g0) (by omega) g0 (Nat.le_of_ble_eq_true rfl) rfl dX5_readOne_128 (fun r10 => ?_)
      refine go1 (M := mX5_readOne) (pc' := 132) (r_iload_n (M := mX5_readOne) (i := 3) rfl dX5_readOne_131) ?_
      refine go_bz (fun hn11 => ?_)
      exact go_zret (M := mX5_readOne) rfl hn11 rfl dX5_readOne_132
  · refine go_drop (ls' := [some (.ref p0), none, none, none]) (And.intro rfl trivial) ?_
    exact j_X5_readOne_71_t (N := N) (dr := dr) hW (by omega) p0 x g0
def j_X5_readOne_54 (N : Nat) (rc_X5_readEither : Nat → Int32 → DY → Option (Int32 × DY)) (rc_X5_readOne : Nat → Int32 → DY → Option (Int32 × DY)) (S : SH) (p0 : Nat) (p1 : Int32) (p2 : Int32) (x : DY) : Option (Int32 × DY) :=
  (if p2 = 45 then j_X5_readOne_66 N rc_X5_readEither rc_X5_readOne S p0 p1 p2 x else (if p2 = 40 then j_X5_readOne_66 N rc_X5_readEither rc_X5_readOne S p0 p1 p2 x else j_X5_readOne_71 N S p0 x))
set_option maxHeartbeats 1000000 in
theorem j_X5_readOne_54_t {N d dr : Nat} (rc_X5_readEither : Nat → Int32 → DY → Option (Int32 × DY)) (rc_X5_readOne : Nat → Int32 → DY → Option (Int32 × DY)) {S : SH} (hW : WT S) (hd : dr + 3 ≤ d) (p0 : Nat) (p1 : Int32) (p2 : Int32) (x : DY) (g0 : TY S p0 5) (hr_X5_readEither : ∀ {d : Nat} {x : DY} {b0 : Nat} {b1 : Int32}, dr ≤ d → TY S b0 5 → CT mX5_readEither d S [.ref b0, .int b1] x wSI (rc_X5_readEither b0 b1 x)) (hr_X5_readOne : ∀ {d : Nat} {x : DY} {b0 : Nat} {b1 : Int32}, dr ≤ d → TY S b0 5 → CT mX5_readOne d S [.ref b0, .int b1] x wSI (rc_X5_readOne b0 b1 x)) : Go mX5_readOne d S wSI 54 [some (.ref p0), some (.int p1), some (.int p2), none] [] x (j_X5_readOne_54 N rc_X5_readEither rc_X5_readOne S p0 p1 p2 x) := by
  unfold j_X5_readOne_54
  refine go1 (M := mX5_readOne) (pc' := 55) (r_iload_n (M := mX5_readOne) (i := 2) rfl dX5_readOne_54) ?_
  refine go1 (M := mX5_readOne) (pc' := 57) (r_bipush (M := mX5_readOne) (v := 45) (by decide) dX5_readOne_55) ?_
  refine go_br (M := mX5_readOne) (pt := 66) (pf := 60) (fun kt kf => r_icmp_eq (M := mX5_readOne) dX5_readOne_57 (by decide) kt kf) (fun hc5 => ?_) (fun hc5 => ?_)
  · exact j_X5_readOne_66_t (N := N) (dr := dr) rc_X5_readEither rc_X5_readOne hW (by omega) p0 p1 p2 x g0  hr_X5_readEither hr_X5_readOne
  · refine go1 (M := mX5_readOne) (pc' := 61) (r_iload_n (M := mX5_readOne) (i := 2) rfl dX5_readOne_60) ?_
    refine go1 (M := mX5_readOne) (pc' := 63) (r_bipush (M := mX5_readOne) (v := 40) (by decide) dX5_readOne_61) ?_
    refine go_br (M := mX5_readOne) (pt := 66) (pf := 71) (fun kt kf => r_icmp_ne (M := mX5_readOne) dX5_readOne_63 (by decide) kf kt) (fun hc18 => ?_) (fun hc18 => ?_)
    · exact j_X5_readOne_66_t (N := N) (dr := dr) rc_X5_readEither rc_X5_readOne hW (by omega) p0 p1 p2 x g0  hr_X5_readEither hr_X5_readOne
    · refine go_drop (ls' := [some (.ref p0), none, none, none]) (And.intro rfl trivial) ?_
      exact j_X5_readOne_71_t (N := N) (dr := dr) hW (by omega) p0 x g0
def j_X5_readOne_17 (N : Nat) (rc_X5_readEither : Nat → Int32 → DY → Option (Int32 × DY)) (rc_X5_readOne : Nat → Int32 → DY → Option (Int32 × DY)) (S : SH) (p0 : Nat) (p1 : Int32) (p2 : Int32) (x : DY) : Option (Int32 × DY) :=
  (if (nI (S.2.2.1 (pr S p0 4))) ≤ (x.1 p0 6) then j_X5_readOne_54 N rc_X5_readEither rc_X5_readOne S p0 p1 p2 x else ck S (pr S p0 4) (x.1 p0 6) (Option.bind (f_X5_write N S p0 (x.1 (pr S p0 4) (x.1 p0 6).toNatClampNeg) x) (fun r20 => bl (U1 r20 p0 6 ((r20.1 p0 6) + 1)) (fun x21 => some (1, x21)))))
set_option maxHeartbeats 1000000 in
theorem j_X5_readOne_17_t {N d dr : Nat} (rc_X5_readEither : Nat → Int32 → DY → Option (Int32 × DY)) (rc_X5_readOne : Nat → Int32 → DY → Option (Int32 × DY)) {S : SH} (hW : WT S) (hd : dr + 3 ≤ d) (p0 : Nat) (p1 : Int32) (p2 : Int32) (x : DY) (g0 : TY S p0 5) (hr_X5_readEither : ∀ {d : Nat} {x : DY} {b0 : Nat} {b1 : Int32}, dr ≤ d → TY S b0 5 → CT mX5_readEither d S [.ref b0, .int b1] x wSI (rc_X5_readEither b0 b1 x)) (hr_X5_readOne : ∀ {d : Nat} {x : DY} {b0 : Nat} {b1 : Int32}, dr ≤ d → TY S b0 5 → CT mX5_readOne d S [.ref b0, .int b1] x wSI (rc_X5_readOne b0 b1 x)) : Go mX5_readOne d S wSI 17 [some (.ref p0), some (.int p1), some (.int p2), none] [] x (j_X5_readOne_17 N rc_X5_readEither rc_X5_readOne S p0 p1 p2 x) := by
  unfold j_X5_readOne_17
  refine go1 (M := mX5_readOne) (pc' := 18) (r_aload_n (M := mX5_readOne) (i := 0) rfl dX5_readOne_17) ?_
  refine go1 (M := mX5_readOne) (pc' := 21) (r_getI (M := mX5_readOne) fl_5_31 g0 rfl dX5_readOne_18) ?_
  refine go1 (M := mX5_readOne) (pc' := 22) (r_aload_n (M := mX5_readOne) (i := 0) rfl dX5_readOne_21) ?_
  refine go1 (M := mX5_readOne) (pc' := 25) (r_getR (M := mX5_readOne) fl_5_25 g0 rfl (wt_some hW g0 (by decide) (by decide) rfl) dX5_readOne_22) ?_
  have hT3 : TY S (pr S p0 4) 14 := wt hW g0 (by decide) (by decide) rfl (by decide)
  refine go1 (M := mX5_readOne) (pc' := 26) (r_alen (M := mX5_readOne) hT3 (by decide) (by decide) dX5_readOne_25) ?_
  refine go_br (M := mX5_readOne) (pt := 54) (pf := 29) (fun kt kf => r_icmp_ge (M := mX5_readOne) dX5_readOne_26 (by decide) kt kf) (fun hc4 => ?_) (fun hc4 => ?_)
  · exact j_X5_readOne_54_t (N := N) (dr := dr) rc_X5_readEither rc_X5_readOne hW (by omega) p0 p1 p2 x g0  hr_X5_readEither hr_X5_readOne
  · refine go1 (M := mX5_readOne) (pc' := 30) (r_aload_n (M := mX5_readOne) (i := 0) rfl dX5_readOne_29) ?_
    refine go1 (M := mX5_readOne) (pc' := 31) (r_aload_n (M := mX5_readOne) (i := 0) rfl dX5_readOne_30) ?_
    refine go1 (M := mX5_readOne) (pc' := 34) (r_getR (M := mX5_readOne) fl_5_25 g0 rfl (wt_some hW g0 (by decide) (by decide) rfl) dX5_readOne_31) ?_
    refine go1 (M := mX5_readOne) (pc' := 35) (r_aload_n (M := mX5_readOne) (i := 0) rfl dX5_readOne_34) ?_
    refine go1 (M := mX5_readOne) (pc' := 38) (r_getI (M := mX5_readOne) fl_5_31 g0 rfl dX5_readOne_35) ?_
    refine go_ck (fun hi19 => ?_)
    refine go1 (M := mX5_readOne) (pc' := 39) (r_iald (M := mX5_readOne) hT3 hi19 dX5_readOne_38) ?_
    refine go_V_SV (M := mX5_readOne) (pc' := 42) (st := []) (As := [.int (x.1 (pr S p0 4) (x.1 p0 6).toNatClampNeg)]) rfl ln_5_87 lb_X5_write (t_X5_write (N := N) hW (by omega) g0) (by omega) g0 (Nat.le_of_ble_eq_true rfl) rfl dX5_readOne_39 (fun r20 => ?_)
    refine go1 (M := mX5_readOne) (pc' := 43) (r_aload_n (M := mX5_readOne) (i := 0) rfl dX5_readOne_42) ?_
    refine go1 (M := mX5_readOne) (pc' := 44) (r_dup (M := mX5_readOne) rfl dX5_readOne_43) ?_
    refine go1 (M := mX5_readOne) (pc' := 47) (r_getI (M := mX5_readOne) fl_5_31 g0 rfl dX5_readOne_44) ?_
    refine go1 (M := mX5_readOne) (pc' := 48) (r_iconst (M := mX5_readOne) (v := 1) (by decide) dX5_readOne_47) ?_
    refine go1 (M := mX5_readOne) (pc' := 49) (r_iadd (M := mX5_readOne) dX5_readOne_48) ?_
    refine go1 (M := mX5_readOne) (pc' := 52) (r_putI (M := mX5_readOne) fl_5_31 g0 rfl rfl dX5_readOne_49) ?_
    refine go_blx (fun x21 => ?_)
    refine go1 (M := mX5_readOne) (pc' := 53) (r_iconst (M := mX5_readOne) (v := 1) (by decide) dX5_readOne_52) ?_
    exact go_zret (M := mX5_readOne) rfl rfl rfl dX5_readOne_53
def f_X5_readOne (N : Nat) (rc_X5_readEither : Nat → Int32 → DY → Option (Int32 × DY)) (rc_X5_readOne : Nat → Int32 → DY → Option (Int32 × DY)) (S : SH) (a0 : Nat) (a1 : Int32) (x : DY) : Option (Int32 × DY) :=
  Option.bind (f_X5_token N S a0 x) (fun r1 => (if r1 = (-3) then j_X5_readOne_17 N rc_X5_readEither rc_X5_readOne S a0 a1 r1 x else (if r1 = (-4) then j_X5_readOne_17 N rc_X5_readEither rc_X5_readOne S a0 a1 r1 x else j_X5_readOne_54 N rc_X5_readEither rc_X5_readOne S a0 a1 r1 x)))
set_option maxHeartbeats 1000000 in
theorem t_X5_readOne {N d dr : Nat} (rc_X5_readEither : Nat → Int32 → DY → Option (Int32 × DY)) (rc_X5_readOne : Nat → Int32 → DY → Option (Int32 × DY)) {S : SH} (hW : WT S) {x : DY} {a0 : Nat} {a1 : Int32} (hd : dr + 3 ≤ d) (h0 : TY S a0 5) (hr_X5_readEither : ∀ {d : Nat} {x : DY} {b0 : Nat} {b1 : Int32}, dr ≤ d → TY S b0 5 → CT mX5_readEither d S [.ref b0, .int b1] x wSI (rc_X5_readEither b0 b1 x)) (hr_X5_readOne : ∀ {d : Nat} {x : DY} {b0 : Nat} {b1 : Int32}, dr ≤ d → TY S b0 5 → CT mX5_readOne d S [.ref b0, .int b1] x wSI (rc_X5_readOne b0 b1 x)) : CT mX5_readOne d S [.ref a0, .int a1] x wSI (f_X5_readOne N rc_X5_readEither rc_X5_readOne S a0 a1 x) := by
  refine CT.of [some (.ref a0), some (.int a1), none, none] rfl (Nat.le_of_ble_eq_true rfl) (by decide +kernel) ?_
  unfold f_X5_readOne
  refine go1 (M := mX5_readOne) (pc' := 1) (r_aload_n (M := mX5_readOne) (i := 0) rfl dX5_readOne_0) ?_
  refine go_V_PI (M := mX5_readOne) (pc' := 4) (st := []) (As := []) rfl ln_5_76 lb_X5_token (t_X5_token (N := N) hW (by omega) h0) (by omega) h0 (Nat.le_of_ble_eq_true rfl) rfl dX5_readOne_1 (fun r1 => ?_)
  refine go1 (M := mX5_readOne) (pc' := 5) (ls' := [some (.ref a0), some (.int a1), some (.int r1), none]) (r_istore_n (M := mX5_readOne) (ls := [some (.ref a0), some (.int a1), none, none]) (i := 2) (v := r1) (by decide) rfl dX5_readOne_4) ?_
  refine go1 (M := mX5_readOne) (pc' := 6) (r_iload_n (M := mX5_readOne) (i := 2) rfl dX5_readOne_5) ?_
  refine go1 (M := mX5_readOne) (pc' := 8) (r_bipush (M := mX5_readOne) (v := (-3)) (by decide) dX5_readOne_6) ?_
  refine go_br (M := mX5_readOne) (pt := 17) (pf := 11) (fun kt kf => r_icmp_eq (M := mX5_readOne) dX5_readOne_8 (by decide) kt kf) (fun hc2 => ?_) (fun hc2 => ?_)
  · exact j_X5_readOne_17_t (N := N) (dr := dr) rc_X5_readEither rc_X5_readOne hW (by omega) a0 a1 r1 x h0  hr_X5_readEither hr_X5_readOne
  · refine go1 (M := mX5_readOne) (pc' := 12) (r_iload_n (M := mX5_readOne) (i := 2) rfl dX5_readOne_11) ?_
    refine go1 (M := mX5_readOne) (pc' := 14) (r_bipush (M := mX5_readOne) (v := (-4)) (by decide) dX5_readOne_12) ?_
    refine go_br (M := mX5_readOne) (pt := 17) (pf := 54) (fun kt kf => r_icmp_ne (M := mX5_readOne) dX5_readOne_14 (by decide) kf kt) (fun hc22 => ?_) (fun hc22 => ?_)
    · exact j_X5_readOne_17_t (N := N) (dr := dr) rc_X5_readEither rc_X5_readOne hW (by omega) a0 a1 r1 x h0  hr_X5_readEither hr_X5_readOne
    · exact j_X5_readOne_54_t (N := N) (dr := dr) rc_X5_readEither rc_X5_readOne hW (by omega) a0 a1 r1 x h0  hr_X5_readEither hr_X5_readOne
def lp_X5_readTerm_8_b (N : Nat) (rc_X5_readOne : Nat → Int32 → DY → Option (Int32 × DY)) (S : SH) (bk8 : Int32 → Int32 → DY → Option (Int32 × DY)) (p0 : Nat) (p1 : Int32) (p2 : Int32) (p3 : Int32) (x : DY) : Option (Int32 × DY) :=
  (if 160 ≤ p3 then bz p2 (some (p2, x)) else (if p2 = 0 then bz p2 (some (p2, x)) else Option.bind (f_X5_token N S p0 x) (fun r7 => (if r7 = 42 then bl (U1 x p0 6 ((x.1 p0 6) + 1)) (fun x10 => Option.bind (rc_X5_readOne p0 p1 x10) (fun r11 => Option.bind (f_X5_write N S p0 (-15) r11.2) (fun r12 => bk8 r11.1 (p3 + 1) r12))) else bz p2 (some (p2, x))))))
set_option maxHeartbeats 1000000 in
theorem lp_X5_readTerm_8_b_t {N d dr : Nat} (rc_X5_readOne : Nat → Int32 → DY → Option (Int32 × DY)) {S : SH} (hW : WT S) (hd : dr + 2 ≤ d) (bk8 : Int32 → Int32 → DY → Option (Int32 × DY)) (p0 : Nat) (p1 : Int32) (p2 : Int32) (p3 : Int32) (x : DY) (g0 : TY S p0 5) (hbk8 : ∀ (v2 : Int32) (v3 : Int32) (y : DY), Go mX5_readTerm d S wSI 8 [some (.ref p0), some (.int p1), some (.int v2), some (.int v3)] [] y (bk8 v2 v3 y)) (hr_X5_readOne : ∀ {d : Nat} {x : DY} {b0 : Nat} {b1 : Int32}, dr ≤ d → TY S b0 5 → CT mX5_readOne d S [.ref b0, .int b1] x wSI (rc_X5_readOne b0 b1 x)) : Go mX5_readTerm d S wSI 8 [some (.ref p0), some (.int p1), some (.int p2), some (.int p3)] [] x (lp_X5_readTerm_8_b N rc_X5_readOne S bk8 p0 p1 p2 p3 x) := by
  unfold lp_X5_readTerm_8_b
  refine go1 (M := mX5_readTerm) (pc' := 9) (r_iload_n (M := mX5_readTerm) (i := 3) rfl dX5_readTerm_8) ?_
  refine go1 (M := mX5_readTerm) (pc' := 12) (r_sipush (M := mX5_readTerm) (v := 160) (by decide) dX5_readTerm_9) ?_
  refine go_br (M := mX5_readTerm) (pt := 56) (pf := 15) (fun kt kf => r_icmp_ge (M := mX5_readTerm) dX5_readTerm_12 (by decide) kt kf) (fun hc3 => ?_) (fun hc3 => ?_)
  · refine go1 (M := mX5_readTerm) (pc' := 57) (r_iload_n (M := mX5_readTerm) (i := 2) rfl dX5_readTerm_56) ?_
    refine go_bz (fun hn4 => ?_)
    exact go_zret (M := mX5_readTerm) rfl hn4 rfl dX5_readTerm_57
  · refine go1 (M := mX5_readTerm) (pc' := 16) (r_iload_n (M := mX5_readTerm) (i := 2) rfl dX5_readTerm_15) ?_
    refine go_br (M := mX5_readTerm) (pt := 56) (pf := 19) (fun kt kf => r_if_eq (M := mX5_readTerm) dX5_readTerm_16 (by decide) kt kf) (fun hc5 => ?_) (fun hc5 => ?_)
    · refine go1 (M := mX5_readTerm) (pc' := 57) (r_iload_n (M := mX5_readTerm) (i := 2) rfl dX5_readTerm_56) ?_
      refine go_bz (fun hn6 => ?_)
      exact go_zret (M := mX5_readTerm) rfl hn6 rfl dX5_readTerm_57
    · refine go1 (M := mX5_readTerm) (pc' := 20) (r_aload_n (M := mX5_readTerm) (i := 0) rfl dX5_readTerm_19) ?_
      refine go_V_PI (M := mX5_readTerm) (pc' := 23) (st := []) (As := []) rfl ln_5_76 lb_X5_token (t_X5_token (N := N) hW (by omega) g0) (by omega) g0 (Nat.le_of_ble_eq_true rfl) rfl dX5_readTerm_20 (fun r7 => ?_)
      refine go1 (M := mX5_readTerm) (pc' := 25) (r_bipush (M := mX5_readTerm) (v := 42) (by decide) dX5_readTerm_23) ?_
      refine go_br (M := mX5_readTerm) (pt := 28) (pf := 56) (fun kt kf => r_icmp_ne (M := mX5_readTerm) dX5_readTerm_25 (by decide) kf kt) (fun hc8 => ?_) (fun hc8 => ?_)
      · refine go1 (M := mX5_readTerm) (pc' := 29) (r_aload_n (M := mX5_readTerm) (i := 0) rfl dX5_readTerm_28) ?_
        refine go1 (M := mX5_readTerm) (pc' := 30) (r_dup (M := mX5_readTerm) rfl dX5_readTerm_29) ?_
        refine go1 (M := mX5_readTerm) (pc' := 33) (r_getI (M := mX5_readTerm) fl_5_31 g0 rfl dX5_readTerm_30) ?_
        refine go1 (M := mX5_readTerm) (pc' := 34) (r_iconst (M := mX5_readTerm) (v := 1) (by decide) dX5_readTerm_33) ?_
        refine go1 (M := mX5_readTerm) (pc' := 35) (r_iadd (M := mX5_readTerm) dX5_readTerm_34) ?_
        refine go1 (M := mX5_readTerm) (pc' := 38) (r_putI (M := mX5_readTerm) fl_5_31 g0 rfl rfl dX5_readTerm_35) ?_
        refine go_blx (fun x10 => ?_)
        refine go1 (M := mX5_readTerm) (pc' := 39) (r_aload_n (M := mX5_readTerm) (i := 0) rfl dX5_readTerm_38) ?_
        refine go1 (M := mX5_readTerm) (pc' := 40) (r_iload_n (M := mX5_readTerm) (i := 1) rfl dX5_readTerm_39) ?_
        refine go_V_SI (M := mX5_readTerm) (pc' := 43) (st := []) (As := [.int p1]) rfl ln_5_103 lb_X5_readOne (hr_X5_readOne (by omega) g0) (by omega) g0 (Nat.le_of_ble_eq_true rfl) rfl dX5_readTerm_40 (fun r11 => ?_)
        refine go1 (M := mX5_readTerm) (pc' := 44) (ls' := [some (.ref p0), some (.int p1), some (.int r11.1), some (.int p3)]) (r_istore_n (M := mX5_readTerm) (ls := [some (.ref p0), some (.int p1), some (.int p2), some (.int p3)]) (i := 2) (v := r11.1) (by decide) rfl dX5_readTerm_43) ?_
        refine go1 (M := mX5_readTerm) (pc' := 45) (r_aload_n (M := mX5_readTerm) (i := 0) rfl dX5_readTerm_44) ?_
        refine go1 (M := mX5_readTerm) (pc' := 47) (r_bipush (M := mX5_readTerm) (v := (-15)) (by decide) dX5_readTerm_45) ?_
        refine go_V_SV (M := mX5_readTerm) (pc' := 50) (st := []) (As := [.int (-15)]) rfl ln_5_87 lb_X5_write (t_X5_write (N := N) hW (by omega) g0) (by omega) g0 (Nat.le_of_ble_eq_true rfl) rfl dX5_readTerm_47 (fun r12 => ?_)
        refine go1 (M := mX5_readTerm) (pc' := 53) (ls' := [some (.ref p0), some (.int p1), some (.int r11.1), some (.int (p3 + 1))]) (r_iinc (M := mX5_readTerm) (ls := [some (.ref p0), some (.int p1), some (.int r11.1), some (.int p3)]) (i := 3) (v := p3) (c' := 1) (by decide) rfl (by decide) rfl dX5_readTerm_50) ?_
        refine go1 (M := mX5_readTerm) (pc' := 8) (r_goto (M := mX5_readTerm) dX5_readTerm_53 (by decide)) ?_
        exact hbk8 r11.1 (p3 + 1) r12
      · refine go1 (M := mX5_readTerm) (pc' := 57) (r_iload_n (M := mX5_readTerm) (i := 2) rfl dX5_readTerm_56) ?_
        refine go_bz (fun hn9 => ?_)
        exact go_zret (M := mX5_readTerm) rfl hn9 rfl dX5_readTerm_57
def lp_X5_readTerm_8 (N : Nat) (rc_X5_readOne : Nat → Int32 → DY → Option (Int32 × DY)) (S : SH) (p0 : Nat) (p1 : Int32) (p2 : Int32) (p3 : Int32) (x : DY) : Option (Int32 × DY) :=
  itr (fun back (v : Int32 × Int32 × DY) => lp_X5_readTerm_8_b N rc_X5_readOne S (fun p2 p3 y => back (p2, p3, y)) p0 p1 v.1 v.2.1 v.2.2) N (p2, p3, x)
theorem lp_X5_readTerm_8_t {N d dr : Nat} (rc_X5_readOne : Nat → Int32 → DY → Option (Int32 × DY)) {S : SH} (hW : WT S) (hd : dr + 2 ≤ d) (p0 : Nat) (p1 : Int32) (p2 : Int32) (p3 : Int32) (x : DY) (g0 : TY S p0 5) (hr_X5_readOne : ∀ {d : Nat} {x : DY} {b0 : Nat} {b1 : Int32}, dr ≤ d → TY S b0 5 → CT mX5_readOne d S [.ref b0, .int b1] x wSI (rc_X5_readOne b0 b1 x)) : Go mX5_readTerm d S wSI 8 [some (.ref p0), some (.int p1), some (.int p2), some (.int p3)] [] x (lp_X5_readTerm_8 N rc_X5_readOne S p0 p1 p2 p3 x) := by
  unfold lp_X5_readTerm_8
  exact go_itr (L := fun (v : Int32 × Int32 × DY) => [some (.ref p0), some (.int p1), some (.int v.1), some (.int v.2.1)]) (X := fun (v : Int32 × Int32 × DY) => v.2.2) (fun back hB v => lp_X5_readTerm_8_b_t (N := N) (dr := dr) rc_X5_readOne hW hd (fun p2 p3 y => back (p2, p3, y)) p0 p1 v.1 v.2.1 v.2.2 g0 (fun p2 p3 y => hB (p2, p3, y)) hr_X5_readOne) N (p2, p3, x)
def f_X5_readTerm (N : Nat) (rc_X5_readOne : Nat → Int32 → DY → Option (Int32 × DY)) (S : SH) (a0 : Nat) (a1 : Int32) (x : DY) : Option (Int32 × DY) :=
  Option.bind (rc_X5_readOne a0 a1 x) (fun r1 => lp_X5_readTerm_8 N rc_X5_readOne S a0 a1 r1.1 0 r1.2)
set_option maxHeartbeats 1000000 in
theorem t_X5_readTerm {N d dr : Nat} (rc_X5_readOne : Nat → Int32 → DY → Option (Int32 × DY)) {S : SH} (hW : WT S) {x : DY} {a0 : Nat} {a1 : Int32} (hd : dr + 2 ≤ d) (h0 : TY S a0 5) (hr_X5_readOne : ∀ {d : Nat} {x : DY} {b0 : Nat} {b1 : Int32}, dr ≤ d → TY S b0 5 → CT mX5_readOne d S [.ref b0, .int b1] x wSI (rc_X5_readOne b0 b1 x)) : CT mX5_readTerm d S [.ref a0, .int a1] x wSI (f_X5_readTerm N rc_X5_readOne S a0 a1 x) := by
  refine CT.of [some (.ref a0), some (.int a1), none, none] rfl (Nat.le_of_ble_eq_true rfl) (by decide +kernel) ?_
  unfold f_X5_readTerm
  refine go1 (M := mX5_readTerm) (pc' := 1) (r_aload_n (M := mX5_readTerm) (i := 0) rfl dX5_readTerm_0) ?_
  refine go1 (M := mX5_readTerm) (pc' := 2) (r_iload_n (M := mX5_readTerm) (i := 1) rfl dX5_readTerm_1) ?_
  refine go_V_SI (M := mX5_readTerm) (pc' := 5) (st := []) (As := [.int a1]) rfl ln_5_103 lb_X5_readOne (hr_X5_readOne (by omega) h0) (by omega) h0 (Nat.le_of_ble_eq_true rfl) rfl dX5_readTerm_2 (fun r1 => ?_)
  refine go1 (M := mX5_readTerm) (pc' := 6) (ls' := [some (.ref a0), some (.int a1), some (.int r1.1), none]) (r_istore_n (M := mX5_readTerm) (ls := [some (.ref a0), some (.int a1), none, none]) (i := 2) (v := r1.1) (by decide) rfl dX5_readTerm_5) ?_
  refine go1 (M := mX5_readTerm) (pc' := 7) (r_iconst (M := mX5_readTerm) (v := 0) (by decide) dX5_readTerm_6) ?_
  refine go1 (M := mX5_readTerm) (pc' := 8) (ls' := [some (.ref a0), some (.int a1), some (.int r1.1), some (.int 0)]) (r_istore_n (M := mX5_readTerm) (ls := [some (.ref a0), some (.int a1), some (.int r1.1), none]) (i := 3) (v := 0) (by decide) rfl dX5_readTerm_7) ?_
  refine lp_X5_readTerm_8_t (N := N) (dr := dr) rc_X5_readOne hW (by omega) a0 a1 r1.1 0 r1.2 h0  hr_X5_readOne
