/-! MIRRORS, by program out of the class's bytecode: X12_goTick .. X12_ahead_ -/
def j_X12_goTick_32 (N : Nat) (S : SH) (bk10 : Int32 → DY → Option DY) (p0 : Nat) (p1 : Int32) (x : DY) : Option DY :=
  bk10 (p1 + 1) x
set_option maxHeartbeats 1000000 in
theorem j_X12_goTick_32_t {N d : Nat} {S : SH} (hW : WT S) (hd : 3 ≤ d) (bk10 : Int32 → DY → Option DY) (p0 : Nat) (p1 : Int32) (x : DY) (g0 : TY S p0 12) (hbk10 : ∀ (v1 : Int32) (y : DY), Go mX12_goTick d S wSV 10 [some (.ref p0), some (.int v1)] [] y (bk10 v1 y)) : Go mX12_goTick d S wSV 32 [some (.ref p0), some (.int p1)] [] x (j_X12_goTick_32 N S bk10 p0 p1 x) := by
  unfold j_X12_goTick_32
  refine go1 (M := mX12_goTick) (pc' := 35) (ls' := [some (.ref p0), some (.int (p1 + 1))]) (r_iinc (M := mX12_goTick) (ls := [some (.ref p0), some (.int p1)]) (i := 1) (v := p1) (c' := 1) (by decide) rfl (by decide) rfl dX12_goTick_32) ?_
  refine go1 (M := mX12_goTick) (pc' := 10) (r_goto (M := mX12_goTick) dX12_goTick_35 (by decide)) ?_
  exact hbk10 (p1 + 1) x
def lp_X12_goTick_10_b (N : Nat) (S : SH) (k38 : DY → Option DY) (bk10 : Int32 → DY → Option DY) (p0 : Nat) (p1 : Int32) (x : DY) : Option DY :=
  (if (x.1 p0 18) ≤ p1 then k38 x else ck S (pr S p0 26) p1 ((if (x.1 (pr S p0 26) p1.toNatClampNeg) = 0 then j_X12_goTick_32 N S bk10 p0 p1 x else Option.bind (f_X12_dine N S p0 p1 x) (fun r8 => j_X12_goTick_32 N S bk10 p0 p1 r8))))
set_option maxHeartbeats 1000000 in
theorem lp_X12_goTick_10_b_t {N d : Nat} {S : SH} (hW : WT S) (hd : 4 ≤ d) (k38 : DY → Option DY) (bk10 : Int32 → DY → Option DY) (p0 : Nat) (p1 : Int32) (x : DY) (g0 : TY S p0 12) (hk38 : ∀ (y : DY), Go mX12_goTick d S wSV 38 [some (.ref p0), none] [] y (k38 y)) (hbk10 : ∀ (v1 : Int32) (y : DY), Go mX12_goTick d S wSV 10 [some (.ref p0), some (.int v1)] [] y (bk10 v1 y)) : Go mX12_goTick d S wSV 10 [some (.ref p0), some (.int p1)] [] x (lp_X12_goTick_10_b N S k38 bk10 p0 p1 x) := by
  unfold lp_X12_goTick_10_b
  refine go1 (M := mX12_goTick) (pc' := 11) (r_iload_n (M := mX12_goTick) (i := 1) rfl dX12_goTick_10) ?_
  refine go1 (M := mX12_goTick) (pc' := 12) (r_aload_n (M := mX12_goTick) (i := 0) rfl dX12_goTick_11) ?_
  refine go1 (M := mX12_goTick) (pc' := 15) (r_getI (M := mX12_goTick) fl_12_62 g0 rfl dX12_goTick_12) ?_
  refine go_br (M := mX12_goTick) (pt := 38) (pf := 18) (fun kt kf => r_icmp_ge (M := mX12_goTick) dX12_goTick_15 (by decide) kt kf) (fun hc4 => ?_) (fun hc4 => ?_)
  · refine go_drop (ls' := [some (.ref p0), none]) (And.intro rfl trivial) ?_
    exact hk38 x
  · refine go1 (M := mX12_goTick) (pc' := 19) (r_aload_n (M := mX12_goTick) (i := 0) rfl dX12_goTick_18) ?_
    refine go1 (M := mX12_goTick) (pc' := 22) (r_getR (M := mX12_goTick) fl_12_86 g0 rfl (wt_some hW g0 (by decide) (by decide) rfl) dX12_goTick_19) ?_
    have hT5 : TY S (pr S p0 26) 15 := wt hW g0 (by decide) (by decide) rfl (by decide)
    refine go1 (M := mX12_goTick) (pc' := 23) (r_iload_n (M := mX12_goTick) (i := 1) rfl dX12_goTick_22) ?_
    refine go_ck (fun hi6 => ?_)
    refine go1 (M := mX12_goTick) (pc' := 24) (r_zald (M := mX12_goTick) hT5 hi6 dX12_goTick_23) ?_
    refine go_br (M := mX12_goTick) (pt := 32) (pf := 27) (fun kt kf => r_if_eq (M := mX12_goTick) dX12_goTick_24 (by decide) kt kf) (fun hc7 => ?_) (fun hc7 => ?_)
    · exact j_X12_goTick_32_t (N := N) hW (by omega) bk10 p0 p1 x g0 hbk10
    · refine go1 (M := mX12_goTick) (pc' := 28) (r_aload_n (M := mX12_goTick) (i := 0) rfl dX12_goTick_27) ?_
      refine go1 (M := mX12_goTick) (pc' := 29) (r_iload_n (M := mX12_goTick) (i := 1) rfl dX12_goTick_28) ?_
      refine go_V_SV (M := mX12_goTick) (pc' := 32) (st := []) (As := [.int p1]) rfl ln_12_352 lb_X12_dine (t_X12_dine (N := N) hW (by omega) g0) (by omega) g0 (Nat.le_of_ble_eq_true rfl) rfl dX12_goTick_29 (fun r8 => ?_)
      exact j_X12_goTick_32_t (N := N) hW (by omega) bk10 p0 p1 r8 g0 hbk10
def lp_X12_goTick_10 (N : Nat) (S : SH) (k38 : DY → Option DY) (p0 : Nat) (p1 : Int32) (x : DY) : Option DY :=
  itr (fun back (v : Int32 × DY) => lp_X12_goTick_10_b N S k38 (fun p1 y => back (p1, y)) p0 v.1 v.2) N (p1, x)
theorem lp_X12_goTick_10_t {N d : Nat} {S : SH} (hW : WT S) (hd : 4 ≤ d) (k38 : DY → Option DY) (p0 : Nat) (p1 : Int32) (x : DY) (g0 : TY S p0 12) (hk38 : ∀ (y : DY), Go mX12_goTick d S wSV 38 [some (.ref p0), none] [] y (k38 y)) : Go mX12_goTick d S wSV 10 [some (.ref p0), some (.int p1)] [] x (lp_X12_goTick_10 N S k38 p0 p1 x) := by
  unfold lp_X12_goTick_10
  exact go_itr (L := fun (v : Int32 × DY) => [some (.ref p0), some (.int v.1)]) (X := fun (v : Int32 × DY) => v.2) (fun back hB v => lp_X12_goTick_10_b_t (N := N) hW hd k38 (fun p1 y => back (p1, y)) p0 v.1 v.2 g0 hk38 (fun p1 y => hB (p1, y)) ) N (p1, x)
def j_X12_goTick_79 (N : Nat) (S : SH) (bk40 : Int32 → DY → Option DY) (p0 : Nat) (p1 : Int32) (x : DY) : Option DY :=
  bk40 (p1 + 1) x
set_option maxHeartbeats 1000000 in
theorem j_X12_goTick_79_t {N d : Nat} {S : SH} (hW : WT S) (hd : 4 ≤ d) (bk40 : Int32 → DY → Option DY) (p0 : Nat) (p1 : Int32) (x : DY) (g0 : TY S p0 12) (hbk40 : ∀ (v1 : Int32) (y : DY), Go mX12_goTick d S wSV 40 [some (.ref p0), some (.int v1)] [] y (bk40 v1 y)) : Go mX12_goTick d S wSV 79 [some (.ref p0), some (.int p1)] [] x (j_X12_goTick_79 N S bk40 p0 p1 x) := by
  unfold j_X12_goTick_79
  refine go1 (M := mX12_goTick) (pc' := 82) (ls' := [some (.ref p0), some (.int (p1 + 1))]) (r_iinc (M := mX12_goTick) (ls := [some (.ref p0), some (.int p1)]) (i := 1) (v := p1) (c' := 1) (by decide) rfl (by decide) rfl dX12_goTick_79) ?_
  refine go1 (M := mX12_goTick) (pc' := 40) (r_goto (M := mX12_goTick) dX12_goTick_82 (by decide)) ?_
  exact hbk40 (p1 + 1) x
def lp_X12_goTick_40_b (N : Nat) (S : SH) (k85 : DY → Option DY) (bk40 : Int32 → DY → Option DY) (p0 : Nat) (p1 : Int32) (x : DY) : Option DY :=
  (if (x.1 p0 18) ≤ p1 then k85 x else ck S (pr S p0 26) p1 ((if (x.1 (pr S p0 26) p1.toNatClampNeg) = 0 then j_X12_goTick_79 N S bk40 p0 p1 x else Option.bind (f_X12_findFacts N S p0 p1 (-1) x) (fun r15 => Option.bind (f_X12_work N S p0 1 r15) (fun r16 => (if r16.1 = 0 then j_X12_goTick_79 N S bk40 p0 p1 r16.2 else Option.bind (f_X12_leave N S p0 p1 r16.2) (fun r18 => j_X12_goTick_79 N S bk40 p0 p1 r18)))))))
set_option maxHeartbeats 1000000 in
theorem lp_X12_goTick_40_b_t {N d : Nat} {S : SH} (hW : WT S) (hd : 4 ≤ d) (k85 : DY → Option DY) (bk40 : Int32 → DY → Option DY) (p0 : Nat) (p1 : Int32) (x : DY) (g0 : TY S p0 12) (hk85 : ∀ (y : DY), Go mX12_goTick d S wSV 85 [some (.ref p0), none] [] y (k85 y)) (hbk40 : ∀ (v1 : Int32) (y : DY), Go mX12_goTick d S wSV 40 [some (.ref p0), some (.int v1)] [] y (bk40 v1 y)) : Go mX12_goTick d S wSV 40 [some (.ref p0), some (.int p1)] [] x (lp_X12_goTick_40_b N S k85 bk40 p0 p1 x) := by
  unfold lp_X12_goTick_40_b
  refine go1 (M := mX12_goTick) (pc' := 41) (r_iload_n (M := mX12_goTick) (i := 1) rfl dX12_goTick_40) ?_
  refine go1 (M := mX12_goTick) (pc' := 42) (r_aload_n (M := mX12_goTick) (i := 0) rfl dX12_goTick_41) ?_
  refine go1 (M := mX12_goTick) (pc' := 45) (r_getI (M := mX12_goTick) fl_12_62 g0 rfl dX12_goTick_42) ?_
  refine go_br (M := mX12_goTick) (pt := 85) (pf := 48) (fun kt kf => r_icmp_ge (M := mX12_goTick) dX12_goTick_45 (by decide) kt kf) (fun hc11 => ?_) (fun hc11 => ?_)
  · refine go_drop (ls' := [some (.ref p0), none]) (And.intro rfl trivial) ?_
    exact hk85 x
  · refine go1 (M := mX12_goTick) (pc' := 49) (r_aload_n (M := mX12_goTick) (i := 0) rfl dX12_goTick_48) ?_
    refine go1 (M := mX12_goTick) (pc' := 52) (r_getR (M := mX12_goTick) fl_12_86 g0 rfl (wt_some hW g0 (by decide) (by decide) rfl) dX12_goTick_49) ?_
    have hT12 : TY S (pr S p0 26) 15 := wt hW g0 (by decide) (by decide) rfl (by decide)
    refine go1 (M := mX12_goTick) (pc' := 53) (r_iload_n (M := mX12_goTick) (i := 1) rfl dX12_goTick_52) ?_
    refine go_ck (fun hi13 => ?_)
    refine go1 (M := mX12_goTick) (pc' := 54) (r_zald (M := mX12_goTick) hT12 hi13 dX12_goTick_53) ?_
    refine go_br (M := mX12_goTick) (pt := 57) (pf := 60) (fun kt kf => r_if_ne (M := mX12_goTick) dX12_goTick_54 (by decide) kf kt) (fun hc14 => ?_) (fun hc14 => ?_)
    · refine go1 (M := mX12_goTick) (pc' := 79) (r_goto (M := mX12_goTick) dX12_goTick_57 (by decide)) ?_
      exact j_X12_goTick_79_t (N := N) hW (by omega) bk40 p0 p1 x g0 hbk40
    · refine go1 (M := mX12_goTick) (pc' := 61) (r_aload_n (M := mX12_goTick) (i := 0) rfl dX12_goTick_60) ?_
      refine go1 (M := mX12_goTick) (pc' := 62) (r_iload_n (M := mX12_goTick) (i := 1) rfl dX12_goTick_61) ?_
      refine go1 (M := mX12_goTick) (pc' := 63) (r_iconst (M := mX12_goTick) (v := (-1)) (by decide) dX12_goTick_62) ?_
      refine go_V_SV (M := mX12_goTick) (pc' := 66) (st := []) (As := [.int p1, .int (-1)]) rfl ln_12_337 lb_X12_findFacts (t_X12_findFacts (N := N) hW (by omega) g0) (by omega) g0 (Nat.le_of_ble_eq_true rfl) rfl dX12_goTick_63 (fun r15 => ?_)
      refine go1 (M := mX12_goTick) (pc' := 67) (r_aload_n (M := mX12_goTick) (i := 0) rfl dX12_goTick_66) ?_
      refine go1 (M := mX12_goTick) (pc' := 68) (r_iconst (M := mX12_goTick) (v := 1) (by decide) dX12_goTick_67) ?_
      refine go_V_SI (M := mX12_goTick) (pc' := 71) (st := []) (As := [.int 1]) rfl ln_12_340 lb_X12_work (t_X12_work (N := N) hW (by omega) g0) (by omega) g0 (Nat.le_of_ble_eq_true rfl) rfl dX12_goTick_68 (fun r16 => ?_)
      refine go_br (M := mX12_goTick) (pt := 79) (pf := 74) (fun kt kf => r_if_eq (M := mX12_goTick) dX12_goTick_71 (by decide) kt kf) (fun hc17 => ?_) (fun hc17 => ?_)
      · exact j_X12_goTick_79_t (N := N) hW (by omega) bk40 p0 p1 r16.2 g0 hbk40
      · refine go1 (M := mX12_goTick) (pc' := 75) (r_aload_n (M := mX12_goTick) (i := 0) rfl dX12_goTick_74) ?_
        refine go1 (M := mX12_goTick) (pc' := 76) (r_iload_n (M := mX12_goTick) (i := 1) rfl dX12_goTick_75) ?_
        refine go_V_SV (M := mX12_goTick) (pc' := 79) (st := []) (As := [.int p1]) rfl ln_12_355 lb_X12_leave (t_X12_leave (N := N) hW (by omega) g0) (by omega) g0 (Nat.le_of_ble_eq_true rfl) rfl dX12_goTick_76 (fun r18 => ?_)
        exact j_X12_goTick_79_t (N := N) hW (by omega) bk40 p0 p1 r18 g0 hbk40
def lp_X12_goTick_40 (N : Nat) (S : SH) (k85 : DY → Option DY) (p0 : Nat) (p1 : Int32) (x : DY) : Option DY :=
  itr (fun back (v : Int32 × DY) => lp_X12_goTick_40_b N S k85 (fun p1 y => back (p1, y)) p0 v.1 v.2) N (p1, x)
theorem lp_X12_goTick_40_t {N d : Nat} {S : SH} (hW : WT S) (hd : 4 ≤ d) (k85 : DY → Option DY) (p0 : Nat) (p1 : Int32) (x : DY) (g0 : TY S p0 12) (hk85 : ∀ (y : DY), Go mX12_goTick d S wSV 85 [some (.ref p0), none] [] y (k85 y)) : Go mX12_goTick d S wSV 40 [some (.ref p0), some (.int p1)] [] x (lp_X12_goTick_40 N S k85 p0 p1 x) := by
  unfold lp_X12_goTick_40
  exact go_itr (L := fun (v : Int32 × DY) => [some (.ref p0), some (.int v.1)]) (X := fun (v : Int32 × DY) => v.2) (fun back hB v => lp_X12_goTick_40_b_t (N := N) hW hd k85 (fun p1 y => back (p1, y)) p0 v.1 v.2 g0 hk85 (fun p1 y => hB (p1, y)) ) N (p1, x)
def f_X12_goTick (N : Nat) (S : SH) (a0 : Nat) (x : DY) : Option DY :=
  Option.bind (f_X12_goRound N S a0 x) (fun r1 => Option.bind (f_X12_goLane N S a0 r1) (fun r2 => lp_X12_goTick_10 N S (fun y8 => lp_X12_goTick_40 N S (fun y18 => bl (U1 y18 a0 2 ((y18.1 a0 2) + 1)) (fun x20 => some x20)) a0 0 y8) a0 0 r2))
set_option maxHeartbeats 1000000 in
theorem t_X12_goTick {N d : Nat} {S : SH} (hW : WT S) {x : DY} {a0 : Nat} (hd : 4 ≤ d) (h0 : TY S a0 12) : CT mX12_goTick d S [.ref a0] x wSV (f_X12_goTick N S a0 x) := by
  refine CT.of [some (.ref a0), none] rfl (Nat.le_of_ble_eq_true rfl) (by decide +kernel) ?_
  unfold f_X12_goTick
  refine go1 (M := mX12_goTick) (pc' := 1) (r_aload_n (M := mX12_goTick) (i := 0) rfl dX12_goTick_0) ?_
  refine go_V_SV (M := mX12_goTick) (pc' := 4) (st := []) (As := []) rfl ln_12_346 lb_X12_goRound (t_X12_goRound (N := N) hW (by omega) h0) (by omega) h0 (Nat.le_of_ble_eq_true rfl) rfl dX12_goTick_1 (fun r1 => ?_)
  refine go1 (M := mX12_goTick) (pc' := 5) (r_aload_n (M := mX12_goTick) (i := 0) rfl dX12_goTick_4) ?_
  refine go_V_SV (M := mX12_goTick) (pc' := 8) (st := []) (As := []) rfl ln_12_349 lb_X12_goLane (t_X12_goLane (N := N) hW (by omega) h0) (by omega) h0 (Nat.le_of_ble_eq_true rfl) rfl dX12_goTick_5 (fun r2 => ?_)
  refine go1 (M := mX12_goTick) (pc' := 9) (r_iconst (M := mX12_goTick) (v := 0) (by decide) dX12_goTick_8) ?_
  refine go1 (M := mX12_goTick) (pc' := 10) (ls' := [some (.ref a0), some (.int 0)]) (r_istore_n (M := mX12_goTick) (ls := [some (.ref a0), none]) (i := 1) (v := 0) (by decide) rfl dX12_goTick_9) ?_
  refine lp_X12_goTick_10_t (N := N) hW (by omega) _ a0 0 r2 h0 ?_
  · intro y8
    refine go1 (M := mX12_goTick) (pc' := 39) (r_iconst (M := mX12_goTick) (v := 0) (by decide) dX12_goTick_38) ?_
    refine go1 (M := mX12_goTick) (pc' := 40) (ls' := [some (.ref a0), some (.int 0)]) (r_istore_n (M := mX12_goTick) (ls := [some (.ref a0), none]) (i := 1) (v := 0) (by decide) rfl dX12_goTick_39) ?_
    refine lp_X12_goTick_40_t (N := N) hW (by omega) _ a0 0 y8 h0 ?_
    · intro y18
      refine go1 (M := mX12_goTick) (pc' := 86) (r_aload_n (M := mX12_goTick) (i := 0) rfl dX12_goTick_85) ?_
      refine go1 (M := mX12_goTick) (pc' := 87) (r_dup (M := mX12_goTick) rfl dX12_goTick_86) ?_
      refine go1 (M := mX12_goTick) (pc' := 90) (r_getI (M := mX12_goTick) fl_12_13 h0 rfl dX12_goTick_87) ?_
      refine go1 (M := mX12_goTick) (pc' := 91) (r_iconst (M := mX12_goTick) (v := 1) (by decide) dX12_goTick_90) ?_
      refine go1 (M := mX12_goTick) (pc' := 92) (r_iadd (M := mX12_goTick) dX12_goTick_91) ?_
      refine go1 (M := mX12_goTick) (pc' := 95) (r_putI (M := mX12_goTick) fl_12_13 h0 rfl rfl dX12_goTick_92) ?_
      refine go_blx (fun x20 => ?_)
      exact go_vret (M := mX12_goTick) rfl rfl dX12_goTick_95
def lp_X12_tick_36_b (N : Nat) (S : SH) (bk36 : Int32 → DY → Option (Int32 × DY)) (p0 : Nat) (p1 : Int32) (p2 : Int32) (x : DY) : Option (Int32 × DY) :=
  (if p1 ≤ p2 then some ((x.1 p0 45), x) else Option.bind (f_X12_goTick N S p0 x) (fun r7 => bk36 (p2 + 1) r7))
set_option maxHeartbeats 1000000 in
theorem lp_X12_tick_36_b_t {N d : Nat} {S : SH} (hW : WT S) (hd : 5 ≤ d) (bk36 : Int32 → DY → Option (Int32 × DY)) (p0 : Nat) (p1 : Int32) (p2 : Int32) (x : DY) (g0 : TY S p0 12) (hbk36 : ∀ (v2 : Int32) (y : DY), Go mX12_tick d S wSI 36 [some (.ref p0), some (.int p1), some (.int v2)] [] y (bk36 v2 y)) : Go mX12_tick d S wSI 36 [some (.ref p0), some (.int p1), some (.int p2)] [] x (lp_X12_tick_36_b N S bk36 p0 p1 p2 x) := by
  unfold lp_X12_tick_36_b
  refine go1 (M := mX12_tick) (pc' := 37) (r_iload_n (M := mX12_tick) (i := 2) rfl dX12_tick_36) ?_
  refine go1 (M := mX12_tick) (pc' := 38) (r_iload_n (M := mX12_tick) (i := 1) rfl dX12_tick_37) ?_
  refine go_br (M := mX12_tick) (pt := 51) (pf := 41) (fun kt kf => r_icmp_ge (M := mX12_tick) dX12_tick_38 (by decide) kt kf) (fun hc6 => ?_) (fun hc6 => ?_)
  · refine go1 (M := mX12_tick) (pc' := 52) (r_aload_n (M := mX12_tick) (i := 0) rfl dX12_tick_51) ?_
    refine go1 (M := mX12_tick) (pc' := 55) (r_getI (M := mX12_tick) fl_12_145 g0 rfl dX12_tick_52) ?_
    exact go_iret (M := mX12_tick) rfl rfl dX12_tick_55
  · refine go1 (M := mX12_tick) (pc' := 42) (r_aload_n (M := mX12_tick) (i := 0) rfl dX12_tick_41) ?_
    refine go_V_SV (M := mX12_tick) (pc' := 45) (st := []) (As := []) rfl ln_12_358 lb_X12_goTick (t_X12_goTick (N := N) hW (by omega) g0) (by omega) g0 (Nat.le_of_ble_eq_true rfl) rfl dX12_tick_42 (fun r7 => ?_)
    refine go1 (M := mX12_tick) (pc' := 48) (ls' := [some (.ref p0), some (.int p1), some (.int (p2 + 1))]) (r_iinc (M := mX12_tick) (ls := [some (.ref p0), some (.int p1), some (.int p2)]) (i := 2) (v := p2) (c' := 1) (by decide) rfl (by decide) rfl dX12_tick_45) ?_
    refine go1 (M := mX12_tick) (pc' := 36) (r_goto (M := mX12_tick) dX12_tick_48 (by decide)) ?_
    exact hbk36 (p2 + 1) r7
def lp_X12_tick_36 (N : Nat) (S : SH) (p0 : Nat) (p1 : Int32) (p2 : Int32) (x : DY) : Option (Int32 × DY) :=
  itr (fun back (v : Int32 × DY) => lp_X12_tick_36_b N S (fun p2 y => back (p2, y)) p0 p1 v.1 v.2) N (p2, x)
theorem lp_X12_tick_36_t {N d : Nat} {S : SH} (hW : WT S) (hd : 5 ≤ d) (p0 : Nat) (p1 : Int32) (p2 : Int32) (x : DY) (g0 : TY S p0 12) : Go mX12_tick d S wSI 36 [some (.ref p0), some (.int p1), some (.int p2)] [] x (lp_X12_tick_36 N S p0 p1 p2 x) := by
  unfold lp_X12_tick_36
  exact go_itr (L := fun (v : Int32 × DY) => [some (.ref p0), some (.int p1), some (.int v.1)]) (X := fun (v : Int32 × DY) => v.2) (fun back hB v => lp_X12_tick_36_b_t (N := N) hW hd (fun p2 y => back (p2, y)) p0 p1 v.1 v.2 g0 (fun p2 y => hB (p2, y)) ) N (p2, x)
def f_X12_tick (N : Nat) (S : SH) (a0 : Nat) (a1 : Int32) (x : DY) : Option (Int32 × DY) :=
  Option.bind (f_X12_in N S a0 a1 1 60 x) (fun r1 => (if r1 = 0 then some ((-2), x) else (if ((x.1 a0 2) + a1) ≤ 9999 then bl (U1 x a0 45 0) (fun x4 => lp_X12_tick_36 N S a0 a1 0 x4) else some ((-4), x))))
set_option maxHeartbeats 1000000 in
theorem t_X12_tick {N d : Nat} {S : SH} (hW : WT S) {x : DY} {a0 : Nat} {a1 : Int32} (hd : 5 ≤ d) (h0 : TY S a0 12) : CT mX12_tick d S [.ref a0, .int a1] x wSI (f_X12_tick N S a0 a1 x) := by
  refine CT.of [some (.ref a0), some (.int a1), none] rfl (Nat.le_of_ble_eq_true rfl) (by decide +kernel) ?_
  unfold f_X12_tick
  refine go1 (M := mX12_tick) (pc' := 1) (r_aload_n (M := mX12_tick) (i := 0) rfl dX12_tick_0) ?_
  refine go1 (M := mX12_tick) (pc' := 2) (r_iload_n (M := mX12_tick) (i := 1) rfl dX12_tick_1) ?_
  refine go1 (M := mX12_tick) (pc' := 3) (r_iconst (M := mX12_tick) (v := 1) (by decide) dX12_tick_2) ?_
  refine go1 (M := mX12_tick) (pc' := 5) (r_bipush (M := mX12_tick) (v := 60) (by decide) dX12_tick_3) ?_
  refine go_V_PI (M := mX12_tick) (pc' := 8) (st := []) (As := [.int a1, .int 1, .int 60]) rfl ln_12_217 lb_X12_in (t_X12_in (N := N) hW (by omega) h0) (by omega) h0 (Nat.le_of_ble_eq_true rfl) rfl dX12_tick_5 (fun r1 => ?_)
  refine go_br (M := mX12_tick) (pt := 11) (pf := 14) (fun kt kf => r_if_ne (M := mX12_tick) dX12_tick_8 (by decide) kf kt) (fun hc2 => ?_) (fun hc2 => ?_)
  · refine go1 (M := mX12_tick) (pc' := 13) (r_bipush (M := mX12_tick) (v := (-2)) (by decide) dX12_tick_11) ?_
    exact go_iret (M := mX12_tick) rfl rfl dX12_tick_13
  · refine go1 (M := mX12_tick) (pc' := 15) (r_aload_n (M := mX12_tick) (i := 0) rfl dX12_tick_14) ?_
    refine go1 (M := mX12_tick) (pc' := 18) (r_getI (M := mX12_tick) fl_12_13 h0 rfl dX12_tick_15) ?_
    refine go1 (M := mX12_tick) (pc' := 19) (r_iload_n (M := mX12_tick) (i := 1) rfl dX12_tick_18) ?_
    refine go1 (M := mX12_tick) (pc' := 20) (r_iadd (M := mX12_tick) dX12_tick_19) ?_
    refine go1 (M := mX12_tick) (pc' := 23) (r_sipush (M := mX12_tick) (v := 9999) (by decide) dX12_tick_20) ?_
    refine go_br (M := mX12_tick) (pt := 29) (pf := 26) (fun kt kf => r_icmp_le (M := mX12_tick) dX12_tick_23 (by decide) kt kf) (fun hc3 => ?_) (fun hc3 => ?_)
    · refine go1 (M := mX12_tick) (pc' := 30) (r_aload_n (M := mX12_tick) (i := 0) rfl dX12_tick_29) ?_
      refine go1 (M := mX12_tick) (pc' := 31) (r_iconst (M := mX12_tick) (v := 0) (by decide) dX12_tick_30) ?_
      refine go1 (M := mX12_tick) (pc' := 34) (r_putI (M := mX12_tick) fl_12_145 h0 rfl rfl dX12_tick_31) ?_
      refine go_blx (fun x4 => ?_)
      refine go1 (M := mX12_tick) (pc' := 35) (r_iconst (M := mX12_tick) (v := 0) (by decide) dX12_tick_34) ?_
      refine go1 (M := mX12_tick) (pc' := 36) (ls' := [some (.ref a0), some (.int a1), some (.int 0)]) (r_istore_n (M := mX12_tick) (ls := [some (.ref a0), some (.int a1), none]) (i := 2) (v := 0) (by decide) rfl dX12_tick_35) ?_
      refine lp_X12_tick_36_t (N := N) hW (by omega) a0 a1 0 x4 h0
    · refine go1 (M := mX12_tick) (pc' := 28) (r_bipush (M := mX12_tick) (v := (-4)) (by decide) dX12_tick_26) ?_
      exact go_iret (M := mX12_tick) rfl rfl dX12_tick_28
def f_X12_order (N : Nat) (S : SH) (a0 : Nat) (a1 : Int32) (a2 : Int32) (x : DY) : Option (Int32 × DY) :=
  Option.bind (f_X12_isSeat N S a0 a1 x) (fun r1 => (if r1 = 0 then some ((-2), x) else Option.bind (f_X12_isDish N S a0 a2 x) (fun r3 => (if r3 = 0 then some ((-2), x) else ck S (pr S a0 26) a1 ((if (x.1 (pr S a0 26) a1.toNatClampNeg) = 0 then some ((-3), x) else (if (x.1 a0 17) = 16 then some ((-4), x) else (if (x.1 a0 1) = 300 then some ((-4), x) else Option.bind (f_X12_makes N S a0 a2 1 (-1) x) (fun r10 => ck S (pr S a0 16) r10.1 (bl (U1 r10.2 (pr S a0 16) r10.1.toNatClampNeg a1) (fun x13 => ck S (pr S a0 15) (x13.1 a0 17) (bl (U1 x13 (pr S a0 15) (x13.1 a0 17).toNatClampNeg r10.1) (fun x16 => bl (U1 x16 a0 17 ((x16.1 a0 17) + 1)) (fun x17 => some (r10.1, x17)))))))))))))))
set_option maxHeartbeats 1000000 in
theorem t_X12_order {N d : Nat} {S : SH} (hW : WT S) {x : DY} {a0 : Nat} {a1 : Int32} {a2 : Int32} (hd : 3 ≤ d) (h0 : TY S a0 12) : CT mX12_order d S [.ref a0, .int a1, .int a2] x wSI (f_X12_order N S a0 a1 a2 x) := by
  refine CT.of [some (.ref a0), some (.int a1), some (.int a2), none] rfl (Nat.le_of_ble_eq_true rfl) (by decide +kernel) ?_
  unfold f_X12_order
  refine go1 (M := mX12_order) (pc' := 1) (r_aload_n (M := mX12_order) (i := 0) rfl dX12_order_0) ?_
  refine go1 (M := mX12_order) (pc' := 2) (r_iload_n (M := mX12_order) (i := 1) rfl dX12_order_1) ?_
  refine go_V_PI (M := mX12_order) (pc' := 5) (st := []) (As := [.int a1]) rfl ln_12_239 lb_X12_isSeat (t_X12_isSeat (N := N) hW (by omega) h0) (by omega) h0 (Nat.le_of_ble_eq_true rfl) rfl dX12_order_2 (fun r1 => ?_)
  refine go_br (M := mX12_order) (pt := 16) (pf := 8) (fun kt kf => r_if_eq (M := mX12_order) dX12_order_5 (by decide) kt kf) (fun hc2 => ?_) (fun hc2 => ?_)
  · refine go1 (M := mX12_order) (pc' := 18) (r_bipush (M := mX12_order) (v := (-2)) (by decide) dX12_order_16) ?_
    exact go_iret (M := mX12_order) rfl rfl dX12_order_18
  · refine go1 (M := mX12_order) (pc' := 9) (r_aload_n (M := mX12_order) (i := 0) rfl dX12_order_8) ?_
    refine go1 (M := mX12_order) (pc' := 10) (r_iload_n (M := mX12_order) (i := 2) rfl dX12_order_9) ?_
    refine go_V_PI (M := mX12_order) (pc' := 13) (st := []) (As := [.int a2]) rfl ln_12_221 lb_X12_isDish (t_X12_isDish (N := N) hW (by omega) h0) (by omega) h0 (Nat.le_of_ble_eq_true rfl) rfl dX12_order_10 (fun r3 => ?_)
    refine go_br (M := mX12_order) (pt := 16) (pf := 19) (fun kt kf => r_if_ne (M := mX12_order) dX12_order_13 (by decide) kf kt) (fun hc4 => ?_) (fun hc4 => ?_)
    · refine go1 (M := mX12_order) (pc' := 18) (r_bipush (M := mX12_order) (v := (-2)) (by decide) dX12_order_16) ?_
      exact go_iret (M := mX12_order) rfl rfl dX12_order_18
    · refine go1 (M := mX12_order) (pc' := 20) (r_aload_n (M := mX12_order) (i := 0) rfl dX12_order_19) ?_
      refine go1 (M := mX12_order) (pc' := 23) (r_getR (M := mX12_order) fl_12_86 h0 rfl (wt_some hW h0 (by decide) (by decide) rfl) dX12_order_20) ?_
      have hT5 : TY S (pr S a0 26) 15 := wt hW h0 (by decide) (by decide) rfl (by decide)
      refine go1 (M := mX12_order) (pc' := 24) (r_iload_n (M := mX12_order) (i := 1) rfl dX12_order_23) ?_
      refine go_ck (fun hi6 => ?_)
      refine go1 (M := mX12_order) (pc' := 25) (r_zald (M := mX12_order) hT5 hi6 dX12_order_24) ?_
      refine go_br (M := mX12_order) (pt := 28) (pf := 31) (fun kt kf => r_if_ne (M := mX12_order) dX12_order_25 (by decide) kf kt) (fun hc7 => ?_) (fun hc7 => ?_)
      · refine go1 (M := mX12_order) (pc' := 30) (r_bipush (M := mX12_order) (v := (-3)) (by decide) dX12_order_28) ?_
        exact go_iret (M := mX12_order) rfl rfl dX12_order_30
      · refine go1 (M := mX12_order) (pc' := 32) (r_aload_n (M := mX12_order) (i := 0) rfl dX12_order_31) ?_
        refine go1 (M := mX12_order) (pc' := 35) (r_getI (M := mX12_order) fl_12_59 h0 rfl dX12_order_32) ?_
        refine go1 (M := mX12_order) (pc' := 37) (r_bipush (M := mX12_order) (v := 16) (by decide) dX12_order_35) ?_
        refine go_br (M := mX12_order) (pt := 50) (pf := 40) (fun kt kf => r_icmp_eq (M := mX12_order) dX12_order_37 (by decide) kt kf) (fun hc8 => ?_) (fun hc8 => ?_)
        · refine go1 (M := mX12_order) (pc' := 52) (r_bipush (M := mX12_order) (v := (-4)) (by decide) dX12_order_50) ?_
          exact go_iret (M := mX12_order) rfl rfl dX12_order_52
        · refine go1 (M := mX12_order) (pc' := 41) (r_aload_n (M := mX12_order) (i := 0) rfl dX12_order_40) ?_
          refine go1 (M := mX12_order) (pc' := 44) (r_getI (M := mX12_order) fl_12_7 h0 rfl dX12_order_41) ?_
          refine go1 (M := mX12_order) (pc' := 47) (r_sipush (M := mX12_order) (v := 300) (by decide) dX12_order_44) ?_
          refine go_br (M := mX12_order) (pt := 50) (pf := 53) (fun kt kf => r_icmp_ne (M := mX12_order) dX12_order_47 (by decide) kf kt) (fun hc9 => ?_) (fun hc9 => ?_)
          · refine go1 (M := mX12_order) (pc' := 52) (r_bipush (M := mX12_order) (v := (-4)) (by decide) dX12_order_50) ?_
            exact go_iret (M := mX12_order) rfl rfl dX12_order_52
          · refine go1 (M := mX12_order) (pc' := 54) (r_aload_n (M := mX12_order) (i := 0) rfl dX12_order_53) ?_
            refine go1 (M := mX12_order) (pc' := 55) (r_iload_n (M := mX12_order) (i := 2) rfl dX12_order_54) ?_
            refine go1 (M := mX12_order) (pc' := 56) (r_iconst (M := mX12_order) (v := 1) (by decide) dX12_order_55) ?_
            refine go1 (M := mX12_order) (pc' := 57) (r_iconst (M := mX12_order) (v := (-1)) (by decide) dX12_order_56) ?_
            refine go_V_SI (M := mX12_order) (pc' := 60) (st := []) (As := [.int a2, .int 1, .int (-1)]) rfl ln_12_225 lb_X12_makes (t_X12_makes (N := N) hW (by omega) h0) (by omega) h0 (Nat.le_of_ble_eq_true rfl) rfl dX12_order_57 (fun r10 => ?_)
            refine go1 (M := mX12_order) (pc' := 61) (ls' := [some (.ref a0), some (.int a1), some (.int a2), some (.int r10.1)]) (r_istore_n (M := mX12_order) (ls := [some (.ref a0), some (.int a1), some (.int a2), none]) (i := 3) (v := r10.1) (by decide) rfl dX12_order_60) ?_
            refine go1 (M := mX12_order) (pc' := 62) (r_aload_n (M := mX12_order) (i := 0) rfl dX12_order_61) ?_
            refine go1 (M := mX12_order) (pc' := 65) (r_getR (M := mX12_order) fl_12_56 h0 rfl (wt_some hW h0 (by decide) (by decide) rfl) dX12_order_62) ?_
            have hT11 : TY S (pr S a0 16) 14 := wt hW h0 (by decide) (by decide) rfl (by decide)
            refine go1 (M := mX12_order) (pc' := 66) (r_iload_n (M := mX12_order) (i := 3) rfl dX12_order_65) ?_
            refine go1 (M := mX12_order) (pc' := 67) (r_iload_n (M := mX12_order) (i := 1) rfl dX12_order_66) ?_
            refine go_ck (fun hi12 => ?_)
            refine go1 (M := mX12_order) (pc' := 68) (r_iast (M := mX12_order) hT11 hi12 dX12_order_67) ?_
            refine go_blx (fun x13 => ?_)
            refine go1 (M := mX12_order) (pc' := 69) (r_aload_n (M := mX12_order) (i := 0) rfl dX12_order_68) ?_
            refine go1 (M := mX12_order) (pc' := 72) (r_getR (M := mX12_order) fl_12_53 h0 rfl (wt_some hW h0 (by decide) (by decide) rfl) dX12_order_69) ?_
            have hT14 : TY S (pr S a0 15) 14 := wt hW h0 (by decide) (by decide) rfl (by decide)
            refine go1 (M := mX12_order) (pc' := 73) (r_aload_n (M := mX12_order) (i := 0) rfl dX12_order_72) ?_
            refine go1 (M := mX12_order) (pc' := 76) (r_getI (M := mX12_order) fl_12_59 h0 rfl dX12_order_73) ?_
            refine go1 (M := mX12_order) (pc' := 77) (r_iload_n (M := mX12_order) (i := 3) rfl dX12_order_76) ?_
            refine go_ck (fun hi15 => ?_)
            refine go1 (M := mX12_order) (pc' := 78) (r_iast (M := mX12_order) hT14 hi15 dX12_order_77) ?_
            refine go_blx (fun x16 => ?_)
            refine go1 (M := mX12_order) (pc' := 79) (r_aload_n (M := mX12_order) (i := 0) rfl dX12_order_78) ?_
            refine go1 (M := mX12_order) (pc' := 80) (r_dup (M := mX12_order) rfl dX12_order_79) ?_
            refine go1 (M := mX12_order) (pc' := 83) (r_getI (M := mX12_order) fl_12_59 h0 rfl dX12_order_80) ?_
            refine go1 (M := mX12_order) (pc' := 84) (r_iconst (M := mX12_order) (v := 1) (by decide) dX12_order_83) ?_
            refine go1 (M := mX12_order) (pc' := 85) (r_iadd (M := mX12_order) dX12_order_84) ?_
            refine go1 (M := mX12_order) (pc' := 88) (r_putI (M := mX12_order) fl_12_59 h0 rfl rfl dX12_order_85) ?_
            refine go_blx (fun x17 => ?_)
            refine go1 (M := mX12_order) (pc' := 89) (r_iload_n (M := mX12_order) (i := 3) rfl dX12_order_88) ?_
            exact go_iret (M := mX12_order) rfl rfl dX12_order_89
def f_X12_lane (N : Nat) (S : SH) (a0 : Nat) (a1 : Int32) (x : DY) : Option Int32 :=
  Option.bind (f_X12_isPlace N S a0 a1 x) (fun r1 => (if r1 = 0 then some (-2) else ck S (pr S a0 14) a1 ((if 0 ≤ (x.1 (pr S a0 14) a1.toNatClampNeg) then ck S (pr S a0 14) a1 (ck S (pr S a0 16) (x.1 (pr S a0 14) a1.toNatClampNeg) (some (x.1 (pr S a0 16) (x.1 (pr S a0 14) a1.toNatClampNeg).toNatClampNeg))) else some (-1)))))
set_option maxHeartbeats 1000000 in
theorem t_X12_lane {N d : Nat} {S : SH} (hW : WT S) {x : DY} {a0 : Nat} {a1 : Int32} (hd : 3 ≤ d) (h0 : TY S a0 12) : CT mX12_lane d S [.ref a0, .int a1] x (wPI x) (f_X12_lane N S a0 a1 x) := by
  refine CT.of [some (.ref a0), some (.int a1)] rfl (Nat.le_of_ble_eq_true rfl) (by decide +kernel) ?_
  unfold f_X12_lane
  refine go1 (M := mX12_lane) (pc' := 1) (r_aload_n (M := mX12_lane) (i := 0) rfl dX12_lane_0) ?_
  refine go1 (M := mX12_lane) (pc' := 2) (r_iload_n (M := mX12_lane) (i := 1) rfl dX12_lane_1) ?_
  refine go_V_PI (M := mX12_lane) (pc' := 5) (st := []) (As := [.int a1]) rfl ln_12_232 lb_X12_isPlace (t_X12_isPlace (N := N) hW (by omega) h0) (by omega) h0 (Nat.le_of_ble_eq_true rfl) rfl dX12_lane_2 (fun r1 => ?_)
  refine go_br (M := mX12_lane) (pt := 8) (pf := 13) (fun kt kf => r_if_ne (M := mX12_lane) dX12_lane_5 (by decide) kf kt) (fun hc2 => ?_) (fun hc2 => ?_)
  · refine go1 (M := mX12_lane) (pc' := 10) (r_bipush (M := mX12_lane) (v := (-2)) (by decide) dX12_lane_8) ?_
    refine go1 (M := mX12_lane) (pc' := 37) (r_goto (M := mX12_lane) dX12_lane_10 (by decide)) ?_
    exact go_iret (M := mX12_lane) rfl rfl dX12_lane_37
  · refine go1 (M := mX12_lane) (pc' := 14) (r_aload_n (M := mX12_lane) (i := 0) rfl dX12_lane_13) ?_
    refine go1 (M := mX12_lane) (pc' := 17) (r_getR (M := mX12_lane) fl_12_50 h0 rfl (wt_some hW h0 (by decide) (by decide) rfl) dX12_lane_14) ?_
    have hT3 : TY S (pr S a0 14) 14 := wt hW h0 (by decide) (by decide) rfl (by decide)
    refine go1 (M := mX12_lane) (pc' := 18) (r_iload_n (M := mX12_lane) (i := 1) rfl dX12_lane_17) ?_
    refine go_ck (fun hi4 => ?_)
    refine go1 (M := mX12_lane) (pc' := 19) (r_iald (M := mX12_lane) hT3 hi4 dX12_lane_18) ?_
    refine go_br (M := mX12_lane) (pt := 26) (pf := 22) (fun kt kf => r_if_ge (M := mX12_lane) dX12_lane_19 (by decide) kt kf) (fun hc5 => ?_) (fun hc5 => ?_)
    · refine go1 (M := mX12_lane) (pc' := 27) (r_aload_n (M := mX12_lane) (i := 0) rfl dX12_lane_26) ?_
      refine go1 (M := mX12_lane) (pc' := 30) (r_getR (M := mX12_lane) fl_12_56 h0 rfl (wt_some hW h0 (by decide) (by decide) rfl) dX12_lane_27) ?_
      have hT6 : TY S (pr S a0 16) 14 := wt hW h0 (by decide) (by decide) rfl (by decide)
      refine go1 (M := mX12_lane) (pc' := 31) (r_aload_n (M := mX12_lane) (i := 0) rfl dX12_lane_30) ?_
      refine go1 (M := mX12_lane) (pc' := 34) (r_getR (M := mX12_lane) fl_12_50 h0 rfl (wt_some hW h0 (by decide) (by decide) rfl) dX12_lane_31) ?_
      refine go1 (M := mX12_lane) (pc' := 35) (r_iload_n (M := mX12_lane) (i := 1) rfl dX12_lane_34) ?_
      refine go_ck (fun hi7 => ?_)
      refine go1 (M := mX12_lane) (pc' := 36) (r_iald (M := mX12_lane) hT3 hi7 dX12_lane_35) ?_
      refine go_ck (fun hi8 => ?_)
      refine go1 (M := mX12_lane) (pc' := 37) (r_iald (M := mX12_lane) hT6 hi8 dX12_lane_36) ?_
      exact go_iret (M := mX12_lane) rfl rfl dX12_lane_37
    · refine go1 (M := mX12_lane) (pc' := 23) (r_iconst (M := mX12_lane) (v := (-1)) (by decide) dX12_lane_22) ?_
      refine go1 (M := mX12_lane) (pc' := 37) (r_goto (M := mX12_lane) dX12_lane_23 (by decide)) ?_
      exact go_iret (M := mX12_lane) rfl rfl dX12_lane_37
def j_X12_countOf_46 (N : Nat) (S : SH) (bk5 : Int32 → Int32 → Option Int32) (p0 : Nat) (p1 : Int32) (p2 : Int32) (p4 : Int32) (q0 : Int32) (q1 : Int32) (x : DY) : Option Int32 :=
  bk5 (q1 + q0) (p4 + 1)
set_option maxHeartbeats 1000000 in
theorem j_X12_countOf_46_t {N d : Nat} {S : SH} (hW : WT S) (hd : 1 ≤ d) (bk5 : Int32 → Int32 → Option Int32) (p0 : Nat) (p1 : Int32) (p2 : Int32) (p4 : Int32) (q0 : Int32) (q1 : Int32) (x : DY) (g0 : TY S p0 12) (hbk5 : ∀ (v3 : Int32) (v4 : Int32), Go mX12_countOf d S (wPI x) 5 [some (.ref p0), some (.int p1), some (.int p2), some (.int v3), some (.int v4)] [] x (bk5 v3 v4)) : Go mX12_countOf d S (wPI x) 46 [some (.ref p0), some (.int p1), some (.int p2), none, some (.int p4)] [.int q0, .int q1] x (j_X12_countOf_46 N S bk5 p0 p1 p2 p4 q0 q1 x) := by
  unfold j_X12_countOf_46
  refine go1 (M := mX12_countOf) (pc' := 47) (r_iadd (M := mX12_countOf) dX12_countOf_46) ?_
  refine go1 (M := mX12_countOf) (pc' := 48) (ls' := [some (.ref p0), some (.int p1), some (.int p2), some (.int (q1 + q0)), some (.int p4)]) (r_istore_n (M := mX12_countOf) (ls := [some (.ref p0), some (.int p1), some (.int p2), none, some (.int p4)]) (i := 3) (v := (q1 + q0)) (by decide) rfl dX12_countOf_47) ?_
  refine go1 (M := mX12_countOf) (pc' := 51) (ls' := [some (.ref p0), some (.int p1), some (.int p2), some (.int (q1 + q0)), some (.int (p4 + 1))]) (r_iinc (M := mX12_countOf) (ls := [some (.ref p0), some (.int p1), some (.int p2), some (.int (q1 + q0)), some (.int p4)]) (i := 4) (v := p4) (c' := 1) (by decide) rfl (by decide) rfl dX12_countOf_48) ?_
  refine go1 (M := mX12_countOf) (pc' := 5) (r_goto (M := mX12_countOf) dX12_countOf_51 (by decide)) ?_
  exact hbk5 (q1 + q0) (p4 + 1)
def j_X12_countOf_45 (N : Nat) (S : SH) (bk5 : Int32 → Int32 → Option Int32) (p0 : Nat) (p1 : Int32) (p2 : Int32) (p4 : Int32) (q0 : Int32) (x : DY) : Option Int32 :=
  j_X12_countOf_46 N S bk5 p0 p1 p2 p4 0 q0 x
set_option maxHeartbeats 1000000 in
theorem j_X12_countOf_45_t {N d : Nat} {S : SH} (hW : WT S) (hd : 1 ≤ d) (bk5 : Int32 → Int32 → Option Int32) (p0 : Nat) (p1 : Int32) (p2 : Int32) (p4 : Int32) (q0 : Int32) (x : DY) (g0 : TY S p0 12) (hbk5 : ∀ (v3 : Int32) (v4 : Int32), Go mX12_countOf d S (wPI x) 5 [some (.ref p0), some (.int p1), some (.int p2), some (.int v3), some (.int v4)] [] x (bk5 v3 v4)) : Go mX12_countOf d S (wPI x) 45 [some (.ref p0), some (.int p1), some (.int p2), none, some (.int p4)] [.int q0] x (j_X12_countOf_45 N S bk5 p0 p1 p2 p4 q0 x) := by
  unfold j_X12_countOf_45
  refine go1 (M := mX12_countOf) (pc' := 46) (r_iconst (M := mX12_countOf) (v := 0) (by decide) dX12_countOf_45) ?_
  exact j_X12_countOf_46_t (N := N) hW (by omega) bk5 p0 p1 p2 p4 0 q0 x g0 hbk5
def j_X12_countOf_41 (N : Nat) (S : SH) (bk5 : Int32 → Int32 → Option Int32) (p0 : Nat) (p1 : Int32) (p2 : Int32) (p4 : Int32) (q0 : Int32) (x : DY) : Option Int32 :=
  j_X12_countOf_46 N S bk5 p0 p1 p2 p4 1 q0 x
set_option maxHeartbeats 1000000 in
theorem j_X12_countOf_41_t {N d : Nat} {S : SH} (hW : WT S) (hd : 1 ≤ d) (bk5 : Int32 → Int32 → Option Int32) (p0 : Nat) (p1 : Int32) (p2 : Int32) (p4 : Int32) (q0 : Int32) (x : DY) (g0 : TY S p0 12) (hbk5 : ∀ (v3 : Int32) (v4 : Int32), Go mX12_countOf d S (wPI x) 5 [some (.ref p0), some (.int p1), some (.int p2), some (.int v3), some (.int v4)] [] x (bk5 v3 v4)) : Go mX12_countOf d S (wPI x) 41 [some (.ref p0), some (.int p1), some (.int p2), none, some (.int p4)] [.int q0] x (j_X12_countOf_41 N S bk5 p0 p1 p2 p4 q0 x) := by
  unfold j_X12_countOf_41
  refine go1 (M := mX12_countOf) (pc' := 42) (r_iconst (M := mX12_countOf) (v := 1) (by decide) dX12_countOf_41) ?_
  refine go1 (M := mX12_countOf) (pc' := 46) (r_goto (M := mX12_countOf) dX12_countOf_42 (by decide)) ?_
  exact j_X12_countOf_46_t (N := N) hW (by omega) bk5 p0 p1 p2 p4 1 q0 x g0 hbk5
def lp_X12_countOf_5_b (N : Nat) (S : SH) (bk5 : Int32 → Int32 → Option Int32) (p0 : Nat) (p1 : Int32) (p2 : Int32) (p3 : Int32) (p4 : Int32) (x : DY) : Option Int32 :=
  (if (x.1 p0 1) ≤ p4 then some p3 else ck S (pr S p0 9) p4 ((if (x.1 (pr S p0 9) p4.toNatClampNeg) = p1 then (if p2 < 0 then j_X12_countOf_41 N S bk5 p0 p1 p2 p4 p3 x else ck S (pr S p0 11) p4 ((if (x.1 (pr S p0 11) p4.toNatClampNeg) = p2 then j_X12_countOf_41 N S bk5 p0 p1 p2 p4 p3 x else j_X12_countOf_45 N S bk5 p0 p1 p2 p4 p3 x))) else j_X12_countOf_45 N S bk5 p0 p1 p2 p4 p3 x)))
set_option maxHeartbeats 1000000 in
theorem lp_X12_countOf_5_b_t {N d : Nat} {S : SH} (hW : WT S) (hd : 1 ≤ d) (bk5 : Int32 → Int32 → Option Int32) (p0 : Nat) (p1 : Int32) (p2 : Int32) (p3 : Int32) (p4 : Int32) (x : DY) (g0 : TY S p0 12) (hbk5 : ∀ (v3 : Int32) (v4 : Int32), Go mX12_countOf d S (wPI x) 5 [some (.ref p0), some (.int p1), some (.int p2), some (.int v3), some (.int v4)] [] x (bk5 v3 v4)) : Go mX12_countOf d S (wPI x) 5 [some (.ref p0), some (.int p1), some (.int p2), some (.int p3), some (.int p4)] [] x (lp_X12_countOf_5_b N S bk5 p0 p1 p2 p3 p4 x) := by
  unfold lp_X12_countOf_5_b
  refine go1 (M := mX12_countOf) (pc' := 7) (r_iload (M := mX12_countOf) (i := 4) rfl dX12_countOf_5) ?_
  refine go1 (M := mX12_countOf) (pc' := 8) (r_aload_n (M := mX12_countOf) (i := 0) rfl dX12_countOf_7) ?_
  refine go1 (M := mX12_countOf) (pc' := 11) (r_getI (M := mX12_countOf) fl_12_7 g0 rfl dX12_countOf_8) ?_
  refine go_br (M := mX12_countOf) (pt := 54) (pf := 14) (fun kt kf => r_icmp_ge (M := mX12_countOf) dX12_countOf_11 (by decide) kt kf) (fun hc2 => ?_) (fun hc2 => ?_)
  · refine go1 (M := mX12_countOf) (pc' := 55) (r_iload_n (M := mX12_countOf) (i := 3) rfl dX12_countOf_54) ?_
    exact go_iret (M := mX12_countOf) rfl rfl dX12_countOf_55
  · refine go1 (M := mX12_countOf) (pc' := 15) (r_iload_n (M := mX12_countOf) (i := 3) rfl dX12_countOf_14) ?_
    refine go1 (M := mX12_countOf) (pc' := 16) (r_aload_n (M := mX12_countOf) (i := 0) rfl dX12_countOf_15) ?_
    refine go1 (M := mX12_countOf) (pc' := 19) (r_getR (M := mX12_countOf) fl_12_35 g0 rfl (wt_some hW g0 (by decide) (by decide) rfl) dX12_countOf_16) ?_
    have hT3 : TY S (pr S p0 9) 14 := wt hW g0 (by decide) (by decide) rfl (by decide)
    refine go1 (M := mX12_countOf) (pc' := 21) (r_iload (M := mX12_countOf) (i := 4) rfl dX12_countOf_19) ?_
    refine go_ck (fun hi4 => ?_)
    refine go1 (M := mX12_countOf) (pc' := 22) (r_iald (M := mX12_countOf) hT3 hi4 dX12_countOf_21) ?_
    refine go1 (M := mX12_countOf) (pc' := 23) (r_iload_n (M := mX12_countOf) (i := 1) rfl dX12_countOf_22) ?_
    refine go_br (M := mX12_countOf) (pt := 26) (pf := 45) (fun kt kf => r_icmp_ne (M := mX12_countOf) dX12_countOf_23 (by decide) kf kt) (fun hc5 => ?_) (fun hc5 => ?_)
    · refine go1 (M := mX12_countOf) (pc' := 27) (r_iload_n (M := mX12_countOf) (i := 2) rfl dX12_countOf_26) ?_
      refine go_br (M := mX12_countOf) (pt := 41) (pf := 30) (fun kt kf => r_if_lt (M := mX12_countOf) dX12_countOf_27 (by decide) kt kf) (fun hc6 => ?_) (fun hc6 => ?_)
      · refine go_drop (ls' := [some (.ref p0), some (.int p1), some (.int p2), none, some (.int p4)]) (And.intro rfl (And.intro rfl (And.intro rfl (And.intro rfl trivial)))) ?_
        exact j_X12_countOf_41_t (N := N) hW (by omega) bk5 p0 p1 p2 p4 p3 x g0 hbk5
      · refine go1 (M := mX12_countOf) (pc' := 31) (r_aload_n (M := mX12_countOf) (i := 0) rfl dX12_countOf_30) ?_
        refine go1 (M := mX12_countOf) (pc' := 34) (r_getR (M := mX12_countOf) fl_12_41 g0 rfl (wt_some hW g0 (by decide) (by decide) rfl) dX12_countOf_31) ?_
        have hT7 : TY S (pr S p0 11) 14 := wt hW g0 (by decide) (by decide) rfl (by decide)
        refine go1 (M := mX12_countOf) (pc' := 36) (r_iload (M := mX12_countOf) (i := 4) rfl dX12_countOf_34) ?_
        refine go_ck (fun hi8 => ?_)
        refine go1 (M := mX12_countOf) (pc' := 37) (r_iald (M := mX12_countOf) hT7 hi8 dX12_countOf_36) ?_
        refine go1 (M := mX12_countOf) (pc' := 38) (r_iload_n (M := mX12_countOf) (i := 2) rfl dX12_countOf_37) ?_
        refine go_br (M := mX12_countOf) (pt := 41) (pf := 45) (fun kt kf => r_icmp_ne (M := mX12_countOf) dX12_countOf_38 (by decide) kf kt) (fun hc9 => ?_) (fun hc9 => ?_)
        · refine go_drop (ls' := [some (.ref p0), some (.int p1), some (.int p2), none, some (.int p4)]) (And.intro rfl (And.intro rfl (And.intro rfl (And.intro rfl trivial)))) ?_
          exact j_X12_countOf_41_t (N := N) hW (by omega) bk5 p0 p1 p2 p4 p3 x g0 hbk5
        · refine go_drop (ls' := [some (.ref p0), some (.int p1), some (.int p2), none, some (.int p4)]) (And.intro rfl (And.intro rfl (And.intro rfl (And.intro rfl trivial)))) ?_
          exact j_X12_countOf_45_t (N := N) hW (by omega) bk5 p0 p1 p2 p4 p3 x g0 hbk5
    · refine go_drop (ls' := [some (.ref p0), some (.int p1), some (.int p2), none, some (.int p4)]) (And.intro rfl (And.intro rfl (And.intro rfl (And.intro rfl trivial)))) ?_
      exact j_X12_countOf_45_t (N := N) hW (by omega) bk5 p0 p1 p2 p4 p3 x g0 hbk5
def lp_X12_countOf_5 (N : Nat) (S : SH) (p0 : Nat) (p1 : Int32) (p2 : Int32) (p3 : Int32) (p4 : Int32) (x : DY) : Option Int32 :=
  itr (fun back (v : Int32 × Int32) => lp_X12_countOf_5_b N S (fun p3 p4 => back (p3, p4)) p0 p1 p2 v.1 v.2 x) N (p3, p4)
theorem lp_X12_countOf_5_t {N d : Nat} {S : SH} (hW : WT S) (hd : 1 ≤ d) (p0 : Nat) (p1 : Int32) (p2 : Int32) (p3 : Int32) (p4 : Int32) (x : DY) (g0 : TY S p0 12) : Go mX12_countOf d S (wPI x) 5 [some (.ref p0), some (.int p1), some (.int p2), some (.int p3), some (.int p4)] [] x (lp_X12_countOf_5 N S p0 p1 p2 p3 p4 x) := by
  unfold lp_X12_countOf_5
  exact go_itr (L := fun (v : Int32 × Int32) => [some (.ref p0), some (.int p1), some (.int p2), some (.int v.1), some (.int v.2)]) (X := fun (v : Int32 × Int32) => x) (fun back hB v => lp_X12_countOf_5_b_t (N := N) hW hd (fun p3 p4 => back (p3, p4)) p0 p1 p2 v.1 v.2 x g0 (fun p3 p4 => hB (p3, p4)) ) N (p3, p4)
def f_X12_countOf (N : Nat) (S : SH) (a0 : Nat) (a1 : Int32) (a2 : Int32) (x : DY) : Option Int32 :=
  lp_X12_countOf_5 N S a0 a1 a2 0 0 x
set_option maxHeartbeats 1000000 in
theorem t_X12_countOf {N d : Nat} {S : SH} (hW : WT S) {x : DY} {a0 : Nat} {a1 : Int32} {a2 : Int32} (hd : 1 ≤ d) (h0 : TY S a0 12) : CT mX12_countOf d S [.ref a0, .int a1, .int a2] x (wPI x) (f_X12_countOf N S a0 a1 a2 x) := by
  refine CT.of [some (.ref a0), some (.int a1), some (.int a2), none, none] rfl (Nat.le_of_ble_eq_true rfl) (by decide +kernel) ?_
  unfold f_X12_countOf
  refine go1 (M := mX12_countOf) (pc' := 1) (r_iconst (M := mX12_countOf) (v := 0) (by decide) dX12_countOf_0) ?_
  refine go1 (M := mX12_countOf) (pc' := 2) (ls' := [some (.ref a0), some (.int a1), some (.int a2), some (.int 0), none]) (r_istore_n (M := mX12_countOf) (ls := [some (.ref a0), some (.int a1), some (.int a2), none, none]) (i := 3) (v := 0) (by decide) rfl dX12_countOf_1) ?_
  refine go1 (M := mX12_countOf) (pc' := 3) (r_iconst (M := mX12_countOf) (v := 0) (by decide) dX12_countOf_2) ?_
  refine go1 (M := mX12_countOf) (pc' := 5) (ls' := [some (.ref a0), some (.int a1), some (.int a2), some (.int 0), some (.int 0)]) (r_istore (M := mX12_countOf) (ls := [some (.ref a0), some (.int a1), some (.int a2), some (.int 0), none]) (i := 4) (v := 0) (by decide) rfl dX12_countOf_3) ?_
  refine lp_X12_countOf_5_t (N := N) hW (by omega) a0 a1 a2 0 0 x h0
def j_X12_empties_44 (N : Nat) (S : SH) (q0 : Int32) (q1 : Int32) (q2 : Nat) (x : DY) : Option Int32 :=
  Option.bind (f_X12_countOf N S q2 q1 q0 x) (fun r7 => some r7)
set_option maxHeartbeats 1000000 in
theorem j_X12_empties_44_t {N d : Nat} {S : SH} (hW : WT S) (hd : 2 ≤ d) (q0 : Int32) (q1 : Int32) (q2 : Nat) (x : DY) (gq2 : TY S q2 12) : Go mX12_empties d S (wPI x) 44 [none, none, none] [.int q0, .int q1, .ref q2] x (j_X12_empties_44 N S q0 q1 q2 x) := by
  unfold j_X12_empties_44
  refine go_V_PI (M := mX12_empties) (pc' := 47) (st := []) (As := [.int q1, .int q0]) rfl ln_12_361 lb_X12_countOf (t_X12_countOf (N := N) hW (by omega) gq2) (by omega) gq2 (Nat.le_of_ble_eq_true rfl) rfl dX12_empties_44 (fun r7 => ?_)
  refine go1 (M := mX12_empties) (pc' := 52) (r_goto (M := mX12_empties) dX12_empties_47 (by decide)) ?_
  exact go_iret (M := mX12_empties) rfl rfl dX12_empties_52
def f_X12_empties (N : Nat) (S : SH) (a0 : Nat) (a1 : Int32) (a2 : Int32) (x : DY) : Option Int32 :=
  Option.bind (f_X12_in N S a0 a1 0 4 x) (fun r1 => (if r1 = 0 then some (-2) else Option.bind (f_X12_in N S a0 a2 0 6 x) (fun r3 => (if r3 = 0 then some (-2) else (if a2 = 0 then j_X12_empties_44 N S (-1) a1 a0 x else (if a2 = 6 then j_X12_empties_44 N S 5 a1 a0 x else j_X12_empties_44 N S (a2 - 1) a1 a0 x))))))
set_option maxHeartbeats 1000000 in
theorem t_X12_empties {N d : Nat} {S : SH} (hW : WT S) {x : DY} {a0 : Nat} {a1 : Int32} {a2 : Int32} (hd : 2 ≤ d) (h0 : TY S a0 12) : CT mX12_empties d S [.ref a0, .int a1, .int a2] x (wPI x) (f_X12_empties N S a0 a1 a2 x) := by
  refine CT.of [some (.ref a0), some (.int a1), some (.int a2)] rfl (Nat.le_of_ble_eq_true rfl) (by decide +kernel) ?_
  unfold f_X12_empties
  refine go1 (M := mX12_empties) (pc' := 1) (r_aload_n (M := mX12_empties) (i := 0) rfl dX12_empties_0) ?_
  refine go1 (M := mX12_empties) (pc' := 2) (r_iload_n (M := mX12_empties) (i := 1) rfl dX12_empties_1) ?_
  refine go1 (M := mX12_empties) (pc' := 3) (r_iconst (M := mX12_empties) (v := 0) (by decide) dX12_empties_2) ?_
  refine go1 (M := mX12_empties) (pc' := 4) (r_iconst (M := mX12_empties) (v := 4) (by decide) dX12_empties_3) ?_
  refine go_V_PI (M := mX12_empties) (pc' := 7) (st := []) (As := [.int a1, .int 0, .int 4]) rfl ln_12_217 lb_X12_in (t_X12_in (N := N) hW (by omega) h0) (by omega) h0 (Nat.le_of_ble_eq_true rfl) rfl dX12_empties_4 (fun r1 => ?_)
  refine go_br (M := mX12_empties) (pt := 50) (pf := 10) (fun kt kf => r_if_eq (M := mX12_empties) dX12_empties_7 (by decide) kt kf) (fun hc2 => ?_) (fun hc2 => ?_)
  · refine go1 (M := mX12_empties) (pc' := 52) (r_bipush (M := mX12_empties) (v := (-2)) (by decide) dX12_empties_50) ?_
    exact go_iret (M := mX12_empties) rfl rfl dX12_empties_52
  · refine go1 (M := mX12_empties) (pc' := 11) (r_aload_n (M := mX12_empties) (i := 0) rfl dX12_empties_10) ?_
    refine go1 (M := mX12_empties) (pc' := 12) (r_iload_n (M := mX12_empties) (i := 2) rfl dX12_empties_11) ?_
    refine go1 (M := mX12_empties) (pc' := 13) (r_iconst (M := mX12_empties) (v := 0) (by decide) dX12_empties_12) ?_
    refine go1 (M := mX12_empties) (pc' := 15) (r_bipush (M := mX12_empties) (v := 6) (by decide) dX12_empties_13) ?_
    refine go_V_PI (M := mX12_empties) (pc' := 18) (st := []) (As := [.int a2, .int 0, .int 6]) rfl ln_12_217 lb_X12_in (t_X12_in (N := N) hW (by omega) h0) (by omega) h0 (Nat.le_of_ble_eq_true rfl) rfl dX12_empties_15 (fun r3 => ?_)
    refine go_br (M := mX12_empties) (pt := 50) (pf := 21) (fun kt kf => r_if_eq (M := mX12_empties) dX12_empties_18 (by decide) kt kf) (fun hc4 => ?_) (fun hc4 => ?_)
    · refine go1 (M := mX12_empties) (pc' := 52) (r_bipush (M := mX12_empties) (v := (-2)) (by decide) dX12_empties_50) ?_
      exact go_iret (M := mX12_empties) rfl rfl dX12_empties_52
    · refine go1 (M := mX12_empties) (pc' := 22) (r_aload_n (M := mX12_empties) (i := 0) rfl dX12_empties_21) ?_
      refine go1 (M := mX12_empties) (pc' := 23) (r_iload_n (M := mX12_empties) (i := 1) rfl dX12_empties_22) ?_
      refine go1 (M := mX12_empties) (pc' := 24) (r_iload_n (M := mX12_empties) (i := 2) rfl dX12_empties_23) ?_
      refine go_br (M := mX12_empties) (pt := 27) (pf := 31) (fun kt kf => r_if_ne (M := mX12_empties) dX12_empties_24 (by decide) kf kt) (fun hc5 => ?_) (fun hc5 => ?_)
      · refine go1 (M := mX12_empties) (pc' := 28) (r_iconst (M := mX12_empties) (v := (-1)) (by decide) dX12_empties_27) ?_
        refine go1 (M := mX12_empties) (pc' := 44) (r_goto (M := mX12_empties) dX12_empties_28 (by decide)) ?_
        refine go_drop (ls' := [none, none, none]) trivial ?_
        exact j_X12_empties_44_t (N := N) hW (by omega) (-1) a1 a0 x h0
      · refine go1 (M := mX12_empties) (pc' := 32) (r_iload_n (M := mX12_empties) (i := 2) rfl dX12_empties_31) ?_
        refine go1 (M := mX12_empties) (pc' := 34) (r_bipush (M := mX12_empties) (v := 6) (by decide) dX12_empties_32) ?_
        refine go_br (M := mX12_empties) (pt := 37) (pf := 41) (fun kt kf => r_icmp_ne (M := mX12_empties) dX12_empties_34 (by decide) kf kt) (fun hc6 => ?_) (fun hc6 => ?_)
        · refine go1 (M := mX12_empties) (pc' := 38) (r_iconst (M := mX12_empties) (v := 5) (by decide) dX12_empties_37) ?_
          refine go1 (M := mX12_empties) (pc' := 44) (r_goto (M := mX12_empties) dX12_empties_38 (by decide)) ?_
          refine go_drop (ls' := [none, none, none]) trivial ?_
          exact j_X12_empties_44_t (N := N) hW (by omega) 5 a1 a0 x h0
        · refine go1 (M := mX12_empties) (pc' := 42) (r_iload_n (M := mX12_empties) (i := 2) rfl dX12_empties_41) ?_
          refine go1 (M := mX12_empties) (pc' := 43) (r_iconst (M := mX12_empties) (v := 1) (by decide) dX12_empties_42) ?_
          refine go1 (M := mX12_empties) (pc' := 44) (r_isub (M := mX12_empties) dX12_empties_43) ?_
          refine go_drop (ls' := [none, none, none]) trivial ?_
          exact j_X12_empties_44_t (N := N) hW (by omega) (a2 - 1) a1 a0 x h0
def lp_X12_keep_2_b (N : Nat) (S : SH) (k52 : DY → Option DY) (bk2 : Int32 → DY → Option DY) (p0 : Nat) (p1 : Int32) (x : DY) : Option DY :=
  (if (x.1 p0 1) ≤ p1 then k52 x else ck S (pr S p0 10) p1 (ck S (pr S p0 48) p1 (bl (U1 x (pr S p0 48) p1.toNatClampNeg (x.1 (pr S p0 10) p1.toNatClampNeg)) (fun x7 => ck S (pr S p0 11) p1 (ck S (pr S p0 49) p1 (bl (U1 x7 (pr S p0 49) p1.toNatClampNeg (x7.1 (pr S p0 11) p1.toNatClampNeg)) (fun x12 => ck S (pr S p0 12) p1 (ck S (pr S p0 50) p1 (bl (U1 x12 (pr S p0 50) p1.toNatClampNeg (x12.1 (pr S p0 12) p1.toNatClampNeg)) (fun x17 => bk2 (p1 + 1) x17))))))))))
set_option maxHeartbeats 1000000 in
theorem lp_X12_keep_2_b_t {N d : Nat} {S : SH} (hW : WT S) (hd : 1 ≤ d) (k52 : DY → Option DY) (bk2 : Int32 → DY → Option DY) (p0 : Nat) (p1 : Int32) (x : DY) (g0 : TY S p0 12) (hk52 : ∀ (y : DY), Go mX12_keep d S wSV 52 [some (.ref p0), none] [] y (k52 y)) (hbk2 : ∀ (v1 : Int32) (y : DY), Go mX12_keep d S wSV 2 [some (.ref p0), some (.int v1)] [] y (bk2 v1 y)) : Go mX12_keep d S wSV 2 [some (.ref p0), some (.int p1)] [] x (lp_X12_keep_2_b N S k52 bk2 p0 p1 x) := by
  unfold lp_X12_keep_2_b
  refine go1 (M := mX12_keep) (pc' := 3) (r_iload_n (M := mX12_keep) (i := 1) rfl dX12_keep_2) ?_
  refine go1 (M := mX12_keep) (pc' := 4) (r_aload_n (M := mX12_keep) (i := 0) rfl dX12_keep_3) ?_
  refine go1 (M := mX12_keep) (pc' := 7) (r_getI (M := mX12_keep) fl_12_7 g0 rfl dX12_keep_4) ?_
  refine go_br (M := mX12_keep) (pt := 52) (pf := 10) (fun kt kf => r_icmp_ge (M := mX12_keep) dX12_keep_7 (by decide) kt kf) (fun hc2 => ?_) (fun hc2 => ?_)
  · refine go_drop (ls' := [some (.ref p0), none]) (And.intro rfl trivial) ?_
    exact hk52 x
  · refine go1 (M := mX12_keep) (pc' := 11) (r_aload_n (M := mX12_keep) (i := 0) rfl dX12_keep_10) ?_
    refine go1 (M := mX12_keep) (pc' := 14) (r_getR (M := mX12_keep) fl_12_154 g0 rfl (wt_some hW g0 (by decide) (by decide) rfl) dX12_keep_11) ?_
    have hT3 : TY S (pr S p0 48) 14 := wt hW g0 (by decide) (by decide) rfl (by decide)
    refine go1 (M := mX12_keep) (pc' := 15) (r_iload_n (M := mX12_keep) (i := 1) rfl dX12_keep_14) ?_
    refine go1 (M := mX12_keep) (pc' := 16) (r_aload_n (M := mX12_keep) (i := 0) rfl dX12_keep_15) ?_
    refine go1 (M := mX12_keep) (pc' := 19) (r_getR (M := mX12_keep) fl_12_38 g0 rfl (wt_some hW g0 (by decide) (by decide) rfl) dX12_keep_16) ?_
    have hT4 : TY S (pr S p0 10) 14 := wt hW g0 (by decide) (by decide) rfl (by decide)
    refine go1 (M := mX12_keep) (pc' := 20) (r_iload_n (M := mX12_keep) (i := 1) rfl dX12_keep_19) ?_
    refine go_ck (fun hi5 => ?_)
    refine go1 (M := mX12_keep) (pc' := 21) (r_iald (M := mX12_keep) hT4 hi5 dX12_keep_20) ?_
    refine go_ck (fun hi6 => ?_)
    refine go1 (M := mX12_keep) (pc' := 22) (r_iast (M := mX12_keep) hT3 hi6 dX12_keep_21) ?_
    refine go_blx (fun x7 => ?_)
    refine go1 (M := mX12_keep) (pc' := 23) (r_aload_n (M := mX12_keep) (i := 0) rfl dX12_keep_22) ?_
    refine go1 (M := mX12_keep) (pc' := 26) (r_getR (M := mX12_keep) fl_12_157 g0 rfl (wt_some hW g0 (by decide) (by decide) rfl) dX12_keep_23) ?_
    have hT8 : TY S (pr S p0 49) 14 := wt hW g0 (by decide) (by decide) rfl (by decide)
    refine go1 (M := mX12_keep) (pc' := 27) (r_iload_n (M := mX12_keep) (i := 1) rfl dX12_keep_26) ?_
    refine go1 (M := mX12_keep) (pc' := 28) (r_aload_n (M := mX12_keep) (i := 0) rfl dX12_keep_27) ?_
    refine go1 (M := mX12_keep) (pc' := 31) (r_getR (M := mX12_keep) fl_12_41 g0 rfl (wt_some hW g0 (by decide) (by decide) rfl) dX12_keep_28) ?_
    have hT9 : TY S (pr S p0 11) 14 := wt hW g0 (by decide) (by decide) rfl (by decide)
    refine go1 (M := mX12_keep) (pc' := 32) (r_iload_n (M := mX12_keep) (i := 1) rfl dX12_keep_31) ?_
    refine go_ck (fun hi10 => ?_)
    refine go1 (M := mX12_keep) (pc' := 33) (r_iald (M := mX12_keep) hT9 hi10 dX12_keep_32) ?_
    refine go_ck (fun hi11 => ?_)
    refine go1 (M := mX12_keep) (pc' := 34) (r_iast (M := mX12_keep) hT8 hi11 dX12_keep_33) ?_
    refine go_blx (fun x12 => ?_)
    refine go1 (M := mX12_keep) (pc' := 35) (r_aload_n (M := mX12_keep) (i := 0) rfl dX12_keep_34) ?_
    refine go1 (M := mX12_keep) (pc' := 38) (r_getR (M := mX12_keep) fl_12_160 g0 rfl (wt_some hW g0 (by decide) (by decide) rfl) dX12_keep_35) ?_
    have hT13 : TY S (pr S p0 50) 14 := wt hW g0 (by decide) (by decide) rfl (by decide)
    refine go1 (M := mX12_keep) (pc' := 39) (r_iload_n (M := mX12_keep) (i := 1) rfl dX12_keep_38) ?_
    refine go1 (M := mX12_keep) (pc' := 40) (r_aload_n (M := mX12_keep) (i := 0) rfl dX12_keep_39) ?_
    refine go1 (M := mX12_keep) (pc' := 43) (r_getR (M := mX12_keep) fl_12_44 g0 rfl (wt_some hW g0 (by decide) (by decide) rfl) dX12_keep_40) ?_
    have hT14 : TY S (pr S p0 12) 14 := wt hW g0 (by decide) (by decide) rfl (by decide)
    refine go1 (M := mX12_keep) (pc' := 44) (r_iload_n (M := mX12_keep) (i := 1) rfl dX12_keep_43) ?_
    refine go_ck (fun hi15 => ?_)
    refine go1 (M := mX12_keep) (pc' := 45) (r_iald (M := mX12_keep) hT14 hi15 dX12_keep_44) ?_
    refine go_ck (fun hi16 => ?_)
    refine go1 (M := mX12_keep) (pc' := 46) (r_iast (M := mX12_keep) hT13 hi16 dX12_keep_45) ?_
    refine go_blx (fun x17 => ?_)
    refine go1 (M := mX12_keep) (pc' := 49) (ls' := [some (.ref p0), some (.int (p1 + 1))]) (r_iinc (M := mX12_keep) (ls := [some (.ref p0), some (.int p1)]) (i := 1) (v := p1) (c' := 1) (by decide) rfl (by decide) rfl dX12_keep_46) ?_
    refine go1 (M := mX12_keep) (pc' := 2) (r_goto (M := mX12_keep) dX12_keep_49 (by decide)) ?_
    exact hbk2 (p1 + 1) x17
def lp_X12_keep_2 (N : Nat) (S : SH) (k52 : DY → Option DY) (p0 : Nat) (p1 : Int32) (x : DY) : Option DY :=
  itr (fun back (v : Int32 × DY) => lp_X12_keep_2_b N S k52 (fun p1 y => back (p1, y)) p0 v.1 v.2) N (p1, x)
theorem lp_X12_keep_2_t {N d : Nat} {S : SH} (hW : WT S) (hd : 1 ≤ d) (k52 : DY → Option DY) (p0 : Nat) (p1 : Int32) (x : DY) (g0 : TY S p0 12) (hk52 : ∀ (y : DY), Go mX12_keep d S wSV 52 [some (.ref p0), none] [] y (k52 y)) : Go mX12_keep d S wSV 2 [some (.ref p0), some (.int p1)] [] x (lp_X12_keep_2 N S k52 p0 p1 x) := by
  unfold lp_X12_keep_2
  exact go_itr (L := fun (v : Int32 × DY) => [some (.ref p0), some (.int v.1)]) (X := fun (v : Int32 × DY) => v.2) (fun back hB v => lp_X12_keep_2_b_t (N := N) hW hd k52 (fun p1 y => back (p1, y)) p0 v.1 v.2 g0 hk52 (fun p1 y => hB (p1, y)) ) N (p1, x)
def lp_X12_keep_54_b (N : Nat) (S : SH) (k92 : DY → Option DY) (bk54 : Int32 → DY → Option DY) (p0 : Nat) (p1 : Int32) (x : DY) : Option DY :=
  (if (x.1 p0 0) ≤ p1 then k92 x else ck S (pr S p0 13) p1 (ck S (pr S p0 51) p1 (bl (U1 x (pr S p0 51) p1.toNatClampNeg (x.1 (pr S p0 13) p1.toNatClampNeg)) (fun x25 => ck S (pr S p0 14) p1 (ck S (pr S p0 52) p1 (bl (U1 x25 (pr S p0 52) p1.toNatClampNeg (x25.1 (pr S p0 14) p1.toNatClampNeg)) (fun x30 => bk54 (p1 + 1) x30)))))))
set_option maxHeartbeats 1000000 in
theorem lp_X12_keep_54_b_t {N d : Nat} {S : SH} (hW : WT S) (hd : 1 ≤ d) (k92 : DY → Option DY) (bk54 : Int32 → DY → Option DY) (p0 : Nat) (p1 : Int32) (x : DY) (g0 : TY S p0 12) (hk92 : ∀ (y : DY), Go mX12_keep d S wSV 92 [some (.ref p0), none] [] y (k92 y)) (hbk54 : ∀ (v1 : Int32) (y : DY), Go mX12_keep d S wSV 54 [some (.ref p0), some (.int v1)] [] y (bk54 v1 y)) : Go mX12_keep d S wSV 54 [some (.ref p0), some (.int p1)] [] x (lp_X12_keep_54_b N S k92 bk54 p0 p1 x) := by
  unfold lp_X12_keep_54_b
  refine go1 (M := mX12_keep) (pc' := 55) (r_iload_n (M := mX12_keep) (i := 1) rfl dX12_keep_54) ?_
  refine go1 (M := mX12_keep) (pc' := 56) (r_aload_n (M := mX12_keep) (i := 0) rfl dX12_keep_55) ?_
  refine go1 (M := mX12_keep) (pc' := 59) (r_getI (M := mX12_keep) fl_12_211 g0 rfl dX12_keep_56) ?_
  refine go_br (M := mX12_keep) (pt := 92) (pf := 62) (fun kt kf => r_icmp_ge (M := mX12_keep) dX12_keep_59 (by decide) kt kf) (fun hc20 => ?_) (fun hc20 => ?_)
  · refine go_drop (ls' := [some (.ref p0), none]) (And.intro rfl trivial) ?_
    exact hk92 x
  · refine go1 (M := mX12_keep) (pc' := 63) (r_aload_n (M := mX12_keep) (i := 0) rfl dX12_keep_62) ?_
    refine go1 (M := mX12_keep) (pc' := 66) (r_getR (M := mX12_keep) fl_12_163 g0 rfl (wt_some hW g0 (by decide) (by decide) rfl) dX12_keep_63) ?_
    have hT21 : TY S (pr S p0 51) 14 := wt hW g0 (by decide) (by decide) rfl (by decide)
    refine go1 (M := mX12_keep) (pc' := 67) (r_iload_n (M := mX12_keep) (i := 1) rfl dX12_keep_66) ?_
    refine go1 (M := mX12_keep) (pc' := 68) (r_aload_n (M := mX12_keep) (i := 0) rfl dX12_keep_67) ?_
    refine go1 (M := mX12_keep) (pc' := 71) (r_getR (M := mX12_keep) fl_12_47 g0 rfl (wt_some hW g0 (by decide) (by decide) rfl) dX12_keep_68) ?_
    have hT22 : TY S (pr S p0 13) 14 := wt hW g0 (by decide) (by decide) rfl (by decide)
    refine go1 (M := mX12_keep) (pc' := 72) (r_iload_n (M := mX12_keep) (i := 1) rfl dX12_keep_71) ?_
    refine go_ck (fun hi23 => ?_)
    refine go1 (M := mX12_keep) (pc' := 73) (r_iald (M := mX12_keep) hT22 hi23 dX12_keep_72) ?_
    refine go_ck (fun hi24 => ?_)
    refine go1 (M := mX12_keep) (pc' := 74) (r_iast (M := mX12_keep) hT21 hi24 dX12_keep_73) ?_
    refine go_blx (fun x25 => ?_)
    refine go1 (M := mX12_keep) (pc' := 75) (r_aload_n (M := mX12_keep) (i := 0) rfl dX12_keep_74) ?_
    refine go1 (M := mX12_keep) (pc' := 78) (r_getR (M := mX12_keep) fl_12_166 g0 rfl (wt_some hW g0 (by decide) (by decide) rfl) dX12_keep_75) ?_
    have hT26 : TY S (pr S p0 52) 14 := wt hW g0 (by decide) (by decide) rfl (by decide)
    refine go1 (M := mX12_keep) (pc' := 79) (r_iload_n (M := mX12_keep) (i := 1) rfl dX12_keep_78) ?_
    refine go1 (M := mX12_keep) (pc' := 80) (r_aload_n (M := mX12_keep) (i := 0) rfl dX12_keep_79) ?_
    refine go1 (M := mX12_keep) (pc' := 83) (r_getR (M := mX12_keep) fl_12_50 g0 rfl (wt_some hW g0 (by decide) (by decide) rfl) dX12_keep_80) ?_
    have hT27 : TY S (pr S p0 14) 14 := wt hW g0 (by decide) (by decide) rfl (by decide)
    refine go1 (M := mX12_keep) (pc' := 84) (r_iload_n (M := mX12_keep) (i := 1) rfl dX12_keep_83) ?_
    refine go_ck (fun hi28 => ?_)
    refine go1 (M := mX12_keep) (pc' := 85) (r_iald (M := mX12_keep) hT27 hi28 dX12_keep_84) ?_
    refine go_ck (fun hi29 => ?_)
    refine go1 (M := mX12_keep) (pc' := 86) (r_iast (M := mX12_keep) hT26 hi29 dX12_keep_85) ?_
    refine go_blx (fun x30 => ?_)
    refine go1 (M := mX12_keep) (pc' := 89) (ls' := [some (.ref p0), some (.int (p1 + 1))]) (r_iinc (M := mX12_keep) (ls := [some (.ref p0), some (.int p1)]) (i := 1) (v := p1) (c' := 1) (by decide) rfl (by decide) rfl dX12_keep_86) ?_
    refine go1 (M := mX12_keep) (pc' := 54) (r_goto (M := mX12_keep) dX12_keep_89 (by decide)) ?_
    exact hbk54 (p1 + 1) x30
def lp_X12_keep_54 (N : Nat) (S : SH) (k92 : DY → Option DY) (p0 : Nat) (p1 : Int32) (x : DY) : Option DY :=
  itr (fun back (v : Int32 × DY) => lp_X12_keep_54_b N S k92 (fun p1 y => back (p1, y)) p0 v.1 v.2) N (p1, x)
theorem lp_X12_keep_54_t {N d : Nat} {S : SH} (hW : WT S) (hd : 1 ≤ d) (k92 : DY → Option DY) (p0 : Nat) (p1 : Int32) (x : DY) (g0 : TY S p0 12) (hk92 : ∀ (y : DY), Go mX12_keep d S wSV 92 [some (.ref p0), none] [] y (k92 y)) : Go mX12_keep d S wSV 54 [some (.ref p0), some (.int p1)] [] x (lp_X12_keep_54 N S k92 p0 p1 x) := by
  unfold lp_X12_keep_54
  exact go_itr (L := fun (v : Int32 × DY) => [some (.ref p0), some (.int v.1)]) (X := fun (v : Int32 × DY) => v.2) (fun back hB v => lp_X12_keep_54_b_t (N := N) hW hd k92 (fun p1 y => back (p1, y)) p0 v.1 v.2 g0 hk92 (fun p1 y => hB (p1, y)) ) N (p1, x)
def lp_X12_keep_94_b (N : Nat) (S : SH) (k120 : DY → Option DY) (bk94 : Int32 → DY → Option DY) (p0 : Nat) (p1 : Int32) (x : DY) : Option DY :=
  (if (x.1 p0 17) ≤ p1 then k120 x else ck S (pr S p0 15) p1 (ck S (pr S p0 53) p1 (bl (U1 x (pr S p0 53) p1.toNatClampNeg (x.1 (pr S p0 15) p1.toNatClampNeg)) (fun x38 => bk94 (p1 + 1) x38))))
set_option maxHeartbeats 1000000 in
theorem lp_X12_keep_94_b_t {N d : Nat} {S : SH} (hW : WT S) (hd : 1 ≤ d) (k120 : DY → Option DY) (bk94 : Int32 → DY → Option DY) (p0 : Nat) (p1 : Int32) (x : DY) (g0 : TY S p0 12) (hk120 : ∀ (y : DY), Go mX12_keep d S wSV 120 [some (.ref p0), none] [] y (k120 y)) (hbk94 : ∀ (v1 : Int32) (y : DY), Go mX12_keep d S wSV 94 [some (.ref p0), some (.int v1)] [] y (bk94 v1 y)) : Go mX12_keep d S wSV 94 [some (.ref p0), some (.int p1)] [] x (lp_X12_keep_94_b N S k120 bk94 p0 p1 x) := by
  unfold lp_X12_keep_94_b
  refine go1 (M := mX12_keep) (pc' := 95) (r_iload_n (M := mX12_keep) (i := 1) rfl dX12_keep_94) ?_
  refine go1 (M := mX12_keep) (pc' := 96) (r_aload_n (M := mX12_keep) (i := 0) rfl dX12_keep_95) ?_
  refine go1 (M := mX12_keep) (pc' := 99) (r_getI (M := mX12_keep) fl_12_59 g0 rfl dX12_keep_96) ?_
  refine go_br (M := mX12_keep) (pt := 120) (pf := 102) (fun kt kf => r_icmp_ge (M := mX12_keep) dX12_keep_99 (by decide) kt kf) (fun hc33 => ?_) (fun hc33 => ?_)
  · refine go_drop (ls' := [some (.ref p0), none]) (And.intro rfl trivial) ?_
    exact hk120 x
  · refine go1 (M := mX12_keep) (pc' := 103) (r_aload_n (M := mX12_keep) (i := 0) rfl dX12_keep_102) ?_
    refine go1 (M := mX12_keep) (pc' := 106) (r_getR (M := mX12_keep) fl_12_169 g0 rfl (wt_some hW g0 (by decide) (by decide) rfl) dX12_keep_103) ?_
    have hT34 : TY S (pr S p0 53) 14 := wt hW g0 (by decide) (by decide) rfl (by decide)
    refine go1 (M := mX12_keep) (pc' := 107) (r_iload_n (M := mX12_keep) (i := 1) rfl dX12_keep_106) ?_
    refine go1 (M := mX12_keep) (pc' := 108) (r_aload_n (M := mX12_keep) (i := 0) rfl dX12_keep_107) ?_
    refine go1 (M := mX12_keep) (pc' := 111) (r_getR (M := mX12_keep) fl_12_53 g0 rfl (wt_some hW g0 (by decide) (by decide) rfl) dX12_keep_108) ?_
    have hT35 : TY S (pr S p0 15) 14 := wt hW g0 (by decide) (by decide) rfl (by decide)
    refine go1 (M := mX12_keep) (pc' := 112) (r_iload_n (M := mX12_keep) (i := 1) rfl dX12_keep_111) ?_
    refine go_ck (fun hi36 => ?_)
    refine go1 (M := mX12_keep) (pc' := 113) (r_iald (M := mX12_keep) hT35 hi36 dX12_keep_112) ?_
    refine go_ck (fun hi37 => ?_)
    refine go1 (M := mX12_keep) (pc' := 114) (r_iast (M := mX12_keep) hT34 hi37 dX12_keep_113) ?_
    refine go_blx (fun x38 => ?_)
    refine go1 (M := mX12_keep) (pc' := 117) (ls' := [some (.ref p0), some (.int (p1 + 1))]) (r_iinc (M := mX12_keep) (ls := [some (.ref p0), some (.int p1)]) (i := 1) (v := p1) (c' := 1) (by decide) rfl (by decide) rfl dX12_keep_114) ?_
    refine go1 (M := mX12_keep) (pc' := 94) (r_goto (M := mX12_keep) dX12_keep_117 (by decide)) ?_
    exact hbk94 (p1 + 1) x38
def lp_X12_keep_94 (N : Nat) (S : SH) (k120 : DY → Option DY) (p0 : Nat) (p1 : Int32) (x : DY) : Option DY :=
  itr (fun back (v : Int32 × DY) => lp_X12_keep_94_b N S k120 (fun p1 y => back (p1, y)) p0 v.1 v.2) N (p1, x)
theorem lp_X12_keep_94_t {N d : Nat} {S : SH} (hW : WT S) (hd : 1 ≤ d) (k120 : DY → Option DY) (p0 : Nat) (p1 : Int32) (x : DY) (g0 : TY S p0 12) (hk120 : ∀ (y : DY), Go mX12_keep d S wSV 120 [some (.ref p0), none] [] y (k120 y)) : Go mX12_keep d S wSV 94 [some (.ref p0), some (.int p1)] [] x (lp_X12_keep_94 N S k120 p0 p1 x) := by
  unfold lp_X12_keep_94
  exact go_itr (L := fun (v : Int32 × DY) => [some (.ref p0), some (.int v.1)]) (X := fun (v : Int32 × DY) => v.2) (fun back hB v => lp_X12_keep_94_b_t (N := N) hW hd k120 (fun p1 y => back (p1, y)) p0 v.1 v.2 g0 hk120 (fun p1 y => hB (p1, y)) ) N (p1, x)
def lp_X12_keep_122_b (N : Nat) (S : SH) (k210 : DY → Option DY) (bk122 : Int32 → DY → Option DY) (p0 : Nat) (p1 : Int32) (x : DY) : Option DY :=
  (if (x.1 p0 18) ≤ p1 then k210 x else ck S (pr S p0 26) p1 (ck S (pr S p0 55) p1 (bl (U1 x (pr S p0 55) p1.toNatClampNeg (vp_nar .boolean (x.1 (pr S p0 26) p1.toNatClampNeg))) (fun x46 => ck S (pr S p0 21) p1 (ck S (pr S p0 54) (5 * p1) (bl (U1 x46 (pr S p0 54) (5 * p1).toNatClampNeg (x46.1 (pr S p0 21) p1.toNatClampNeg)) (fun x51 => ck S (pr S p0 22) p1 (ck S (pr S p0 54) ((5 * p1) + 1) (bl (U1 x51 (pr S p0 54) ((5 * p1) + 1).toNatClampNeg (x51.1 (pr S p0 22) p1.toNatClampNeg)) (fun x55 => ck S (pr S p0 23) p1 (ck S (pr S p0 54) ((5 * p1) + 2) (bl (U1 x55 (pr S p0 54) ((5 * p1) + 2).toNatClampNeg (x55.1 (pr S p0 23) p1.toNatClampNeg)) (fun x59 => ck S (pr S p0 24) p1 (ck S (pr S p0 54) ((5 * p1) + 3) (bl (U1 x59 (pr S p0 54) ((5 * p1) + 3).toNatClampNeg (x59.1 (pr S p0 24) p1.toNatClampNeg)) (fun x63 => bk122 (p1 + 1) x63))))))))))))))))
set_option maxHeartbeats 1000000 in
theorem lp_X12_keep_122_b_t {N d : Nat} {S : SH} (hW : WT S) (hd : 1 ≤ d) (k210 : DY → Option DY) (bk122 : Int32 → DY → Option DY) (p0 : Nat) (p1 : Int32) (x : DY) (g0 : TY S p0 12) (hk210 : ∀ (y : DY), Go mX12_keep d S wSV 210 [some (.ref p0), none] [] y (k210 y)) (hbk122 : ∀ (v1 : Int32) (y : DY), Go mX12_keep d S wSV 122 [some (.ref p0), some (.int v1)] [] y (bk122 v1 y)) : Go mX12_keep d S wSV 122 [some (.ref p0), some (.int p1)] [] x (lp_X12_keep_122_b N S k210 bk122 p0 p1 x) := by
  unfold lp_X12_keep_122_b
  refine go1 (M := mX12_keep) (pc' := 123) (r_iload_n (M := mX12_keep) (i := 1) rfl dX12_keep_122) ?_
  refine go1 (M := mX12_keep) (pc' := 124) (r_aload_n (M := mX12_keep) (i := 0) rfl dX12_keep_123) ?_
  refine go1 (M := mX12_keep) (pc' := 127) (r_getI (M := mX12_keep) fl_12_62 g0 rfl dX12_keep_124) ?_
  refine go_br (M := mX12_keep) (pt := 210) (pf := 130) (fun kt kf => r_icmp_ge (M := mX12_keep) dX12_keep_127 (by decide) kt kf) (fun hc41 => ?_) (fun hc41 => ?_)
  · refine go_drop (ls' := [some (.ref p0), none]) (And.intro rfl trivial) ?_
    exact hk210 x
  · refine go1 (M := mX12_keep) (pc' := 131) (r_aload_n (M := mX12_keep) (i := 0) rfl dX12_keep_130) ?_
    refine go1 (M := mX12_keep) (pc' := 134) (r_getR (M := mX12_keep) fl_12_175 g0 rfl (wt_some hW g0 (by decide) (by decide) rfl) dX12_keep_131) ?_
    have hT42 : TY S (pr S p0 55) 15 := wt hW g0 (by decide) (by decide) rfl (by decide)
    refine go1 (M := mX12_keep) (pc' := 135) (r_iload_n (M := mX12_keep) (i := 1) rfl dX12_keep_134) ?_
    refine go1 (M := mX12_keep) (pc' := 136) (r_aload_n (M := mX12_keep) (i := 0) rfl dX12_keep_135) ?_
    refine go1 (M := mX12_keep) (pc' := 139) (r_getR (M := mX12_keep) fl_12_86 g0 rfl (wt_some hW g0 (by decide) (by decide) rfl) dX12_keep_136) ?_
    have hT43 : TY S (pr S p0 26) 15 := wt hW g0 (by decide) (by decide) rfl (by decide)
    refine go1 (M := mX12_keep) (pc' := 140) (r_iload_n (M := mX12_keep) (i := 1) rfl dX12_keep_139) ?_
    refine go_ck (fun hi44 => ?_)
    refine go1 (M := mX12_keep) (pc' := 141) (r_zald (M := mX12_keep) hT43 hi44 dX12_keep_140) ?_
    refine go_ck (fun hi45 => ?_)
    refine go1 (M := mX12_keep) (pc' := 142) (r_zast (M := mX12_keep) hT42 hi45 dX12_keep_141) ?_
    refine go_blx (fun x46 => ?_)
    refine go1 (M := mX12_keep) (pc' := 143) (r_aload_n (M := mX12_keep) (i := 0) rfl dX12_keep_142) ?_
    refine go1 (M := mX12_keep) (pc' := 146) (r_getR (M := mX12_keep) fl_12_172 g0 rfl (wt_some hW g0 (by decide) (by decide) rfl) dX12_keep_143) ?_
    have hT47 : TY S (pr S p0 54) 14 := wt hW g0 (by decide) (by decide) rfl (by decide)
    refine go1 (M := mX12_keep) (pc' := 147) (r_iconst (M := mX12_keep) (v := 5) (by decide) dX12_keep_146) ?_
    refine go1 (M := mX12_keep) (pc' := 148) (r_iload_n (M := mX12_keep) (i := 1) rfl dX12_keep_147) ?_
    refine go1 (M := mX12_keep) (pc' := 149) (r_imul (M := mX12_keep) dX12_keep_148) ?_
    refine go1 (M := mX12_keep) (pc' := 150) (r_aload_n (M := mX12_keep) (i := 0) rfl dX12_keep_149) ?_
    refine go1 (M := mX12_keep) (pc' := 153) (r_getR (M := mX12_keep) fl_12_71 g0 rfl (wt_some hW g0 (by decide) (by decide) rfl) dX12_keep_150) ?_
    have hT48 : TY S (pr S p0 21) 14 := wt hW g0 (by decide) (by decide) rfl (by decide)
    refine go1 (M := mX12_keep) (pc' := 154) (r_iload_n (M := mX12_keep) (i := 1) rfl dX12_keep_153) ?_
    refine go_ck (fun hi49 => ?_)
    refine go1 (M := mX12_keep) (pc' := 155) (r_iald (M := mX12_keep) hT48 hi49 dX12_keep_154) ?_
    refine go_ck (fun hi50 => ?_)
    refine go1 (M := mX12_keep) (pc' := 156) (r_iast (M := mX12_keep) hT47 hi50 dX12_keep_155) ?_
    refine go_blx (fun x51 => ?_)
    refine go1 (M := mX12_keep) (pc' := 157) (r_aload_n (M := mX12_keep) (i := 0) rfl dX12_keep_156) ?_
    refine go1 (M := mX12_keep) (pc' := 160) (r_getR (M := mX12_keep) fl_12_172 g0 rfl (wt_some hW g0 (by decide) (by decide) rfl) dX12_keep_157) ?_
    refine go1 (M := mX12_keep) (pc' := 161) (r_iconst (M := mX12_keep) (v := 5) (by decide) dX12_keep_160) ?_
    refine go1 (M := mX12_keep) (pc' := 162) (r_iload_n (M := mX12_keep) (i := 1) rfl dX12_keep_161) ?_
    refine go1 (M := mX12_keep) (pc' := 163) (r_imul (M := mX12_keep) dX12_keep_162) ?_
    refine go1 (M := mX12_keep) (pc' := 164) (r_iconst (M := mX12_keep) (v := 1) (by decide) dX12_keep_163) ?_
    refine go1 (M := mX12_keep) (pc' := 165) (r_iadd (M := mX12_keep) dX12_keep_164) ?_
    refine go1 (M := mX12_keep) (pc' := 166) (r_aload_n (M := mX12_keep) (i := 0) rfl dX12_keep_165) ?_
    refine go1 (M := mX12_keep) (pc' := 169) (r_getR (M := mX12_keep) fl_12_74 g0 rfl (wt_some hW g0 (by decide) (by decide) rfl) dX12_keep_166) ?_
    have hT52 : TY S (pr S p0 22) 14 := wt hW g0 (by decide) (by decide) rfl (by decide)
    refine go1 (M := mX12_keep) (pc' := 170) (r_iload_n (M := mX12_keep) (i := 1) rfl dX12_keep_169) ?_
    refine go_ck (fun hi53 => ?_)
    refine go1 (M := mX12_keep) (pc' := 171) (r_iald (M := mX12_keep) hT52 hi53 dX12_keep_170) ?_
    refine go_ck (fun hi54 => ?_)
    refine go1 (M := mX12_keep) (pc' := 172) (r_iast (M := mX12_keep) hT47 hi54 dX12_keep_171) ?_
    refine go_blx (fun x55 => ?_)
    refine go1 (M := mX12_keep) (pc' := 173) (r_aload_n (M := mX12_keep) (i := 0) rfl dX12_keep_172) ?_
    refine go1 (M := mX12_keep) (pc' := 176) (r_getR (M := mX12_keep) fl_12_172 g0 rfl (wt_some hW g0 (by decide) (by decide) rfl) dX12_keep_173) ?_
    refine go1 (M := mX12_keep) (pc' := 177) (r_iconst (M := mX12_keep) (v := 5) (by decide) dX12_keep_176) ?_
    refine go1 (M := mX12_keep) (pc' := 178) (r_iload_n (M := mX12_keep) (i := 1) rfl dX12_keep_177) ?_
    refine go1 (M := mX12_keep) (pc' := 179) (r_imul (M := mX12_keep) dX12_keep_178) ?_
    refine go1 (M := mX12_keep) (pc' := 180) (r_iconst (M := mX12_keep) (v := 2) (by decide) dX12_keep_179) ?_
    refine go1 (M := mX12_keep) (pc' := 181) (r_iadd (M := mX12_keep) dX12_keep_180) ?_
    refine go1 (M := mX12_keep) (pc' := 182) (r_aload_n (M := mX12_keep) (i := 0) rfl dX12_keep_181) ?_
    refine go1 (M := mX12_keep) (pc' := 185) (r_getR (M := mX12_keep) fl_12_77 g0 rfl (wt_some hW g0 (by decide) (by decide) rfl) dX12_keep_182) ?_
    have hT56 : TY S (pr S p0 23) 14 := wt hW g0 (by decide) (by decide) rfl (by decide)
    refine go1 (M := mX12_keep) (pc' := 186) (r_iload_n (M := mX12_keep) (i := 1) rfl dX12_keep_185) ?_
    refine go_ck (fun hi57 => ?_)
    refine go1 (M := mX12_keep) (pc' := 187) (r_iald (M := mX12_keep) hT56 hi57 dX12_keep_186) ?_
    refine go_ck (fun hi58 => ?_)
    refine go1 (M := mX12_keep) (pc' := 188) (r_iast (M := mX12_keep) hT47 hi58 dX12_keep_187) ?_
    refine go_blx (fun x59 => ?_)
    refine go1 (M := mX12_keep) (pc' := 189) (r_aload_n (M := mX12_keep) (i := 0) rfl dX12_keep_188) ?_
    refine go1 (M := mX12_keep) (pc' := 192) (r_getR (M := mX12_keep) fl_12_172 g0 rfl (wt_some hW g0 (by decide) (by decide) rfl) dX12_keep_189) ?_
    refine go1 (M := mX12_keep) (pc' := 193) (r_iconst (M := mX12_keep) (v := 5) (by decide) dX12_keep_192) ?_
    refine go1 (M := mX12_keep) (pc' := 194) (r_iload_n (M := mX12_keep) (i := 1) rfl dX12_keep_193) ?_
    refine go1 (M := mX12_keep) (pc' := 195) (r_imul (M := mX12_keep) dX12_keep_194) ?_
    refine go1 (M := mX12_keep) (pc' := 196) (r_iconst (M := mX12_keep) (v := 3) (by decide) dX12_keep_195) ?_
    refine go1 (M := mX12_keep) (pc' := 197) (r_iadd (M := mX12_keep) dX12_keep_196) ?_
    refine go1 (M := mX12_keep) (pc' := 198) (r_aload_n (M := mX12_keep) (i := 0) rfl dX12_keep_197) ?_
    refine go1 (M := mX12_keep) (pc' := 201) (r_getR (M := mX12_keep) fl_12_80 g0 rfl (wt_some hW g0 (by decide) (by decide) rfl) dX12_keep_198) ?_
    have hT60 : TY S (pr S p0 24) 14 := wt hW g0 (by decide) (by decide) rfl (by decide)
    refine go1 (M := mX12_keep) (pc' := 202) (r_iload_n (M := mX12_keep) (i := 1) rfl dX12_keep_201) ?_
    refine go_ck (fun hi61 => ?_)
    refine go1 (M := mX12_keep) (pc' := 203) (r_iald (M := mX12_keep) hT60 hi61 dX12_keep_202) ?_
    refine go_ck (fun hi62 => ?_)
    refine go1 (M := mX12_keep) (pc' := 204) (r_iast (M := mX12_keep) hT47 hi62 dX12_keep_203) ?_
    refine go_blx (fun x63 => ?_)
    refine go1 (M := mX12_keep) (pc' := 207) (ls' := [some (.ref p0), some (.int (p1 + 1))]) (r_iinc (M := mX12_keep) (ls := [some (.ref p0), some (.int p1)]) (i := 1) (v := p1) (c' := 1) (by decide) rfl (by decide) rfl dX12_keep_204) ?_
    refine go1 (M := mX12_keep) (pc' := 122) (r_goto (M := mX12_keep) dX12_keep_207 (by decide)) ?_
    exact hbk122 (p1 + 1) x63
def lp_X12_keep_122 (N : Nat) (S : SH) (k210 : DY → Option DY) (p0 : Nat) (p1 : Int32) (x : DY) : Option DY :=
  itr (fun back (v : Int32 × DY) => lp_X12_keep_122_b N S k210 (fun p1 y => back (p1, y)) p0 v.1 v.2) N (p1, x)
theorem lp_X12_keep_122_t {N d : Nat} {S : SH} (hW : WT S) (hd : 1 ≤ d) (k210 : DY → Option DY) (p0 : Nat) (p1 : Int32) (x : DY) (g0 : TY S p0 12) (hk210 : ∀ (y : DY), Go mX12_keep d S wSV 210 [some (.ref p0), none] [] y (k210 y)) : Go mX12_keep d S wSV 122 [some (.ref p0), some (.int p1)] [] x (lp_X12_keep_122 N S k210 p0 p1 x) := by
  unfold lp_X12_keep_122
  exact go_itr (L := fun (v : Int32 × DY) => [some (.ref p0), some (.int v.1)]) (X := fun (v : Int32 × DY) => v.2) (fun back hB v => lp_X12_keep_122_b_t (N := N) hW hd k210 (fun p1 y => back (p1, y)) p0 v.1 v.2 g0 hk210 (fun p1 y => hB (p1, y)) ) N (p1, x)
def f_X12_keep (N : Nat) (S : SH) (a0 : Nat) (x : DY) : Option DY :=
  lp_X12_keep_2 N S (fun y17 => lp_X12_keep_54 N S (fun y30 => lp_X12_keep_94 N S (fun y38 => lp_X12_keep_122 N S (fun y63 => bl (U1 y63 a0 56 (y63.1 a0 1)) (fun x65 => bl (U1 x65 a0 57 (x65.1 a0 2)) (fun x66 => bl (U1 x66 a0 58 (x66.1 a0 3)) (fun x67 => bl (U1 x67 a0 59 (x67.1 a0 17)) (fun x68 => some x68))))) a0 0 y38) a0 0 y30) a0 0 y17) a0 0 x
set_option maxHeartbeats 1000000 in
theorem t_X12_keep {N d : Nat} {S : SH} (hW : WT S) {x : DY} {a0 : Nat} (hd : 1 ≤ d) (h0 : TY S a0 12) : CT mX12_keep d S [.ref a0] x wSV (f_X12_keep N S a0 x) := by
  refine CT.of [some (.ref a0), none] rfl (Nat.le_of_ble_eq_true rfl) (by decide +kernel) ?_
  unfold f_X12_keep
  refine go1 (M := mX12_keep) (pc' := 1) (r_iconst (M := mX12_keep) (v := 0) (by decide) dX12_keep_0) ?_
  refine go1 (M := mX12_keep) (pc' := 2) (ls' := [some (.ref a0), some (.int 0)]) (r_istore_n (M := mX12_keep) (ls := [some (.ref a0), none]) (i := 1) (v := 0) (by decide) rfl dX12_keep_1) ?_
  refine lp_X12_keep_2_t (N := N) hW (by omega) _ a0 0 x h0 ?_
  · intro y17
    refine go1 (M := mX12_keep) (pc' := 53) (r_iconst (M := mX12_keep) (v := 0) (by decide) dX12_keep_52) ?_
    refine go1 (M := mX12_keep) (pc' := 54) (ls' := [some (.ref a0), some (.int 0)]) (r_istore_n (M := mX12_keep) (ls := [some (.ref a0), none]) (i := 1) (v := 0) (by decide) rfl dX12_keep_53) ?_
    refine lp_X12_keep_54_t (N := N) hW (by omega) _ a0 0 y17 h0 ?_
    · intro y30
      refine go1 (M := mX12_keep) (pc' := 93) (r_iconst (M := mX12_keep) (v := 0) (by decide) dX12_keep_92) ?_
      refine go1 (M := mX12_keep) (pc' := 94) (ls' := [some (.ref a0), some (.int 0)]) (r_istore_n (M := mX12_keep) (ls := [some (.ref a0), none]) (i := 1) (v := 0) (by decide) rfl dX12_keep_93) ?_
      refine lp_X12_keep_94_t (N := N) hW (by omega) _ a0 0 y30 h0 ?_
      · intro y38
        refine go1 (M := mX12_keep) (pc' := 121) (r_iconst (M := mX12_keep) (v := 0) (by decide) dX12_keep_120) ?_
        refine go1 (M := mX12_keep) (pc' := 122) (ls' := [some (.ref a0), some (.int 0)]) (r_istore_n (M := mX12_keep) (ls := [some (.ref a0), none]) (i := 1) (v := 0) (by decide) rfl dX12_keep_121) ?_
        refine lp_X12_keep_122_t (N := N) hW (by omega) _ a0 0 y38 h0 ?_
        · intro y63
          refine go1 (M := mX12_keep) (pc' := 211) (r_aload_n (M := mX12_keep) (i := 0) rfl dX12_keep_210) ?_
          refine go1 (M := mX12_keep) (pc' := 212) (r_aload_n (M := mX12_keep) (i := 0) rfl dX12_keep_211) ?_
          refine go1 (M := mX12_keep) (pc' := 215) (r_getI (M := mX12_keep) fl_12_7 h0 rfl dX12_keep_212) ?_
          refine go1 (M := mX12_keep) (pc' := 218) (r_putI (M := mX12_keep) fl_12_178 h0 rfl rfl dX12_keep_215) ?_
          refine go_blx (fun x65 => ?_)
          refine go1 (M := mX12_keep) (pc' := 219) (r_aload_n (M := mX12_keep) (i := 0) rfl dX12_keep_218) ?_
          refine go1 (M := mX12_keep) (pc' := 220) (r_aload_n (M := mX12_keep) (i := 0) rfl dX12_keep_219) ?_
          refine go1 (M := mX12_keep) (pc' := 223) (r_getI (M := mX12_keep) fl_12_13 h0 rfl dX12_keep_220) ?_
          refine go1 (M := mX12_keep) (pc' := 226) (r_putI (M := mX12_keep) fl_12_181 h0 rfl rfl dX12_keep_223) ?_
          refine go_blx (fun x66 => ?_)
          refine go1 (M := mX12_keep) (pc' := 227) (r_aload_n (M := mX12_keep) (i := 0) rfl dX12_keep_226) ?_
          refine go1 (M := mX12_keep) (pc' := 228) (r_aload_n (M := mX12_keep) (i := 0) rfl dX12_keep_227) ?_
          refine go1 (M := mX12_keep) (pc' := 231) (r_getI (M := mX12_keep) fl_12_16 h0 rfl dX12_keep_228) ?_
          refine go1 (M := mX12_keep) (pc' := 234) (r_putI (M := mX12_keep) fl_12_184 h0 rfl rfl dX12_keep_231) ?_
          refine go_blx (fun x67 => ?_)
          refine go1 (M := mX12_keep) (pc' := 235) (r_aload_n (M := mX12_keep) (i := 0) rfl dX12_keep_234) ?_
          refine go1 (M := mX12_keep) (pc' := 236) (r_aload_n (M := mX12_keep) (i := 0) rfl dX12_keep_235) ?_
          refine go1 (M := mX12_keep) (pc' := 239) (r_getI (M := mX12_keep) fl_12_59 h0 rfl dX12_keep_236) ?_
          refine go1 (M := mX12_keep) (pc' := 242) (r_putI (M := mX12_keep) fl_12_187 h0 rfl rfl dX12_keep_239) ?_
          refine go_blx (fun x68 => ?_)
          exact go_vret (M := mX12_keep) rfl rfl dX12_keep_242
def lp_X12_takeBack_34_b (N : Nat) (S : SH) (k84 : DY → Option DY) (bk34 : Int32 → DY → Option DY) (p0 : Nat) (p1 : Int32) (x : DY) : Option DY :=
  (if (x.1 p0 1) ≤ p1 then k84 x else ck S (pr S p0 48) p1 (ck S (pr S p0 10) p1 (bl (U1 x (pr S p0 10) p1.toNatClampNeg (x.1 (pr S p0 48) p1.toNatClampNeg)) (fun x11 => ck S (pr S p0 49) p1 (ck S (pr S p0 11) p1 (bl (U1 x11 (pr S p0 11) p1.toNatClampNeg (x11.1 (pr S p0 49) p1.toNatClampNeg)) (fun x16 => ck S (pr S p0 50) p1 (ck S (pr S p0 12) p1 (bl (U1 x16 (pr S p0 12) p1.toNatClampNeg (x16.1 (pr S p0 50) p1.toNatClampNeg)) (fun x21 => bk34 (p1 + 1) x21))))))))))
set_option maxHeartbeats 1000000 in
theorem lp_X12_takeBack_34_b_t {N d : Nat} {S : SH} (hW : WT S) (hd : 1 ≤ d) (k84 : DY → Option DY) (bk34 : Int32 → DY → Option DY) (p0 : Nat) (p1 : Int32) (x : DY) (g0 : TY S p0 12) (hk84 : ∀ (y : DY), Go mX12_takeBack d S wSV 84 [some (.ref p0), none] [] y (k84 y)) (hbk34 : ∀ (v1 : Int32) (y : DY), Go mX12_takeBack d S wSV 34 [some (.ref p0), some (.int v1)] [] y (bk34 v1 y)) : Go mX12_takeBack d S wSV 34 [some (.ref p0), some (.int p1)] [] x (lp_X12_takeBack_34_b N S k84 bk34 p0 p1 x) := by
  unfold lp_X12_takeBack_34_b
  refine go1 (M := mX12_takeBack) (pc' := 35) (r_iload_n (M := mX12_takeBack) (i := 1) rfl dX12_takeBack_34) ?_
  refine go1 (M := mX12_takeBack) (pc' := 36) (r_aload_n (M := mX12_takeBack) (i := 0) rfl dX12_takeBack_35) ?_
  refine go1 (M := mX12_takeBack) (pc' := 39) (r_getI (M := mX12_takeBack) fl_12_7 g0 rfl dX12_takeBack_36) ?_
  refine go_br (M := mX12_takeBack) (pt := 84) (pf := 42) (fun kt kf => r_icmp_ge (M := mX12_takeBack) dX12_takeBack_39 (by decide) kt kf) (fun hc6 => ?_) (fun hc6 => ?_)
  · refine go_drop (ls' := [some (.ref p0), none]) (And.intro rfl trivial) ?_
    exact hk84 x
  · refine go1 (M := mX12_takeBack) (pc' := 43) (r_aload_n (M := mX12_takeBack) (i := 0) rfl dX12_takeBack_42) ?_
    refine go1 (M := mX12_takeBack) (pc' := 46) (r_getR (M := mX12_takeBack) fl_12_38 g0 rfl (wt_some hW g0 (by decide) (by decide) rfl) dX12_takeBack_43) ?_
    have hT7 : TY S (pr S p0 10) 14 := wt hW g0 (by decide) (by decide) rfl (by decide)
    refine go1 (M := mX12_takeBack) (pc' := 47) (r_iload_n (M := mX12_takeBack) (i := 1) rfl dX12_takeBack_46) ?_
    refine go1 (M := mX12_takeBack) (pc' := 48) (r_aload_n (M := mX12_takeBack) (i := 0) rfl dX12_takeBack_47) ?_
    refine go1 (M := mX12_takeBack) (pc' := 51) (r_getR (M := mX12_takeBack) fl_12_154 g0 rfl (wt_some hW g0 (by decide) (by decide) rfl) dX12_takeBack_48) ?_
    have hT8 : TY S (pr S p0 48) 14 := wt hW g0 (by decide) (by decide) rfl (by decide)
    refine go1 (M := mX12_takeBack) (pc' := 52) (r_iload_n (M := mX12_takeBack) (i := 1) rfl dX12_takeBack_51) ?_
    refine go_ck (fun hi9 => ?_)
    refine go1 (M := mX12_takeBack) (pc' := 53) (r_iald (M := mX12_takeBack) hT8 hi9 dX12_takeBack_52) ?_
    refine go_ck (fun hi10 => ?_)
    refine go1 (M := mX12_takeBack) (pc' := 54) (r_iast (M := mX12_takeBack) hT7 hi10 dX12_takeBack_53) ?_
    refine go_blx (fun x11 => ?_)
    refine go1 (M := mX12_takeBack) (pc' := 55) (r_aload_n (M := mX12_takeBack) (i := 0) rfl dX12_takeBack_54) ?_
    refine go1 (M := mX12_takeBack) (pc' := 58) (r_getR (M := mX12_takeBack) fl_12_41 g0 rfl (wt_some hW g0 (by decide) (by decide) rfl) dX12_takeBack_55) ?_
    have hT12 : TY S (pr S p0 11) 14 := wt hW g0 (by decide) (by decide) rfl (by decide)
    refine go1 (M := mX12_takeBack) (pc' := 59) (r_iload_n (M := mX12_takeBack) (i := 1) rfl dX12_takeBack_58) ?_
    refine go1 (M := mX12_takeBack) (pc' := 60) (r_aload_n (M := mX12_takeBack) (i := 0) rfl dX12_takeBack_59) ?_
    refine go1 (M := mX12_takeBack) (pc' := 63) (r_getR (M := mX12_takeBack) fl_12_157 g0 rfl (wt_some hW g0 (by decide) (by decide) rfl) dX12_takeBack_60) ?_
    have hT13 : TY S (pr S p0 49) 14 := wt hW g0 (by decide) (by decide) rfl (by decide)
    refine go1 (M := mX12_takeBack) (pc' := 64) (r_iload_n (M := mX12_takeBack) (i := 1) rfl dX12_takeBack_63) ?_
    refine go_ck (fun hi14 => ?_)
    refine go1 (M := mX12_takeBack) (pc' := 65) (r_iald (M := mX12_takeBack) hT13 hi14 dX12_takeBack_64) ?_
    refine go_ck (fun hi15 => ?_)
    refine go1 (M := mX12_takeBack) (pc' := 66) (r_iast (M := mX12_takeBack) hT12 hi15 dX12_takeBack_65) ?_
    refine go_blx (fun x16 => ?_)
    refine go1 (M := mX12_takeBack) (pc' := 67) (r_aload_n (M := mX12_takeBack) (i := 0) rfl dX12_takeBack_66) ?_
    refine go1 (M := mX12_takeBack) (pc' := 70) (r_getR (M := mX12_takeBack) fl_12_44 g0 rfl (wt_some hW g0 (by decide) (by decide) rfl) dX12_takeBack_67) ?_
    have hT17 : TY S (pr S p0 12) 14 := wt hW g0 (by decide) (by decide) rfl (by decide)
    refine go1 (M := mX12_takeBack) (pc' := 71) (r_iload_n (M := mX12_takeBack) (i := 1) rfl dX12_takeBack_70) ?_
    refine go1 (M := mX12_takeBack) (pc' := 72) (r_aload_n (M := mX12_takeBack) (i := 0) rfl dX12_takeBack_71) ?_
    refine go1 (M := mX12_takeBack) (pc' := 75) (r_getR (M := mX12_takeBack) fl_12_160 g0 rfl (wt_some hW g0 (by decide) (by decide) rfl) dX12_takeBack_72) ?_
    have hT18 : TY S (pr S p0 50) 14 := wt hW g0 (by decide) (by decide) rfl (by decide)
    refine go1 (M := mX12_takeBack) (pc' := 76) (r_iload_n (M := mX12_takeBack) (i := 1) rfl dX12_takeBack_75) ?_
    refine go_ck (fun hi19 => ?_)
    refine go1 (M := mX12_takeBack) (pc' := 77) (r_iald (M := mX12_takeBack) hT18 hi19 dX12_takeBack_76) ?_
    refine go_ck (fun hi20 => ?_)
    refine go1 (M := mX12_takeBack) (pc' := 78) (r_iast (M := mX12_takeBack) hT17 hi20 dX12_takeBack_77) ?_
    refine go_blx (fun x21 => ?_)
    refine go1 (M := mX12_takeBack) (pc' := 81) (ls' := [some (.ref p0), some (.int (p1 + 1))]) (r_iinc (M := mX12_takeBack) (ls := [some (.ref p0), some (.int p1)]) (i := 1) (v := p1) (c' := 1) (by decide) rfl (by decide) rfl dX12_takeBack_78) ?_
    refine go1 (M := mX12_takeBack) (pc' := 34) (r_goto (M := mX12_takeBack) dX12_takeBack_81 (by decide)) ?_
    exact hbk34 (p1 + 1) x21
def lp_X12_takeBack_34 (N : Nat) (S : SH) (k84 : DY → Option DY) (p0 : Nat) (p1 : Int32) (x : DY) : Option DY :=
  itr (fun back (v : Int32 × DY) => lp_X12_takeBack_34_b N S k84 (fun p1 y => back (p1, y)) p0 v.1 v.2) N (p1, x)
theorem lp_X12_takeBack_34_t {N d : Nat} {S : SH} (hW : WT S) (hd : 1 ≤ d) (k84 : DY → Option DY) (p0 : Nat) (p1 : Int32) (x : DY) (g0 : TY S p0 12) (hk84 : ∀ (y : DY), Go mX12_takeBack d S wSV 84 [some (.ref p0), none] [] y (k84 y)) : Go mX12_takeBack d S wSV 34 [some (.ref p0), some (.int p1)] [] x (lp_X12_takeBack_34 N S k84 p0 p1 x) := by
  unfold lp_X12_takeBack_34
  exact go_itr (L := fun (v : Int32 × DY) => [some (.ref p0), some (.int v.1)]) (X := fun (v : Int32 × DY) => v.2) (fun back hB v => lp_X12_takeBack_34_b_t (N := N) hW hd k84 (fun p1 y => back (p1, y)) p0 v.1 v.2 g0 hk84 (fun p1 y => hB (p1, y)) ) N (p1, x)
def lp_X12_takeBack_86_b (N : Nat) (S : SH) (k124 : DY → Option DY) (bk86 : Int32 → DY → Option DY) (p0 : Nat) (p1 : Int32) (x : DY) : Option DY :=
  (if (x.1 p0 0) ≤ p1 then k124 x else ck S (pr S p0 51) p1 (ck S (pr S p0 13) p1 (bl (U1 x (pr S p0 13) p1.toNatClampNeg (x.1 (pr S p0 51) p1.toNatClampNeg)) (fun x29 => ck S (pr S p0 52) p1 (ck S (pr S p0 14) p1 (bl (U1 x29 (pr S p0 14) p1.toNatClampNeg (x29.1 (pr S p0 52) p1.toNatClampNeg)) (fun x34 => bk86 (p1 + 1) x34)))))))
set_option maxHeartbeats 1000000 in
theorem lp_X12_takeBack_86_b_t {N d : Nat} {S : SH} (hW : WT S) (hd : 1 ≤ d) (k124 : DY → Option DY) (bk86 : Int32 → DY → Option DY) (p0 : Nat) (p1 : Int32) (x : DY) (g0 : TY S p0 12) (hk124 : ∀ (y : DY), Go mX12_takeBack d S wSV 124 [some (.ref p0), none] [] y (k124 y)) (hbk86 : ∀ (v1 : Int32) (y : DY), Go mX12_takeBack d S wSV 86 [some (.ref p0), some (.int v1)] [] y (bk86 v1 y)) : Go mX12_takeBack d S wSV 86 [some (.ref p0), some (.int p1)] [] x (lp_X12_takeBack_86_b N S k124 bk86 p0 p1 x) := by
  unfold lp_X12_takeBack_86_b
  refine go1 (M := mX12_takeBack) (pc' := 87) (r_iload_n (M := mX12_takeBack) (i := 1) rfl dX12_takeBack_86) ?_
  refine go1 (M := mX12_takeBack) (pc' := 88) (r_aload_n (M := mX12_takeBack) (i := 0) rfl dX12_takeBack_87) ?_
  refine go1 (M := mX12_takeBack) (pc' := 91) (r_getI (M := mX12_takeBack) fl_12_211 g0 rfl dX12_takeBack_88) ?_
  refine go_br (M := mX12_takeBack) (pt := 124) (pf := 94) (fun kt kf => r_icmp_ge (M := mX12_takeBack) dX12_takeBack_91 (by decide) kt kf) (fun hc24 => ?_) (fun hc24 => ?_)
  · refine go_drop (ls' := [some (.ref p0), none]) (And.intro rfl trivial) ?_
    exact hk124 x
  · refine go1 (M := mX12_takeBack) (pc' := 95) (r_aload_n (M := mX12_takeBack) (i := 0) rfl dX12_takeBack_94) ?_
    refine go1 (M := mX12_takeBack) (pc' := 98) (r_getR (M := mX12_takeBack) fl_12_47 g0 rfl (wt_some hW g0 (by decide) (by decide) rfl) dX12_takeBack_95) ?_
    have hT25 : TY S (pr S p0 13) 14 := wt hW g0 (by decide) (by decide) rfl (by decide)
    refine go1 (M := mX12_takeBack) (pc' := 99) (r_iload_n (M := mX12_takeBack) (i := 1) rfl dX12_takeBack_98) ?_
    refine go1 (M := mX12_takeBack) (pc' := 100) (r_aload_n (M := mX12_takeBack) (i := 0) rfl dX12_takeBack_99) ?_
    refine go1 (M := mX12_takeBack) (pc' := 103) (r_getR (M := mX12_takeBack) fl_12_163 g0 rfl (wt_some hW g0 (by decide) (by decide) rfl) dX12_takeBack_100) ?_
    have hT26 : TY S (pr S p0 51) 14 := wt hW g0 (by decide) (by decide) rfl (by decide)
    refine go1 (M := mX12_takeBack) (pc' := 104) (r_iload_n (M := mX12_takeBack) (i := 1) rfl dX12_takeBack_103) ?_
    refine go_ck (fun hi27 => ?_)
    refine go1 (M := mX12_takeBack) (pc' := 105) (r_iald (M := mX12_takeBack) hT26 hi27 dX12_takeBack_104) ?_
    refine go_ck (fun hi28 => ?_)
    refine go1 (M := mX12_takeBack) (pc' := 106) (r_iast (M := mX12_takeBack) hT25 hi28 dX12_takeBack_105) ?_
    refine go_blx (fun x29 => ?_)
    refine go1 (M := mX12_takeBack) (pc' := 107) (r_aload_n (M := mX12_takeBack) (i := 0) rfl dX12_takeBack_106) ?_
    refine go1 (M := mX12_takeBack) (pc' := 110) (r_getR (M := mX12_takeBack) fl_12_50 g0 rfl (wt_some hW g0 (by decide) (by decide) rfl) dX12_takeBack_107) ?_
    have hT30 : TY S (pr S p0 14) 14 := wt hW g0 (by decide) (by decide) rfl (by decide)
    refine go1 (M := mX12_takeBack) (pc' := 111) (r_iload_n (M := mX12_takeBack) (i := 1) rfl dX12_takeBack_110) ?_
    refine go1 (M := mX12_takeBack) (pc' := 112) (r_aload_n (M := mX12_takeBack) (i := 0) rfl dX12_takeBack_111) ?_
    refine go1 (M := mX12_takeBack) (pc' := 115) (r_getR (M := mX12_takeBack) fl_12_166 g0 rfl (wt_some hW g0 (by decide) (by decide) rfl) dX12_takeBack_112) ?_
    have hT31 : TY S (pr S p0 52) 14 := wt hW g0 (by decide) (by decide) rfl (by decide)
    refine go1 (M := mX12_takeBack) (pc' := 116) (r_iload_n (M := mX12_takeBack) (i := 1) rfl dX12_takeBack_115) ?_
    refine go_ck (fun hi32 => ?_)
    refine go1 (M := mX12_takeBack) (pc' := 117) (r_iald (M := mX12_takeBack) hT31 hi32 dX12_takeBack_116) ?_
    refine go_ck (fun hi33 => ?_)
    refine go1 (M := mX12_takeBack) (pc' := 118) (r_iast (M := mX12_takeBack) hT30 hi33 dX12_takeBack_117) ?_
    refine go_blx (fun x34 => ?_)
    refine go1 (M := mX12_takeBack) (pc' := 121) (ls' := [some (.ref p0), some (.int (p1 + 1))]) (r_iinc (M := mX12_takeBack) (ls := [some (.ref p0), some (.int p1)]) (i := 1) (v := p1) (c' := 1) (by decide) rfl (by decide) rfl dX12_takeBack_118) ?_
    refine go1 (M := mX12_takeBack) (pc' := 86) (r_goto (M := mX12_takeBack) dX12_takeBack_121 (by decide)) ?_
    exact hbk86 (p1 + 1) x34
def lp_X12_takeBack_86 (N : Nat) (S : SH) (k124 : DY → Option DY) (p0 : Nat) (p1 : Int32) (x : DY) : Option DY :=
  itr (fun back (v : Int32 × DY) => lp_X12_takeBack_86_b N S k124 (fun p1 y => back (p1, y)) p0 v.1 v.2) N (p1, x)
theorem lp_X12_takeBack_86_t {N d : Nat} {S : SH} (hW : WT S) (hd : 1 ≤ d) (k124 : DY → Option DY) (p0 : Nat) (p1 : Int32) (x : DY) (g0 : TY S p0 12) (hk124 : ∀ (y : DY), Go mX12_takeBack d S wSV 124 [some (.ref p0), none] [] y (k124 y)) : Go mX12_takeBack d S wSV 86 [some (.ref p0), some (.int p1)] [] x (lp_X12_takeBack_86 N S k124 p0 p1 x) := by
  unfold lp_X12_takeBack_86
  exact go_itr (L := fun (v : Int32 × DY) => [some (.ref p0), some (.int v.1)]) (X := fun (v : Int32 × DY) => v.2) (fun back hB v => lp_X12_takeBack_86_b_t (N := N) hW hd k124 (fun p1 y => back (p1, y)) p0 v.1 v.2 g0 hk124 (fun p1 y => hB (p1, y)) ) N (p1, x)
def lp_X12_takeBack_126_b (N : Nat) (S : SH) (k152 : DY → Option DY) (bk126 : Int32 → DY → Option DY) (p0 : Nat) (p1 : Int32) (x : DY) : Option DY :=
  (if (x.1 p0 17) ≤ p1 then k152 x else ck S (pr S p0 53) p1 (ck S (pr S p0 15) p1 (bl (U1 x (pr S p0 15) p1.toNatClampNeg (x.1 (pr S p0 53) p1.toNatClampNeg)) (fun x42 => bk126 (p1 + 1) x42))))
set_option maxHeartbeats 1000000 in
theorem lp_X12_takeBack_126_b_t {N d : Nat} {S : SH} (hW : WT S) (hd : 1 ≤ d) (k152 : DY → Option DY) (bk126 : Int32 → DY → Option DY) (p0 : Nat) (p1 : Int32) (x : DY) (g0 : TY S p0 12) (hk152 : ∀ (y : DY), Go mX12_takeBack d S wSV 152 [some (.ref p0), none] [] y (k152 y)) (hbk126 : ∀ (v1 : Int32) (y : DY), Go mX12_takeBack d S wSV 126 [some (.ref p0), some (.int v1)] [] y (bk126 v1 y)) : Go mX12_takeBack d S wSV 126 [some (.ref p0), some (.int p1)] [] x (lp_X12_takeBack_126_b N S k152 bk126 p0 p1 x) := by
  unfold lp_X12_takeBack_126_b
  refine go1 (M := mX12_takeBack) (pc' := 127) (r_iload_n (M := mX12_takeBack) (i := 1) rfl dX12_takeBack_126) ?_
  refine go1 (M := mX12_takeBack) (pc' := 128) (r_aload_n (M := mX12_takeBack) (i := 0) rfl dX12_takeBack_127) ?_
  refine go1 (M := mX12_takeBack) (pc' := 131) (r_getI (M := mX12_takeBack) fl_12_59 g0 rfl dX12_takeBack_128) ?_
  refine go_br (M := mX12_takeBack) (pt := 152) (pf := 134) (fun kt kf => r_icmp_ge (M := mX12_takeBack) dX12_takeBack_131 (by decide) kt kf) (fun hc37 => ?_) (fun hc37 => ?_)
  · refine go_drop (ls' := [some (.ref p0), none]) (And.intro rfl trivial) ?_
    exact hk152 x
  · refine go1 (M := mX12_takeBack) (pc' := 135) (r_aload_n (M := mX12_takeBack) (i := 0) rfl dX12_takeBack_134) ?_
    refine go1 (M := mX12_takeBack) (pc' := 138) (r_getR (M := mX12_takeBack) fl_12_53 g0 rfl (wt_some hW g0 (by decide) (by decide) rfl) dX12_takeBack_135) ?_
    have hT38 : TY S (pr S p0 15) 14 := wt hW g0 (by decide) (by decide) rfl (by decide)
    refine go1 (M := mX12_takeBack) (pc' := 139) (r_iload_n (M := mX12_takeBack) (i := 1) rfl dX12_takeBack_138) ?_
    refine go1 (M := mX12_takeBack) (pc' := 140) (r_aload_n (M := mX12_takeBack) (i := 0) rfl dX12_takeBack_139) ?_
    refine go1 (M := mX12_takeBack) (pc' := 143) (r_getR (M := mX12_takeBack) fl_12_169 g0 rfl (wt_some hW g0 (by decide) (by decide) rfl) dX12_takeBack_140) ?_
    have hT39 : TY S (pr S p0 53) 14 := wt hW g0 (by decide) (by decide) rfl (by decide)
    refine go1 (M := mX12_takeBack) (pc' := 144) (r_iload_n (M := mX12_takeBack) (i := 1) rfl dX12_takeBack_143) ?_
    refine go_ck (fun hi40 => ?_)
    refine go1 (M := mX12_takeBack) (pc' := 145) (r_iald (M := mX12_takeBack) hT39 hi40 dX12_takeBack_144) ?_
    refine go_ck (fun hi41 => ?_)
    refine go1 (M := mX12_takeBack) (pc' := 146) (r_iast (M := mX12_takeBack) hT38 hi41 dX12_takeBack_145) ?_
    refine go_blx (fun x42 => ?_)
    refine go1 (M := mX12_takeBack) (pc' := 149) (ls' := [some (.ref p0), some (.int (p1 + 1))]) (r_iinc (M := mX12_takeBack) (ls := [some (.ref p0), some (.int p1)]) (i := 1) (v := p1) (c' := 1) (by decide) rfl (by decide) rfl dX12_takeBack_146) ?_
    refine go1 (M := mX12_takeBack) (pc' := 126) (r_goto (M := mX12_takeBack) dX12_takeBack_149 (by decide)) ?_
    exact hbk126 (p1 + 1) x42
def lp_X12_takeBack_126 (N : Nat) (S : SH) (k152 : DY → Option DY) (p0 : Nat) (p1 : Int32) (x : DY) : Option DY :=
  itr (fun back (v : Int32 × DY) => lp_X12_takeBack_126_b N S k152 (fun p1 y => back (p1, y)) p0 v.1 v.2) N (p1, x)
theorem lp_X12_takeBack_126_t {N d : Nat} {S : SH} (hW : WT S) (hd : 1 ≤ d) (k152 : DY → Option DY) (p0 : Nat) (p1 : Int32) (x : DY) (g0 : TY S p0 12) (hk152 : ∀ (y : DY), Go mX12_takeBack d S wSV 152 [some (.ref p0), none] [] y (k152 y)) : Go mX12_takeBack d S wSV 126 [some (.ref p0), some (.int p1)] [] x (lp_X12_takeBack_126 N S k152 p0 p1 x) := by
  unfold lp_X12_takeBack_126
  exact go_itr (L := fun (v : Int32 × DY) => [some (.ref p0), some (.int v.1)]) (X := fun (v : Int32 × DY) => v.2) (fun back hB v => lp_X12_takeBack_126_b_t (N := N) hW hd k152 (fun p1 y => back (p1, y)) p0 v.1 v.2 g0 hk152 (fun p1 y => hB (p1, y)) ) N (p1, x)
def lp_X12_takeBack_154_b (N : Nat) (S : SH) (bk154 : Int32 → DY → Option DY) (p0 : Nat) (p1 : Int32) (x : DY) : Option DY :=
  (if (x.1 p0 18) ≤ p1 then some x else ck S (pr S p0 55) p1 (ck S (pr S p0 26) p1 (bl (U1 x (pr S p0 26) p1.toNatClampNeg (vp_nar .boolean (x.1 (pr S p0 55) p1.toNatClampNeg))) (fun x50 => ck S (pr S p0 54) (5 * p1) (ck S (pr S p0 21) p1 (bl (U1 x50 (pr S p0 21) p1.toNatClampNeg (x50.1 (pr S p0 54) (5 * p1).toNatClampNeg)) (fun x55 => ck S (pr S p0 54) ((5 * p1) + 1) (ck S (pr S p0 22) p1 (bl (U1 x55 (pr S p0 22) p1.toNatClampNeg (x55.1 (pr S p0 54) ((5 * p1) + 1).toNatClampNeg)) (fun x59 => ck S (pr S p0 54) ((5 * p1) + 2) (ck S (pr S p0 23) p1 (bl (U1 x59 (pr S p0 23) p1.toNatClampNeg (x59.1 (pr S p0 54) ((5 * p1) + 2).toNatClampNeg)) (fun x63 => ck S (pr S p0 54) ((5 * p1) + 3) (ck S (pr S p0 24) p1 (bl (U1 x63 (pr S p0 24) p1.toNatClampNeg (x63.1 (pr S p0 54) ((5 * p1) + 3).toNatClampNeg)) (fun x67 => bk154 (p1 + 1) x67))))))))))))))))
set_option maxHeartbeats 1000000 in
theorem lp_X12_takeBack_154_b_t {N d : Nat} {S : SH} (hW : WT S) (hd : 1 ≤ d) (bk154 : Int32 → DY → Option DY) (p0 : Nat) (p1 : Int32) (x : DY) (g0 : TY S p0 12) (hbk154 : ∀ (v1 : Int32) (y : DY), Go mX12_takeBack d S wSV 154 [some (.ref p0), some (.int v1)] [] y (bk154 v1 y)) : Go mX12_takeBack d S wSV 154 [some (.ref p0), some (.int p1)] [] x (lp_X12_takeBack_154_b N S bk154 p0 p1 x) := by
  unfold lp_X12_takeBack_154_b
  refine go1 (M := mX12_takeBack) (pc' := 155) (r_iload_n (M := mX12_takeBack) (i := 1) rfl dX12_takeBack_154) ?_
  refine go1 (M := mX12_takeBack) (pc' := 156) (r_aload_n (M := mX12_takeBack) (i := 0) rfl dX12_takeBack_155) ?_
  refine go1 (M := mX12_takeBack) (pc' := 159) (r_getI (M := mX12_takeBack) fl_12_62 g0 rfl dX12_takeBack_156) ?_
  refine go_br (M := mX12_takeBack) (pt := 242) (pf := 162) (fun kt kf => r_icmp_ge (M := mX12_takeBack) dX12_takeBack_159 (by decide) kt kf) (fun hc45 => ?_) (fun hc45 => ?_)
  · exact go_vret (M := mX12_takeBack) rfl rfl dX12_takeBack_242
  · refine go1 (M := mX12_takeBack) (pc' := 163) (r_aload_n (M := mX12_takeBack) (i := 0) rfl dX12_takeBack_162) ?_
    refine go1 (M := mX12_takeBack) (pc' := 166) (r_getR (M := mX12_takeBack) fl_12_86 g0 rfl (wt_some hW g0 (by decide) (by decide) rfl) dX12_takeBack_163) ?_
    have hT46 : TY S (pr S p0 26) 15 := wt hW g0 (by decide) (by decide) rfl (by decide)
    refine go1 (M := mX12_takeBack) (pc' := 167) (r_iload_n (M := mX12_takeBack) (i := 1) rfl dX12_takeBack_166) ?_
    refine go1 (M := mX12_takeBack) (pc' := 168) (r_aload_n (M := mX12_takeBack) (i := 0) rfl dX12_takeBack_167) ?_
    refine go1 (M := mX12_takeBack) (pc' := 171) (r_getR (M := mX12_takeBack) fl_12_175 g0 rfl (wt_some hW g0 (by decide) (by decide) rfl) dX12_takeBack_168) ?_
    have hT47 : TY S (pr S p0 55) 15 := wt hW g0 (by decide) (by decide) rfl (by decide)
    refine go1 (M := mX12_takeBack) (pc' := 172) (r_iload_n (M := mX12_takeBack) (i := 1) rfl dX12_takeBack_171) ?_
    refine go_ck (fun hi48 => ?_)
    refine go1 (M := mX12_takeBack) (pc' := 173) (r_zald (M := mX12_takeBack) hT47 hi48 dX12_takeBack_172) ?_
    refine go_ck (fun hi49 => ?_)
    refine go1 (M := mX12_takeBack) (pc' := 174) (r_zast (M := mX12_takeBack) hT46 hi49 dX12_takeBack_173) ?_
    refine go_blx (fun x50 => ?_)
    refine go1 (M := mX12_takeBack) (pc' := 175) (r_aload_n (M := mX12_takeBack) (i := 0) rfl dX12_takeBack_174) ?_
    refine go1 (M := mX12_takeBack) (pc' := 178) (r_getR (M := mX12_takeBack) fl_12_71 g0 rfl (wt_some hW g0 (by decide) (by decide) rfl) dX12_takeBack_175) ?_
    have hT51 : TY S (pr S p0 21) 14 := wt hW g0 (by decide) (by decide) rfl (by decide)
    refine go1 (M := mX12_takeBack) (pc' := 179) (r_iload_n (M := mX12_takeBack) (i := 1) rfl dX12_takeBack_178) ?_
    refine go1 (M := mX12_takeBack) (pc' := 180) (r_aload_n (M := mX12_takeBack) (i := 0) rfl dX12_takeBack_179) ?_
    refine go1 (M := mX12_takeBack) (pc' := 183) (r_getR (M := mX12_takeBack) fl_12_172 g0 rfl (wt_some hW g0 (by decide) (by decide) rfl) dX12_takeBack_180) ?_
    have hT52 : TY S (pr S p0 54) 14 := wt hW g0 (by decide) (by decide) rfl (by decide)
    refine go1 (M := mX12_takeBack) (pc' := 184) (r_iconst (M := mX12_takeBack) (v := 5) (by decide) dX12_takeBack_183) ?_
    refine go1 (M := mX12_takeBack) (pc' := 185) (r_iload_n (M := mX12_takeBack) (i := 1) rfl dX12_takeBack_184) ?_
    refine go1 (M := mX12_takeBack) (pc' := 186) (r_imul (M := mX12_takeBack) dX12_takeBack_185) ?_
    refine go_ck (fun hi53 => ?_)
    refine go1 (M := mX12_takeBack) (pc' := 187) (r_iald (M := mX12_takeBack) hT52 hi53 dX12_takeBack_186) ?_
    refine go_ck (fun hi54 => ?_)
    refine go1 (M := mX12_takeBack) (pc' := 188) (r_iast (M := mX12_takeBack) hT51 hi54 dX12_takeBack_187) ?_
    refine go_blx (fun x55 => ?_)
    refine go1 (M := mX12_takeBack) (pc' := 189) (r_aload_n (M := mX12_takeBack) (i := 0) rfl dX12_takeBack_188) ?_
    refine go1 (M := mX12_takeBack) (pc' := 192) (r_getR (M := mX12_takeBack) fl_12_74 g0 rfl (wt_some hW g0 (by decide) (by decide) rfl) dX12_takeBack_189) ?_
    have hT56 : TY S (pr S p0 22) 14 := wt hW g0 (by decide) (by decide) rfl (by decide)
    refine go1 (M := mX12_takeBack) (pc' := 193) (r_iload_n (M := mX12_takeBack) (i := 1) rfl dX12_takeBack_192) ?_
    refine go1 (M := mX12_takeBack) (pc' := 194) (r_aload_n (M := mX12_takeBack) (i := 0) rfl dX12_takeBack_193) ?_
    refine go1 (M := mX12_takeBack) (pc' := 197) (r_getR (M := mX12_takeBack) fl_12_172 g0 rfl (wt_some hW g0 (by decide) (by decide) rfl) dX12_takeBack_194) ?_
    refine go1 (M := mX12_takeBack) (pc' := 198) (r_iconst (M := mX12_takeBack) (v := 5) (by decide) dX12_takeBack_197) ?_
    refine go1 (M := mX12_takeBack) (pc' := 199) (r_iload_n (M := mX12_takeBack) (i := 1) rfl dX12_takeBack_198) ?_
    refine go1 (M := mX12_takeBack) (pc' := 200) (r_imul (M := mX12_takeBack) dX12_takeBack_199) ?_
    refine go1 (M := mX12_takeBack) (pc' := 201) (r_iconst (M := mX12_takeBack) (v := 1) (by decide) dX12_takeBack_200) ?_
    refine go1 (M := mX12_takeBack) (pc' := 202) (r_iadd (M := mX12_takeBack) dX12_takeBack_201) ?_
    refine go_ck (fun hi57 => ?_)
    refine go1 (M := mX12_takeBack) (pc' := 203) (r_iald (M := mX12_takeBack) hT52 hi57 dX12_takeBack_202) ?_
    refine go_ck (fun hi58 => ?_)
    refine go1 (M := mX12_takeBack) (pc' := 204) (r_iast (M := mX12_takeBack) hT56 hi58 dX12_takeBack_203) ?_
    refine go_blx (fun x59 => ?_)
    refine go1 (M := mX12_takeBack) (pc' := 205) (r_aload_n (M := mX12_takeBack) (i := 0) rfl dX12_takeBack_204) ?_
    refine go1 (M := mX12_takeBack) (pc' := 208) (r_getR (M := mX12_takeBack) fl_12_77 g0 rfl (wt_some hW g0 (by decide) (by decide) rfl) dX12_takeBack_205) ?_
    have hT60 : TY S (pr S p0 23) 14 := wt hW g0 (by decide) (by decide) rfl (by decide)
    refine go1 (M := mX12_takeBack) (pc' := 209) (r_iload_n (M := mX12_takeBack) (i := 1) rfl dX12_takeBack_208) ?_
    refine go1 (M := mX12_takeBack) (pc' := 210) (r_aload_n (M := mX12_takeBack) (i := 0) rfl dX12_takeBack_209) ?_
    refine go1 (M := mX12_takeBack) (pc' := 213) (r_getR (M := mX12_takeBack) fl_12_172 g0 rfl (wt_some hW g0 (by decide) (by decide) rfl) dX12_takeBack_210) ?_
    refine go1 (M := mX12_takeBack) (pc' := 214) (r_iconst (M := mX12_takeBack) (v := 5) (by decide) dX12_takeBack_213) ?_
    refine go1 (M := mX12_takeBack) (pc' := 215) (r_iload_n (M := mX12_takeBack) (i := 1) rfl dX12_takeBack_214) ?_
    refine go1 (M := mX12_takeBack) (pc' := 216) (r_imul (M := mX12_takeBack) dX12_takeBack_215) ?_
    refine go1 (M := mX12_takeBack) (pc' := 217) (r_iconst (M := mX12_takeBack) (v := 2) (by decide) dX12_takeBack_216) ?_
    refine go1 (M := mX12_takeBack) (pc' := 218) (r_iadd (M := mX12_takeBack) dX12_takeBack_217) ?_
    refine go_ck (fun hi61 => ?_)
    refine go1 (M := mX12_takeBack) (pc' := 219) (r_iald (M := mX12_takeBack) hT52 hi61 dX12_takeBack_218) ?_
    refine go_ck (fun hi62 => ?_)
    refine go1 (M := mX12_takeBack) (pc' := 220) (r_iast (M := mX12_takeBack) hT60 hi62 dX12_takeBack_219) ?_
    refine go_blx (fun x63 => ?_)
    refine go1 (M := mX12_takeBack) (pc' := 221) (r_aload_n (M := mX12_takeBack) (i := 0) rfl dX12_takeBack_220) ?_
    refine go1 (M := mX12_takeBack) (pc' := 224) (r_getR (M := mX12_takeBack) fl_12_80 g0 rfl (wt_some hW g0 (by decide) (by decide) rfl) dX12_takeBack_221) ?_
    have hT64 : TY S (pr S p0 24) 14 := wt hW g0 (by decide) (by decide) rfl (by decide)
    refine go1 (M := mX12_takeBack) (pc' := 225) (r_iload_n (M := mX12_takeBack) (i := 1) rfl dX12_takeBack_224) ?_
    refine go1 (M := mX12_takeBack) (pc' := 226) (r_aload_n (M := mX12_takeBack) (i := 0) rfl dX12_takeBack_225) ?_
    refine go1 (M := mX12_takeBack) (pc' := 229) (r_getR (M := mX12_takeBack) fl_12_172 g0 rfl (wt_some hW g0 (by decide) (by decide) rfl) dX12_takeBack_226) ?_
    refine go1 (M := mX12_takeBack) (pc' := 230) (r_iconst (M := mX12_takeBack) (v := 5) (by decide) dX12_takeBack_229) ?_
    refine go1 (M := mX12_takeBack) (pc' := 231) (r_iload_n (M := mX12_takeBack) (i := 1) rfl dX12_takeBack_230) ?_
    refine go1 (M := mX12_takeBack) (pc' := 232) (r_imul (M := mX12_takeBack) dX12_takeBack_231) ?_
    refine go1 (M := mX12_takeBack) (pc' := 233) (r_iconst (M := mX12_takeBack) (v := 3) (by decide) dX12_takeBack_232) ?_
    refine go1 (M := mX12_takeBack) (pc' := 234) (r_iadd (M := mX12_takeBack) dX12_takeBack_233) ?_
    refine go_ck (fun hi65 => ?_)
    refine go1 (M := mX12_takeBack) (pc' := 235) (r_iald (M := mX12_takeBack) hT52 hi65 dX12_takeBack_234) ?_
    refine go_ck (fun hi66 => ?_)
    refine go1 (M := mX12_takeBack) (pc' := 236) (r_iast (M := mX12_takeBack) hT64 hi66 dX12_takeBack_235) ?_
    refine go_blx (fun x67 => ?_)
    refine go1 (M := mX12_takeBack) (pc' := 239) (ls' := [some (.ref p0), some (.int (p1 + 1))]) (r_iinc (M := mX12_takeBack) (ls := [some (.ref p0), some (.int p1)]) (i := 1) (v := p1) (c' := 1) (by decide) rfl (by decide) rfl dX12_takeBack_236) ?_
    refine go1 (M := mX12_takeBack) (pc' := 154) (r_goto (M := mX12_takeBack) dX12_takeBack_239 (by decide)) ?_
    exact hbk154 (p1 + 1) x67
def lp_X12_takeBack_154 (N : Nat) (S : SH) (p0 : Nat) (p1 : Int32) (x : DY) : Option DY :=
  itr (fun back (v : Int32 × DY) => lp_X12_takeBack_154_b N S (fun p1 y => back (p1, y)) p0 v.1 v.2) N (p1, x)
theorem lp_X12_takeBack_154_t {N d : Nat} {S : SH} (hW : WT S) (hd : 1 ≤ d) (p0 : Nat) (p1 : Int32) (x : DY) (g0 : TY S p0 12) : Go mX12_takeBack d S wSV 154 [some (.ref p0), some (.int p1)] [] x (lp_X12_takeBack_154 N S p0 p1 x) := by
  unfold lp_X12_takeBack_154
  exact go_itr (L := fun (v : Int32 × DY) => [some (.ref p0), some (.int v.1)]) (X := fun (v : Int32 × DY) => v.2) (fun back hB v => lp_X12_takeBack_154_b_t (N := N) hW hd (fun p1 y => back (p1, y)) p0 v.1 v.2 g0 (fun p1 y => hB (p1, y)) ) N (p1, x)
def f_X12_takeBack (N : Nat) (S : SH) (a0 : Nat) (x : DY) : Option DY :=
  bl (U1 x a0 1 (x.1 a0 56)) (fun x1 => bl (U1 x1 a0 2 (x1.1 a0 57)) (fun x2 => bl (U1 x2 a0 3 (x2.1 a0 58)) (fun x3 => bl (U1 x3 a0 17 (x3.1 a0 59)) (fun x4 => lp_X12_takeBack_34 N S (fun y21 => lp_X12_takeBack_86 N S (fun y34 => lp_X12_takeBack_126 N S (fun y42 => lp_X12_takeBack_154 N S a0 0 y42) a0 0 y34) a0 0 y21) a0 0 x4))))
set_option maxHeartbeats 1000000 in
theorem t_X12_takeBack {N d : Nat} {S : SH} (hW : WT S) {x : DY} {a0 : Nat} (hd : 1 ≤ d) (h0 : TY S a0 12) : CT mX12_takeBack d S [.ref a0] x wSV (f_X12_takeBack N S a0 x) := by
  refine CT.of [some (.ref a0), none] rfl (Nat.le_of_ble_eq_true rfl) (by decide +kernel) ?_
  unfold f_X12_takeBack
  refine go1 (M := mX12_takeBack) (pc' := 1) (r_aload_n (M := mX12_takeBack) (i := 0) rfl dX12_takeBack_0) ?_
  refine go1 (M := mX12_takeBack) (pc' := 2) (r_aload_n (M := mX12_takeBack) (i := 0) rfl dX12_takeBack_1) ?_
  refine go1 (M := mX12_takeBack) (pc' := 5) (r_getI (M := mX12_takeBack) fl_12_178 h0 rfl dX12_takeBack_2) ?_
  refine go1 (M := mX12_takeBack) (pc' := 8) (r_putI (M := mX12_takeBack) fl_12_7 h0 rfl rfl dX12_takeBack_5) ?_
  refine go_blx (fun x1 => ?_)
  refine go1 (M := mX12_takeBack) (pc' := 9) (r_aload_n (M := mX12_takeBack) (i := 0) rfl dX12_takeBack_8) ?_
  refine go1 (M := mX12_takeBack) (pc' := 10) (r_aload_n (M := mX12_takeBack) (i := 0) rfl dX12_takeBack_9) ?_
  refine go1 (M := mX12_takeBack) (pc' := 13) (r_getI (M := mX12_takeBack) fl_12_181 h0 rfl dX12_takeBack_10) ?_
  refine go1 (M := mX12_takeBack) (pc' := 16) (r_putI (M := mX12_takeBack) fl_12_13 h0 rfl rfl dX12_takeBack_13) ?_
  refine go_blx (fun x2 => ?_)
  refine go1 (M := mX12_takeBack) (pc' := 17) (r_aload_n (M := mX12_takeBack) (i := 0) rfl dX12_takeBack_16) ?_
  refine go1 (M := mX12_takeBack) (pc' := 18) (r_aload_n (M := mX12_takeBack) (i := 0) rfl dX12_takeBack_17) ?_
  refine go1 (M := mX12_takeBack) (pc' := 21) (r_getI (M := mX12_takeBack) fl_12_184 h0 rfl dX12_takeBack_18) ?_
  refine go1 (M := mX12_takeBack) (pc' := 24) (r_putI (M := mX12_takeBack) fl_12_16 h0 rfl rfl dX12_takeBack_21) ?_
  refine go_blx (fun x3 => ?_)
  refine go1 (M := mX12_takeBack) (pc' := 25) (r_aload_n (M := mX12_takeBack) (i := 0) rfl dX12_takeBack_24) ?_
  refine go1 (M := mX12_takeBack) (pc' := 26) (r_aload_n (M := mX12_takeBack) (i := 0) rfl dX12_takeBack_25) ?_
  refine go1 (M := mX12_takeBack) (pc' := 29) (r_getI (M := mX12_takeBack) fl_12_187 h0 rfl dX12_takeBack_26) ?_
  refine go1 (M := mX12_takeBack) (pc' := 32) (r_putI (M := mX12_takeBack) fl_12_59 h0 rfl rfl dX12_takeBack_29) ?_
  refine go_blx (fun x4 => ?_)
  refine go1 (M := mX12_takeBack) (pc' := 33) (r_iconst (M := mX12_takeBack) (v := 0) (by decide) dX12_takeBack_32) ?_
  refine go1 (M := mX12_takeBack) (pc' := 34) (ls' := [some (.ref a0), some (.int 0)]) (r_istore_n (M := mX12_takeBack) (ls := [some (.ref a0), none]) (i := 1) (v := 0) (by decide) rfl dX12_takeBack_33) ?_
  refine lp_X12_takeBack_34_t (N := N) hW (by omega) _ a0 0 x4 h0 ?_
  · intro y21
    refine go1 (M := mX12_takeBack) (pc' := 85) (r_iconst (M := mX12_takeBack) (v := 0) (by decide) dX12_takeBack_84) ?_
    refine go1 (M := mX12_takeBack) (pc' := 86) (ls' := [some (.ref a0), some (.int 0)]) (r_istore_n (M := mX12_takeBack) (ls := [some (.ref a0), none]) (i := 1) (v := 0) (by decide) rfl dX12_takeBack_85) ?_
    refine lp_X12_takeBack_86_t (N := N) hW (by omega) _ a0 0 y21 h0 ?_
    · intro y34
      refine go1 (M := mX12_takeBack) (pc' := 125) (r_iconst (M := mX12_takeBack) (v := 0) (by decide) dX12_takeBack_124) ?_
      refine go1 (M := mX12_takeBack) (pc' := 126) (ls' := [some (.ref a0), some (.int 0)]) (r_istore_n (M := mX12_takeBack) (ls := [some (.ref a0), none]) (i := 1) (v := 0) (by decide) rfl dX12_takeBack_125) ?_
      refine lp_X12_takeBack_126_t (N := N) hW (by omega) _ a0 0 y34 h0 ?_
      · intro y42
        refine go1 (M := mX12_takeBack) (pc' := 153) (r_iconst (M := mX12_takeBack) (v := 0) (by decide) dX12_takeBack_152) ?_
        refine go1 (M := mX12_takeBack) (pc' := 154) (ls' := [some (.ref a0), some (.int 0)]) (r_istore_n (M := mX12_takeBack) (ls := [some (.ref a0), none]) (i := 1) (v := 0) (by decide) rfl dX12_takeBack_153) ?_
        refine lp_X12_takeBack_154_t (N := N) hW (by omega) a0 0 y42 h0
def lp_X12_choice_8_b (N : Nat) (S : SH) (bk8 : Int32 → Int32 → Option Int32) (p3 : Int32) (p4 : Int32) (p5 : Int32) (x : DY) : Option Int32 :=
  (if p5 ≤ p3 then some (p4 - p4 / 7 * 7) else bk8 (p4 / 7) (p5 + (-1)))
set_option maxHeartbeats 1000000 in
theorem lp_X12_choice_8_b_t {N d : Nat} {S : SH} (hW : WT S) (hd : 1 ≤ d) (bk8 : Int32 → Int32 → Option Int32) (p3 : Int32) (p4 : Int32) (p5 : Int32) (x : DY) (hbk8 : ∀ (v4 : Int32) (v5 : Int32), Go mX12_choice d S (wPI x) 8 [none, none, none, some (.int p3), some (.int v4), some (.int v5)] [] x (bk8 v4 v5)) : Go mX12_choice d S (wPI x) 8 [none, none, none, some (.int p3), some (.int p4), some (.int p5)] [] x (lp_X12_choice_8_b N S bk8 p3 p4 p5 x) := by
  unfold lp_X12_choice_8_b
  refine go1 (M := mX12_choice) (pc' := 10) (r_iload (M := mX12_choice) (i := 5) rfl dX12_choice_8) ?_
  refine go1 (M := mX12_choice) (pc' := 11) (r_iload_n (M := mX12_choice) (i := 3) rfl dX12_choice_10) ?_
  refine go_br (M := mX12_choice) (pt := 27) (pf := 14) (fun kt kf => r_icmp_le (M := mX12_choice) dX12_choice_11 (by decide) kt kf) (fun hc2 => ?_) (fun hc2 => ?_)
  · refine go1 (M := mX12_choice) (pc' := 29) (r_iload (M := mX12_choice) (i := 4) rfl dX12_choice_27) ?_
    refine go1 (M := mX12_choice) (pc' := 31) (r_bipush (M := mX12_choice) (v := 7) (by decide) dX12_choice_29) ?_
    refine go1 (M := mX12_choice) (pc' := 32) (r_irem (M := mX12_choice) (by decide) dX12_choice_31) ?_
    exact go_iret (M := mX12_choice) rfl rfl dX12_choice_32
  · refine go1 (M := mX12_choice) (pc' := 16) (r_iload (M := mX12_choice) (i := 4) rfl dX12_choice_14) ?_
    refine go1 (M := mX12_choice) (pc' := 18) (r_bipush (M := mX12_choice) (v := 7) (by decide) dX12_choice_16) ?_
    refine go1 (M := mX12_choice) (pc' := 19) (r_idiv (M := mX12_choice) (by decide) dX12_choice_18) ?_
    refine go1 (M := mX12_choice) (pc' := 21) (ls' := [none, none, none, some (.int p3), some (.int (p4 / 7)), some (.int p5)]) (r_istore (M := mX12_choice) (ls := [none, none, none, some (.int p3), some (.int p4), some (.int p5)]) (i := 4) (v := (p4 / 7)) (by decide) rfl dX12_choice_19) ?_
    refine go1 (M := mX12_choice) (pc' := 24) (ls' := [none, none, none, some (.int p3), some (.int (p4 / 7)), some (.int (p5 + (-1)))]) (r_iinc (M := mX12_choice) (ls := [none, none, none, some (.int p3), some (.int (p4 / 7)), some (.int p5)]) (i := 5) (v := p5) (c' := (-1)) (by decide) rfl (by decide) rfl dX12_choice_21) ?_
    refine go1 (M := mX12_choice) (pc' := 8) (r_goto (M := mX12_choice) dX12_choice_24 (by decide)) ?_
    exact hbk8 (p4 / 7) (p5 + (-1))
def lp_X12_choice_8 (N : Nat) (S : SH) (p3 : Int32) (p4 : Int32) (p5 : Int32) (x : DY) : Option Int32 :=
  itr (fun back (v : Int32 × Int32) => lp_X12_choice_8_b N S (fun p4 p5 => back (p4, p5)) p3 v.1 v.2 x) N (p4, p5)
theorem lp_X12_choice_8_t {N d : Nat} {S : SH} (hW : WT S) (hd : 1 ≤ d) (p3 : Int32) (p4 : Int32) (p5 : Int32) (x : DY) : Go mX12_choice d S (wPI x) 8 [none, none, none, some (.int p3), some (.int p4), some (.int p5)] [] x (lp_X12_choice_8 N S p3 p4 p5 x) := by
  unfold lp_X12_choice_8
  exact go_itr (L := fun (v : Int32 × Int32) => [none, none, none, some (.int p3), some (.int v.1), some (.int v.2)]) (X := fun (v : Int32 × Int32) => x) (fun back hB v => lp_X12_choice_8_b_t (N := N) hW hd (fun p4 p5 => back (p4, p5)) p3 v.1 v.2 x  (fun p4 p5 => hB (p4, p5)) ) N (p4, p5)
def f_X12_choice (N : Nat) (S : SH) (a0 : Nat) (a1 : Int32) (a2 : Int32) (a3 : Int32) (x : DY) : Option Int32 :=
  lp_X12_choice_8 N S a3 a1 (a2 - 1) x
set_option maxHeartbeats 1000000 in
theorem t_X12_choice {N d : Nat} {S : SH} (hW : WT S) {x : DY} {a0 : Nat} {a1 : Int32} {a2 : Int32} {a3 : Int32} (hd : 1 ≤ d) (h0 : TY S a0 12) : CT mX12_choice d S [.ref a0, .int a1, .int a2, .int a3] x (wPI x) (f_X12_choice N S a0 a1 a2 a3 x) := by
  refine CT.of [some (.ref a0), some (.int a1), some (.int a2), some (.int a3), none, none] rfl (Nat.le_of_ble_eq_true rfl) (by decide +kernel) ?_
  unfold f_X12_choice
  refine go1 (M := mX12_choice) (pc' := 1) (r_iload_n (M := mX12_choice) (i := 1) rfl dX12_choice_0) ?_
  refine go1 (M := mX12_choice) (pc' := 3) (ls' := [some (.ref a0), some (.int a1), some (.int a2), some (.int a3), some (.int a1), none]) (r_istore (M := mX12_choice) (ls := [some (.ref a0), some (.int a1), some (.int a2), some (.int a3), none, none]) (i := 4) (v := a1) (by decide) rfl dX12_choice_1) ?_
  refine go1 (M := mX12_choice) (pc' := 4) (r_iload_n (M := mX12_choice) (i := 2) rfl dX12_choice_3) ?_
  refine go1 (M := mX12_choice) (pc' := 5) (r_iconst (M := mX12_choice) (v := 1) (by decide) dX12_choice_4) ?_
  refine go1 (M := mX12_choice) (pc' := 6) (r_isub (M := mX12_choice) dX12_choice_5) ?_
  refine go1 (M := mX12_choice) (pc' := 8) (ls' := [some (.ref a0), some (.int a1), some (.int a2), some (.int a3), some (.int a1), some (.int (a2 - 1))]) (r_istore (M := mX12_choice) (ls := [some (.ref a0), some (.int a1), some (.int a2), some (.int a3), some (.int a1), none]) (i := 5) (v := (a2 - 1)) (by decide) rfl dX12_choice_6) ?_
  refine go_drop (ls' := [none, none, none, some (.int a3), some (.int a1), some (.int (a2 - 1))]) (And.intro rfl (And.intro rfl (And.intro rfl trivial))) ?_
  refine lp_X12_choice_8_t (N := N) hW (by omega) a3 a1 (a2 - 1) x
def lp_X12_lookAhead_5_b (N : Nat) (S : SH) (k22 : Int32 → Option DY) (bk5 : Int32 → Int32 → Option DY) (p0 : Nat) (p1 : Int32) (p2 : Int32) (p3 : Int32) (p4 : Int32) (x : DY) : Option DY :=
  (if p1 ≤ p4 then k22 p3 else bk5 (p3 * 7) (p4 + 1))
set_option maxHeartbeats 1000000 in
theorem lp_X12_lookAhead_5_b_t {N d : Nat} {S : SH} (hW : WT S) (hd : 1 ≤ d) (k22 : Int32 → Option DY) (bk5 : Int32 → Int32 → Option DY) (p0 : Nat) (p1 : Int32) (p2 : Int32) (p3 : Int32) (p4 : Int32) (x : DY) (g0 : TY S p0 12) (hk22 : ∀ (v3 : Int32), Go mX12_lookAhead d S wSV 22 [some (.ref p0), some (.int p1), some (.int p2), some (.int v3), none, none, none, none] [] x (k22 v3)) (hbk5 : ∀ (v3 : Int32) (v4 : Int32), Go mX12_lookAhead d S wSV 5 [some (.ref p0), some (.int p1), some (.int p2), some (.int v3), some (.int v4), none, none, none] [] x (bk5 v3 v4)) : Go mX12_lookAhead d S wSV 5 [some (.ref p0), some (.int p1), some (.int p2), some (.int p3), some (.int p4), none, none, none] [] x (lp_X12_lookAhead_5_b N S k22 bk5 p0 p1 p2 p3 p4 x) := by
  unfold lp_X12_lookAhead_5_b
  refine go1 (M := mX12_lookAhead) (pc' := 7) (r_iload (M := mX12_lookAhead) (i := 4) rfl dX12_lookAhead_5) ?_
  refine go1 (M := mX12_lookAhead) (pc' := 8) (r_iload_n (M := mX12_lookAhead) (i := 1) rfl dX12_lookAhead_7) ?_
  refine go_br (M := mX12_lookAhead) (pt := 22) (pf := 11) (fun kt kf => r_icmp_ge (M := mX12_lookAhead) dX12_lookAhead_8 (by decide) kt kf) (fun hc2 => ?_) (fun hc2 => ?_)
  · refine go_drop (ls' := [some (.ref p0), some (.int p1), some (.int p2), some (.int p3), none, none, none, none]) (And.intro rfl (And.intro rfl (And.intro rfl (And.intro rfl trivial)))) ?_
    exact hk22 p3
  · refine go1 (M := mX12_lookAhead) (pc' := 12) (r_iload_n (M := mX12_lookAhead) (i := 3) rfl dX12_lookAhead_11) ?_
    refine go1 (M := mX12_lookAhead) (pc' := 14) (r_bipush (M := mX12_lookAhead) (v := 7) (by decide) dX12_lookAhead_12) ?_
    refine go1 (M := mX12_lookAhead) (pc' := 15) (r_imul (M := mX12_lookAhead) dX12_lookAhead_14) ?_
    refine go1 (M := mX12_lookAhead) (pc' := 16) (ls' := [some (.ref p0), some (.int p1), some (.int p2), some (.int (p3 * 7)), some (.int p4), none, none, none]) (r_istore_n (M := mX12_lookAhead) (ls := [some (.ref p0), some (.int p1), some (.int p2), some (.int p3), some (.int p4), none, none, none]) (i := 3) (v := (p3 * 7)) (by decide) rfl dX12_lookAhead_15) ?_
    refine go1 (M := mX12_lookAhead) (pc' := 19) (ls' := [some (.ref p0), some (.int p1), some (.int p2), some (.int (p3 * 7)), some (.int (p4 + 1)), none, none, none]) (r_iinc (M := mX12_lookAhead) (ls := [some (.ref p0), some (.int p1), some (.int p2), some (.int (p3 * 7)), some (.int p4), none, none, none]) (i := 4) (v := p4) (c' := 1) (by decide) rfl (by decide) rfl dX12_lookAhead_16) ?_
    refine go1 (M := mX12_lookAhead) (pc' := 5) (r_goto (M := mX12_lookAhead) dX12_lookAhead_19 (by decide)) ?_
    exact hbk5 (p3 * 7) (p4 + 1)
def lp_X12_lookAhead_5 (N : Nat) (S : SH) (k22 : Int32 → Option DY) (p0 : Nat) (p1 : Int32) (p2 : Int32) (p3 : Int32) (p4 : Int32) (x : DY) : Option DY :=
  itr (fun back (v : Int32 × Int32) => lp_X12_lookAhead_5_b N S k22 (fun p3 p4 => back (p3, p4)) p0 p1 p2 v.1 v.2 x) N (p3, p4)
theorem lp_X12_lookAhead_5_t {N d : Nat} {S : SH} (hW : WT S) (hd : 1 ≤ d) (k22 : Int32 → Option DY) (p0 : Nat) (p1 : Int32) (p2 : Int32) (p3 : Int32) (p4 : Int32) (x : DY) (g0 : TY S p0 12) (hk22 : ∀ (v3 : Int32), Go mX12_lookAhead d S wSV 22 [some (.ref p0), some (.int p1), some (.int p2), some (.int v3), none, none, none, none] [] x (k22 v3)) : Go mX12_lookAhead d S wSV 5 [some (.ref p0), some (.int p1), some (.int p2), some (.int p3), some (.int p4), none, none, none] [] x (lp_X12_lookAhead_5 N S k22 p0 p1 p2 p3 p4 x) := by
  unfold lp_X12_lookAhead_5
  exact go_itr (L := fun (v : Int32 × Int32) => [some (.ref p0), some (.int p1), some (.int p2), some (.int v.1), some (.int v.2), none, none, none]) (X := fun (v : Int32 × Int32) => x) (fun back hB v => lp_X12_lookAhead_5_b_t (N := N) hW hd k22 (fun p3 p4 => back (p3, p4)) p0 p1 p2 v.1 v.2 x g0 hk22 (fun p3 p4 => hB (p3, p4)) ) N (p3, p4)
def j_X12_lookAhead_82 (N : Nat) (S : SH) (bk48 : Int32 → DY → Option DY) (p0 : Nat) (p1 : Int32) (p2 : Int32) (p3 : Int32) (p4 : Int32) (p5 : Int32) (q0 : Int32) (x : DY) : Option DY :=
  Option.bind (f_X12_goTick N S p0 x) (fun r13 => bk48 (p5 + 1) r13)
set_option maxHeartbeats 1000000 in
theorem j_X12_lookAhead_82_t {N d : Nat} {S : SH} (hW : WT S) (hd : 5 ≤ d) (bk48 : Int32 → DY → Option DY) (p0 : Nat) (p1 : Int32) (p2 : Int32) (p3 : Int32) (p4 : Int32) (p5 : Int32) (q0 : Int32) (x : DY) (g0 : TY S p0 12) (hbk48 : ∀ (v5 : Int32) (y : DY), Go mX12_lookAhead d S wSV 48 [some (.ref p0), some (.int p1), some (.int p2), some (.int p3), some (.int p4), some (.int v5), none, none] [] y (bk48 v5 y)) : Go mX12_lookAhead d S wSV 82 [some (.ref p0), some (.int p1), some (.int p2), some (.int p3), some (.int p4), some (.int p5), none, none] [.int q0] x (j_X12_lookAhead_82 N S bk48 p0 p1 p2 p3 p4 p5 q0 x) := by
  unfold j_X12_lookAhead_82
  refine go1 (M := mX12_lookAhead) (pc' := 84) (ls' := [some (.ref p0), some (.int p1), some (.int p2), some (.int p3), some (.int p4), some (.int p5), none, some (.int q0)]) (r_istore (M := mX12_lookAhead) (ls := [some (.ref p0), some (.int p1), some (.int p2), some (.int p3), some (.int p4), some (.int p5), none, none]) (i := 7) (v := q0) (by decide) rfl dX12_lookAhead_82) ?_
  refine go1 (M := mX12_lookAhead) (pc' := 85) (r_aload_n (M := mX12_lookAhead) (i := 0) rfl dX12_lookAhead_84) ?_
  refine go_V_SV (M := mX12_lookAhead) (pc' := 88) (st := []) (As := []) rfl ln_12_358 lb_X12_goTick (t_X12_goTick (N := N) hW (by omega) g0) (by omega) g0 (Nat.le_of_ble_eq_true rfl) rfl dX12_lookAhead_85 (fun r13 => ?_)
  refine go1 (M := mX12_lookAhead) (pc' := 91) (ls' := [some (.ref p0), some (.int p1), some (.int p2), some (.int p3), some (.int p4), some (.int (p5 + 1)), none, some (.int q0)]) (r_iinc (M := mX12_lookAhead) (ls := [some (.ref p0), some (.int p1), some (.int p2), some (.int p3), some (.int p4), some (.int p5), none, some (.int q0)]) (i := 5) (v := p5) (c' := 1) (by decide) rfl (by decide) rfl dX12_lookAhead_88) ?_
  refine go1 (M := mX12_lookAhead) (pc' := 48) (r_goto (M := mX12_lookAhead) dX12_lookAhead_91 (by decide)) ?_
  refine go_drop (ls' := [some (.ref p0), some (.int p1), some (.int p2), some (.int p3), some (.int p4), some (.int (p5 + 1)), none, none]) (And.intro rfl (And.intro rfl (And.intro rfl (And.intro rfl (And.intro rfl (And.intro rfl trivial)))))) ?_
  exact hbk48 (p5 + 1) r13
def lp_X12_lookAhead_48_b (N : Nat) (S : SH) (k94 : DY → Option DY) (bk48 : Int32 → DY → Option DY) (p0 : Nat) (p1 : Int32) (p2 : Int32) (p3 : Int32) (p4 : Int32) (p5 : Int32) (x : DY) : Option DY :=
  (if p1 ≤ p5 then k94 x else Option.bind (f_X12_choice N S p0 p4 p1 p5 x) (fun r11 => (if 6 ≤ r11 then j_X12_lookAhead_82 N S bk48 p0 p1 p2 p3 p4 p5 (-1) x else Option.bind (f_X12_lay N S p0 r11 x) (fun r14 => j_X12_lookAhead_82 N S bk48 p0 p1 p2 p3 p4 p5 r14.1 r14.2))))
set_option maxHeartbeats 1000000 in
theorem lp_X12_lookAhead_48_b_t {N d : Nat} {S : SH} (hW : WT S) (hd : 5 ≤ d) (k94 : DY → Option DY) (bk48 : Int32 → DY → Option DY) (p0 : Nat) (p1 : Int32) (p2 : Int32) (p3 : Int32) (p4 : Int32) (p5 : Int32) (x : DY) (g0 : TY S p0 12) (hk94 : ∀ (y : DY), Go mX12_lookAhead d S wSV 94 [some (.ref p0), some (.int p1), some (.int p2), some (.int p3), some (.int p4), none, none, none] [] y (k94 y)) (hbk48 : ∀ (v5 : Int32) (y : DY), Go mX12_lookAhead d S wSV 48 [some (.ref p0), some (.int p1), some (.int p2), some (.int p3), some (.int p4), some (.int v5), none, none] [] y (bk48 v5 y)) : Go mX12_lookAhead d S wSV 48 [some (.ref p0), some (.int p1), some (.int p2), some (.int p3), some (.int p4), some (.int p5), none, none] [] x (lp_X12_lookAhead_48_b N S k94 bk48 p0 p1 p2 p3 p4 p5 x) := by
  unfold lp_X12_lookAhead_48_b
  refine go1 (M := mX12_lookAhead) (pc' := 50) (r_iload (M := mX12_lookAhead) (i := 5) rfl dX12_lookAhead_48) ?_
  refine go1 (M := mX12_lookAhead) (pc' := 51) (r_iload_n (M := mX12_lookAhead) (i := 1) rfl dX12_lookAhead_50) ?_
  refine go_br (M := mX12_lookAhead) (pt := 94) (pf := 54) (fun kt kf => r_icmp_ge (M := mX12_lookAhead) dX12_lookAhead_51 (by decide) kt kf) (fun hc10 => ?_) (fun hc10 => ?_)
  · refine go_drop (ls' := [some (.ref p0), some (.int p1), some (.int p2), some (.int p3), some (.int p4), none, none, none]) (And.intro rfl (And.intro rfl (And.intro rfl (And.intro rfl (And.intro rfl trivial))))) ?_
    exact hk94 x
  · refine go1 (M := mX12_lookAhead) (pc' := 55) (r_aload_n (M := mX12_lookAhead) (i := 0) rfl dX12_lookAhead_54) ?_
    refine go1 (M := mX12_lookAhead) (pc' := 57) (r_iload (M := mX12_lookAhead) (i := 4) rfl dX12_lookAhead_55) ?_
    refine go1 (M := mX12_lookAhead) (pc' := 58) (r_iload_n (M := mX12_lookAhead) (i := 1) rfl dX12_lookAhead_57) ?_
    refine go1 (M := mX12_lookAhead) (pc' := 60) (r_iload (M := mX12_lookAhead) (i := 5) rfl dX12_lookAhead_58) ?_
    refine go_V_PI (M := mX12_lookAhead) (pc' := 63) (st := []) (As := [.int p4, .int p1, .int p5]) rfl ln_12_367 lb_X12_choice (t_X12_choice (N := N) hW (by omega) g0) (by omega) g0 (Nat.le_of_ble_eq_true rfl) rfl dX12_lookAhead_60 (fun r11 => ?_)
    refine go1 (M := mX12_lookAhead) (pc' := 65) (ls' := [some (.ref p0), some (.int p1), some (.int p2), some (.int p3), some (.int p4), some (.int p5), some (.int r11), none]) (r_istore (M := mX12_lookAhead) (ls := [some (.ref p0), some (.int p1), some (.int p2), some (.int p3), some (.int p4), some (.int p5), none, none]) (i := 6) (v := r11) (by decide) rfl dX12_lookAhead_63) ?_
    refine go1 (M := mX12_lookAhead) (pc' := 67) (r_iload (M := mX12_lookAhead) (i := 6) rfl dX12_lookAhead_65) ?_
    refine go1 (M := mX12_lookAhead) (pc' := 69) (r_bipush (M := mX12_lookAhead) (v := 6) (by decide) dX12_lookAhead_67) ?_
    refine go_br (M := mX12_lookAhead) (pt := 81) (pf := 72) (fun kt kf => r_icmp_ge (M := mX12_lookAhead) dX12_lookAhead_69 (by decide) kt kf) (fun hc12 => ?_) (fun hc12 => ?_)
    · refine go1 (M := mX12_lookAhead) (pc' := 82) (r_iconst (M := mX12_lookAhead) (v := (-1)) (by decide) dX12_lookAhead_81) ?_
      refine go_drop (ls' := [some (.ref p0), some (.int p1), some (.int p2), some (.int p3), some (.int p4), some (.int p5), none, none]) (And.intro rfl (And.intro rfl (And.intro rfl (And.intro rfl (And.intro rfl (And.intro rfl trivial)))))) ?_
      exact j_X12_lookAhead_82_t (N := N) hW (by omega) bk48 p0 p1 p2 p3 p4 p5 (-1) x g0 hbk48
    · refine go1 (M := mX12_lookAhead) (pc' := 73) (r_aload_n (M := mX12_lookAhead) (i := 0) rfl dX12_lookAhead_72) ?_
      refine go1 (M := mX12_lookAhead) (pc' := 75) (r_iload (M := mX12_lookAhead) (i := 6) rfl dX12_lookAhead_73) ?_
      refine go_V_SI (M := mX12_lookAhead) (pc' := 78) (st := []) (As := [.int r11]) rfl ln_12_370 lb_X12_lay (t_X12_lay (N := N) hW (by omega) g0) (by omega) g0 (Nat.le_of_ble_eq_true rfl) rfl dX12_lookAhead_75 (fun r14 => ?_)
      refine go1 (M := mX12_lookAhead) (pc' := 82) (r_goto (M := mX12_lookAhead) dX12_lookAhead_78 (by decide)) ?_
      refine go_drop (ls' := [some (.ref p0), some (.int p1), some (.int p2), some (.int p3), some (.int p4), some (.int p5), none, none]) (And.intro rfl (And.intro rfl (And.intro rfl (And.intro rfl (And.intro rfl (And.intro rfl trivial)))))) ?_
      exact j_X12_lookAhead_82_t (N := N) hW (by omega) bk48 p0 p1 p2 p3 p4 p5 r14.1 r14.2 g0 hbk48
def lp_X12_lookAhead_48 (N : Nat) (S : SH) (k94 : DY → Option DY) (p0 : Nat) (p1 : Int32) (p2 : Int32) (p3 : Int32) (p4 : Int32) (p5 : Int32) (x : DY) : Option DY :=
  itr (fun back (v : Int32 × DY) => lp_X12_lookAhead_48_b N S k94 (fun p5 y => back (p5, y)) p0 p1 p2 p3 p4 v.1 v.2) N (p5, x)
theorem lp_X12_lookAhead_48_t {N d : Nat} {S : SH} (hW : WT S) (hd : 5 ≤ d) (k94 : DY → Option DY) (p0 : Nat) (p1 : Int32) (p2 : Int32) (p3 : Int32) (p4 : Int32) (p5 : Int32) (x : DY) (g0 : TY S p0 12) (hk94 : ∀ (y : DY), Go mX12_lookAhead d S wSV 94 [some (.ref p0), some (.int p1), some (.int p2), some (.int p3), some (.int p4), none, none, none] [] y (k94 y)) : Go mX12_lookAhead d S wSV 48 [some (.ref p0), some (.int p1), some (.int p2), some (.int p3), some (.int p4), some (.int p5), none, none] [] x (lp_X12_lookAhead_48 N S k94 p0 p1 p2 p3 p4 p5 x) := by
  unfold lp_X12_lookAhead_48
  exact go_itr (L := fun (v : Int32 × DY) => [some (.ref p0), some (.int p1), some (.int p2), some (.int p3), some (.int p4), some (.int v.1), none, none]) (X := fun (v : Int32 × DY) => v.2) (fun back hB v => lp_X12_lookAhead_48_b_t (N := N) hW hd k94 (fun p5 y => back (p5, y)) p0 p1 p2 p3 p4 v.1 v.2 g0 hk94 (fun p5 y => hB (p5, y)) ) N (p5, x)
def lp_X12_lookAhead_97_b (N : Nat) (S : SH) (k113 : DY → Option DY) (bk97 : Int32 → DY → Option DY) (p0 : Nat) (p1 : Int32) (p2 : Int32) (p3 : Int32) (p4 : Int32) (p5 : Int32) (x : DY) : Option DY :=
  (if p2 ≤ p5 then k113 x else Option.bind (f_X12_goTick N S p0 x) (fun r18 => bk97 (p5 + 1) r18))
set_option maxHeartbeats 1000000 in
theorem lp_X12_lookAhead_97_b_t {N d : Nat} {S : SH} (hW : WT S) (hd : 5 ≤ d) (k113 : DY → Option DY) (bk97 : Int32 → DY → Option DY) (p0 : Nat) (p1 : Int32) (p2 : Int32) (p3 : Int32) (p4 : Int32) (p5 : Int32) (x : DY) (g0 : TY S p0 12) (hk113 : ∀ (y : DY), Go mX12_lookAhead d S wSV 113 [some (.ref p0), some (.int p1), some (.int p2), some (.int p3), some (.int p4), none, none, none] [] y (k113 y)) (hbk97 : ∀ (v5 : Int32) (y : DY), Go mX12_lookAhead d S wSV 97 [some (.ref p0), some (.int p1), some (.int p2), some (.int p3), some (.int p4), some (.int v5), none, none] [] y (bk97 v5 y)) : Go mX12_lookAhead d S wSV 97 [some (.ref p0), some (.int p1), some (.int p2), some (.int p3), some (.int p4), some (.int p5), none, none] [] x (lp_X12_lookAhead_97_b N S k113 bk97 p0 p1 p2 p3 p4 p5 x) := by
  unfold lp_X12_lookAhead_97_b
  refine go1 (M := mX12_lookAhead) (pc' := 99) (r_iload (M := mX12_lookAhead) (i := 5) rfl dX12_lookAhead_97) ?_
  refine go1 (M := mX12_lookAhead) (pc' := 100) (r_iload_n (M := mX12_lookAhead) (i := 2) rfl dX12_lookAhead_99) ?_
  refine go_br (M := mX12_lookAhead) (pt := 113) (pf := 103) (fun kt kf => r_icmp_ge (M := mX12_lookAhead) dX12_lookAhead_100 (by decide) kt kf) (fun hc17 => ?_) (fun hc17 => ?_)
  · refine go_drop (ls' := [some (.ref p0), some (.int p1), some (.int p2), some (.int p3), some (.int p4), none, none, none]) (And.intro rfl (And.intro rfl (And.intro rfl (And.intro rfl (And.intro rfl trivial))))) ?_
    exact hk113 x
  · refine go1 (M := mX12_lookAhead) (pc' := 104) (r_aload_n (M := mX12_lookAhead) (i := 0) rfl dX12_lookAhead_103) ?_
    refine go_V_SV (M := mX12_lookAhead) (pc' := 107) (st := []) (As := []) rfl ln_12_358 lb_X12_goTick (t_X12_goTick (N := N) hW (by omega) g0) (by omega) g0 (Nat.le_of_ble_eq_true rfl) rfl dX12_lookAhead_104 (fun r18 => ?_)
    refine go1 (M := mX12_lookAhead) (pc' := 110) (ls' := [some (.ref p0), some (.int p1), some (.int p2), some (.int p3), some (.int p4), some (.int (p5 + 1)), none, none]) (r_iinc (M := mX12_lookAhead) (ls := [some (.ref p0), some (.int p1), some (.int p2), some (.int p3), some (.int p4), some (.int p5), none, none]) (i := 5) (v := p5) (c' := 1) (by decide) rfl (by decide) rfl dX12_lookAhead_107) ?_
    refine go1 (M := mX12_lookAhead) (pc' := 97) (r_goto (M := mX12_lookAhead) dX12_lookAhead_110 (by decide)) ?_
    exact hbk97 (p5 + 1) r18
def lp_X12_lookAhead_97 (N : Nat) (S : SH) (k113 : DY → Option DY) (p0 : Nat) (p1 : Int32) (p2 : Int32) (p3 : Int32) (p4 : Int32) (p5 : Int32) (x : DY) : Option DY :=
  itr (fun back (v : Int32 × DY) => lp_X12_lookAhead_97_b N S k113 (fun p5 y => back (p5, y)) p0 p1 p2 p3 p4 v.1 v.2) N (p5, x)
theorem lp_X12_lookAhead_97_t {N d : Nat} {S : SH} (hW : WT S) (hd : 5 ≤ d) (k113 : DY → Option DY) (p0 : Nat) (p1 : Int32) (p2 : Int32) (p3 : Int32) (p4 : Int32) (p5 : Int32) (x : DY) (g0 : TY S p0 12) (hk113 : ∀ (y : DY), Go mX12_lookAhead d S wSV 113 [some (.ref p0), some (.int p1), some (.int p2), some (.int p3), some (.int p4), none, none, none] [] y (k113 y)) : Go mX12_lookAhead d S wSV 97 [some (.ref p0), some (.int p1), some (.int p2), some (.int p3), some (.int p4), some (.int p5), none, none] [] x (lp_X12_lookAhead_97 N S k113 p0 p1 p2 p3 p4 p5 x) := by
  unfold lp_X12_lookAhead_97
  exact go_itr (L := fun (v : Int32 × DY) => [some (.ref p0), some (.int p1), some (.int p2), some (.int p3), some (.int p4), some (.int v.1), none, none]) (X := fun (v : Int32 × DY) => v.2) (fun back hB v => lp_X12_lookAhead_97_b_t (N := N) hW hd k113 (fun p5 y => back (p5, y)) p0 p1 p2 p3 p4 v.1 v.2 g0 hk113 (fun p5 y => hB (p5, y)) ) N (p5, x)
def j_X12_lookAhead_162 (N : Nat) (S : SH) (bk29 : Int32 → DY → Option DY) (p0 : Nat) (p1 : Int32) (p2 : Int32) (p3 : Int32) (p4 : Int32) (x : DY) : Option DY :=
  bk29 (p4 + 1) x
set_option maxHeartbeats 1000000 in
theorem j_X12_lookAhead_162_t {N d : Nat} {S : SH} (hW : WT S) (hd : 5 ≤ d) (bk29 : Int32 → DY → Option DY) (p0 : Nat) (p1 : Int32) (p2 : Int32) (p3 : Int32) (p4 : Int32) (x : DY) (g0 : TY S p0 12) (hbk29 : ∀ (v4 : Int32) (y : DY), Go mX12_lookAhead d S wSV 29 [some (.ref p0), some (.int p1), some (.int p2), some (.int p3), some (.int v4), none, none, none] [] y (bk29 v4 y)) : Go mX12_lookAhead d S wSV 162 [some (.ref p0), some (.int p1), some (.int p2), some (.int p3), some (.int p4), none, none, none] [] x (j_X12_lookAhead_162 N S bk29 p0 p1 p2 p3 p4 x) := by
  unfold j_X12_lookAhead_162
  refine go1 (M := mX12_lookAhead) (pc' := 165) (ls' := [some (.ref p0), some (.int p1), some (.int p2), some (.int p3), some (.int (p4 + 1)), none, none, none]) (r_iinc (M := mX12_lookAhead) (ls := [some (.ref p0), some (.int p1), some (.int p2), some (.int p3), some (.int p4), none, none, none]) (i := 4) (v := p4) (c' := 1) (by decide) rfl (by decide) rfl dX12_lookAhead_162) ?_
  refine go1 (M := mX12_lookAhead) (pc' := 29) (r_goto (M := mX12_lookAhead) dX12_lookAhead_165 (by decide)) ?_
  exact hbk29 (p4 + 1) x
def j_X12_lookAhead_150 (N : Nat) (S : SH) (bk29 : Int32 → DY → Option DY) (p0 : Nat) (p1 : Int32) (p2 : Int32) (p3 : Int32) (p4 : Int32) (p5 : Int32) (x : DY) : Option DY :=
  bl (U1 x p0 61 p5) (fun x22 => bl (U1 x22 p0 60 p4) (fun x23 => j_X12_lookAhead_162 N S bk29 p0 p1 p2 p3 p4 x23))
set_option maxHeartbeats 1000000 in
theorem j_X12_lookAhead_150_t {N d : Nat} {S : SH} (hW : WT S) (hd : 5 ≤ d) (bk29 : Int32 → DY → Option DY) (p0 : Nat) (p1 : Int32) (p2 : Int32) (p3 : Int32) (p4 : Int32) (p5 : Int32) (x : DY) (g0 : TY S p0 12) (hbk29 : ∀ (v4 : Int32) (y : DY), Go mX12_lookAhead d S wSV 29 [some (.ref p0), some (.int p1), some (.int p2), some (.int p3), some (.int v4), none, none, none] [] y (bk29 v4 y)) : Go mX12_lookAhead d S wSV 150 [some (.ref p0), some (.int p1), some (.int p2), some (.int p3), some (.int p4), some (.int p5), none, none] [] x (j_X12_lookAhead_150 N S bk29 p0 p1 p2 p3 p4 p5 x) := by
  unfold j_X12_lookAhead_150
  refine go1 (M := mX12_lookAhead) (pc' := 151) (r_aload_n (M := mX12_lookAhead) (i := 0) rfl dX12_lookAhead_150) ?_
  refine go1 (M := mX12_lookAhead) (pc' := 153) (r_iload (M := mX12_lookAhead) (i := 5) rfl dX12_lookAhead_151) ?_
  refine go1 (M := mX12_lookAhead) (pc' := 156) (r_putI (M := mX12_lookAhead) fl_12_193 g0 rfl rfl dX12_lookAhead_153) ?_
  refine go_blx (fun x22 => ?_)
  refine go1 (M := mX12_lookAhead) (pc' := 157) (r_aload_n (M := mX12_lookAhead) (i := 0) rfl dX12_lookAhead_156) ?_
  refine go1 (M := mX12_lookAhead) (pc' := 159) (r_iload (M := mX12_lookAhead) (i := 4) rfl dX12_lookAhead_157) ?_
  refine go1 (M := mX12_lookAhead) (pc' := 162) (r_putI (M := mX12_lookAhead) fl_12_190 g0 rfl rfl dX12_lookAhead_159) ?_
  refine go_blx (fun x23 => ?_)
  refine go_drop (ls' := [some (.ref p0), some (.int p1), some (.int p2), some (.int p3), some (.int p4), none, none, none]) (And.intro rfl (And.intro rfl (And.intro rfl (And.intro rfl (And.intro rfl trivial))))) ?_
  exact j_X12_lookAhead_162_t (N := N) hW (by omega) bk29 p0 p1 p2 p3 p4 x23 g0 hbk29
def lp_X12_lookAhead_29_b (N : Nat) (S : SH) (bk29 : Int32 → DY → Option DY) (p0 : Nat) (p1 : Int32) (p2 : Int32) (p3 : Int32) (p4 : Int32) (x : DY) : Option DY :=
  (if p3 ≤ p4 then some x else bl (U1 x p0 46 0) (fun x7 => bl (U1 x7 p0 47 0) (fun x8 => lp_X12_lookAhead_48 N S (fun y14 => lp_X12_lookAhead_97 N S (fun y18 => Option.bind (f_X12_takeBack N S p0 y18) (fun r20 => (if p4 ≤ 0 then j_X12_lookAhead_150 N S bk29 p0 p1 p2 p3 p4 ((y18.1 p0 46) - ((y18.1 p0 4) * (y18.1 p0 47))) r20 else (if (r20.1 p0 61) < ((y18.1 p0 46) - ((y18.1 p0 4) * (y18.1 p0 47))) then j_X12_lookAhead_150 N S bk29 p0 p1 p2 p3 p4 ((y18.1 p0 46) - ((y18.1 p0 4) * (y18.1 p0 47))) r20 else j_X12_lookAhead_162 N S bk29 p0 p1 p2 p3 p4 r20)))) p0 p1 p2 p3 p4 0 y14) p0 p1 p2 p3 p4 0 x8)))
set_option maxHeartbeats 1000000 in
theorem lp_X12_lookAhead_29_b_t {N d : Nat} {S : SH} (hW : WT S) (hd : 5 ≤ d) (bk29 : Int32 → DY → Option DY) (p0 : Nat) (p1 : Int32) (p2 : Int32) (p3 : Int32) (p4 : Int32) (x : DY) (g0 : TY S p0 12) (hbk29 : ∀ (v4 : Int32) (y : DY), Go mX12_lookAhead d S wSV 29 [some (.ref p0), some (.int p1), some (.int p2), some (.int p3), some (.int v4), none, none, none] [] y (bk29 v4 y)) : Go mX12_lookAhead d S wSV 29 [some (.ref p0), some (.int p1), some (.int p2), some (.int p3), some (.int p4), none, none, none] [] x (lp_X12_lookAhead_29_b N S bk29 p0 p1 p2 p3 p4 x) := by
  unfold lp_X12_lookAhead_29_b
  refine go1 (M := mX12_lookAhead) (pc' := 31) (r_iload (M := mX12_lookAhead) (i := 4) rfl dX12_lookAhead_29) ?_
  refine go1 (M := mX12_lookAhead) (pc' := 32) (r_iload_n (M := mX12_lookAhead) (i := 3) rfl dX12_lookAhead_31) ?_
  refine go_br (M := mX12_lookAhead) (pt := 168) (pf := 35) (fun kt kf => r_icmp_ge (M := mX12_lookAhead) dX12_lookAhead_32 (by decide) kt kf) (fun hc6 => ?_) (fun hc6 => ?_)
  · exact go_vret (M := mX12_lookAhead) rfl rfl dX12_lookAhead_168
  · refine go1 (M := mX12_lookAhead) (pc' := 36) (r_aload_n (M := mX12_lookAhead) (i := 0) rfl dX12_lookAhead_35) ?_
    refine go1 (M := mX12_lookAhead) (pc' := 37) (r_iconst (M := mX12_lookAhead) (v := 0) (by decide) dX12_lookAhead_36) ?_
    refine go1 (M := mX12_lookAhead) (pc' := 40) (r_putI (M := mX12_lookAhead) fl_12_148 g0 rfl rfl dX12_lookAhead_37) ?_
    refine go_blx (fun x7 => ?_)
    refine go1 (M := mX12_lookAhead) (pc' := 41) (r_aload_n (M := mX12_lookAhead) (i := 0) rfl dX12_lookAhead_40) ?_
    refine go1 (M := mX12_lookAhead) (pc' := 42) (r_iconst (M := mX12_lookAhead) (v := 0) (by decide) dX12_lookAhead_41) ?_
    refine go1 (M := mX12_lookAhead) (pc' := 45) (r_putI (M := mX12_lookAhead) fl_12_151 g0 rfl rfl dX12_lookAhead_42) ?_
    refine go_blx (fun x8 => ?_)
    refine go1 (M := mX12_lookAhead) (pc' := 46) (r_iconst (M := mX12_lookAhead) (v := 0) (by decide) dX12_lookAhead_45) ?_
    refine go1 (M := mX12_lookAhead) (pc' := 48) (ls' := [some (.ref p0), some (.int p1), some (.int p2), some (.int p3), some (.int p4), some (.int 0), none, none]) (r_istore (M := mX12_lookAhead) (ls := [some (.ref p0), some (.int p1), some (.int p2), some (.int p3), some (.int p4), none, none, none]) (i := 5) (v := 0) (by decide) rfl dX12_lookAhead_46) ?_
    refine lp_X12_lookAhead_48_t (N := N) hW (by omega) _ p0 p1 p2 p3 p4 0 x8 g0 ?_
    · intro y14
      refine go1 (M := mX12_lookAhead) (pc' := 95) (r_iconst (M := mX12_lookAhead) (v := 0) (by decide) dX12_lookAhead_94) ?_
      refine go1 (M := mX12_lookAhead) (pc' := 97) (ls' := [some (.ref p0), some (.int p1), some (.int p2), some (.int p3), some (.int p4), some (.int 0), none, none]) (r_istore (M := mX12_lookAhead) (ls := [some (.ref p0), some (.int p1), some (.int p2), some (.int p3), some (.int p4), none, none, none]) (i := 5) (v := 0) (by decide) rfl dX12_lookAhead_95) ?_
      refine lp_X12_lookAhead_97_t (N := N) hW (by omega) _ p0 p1 p2 p3 p4 0 y14 g0 ?_
      · intro y18
        refine go1 (M := mX12_lookAhead) (pc' := 114) (r_aload_n (M := mX12_lookAhead) (i := 0) rfl dX12_lookAhead_113) ?_
        refine go1 (M := mX12_lookAhead) (pc' := 117) (r_getI (M := mX12_lookAhead) fl_12_148 g0 rfl dX12_lookAhead_114) ?_
        refine go1 (M := mX12_lookAhead) (pc' := 118) (r_aload_n (M := mX12_lookAhead) (i := 0) rfl dX12_lookAhead_117) ?_
        refine go1 (M := mX12_lookAhead) (pc' := 121) (r_getI (M := mX12_lookAhead) fl_12_19 g0 rfl dX12_lookAhead_118) ?_
        refine go1 (M := mX12_lookAhead) (pc' := 122) (r_aload_n (M := mX12_lookAhead) (i := 0) rfl dX12_lookAhead_121) ?_
        refine go1 (M := mX12_lookAhead) (pc' := 125) (r_getI (M := mX12_lookAhead) fl_12_151 g0 rfl dX12_lookAhead_122) ?_
        refine go1 (M := mX12_lookAhead) (pc' := 126) (r_imul (M := mX12_lookAhead) dX12_lookAhead_125) ?_
        refine go1 (M := mX12_lookAhead) (pc' := 127) (r_isub (M := mX12_lookAhead) dX12_lookAhead_126) ?_
        refine go1 (M := mX12_lookAhead) (pc' := 129) (ls' := [some (.ref p0), some (.int p1), some (.int p2), some (.int p3), some (.int p4), some (.int ((y18.1 p0 46) - ((y18.1 p0 4) * (y18.1 p0 47)))), none, none]) (r_istore (M := mX12_lookAhead) (ls := [some (.ref p0), some (.int p1), some (.int p2), some (.int p3), some (.int p4), none, none, none]) (i := 5) (v := ((y18.1 p0 46) - ((y18.1 p0 4) * (y18.1 p0 47)))) (by decide) rfl dX12_lookAhead_127) ?_
        refine go1 (M := mX12_lookAhead) (pc' := 130) (r_aload_n (M := mX12_lookAhead) (i := 0) rfl dX12_lookAhead_129) ?_
        refine go_V_SV (M := mX12_lookAhead) (pc' := 133) (st := []) (As := []) rfl ln_12_373 lb_X12_takeBack (t_X12_takeBack (N := N) hW (by omega) g0) (by omega) g0 (Nat.le_of_ble_eq_true rfl) rfl dX12_lookAhead_130 (fun r20 => ?_)
        refine go1 (M := mX12_lookAhead) (pc' := 135) (r_iload (M := mX12_lookAhead) (i := 4) rfl dX12_lookAhead_133) ?_
        refine go_br (M := mX12_lookAhead) (pt := 150) (pf := 138) (fun kt kf => r_if_le (M := mX12_lookAhead) dX12_lookAhead_135 (by decide) kt kf) (fun hc21 => ?_) (fun hc21 => ?_)
        · exact j_X12_lookAhead_150_t (N := N) hW (by omega) bk29 p0 p1 p2 p3 p4 ((y18.1 p0 46) - ((y18.1 p0 4) * (y18.1 p0 47))) r20 g0 hbk29
        · refine go1 (M := mX12_lookAhead) (pc' := 140) (r_iload (M := mX12_lookAhead) (i := 5) rfl dX12_lookAhead_138) ?_
          refine go1 (M := mX12_lookAhead) (pc' := 141) (r_aload_n (M := mX12_lookAhead) (i := 0) rfl dX12_lookAhead_140) ?_
          refine go1 (M := mX12_lookAhead) (pc' := 144) (r_getI (M := mX12_lookAhead) fl_12_193 g0 rfl dX12_lookAhead_141) ?_
          refine go_br (M := mX12_lookAhead) (pt := 150) (pf := 147) (fun kt kf => r_icmp_gt (M := mX12_lookAhead) dX12_lookAhead_144 (by decide) kt kf) (fun hc24 => ?_) (fun hc24 => ?_)
          · exact j_X12_lookAhead_150_t (N := N) hW (by omega) bk29 p0 p1 p2 p3 p4 ((y18.1 p0 46) - ((y18.1 p0 4) * (y18.1 p0 47))) r20 g0 hbk29
          · refine go1 (M := mX12_lookAhead) (pc' := 162) (r_goto (M := mX12_lookAhead) dX12_lookAhead_147 (by decide)) ?_
            refine go_drop (ls' := [some (.ref p0), some (.int p1), some (.int p2), some (.int p3), some (.int p4), none, none, none]) (And.intro rfl (And.intro rfl (And.intro rfl (And.intro rfl (And.intro rfl trivial))))) ?_
            exact j_X12_lookAhead_162_t (N := N) hW (by omega) bk29 p0 p1 p2 p3 p4 r20 g0 hbk29
def lp_X12_lookAhead_29 (N : Nat) (S : SH) (p0 : Nat) (p1 : Int32) (p2 : Int32) (p3 : Int32) (p4 : Int32) (x : DY) : Option DY :=
  itr (fun back (v : Int32 × DY) => lp_X12_lookAhead_29_b N S (fun p4 y => back (p4, y)) p0 p1 p2 p3 v.1 v.2) N (p4, x)
theorem lp_X12_lookAhead_29_t {N d : Nat} {S : SH} (hW : WT S) (hd : 5 ≤ d) (p0 : Nat) (p1 : Int32) (p2 : Int32) (p3 : Int32) (p4 : Int32) (x : DY) (g0 : TY S p0 12) : Go mX12_lookAhead d S wSV 29 [some (.ref p0), some (.int p1), some (.int p2), some (.int p3), some (.int p4), none, none, none] [] x (lp_X12_lookAhead_29 N S p0 p1 p2 p3 p4 x) := by
  unfold lp_X12_lookAhead_29
  exact go_itr (L := fun (v : Int32 × DY) => [some (.ref p0), some (.int p1), some (.int p2), some (.int p3), some (.int v.1), none, none, none]) (X := fun (v : Int32 × DY) => v.2) (fun back hB v => lp_X12_lookAhead_29_b_t (N := N) hW hd (fun p4 y => back (p4, y)) p0 p1 p2 p3 v.1 v.2 g0 (fun p4 y => hB (p4, y)) ) N (p4, x)
def f_X12_lookAhead (N : Nat) (S : SH) (a0 : Nat) (a1 : Int32) (a2 : Int32) (x : DY) : Option DY :=
  lp_X12_lookAhead_5 N S (fun e3_2 => Option.bind (f_X12_keep N S a0 x) (fun r4 => lp_X12_lookAhead_29 N S a0 a1 a2 e3_2 0 r4)) a0 a1 a2 1 0 x
set_option maxHeartbeats 1000000 in
theorem t_X12_lookAhead {N d : Nat} {S : SH} (hW : WT S) {x : DY} {a0 : Nat} {a1 : Int32} {a2 : Int32} (hd : 5 ≤ d) (h0 : TY S a0 12) : CT mX12_lookAhead d S [.ref a0, .int a1, .int a2] x wSV (f_X12_lookAhead N S a0 a1 a2 x) := by
  refine CT.of [some (.ref a0), some (.int a1), some (.int a2), none, none, none, none, none] rfl (Nat.le_of_ble_eq_true rfl) (by decide +kernel) ?_
  unfold f_X12_lookAhead
  refine go1 (M := mX12_lookAhead) (pc' := 1) (r_iconst (M := mX12_lookAhead) (v := 1) (by decide) dX12_lookAhead_0) ?_
  refine go1 (M := mX12_lookAhead) (pc' := 2) (ls' := [some (.ref a0), some (.int a1), some (.int a2), some (.int 1), none, none, none, none]) (r_istore_n (M := mX12_lookAhead) (ls := [some (.ref a0), some (.int a1), some (.int a2), none, none, none, none, none]) (i := 3) (v := 1) (by decide) rfl dX12_lookAhead_1) ?_
  refine go1 (M := mX12_lookAhead) (pc' := 3) (r_iconst (M := mX12_lookAhead) (v := 0) (by decide) dX12_lookAhead_2) ?_
  refine go1 (M := mX12_lookAhead) (pc' := 5) (ls' := [some (.ref a0), some (.int a1), some (.int a2), some (.int 1), some (.int 0), none, none, none]) (r_istore (M := mX12_lookAhead) (ls := [some (.ref a0), some (.int a1), some (.int a2), some (.int 1), none, none, none, none]) (i := 4) (v := 0) (by decide) rfl dX12_lookAhead_3) ?_
  refine lp_X12_lookAhead_5_t (N := N) hW (by omega) _ a0 a1 a2 1 0 x h0 ?_
  · intro e3_2
    refine go1 (M := mX12_lookAhead) (pc' := 23) (r_aload_n (M := mX12_lookAhead) (i := 0) rfl dX12_lookAhead_22) ?_
    refine go_V_SV (M := mX12_lookAhead) (pc' := 26) (st := []) (As := []) rfl ln_12_364 lb_X12_keep (t_X12_keep (N := N) hW (by omega) h0) (by omega) h0 (Nat.le_of_ble_eq_true rfl) rfl dX12_lookAhead_23 (fun r4 => ?_)
    refine go1 (M := mX12_lookAhead) (pc' := 27) (r_iconst (M := mX12_lookAhead) (v := 0) (by decide) dX12_lookAhead_26) ?_
    refine go1 (M := mX12_lookAhead) (pc' := 29) (ls' := [some (.ref a0), some (.int a1), some (.int a2), some (.int e3_2), some (.int 0), none, none, none]) (r_istore (M := mX12_lookAhead) (ls := [some (.ref a0), some (.int a1), some (.int a2), some (.int e3_2), none, none, none, none]) (i := 4) (v := 0) (by decide) rfl dX12_lookAhead_27) ?_
    refine lp_X12_lookAhead_29_t (N := N) hW (by omega) a0 a1 a2 e3_2 0 r4 h0
def f_X12_isAhead (N : Nat) (S : SH) (a0 : Nat) (a1 : Int32) (a2 : Int32) (x : DY) : Option Int32 :=
  Option.bind (f_X12_in N S a0 a1 1 3 x) (fun r1 => (if r1 = 0 then some 0 else Option.bind (f_X12_in N S a0 a2 0 24 x) (fun r3 => (if r3 = 0 then some 0 else some 1))))
set_option maxHeartbeats 1000000 in
theorem t_X12_isAhead {N d : Nat} {S : SH} (hW : WT S) {x : DY} {a0 : Nat} {a1 : Int32} {a2 : Int32} (hd : 2 ≤ d) (h0 : TY S a0 12) : CT mX12_isAhead d S [.ref a0, .int a1, .int a2] x (wPI x) (f_X12_isAhead N S a0 a1 a2 x) := by
  refine CT.of [some (.ref a0), some (.int a1), some (.int a2)] rfl (Nat.le_of_ble_eq_true rfl) (by decide +kernel) ?_
  unfold f_X12_isAhead
  refine go1 (M := mX12_isAhead) (pc' := 1) (r_aload_n (M := mX12_isAhead) (i := 0) rfl dX12_isAhead_0) ?_
  refine go1 (M := mX12_isAhead) (pc' := 2) (r_iload_n (M := mX12_isAhead) (i := 1) rfl dX12_isAhead_1) ?_
  refine go1 (M := mX12_isAhead) (pc' := 3) (r_iconst (M := mX12_isAhead) (v := 1) (by decide) dX12_isAhead_2) ?_
  refine go1 (M := mX12_isAhead) (pc' := 4) (r_iconst (M := mX12_isAhead) (v := 3) (by decide) dX12_isAhead_3) ?_
  refine go_V_PI (M := mX12_isAhead) (pc' := 7) (st := []) (As := [.int a1, .int 1, .int 3]) rfl ln_12_217 lb_X12_in (t_X12_in (N := N) hW (by omega) h0) (by omega) h0 (Nat.le_of_ble_eq_true rfl) rfl dX12_isAhead_4 (fun r1 => ?_)
  refine go_br (M := mX12_isAhead) (pt := 25) (pf := 10) (fun kt kf => r_if_eq (M := mX12_isAhead) dX12_isAhead_7 (by decide) kt kf) (fun hc2 => ?_) (fun hc2 => ?_)
  · refine go1 (M := mX12_isAhead) (pc' := 26) (r_iconst (M := mX12_isAhead) (v := 0) (by decide) dX12_isAhead_25) ?_
    exact go_zret (M := mX12_isAhead) rfl rfl rfl dX12_isAhead_26
  · refine go1 (M := mX12_isAhead) (pc' := 11) (r_aload_n (M := mX12_isAhead) (i := 0) rfl dX12_isAhead_10) ?_
    refine go1 (M := mX12_isAhead) (pc' := 12) (r_iload_n (M := mX12_isAhead) (i := 2) rfl dX12_isAhead_11) ?_
    refine go1 (M := mX12_isAhead) (pc' := 13) (r_iconst (M := mX12_isAhead) (v := 0) (by decide) dX12_isAhead_12) ?_
    refine go1 (M := mX12_isAhead) (pc' := 15) (r_bipush (M := mX12_isAhead) (v := 24) (by decide) dX12_isAhead_13) ?_
    refine go_V_PI (M := mX12_isAhead) (pc' := 18) (st := []) (As := [.int a2, .int 0, .int 24]) rfl ln_12_217 lb_X12_in (t_X12_in (N := N) hW (by omega) h0) (by omega) h0 (Nat.le_of_ble_eq_true rfl) rfl dX12_isAhead_15 (fun r3 => ?_)
    refine go_br (M := mX12_isAhead) (pt := 25) (pf := 21) (fun kt kf => r_if_eq (M := mX12_isAhead) dX12_isAhead_18 (by decide) kt kf) (fun hc4 => ?_) (fun hc4 => ?_)
    · refine go1 (M := mX12_isAhead) (pc' := 26) (r_iconst (M := mX12_isAhead) (v := 0) (by decide) dX12_isAhead_25) ?_
      exact go_zret (M := mX12_isAhead) rfl rfl rfl dX12_isAhead_26
    · refine go1 (M := mX12_isAhead) (pc' := 22) (r_iconst (M := mX12_isAhead) (v := 1) (by decide) dX12_isAhead_21) ?_
      refine go1 (M := mX12_isAhead) (pc' := 26) (r_goto (M := mX12_isAhead) dX12_isAhead_22 (by decide)) ?_
      exact go_zret (M := mX12_isAhead) rfl rfl rfl dX12_isAhead_26
def f_X12_waste (N : Nat) (S : SH) (a0 : Nat) (a1 : Int32) (x : DY) : Option (Int32 × DY) :=
  Option.bind (f_X12_in N S a0 a1 0 999 x) (fun r1 => (if r1 = 0 then some ((-2), x) else bl (U1 x a0 4 a1) (fun x3 => some ((x.1 a0 4), x3))))
set_option maxHeartbeats 1000000 in
theorem t_X12_waste {N d : Nat} {S : SH} (hW : WT S) {x : DY} {a0 : Nat} {a1 : Int32} (hd : 2 ≤ d) (h0 : TY S a0 12) : CT mX12_waste d S [.ref a0, .int a1] x wSI (f_X12_waste N S a0 a1 x) := by
  refine CT.of [some (.ref a0), some (.int a1), none] rfl (Nat.le_of_ble_eq_true rfl) (by decide +kernel) ?_
  unfold f_X12_waste
  refine go1 (M := mX12_waste) (pc' := 1) (r_aload_n (M := mX12_waste) (i := 0) rfl dX12_waste_0) ?_
  refine go1 (M := mX12_waste) (pc' := 2) (r_iload_n (M := mX12_waste) (i := 1) rfl dX12_waste_1) ?_
  refine go1 (M := mX12_waste) (pc' := 3) (r_iconst (M := mX12_waste) (v := 0) (by decide) dX12_waste_2) ?_
  refine go1 (M := mX12_waste) (pc' := 6) (r_sipush (M := mX12_waste) (v := 999) (by decide) dX12_waste_3) ?_
  refine go_V_PI (M := mX12_waste) (pc' := 9) (st := []) (As := [.int a1, .int 0, .int 999]) rfl ln_12_217 lb_X12_in (t_X12_in (N := N) hW (by omega) h0) (by omega) h0 (Nat.le_of_ble_eq_true rfl) rfl dX12_waste_6 (fun r1 => ?_)
  refine go_br (M := mX12_waste) (pt := 12) (pf := 15) (fun kt kf => r_if_ne (M := mX12_waste) dX12_waste_9 (by decide) kf kt) (fun hc2 => ?_) (fun hc2 => ?_)
  · refine go1 (M := mX12_waste) (pc' := 14) (r_bipush (M := mX12_waste) (v := (-2)) (by decide) dX12_waste_12) ?_
    exact go_iret (M := mX12_waste) rfl rfl dX12_waste_14
  · refine go1 (M := mX12_waste) (pc' := 16) (r_aload_n (M := mX12_waste) (i := 0) rfl dX12_waste_15) ?_
    refine go1 (M := mX12_waste) (pc' := 19) (r_getI (M := mX12_waste) fl_12_19 h0 rfl dX12_waste_16) ?_
    refine go1 (M := mX12_waste) (pc' := 20) (ls' := [some (.ref a0), some (.int a1), some (.int (x.1 a0 4))]) (r_istore_n (M := mX12_waste) (ls := [some (.ref a0), some (.int a1), none]) (i := 2) (v := (x.1 a0 4)) (by decide) rfl dX12_waste_19) ?_
    refine go1 (M := mX12_waste) (pc' := 21) (r_aload_n (M := mX12_waste) (i := 0) rfl dX12_waste_20) ?_
    refine go1 (M := mX12_waste) (pc' := 22) (r_iload_n (M := mX12_waste) (i := 1) rfl dX12_waste_21) ?_
    refine go1 (M := mX12_waste) (pc' := 25) (r_putI (M := mX12_waste) fl_12_19 h0 rfl rfl dX12_waste_22) ?_
    refine go_blx (fun x3 => ?_)
    refine go1 (M := mX12_waste) (pc' := 26) (r_iload_n (M := mX12_waste) (i := 2) rfl dX12_waste_25) ?_
    exact go_iret (M := mX12_waste) rfl rfl dX12_waste_26
def f_X12_ahead_ (N : Nat) (S : SH) (a0 : Nat) (a1 : Int32) (a2 : Int32) (a3 : Int32) (x : DY) : Option (Int32 × DY) :=
  Option.bind (f_X12_isAhead N S a0 a1 a2 x) (fun r1 => (if r1 = 0 then some ((-2), x) else Option.bind (f_X12_in N S a0 a3 0 (a1 - 1) x) (fun r3 => (if r3 = 0 then some ((-2), x) else Option.bind (f_X12_lookAhead N S a0 a1 a2 x) (fun r5 => Option.bind (f_X12_choice N S a0 (r5.1 a0 60) a1 a3 r5) (fun r6 => some (r6, r5)))))))
set_option maxHeartbeats 1000000 in
theorem t_X12_ahead_ {N d : Nat} {S : SH} (hW : WT S) {x : DY} {a0 : Nat} {a1 : Int32} {a2 : Int32} {a3 : Int32} (hd : 6 ≤ d) (h0 : TY S a0 12) : CT mX12_ahead_ d S [.ref a0, .int a1, .int a2, .int a3] x wSI (f_X12_ahead_ N S a0 a1 a2 a3 x) := by
  refine CT.of [some (.ref a0), some (.int a1), some (.int a2), some (.int a3)] rfl (Nat.le_of_ble_eq_true rfl) (by decide +kernel) ?_
  unfold f_X12_ahead_
  refine go1 (M := mX12_ahead_) (pc' := 1) (r_aload_n (M := mX12_ahead_) (i := 0) rfl dX12_ahead__0) ?_
  refine go1 (M := mX12_ahead_) (pc' := 2) (r_iload_n (M := mX12_ahead_) (i := 1) rfl dX12_ahead__1) ?_
  refine go1 (M := mX12_ahead_) (pc' := 3) (r_iload_n (M := mX12_ahead_) (i := 2) rfl dX12_ahead__2) ?_
  refine go_V_PI (M := mX12_ahead_) (pc' := 6) (st := []) (As := [.int a1, .int a2]) rfl ln_12_376 lb_X12_isAhead (t_X12_isAhead (N := N) hW (by omega) h0) (by omega) h0 (Nat.le_of_ble_eq_true rfl) rfl dX12_ahead__3 (fun r1 => ?_)
  refine go_br (M := mX12_ahead_) (pt := 21) (pf := 9) (fun kt kf => r_if_eq (M := mX12_ahead_) dX12_ahead__6 (by decide) kt kf) (fun hc2 => ?_) (fun hc2 => ?_)
  · refine go1 (M := mX12_ahead_) (pc' := 23) (r_bipush (M := mX12_ahead_) (v := (-2)) (by decide) dX12_ahead__21) ?_
    exact go_iret (M := mX12_ahead_) rfl rfl dX12_ahead__23
  · refine go1 (M := mX12_ahead_) (pc' := 10) (r_aload_n (M := mX12_ahead_) (i := 0) rfl dX12_ahead__9) ?_
    refine go1 (M := mX12_ahead_) (pc' := 11) (r_iload_n (M := mX12_ahead_) (i := 3) rfl dX12_ahead__10) ?_
    refine go1 (M := mX12_ahead_) (pc' := 12) (r_iconst (M := mX12_ahead_) (v := 0) (by decide) dX12_ahead__11) ?_
    refine go1 (M := mX12_ahead_) (pc' := 13) (r_iload_n (M := mX12_ahead_) (i := 1) rfl dX12_ahead__12) ?_
    refine go1 (M := mX12_ahead_) (pc' := 14) (r_iconst (M := mX12_ahead_) (v := 1) (by decide) dX12_ahead__13) ?_
    refine go1 (M := mX12_ahead_) (pc' := 15) (r_isub (M := mX12_ahead_) dX12_ahead__14) ?_
    refine go_V_PI (M := mX12_ahead_) (pc' := 18) (st := []) (As := [.int a3, .int 0, .int (a1 - 1)]) rfl ln_12_217 lb_X12_in (t_X12_in (N := N) hW (by omega) h0) (by omega) h0 (Nat.le_of_ble_eq_true rfl) rfl dX12_ahead__15 (fun r3 => ?_)
    refine go_br (M := mX12_ahead_) (pt := 21) (pf := 24) (fun kt kf => r_if_ne (M := mX12_ahead_) dX12_ahead__18 (by decide) kf kt) (fun hc4 => ?_) (fun hc4 => ?_)
    · refine go1 (M := mX12_ahead_) (pc' := 23) (r_bipush (M := mX12_ahead_) (v := (-2)) (by decide) dX12_ahead__21) ?_
      exact go_iret (M := mX12_ahead_) rfl rfl dX12_ahead__23
    · refine go1 (M := mX12_ahead_) (pc' := 25) (r_aload_n (M := mX12_ahead_) (i := 0) rfl dX12_ahead__24) ?_
      refine go1 (M := mX12_ahead_) (pc' := 26) (r_iload_n (M := mX12_ahead_) (i := 1) rfl dX12_ahead__25) ?_
      refine go1 (M := mX12_ahead_) (pc' := 27) (r_iload_n (M := mX12_ahead_) (i := 2) rfl dX12_ahead__26) ?_
      refine go_V_SV (M := mX12_ahead_) (pc' := 30) (st := []) (As := [.int a1, .int a2]) rfl ln_12_380 lb_X12_lookAhead (t_X12_lookAhead (N := N) hW (by omega) h0) (by omega) h0 (Nat.le_of_ble_eq_true rfl) rfl dX12_ahead__27 (fun r5 => ?_)
      refine go1 (M := mX12_ahead_) (pc' := 31) (r_aload_n (M := mX12_ahead_) (i := 0) rfl dX12_ahead__30) ?_
      refine go1 (M := mX12_ahead_) (pc' := 32) (r_aload_n (M := mX12_ahead_) (i := 0) rfl dX12_ahead__31) ?_
      refine go1 (M := mX12_ahead_) (pc' := 35) (r_getI (M := mX12_ahead_) fl_12_190 h0 rfl dX12_ahead__32) ?_
      refine go1 (M := mX12_ahead_) (pc' := 36) (r_iload_n (M := mX12_ahead_) (i := 1) rfl dX12_ahead__35) ?_
      refine go1 (M := mX12_ahead_) (pc' := 37) (r_iload_n (M := mX12_ahead_) (i := 3) rfl dX12_ahead__36) ?_
      refine go_V_PI (M := mX12_ahead_) (pc' := 40) (st := []) (As := [.int (r5.1 a0 60), .int a1, .int a3]) rfl ln_12_367 lb_X12_choice (t_X12_choice (N := N) hW (by omega) h0) (by omega) h0 (Nat.le_of_ble_eq_true rfl) rfl dX12_ahead__37 (fun r6 => ?_)
      exact go_iret (M := mX12_ahead_) rfl rfl dX12_ahead__40
