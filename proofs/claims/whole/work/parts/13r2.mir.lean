/-! MIRRORS, by program out of the class's bytecode: X12_isText .. X12_leave -/
def lp_X12_isText_11_b (N : Nat) (S : SH) (k61 : DY → Option (Int32 × DY)) (bk11 : Int32 → DY → Option (Int32 × DY)) (p0 : Nat) (p1 : Int32) (x : DY) : Option (Int32 × DY) :=
  (if 2 ≤ p1 then k61 x else Option.bind (f_X12_isKey N S p0 p1 x) (fun r5 => (if r5 = 0 then some (0, x) else Option.bind (f_X12_next N S p0 x) (fun r7 => bl (U1 r7 p0 42 ((2 * (r7.1 p0 29)) + p1)) (fun x8 => Option.bind (f_X12_part N S p0 x8) (fun r9 => (if r9.1 = 0 then some (0, r9.2) else Option.bind (f_X12_next N S p0 r9.2) (fun r11 => bk11 (p1 + 1) r11))))))))
set_option maxHeartbeats 1000000 in
theorem lp_X12_isText_11_b_t {N d : Nat} {S : SH} (hW : WT S) (hd : 5 ≤ d) (k61 : DY → Option (Int32 × DY)) (bk11 : Int32 → DY → Option (Int32 × DY)) (p0 : Nat) (p1 : Int32) (x : DY) (g0 : TY S p0 12) (hk61 : ∀ (y : DY), Go mX12_isText d S wSI 61 [some (.ref p0), none] [] y (k61 y)) (hbk11 : ∀ (v1 : Int32) (y : DY), Go mX12_isText d S wSI 11 [some (.ref p0), some (.int v1)] [] y (bk11 v1 y)) : Go mX12_isText d S wSI 11 [some (.ref p0), some (.int p1)] [] x (lp_X12_isText_11_b N S k61 bk11 p0 p1 x) := by
  unfold lp_X12_isText_11_b
  refine go1 (M := mX12_isText) (pc' := 12) (r_iload_n (M := mX12_isText) (i := 1) rfl dX12_isText_11) ?_
  refine go1 (M := mX12_isText) (pc' := 13) (r_iconst (M := mX12_isText) (v := 2) (by decide) dX12_isText_12) ?_
  refine go_br (M := mX12_isText) (pt := 61) (pf := 16) (fun kt kf => r_icmp_ge (M := mX12_isText) dX12_isText_13 (by decide) kt kf) (fun hc4 => ?_) (fun hc4 => ?_)
  · refine go_drop (ls' := [some (.ref p0), none]) (And.intro rfl trivial) ?_
    exact hk61 x
  · refine go1 (M := mX12_isText) (pc' := 17) (r_aload_n (M := mX12_isText) (i := 0) rfl dX12_isText_16) ?_
    refine go1 (M := mX12_isText) (pc' := 18) (r_iload_n (M := mX12_isText) (i := 1) rfl dX12_isText_17) ?_
    refine go_V_PI (M := mX12_isText) (pc' := 21) (st := []) (As := [.int p1]) rfl ln_12_304 lb_X12_isKey (t_X12_isKey (N := N) hW (by omega) g0) (by omega) g0 (Nat.le_of_ble_eq_true rfl) rfl dX12_isText_18 (fun r5 => ?_)
    refine go_br (M := mX12_isText) (pt := 24) (pf := 26) (fun kt kf => r_if_ne (M := mX12_isText) dX12_isText_21 (by decide) kf kt) (fun hc6 => ?_) (fun hc6 => ?_)
    · refine go1 (M := mX12_isText) (pc' := 25) (r_iconst (M := mX12_isText) (v := 0) (by decide) dX12_isText_24) ?_
      exact go_zret (M := mX12_isText) rfl rfl rfl dX12_isText_25
    · refine go1 (M := mX12_isText) (pc' := 27) (r_aload_n (M := mX12_isText) (i := 0) rfl dX12_isText_26) ?_
      refine go_V_SV (M := mX12_isText) (pc' := 30) (st := []) (As := []) rfl ln_12_320 lb_X12_next (t_X12_next (N := N) hW (by omega) g0) (by omega) g0 (Nat.le_of_ble_eq_true rfl) rfl dX12_isText_27 (fun r7 => ?_)
      refine go1 (M := mX12_isText) (pc' := 31) (r_aload_n (M := mX12_isText) (i := 0) rfl dX12_isText_30) ?_
      refine go1 (M := mX12_isText) (pc' := 32) (r_iconst (M := mX12_isText) (v := 2) (by decide) dX12_isText_31) ?_
      refine go1 (M := mX12_isText) (pc' := 33) (r_aload_n (M := mX12_isText) (i := 0) rfl dX12_isText_32) ?_
      refine go1 (M := mX12_isText) (pc' := 36) (r_getI (M := mX12_isText) fl_12_97 g0 rfl dX12_isText_33) ?_
      refine go1 (M := mX12_isText) (pc' := 37) (r_imul (M := mX12_isText) dX12_isText_36) ?_
      refine go1 (M := mX12_isText) (pc' := 38) (r_iload_n (M := mX12_isText) (i := 1) rfl dX12_isText_37) ?_
      refine go1 (M := mX12_isText) (pc' := 39) (r_iadd (M := mX12_isText) dX12_isText_38) ?_
      refine go1 (M := mX12_isText) (pc' := 42) (r_putI (M := mX12_isText) fl_12_136 g0 rfl rfl dX12_isText_39) ?_
      refine go_blx (fun x8 => ?_)
      refine go1 (M := mX12_isText) (pc' := 43) (r_aload_n (M := mX12_isText) (i := 0) rfl dX12_isText_42) ?_
      refine go_V_SI (M := mX12_isText) (pc' := 46) (st := []) (As := []) rfl ln_12_327 lb_X12_part (t_X12_part (N := N) hW (by omega) g0) (by omega) g0 (Nat.le_of_ble_eq_true rfl) rfl dX12_isText_43 (fun r9 => ?_)
      refine go_br (M := mX12_isText) (pt := 49) (pf := 51) (fun kt kf => r_if_ne (M := mX12_isText) dX12_isText_46 (by decide) kf kt) (fun hc10 => ?_) (fun hc10 => ?_)
      · refine go1 (M := mX12_isText) (pc' := 50) (r_iconst (M := mX12_isText) (v := 0) (by decide) dX12_isText_49) ?_
        exact go_zret (M := mX12_isText) rfl rfl rfl dX12_isText_50
      · refine go1 (M := mX12_isText) (pc' := 52) (r_aload_n (M := mX12_isText) (i := 0) rfl dX12_isText_51) ?_
        refine go_V_SV (M := mX12_isText) (pc' := 55) (st := []) (As := []) rfl ln_12_320 lb_X12_next (t_X12_next (N := N) hW (by omega) g0) (by omega) g0 (Nat.le_of_ble_eq_true rfl) rfl dX12_isText_52 (fun r11 => ?_)
        refine go1 (M := mX12_isText) (pc' := 58) (ls' := [some (.ref p0), some (.int (p1 + 1))]) (r_iinc (M := mX12_isText) (ls := [some (.ref p0), some (.int p1)]) (i := 1) (v := p1) (c' := 1) (by decide) rfl (by decide) rfl dX12_isText_55) ?_
        refine go1 (M := mX12_isText) (pc' := 11) (r_goto (M := mX12_isText) dX12_isText_58 (by decide)) ?_
        exact hbk11 (p1 + 1) r11
def lp_X12_isText_11 (N : Nat) (S : SH) (k61 : DY → Option (Int32 × DY)) (p0 : Nat) (p1 : Int32) (x : DY) : Option (Int32 × DY) :=
  itr (fun back (v : Int32 × DY) => lp_X12_isText_11_b N S k61 (fun p1 y => back (p1, y)) p0 v.1 v.2) N (p1, x)
theorem lp_X12_isText_11_t {N d : Nat} {S : SH} (hW : WT S) (hd : 5 ≤ d) (k61 : DY → Option (Int32 × DY)) (p0 : Nat) (p1 : Int32) (x : DY) (g0 : TY S p0 12) (hk61 : ∀ (y : DY), Go mX12_isText d S wSI 61 [some (.ref p0), none] [] y (k61 y)) : Go mX12_isText d S wSI 11 [some (.ref p0), some (.int p1)] [] x (lp_X12_isText_11 N S k61 p0 p1 x) := by
  unfold lp_X12_isText_11
  exact go_itr (L := fun (v : Int32 × DY) => [some (.ref p0), some (.int v.1)]) (X := fun (v : Int32 × DY) => v.2) (fun back hB v => lp_X12_isText_11_b_t (N := N) hW hd k61 (fun p1 y => back (p1, y)) p0 v.1 v.2 g0 hk61 (fun p1 y => hB (p1, y)) ) N (p1, x)
def f_X12_isText (N : Nat) (S : SH) (a0 : Nat) (x : DY) : Option (Int32 × DY) :=
  bl (U1 x a0 33 0) (fun x1 => Option.bind (f_X12_next N S a0 x1) (fun r2 => lp_X12_isText_11 N S (fun y11 => (if (y11.1 a0 34) = 0 then some (1, y11) else some (0, y11))) a0 0 r2))
set_option maxHeartbeats 1000000 in
theorem t_X12_isText {N d : Nat} {S : SH} (hW : WT S) {x : DY} {a0 : Nat} (hd : 5 ≤ d) (h0 : TY S a0 12) : CT mX12_isText d S [.ref a0] x wSI (f_X12_isText N S a0 x) := by
  refine CT.of [some (.ref a0), none] rfl (Nat.le_of_ble_eq_true rfl) (by decide +kernel) ?_
  unfold f_X12_isText
  refine go1 (M := mX12_isText) (pc' := 1) (r_aload_n (M := mX12_isText) (i := 0) rfl dX12_isText_0) ?_
  refine go1 (M := mX12_isText) (pc' := 2) (r_iconst (M := mX12_isText) (v := 0) (by decide) dX12_isText_1) ?_
  refine go1 (M := mX12_isText) (pc' := 5) (r_putI (M := mX12_isText) fl_12_109 h0 rfl rfl dX12_isText_2) ?_
  refine go_blx (fun x1 => ?_)
  refine go1 (M := mX12_isText) (pc' := 6) (r_aload_n (M := mX12_isText) (i := 0) rfl dX12_isText_5) ?_
  refine go_V_SV (M := mX12_isText) (pc' := 9) (st := []) (As := []) rfl ln_12_320 lb_X12_next (t_X12_next (N := N) hW (by omega) h0) (by omega) h0 (Nat.le_of_ble_eq_true rfl) rfl dX12_isText_6 (fun r2 => ?_)
  refine go1 (M := mX12_isText) (pc' := 10) (r_iconst (M := mX12_isText) (v := 0) (by decide) dX12_isText_9) ?_
  refine go1 (M := mX12_isText) (pc' := 11) (ls' := [some (.ref a0), some (.int 0)]) (r_istore_n (M := mX12_isText) (ls := [some (.ref a0), none]) (i := 1) (v := 0) (by decide) rfl dX12_isText_10) ?_
  refine lp_X12_isText_11_t (N := N) hW (by omega) _ a0 0 r2 h0 ?_
  · intro y11
    refine go1 (M := mX12_isText) (pc' := 62) (r_aload_n (M := mX12_isText) (i := 0) rfl dX12_isText_61) ?_
    refine go1 (M := mX12_isText) (pc' := 65) (r_getI (M := mX12_isText) fl_12_112 h0 rfl dX12_isText_62) ?_
    refine go_br (M := mX12_isText) (pt := 68) (pf := 72) (fun kt kf => r_if_ne (M := mX12_isText) dX12_isText_65 (by decide) kf kt) (fun hc13 => ?_) (fun hc13 => ?_)
    · refine go1 (M := mX12_isText) (pc' := 69) (r_iconst (M := mX12_isText) (v := 1) (by decide) dX12_isText_68) ?_
      refine go1 (M := mX12_isText) (pc' := 73) (r_goto (M := mX12_isText) dX12_isText_69 (by decide)) ?_
      exact go_zret (M := mX12_isText) rfl rfl rfl dX12_isText_73
    · refine go1 (M := mX12_isText) (pc' := 73) (r_iconst (M := mX12_isText) (v := 0) (by decide) dX12_isText_72) ?_
      exact go_zret (M := mX12_isText) rfl rfl rfl dX12_isText_73
def f_X12_text (N : Nat) (S : SH) (a0 : Nat) (x : DY) : Option (Int32 × DY) :=
  (if (x.1 a0 29) = 6 then some ((-4), x) else Option.bind (f_X12_isText N S a0 x) (fun r2 => bl (U1 r2.2 a0 28 0) (fun x3 => (if r2.1 = 0 then some (((-100) - (r2.2.1 a0 36)), x3) else bl (U1 x3 a0 29 ((x3.1 a0 29) + 1)) (fun x5 => some (((x5.1 a0 29) - 1), x5))))))
set_option maxHeartbeats 1000000 in
theorem t_X12_text {N d : Nat} {S : SH} (hW : WT S) {x : DY} {a0 : Nat} (hd : 6 ≤ d) (h0 : TY S a0 12) : CT mX12_text d S [.ref a0] x wSI (f_X12_text N S a0 x) := by
  refine CT.of [some (.ref a0), none, none] rfl (Nat.le_of_ble_eq_true rfl) (by decide +kernel) ?_
  unfold f_X12_text
  refine go1 (M := mX12_text) (pc' := 1) (r_aload_n (M := mX12_text) (i := 0) rfl dX12_text_0) ?_
  refine go1 (M := mX12_text) (pc' := 4) (r_getI (M := mX12_text) fl_12_97 h0 rfl dX12_text_1) ?_
  refine go1 (M := mX12_text) (pc' := 6) (r_bipush (M := mX12_text) (v := 6) (by decide) dX12_text_4) ?_
  refine go_br (M := mX12_text) (pt := 9) (pf := 12) (fun kt kf => r_icmp_ne (M := mX12_text) dX12_text_6 (by decide) kf kt) (fun hc1 => ?_) (fun hc1 => ?_)
  · refine go1 (M := mX12_text) (pc' := 11) (r_bipush (M := mX12_text) (v := (-4)) (by decide) dX12_text_9) ?_
    exact go_iret (M := mX12_text) rfl rfl dX12_text_11
  · refine go1 (M := mX12_text) (pc' := 13) (r_aload_n (M := mX12_text) (i := 0) rfl dX12_text_12) ?_
    refine go_V_SI (M := mX12_text) (pc' := 16) (st := []) (As := []) rfl ln_12_331 lb_X12_isText (t_X12_isText (N := N) hW (by omega) h0) (by omega) h0 (Nat.le_of_ble_eq_true rfl) rfl dX12_text_13 (fun r2 => ?_)
    refine go1 (M := mX12_text) (pc' := 17) (ls' := [some (.ref a0), some (.int r2.1), none]) (r_istore_n (M := mX12_text) (ls := [some (.ref a0), none, none]) (i := 1) (v := r2.1) (by decide) rfl dX12_text_16) ?_
    refine go1 (M := mX12_text) (pc' := 18) (r_aload_n (M := mX12_text) (i := 0) rfl dX12_text_17) ?_
    refine go1 (M := mX12_text) (pc' := 21) (r_getI (M := mX12_text) fl_12_118 h0 rfl dX12_text_18) ?_
    refine go1 (M := mX12_text) (pc' := 22) (ls' := [some (.ref a0), some (.int r2.1), some (.int (r2.2.1 a0 36))]) (r_istore_n (M := mX12_text) (ls := [some (.ref a0), some (.int r2.1), none]) (i := 2) (v := (r2.2.1 a0 36)) (by decide) rfl dX12_text_21) ?_
    refine go1 (M := mX12_text) (pc' := 23) (r_aload_n (M := mX12_text) (i := 0) rfl dX12_text_22) ?_
    refine go1 (M := mX12_text) (pc' := 24) (r_iconst (M := mX12_text) (v := 0) (by decide) dX12_text_23) ?_
    refine go1 (M := mX12_text) (pc' := 27) (r_putI (M := mX12_text) fl_12_94 h0 rfl rfl dX12_text_24) ?_
    refine go_blx (fun x3 => ?_)
    refine go1 (M := mX12_text) (pc' := 28) (r_iload_n (M := mX12_text) (i := 1) rfl dX12_text_27) ?_
    refine go_br (M := mX12_text) (pt := 31) (pf := 36) (fun kt kf => r_if_ne (M := mX12_text) dX12_text_28 (by decide) kf kt) (fun hc4 => ?_) (fun hc4 => ?_)
    · refine go1 (M := mX12_text) (pc' := 33) (r_bipush (M := mX12_text) (v := (-100)) (by decide) dX12_text_31) ?_
      refine go1 (M := mX12_text) (pc' := 34) (r_iload_n (M := mX12_text) (i := 2) rfl dX12_text_33) ?_
      refine go1 (M := mX12_text) (pc' := 35) (r_isub (M := mX12_text) dX12_text_34) ?_
      exact go_iret (M := mX12_text) rfl rfl dX12_text_35
    · refine go1 (M := mX12_text) (pc' := 37) (r_aload_n (M := mX12_text) (i := 0) rfl dX12_text_36) ?_
      refine go1 (M := mX12_text) (pc' := 38) (r_dup (M := mX12_text) rfl dX12_text_37) ?_
      refine go1 (M := mX12_text) (pc' := 41) (r_getI (M := mX12_text) fl_12_97 h0 rfl dX12_text_38) ?_
      refine go1 (M := mX12_text) (pc' := 42) (r_iconst (M := mX12_text) (v := 1) (by decide) dX12_text_41) ?_
      refine go1 (M := mX12_text) (pc' := 43) (r_iadd (M := mX12_text) dX12_text_42) ?_
      refine go1 (M := mX12_text) (pc' := 46) (r_putI (M := mX12_text) fl_12_97 h0 rfl rfl dX12_text_43) ?_
      refine go_blx (fun x5 => ?_)
      refine go1 (M := mX12_text) (pc' := 47) (r_aload_n (M := mX12_text) (i := 0) rfl dX12_text_46) ?_
      refine go1 (M := mX12_text) (pc' := 50) (r_getI (M := mX12_text) fl_12_97 h0 rfl dX12_text_47) ?_
      refine go1 (M := mX12_text) (pc' := 51) (r_iconst (M := mX12_text) (v := 1) (by decide) dX12_text_50) ?_
      refine go1 (M := mX12_text) (pc' := 52) (r_isub (M := mX12_text) dX12_text_51) ?_
      exact go_iret (M := mX12_text) rfl rfl dX12_text_52
def f_X12_force (N : Nat) (S : SH) (a0 : Nat) (a1 : Int32) (x : DY) : Option (Int32 × DY) :=
  Option.bind (f_X12_in N S a0 a1 0 ((x.1 a0 29) - 1) x) (fun r1 => (if r1 = 0 then some ((-2), x) else bl (U1 x a0 30 a1) (fun x3 => some ((x.1 a0 30), x3))))
set_option maxHeartbeats 1000000 in
theorem t_X12_force {N d : Nat} {S : SH} (hW : WT S) {x : DY} {a0 : Nat} {a1 : Int32} (hd : 2 ≤ d) (h0 : TY S a0 12) : CT mX12_force d S [.ref a0, .int a1] x wSI (f_X12_force N S a0 a1 x) := by
  refine CT.of [some (.ref a0), some (.int a1), none] rfl (Nat.le_of_ble_eq_true rfl) (by decide +kernel) ?_
  unfold f_X12_force
  refine go1 (M := mX12_force) (pc' := 1) (r_aload_n (M := mX12_force) (i := 0) rfl dX12_force_0) ?_
  refine go1 (M := mX12_force) (pc' := 2) (r_iload_n (M := mX12_force) (i := 1) rfl dX12_force_1) ?_
  refine go1 (M := mX12_force) (pc' := 3) (r_iconst (M := mX12_force) (v := 0) (by decide) dX12_force_2) ?_
  refine go1 (M := mX12_force) (pc' := 4) (r_aload_n (M := mX12_force) (i := 0) rfl dX12_force_3) ?_
  refine go1 (M := mX12_force) (pc' := 7) (r_getI (M := mX12_force) fl_12_97 h0 rfl dX12_force_4) ?_
  refine go1 (M := mX12_force) (pc' := 8) (r_iconst (M := mX12_force) (v := 1) (by decide) dX12_force_7) ?_
  refine go1 (M := mX12_force) (pc' := 9) (r_isub (M := mX12_force) dX12_force_8) ?_
  refine go_V_PI (M := mX12_force) (pc' := 12) (st := []) (As := [.int a1, .int 0, .int ((x.1 a0 29) - 1)]) rfl ln_12_217 lb_X12_in (t_X12_in (N := N) hW (by omega) h0) (by omega) h0 (Nat.le_of_ble_eq_true rfl) rfl dX12_force_9 (fun r1 => ?_)
  refine go_br (M := mX12_force) (pt := 15) (pf := 18) (fun kt kf => r_if_ne (M := mX12_force) dX12_force_12 (by decide) kf kt) (fun hc2 => ?_) (fun hc2 => ?_)
  · refine go1 (M := mX12_force) (pc' := 17) (r_bipush (M := mX12_force) (v := (-2)) (by decide) dX12_force_15) ?_
    exact go_iret (M := mX12_force) rfl rfl dX12_force_17
  · refine go1 (M := mX12_force) (pc' := 19) (r_aload_n (M := mX12_force) (i := 0) rfl dX12_force_18) ?_
    refine go1 (M := mX12_force) (pc' := 22) (r_getI (M := mX12_force) fl_12_100 h0 rfl dX12_force_19) ?_
    refine go1 (M := mX12_force) (pc' := 23) (ls' := [some (.ref a0), some (.int a1), some (.int (x.1 a0 30))]) (r_istore_n (M := mX12_force) (ls := [some (.ref a0), some (.int a1), none]) (i := 2) (v := (x.1 a0 30)) (by decide) rfl dX12_force_22) ?_
    refine go1 (M := mX12_force) (pc' := 24) (r_aload_n (M := mX12_force) (i := 0) rfl dX12_force_23) ?_
    refine go1 (M := mX12_force) (pc' := 25) (r_iload_n (M := mX12_force) (i := 1) rfl dX12_force_24) ?_
    refine go1 (M := mX12_force) (pc' := 28) (r_putI (M := mX12_force) fl_12_100 h0 rfl rfl dX12_force_25) ?_
    refine go_blx (fun x3 => ?_)
    refine go1 (M := mX12_force) (pc' := 29) (r_iload_n (M := mX12_force) (i := 2) rfl dX12_force_28) ?_
    exact go_iret (M := mX12_force) rfl rfl dX12_force_29
def j_X12_findFacts_88 (N : Nat) (S : SH) (p0 : Nat) (p1 : Int32) (q0 : Int32) (q1 : Int32) (q2 : Nat) (x : DY) : Option DY :=
  ck S q2 q1 (bl (U1 x q2 q1.toNatClampNeg q0) (fun x27 => ck S (pr S p0 20) p1 (Option.bind (f_X12_roomOf N S p0 (x27.1 (pr S p0 20) p1.toNatClampNeg) x27) (fun r31 => ck S (pr S p0 43) 5 (bl (U1 x27 (pr S p0 43) (5 : Int32).toNatClampNeg r31) (fun x33 => some x33))))))
set_option maxHeartbeats 1000000 in
theorem j_X12_findFacts_88_t {N d : Nat} {S : SH} (hW : WT S) (hd : 2 ≤ d) (p0 : Nat) (p1 : Int32) (q0 : Int32) (q1 : Int32) (q2 : Nat) (x : DY) (g0 : TY S p0 12) (gq2 : TY S q2 14) : Go mX12_findFacts d S wSV 88 [some (.ref p0), some (.int p1), none] [.int q0, .int q1, .ref q2] x (j_X12_findFacts_88 N S p0 p1 q0 q1 q2 x) := by
  unfold j_X12_findFacts_88
  refine go_ck (fun hi26 => ?_)
  refine go1 (M := mX12_findFacts) (pc' := 89) (r_iast (M := mX12_findFacts) gq2 hi26 dX12_findFacts_88) ?_
  refine go_blx (fun x27 => ?_)
  refine go1 (M := mX12_findFacts) (pc' := 90) (r_aload_n (M := mX12_findFacts) (i := 0) rfl dX12_findFacts_89) ?_
  refine go1 (M := mX12_findFacts) (pc' := 93) (r_getR (M := mX12_findFacts) fl_12_139 g0 rfl (wt_some hW g0 (by decide) (by decide) rfl) dX12_findFacts_90) ?_
  have hT28 : TY S (pr S p0 43) 14 := wt hW g0 (by decide) (by decide) rfl (by decide)
  refine go1 (M := mX12_findFacts) (pc' := 94) (r_iconst (M := mX12_findFacts) (v := 5) (by decide) dX12_findFacts_93) ?_
  refine go1 (M := mX12_findFacts) (pc' := 95) (r_aload_n (M := mX12_findFacts) (i := 0) rfl dX12_findFacts_94) ?_
  refine go1 (M := mX12_findFacts) (pc' := 96) (r_aload_n (M := mX12_findFacts) (i := 0) rfl dX12_findFacts_95) ?_
  refine go1 (M := mX12_findFacts) (pc' := 99) (r_getR (M := mX12_findFacts) fl_12_68 g0 rfl (wt_some hW g0 (by decide) (by decide) rfl) dX12_findFacts_96) ?_
  have hT29 : TY S (pr S p0 20) 14 := wt hW g0 (by decide) (by decide) rfl (by decide)
  refine go1 (M := mX12_findFacts) (pc' := 100) (r_iload_n (M := mX12_findFacts) (i := 1) rfl dX12_findFacts_99) ?_
  refine go_ck (fun hi30 => ?_)
  refine go1 (M := mX12_findFacts) (pc' := 101) (r_iald (M := mX12_findFacts) hT29 hi30 dX12_findFacts_100) ?_
  refine go_V_PI (M := mX12_findFacts) (pc' := 104) (st := [.int 5, .ref (pr S p0 43)]) (As := [.int (x27.1 (pr S p0 20) p1.toNatClampNeg)]) rfl ln_12_247 lb_X12_roomOf (t_X12_roomOf (N := N) hW (by omega) g0) (by omega) g0 (Nat.le_of_ble_eq_true rfl) rfl dX12_findFacts_101 (fun r31 => ?_)
  refine go_ck (fun hi32 => ?_)
  refine go1 (M := mX12_findFacts) (pc' := 105) (r_iast (M := mX12_findFacts) hT28 hi32 dX12_findFacts_104) ?_
  refine go_blx (fun x33 => ?_)
  exact go_vret (M := mX12_findFacts) rfl rfl dX12_findFacts_105
def j_X12_findFacts_39 (N : Nat) (S : SH) (p0 : Nat) (p1 : Int32) (p2 : Int32) (q0 : Int32) (q1 : Int32) (q2 : Nat) (x : DY) : Option DY :=
  ck S q2 q1 (bl (U1 x q2 q1.toNatClampNeg q0) (fun x11 => ck S (pr S p0 22) p1 (ck S (pr S p0 43) 2 (bl (U1 x11 (pr S p0 43) (2 : Int32).toNatClampNeg (x11.1 (pr S p0 22) p1.toNatClampNeg)) (fun x16 => ck S (pr S p0 21) p1 (ck S (pr S p0 43) 3 (bl (U1 x16 (pr S p0 43) (3 : Int32).toNatClampNeg (x16.1 (pr S p0 21) p1.toNatClampNeg)) (fun x20 => (if 0 ≤ p2 then ck S (pr S p0 9) p2 (ck S (pr S p0 7) (x20.1 (pr S p0 9) p2.toNatClampNeg) (j_X12_findFacts_88 N S p0 p1 (x20.1 (pr S p0 7) (x20.1 (pr S p0 9) p2.toNatClampNeg).toNatClampNeg) 4 (pr S p0 43) x20)) else j_X12_findFacts_88 N S p0 p1 0 4 (pr S p0 43) x20)))))))))
set_option maxHeartbeats 1000000 in
theorem j_X12_findFacts_39_t {N d : Nat} {S : SH} (hW : WT S) (hd : 2 ≤ d) (p0 : Nat) (p1 : Int32) (p2 : Int32) (q0 : Int32) (q1 : Int32) (q2 : Nat) (x : DY) (g0 : TY S p0 12) (gq2 : TY S q2 14) : Go mX12_findFacts d S wSV 39 [some (.ref p0), some (.int p1), some (.int p2)] [.int q0, .int q1, .ref q2] x (j_X12_findFacts_39 N S p0 p1 p2 q0 q1 q2 x) := by
  unfold j_X12_findFacts_39
  refine go_ck (fun hi10 => ?_)
  refine go1 (M := mX12_findFacts) (pc' := 40) (r_iast (M := mX12_findFacts) gq2 hi10 dX12_findFacts_39) ?_
  refine go_blx (fun x11 => ?_)
  refine go1 (M := mX12_findFacts) (pc' := 41) (r_aload_n (M := mX12_findFacts) (i := 0) rfl dX12_findFacts_40) ?_
  refine go1 (M := mX12_findFacts) (pc' := 44) (r_getR (M := mX12_findFacts) fl_12_139 g0 rfl (wt_some hW g0 (by decide) (by decide) rfl) dX12_findFacts_41) ?_
  have hT12 : TY S (pr S p0 43) 14 := wt hW g0 (by decide) (by decide) rfl (by decide)
  refine go1 (M := mX12_findFacts) (pc' := 45) (r_iconst (M := mX12_findFacts) (v := 2) (by decide) dX12_findFacts_44) ?_
  refine go1 (M := mX12_findFacts) (pc' := 46) (r_aload_n (M := mX12_findFacts) (i := 0) rfl dX12_findFacts_45) ?_
  refine go1 (M := mX12_findFacts) (pc' := 49) (r_getR (M := mX12_findFacts) fl_12_74 g0 rfl (wt_some hW g0 (by decide) (by decide) rfl) dX12_findFacts_46) ?_
  have hT13 : TY S (pr S p0 22) 14 := wt hW g0 (by decide) (by decide) rfl (by decide)
  refine go1 (M := mX12_findFacts) (pc' := 50) (r_iload_n (M := mX12_findFacts) (i := 1) rfl dX12_findFacts_49) ?_
  refine go_ck (fun hi14 => ?_)
  refine go1 (M := mX12_findFacts) (pc' := 51) (r_iald (M := mX12_findFacts) hT13 hi14 dX12_findFacts_50) ?_
  refine go_ck (fun hi15 => ?_)
  refine go1 (M := mX12_findFacts) (pc' := 52) (r_iast (M := mX12_findFacts) hT12 hi15 dX12_findFacts_51) ?_
  refine go_blx (fun x16 => ?_)
  refine go1 (M := mX12_findFacts) (pc' := 53) (r_aload_n (M := mX12_findFacts) (i := 0) rfl dX12_findFacts_52) ?_
  refine go1 (M := mX12_findFacts) (pc' := 56) (r_getR (M := mX12_findFacts) fl_12_139 g0 rfl (wt_some hW g0 (by decide) (by decide) rfl) dX12_findFacts_53) ?_
  refine go1 (M := mX12_findFacts) (pc' := 57) (r_iconst (M := mX12_findFacts) (v := 3) (by decide) dX12_findFacts_56) ?_
  refine go1 (M := mX12_findFacts) (pc' := 58) (r_aload_n (M := mX12_findFacts) (i := 0) rfl dX12_findFacts_57) ?_
  refine go1 (M := mX12_findFacts) (pc' := 61) (r_getR (M := mX12_findFacts) fl_12_71 g0 rfl (wt_some hW g0 (by decide) (by decide) rfl) dX12_findFacts_58) ?_
  have hT17 : TY S (pr S p0 21) 14 := wt hW g0 (by decide) (by decide) rfl (by decide)
  refine go1 (M := mX12_findFacts) (pc' := 62) (r_iload_n (M := mX12_findFacts) (i := 1) rfl dX12_findFacts_61) ?_
  refine go_ck (fun hi18 => ?_)
  refine go1 (M := mX12_findFacts) (pc' := 63) (r_iald (M := mX12_findFacts) hT17 hi18 dX12_findFacts_62) ?_
  refine go_ck (fun hi19 => ?_)
  refine go1 (M := mX12_findFacts) (pc' := 64) (r_iast (M := mX12_findFacts) hT12 hi19 dX12_findFacts_63) ?_
  refine go_blx (fun x20 => ?_)
  refine go1 (M := mX12_findFacts) (pc' := 65) (r_aload_n (M := mX12_findFacts) (i := 0) rfl dX12_findFacts_64) ?_
  refine go1 (M := mX12_findFacts) (pc' := 68) (r_getR (M := mX12_findFacts) fl_12_139 g0 rfl (wt_some hW g0 (by decide) (by decide) rfl) dX12_findFacts_65) ?_
  refine go1 (M := mX12_findFacts) (pc' := 69) (r_iconst (M := mX12_findFacts) (v := 4) (by decide) dX12_findFacts_68) ?_
  refine go1 (M := mX12_findFacts) (pc' := 70) (r_iload_n (M := mX12_findFacts) (i := 2) rfl dX12_findFacts_69) ?_
  refine go_br (M := mX12_findFacts) (pt := 77) (pf := 73) (fun kt kf => r_if_ge (M := mX12_findFacts) dX12_findFacts_70 (by decide) kt kf) (fun hc21 => ?_) (fun hc21 => ?_)
  · refine go1 (M := mX12_findFacts) (pc' := 78) (r_aload_n (M := mX12_findFacts) (i := 0) rfl dX12_findFacts_77) ?_
    refine go1 (M := mX12_findFacts) (pc' := 81) (r_getR (M := mX12_findFacts) fl_12_29 g0 rfl (wt_some hW g0 (by decide) (by decide) rfl) dX12_findFacts_78) ?_
    have hT22 : TY S (pr S p0 7) 14 := wt hW g0 (by decide) (by decide) rfl (by decide)
    refine go1 (M := mX12_findFacts) (pc' := 82) (r_aload_n (M := mX12_findFacts) (i := 0) rfl dX12_findFacts_81) ?_
    refine go1 (M := mX12_findFacts) (pc' := 85) (r_getR (M := mX12_findFacts) fl_12_35 g0 rfl (wt_some hW g0 (by decide) (by decide) rfl) dX12_findFacts_82) ?_
    have hT23 : TY S (pr S p0 9) 14 := wt hW g0 (by decide) (by decide) rfl (by decide)
    refine go1 (M := mX12_findFacts) (pc' := 86) (r_iload_n (M := mX12_findFacts) (i := 2) rfl dX12_findFacts_85) ?_
    refine go_ck (fun hi24 => ?_)
    refine go1 (M := mX12_findFacts) (pc' := 87) (r_iald (M := mX12_findFacts) hT23 hi24 dX12_findFacts_86) ?_
    refine go_ck (fun hi25 => ?_)
    refine go1 (M := mX12_findFacts) (pc' := 88) (r_iald (M := mX12_findFacts) hT22 hi25 dX12_findFacts_87) ?_
    refine go_drop (ls' := [some (.ref p0), some (.int p1), none]) (And.intro rfl (And.intro rfl trivial)) ?_
    exact j_X12_findFacts_88_t (N := N) hW (by omega) p0 p1 (x20.1 (pr S p0 7) (x20.1 (pr S p0 9) p2.toNatClampNeg).toNatClampNeg) 4 (pr S p0 43) x20 g0 hT12
  · refine go1 (M := mX12_findFacts) (pc' := 74) (r_iconst (M := mX12_findFacts) (v := 0) (by decide) dX12_findFacts_73) ?_
    refine go1 (M := mX12_findFacts) (pc' := 88) (r_goto (M := mX12_findFacts) dX12_findFacts_74 (by decide)) ?_
    refine go_drop (ls' := [some (.ref p0), some (.int p1), none]) (And.intro rfl (And.intro rfl trivial)) ?_
    exact j_X12_findFacts_88_t (N := N) hW (by omega) p0 p1 0 4 (pr S p0 43) x20 g0 hT12
def j_X12_findFacts_19 (N : Nat) (S : SH) (p0 : Nat) (p1 : Int32) (p2 : Int32) (q0 : Int32) (q1 : Int32) (q2 : Nat) (x : DY) : Option DY :=
  ck S q2 q1 (bl (U1 x q2 q1.toNatClampNeg q0) (fun x5 => (if 0 ≤ p2 then ck S (pr S p0 10) p2 (j_X12_findFacts_39 N S p0 p1 p2 (x5.1 (pr S p0 10) p2.toNatClampNeg) 1 (pr S p0 43) x5) else j_X12_findFacts_39 N S p0 p1 p2 0 1 (pr S p0 43) x5)))
set_option maxHeartbeats 1000000 in
theorem j_X12_findFacts_19_t {N d : Nat} {S : SH} (hW : WT S) (hd : 2 ≤ d) (p0 : Nat) (p1 : Int32) (p2 : Int32) (q0 : Int32) (q1 : Int32) (q2 : Nat) (x : DY) (g0 : TY S p0 12) (gq2 : TY S q2 14) : Go mX12_findFacts d S wSV 19 [some (.ref p0), some (.int p1), some (.int p2)] [.int q0, .int q1, .ref q2] x (j_X12_findFacts_19 N S p0 p1 p2 q0 q1 q2 x) := by
  unfold j_X12_findFacts_19
  refine go_ck (fun hi4 => ?_)
  refine go1 (M := mX12_findFacts) (pc' := 20) (r_iast (M := mX12_findFacts) gq2 hi4 dX12_findFacts_19) ?_
  refine go_blx (fun x5 => ?_)
  refine go1 (M := mX12_findFacts) (pc' := 21) (r_aload_n (M := mX12_findFacts) (i := 0) rfl dX12_findFacts_20) ?_
  refine go1 (M := mX12_findFacts) (pc' := 24) (r_getR (M := mX12_findFacts) fl_12_139 g0 rfl (wt_some hW g0 (by decide) (by decide) rfl) dX12_findFacts_21) ?_
  have hT6 : TY S (pr S p0 43) 14 := wt hW g0 (by decide) (by decide) rfl (by decide)
  refine go1 (M := mX12_findFacts) (pc' := 25) (r_iconst (M := mX12_findFacts) (v := 1) (by decide) dX12_findFacts_24) ?_
  refine go1 (M := mX12_findFacts) (pc' := 26) (r_iload_n (M := mX12_findFacts) (i := 2) rfl dX12_findFacts_25) ?_
  refine go_br (M := mX12_findFacts) (pt := 33) (pf := 29) (fun kt kf => r_if_ge (M := mX12_findFacts) dX12_findFacts_26 (by decide) kt kf) (fun hc7 => ?_) (fun hc7 => ?_)
  · refine go1 (M := mX12_findFacts) (pc' := 34) (r_aload_n (M := mX12_findFacts) (i := 0) rfl dX12_findFacts_33) ?_
    refine go1 (M := mX12_findFacts) (pc' := 37) (r_getR (M := mX12_findFacts) fl_12_38 g0 rfl (wt_some hW g0 (by decide) (by decide) rfl) dX12_findFacts_34) ?_
    have hT8 : TY S (pr S p0 10) 14 := wt hW g0 (by decide) (by decide) rfl (by decide)
    refine go1 (M := mX12_findFacts) (pc' := 38) (r_iload_n (M := mX12_findFacts) (i := 2) rfl dX12_findFacts_37) ?_
    refine go_ck (fun hi9 => ?_)
    refine go1 (M := mX12_findFacts) (pc' := 39) (r_iald (M := mX12_findFacts) hT8 hi9 dX12_findFacts_38) ?_
    exact j_X12_findFacts_39_t (N := N) hW (by omega) p0 p1 p2 (x5.1 (pr S p0 10) p2.toNatClampNeg) 1 (pr S p0 43) x5 g0 hT6
  · refine go1 (M := mX12_findFacts) (pc' := 30) (r_iconst (M := mX12_findFacts) (v := 0) (by decide) dX12_findFacts_29) ?_
    refine go1 (M := mX12_findFacts) (pc' := 39) (r_goto (M := mX12_findFacts) dX12_findFacts_30 (by decide)) ?_
    exact j_X12_findFacts_39_t (N := N) hW (by omega) p0 p1 p2 0 1 (pr S p0 43) x5 g0 hT6
def f_X12_findFacts (N : Nat) (S : SH) (a0 : Nat) (a1 : Int32) (a2 : Int32) (x : DY) : Option DY :=
  (if 0 ≤ a2 then Option.bind (f_X12_liked N S a0 a1 a2 x) (fun r3 => j_X12_findFacts_19 N S a0 a1 a2 r3 0 (pr S a0 43) x) else j_X12_findFacts_19 N S a0 a1 a2 0 0 (pr S a0 43) x)
set_option maxHeartbeats 1000000 in
theorem t_X12_findFacts {N d : Nat} {S : SH} (hW : WT S) {x : DY} {a0 : Nat} {a1 : Int32} {a2 : Int32} (hd : 2 ≤ d) (h0 : TY S a0 12) : CT mX12_findFacts d S [.ref a0, .int a1, .int a2] x wSV (f_X12_findFacts N S a0 a1 a2 x) := by
  refine CT.of [some (.ref a0), some (.int a1), some (.int a2)] rfl (Nat.le_of_ble_eq_true rfl) (by decide +kernel) ?_
  unfold f_X12_findFacts
  refine go1 (M := mX12_findFacts) (pc' := 1) (r_aload_n (M := mX12_findFacts) (i := 0) rfl dX12_findFacts_0) ?_
  refine go1 (M := mX12_findFacts) (pc' := 4) (r_getR (M := mX12_findFacts) fl_12_139 h0 rfl (wt_some hW h0 (by decide) (by decide) rfl) dX12_findFacts_1) ?_
  have hT1 : TY S (pr S a0 43) 14 := wt hW h0 (by decide) (by decide) rfl (by decide)
  refine go1 (M := mX12_findFacts) (pc' := 5) (r_iconst (M := mX12_findFacts) (v := 0) (by decide) dX12_findFacts_4) ?_
  refine go1 (M := mX12_findFacts) (pc' := 6) (r_iload_n (M := mX12_findFacts) (i := 2) rfl dX12_findFacts_5) ?_
  refine go_br (M := mX12_findFacts) (pt := 13) (pf := 9) (fun kt kf => r_if_ge (M := mX12_findFacts) dX12_findFacts_6 (by decide) kt kf) (fun hc2 => ?_) (fun hc2 => ?_)
  · refine go1 (M := mX12_findFacts) (pc' := 14) (r_aload_n (M := mX12_findFacts) (i := 0) rfl dX12_findFacts_13) ?_
    refine go1 (M := mX12_findFacts) (pc' := 15) (r_iload_n (M := mX12_findFacts) (i := 1) rfl dX12_findFacts_14) ?_
    refine go1 (M := mX12_findFacts) (pc' := 16) (r_iload_n (M := mX12_findFacts) (i := 2) rfl dX12_findFacts_15) ?_
    refine go_V_PI (M := mX12_findFacts) (pc' := 19) (st := [.int 0, .ref (pr S a0 43)]) (As := [.int a1, .int a2]) rfl ln_12_254 lb_X12_liked (t_X12_liked (N := N) hW (by omega) h0) (by omega) h0 (Nat.le_of_ble_eq_true rfl) rfl dX12_findFacts_16 (fun r3 => ?_)
    exact j_X12_findFacts_19_t (N := N) hW (by omega) a0 a1 a2 r3 0 (pr S a0 43) x h0 hT1
  · refine go1 (M := mX12_findFacts) (pc' := 10) (r_iconst (M := mX12_findFacts) (v := 0) (by decide) dX12_findFacts_9) ?_
    refine go1 (M := mX12_findFacts) (pc' := 19) (r_goto (M := mX12_findFacts) dX12_findFacts_10 (by decide)) ?_
    exact j_X12_findFacts_19_t (N := N) hW (by omega) a0 a1 a2 0 0 (pr S a0 43) x h0 hT1
def f_X12_both (N : Nat) (S : SH) (a0 : Nat) (a1 : Int32) (a2 : Int32) (a3 : Int32) (x : DY) : Option Int32 :=
  (if a1 = (-7) then some (a2 - a3) else (if a1 = (-6) then some (a2 + a3) else (if a1 = (-5) then (if a2 = a3 then some 1 else some 0) else (if a1 = (-4) then (if a3 ≤ a2 then some 0 else some 1) else (if a1 = (-3) then some (a2 * a3) else (if a1 = (-2) then (if a2 = 0 then some 0 else (if a3 = 0 then some 0 else some 1)) else (if a1 = (-1) then (if a2 = 0 then (if a3 = 0 then some 0 else some 1) else some 1) else some (a2 * a3))))))))
set_option maxHeartbeats 1000000 in
theorem t_X12_both {N d : Nat} {S : SH} (hW : WT S) {x : DY} {a0 : Nat} {a1 : Int32} {a2 : Int32} {a3 : Int32} (hd : 1 ≤ d) (h0 : TY S a0 12) : CT mX12_both d S [.ref a0, .int a1, .int a2, .int a3] x (wPI x) (f_X12_both N S a0 a1 a2 a3 x) := by
  refine CT.of [some (.ref a0), some (.int a1), some (.int a2), some (.int a3)] rfl (Nat.le_of_ble_eq_true rfl) (by decide +kernel) ?_
  unfold f_X12_both
  refine go1 (M := mX12_both) (pc' := 1) (r_iload_n (M := mX12_both) (i := 1) rfl dX12_both_0) ?_
  refine go_case (fun hk1 => ?_) (fun hk1 => ?_)
  · refine go1 (M := mX12_both) (pc' := 98) (r_tsw (M := mX12_both) (off := 97) dX12_both_1 (by rw [hk1]; decide) (by decide)) ?_
    refine go1 (M := mX12_both) (pc' := 99) (r_iload_n (M := mX12_both) (i := 2) rfl dX12_both_98) ?_
    refine go1 (M := mX12_both) (pc' := 100) (r_iload_n (M := mX12_both) (i := 3) rfl dX12_both_99) ?_
    refine go1 (M := mX12_both) (pc' := 101) (r_isub (M := mX12_both) dX12_both_100) ?_
    exact go_iret (M := mX12_both) rfl rfl dX12_both_101
  · refine go_case (fun hk2 => ?_) (fun hk2 => ?_)
    · refine go1 (M := mX12_both) (pc' := 94) (r_tsw (M := mX12_both) (off := 93) dX12_both_1 (by rw [hk2]; decide) (by decide)) ?_
      refine go1 (M := mX12_both) (pc' := 95) (r_iload_n (M := mX12_both) (i := 2) rfl dX12_both_94) ?_
      refine go1 (M := mX12_both) (pc' := 96) (r_iload_n (M := mX12_both) (i := 3) rfl dX12_both_95) ?_
      refine go1 (M := mX12_both) (pc' := 97) (r_iadd (M := mX12_both) dX12_both_96) ?_
      exact go_iret (M := mX12_both) rfl rfl dX12_both_97
    · refine go_case (fun hk3 => ?_) (fun hk3 => ?_)
      · refine go1 (M := mX12_both) (pc' := 83) (r_tsw (M := mX12_both) (off := 82) dX12_both_1 (by rw [hk3]; decide) (by decide)) ?_
        refine go1 (M := mX12_both) (pc' := 84) (r_iload_n (M := mX12_both) (i := 2) rfl dX12_both_83) ?_
        refine go1 (M := mX12_both) (pc' := 85) (r_iload_n (M := mX12_both) (i := 3) rfl dX12_both_84) ?_
        refine go_br (M := mX12_both) (pt := 88) (pf := 92) (fun kt kf => r_icmp_ne (M := mX12_both) dX12_both_85 (by decide) kf kt) (fun hc4 => ?_) (fun hc4 => ?_)
        · refine go1 (M := mX12_both) (pc' := 89) (r_iconst (M := mX12_both) (v := 1) (by decide) dX12_both_88) ?_
          refine go1 (M := mX12_both) (pc' := 93) (r_goto (M := mX12_both) dX12_both_89 (by decide)) ?_
          exact go_iret (M := mX12_both) rfl rfl dX12_both_93
        · refine go1 (M := mX12_both) (pc' := 93) (r_iconst (M := mX12_both) (v := 0) (by decide) dX12_both_92) ?_
          exact go_iret (M := mX12_both) rfl rfl dX12_both_93
      · refine go_case (fun hk5 => ?_) (fun hk5 => ?_)
        · refine go1 (M := mX12_both) (pc' := 72) (r_tsw (M := mX12_both) (off := 71) dX12_both_1 (by rw [hk5]; decide) (by decide)) ?_
          refine go1 (M := mX12_both) (pc' := 73) (r_iload_n (M := mX12_both) (i := 2) rfl dX12_both_72) ?_
          refine go1 (M := mX12_both) (pc' := 74) (r_iload_n (M := mX12_both) (i := 3) rfl dX12_both_73) ?_
          refine go_br (M := mX12_both) (pt := 81) (pf := 77) (fun kt kf => r_icmp_ge (M := mX12_both) dX12_both_74 (by decide) kt kf) (fun hc6 => ?_) (fun hc6 => ?_)
          · refine go1 (M := mX12_both) (pc' := 82) (r_iconst (M := mX12_both) (v := 0) (by decide) dX12_both_81) ?_
            exact go_iret (M := mX12_both) rfl rfl dX12_both_82
          · refine go1 (M := mX12_both) (pc' := 78) (r_iconst (M := mX12_both) (v := 1) (by decide) dX12_both_77) ?_
            refine go1 (M := mX12_both) (pc' := 82) (r_goto (M := mX12_both) dX12_both_78 (by decide)) ?_
            exact go_iret (M := mX12_both) rfl rfl dX12_both_82
        · refine go_case (fun hk7 => ?_) (fun hk7 => ?_)
          · refine go1 (M := mX12_both) (pc' := 102) (r_tsw (M := mX12_both) (off := 101) dX12_both_1 (by rw [hk7]; decide) (by decide)) ?_
            refine go1 (M := mX12_both) (pc' := 103) (r_iload_n (M := mX12_both) (i := 2) rfl dX12_both_102) ?_
            refine go1 (M := mX12_both) (pc' := 104) (r_iload_n (M := mX12_both) (i := 3) rfl dX12_both_103) ?_
            refine go1 (M := mX12_both) (pc' := 105) (r_imul (M := mX12_both) dX12_both_104) ?_
            exact go_iret (M := mX12_both) rfl rfl dX12_both_105
          · refine go_case (fun hk8 => ?_) (fun hk8 => ?_)
            · refine go1 (M := mX12_both) (pc' := 58) (r_tsw (M := mX12_both) (off := 57) dX12_both_1 (by rw [hk8]; decide) (by decide)) ?_
              refine go1 (M := mX12_both) (pc' := 59) (r_iload_n (M := mX12_both) (i := 2) rfl dX12_both_58) ?_
              refine go_br (M := mX12_both) (pt := 70) (pf := 62) (fun kt kf => r_if_eq (M := mX12_both) dX12_both_59 (by decide) kt kf) (fun hc9 => ?_) (fun hc9 => ?_)
              · refine go1 (M := mX12_both) (pc' := 71) (r_iconst (M := mX12_both) (v := 0) (by decide) dX12_both_70) ?_
                exact go_iret (M := mX12_both) rfl rfl dX12_both_71
              · refine go1 (M := mX12_both) (pc' := 63) (r_iload_n (M := mX12_both) (i := 3) rfl dX12_both_62) ?_
                refine go_br (M := mX12_both) (pt := 70) (pf := 66) (fun kt kf => r_if_eq (M := mX12_both) dX12_both_63 (by decide) kt kf) (fun hc10 => ?_) (fun hc10 => ?_)
                · refine go1 (M := mX12_both) (pc' := 71) (r_iconst (M := mX12_both) (v := 0) (by decide) dX12_both_70) ?_
                  exact go_iret (M := mX12_both) rfl rfl dX12_both_71
                · refine go1 (M := mX12_both) (pc' := 67) (r_iconst (M := mX12_both) (v := 1) (by decide) dX12_both_66) ?_
                  refine go1 (M := mX12_both) (pc' := 71) (r_goto (M := mX12_both) dX12_both_67 (by decide)) ?_
                  exact go_iret (M := mX12_both) rfl rfl dX12_both_71
            · refine go_case (fun hk11 => ?_) (fun hk11 => ?_)
              · refine go1 (M := mX12_both) (pc' := 44) (r_tsw (M := mX12_both) (off := 43) dX12_both_1 (by rw [hk11]; decide) (by decide)) ?_
                refine go1 (M := mX12_both) (pc' := 45) (r_iload_n (M := mX12_both) (i := 2) rfl dX12_both_44) ?_
                refine go_br (M := mX12_both) (pt := 48) (pf := 52) (fun kt kf => r_if_ne (M := mX12_both) dX12_both_45 (by decide) kf kt) (fun hc12 => ?_) (fun hc12 => ?_)
                · refine go1 (M := mX12_both) (pc' := 49) (r_iload_n (M := mX12_both) (i := 3) rfl dX12_both_48) ?_
                  refine go_br (M := mX12_both) (pt := 56) (pf := 52) (fun kt kf => r_if_eq (M := mX12_both) dX12_both_49 (by decide) kt kf) (fun hc13 => ?_) (fun hc13 => ?_)
                  · refine go1 (M := mX12_both) (pc' := 57) (r_iconst (M := mX12_both) (v := 0) (by decide) dX12_both_56) ?_
                    exact go_iret (M := mX12_both) rfl rfl dX12_both_57
                  · refine go1 (M := mX12_both) (pc' := 53) (r_iconst (M := mX12_both) (v := 1) (by decide) dX12_both_52) ?_
                    refine go1 (M := mX12_both) (pc' := 57) (r_goto (M := mX12_both) dX12_both_53 (by decide)) ?_
                    exact go_iret (M := mX12_both) rfl rfl dX12_both_57
                · refine go1 (M := mX12_both) (pc' := 53) (r_iconst (M := mX12_both) (v := 1) (by decide) dX12_both_52) ?_
                  refine go1 (M := mX12_both) (pc' := 57) (r_goto (M := mX12_both) dX12_both_53 (by decide)) ?_
                  exact go_iret (M := mX12_both) rfl rfl dX12_both_57
              · have hq0 := lv_neT hk1 (show ((-7) : Int32).toInt = (-7 : Int) by decide)
                have hq1 := lv_neT hk2 (show ((-6) : Int32).toInt = (-6 : Int) by decide)
                have hq2 := lv_neT hk3 (show ((-5) : Int32).toInt = (-5 : Int) by decide)
                have hq3 := lv_neT hk5 (show ((-4) : Int32).toInt = (-4 : Int) by decide)
                have hq4 := lv_neT hk7 (show ((-3) : Int32).toInt = (-3 : Int) by decide)
                have hq5 := lv_neT hk8 (show ((-2) : Int32).toInt = (-2 : Int) by decide)
                have hq6 := lv_neT hk11 (show ((-1) : Int32).toInt = (-1 : Int) by decide)
                refine go1 (M := mX12_both) (pc' := 102) (r_tswO (M := mX12_both) dX12_both_1 (by omega) (by decide)) ?_
                refine go1 (M := mX12_both) (pc' := 103) (r_iload_n (M := mX12_both) (i := 2) rfl dX12_both_102) ?_
                refine go1 (M := mX12_both) (pc' := 104) (r_iload_n (M := mX12_both) (i := 3) rfl dX12_both_103) ?_
                refine go1 (M := mX12_both) (pc' := 105) (r_imul (M := mX12_both) dX12_both_104) ?_
                exact go_iret (M := mX12_both) rfl rfl dX12_both_105
def j_X12_work_172 (N : Nat) (S : SH) (bk14 : Int32 → Int32 → DY → Option (Int32 × DY)) (p0 : Nat) (p2 : Int32) (p3 : Int32) (p4 : Int32) (x : DY) : Option (Int32 × DY) :=
  bk14 p3 (p4 + 1) x
set_option maxHeartbeats 1000000 in
theorem j_X12_work_172_t {N d : Nat} {S : SH} (hW : WT S) (hd : 1 ≤ d) (bk14 : Int32 → Int32 → DY → Option (Int32 × DY)) (p0 : Nat) (p2 : Int32) (p3 : Int32) (p4 : Int32) (x : DY) (g0 : TY S p0 12) (hbk14 : ∀ (v3 : Int32) (v4 : Int32) (y : DY), Go mX12_work d S wSI 14 [some (.ref p0), none, some (.int p2), some (.int v3), some (.int v4), none] [] y (bk14 v3 v4 y)) : Go mX12_work d S wSI 172 [some (.ref p0), none, some (.int p2), some (.int p3), some (.int p4), none] [] x (j_X12_work_172 N S bk14 p0 p2 p3 p4 x) := by
  unfold j_X12_work_172
  refine go1 (M := mX12_work) (pc' := 175) (ls' := [some (.ref p0), none, some (.int p2), some (.int p3), some (.int (p4 + 1)), none]) (r_iinc (M := mX12_work) (ls := [some (.ref p0), none, some (.int p2), some (.int p3), some (.int p4), none]) (i := 4) (v := p4) (c' := 1) (by decide) rfl (by decide) rfl dX12_work_172) ?_
  refine go1 (M := mX12_work) (pc' := 14) (r_goto (M := mX12_work) dX12_work_175 (by decide)) ?_
  exact hbk14 p3 (p4 + 1) x
def j_X12_work_137 (N : Nat) (S : SH) (bk14 : Int32 → Int32 → DY → Option (Int32 × DY)) (p0 : Nat) (p2 : Int32) (p3 : Int32) (p4 : Int32) (q0 : Int32) (q1 : Int32) (q2 : Nat) (x : DY) : Option (Int32 × DY) :=
  ck S q2 q1 (bl (U1 x q2 q1.toNatClampNeg q0) (fun x16 => j_X12_work_172 N S bk14 p0 p2 p3 p4 x16))
set_option maxHeartbeats 1000000 in
theorem j_X12_work_137_t {N d : Nat} {S : SH} (hW : WT S) (hd : 1 ≤ d) (bk14 : Int32 → Int32 → DY → Option (Int32 × DY)) (p0 : Nat) (p2 : Int32) (p3 : Int32) (p4 : Int32) (q0 : Int32) (q1 : Int32) (q2 : Nat) (x : DY) (g0 : TY S p0 12) (gq2 : TY S q2 14) (hbk14 : ∀ (v3 : Int32) (v4 : Int32) (y : DY), Go mX12_work d S wSI 14 [some (.ref p0), none, some (.int p2), some (.int v3), some (.int v4), none] [] y (bk14 v3 v4 y)) : Go mX12_work d S wSI 137 [some (.ref p0), none, some (.int p2), some (.int p3), some (.int p4), none] [.int q0, .int q1, .ref q2] x (j_X12_work_137 N S bk14 p0 p2 p3 p4 q0 q1 q2 x) := by
  unfold j_X12_work_137
  refine go_ck (fun hi15 => ?_)
  refine go1 (M := mX12_work) (pc' := 138) (r_iast (M := mX12_work) gq2 hi15 dX12_work_137) ?_
  refine go_blx (fun x16 => ?_)
  refine go1 (M := mX12_work) (pc' := 172) (r_goto (M := mX12_work) dX12_work_138 (by decide)) ?_
  exact j_X12_work_172_t (N := N) hW (by omega) bk14 p0 p2 p3 p4 x16 g0 hbk14
def j_X12_work_95 (N : Nat) (S : SH) (bk14 : Int32 → Int32 → DY → Option (Int32 × DY)) (p0 : Nat) (p2 : Int32) (p3 : Int32) (p4 : Int32) (p5 : Int32) (x : DY) : Option (Int32 × DY) :=
  (if p5 = (-9) then ck S (pr S p0 44) (p3 - 1) (j_X12_work_137 N S bk14 p0 p2 p3 p4 ((-(x.1 (pr S p0 44) (p3 - 1).toNatClampNeg))) (p3 - 1) (pr S p0 44) x) else ck S (pr S p0 44) (p3 - 1) ((if (x.1 (pr S p0 44) (p3 - 1).toNatClampNeg) = 0 then j_X12_work_137 N S bk14 p0 p2 p3 p4 1 (p3 - 1) (pr S p0 44) x else j_X12_work_137 N S bk14 p0 p2 p3 p4 0 (p3 - 1) (pr S p0 44) x)))
set_option maxHeartbeats 1000000 in
theorem j_X12_work_95_t {N d : Nat} {S : SH} (hW : WT S) (hd : 1 ≤ d) (bk14 : Int32 → Int32 → DY → Option (Int32 × DY)) (p0 : Nat) (p2 : Int32) (p3 : Int32) (p4 : Int32) (p5 : Int32) (x : DY) (g0 : TY S p0 12) (hbk14 : ∀ (v3 : Int32) (v4 : Int32) (y : DY), Go mX12_work d S wSI 14 [some (.ref p0), none, some (.int p2), some (.int v3), some (.int v4), none] [] y (bk14 v3 v4 y)) : Go mX12_work d S wSI 95 [some (.ref p0), none, some (.int p2), some (.int p3), some (.int p4), some (.int p5)] [] x (j_X12_work_95 N S bk14 p0 p2 p3 p4 p5 x) := by
  unfold j_X12_work_95
  refine go1 (M := mX12_work) (pc' := 96) (r_aload_n (M := mX12_work) (i := 0) rfl dX12_work_95) ?_
  refine go1 (M := mX12_work) (pc' := 99) (r_getR (M := mX12_work) fl_12_142 g0 rfl (wt_some hW g0 (by decide) (by decide) rfl) dX12_work_96) ?_
  have hT11 : TY S (pr S p0 44) 14 := wt hW g0 (by decide) (by decide) rfl (by decide)
  refine go1 (M := mX12_work) (pc' := 100) (r_iload_n (M := mX12_work) (i := 3) rfl dX12_work_99) ?_
  refine go1 (M := mX12_work) (pc' := 101) (r_iconst (M := mX12_work) (v := 1) (by decide) dX12_work_100) ?_
  refine go1 (M := mX12_work) (pc' := 102) (r_isub (M := mX12_work) dX12_work_101) ?_
  refine go1 (M := mX12_work) (pc' := 104) (r_iload (M := mX12_work) (i := 5) rfl dX12_work_102) ?_
  refine go1 (M := mX12_work) (pc' := 106) (r_bipush (M := mX12_work) (v := (-9)) (by decide) dX12_work_104) ?_
  refine go_br (M := mX12_work) (pt := 109) (pf := 121) (fun kt kf => r_icmp_ne (M := mX12_work) dX12_work_106 (by decide) kf kt) (fun hc12 => ?_) (fun hc12 => ?_)
  · refine go1 (M := mX12_work) (pc' := 110) (r_aload_n (M := mX12_work) (i := 0) rfl dX12_work_109) ?_
    refine go1 (M := mX12_work) (pc' := 113) (r_getR (M := mX12_work) fl_12_142 g0 rfl (wt_some hW g0 (by decide) (by decide) rfl) dX12_work_110) ?_
    refine go1 (M := mX12_work) (pc' := 114) (r_iload_n (M := mX12_work) (i := 3) rfl dX12_work_113) ?_
    refine go1 (M := mX12_work) (pc' := 115) (r_iconst (M := mX12_work) (v := 1) (by decide) dX12_work_114) ?_
    refine go1 (M := mX12_work) (pc' := 116) (r_isub (M := mX12_work) dX12_work_115) ?_
    refine go_ck (fun hi17 => ?_)
    refine go1 (M := mX12_work) (pc' := 117) (r_iald (M := mX12_work) hT11 hi17 dX12_work_116) ?_
    refine go1 (M := mX12_work) (pc' := 118) (r_ineg (M := mX12_work) dX12_work_117) ?_
    refine go1 (M := mX12_work) (pc' := 137) (r_goto (M := mX12_work) dX12_work_118 (by decide)) ?_
    refine go_drop (ls' := [some (.ref p0), none, some (.int p2), some (.int p3), some (.int p4), none]) (And.intro rfl (And.intro rfl (And.intro rfl (And.intro rfl trivial)))) ?_
    exact j_X12_work_137_t (N := N) hW (by omega) bk14 p0 p2 p3 p4 ((-(x.1 (pr S p0 44) (p3 - 1).toNatClampNeg))) (p3 - 1) (pr S p0 44) x g0 hT11 hbk14
  · refine go1 (M := mX12_work) (pc' := 122) (r_aload_n (M := mX12_work) (i := 0) rfl dX12_work_121) ?_
    refine go1 (M := mX12_work) (pc' := 125) (r_getR (M := mX12_work) fl_12_142 g0 rfl (wt_some hW g0 (by decide) (by decide) rfl) dX12_work_122) ?_
    refine go1 (M := mX12_work) (pc' := 126) (r_iload_n (M := mX12_work) (i := 3) rfl dX12_work_125) ?_
    refine go1 (M := mX12_work) (pc' := 127) (r_iconst (M := mX12_work) (v := 1) (by decide) dX12_work_126) ?_
    refine go1 (M := mX12_work) (pc' := 128) (r_isub (M := mX12_work) dX12_work_127) ?_
    refine go_ck (fun hi13 => ?_)
    refine go1 (M := mX12_work) (pc' := 129) (r_iald (M := mX12_work) hT11 hi13 dX12_work_128) ?_
    refine go_br (M := mX12_work) (pt := 132) (pf := 136) (fun kt kf => r_if_ne (M := mX12_work) dX12_work_129 (by decide) kf kt) (fun hc14 => ?_) (fun hc14 => ?_)
    · refine go1 (M := mX12_work) (pc' := 133) (r_iconst (M := mX12_work) (v := 1) (by decide) dX12_work_132) ?_
      refine go1 (M := mX12_work) (pc' := 137) (r_goto (M := mX12_work) dX12_work_133 (by decide)) ?_
      refine go_drop (ls' := [some (.ref p0), none, some (.int p2), some (.int p3), some (.int p4), none]) (And.intro rfl (And.intro rfl (And.intro rfl (And.intro rfl trivial)))) ?_
      exact j_X12_work_137_t (N := N) hW (by omega) bk14 p0 p2 p3 p4 1 (p3 - 1) (pr S p0 44) x g0 hT11 hbk14
    · refine go1 (M := mX12_work) (pc' := 137) (r_iconst (M := mX12_work) (v := 0) (by decide) dX12_work_136) ?_
      refine go_drop (ls' := [some (.ref p0), none, some (.int p2), some (.int p3), some (.int p4), none]) (And.intro rfl (And.intro rfl (And.intro rfl (And.intro rfl trivial)))) ?_
      exact j_X12_work_137_t (N := N) hW (by omega) bk14 p0 p2 p3 p4 0 (p3 - 1) (pr S p0 44) x g0 hT11 hbk14
def j_X12_work_74 (N : Nat) (S : SH) (bk14 : Int32 → Int32 → DY → Option (Int32 × DY)) (p0 : Nat) (p2 : Int32) (p3 : Int32) (p4 : Int32) (q0 : Int32) (q1 : Int32) (q2 : Nat) (x : DY) : Option (Int32 × DY) :=
  ck S q2 q1 (bl (U1 x q2 q1.toNatClampNeg q0) (fun x30 => j_X12_work_172 N S bk14 p0 p2 (p3 + 1) p4 x30))
set_option maxHeartbeats 1000000 in
theorem j_X12_work_74_t {N d : Nat} {S : SH} (hW : WT S) (hd : 2 ≤ d) (bk14 : Int32 → Int32 → DY → Option (Int32 × DY)) (p0 : Nat) (p2 : Int32) (p3 : Int32) (p4 : Int32) (q0 : Int32) (q1 : Int32) (q2 : Nat) (x : DY) (g0 : TY S p0 12) (gq2 : TY S q2 14) (hbk14 : ∀ (v3 : Int32) (v4 : Int32) (y : DY), Go mX12_work d S wSI 14 [some (.ref p0), none, some (.int p2), some (.int v3), some (.int v4), none] [] y (bk14 v3 v4 y)) : Go mX12_work d S wSI 74 [some (.ref p0), none, some (.int p2), some (.int p3), some (.int p4), none] [.int q0, .int q1, .ref q2] x (j_X12_work_74 N S bk14 p0 p2 p3 p4 q0 q1 q2 x) := by
  unfold j_X12_work_74
  refine go_ck (fun hi29 => ?_)
  refine go1 (M := mX12_work) (pc' := 75) (r_iast (M := mX12_work) gq2 hi29 dX12_work_74) ?_
  refine go_blx (fun x30 => ?_)
  refine go1 (M := mX12_work) (pc' := 78) (ls' := [some (.ref p0), none, some (.int p2), some (.int (p3 + 1)), some (.int p4), none]) (r_iinc (M := mX12_work) (ls := [some (.ref p0), none, some (.int p2), some (.int p3), some (.int p4), none]) (i := 3) (v := p3) (c' := 1) (by decide) rfl (by decide) rfl dX12_work_75) ?_
  refine go1 (M := mX12_work) (pc' := 172) (r_goto (M := mX12_work) dX12_work_78 (by decide)) ?_
  exact j_X12_work_172_t (N := N) hW (by omega) bk14 p0 p2 (p3 + 1) p4 x30 g0 hbk14
def lp_X12_work_14_b (N : Nat) (S : SH) (bk14 : Int32 → Int32 → DY → Option (Int32 × DY)) (p0 : Nat) (p2 : Int32) (p3 : Int32) (p4 : Int32) (x : DY) : Option (Int32 × DY) :=
  ck S (pr S p0 31) p2 ((if (x.1 (pr S p0 31) p2.toNatClampNeg) ≤ p4 then ck S (pr S p0 44) 0 (some ((x.1 (pr S p0 44) (0 : Int32).toNatClampNeg), x)) else ck S (pr S p0 32) ((160 * p2) + p4) ((if (x.1 (pr S p0 32) ((160 * p2) + p4).toNatClampNeg) < 0 then (if (x.1 (pr S p0 32) ((160 * p2) + p4).toNatClampNeg) = (-3) then j_X12_work_95 N S bk14 p0 p2 p3 p4 (x.1 (pr S p0 32) ((160 * p2) + p4).toNatClampNeg) x else (if (x.1 (pr S p0 32) ((160 * p2) + p4).toNatClampNeg) = (-9) then j_X12_work_95 N S bk14 p0 p2 p3 p4 (x.1 (pr S p0 32) ((160 * p2) + p4).toNatClampNeg) x else ck S (pr S p0 44) ((p3 + (-1)) - 1) (ck S (pr S p0 44) (p3 + (-1)) (Option.bind (f_X12_both N S p0 (x.1 (pr S p0 32) ((160 * p2) + p4).toNatClampNeg) (x.1 (pr S p0 44) ((p3 + (-1)) - 1).toNatClampNeg) (x.1 (pr S p0 44) (p3 + (-1)).toNatClampNeg) x) (fun r22 => ck S (pr S p0 44) ((p3 + (-1)) - 1) (bl (U1 x (pr S p0 44) ((p3 + (-1)) - 1).toNatClampNeg r22) (fun x24 => j_X12_work_172 N S bk14 p0 p2 (p3 + (-1)) p4 x24))))))) else (if 10000 ≤ (x.1 (pr S p0 32) ((160 * p2) + p4).toNatClampNeg) then ck S (pr S p0 43) ((x.1 (pr S p0 32) ((160 * p2) + p4).toNatClampNeg) - 10000) (j_X12_work_74 N S bk14 p0 p2 p3 p4 (x.1 (pr S p0 43) ((x.1 (pr S p0 32) ((160 * p2) + p4).toNatClampNeg) - 10000).toNatClampNeg) p3 (pr S p0 44) x) else j_X12_work_74 N S bk14 p0 p2 p3 p4 (x.1 (pr S p0 32) ((160 * p2) + p4).toNatClampNeg) p3 (pr S p0 44) x)))))
set_option maxHeartbeats 1000000 in
theorem lp_X12_work_14_b_t {N d : Nat} {S : SH} (hW : WT S) (hd : 2 ≤ d) (bk14 : Int32 → Int32 → DY → Option (Int32 × DY)) (p0 : Nat) (p2 : Int32) (p3 : Int32) (p4 : Int32) (x : DY) (g0 : TY S p0 12) (hbk14 : ∀ (v3 : Int32) (v4 : Int32) (y : DY), Go mX12_work d S wSI 14 [some (.ref p0), none, some (.int p2), some (.int v3), some (.int v4), none] [] y (bk14 v3 v4 y)) : Go mX12_work d S wSI 14 [some (.ref p0), none, some (.int p2), some (.int p3), some (.int p4), none] [] x (lp_X12_work_14_b N S bk14 p0 p2 p3 p4 x) := by
  unfold lp_X12_work_14_b
  refine go1 (M := mX12_work) (pc' := 16) (r_iload (M := mX12_work) (i := 4) rfl dX12_work_14) ?_
  refine go1 (M := mX12_work) (pc' := 17) (r_aload_n (M := mX12_work) (i := 0) rfl dX12_work_16) ?_
  refine go1 (M := mX12_work) (pc' := 20) (r_getR (M := mX12_work) fl_12_103 g0 rfl (wt_some hW g0 (by decide) (by decide) rfl) dX12_work_17) ?_
  have hT2 : TY S (pr S p0 31) 14 := wt hW g0 (by decide) (by decide) rfl (by decide)
  refine go1 (M := mX12_work) (pc' := 21) (r_iload_n (M := mX12_work) (i := 2) rfl dX12_work_20) ?_
  refine go_ck (fun hi3 => ?_)
  refine go1 (M := mX12_work) (pc' := 22) (r_iald (M := mX12_work) hT2 hi3 dX12_work_21) ?_
  refine go_br (M := mX12_work) (pt := 178) (pf := 25) (fun kt kf => r_icmp_ge (M := mX12_work) dX12_work_22 (by decide) kt kf) (fun hc4 => ?_) (fun hc4 => ?_)
  · refine go1 (M := mX12_work) (pc' := 179) (r_aload_n (M := mX12_work) (i := 0) rfl dX12_work_178) ?_
    refine go1 (M := mX12_work) (pc' := 182) (r_getR (M := mX12_work) fl_12_142 g0 rfl (wt_some hW g0 (by decide) (by decide) rfl) dX12_work_179) ?_
    have hT5 : TY S (pr S p0 44) 14 := wt hW g0 (by decide) (by decide) rfl (by decide)
    refine go1 (M := mX12_work) (pc' := 183) (r_iconst (M := mX12_work) (v := 0) (by decide) dX12_work_182) ?_
    refine go_ck (fun hi6 => ?_)
    refine go1 (M := mX12_work) (pc' := 184) (r_iald (M := mX12_work) hT5 hi6 dX12_work_183) ?_
    exact go_iret (M := mX12_work) rfl rfl dX12_work_184
  · refine go1 (M := mX12_work) (pc' := 26) (r_aload_n (M := mX12_work) (i := 0) rfl dX12_work_25) ?_
    refine go1 (M := mX12_work) (pc' := 29) (r_getR (M := mX12_work) fl_12_106 g0 rfl (wt_some hW g0 (by decide) (by decide) rfl) dX12_work_26) ?_
    have hT7 : TY S (pr S p0 32) 14 := wt hW g0 (by decide) (by decide) rfl (by decide)
    refine go1 (M := mX12_work) (pc' := 32) (r_sipush (M := mX12_work) (v := 160) (by decide) dX12_work_29) ?_
    refine go1 (M := mX12_work) (pc' := 33) (r_iload_n (M := mX12_work) (i := 2) rfl dX12_work_32) ?_
    refine go1 (M := mX12_work) (pc' := 34) (r_imul (M := mX12_work) dX12_work_33) ?_
    refine go1 (M := mX12_work) (pc' := 36) (r_iload (M := mX12_work) (i := 4) rfl dX12_work_34) ?_
    refine go1 (M := mX12_work) (pc' := 37) (r_iadd (M := mX12_work) dX12_work_36) ?_
    refine go_ck (fun hi8 => ?_)
    refine go1 (M := mX12_work) (pc' := 38) (r_iald (M := mX12_work) hT7 hi8 dX12_work_37) ?_
    refine go1 (M := mX12_work) (pc' := 40) (ls' := [some (.ref p0), none, some (.int p2), some (.int p3), some (.int p4), some (.int (x.1 (pr S p0 32) ((160 * p2) + p4).toNatClampNeg))]) (r_istore (M := mX12_work) (ls := [some (.ref p0), none, some (.int p2), some (.int p3), some (.int p4), none]) (i := 5) (v := (x.1 (pr S p0 32) ((160 * p2) + p4).toNatClampNeg)) (by decide) rfl dX12_work_38) ?_
    refine go1 (M := mX12_work) (pc' := 42) (r_iload (M := mX12_work) (i := 5) rfl dX12_work_40) ?_
    refine go_br (M := mX12_work) (pt := 81) (pf := 45) (fun kt kf => r_if_lt (M := mX12_work) dX12_work_42 (by decide) kt kf) (fun hc9 => ?_) (fun hc9 => ?_)
    · refine go1 (M := mX12_work) (pc' := 83) (r_iload (M := mX12_work) (i := 5) rfl dX12_work_81) ?_
      refine go1 (M := mX12_work) (pc' := 85) (r_bipush (M := mX12_work) (v := (-3)) (by decide) dX12_work_83) ?_
      refine go_br (M := mX12_work) (pt := 95) (pf := 88) (fun kt kf => r_icmp_eq (M := mX12_work) dX12_work_85 (by decide) kt kf) (fun hc10 => ?_) (fun hc10 => ?_)
      · exact j_X12_work_95_t (N := N) hW (by omega) bk14 p0 p2 p3 p4 (x.1 (pr S p0 32) ((160 * p2) + p4).toNatClampNeg) x g0 hbk14
      · refine go1 (M := mX12_work) (pc' := 90) (r_iload (M := mX12_work) (i := 5) rfl dX12_work_88) ?_
        refine go1 (M := mX12_work) (pc' := 92) (r_bipush (M := mX12_work) (v := (-9)) (by decide) dX12_work_90) ?_
        refine go_br (M := mX12_work) (pt := 95) (pf := 141) (fun kt kf => r_icmp_ne (M := mX12_work) dX12_work_92 (by decide) kf kt) (fun hc18 => ?_) (fun hc18 => ?_)
        · exact j_X12_work_95_t (N := N) hW (by omega) bk14 p0 p2 p3 p4 (x.1 (pr S p0 32) ((160 * p2) + p4).toNatClampNeg) x g0 hbk14
        · refine go1 (M := mX12_work) (pc' := 144) (ls' := [some (.ref p0), none, some (.int p2), some (.int (p3 + (-1))), some (.int p4), some (.int (x.1 (pr S p0 32) ((160 * p2) + p4).toNatClampNeg))]) (r_iinc (M := mX12_work) (ls := [some (.ref p0), none, some (.int p2), some (.int p3), some (.int p4), some (.int (x.1 (pr S p0 32) ((160 * p2) + p4).toNatClampNeg))]) (i := 3) (v := p3) (c' := (-1)) (by decide) rfl (by decide) rfl dX12_work_141) ?_
          refine go1 (M := mX12_work) (pc' := 145) (r_aload_n (M := mX12_work) (i := 0) rfl dX12_work_144) ?_
          refine go1 (M := mX12_work) (pc' := 148) (r_getR (M := mX12_work) fl_12_142 g0 rfl (wt_some hW g0 (by decide) (by decide) rfl) dX12_work_145) ?_
          have hT19 : TY S (pr S p0 44) 14 := wt hW g0 (by decide) (by decide) rfl (by decide)
          refine go1 (M := mX12_work) (pc' := 149) (r_iload_n (M := mX12_work) (i := 3) rfl dX12_work_148) ?_
          refine go1 (M := mX12_work) (pc' := 150) (r_iconst (M := mX12_work) (v := 1) (by decide) dX12_work_149) ?_
          refine go1 (M := mX12_work) (pc' := 151) (r_isub (M := mX12_work) dX12_work_150) ?_
          refine go1 (M := mX12_work) (pc' := 152) (r_aload_n (M := mX12_work) (i := 0) rfl dX12_work_151) ?_
          refine go1 (M := mX12_work) (pc' := 154) (r_iload (M := mX12_work) (i := 5) rfl dX12_work_152) ?_
          refine go1 (M := mX12_work) (pc' := 155) (r_aload_n (M := mX12_work) (i := 0) rfl dX12_work_154) ?_
          refine go1 (M := mX12_work) (pc' := 158) (r_getR (M := mX12_work) fl_12_142 g0 rfl (wt_some hW g0 (by decide) (by decide) rfl) dX12_work_155) ?_
          refine go1 (M := mX12_work) (pc' := 159) (r_iload_n (M := mX12_work) (i := 3) rfl dX12_work_158) ?_
          refine go1 (M := mX12_work) (pc' := 160) (r_iconst (M := mX12_work) (v := 1) (by decide) dX12_work_159) ?_
          refine go1 (M := mX12_work) (pc' := 161) (r_isub (M := mX12_work) dX12_work_160) ?_
          refine go_ck (fun hi20 => ?_)
          refine go1 (M := mX12_work) (pc' := 162) (r_iald (M := mX12_work) hT19 hi20 dX12_work_161) ?_
          refine go1 (M := mX12_work) (pc' := 163) (r_aload_n (M := mX12_work) (i := 0) rfl dX12_work_162) ?_
          refine go1 (M := mX12_work) (pc' := 166) (r_getR (M := mX12_work) fl_12_142 g0 rfl (wt_some hW g0 (by decide) (by decide) rfl) dX12_work_163) ?_
          refine go1 (M := mX12_work) (pc' := 167) (r_iload_n (M := mX12_work) (i := 3) rfl dX12_work_166) ?_
          refine go_ck (fun hi21 => ?_)
          refine go1 (M := mX12_work) (pc' := 168) (r_iald (M := mX12_work) hT19 hi21 dX12_work_167) ?_
          refine go_V_PI (M := mX12_work) (pc' := 171) (st := [.int ((p3 + (-1)) - 1), .ref (pr S p0 44)]) (As := [.int (x.1 (pr S p0 32) ((160 * p2) + p4).toNatClampNeg), .int (x.1 (pr S p0 44) ((p3 + (-1)) - 1).toNatClampNeg), .int (x.1 (pr S p0 44) (p3 + (-1)).toNatClampNeg)]) rfl ln_12_334 lb_X12_both (t_X12_both (N := N) hW (by omega) g0) (by omega) g0 (Nat.le_of_ble_eq_true rfl) rfl dX12_work_168 (fun r22 => ?_)
          refine go_ck (fun hi23 => ?_)
          refine go1 (M := mX12_work) (pc' := 172) (r_iast (M := mX12_work) hT19 hi23 dX12_work_171) ?_
          refine go_blx (fun x24 => ?_)
          refine go_drop (ls' := [some (.ref p0), none, some (.int p2), some (.int (p3 + (-1))), some (.int p4), none]) (And.intro rfl (And.intro rfl (And.intro rfl (And.intro rfl trivial)))) ?_
          exact j_X12_work_172_t (N := N) hW (by omega) bk14 p0 p2 (p3 + (-1)) p4 x24 g0 hbk14
    · refine go1 (M := mX12_work) (pc' := 46) (r_aload_n (M := mX12_work) (i := 0) rfl dX12_work_45) ?_
      refine go1 (M := mX12_work) (pc' := 49) (r_getR (M := mX12_work) fl_12_142 g0 rfl (wt_some hW g0 (by decide) (by decide) rfl) dX12_work_46) ?_
      have hT25 : TY S (pr S p0 44) 14 := wt hW g0 (by decide) (by decide) rfl (by decide)
      refine go1 (M := mX12_work) (pc' := 50) (r_iload_n (M := mX12_work) (i := 3) rfl dX12_work_49) ?_
      refine go1 (M := mX12_work) (pc' := 52) (r_iload (M := mX12_work) (i := 5) rfl dX12_work_50) ?_
      refine go1 (M := mX12_work) (pc' := 55) (r_sipush (M := mX12_work) (v := 10000) (by decide) dX12_work_52) ?_
      refine go_br (M := mX12_work) (pt := 63) (pf := 58) (fun kt kf => r_icmp_ge (M := mX12_work) dX12_work_55 (by decide) kt kf) (fun hc26 => ?_) (fun hc26 => ?_)
      · refine go1 (M := mX12_work) (pc' := 64) (r_aload_n (M := mX12_work) (i := 0) rfl dX12_work_63) ?_
        refine go1 (M := mX12_work) (pc' := 67) (r_getR (M := mX12_work) fl_12_139 g0 rfl (wt_some hW g0 (by decide) (by decide) rfl) dX12_work_64) ?_
        have hT27 : TY S (pr S p0 43) 14 := wt hW g0 (by decide) (by decide) rfl (by decide)
        refine go1 (M := mX12_work) (pc' := 69) (r_iload (M := mX12_work) (i := 5) rfl dX12_work_67) ?_
        refine go1 (M := mX12_work) (pc' := 72) (r_sipush (M := mX12_work) (v := 10000) (by decide) dX12_work_69) ?_
        refine go1 (M := mX12_work) (pc' := 73) (r_isub (M := mX12_work) dX12_work_72) ?_
        refine go_ck (fun hi28 => ?_)
        refine go1 (M := mX12_work) (pc' := 74) (r_iald (M := mX12_work) hT27 hi28 dX12_work_73) ?_
        refine go_drop (ls' := [some (.ref p0), none, some (.int p2), some (.int p3), some (.int p4), none]) (And.intro rfl (And.intro rfl (And.intro rfl (And.intro rfl trivial)))) ?_
        exact j_X12_work_74_t (N := N) hW (by omega) bk14 p0 p2 p3 p4 (x.1 (pr S p0 43) ((x.1 (pr S p0 32) ((160 * p2) + p4).toNatClampNeg) - 10000).toNatClampNeg) p3 (pr S p0 44) x g0 hT25 hbk14
      · refine go1 (M := mX12_work) (pc' := 60) (r_iload (M := mX12_work) (i := 5) rfl dX12_work_58) ?_
        refine go1 (M := mX12_work) (pc' := 74) (r_goto (M := mX12_work) dX12_work_60 (by decide)) ?_
        refine go_drop (ls' := [some (.ref p0), none, some (.int p2), some (.int p3), some (.int p4), none]) (And.intro rfl (And.intro rfl (And.intro rfl (And.intro rfl trivial)))) ?_
        exact j_X12_work_74_t (N := N) hW (by omega) bk14 p0 p2 p3 p4 (x.1 (pr S p0 32) ((160 * p2) + p4).toNatClampNeg) p3 (pr S p0 44) x g0 hT25 hbk14
def lp_X12_work_14 (N : Nat) (S : SH) (p0 : Nat) (p2 : Int32) (p3 : Int32) (p4 : Int32) (x : DY) : Option (Int32 × DY) :=
  itr (fun back (v : Int32 × Int32 × DY) => lp_X12_work_14_b N S (fun p3 p4 y => back (p3, p4, y)) p0 p2 v.1 v.2.1 v.2.2) N (p3, p4, x)
theorem lp_X12_work_14_t {N d : Nat} {S : SH} (hW : WT S) (hd : 2 ≤ d) (p0 : Nat) (p2 : Int32) (p3 : Int32) (p4 : Int32) (x : DY) (g0 : TY S p0 12) : Go mX12_work d S wSI 14 [some (.ref p0), none, some (.int p2), some (.int p3), some (.int p4), none] [] x (lp_X12_work_14 N S p0 p2 p3 p4 x) := by
  unfold lp_X12_work_14
  exact go_itr (L := fun (v : Int32 × Int32 × DY) => [some (.ref p0), none, some (.int p2), some (.int v.1), some (.int v.2.1), none]) (X := fun (v : Int32 × Int32 × DY) => v.2.2) (fun back hB v => lp_X12_work_14_b_t (N := N) hW hd (fun p3 p4 y => back (p3, p4, y)) p0 p2 v.1 v.2.1 v.2.2 g0 (fun p3 p4 y => hB (p3, p4, y)) ) N (p3, p4, x)
def f_X12_work (N : Nat) (S : SH) (a0 : Nat) (a1 : Int32) (x : DY) : Option (Int32 × DY) :=
  lp_X12_work_14 N S a0 ((2 * (x.1 a0 30)) + a1) 0 0 x
set_option maxHeartbeats 1000000 in
theorem t_X12_work {N d : Nat} {S : SH} (hW : WT S) {x : DY} {a0 : Nat} {a1 : Int32} (hd : 2 ≤ d) (h0 : TY S a0 12) : CT mX12_work d S [.ref a0, .int a1] x wSI (f_X12_work N S a0 a1 x) := by
  refine CT.of [some (.ref a0), some (.int a1), none, none, none, none] rfl (Nat.le_of_ble_eq_true rfl) (by decide +kernel) ?_
  unfold f_X12_work
  refine go1 (M := mX12_work) (pc' := 1) (r_iconst (M := mX12_work) (v := 2) (by decide) dX12_work_0) ?_
  refine go1 (M := mX12_work) (pc' := 2) (r_aload_n (M := mX12_work) (i := 0) rfl dX12_work_1) ?_
  refine go1 (M := mX12_work) (pc' := 5) (r_getI (M := mX12_work) fl_12_100 h0 rfl dX12_work_2) ?_
  refine go1 (M := mX12_work) (pc' := 6) (r_imul (M := mX12_work) dX12_work_5) ?_
  refine go1 (M := mX12_work) (pc' := 7) (r_iload_n (M := mX12_work) (i := 1) rfl dX12_work_6) ?_
  refine go1 (M := mX12_work) (pc' := 8) (r_iadd (M := mX12_work) dX12_work_7) ?_
  refine go1 (M := mX12_work) (pc' := 9) (ls' := [some (.ref a0), some (.int a1), some (.int ((2 * (x.1 a0 30)) + a1)), none, none, none]) (r_istore_n (M := mX12_work) (ls := [some (.ref a0), some (.int a1), none, none, none, none]) (i := 2) (v := ((2 * (x.1 a0 30)) + a1)) (by decide) rfl dX12_work_8) ?_
  refine go1 (M := mX12_work) (pc' := 10) (r_iconst (M := mX12_work) (v := 0) (by decide) dX12_work_9) ?_
  refine go1 (M := mX12_work) (pc' := 11) (ls' := [some (.ref a0), some (.int a1), some (.int ((2 * (x.1 a0 30)) + a1)), some (.int 0), none, none]) (r_istore_n (M := mX12_work) (ls := [some (.ref a0), some (.int a1), some (.int ((2 * (x.1 a0 30)) + a1)), none, none, none]) (i := 3) (v := 0) (by decide) rfl dX12_work_10) ?_
  refine go1 (M := mX12_work) (pc' := 12) (r_iconst (M := mX12_work) (v := 0) (by decide) dX12_work_11) ?_
  refine go1 (M := mX12_work) (pc' := 14) (ls' := [some (.ref a0), some (.int a1), some (.int ((2 * (x.1 a0 30)) + a1)), some (.int 0), some (.int 0), none]) (r_istore (M := mX12_work) (ls := [some (.ref a0), some (.int a1), some (.int ((2 * (x.1 a0 30)) + a1)), some (.int 0), none, none]) (i := 4) (v := 0) (by decide) rfl dX12_work_12) ?_
  refine go_drop (ls' := [some (.ref a0), none, some (.int ((2 * (x.1 a0 30)) + a1)), some (.int 0), some (.int 0), none]) (And.intro rfl (And.intro rfl (And.intro rfl (And.intro rfl trivial)))) ?_
  refine lp_X12_work_14_t (N := N) hW (by omega) a0 ((2 * (x.1 a0 30)) + a1) 0 0 x h0
def j_X12_says_45 (N : Nat) (S : SH) (p0 : Nat) (p3 : Int32) (q0 : Int32) (q1 : Int32) (q2 : Nat) (x : DY) : Option (Int64 × DY) :=
  Option.bind (f_X12_findFacts N S q2 q1 q0 x) (fun r7 => Option.bind (f_X12_work N S p0 p3 r7) (fun r8 => some (((r8.1).toInt64), r8.2)))
set_option maxHeartbeats 1000000 in
theorem j_X12_says_45_t {N d : Nat} {S : SH} (hW : WT S) (hd : 4 ≤ d) (p0 : Nat) (p3 : Int32) (q0 : Int32) (q1 : Int32) (q2 : Nat) (x : DY) (g0 : TY S p0 12) (gq2 : TY S q2 12) : Go mX12_says d S wSL 45 [some (.ref p0), none, none, some (.int p3)] [.int q0, .int q1, .ref q2] x (j_X12_says_45 N S p0 p3 q0 q1 q2 x) := by
  unfold j_X12_says_45
  refine go_V_SV (M := mX12_says) (pc' := 48) (st := []) (As := [.int q1, .int q0]) rfl ln_12_337 lb_X12_findFacts (t_X12_findFacts (N := N) hW (by omega) gq2) (by omega) gq2 (Nat.le_of_ble_eq_true rfl) rfl dX12_says_45 (fun r7 => ?_)
  refine go1 (M := mX12_says) (pc' := 49) (r_aload_n (M := mX12_says) (i := 0) rfl dX12_says_48) ?_
  refine go1 (M := mX12_says) (pc' := 50) (r_iload_n (M := mX12_says) (i := 3) rfl dX12_says_49) ?_
  refine go_V_SI (M := mX12_says) (pc' := 53) (st := []) (As := [.int p3]) rfl ln_12_340 lb_X12_work (t_X12_work (N := N) hW (by omega) g0) (by omega) g0 (Nat.le_of_ble_eq_true rfl) rfl dX12_says_50 (fun r8 => ?_)
  refine go1 (M := mX12_says) (pc' := 54) (r_i2l (M := mX12_says) dX12_says_53) ?_
  exact go_lret (M := mX12_says) rfl rfl dX12_says_54
def j_X12_says_34 (N : Nat) (S : SH) (p0 : Nat) (p1 : Int32) (p2 : Int32) (p3 : Int32) (x : DY) : Option (Int64 × DY) :=
  (if p3 = 0 then j_X12_says_45 N S p0 p3 p2 p1 p0 x else j_X12_says_45 N S p0 p3 (-1) p1 p0 x)
set_option maxHeartbeats 1000000 in
theorem j_X12_says_34_t {N d : Nat} {S : SH} (hW : WT S) (hd : 4 ≤ d) (p0 : Nat) (p1 : Int32) (p2 : Int32) (p3 : Int32) (x : DY) (g0 : TY S p0 12) : Go mX12_says d S wSL 34 [some (.ref p0), some (.int p1), some (.int p2), some (.int p3)] [] x (j_X12_says_34 N S p0 p1 p2 p3 x) := by
  unfold j_X12_says_34
  refine go1 (M := mX12_says) (pc' := 35) (r_aload_n (M := mX12_says) (i := 0) rfl dX12_says_34) ?_
  refine go1 (M := mX12_says) (pc' := 36) (r_iload_n (M := mX12_says) (i := 1) rfl dX12_says_35) ?_
  refine go1 (M := mX12_says) (pc' := 37) (r_iload_n (M := mX12_says) (i := 3) rfl dX12_says_36) ?_
  refine go_br (M := mX12_says) (pt := 40) (pf := 44) (fun kt kf => r_if_ne (M := mX12_says) dX12_says_37 (by decide) kf kt) (fun hc6 => ?_) (fun hc6 => ?_)
  · refine go1 (M := mX12_says) (pc' := 41) (r_iload_n (M := mX12_says) (i := 2) rfl dX12_says_40) ?_
    refine go1 (M := mX12_says) (pc' := 45) (r_goto (M := mX12_says) dX12_says_41 (by decide)) ?_
    refine go_drop (ls' := [some (.ref p0), none, none, some (.int p3)]) (And.intro rfl (And.intro rfl trivial)) ?_
    exact j_X12_says_45_t (N := N) hW (by omega) p0 p3 p2 p1 p0 x g0 g0
  · refine go1 (M := mX12_says) (pc' := 45) (r_iconst (M := mX12_says) (v := (-1)) (by decide) dX12_says_44) ?_
    refine go_drop (ls' := [some (.ref p0), none, none, some (.int p3)]) (And.intro rfl (And.intro rfl trivial)) ?_
    exact j_X12_says_45_t (N := N) hW (by omega) p0 p3 (-1) p1 p0 x g0 g0
def f_X12_says (N : Nat) (S : SH) (a0 : Nat) (a1 : Int32) (a2 : Int32) (a3 : Int32) (x : DY) : Option (Int64 × DY) :=
  Option.bind (f_X12_isSat N S a0 a1 x) (fun r1 => (if r1 = 0 then some ((-4611686018427387904), x) else Option.bind (f_X12_in N S a0 a3 0 1 x) (fun r3 => (if r3 = 0 then some ((-4611686018427387904), x) else (if a3 = 0 then Option.bind (f_X12_isPlate N S a0 a2 x) (fun r9 => (if r9 = 0 then some ((-4611686018427387904), x) else j_X12_says_34 N S a0 a1 a2 a3 x)) else j_X12_says_34 N S a0 a1 a2 a3 x)))))
set_option maxHeartbeats 1000000 in
theorem t_X12_says {N d : Nat} {S : SH} (hW : WT S) {x : DY} {a0 : Nat} {a1 : Int32} {a2 : Int32} {a3 : Int32} (hd : 4 ≤ d) (h0 : TY S a0 12) : CT mX12_says d S [.ref a0, .int a1, .int a2, .int a3] x wSL (f_X12_says N S a0 a1 a2 a3 x) := by
  refine CT.of [some (.ref a0), some (.int a1), some (.int a2), some (.int a3)] rfl (Nat.le_of_ble_eq_true rfl) (by decide +kernel) ?_
  unfold f_X12_says
  refine go1 (M := mX12_says) (pc' := 1) (r_aload_n (M := mX12_says) (i := 0) rfl dX12_says_0) ?_
  refine go1 (M := mX12_says) (pc' := 2) (r_iload_n (M := mX12_says) (i := 1) rfl dX12_says_1) ?_
  refine go_V_PI (M := mX12_says) (pc' := 5) (st := []) (As := [.int a1]) rfl ln_12_251 lb_X12_isSat (t_X12_isSat (N := N) hW (by omega) h0) (by omega) h0 (Nat.le_of_ble_eq_true rfl) rfl dX12_says_2 (fun r1 => ?_)
  refine go_br (M := mX12_says) (pt := 30) (pf := 8) (fun kt kf => r_if_eq (M := mX12_says) dX12_says_5 (by decide) kt kf) (fun hc2 => ?_) (fun hc2 => ?_)
  · refine go1 (M := mX12_says) (pc' := 33) (r_ldc2 (M := mX12_says) (v := (-4611686018427387904)) (tb6 149 (by decide +kernel) rfl) dX12_says_30) ?_
    exact go_lret (M := mX12_says) rfl rfl dX12_says_33
  · refine go1 (M := mX12_says) (pc' := 9) (r_aload_n (M := mX12_says) (i := 0) rfl dX12_says_8) ?_
    refine go1 (M := mX12_says) (pc' := 10) (r_iload_n (M := mX12_says) (i := 3) rfl dX12_says_9) ?_
    refine go1 (M := mX12_says) (pc' := 11) (r_iconst (M := mX12_says) (v := 0) (by decide) dX12_says_10) ?_
    refine go1 (M := mX12_says) (pc' := 12) (r_iconst (M := mX12_says) (v := 1) (by decide) dX12_says_11) ?_
    refine go_V_PI (M := mX12_says) (pc' := 15) (st := []) (As := [.int a3, .int 0, .int 1]) rfl ln_12_217 lb_X12_in (t_X12_in (N := N) hW (by omega) h0) (by omega) h0 (Nat.le_of_ble_eq_true rfl) rfl dX12_says_12 (fun r3 => ?_)
    refine go_br (M := mX12_says) (pt := 30) (pf := 18) (fun kt kf => r_if_eq (M := mX12_says) dX12_says_15 (by decide) kt kf) (fun hc4 => ?_) (fun hc4 => ?_)
    · refine go1 (M := mX12_says) (pc' := 33) (r_ldc2 (M := mX12_says) (v := (-4611686018427387904)) (tb6 149 (by decide +kernel) rfl) dX12_says_30) ?_
      exact go_lret (M := mX12_says) rfl rfl dX12_says_33
    · refine go1 (M := mX12_says) (pc' := 19) (r_iload_n (M := mX12_says) (i := 3) rfl dX12_says_18) ?_
      refine go_br (M := mX12_says) (pt := 22) (pf := 34) (fun kt kf => r_if_ne (M := mX12_says) dX12_says_19 (by decide) kf kt) (fun hc5 => ?_) (fun hc5 => ?_)
      · refine go1 (M := mX12_says) (pc' := 23) (r_aload_n (M := mX12_says) (i := 0) rfl dX12_says_22) ?_
        refine go1 (M := mX12_says) (pc' := 24) (r_iload_n (M := mX12_says) (i := 2) rfl dX12_says_23) ?_
        refine go_V_PI (M := mX12_says) (pc' := 27) (st := []) (As := [.int a2]) rfl ln_12_229 lb_X12_isPlate (t_X12_isPlate (N := N) hW (by omega) h0) (by omega) h0 (Nat.le_of_ble_eq_true rfl) rfl dX12_says_24 (fun r9 => ?_)
        refine go_br (M := mX12_says) (pt := 30) (pf := 34) (fun kt kf => r_if_ne (M := mX12_says) dX12_says_27 (by decide) kf kt) (fun hc10 => ?_) (fun hc10 => ?_)
        · refine go1 (M := mX12_says) (pc' := 33) (r_ldc2 (M := mX12_says) (v := (-4611686018427387904)) (tb6 149 (by decide +kernel) rfl) dX12_says_30) ?_
          exact go_lret (M := mX12_says) rfl rfl dX12_says_33
        · exact j_X12_says_34_t (N := N) hW (by omega) a0 a1 a2 a3 x h0
      · exact j_X12_says_34_t (N := N) hW (by omega) a0 a1 a2 a3 x h0
def lp_X12_goRound_19_b (N : Nat) (S : SH) (k43 : DY → Option DY) (bk19 : Int32 → DY → Option DY) (p0 : Nat) (p1 : Int32) (p2 : Int32) (x : DY) : Option DY :=
  (if p2 ≤ 0 then k43 x else ck S (pr S p0 13) (p2 - 1) (ck S (pr S p0 13) p2 (bl (U1 x (pr S p0 13) p2.toNatClampNeg (x.1 (pr S p0 13) (p2 - 1).toNatClampNeg)) (fun x8 => bk19 (p2 + (-1)) x8))))
set_option maxHeartbeats 1000000 in
theorem lp_X12_goRound_19_b_t {N d : Nat} {S : SH} (hW : WT S) (hd : 1 ≤ d) (k43 : DY → Option DY) (bk19 : Int32 → DY → Option DY) (p0 : Nat) (p1 : Int32) (p2 : Int32) (x : DY) (g0 : TY S p0 12) (hk43 : ∀ (y : DY), Go mX12_goRound d S wSV 43 [some (.ref p0), some (.int p1), none] [] y (k43 y)) (hbk19 : ∀ (v2 : Int32) (y : DY), Go mX12_goRound d S wSV 19 [some (.ref p0), some (.int p1), some (.int v2)] [] y (bk19 v2 y)) : Go mX12_goRound d S wSV 19 [some (.ref p0), some (.int p1), some (.int p2)] [] x (lp_X12_goRound_19_b N S k43 bk19 p0 p1 p2 x) := by
  unfold lp_X12_goRound_19_b
  refine go1 (M := mX12_goRound) (pc' := 20) (r_iload_n (M := mX12_goRound) (i := 2) rfl dX12_goRound_19) ?_
  refine go_br (M := mX12_goRound) (pt := 43) (pf := 23) (fun kt kf => r_if_le (M := mX12_goRound) dX12_goRound_20 (by decide) kt kf) (fun hc4 => ?_) (fun hc4 => ?_)
  · refine go_drop (ls' := [some (.ref p0), some (.int p1), none]) (And.intro rfl (And.intro rfl trivial)) ?_
    exact hk43 x
  · refine go1 (M := mX12_goRound) (pc' := 24) (r_aload_n (M := mX12_goRound) (i := 0) rfl dX12_goRound_23) ?_
    refine go1 (M := mX12_goRound) (pc' := 27) (r_getR (M := mX12_goRound) fl_12_47 g0 rfl (wt_some hW g0 (by decide) (by decide) rfl) dX12_goRound_24) ?_
    have hT5 : TY S (pr S p0 13) 14 := wt hW g0 (by decide) (by decide) rfl (by decide)
    refine go1 (M := mX12_goRound) (pc' := 28) (r_iload_n (M := mX12_goRound) (i := 2) rfl dX12_goRound_27) ?_
    refine go1 (M := mX12_goRound) (pc' := 29) (r_aload_n (M := mX12_goRound) (i := 0) rfl dX12_goRound_28) ?_
    refine go1 (M := mX12_goRound) (pc' := 32) (r_getR (M := mX12_goRound) fl_12_47 g0 rfl (wt_some hW g0 (by decide) (by decide) rfl) dX12_goRound_29) ?_
    refine go1 (M := mX12_goRound) (pc' := 33) (r_iload_n (M := mX12_goRound) (i := 2) rfl dX12_goRound_32) ?_
    refine go1 (M := mX12_goRound) (pc' := 34) (r_iconst (M := mX12_goRound) (v := 1) (by decide) dX12_goRound_33) ?_
    refine go1 (M := mX12_goRound) (pc' := 35) (r_isub (M := mX12_goRound) dX12_goRound_34) ?_
    refine go_ck (fun hi6 => ?_)
    refine go1 (M := mX12_goRound) (pc' := 36) (r_iald (M := mX12_goRound) hT5 hi6 dX12_goRound_35) ?_
    refine go_ck (fun hi7 => ?_)
    refine go1 (M := mX12_goRound) (pc' := 37) (r_iast (M := mX12_goRound) hT5 hi7 dX12_goRound_36) ?_
    refine go_blx (fun x8 => ?_)
    refine go1 (M := mX12_goRound) (pc' := 40) (ls' := [some (.ref p0), some (.int p1), some (.int (p2 + (-1)))]) (r_iinc (M := mX12_goRound) (ls := [some (.ref p0), some (.int p1), some (.int p2)]) (i := 2) (v := p2) (c' := (-1)) (by decide) rfl (by decide) rfl dX12_goRound_37) ?_
    refine go1 (M := mX12_goRound) (pc' := 19) (r_goto (M := mX12_goRound) dX12_goRound_40 (by decide)) ?_
    exact hbk19 (p2 + (-1)) x8
def lp_X12_goRound_19 (N : Nat) (S : SH) (k43 : DY → Option DY) (p0 : Nat) (p1 : Int32) (p2 : Int32) (x : DY) : Option DY :=
  itr (fun back (v : Int32 × DY) => lp_X12_goRound_19_b N S k43 (fun p2 y => back (p2, y)) p0 p1 v.1 v.2) N (p2, x)
theorem lp_X12_goRound_19_t {N d : Nat} {S : SH} (hW : WT S) (hd : 1 ≤ d) (k43 : DY → Option DY) (p0 : Nat) (p1 : Int32) (p2 : Int32) (x : DY) (g0 : TY S p0 12) (hk43 : ∀ (y : DY), Go mX12_goRound d S wSV 43 [some (.ref p0), some (.int p1), none] [] y (k43 y)) : Go mX12_goRound d S wSV 19 [some (.ref p0), some (.int p1), some (.int p2)] [] x (lp_X12_goRound_19 N S k43 p0 p1 p2 x) := by
  unfold lp_X12_goRound_19
  exact go_itr (L := fun (v : Int32 × DY) => [some (.ref p0), some (.int p1), some (.int v.1)]) (X := fun (v : Int32 × DY) => v.2) (fun back hB v => lp_X12_goRound_19_b_t (N := N) hW hd k43 (fun p2 y => back (p2, y)) p0 p1 v.1 v.2 g0 hk43 (fun p2 y => hB (p2, y)) ) N (p2, x)
def j_X12_goRound_99 (N : Nat) (S : SH) (bk52 : Int32 → DY → Option DY) (p0 : Nat) (p2 : Int32) (x : DY) : Option DY :=
  bk52 (p2 + 1) x
set_option maxHeartbeats 1000000 in
theorem j_X12_goRound_99_t {N d : Nat} {S : SH} (hW : WT S) (hd : 1 ≤ d) (bk52 : Int32 → DY → Option DY) (p0 : Nat) (p2 : Int32) (x : DY) (g0 : TY S p0 12) (hbk52 : ∀ (v2 : Int32) (y : DY), Go mX12_goRound d S wSV 52 [some (.ref p0), none, some (.int v2)] [] y (bk52 v2 y)) : Go mX12_goRound d S wSV 99 [some (.ref p0), none, some (.int p2)] [] x (j_X12_goRound_99 N S bk52 p0 p2 x) := by
  unfold j_X12_goRound_99
  refine go1 (M := mX12_goRound) (pc' := 102) (ls' := [some (.ref p0), none, some (.int (p2 + 1))]) (r_iinc (M := mX12_goRound) (ls := [some (.ref p0), none, some (.int p2)]) (i := 2) (v := p2) (c' := 1) (by decide) rfl (by decide) rfl dX12_goRound_99) ?_
  refine go1 (M := mX12_goRound) (pc' := 52) (r_goto (M := mX12_goRound) dX12_goRound_102 (by decide)) ?_
  exact hbk52 (p2 + 1) x
def lp_X12_goRound_52_b (N : Nat) (S : SH) (k105 : DY → Option DY) (bk52 : Int32 → DY → Option DY) (p0 : Nat) (p2 : Int32) (x : DY) : Option DY :=
  (if (x.1 p0 0) ≤ p2 then k105 x else ck S (pr S p0 13) p2 ((if 0 ≤ (x.1 (pr S p0 13) p2.toNatClampNeg) then ck S (pr S p0 13) p2 (ck S (pr S p0 12) (x.1 (pr S p0 13) p2.toNatClampNeg) (bl (U1 x (pr S p0 12) (x.1 (pr S p0 13) p2.toNatClampNeg).toNatClampNeg p2) (fun x21 => ck S (pr S p0 13) p2 (ck S (pr S p0 10) (x21.1 (pr S p0 13) p2.toNatClampNeg) (ck S (pr S p0 10) (x21.1 (pr S p0 13) p2.toNatClampNeg) (bl (U1 x21 (pr S p0 10) (x21.1 (pr S p0 13) p2.toNatClampNeg).toNatClampNeg ((x21.1 (pr S p0 10) (x21.1 (pr S p0 13) p2.toNatClampNeg).toNatClampNeg) + 1)) (fun x26 => j_X12_goRound_99 N S bk52 p0 p2 x26))))))) else j_X12_goRound_99 N S bk52 p0 p2 x)))
set_option maxHeartbeats 1000000 in
theorem lp_X12_goRound_52_b_t {N d : Nat} {S : SH} (hW : WT S) (hd : 1 ≤ d) (k105 : DY → Option DY) (bk52 : Int32 → DY → Option DY) (p0 : Nat) (p2 : Int32) (x : DY) (g0 : TY S p0 12) (hk105 : ∀ (y : DY), Go mX12_goRound d S wSV 105 [some (.ref p0), none, none] [] y (k105 y)) (hbk52 : ∀ (v2 : Int32) (y : DY), Go mX12_goRound d S wSV 52 [some (.ref p0), none, some (.int v2)] [] y (bk52 v2 y)) : Go mX12_goRound d S wSV 52 [some (.ref p0), none, some (.int p2)] [] x (lp_X12_goRound_52_b N S k105 bk52 p0 p2 x) := by
  unfold lp_X12_goRound_52_b
  refine go1 (M := mX12_goRound) (pc' := 53) (r_iload_n (M := mX12_goRound) (i := 2) rfl dX12_goRound_52) ?_
  refine go1 (M := mX12_goRound) (pc' := 54) (r_aload_n (M := mX12_goRound) (i := 0) rfl dX12_goRound_53) ?_
  refine go1 (M := mX12_goRound) (pc' := 57) (r_getI (M := mX12_goRound) fl_12_211 g0 rfl dX12_goRound_54) ?_
  refine go_br (M := mX12_goRound) (pt := 105) (pf := 60) (fun kt kf => r_icmp_ge (M := mX12_goRound) dX12_goRound_57 (by decide) kt kf) (fun hc14 => ?_) (fun hc14 => ?_)
  · refine go_drop (ls' := [some (.ref p0), none, none]) (And.intro rfl trivial) ?_
    exact hk105 x
  · refine go1 (M := mX12_goRound) (pc' := 61) (r_aload_n (M := mX12_goRound) (i := 0) rfl dX12_goRound_60) ?_
    refine go1 (M := mX12_goRound) (pc' := 64) (r_getR (M := mX12_goRound) fl_12_47 g0 rfl (wt_some hW g0 (by decide) (by decide) rfl) dX12_goRound_61) ?_
    have hT15 : TY S (pr S p0 13) 14 := wt hW g0 (by decide) (by decide) rfl (by decide)
    refine go1 (M := mX12_goRound) (pc' := 65) (r_iload_n (M := mX12_goRound) (i := 2) rfl dX12_goRound_64) ?_
    refine go_ck (fun hi16 => ?_)
    refine go1 (M := mX12_goRound) (pc' := 66) (r_iald (M := mX12_goRound) hT15 hi16 dX12_goRound_65) ?_
    refine go_br (M := mX12_goRound) (pt := 72) (pf := 69) (fun kt kf => r_if_ge (M := mX12_goRound) dX12_goRound_66 (by decide) kt kf) (fun hc17 => ?_) (fun hc17 => ?_)
    · refine go1 (M := mX12_goRound) (pc' := 73) (r_aload_n (M := mX12_goRound) (i := 0) rfl dX12_goRound_72) ?_
      refine go1 (M := mX12_goRound) (pc' := 76) (r_getR (M := mX12_goRound) fl_12_44 g0 rfl (wt_some hW g0 (by decide) (by decide) rfl) dX12_goRound_73) ?_
      have hT18 : TY S (pr S p0 12) 14 := wt hW g0 (by decide) (by decide) rfl (by decide)
      refine go1 (M := mX12_goRound) (pc' := 77) (r_aload_n (M := mX12_goRound) (i := 0) rfl dX12_goRound_76) ?_
      refine go1 (M := mX12_goRound) (pc' := 80) (r_getR (M := mX12_goRound) fl_12_47 g0 rfl (wt_some hW g0 (by decide) (by decide) rfl) dX12_goRound_77) ?_
      refine go1 (M := mX12_goRound) (pc' := 81) (r_iload_n (M := mX12_goRound) (i := 2) rfl dX12_goRound_80) ?_
      refine go_ck (fun hi19 => ?_)
      refine go1 (M := mX12_goRound) (pc' := 82) (r_iald (M := mX12_goRound) hT15 hi19 dX12_goRound_81) ?_
      refine go1 (M := mX12_goRound) (pc' := 83) (r_iload_n (M := mX12_goRound) (i := 2) rfl dX12_goRound_82) ?_
      refine go_ck (fun hi20 => ?_)
      refine go1 (M := mX12_goRound) (pc' := 84) (r_iast (M := mX12_goRound) hT18 hi20 dX12_goRound_83) ?_
      refine go_blx (fun x21 => ?_)
      refine go1 (M := mX12_goRound) (pc' := 85) (r_aload_n (M := mX12_goRound) (i := 0) rfl dX12_goRound_84) ?_
      refine go1 (M := mX12_goRound) (pc' := 88) (r_getR (M := mX12_goRound) fl_12_38 g0 rfl (wt_some hW g0 (by decide) (by decide) rfl) dX12_goRound_85) ?_
      have hT22 : TY S (pr S p0 10) 14 := wt hW g0 (by decide) (by decide) rfl (by decide)
      refine go1 (M := mX12_goRound) (pc' := 89) (r_aload_n (M := mX12_goRound) (i := 0) rfl dX12_goRound_88) ?_
      refine go1 (M := mX12_goRound) (pc' := 92) (r_getR (M := mX12_goRound) fl_12_47 g0 rfl (wt_some hW g0 (by decide) (by decide) rfl) dX12_goRound_89) ?_
      refine go1 (M := mX12_goRound) (pc' := 93) (r_iload_n (M := mX12_goRound) (i := 2) rfl dX12_goRound_92) ?_
      refine go_ck (fun hi23 => ?_)
      refine go1 (M := mX12_goRound) (pc' := 94) (r_iald (M := mX12_goRound) hT15 hi23 dX12_goRound_93) ?_
      refine go1 (M := mX12_goRound) (pc' := 95) (r_dup2 (M := mX12_goRound) rfl rfl dX12_goRound_94) ?_
      refine go_ck (fun hi24 => ?_)
      refine go1 (M := mX12_goRound) (pc' := 96) (r_iald (M := mX12_goRound) hT22 hi24 dX12_goRound_95) ?_
      refine go1 (M := mX12_goRound) (pc' := 97) (r_iconst (M := mX12_goRound) (v := 1) (by decide) dX12_goRound_96) ?_
      refine go1 (M := mX12_goRound) (pc' := 98) (r_iadd (M := mX12_goRound) dX12_goRound_97) ?_
      refine go_ck (fun hi25 => ?_)
      refine go1 (M := mX12_goRound) (pc' := 99) (r_iast (M := mX12_goRound) hT22 hi25 dX12_goRound_98) ?_
      refine go_blx (fun x26 => ?_)
      exact j_X12_goRound_99_t (N := N) hW (by omega) bk52 p0 p2 x26 g0 hbk52
    · refine go1 (M := mX12_goRound) (pc' := 99) (r_goto (M := mX12_goRound) dX12_goRound_69 (by decide)) ?_
      exact j_X12_goRound_99_t (N := N) hW (by omega) bk52 p0 p2 x g0 hbk52
def lp_X12_goRound_52 (N : Nat) (S : SH) (k105 : DY → Option DY) (p0 : Nat) (p2 : Int32) (x : DY) : Option DY :=
  itr (fun back (v : Int32 × DY) => lp_X12_goRound_52_b N S k105 (fun p2 y => back (p2, y)) p0 v.1 v.2) N (p2, x)
theorem lp_X12_goRound_52_t {N d : Nat} {S : SH} (hW : WT S) (hd : 1 ≤ d) (k105 : DY → Option DY) (p0 : Nat) (p2 : Int32) (x : DY) (g0 : TY S p0 12) (hk105 : ∀ (y : DY), Go mX12_goRound d S wSV 105 [some (.ref p0), none, none] [] y (k105 y)) : Go mX12_goRound d S wSV 52 [some (.ref p0), none, some (.int p2)] [] x (lp_X12_goRound_52 N S k105 p0 p2 x) := by
  unfold lp_X12_goRound_52
  exact go_itr (L := fun (v : Int32 × DY) => [some (.ref p0), none, some (.int v.1)]) (X := fun (v : Int32 × DY) => v.2) (fun back hB v => lp_X12_goRound_52_b_t (N := N) hW hd k105 (fun p2 y => back (p2, y)) p0 v.1 v.2 g0 hk105 (fun p2 y => hB (p2, y)) ) N (p2, x)
def f_X12_goRound (N : Nat) (S : SH) (a0 : Nat) (x : DY) : Option DY :=
  ck S (pr S a0 13) ((x.1 a0 0) - 1) (lp_X12_goRound_19 N S (fun y8 => ck S (pr S a0 13) 0 (bl (U1 y8 (pr S a0 13) (0 : Int32).toNatClampNeg (x.1 (pr S a0 13) ((x.1 a0 0) - 1).toNatClampNeg)) (fun x12 => lp_X12_goRound_52 N S (fun y26 => ck S (pr S a0 13) 0 ((if (y26.1 (pr S a0 13) (0 : Int32).toNatClampNeg) < 0 then some y26 else ck S (pr S a0 13) 0 (ck S (pr S a0 10) (y26.1 (pr S a0 13) (0 : Int32).toNatClampNeg) (ck S (pr S a0 13) 0 (ck S (pr S a0 8) (y26.1 (pr S a0 13) (0 : Int32).toNatClampNeg) (ck S (pr S a0 6) (y26.1 (pr S a0 8) (y26.1 (pr S a0 13) (0 : Int32).toNatClampNeg).toNatClampNeg) ((if (y26.1 (pr S a0 6) (y26.1 (pr S a0 8) (y26.1 (pr S a0 13) (0 : Int32).toNatClampNeg).toNatClampNeg).toNatClampNeg) < (y26.1 (pr S a0 10) (y26.1 (pr S a0 13) (0 : Int32).toNatClampNeg).toNatClampNeg) then ck S (pr S a0 13) 0 (Option.bind (f_X12_ends N S a0 (y26.1 (pr S a0 13) (0 : Int32).toNatClampNeg) 4 y26) (fun r41 => bl (U1 r41 a0 47 ((r41.1 a0 47) + 1)) (fun x42 => ck S (pr S a0 13) 0 (bl (U1 x42 (pr S a0 13) (0 : Int32).toNatClampNeg (-1)) (fun x44 => some x44))))) else some y26))))))))) a0 0 x12))) a0 (x.1 (pr S a0 13) ((x.1 a0 0) - 1).toNatClampNeg) ((x.1 a0 0) - 1) x)
set_option maxHeartbeats 1000000 in
theorem t_X12_goRound {N d : Nat} {S : SH} (hW : WT S) {x : DY} {a0 : Nat} (hd : 2 ≤ d) (h0 : TY S a0 12) : CT mX12_goRound d S [.ref a0] x wSV (f_X12_goRound N S a0 x) := by
  refine CT.of [some (.ref a0), none, none] rfl (Nat.le_of_ble_eq_true rfl) (by decide +kernel) ?_
  unfold f_X12_goRound
  refine go1 (M := mX12_goRound) (pc' := 1) (r_aload_n (M := mX12_goRound) (i := 0) rfl dX12_goRound_0) ?_
  refine go1 (M := mX12_goRound) (pc' := 4) (r_getR (M := mX12_goRound) fl_12_47 h0 rfl (wt_some hW h0 (by decide) (by decide) rfl) dX12_goRound_1) ?_
  have hT1 : TY S (pr S a0 13) 14 := wt hW h0 (by decide) (by decide) rfl (by decide)
  refine go1 (M := mX12_goRound) (pc' := 5) (r_aload_n (M := mX12_goRound) (i := 0) rfl dX12_goRound_4) ?_
  refine go1 (M := mX12_goRound) (pc' := 8) (r_getI (M := mX12_goRound) fl_12_211 h0 rfl dX12_goRound_5) ?_
  refine go1 (M := mX12_goRound) (pc' := 9) (r_iconst (M := mX12_goRound) (v := 1) (by decide) dX12_goRound_8) ?_
  refine go1 (M := mX12_goRound) (pc' := 10) (r_isub (M := mX12_goRound) dX12_goRound_9) ?_
  refine go_ck (fun hi2 => ?_)
  refine go1 (M := mX12_goRound) (pc' := 11) (r_iald (M := mX12_goRound) hT1 hi2 dX12_goRound_10) ?_
  refine go1 (M := mX12_goRound) (pc' := 12) (ls' := [some (.ref a0), some (.int (x.1 (pr S a0 13) ((x.1 a0 0) - 1).toNatClampNeg)), none]) (r_istore_n (M := mX12_goRound) (ls := [some (.ref a0), none, none]) (i := 1) (v := (x.1 (pr S a0 13) ((x.1 a0 0) - 1).toNatClampNeg)) (by decide) rfl dX12_goRound_11) ?_
  refine go1 (M := mX12_goRound) (pc' := 13) (r_aload_n (M := mX12_goRound) (i := 0) rfl dX12_goRound_12) ?_
  refine go1 (M := mX12_goRound) (pc' := 16) (r_getI (M := mX12_goRound) fl_12_211 h0 rfl dX12_goRound_13) ?_
  refine go1 (M := mX12_goRound) (pc' := 17) (r_iconst (M := mX12_goRound) (v := 1) (by decide) dX12_goRound_16) ?_
  refine go1 (M := mX12_goRound) (pc' := 18) (r_isub (M := mX12_goRound) dX12_goRound_17) ?_
  refine go1 (M := mX12_goRound) (pc' := 19) (ls' := [some (.ref a0), some (.int (x.1 (pr S a0 13) ((x.1 a0 0) - 1).toNatClampNeg)), some (.int ((x.1 a0 0) - 1))]) (r_istore_n (M := mX12_goRound) (ls := [some (.ref a0), some (.int (x.1 (pr S a0 13) ((x.1 a0 0) - 1).toNatClampNeg)), none]) (i := 2) (v := ((x.1 a0 0) - 1)) (by decide) rfl dX12_goRound_18) ?_
  refine lp_X12_goRound_19_t (N := N) hW (by omega) _ a0 (x.1 (pr S a0 13) ((x.1 a0 0) - 1).toNatClampNeg) ((x.1 a0 0) - 1) x h0 ?_
  · intro y8
    refine go1 (M := mX12_goRound) (pc' := 44) (r_aload_n (M := mX12_goRound) (i := 0) rfl dX12_goRound_43) ?_
    refine go1 (M := mX12_goRound) (pc' := 47) (r_getR (M := mX12_goRound) fl_12_47 h0 rfl (wt_some hW h0 (by decide) (by decide) rfl) dX12_goRound_44) ?_
    have hT10 : TY S (pr S a0 13) 14 := wt hW h0 (by decide) (by decide) rfl (by decide)
    refine go1 (M := mX12_goRound) (pc' := 48) (r_iconst (M := mX12_goRound) (v := 0) (by decide) dX12_goRound_47) ?_
    refine go1 (M := mX12_goRound) (pc' := 49) (r_iload_n (M := mX12_goRound) (i := 1) rfl dX12_goRound_48) ?_
    refine go_ck (fun hi11 => ?_)
    refine go1 (M := mX12_goRound) (pc' := 50) (r_iast (M := mX12_goRound) hT10 hi11 dX12_goRound_49) ?_
    refine go_blx (fun x12 => ?_)
    refine go1 (M := mX12_goRound) (pc' := 51) (r_iconst (M := mX12_goRound) (v := 0) (by decide) dX12_goRound_50) ?_
    refine go1 (M := mX12_goRound) (pc' := 52) (ls' := [some (.ref a0), some (.int (x.1 (pr S a0 13) ((x.1 a0 0) - 1).toNatClampNeg)), some (.int 0)]) (r_istore_n (M := mX12_goRound) (ls := [some (.ref a0), some (.int (x.1 (pr S a0 13) ((x.1 a0 0) - 1).toNatClampNeg)), none]) (i := 2) (v := 0) (by decide) rfl dX12_goRound_51) ?_
    refine go_drop (ls' := [some (.ref a0), none, some (.int 0)]) (And.intro rfl (And.intro rfl trivial)) ?_
    refine lp_X12_goRound_52_t (N := N) hW (by omega) _ a0 0 x12 h0 ?_
    · intro y26
      refine go1 (M := mX12_goRound) (pc' := 106) (r_aload_n (M := mX12_goRound) (i := 0) rfl dX12_goRound_105) ?_
      refine go1 (M := mX12_goRound) (pc' := 109) (r_getR (M := mX12_goRound) fl_12_47 h0 rfl (wt_some hW h0 (by decide) (by decide) rfl) dX12_goRound_106) ?_
      have hT28 : TY S (pr S a0 13) 14 := wt hW h0 (by decide) (by decide) rfl (by decide)
      refine go1 (M := mX12_goRound) (pc' := 110) (r_iconst (M := mX12_goRound) (v := 0) (by decide) dX12_goRound_109) ?_
      refine go_ck (fun hi29 => ?_)
      refine go1 (M := mX12_goRound) (pc' := 111) (r_iald (M := mX12_goRound) hT28 hi29 dX12_goRound_110) ?_
      refine go_br (M := mX12_goRound) (pt := 144) (pf := 114) (fun kt kf => r_if_lt (M := mX12_goRound) dX12_goRound_111 (by decide) kt kf) (fun hc30 => ?_) (fun hc30 => ?_)
      · exact go_vret (M := mX12_goRound) rfl rfl dX12_goRound_144
      · refine go1 (M := mX12_goRound) (pc' := 115) (r_aload_n (M := mX12_goRound) (i := 0) rfl dX12_goRound_114) ?_
        refine go1 (M := mX12_goRound) (pc' := 118) (r_getR (M := mX12_goRound) fl_12_38 h0 rfl (wt_some hW h0 (by decide) (by decide) rfl) dX12_goRound_115) ?_
        have hT31 : TY S (pr S a0 10) 14 := wt hW h0 (by decide) (by decide) rfl (by decide)
        refine go1 (M := mX12_goRound) (pc' := 119) (r_aload_n (M := mX12_goRound) (i := 0) rfl dX12_goRound_118) ?_
        refine go1 (M := mX12_goRound) (pc' := 122) (r_getR (M := mX12_goRound) fl_12_47 h0 rfl (wt_some hW h0 (by decide) (by decide) rfl) dX12_goRound_119) ?_
        refine go1 (M := mX12_goRound) (pc' := 123) (r_iconst (M := mX12_goRound) (v := 0) (by decide) dX12_goRound_122) ?_
        refine go_ck (fun hi32 => ?_)
        refine go1 (M := mX12_goRound) (pc' := 124) (r_iald (M := mX12_goRound) hT28 hi32 dX12_goRound_123) ?_
        refine go_ck (fun hi33 => ?_)
        refine go1 (M := mX12_goRound) (pc' := 125) (r_iald (M := mX12_goRound) hT31 hi33 dX12_goRound_124) ?_
        refine go1 (M := mX12_goRound) (pc' := 126) (r_aload_n (M := mX12_goRound) (i := 0) rfl dX12_goRound_125) ?_
        refine go1 (M := mX12_goRound) (pc' := 129) (r_getR (M := mX12_goRound) fl_12_26 h0 rfl (wt_some hW h0 (by decide) (by decide) rfl) dX12_goRound_126) ?_
        have hT34 : TY S (pr S a0 6) 14 := wt hW h0 (by decide) (by decide) rfl (by decide)
        refine go1 (M := mX12_goRound) (pc' := 130) (r_aload_n (M := mX12_goRound) (i := 0) rfl dX12_goRound_129) ?_
        refine go1 (M := mX12_goRound) (pc' := 133) (r_getR (M := mX12_goRound) fl_12_32 h0 rfl (wt_some hW h0 (by decide) (by decide) rfl) dX12_goRound_130) ?_
        have hT35 : TY S (pr S a0 8) 14 := wt hW h0 (by decide) (by decide) rfl (by decide)
        refine go1 (M := mX12_goRound) (pc' := 134) (r_aload_n (M := mX12_goRound) (i := 0) rfl dX12_goRound_133) ?_
        refine go1 (M := mX12_goRound) (pc' := 137) (r_getR (M := mX12_goRound) fl_12_47 h0 rfl (wt_some hW h0 (by decide) (by decide) rfl) dX12_goRound_134) ?_
        refine go1 (M := mX12_goRound) (pc' := 138) (r_iconst (M := mX12_goRound) (v := 0) (by decide) dX12_goRound_137) ?_
        refine go_ck (fun hi36 => ?_)
        refine go1 (M := mX12_goRound) (pc' := 139) (r_iald (M := mX12_goRound) hT28 hi36 dX12_goRound_138) ?_
        refine go_ck (fun hi37 => ?_)
        refine go1 (M := mX12_goRound) (pc' := 140) (r_iald (M := mX12_goRound) hT35 hi37 dX12_goRound_139) ?_
        refine go_ck (fun hi38 => ?_)
        refine go1 (M := mX12_goRound) (pc' := 141) (r_iald (M := mX12_goRound) hT34 hi38 dX12_goRound_140) ?_
        refine go_br (M := mX12_goRound) (pt := 145) (pf := 144) (fun kt kf => r_icmp_gt (M := mX12_goRound) dX12_goRound_141 (by decide) kt kf) (fun hc39 => ?_) (fun hc39 => ?_)
        · refine go1 (M := mX12_goRound) (pc' := 146) (r_aload_n (M := mX12_goRound) (i := 0) rfl dX12_goRound_145) ?_
          refine go1 (M := mX12_goRound) (pc' := 147) (r_aload_n (M := mX12_goRound) (i := 0) rfl dX12_goRound_146) ?_
          refine go1 (M := mX12_goRound) (pc' := 150) (r_getR (M := mX12_goRound) fl_12_47 h0 rfl (wt_some hW h0 (by decide) (by decide) rfl) dX12_goRound_147) ?_
          refine go1 (M := mX12_goRound) (pc' := 151) (r_iconst (M := mX12_goRound) (v := 0) (by decide) dX12_goRound_150) ?_
          refine go_ck (fun hi40 => ?_)
          refine go1 (M := mX12_goRound) (pc' := 152) (r_iald (M := mX12_goRound) hT28 hi40 dX12_goRound_151) ?_
          refine go1 (M := mX12_goRound) (pc' := 153) (r_iconst (M := mX12_goRound) (v := 4) (by decide) dX12_goRound_152) ?_
          refine go_V_SV (M := mX12_goRound) (pc' := 156) (st := []) (As := [.int (y26.1 (pr S a0 13) (0 : Int32).toNatClampNeg), .int 4]) rfl ln_12_235 lb_X12_ends (t_X12_ends (N := N) hW (by omega) h0) (by omega) h0 (Nat.le_of_ble_eq_true rfl) rfl dX12_goRound_153 (fun r41 => ?_)
          refine go1 (M := mX12_goRound) (pc' := 157) (r_aload_n (M := mX12_goRound) (i := 0) rfl dX12_goRound_156) ?_
          refine go1 (M := mX12_goRound) (pc' := 158) (r_dup (M := mX12_goRound) rfl dX12_goRound_157) ?_
          refine go1 (M := mX12_goRound) (pc' := 161) (r_getI (M := mX12_goRound) fl_12_151 h0 rfl dX12_goRound_158) ?_
          refine go1 (M := mX12_goRound) (pc' := 162) (r_iconst (M := mX12_goRound) (v := 1) (by decide) dX12_goRound_161) ?_
          refine go1 (M := mX12_goRound) (pc' := 163) (r_iadd (M := mX12_goRound) dX12_goRound_162) ?_
          refine go1 (M := mX12_goRound) (pc' := 166) (r_putI (M := mX12_goRound) fl_12_151 h0 rfl rfl dX12_goRound_163) ?_
          refine go_blx (fun x42 => ?_)
          refine go1 (M := mX12_goRound) (pc' := 167) (r_aload_n (M := mX12_goRound) (i := 0) rfl dX12_goRound_166) ?_
          refine go1 (M := mX12_goRound) (pc' := 170) (r_getR (M := mX12_goRound) fl_12_47 h0 rfl (wt_some hW h0 (by decide) (by decide) rfl) dX12_goRound_167) ?_
          refine go1 (M := mX12_goRound) (pc' := 171) (r_iconst (M := mX12_goRound) (v := 0) (by decide) dX12_goRound_170) ?_
          refine go1 (M := mX12_goRound) (pc' := 172) (r_iconst (M := mX12_goRound) (v := (-1)) (by decide) dX12_goRound_171) ?_
          refine go_ck (fun hi43 => ?_)
          refine go1 (M := mX12_goRound) (pc' := 173) (r_iast (M := mX12_goRound) hT28 hi43 dX12_goRound_172) ?_
          refine go_blx (fun x44 => ?_)
          exact go_vret (M := mX12_goRound) rfl rfl dX12_goRound_173
        · exact go_vret (M := mX12_goRound) rfl rfl dX12_goRound_144
def j_X12_goLane_34 (N : Nat) (S : SH) (bk2 : Int32 → DY → Option DY) (p0 : Nat) (p1 : Int32) (x : DY) : Option DY :=
  bk2 (p1 + 1) x
set_option maxHeartbeats 1000000 in
theorem j_X12_goLane_34_t {N d : Nat} {S : SH} (hW : WT S) (hd : 1 ≤ d) (bk2 : Int32 → DY → Option DY) (p0 : Nat) (p1 : Int32) (x : DY) (g0 : TY S p0 12) (hbk2 : ∀ (v1 : Int32) (y : DY), Go mX12_goLane d S wSV 2 [some (.ref p0), some (.int v1), none, none] [] y (bk2 v1 y)) : Go mX12_goLane d S wSV 34 [some (.ref p0), some (.int p1), none, none] [] x (j_X12_goLane_34 N S bk2 p0 p1 x) := by
  unfold j_X12_goLane_34
  refine go1 (M := mX12_goLane) (pc' := 37) (ls' := [some (.ref p0), some (.int (p1 + 1)), none, none]) (r_iinc (M := mX12_goLane) (ls := [some (.ref p0), some (.int p1), none, none]) (i := 1) (v := p1) (c' := 1) (by decide) rfl (by decide) rfl dX12_goLane_34) ?_
  refine go1 (M := mX12_goLane) (pc' := 2) (r_goto (M := mX12_goLane) dX12_goLane_37 (by decide)) ?_
  exact hbk2 (p1 + 1) x
def lp_X12_goLane_2_b (N : Nat) (S : SH) (k40 : DY → Option DY) (bk2 : Int32 → DY → Option DY) (p0 : Nat) (p1 : Int32) (x : DY) : Option DY :=
  (if (x.1 p0 0) ≤ p1 then k40 x else ck S (pr S p0 14) p1 ((if (x.1 (pr S p0 14) p1.toNatClampNeg) < 0 then j_X12_goLane_34 N S bk2 p0 p1 x else ck S (pr S p0 14) p1 (ck S (pr S p0 10) (x.1 (pr S p0 14) p1.toNatClampNeg) (ck S (pr S p0 10) (x.1 (pr S p0 14) p1.toNatClampNeg) (bl (U1 x (pr S p0 10) (x.1 (pr S p0 14) p1.toNatClampNeg).toNatClampNeg ((x.1 (pr S p0 10) (x.1 (pr S p0 14) p1.toNatClampNeg).toNatClampNeg) + 1)) (fun x10 => j_X12_goLane_34 N S bk2 p0 p1 x10)))))))
set_option maxHeartbeats 1000000 in
theorem lp_X12_goLane_2_b_t {N d : Nat} {S : SH} (hW : WT S) (hd : 1 ≤ d) (k40 : DY → Option DY) (bk2 : Int32 → DY → Option DY) (p0 : Nat) (p1 : Int32) (x : DY) (g0 : TY S p0 12) (hk40 : ∀ (y : DY), Go mX12_goLane d S wSV 40 [some (.ref p0), none, none, none] [] y (k40 y)) (hbk2 : ∀ (v1 : Int32) (y : DY), Go mX12_goLane d S wSV 2 [some (.ref p0), some (.int v1), none, none] [] y (bk2 v1 y)) : Go mX12_goLane d S wSV 2 [some (.ref p0), some (.int p1), none, none] [] x (lp_X12_goLane_2_b N S k40 bk2 p0 p1 x) := by
  unfold lp_X12_goLane_2_b
  refine go1 (M := mX12_goLane) (pc' := 3) (r_iload_n (M := mX12_goLane) (i := 1) rfl dX12_goLane_2) ?_
  refine go1 (M := mX12_goLane) (pc' := 4) (r_aload_n (M := mX12_goLane) (i := 0) rfl dX12_goLane_3) ?_
  refine go1 (M := mX12_goLane) (pc' := 7) (r_getI (M := mX12_goLane) fl_12_211 g0 rfl dX12_goLane_4) ?_
  refine go_br (M := mX12_goLane) (pt := 40) (pf := 10) (fun kt kf => r_icmp_ge (M := mX12_goLane) dX12_goLane_7 (by decide) kt kf) (fun hc2 => ?_) (fun hc2 => ?_)
  · refine go_drop (ls' := [some (.ref p0), none, none, none]) (And.intro rfl trivial) ?_
    exact hk40 x
  · refine go1 (M := mX12_goLane) (pc' := 11) (r_aload_n (M := mX12_goLane) (i := 0) rfl dX12_goLane_10) ?_
    refine go1 (M := mX12_goLane) (pc' := 14) (r_getR (M := mX12_goLane) fl_12_50 g0 rfl (wt_some hW g0 (by decide) (by decide) rfl) dX12_goLane_11) ?_
    have hT3 : TY S (pr S p0 14) 14 := wt hW g0 (by decide) (by decide) rfl (by decide)
    refine go1 (M := mX12_goLane) (pc' := 15) (r_iload_n (M := mX12_goLane) (i := 1) rfl dX12_goLane_14) ?_
    refine go_ck (fun hi4 => ?_)
    refine go1 (M := mX12_goLane) (pc' := 16) (r_iald (M := mX12_goLane) hT3 hi4 dX12_goLane_15) ?_
    refine go_br (M := mX12_goLane) (pt := 34) (pf := 19) (fun kt kf => r_if_lt (M := mX12_goLane) dX12_goLane_16 (by decide) kt kf) (fun hc5 => ?_) (fun hc5 => ?_)
    · exact j_X12_goLane_34_t (N := N) hW (by omega) bk2 p0 p1 x g0 hbk2
    · refine go1 (M := mX12_goLane) (pc' := 20) (r_aload_n (M := mX12_goLane) (i := 0) rfl dX12_goLane_19) ?_
      refine go1 (M := mX12_goLane) (pc' := 23) (r_getR (M := mX12_goLane) fl_12_38 g0 rfl (wt_some hW g0 (by decide) (by decide) rfl) dX12_goLane_20) ?_
      have hT6 : TY S (pr S p0 10) 14 := wt hW g0 (by decide) (by decide) rfl (by decide)
      refine go1 (M := mX12_goLane) (pc' := 24) (r_aload_n (M := mX12_goLane) (i := 0) rfl dX12_goLane_23) ?_
      refine go1 (M := mX12_goLane) (pc' := 27) (r_getR (M := mX12_goLane) fl_12_50 g0 rfl (wt_some hW g0 (by decide) (by decide) rfl) dX12_goLane_24) ?_
      refine go1 (M := mX12_goLane) (pc' := 28) (r_iload_n (M := mX12_goLane) (i := 1) rfl dX12_goLane_27) ?_
      refine go_ck (fun hi7 => ?_)
      refine go1 (M := mX12_goLane) (pc' := 29) (r_iald (M := mX12_goLane) hT3 hi7 dX12_goLane_28) ?_
      refine go1 (M := mX12_goLane) (pc' := 30) (r_dup2 (M := mX12_goLane) rfl rfl dX12_goLane_29) ?_
      refine go_ck (fun hi8 => ?_)
      refine go1 (M := mX12_goLane) (pc' := 31) (r_iald (M := mX12_goLane) hT6 hi8 dX12_goLane_30) ?_
      refine go1 (M := mX12_goLane) (pc' := 32) (r_iconst (M := mX12_goLane) (v := 1) (by decide) dX12_goLane_31) ?_
      refine go1 (M := mX12_goLane) (pc' := 33) (r_iadd (M := mX12_goLane) dX12_goLane_32) ?_
      refine go_ck (fun hi9 => ?_)
      refine go1 (M := mX12_goLane) (pc' := 34) (r_iast (M := mX12_goLane) hT6 hi9 dX12_goLane_33) ?_
      refine go_blx (fun x10 => ?_)
      exact j_X12_goLane_34_t (N := N) hW (by omega) bk2 p0 p1 x10 g0 hbk2
def lp_X12_goLane_2 (N : Nat) (S : SH) (k40 : DY → Option DY) (p0 : Nat) (p1 : Int32) (x : DY) : Option DY :=
  itr (fun back (v : Int32 × DY) => lp_X12_goLane_2_b N S k40 (fun p1 y => back (p1, y)) p0 v.1 v.2) N (p1, x)
theorem lp_X12_goLane_2_t {N d : Nat} {S : SH} (hW : WT S) (hd : 1 ≤ d) (k40 : DY → Option DY) (p0 : Nat) (p1 : Int32) (x : DY) (g0 : TY S p0 12) (hk40 : ∀ (y : DY), Go mX12_goLane d S wSV 40 [some (.ref p0), none, none, none] [] y (k40 y)) : Go mX12_goLane d S wSV 2 [some (.ref p0), some (.int p1), none, none] [] x (lp_X12_goLane_2 N S k40 p0 p1 x) := by
  unfold lp_X12_goLane_2
  exact go_itr (L := fun (v : Int32 × DY) => [some (.ref p0), some (.int v.1), none, none]) (X := fun (v : Int32 × DY) => v.2) (fun back hB v => lp_X12_goLane_2_b_t (N := N) hW hd k40 (fun p1 y => back (p1, y)) p0 v.1 v.2 g0 hk40 (fun p1 y => hB (p1, y)) ) N (p1, x)
def j_X12_goLane_166 (N : Nat) (S : SH) (bk47 : Int32 → DY → Option DY) (p0 : Nat) (p1 : Int32) (x : DY) : Option DY :=
  bk47 (p1 + (-1)) x
set_option maxHeartbeats 1000000 in
theorem j_X12_goLane_166_t {N d : Nat} {S : SH} (hW : WT S) (hd : 1 ≤ d) (bk47 : Int32 → DY → Option DY) (p0 : Nat) (p1 : Int32) (x : DY) (g0 : TY S p0 12) (hbk47 : ∀ (v1 : Int32) (y : DY), Go mX12_goLane d S wSV 47 [some (.ref p0), some (.int v1), none, none] [] y (bk47 v1 y)) : Go mX12_goLane d S wSV 166 [some (.ref p0), some (.int p1), none, none] [] x (j_X12_goLane_166 N S bk47 p0 p1 x) := by
  unfold j_X12_goLane_166
  refine go1 (M := mX12_goLane) (pc' := 169) (ls' := [some (.ref p0), some (.int (p1 + (-1))), none, none]) (r_iinc (M := mX12_goLane) (ls := [some (.ref p0), some (.int p1), none, none]) (i := 1) (v := p1) (c' := (-1)) (by decide) rfl (by decide) rfl dX12_goLane_166) ?_
  refine go1 (M := mX12_goLane) (pc' := 47) (r_goto (M := mX12_goLane) dX12_goLane_169 (by decide)) ?_
  exact hbk47 (p1 + (-1)) x
def lp_X12_goLane_47_b (N : Nat) (S : SH) (k172 : DY → Option DY) (bk47 : Int32 → DY → Option DY) (p0 : Nat) (p1 : Int32) (x : DY) : Option DY :=
  (if p1 < 0 then k172 x else ck S (pr S p0 14) p1 ((if 0 ≤ (x.1 (pr S p0 14) p1.toNatClampNeg) then ck S (pr S p0 16) (x.1 (pr S p0 14) p1.toNatClampNeg) (ck S (pr S p0 19) (x.1 (pr S p0 16) (x.1 (pr S p0 14) p1.toNatClampNeg).toNatClampNeg) ((if (x.1 (pr S p0 19) (x.1 (pr S p0 16) (x.1 (pr S p0 14) p1.toNatClampNeg).toNatClampNeg).toNatClampNeg) = p1 then ck S (pr S p0 26) (x.1 (pr S p0 16) (x.1 (pr S p0 14) p1.toNatClampNeg).toNatClampNeg) ((if (x.1 (pr S p0 26) (x.1 (pr S p0 16) (x.1 (pr S p0 14) p1.toNatClampNeg).toNatClampNeg).toNatClampNeg) = 0 then Option.bind (f_X12_ends N S p0 (x.1 (pr S p0 14) p1.toNatClampNeg) 4 x) (fun r35 => bl (U1 r35 p0 47 ((r35.1 p0 47) + 1)) (fun x36 => ck S (pr S p0 14) p1 (bl (U1 x36 (pr S p0 14) p1.toNatClampNeg (-1)) (fun x38 => j_X12_goLane_166 N S bk47 p0 p1 x38)))) else j_X12_goLane_166 N S bk47 p0 p1 x)) else (if (x.1 p0 0) ≤ (p1 + 1) then j_X12_goLane_166 N S bk47 p0 p1 x else ck S (pr S p0 14) (p1 + 1) ((if 0 ≤ (x.1 (pr S p0 14) (p1 + 1).toNatClampNeg) then j_X12_goLane_166 N S bk47 p0 p1 x else ck S (pr S p0 14) (p1 + 1) (bl (U1 x (pr S p0 14) (p1 + 1).toNatClampNeg (x.1 (pr S p0 14) p1.toNatClampNeg)) (fun x26 => ck S (pr S p0 14) p1 (bl (U1 x26 (pr S p0 14) p1.toNatClampNeg (-1)) (fun x28 => ck S (pr S p0 12) (x.1 (pr S p0 14) p1.toNatClampNeg) (bl (U1 x28 (pr S p0 12) (x.1 (pr S p0 14) p1.toNatClampNeg).toNatClampNeg (p1 + 1)) (fun x31 => j_X12_goLane_166 N S bk47 p0 p1 x31)))))))))))) else j_X12_goLane_166 N S bk47 p0 p1 x)))
set_option maxHeartbeats 1000000 in
theorem lp_X12_goLane_47_b_t {N d : Nat} {S : SH} (hW : WT S) (hd : 2 ≤ d) (k172 : DY → Option DY) (bk47 : Int32 → DY → Option DY) (p0 : Nat) (p1 : Int32) (x : DY) (g0 : TY S p0 12) (hk172 : ∀ (y : DY), Go mX12_goLane d S wSV 172 [some (.ref p0), none, none, none] [] y (k172 y)) (hbk47 : ∀ (v1 : Int32) (y : DY), Go mX12_goLane d S wSV 47 [some (.ref p0), some (.int v1), none, none] [] y (bk47 v1 y)) : Go mX12_goLane d S wSV 47 [some (.ref p0), some (.int p1), none, none] [] x (lp_X12_goLane_47_b N S k172 bk47 p0 p1 x) := by
  unfold lp_X12_goLane_47_b
  refine go1 (M := mX12_goLane) (pc' := 48) (r_iload_n (M := mX12_goLane) (i := 1) rfl dX12_goLane_47) ?_
  refine go_br (M := mX12_goLane) (pt := 172) (pf := 51) (fun kt kf => r_if_lt (M := mX12_goLane) dX12_goLane_48 (by decide) kt kf) (fun hc13 => ?_) (fun hc13 => ?_)
  · refine go_drop (ls' := [some (.ref p0), none, none, none]) (And.intro rfl trivial) ?_
    exact hk172 x
  · refine go1 (M := mX12_goLane) (pc' := 52) (r_aload_n (M := mX12_goLane) (i := 0) rfl dX12_goLane_51) ?_
    refine go1 (M := mX12_goLane) (pc' := 55) (r_getR (M := mX12_goLane) fl_12_50 g0 rfl (wt_some hW g0 (by decide) (by decide) rfl) dX12_goLane_52) ?_
    have hT14 : TY S (pr S p0 14) 14 := wt hW g0 (by decide) (by decide) rfl (by decide)
    refine go1 (M := mX12_goLane) (pc' := 56) (r_iload_n (M := mX12_goLane) (i := 1) rfl dX12_goLane_55) ?_
    refine go_ck (fun hi15 => ?_)
    refine go1 (M := mX12_goLane) (pc' := 57) (r_iald (M := mX12_goLane) hT14 hi15 dX12_goLane_56) ?_
    refine go1 (M := mX12_goLane) (pc' := 58) (ls' := [some (.ref p0), some (.int p1), some (.int (x.1 (pr S p0 14) p1.toNatClampNeg)), none]) (r_istore_n (M := mX12_goLane) (ls := [some (.ref p0), some (.int p1), none, none]) (i := 2) (v := (x.1 (pr S p0 14) p1.toNatClampNeg)) (by decide) rfl dX12_goLane_57) ?_
    refine go1 (M := mX12_goLane) (pc' := 59) (r_iload_n (M := mX12_goLane) (i := 2) rfl dX12_goLane_58) ?_
    refine go_br (M := mX12_goLane) (pt := 65) (pf := 62) (fun kt kf => r_if_ge (M := mX12_goLane) dX12_goLane_59 (by decide) kt kf) (fun hc16 => ?_) (fun hc16 => ?_)
    · refine go1 (M := mX12_goLane) (pc' := 66) (r_aload_n (M := mX12_goLane) (i := 0) rfl dX12_goLane_65) ?_
      refine go1 (M := mX12_goLane) (pc' := 69) (r_getR (M := mX12_goLane) fl_12_56 g0 rfl (wt_some hW g0 (by decide) (by decide) rfl) dX12_goLane_66) ?_
      have hT17 : TY S (pr S p0 16) 14 := wt hW g0 (by decide) (by decide) rfl (by decide)
      refine go1 (M := mX12_goLane) (pc' := 70) (r_iload_n (M := mX12_goLane) (i := 2) rfl dX12_goLane_69) ?_
      refine go_ck (fun hi18 => ?_)
      refine go1 (M := mX12_goLane) (pc' := 71) (r_iald (M := mX12_goLane) hT17 hi18 dX12_goLane_70) ?_
      refine go1 (M := mX12_goLane) (pc' := 72) (ls' := [some (.ref p0), some (.int p1), some (.int (x.1 (pr S p0 14) p1.toNatClampNeg)), some (.int (x.1 (pr S p0 16) (x.1 (pr S p0 14) p1.toNatClampNeg).toNatClampNeg))]) (r_istore_n (M := mX12_goLane) (ls := [some (.ref p0), some (.int p1), some (.int (x.1 (pr S p0 14) p1.toNatClampNeg)), none]) (i := 3) (v := (x.1 (pr S p0 16) (x.1 (pr S p0 14) p1.toNatClampNeg).toNatClampNeg)) (by decide) rfl dX12_goLane_71) ?_
      refine go1 (M := mX12_goLane) (pc' := 73) (r_aload_n (M := mX12_goLane) (i := 0) rfl dX12_goLane_72) ?_
      refine go1 (M := mX12_goLane) (pc' := 76) (r_getR (M := mX12_goLane) fl_12_65 g0 rfl (wt_some hW g0 (by decide) (by decide) rfl) dX12_goLane_73) ?_
      have hT19 : TY S (pr S p0 19) 14 := wt hW g0 (by decide) (by decide) rfl (by decide)
      refine go1 (M := mX12_goLane) (pc' := 77) (r_iload_n (M := mX12_goLane) (i := 3) rfl dX12_goLane_76) ?_
      refine go_ck (fun hi20 => ?_)
      refine go1 (M := mX12_goLane) (pc' := 78) (r_iald (M := mX12_goLane) hT19 hi20 dX12_goLane_77) ?_
      refine go1 (M := mX12_goLane) (pc' := 79) (r_iload_n (M := mX12_goLane) (i := 1) rfl dX12_goLane_78) ?_
      refine go_br (M := mX12_goLane) (pt := 82) (pf := 120) (fun kt kf => r_icmp_ne (M := mX12_goLane) dX12_goLane_79 (by decide) kf kt) (fun hc21 => ?_) (fun hc21 => ?_)
      · refine go1 (M := mX12_goLane) (pc' := 83) (r_aload_n (M := mX12_goLane) (i := 0) rfl dX12_goLane_82) ?_
        refine go1 (M := mX12_goLane) (pc' := 86) (r_getR (M := mX12_goLane) fl_12_86 g0 rfl (wt_some hW g0 (by decide) (by decide) rfl) dX12_goLane_83) ?_
        have hT32 : TY S (pr S p0 26) 15 := wt hW g0 (by decide) (by decide) rfl (by decide)
        refine go1 (M := mX12_goLane) (pc' := 87) (r_iload_n (M := mX12_goLane) (i := 3) rfl dX12_goLane_86) ?_
        refine go_ck (fun hi33 => ?_)
        refine go1 (M := mX12_goLane) (pc' := 88) (r_zald (M := mX12_goLane) hT32 hi33 dX12_goLane_87) ?_
        refine go_br (M := mX12_goLane) (pt := 94) (pf := 91) (fun kt kf => r_if_eq (M := mX12_goLane) dX12_goLane_88 (by decide) kt kf) (fun hc34 => ?_) (fun hc34 => ?_)
        · refine go1 (M := mX12_goLane) (pc' := 95) (r_aload_n (M := mX12_goLane) (i := 0) rfl dX12_goLane_94) ?_
          refine go1 (M := mX12_goLane) (pc' := 96) (r_iload_n (M := mX12_goLane) (i := 2) rfl dX12_goLane_95) ?_
          refine go1 (M := mX12_goLane) (pc' := 97) (r_iconst (M := mX12_goLane) (v := 4) (by decide) dX12_goLane_96) ?_
          refine go_V_SV (M := mX12_goLane) (pc' := 100) (st := []) (As := [.int (x.1 (pr S p0 14) p1.toNatClampNeg), .int 4]) rfl ln_12_235 lb_X12_ends (t_X12_ends (N := N) hW (by omega) g0) (by omega) g0 (Nat.le_of_ble_eq_true rfl) rfl dX12_goLane_97 (fun r35 => ?_)
          refine go1 (M := mX12_goLane) (pc' := 101) (r_aload_n (M := mX12_goLane) (i := 0) rfl dX12_goLane_100) ?_
          refine go1 (M := mX12_goLane) (pc' := 102) (r_dup (M := mX12_goLane) rfl dX12_goLane_101) ?_
          refine go1 (M := mX12_goLane) (pc' := 105) (r_getI (M := mX12_goLane) fl_12_151 g0 rfl dX12_goLane_102) ?_
          refine go1 (M := mX12_goLane) (pc' := 106) (r_iconst (M := mX12_goLane) (v := 1) (by decide) dX12_goLane_105) ?_
          refine go1 (M := mX12_goLane) (pc' := 107) (r_iadd (M := mX12_goLane) dX12_goLane_106) ?_
          refine go1 (M := mX12_goLane) (pc' := 110) (r_putI (M := mX12_goLane) fl_12_151 g0 rfl rfl dX12_goLane_107) ?_
          refine go_blx (fun x36 => ?_)
          refine go1 (M := mX12_goLane) (pc' := 111) (r_aload_n (M := mX12_goLane) (i := 0) rfl dX12_goLane_110) ?_
          refine go1 (M := mX12_goLane) (pc' := 114) (r_getR (M := mX12_goLane) fl_12_50 g0 rfl (wt_some hW g0 (by decide) (by decide) rfl) dX12_goLane_111) ?_
          refine go1 (M := mX12_goLane) (pc' := 115) (r_iload_n (M := mX12_goLane) (i := 1) rfl dX12_goLane_114) ?_
          refine go1 (M := mX12_goLane) (pc' := 116) (r_iconst (M := mX12_goLane) (v := (-1)) (by decide) dX12_goLane_115) ?_
          refine go_ck (fun hi37 => ?_)
          refine go1 (M := mX12_goLane) (pc' := 117) (r_iast (M := mX12_goLane) hT14 hi37 dX12_goLane_116) ?_
          refine go_blx (fun x38 => ?_)
          refine go1 (M := mX12_goLane) (pc' := 166) (r_goto (M := mX12_goLane) dX12_goLane_117 (by decide)) ?_
          refine go_drop (ls' := [some (.ref p0), some (.int p1), none, none]) (And.intro rfl (And.intro rfl trivial)) ?_
          exact j_X12_goLane_166_t (N := N) hW (by omega) bk47 p0 p1 x38 g0 hbk47
        · refine go1 (M := mX12_goLane) (pc' := 166) (r_goto (M := mX12_goLane) dX12_goLane_91 (by decide)) ?_
          refine go_drop (ls' := [some (.ref p0), some (.int p1), none, none]) (And.intro rfl (And.intro rfl trivial)) ?_
          exact j_X12_goLane_166_t (N := N) hW (by omega) bk47 p0 p1 x g0 hbk47
      · refine go1 (M := mX12_goLane) (pc' := 121) (r_iload_n (M := mX12_goLane) (i := 1) rfl dX12_goLane_120) ?_
        refine go1 (M := mX12_goLane) (pc' := 122) (r_iconst (M := mX12_goLane) (v := 1) (by decide) dX12_goLane_121) ?_
        refine go1 (M := mX12_goLane) (pc' := 123) (r_iadd (M := mX12_goLane) dX12_goLane_122) ?_
        refine go1 (M := mX12_goLane) (pc' := 124) (r_aload_n (M := mX12_goLane) (i := 0) rfl dX12_goLane_123) ?_
        refine go1 (M := mX12_goLane) (pc' := 127) (r_getI (M := mX12_goLane) fl_12_211 g0 rfl dX12_goLane_124) ?_
        refine go_br (M := mX12_goLane) (pt := 166) (pf := 130) (fun kt kf => r_icmp_ge (M := mX12_goLane) dX12_goLane_127 (by decide) kt kf) (fun hc22 => ?_) (fun hc22 => ?_)
        · refine go_drop (ls' := [some (.ref p0), some (.int p1), none, none]) (And.intro rfl (And.intro rfl trivial)) ?_
          exact j_X12_goLane_166_t (N := N) hW (by omega) bk47 p0 p1 x g0 hbk47
        · refine go1 (M := mX12_goLane) (pc' := 131) (r_aload_n (M := mX12_goLane) (i := 0) rfl dX12_goLane_130) ?_
          refine go1 (M := mX12_goLane) (pc' := 134) (r_getR (M := mX12_goLane) fl_12_50 g0 rfl (wt_some hW g0 (by decide) (by decide) rfl) dX12_goLane_131) ?_
          refine go1 (M := mX12_goLane) (pc' := 135) (r_iload_n (M := mX12_goLane) (i := 1) rfl dX12_goLane_134) ?_
          refine go1 (M := mX12_goLane) (pc' := 136) (r_iconst (M := mX12_goLane) (v := 1) (by decide) dX12_goLane_135) ?_
          refine go1 (M := mX12_goLane) (pc' := 137) (r_iadd (M := mX12_goLane) dX12_goLane_136) ?_
          refine go_ck (fun hi23 => ?_)
          refine go1 (M := mX12_goLane) (pc' := 138) (r_iald (M := mX12_goLane) hT14 hi23 dX12_goLane_137) ?_
          refine go_br (M := mX12_goLane) (pt := 166) (pf := 141) (fun kt kf => r_if_ge (M := mX12_goLane) dX12_goLane_138 (by decide) kt kf) (fun hc24 => ?_) (fun hc24 => ?_)
          · refine go_drop (ls' := [some (.ref p0), some (.int p1), none, none]) (And.intro rfl (And.intro rfl trivial)) ?_
            exact j_X12_goLane_166_t (N := N) hW (by omega) bk47 p0 p1 x g0 hbk47
          · refine go1 (M := mX12_goLane) (pc' := 142) (r_aload_n (M := mX12_goLane) (i := 0) rfl dX12_goLane_141) ?_
            refine go1 (M := mX12_goLane) (pc' := 145) (r_getR (M := mX12_goLane) fl_12_50 g0 rfl (wt_some hW g0 (by decide) (by decide) rfl) dX12_goLane_142) ?_
            refine go1 (M := mX12_goLane) (pc' := 146) (r_iload_n (M := mX12_goLane) (i := 1) rfl dX12_goLane_145) ?_
            refine go1 (M := mX12_goLane) (pc' := 147) (r_iconst (M := mX12_goLane) (v := 1) (by decide) dX12_goLane_146) ?_
            refine go1 (M := mX12_goLane) (pc' := 148) (r_iadd (M := mX12_goLane) dX12_goLane_147) ?_
            refine go1 (M := mX12_goLane) (pc' := 149) (r_iload_n (M := mX12_goLane) (i := 2) rfl dX12_goLane_148) ?_
            refine go_ck (fun hi25 => ?_)
            refine go1 (M := mX12_goLane) (pc' := 150) (r_iast (M := mX12_goLane) hT14 hi25 dX12_goLane_149) ?_
            refine go_blx (fun x26 => ?_)
            refine go1 (M := mX12_goLane) (pc' := 151) (r_aload_n (M := mX12_goLane) (i := 0) rfl dX12_goLane_150) ?_
            refine go1 (M := mX12_goLane) (pc' := 154) (r_getR (M := mX12_goLane) fl_12_50 g0 rfl (wt_some hW g0 (by decide) (by decide) rfl) dX12_goLane_151) ?_
            refine go1 (M := mX12_goLane) (pc' := 155) (r_iload_n (M := mX12_goLane) (i := 1) rfl dX12_goLane_154) ?_
            refine go1 (M := mX12_goLane) (pc' := 156) (r_iconst (M := mX12_goLane) (v := (-1)) (by decide) dX12_goLane_155) ?_
            refine go_ck (fun hi27 => ?_)
            refine go1 (M := mX12_goLane) (pc' := 157) (r_iast (M := mX12_goLane) hT14 hi27 dX12_goLane_156) ?_
            refine go_blx (fun x28 => ?_)
            refine go1 (M := mX12_goLane) (pc' := 158) (r_aload_n (M := mX12_goLane) (i := 0) rfl dX12_goLane_157) ?_
            refine go1 (M := mX12_goLane) (pc' := 161) (r_getR (M := mX12_goLane) fl_12_44 g0 rfl (wt_some hW g0 (by decide) (by decide) rfl) dX12_goLane_158) ?_
            have hT29 : TY S (pr S p0 12) 14 := wt hW g0 (by decide) (by decide) rfl (by decide)
            refine go1 (M := mX12_goLane) (pc' := 162) (r_iload_n (M := mX12_goLane) (i := 2) rfl dX12_goLane_161) ?_
            refine go1 (M := mX12_goLane) (pc' := 163) (r_iload_n (M := mX12_goLane) (i := 1) rfl dX12_goLane_162) ?_
            refine go1 (M := mX12_goLane) (pc' := 164) (r_iconst (M := mX12_goLane) (v := 1) (by decide) dX12_goLane_163) ?_
            refine go1 (M := mX12_goLane) (pc' := 165) (r_iadd (M := mX12_goLane) dX12_goLane_164) ?_
            refine go_ck (fun hi30 => ?_)
            refine go1 (M := mX12_goLane) (pc' := 166) (r_iast (M := mX12_goLane) hT29 hi30 dX12_goLane_165) ?_
            refine go_blx (fun x31 => ?_)
            refine go_drop (ls' := [some (.ref p0), some (.int p1), none, none]) (And.intro rfl (And.intro rfl trivial)) ?_
            exact j_X12_goLane_166_t (N := N) hW (by omega) bk47 p0 p1 x31 g0 hbk47
    · refine go1 (M := mX12_goLane) (pc' := 166) (r_goto (M := mX12_goLane) dX12_goLane_62 (by decide)) ?_
      refine go_drop (ls' := [some (.ref p0), some (.int p1), none, none]) (And.intro rfl (And.intro rfl trivial)) ?_
      exact j_X12_goLane_166_t (N := N) hW (by omega) bk47 p0 p1 x g0 hbk47
def lp_X12_goLane_47 (N : Nat) (S : SH) (k172 : DY → Option DY) (p0 : Nat) (p1 : Int32) (x : DY) : Option DY :=
  itr (fun back (v : Int32 × DY) => lp_X12_goLane_47_b N S k172 (fun p1 y => back (p1, y)) p0 v.1 v.2) N (p1, x)
theorem lp_X12_goLane_47_t {N d : Nat} {S : SH} (hW : WT S) (hd : 2 ≤ d) (k172 : DY → Option DY) (p0 : Nat) (p1 : Int32) (x : DY) (g0 : TY S p0 12) (hk172 : ∀ (y : DY), Go mX12_goLane d S wSV 172 [some (.ref p0), none, none, none] [] y (k172 y)) : Go mX12_goLane d S wSV 47 [some (.ref p0), some (.int p1), none, none] [] x (lp_X12_goLane_47 N S k172 p0 p1 x) := by
  unfold lp_X12_goLane_47
  exact go_itr (L := fun (v : Int32 × DY) => [some (.ref p0), some (.int v.1), none, none]) (X := fun (v : Int32 × DY) => v.2) (fun back hB v => lp_X12_goLane_47_b_t (N := N) hW hd k172 (fun p1 y => back (p1, y)) p0 v.1 v.2 g0 hk172 (fun p1 y => hB (p1, y)) ) N (p1, x)
def lp_X12_goLane_225_b (N : Nat) (S : SH) (bk225 : Int32 → DY → Option DY) (p0 : Nat) (p1 : Int32) (x : DY) : Option DY :=
  (if (x.1 p0 17) ≤ p1 then some x else ck S (pr S p0 15) (p1 + 1) (ck S (pr S p0 15) p1 (bl (U1 x (pr S p0 15) p1.toNatClampNeg (x.1 (pr S p0 15) (p1 + 1).toNatClampNeg)) (fun x58 => bk225 (p1 + 1) x58))))
set_option maxHeartbeats 1000000 in
theorem lp_X12_goLane_225_b_t {N d : Nat} {S : SH} (hW : WT S) (hd : 2 ≤ d) (bk225 : Int32 → DY → Option DY) (p0 : Nat) (p1 : Int32) (x : DY) (g0 : TY S p0 12) (hbk225 : ∀ (v1 : Int32) (y : DY), Go mX12_goLane d S wSV 225 [some (.ref p0), some (.int v1), none, none] [] y (bk225 v1 y)) : Go mX12_goLane d S wSV 225 [some (.ref p0), some (.int p1), none, none] [] x (lp_X12_goLane_225_b N S bk225 p0 p1 x) := by
  unfold lp_X12_goLane_225_b
  refine go1 (M := mX12_goLane) (pc' := 226) (r_iload_n (M := mX12_goLane) (i := 1) rfl dX12_goLane_225) ?_
  refine go1 (M := mX12_goLane) (pc' := 227) (r_aload_n (M := mX12_goLane) (i := 0) rfl dX12_goLane_226) ?_
  refine go1 (M := mX12_goLane) (pc' := 230) (r_getI (M := mX12_goLane) fl_12_59 g0 rfl dX12_goLane_227) ?_
  refine go_br (M := mX12_goLane) (pt := 253) (pf := 233) (fun kt kf => r_icmp_ge (M := mX12_goLane) dX12_goLane_230 (by decide) kt kf) (fun hc54 => ?_) (fun hc54 => ?_)
  · exact go_vret (M := mX12_goLane) rfl rfl dX12_goLane_253
  · refine go1 (M := mX12_goLane) (pc' := 234) (r_aload_n (M := mX12_goLane) (i := 0) rfl dX12_goLane_233) ?_
    refine go1 (M := mX12_goLane) (pc' := 237) (r_getR (M := mX12_goLane) fl_12_53 g0 rfl (wt_some hW g0 (by decide) (by decide) rfl) dX12_goLane_234) ?_
    have hT55 : TY S (pr S p0 15) 14 := wt hW g0 (by decide) (by decide) rfl (by decide)
    refine go1 (M := mX12_goLane) (pc' := 238) (r_iload_n (M := mX12_goLane) (i := 1) rfl dX12_goLane_237) ?_
    refine go1 (M := mX12_goLane) (pc' := 239) (r_aload_n (M := mX12_goLane) (i := 0) rfl dX12_goLane_238) ?_
    refine go1 (M := mX12_goLane) (pc' := 242) (r_getR (M := mX12_goLane) fl_12_53 g0 rfl (wt_some hW g0 (by decide) (by decide) rfl) dX12_goLane_239) ?_
    refine go1 (M := mX12_goLane) (pc' := 243) (r_iload_n (M := mX12_goLane) (i := 1) rfl dX12_goLane_242) ?_
    refine go1 (M := mX12_goLane) (pc' := 244) (r_iconst (M := mX12_goLane) (v := 1) (by decide) dX12_goLane_243) ?_
    refine go1 (M := mX12_goLane) (pc' := 245) (r_iadd (M := mX12_goLane) dX12_goLane_244) ?_
    refine go_ck (fun hi56 => ?_)
    refine go1 (M := mX12_goLane) (pc' := 246) (r_iald (M := mX12_goLane) hT55 hi56 dX12_goLane_245) ?_
    refine go_ck (fun hi57 => ?_)
    refine go1 (M := mX12_goLane) (pc' := 247) (r_iast (M := mX12_goLane) hT55 hi57 dX12_goLane_246) ?_
    refine go_blx (fun x58 => ?_)
    refine go1 (M := mX12_goLane) (pc' := 250) (ls' := [some (.ref p0), some (.int (p1 + 1)), none, none]) (r_iinc (M := mX12_goLane) (ls := [some (.ref p0), some (.int p1), none, none]) (i := 1) (v := p1) (c' := 1) (by decide) rfl (by decide) rfl dX12_goLane_247) ?_
    refine go1 (M := mX12_goLane) (pc' := 225) (r_goto (M := mX12_goLane) dX12_goLane_250 (by decide)) ?_
    exact hbk225 (p1 + 1) x58
def lp_X12_goLane_225 (N : Nat) (S : SH) (p0 : Nat) (p1 : Int32) (x : DY) : Option DY :=
  itr (fun back (v : Int32 × DY) => lp_X12_goLane_225_b N S (fun p1 y => back (p1, y)) p0 v.1 v.2) N (p1, x)
theorem lp_X12_goLane_225_t {N d : Nat} {S : SH} (hW : WT S) (hd : 2 ≤ d) (p0 : Nat) (p1 : Int32) (x : DY) (g0 : TY S p0 12) : Go mX12_goLane d S wSV 225 [some (.ref p0), some (.int p1), none, none] [] x (lp_X12_goLane_225 N S p0 p1 x) := by
  unfold lp_X12_goLane_225
  exact go_itr (L := fun (v : Int32 × DY) => [some (.ref p0), some (.int v.1), none, none]) (X := fun (v : Int32 × DY) => v.2) (fun back hB v => lp_X12_goLane_225_b_t (N := N) hW hd (fun p1 y => back (p1, y)) p0 v.1 v.2 g0 (fun p1 y => hB (p1, y)) ) N (p1, x)
def f_X12_goLane (N : Nat) (S : SH) (a0 : Nat) (x : DY) : Option DY :=
  lp_X12_goLane_2 N S (fun y10 => lp_X12_goLane_47 N S (fun y38 => ck S (pr S a0 14) 0 ((if 0 ≤ (y38.1 (pr S a0 14) (0 : Int32).toNatClampNeg) then some y38 else (if (y38.1 a0 17) = 0 then some y38 else ck S (pr S a0 15) 0 (ck S (pr S a0 14) 0 (bl (U1 y38 (pr S a0 14) (0 : Int32).toNatClampNeg (y38.1 (pr S a0 15) (0 : Int32).toNatClampNeg)) (fun x47 => ck S (pr S a0 15) 0 (ck S (pr S a0 12) (x47.1 (pr S a0 15) (0 : Int32).toNatClampNeg) (bl (U1 x47 (pr S a0 12) (x47.1 (pr S a0 15) (0 : Int32).toNatClampNeg).toNatClampNeg 0) (fun x51 => bl (U1 x51 a0 17 ((x51.1 a0 17) - 1)) (fun x52 => lp_X12_goLane_225 N S a0 0 x52))))))))))) a0 ((y10.1 a0 0) - 1) y10) a0 0 x
set_option maxHeartbeats 1000000 in
theorem t_X12_goLane {N d : Nat} {S : SH} (hW : WT S) {x : DY} {a0 : Nat} (hd : 2 ≤ d) (h0 : TY S a0 12) : CT mX12_goLane d S [.ref a0] x wSV (f_X12_goLane N S a0 x) := by
  refine CT.of [some (.ref a0), none, none, none] rfl (Nat.le_of_ble_eq_true rfl) (by decide +kernel) ?_
  unfold f_X12_goLane
  refine go1 (M := mX12_goLane) (pc' := 1) (r_iconst (M := mX12_goLane) (v := 0) (by decide) dX12_goLane_0) ?_
  refine go1 (M := mX12_goLane) (pc' := 2) (ls' := [some (.ref a0), some (.int 0), none, none]) (r_istore_n (M := mX12_goLane) (ls := [some (.ref a0), none, none, none]) (i := 1) (v := 0) (by decide) rfl dX12_goLane_1) ?_
  refine lp_X12_goLane_2_t (N := N) hW (by omega) _ a0 0 x h0 ?_
  · intro y10
    refine go1 (M := mX12_goLane) (pc' := 41) (r_aload_n (M := mX12_goLane) (i := 0) rfl dX12_goLane_40) ?_
    refine go1 (M := mX12_goLane) (pc' := 44) (r_getI (M := mX12_goLane) fl_12_211 h0 rfl dX12_goLane_41) ?_
    refine go1 (M := mX12_goLane) (pc' := 45) (r_iconst (M := mX12_goLane) (v := 1) (by decide) dX12_goLane_44) ?_
    refine go1 (M := mX12_goLane) (pc' := 46) (r_isub (M := mX12_goLane) dX12_goLane_45) ?_
    refine go1 (M := mX12_goLane) (pc' := 47) (ls' := [some (.ref a0), some (.int ((y10.1 a0 0) - 1)), none, none]) (r_istore_n (M := mX12_goLane) (ls := [some (.ref a0), none, none, none]) (i := 1) (v := ((y10.1 a0 0) - 1)) (by decide) rfl dX12_goLane_46) ?_
    refine lp_X12_goLane_47_t (N := N) hW (by omega) _ a0 ((y10.1 a0 0) - 1) y10 h0 ?_
    · intro y38
      refine go1 (M := mX12_goLane) (pc' := 173) (r_aload_n (M := mX12_goLane) (i := 0) rfl dX12_goLane_172) ?_
      refine go1 (M := mX12_goLane) (pc' := 176) (r_getR (M := mX12_goLane) fl_12_50 h0 rfl (wt_some hW h0 (by decide) (by decide) rfl) dX12_goLane_173) ?_
      have hT40 : TY S (pr S a0 14) 14 := wt hW h0 (by decide) (by decide) rfl (by decide)
      refine go1 (M := mX12_goLane) (pc' := 177) (r_iconst (M := mX12_goLane) (v := 0) (by decide) dX12_goLane_176) ?_
      refine go_ck (fun hi41 => ?_)
      refine go1 (M := mX12_goLane) (pc' := 178) (r_iald (M := mX12_goLane) hT40 hi41 dX12_goLane_177) ?_
      refine go_br (M := mX12_goLane) (pt := 188) (pf := 181) (fun kt kf => r_if_ge (M := mX12_goLane) dX12_goLane_178 (by decide) kt kf) (fun hc42 => ?_) (fun hc42 => ?_)
      · exact go_vret (M := mX12_goLane) rfl rfl dX12_goLane_188
      · refine go1 (M := mX12_goLane) (pc' := 182) (r_aload_n (M := mX12_goLane) (i := 0) rfl dX12_goLane_181) ?_
        refine go1 (M := mX12_goLane) (pc' := 185) (r_getI (M := mX12_goLane) fl_12_59 h0 rfl dX12_goLane_182) ?_
        refine go_br (M := mX12_goLane) (pt := 188) (pf := 189) (fun kt kf => r_if_ne (M := mX12_goLane) dX12_goLane_185 (by decide) kf kt) (fun hc43 => ?_) (fun hc43 => ?_)
        · exact go_vret (M := mX12_goLane) rfl rfl dX12_goLane_188
        · refine go1 (M := mX12_goLane) (pc' := 190) (r_aload_n (M := mX12_goLane) (i := 0) rfl dX12_goLane_189) ?_
          refine go1 (M := mX12_goLane) (pc' := 193) (r_getR (M := mX12_goLane) fl_12_50 h0 rfl (wt_some hW h0 (by decide) (by decide) rfl) dX12_goLane_190) ?_
          refine go1 (M := mX12_goLane) (pc' := 194) (r_iconst (M := mX12_goLane) (v := 0) (by decide) dX12_goLane_193) ?_
          refine go1 (M := mX12_goLane) (pc' := 195) (r_aload_n (M := mX12_goLane) (i := 0) rfl dX12_goLane_194) ?_
          refine go1 (M := mX12_goLane) (pc' := 198) (r_getR (M := mX12_goLane) fl_12_53 h0 rfl (wt_some hW h0 (by decide) (by decide) rfl) dX12_goLane_195) ?_
          have hT44 : TY S (pr S a0 15) 14 := wt hW h0 (by decide) (by decide) rfl (by decide)
          refine go1 (M := mX12_goLane) (pc' := 199) (r_iconst (M := mX12_goLane) (v := 0) (by decide) dX12_goLane_198) ?_
          refine go_ck (fun hi45 => ?_)
          refine go1 (M := mX12_goLane) (pc' := 200) (r_iald (M := mX12_goLane) hT44 hi45 dX12_goLane_199) ?_
          refine go_ck (fun hi46 => ?_)
          refine go1 (M := mX12_goLane) (pc' := 201) (r_iast (M := mX12_goLane) hT40 hi46 dX12_goLane_200) ?_
          refine go_blx (fun x47 => ?_)
          refine go1 (M := mX12_goLane) (pc' := 202) (r_aload_n (M := mX12_goLane) (i := 0) rfl dX12_goLane_201) ?_
          refine go1 (M := mX12_goLane) (pc' := 205) (r_getR (M := mX12_goLane) fl_12_44 h0 rfl (wt_some hW h0 (by decide) (by decide) rfl) dX12_goLane_202) ?_
          have hT48 : TY S (pr S a0 12) 14 := wt hW h0 (by decide) (by decide) rfl (by decide)
          refine go1 (M := mX12_goLane) (pc' := 206) (r_aload_n (M := mX12_goLane) (i := 0) rfl dX12_goLane_205) ?_
          refine go1 (M := mX12_goLane) (pc' := 209) (r_getR (M := mX12_goLane) fl_12_53 h0 rfl (wt_some hW h0 (by decide) (by decide) rfl) dX12_goLane_206) ?_
          refine go1 (M := mX12_goLane) (pc' := 210) (r_iconst (M := mX12_goLane) (v := 0) (by decide) dX12_goLane_209) ?_
          refine go_ck (fun hi49 => ?_)
          refine go1 (M := mX12_goLane) (pc' := 211) (r_iald (M := mX12_goLane) hT44 hi49 dX12_goLane_210) ?_
          refine go1 (M := mX12_goLane) (pc' := 212) (r_iconst (M := mX12_goLane) (v := 0) (by decide) dX12_goLane_211) ?_
          refine go_ck (fun hi50 => ?_)
          refine go1 (M := mX12_goLane) (pc' := 213) (r_iast (M := mX12_goLane) hT48 hi50 dX12_goLane_212) ?_
          refine go_blx (fun x51 => ?_)
          refine go1 (M := mX12_goLane) (pc' := 214) (r_aload_n (M := mX12_goLane) (i := 0) rfl dX12_goLane_213) ?_
          refine go1 (M := mX12_goLane) (pc' := 215) (r_dup (M := mX12_goLane) rfl dX12_goLane_214) ?_
          refine go1 (M := mX12_goLane) (pc' := 218) (r_getI (M := mX12_goLane) fl_12_59 h0 rfl dX12_goLane_215) ?_
          refine go1 (M := mX12_goLane) (pc' := 219) (r_iconst (M := mX12_goLane) (v := 1) (by decide) dX12_goLane_218) ?_
          refine go1 (M := mX12_goLane) (pc' := 220) (r_isub (M := mX12_goLane) dX12_goLane_219) ?_
          refine go1 (M := mX12_goLane) (pc' := 223) (r_putI (M := mX12_goLane) fl_12_59 h0 rfl rfl dX12_goLane_220) ?_
          refine go_blx (fun x52 => ?_)
          refine go1 (M := mX12_goLane) (pc' := 224) (r_iconst (M := mX12_goLane) (v := 0) (by decide) dX12_goLane_223) ?_
          refine go1 (M := mX12_goLane) (pc' := 225) (ls' := [some (.ref a0), some (.int 0), none, none]) (r_istore_n (M := mX12_goLane) (ls := [some (.ref a0), none, none, none]) (i := 1) (v := 0) (by decide) rfl dX12_goLane_224) ?_
          refine lp_X12_goLane_225_t (N := N) hW (by omega) a0 0 x52 h0
def f_X12_eats (N : Nat) (S : SH) (a0 : Nat) (a1 : Int32) (a2 : Int32) (x : DY) : Option DY :=
  ck S (pr S a0 11) a2 (bl (U1 x (pr S a0 11) a2.toNatClampNeg 2) (fun x3 => ck S (pr S a0 12) a2 (bl (U1 x3 (pr S a0 12) a2.toNatClampNeg a1) (fun x6 => ck S (pr S a0 21) a1 (ck S (pr S a0 21) a1 (bl (U1 x6 (pr S a0 21) a1.toNatClampNeg ((x6.1 (pr S a0 21) a1.toNatClampNeg) + 1)) (fun x10 => bl (U1 x10 a0 45 ((x10.1 a0 45) + 1)) (fun x11 => ck S (pr S a0 9) a2 (ck S (pr S a0 7) (x11.1 (pr S a0 9) a2.toNatClampNeg) (bl (U1 x11 a0 46 ((x11.1 a0 46) + (x11.1 (pr S a0 7) (x11.1 (pr S a0 9) a2.toNatClampNeg).toNatClampNeg))) (fun x16 => some x16)))))))))))
set_option maxHeartbeats 1000000 in
theorem t_X12_eats {N d : Nat} {S : SH} (hW : WT S) {x : DY} {a0 : Nat} {a1 : Int32} {a2 : Int32} (hd : 1 ≤ d) (h0 : TY S a0 12) : CT mX12_eats d S [.ref a0, .int a1, .int a2] x wSV (f_X12_eats N S a0 a1 a2 x) := by
  refine CT.of [some (.ref a0), some (.int a1), some (.int a2)] rfl (Nat.le_of_ble_eq_true rfl) (by decide +kernel) ?_
  unfold f_X12_eats
  refine go1 (M := mX12_eats) (pc' := 1) (r_aload_n (M := mX12_eats) (i := 0) rfl dX12_eats_0) ?_
  refine go1 (M := mX12_eats) (pc' := 4) (r_getR (M := mX12_eats) fl_12_41 h0 rfl (wt_some hW h0 (by decide) (by decide) rfl) dX12_eats_1) ?_
  have hT1 : TY S (pr S a0 11) 14 := wt hW h0 (by decide) (by decide) rfl (by decide)
  refine go1 (M := mX12_eats) (pc' := 5) (r_iload_n (M := mX12_eats) (i := 2) rfl dX12_eats_4) ?_
  refine go1 (M := mX12_eats) (pc' := 6) (r_iconst (M := mX12_eats) (v := 2) (by decide) dX12_eats_5) ?_
  refine go_ck (fun hi2 => ?_)
  refine go1 (M := mX12_eats) (pc' := 7) (r_iast (M := mX12_eats) hT1 hi2 dX12_eats_6) ?_
  refine go_blx (fun x3 => ?_)
  refine go1 (M := mX12_eats) (pc' := 8) (r_aload_n (M := mX12_eats) (i := 0) rfl dX12_eats_7) ?_
  refine go1 (M := mX12_eats) (pc' := 11) (r_getR (M := mX12_eats) fl_12_44 h0 rfl (wt_some hW h0 (by decide) (by decide) rfl) dX12_eats_8) ?_
  have hT4 : TY S (pr S a0 12) 14 := wt hW h0 (by decide) (by decide) rfl (by decide)
  refine go1 (M := mX12_eats) (pc' := 12) (r_iload_n (M := mX12_eats) (i := 2) rfl dX12_eats_11) ?_
  refine go1 (M := mX12_eats) (pc' := 13) (r_iload_n (M := mX12_eats) (i := 1) rfl dX12_eats_12) ?_
  refine go_ck (fun hi5 => ?_)
  refine go1 (M := mX12_eats) (pc' := 14) (r_iast (M := mX12_eats) hT4 hi5 dX12_eats_13) ?_
  refine go_blx (fun x6 => ?_)
  refine go1 (M := mX12_eats) (pc' := 15) (r_aload_n (M := mX12_eats) (i := 0) rfl dX12_eats_14) ?_
  refine go1 (M := mX12_eats) (pc' := 18) (r_getR (M := mX12_eats) fl_12_71 h0 rfl (wt_some hW h0 (by decide) (by decide) rfl) dX12_eats_15) ?_
  have hT7 : TY S (pr S a0 21) 14 := wt hW h0 (by decide) (by decide) rfl (by decide)
  refine go1 (M := mX12_eats) (pc' := 19) (r_iload_n (M := mX12_eats) (i := 1) rfl dX12_eats_18) ?_
  refine go1 (M := mX12_eats) (pc' := 20) (r_dup2 (M := mX12_eats) rfl rfl dX12_eats_19) ?_
  refine go_ck (fun hi8 => ?_)
  refine go1 (M := mX12_eats) (pc' := 21) (r_iald (M := mX12_eats) hT7 hi8 dX12_eats_20) ?_
  refine go1 (M := mX12_eats) (pc' := 22) (r_iconst (M := mX12_eats) (v := 1) (by decide) dX12_eats_21) ?_
  refine go1 (M := mX12_eats) (pc' := 23) (r_iadd (M := mX12_eats) dX12_eats_22) ?_
  refine go_ck (fun hi9 => ?_)
  refine go1 (M := mX12_eats) (pc' := 24) (r_iast (M := mX12_eats) hT7 hi9 dX12_eats_23) ?_
  refine go_blx (fun x10 => ?_)
  refine go1 (M := mX12_eats) (pc' := 25) (r_aload_n (M := mX12_eats) (i := 0) rfl dX12_eats_24) ?_
  refine go1 (M := mX12_eats) (pc' := 26) (r_dup (M := mX12_eats) rfl dX12_eats_25) ?_
  refine go1 (M := mX12_eats) (pc' := 29) (r_getI (M := mX12_eats) fl_12_145 h0 rfl dX12_eats_26) ?_
  refine go1 (M := mX12_eats) (pc' := 30) (r_iconst (M := mX12_eats) (v := 1) (by decide) dX12_eats_29) ?_
  refine go1 (M := mX12_eats) (pc' := 31) (r_iadd (M := mX12_eats) dX12_eats_30) ?_
  refine go1 (M := mX12_eats) (pc' := 34) (r_putI (M := mX12_eats) fl_12_145 h0 rfl rfl dX12_eats_31) ?_
  refine go_blx (fun x11 => ?_)
  refine go1 (M := mX12_eats) (pc' := 35) (r_aload_n (M := mX12_eats) (i := 0) rfl dX12_eats_34) ?_
  refine go1 (M := mX12_eats) (pc' := 36) (r_dup (M := mX12_eats) rfl dX12_eats_35) ?_
  refine go1 (M := mX12_eats) (pc' := 39) (r_getI (M := mX12_eats) fl_12_148 h0 rfl dX12_eats_36) ?_
  refine go1 (M := mX12_eats) (pc' := 40) (r_aload_n (M := mX12_eats) (i := 0) rfl dX12_eats_39) ?_
  refine go1 (M := mX12_eats) (pc' := 43) (r_getR (M := mX12_eats) fl_12_29 h0 rfl (wt_some hW h0 (by decide) (by decide) rfl) dX12_eats_40) ?_
  have hT12 : TY S (pr S a0 7) 14 := wt hW h0 (by decide) (by decide) rfl (by decide)
  refine go1 (M := mX12_eats) (pc' := 44) (r_aload_n (M := mX12_eats) (i := 0) rfl dX12_eats_43) ?_
  refine go1 (M := mX12_eats) (pc' := 47) (r_getR (M := mX12_eats) fl_12_35 h0 rfl (wt_some hW h0 (by decide) (by decide) rfl) dX12_eats_44) ?_
  have hT13 : TY S (pr S a0 9) 14 := wt hW h0 (by decide) (by decide) rfl (by decide)
  refine go1 (M := mX12_eats) (pc' := 48) (r_iload_n (M := mX12_eats) (i := 2) rfl dX12_eats_47) ?_
  refine go_ck (fun hi14 => ?_)
  refine go1 (M := mX12_eats) (pc' := 49) (r_iald (M := mX12_eats) hT13 hi14 dX12_eats_48) ?_
  refine go_ck (fun hi15 => ?_)
  refine go1 (M := mX12_eats) (pc' := 50) (r_iald (M := mX12_eats) hT12 hi15 dX12_eats_49) ?_
  refine go1 (M := mX12_eats) (pc' := 51) (r_iadd (M := mX12_eats) dX12_eats_50) ?_
  refine go1 (M := mX12_eats) (pc' := 54) (r_putI (M := mX12_eats) fl_12_148 h0 rfl rfl dX12_eats_51) ?_
  refine go_blx (fun x16 => ?_)
  exact go_vret (M := mX12_eats) rfl rfl dX12_eats_54
def j_X12_dine_130 (N : Nat) (S : SH) (p0 : Nat) (p1 : Int32) (x : DY) : Option DY :=
  ck S (pr S p0 22) p1 (ck S (pr S p0 22) p1 (bl (U1 x (pr S p0 22) p1.toNatClampNeg ((x.1 (pr S p0 22) p1.toNatClampNeg) + 1)) (fun x15 => some x15)))
set_option maxHeartbeats 1000000 in
theorem j_X12_dine_130_t {N d : Nat} {S : SH} (hW : WT S) (hd : 1 ≤ d) (p0 : Nat) (p1 : Int32) (x : DY) (g0 : TY S p0 12) : Go mX12_dine d S wSV 130 [some (.ref p0), some (.int p1), none] [] x (j_X12_dine_130 N S p0 p1 x) := by
  unfold j_X12_dine_130
  refine go1 (M := mX12_dine) (pc' := 131) (r_aload_n (M := mX12_dine) (i := 0) rfl dX12_dine_130) ?_
  refine go1 (M := mX12_dine) (pc' := 134) (r_getR (M := mX12_dine) fl_12_74 g0 rfl (wt_some hW g0 (by decide) (by decide) rfl) dX12_dine_131) ?_
  have hT12 : TY S (pr S p0 22) 14 := wt hW g0 (by decide) (by decide) rfl (by decide)
  refine go1 (M := mX12_dine) (pc' := 135) (r_iload_n (M := mX12_dine) (i := 1) rfl dX12_dine_134) ?_
  refine go1 (M := mX12_dine) (pc' := 136) (r_dup2 (M := mX12_dine) rfl rfl dX12_dine_135) ?_
  refine go_ck (fun hi13 => ?_)
  refine go1 (M := mX12_dine) (pc' := 137) (r_iald (M := mX12_dine) hT12 hi13 dX12_dine_136) ?_
  refine go1 (M := mX12_dine) (pc' := 138) (r_iconst (M := mX12_dine) (v := 1) (by decide) dX12_dine_137) ?_
  refine go1 (M := mX12_dine) (pc' := 139) (r_iadd (M := mX12_dine) dX12_dine_138) ?_
  refine go_ck (fun hi14 => ?_)
  refine go1 (M := mX12_dine) (pc' := 140) (r_iast (M := mX12_dine) hT12 hi14 dX12_dine_139) ?_
  refine go_blx (fun x15 => ?_)
  exact go_vret (M := mX12_dine) rfl rfl dX12_dine_140
def j_X12_dine_64 (N : Nat) (S : SH) (p0 : Nat) (p1 : Int32) (p2 : Int32) (x : DY) : Option DY :=
  ck S (pr S p0 13) p2 ((if (x.1 (pr S p0 13) p2.toNatClampNeg) < 0 then j_X12_dine_130 N S p0 p1 x else ck S (pr S p0 13) p2 (Option.bind (f_X12_findFacts N S p0 p1 (x.1 (pr S p0 13) p2.toNatClampNeg) x) (fun r17 => Option.bind (f_X12_work N S p0 0 r17) (fun r18 => (if r18.1 = 0 then j_X12_dine_130 N S p0 p1 r18.2 else ck S (pr S p0 13) p2 (ck S (pr S p0 24) p1 (bl (U1 r18.2 (pr S p0 24) p1.toNatClampNeg (r18.2.1 (pr S p0 13) p2.toNatClampNeg)) (fun x23 => ck S (pr S p0 13) p2 (Option.bind (f_X12_eats N S p0 p1 (x23.1 (pr S p0 13) p2.toNatClampNeg) x23) (fun r25 => ck S (pr S p0 13) p2 (bl (U1 r25 (pr S p0 13) p2.toNatClampNeg (-1)) (fun x27 => ck S (pr S p0 22) p1 (bl (U1 x27 (pr S p0 22) p1.toNatClampNeg 0) (fun x30 => some x30)))))))))))))))
set_option maxHeartbeats 1000000 in
theorem j_X12_dine_64_t {N d : Nat} {S : SH} (hW : WT S) (hd : 3 ≤ d) (p0 : Nat) (p1 : Int32) (p2 : Int32) (x : DY) (g0 : TY S p0 12) : Go mX12_dine d S wSV 64 [some (.ref p0), some (.int p1), some (.int p2)] [] x (j_X12_dine_64 N S p0 p1 p2 x) := by
  unfold j_X12_dine_64
  refine go1 (M := mX12_dine) (pc' := 65) (r_aload_n (M := mX12_dine) (i := 0) rfl dX12_dine_64) ?_
  refine go1 (M := mX12_dine) (pc' := 68) (r_getR (M := mX12_dine) fl_12_47 g0 rfl (wt_some hW g0 (by decide) (by decide) rfl) dX12_dine_65) ?_
  have hT9 : TY S (pr S p0 13) 14 := wt hW g0 (by decide) (by decide) rfl (by decide)
  refine go1 (M := mX12_dine) (pc' := 69) (r_iload_n (M := mX12_dine) (i := 2) rfl dX12_dine_68) ?_
  refine go_ck (fun hi10 => ?_)
  refine go1 (M := mX12_dine) (pc' := 70) (r_iald (M := mX12_dine) hT9 hi10 dX12_dine_69) ?_
  refine go_br (M := mX12_dine) (pt := 130) (pf := 73) (fun kt kf => r_if_lt (M := mX12_dine) dX12_dine_70 (by decide) kt kf) (fun hc11 => ?_) (fun hc11 => ?_)
  · refine go_drop (ls' := [some (.ref p0), some (.int p1), none]) (And.intro rfl (And.intro rfl trivial)) ?_
    exact j_X12_dine_130_t (N := N) hW (by omega) p0 p1 x g0
  · refine go1 (M := mX12_dine) (pc' := 74) (r_aload_n (M := mX12_dine) (i := 0) rfl dX12_dine_73) ?_
    refine go1 (M := mX12_dine) (pc' := 75) (r_iload_n (M := mX12_dine) (i := 1) rfl dX12_dine_74) ?_
    refine go1 (M := mX12_dine) (pc' := 76) (r_aload_n (M := mX12_dine) (i := 0) rfl dX12_dine_75) ?_
    refine go1 (M := mX12_dine) (pc' := 79) (r_getR (M := mX12_dine) fl_12_47 g0 rfl (wt_some hW g0 (by decide) (by decide) rfl) dX12_dine_76) ?_
    refine go1 (M := mX12_dine) (pc' := 80) (r_iload_n (M := mX12_dine) (i := 2) rfl dX12_dine_79) ?_
    refine go_ck (fun hi16 => ?_)
    refine go1 (M := mX12_dine) (pc' := 81) (r_iald (M := mX12_dine) hT9 hi16 dX12_dine_80) ?_
    refine go_V_SV (M := mX12_dine) (pc' := 84) (st := []) (As := [.int p1, .int (x.1 (pr S p0 13) p2.toNatClampNeg)]) rfl ln_12_337 lb_X12_findFacts (t_X12_findFacts (N := N) hW (by omega) g0) (by omega) g0 (Nat.le_of_ble_eq_true rfl) rfl dX12_dine_81 (fun r17 => ?_)
    refine go1 (M := mX12_dine) (pc' := 85) (r_aload_n (M := mX12_dine) (i := 0) rfl dX12_dine_84) ?_
    refine go1 (M := mX12_dine) (pc' := 86) (r_iconst (M := mX12_dine) (v := 0) (by decide) dX12_dine_85) ?_
    refine go_V_SI (M := mX12_dine) (pc' := 89) (st := []) (As := [.int 0]) rfl ln_12_340 lb_X12_work (t_X12_work (N := N) hW (by omega) g0) (by omega) g0 (Nat.le_of_ble_eq_true rfl) rfl dX12_dine_86 (fun r18 => ?_)
    refine go_br (M := mX12_dine) (pt := 130) (pf := 92) (fun kt kf => r_if_eq (M := mX12_dine) dX12_dine_89 (by decide) kt kf) (fun hc19 => ?_) (fun hc19 => ?_)
    · refine go_drop (ls' := [some (.ref p0), some (.int p1), none]) (And.intro rfl (And.intro rfl trivial)) ?_
      exact j_X12_dine_130_t (N := N) hW (by omega) p0 p1 r18.2 g0
    · refine go1 (M := mX12_dine) (pc' := 93) (r_aload_n (M := mX12_dine) (i := 0) rfl dX12_dine_92) ?_
      refine go1 (M := mX12_dine) (pc' := 96) (r_getR (M := mX12_dine) fl_12_80 g0 rfl (wt_some hW g0 (by decide) (by decide) rfl) dX12_dine_93) ?_
      have hT20 : TY S (pr S p0 24) 14 := wt hW g0 (by decide) (by decide) rfl (by decide)
      refine go1 (M := mX12_dine) (pc' := 97) (r_iload_n (M := mX12_dine) (i := 1) rfl dX12_dine_96) ?_
      refine go1 (M := mX12_dine) (pc' := 98) (r_aload_n (M := mX12_dine) (i := 0) rfl dX12_dine_97) ?_
      refine go1 (M := mX12_dine) (pc' := 101) (r_getR (M := mX12_dine) fl_12_47 g0 rfl (wt_some hW g0 (by decide) (by decide) rfl) dX12_dine_98) ?_
      refine go1 (M := mX12_dine) (pc' := 102) (r_iload_n (M := mX12_dine) (i := 2) rfl dX12_dine_101) ?_
      refine go_ck (fun hi21 => ?_)
      refine go1 (M := mX12_dine) (pc' := 103) (r_iald (M := mX12_dine) hT9 hi21 dX12_dine_102) ?_
      refine go_ck (fun hi22 => ?_)
      refine go1 (M := mX12_dine) (pc' := 104) (r_iast (M := mX12_dine) hT20 hi22 dX12_dine_103) ?_
      refine go_blx (fun x23 => ?_)
      refine go1 (M := mX12_dine) (pc' := 105) (r_aload_n (M := mX12_dine) (i := 0) rfl dX12_dine_104) ?_
      refine go1 (M := mX12_dine) (pc' := 106) (r_iload_n (M := mX12_dine) (i := 1) rfl dX12_dine_105) ?_
      refine go1 (M := mX12_dine) (pc' := 107) (r_aload_n (M := mX12_dine) (i := 0) rfl dX12_dine_106) ?_
      refine go1 (M := mX12_dine) (pc' := 110) (r_getR (M := mX12_dine) fl_12_47 g0 rfl (wt_some hW g0 (by decide) (by decide) rfl) dX12_dine_107) ?_
      refine go1 (M := mX12_dine) (pc' := 111) (r_iload_n (M := mX12_dine) (i := 2) rfl dX12_dine_110) ?_
      refine go_ck (fun hi24 => ?_)
      refine go1 (M := mX12_dine) (pc' := 112) (r_iald (M := mX12_dine) hT9 hi24 dX12_dine_111) ?_
      refine go_V_SV (M := mX12_dine) (pc' := 115) (st := []) (As := [.int p1, .int (x23.1 (pr S p0 13) p2.toNatClampNeg)]) rfl ln_12_343 lb_X12_eats (t_X12_eats (N := N) hW (by omega) g0) (by omega) g0 (Nat.le_of_ble_eq_true rfl) rfl dX12_dine_112 (fun r25 => ?_)
      refine go1 (M := mX12_dine) (pc' := 116) (r_aload_n (M := mX12_dine) (i := 0) rfl dX12_dine_115) ?_
      refine go1 (M := mX12_dine) (pc' := 119) (r_getR (M := mX12_dine) fl_12_47 g0 rfl (wt_some hW g0 (by decide) (by decide) rfl) dX12_dine_116) ?_
      refine go1 (M := mX12_dine) (pc' := 120) (r_iload_n (M := mX12_dine) (i := 2) rfl dX12_dine_119) ?_
      refine go1 (M := mX12_dine) (pc' := 121) (r_iconst (M := mX12_dine) (v := (-1)) (by decide) dX12_dine_120) ?_
      refine go_ck (fun hi26 => ?_)
      refine go1 (M := mX12_dine) (pc' := 122) (r_iast (M := mX12_dine) hT9 hi26 dX12_dine_121) ?_
      refine go_blx (fun x27 => ?_)
      refine go1 (M := mX12_dine) (pc' := 123) (r_aload_n (M := mX12_dine) (i := 0) rfl dX12_dine_122) ?_
      refine go1 (M := mX12_dine) (pc' := 126) (r_getR (M := mX12_dine) fl_12_74 g0 rfl (wt_some hW g0 (by decide) (by decide) rfl) dX12_dine_123) ?_
      have hT28 : TY S (pr S p0 22) 14 := wt hW g0 (by decide) (by decide) rfl (by decide)
      refine go1 (M := mX12_dine) (pc' := 127) (r_iload_n (M := mX12_dine) (i := 1) rfl dX12_dine_126) ?_
      refine go1 (M := mX12_dine) (pc' := 128) (r_iconst (M := mX12_dine) (v := 0) (by decide) dX12_dine_127) ?_
      refine go_ck (fun hi29 => ?_)
      refine go1 (M := mX12_dine) (pc' := 129) (r_iast (M := mX12_dine) hT28 hi29 dX12_dine_128) ?_
      refine go_blx (fun x30 => ?_)
      exact go_vret (M := mX12_dine) rfl rfl dX12_dine_129
def f_X12_dine (N : Nat) (S : SH) (a0 : Nat) (a1 : Int32) (x : DY) : Option DY :=
  ck S (pr S a0 19) a1 (ck S (pr S a0 24) a1 (bl (U1 x (pr S a0 24) a1.toNatClampNeg (-1)) (fun x5 => ck S (pr S a0 14) (x.1 (pr S a0 19) a1.toNatClampNeg) ((if (x5.1 (pr S a0 14) (x.1 (pr S a0 19) a1.toNatClampNeg).toNatClampNeg) < 0 then j_X12_dine_64 N S a0 a1 (x.1 (pr S a0 19) a1.toNatClampNeg) x5 else ck S (pr S a0 14) (x.1 (pr S a0 19) a1.toNatClampNeg) (ck S (pr S a0 16) (x5.1 (pr S a0 14) (x.1 (pr S a0 19) a1.toNatClampNeg).toNatClampNeg) ((if (x5.1 (pr S a0 16) (x5.1 (pr S a0 14) (x.1 (pr S a0 19) a1.toNatClampNeg).toNatClampNeg).toNatClampNeg) = a1 then ck S (pr S a0 14) (x.1 (pr S a0 19) a1.toNatClampNeg) (Option.bind (f_X12_eats N S a0 a1 (x5.1 (pr S a0 14) (x.1 (pr S a0 19) a1.toNatClampNeg).toNatClampNeg) x5) (fun r36 => ck S (pr S a0 14) (x.1 (pr S a0 19) a1.toNatClampNeg) (bl (U1 r36 (pr S a0 14) (x.1 (pr S a0 19) a1.toNatClampNeg).toNatClampNeg (-1)) (fun x38 => ck S (pr S a0 22) a1 (bl (U1 x38 (pr S a0 22) a1.toNatClampNeg 0) (fun x41 => some x41)))))) else j_X12_dine_64 N S a0 a1 (x.1 (pr S a0 19) a1.toNatClampNeg) x5))))))))
set_option maxHeartbeats 1000000 in
theorem t_X12_dine {N d : Nat} {S : SH} (hW : WT S) {x : DY} {a0 : Nat} {a1 : Int32} (hd : 3 ≤ d) (h0 : TY S a0 12) : CT mX12_dine d S [.ref a0, .int a1] x wSV (f_X12_dine N S a0 a1 x) := by
  refine CT.of [some (.ref a0), some (.int a1), none] rfl (Nat.le_of_ble_eq_true rfl) (by decide +kernel) ?_
  unfold f_X12_dine
  refine go1 (M := mX12_dine) (pc' := 1) (r_aload_n (M := mX12_dine) (i := 0) rfl dX12_dine_0) ?_
  refine go1 (M := mX12_dine) (pc' := 4) (r_getR (M := mX12_dine) fl_12_65 h0 rfl (wt_some hW h0 (by decide) (by decide) rfl) dX12_dine_1) ?_
  have hT1 : TY S (pr S a0 19) 14 := wt hW h0 (by decide) (by decide) rfl (by decide)
  refine go1 (M := mX12_dine) (pc' := 5) (r_iload_n (M := mX12_dine) (i := 1) rfl dX12_dine_4) ?_
  refine go_ck (fun hi2 => ?_)
  refine go1 (M := mX12_dine) (pc' := 6) (r_iald (M := mX12_dine) hT1 hi2 dX12_dine_5) ?_
  refine go1 (M := mX12_dine) (pc' := 7) (ls' := [some (.ref a0), some (.int a1), some (.int (x.1 (pr S a0 19) a1.toNatClampNeg))]) (r_istore_n (M := mX12_dine) (ls := [some (.ref a0), some (.int a1), none]) (i := 2) (v := (x.1 (pr S a0 19) a1.toNatClampNeg)) (by decide) rfl dX12_dine_6) ?_
  refine go1 (M := mX12_dine) (pc' := 8) (r_aload_n (M := mX12_dine) (i := 0) rfl dX12_dine_7) ?_
  refine go1 (M := mX12_dine) (pc' := 11) (r_getR (M := mX12_dine) fl_12_80 h0 rfl (wt_some hW h0 (by decide) (by decide) rfl) dX12_dine_8) ?_
  have hT3 : TY S (pr S a0 24) 14 := wt hW h0 (by decide) (by decide) rfl (by decide)
  refine go1 (M := mX12_dine) (pc' := 12) (r_iload_n (M := mX12_dine) (i := 1) rfl dX12_dine_11) ?_
  refine go1 (M := mX12_dine) (pc' := 13) (r_iconst (M := mX12_dine) (v := (-1)) (by decide) dX12_dine_12) ?_
  refine go_ck (fun hi4 => ?_)
  refine go1 (M := mX12_dine) (pc' := 14) (r_iast (M := mX12_dine) hT3 hi4 dX12_dine_13) ?_
  refine go_blx (fun x5 => ?_)
  refine go1 (M := mX12_dine) (pc' := 15) (r_aload_n (M := mX12_dine) (i := 0) rfl dX12_dine_14) ?_
  refine go1 (M := mX12_dine) (pc' := 18) (r_getR (M := mX12_dine) fl_12_50 h0 rfl (wt_some hW h0 (by decide) (by decide) rfl) dX12_dine_15) ?_
  have hT6 : TY S (pr S a0 14) 14 := wt hW h0 (by decide) (by decide) rfl (by decide)
  refine go1 (M := mX12_dine) (pc' := 19) (r_iload_n (M := mX12_dine) (i := 2) rfl dX12_dine_18) ?_
  refine go_ck (fun hi7 => ?_)
  refine go1 (M := mX12_dine) (pc' := 20) (r_iald (M := mX12_dine) hT6 hi7 dX12_dine_19) ?_
  refine go_br (M := mX12_dine) (pt := 64) (pf := 23) (fun kt kf => r_if_lt (M := mX12_dine) dX12_dine_20 (by decide) kt kf) (fun hc8 => ?_) (fun hc8 => ?_)
  · exact j_X12_dine_64_t (N := N) hW (by omega) a0 a1 (x.1 (pr S a0 19) a1.toNatClampNeg) x5 h0
  · refine go1 (M := mX12_dine) (pc' := 24) (r_aload_n (M := mX12_dine) (i := 0) rfl dX12_dine_23) ?_
    refine go1 (M := mX12_dine) (pc' := 27) (r_getR (M := mX12_dine) fl_12_56 h0 rfl (wt_some hW h0 (by decide) (by decide) rfl) dX12_dine_24) ?_
    have hT31 : TY S (pr S a0 16) 14 := wt hW h0 (by decide) (by decide) rfl (by decide)
    refine go1 (M := mX12_dine) (pc' := 28) (r_aload_n (M := mX12_dine) (i := 0) rfl dX12_dine_27) ?_
    refine go1 (M := mX12_dine) (pc' := 31) (r_getR (M := mX12_dine) fl_12_50 h0 rfl (wt_some hW h0 (by decide) (by decide) rfl) dX12_dine_28) ?_
    refine go1 (M := mX12_dine) (pc' := 32) (r_iload_n (M := mX12_dine) (i := 2) rfl dX12_dine_31) ?_
    refine go_ck (fun hi32 => ?_)
    refine go1 (M := mX12_dine) (pc' := 33) (r_iald (M := mX12_dine) hT6 hi32 dX12_dine_32) ?_
    refine go_ck (fun hi33 => ?_)
    refine go1 (M := mX12_dine) (pc' := 34) (r_iald (M := mX12_dine) hT31 hi33 dX12_dine_33) ?_
    refine go1 (M := mX12_dine) (pc' := 35) (r_iload_n (M := mX12_dine) (i := 1) rfl dX12_dine_34) ?_
    refine go_br (M := mX12_dine) (pt := 38) (pf := 64) (fun kt kf => r_icmp_ne (M := mX12_dine) dX12_dine_35 (by decide) kf kt) (fun hc34 => ?_) (fun hc34 => ?_)
    · refine go1 (M := mX12_dine) (pc' := 39) (r_aload_n (M := mX12_dine) (i := 0) rfl dX12_dine_38) ?_
      refine go1 (M := mX12_dine) (pc' := 40) (r_iload_n (M := mX12_dine) (i := 1) rfl dX12_dine_39) ?_
      refine go1 (M := mX12_dine) (pc' := 41) (r_aload_n (M := mX12_dine) (i := 0) rfl dX12_dine_40) ?_
      refine go1 (M := mX12_dine) (pc' := 44) (r_getR (M := mX12_dine) fl_12_50 h0 rfl (wt_some hW h0 (by decide) (by decide) rfl) dX12_dine_41) ?_
      refine go1 (M := mX12_dine) (pc' := 45) (r_iload_n (M := mX12_dine) (i := 2) rfl dX12_dine_44) ?_
      refine go_ck (fun hi35 => ?_)
      refine go1 (M := mX12_dine) (pc' := 46) (r_iald (M := mX12_dine) hT6 hi35 dX12_dine_45) ?_
      refine go_V_SV (M := mX12_dine) (pc' := 49) (st := []) (As := [.int a1, .int (x5.1 (pr S a0 14) (x.1 (pr S a0 19) a1.toNatClampNeg).toNatClampNeg)]) rfl ln_12_343 lb_X12_eats (t_X12_eats (N := N) hW (by omega) h0) (by omega) h0 (Nat.le_of_ble_eq_true rfl) rfl dX12_dine_46 (fun r36 => ?_)
      refine go1 (M := mX12_dine) (pc' := 50) (r_aload_n (M := mX12_dine) (i := 0) rfl dX12_dine_49) ?_
      refine go1 (M := mX12_dine) (pc' := 53) (r_getR (M := mX12_dine) fl_12_50 h0 rfl (wt_some hW h0 (by decide) (by decide) rfl) dX12_dine_50) ?_
      refine go1 (M := mX12_dine) (pc' := 54) (r_iload_n (M := mX12_dine) (i := 2) rfl dX12_dine_53) ?_
      refine go1 (M := mX12_dine) (pc' := 55) (r_iconst (M := mX12_dine) (v := (-1)) (by decide) dX12_dine_54) ?_
      refine go_ck (fun hi37 => ?_)
      refine go1 (M := mX12_dine) (pc' := 56) (r_iast (M := mX12_dine) hT6 hi37 dX12_dine_55) ?_
      refine go_blx (fun x38 => ?_)
      refine go1 (M := mX12_dine) (pc' := 57) (r_aload_n (M := mX12_dine) (i := 0) rfl dX12_dine_56) ?_
      refine go1 (M := mX12_dine) (pc' := 60) (r_getR (M := mX12_dine) fl_12_74 h0 rfl (wt_some hW h0 (by decide) (by decide) rfl) dX12_dine_57) ?_
      have hT39 : TY S (pr S a0 22) 14 := wt hW h0 (by decide) (by decide) rfl (by decide)
      refine go1 (M := mX12_dine) (pc' := 61) (r_iload_n (M := mX12_dine) (i := 1) rfl dX12_dine_60) ?_
      refine go1 (M := mX12_dine) (pc' := 62) (r_iconst (M := mX12_dine) (v := 0) (by decide) dX12_dine_61) ?_
      refine go_ck (fun hi40 => ?_)
      refine go1 (M := mX12_dine) (pc' := 63) (r_iast (M := mX12_dine) hT39 hi40 dX12_dine_62) ?_
      refine go_blx (fun x41 => ?_)
      exact go_vret (M := mX12_dine) rfl rfl dX12_dine_63
    · exact j_X12_dine_64_t (N := N) hW (by omega) a0 a1 (x.1 (pr S a0 19) a1.toNatClampNeg) x5 h0
def j_X12_leave_89 (N : Nat) (S : SH) (bk9 : Int32 → DY → Option DY) (p0 : Nat) (p1 : Int32) (p2 : Int32) (p3 : Int32) (x : DY) : Option DY :=
  bk9 (p3 + 1) x
set_option maxHeartbeats 1000000 in
theorem j_X12_leave_89_t {N d : Nat} {S : SH} (hW : WT S) (hd : 1 ≤ d) (bk9 : Int32 → DY → Option DY) (p0 : Nat) (p1 : Int32) (p2 : Int32) (p3 : Int32) (x : DY) (g0 : TY S p0 12) (hbk9 : ∀ (v3 : Int32) (y : DY), Go mX12_leave d S wSV 9 [some (.ref p0), some (.int p1), some (.int p2), some (.int v3)] [] y (bk9 v3 y)) : Go mX12_leave d S wSV 89 [some (.ref p0), some (.int p1), some (.int p2), some (.int p3)] [] x (j_X12_leave_89 N S bk9 p0 p1 p2 p3 x) := by
  unfold j_X12_leave_89
  refine go1 (M := mX12_leave) (pc' := 92) (ls' := [some (.ref p0), some (.int p1), some (.int p2), some (.int (p3 + 1))]) (r_iinc (M := mX12_leave) (ls := [some (.ref p0), some (.int p1), some (.int p2), some (.int p3)]) (i := 3) (v := p3) (c' := 1) (by decide) rfl (by decide) rfl dX12_leave_89) ?_
  refine go1 (M := mX12_leave) (pc' := 9) (r_goto (M := mX12_leave) dX12_leave_92 (by decide)) ?_
  exact hbk9 (p3 + 1) x
def j_X12_leave_63 (N : Nat) (S : SH) (bk9 : Int32 → DY → Option DY) (p0 : Nat) (p1 : Int32) (p2 : Int32) (p3 : Int32) (x : DY) : Option DY :=
  ck S (pr S p0 9) p3 (ck S (pr S p0 7) (x.1 (pr S p0 9) p3.toNatClampNeg) (bl (U1 x p0 3 ((x.1 p0 3) + (x.1 (pr S p0 7) (x.1 (pr S p0 9) p3.toNatClampNeg).toNatClampNeg))) (fun x16 => Option.bind (f_X12_ends N S p0 p3 3 x16) (fun r17 => j_X12_leave_89 N S bk9 p0 p1 p2 p3 r17))))
set_option maxHeartbeats 1000000 in
theorem j_X12_leave_63_t {N d : Nat} {S : SH} (hW : WT S) (hd : 2 ≤ d) (bk9 : Int32 → DY → Option DY) (p0 : Nat) (p1 : Int32) (p2 : Int32) (p3 : Int32) (x : DY) (g0 : TY S p0 12) (hbk9 : ∀ (v3 : Int32) (y : DY), Go mX12_leave d S wSV 9 [some (.ref p0), some (.int p1), some (.int p2), some (.int v3)] [] y (bk9 v3 y)) : Go mX12_leave d S wSV 63 [some (.ref p0), some (.int p1), some (.int p2), some (.int p3)] [] x (j_X12_leave_63 N S bk9 p0 p1 p2 p3 x) := by
  unfold j_X12_leave_63
  refine go1 (M := mX12_leave) (pc' := 64) (r_aload_n (M := mX12_leave) (i := 0) rfl dX12_leave_63) ?_
  refine go1 (M := mX12_leave) (pc' := 65) (r_dup (M := mX12_leave) rfl dX12_leave_64) ?_
  refine go1 (M := mX12_leave) (pc' := 68) (r_getI (M := mX12_leave) fl_12_16 g0 rfl dX12_leave_65) ?_
  refine go1 (M := mX12_leave) (pc' := 69) (r_aload_n (M := mX12_leave) (i := 0) rfl dX12_leave_68) ?_
  refine go1 (M := mX12_leave) (pc' := 72) (r_getR (M := mX12_leave) fl_12_29 g0 rfl (wt_some hW g0 (by decide) (by decide) rfl) dX12_leave_69) ?_
  have hT12 : TY S (pr S p0 7) 14 := wt hW g0 (by decide) (by decide) rfl (by decide)
  refine go1 (M := mX12_leave) (pc' := 73) (r_aload_n (M := mX12_leave) (i := 0) rfl dX12_leave_72) ?_
  refine go1 (M := mX12_leave) (pc' := 76) (r_getR (M := mX12_leave) fl_12_35 g0 rfl (wt_some hW g0 (by decide) (by decide) rfl) dX12_leave_73) ?_
  have hT13 : TY S (pr S p0 9) 14 := wt hW g0 (by decide) (by decide) rfl (by decide)
  refine go1 (M := mX12_leave) (pc' := 77) (r_iload_n (M := mX12_leave) (i := 3) rfl dX12_leave_76) ?_
  refine go_ck (fun hi14 => ?_)
  refine go1 (M := mX12_leave) (pc' := 78) (r_iald (M := mX12_leave) hT13 hi14 dX12_leave_77) ?_
  refine go_ck (fun hi15 => ?_)
  refine go1 (M := mX12_leave) (pc' := 79) (r_iald (M := mX12_leave) hT12 hi15 dX12_leave_78) ?_
  refine go1 (M := mX12_leave) (pc' := 80) (r_iadd (M := mX12_leave) dX12_leave_79) ?_
  refine go1 (M := mX12_leave) (pc' := 83) (r_putI (M := mX12_leave) fl_12_16 g0 rfl rfl dX12_leave_80) ?_
  refine go_blx (fun x16 => ?_)
  refine go1 (M := mX12_leave) (pc' := 84) (r_aload_n (M := mX12_leave) (i := 0) rfl dX12_leave_83) ?_
  refine go1 (M := mX12_leave) (pc' := 85) (r_iload_n (M := mX12_leave) (i := 3) rfl dX12_leave_84) ?_
  refine go1 (M := mX12_leave) (pc' := 86) (r_iconst (M := mX12_leave) (v := 3) (by decide) dX12_leave_85) ?_
  refine go_V_SV (M := mX12_leave) (pc' := 89) (st := []) (As := [.int p3, .int 3]) rfl ln_12_235 lb_X12_ends (t_X12_ends (N := N) hW (by omega) g0) (by omega) g0 (Nat.le_of_ble_eq_true rfl) rfl dX12_leave_86 (fun r17 => ?_)
  exact j_X12_leave_89_t (N := N) hW (by omega) bk9 p0 p1 p2 p3 r17 g0 hbk9
def lp_X12_leave_9_b (N : Nat) (S : SH) (k95 : DY → Option DY) (bk9 : Int32 → DY → Option DY) (p0 : Nat) (p1 : Int32) (p2 : Int32) (p3 : Int32) (x : DY) : Option DY :=
  (if (x.1 p0 1) ≤ p3 then k95 x else ck S (pr S p0 11) p3 ((if (x.1 (pr S p0 11) p3.toNatClampNeg) = 2 then ck S (pr S p0 12) p3 ((if (x.1 (pr S p0 12) p3.toNatClampNeg) = p1 then (if p2 < 0 then j_X12_leave_63 N S bk9 p0 p1 p2 p3 x else ck S (pr S p0 26) p2 ((if (x.1 (pr S p0 26) p2.toNatClampNeg) = 0 then j_X12_leave_63 N S bk9 p0 p1 p2 p3 x else ck S (pr S p0 12) p3 (bl (U1 x (pr S p0 12) p3.toNatClampNeg p2) (fun x22 => j_X12_leave_89 N S bk9 p0 p1 p2 p3 x22))))) else j_X12_leave_89 N S bk9 p0 p1 p2 p3 x)) else j_X12_leave_89 N S bk9 p0 p1 p2 p3 x)))
set_option maxHeartbeats 1000000 in
theorem lp_X12_leave_9_b_t {N d : Nat} {S : SH} (hW : WT S) (hd : 2 ≤ d) (k95 : DY → Option DY) (bk9 : Int32 → DY → Option DY) (p0 : Nat) (p1 : Int32) (p2 : Int32) (p3 : Int32) (x : DY) (g0 : TY S p0 12) (hk95 : ∀ (y : DY), Go mX12_leave d S wSV 95 [some (.ref p0), some (.int p1), none, none] [] y (k95 y)) (hbk9 : ∀ (v3 : Int32) (y : DY), Go mX12_leave d S wSV 9 [some (.ref p0), some (.int p1), some (.int p2), some (.int v3)] [] y (bk9 v3 y)) : Go mX12_leave d S wSV 9 [some (.ref p0), some (.int p1), some (.int p2), some (.int p3)] [] x (lp_X12_leave_9_b N S k95 bk9 p0 p1 p2 p3 x) := by
  unfold lp_X12_leave_9_b
  refine go1 (M := mX12_leave) (pc' := 10) (r_iload_n (M := mX12_leave) (i := 3) rfl dX12_leave_9) ?_
  refine go1 (M := mX12_leave) (pc' := 11) (r_aload_n (M := mX12_leave) (i := 0) rfl dX12_leave_10) ?_
  refine go1 (M := mX12_leave) (pc' := 14) (r_getI (M := mX12_leave) fl_12_7 g0 rfl dX12_leave_11) ?_
  refine go_br (M := mX12_leave) (pt := 95) (pf := 17) (fun kt kf => r_icmp_ge (M := mX12_leave) dX12_leave_14 (by decide) kt kf) (fun hc4 => ?_) (fun hc4 => ?_)
  · refine go_drop (ls' := [some (.ref p0), some (.int p1), none, none]) (And.intro rfl (And.intro rfl trivial)) ?_
    exact hk95 x
  · refine go1 (M := mX12_leave) (pc' := 18) (r_aload_n (M := mX12_leave) (i := 0) rfl dX12_leave_17) ?_
    refine go1 (M := mX12_leave) (pc' := 21) (r_getR (M := mX12_leave) fl_12_41 g0 rfl (wt_some hW g0 (by decide) (by decide) rfl) dX12_leave_18) ?_
    have hT5 : TY S (pr S p0 11) 14 := wt hW g0 (by decide) (by decide) rfl (by decide)
    refine go1 (M := mX12_leave) (pc' := 22) (r_iload_n (M := mX12_leave) (i := 3) rfl dX12_leave_21) ?_
    refine go_ck (fun hi6 => ?_)
    refine go1 (M := mX12_leave) (pc' := 23) (r_iald (M := mX12_leave) hT5 hi6 dX12_leave_22) ?_
    refine go1 (M := mX12_leave) (pc' := 24) (r_iconst (M := mX12_leave) (v := 2) (by decide) dX12_leave_23) ?_
    refine go_br (M := mX12_leave) (pt := 27) (pf := 89) (fun kt kf => r_icmp_ne (M := mX12_leave) dX12_leave_24 (by decide) kf kt) (fun hc7 => ?_) (fun hc7 => ?_)
    · refine go1 (M := mX12_leave) (pc' := 28) (r_aload_n (M := mX12_leave) (i := 0) rfl dX12_leave_27) ?_
      refine go1 (M := mX12_leave) (pc' := 31) (r_getR (M := mX12_leave) fl_12_44 g0 rfl (wt_some hW g0 (by decide) (by decide) rfl) dX12_leave_28) ?_
      have hT8 : TY S (pr S p0 12) 14 := wt hW g0 (by decide) (by decide) rfl (by decide)
      refine go1 (M := mX12_leave) (pc' := 32) (r_iload_n (M := mX12_leave) (i := 3) rfl dX12_leave_31) ?_
      refine go_ck (fun hi9 => ?_)
      refine go1 (M := mX12_leave) (pc' := 33) (r_iald (M := mX12_leave) hT8 hi9 dX12_leave_32) ?_
      refine go1 (M := mX12_leave) (pc' := 34) (r_iload_n (M := mX12_leave) (i := 1) rfl dX12_leave_33) ?_
      refine go_br (M := mX12_leave) (pt := 40) (pf := 37) (fun kt kf => r_icmp_eq (M := mX12_leave) dX12_leave_34 (by decide) kt kf) (fun hc10 => ?_) (fun hc10 => ?_)
      · refine go1 (M := mX12_leave) (pc' := 41) (r_iload_n (M := mX12_leave) (i := 2) rfl dX12_leave_40) ?_
        refine go_br (M := mX12_leave) (pt := 63) (pf := 44) (fun kt kf => r_if_lt (M := mX12_leave) dX12_leave_41 (by decide) kt kf) (fun hc11 => ?_) (fun hc11 => ?_)
        · exact j_X12_leave_63_t (N := N) hW (by omega) bk9 p0 p1 p2 p3 x g0 hbk9
        · refine go1 (M := mX12_leave) (pc' := 45) (r_aload_n (M := mX12_leave) (i := 0) rfl dX12_leave_44) ?_
          refine go1 (M := mX12_leave) (pc' := 48) (r_getR (M := mX12_leave) fl_12_86 g0 rfl (wt_some hW g0 (by decide) (by decide) rfl) dX12_leave_45) ?_
          have hT18 : TY S (pr S p0 26) 15 := wt hW g0 (by decide) (by decide) rfl (by decide)
          refine go1 (M := mX12_leave) (pc' := 49) (r_iload_n (M := mX12_leave) (i := 2) rfl dX12_leave_48) ?_
          refine go_ck (fun hi19 => ?_)
          refine go1 (M := mX12_leave) (pc' := 50) (r_zald (M := mX12_leave) hT18 hi19 dX12_leave_49) ?_
          refine go_br (M := mX12_leave) (pt := 63) (pf := 53) (fun kt kf => r_if_eq (M := mX12_leave) dX12_leave_50 (by decide) kt kf) (fun hc20 => ?_) (fun hc20 => ?_)
          · exact j_X12_leave_63_t (N := N) hW (by omega) bk9 p0 p1 p2 p3 x g0 hbk9
          · refine go1 (M := mX12_leave) (pc' := 54) (r_aload_n (M := mX12_leave) (i := 0) rfl dX12_leave_53) ?_
            refine go1 (M := mX12_leave) (pc' := 57) (r_getR (M := mX12_leave) fl_12_44 g0 rfl (wt_some hW g0 (by decide) (by decide) rfl) dX12_leave_54) ?_
            refine go1 (M := mX12_leave) (pc' := 58) (r_iload_n (M := mX12_leave) (i := 3) rfl dX12_leave_57) ?_
            refine go1 (M := mX12_leave) (pc' := 59) (r_iload_n (M := mX12_leave) (i := 2) rfl dX12_leave_58) ?_
            refine go_ck (fun hi21 => ?_)
            refine go1 (M := mX12_leave) (pc' := 60) (r_iast (M := mX12_leave) hT8 hi21 dX12_leave_59) ?_
            refine go_blx (fun x22 => ?_)
            refine go1 (M := mX12_leave) (pc' := 89) (r_goto (M := mX12_leave) dX12_leave_60 (by decide)) ?_
            exact j_X12_leave_89_t (N := N) hW (by omega) bk9 p0 p1 p2 p3 x22 g0 hbk9
      · refine go1 (M := mX12_leave) (pc' := 89) (r_goto (M := mX12_leave) dX12_leave_37 (by decide)) ?_
        exact j_X12_leave_89_t (N := N) hW (by omega) bk9 p0 p1 p2 p3 x g0 hbk9
    · exact j_X12_leave_89_t (N := N) hW (by omega) bk9 p0 p1 p2 p3 x g0 hbk9
def lp_X12_leave_9 (N : Nat) (S : SH) (k95 : DY → Option DY) (p0 : Nat) (p1 : Int32) (p2 : Int32) (p3 : Int32) (x : DY) : Option DY :=
  itr (fun back (v : Int32 × DY) => lp_X12_leave_9_b N S k95 (fun p3 y => back (p3, y)) p0 p1 p2 v.1 v.2) N (p3, x)
theorem lp_X12_leave_9_t {N d : Nat} {S : SH} (hW : WT S) (hd : 2 ≤ d) (k95 : DY → Option DY) (p0 : Nat) (p1 : Int32) (p2 : Int32) (p3 : Int32) (x : DY) (g0 : TY S p0 12) (hk95 : ∀ (y : DY), Go mX12_leave d S wSV 95 [some (.ref p0), some (.int p1), none, none] [] y (k95 y)) : Go mX12_leave d S wSV 9 [some (.ref p0), some (.int p1), some (.int p2), some (.int p3)] [] x (lp_X12_leave_9 N S k95 p0 p1 p2 p3 x) := by
  unfold lp_X12_leave_9
  exact go_itr (L := fun (v : Int32 × DY) => [some (.ref p0), some (.int p1), some (.int p2), some (.int v.1)]) (X := fun (v : Int32 × DY) => v.2) (fun back hB v => lp_X12_leave_9_b_t (N := N) hW hd k95 (fun p3 y => back (p3, y)) p0 p1 p2 v.1 v.2 g0 hk95 (fun p3 y => hB (p3, y)) ) N (p3, x)
def j_X12_leave_143 (N : Nat) (S : SH) (bk118 : Int32 → DY → Option DY) (p0 : Nat) (p1 : Int32) (p3 : Int32) (x : DY) : Option DY :=
  bk118 (p3 + 1) x
set_option maxHeartbeats 1000000 in
theorem j_X12_leave_143_t {N d : Nat} {S : SH} (hW : WT S) (hd : 2 ≤ d) (bk118 : Int32 → DY → Option DY) (p0 : Nat) (p1 : Int32) (p3 : Int32) (x : DY) (g0 : TY S p0 12) (hbk118 : ∀ (v3 : Int32) (y : DY), Go mX12_leave d S wSV 118 [some (.ref p0), some (.int p1), none, some (.int v3)] [] y (bk118 v3 y)) : Go mX12_leave d S wSV 143 [some (.ref p0), some (.int p1), none, some (.int p3)] [] x (j_X12_leave_143 N S bk118 p0 p1 p3 x) := by
  unfold j_X12_leave_143
  refine go1 (M := mX12_leave) (pc' := 146) (ls' := [some (.ref p0), some (.int p1), none, some (.int (p3 + 1))]) (r_iinc (M := mX12_leave) (ls := [some (.ref p0), some (.int p1), none, some (.int p3)]) (i := 3) (v := p3) (c' := 1) (by decide) rfl (by decide) rfl dX12_leave_143) ?_
  refine go1 (M := mX12_leave) (pc' := 118) (r_goto (M := mX12_leave) dX12_leave_146 (by decide)) ?_
  exact hbk118 (p3 + 1) x
def lp_X12_leave_118_b (N : Nat) (S : SH) (bk118 : Int32 → DY → Option DY) (p0 : Nat) (p1 : Int32) (p3 : Int32) (x : DY) : Option DY :=
  (if (x.1 p0 18) ≤ p3 then some x else ck S (pr S p0 23) p3 ((if (x.1 (pr S p0 23) p3.toNatClampNeg) = p1 then ck S (pr S p0 23) p3 (bl (U1 x (pr S p0 23) p3.toNatClampNeg (-1)) (fun x39 => j_X12_leave_143 N S bk118 p0 p1 p3 x39)) else j_X12_leave_143 N S bk118 p0 p1 p3 x)))
set_option maxHeartbeats 1000000 in
theorem lp_X12_leave_118_b_t {N d : Nat} {S : SH} (hW : WT S) (hd : 2 ≤ d) (bk118 : Int32 → DY → Option DY) (p0 : Nat) (p1 : Int32) (p3 : Int32) (x : DY) (g0 : TY S p0 12) (hbk118 : ∀ (v3 : Int32) (y : DY), Go mX12_leave d S wSV 118 [some (.ref p0), some (.int p1), none, some (.int v3)] [] y (bk118 v3 y)) : Go mX12_leave d S wSV 118 [some (.ref p0), some (.int p1), none, some (.int p3)] [] x (lp_X12_leave_118_b N S bk118 p0 p1 p3 x) := by
  unfold lp_X12_leave_118_b
  refine go1 (M := mX12_leave) (pc' := 119) (r_iload_n (M := mX12_leave) (i := 3) rfl dX12_leave_118) ?_
  refine go1 (M := mX12_leave) (pc' := 120) (r_aload_n (M := mX12_leave) (i := 0) rfl dX12_leave_119) ?_
  refine go1 (M := mX12_leave) (pc' := 123) (r_getI (M := mX12_leave) fl_12_62 g0 rfl dX12_leave_120) ?_
  refine go_br (M := mX12_leave) (pt := 149) (pf := 126) (fun kt kf => r_icmp_ge (M := mX12_leave) dX12_leave_123 (by decide) kt kf) (fun hc34 => ?_) (fun hc34 => ?_)
  · exact go_vret (M := mX12_leave) rfl rfl dX12_leave_149
  · refine go1 (M := mX12_leave) (pc' := 127) (r_aload_n (M := mX12_leave) (i := 0) rfl dX12_leave_126) ?_
    refine go1 (M := mX12_leave) (pc' := 130) (r_getR (M := mX12_leave) fl_12_77 g0 rfl (wt_some hW g0 (by decide) (by decide) rfl) dX12_leave_127) ?_
    have hT35 : TY S (pr S p0 23) 14 := wt hW g0 (by decide) (by decide) rfl (by decide)
    refine go1 (M := mX12_leave) (pc' := 131) (r_iload_n (M := mX12_leave) (i := 3) rfl dX12_leave_130) ?_
    refine go_ck (fun hi36 => ?_)
    refine go1 (M := mX12_leave) (pc' := 132) (r_iald (M := mX12_leave) hT35 hi36 dX12_leave_131) ?_
    refine go1 (M := mX12_leave) (pc' := 133) (r_iload_n (M := mX12_leave) (i := 1) rfl dX12_leave_132) ?_
    refine go_br (M := mX12_leave) (pt := 136) (pf := 143) (fun kt kf => r_icmp_ne (M := mX12_leave) dX12_leave_133 (by decide) kf kt) (fun hc37 => ?_) (fun hc37 => ?_)
    · refine go1 (M := mX12_leave) (pc' := 137) (r_aload_n (M := mX12_leave) (i := 0) rfl dX12_leave_136) ?_
      refine go1 (M := mX12_leave) (pc' := 140) (r_getR (M := mX12_leave) fl_12_77 g0 rfl (wt_some hW g0 (by decide) (by decide) rfl) dX12_leave_137) ?_
      refine go1 (M := mX12_leave) (pc' := 141) (r_iload_n (M := mX12_leave) (i := 3) rfl dX12_leave_140) ?_
      refine go1 (M := mX12_leave) (pc' := 142) (r_iconst (M := mX12_leave) (v := (-1)) (by decide) dX12_leave_141) ?_
      refine go_ck (fun hi38 => ?_)
      refine go1 (M := mX12_leave) (pc' := 143) (r_iast (M := mX12_leave) hT35 hi38 dX12_leave_142) ?_
      refine go_blx (fun x39 => ?_)
      exact j_X12_leave_143_t (N := N) hW (by omega) bk118 p0 p1 p3 x39 g0 hbk118
    · exact j_X12_leave_143_t (N := N) hW (by omega) bk118 p0 p1 p3 x g0 hbk118
def lp_X12_leave_118 (N : Nat) (S : SH) (p0 : Nat) (p1 : Int32) (p3 : Int32) (x : DY) : Option DY :=
  itr (fun back (v : Int32 × DY) => lp_X12_leave_118_b N S (fun p3 y => back (p3, y)) p0 p1 v.1 v.2) N (p3, x)
theorem lp_X12_leave_118_t {N d : Nat} {S : SH} (hW : WT S) (hd : 2 ≤ d) (p0 : Nat) (p1 : Int32) (p3 : Int32) (x : DY) (g0 : TY S p0 12) : Go mX12_leave d S wSV 118 [some (.ref p0), some (.int p1), none, some (.int p3)] [] x (lp_X12_leave_118 N S p0 p1 p3 x) := by
  unfold lp_X12_leave_118
  exact go_itr (L := fun (v : Int32 × DY) => [some (.ref p0), some (.int p1), none, some (.int v.1)]) (X := fun (v : Int32 × DY) => v.2) (fun back hB v => lp_X12_leave_118_b_t (N := N) hW hd (fun p3 y => back (p3, y)) p0 p1 v.1 v.2 g0 (fun p3 y => hB (p3, y)) ) N (p3, x)
def f_X12_leave (N : Nat) (S : SH) (a0 : Nat) (a1 : Int32) (x : DY) : Option DY :=
  ck S (pr S a0 23) a1 (lp_X12_leave_9 N S (fun y22 => ck S (pr S a0 26) a1 (bl (U1 y22 (pr S a0 26) a1.toNatClampNeg (vp_nar .boolean 0)) (fun x26 => ck S (pr S a0 24) a1 (bl (U1 x26 (pr S a0 24) a1.toNatClampNeg (-1)) (fun x29 => ck S (pr S a0 23) a1 (bl (U1 x29 (pr S a0 23) a1.toNatClampNeg (-1)) (fun x32 => lp_X12_leave_118 N S a0 a1 0 x32))))))) a0 a1 (x.1 (pr S a0 23) a1.toNatClampNeg) 0 x)
set_option maxHeartbeats 1000000 in
theorem t_X12_leave {N d : Nat} {S : SH} (hW : WT S) {x : DY} {a0 : Nat} {a1 : Int32} (hd : 2 ≤ d) (h0 : TY S a0 12) : CT mX12_leave d S [.ref a0, .int a1] x wSV (f_X12_leave N S a0 a1 x) := by
  refine CT.of [some (.ref a0), some (.int a1), none, none] rfl (Nat.le_of_ble_eq_true rfl) (by decide +kernel) ?_
  unfold f_X12_leave
  refine go1 (M := mX12_leave) (pc' := 1) (r_aload_n (M := mX12_leave) (i := 0) rfl dX12_leave_0) ?_
  refine go1 (M := mX12_leave) (pc' := 4) (r_getR (M := mX12_leave) fl_12_77 h0 rfl (wt_some hW h0 (by decide) (by decide) rfl) dX12_leave_1) ?_
  have hT1 : TY S (pr S a0 23) 14 := wt hW h0 (by decide) (by decide) rfl (by decide)
  refine go1 (M := mX12_leave) (pc' := 5) (r_iload_n (M := mX12_leave) (i := 1) rfl dX12_leave_4) ?_
  refine go_ck (fun hi2 => ?_)
  refine go1 (M := mX12_leave) (pc' := 6) (r_iald (M := mX12_leave) hT1 hi2 dX12_leave_5) ?_
  refine go1 (M := mX12_leave) (pc' := 7) (ls' := [some (.ref a0), some (.int a1), some (.int (x.1 (pr S a0 23) a1.toNatClampNeg)), none]) (r_istore_n (M := mX12_leave) (ls := [some (.ref a0), some (.int a1), none, none]) (i := 2) (v := (x.1 (pr S a0 23) a1.toNatClampNeg)) (by decide) rfl dX12_leave_6) ?_
  refine go1 (M := mX12_leave) (pc' := 8) (r_iconst (M := mX12_leave) (v := 0) (by decide) dX12_leave_7) ?_
  refine go1 (M := mX12_leave) (pc' := 9) (ls' := [some (.ref a0), some (.int a1), some (.int (x.1 (pr S a0 23) a1.toNatClampNeg)), some (.int 0)]) (r_istore_n (M := mX12_leave) (ls := [some (.ref a0), some (.int a1), some (.int (x.1 (pr S a0 23) a1.toNatClampNeg)), none]) (i := 3) (v := 0) (by decide) rfl dX12_leave_8) ?_
  refine lp_X12_leave_9_t (N := N) hW (by omega) _ a0 a1 (x.1 (pr S a0 23) a1.toNatClampNeg) 0 x h0 ?_
  · intro y22
    refine go1 (M := mX12_leave) (pc' := 96) (r_aload_n (M := mX12_leave) (i := 0) rfl dX12_leave_95) ?_
    refine go1 (M := mX12_leave) (pc' := 99) (r_getR (M := mX12_leave) fl_12_86 h0 rfl (wt_some hW h0 (by decide) (by decide) rfl) dX12_leave_96) ?_
    have hT24 : TY S (pr S a0 26) 15 := wt hW h0 (by decide) (by decide) rfl (by decide)
    refine go1 (M := mX12_leave) (pc' := 100) (r_iload_n (M := mX12_leave) (i := 1) rfl dX12_leave_99) ?_
    refine go1 (M := mX12_leave) (pc' := 101) (r_iconst (M := mX12_leave) (v := 0) (by decide) dX12_leave_100) ?_
    refine go_ck (fun hi25 => ?_)
    refine go1 (M := mX12_leave) (pc' := 102) (r_zast (M := mX12_leave) hT24 hi25 dX12_leave_101) ?_
    refine go_blx (fun x26 => ?_)
    refine go1 (M := mX12_leave) (pc' := 103) (r_aload_n (M := mX12_leave) (i := 0) rfl dX12_leave_102) ?_
    refine go1 (M := mX12_leave) (pc' := 106) (r_getR (M := mX12_leave) fl_12_80 h0 rfl (wt_some hW h0 (by decide) (by decide) rfl) dX12_leave_103) ?_
    have hT27 : TY S (pr S a0 24) 14 := wt hW h0 (by decide) (by decide) rfl (by decide)
    refine go1 (M := mX12_leave) (pc' := 107) (r_iload_n (M := mX12_leave) (i := 1) rfl dX12_leave_106) ?_
    refine go1 (M := mX12_leave) (pc' := 108) (r_iconst (M := mX12_leave) (v := (-1)) (by decide) dX12_leave_107) ?_
    refine go_ck (fun hi28 => ?_)
    refine go1 (M := mX12_leave) (pc' := 109) (r_iast (M := mX12_leave) hT27 hi28 dX12_leave_108) ?_
    refine go_blx (fun x29 => ?_)
    refine go1 (M := mX12_leave) (pc' := 110) (r_aload_n (M := mX12_leave) (i := 0) rfl dX12_leave_109) ?_
    refine go1 (M := mX12_leave) (pc' := 113) (r_getR (M := mX12_leave) fl_12_77 h0 rfl (wt_some hW h0 (by decide) (by decide) rfl) dX12_leave_110) ?_
    have hT30 : TY S (pr S a0 23) 14 := wt hW h0 (by decide) (by decide) rfl (by decide)
    refine go1 (M := mX12_leave) (pc' := 114) (r_iload_n (M := mX12_leave) (i := 1) rfl dX12_leave_113) ?_
    refine go1 (M := mX12_leave) (pc' := 115) (r_iconst (M := mX12_leave) (v := (-1)) (by decide) dX12_leave_114) ?_
    refine go_ck (fun hi31 => ?_)
    refine go1 (M := mX12_leave) (pc' := 116) (r_iast (M := mX12_leave) hT30 hi31 dX12_leave_115) ?_
    refine go_blx (fun x32 => ?_)
    refine go1 (M := mX12_leave) (pc' := 117) (r_iconst (M := mX12_leave) (v := 0) (by decide) dX12_leave_116) ?_
    refine go1 (M := mX12_leave) (pc' := 118) (ls' := [some (.ref a0), some (.int a1), none, some (.int 0)]) (r_istore_n (M := mX12_leave) (ls := [some (.ref a0), some (.int a1), none, none]) (i := 3) (v := 0) (by decide) rfl dX12_leave_117) ?_
    refine lp_X12_leave_118_t (N := N) hW (by omega) a0 a1 0 x32 h0
