/-! MIRRORS, by program out of the class's bytecode: X12_in .. X12_ruleZero -/
def f_X12_in (N : Nat) (S : SH) (a0 : Nat) (a1 : Int32) (a2 : Int32) (a3 : Int32) (x : DY) : Option Int32 :=
  (if a1 < a2 then some 0 else (if a3 < a1 then some 0 else some 1))
set_option maxHeartbeats 1000000 in
theorem t_X12_in {N d : Nat} {S : SH} (hW : WT S) {x : DY} {a0 : Nat} {a1 : Int32} {a2 : Int32} {a3 : Int32} (hd : 1 ≤ d) (h0 : TY S a0 12) : CT mX12_in d S [.ref a0, .int a1, .int a2, .int a3] x (wPI x) (f_X12_in N S a0 a1 a2 a3 x) := by
  refine CT.of [some (.ref a0), some (.int a1), some (.int a2), some (.int a3)] rfl (Nat.le_of_ble_eq_true rfl) (by decide +kernel) ?_
  unfold f_X12_in
  refine go1 (M := mX12_in) (pc' := 1) (r_iload_n (M := mX12_in) (i := 1) rfl dX12_in_0) ?_
  refine go1 (M := mX12_in) (pc' := 2) (r_iload_n (M := mX12_in) (i := 2) rfl dX12_in_1) ?_
  refine go_br (M := mX12_in) (pt := 14) (pf := 5) (fun kt kf => r_icmp_lt (M := mX12_in) dX12_in_2 (by decide) kt kf) (fun hc1 => ?_) (fun hc1 => ?_)
  · refine go1 (M := mX12_in) (pc' := 15) (r_iconst (M := mX12_in) (v := 0) (by decide) dX12_in_14) ?_
    exact go_zret (M := mX12_in) rfl rfl rfl dX12_in_15
  · refine go1 (M := mX12_in) (pc' := 6) (r_iload_n (M := mX12_in) (i := 1) rfl dX12_in_5) ?_
    refine go1 (M := mX12_in) (pc' := 7) (r_iload_n (M := mX12_in) (i := 3) rfl dX12_in_6) ?_
    refine go_br (M := mX12_in) (pt := 14) (pf := 10) (fun kt kf => r_icmp_gt (M := mX12_in) dX12_in_7 (by decide) kt kf) (fun hc2 => ?_) (fun hc2 => ?_)
    · refine go1 (M := mX12_in) (pc' := 15) (r_iconst (M := mX12_in) (v := 0) (by decide) dX12_in_14) ?_
      exact go_zret (M := mX12_in) rfl rfl rfl dX12_in_15
    · refine go1 (M := mX12_in) (pc' := 11) (r_iconst (M := mX12_in) (v := 1) (by decide) dX12_in_10) ?_
      refine go1 (M := mX12_in) (pc' := 15) (r_goto (M := mX12_in) dX12_in_11 (by decide)) ?_
      exact go_zret (M := mX12_in) rfl rfl rfl dX12_in_15
def f_X12_isDish (N : Nat) (S : SH) (a0 : Nat) (a1 : Int32) (x : DY) : Option Int32 :=
  Option.bind (f_X12_in N S a0 a1 0 5 x) (fun r1 => bz r1 (some r1))
set_option maxHeartbeats 1000000 in
theorem t_X12_isDish {N d : Nat} {S : SH} (hW : WT S) {x : DY} {a0 : Nat} {a1 : Int32} (hd : 2 ≤ d) (h0 : TY S a0 12) : CT mX12_isDish d S [.ref a0, .int a1] x (wPI x) (f_X12_isDish N S a0 a1 x) := by
  refine CT.of [some (.ref a0), some (.int a1)] rfl (Nat.le_of_ble_eq_true rfl) (by decide +kernel) ?_
  unfold f_X12_isDish
  refine go1 (M := mX12_isDish) (pc' := 1) (r_aload_n (M := mX12_isDish) (i := 0) rfl dX12_isDish_0) ?_
  refine go1 (M := mX12_isDish) (pc' := 2) (r_iload_n (M := mX12_isDish) (i := 1) rfl dX12_isDish_1) ?_
  refine go1 (M := mX12_isDish) (pc' := 3) (r_iconst (M := mX12_isDish) (v := 0) (by decide) dX12_isDish_2) ?_
  refine go1 (M := mX12_isDish) (pc' := 4) (r_iconst (M := mX12_isDish) (v := 5) (by decide) dX12_isDish_3) ?_
  refine go_V_PI (M := mX12_isDish) (pc' := 7) (st := []) (As := [.int a1, .int 0, .int 5]) rfl ln_12_217 lb_X12_in (t_X12_in (N := N) hW (by omega) h0) (by omega) h0 (Nat.le_of_ble_eq_true rfl) rfl dX12_isDish_4 (fun r1 => ?_)
  refine go_bz (fun hn2 => ?_)
  exact go_zret (M := mX12_isDish) rfl hn2 rfl dX12_isDish_7
def f_X12_isPlace (N : Nat) (S : SH) (a0 : Nat) (a1 : Int32) (x : DY) : Option Int32 :=
  Option.bind (f_X12_in N S a0 a1 0 ((x.1 a0 0) - 1) x) (fun r1 => bz r1 (some r1))
set_option maxHeartbeats 1000000 in
theorem t_X12_isPlace {N d : Nat} {S : SH} (hW : WT S) {x : DY} {a0 : Nat} {a1 : Int32} (hd : 2 ≤ d) (h0 : TY S a0 12) : CT mX12_isPlace d S [.ref a0, .int a1] x (wPI x) (f_X12_isPlace N S a0 a1 x) := by
  refine CT.of [some (.ref a0), some (.int a1)] rfl (Nat.le_of_ble_eq_true rfl) (by decide +kernel) ?_
  unfold f_X12_isPlace
  refine go1 (M := mX12_isPlace) (pc' := 1) (r_aload_n (M := mX12_isPlace) (i := 0) rfl dX12_isPlace_0) ?_
  refine go1 (M := mX12_isPlace) (pc' := 2) (r_iload_n (M := mX12_isPlace) (i := 1) rfl dX12_isPlace_1) ?_
  refine go1 (M := mX12_isPlace) (pc' := 3) (r_iconst (M := mX12_isPlace) (v := 0) (by decide) dX12_isPlace_2) ?_
  refine go1 (M := mX12_isPlace) (pc' := 4) (r_aload_n (M := mX12_isPlace) (i := 0) rfl dX12_isPlace_3) ?_
  refine go1 (M := mX12_isPlace) (pc' := 7) (r_getI (M := mX12_isPlace) fl_12_211 h0 rfl dX12_isPlace_4) ?_
  refine go1 (M := mX12_isPlace) (pc' := 8) (r_iconst (M := mX12_isPlace) (v := 1) (by decide) dX12_isPlace_7) ?_
  refine go1 (M := mX12_isPlace) (pc' := 9) (r_isub (M := mX12_isPlace) dX12_isPlace_8) ?_
  refine go_V_PI (M := mX12_isPlace) (pc' := 12) (st := []) (As := [.int a1, .int 0, .int ((x.1 a0 0) - 1)]) rfl ln_12_217 lb_X12_in (t_X12_in (N := N) hW (by omega) h0) (by omega) h0 (Nat.le_of_ble_eq_true rfl) rfl dX12_isPlace_9 (fun r1 => ?_)
  refine go_bz (fun hn2 => ?_)
  exact go_zret (M := mX12_isPlace) rfl hn2 rfl dX12_isPlace_12
def f_X12_isPlate (N : Nat) (S : SH) (a0 : Nat) (a1 : Int32) (x : DY) : Option Int32 :=
  Option.bind (f_X12_in N S a0 a1 0 ((x.1 a0 1) - 1) x) (fun r1 => bz r1 (some r1))
set_option maxHeartbeats 1000000 in
theorem t_X12_isPlate {N d : Nat} {S : SH} (hW : WT S) {x : DY} {a0 : Nat} {a1 : Int32} (hd : 2 ≤ d) (h0 : TY S a0 12) : CT mX12_isPlate d S [.ref a0, .int a1] x (wPI x) (f_X12_isPlate N S a0 a1 x) := by
  refine CT.of [some (.ref a0), some (.int a1)] rfl (Nat.le_of_ble_eq_true rfl) (by decide +kernel) ?_
  unfold f_X12_isPlate
  refine go1 (M := mX12_isPlate) (pc' := 1) (r_aload_n (M := mX12_isPlate) (i := 0) rfl dX12_isPlate_0) ?_
  refine go1 (M := mX12_isPlate) (pc' := 2) (r_iload_n (M := mX12_isPlate) (i := 1) rfl dX12_isPlate_1) ?_
  refine go1 (M := mX12_isPlate) (pc' := 3) (r_iconst (M := mX12_isPlate) (v := 0) (by decide) dX12_isPlate_2) ?_
  refine go1 (M := mX12_isPlate) (pc' := 4) (r_aload_n (M := mX12_isPlate) (i := 0) rfl dX12_isPlate_3) ?_
  refine go1 (M := mX12_isPlate) (pc' := 7) (r_getI (M := mX12_isPlate) fl_12_7 h0 rfl dX12_isPlate_4) ?_
  refine go1 (M := mX12_isPlate) (pc' := 8) (r_iconst (M := mX12_isPlate) (v := 1) (by decide) dX12_isPlate_7) ?_
  refine go1 (M := mX12_isPlate) (pc' := 9) (r_isub (M := mX12_isPlate) dX12_isPlate_8) ?_
  refine go_V_PI (M := mX12_isPlate) (pc' := 12) (st := []) (As := [.int a1, .int 0, .int ((x.1 a0 1) - 1)]) rfl ln_12_217 lb_X12_in (t_X12_in (N := N) hW (by omega) h0) (by omega) h0 (Nat.le_of_ble_eq_true rfl) rfl dX12_isPlate_9 (fun r1 => ?_)
  refine go_bz (fun hn2 => ?_)
  exact go_zret (M := mX12_isPlate) rfl hn2 rfl dX12_isPlate_12
def f_X12_dish (N : Nat) (S : SH) (a0 : Nat) (a1 : Int32) (a2 : Int32) (a3 : Int32) (x : DY) : Option (Int32 × DY) :=
  Option.bind (f_X12_isDish N S a0 a1 x) (fun r1 => (if r1 = 0 then some ((-2), x) else Option.bind (f_X12_in N S a0 a2 0 4 x) (fun r3 => (if r3 = 0 then some ((-2), x) else Option.bind (f_X12_in N S a0 a3 1 60 x) (fun r5 => (if r5 = 0 then some ((-2), x) else ck S (pr S a0 5) a1 (ck S (pr S a0 5) a1 (bl (U1 x (pr S a0 5) a1.toNatClampNeg a2) (fun x10 => ck S (pr S a0 6) a1 (bl (U1 x10 (pr S a0 6) a1.toNatClampNeg a3) (fun x13 => some ((x.1 (pr S a0 5) a1.toNatClampNeg), x13))))))))))))
set_option maxHeartbeats 1000000 in
theorem t_X12_dish {N d : Nat} {S : SH} (hW : WT S) {x : DY} {a0 : Nat} {a1 : Int32} {a2 : Int32} {a3 : Int32} (hd : 3 ≤ d) (h0 : TY S a0 12) : CT mX12_dish d S [.ref a0, .int a1, .int a2, .int a3] x wSI (f_X12_dish N S a0 a1 a2 a3 x) := by
  refine CT.of [some (.ref a0), some (.int a1), some (.int a2), some (.int a3), none] rfl (Nat.le_of_ble_eq_true rfl) (by decide +kernel) ?_
  unfold f_X12_dish
  refine go1 (M := mX12_dish) (pc' := 1) (r_aload_n (M := mX12_dish) (i := 0) rfl dX12_dish_0) ?_
  refine go1 (M := mX12_dish) (pc' := 2) (r_iload_n (M := mX12_dish) (i := 1) rfl dX12_dish_1) ?_
  refine go_V_PI (M := mX12_dish) (pc' := 5) (st := []) (As := [.int a1]) rfl ln_12_221 lb_X12_isDish (t_X12_isDish (N := N) hW (by omega) h0) (by omega) h0 (Nat.le_of_ble_eq_true rfl) rfl dX12_dish_2 (fun r1 => ?_)
  refine go_br (M := mX12_dish) (pt := 29) (pf := 8) (fun kt kf => r_if_eq (M := mX12_dish) dX12_dish_5 (by decide) kt kf) (fun hc2 => ?_) (fun hc2 => ?_)
  · refine go1 (M := mX12_dish) (pc' := 31) (r_bipush (M := mX12_dish) (v := (-2)) (by decide) dX12_dish_29) ?_
    exact go_iret (M := mX12_dish) rfl rfl dX12_dish_31
  · refine go1 (M := mX12_dish) (pc' := 9) (r_aload_n (M := mX12_dish) (i := 0) rfl dX12_dish_8) ?_
    refine go1 (M := mX12_dish) (pc' := 10) (r_iload_n (M := mX12_dish) (i := 2) rfl dX12_dish_9) ?_
    refine go1 (M := mX12_dish) (pc' := 11) (r_iconst (M := mX12_dish) (v := 0) (by decide) dX12_dish_10) ?_
    refine go1 (M := mX12_dish) (pc' := 12) (r_iconst (M := mX12_dish) (v := 4) (by decide) dX12_dish_11) ?_
    refine go_V_PI (M := mX12_dish) (pc' := 15) (st := []) (As := [.int a2, .int 0, .int 4]) rfl ln_12_217 lb_X12_in (t_X12_in (N := N) hW (by omega) h0) (by omega) h0 (Nat.le_of_ble_eq_true rfl) rfl dX12_dish_12 (fun r3 => ?_)
    refine go_br (M := mX12_dish) (pt := 29) (pf := 18) (fun kt kf => r_if_eq (M := mX12_dish) dX12_dish_15 (by decide) kt kf) (fun hc4 => ?_) (fun hc4 => ?_)
    · refine go1 (M := mX12_dish) (pc' := 31) (r_bipush (M := mX12_dish) (v := (-2)) (by decide) dX12_dish_29) ?_
      exact go_iret (M := mX12_dish) rfl rfl dX12_dish_31
    · refine go1 (M := mX12_dish) (pc' := 19) (r_aload_n (M := mX12_dish) (i := 0) rfl dX12_dish_18) ?_
      refine go1 (M := mX12_dish) (pc' := 20) (r_iload_n (M := mX12_dish) (i := 3) rfl dX12_dish_19) ?_
      refine go1 (M := mX12_dish) (pc' := 21) (r_iconst (M := mX12_dish) (v := 1) (by decide) dX12_dish_20) ?_
      refine go1 (M := mX12_dish) (pc' := 23) (r_bipush (M := mX12_dish) (v := 60) (by decide) dX12_dish_21) ?_
      refine go_V_PI (M := mX12_dish) (pc' := 26) (st := []) (As := [.int a3, .int 1, .int 60]) rfl ln_12_217 lb_X12_in (t_X12_in (N := N) hW (by omega) h0) (by omega) h0 (Nat.le_of_ble_eq_true rfl) rfl dX12_dish_23 (fun r5 => ?_)
      refine go_br (M := mX12_dish) (pt := 29) (pf := 32) (fun kt kf => r_if_ne (M := mX12_dish) dX12_dish_26 (by decide) kf kt) (fun hc6 => ?_) (fun hc6 => ?_)
      · refine go1 (M := mX12_dish) (pc' := 31) (r_bipush (M := mX12_dish) (v := (-2)) (by decide) dX12_dish_29) ?_
        exact go_iret (M := mX12_dish) rfl rfl dX12_dish_31
      · refine go1 (M := mX12_dish) (pc' := 33) (r_aload_n (M := mX12_dish) (i := 0) rfl dX12_dish_32) ?_
        refine go1 (M := mX12_dish) (pc' := 36) (r_getR (M := mX12_dish) fl_12_22 h0 rfl (wt_some hW h0 (by decide) (by decide) rfl) dX12_dish_33) ?_
        have hT7 : TY S (pr S a0 5) 14 := wt hW h0 (by decide) (by decide) rfl (by decide)
        refine go1 (M := mX12_dish) (pc' := 37) (r_iload_n (M := mX12_dish) (i := 1) rfl dX12_dish_36) ?_
        refine go_ck (fun hi8 => ?_)
        refine go1 (M := mX12_dish) (pc' := 38) (r_iald (M := mX12_dish) hT7 hi8 dX12_dish_37) ?_
        refine go1 (M := mX12_dish) (pc' := 40) (ls' := [some (.ref a0), some (.int a1), some (.int a2), some (.int a3), some (.int (x.1 (pr S a0 5) a1.toNatClampNeg))]) (r_istore (M := mX12_dish) (ls := [some (.ref a0), some (.int a1), some (.int a2), some (.int a3), none]) (i := 4) (v := (x.1 (pr S a0 5) a1.toNatClampNeg)) (by decide) rfl dX12_dish_38) ?_
        refine go1 (M := mX12_dish) (pc' := 41) (r_aload_n (M := mX12_dish) (i := 0) rfl dX12_dish_40) ?_
        refine go1 (M := mX12_dish) (pc' := 44) (r_getR (M := mX12_dish) fl_12_22 h0 rfl (wt_some hW h0 (by decide) (by decide) rfl) dX12_dish_41) ?_
        refine go1 (M := mX12_dish) (pc' := 45) (r_iload_n (M := mX12_dish) (i := 1) rfl dX12_dish_44) ?_
        refine go1 (M := mX12_dish) (pc' := 46) (r_iload_n (M := mX12_dish) (i := 2) rfl dX12_dish_45) ?_
        refine go_ck (fun hi9 => ?_)
        refine go1 (M := mX12_dish) (pc' := 47) (r_iast (M := mX12_dish) hT7 hi9 dX12_dish_46) ?_
        refine go_blx (fun x10 => ?_)
        refine go1 (M := mX12_dish) (pc' := 48) (r_aload_n (M := mX12_dish) (i := 0) rfl dX12_dish_47) ?_
        refine go1 (M := mX12_dish) (pc' := 51) (r_getR (M := mX12_dish) fl_12_26 h0 rfl (wt_some hW h0 (by decide) (by decide) rfl) dX12_dish_48) ?_
        have hT11 : TY S (pr S a0 6) 14 := wt hW h0 (by decide) (by decide) rfl (by decide)
        refine go1 (M := mX12_dish) (pc' := 52) (r_iload_n (M := mX12_dish) (i := 1) rfl dX12_dish_51) ?_
        refine go1 (M := mX12_dish) (pc' := 53) (r_iload_n (M := mX12_dish) (i := 3) rfl dX12_dish_52) ?_
        refine go_ck (fun hi12 => ?_)
        refine go1 (M := mX12_dish) (pc' := 54) (r_iast (M := mX12_dish) hT11 hi12 dX12_dish_53) ?_
        refine go_blx (fun x13 => ?_)
        refine go1 (M := mX12_dish) (pc' := 56) (r_iload (M := mX12_dish) (i := 4) rfl dX12_dish_54) ?_
        exact go_iret (M := mX12_dish) rfl rfl dX12_dish_56
def f_X12_price (N : Nat) (S : SH) (a0 : Nat) (a1 : Int32) (a2 : Int32) (x : DY) : Option (Int32 × DY) :=
  Option.bind (f_X12_in N S a0 a1 0 4 x) (fun r1 => (if r1 = 0 then some ((-2), x) else Option.bind (f_X12_in N S a0 a2 0 999 x) (fun r3 => (if r3 = 0 then some ((-2), x) else ck S (pr S a0 7) a1 (ck S (pr S a0 7) a1 (bl (U1 x (pr S a0 7) a1.toNatClampNeg a2) (fun x8 => some ((x.1 (pr S a0 7) a1.toNatClampNeg), x8))))))))
set_option maxHeartbeats 1000000 in
theorem t_X12_price {N d : Nat} {S : SH} (hW : WT S) {x : DY} {a0 : Nat} {a1 : Int32} {a2 : Int32} (hd : 2 ≤ d) (h0 : TY S a0 12) : CT mX12_price d S [.ref a0, .int a1, .int a2] x wSI (f_X12_price N S a0 a1 a2 x) := by
  refine CT.of [some (.ref a0), some (.int a1), some (.int a2), none] rfl (Nat.le_of_ble_eq_true rfl) (by decide +kernel) ?_
  unfold f_X12_price
  refine go1 (M := mX12_price) (pc' := 1) (r_aload_n (M := mX12_price) (i := 0) rfl dX12_price_0) ?_
  refine go1 (M := mX12_price) (pc' := 2) (r_iload_n (M := mX12_price) (i := 1) rfl dX12_price_1) ?_
  refine go1 (M := mX12_price) (pc' := 3) (r_iconst (M := mX12_price) (v := 0) (by decide) dX12_price_2) ?_
  refine go1 (M := mX12_price) (pc' := 4) (r_iconst (M := mX12_price) (v := 4) (by decide) dX12_price_3) ?_
  refine go_V_PI (M := mX12_price) (pc' := 7) (st := []) (As := [.int a1, .int 0, .int 4]) rfl ln_12_217 lb_X12_in (t_X12_in (N := N) hW (by omega) h0) (by omega) h0 (Nat.le_of_ble_eq_true rfl) rfl dX12_price_4 (fun r1 => ?_)
  refine go_br (M := mX12_price) (pt := 22) (pf := 10) (fun kt kf => r_if_eq (M := mX12_price) dX12_price_7 (by decide) kt kf) (fun hc2 => ?_) (fun hc2 => ?_)
  · refine go1 (M := mX12_price) (pc' := 24) (r_bipush (M := mX12_price) (v := (-2)) (by decide) dX12_price_22) ?_
    exact go_iret (M := mX12_price) rfl rfl dX12_price_24
  · refine go1 (M := mX12_price) (pc' := 11) (r_aload_n (M := mX12_price) (i := 0) rfl dX12_price_10) ?_
    refine go1 (M := mX12_price) (pc' := 12) (r_iload_n (M := mX12_price) (i := 2) rfl dX12_price_11) ?_
    refine go1 (M := mX12_price) (pc' := 13) (r_iconst (M := mX12_price) (v := 0) (by decide) dX12_price_12) ?_
    refine go1 (M := mX12_price) (pc' := 16) (r_sipush (M := mX12_price) (v := 999) (by decide) dX12_price_13) ?_
    refine go_V_PI (M := mX12_price) (pc' := 19) (st := []) (As := [.int a2, .int 0, .int 999]) rfl ln_12_217 lb_X12_in (t_X12_in (N := N) hW (by omega) h0) (by omega) h0 (Nat.le_of_ble_eq_true rfl) rfl dX12_price_16 (fun r3 => ?_)
    refine go_br (M := mX12_price) (pt := 22) (pf := 25) (fun kt kf => r_if_ne (M := mX12_price) dX12_price_19 (by decide) kf kt) (fun hc4 => ?_) (fun hc4 => ?_)
    · refine go1 (M := mX12_price) (pc' := 24) (r_bipush (M := mX12_price) (v := (-2)) (by decide) dX12_price_22) ?_
      exact go_iret (M := mX12_price) rfl rfl dX12_price_24
    · refine go1 (M := mX12_price) (pc' := 26) (r_aload_n (M := mX12_price) (i := 0) rfl dX12_price_25) ?_
      refine go1 (M := mX12_price) (pc' := 29) (r_getR (M := mX12_price) fl_12_29 h0 rfl (wt_some hW h0 (by decide) (by decide) rfl) dX12_price_26) ?_
      have hT5 : TY S (pr S a0 7) 14 := wt hW h0 (by decide) (by decide) rfl (by decide)
      refine go1 (M := mX12_price) (pc' := 30) (r_iload_n (M := mX12_price) (i := 1) rfl dX12_price_29) ?_
      refine go_ck (fun hi6 => ?_)
      refine go1 (M := mX12_price) (pc' := 31) (r_iald (M := mX12_price) hT5 hi6 dX12_price_30) ?_
      refine go1 (M := mX12_price) (pc' := 32) (ls' := [some (.ref a0), some (.int a1), some (.int a2), some (.int (x.1 (pr S a0 7) a1.toNatClampNeg))]) (r_istore_n (M := mX12_price) (ls := [some (.ref a0), some (.int a1), some (.int a2), none]) (i := 3) (v := (x.1 (pr S a0 7) a1.toNatClampNeg)) (by decide) rfl dX12_price_31) ?_
      refine go1 (M := mX12_price) (pc' := 33) (r_aload_n (M := mX12_price) (i := 0) rfl dX12_price_32) ?_
      refine go1 (M := mX12_price) (pc' := 36) (r_getR (M := mX12_price) fl_12_29 h0 rfl (wt_some hW h0 (by decide) (by decide) rfl) dX12_price_33) ?_
      refine go1 (M := mX12_price) (pc' := 37) (r_iload_n (M := mX12_price) (i := 1) rfl dX12_price_36) ?_
      refine go1 (M := mX12_price) (pc' := 38) (r_iload_n (M := mX12_price) (i := 2) rfl dX12_price_37) ?_
      refine go_ck (fun hi7 => ?_)
      refine go1 (M := mX12_price) (pc' := 39) (r_iast (M := mX12_price) hT5 hi7 dX12_price_38) ?_
      refine go_blx (fun x8 => ?_)
      refine go1 (M := mX12_price) (pc' := 40) (r_iload_n (M := mX12_price) (i := 3) rfl dX12_price_39) ?_
      exact go_iret (M := mX12_price) rfl rfl dX12_price_40
def f_X12_makes (N : Nat) (S : SH) (a0 : Nat) (a1 : Int32) (a2 : Int32) (a3 : Int32) (x : DY) : Option (Int32 × DY) :=
  ck S (pr S a0 8) (x.1 a0 1) (bl (U1 x (pr S a0 8) (x.1 a0 1).toNatClampNeg a1) (fun x3 => ck S (pr S a0 5) a1 (ck S (pr S a0 9) (x3.1 a0 1) (bl (U1 x3 (pr S a0 9) (x3.1 a0 1).toNatClampNeg (x3.1 (pr S a0 5) a1.toNatClampNeg)) (fun x8 => ck S (pr S a0 10) (x8.1 a0 1) (bl (U1 x8 (pr S a0 10) (x8.1 a0 1).toNatClampNeg 0) (fun x11 => ck S (pr S a0 11) (x11.1 a0 1) (bl (U1 x11 (pr S a0 11) (x11.1 a0 1).toNatClampNeg a2) (fun x14 => ck S (pr S a0 12) (x14.1 a0 1) (bl (U1 x14 (pr S a0 12) (x14.1 a0 1).toNatClampNeg a3) (fun x17 => bl (U1 x17 a0 1 ((x17.1 a0 1) + 1)) (fun x18 => some (((x18.1 a0 1) - 1), x18)))))))))))))
set_option maxHeartbeats 1000000 in
theorem t_X12_makes {N d : Nat} {S : SH} (hW : WT S) {x : DY} {a0 : Nat} {a1 : Int32} {a2 : Int32} {a3 : Int32} (hd : 1 ≤ d) (h0 : TY S a0 12) : CT mX12_makes d S [.ref a0, .int a1, .int a2, .int a3] x wSI (f_X12_makes N S a0 a1 a2 a3 x) := by
  refine CT.of [some (.ref a0), some (.int a1), some (.int a2), some (.int a3)] rfl (Nat.le_of_ble_eq_true rfl) (by decide +kernel) ?_
  unfold f_X12_makes
  refine go1 (M := mX12_makes) (pc' := 1) (r_aload_n (M := mX12_makes) (i := 0) rfl dX12_makes_0) ?_
  refine go1 (M := mX12_makes) (pc' := 4) (r_getR (M := mX12_makes) fl_12_32 h0 rfl (wt_some hW h0 (by decide) (by decide) rfl) dX12_makes_1) ?_
  have hT1 : TY S (pr S a0 8) 14 := wt hW h0 (by decide) (by decide) rfl (by decide)
  refine go1 (M := mX12_makes) (pc' := 5) (r_aload_n (M := mX12_makes) (i := 0) rfl dX12_makes_4) ?_
  refine go1 (M := mX12_makes) (pc' := 8) (r_getI (M := mX12_makes) fl_12_7 h0 rfl dX12_makes_5) ?_
  refine go1 (M := mX12_makes) (pc' := 9) (r_iload_n (M := mX12_makes) (i := 1) rfl dX12_makes_8) ?_
  refine go_ck (fun hi2 => ?_)
  refine go1 (M := mX12_makes) (pc' := 10) (r_iast (M := mX12_makes) hT1 hi2 dX12_makes_9) ?_
  refine go_blx (fun x3 => ?_)
  refine go1 (M := mX12_makes) (pc' := 11) (r_aload_n (M := mX12_makes) (i := 0) rfl dX12_makes_10) ?_
  refine go1 (M := mX12_makes) (pc' := 14) (r_getR (M := mX12_makes) fl_12_35 h0 rfl (wt_some hW h0 (by decide) (by decide) rfl) dX12_makes_11) ?_
  have hT4 : TY S (pr S a0 9) 14 := wt hW h0 (by decide) (by decide) rfl (by decide)
  refine go1 (M := mX12_makes) (pc' := 15) (r_aload_n (M := mX12_makes) (i := 0) rfl dX12_makes_14) ?_
  refine go1 (M := mX12_makes) (pc' := 18) (r_getI (M := mX12_makes) fl_12_7 h0 rfl dX12_makes_15) ?_
  refine go1 (M := mX12_makes) (pc' := 19) (r_aload_n (M := mX12_makes) (i := 0) rfl dX12_makes_18) ?_
  refine go1 (M := mX12_makes) (pc' := 22) (r_getR (M := mX12_makes) fl_12_22 h0 rfl (wt_some hW h0 (by decide) (by decide) rfl) dX12_makes_19) ?_
  have hT5 : TY S (pr S a0 5) 14 := wt hW h0 (by decide) (by decide) rfl (by decide)
  refine go1 (M := mX12_makes) (pc' := 23) (r_iload_n (M := mX12_makes) (i := 1) rfl dX12_makes_22) ?_
  refine go_ck (fun hi6 => ?_)
  refine go1 (M := mX12_makes) (pc' := 24) (r_iald (M := mX12_makes) hT5 hi6 dX12_makes_23) ?_
  refine go_ck (fun hi7 => ?_)
  refine go1 (M := mX12_makes) (pc' := 25) (r_iast (M := mX12_makes) hT4 hi7 dX12_makes_24) ?_
  refine go_blx (fun x8 => ?_)
  refine go1 (M := mX12_makes) (pc' := 26) (r_aload_n (M := mX12_makes) (i := 0) rfl dX12_makes_25) ?_
  refine go1 (M := mX12_makes) (pc' := 29) (r_getR (M := mX12_makes) fl_12_38 h0 rfl (wt_some hW h0 (by decide) (by decide) rfl) dX12_makes_26) ?_
  have hT9 : TY S (pr S a0 10) 14 := wt hW h0 (by decide) (by decide) rfl (by decide)
  refine go1 (M := mX12_makes) (pc' := 30) (r_aload_n (M := mX12_makes) (i := 0) rfl dX12_makes_29) ?_
  refine go1 (M := mX12_makes) (pc' := 33) (r_getI (M := mX12_makes) fl_12_7 h0 rfl dX12_makes_30) ?_
  refine go1 (M := mX12_makes) (pc' := 34) (r_iconst (M := mX12_makes) (v := 0) (by decide) dX12_makes_33) ?_
  refine go_ck (fun hi10 => ?_)
  refine go1 (M := mX12_makes) (pc' := 35) (r_iast (M := mX12_makes) hT9 hi10 dX12_makes_34) ?_
  refine go_blx (fun x11 => ?_)
  refine go1 (M := mX12_makes) (pc' := 36) (r_aload_n (M := mX12_makes) (i := 0) rfl dX12_makes_35) ?_
  refine go1 (M := mX12_makes) (pc' := 39) (r_getR (M := mX12_makes) fl_12_41 h0 rfl (wt_some hW h0 (by decide) (by decide) rfl) dX12_makes_36) ?_
  have hT12 : TY S (pr S a0 11) 14 := wt hW h0 (by decide) (by decide) rfl (by decide)
  refine go1 (M := mX12_makes) (pc' := 40) (r_aload_n (M := mX12_makes) (i := 0) rfl dX12_makes_39) ?_
  refine go1 (M := mX12_makes) (pc' := 43) (r_getI (M := mX12_makes) fl_12_7 h0 rfl dX12_makes_40) ?_
  refine go1 (M := mX12_makes) (pc' := 44) (r_iload_n (M := mX12_makes) (i := 2) rfl dX12_makes_43) ?_
  refine go_ck (fun hi13 => ?_)
  refine go1 (M := mX12_makes) (pc' := 45) (r_iast (M := mX12_makes) hT12 hi13 dX12_makes_44) ?_
  refine go_blx (fun x14 => ?_)
  refine go1 (M := mX12_makes) (pc' := 46) (r_aload_n (M := mX12_makes) (i := 0) rfl dX12_makes_45) ?_
  refine go1 (M := mX12_makes) (pc' := 49) (r_getR (M := mX12_makes) fl_12_44 h0 rfl (wt_some hW h0 (by decide) (by decide) rfl) dX12_makes_46) ?_
  have hT15 : TY S (pr S a0 12) 14 := wt hW h0 (by decide) (by decide) rfl (by decide)
  refine go1 (M := mX12_makes) (pc' := 50) (r_aload_n (M := mX12_makes) (i := 0) rfl dX12_makes_49) ?_
  refine go1 (M := mX12_makes) (pc' := 53) (r_getI (M := mX12_makes) fl_12_7 h0 rfl dX12_makes_50) ?_
  refine go1 (M := mX12_makes) (pc' := 54) (r_iload_n (M := mX12_makes) (i := 3) rfl dX12_makes_53) ?_
  refine go_ck (fun hi16 => ?_)
  refine go1 (M := mX12_makes) (pc' := 55) (r_iast (M := mX12_makes) hT15 hi16 dX12_makes_54) ?_
  refine go_blx (fun x17 => ?_)
  refine go1 (M := mX12_makes) (pc' := 56) (r_aload_n (M := mX12_makes) (i := 0) rfl dX12_makes_55) ?_
  refine go1 (M := mX12_makes) (pc' := 57) (r_dup (M := mX12_makes) rfl dX12_makes_56) ?_
  refine go1 (M := mX12_makes) (pc' := 60) (r_getI (M := mX12_makes) fl_12_7 h0 rfl dX12_makes_57) ?_
  refine go1 (M := mX12_makes) (pc' := 61) (r_iconst (M := mX12_makes) (v := 1) (by decide) dX12_makes_60) ?_
  refine go1 (M := mX12_makes) (pc' := 62) (r_iadd (M := mX12_makes) dX12_makes_61) ?_
  refine go1 (M := mX12_makes) (pc' := 65) (r_putI (M := mX12_makes) fl_12_7 h0 rfl rfl dX12_makes_62) ?_
  refine go_blx (fun x18 => ?_)
  refine go1 (M := mX12_makes) (pc' := 66) (r_aload_n (M := mX12_makes) (i := 0) rfl dX12_makes_65) ?_
  refine go1 (M := mX12_makes) (pc' := 69) (r_getI (M := mX12_makes) fl_12_7 h0 rfl dX12_makes_66) ?_
  refine go1 (M := mX12_makes) (pc' := 70) (r_iconst (M := mX12_makes) (v := 1) (by decide) dX12_makes_69) ?_
  refine go1 (M := mX12_makes) (pc' := 71) (r_isub (M := mX12_makes) dX12_makes_70) ?_
  exact go_iret (M := mX12_makes) rfl rfl dX12_makes_71
def f_X12_lay (N : Nat) (S : SH) (a0 : Nat) (a1 : Int32) (x : DY) : Option (Int32 × DY) :=
  Option.bind (f_X12_isDish N S a0 a1 x) (fun r1 => (if r1 = 0 then some ((-2), x) else ck S (pr S a0 13) 0 ((if (x.1 (pr S a0 13) (0 : Int32).toNatClampNeg) < 0 then (if (x.1 a0 1) = 300 then some ((-4), x) else Option.bind (f_X12_makes N S a0 a1 0 0 x) (fun r7 => ck S (pr S a0 13) 0 (bl (U1 r7.2 (pr S a0 13) (0 : Int32).toNatClampNeg r7.1) (fun x9 => some (((x9.1 a0 1) - 1), x9))))) else some ((-3), x)))))
set_option maxHeartbeats 1000000 in
theorem t_X12_lay {N d : Nat} {S : SH} (hW : WT S) {x : DY} {a0 : Nat} {a1 : Int32} (hd : 3 ≤ d) (h0 : TY S a0 12) : CT mX12_lay d S [.ref a0, .int a1] x wSI (f_X12_lay N S a0 a1 x) := by
  refine CT.of [some (.ref a0), some (.int a1)] rfl (Nat.le_of_ble_eq_true rfl) (by decide +kernel) ?_
  unfold f_X12_lay
  refine go1 (M := mX12_lay) (pc' := 1) (r_aload_n (M := mX12_lay) (i := 0) rfl dX12_lay_0) ?_
  refine go1 (M := mX12_lay) (pc' := 2) (r_iload_n (M := mX12_lay) (i := 1) rfl dX12_lay_1) ?_
  refine go_V_PI (M := mX12_lay) (pc' := 5) (st := []) (As := [.int a1]) rfl ln_12_221 lb_X12_isDish (t_X12_isDish (N := N) hW (by omega) h0) (by omega) h0 (Nat.le_of_ble_eq_true rfl) rfl dX12_lay_2 (fun r1 => ?_)
  refine go_br (M := mX12_lay) (pt := 8) (pf := 11) (fun kt kf => r_if_ne (M := mX12_lay) dX12_lay_5 (by decide) kf kt) (fun hc2 => ?_) (fun hc2 => ?_)
  · refine go1 (M := mX12_lay) (pc' := 10) (r_bipush (M := mX12_lay) (v := (-2)) (by decide) dX12_lay_8) ?_
    exact go_iret (M := mX12_lay) rfl rfl dX12_lay_10
  · refine go1 (M := mX12_lay) (pc' := 12) (r_aload_n (M := mX12_lay) (i := 0) rfl dX12_lay_11) ?_
    refine go1 (M := mX12_lay) (pc' := 15) (r_getR (M := mX12_lay) fl_12_47 h0 rfl (wt_some hW h0 (by decide) (by decide) rfl) dX12_lay_12) ?_
    have hT3 : TY S (pr S a0 13) 14 := wt hW h0 (by decide) (by decide) rfl (by decide)
    refine go1 (M := mX12_lay) (pc' := 16) (r_iconst (M := mX12_lay) (v := 0) (by decide) dX12_lay_15) ?_
    refine go_ck (fun hi4 => ?_)
    refine go1 (M := mX12_lay) (pc' := 17) (r_iald (M := mX12_lay) hT3 hi4 dX12_lay_16) ?_
    refine go_br (M := mX12_lay) (pt := 23) (pf := 20) (fun kt kf => r_if_lt (M := mX12_lay) dX12_lay_17 (by decide) kt kf) (fun hc5 => ?_) (fun hc5 => ?_)
    · refine go1 (M := mX12_lay) (pc' := 24) (r_aload_n (M := mX12_lay) (i := 0) rfl dX12_lay_23) ?_
      refine go1 (M := mX12_lay) (pc' := 27) (r_getI (M := mX12_lay) fl_12_7 h0 rfl dX12_lay_24) ?_
      refine go1 (M := mX12_lay) (pc' := 30) (r_sipush (M := mX12_lay) (v := 300) (by decide) dX12_lay_27) ?_
      refine go_br (M := mX12_lay) (pt := 33) (pf := 36) (fun kt kf => r_icmp_ne (M := mX12_lay) dX12_lay_30 (by decide) kf kt) (fun hc6 => ?_) (fun hc6 => ?_)
      · refine go1 (M := mX12_lay) (pc' := 35) (r_bipush (M := mX12_lay) (v := (-4)) (by decide) dX12_lay_33) ?_
        exact go_iret (M := mX12_lay) rfl rfl dX12_lay_35
      · refine go1 (M := mX12_lay) (pc' := 37) (r_aload_n (M := mX12_lay) (i := 0) rfl dX12_lay_36) ?_
        refine go1 (M := mX12_lay) (pc' := 40) (r_getR (M := mX12_lay) fl_12_47 h0 rfl (wt_some hW h0 (by decide) (by decide) rfl) dX12_lay_37) ?_
        refine go1 (M := mX12_lay) (pc' := 41) (r_iconst (M := mX12_lay) (v := 0) (by decide) dX12_lay_40) ?_
        refine go1 (M := mX12_lay) (pc' := 42) (r_aload_n (M := mX12_lay) (i := 0) rfl dX12_lay_41) ?_
        refine go1 (M := mX12_lay) (pc' := 43) (r_iload_n (M := mX12_lay) (i := 1) rfl dX12_lay_42) ?_
        refine go1 (M := mX12_lay) (pc' := 44) (r_iconst (M := mX12_lay) (v := 0) (by decide) dX12_lay_43) ?_
        refine go1 (M := mX12_lay) (pc' := 45) (r_iconst (M := mX12_lay) (v := 0) (by decide) dX12_lay_44) ?_
        refine go_V_SI (M := mX12_lay) (pc' := 48) (st := [.int 0, .ref (pr S a0 13)]) (As := [.int a1, .int 0, .int 0]) rfl ln_12_225 lb_X12_makes (t_X12_makes (N := N) hW (by omega) h0) (by omega) h0 (Nat.le_of_ble_eq_true rfl) rfl dX12_lay_45 (fun r7 => ?_)
        refine go_ck (fun hi8 => ?_)
        refine go1 (M := mX12_lay) (pc' := 49) (r_iast (M := mX12_lay) hT3 hi8 dX12_lay_48) ?_
        refine go_blx (fun x9 => ?_)
        refine go1 (M := mX12_lay) (pc' := 50) (r_aload_n (M := mX12_lay) (i := 0) rfl dX12_lay_49) ?_
        refine go1 (M := mX12_lay) (pc' := 53) (r_getI (M := mX12_lay) fl_12_7 h0 rfl dX12_lay_50) ?_
        refine go1 (M := mX12_lay) (pc' := 54) (r_iconst (M := mX12_lay) (v := 1) (by decide) dX12_lay_53) ?_
        refine go1 (M := mX12_lay) (pc' := 55) (r_isub (M := mX12_lay) dX12_lay_54) ?_
        exact go_iret (M := mX12_lay) rfl rfl dX12_lay_55
    · refine go1 (M := mX12_lay) (pc' := 22) (r_bipush (M := mX12_lay) (v := (-3)) (by decide) dX12_lay_20) ?_
      exact go_iret (M := mX12_lay) rfl rfl dX12_lay_22
def f_X12_plate (N : Nat) (S : SH) (a0 : Nat) (a1 : Int32) (a2 : Int32) (x : DY) : Option Int32 :=
  Option.bind (f_X12_isPlate N S a0 a1 x) (fun r1 => (if r1 = 0 then some (-2) else Option.bind (f_X12_in N S a0 a2 0 4 x) (fun r3 => (if r3 = 0 then some (-2) else (if a2 = 0 then ck S (pr S a0 8) a1 (some (x.1 (pr S a0 8) a1.toNatClampNeg)) else (if a2 = 1 then ck S (pr S a0 9) a1 (some (x.1 (pr S a0 9) a1.toNatClampNeg)) else (if a2 = 2 then ck S (pr S a0 10) a1 (some (x.1 (pr S a0 10) a1.toNatClampNeg)) else (if a2 = 3 then ck S (pr S a0 11) a1 (some (x.1 (pr S a0 11) a1.toNatClampNeg)) else ck S (pr S a0 12) a1 (some (x.1 (pr S a0 12) a1.toNatClampNeg))))))))))
set_option maxHeartbeats 1000000 in
theorem t_X12_plate {N d : Nat} {S : SH} (hW : WT S) {x : DY} {a0 : Nat} {a1 : Int32} {a2 : Int32} (hd : 3 ≤ d) (h0 : TY S a0 12) : CT mX12_plate d S [.ref a0, .int a1, .int a2] x (wPI x) (f_X12_plate N S a0 a1 a2 x) := by
  refine CT.of [some (.ref a0), some (.int a1), some (.int a2)] rfl (Nat.le_of_ble_eq_true rfl) (by decide +kernel) ?_
  unfold f_X12_plate
  refine go1 (M := mX12_plate) (pc' := 1) (r_aload_n (M := mX12_plate) (i := 0) rfl dX12_plate_0) ?_
  refine go1 (M := mX12_plate) (pc' := 2) (r_iload_n (M := mX12_plate) (i := 1) rfl dX12_plate_1) ?_
  refine go_V_PI (M := mX12_plate) (pc' := 5) (st := []) (As := [.int a1]) rfl ln_12_229 lb_X12_isPlate (t_X12_isPlate (N := N) hW (by omega) h0) (by omega) h0 (Nat.le_of_ble_eq_true rfl) rfl dX12_plate_2 (fun r1 => ?_)
  refine go_br (M := mX12_plate) (pt := 18) (pf := 8) (fun kt kf => r_if_eq (M := mX12_plate) dX12_plate_5 (by decide) kt kf) (fun hc2 => ?_) (fun hc2 => ?_)
  · refine go1 (M := mX12_plate) (pc' := 20) (r_bipush (M := mX12_plate) (v := (-2)) (by decide) dX12_plate_18) ?_
    exact go_iret (M := mX12_plate) rfl rfl dX12_plate_20
  · refine go1 (M := mX12_plate) (pc' := 9) (r_aload_n (M := mX12_plate) (i := 0) rfl dX12_plate_8) ?_
    refine go1 (M := mX12_plate) (pc' := 10) (r_iload_n (M := mX12_plate) (i := 2) rfl dX12_plate_9) ?_
    refine go1 (M := mX12_plate) (pc' := 11) (r_iconst (M := mX12_plate) (v := 0) (by decide) dX12_plate_10) ?_
    refine go1 (M := mX12_plate) (pc' := 12) (r_iconst (M := mX12_plate) (v := 4) (by decide) dX12_plate_11) ?_
    refine go_V_PI (M := mX12_plate) (pc' := 15) (st := []) (As := [.int a2, .int 0, .int 4]) rfl ln_12_217 lb_X12_in (t_X12_in (N := N) hW (by omega) h0) (by omega) h0 (Nat.le_of_ble_eq_true rfl) rfl dX12_plate_12 (fun r3 => ?_)
    refine go_br (M := mX12_plate) (pt := 18) (pf := 21) (fun kt kf => r_if_ne (M := mX12_plate) dX12_plate_15 (by decide) kf kt) (fun hc4 => ?_) (fun hc4 => ?_)
    · refine go1 (M := mX12_plate) (pc' := 20) (r_bipush (M := mX12_plate) (v := (-2)) (by decide) dX12_plate_18) ?_
      exact go_iret (M := mX12_plate) rfl rfl dX12_plate_20
    · refine go1 (M := mX12_plate) (pc' := 22) (r_iload_n (M := mX12_plate) (i := 2) rfl dX12_plate_21) ?_
      refine go_br (M := mX12_plate) (pt := 25) (pf := 34) (fun kt kf => r_if_ne (M := mX12_plate) dX12_plate_22 (by decide) kf kt) (fun hc5 => ?_) (fun hc5 => ?_)
      · refine go1 (M := mX12_plate) (pc' := 26) (r_aload_n (M := mX12_plate) (i := 0) rfl dX12_plate_25) ?_
        refine go1 (M := mX12_plate) (pc' := 29) (r_getR (M := mX12_plate) fl_12_32 h0 rfl (wt_some hW h0 (by decide) (by decide) rfl) dX12_plate_26) ?_
        have hT17 : TY S (pr S a0 8) 14 := wt hW h0 (by decide) (by decide) rfl (by decide)
        refine go1 (M := mX12_plate) (pc' := 30) (r_iload_n (M := mX12_plate) (i := 1) rfl dX12_plate_29) ?_
        refine go_ck (fun hi18 => ?_)
        refine go1 (M := mX12_plate) (pc' := 31) (r_iald (M := mX12_plate) hT17 hi18 dX12_plate_30) ?_
        refine go1 (M := mX12_plate) (pc' := 82) (r_goto (M := mX12_plate) dX12_plate_31 (by decide)) ?_
        exact go_iret (M := mX12_plate) rfl rfl dX12_plate_82
      · refine go1 (M := mX12_plate) (pc' := 35) (r_iload_n (M := mX12_plate) (i := 2) rfl dX12_plate_34) ?_
        refine go1 (M := mX12_plate) (pc' := 36) (r_iconst (M := mX12_plate) (v := 1) (by decide) dX12_plate_35) ?_
        refine go_br (M := mX12_plate) (pt := 39) (pf := 48) (fun kt kf => r_icmp_ne (M := mX12_plate) dX12_plate_36 (by decide) kf kt) (fun hc6 => ?_) (fun hc6 => ?_)
        · refine go1 (M := mX12_plate) (pc' := 40) (r_aload_n (M := mX12_plate) (i := 0) rfl dX12_plate_39) ?_
          refine go1 (M := mX12_plate) (pc' := 43) (r_getR (M := mX12_plate) fl_12_35 h0 rfl (wt_some hW h0 (by decide) (by decide) rfl) dX12_plate_40) ?_
          have hT15 : TY S (pr S a0 9) 14 := wt hW h0 (by decide) (by decide) rfl (by decide)
          refine go1 (M := mX12_plate) (pc' := 44) (r_iload_n (M := mX12_plate) (i := 1) rfl dX12_plate_43) ?_
          refine go_ck (fun hi16 => ?_)
          refine go1 (M := mX12_plate) (pc' := 45) (r_iald (M := mX12_plate) hT15 hi16 dX12_plate_44) ?_
          refine go1 (M := mX12_plate) (pc' := 82) (r_goto (M := mX12_plate) dX12_plate_45 (by decide)) ?_
          exact go_iret (M := mX12_plate) rfl rfl dX12_plate_82
        · refine go1 (M := mX12_plate) (pc' := 49) (r_iload_n (M := mX12_plate) (i := 2) rfl dX12_plate_48) ?_
          refine go1 (M := mX12_plate) (pc' := 50) (r_iconst (M := mX12_plate) (v := 2) (by decide) dX12_plate_49) ?_
          refine go_br (M := mX12_plate) (pt := 53) (pf := 62) (fun kt kf => r_icmp_ne (M := mX12_plate) dX12_plate_50 (by decide) kf kt) (fun hc7 => ?_) (fun hc7 => ?_)
          · refine go1 (M := mX12_plate) (pc' := 54) (r_aload_n (M := mX12_plate) (i := 0) rfl dX12_plate_53) ?_
            refine go1 (M := mX12_plate) (pc' := 57) (r_getR (M := mX12_plate) fl_12_38 h0 rfl (wt_some hW h0 (by decide) (by decide) rfl) dX12_plate_54) ?_
            have hT13 : TY S (pr S a0 10) 14 := wt hW h0 (by decide) (by decide) rfl (by decide)
            refine go1 (M := mX12_plate) (pc' := 58) (r_iload_n (M := mX12_plate) (i := 1) rfl dX12_plate_57) ?_
            refine go_ck (fun hi14 => ?_)
            refine go1 (M := mX12_plate) (pc' := 59) (r_iald (M := mX12_plate) hT13 hi14 dX12_plate_58) ?_
            refine go1 (M := mX12_plate) (pc' := 82) (r_goto (M := mX12_plate) dX12_plate_59 (by decide)) ?_
            exact go_iret (M := mX12_plate) rfl rfl dX12_plate_82
          · refine go1 (M := mX12_plate) (pc' := 63) (r_iload_n (M := mX12_plate) (i := 2) rfl dX12_plate_62) ?_
            refine go1 (M := mX12_plate) (pc' := 64) (r_iconst (M := mX12_plate) (v := 3) (by decide) dX12_plate_63) ?_
            refine go_br (M := mX12_plate) (pt := 67) (pf := 76) (fun kt kf => r_icmp_ne (M := mX12_plate) dX12_plate_64 (by decide) kf kt) (fun hc8 => ?_) (fun hc8 => ?_)
            · refine go1 (M := mX12_plate) (pc' := 68) (r_aload_n (M := mX12_plate) (i := 0) rfl dX12_plate_67) ?_
              refine go1 (M := mX12_plate) (pc' := 71) (r_getR (M := mX12_plate) fl_12_41 h0 rfl (wt_some hW h0 (by decide) (by decide) rfl) dX12_plate_68) ?_
              have hT11 : TY S (pr S a0 11) 14 := wt hW h0 (by decide) (by decide) rfl (by decide)
              refine go1 (M := mX12_plate) (pc' := 72) (r_iload_n (M := mX12_plate) (i := 1) rfl dX12_plate_71) ?_
              refine go_ck (fun hi12 => ?_)
              refine go1 (M := mX12_plate) (pc' := 73) (r_iald (M := mX12_plate) hT11 hi12 dX12_plate_72) ?_
              refine go1 (M := mX12_plate) (pc' := 82) (r_goto (M := mX12_plate) dX12_plate_73 (by decide)) ?_
              exact go_iret (M := mX12_plate) rfl rfl dX12_plate_82
            · refine go1 (M := mX12_plate) (pc' := 77) (r_aload_n (M := mX12_plate) (i := 0) rfl dX12_plate_76) ?_
              refine go1 (M := mX12_plate) (pc' := 80) (r_getR (M := mX12_plate) fl_12_44 h0 rfl (wt_some hW h0 (by decide) (by decide) rfl) dX12_plate_77) ?_
              have hT9 : TY S (pr S a0 12) 14 := wt hW h0 (by decide) (by decide) rfl (by decide)
              refine go1 (M := mX12_plate) (pc' := 81) (r_iload_n (M := mX12_plate) (i := 1) rfl dX12_plate_80) ?_
              refine go_ck (fun hi10 => ?_)
              refine go1 (M := mX12_plate) (pc' := 82) (r_iald (M := mX12_plate) hT9 hi10 dX12_plate_81) ?_
              exact go_iret (M := mX12_plate) rfl rfl dX12_plate_82
def f_X12_at (N : Nat) (S : SH) (a0 : Nat) (a1 : Int32) (x : DY) : Option Int32 :=
  Option.bind (f_X12_isPlace N S a0 a1 x) (fun r1 => (if r1 = 0 then some (-2) else ck S (pr S a0 13) a1 (some (x.1 (pr S a0 13) a1.toNatClampNeg))))
set_option maxHeartbeats 1000000 in
theorem t_X12_at {N d : Nat} {S : SH} (hW : WT S) {x : DY} {a0 : Nat} {a1 : Int32} (hd : 3 ≤ d) (h0 : TY S a0 12) : CT mX12_at d S [.ref a0, .int a1] x (wPI x) (f_X12_at N S a0 a1 x) := by
  refine CT.of [some (.ref a0), some (.int a1)] rfl (Nat.le_of_ble_eq_true rfl) (by decide +kernel) ?_
  unfold f_X12_at
  refine go1 (M := mX12_at) (pc' := 1) (r_aload_n (M := mX12_at) (i := 0) rfl dX12_at_0) ?_
  refine go1 (M := mX12_at) (pc' := 2) (r_iload_n (M := mX12_at) (i := 1) rfl dX12_at_1) ?_
  refine go_V_PI (M := mX12_at) (pc' := 5) (st := []) (As := [.int a1]) rfl ln_12_232 lb_X12_isPlace (t_X12_isPlace (N := N) hW (by omega) h0) (by omega) h0 (Nat.le_of_ble_eq_true rfl) rfl dX12_at_2 (fun r1 => ?_)
  refine go_br (M := mX12_at) (pt := 17) (pf := 8) (fun kt kf => r_if_eq (M := mX12_at) dX12_at_5 (by decide) kt kf) (fun hc2 => ?_) (fun hc2 => ?_)
  · refine go1 (M := mX12_at) (pc' := 19) (r_bipush (M := mX12_at) (v := (-2)) (by decide) dX12_at_17) ?_
    exact go_iret (M := mX12_at) rfl rfl dX12_at_19
  · refine go1 (M := mX12_at) (pc' := 9) (r_aload_n (M := mX12_at) (i := 0) rfl dX12_at_8) ?_
    refine go1 (M := mX12_at) (pc' := 12) (r_getR (M := mX12_at) fl_12_47 h0 rfl (wt_some hW h0 (by decide) (by decide) rfl) dX12_at_9) ?_
    have hT3 : TY S (pr S a0 13) 14 := wt hW h0 (by decide) (by decide) rfl (by decide)
    refine go1 (M := mX12_at) (pc' := 13) (r_iload_n (M := mX12_at) (i := 1) rfl dX12_at_12) ?_
    refine go_ck (fun hi4 => ?_)
    refine go1 (M := mX12_at) (pc' := 14) (r_iald (M := mX12_at) hT3 hi4 dX12_at_13) ?_
    refine go1 (M := mX12_at) (pc' := 19) (r_goto (M := mX12_at) dX12_at_14 (by decide)) ?_
    exact go_iret (M := mX12_at) rfl rfl dX12_at_19
def f_X12_ends (N : Nat) (S : SH) (a0 : Nat) (a1 : Int32) (a2 : Int32) (x : DY) : Option DY :=
  ck S (pr S a0 11) a1 (bl (U1 x (pr S a0 11) a1.toNatClampNeg a2) (fun x3 => ck S (pr S a0 12) a1 (bl (U1 x3 (pr S a0 12) a1.toNatClampNeg (-1)) (fun x6 => some x6))))
set_option maxHeartbeats 1000000 in
theorem t_X12_ends {N d : Nat} {S : SH} (hW : WT S) {x : DY} {a0 : Nat} {a1 : Int32} {a2 : Int32} (hd : 1 ≤ d) (h0 : TY S a0 12) : CT mX12_ends d S [.ref a0, .int a1, .int a2] x wSV (f_X12_ends N S a0 a1 a2 x) := by
  refine CT.of [some (.ref a0), some (.int a1), some (.int a2)] rfl (Nat.le_of_ble_eq_true rfl) (by decide +kernel) ?_
  unfold f_X12_ends
  refine go1 (M := mX12_ends) (pc' := 1) (r_aload_n (M := mX12_ends) (i := 0) rfl dX12_ends_0) ?_
  refine go1 (M := mX12_ends) (pc' := 4) (r_getR (M := mX12_ends) fl_12_41 h0 rfl (wt_some hW h0 (by decide) (by decide) rfl) dX12_ends_1) ?_
  have hT1 : TY S (pr S a0 11) 14 := wt hW h0 (by decide) (by decide) rfl (by decide)
  refine go1 (M := mX12_ends) (pc' := 5) (r_iload_n (M := mX12_ends) (i := 1) rfl dX12_ends_4) ?_
  refine go1 (M := mX12_ends) (pc' := 6) (r_iload_n (M := mX12_ends) (i := 2) rfl dX12_ends_5) ?_
  refine go_ck (fun hi2 => ?_)
  refine go1 (M := mX12_ends) (pc' := 7) (r_iast (M := mX12_ends) hT1 hi2 dX12_ends_6) ?_
  refine go_blx (fun x3 => ?_)
  refine go1 (M := mX12_ends) (pc' := 8) (r_aload_n (M := mX12_ends) (i := 0) rfl dX12_ends_7) ?_
  refine go1 (M := mX12_ends) (pc' := 11) (r_getR (M := mX12_ends) fl_12_44 h0 rfl (wt_some hW h0 (by decide) (by decide) rfl) dX12_ends_8) ?_
  have hT4 : TY S (pr S a0 12) 14 := wt hW h0 (by decide) (by decide) rfl (by decide)
  refine go1 (M := mX12_ends) (pc' := 12) (r_iload_n (M := mX12_ends) (i := 1) rfl dX12_ends_11) ?_
  refine go1 (M := mX12_ends) (pc' := 13) (r_iconst (M := mX12_ends) (v := (-1)) (by decide) dX12_ends_12) ?_
  refine go_ck (fun hi5 => ?_)
  refine go1 (M := mX12_ends) (pc' := 14) (r_iast (M := mX12_ends) hT4 hi5 dX12_ends_13) ?_
  refine go_blx (fun x6 => ?_)
  exact go_vret (M := mX12_ends) rfl rfl dX12_ends_14
def f_X12_gone (N : Nat) (S : SH) (a0 : Nat) (a1 : Int32) (x : DY) : Option (Int32 × DY) :=
  Option.bind (f_X12_isPlace N S a0 a1 x) (fun r1 => (if r1 = 0 then some ((-2), x) else ck S (pr S a0 13) a1 ((if 0 ≤ (x.1 (pr S a0 13) a1.toNatClampNeg) then Option.bind (f_X12_ends N S a0 (x.1 (pr S a0 13) a1.toNatClampNeg) 5 x) (fun r6 => ck S (pr S a0 13) a1 (bl (U1 r6 (pr S a0 13) a1.toNatClampNeg (-1)) (fun x8 => some ((x.1 (pr S a0 13) a1.toNatClampNeg), x8)))) else some ((-3), x)))))
set_option maxHeartbeats 1000000 in
theorem t_X12_gone {N d : Nat} {S : SH} (hW : WT S) {x : DY} {a0 : Nat} {a1 : Int32} (hd : 3 ≤ d) (h0 : TY S a0 12) : CT mX12_gone d S [.ref a0, .int a1] x wSI (f_X12_gone N S a0 a1 x) := by
  refine CT.of [some (.ref a0), some (.int a1), none] rfl (Nat.le_of_ble_eq_true rfl) (by decide +kernel) ?_
  unfold f_X12_gone
  refine go1 (M := mX12_gone) (pc' := 1) (r_aload_n (M := mX12_gone) (i := 0) rfl dX12_gone_0) ?_
  refine go1 (M := mX12_gone) (pc' := 2) (r_iload_n (M := mX12_gone) (i := 1) rfl dX12_gone_1) ?_
  refine go_V_PI (M := mX12_gone) (pc' := 5) (st := []) (As := [.int a1]) rfl ln_12_232 lb_X12_isPlace (t_X12_isPlace (N := N) hW (by omega) h0) (by omega) h0 (Nat.le_of_ble_eq_true rfl) rfl dX12_gone_2 (fun r1 => ?_)
  refine go_br (M := mX12_gone) (pt := 8) (pf := 11) (fun kt kf => r_if_ne (M := mX12_gone) dX12_gone_5 (by decide) kf kt) (fun hc2 => ?_) (fun hc2 => ?_)
  · refine go1 (M := mX12_gone) (pc' := 10) (r_bipush (M := mX12_gone) (v := (-2)) (by decide) dX12_gone_8) ?_
    exact go_iret (M := mX12_gone) rfl rfl dX12_gone_10
  · refine go1 (M := mX12_gone) (pc' := 12) (r_aload_n (M := mX12_gone) (i := 0) rfl dX12_gone_11) ?_
    refine go1 (M := mX12_gone) (pc' := 15) (r_getR (M := mX12_gone) fl_12_47 h0 rfl (wt_some hW h0 (by decide) (by decide) rfl) dX12_gone_12) ?_
    have hT3 : TY S (pr S a0 13) 14 := wt hW h0 (by decide) (by decide) rfl (by decide)
    refine go1 (M := mX12_gone) (pc' := 16) (r_iload_n (M := mX12_gone) (i := 1) rfl dX12_gone_15) ?_
    refine go_ck (fun hi4 => ?_)
    refine go1 (M := mX12_gone) (pc' := 17) (r_iald (M := mX12_gone) hT3 hi4 dX12_gone_16) ?_
    refine go1 (M := mX12_gone) (pc' := 18) (ls' := [some (.ref a0), some (.int a1), some (.int (x.1 (pr S a0 13) a1.toNatClampNeg))]) (r_istore_n (M := mX12_gone) (ls := [some (.ref a0), some (.int a1), none]) (i := 2) (v := (x.1 (pr S a0 13) a1.toNatClampNeg)) (by decide) rfl dX12_gone_17) ?_
    refine go1 (M := mX12_gone) (pc' := 19) (r_iload_n (M := mX12_gone) (i := 2) rfl dX12_gone_18) ?_
    refine go_br (M := mX12_gone) (pt := 25) (pf := 22) (fun kt kf => r_if_ge (M := mX12_gone) dX12_gone_19 (by decide) kt kf) (fun hc5 => ?_) (fun hc5 => ?_)
    · refine go1 (M := mX12_gone) (pc' := 26) (r_aload_n (M := mX12_gone) (i := 0) rfl dX12_gone_25) ?_
      refine go1 (M := mX12_gone) (pc' := 27) (r_iload_n (M := mX12_gone) (i := 2) rfl dX12_gone_26) ?_
      refine go1 (M := mX12_gone) (pc' := 28) (r_iconst (M := mX12_gone) (v := 5) (by decide) dX12_gone_27) ?_
      refine go_V_SV (M := mX12_gone) (pc' := 31) (st := []) (As := [.int (x.1 (pr S a0 13) a1.toNatClampNeg), .int 5]) rfl ln_12_235 lb_X12_ends (t_X12_ends (N := N) hW (by omega) h0) (by omega) h0 (Nat.le_of_ble_eq_true rfl) rfl dX12_gone_28 (fun r6 => ?_)
      refine go1 (M := mX12_gone) (pc' := 32) (r_aload_n (M := mX12_gone) (i := 0) rfl dX12_gone_31) ?_
      refine go1 (M := mX12_gone) (pc' := 35) (r_getR (M := mX12_gone) fl_12_47 h0 rfl (wt_some hW h0 (by decide) (by decide) rfl) dX12_gone_32) ?_
      refine go1 (M := mX12_gone) (pc' := 36) (r_iload_n (M := mX12_gone) (i := 1) rfl dX12_gone_35) ?_
      refine go1 (M := mX12_gone) (pc' := 37) (r_iconst (M := mX12_gone) (v := (-1)) (by decide) dX12_gone_36) ?_
      refine go_ck (fun hi7 => ?_)
      refine go1 (M := mX12_gone) (pc' := 38) (r_iast (M := mX12_gone) hT3 hi7 dX12_gone_37) ?_
      refine go_blx (fun x8 => ?_)
      refine go1 (M := mX12_gone) (pc' := 39) (r_iload_n (M := mX12_gone) (i := 2) rfl dX12_gone_38) ?_
      exact go_iret (M := mX12_gone) rfl rfl dX12_gone_39
    · refine go1 (M := mX12_gone) (pc' := 24) (r_bipush (M := mX12_gone) (v := (-3)) (by decide) dX12_gone_22) ?_
      exact go_iret (M := mX12_gone) rfl rfl dX12_gone_24
def f_X12_isSeat (N : Nat) (S : SH) (a0 : Nat) (a1 : Int32) (x : DY) : Option Int32 :=
  Option.bind (f_X12_in N S a0 a1 0 ((x.1 a0 18) - 1) x) (fun r1 => bz r1 (some r1))
set_option maxHeartbeats 1000000 in
theorem t_X12_isSeat {N d : Nat} {S : SH} (hW : WT S) {x : DY} {a0 : Nat} {a1 : Int32} (hd : 2 ≤ d) (h0 : TY S a0 12) : CT mX12_isSeat d S [.ref a0, .int a1] x (wPI x) (f_X12_isSeat N S a0 a1 x) := by
  refine CT.of [some (.ref a0), some (.int a1)] rfl (Nat.le_of_ble_eq_true rfl) (by decide +kernel) ?_
  unfold f_X12_isSeat
  refine go1 (M := mX12_isSeat) (pc' := 1) (r_aload_n (M := mX12_isSeat) (i := 0) rfl dX12_isSeat_0) ?_
  refine go1 (M := mX12_isSeat) (pc' := 2) (r_iload_n (M := mX12_isSeat) (i := 1) rfl dX12_isSeat_1) ?_
  refine go1 (M := mX12_isSeat) (pc' := 3) (r_iconst (M := mX12_isSeat) (v := 0) (by decide) dX12_isSeat_2) ?_
  refine go1 (M := mX12_isSeat) (pc' := 4) (r_aload_n (M := mX12_isSeat) (i := 0) rfl dX12_isSeat_3) ?_
  refine go1 (M := mX12_isSeat) (pc' := 7) (r_getI (M := mX12_isSeat) fl_12_62 h0 rfl dX12_isSeat_4) ?_
  refine go1 (M := mX12_isSeat) (pc' := 8) (r_iconst (M := mX12_isSeat) (v := 1) (by decide) dX12_isSeat_7) ?_
  refine go1 (M := mX12_isSeat) (pc' := 9) (r_isub (M := mX12_isSeat) dX12_isSeat_8) ?_
  refine go_V_PI (M := mX12_isSeat) (pc' := 12) (st := []) (As := [.int a1, .int 0, .int ((x.1 a0 18) - 1)]) rfl ln_12_217 lb_X12_in (t_X12_in (N := N) hW (by omega) h0) (by omega) h0 (Nat.le_of_ble_eq_true rfl) rfl dX12_isSeat_9 (fun r1 => ?_)
  refine go_bz (fun hn2 => ?_)
  exact go_zret (M := mX12_isSeat) rfl hn2 rfl dX12_isSeat_12
def f_X12_isSat (N : Nat) (S : SH) (a0 : Nat) (a1 : Int32) (x : DY) : Option Int32 :=
  Option.bind (f_X12_isSeat N S a0 a1 x) (fun r1 => (if r1 = 0 then some 0 else ck S (pr S a0 26) a1 ((if (x.1 (pr S a0 26) a1.toNatClampNeg) = 0 then some 0 else some 1))))
set_option maxHeartbeats 1000000 in
theorem t_X12_isSat {N d : Nat} {S : SH} (hW : WT S) {x : DY} {a0 : Nat} {a1 : Int32} (hd : 3 ≤ d) (h0 : TY S a0 12) : CT mX12_isSat d S [.ref a0, .int a1] x (wPI x) (f_X12_isSat N S a0 a1 x) := by
  refine CT.of [some (.ref a0), some (.int a1)] rfl (Nat.le_of_ble_eq_true rfl) (by decide +kernel) ?_
  unfold f_X12_isSat
  refine go1 (M := mX12_isSat) (pc' := 1) (r_aload_n (M := mX12_isSat) (i := 0) rfl dX12_isSat_0) ?_
  refine go1 (M := mX12_isSat) (pc' := 2) (r_iload_n (M := mX12_isSat) (i := 1) rfl dX12_isSat_1) ?_
  refine go_V_PI (M := mX12_isSat) (pc' := 5) (st := []) (As := [.int a1]) rfl ln_12_239 lb_X12_isSeat (t_X12_isSeat (N := N) hW (by omega) h0) (by omega) h0 (Nat.le_of_ble_eq_true rfl) rfl dX12_isSat_2 (fun r1 => ?_)
  refine go_br (M := mX12_isSat) (pt := 21) (pf := 8) (fun kt kf => r_if_eq (M := mX12_isSat) dX12_isSat_5 (by decide) kt kf) (fun hc2 => ?_) (fun hc2 => ?_)
  · refine go1 (M := mX12_isSat) (pc' := 22) (r_iconst (M := mX12_isSat) (v := 0) (by decide) dX12_isSat_21) ?_
    exact go_zret (M := mX12_isSat) rfl rfl rfl dX12_isSat_22
  · refine go1 (M := mX12_isSat) (pc' := 9) (r_aload_n (M := mX12_isSat) (i := 0) rfl dX12_isSat_8) ?_
    refine go1 (M := mX12_isSat) (pc' := 12) (r_getR (M := mX12_isSat) fl_12_86 h0 rfl (wt_some hW h0 (by decide) (by decide) rfl) dX12_isSat_9) ?_
    have hT3 : TY S (pr S a0 26) 15 := wt hW h0 (by decide) (by decide) rfl (by decide)
    refine go1 (M := mX12_isSat) (pc' := 13) (r_iload_n (M := mX12_isSat) (i := 1) rfl dX12_isSat_12) ?_
    refine go_ck (fun hi4 => ?_)
    refine go1 (M := mX12_isSat) (pc' := 14) (r_zald (M := mX12_isSat) hT3 hi4 dX12_isSat_13) ?_
    refine go_br (M := mX12_isSat) (pt := 21) (pf := 17) (fun kt kf => r_if_eq (M := mX12_isSat) dX12_isSat_14 (by decide) kt kf) (fun hc5 => ?_) (fun hc5 => ?_)
    · refine go1 (M := mX12_isSat) (pc' := 22) (r_iconst (M := mX12_isSat) (v := 0) (by decide) dX12_isSat_21) ?_
      exact go_zret (M := mX12_isSat) rfl rfl rfl dX12_isSat_22
    · refine go1 (M := mX12_isSat) (pc' := 18) (r_iconst (M := mX12_isSat) (v := 1) (by decide) dX12_isSat_17) ?_
      refine go1 (M := mX12_isSat) (pc' := 22) (r_goto (M := mX12_isSat) dX12_isSat_18 (by decide)) ?_
      exact go_zret (M := mX12_isSat) rfl rfl rfl dX12_isSat_22
def lp_X12_seat_20_b (N : Nat) (S : SH) (k47 : Option (Int32 × DY)) (bk20 : Int32 → Option (Int32 × DY)) (p0 : Nat) (p1 : Int32) (p2 : Int32) (x : DY) : Option (Int32 × DY) :=
  (if (x.1 p0 18) ≤ p2 then k47  else ck S (pr S p0 19) p2 ((if (x.1 (pr S p0 19) p2.toNatClampNeg) = p1 then some ((-2), x) else bk20 (p2 + 1))))
set_option maxHeartbeats 1000000 in
theorem lp_X12_seat_20_b_t {N d : Nat} {S : SH} (hW : WT S) (hd : 2 ≤ d) (k47 : Option (Int32 × DY)) (bk20 : Int32 → Option (Int32 × DY)) (p0 : Nat) (p1 : Int32) (p2 : Int32) (x : DY) (g0 : TY S p0 12) (hk47 : Go mX12_seat d S wSI 47 [some (.ref p0), some (.int p1), none] [] x (k47)) (hbk20 : ∀ (v2 : Int32), Go mX12_seat d S wSI 20 [some (.ref p0), some (.int p1), some (.int v2)] [] x (bk20 v2)) : Go mX12_seat d S wSI 20 [some (.ref p0), some (.int p1), some (.int p2)] [] x (lp_X12_seat_20_b N S k47 bk20 p0 p1 p2 x) := by
  unfold lp_X12_seat_20_b
  refine go1 (M := mX12_seat) (pc' := 21) (r_iload_n (M := mX12_seat) (i := 2) rfl dX12_seat_20) ?_
  refine go1 (M := mX12_seat) (pc' := 22) (r_aload_n (M := mX12_seat) (i := 0) rfl dX12_seat_21) ?_
  refine go1 (M := mX12_seat) (pc' := 25) (r_getI (M := mX12_seat) fl_12_62 g0 rfl dX12_seat_22) ?_
  refine go_br (M := mX12_seat) (pt := 47) (pf := 28) (fun kt kf => r_icmp_ge (M := mX12_seat) dX12_seat_25 (by decide) kt kf) (fun hc4 => ?_) (fun hc4 => ?_)
  · refine go_drop (ls' := [some (.ref p0), some (.int p1), none]) (And.intro rfl (And.intro rfl trivial)) ?_
    exact hk47 
  · refine go1 (M := mX12_seat) (pc' := 29) (r_aload_n (M := mX12_seat) (i := 0) rfl dX12_seat_28) ?_
    refine go1 (M := mX12_seat) (pc' := 32) (r_getR (M := mX12_seat) fl_12_65 g0 rfl (wt_some hW g0 (by decide) (by decide) rfl) dX12_seat_29) ?_
    have hT5 : TY S (pr S p0 19) 14 := wt hW g0 (by decide) (by decide) rfl (by decide)
    refine go1 (M := mX12_seat) (pc' := 33) (r_iload_n (M := mX12_seat) (i := 2) rfl dX12_seat_32) ?_
    refine go_ck (fun hi6 => ?_)
    refine go1 (M := mX12_seat) (pc' := 34) (r_iald (M := mX12_seat) hT5 hi6 dX12_seat_33) ?_
    refine go1 (M := mX12_seat) (pc' := 35) (r_iload_n (M := mX12_seat) (i := 1) rfl dX12_seat_34) ?_
    refine go_br (M := mX12_seat) (pt := 38) (pf := 41) (fun kt kf => r_icmp_ne (M := mX12_seat) dX12_seat_35 (by decide) kf kt) (fun hc7 => ?_) (fun hc7 => ?_)
    · refine go1 (M := mX12_seat) (pc' := 40) (r_bipush (M := mX12_seat) (v := (-2)) (by decide) dX12_seat_38) ?_
      exact go_iret (M := mX12_seat) rfl rfl dX12_seat_40
    · refine go1 (M := mX12_seat) (pc' := 44) (ls' := [some (.ref p0), some (.int p1), some (.int (p2 + 1))]) (r_iinc (M := mX12_seat) (ls := [some (.ref p0), some (.int p1), some (.int p2)]) (i := 2) (v := p2) (c' := 1) (by decide) rfl (by decide) rfl dX12_seat_41) ?_
      refine go1 (M := mX12_seat) (pc' := 20) (r_goto (M := mX12_seat) dX12_seat_44 (by decide)) ?_
      exact hbk20 (p2 + 1)
def lp_X12_seat_20 (N : Nat) (S : SH) (k47 : Option (Int32 × DY)) (p0 : Nat) (p1 : Int32) (p2 : Int32) (x : DY) : Option (Int32 × DY) :=
  itr (fun back (v : Int32) => lp_X12_seat_20_b N S k47 (fun p2 => back p2) p0 p1 v x) N p2
theorem lp_X12_seat_20_t {N d : Nat} {S : SH} (hW : WT S) (hd : 2 ≤ d) (k47 : Option (Int32 × DY)) (p0 : Nat) (p1 : Int32) (p2 : Int32) (x : DY) (g0 : TY S p0 12) (hk47 : Go mX12_seat d S wSI 47 [some (.ref p0), some (.int p1), none] [] x (k47)) : Go mX12_seat d S wSI 20 [some (.ref p0), some (.int p1), some (.int p2)] [] x (lp_X12_seat_20 N S k47 p0 p1 p2 x) := by
  unfold lp_X12_seat_20
  exact go_itr (L := fun (v : Int32) => [some (.ref p0), some (.int p1), some (.int v)]) (X := fun (v : Int32) => x) (fun back hB v => lp_X12_seat_20_b_t (N := N) hW hd k47 (fun p2 => back p2) p0 p1 v x g0 hk47 (fun p2 => hB p2) ) N p2
def f_X12_seat (N : Nat) (S : SH) (a0 : Nat) (a1 : Int32) (x : DY) : Option (Int32 × DY) :=
  Option.bind (f_X12_in N S a0 a1 1 ((x.1 a0 0) - 1) x) (fun r1 => (if r1 = 0 then some ((-2), x) else lp_X12_seat_20 N S ((if (x.1 a0 18) = 8 then some ((-4), x) else ck S (pr S a0 19) (x.1 a0 18) (bl (U1 x (pr S a0 19) (x.1 a0 18).toNatClampNeg a1) (fun x12 => ck S (pr S a0 23) (x12.1 a0 18) (bl (U1 x12 (pr S a0 23) (x12.1 a0 18).toNatClampNeg (-1)) (fun x15 => ck S (pr S a0 24) (x15.1 a0 18) (bl (U1 x15 (pr S a0 24) (x15.1 a0 18).toNatClampNeg (-1)) (fun x18 => bl (U1 x18 a0 18 ((x18.1 a0 18) + 1)) (fun x19 => some (((x19.1 a0 18) - 1), x19)))))))))) a0 a1 0 x))
set_option maxHeartbeats 1000000 in
theorem t_X12_seat {N d : Nat} {S : SH} (hW : WT S) {x : DY} {a0 : Nat} {a1 : Int32} (hd : 2 ≤ d) (h0 : TY S a0 12) : CT mX12_seat d S [.ref a0, .int a1] x wSI (f_X12_seat N S a0 a1 x) := by
  refine CT.of [some (.ref a0), some (.int a1), none] rfl (Nat.le_of_ble_eq_true rfl) (by decide +kernel) ?_
  unfold f_X12_seat
  refine go1 (M := mX12_seat) (pc' := 1) (r_aload_n (M := mX12_seat) (i := 0) rfl dX12_seat_0) ?_
  refine go1 (M := mX12_seat) (pc' := 2) (r_iload_n (M := mX12_seat) (i := 1) rfl dX12_seat_1) ?_
  refine go1 (M := mX12_seat) (pc' := 3) (r_iconst (M := mX12_seat) (v := 1) (by decide) dX12_seat_2) ?_
  refine go1 (M := mX12_seat) (pc' := 4) (r_aload_n (M := mX12_seat) (i := 0) rfl dX12_seat_3) ?_
  refine go1 (M := mX12_seat) (pc' := 7) (r_getI (M := mX12_seat) fl_12_211 h0 rfl dX12_seat_4) ?_
  refine go1 (M := mX12_seat) (pc' := 8) (r_iconst (M := mX12_seat) (v := 1) (by decide) dX12_seat_7) ?_
  refine go1 (M := mX12_seat) (pc' := 9) (r_isub (M := mX12_seat) dX12_seat_8) ?_
  refine go_V_PI (M := mX12_seat) (pc' := 12) (st := []) (As := [.int a1, .int 1, .int ((x.1 a0 0) - 1)]) rfl ln_12_217 lb_X12_in (t_X12_in (N := N) hW (by omega) h0) (by omega) h0 (Nat.le_of_ble_eq_true rfl) rfl dX12_seat_9 (fun r1 => ?_)
  refine go_br (M := mX12_seat) (pt := 15) (pf := 18) (fun kt kf => r_if_ne (M := mX12_seat) dX12_seat_12 (by decide) kf kt) (fun hc2 => ?_) (fun hc2 => ?_)
  · refine go1 (M := mX12_seat) (pc' := 17) (r_bipush (M := mX12_seat) (v := (-2)) (by decide) dX12_seat_15) ?_
    exact go_iret (M := mX12_seat) rfl rfl dX12_seat_17
  · refine go1 (M := mX12_seat) (pc' := 19) (r_iconst (M := mX12_seat) (v := 0) (by decide) dX12_seat_18) ?_
    refine go1 (M := mX12_seat) (pc' := 20) (ls' := [some (.ref a0), some (.int a1), some (.int 0)]) (r_istore_n (M := mX12_seat) (ls := [some (.ref a0), some (.int a1), none]) (i := 2) (v := 0) (by decide) rfl dX12_seat_19) ?_
    refine lp_X12_seat_20_t (N := N) hW (by omega) _ a0 a1 0 x h0 ?_
    · refine go1 (M := mX12_seat) (pc' := 48) (r_aload_n (M := mX12_seat) (i := 0) rfl dX12_seat_47) ?_
      refine go1 (M := mX12_seat) (pc' := 51) (r_getI (M := mX12_seat) fl_12_62 h0 rfl dX12_seat_48) ?_
      refine go1 (M := mX12_seat) (pc' := 53) (r_bipush (M := mX12_seat) (v := 8) (by decide) dX12_seat_51) ?_
      refine go_br (M := mX12_seat) (pt := 56) (pf := 59) (fun kt kf => r_icmp_ne (M := mX12_seat) dX12_seat_53 (by decide) kf kt) (fun hc9 => ?_) (fun hc9 => ?_)
      · refine go1 (M := mX12_seat) (pc' := 58) (r_bipush (M := mX12_seat) (v := (-4)) (by decide) dX12_seat_56) ?_
        exact go_iret (M := mX12_seat) rfl rfl dX12_seat_58
      · refine go1 (M := mX12_seat) (pc' := 60) (r_aload_n (M := mX12_seat) (i := 0) rfl dX12_seat_59) ?_
        refine go1 (M := mX12_seat) (pc' := 63) (r_getR (M := mX12_seat) fl_12_65 h0 rfl (wt_some hW h0 (by decide) (by decide) rfl) dX12_seat_60) ?_
        have hT10 : TY S (pr S a0 19) 14 := wt hW h0 (by decide) (by decide) rfl (by decide)
        refine go1 (M := mX12_seat) (pc' := 64) (r_aload_n (M := mX12_seat) (i := 0) rfl dX12_seat_63) ?_
        refine go1 (M := mX12_seat) (pc' := 67) (r_getI (M := mX12_seat) fl_12_62 h0 rfl dX12_seat_64) ?_
        refine go1 (M := mX12_seat) (pc' := 68) (r_iload_n (M := mX12_seat) (i := 1) rfl dX12_seat_67) ?_
        refine go_ck (fun hi11 => ?_)
        refine go1 (M := mX12_seat) (pc' := 69) (r_iast (M := mX12_seat) hT10 hi11 dX12_seat_68) ?_
        refine go_blx (fun x12 => ?_)
        refine go1 (M := mX12_seat) (pc' := 70) (r_aload_n (M := mX12_seat) (i := 0) rfl dX12_seat_69) ?_
        refine go1 (M := mX12_seat) (pc' := 73) (r_getR (M := mX12_seat) fl_12_77 h0 rfl (wt_some hW h0 (by decide) (by decide) rfl) dX12_seat_70) ?_
        have hT13 : TY S (pr S a0 23) 14 := wt hW h0 (by decide) (by decide) rfl (by decide)
        refine go1 (M := mX12_seat) (pc' := 74) (r_aload_n (M := mX12_seat) (i := 0) rfl dX12_seat_73) ?_
        refine go1 (M := mX12_seat) (pc' := 77) (r_getI (M := mX12_seat) fl_12_62 h0 rfl dX12_seat_74) ?_
        refine go1 (M := mX12_seat) (pc' := 78) (r_iconst (M := mX12_seat) (v := (-1)) (by decide) dX12_seat_77) ?_
        refine go_ck (fun hi14 => ?_)
        refine go1 (M := mX12_seat) (pc' := 79) (r_iast (M := mX12_seat) hT13 hi14 dX12_seat_78) ?_
        refine go_blx (fun x15 => ?_)
        refine go1 (M := mX12_seat) (pc' := 80) (r_aload_n (M := mX12_seat) (i := 0) rfl dX12_seat_79) ?_
        refine go1 (M := mX12_seat) (pc' := 83) (r_getR (M := mX12_seat) fl_12_80 h0 rfl (wt_some hW h0 (by decide) (by decide) rfl) dX12_seat_80) ?_
        have hT16 : TY S (pr S a0 24) 14 := wt hW h0 (by decide) (by decide) rfl (by decide)
        refine go1 (M := mX12_seat) (pc' := 84) (r_aload_n (M := mX12_seat) (i := 0) rfl dX12_seat_83) ?_
        refine go1 (M := mX12_seat) (pc' := 87) (r_getI (M := mX12_seat) fl_12_62 h0 rfl dX12_seat_84) ?_
        refine go1 (M := mX12_seat) (pc' := 88) (r_iconst (M := mX12_seat) (v := (-1)) (by decide) dX12_seat_87) ?_
        refine go_ck (fun hi17 => ?_)
        refine go1 (M := mX12_seat) (pc' := 89) (r_iast (M := mX12_seat) hT16 hi17 dX12_seat_88) ?_
        refine go_blx (fun x18 => ?_)
        refine go1 (M := mX12_seat) (pc' := 90) (r_aload_n (M := mX12_seat) (i := 0) rfl dX12_seat_89) ?_
        refine go1 (M := mX12_seat) (pc' := 91) (r_dup (M := mX12_seat) rfl dX12_seat_90) ?_
        refine go1 (M := mX12_seat) (pc' := 94) (r_getI (M := mX12_seat) fl_12_62 h0 rfl dX12_seat_91) ?_
        refine go1 (M := mX12_seat) (pc' := 95) (r_iconst (M := mX12_seat) (v := 1) (by decide) dX12_seat_94) ?_
        refine go1 (M := mX12_seat) (pc' := 96) (r_iadd (M := mX12_seat) dX12_seat_95) ?_
        refine go1 (M := mX12_seat) (pc' := 99) (r_putI (M := mX12_seat) fl_12_62 h0 rfl rfl dX12_seat_96) ?_
        refine go_blx (fun x19 => ?_)
        refine go1 (M := mX12_seat) (pc' := 100) (r_aload_n (M := mX12_seat) (i := 0) rfl dX12_seat_99) ?_
        refine go1 (M := mX12_seat) (pc' := 103) (r_getI (M := mX12_seat) fl_12_62 h0 rfl dX12_seat_100) ?_
        refine go1 (M := mX12_seat) (pc' := 104) (r_iconst (M := mX12_seat) (v := 1) (by decide) dX12_seat_103) ?_
        refine go1 (M := mX12_seat) (pc' := 105) (r_isub (M := mX12_seat) dX12_seat_104) ?_
        exact go_iret (M := mX12_seat) rfl rfl dX12_seat_105
def lp_X12_guest_92_b (N : Nat) (S : SH) (bk92 : Int32 → Int32 → DY → Option (Int32 × DY)) (p0 : Nat) (p1 : Int32) (p4 : Int32) (p5 : Int32) (x : DY) : Option (Int32 × DY) :=
  (if 6 ≤ p5 then some (1, x) else ck S (pr S p0 25) ((6 * p1) + p5) (bl (U1 x (pr S p0 25) ((6 * p1) + p5).toNatClampNeg (p4 - p4 / 10 * 10)) (fun x31 => bk92 (p4 / 10) (p5 + 1) x31)))
set_option maxHeartbeats 1000000 in
theorem lp_X12_guest_92_b_t {N d : Nat} {S : SH} (hW : WT S) (hd : 3 ≤ d) (bk92 : Int32 → Int32 → DY → Option (Int32 × DY)) (p0 : Nat) (p1 : Int32) (p4 : Int32) (p5 : Int32) (x : DY) (g0 : TY S p0 12) (hbk92 : ∀ (v4 : Int32) (v5 : Int32) (y : DY), Go mX12_guest d S wSI 92 [some (.ref p0), some (.int p1), none, none, some (.int v4), some (.int v5)] [] y (bk92 v4 v5 y)) : Go mX12_guest d S wSI 92 [some (.ref p0), some (.int p1), none, none, some (.int p4), some (.int p5)] [] x (lp_X12_guest_92_b N S bk92 p0 p1 p4 p5 x) := by
  unfold lp_X12_guest_92_b
  refine go1 (M := mX12_guest) (pc' := 94) (r_iload (M := mX12_guest) (i := 5) rfl dX12_guest_92) ?_
  refine go1 (M := mX12_guest) (pc' := 96) (r_bipush (M := mX12_guest) (v := 6) (by decide) dX12_guest_94) ?_
  refine go_br (M := mX12_guest) (pt := 129) (pf := 99) (fun kt kf => r_icmp_ge (M := mX12_guest) dX12_guest_96 (by decide) kt kf) (fun hc28 => ?_) (fun hc28 => ?_)
  · refine go1 (M := mX12_guest) (pc' := 130) (r_iconst (M := mX12_guest) (v := 1) (by decide) dX12_guest_129) ?_
    exact go_iret (M := mX12_guest) rfl rfl dX12_guest_130
  · refine go1 (M := mX12_guest) (pc' := 100) (r_aload_n (M := mX12_guest) (i := 0) rfl dX12_guest_99) ?_
    refine go1 (M := mX12_guest) (pc' := 103) (r_getR (M := mX12_guest) fl_12_83 g0 rfl (wt_some hW g0 (by decide) (by decide) rfl) dX12_guest_100) ?_
    have hT29 : TY S (pr S p0 25) 14 := wt hW g0 (by decide) (by decide) rfl (by decide)
    refine go1 (M := mX12_guest) (pc' := 105) (r_bipush (M := mX12_guest) (v := 6) (by decide) dX12_guest_103) ?_
    refine go1 (M := mX12_guest) (pc' := 106) (r_iload_n (M := mX12_guest) (i := 1) rfl dX12_guest_105) ?_
    refine go1 (M := mX12_guest) (pc' := 107) (r_imul (M := mX12_guest) dX12_guest_106) ?_
    refine go1 (M := mX12_guest) (pc' := 109) (r_iload (M := mX12_guest) (i := 5) rfl dX12_guest_107) ?_
    refine go1 (M := mX12_guest) (pc' := 110) (r_iadd (M := mX12_guest) dX12_guest_109) ?_
    refine go1 (M := mX12_guest) (pc' := 112) (r_iload (M := mX12_guest) (i := 4) rfl dX12_guest_110) ?_
    refine go1 (M := mX12_guest) (pc' := 114) (r_bipush (M := mX12_guest) (v := 10) (by decide) dX12_guest_112) ?_
    refine go1 (M := mX12_guest) (pc' := 115) (r_irem (M := mX12_guest) (by decide) dX12_guest_114) ?_
    refine go_ck (fun hi30 => ?_)
    refine go1 (M := mX12_guest) (pc' := 116) (r_iast (M := mX12_guest) hT29 hi30 dX12_guest_115) ?_
    refine go_blx (fun x31 => ?_)
    refine go1 (M := mX12_guest) (pc' := 118) (r_iload (M := mX12_guest) (i := 4) rfl dX12_guest_116) ?_
    refine go1 (M := mX12_guest) (pc' := 120) (r_bipush (M := mX12_guest) (v := 10) (by decide) dX12_guest_118) ?_
    refine go1 (M := mX12_guest) (pc' := 121) (r_idiv (M := mX12_guest) (by decide) dX12_guest_120) ?_
    refine go1 (M := mX12_guest) (pc' := 123) (ls' := [some (.ref p0), some (.int p1), none, none, some (.int (p4 / 10)), some (.int p5)]) (r_istore (M := mX12_guest) (ls := [some (.ref p0), some (.int p1), none, none, some (.int p4), some (.int p5)]) (i := 4) (v := (p4 / 10)) (by decide) rfl dX12_guest_121) ?_
    refine go1 (M := mX12_guest) (pc' := 126) (ls' := [some (.ref p0), some (.int p1), none, none, some (.int (p4 / 10)), some (.int (p5 + 1))]) (r_iinc (M := mX12_guest) (ls := [some (.ref p0), some (.int p1), none, none, some (.int (p4 / 10)), some (.int p5)]) (i := 5) (v := p5) (c' := 1) (by decide) rfl (by decide) rfl dX12_guest_123) ?_
    refine go1 (M := mX12_guest) (pc' := 92) (r_goto (M := mX12_guest) dX12_guest_126 (by decide)) ?_
    exact hbk92 (p4 / 10) (p5 + 1) x31
def lp_X12_guest_92 (N : Nat) (S : SH) (p0 : Nat) (p1 : Int32) (p4 : Int32) (p5 : Int32) (x : DY) : Option (Int32 × DY) :=
  itr (fun back (v : Int32 × Int32 × DY) => lp_X12_guest_92_b N S (fun p4 p5 y => back (p4, p5, y)) p0 p1 v.1 v.2.1 v.2.2) N (p4, p5, x)
theorem lp_X12_guest_92_t {N d : Nat} {S : SH} (hW : WT S) (hd : 3 ≤ d) (p0 : Nat) (p1 : Int32) (p4 : Int32) (p5 : Int32) (x : DY) (g0 : TY S p0 12) : Go mX12_guest d S wSI 92 [some (.ref p0), some (.int p1), none, none, some (.int p4), some (.int p5)] [] x (lp_X12_guest_92 N S p0 p1 p4 p5 x) := by
  unfold lp_X12_guest_92
  exact go_itr (L := fun (v : Int32 × Int32 × DY) => [some (.ref p0), some (.int p1), none, none, some (.int v.1), some (.int v.2.1)]) (X := fun (v : Int32 × Int32 × DY) => v.2.2) (fun back hB v => lp_X12_guest_92_b_t (N := N) hW hd (fun p4 p5 y => back (p4, p5, y)) p0 p1 v.1 v.2.1 v.2.2 g0 (fun p4 p5 y => hB (p4, p5, y)) ) N (p4, p5, x)
def f_X12_guest (N : Nat) (S : SH) (a0 : Nat) (a1 : Int32) (a2 : Int32) (a3 : Int32) (x : DY) : Option (Int32 × DY) :=
  Option.bind (f_X12_isSeat N S a0 a1 x) (fun r1 => (if r1 = 0 then some ((-2), x) else Option.bind (f_X12_in N S a0 a2 0 5 x) (fun r3 => (if r3 = 0 then some ((-2), x) else Option.bind (f_X12_in N S a0 a3 0 999999 x) (fun r5 => (if r5 = 0 then some ((-2), x) else ck S (pr S a0 26) a1 ((if (x.1 (pr S a0 26) a1.toNatClampNeg) = 0 then ck S (pr S a0 26) a1 (bl (U1 x (pr S a0 26) a1.toNatClampNeg (vp_nar .boolean 1)) (fun x11 => ck S (pr S a0 20) a1 (bl (U1 x11 (pr S a0 20) a1.toNatClampNeg a2) (fun x14 => ck S (pr S a0 21) a1 (bl (U1 x14 (pr S a0 21) a1.toNatClampNeg 0) (fun x17 => ck S (pr S a0 22) a1 (bl (U1 x17 (pr S a0 22) a1.toNatClampNeg 0) (fun x20 => ck S (pr S a0 23) a1 (bl (U1 x20 (pr S a0 23) a1.toNatClampNeg (-1)) (fun x23 => ck S (pr S a0 24) a1 (bl (U1 x23 (pr S a0 24) a1.toNatClampNeg (-1)) (fun x26 => lp_X12_guest_92 N S a0 a1 a3 0 x26)))))))))))) else some ((-3), x)))))))))
set_option maxHeartbeats 1000000 in
theorem t_X12_guest {N d : Nat} {S : SH} (hW : WT S) {x : DY} {a0 : Nat} {a1 : Int32} {a2 : Int32} {a3 : Int32} (hd : 3 ≤ d) (h0 : TY S a0 12) : CT mX12_guest d S [.ref a0, .int a1, .int a2, .int a3] x wSI (f_X12_guest N S a0 a1 a2 a3 x) := by
  refine CT.of [some (.ref a0), some (.int a1), some (.int a2), some (.int a3), none, none] rfl (Nat.le_of_ble_eq_true rfl) (by decide +kernel) ?_
  unfold f_X12_guest
  refine go1 (M := mX12_guest) (pc' := 1) (r_aload_n (M := mX12_guest) (i := 0) rfl dX12_guest_0) ?_
  refine go1 (M := mX12_guest) (pc' := 2) (r_iload_n (M := mX12_guest) (i := 1) rfl dX12_guest_1) ?_
  refine go_V_PI (M := mX12_guest) (pc' := 5) (st := []) (As := [.int a1]) rfl ln_12_239 lb_X12_isSeat (t_X12_isSeat (N := N) hW (by omega) h0) (by omega) h0 (Nat.le_of_ble_eq_true rfl) rfl dX12_guest_2 (fun r1 => ?_)
  refine go_br (M := mX12_guest) (pt := 29) (pf := 8) (fun kt kf => r_if_eq (M := mX12_guest) dX12_guest_5 (by decide) kt kf) (fun hc2 => ?_) (fun hc2 => ?_)
  · refine go1 (M := mX12_guest) (pc' := 31) (r_bipush (M := mX12_guest) (v := (-2)) (by decide) dX12_guest_29) ?_
    exact go_iret (M := mX12_guest) rfl rfl dX12_guest_31
  · refine go1 (M := mX12_guest) (pc' := 9) (r_aload_n (M := mX12_guest) (i := 0) rfl dX12_guest_8) ?_
    refine go1 (M := mX12_guest) (pc' := 10) (r_iload_n (M := mX12_guest) (i := 2) rfl dX12_guest_9) ?_
    refine go1 (M := mX12_guest) (pc' := 11) (r_iconst (M := mX12_guest) (v := 0) (by decide) dX12_guest_10) ?_
    refine go1 (M := mX12_guest) (pc' := 12) (r_iconst (M := mX12_guest) (v := 5) (by decide) dX12_guest_11) ?_
    refine go_V_PI (M := mX12_guest) (pc' := 15) (st := []) (As := [.int a2, .int 0, .int 5]) rfl ln_12_217 lb_X12_in (t_X12_in (N := N) hW (by omega) h0) (by omega) h0 (Nat.le_of_ble_eq_true rfl) rfl dX12_guest_12 (fun r3 => ?_)
    refine go_br (M := mX12_guest) (pt := 29) (pf := 18) (fun kt kf => r_if_eq (M := mX12_guest) dX12_guest_15 (by decide) kt kf) (fun hc4 => ?_) (fun hc4 => ?_)
    · refine go1 (M := mX12_guest) (pc' := 31) (r_bipush (M := mX12_guest) (v := (-2)) (by decide) dX12_guest_29) ?_
      exact go_iret (M := mX12_guest) rfl rfl dX12_guest_31
    · refine go1 (M := mX12_guest) (pc' := 19) (r_aload_n (M := mX12_guest) (i := 0) rfl dX12_guest_18) ?_
      refine go1 (M := mX12_guest) (pc' := 20) (r_iload_n (M := mX12_guest) (i := 3) rfl dX12_guest_19) ?_
      refine go1 (M := mX12_guest) (pc' := 21) (r_iconst (M := mX12_guest) (v := 0) (by decide) dX12_guest_20) ?_
      refine go1 (M := mX12_guest) (pc' := 23) (r_ldc (M := mX12_guest) (v := 999999) (tb6 124 (by decide +kernel) rfl) dX12_guest_21) ?_
      refine go_V_PI (M := mX12_guest) (pc' := 26) (st := []) (As := [.int a3, .int 0, .int 999999]) rfl ln_12_217 lb_X12_in (t_X12_in (N := N) hW (by omega) h0) (by omega) h0 (Nat.le_of_ble_eq_true rfl) rfl dX12_guest_23 (fun r5 => ?_)
      refine go_br (M := mX12_guest) (pt := 29) (pf := 32) (fun kt kf => r_if_ne (M := mX12_guest) dX12_guest_26 (by decide) kf kt) (fun hc6 => ?_) (fun hc6 => ?_)
      · refine go1 (M := mX12_guest) (pc' := 31) (r_bipush (M := mX12_guest) (v := (-2)) (by decide) dX12_guest_29) ?_
        exact go_iret (M := mX12_guest) rfl rfl dX12_guest_31
      · refine go1 (M := mX12_guest) (pc' := 33) (r_aload_n (M := mX12_guest) (i := 0) rfl dX12_guest_32) ?_
        refine go1 (M := mX12_guest) (pc' := 36) (r_getR (M := mX12_guest) fl_12_86 h0 rfl (wt_some hW h0 (by decide) (by decide) rfl) dX12_guest_33) ?_
        have hT7 : TY S (pr S a0 26) 15 := wt hW h0 (by decide) (by decide) rfl (by decide)
        refine go1 (M := mX12_guest) (pc' := 37) (r_iload_n (M := mX12_guest) (i := 1) rfl dX12_guest_36) ?_
        refine go_ck (fun hi8 => ?_)
        refine go1 (M := mX12_guest) (pc' := 38) (r_zald (M := mX12_guest) hT7 hi8 dX12_guest_37) ?_
        refine go_br (M := mX12_guest) (pt := 44) (pf := 41) (fun kt kf => r_if_eq (M := mX12_guest) dX12_guest_38 (by decide) kt kf) (fun hc9 => ?_) (fun hc9 => ?_)
        · refine go1 (M := mX12_guest) (pc' := 45) (r_aload_n (M := mX12_guest) (i := 0) rfl dX12_guest_44) ?_
          refine go1 (M := mX12_guest) (pc' := 48) (r_getR (M := mX12_guest) fl_12_86 h0 rfl (wt_some hW h0 (by decide) (by decide) rfl) dX12_guest_45) ?_
          refine go1 (M := mX12_guest) (pc' := 49) (r_iload_n (M := mX12_guest) (i := 1) rfl dX12_guest_48) ?_
          refine go1 (M := mX12_guest) (pc' := 50) (r_iconst (M := mX12_guest) (v := 1) (by decide) dX12_guest_49) ?_
          refine go_ck (fun hi10 => ?_)
          refine go1 (M := mX12_guest) (pc' := 51) (r_zast (M := mX12_guest) hT7 hi10 dX12_guest_50) ?_
          refine go_blx (fun x11 => ?_)
          refine go1 (M := mX12_guest) (pc' := 52) (r_aload_n (M := mX12_guest) (i := 0) rfl dX12_guest_51) ?_
          refine go1 (M := mX12_guest) (pc' := 55) (r_getR (M := mX12_guest) fl_12_68 h0 rfl (wt_some hW h0 (by decide) (by decide) rfl) dX12_guest_52) ?_
          have hT12 : TY S (pr S a0 20) 14 := wt hW h0 (by decide) (by decide) rfl (by decide)
          refine go1 (M := mX12_guest) (pc' := 56) (r_iload_n (M := mX12_guest) (i := 1) rfl dX12_guest_55) ?_
          refine go1 (M := mX12_guest) (pc' := 57) (r_iload_n (M := mX12_guest) (i := 2) rfl dX12_guest_56) ?_
          refine go_ck (fun hi13 => ?_)
          refine go1 (M := mX12_guest) (pc' := 58) (r_iast (M := mX12_guest) hT12 hi13 dX12_guest_57) ?_
          refine go_blx (fun x14 => ?_)
          refine go1 (M := mX12_guest) (pc' := 59) (r_aload_n (M := mX12_guest) (i := 0) rfl dX12_guest_58) ?_
          refine go1 (M := mX12_guest) (pc' := 62) (r_getR (M := mX12_guest) fl_12_71 h0 rfl (wt_some hW h0 (by decide) (by decide) rfl) dX12_guest_59) ?_
          have hT15 : TY S (pr S a0 21) 14 := wt hW h0 (by decide) (by decide) rfl (by decide)
          refine go1 (M := mX12_guest) (pc' := 63) (r_iload_n (M := mX12_guest) (i := 1) rfl dX12_guest_62) ?_
          refine go1 (M := mX12_guest) (pc' := 64) (r_iconst (M := mX12_guest) (v := 0) (by decide) dX12_guest_63) ?_
          refine go_ck (fun hi16 => ?_)
          refine go1 (M := mX12_guest) (pc' := 65) (r_iast (M := mX12_guest) hT15 hi16 dX12_guest_64) ?_
          refine go_blx (fun x17 => ?_)
          refine go1 (M := mX12_guest) (pc' := 66) (r_aload_n (M := mX12_guest) (i := 0) rfl dX12_guest_65) ?_
          refine go1 (M := mX12_guest) (pc' := 69) (r_getR (M := mX12_guest) fl_12_74 h0 rfl (wt_some hW h0 (by decide) (by decide) rfl) dX12_guest_66) ?_
          have hT18 : TY S (pr S a0 22) 14 := wt hW h0 (by decide) (by decide) rfl (by decide)
          refine go1 (M := mX12_guest) (pc' := 70) (r_iload_n (M := mX12_guest) (i := 1) rfl dX12_guest_69) ?_
          refine go1 (M := mX12_guest) (pc' := 71) (r_iconst (M := mX12_guest) (v := 0) (by decide) dX12_guest_70) ?_
          refine go_ck (fun hi19 => ?_)
          refine go1 (M := mX12_guest) (pc' := 72) (r_iast (M := mX12_guest) hT18 hi19 dX12_guest_71) ?_
          refine go_blx (fun x20 => ?_)
          refine go1 (M := mX12_guest) (pc' := 73) (r_aload_n (M := mX12_guest) (i := 0) rfl dX12_guest_72) ?_
          refine go1 (M := mX12_guest) (pc' := 76) (r_getR (M := mX12_guest) fl_12_77 h0 rfl (wt_some hW h0 (by decide) (by decide) rfl) dX12_guest_73) ?_
          have hT21 : TY S (pr S a0 23) 14 := wt hW h0 (by decide) (by decide) rfl (by decide)
          refine go1 (M := mX12_guest) (pc' := 77) (r_iload_n (M := mX12_guest) (i := 1) rfl dX12_guest_76) ?_
          refine go1 (M := mX12_guest) (pc' := 78) (r_iconst (M := mX12_guest) (v := (-1)) (by decide) dX12_guest_77) ?_
          refine go_ck (fun hi22 => ?_)
          refine go1 (M := mX12_guest) (pc' := 79) (r_iast (M := mX12_guest) hT21 hi22 dX12_guest_78) ?_
          refine go_blx (fun x23 => ?_)
          refine go1 (M := mX12_guest) (pc' := 80) (r_aload_n (M := mX12_guest) (i := 0) rfl dX12_guest_79) ?_
          refine go1 (M := mX12_guest) (pc' := 83) (r_getR (M := mX12_guest) fl_12_80 h0 rfl (wt_some hW h0 (by decide) (by decide) rfl) dX12_guest_80) ?_
          have hT24 : TY S (pr S a0 24) 14 := wt hW h0 (by decide) (by decide) rfl (by decide)
          refine go1 (M := mX12_guest) (pc' := 84) (r_iload_n (M := mX12_guest) (i := 1) rfl dX12_guest_83) ?_
          refine go1 (M := mX12_guest) (pc' := 85) (r_iconst (M := mX12_guest) (v := (-1)) (by decide) dX12_guest_84) ?_
          refine go_ck (fun hi25 => ?_)
          refine go1 (M := mX12_guest) (pc' := 86) (r_iast (M := mX12_guest) hT24 hi25 dX12_guest_85) ?_
          refine go_blx (fun x26 => ?_)
          refine go1 (M := mX12_guest) (pc' := 87) (r_iload_n (M := mX12_guest) (i := 3) rfl dX12_guest_86) ?_
          refine go1 (M := mX12_guest) (pc' := 89) (ls' := [some (.ref a0), some (.int a1), some (.int a2), some (.int a3), some (.int a3), none]) (r_istore (M := mX12_guest) (ls := [some (.ref a0), some (.int a1), some (.int a2), some (.int a3), none, none]) (i := 4) (v := a3) (by decide) rfl dX12_guest_87) ?_
          refine go1 (M := mX12_guest) (pc' := 90) (r_iconst (M := mX12_guest) (v := 0) (by decide) dX12_guest_89) ?_
          refine go1 (M := mX12_guest) (pc' := 92) (ls' := [some (.ref a0), some (.int a1), some (.int a2), some (.int a3), some (.int a3), some (.int 0)]) (r_istore (M := mX12_guest) (ls := [some (.ref a0), some (.int a1), some (.int a2), some (.int a3), some (.int a3), none]) (i := 5) (v := 0) (by decide) rfl dX12_guest_90) ?_
          refine go_drop (ls' := [some (.ref a0), some (.int a1), none, none, some (.int a3), some (.int 0)]) (And.intro rfl (And.intro rfl (And.intro rfl (And.intro rfl trivial)))) ?_
          refine lp_X12_guest_92_t (N := N) hW (by omega) a0 a1 a3 0 x26 h0
        · refine go1 (M := mX12_guest) (pc' := 43) (r_bipush (M := mX12_guest) (v := (-3)) (by decide) dX12_guest_41) ?_
          exact go_iret (M := mX12_guest) rfl rfl dX12_guest_43
def f_X12_roomOf (N : Nat) (S : SH) (a0 : Nat) (a1 : Int32) (x : DY) : Option Int32 :=
  (if a1 = 1 then some 3 else (if a1 = 2 then some 10 else (if a1 = 4 then some 9 else (if a1 = 5 then some 2 else some 6))))
set_option maxHeartbeats 1000000 in
theorem t_X12_roomOf {N d : Nat} {S : SH} (hW : WT S) {x : DY} {a0 : Nat} {a1 : Int32} (hd : 1 ≤ d) (h0 : TY S a0 12) : CT mX12_roomOf d S [.ref a0, .int a1] x (wPI x) (f_X12_roomOf N S a0 a1 x) := by
  refine CT.of [some (.ref a0), some (.int a1)] rfl (Nat.le_of_ble_eq_true rfl) (by decide +kernel) ?_
  unfold f_X12_roomOf
  refine go1 (M := mX12_roomOf) (pc' := 1) (r_iload_n (M := mX12_roomOf) (i := 1) rfl dX12_roomOf_0) ?_
  refine go1 (M := mX12_roomOf) (pc' := 2) (r_iconst (M := mX12_roomOf) (v := 1) (by decide) dX12_roomOf_1) ?_
  refine go_br (M := mX12_roomOf) (pt := 5) (pf := 9) (fun kt kf => r_icmp_ne (M := mX12_roomOf) dX12_roomOf_2 (by decide) kf kt) (fun hc1 => ?_) (fun hc1 => ?_)
  · refine go1 (M := mX12_roomOf) (pc' := 6) (r_iconst (M := mX12_roomOf) (v := 3) (by decide) dX12_roomOf_5) ?_
    refine go1 (M := mX12_roomOf) (pc' := 40) (r_goto (M := mX12_roomOf) dX12_roomOf_6 (by decide)) ?_
    exact go_iret (M := mX12_roomOf) rfl rfl dX12_roomOf_40
  · refine go1 (M := mX12_roomOf) (pc' := 10) (r_iload_n (M := mX12_roomOf) (i := 1) rfl dX12_roomOf_9) ?_
    refine go1 (M := mX12_roomOf) (pc' := 11) (r_iconst (M := mX12_roomOf) (v := 2) (by decide) dX12_roomOf_10) ?_
    refine go_br (M := mX12_roomOf) (pt := 14) (pf := 19) (fun kt kf => r_icmp_ne (M := mX12_roomOf) dX12_roomOf_11 (by decide) kf kt) (fun hc2 => ?_) (fun hc2 => ?_)
    · refine go1 (M := mX12_roomOf) (pc' := 16) (r_bipush (M := mX12_roomOf) (v := 10) (by decide) dX12_roomOf_14) ?_
      refine go1 (M := mX12_roomOf) (pc' := 40) (r_goto (M := mX12_roomOf) dX12_roomOf_16 (by decide)) ?_
      exact go_iret (M := mX12_roomOf) rfl rfl dX12_roomOf_40
    · refine go1 (M := mX12_roomOf) (pc' := 20) (r_iload_n (M := mX12_roomOf) (i := 1) rfl dX12_roomOf_19) ?_
      refine go1 (M := mX12_roomOf) (pc' := 21) (r_iconst (M := mX12_roomOf) (v := 4) (by decide) dX12_roomOf_20) ?_
      refine go_br (M := mX12_roomOf) (pt := 24) (pf := 29) (fun kt kf => r_icmp_ne (M := mX12_roomOf) dX12_roomOf_21 (by decide) kf kt) (fun hc3 => ?_) (fun hc3 => ?_)
      · refine go1 (M := mX12_roomOf) (pc' := 26) (r_bipush (M := mX12_roomOf) (v := 9) (by decide) dX12_roomOf_24) ?_
        refine go1 (M := mX12_roomOf) (pc' := 40) (r_goto (M := mX12_roomOf) dX12_roomOf_26 (by decide)) ?_
        exact go_iret (M := mX12_roomOf) rfl rfl dX12_roomOf_40
      · refine go1 (M := mX12_roomOf) (pc' := 30) (r_iload_n (M := mX12_roomOf) (i := 1) rfl dX12_roomOf_29) ?_
        refine go1 (M := mX12_roomOf) (pc' := 31) (r_iconst (M := mX12_roomOf) (v := 5) (by decide) dX12_roomOf_30) ?_
        refine go_br (M := mX12_roomOf) (pt := 34) (pf := 38) (fun kt kf => r_icmp_ne (M := mX12_roomOf) dX12_roomOf_31 (by decide) kf kt) (fun hc4 => ?_) (fun hc4 => ?_)
        · refine go1 (M := mX12_roomOf) (pc' := 35) (r_iconst (M := mX12_roomOf) (v := 2) (by decide) dX12_roomOf_34) ?_
          refine go1 (M := mX12_roomOf) (pc' := 40) (r_goto (M := mX12_roomOf) dX12_roomOf_35 (by decide)) ?_
          exact go_iret (M := mX12_roomOf) rfl rfl dX12_roomOf_40
        · refine go1 (M := mX12_roomOf) (pc' := 40) (r_bipush (M := mX12_roomOf) (v := 6) (by decide) dX12_roomOf_38) ?_
          exact go_iret (M := mX12_roomOf) rfl rfl dX12_roomOf_40
def j_X12_liked_96 (N : Nat) (S : SH) (p0 : Nat) (p2 : Int32) (p3 : Int32) (p4 : Int32) (x : DY) : Option Int32 :=
  (if p4 = 3 then ck S (pr S p0 10) p2 (some (p3 - ((x.1 (pr S p0 10) p2.toNatClampNeg) / 4))) else some p3)
set_option maxHeartbeats 1000000 in
theorem j_X12_liked_96_t {N d : Nat} {S : SH} (hW : WT S) (hd : 1 ≤ d) (p0 : Nat) (p2 : Int32) (p3 : Int32) (p4 : Int32) (x : DY) (g0 : TY S p0 12) : Go mX12_liked d S (wPI x) 96 [some (.ref p0), none, some (.int p2), some (.int p3), some (.int p4)] [] x (j_X12_liked_96 N S p0 p2 p3 p4 x) := by
  unfold j_X12_liked_96
  refine go1 (M := mX12_liked) (pc' := 98) (r_iload (M := mX12_liked) (i := 4) rfl dX12_liked_96) ?_
  refine go1 (M := mX12_liked) (pc' := 99) (r_iconst (M := mX12_liked) (v := 3) (by decide) dX12_liked_98) ?_
  refine go_br (M := mX12_liked) (pt := 102) (pf := 113) (fun kt kf => r_icmp_ne (M := mX12_liked) dX12_liked_99 (by decide) kf kt) (fun hc13 => ?_) (fun hc13 => ?_)
  · refine go1 (M := mX12_liked) (pc' := 103) (r_iload_n (M := mX12_liked) (i := 3) rfl dX12_liked_102) ?_
    refine go1 (M := mX12_liked) (pc' := 104) (r_aload_n (M := mX12_liked) (i := 0) rfl dX12_liked_103) ?_
    refine go1 (M := mX12_liked) (pc' := 107) (r_getR (M := mX12_liked) fl_12_38 g0 rfl (wt_some hW g0 (by decide) (by decide) rfl) dX12_liked_104) ?_
    have hT14 : TY S (pr S p0 10) 14 := wt hW g0 (by decide) (by decide) rfl (by decide)
    refine go1 (M := mX12_liked) (pc' := 108) (r_iload_n (M := mX12_liked) (i := 2) rfl dX12_liked_107) ?_
    refine go_ck (fun hi15 => ?_)
    refine go1 (M := mX12_liked) (pc' := 109) (r_iald (M := mX12_liked) hT14 hi15 dX12_liked_108) ?_
    refine go1 (M := mX12_liked) (pc' := 110) (r_iconst (M := mX12_liked) (v := 4) (by decide) dX12_liked_109) ?_
    refine go1 (M := mX12_liked) (pc' := 111) (r_idiv (M := mX12_liked) (by decide) dX12_liked_110) ?_
    refine go1 (M := mX12_liked) (pc' := 112) (r_isub (M := mX12_liked) dX12_liked_111) ?_
    refine go1 (M := mX12_liked) (pc' := 113) (ls' := [some (.ref p0), none, some (.int p2), some (.int (p3 - ((x.1 (pr S p0 10) p2.toNatClampNeg) / 4))), some (.int p4)]) (r_istore_n (M := mX12_liked) (ls := [some (.ref p0), none, some (.int p2), some (.int p3), some (.int p4)]) (i := 3) (v := (p3 - ((x.1 (pr S p0 10) p2.toNatClampNeg) / 4))) (by decide) rfl dX12_liked_112) ?_
    refine go1 (M := mX12_liked) (pc' := 114) (r_iload_n (M := mX12_liked) (i := 3) rfl dX12_liked_113) ?_
    exact go_iret (M := mX12_liked) rfl rfl dX12_liked_114
  · refine go1 (M := mX12_liked) (pc' := 114) (r_iload_n (M := mX12_liked) (i := 3) rfl dX12_liked_113) ?_
    exact go_iret (M := mX12_liked) rfl rfl dX12_liked_114
def j_X12_liked_79 (N : Nat) (S : SH) (p0 : Nat) (p1 : Int32) (p2 : Int32) (p3 : Int32) (p4 : Int32) (x : DY) : Option Int32 :=
  (if p4 = 4 then ck S (pr S p0 22) p1 (j_X12_liked_96 N S p0 p2 (p3 + ((x.1 (pr S p0 22) p1.toNatClampNeg) / 5)) p4 x) else j_X12_liked_96 N S p0 p2 p3 p4 x)
set_option maxHeartbeats 1000000 in
theorem j_X12_liked_79_t {N d : Nat} {S : SH} (hW : WT S) (hd : 1 ≤ d) (p0 : Nat) (p1 : Int32) (p2 : Int32) (p3 : Int32) (p4 : Int32) (x : DY) (g0 : TY S p0 12) : Go mX12_liked d S (wPI x) 79 [some (.ref p0), some (.int p1), some (.int p2), some (.int p3), some (.int p4)] [] x (j_X12_liked_79 N S p0 p1 p2 p3 p4 x) := by
  unfold j_X12_liked_79
  refine go1 (M := mX12_liked) (pc' := 81) (r_iload (M := mX12_liked) (i := 4) rfl dX12_liked_79) ?_
  refine go1 (M := mX12_liked) (pc' := 82) (r_iconst (M := mX12_liked) (v := 4) (by decide) dX12_liked_81) ?_
  refine go_br (M := mX12_liked) (pt := 85) (pf := 96) (fun kt kf => r_icmp_ne (M := mX12_liked) dX12_liked_82 (by decide) kf kt) (fun hc12 => ?_) (fun hc12 => ?_)
  · refine go1 (M := mX12_liked) (pc' := 86) (r_iload_n (M := mX12_liked) (i := 3) rfl dX12_liked_85) ?_
    refine go1 (M := mX12_liked) (pc' := 87) (r_aload_n (M := mX12_liked) (i := 0) rfl dX12_liked_86) ?_
    refine go1 (M := mX12_liked) (pc' := 90) (r_getR (M := mX12_liked) fl_12_74 g0 rfl (wt_some hW g0 (by decide) (by decide) rfl) dX12_liked_87) ?_
    have hT16 : TY S (pr S p0 22) 14 := wt hW g0 (by decide) (by decide) rfl (by decide)
    refine go1 (M := mX12_liked) (pc' := 91) (r_iload_n (M := mX12_liked) (i := 1) rfl dX12_liked_90) ?_
    refine go_ck (fun hi17 => ?_)
    refine go1 (M := mX12_liked) (pc' := 92) (r_iald (M := mX12_liked) hT16 hi17 dX12_liked_91) ?_
    refine go1 (M := mX12_liked) (pc' := 93) (r_iconst (M := mX12_liked) (v := 5) (by decide) dX12_liked_92) ?_
    refine go1 (M := mX12_liked) (pc' := 94) (r_idiv (M := mX12_liked) (by decide) dX12_liked_93) ?_
    refine go1 (M := mX12_liked) (pc' := 95) (r_iadd (M := mX12_liked) dX12_liked_94) ?_
    refine go1 (M := mX12_liked) (pc' := 96) (ls' := [some (.ref p0), some (.int p1), some (.int p2), some (.int (p3 + ((x.1 (pr S p0 22) p1.toNatClampNeg) / 5))), some (.int p4)]) (r_istore_n (M := mX12_liked) (ls := [some (.ref p0), some (.int p1), some (.int p2), some (.int p3), some (.int p4)]) (i := 3) (v := (p3 + ((x.1 (pr S p0 22) p1.toNatClampNeg) / 5))) (by decide) rfl dX12_liked_95) ?_
    refine go_drop (ls' := [some (.ref p0), none, some (.int p2), some (.int (p3 + ((x.1 (pr S p0 22) p1.toNatClampNeg) / 5))), some (.int p4)]) (And.intro rfl (And.intro rfl (And.intro rfl (And.intro rfl trivial)))) ?_
    exact j_X12_liked_96_t (N := N) hW (by omega) p0 p2 (p3 + ((x.1 (pr S p0 22) p1.toNatClampNeg) / 5)) p4 x g0
  · refine go_drop (ls' := [some (.ref p0), none, some (.int p2), some (.int p3), some (.int p4)]) (And.intro rfl (And.intro rfl (And.intro rfl (And.intro rfl trivial)))) ?_
    exact j_X12_liked_96_t (N := N) hW (by omega) p0 p2 p3 p4 x g0
def j_X12_liked_76 (N : Nat) (S : SH) (p0 : Nat) (p1 : Int32) (p2 : Int32) (p3 : Int32) (p4 : Int32) (x : DY) : Option Int32 :=
  j_X12_liked_79 N S p0 p1 p2 (p3 + 1) p4 x
set_option maxHeartbeats 1000000 in
theorem j_X12_liked_76_t {N d : Nat} {S : SH} (hW : WT S) (hd : 1 ≤ d) (p0 : Nat) (p1 : Int32) (p2 : Int32) (p3 : Int32) (p4 : Int32) (x : DY) (g0 : TY S p0 12) : Go mX12_liked d S (wPI x) 76 [some (.ref p0), some (.int p1), some (.int p2), some (.int p3), some (.int p4)] [] x (j_X12_liked_76 N S p0 p1 p2 p3 p4 x) := by
  unfold j_X12_liked_76
  refine go1 (M := mX12_liked) (pc' := 79) (ls' := [some (.ref p0), some (.int p1), some (.int p2), some (.int (p3 + 1)), some (.int p4)]) (r_iinc (M := mX12_liked) (ls := [some (.ref p0), some (.int p1), some (.int p2), some (.int p3), some (.int p4)]) (i := 3) (v := p3) (c' := 1) (by decide) rfl (by decide) rfl dX12_liked_76) ?_
  exact j_X12_liked_79_t (N := N) hW (by omega) p0 p1 p2 (p3 + 1) p4 x g0
def j_X12_liked_64 (N : Nat) (S : SH) (p0 : Nat) (p1 : Int32) (p2 : Int32) (p3 : Int32) (p4 : Int32) (x : DY) : Option Int32 :=
  (if p4 = 2 then j_X12_liked_76 N S p0 p1 p2 p3 p4 x else (if p4 = 4 then j_X12_liked_76 N S p0 p1 p2 p3 p4 x else j_X12_liked_79 N S p0 p1 p2 p3 p4 x))
set_option maxHeartbeats 1000000 in
theorem j_X12_liked_64_t {N d : Nat} {S : SH} (hW : WT S) (hd : 1 ≤ d) (p0 : Nat) (p1 : Int32) (p2 : Int32) (p3 : Int32) (p4 : Int32) (x : DY) (g0 : TY S p0 12) : Go mX12_liked d S (wPI x) 64 [some (.ref p0), some (.int p1), some (.int p2), some (.int p3), some (.int p4)] [] x (j_X12_liked_64 N S p0 p1 p2 p3 p4 x) := by
  unfold j_X12_liked_64
  refine go1 (M := mX12_liked) (pc' := 66) (r_iload (M := mX12_liked) (i := 4) rfl dX12_liked_64) ?_
  refine go1 (M := mX12_liked) (pc' := 67) (r_iconst (M := mX12_liked) (v := 2) (by decide) dX12_liked_66) ?_
  refine go_br (M := mX12_liked) (pt := 76) (pf := 70) (fun kt kf => r_icmp_eq (M := mX12_liked) dX12_liked_67 (by decide) kt kf) (fun hc11 => ?_) (fun hc11 => ?_)
  · exact j_X12_liked_76_t (N := N) hW (by omega) p0 p1 p2 p3 p4 x g0
  · refine go1 (M := mX12_liked) (pc' := 72) (r_iload (M := mX12_liked) (i := 4) rfl dX12_liked_70) ?_
    refine go1 (M := mX12_liked) (pc' := 73) (r_iconst (M := mX12_liked) (v := 4) (by decide) dX12_liked_72) ?_
    refine go_br (M := mX12_liked) (pt := 76) (pf := 79) (fun kt kf => r_icmp_ne (M := mX12_liked) dX12_liked_73 (by decide) kf kt) (fun hc18 => ?_) (fun hc18 => ?_)
    · exact j_X12_liked_76_t (N := N) hW (by omega) p0 p1 p2 p3 p4 x g0
    · exact j_X12_liked_79_t (N := N) hW (by omega) p0 p1 p2 p3 p4 x g0
def j_X12_liked_62 (N : Nat) (S : SH) (p0 : Nat) (p1 : Int32) (p2 : Int32) (p4 : Int32) (q0 : Int32) (q1 : Int32) (x : DY) : Option Int32 :=
  j_X12_liked_64 N S p0 p1 p2 (q1 + q0) p4 x
set_option maxHeartbeats 1000000 in
theorem j_X12_liked_62_t {N d : Nat} {S : SH} (hW : WT S) (hd : 1 ≤ d) (p0 : Nat) (p1 : Int32) (p2 : Int32) (p4 : Int32) (q0 : Int32) (q1 : Int32) (x : DY) (g0 : TY S p0 12) : Go mX12_liked d S (wPI x) 62 [some (.ref p0), some (.int p1), some (.int p2), none, some (.int p4)] [.int q0, .int q1] x (j_X12_liked_62 N S p0 p1 p2 p4 q0 q1 x) := by
  unfold j_X12_liked_62
  refine go1 (M := mX12_liked) (pc' := 63) (r_iadd (M := mX12_liked) dX12_liked_62) ?_
  refine go1 (M := mX12_liked) (pc' := 64) (ls' := [some (.ref p0), some (.int p1), some (.int p2), some (.int (q1 + q0)), some (.int p4)]) (r_istore_n (M := mX12_liked) (ls := [some (.ref p0), some (.int p1), some (.int p2), none, some (.int p4)]) (i := 3) (v := (q1 + q0)) (by decide) rfl dX12_liked_63) ?_
  exact j_X12_liked_64_t (N := N) hW (by omega) p0 p1 p2 (q1 + q0) p4 x g0
def j_X12_liked_47 (N : Nat) (S : SH) (p0 : Nat) (p1 : Int32) (p2 : Int32) (p3 : Int32) (p4 : Int32) (x : DY) : Option Int32 :=
  ck S (pr S p0 8) p2 ((if (x.1 (pr S p0 8) p2.toNatClampNeg) = 0 then j_X12_liked_62 N S p0 p1 p2 p4 2 p3 x else j_X12_liked_62 N S p0 p1 p2 p4 0 p3 x))
set_option maxHeartbeats 1000000 in
theorem j_X12_liked_47_t {N d : Nat} {S : SH} (hW : WT S) (hd : 1 ≤ d) (p0 : Nat) (p1 : Int32) (p2 : Int32) (p3 : Int32) (p4 : Int32) (x : DY) (g0 : TY S p0 12) : Go mX12_liked d S (wPI x) 47 [some (.ref p0), some (.int p1), some (.int p2), some (.int p3), some (.int p4)] [] x (j_X12_liked_47 N S p0 p1 p2 p3 p4 x) := by
  unfold j_X12_liked_47
  refine go1 (M := mX12_liked) (pc' := 48) (r_iload_n (M := mX12_liked) (i := 3) rfl dX12_liked_47) ?_
  refine go1 (M := mX12_liked) (pc' := 49) (r_aload_n (M := mX12_liked) (i := 0) rfl dX12_liked_48) ?_
  refine go1 (M := mX12_liked) (pc' := 52) (r_getR (M := mX12_liked) fl_12_32 g0 rfl (wt_some hW g0 (by decide) (by decide) rfl) dX12_liked_49) ?_
  have hT8 : TY S (pr S p0 8) 14 := wt hW g0 (by decide) (by decide) rfl (by decide)
  refine go1 (M := mX12_liked) (pc' := 53) (r_iload_n (M := mX12_liked) (i := 2) rfl dX12_liked_52) ?_
  refine go_ck (fun hi9 => ?_)
  refine go1 (M := mX12_liked) (pc' := 54) (r_iald (M := mX12_liked) hT8 hi9 dX12_liked_53) ?_
  refine go_br (M := mX12_liked) (pt := 57) (pf := 61) (fun kt kf => r_if_ne (M := mX12_liked) dX12_liked_54 (by decide) kf kt) (fun hc10 => ?_) (fun hc10 => ?_)
  · refine go1 (M := mX12_liked) (pc' := 58) (r_iconst (M := mX12_liked) (v := 2) (by decide) dX12_liked_57) ?_
    refine go1 (M := mX12_liked) (pc' := 62) (r_goto (M := mX12_liked) dX12_liked_58 (by decide)) ?_
    refine go_drop (ls' := [some (.ref p0), some (.int p1), some (.int p2), none, some (.int p4)]) (And.intro rfl (And.intro rfl (And.intro rfl (And.intro rfl trivial)))) ?_
    exact j_X12_liked_62_t (N := N) hW (by omega) p0 p1 p2 p4 2 p3 x g0
  · refine go1 (M := mX12_liked) (pc' := 62) (r_iconst (M := mX12_liked) (v := 0) (by decide) dX12_liked_61) ?_
    refine go_drop (ls' := [some (.ref p0), some (.int p1), some (.int p2), none, some (.int p4)]) (And.intro rfl (And.intro rfl (And.intro rfl (And.intro rfl trivial)))) ?_
    exact j_X12_liked_62_t (N := N) hW (by omega) p0 p1 p2 p4 0 p3 x g0
def f_X12_liked (N : Nat) (S : SH) (a0 : Nat) (a1 : Int32) (a2 : Int32) (x : DY) : Option Int32 :=
  ck S (pr S a0 8) a2 (ck S (pr S a0 25) ((6 * a1) + (x.1 (pr S a0 8) a2.toNatClampNeg)) (ck S (pr S a0 20) a1 ((if (x.1 (pr S a0 20) a1.toNatClampNeg) = 1 then j_X12_liked_47 N S a0 a1 a2 (x.1 (pr S a0 25) ((6 * a1) + (x.1 (pr S a0 8) a2.toNatClampNeg)).toNatClampNeg) (x.1 (pr S a0 20) a1.toNatClampNeg) x else (if (x.1 (pr S a0 20) a1.toNatClampNeg) = 5 then ck S (pr S a0 21) a1 ((if 2 ≤ (x.1 (pr S a0 21) a1.toNatClampNeg) then j_X12_liked_64 N S a0 a1 a2 (x.1 (pr S a0 25) ((6 * a1) + (x.1 (pr S a0 8) a2.toNatClampNeg)).toNatClampNeg) (x.1 (pr S a0 20) a1.toNatClampNeg) x else j_X12_liked_47 N S a0 a1 a2 (x.1 (pr S a0 25) ((6 * a1) + (x.1 (pr S a0 8) a2.toNatClampNeg)).toNatClampNeg) (x.1 (pr S a0 20) a1.toNatClampNeg) x)) else j_X12_liked_64 N S a0 a1 a2 (x.1 (pr S a0 25) ((6 * a1) + (x.1 (pr S a0 8) a2.toNatClampNeg)).toNatClampNeg) (x.1 (pr S a0 20) a1.toNatClampNeg) x)))))
set_option maxHeartbeats 1000000 in
theorem t_X12_liked {N d : Nat} {S : SH} (hW : WT S) {x : DY} {a0 : Nat} {a1 : Int32} {a2 : Int32} (hd : 1 ≤ d) (h0 : TY S a0 12) : CT mX12_liked d S [.ref a0, .int a1, .int a2] x (wPI x) (f_X12_liked N S a0 a1 a2 x) := by
  refine CT.of [some (.ref a0), some (.int a1), some (.int a2), none, none] rfl (Nat.le_of_ble_eq_true rfl) (by decide +kernel) ?_
  unfold f_X12_liked
  refine go1 (M := mX12_liked) (pc' := 1) (r_aload_n (M := mX12_liked) (i := 0) rfl dX12_liked_0) ?_
  refine go1 (M := mX12_liked) (pc' := 4) (r_getR (M := mX12_liked) fl_12_83 h0 rfl (wt_some hW h0 (by decide) (by decide) rfl) dX12_liked_1) ?_
  have hT1 : TY S (pr S a0 25) 14 := wt hW h0 (by decide) (by decide) rfl (by decide)
  refine go1 (M := mX12_liked) (pc' := 6) (r_bipush (M := mX12_liked) (v := 6) (by decide) dX12_liked_4) ?_
  refine go1 (M := mX12_liked) (pc' := 7) (r_iload_n (M := mX12_liked) (i := 1) rfl dX12_liked_6) ?_
  refine go1 (M := mX12_liked) (pc' := 8) (r_imul (M := mX12_liked) dX12_liked_7) ?_
  refine go1 (M := mX12_liked) (pc' := 9) (r_aload_n (M := mX12_liked) (i := 0) rfl dX12_liked_8) ?_
  refine go1 (M := mX12_liked) (pc' := 12) (r_getR (M := mX12_liked) fl_12_32 h0 rfl (wt_some hW h0 (by decide) (by decide) rfl) dX12_liked_9) ?_
  have hT2 : TY S (pr S a0 8) 14 := wt hW h0 (by decide) (by decide) rfl (by decide)
  refine go1 (M := mX12_liked) (pc' := 13) (r_iload_n (M := mX12_liked) (i := 2) rfl dX12_liked_12) ?_
  refine go_ck (fun hi3 => ?_)
  refine go1 (M := mX12_liked) (pc' := 14) (r_iald (M := mX12_liked) hT2 hi3 dX12_liked_13) ?_
  refine go1 (M := mX12_liked) (pc' := 15) (r_iadd (M := mX12_liked) dX12_liked_14) ?_
  refine go_ck (fun hi4 => ?_)
  refine go1 (M := mX12_liked) (pc' := 16) (r_iald (M := mX12_liked) hT1 hi4 dX12_liked_15) ?_
  refine go1 (M := mX12_liked) (pc' := 17) (ls' := [some (.ref a0), some (.int a1), some (.int a2), some (.int (x.1 (pr S a0 25) ((6 * a1) + (x.1 (pr S a0 8) a2.toNatClampNeg)).toNatClampNeg)), none]) (r_istore_n (M := mX12_liked) (ls := [some (.ref a0), some (.int a1), some (.int a2), none, none]) (i := 3) (v := (x.1 (pr S a0 25) ((6 * a1) + (x.1 (pr S a0 8) a2.toNatClampNeg)).toNatClampNeg)) (by decide) rfl dX12_liked_16) ?_
  refine go1 (M := mX12_liked) (pc' := 18) (r_aload_n (M := mX12_liked) (i := 0) rfl dX12_liked_17) ?_
  refine go1 (M := mX12_liked) (pc' := 21) (r_getR (M := mX12_liked) fl_12_68 h0 rfl (wt_some hW h0 (by decide) (by decide) rfl) dX12_liked_18) ?_
  have hT5 : TY S (pr S a0 20) 14 := wt hW h0 (by decide) (by decide) rfl (by decide)
  refine go1 (M := mX12_liked) (pc' := 22) (r_iload_n (M := mX12_liked) (i := 1) rfl dX12_liked_21) ?_
  refine go_ck (fun hi6 => ?_)
  refine go1 (M := mX12_liked) (pc' := 23) (r_iald (M := mX12_liked) hT5 hi6 dX12_liked_22) ?_
  refine go1 (M := mX12_liked) (pc' := 25) (ls' := [some (.ref a0), some (.int a1), some (.int a2), some (.int (x.1 (pr S a0 25) ((6 * a1) + (x.1 (pr S a0 8) a2.toNatClampNeg)).toNatClampNeg)), some (.int (x.1 (pr S a0 20) a1.toNatClampNeg))]) (r_istore (M := mX12_liked) (ls := [some (.ref a0), some (.int a1), some (.int a2), some (.int (x.1 (pr S a0 25) ((6 * a1) + (x.1 (pr S a0 8) a2.toNatClampNeg)).toNatClampNeg)), none]) (i := 4) (v := (x.1 (pr S a0 20) a1.toNatClampNeg)) (by decide) rfl dX12_liked_23) ?_
  refine go1 (M := mX12_liked) (pc' := 27) (r_iload (M := mX12_liked) (i := 4) rfl dX12_liked_25) ?_
  refine go1 (M := mX12_liked) (pc' := 28) (r_iconst (M := mX12_liked) (v := 1) (by decide) dX12_liked_27) ?_
  refine go_br (M := mX12_liked) (pt := 47) (pf := 31) (fun kt kf => r_icmp_eq (M := mX12_liked) dX12_liked_28 (by decide) kt kf) (fun hc7 => ?_) (fun hc7 => ?_)
  · exact j_X12_liked_47_t (N := N) hW (by omega) a0 a1 a2 (x.1 (pr S a0 25) ((6 * a1) + (x.1 (pr S a0 8) a2.toNatClampNeg)).toNatClampNeg) (x.1 (pr S a0 20) a1.toNatClampNeg) x h0
  · refine go1 (M := mX12_liked) (pc' := 33) (r_iload (M := mX12_liked) (i := 4) rfl dX12_liked_31) ?_
    refine go1 (M := mX12_liked) (pc' := 34) (r_iconst (M := mX12_liked) (v := 5) (by decide) dX12_liked_33) ?_
    refine go_br (M := mX12_liked) (pt := 37) (pf := 64) (fun kt kf => r_icmp_ne (M := mX12_liked) dX12_liked_34 (by decide) kf kt) (fun hc19 => ?_) (fun hc19 => ?_)
    · refine go1 (M := mX12_liked) (pc' := 38) (r_aload_n (M := mX12_liked) (i := 0) rfl dX12_liked_37) ?_
      refine go1 (M := mX12_liked) (pc' := 41) (r_getR (M := mX12_liked) fl_12_71 h0 rfl (wt_some hW h0 (by decide) (by decide) rfl) dX12_liked_38) ?_
      have hT20 : TY S (pr S a0 21) 14 := wt hW h0 (by decide) (by decide) rfl (by decide)
      refine go1 (M := mX12_liked) (pc' := 42) (r_iload_n (M := mX12_liked) (i := 1) rfl dX12_liked_41) ?_
      refine go_ck (fun hi21 => ?_)
      refine go1 (M := mX12_liked) (pc' := 43) (r_iald (M := mX12_liked) hT20 hi21 dX12_liked_42) ?_
      refine go1 (M := mX12_liked) (pc' := 44) (r_iconst (M := mX12_liked) (v := 2) (by decide) dX12_liked_43) ?_
      refine go_br (M := mX12_liked) (pt := 64) (pf := 47) (fun kt kf => r_icmp_ge (M := mX12_liked) dX12_liked_44 (by decide) kt kf) (fun hc22 => ?_) (fun hc22 => ?_)
      · exact j_X12_liked_64_t (N := N) hW (by omega) a0 a1 a2 (x.1 (pr S a0 25) ((6 * a1) + (x.1 (pr S a0 8) a2.toNatClampNeg)).toNatClampNeg) (x.1 (pr S a0 20) a1.toNatClampNeg) x h0
      · exact j_X12_liked_47_t (N := N) hW (by omega) a0 a1 a2 (x.1 (pr S a0 25) ((6 * a1) + (x.1 (pr S a0 8) a2.toNatClampNeg)).toNatClampNeg) (x.1 (pr S a0 20) a1.toNatClampNeg) x h0
    · exact j_X12_liked_64_t (N := N) hW (by omega) a0 a1 a2 (x.1 (pr S a0 25) ((6 * a1) + (x.1 (pr S a0 8) a2.toNatClampNeg)).toNatClampNeg) (x.1 (pr S a0 20) a1.toNatClampNeg) x h0
def j_X12_billOf_61 (N : Nat) (S : SH) (bk5 : Int32 → Int32 → Option Int32) (p0 : Nat) (p1 : Int32) (p2 : Int32) (p4 : Int32) (q0 : Int32) (q1 : Int32) (x : DY) : Option Int32 :=
  bk5 (q1 + q0) (p4 + 1)
set_option maxHeartbeats 1000000 in
theorem j_X12_billOf_61_t {N d : Nat} {S : SH} (hW : WT S) (hd : 1 ≤ d) (bk5 : Int32 → Int32 → Option Int32) (p0 : Nat) (p1 : Int32) (p2 : Int32) (p4 : Int32) (q0 : Int32) (q1 : Int32) (x : DY) (g0 : TY S p0 12) (hbk5 : ∀ (v3 : Int32) (v4 : Int32), Go mX12_billOf d S (wPI x) 5 [some (.ref p0), some (.int p1), some (.int p2), some (.int v3), some (.int v4)] [] x (bk5 v3 v4)) : Go mX12_billOf d S (wPI x) 61 [some (.ref p0), some (.int p1), some (.int p2), none, some (.int p4)] [.int q0, .int q1] x (j_X12_billOf_61 N S bk5 p0 p1 p2 p4 q0 q1 x) := by
  unfold j_X12_billOf_61
  refine go1 (M := mX12_billOf) (pc' := 62) (r_iadd (M := mX12_billOf) dX12_billOf_61) ?_
  refine go1 (M := mX12_billOf) (pc' := 63) (ls' := [some (.ref p0), some (.int p1), some (.int p2), some (.int (q1 + q0)), some (.int p4)]) (r_istore_n (M := mX12_billOf) (ls := [some (.ref p0), some (.int p1), some (.int p2), none, some (.int p4)]) (i := 3) (v := (q1 + q0)) (by decide) rfl dX12_billOf_62) ?_
  refine go1 (M := mX12_billOf) (pc' := 66) (ls' := [some (.ref p0), some (.int p1), some (.int p2), some (.int (q1 + q0)), some (.int (p4 + 1))]) (r_iinc (M := mX12_billOf) (ls := [some (.ref p0), some (.int p1), some (.int p2), some (.int (q1 + q0)), some (.int p4)]) (i := 4) (v := p4) (c' := 1) (by decide) rfl (by decide) rfl dX12_billOf_63) ?_
  refine go1 (M := mX12_billOf) (pc' := 5) (r_goto (M := mX12_billOf) dX12_billOf_66 (by decide)) ?_
  exact hbk5 (q1 + q0) (p4 + 1)
def j_X12_billOf_60 (N : Nat) (S : SH) (bk5 : Int32 → Int32 → Option Int32) (p0 : Nat) (p1 : Int32) (p2 : Int32) (p4 : Int32) (q0 : Int32) (x : DY) : Option Int32 :=
  j_X12_billOf_61 N S bk5 p0 p1 p2 p4 0 q0 x
set_option maxHeartbeats 1000000 in
theorem j_X12_billOf_60_t {N d : Nat} {S : SH} (hW : WT S) (hd : 1 ≤ d) (bk5 : Int32 → Int32 → Option Int32) (p0 : Nat) (p1 : Int32) (p2 : Int32) (p4 : Int32) (q0 : Int32) (x : DY) (g0 : TY S p0 12) (hbk5 : ∀ (v3 : Int32) (v4 : Int32), Go mX12_billOf d S (wPI x) 5 [some (.ref p0), some (.int p1), some (.int p2), some (.int v3), some (.int v4)] [] x (bk5 v3 v4)) : Go mX12_billOf d S (wPI x) 60 [some (.ref p0), some (.int p1), some (.int p2), none, some (.int p4)] [.int q0] x (j_X12_billOf_60 N S bk5 p0 p1 p2 p4 q0 x) := by
  unfold j_X12_billOf_60
  refine go1 (M := mX12_billOf) (pc' := 61) (r_iconst (M := mX12_billOf) (v := 0) (by decide) dX12_billOf_60) ?_
  exact j_X12_billOf_61_t (N := N) hW (by omega) bk5 p0 p1 p2 p4 0 q0 x g0 hbk5
def lp_X12_billOf_5_b (N : Nat) (S : SH) (bk5 : Int32 → Int32 → Option Int32) (p0 : Nat) (p1 : Int32) (p2 : Int32) (p3 : Int32) (p4 : Int32) (x : DY) : Option Int32 :=
  (if (x.1 p0 1) ≤ p4 then some p3 else ck S (pr S p0 11) p4 ((if (x.1 (pr S p0 11) p4.toNatClampNeg) = 2 then ck S (pr S p0 12) p4 ((if (x.1 (pr S p0 12) p4.toNatClampNeg) = p1 then (if p2 = 0 then ck S (pr S p0 9) p4 (ck S (pr S p0 7) (x.1 (pr S p0 9) p4.toNatClampNeg) (j_X12_billOf_61 N S bk5 p0 p1 p2 p4 (x.1 (pr S p0 7) (x.1 (pr S p0 9) p4.toNatClampNeg).toNatClampNeg) p3 x)) else j_X12_billOf_61 N S bk5 p0 p1 p2 p4 1 p3 x) else j_X12_billOf_60 N S bk5 p0 p1 p2 p4 p3 x)) else j_X12_billOf_60 N S bk5 p0 p1 p2 p4 p3 x)))
set_option maxHeartbeats 1000000 in
theorem lp_X12_billOf_5_b_t {N d : Nat} {S : SH} (hW : WT S) (hd : 1 ≤ d) (bk5 : Int32 → Int32 → Option Int32) (p0 : Nat) (p1 : Int32) (p2 : Int32) (p3 : Int32) (p4 : Int32) (x : DY) (g0 : TY S p0 12) (hbk5 : ∀ (v3 : Int32) (v4 : Int32), Go mX12_billOf d S (wPI x) 5 [some (.ref p0), some (.int p1), some (.int p2), some (.int v3), some (.int v4)] [] x (bk5 v3 v4)) : Go mX12_billOf d S (wPI x) 5 [some (.ref p0), some (.int p1), some (.int p2), some (.int p3), some (.int p4)] [] x (lp_X12_billOf_5_b N S bk5 p0 p1 p2 p3 p4 x) := by
  unfold lp_X12_billOf_5_b
  refine go1 (M := mX12_billOf) (pc' := 7) (r_iload (M := mX12_billOf) (i := 4) rfl dX12_billOf_5) ?_
  refine go1 (M := mX12_billOf) (pc' := 8) (r_aload_n (M := mX12_billOf) (i := 0) rfl dX12_billOf_7) ?_
  refine go1 (M := mX12_billOf) (pc' := 11) (r_getI (M := mX12_billOf) fl_12_7 g0 rfl dX12_billOf_8) ?_
  refine go_br (M := mX12_billOf) (pt := 69) (pf := 14) (fun kt kf => r_icmp_ge (M := mX12_billOf) dX12_billOf_11 (by decide) kt kf) (fun hc2 => ?_) (fun hc2 => ?_)
  · refine go1 (M := mX12_billOf) (pc' := 70) (r_iload_n (M := mX12_billOf) (i := 3) rfl dX12_billOf_69) ?_
    exact go_iret (M := mX12_billOf) rfl rfl dX12_billOf_70
  · refine go1 (M := mX12_billOf) (pc' := 15) (r_iload_n (M := mX12_billOf) (i := 3) rfl dX12_billOf_14) ?_
    refine go1 (M := mX12_billOf) (pc' := 16) (r_aload_n (M := mX12_billOf) (i := 0) rfl dX12_billOf_15) ?_
    refine go1 (M := mX12_billOf) (pc' := 19) (r_getR (M := mX12_billOf) fl_12_41 g0 rfl (wt_some hW g0 (by decide) (by decide) rfl) dX12_billOf_16) ?_
    have hT3 : TY S (pr S p0 11) 14 := wt hW g0 (by decide) (by decide) rfl (by decide)
    refine go1 (M := mX12_billOf) (pc' := 21) (r_iload (M := mX12_billOf) (i := 4) rfl dX12_billOf_19) ?_
    refine go_ck (fun hi4 => ?_)
    refine go1 (M := mX12_billOf) (pc' := 22) (r_iald (M := mX12_billOf) hT3 hi4 dX12_billOf_21) ?_
    refine go1 (M := mX12_billOf) (pc' := 23) (r_iconst (M := mX12_billOf) (v := 2) (by decide) dX12_billOf_22) ?_
    refine go_br (M := mX12_billOf) (pt := 26) (pf := 60) (fun kt kf => r_icmp_ne (M := mX12_billOf) dX12_billOf_23 (by decide) kf kt) (fun hc5 => ?_) (fun hc5 => ?_)
    · refine go1 (M := mX12_billOf) (pc' := 27) (r_aload_n (M := mX12_billOf) (i := 0) rfl dX12_billOf_26) ?_
      refine go1 (M := mX12_billOf) (pc' := 30) (r_getR (M := mX12_billOf) fl_12_44 g0 rfl (wt_some hW g0 (by decide) (by decide) rfl) dX12_billOf_27) ?_
      have hT6 : TY S (pr S p0 12) 14 := wt hW g0 (by decide) (by decide) rfl (by decide)
      refine go1 (M := mX12_billOf) (pc' := 32) (r_iload (M := mX12_billOf) (i := 4) rfl dX12_billOf_30) ?_
      refine go_ck (fun hi7 => ?_)
      refine go1 (M := mX12_billOf) (pc' := 33) (r_iald (M := mX12_billOf) hT6 hi7 dX12_billOf_32) ?_
      refine go1 (M := mX12_billOf) (pc' := 34) (r_iload_n (M := mX12_billOf) (i := 1) rfl dX12_billOf_33) ?_
      refine go_br (M := mX12_billOf) (pt := 37) (pf := 60) (fun kt kf => r_icmp_ne (M := mX12_billOf) dX12_billOf_34 (by decide) kf kt) (fun hc8 => ?_) (fun hc8 => ?_)
      · refine go1 (M := mX12_billOf) (pc' := 38) (r_iload_n (M := mX12_billOf) (i := 2) rfl dX12_billOf_37) ?_
        refine go_br (M := mX12_billOf) (pt := 45) (pf := 41) (fun kt kf => r_if_eq (M := mX12_billOf) dX12_billOf_38 (by decide) kt kf) (fun hc9 => ?_) (fun hc9 => ?_)
        · refine go1 (M := mX12_billOf) (pc' := 46) (r_aload_n (M := mX12_billOf) (i := 0) rfl dX12_billOf_45) ?_
          refine go1 (M := mX12_billOf) (pc' := 49) (r_getR (M := mX12_billOf) fl_12_29 g0 rfl (wt_some hW g0 (by decide) (by decide) rfl) dX12_billOf_46) ?_
          have hT10 : TY S (pr S p0 7) 14 := wt hW g0 (by decide) (by decide) rfl (by decide)
          refine go1 (M := mX12_billOf) (pc' := 50) (r_aload_n (M := mX12_billOf) (i := 0) rfl dX12_billOf_49) ?_
          refine go1 (M := mX12_billOf) (pc' := 53) (r_getR (M := mX12_billOf) fl_12_35 g0 rfl (wt_some hW g0 (by decide) (by decide) rfl) dX12_billOf_50) ?_
          have hT11 : TY S (pr S p0 9) 14 := wt hW g0 (by decide) (by decide) rfl (by decide)
          refine go1 (M := mX12_billOf) (pc' := 55) (r_iload (M := mX12_billOf) (i := 4) rfl dX12_billOf_53) ?_
          refine go_ck (fun hi12 => ?_)
          refine go1 (M := mX12_billOf) (pc' := 56) (r_iald (M := mX12_billOf) hT11 hi12 dX12_billOf_55) ?_
          refine go_ck (fun hi13 => ?_)
          refine go1 (M := mX12_billOf) (pc' := 57) (r_iald (M := mX12_billOf) hT10 hi13 dX12_billOf_56) ?_
          refine go1 (M := mX12_billOf) (pc' := 61) (r_goto (M := mX12_billOf) dX12_billOf_57 (by decide)) ?_
          refine go_drop (ls' := [some (.ref p0), some (.int p1), some (.int p2), none, some (.int p4)]) (And.intro rfl (And.intro rfl (And.intro rfl (And.intro rfl trivial)))) ?_
          exact j_X12_billOf_61_t (N := N) hW (by omega) bk5 p0 p1 p2 p4 (x.1 (pr S p0 7) (x.1 (pr S p0 9) p4.toNatClampNeg).toNatClampNeg) p3 x g0 hbk5
        · refine go1 (M := mX12_billOf) (pc' := 42) (r_iconst (M := mX12_billOf) (v := 1) (by decide) dX12_billOf_41) ?_
          refine go1 (M := mX12_billOf) (pc' := 61) (r_goto (M := mX12_billOf) dX12_billOf_42 (by decide)) ?_
          refine go_drop (ls' := [some (.ref p0), some (.int p1), some (.int p2), none, some (.int p4)]) (And.intro rfl (And.intro rfl (And.intro rfl (And.intro rfl trivial)))) ?_
          exact j_X12_billOf_61_t (N := N) hW (by omega) bk5 p0 p1 p2 p4 1 p3 x g0 hbk5
      · refine go_drop (ls' := [some (.ref p0), some (.int p1), some (.int p2), none, some (.int p4)]) (And.intro rfl (And.intro rfl (And.intro rfl (And.intro rfl trivial)))) ?_
        exact j_X12_billOf_60_t (N := N) hW (by omega) bk5 p0 p1 p2 p4 p3 x g0 hbk5
    · refine go_drop (ls' := [some (.ref p0), some (.int p1), some (.int p2), none, some (.int p4)]) (And.intro rfl (And.intro rfl (And.intro rfl (And.intro rfl trivial)))) ?_
      exact j_X12_billOf_60_t (N := N) hW (by omega) bk5 p0 p1 p2 p4 p3 x g0 hbk5
def lp_X12_billOf_5 (N : Nat) (S : SH) (p0 : Nat) (p1 : Int32) (p2 : Int32) (p3 : Int32) (p4 : Int32) (x : DY) : Option Int32 :=
  itr (fun back (v : Int32 × Int32) => lp_X12_billOf_5_b N S (fun p3 p4 => back (p3, p4)) p0 p1 p2 v.1 v.2 x) N (p3, p4)
theorem lp_X12_billOf_5_t {N d : Nat} {S : SH} (hW : WT S) (hd : 1 ≤ d) (p0 : Nat) (p1 : Int32) (p2 : Int32) (p3 : Int32) (p4 : Int32) (x : DY) (g0 : TY S p0 12) : Go mX12_billOf d S (wPI x) 5 [some (.ref p0), some (.int p1), some (.int p2), some (.int p3), some (.int p4)] [] x (lp_X12_billOf_5 N S p0 p1 p2 p3 p4 x) := by
  unfold lp_X12_billOf_5
  exact go_itr (L := fun (v : Int32 × Int32) => [some (.ref p0), some (.int p1), some (.int p2), some (.int v.1), some (.int v.2)]) (X := fun (v : Int32 × Int32) => x) (fun back hB v => lp_X12_billOf_5_b_t (N := N) hW hd (fun p3 p4 => back (p3, p4)) p0 p1 p2 v.1 v.2 x g0 (fun p3 p4 => hB (p3, p4)) ) N (p3, p4)
def f_X12_billOf (N : Nat) (S : SH) (a0 : Nat) (a1 : Int32) (a2 : Int32) (x : DY) : Option Int32 :=
  lp_X12_billOf_5 N S a0 a1 a2 0 0 x
set_option maxHeartbeats 1000000 in
theorem t_X12_billOf {N d : Nat} {S : SH} (hW : WT S) {x : DY} {a0 : Nat} {a1 : Int32} {a2 : Int32} (hd : 1 ≤ d) (h0 : TY S a0 12) : CT mX12_billOf d S [.ref a0, .int a1, .int a2] x (wPI x) (f_X12_billOf N S a0 a1 a2 x) := by
  refine CT.of [some (.ref a0), some (.int a1), some (.int a2), none, none] rfl (Nat.le_of_ble_eq_true rfl) (by decide +kernel) ?_
  unfold f_X12_billOf
  refine go1 (M := mX12_billOf) (pc' := 1) (r_iconst (M := mX12_billOf) (v := 0) (by decide) dX12_billOf_0) ?_
  refine go1 (M := mX12_billOf) (pc' := 2) (ls' := [some (.ref a0), some (.int a1), some (.int a2), some (.int 0), none]) (r_istore_n (M := mX12_billOf) (ls := [some (.ref a0), some (.int a1), some (.int a2), none, none]) (i := 3) (v := 0) (by decide) rfl dX12_billOf_1) ?_
  refine go1 (M := mX12_billOf) (pc' := 3) (r_iconst (M := mX12_billOf) (v := 0) (by decide) dX12_billOf_2) ?_
  refine go1 (M := mX12_billOf) (pc' := 5) (ls' := [some (.ref a0), some (.int a1), some (.int a2), some (.int 0), some (.int 0)]) (r_istore (M := mX12_billOf) (ls := [some (.ref a0), some (.int a1), some (.int a2), some (.int 0), none]) (i := 4) (v := 0) (by decide) rfl dX12_billOf_3) ?_
  refine lp_X12_billOf_5_t (N := N) hW (by omega) a0 a1 a2 0 0 x h0
def j_X12_seatTold_56 (N : Nat) (S : SH) (q0 : Int32) (q1 : Int32) (q2 : Nat) (x : DY) : Option Int32 :=
  Option.bind (f_X12_billOf N S q2 q1 q0 x) (fun r8 => some r8)
set_option maxHeartbeats 1000000 in
theorem j_X12_seatTold_56_t {N d : Nat} {S : SH} (hW : WT S) (hd : 3 ≤ d) (q0 : Int32) (q1 : Int32) (q2 : Nat) (x : DY) (gq2 : TY S q2 12) : Go mX12_seatTold d S (wPI x) 56 [none, none, none] [.int q0, .int q1, .ref q2] x (j_X12_seatTold_56 N S q0 q1 q2 x) := by
  unfold j_X12_seatTold_56
  refine go_V_PI (M := mX12_seatTold) (pc' := 59) (st := []) (As := [.int q1, .int q0]) rfl ln_12_243 lb_X12_billOf (t_X12_billOf (N := N) hW (by omega) gq2) (by omega) gq2 (Nat.le_of_ble_eq_true rfl) rfl dX12_seatTold_56 (fun r8 => ?_)
  exact go_iret (M := mX12_seatTold) rfl rfl dX12_seatTold_59
def j_X12_seatTold_44 (N : Nat) (S : SH) (p0 : Nat) (p1 : Int32) (p2 : Int32) (x : DY) : Option Int32 :=
  (if p2 = 5 then j_X12_seatTold_56 N S 1 p1 p0 x else j_X12_seatTold_56 N S 0 p1 p0 x)
set_option maxHeartbeats 1000000 in
theorem j_X12_seatTold_44_t {N d : Nat} {S : SH} (hW : WT S) (hd : 3 ≤ d) (p0 : Nat) (p1 : Int32) (p2 : Int32) (x : DY) (g0 : TY S p0 12) : Go mX12_seatTold d S (wPI x) 44 [some (.ref p0), some (.int p1), some (.int p2)] [] x (j_X12_seatTold_44 N S p0 p1 p2 x) := by
  unfold j_X12_seatTold_44
  refine go1 (M := mX12_seatTold) (pc' := 45) (r_aload_n (M := mX12_seatTold) (i := 0) rfl dX12_seatTold_44) ?_
  refine go1 (M := mX12_seatTold) (pc' := 46) (r_iload_n (M := mX12_seatTold) (i := 1) rfl dX12_seatTold_45) ?_
  refine go1 (M := mX12_seatTold) (pc' := 47) (r_iload_n (M := mX12_seatTold) (i := 2) rfl dX12_seatTold_46) ?_
  refine go1 (M := mX12_seatTold) (pc' := 48) (r_iconst (M := mX12_seatTold) (v := 5) (by decide) dX12_seatTold_47) ?_
  refine go_br (M := mX12_seatTold) (pt := 51) (pf := 55) (fun kt kf => r_icmp_ne (M := mX12_seatTold) dX12_seatTold_48 (by decide) kf kt) (fun hc7 => ?_) (fun hc7 => ?_)
  · refine go1 (M := mX12_seatTold) (pc' := 52) (r_iconst (M := mX12_seatTold) (v := 1) (by decide) dX12_seatTold_51) ?_
    refine go1 (M := mX12_seatTold) (pc' := 56) (r_goto (M := mX12_seatTold) dX12_seatTold_52 (by decide)) ?_
    refine go_drop (ls' := [none, none, none]) trivial ?_
    exact j_X12_seatTold_56_t (N := N) hW (by omega) 1 p1 p0 x g0
  · refine go1 (M := mX12_seatTold) (pc' := 56) (r_iconst (M := mX12_seatTold) (v := 0) (by decide) dX12_seatTold_55) ?_
    refine go_drop (ls' := [none, none, none]) trivial ?_
    exact j_X12_seatTold_56_t (N := N) hW (by omega) 0 p1 p0 x g0
def f_X12_seatTold (N : Nat) (S : SH) (a0 : Nat) (a1 : Int32) (a2 : Int32) (x : DY) : Option Int32 :=
  Option.bind (f_X12_isSeat N S a0 a1 x) (fun r1 => (if r1 = 0 then some (-2) else Option.bind (f_X12_in N S a0 a2 0 7 x) (fun r3 => (if r3 = 0 then some (-2) else (if a2 = 0 then ck S (pr S a0 19) a1 (some (x.1 (pr S a0 19) a1.toNatClampNeg)) else (if a2 = 5 then j_X12_seatTold_44 N S a0 a1 a2 x else (if a2 = 6 then j_X12_seatTold_44 N S a0 a1 a2 x else ck S (pr S a0 26) a1 ((if (x.1 (pr S a0 26) a1.toNatClampNeg) = 0 then some (-1) else (if a2 = 1 then ck S (pr S a0 20) a1 (some (x.1 (pr S a0 20) a1.toNatClampNeg)) else (if a2 = 2 then ck S (pr S a0 21) a1 (some (x.1 (pr S a0 21) a1.toNatClampNeg)) else (if a2 = 3 then ck S (pr S a0 22) a1 (some (x.1 (pr S a0 22) a1.toNatClampNeg)) else (if a2 = 4 then ck S (pr S a0 20) a1 (Option.bind (f_X12_roomOf N S a0 (x.1 (pr S a0 20) a1.toNatClampNeg) x) (fun r21 => some r21)) else ck S (pr S a0 23) a1 (some (x.1 (pr S a0 23) a1.toNatClampNeg)))))))))))))))
set_option maxHeartbeats 1000000 in
theorem t_X12_seatTold {N d : Nat} {S : SH} (hW : WT S) {x : DY} {a0 : Nat} {a1 : Int32} {a2 : Int32} (hd : 3 ≤ d) (h0 : TY S a0 12) : CT mX12_seatTold d S [.ref a0, .int a1, .int a2] x (wPI x) (f_X12_seatTold N S a0 a1 a2 x) := by
  refine CT.of [some (.ref a0), some (.int a1), some (.int a2)] rfl (Nat.le_of_ble_eq_true rfl) (by decide +kernel) ?_
  unfold f_X12_seatTold
  refine go1 (M := mX12_seatTold) (pc' := 1) (r_aload_n (M := mX12_seatTold) (i := 0) rfl dX12_seatTold_0) ?_
  refine go1 (M := mX12_seatTold) (pc' := 2) (r_iload_n (M := mX12_seatTold) (i := 1) rfl dX12_seatTold_1) ?_
  refine go_V_PI (M := mX12_seatTold) (pc' := 5) (st := []) (As := [.int a1]) rfl ln_12_239 lb_X12_isSeat (t_X12_isSeat (N := N) hW (by omega) h0) (by omega) h0 (Nat.le_of_ble_eq_true rfl) rfl dX12_seatTold_2 (fun r1 => ?_)
  refine go_br (M := mX12_seatTold) (pt := 19) (pf := 8) (fun kt kf => r_if_eq (M := mX12_seatTold) dX12_seatTold_5 (by decide) kt kf) (fun hc2 => ?_) (fun hc2 => ?_)
  · refine go1 (M := mX12_seatTold) (pc' := 21) (r_bipush (M := mX12_seatTold) (v := (-2)) (by decide) dX12_seatTold_19) ?_
    exact go_iret (M := mX12_seatTold) rfl rfl dX12_seatTold_21
  · refine go1 (M := mX12_seatTold) (pc' := 9) (r_aload_n (M := mX12_seatTold) (i := 0) rfl dX12_seatTold_8) ?_
    refine go1 (M := mX12_seatTold) (pc' := 10) (r_iload_n (M := mX12_seatTold) (i := 2) rfl dX12_seatTold_9) ?_
    refine go1 (M := mX12_seatTold) (pc' := 11) (r_iconst (M := mX12_seatTold) (v := 0) (by decide) dX12_seatTold_10) ?_
    refine go1 (M := mX12_seatTold) (pc' := 13) (r_bipush (M := mX12_seatTold) (v := 7) (by decide) dX12_seatTold_11) ?_
    refine go_V_PI (M := mX12_seatTold) (pc' := 16) (st := []) (As := [.int a2, .int 0, .int 7]) rfl ln_12_217 lb_X12_in (t_X12_in (N := N) hW (by omega) h0) (by omega) h0 (Nat.le_of_ble_eq_true rfl) rfl dX12_seatTold_13 (fun r3 => ?_)
    refine go_br (M := mX12_seatTold) (pt := 19) (pf := 22) (fun kt kf => r_if_ne (M := mX12_seatTold) dX12_seatTold_16 (by decide) kf kt) (fun hc4 => ?_) (fun hc4 => ?_)
    · refine go1 (M := mX12_seatTold) (pc' := 21) (r_bipush (M := mX12_seatTold) (v := (-2)) (by decide) dX12_seatTold_19) ?_
      exact go_iret (M := mX12_seatTold) rfl rfl dX12_seatTold_21
    · refine go1 (M := mX12_seatTold) (pc' := 23) (r_iload_n (M := mX12_seatTold) (i := 2) rfl dX12_seatTold_22) ?_
      refine go_br (M := mX12_seatTold) (pt := 26) (pf := 33) (fun kt kf => r_if_ne (M := mX12_seatTold) dX12_seatTold_23 (by decide) kf kt) (fun hc5 => ?_) (fun hc5 => ?_)
      · refine go1 (M := mX12_seatTold) (pc' := 27) (r_aload_n (M := mX12_seatTold) (i := 0) rfl dX12_seatTold_26) ?_
        refine go1 (M := mX12_seatTold) (pc' := 30) (r_getR (M := mX12_seatTold) fl_12_65 h0 rfl (wt_some hW h0 (by decide) (by decide) rfl) dX12_seatTold_27) ?_
        have hT28 : TY S (pr S a0 19) 14 := wt hW h0 (by decide) (by decide) rfl (by decide)
        refine go1 (M := mX12_seatTold) (pc' := 31) (r_iload_n (M := mX12_seatTold) (i := 1) rfl dX12_seatTold_30) ?_
        refine go_ck (fun hi29 => ?_)
        refine go1 (M := mX12_seatTold) (pc' := 32) (r_iald (M := mX12_seatTold) hT28 hi29 dX12_seatTold_31) ?_
        exact go_iret (M := mX12_seatTold) rfl rfl dX12_seatTold_32
      · refine go1 (M := mX12_seatTold) (pc' := 34) (r_iload_n (M := mX12_seatTold) (i := 2) rfl dX12_seatTold_33) ?_
        refine go1 (M := mX12_seatTold) (pc' := 35) (r_iconst (M := mX12_seatTold) (v := 5) (by decide) dX12_seatTold_34) ?_
        refine go_br (M := mX12_seatTold) (pt := 44) (pf := 38) (fun kt kf => r_icmp_eq (M := mX12_seatTold) dX12_seatTold_35 (by decide) kt kf) (fun hc6 => ?_) (fun hc6 => ?_)
        · exact j_X12_seatTold_44_t (N := N) hW (by omega) a0 a1 a2 x h0
        · refine go1 (M := mX12_seatTold) (pc' := 39) (r_iload_n (M := mX12_seatTold) (i := 2) rfl dX12_seatTold_38) ?_
          refine go1 (M := mX12_seatTold) (pc' := 41) (r_bipush (M := mX12_seatTold) (v := 6) (by decide) dX12_seatTold_39) ?_
          refine go_br (M := mX12_seatTold) (pt := 44) (pf := 60) (fun kt kf => r_icmp_ne (M := mX12_seatTold) dX12_seatTold_41 (by decide) kf kt) (fun hc9 => ?_) (fun hc9 => ?_)
          · exact j_X12_seatTold_44_t (N := N) hW (by omega) a0 a1 a2 x h0
          · refine go1 (M := mX12_seatTold) (pc' := 61) (r_aload_n (M := mX12_seatTold) (i := 0) rfl dX12_seatTold_60) ?_
            refine go1 (M := mX12_seatTold) (pc' := 64) (r_getR (M := mX12_seatTold) fl_12_86 h0 rfl (wt_some hW h0 (by decide) (by decide) rfl) dX12_seatTold_61) ?_
            have hT10 : TY S (pr S a0 26) 15 := wt hW h0 (by decide) (by decide) rfl (by decide)
            refine go1 (M := mX12_seatTold) (pc' := 65) (r_iload_n (M := mX12_seatTold) (i := 1) rfl dX12_seatTold_64) ?_
            refine go_ck (fun hi11 => ?_)
            refine go1 (M := mX12_seatTold) (pc' := 66) (r_zald (M := mX12_seatTold) hT10 hi11 dX12_seatTold_65) ?_
            refine go_br (M := mX12_seatTold) (pt := 69) (pf := 71) (fun kt kf => r_if_ne (M := mX12_seatTold) dX12_seatTold_66 (by decide) kf kt) (fun hc12 => ?_) (fun hc12 => ?_)
            · refine go1 (M := mX12_seatTold) (pc' := 70) (r_iconst (M := mX12_seatTold) (v := (-1)) (by decide) dX12_seatTold_69) ?_
              exact go_iret (M := mX12_seatTold) rfl rfl dX12_seatTold_70
            · refine go1 (M := mX12_seatTold) (pc' := 72) (r_iload_n (M := mX12_seatTold) (i := 2) rfl dX12_seatTold_71) ?_
              refine go1 (M := mX12_seatTold) (pc' := 73) (r_iconst (M := mX12_seatTold) (v := 1) (by decide) dX12_seatTold_72) ?_
              refine go_br (M := mX12_seatTold) (pt := 76) (pf := 85) (fun kt kf => r_icmp_ne (M := mX12_seatTold) dX12_seatTold_73 (by decide) kf kt) (fun hc13 => ?_) (fun hc13 => ?_)
              · refine go1 (M := mX12_seatTold) (pc' := 77) (r_aload_n (M := mX12_seatTold) (i := 0) rfl dX12_seatTold_76) ?_
                refine go1 (M := mX12_seatTold) (pc' := 80) (r_getR (M := mX12_seatTold) fl_12_68 h0 rfl (wt_some hW h0 (by decide) (by decide) rfl) dX12_seatTold_77) ?_
                have hT26 : TY S (pr S a0 20) 14 := wt hW h0 (by decide) (by decide) rfl (by decide)
                refine go1 (M := mX12_seatTold) (pc' := 81) (r_iload_n (M := mX12_seatTold) (i := 1) rfl dX12_seatTold_80) ?_
                refine go_ck (fun hi27 => ?_)
                refine go1 (M := mX12_seatTold) (pc' := 82) (r_iald (M := mX12_seatTold) hT26 hi27 dX12_seatTold_81) ?_
                refine go1 (M := mX12_seatTold) (pc' := 137) (r_goto (M := mX12_seatTold) dX12_seatTold_82 (by decide)) ?_
                exact go_iret (M := mX12_seatTold) rfl rfl dX12_seatTold_137
              · refine go1 (M := mX12_seatTold) (pc' := 86) (r_iload_n (M := mX12_seatTold) (i := 2) rfl dX12_seatTold_85) ?_
                refine go1 (M := mX12_seatTold) (pc' := 87) (r_iconst (M := mX12_seatTold) (v := 2) (by decide) dX12_seatTold_86) ?_
                refine go_br (M := mX12_seatTold) (pt := 90) (pf := 99) (fun kt kf => r_icmp_ne (M := mX12_seatTold) dX12_seatTold_87 (by decide) kf kt) (fun hc14 => ?_) (fun hc14 => ?_)
                · refine go1 (M := mX12_seatTold) (pc' := 91) (r_aload_n (M := mX12_seatTold) (i := 0) rfl dX12_seatTold_90) ?_
                  refine go1 (M := mX12_seatTold) (pc' := 94) (r_getR (M := mX12_seatTold) fl_12_71 h0 rfl (wt_some hW h0 (by decide) (by decide) rfl) dX12_seatTold_91) ?_
                  have hT24 : TY S (pr S a0 21) 14 := wt hW h0 (by decide) (by decide) rfl (by decide)
                  refine go1 (M := mX12_seatTold) (pc' := 95) (r_iload_n (M := mX12_seatTold) (i := 1) rfl dX12_seatTold_94) ?_
                  refine go_ck (fun hi25 => ?_)
                  refine go1 (M := mX12_seatTold) (pc' := 96) (r_iald (M := mX12_seatTold) hT24 hi25 dX12_seatTold_95) ?_
                  refine go1 (M := mX12_seatTold) (pc' := 137) (r_goto (M := mX12_seatTold) dX12_seatTold_96 (by decide)) ?_
                  exact go_iret (M := mX12_seatTold) rfl rfl dX12_seatTold_137
                · refine go1 (M := mX12_seatTold) (pc' := 100) (r_iload_n (M := mX12_seatTold) (i := 2) rfl dX12_seatTold_99) ?_
                  refine go1 (M := mX12_seatTold) (pc' := 101) (r_iconst (M := mX12_seatTold) (v := 3) (by decide) dX12_seatTold_100) ?_
                  refine go_br (M := mX12_seatTold) (pt := 104) (pf := 113) (fun kt kf => r_icmp_ne (M := mX12_seatTold) dX12_seatTold_101 (by decide) kf kt) (fun hc15 => ?_) (fun hc15 => ?_)
                  · refine go1 (M := mX12_seatTold) (pc' := 105) (r_aload_n (M := mX12_seatTold) (i := 0) rfl dX12_seatTold_104) ?_
                    refine go1 (M := mX12_seatTold) (pc' := 108) (r_getR (M := mX12_seatTold) fl_12_74 h0 rfl (wt_some hW h0 (by decide) (by decide) rfl) dX12_seatTold_105) ?_
                    have hT22 : TY S (pr S a0 22) 14 := wt hW h0 (by decide) (by decide) rfl (by decide)
                    refine go1 (M := mX12_seatTold) (pc' := 109) (r_iload_n (M := mX12_seatTold) (i := 1) rfl dX12_seatTold_108) ?_
                    refine go_ck (fun hi23 => ?_)
                    refine go1 (M := mX12_seatTold) (pc' := 110) (r_iald (M := mX12_seatTold) hT22 hi23 dX12_seatTold_109) ?_
                    refine go1 (M := mX12_seatTold) (pc' := 137) (r_goto (M := mX12_seatTold) dX12_seatTold_110 (by decide)) ?_
                    exact go_iret (M := mX12_seatTold) rfl rfl dX12_seatTold_137
                  · refine go1 (M := mX12_seatTold) (pc' := 114) (r_iload_n (M := mX12_seatTold) (i := 2) rfl dX12_seatTold_113) ?_
                    refine go1 (M := mX12_seatTold) (pc' := 115) (r_iconst (M := mX12_seatTold) (v := 4) (by decide) dX12_seatTold_114) ?_
                    refine go_br (M := mX12_seatTold) (pt := 118) (pf := 131) (fun kt kf => r_icmp_ne (M := mX12_seatTold) dX12_seatTold_115 (by decide) kf kt) (fun hc16 => ?_) (fun hc16 => ?_)
                    · refine go1 (M := mX12_seatTold) (pc' := 119) (r_aload_n (M := mX12_seatTold) (i := 0) rfl dX12_seatTold_118) ?_
                      refine go1 (M := mX12_seatTold) (pc' := 120) (r_aload_n (M := mX12_seatTold) (i := 0) rfl dX12_seatTold_119) ?_
                      refine go1 (M := mX12_seatTold) (pc' := 123) (r_getR (M := mX12_seatTold) fl_12_68 h0 rfl (wt_some hW h0 (by decide) (by decide) rfl) dX12_seatTold_120) ?_
                      have hT19 : TY S (pr S a0 20) 14 := wt hW h0 (by decide) (by decide) rfl (by decide)
                      refine go1 (M := mX12_seatTold) (pc' := 124) (r_iload_n (M := mX12_seatTold) (i := 1) rfl dX12_seatTold_123) ?_
                      refine go_ck (fun hi20 => ?_)
                      refine go1 (M := mX12_seatTold) (pc' := 125) (r_iald (M := mX12_seatTold) hT19 hi20 dX12_seatTold_124) ?_
                      refine go_V_PI (M := mX12_seatTold) (pc' := 128) (st := []) (As := [.int (x.1 (pr S a0 20) a1.toNatClampNeg)]) rfl ln_12_247 lb_X12_roomOf (t_X12_roomOf (N := N) hW (by omega) h0) (by omega) h0 (Nat.le_of_ble_eq_true rfl) rfl dX12_seatTold_125 (fun r21 => ?_)
                      refine go1 (M := mX12_seatTold) (pc' := 137) (r_goto (M := mX12_seatTold) dX12_seatTold_128 (by decide)) ?_
                      exact go_iret (M := mX12_seatTold) rfl rfl dX12_seatTold_137
                    · refine go1 (M := mX12_seatTold) (pc' := 132) (r_aload_n (M := mX12_seatTold) (i := 0) rfl dX12_seatTold_131) ?_
                      refine go1 (M := mX12_seatTold) (pc' := 135) (r_getR (M := mX12_seatTold) fl_12_77 h0 rfl (wt_some hW h0 (by decide) (by decide) rfl) dX12_seatTold_132) ?_
                      have hT17 : TY S (pr S a0 23) 14 := wt hW h0 (by decide) (by decide) rfl (by decide)
                      refine go1 (M := mX12_seatTold) (pc' := 136) (r_iload_n (M := mX12_seatTold) (i := 1) rfl dX12_seatTold_135) ?_
                      refine go_ck (fun hi18 => ?_)
                      refine go1 (M := mX12_seatTold) (pc' := 137) (r_iald (M := mX12_seatTold) hT17 hi18 dX12_seatTold_136) ?_
                      exact go_iret (M := mX12_seatTold) rfl rfl dX12_seatTold_137
def f_X12_liking (N : Nat) (S : SH) (a0 : Nat) (a1 : Int32) (a2 : Int32) (x : DY) : Option Int64 :=
  Option.bind (f_X12_isSat N S a0 a1 x) (fun r1 => (if r1 = 0 then some (-4611686018427387904) else Option.bind (f_X12_isPlate N S a0 a2 x) (fun r3 => (if r3 = 0 then some (-4611686018427387904) else Option.bind (f_X12_liked N S a0 a1 a2 x) (fun r5 => some ((r5).toInt64))))))
set_option maxHeartbeats 1000000 in
theorem t_X12_liking {N d : Nat} {S : SH} (hW : WT S) {x : DY} {a0 : Nat} {a1 : Int32} {a2 : Int32} (hd : 4 ≤ d) (h0 : TY S a0 12) : CT mX12_liking d S [.ref a0, .int a1, .int a2] x (wPL x) (f_X12_liking N S a0 a1 a2 x) := by
  refine CT.of [some (.ref a0), some (.int a1), some (.int a2)] rfl (Nat.le_of_ble_eq_true rfl) (by decide +kernel) ?_
  unfold f_X12_liking
  refine go1 (M := mX12_liking) (pc' := 1) (r_aload_n (M := mX12_liking) (i := 0) rfl dX12_liking_0) ?_
  refine go1 (M := mX12_liking) (pc' := 2) (r_iload_n (M := mX12_liking) (i := 1) rfl dX12_liking_1) ?_
  refine go_V_PI (M := mX12_liking) (pc' := 5) (st := []) (As := [.int a1]) rfl ln_12_251 lb_X12_isSat (t_X12_isSat (N := N) hW (by omega) h0) (by omega) h0 (Nat.le_of_ble_eq_true rfl) rfl dX12_liking_2 (fun r1 => ?_)
  refine go_br (M := mX12_liking) (pt := 26) (pf := 8) (fun kt kf => r_if_eq (M := mX12_liking) dX12_liking_5 (by decide) kt kf) (fun hc2 => ?_) (fun hc2 => ?_)
  · refine go1 (M := mX12_liking) (pc' := 29) (r_ldc2 (M := mX12_liking) (v := (-4611686018427387904)) (tb6 149 (by decide +kernel) rfl) dX12_liking_26) ?_
    exact go_lret (M := mX12_liking) rfl rfl dX12_liking_29
  · refine go1 (M := mX12_liking) (pc' := 9) (r_aload_n (M := mX12_liking) (i := 0) rfl dX12_liking_8) ?_
    refine go1 (M := mX12_liking) (pc' := 10) (r_iload_n (M := mX12_liking) (i := 2) rfl dX12_liking_9) ?_
    refine go_V_PI (M := mX12_liking) (pc' := 13) (st := []) (As := [.int a2]) rfl ln_12_229 lb_X12_isPlate (t_X12_isPlate (N := N) hW (by omega) h0) (by omega) h0 (Nat.le_of_ble_eq_true rfl) rfl dX12_liking_10 (fun r3 => ?_)
    refine go_br (M := mX12_liking) (pt := 26) (pf := 16) (fun kt kf => r_if_eq (M := mX12_liking) dX12_liking_13 (by decide) kt kf) (fun hc4 => ?_) (fun hc4 => ?_)
    · refine go1 (M := mX12_liking) (pc' := 29) (r_ldc2 (M := mX12_liking) (v := (-4611686018427387904)) (tb6 149 (by decide +kernel) rfl) dX12_liking_26) ?_
      exact go_lret (M := mX12_liking) rfl rfl dX12_liking_29
    · refine go1 (M := mX12_liking) (pc' := 17) (r_aload_n (M := mX12_liking) (i := 0) rfl dX12_liking_16) ?_
      refine go1 (M := mX12_liking) (pc' := 18) (r_iload_n (M := mX12_liking) (i := 1) rfl dX12_liking_17) ?_
      refine go1 (M := mX12_liking) (pc' := 19) (r_iload_n (M := mX12_liking) (i := 2) rfl dX12_liking_18) ?_
      refine go_V_PI (M := mX12_liking) (pc' := 22) (st := []) (As := [.int a1, .int a2]) rfl ln_12_254 lb_X12_liked (t_X12_liked (N := N) hW (by omega) h0) (by omega) h0 (Nat.le_of_ble_eq_true rfl) rfl dX12_liking_19 (fun r5 => ?_)
      refine go1 (M := mX12_liking) (pc' := 23) (r_i2l (M := mX12_liking) dX12_liking_22) ?_
      refine go1 (M := mX12_liking) (pc' := 29) (r_goto (M := mX12_liking) dX12_liking_23 (by decide)) ?_
      exact go_lret (M := mX12_liking) rfl rfl dX12_liking_29
def j_X12_pays_55 (N : Nat) (S : SH) (p0 : Nat) (p1 : Int32) (p2 : Int32) (x : DY) : Option (Int32 × DY) :=
  ck S (pr S p0 23) p1 (ck S (pr S p0 23) p1 (bl (U1 x (pr S p0 23) p1.toNatClampNeg p2) (fun x12 => some ((x.1 (pr S p0 23) p1.toNatClampNeg), x12))))
set_option maxHeartbeats 1000000 in
theorem j_X12_pays_55_t {N d : Nat} {S : SH} (hW : WT S) (hd : 3 ≤ d) (p0 : Nat) (p1 : Int32) (p2 : Int32) (x : DY) (g0 : TY S p0 12) : Go mX12_pays d S wSI 55 [some (.ref p0), some (.int p1), some (.int p2), none] [] x (j_X12_pays_55 N S p0 p1 p2 x) := by
  unfold j_X12_pays_55
  refine go1 (M := mX12_pays) (pc' := 56) (r_aload_n (M := mX12_pays) (i := 0) rfl dX12_pays_55) ?_
  refine go1 (M := mX12_pays) (pc' := 59) (r_getR (M := mX12_pays) fl_12_77 g0 rfl (wt_some hW g0 (by decide) (by decide) rfl) dX12_pays_56) ?_
  have hT9 : TY S (pr S p0 23) 14 := wt hW g0 (by decide) (by decide) rfl (by decide)
  refine go1 (M := mX12_pays) (pc' := 60) (r_iload_n (M := mX12_pays) (i := 1) rfl dX12_pays_59) ?_
  refine go_ck (fun hi10 => ?_)
  refine go1 (M := mX12_pays) (pc' := 61) (r_iald (M := mX12_pays) hT9 hi10 dX12_pays_60) ?_
  refine go1 (M := mX12_pays) (pc' := 62) (ls' := [some (.ref p0), some (.int p1), some (.int p2), some (.int (x.1 (pr S p0 23) p1.toNatClampNeg))]) (r_istore_n (M := mX12_pays) (ls := [some (.ref p0), some (.int p1), some (.int p2), none]) (i := 3) (v := (x.1 (pr S p0 23) p1.toNatClampNeg)) (by decide) rfl dX12_pays_61) ?_
  refine go1 (M := mX12_pays) (pc' := 63) (r_aload_n (M := mX12_pays) (i := 0) rfl dX12_pays_62) ?_
  refine go1 (M := mX12_pays) (pc' := 66) (r_getR (M := mX12_pays) fl_12_77 g0 rfl (wt_some hW g0 (by decide) (by decide) rfl) dX12_pays_63) ?_
  refine go1 (M := mX12_pays) (pc' := 67) (r_iload_n (M := mX12_pays) (i := 1) rfl dX12_pays_66) ?_
  refine go1 (M := mX12_pays) (pc' := 68) (r_iload_n (M := mX12_pays) (i := 2) rfl dX12_pays_67) ?_
  refine go_ck (fun hi11 => ?_)
  refine go1 (M := mX12_pays) (pc' := 69) (r_iast (M := mX12_pays) hT9 hi11 dX12_pays_68) ?_
  refine go_blx (fun x12 => ?_)
  refine go1 (M := mX12_pays) (pc' := 70) (r_iload_n (M := mX12_pays) (i := 3) rfl dX12_pays_69) ?_
  exact go_iret (M := mX12_pays) rfl rfl dX12_pays_70
def j_X12_pays_21 (N : Nat) (S : SH) (p0 : Nat) (p1 : Int32) (p2 : Int32) (x : DY) : Option (Int32 × DY) :=
  (if p1 = p2 then some ((-2), x) else ck S (pr S p0 26) p1 ((if (x.1 (pr S p0 26) p1.toNatClampNeg) = 0 then some ((-5), x) else (if p2 = (-1) then j_X12_pays_55 N S p0 p1 p2 x else ck S (pr S p0 26) p2 ((if (x.1 (pr S p0 26) p2.toNatClampNeg) = 0 then some ((-5), x) else j_X12_pays_55 N S p0 p1 p2 x))))))
set_option maxHeartbeats 1000000 in
theorem j_X12_pays_21_t {N d : Nat} {S : SH} (hW : WT S) (hd : 3 ≤ d) (p0 : Nat) (p1 : Int32) (p2 : Int32) (x : DY) (g0 : TY S p0 12) : Go mX12_pays d S wSI 21 [some (.ref p0), some (.int p1), some (.int p2), none] [] x (j_X12_pays_21 N S p0 p1 p2 x) := by
  unfold j_X12_pays_21
  refine go1 (M := mX12_pays) (pc' := 22) (r_iload_n (M := mX12_pays) (i := 1) rfl dX12_pays_21) ?_
  refine go1 (M := mX12_pays) (pc' := 23) (r_iload_n (M := mX12_pays) (i := 2) rfl dX12_pays_22) ?_
  refine go_br (M := mX12_pays) (pt := 26) (pf := 29) (fun kt kf => r_icmp_ne (M := mX12_pays) dX12_pays_23 (by decide) kf kt) (fun hc4 => ?_) (fun hc4 => ?_)
  · refine go1 (M := mX12_pays) (pc' := 28) (r_bipush (M := mX12_pays) (v := (-2)) (by decide) dX12_pays_26) ?_
    exact go_iret (M := mX12_pays) rfl rfl dX12_pays_28
  · refine go1 (M := mX12_pays) (pc' := 30) (r_aload_n (M := mX12_pays) (i := 0) rfl dX12_pays_29) ?_
    refine go1 (M := mX12_pays) (pc' := 33) (r_getR (M := mX12_pays) fl_12_86 g0 rfl (wt_some hW g0 (by decide) (by decide) rfl) dX12_pays_30) ?_
    have hT5 : TY S (pr S p0 26) 15 := wt hW g0 (by decide) (by decide) rfl (by decide)
    refine go1 (M := mX12_pays) (pc' := 34) (r_iload_n (M := mX12_pays) (i := 1) rfl dX12_pays_33) ?_
    refine go_ck (fun hi6 => ?_)
    refine go1 (M := mX12_pays) (pc' := 35) (r_zald (M := mX12_pays) hT5 hi6 dX12_pays_34) ?_
    refine go_br (M := mX12_pays) (pt := 52) (pf := 38) (fun kt kf => r_if_eq (M := mX12_pays) dX12_pays_35 (by decide) kt kf) (fun hc7 => ?_) (fun hc7 => ?_)
    · refine go1 (M := mX12_pays) (pc' := 54) (r_bipush (M := mX12_pays) (v := (-5)) (by decide) dX12_pays_52) ?_
      exact go_iret (M := mX12_pays) rfl rfl dX12_pays_54
    · refine go1 (M := mX12_pays) (pc' := 39) (r_iload_n (M := mX12_pays) (i := 2) rfl dX12_pays_38) ?_
      refine go1 (M := mX12_pays) (pc' := 40) (r_iconst (M := mX12_pays) (v := (-1)) (by decide) dX12_pays_39) ?_
      refine go_br (M := mX12_pays) (pt := 55) (pf := 43) (fun kt kf => r_icmp_eq (M := mX12_pays) dX12_pays_40 (by decide) kt kf) (fun hc8 => ?_) (fun hc8 => ?_)
      · exact j_X12_pays_55_t (N := N) hW (by omega) p0 p1 p2 x g0
      · refine go1 (M := mX12_pays) (pc' := 44) (r_aload_n (M := mX12_pays) (i := 0) rfl dX12_pays_43) ?_
        refine go1 (M := mX12_pays) (pc' := 47) (r_getR (M := mX12_pays) fl_12_86 g0 rfl (wt_some hW g0 (by decide) (by decide) rfl) dX12_pays_44) ?_
        refine go1 (M := mX12_pays) (pc' := 48) (r_iload_n (M := mX12_pays) (i := 2) rfl dX12_pays_47) ?_
        refine go_ck (fun hi13 => ?_)
        refine go1 (M := mX12_pays) (pc' := 49) (r_zald (M := mX12_pays) hT5 hi13 dX12_pays_48) ?_
        refine go_br (M := mX12_pays) (pt := 52) (pf := 55) (fun kt kf => r_if_ne (M := mX12_pays) dX12_pays_49 (by decide) kf kt) (fun hc14 => ?_) (fun hc14 => ?_)
        · refine go1 (M := mX12_pays) (pc' := 54) (r_bipush (M := mX12_pays) (v := (-5)) (by decide) dX12_pays_52) ?_
          exact go_iret (M := mX12_pays) rfl rfl dX12_pays_54
        · exact j_X12_pays_55_t (N := N) hW (by omega) p0 p1 p2 x g0
def f_X12_pays (N : Nat) (S : SH) (a0 : Nat) (a1 : Int32) (a2 : Int32) (x : DY) : Option (Int32 × DY) :=
  Option.bind (f_X12_isSeat N S a0 a1 x) (fun r1 => (if r1 = 0 then some ((-2), x) else (if a2 = (-1) then j_X12_pays_21 N S a0 a1 a2 x else Option.bind (f_X12_isSeat N S a0 a2 x) (fun r15 => (if r15 = 0 then some ((-2), x) else j_X12_pays_21 N S a0 a1 a2 x)))))
set_option maxHeartbeats 1000000 in
theorem t_X12_pays {N d : Nat} {S : SH} (hW : WT S) {x : DY} {a0 : Nat} {a1 : Int32} {a2 : Int32} (hd : 3 ≤ d) (h0 : TY S a0 12) : CT mX12_pays d S [.ref a0, .int a1, .int a2] x wSI (f_X12_pays N S a0 a1 a2 x) := by
  refine CT.of [some (.ref a0), some (.int a1), some (.int a2), none] rfl (Nat.le_of_ble_eq_true rfl) (by decide +kernel) ?_
  unfold f_X12_pays
  refine go1 (M := mX12_pays) (pc' := 1) (r_aload_n (M := mX12_pays) (i := 0) rfl dX12_pays_0) ?_
  refine go1 (M := mX12_pays) (pc' := 2) (r_iload_n (M := mX12_pays) (i := 1) rfl dX12_pays_1) ?_
  refine go_V_PI (M := mX12_pays) (pc' := 5) (st := []) (As := [.int a1]) rfl ln_12_239 lb_X12_isSeat (t_X12_isSeat (N := N) hW (by omega) h0) (by omega) h0 (Nat.le_of_ble_eq_true rfl) rfl dX12_pays_2 (fun r1 => ?_)
  refine go_br (M := mX12_pays) (pt := 26) (pf := 8) (fun kt kf => r_if_eq (M := mX12_pays) dX12_pays_5 (by decide) kt kf) (fun hc2 => ?_) (fun hc2 => ?_)
  · refine go1 (M := mX12_pays) (pc' := 28) (r_bipush (M := mX12_pays) (v := (-2)) (by decide) dX12_pays_26) ?_
    exact go_iret (M := mX12_pays) rfl rfl dX12_pays_28
  · refine go1 (M := mX12_pays) (pc' := 9) (r_iload_n (M := mX12_pays) (i := 2) rfl dX12_pays_8) ?_
    refine go1 (M := mX12_pays) (pc' := 10) (r_iconst (M := mX12_pays) (v := (-1)) (by decide) dX12_pays_9) ?_
    refine go_br (M := mX12_pays) (pt := 21) (pf := 13) (fun kt kf => r_icmp_eq (M := mX12_pays) dX12_pays_10 (by decide) kt kf) (fun hc3 => ?_) (fun hc3 => ?_)
    · exact j_X12_pays_21_t (N := N) hW (by omega) a0 a1 a2 x h0
    · refine go1 (M := mX12_pays) (pc' := 14) (r_aload_n (M := mX12_pays) (i := 0) rfl dX12_pays_13) ?_
      refine go1 (M := mX12_pays) (pc' := 15) (r_iload_n (M := mX12_pays) (i := 2) rfl dX12_pays_14) ?_
      refine go_V_PI (M := mX12_pays) (pc' := 18) (st := []) (As := [.int a2]) rfl ln_12_239 lb_X12_isSeat (t_X12_isSeat (N := N) hW (by omega) h0) (by omega) h0 (Nat.le_of_ble_eq_true rfl) rfl dX12_pays_15 (fun r15 => ?_)
      refine go_br (M := mX12_pays) (pt := 26) (pf := 21) (fun kt kf => r_if_eq (M := mX12_pays) dX12_pays_18 (by decide) kt kf) (fun hc16 => ?_) (fun hc16 => ?_)
      · refine go1 (M := mX12_pays) (pc' := 28) (r_bipush (M := mX12_pays) (v := (-2)) (by decide) dX12_pays_26) ?_
        exact go_iret (M := mX12_pays) rfl rfl dX12_pays_28
      · exact j_X12_pays_21_t (N := N) hW (by omega) a0 a1 a2 x h0
def f_X12_putBack (N : Nat) (S : SH) (a0 : Nat) (a1 : Int32) (x : DY) : Option (Int32 × DY) :=
  Option.bind (f_X12_isSeat N S a0 a1 x) (fun r1 => (if r1 = 0 then some ((-2), x) else ck S (pr S a0 26) a1 ((if (x.1 (pr S a0 26) a1.toNatClampNeg) = 0 then some ((-3), x) else ck S (pr S a0 24) a1 ((if (x.1 (pr S a0 24) a1.toNatClampNeg) < 0 then some ((-3), x) else ck S (pr S a0 19) a1 (ck S (pr S a0 13) (x.1 (pr S a0 19) a1.toNatClampNeg) ((if (x.1 (pr S a0 13) (x.1 (pr S a0 19) a1.toNatClampNeg).toNatClampNeg) < 0 then ck S (pr S a0 24) a1 (ck S (pr S a0 24) a1 (bl (U1 x (pr S a0 24) a1.toNatClampNeg (-1)) (fun x16 => ck S (pr S a0 11) (x.1 (pr S a0 24) a1.toNatClampNeg) (bl (U1 x16 (pr S a0 11) (x.1 (pr S a0 24) a1.toNatClampNeg).toNatClampNeg 0) (fun x19 => ck S (pr S a0 19) a1 (ck S (pr S a0 12) (x.1 (pr S a0 24) a1.toNatClampNeg) (bl (U1 x19 (pr S a0 12) (x.1 (pr S a0 24) a1.toNatClampNeg).toNatClampNeg (x19.1 (pr S a0 19) a1.toNatClampNeg)) (fun x23 => ck S (pr S a0 19) a1 (ck S (pr S a0 13) (x23.1 (pr S a0 19) a1.toNatClampNeg) (bl (U1 x23 (pr S a0 13) (x23.1 (pr S a0 19) a1.toNatClampNeg).toNatClampNeg (x.1 (pr S a0 24) a1.toNatClampNeg)) (fun x26 => ck S (pr S a0 21) a1 (ck S (pr S a0 21) a1 (bl (U1 x26 (pr S a0 21) a1.toNatClampNeg ((x26.1 (pr S a0 21) a1.toNatClampNeg) - 1)) (fun x30 => some ((x.1 (pr S a0 24) a1.toNatClampNeg), x30))))))))))))))) else some ((-3), x))))))))))
set_option maxHeartbeats 1000000 in
theorem t_X12_putBack {N d : Nat} {S : SH} (hW : WT S) {x : DY} {a0 : Nat} {a1 : Int32} (hd : 3 ≤ d) (h0 : TY S a0 12) : CT mX12_putBack d S [.ref a0, .int a1] x wSI (f_X12_putBack N S a0 a1 x) := by
  refine CT.of [some (.ref a0), some (.int a1), none] rfl (Nat.le_of_ble_eq_true rfl) (by decide +kernel) ?_
  unfold f_X12_putBack
  refine go1 (M := mX12_putBack) (pc' := 1) (r_aload_n (M := mX12_putBack) (i := 0) rfl dX12_putBack_0) ?_
  refine go1 (M := mX12_putBack) (pc' := 2) (r_iload_n (M := mX12_putBack) (i := 1) rfl dX12_putBack_1) ?_
  refine go_V_PI (M := mX12_putBack) (pc' := 5) (st := []) (As := [.int a1]) rfl ln_12_239 lb_X12_isSeat (t_X12_isSeat (N := N) hW (by omega) h0) (by omega) h0 (Nat.le_of_ble_eq_true rfl) rfl dX12_putBack_2 (fun r1 => ?_)
  refine go_br (M := mX12_putBack) (pt := 8) (pf := 11) (fun kt kf => r_if_ne (M := mX12_putBack) dX12_putBack_5 (by decide) kf kt) (fun hc2 => ?_) (fun hc2 => ?_)
  · refine go1 (M := mX12_putBack) (pc' := 10) (r_bipush (M := mX12_putBack) (v := (-2)) (by decide) dX12_putBack_8) ?_
    exact go_iret (M := mX12_putBack) rfl rfl dX12_putBack_10
  · refine go1 (M := mX12_putBack) (pc' := 12) (r_aload_n (M := mX12_putBack) (i := 0) rfl dX12_putBack_11) ?_
    refine go1 (M := mX12_putBack) (pc' := 15) (r_getR (M := mX12_putBack) fl_12_86 h0 rfl (wt_some hW h0 (by decide) (by decide) rfl) dX12_putBack_12) ?_
    have hT3 : TY S (pr S a0 26) 15 := wt hW h0 (by decide) (by decide) rfl (by decide)
    refine go1 (M := mX12_putBack) (pc' := 16) (r_iload_n (M := mX12_putBack) (i := 1) rfl dX12_putBack_15) ?_
    refine go_ck (fun hi4 => ?_)
    refine go1 (M := mX12_putBack) (pc' := 17) (r_zald (M := mX12_putBack) hT3 hi4 dX12_putBack_16) ?_
    refine go_br (M := mX12_putBack) (pt := 43) (pf := 20) (fun kt kf => r_if_eq (M := mX12_putBack) dX12_putBack_17 (by decide) kt kf) (fun hc5 => ?_) (fun hc5 => ?_)
    · refine go1 (M := mX12_putBack) (pc' := 45) (r_bipush (M := mX12_putBack) (v := (-3)) (by decide) dX12_putBack_43) ?_
      exact go_iret (M := mX12_putBack) rfl rfl dX12_putBack_45
    · refine go1 (M := mX12_putBack) (pc' := 21) (r_aload_n (M := mX12_putBack) (i := 0) rfl dX12_putBack_20) ?_
      refine go1 (M := mX12_putBack) (pc' := 24) (r_getR (M := mX12_putBack) fl_12_80 h0 rfl (wt_some hW h0 (by decide) (by decide) rfl) dX12_putBack_21) ?_
      have hT6 : TY S (pr S a0 24) 14 := wt hW h0 (by decide) (by decide) rfl (by decide)
      refine go1 (M := mX12_putBack) (pc' := 25) (r_iload_n (M := mX12_putBack) (i := 1) rfl dX12_putBack_24) ?_
      refine go_ck (fun hi7 => ?_)
      refine go1 (M := mX12_putBack) (pc' := 26) (r_iald (M := mX12_putBack) hT6 hi7 dX12_putBack_25) ?_
      refine go_br (M := mX12_putBack) (pt := 43) (pf := 29) (fun kt kf => r_if_lt (M := mX12_putBack) dX12_putBack_26 (by decide) kt kf) (fun hc8 => ?_) (fun hc8 => ?_)
      · refine go1 (M := mX12_putBack) (pc' := 45) (r_bipush (M := mX12_putBack) (v := (-3)) (by decide) dX12_putBack_43) ?_
        exact go_iret (M := mX12_putBack) rfl rfl dX12_putBack_45
      · refine go1 (M := mX12_putBack) (pc' := 30) (r_aload_n (M := mX12_putBack) (i := 0) rfl dX12_putBack_29) ?_
        refine go1 (M := mX12_putBack) (pc' := 33) (r_getR (M := mX12_putBack) fl_12_47 h0 rfl (wt_some hW h0 (by decide) (by decide) rfl) dX12_putBack_30) ?_
        have hT9 : TY S (pr S a0 13) 14 := wt hW h0 (by decide) (by decide) rfl (by decide)
        refine go1 (M := mX12_putBack) (pc' := 34) (r_aload_n (M := mX12_putBack) (i := 0) rfl dX12_putBack_33) ?_
        refine go1 (M := mX12_putBack) (pc' := 37) (r_getR (M := mX12_putBack) fl_12_65 h0 rfl (wt_some hW h0 (by decide) (by decide) rfl) dX12_putBack_34) ?_
        have hT10 : TY S (pr S a0 19) 14 := wt hW h0 (by decide) (by decide) rfl (by decide)
        refine go1 (M := mX12_putBack) (pc' := 38) (r_iload_n (M := mX12_putBack) (i := 1) rfl dX12_putBack_37) ?_
        refine go_ck (fun hi11 => ?_)
        refine go1 (M := mX12_putBack) (pc' := 39) (r_iald (M := mX12_putBack) hT10 hi11 dX12_putBack_38) ?_
        refine go_ck (fun hi12 => ?_)
        refine go1 (M := mX12_putBack) (pc' := 40) (r_iald (M := mX12_putBack) hT9 hi12 dX12_putBack_39) ?_
        refine go_br (M := mX12_putBack) (pt := 46) (pf := 43) (fun kt kf => r_if_lt (M := mX12_putBack) dX12_putBack_40 (by decide) kt kf) (fun hc13 => ?_) (fun hc13 => ?_)
        · refine go1 (M := mX12_putBack) (pc' := 47) (r_aload_n (M := mX12_putBack) (i := 0) rfl dX12_putBack_46) ?_
          refine go1 (M := mX12_putBack) (pc' := 50) (r_getR (M := mX12_putBack) fl_12_80 h0 rfl (wt_some hW h0 (by decide) (by decide) rfl) dX12_putBack_47) ?_
          refine go1 (M := mX12_putBack) (pc' := 51) (r_iload_n (M := mX12_putBack) (i := 1) rfl dX12_putBack_50) ?_
          refine go_ck (fun hi14 => ?_)
          refine go1 (M := mX12_putBack) (pc' := 52) (r_iald (M := mX12_putBack) hT6 hi14 dX12_putBack_51) ?_
          refine go1 (M := mX12_putBack) (pc' := 53) (ls' := [some (.ref a0), some (.int a1), some (.int (x.1 (pr S a0 24) a1.toNatClampNeg))]) (r_istore_n (M := mX12_putBack) (ls := [some (.ref a0), some (.int a1), none]) (i := 2) (v := (x.1 (pr S a0 24) a1.toNatClampNeg)) (by decide) rfl dX12_putBack_52) ?_
          refine go1 (M := mX12_putBack) (pc' := 54) (r_aload_n (M := mX12_putBack) (i := 0) rfl dX12_putBack_53) ?_
          refine go1 (M := mX12_putBack) (pc' := 57) (r_getR (M := mX12_putBack) fl_12_80 h0 rfl (wt_some hW h0 (by decide) (by decide) rfl) dX12_putBack_54) ?_
          refine go1 (M := mX12_putBack) (pc' := 58) (r_iload_n (M := mX12_putBack) (i := 1) rfl dX12_putBack_57) ?_
          refine go1 (M := mX12_putBack) (pc' := 59) (r_iconst (M := mX12_putBack) (v := (-1)) (by decide) dX12_putBack_58) ?_
          refine go_ck (fun hi15 => ?_)
          refine go1 (M := mX12_putBack) (pc' := 60) (r_iast (M := mX12_putBack) hT6 hi15 dX12_putBack_59) ?_
          refine go_blx (fun x16 => ?_)
          refine go1 (M := mX12_putBack) (pc' := 61) (r_aload_n (M := mX12_putBack) (i := 0) rfl dX12_putBack_60) ?_
          refine go1 (M := mX12_putBack) (pc' := 64) (r_getR (M := mX12_putBack) fl_12_41 h0 rfl (wt_some hW h0 (by decide) (by decide) rfl) dX12_putBack_61) ?_
          have hT17 : TY S (pr S a0 11) 14 := wt hW h0 (by decide) (by decide) rfl (by decide)
          refine go1 (M := mX12_putBack) (pc' := 65) (r_iload_n (M := mX12_putBack) (i := 2) rfl dX12_putBack_64) ?_
          refine go1 (M := mX12_putBack) (pc' := 66) (r_iconst (M := mX12_putBack) (v := 0) (by decide) dX12_putBack_65) ?_
          refine go_ck (fun hi18 => ?_)
          refine go1 (M := mX12_putBack) (pc' := 67) (r_iast (M := mX12_putBack) hT17 hi18 dX12_putBack_66) ?_
          refine go_blx (fun x19 => ?_)
          refine go1 (M := mX12_putBack) (pc' := 68) (r_aload_n (M := mX12_putBack) (i := 0) rfl dX12_putBack_67) ?_
          refine go1 (M := mX12_putBack) (pc' := 71) (r_getR (M := mX12_putBack) fl_12_44 h0 rfl (wt_some hW h0 (by decide) (by decide) rfl) dX12_putBack_68) ?_
          have hT20 : TY S (pr S a0 12) 14 := wt hW h0 (by decide) (by decide) rfl (by decide)
          refine go1 (M := mX12_putBack) (pc' := 72) (r_iload_n (M := mX12_putBack) (i := 2) rfl dX12_putBack_71) ?_
          refine go1 (M := mX12_putBack) (pc' := 73) (r_aload_n (M := mX12_putBack) (i := 0) rfl dX12_putBack_72) ?_
          refine go1 (M := mX12_putBack) (pc' := 76) (r_getR (M := mX12_putBack) fl_12_65 h0 rfl (wt_some hW h0 (by decide) (by decide) rfl) dX12_putBack_73) ?_
          refine go1 (M := mX12_putBack) (pc' := 77) (r_iload_n (M := mX12_putBack) (i := 1) rfl dX12_putBack_76) ?_
          refine go_ck (fun hi21 => ?_)
          refine go1 (M := mX12_putBack) (pc' := 78) (r_iald (M := mX12_putBack) hT10 hi21 dX12_putBack_77) ?_
          refine go_ck (fun hi22 => ?_)
          refine go1 (M := mX12_putBack) (pc' := 79) (r_iast (M := mX12_putBack) hT20 hi22 dX12_putBack_78) ?_
          refine go_blx (fun x23 => ?_)
          refine go1 (M := mX12_putBack) (pc' := 80) (r_aload_n (M := mX12_putBack) (i := 0) rfl dX12_putBack_79) ?_
          refine go1 (M := mX12_putBack) (pc' := 83) (r_getR (M := mX12_putBack) fl_12_47 h0 rfl (wt_some hW h0 (by decide) (by decide) rfl) dX12_putBack_80) ?_
          refine go1 (M := mX12_putBack) (pc' := 84) (r_aload_n (M := mX12_putBack) (i := 0) rfl dX12_putBack_83) ?_
          refine go1 (M := mX12_putBack) (pc' := 87) (r_getR (M := mX12_putBack) fl_12_65 h0 rfl (wt_some hW h0 (by decide) (by decide) rfl) dX12_putBack_84) ?_
          refine go1 (M := mX12_putBack) (pc' := 88) (r_iload_n (M := mX12_putBack) (i := 1) rfl dX12_putBack_87) ?_
          refine go_ck (fun hi24 => ?_)
          refine go1 (M := mX12_putBack) (pc' := 89) (r_iald (M := mX12_putBack) hT10 hi24 dX12_putBack_88) ?_
          refine go1 (M := mX12_putBack) (pc' := 90) (r_iload_n (M := mX12_putBack) (i := 2) rfl dX12_putBack_89) ?_
          refine go_ck (fun hi25 => ?_)
          refine go1 (M := mX12_putBack) (pc' := 91) (r_iast (M := mX12_putBack) hT9 hi25 dX12_putBack_90) ?_
          refine go_blx (fun x26 => ?_)
          refine go1 (M := mX12_putBack) (pc' := 92) (r_aload_n (M := mX12_putBack) (i := 0) rfl dX12_putBack_91) ?_
          refine go1 (M := mX12_putBack) (pc' := 95) (r_getR (M := mX12_putBack) fl_12_71 h0 rfl (wt_some hW h0 (by decide) (by decide) rfl) dX12_putBack_92) ?_
          have hT27 : TY S (pr S a0 21) 14 := wt hW h0 (by decide) (by decide) rfl (by decide)
          refine go1 (M := mX12_putBack) (pc' := 96) (r_iload_n (M := mX12_putBack) (i := 1) rfl dX12_putBack_95) ?_
          refine go1 (M := mX12_putBack) (pc' := 97) (r_dup2 (M := mX12_putBack) rfl rfl dX12_putBack_96) ?_
          refine go_ck (fun hi28 => ?_)
          refine go1 (M := mX12_putBack) (pc' := 98) (r_iald (M := mX12_putBack) hT27 hi28 dX12_putBack_97) ?_
          refine go1 (M := mX12_putBack) (pc' := 99) (r_iconst (M := mX12_putBack) (v := 1) (by decide) dX12_putBack_98) ?_
          refine go1 (M := mX12_putBack) (pc' := 100) (r_isub (M := mX12_putBack) dX12_putBack_99) ?_
          refine go_ck (fun hi29 => ?_)
          refine go1 (M := mX12_putBack) (pc' := 101) (r_iast (M := mX12_putBack) hT27 hi29 dX12_putBack_100) ?_
          refine go_blx (fun x30 => ?_)
          refine go1 (M := mX12_putBack) (pc' := 102) (r_iload_n (M := mX12_putBack) (i := 2) rfl dX12_putBack_101) ?_
          exact go_iret (M := mX12_putBack) rfl rfl dX12_putBack_102
        · refine go1 (M := mX12_putBack) (pc' := 45) (r_bipush (M := mX12_putBack) (v := (-3)) (by decide) dX12_putBack_43) ?_
          exact go_iret (M := mX12_putBack) rfl rfl dX12_putBack_45
def f_X12_ruleZero (N : Nat) (S : SH) (a0 : Nat) (x : DY) : Option DY :=
  ck S (pr S a0 31) 0 (bl (U1 x (pr S a0 31) (0 : Int32).toNatClampNeg 5) (fun x3 => ck S (pr S a0 32) 0 (bl (U1 x3 (pr S a0 32) (0 : Int32).toNatClampNeg 4) (fun x6 => ck S (pr S a0 32) 1 (bl (U1 x6 (pr S a0 32) (1 : Int32).toNatClampNeg 10000) (fun x8 => ck S (pr S a0 32) 2 (bl (U1 x8 (pr S a0 32) (2 : Int32).toNatClampNeg 10002) (fun x10 => ck S (pr S a0 32) 3 (bl (U1 x10 (pr S a0 32) (3 : Int32).toNatClampNeg (-6)) (fun x12 => ck S (pr S a0 32) 4 (bl (U1 x12 (pr S a0 32) (4 : Int32).toNatClampNeg (-4)) (fun x14 => ck S (pr S a0 31) 1 (bl (U1 x14 (pr S a0 31) (1 : Int32).toNatClampNeg 3) (fun x16 => ck S (pr S a0 32) 160 (bl (U1 x16 (pr S a0 32) (160 : Int32).toNatClampNeg 10005) (fun x18 => ck S (pr S a0 32) 161 (bl (U1 x18 (pr S a0 32) (161 : Int32).toNatClampNeg 10003) (fun x20 => ck S (pr S a0 32) 162 (bl (U1 x20 (pr S a0 32) (162 : Int32).toNatClampNeg (-5)) (fun x22 => some x22))))))))))))))))))))
set_option maxHeartbeats 1000000 in
theorem t_X12_ruleZero {N d : Nat} {S : SH} (hW : WT S) {x : DY} {a0 : Nat} (hd : 1 ≤ d) (h0 : TY S a0 12) : CT mX12_ruleZero d S [.ref a0] x wSV (f_X12_ruleZero N S a0 x) := by
  refine CT.of [some (.ref a0)] rfl (Nat.le_of_ble_eq_true rfl) (by decide +kernel) ?_
  unfold f_X12_ruleZero
  refine go1 (M := mX12_ruleZero) (pc' := 1) (r_aload_n (M := mX12_ruleZero) (i := 0) rfl dX12_ruleZero_0) ?_
  refine go1 (M := mX12_ruleZero) (pc' := 4) (r_getR (M := mX12_ruleZero) fl_12_103 h0 rfl (wt_some hW h0 (by decide) (by decide) rfl) dX12_ruleZero_1) ?_
  have hT1 : TY S (pr S a0 31) 14 := wt hW h0 (by decide) (by decide) rfl (by decide)
  refine go1 (M := mX12_ruleZero) (pc' := 5) (r_iconst (M := mX12_ruleZero) (v := 0) (by decide) dX12_ruleZero_4) ?_
  refine go1 (M := mX12_ruleZero) (pc' := 6) (r_iconst (M := mX12_ruleZero) (v := 5) (by decide) dX12_ruleZero_5) ?_
  refine go_ck (fun hi2 => ?_)
  refine go1 (M := mX12_ruleZero) (pc' := 7) (r_iast (M := mX12_ruleZero) hT1 hi2 dX12_ruleZero_6) ?_
  refine go_blx (fun x3 => ?_)
  refine go1 (M := mX12_ruleZero) (pc' := 8) (r_aload_n (M := mX12_ruleZero) (i := 0) rfl dX12_ruleZero_7) ?_
  refine go1 (M := mX12_ruleZero) (pc' := 11) (r_getR (M := mX12_ruleZero) fl_12_106 h0 rfl (wt_some hW h0 (by decide) (by decide) rfl) dX12_ruleZero_8) ?_
  have hT4 : TY S (pr S a0 32) 14 := wt hW h0 (by decide) (by decide) rfl (by decide)
  refine go1 (M := mX12_ruleZero) (pc' := 12) (r_iconst (M := mX12_ruleZero) (v := 0) (by decide) dX12_ruleZero_11) ?_
  refine go1 (M := mX12_ruleZero) (pc' := 13) (r_iconst (M := mX12_ruleZero) (v := 4) (by decide) dX12_ruleZero_12) ?_
  refine go_ck (fun hi5 => ?_)
  refine go1 (M := mX12_ruleZero) (pc' := 14) (r_iast (M := mX12_ruleZero) hT4 hi5 dX12_ruleZero_13) ?_
  refine go_blx (fun x6 => ?_)
  refine go1 (M := mX12_ruleZero) (pc' := 15) (r_aload_n (M := mX12_ruleZero) (i := 0) rfl dX12_ruleZero_14) ?_
  refine go1 (M := mX12_ruleZero) (pc' := 18) (r_getR (M := mX12_ruleZero) fl_12_106 h0 rfl (wt_some hW h0 (by decide) (by decide) rfl) dX12_ruleZero_15) ?_
  refine go1 (M := mX12_ruleZero) (pc' := 19) (r_iconst (M := mX12_ruleZero) (v := 1) (by decide) dX12_ruleZero_18) ?_
  refine go1 (M := mX12_ruleZero) (pc' := 22) (r_sipush (M := mX12_ruleZero) (v := 10000) (by decide) dX12_ruleZero_19) ?_
  refine go_ck (fun hi7 => ?_)
  refine go1 (M := mX12_ruleZero) (pc' := 23) (r_iast (M := mX12_ruleZero) hT4 hi7 dX12_ruleZero_22) ?_
  refine go_blx (fun x8 => ?_)
  refine go1 (M := mX12_ruleZero) (pc' := 24) (r_aload_n (M := mX12_ruleZero) (i := 0) rfl dX12_ruleZero_23) ?_
  refine go1 (M := mX12_ruleZero) (pc' := 27) (r_getR (M := mX12_ruleZero) fl_12_106 h0 rfl (wt_some hW h0 (by decide) (by decide) rfl) dX12_ruleZero_24) ?_
  refine go1 (M := mX12_ruleZero) (pc' := 28) (r_iconst (M := mX12_ruleZero) (v := 2) (by decide) dX12_ruleZero_27) ?_
  refine go1 (M := mX12_ruleZero) (pc' := 31) (r_sipush (M := mX12_ruleZero) (v := 10002) (by decide) dX12_ruleZero_28) ?_
  refine go_ck (fun hi9 => ?_)
  refine go1 (M := mX12_ruleZero) (pc' := 32) (r_iast (M := mX12_ruleZero) hT4 hi9 dX12_ruleZero_31) ?_
  refine go_blx (fun x10 => ?_)
  refine go1 (M := mX12_ruleZero) (pc' := 33) (r_aload_n (M := mX12_ruleZero) (i := 0) rfl dX12_ruleZero_32) ?_
  refine go1 (M := mX12_ruleZero) (pc' := 36) (r_getR (M := mX12_ruleZero) fl_12_106 h0 rfl (wt_some hW h0 (by decide) (by decide) rfl) dX12_ruleZero_33) ?_
  refine go1 (M := mX12_ruleZero) (pc' := 37) (r_iconst (M := mX12_ruleZero) (v := 3) (by decide) dX12_ruleZero_36) ?_
  refine go1 (M := mX12_ruleZero) (pc' := 39) (r_bipush (M := mX12_ruleZero) (v := (-6)) (by decide) dX12_ruleZero_37) ?_
  refine go_ck (fun hi11 => ?_)
  refine go1 (M := mX12_ruleZero) (pc' := 40) (r_iast (M := mX12_ruleZero) hT4 hi11 dX12_ruleZero_39) ?_
  refine go_blx (fun x12 => ?_)
  refine go1 (M := mX12_ruleZero) (pc' := 41) (r_aload_n (M := mX12_ruleZero) (i := 0) rfl dX12_ruleZero_40) ?_
  refine go1 (M := mX12_ruleZero) (pc' := 44) (r_getR (M := mX12_ruleZero) fl_12_106 h0 rfl (wt_some hW h0 (by decide) (by decide) rfl) dX12_ruleZero_41) ?_
  refine go1 (M := mX12_ruleZero) (pc' := 45) (r_iconst (M := mX12_ruleZero) (v := 4) (by decide) dX12_ruleZero_44) ?_
  refine go1 (M := mX12_ruleZero) (pc' := 47) (r_bipush (M := mX12_ruleZero) (v := (-4)) (by decide) dX12_ruleZero_45) ?_
  refine go_ck (fun hi13 => ?_)
  refine go1 (M := mX12_ruleZero) (pc' := 48) (r_iast (M := mX12_ruleZero) hT4 hi13 dX12_ruleZero_47) ?_
  refine go_blx (fun x14 => ?_)
  refine go1 (M := mX12_ruleZero) (pc' := 49) (r_aload_n (M := mX12_ruleZero) (i := 0) rfl dX12_ruleZero_48) ?_
  refine go1 (M := mX12_ruleZero) (pc' := 52) (r_getR (M := mX12_ruleZero) fl_12_103 h0 rfl (wt_some hW h0 (by decide) (by decide) rfl) dX12_ruleZero_49) ?_
  refine go1 (M := mX12_ruleZero) (pc' := 53) (r_iconst (M := mX12_ruleZero) (v := 1) (by decide) dX12_ruleZero_52) ?_
  refine go1 (M := mX12_ruleZero) (pc' := 54) (r_iconst (M := mX12_ruleZero) (v := 3) (by decide) dX12_ruleZero_53) ?_
  refine go_ck (fun hi15 => ?_)
  refine go1 (M := mX12_ruleZero) (pc' := 55) (r_iast (M := mX12_ruleZero) hT1 hi15 dX12_ruleZero_54) ?_
  refine go_blx (fun x16 => ?_)
  refine go1 (M := mX12_ruleZero) (pc' := 56) (r_aload_n (M := mX12_ruleZero) (i := 0) rfl dX12_ruleZero_55) ?_
  refine go1 (M := mX12_ruleZero) (pc' := 59) (r_getR (M := mX12_ruleZero) fl_12_106 h0 rfl (wt_some hW h0 (by decide) (by decide) rfl) dX12_ruleZero_56) ?_
  refine go1 (M := mX12_ruleZero) (pc' := 62) (r_sipush (M := mX12_ruleZero) (v := 160) (by decide) dX12_ruleZero_59) ?_
  refine go1 (M := mX12_ruleZero) (pc' := 65) (r_sipush (M := mX12_ruleZero) (v := 10005) (by decide) dX12_ruleZero_62) ?_
  refine go_ck (fun hi17 => ?_)
  refine go1 (M := mX12_ruleZero) (pc' := 66) (r_iast (M := mX12_ruleZero) hT4 hi17 dX12_ruleZero_65) ?_
  refine go_blx (fun x18 => ?_)
  refine go1 (M := mX12_ruleZero) (pc' := 67) (r_aload_n (M := mX12_ruleZero) (i := 0) rfl dX12_ruleZero_66) ?_
  refine go1 (M := mX12_ruleZero) (pc' := 70) (r_getR (M := mX12_ruleZero) fl_12_106 h0 rfl (wt_some hW h0 (by decide) (by decide) rfl) dX12_ruleZero_67) ?_
  refine go1 (M := mX12_ruleZero) (pc' := 73) (r_sipush (M := mX12_ruleZero) (v := 161) (by decide) dX12_ruleZero_70) ?_
  refine go1 (M := mX12_ruleZero) (pc' := 76) (r_sipush (M := mX12_ruleZero) (v := 10003) (by decide) dX12_ruleZero_73) ?_
  refine go_ck (fun hi19 => ?_)
  refine go1 (M := mX12_ruleZero) (pc' := 77) (r_iast (M := mX12_ruleZero) hT4 hi19 dX12_ruleZero_76) ?_
  refine go_blx (fun x20 => ?_)
  refine go1 (M := mX12_ruleZero) (pc' := 78) (r_aload_n (M := mX12_ruleZero) (i := 0) rfl dX12_ruleZero_77) ?_
  refine go1 (M := mX12_ruleZero) (pc' := 81) (r_getR (M := mX12_ruleZero) fl_12_106 h0 rfl (wt_some hW h0 (by decide) (by decide) rfl) dX12_ruleZero_78) ?_
  refine go1 (M := mX12_ruleZero) (pc' := 84) (r_sipush (M := mX12_ruleZero) (v := 162) (by decide) dX12_ruleZero_81) ?_
  refine go1 (M := mX12_ruleZero) (pc' := 86) (r_bipush (M := mX12_ruleZero) (v := (-5)) (by decide) dX12_ruleZero_84) ?_
  refine go_ck (fun hi21 => ?_)
  refine go1 (M := mX12_ruleZero) (pc' := 87) (r_iast (M := mX12_ruleZero) hT4 hi21 dX12_ruleZero_86) ?_
  refine go_blx (fun x22 => ?_)
  exact go_vret (M := mX12_ruleZero) rfl rfl dX12_ruleZero_87
