/-! MIRRORS, by program out of the class's bytecode: X11_guest .. J9_max_7cf53 -/
def f_X11_guest (N : Nat) (S : SH) (a0 : Nat) (a1 : Int32) (a2 : Int32) (a3 : Int32) (x : DY) : Option (Int32 × DY) :=
  Option.bind (f_X8_has N S (pr S (pr S a0 5) 4) a1 x) (fun r3 => (if r3 = 0 then some ((-2), x) else Option.bind (f_X8_isKind N S a2 x) (fun r5 => (if r5 = 0 then some ((-2), x) else Option.bind (f_X11_within N S a3 0 999999 x) (fun r7 => (if r7 = 0 then some ((-2), x) else Option.bind (f_X8_isTaken N S (pr S (pr S a0 5) 4) a1 x) (fun r9 => (if r9 = 0 then Option.bind (f_X8_welcome N S (pr S (pr S a0 5) 4) a1 a2 a3 x) (fun r11 => some (1, r11)) else some ((-3), x)))))))))
set_option maxHeartbeats 1000000 in
theorem t_X11_guest {N d : Nat} {S : SH} (hW : WT S) {x : DY} {a0 : Nat} {a1 : Int32} {a2 : Int32} {a3 : Int32} (hd : 3 ≤ d) (h0 : TY S a0 11) : CT mX11_guest d S [.ref a0, .int a1, .int a2, .int a3] x wSI (f_X11_guest N S a0 a1 a2 a3 x) := by
  refine CT.of [some (.ref a0), some (.int a1), some (.int a2), some (.int a3), none] rfl (Nat.le_of_ble_eq_true rfl) (by decide +kernel) ?_
  unfold f_X11_guest
  refine go1 (M := mX11_guest) (pc' := 1) (r_aload_n (M := mX11_guest) (i := 0) rfl dX11_guest_0) ?_
  refine go1 (M := mX11_guest) (pc' := 4) (r_getR (M := mX11_guest) fl_11_55 h0 rfl (wt_some hW h0 (by decide) (by decide) rfl) dX11_guest_1) ?_
  have hT1 : TY S (pr S a0 5) 6 := wt hW h0 (by decide) (by decide) rfl (by decide)
  refine go1 (M := mX11_guest) (pc' := 7) (r_getR (M := mX11_guest) fl_11_123 hT1 rfl (wt_some hW hT1 (by decide) (by decide) rfl) dX11_guest_4) ?_
  have hT2 : TY S (pr S (pr S a0 5) 4) 8 := wt hW hT1 (by decide) (by decide) rfl (by decide)
  refine go1 (M := mX11_guest) (pc' := 9) (ls' := [some (.ref a0), some (.int a1), some (.int a2), some (.int a3), some (.ref (pr S (pr S a0 5) 4))]) (r_astore (M := mX11_guest) (ls := [some (.ref a0), some (.int a1), some (.int a2), some (.int a3), none]) (i := 4) (v := (pr S (pr S a0 5) 4)) (by decide) rfl dX11_guest_7) ?_
  refine go1 (M := mX11_guest) (pc' := 11) (r_aload (M := mX11_guest) (i := 4) rfl dX11_guest_9) ?_
  refine go1 (M := mX11_guest) (pc' := 12) (r_iload_n (M := mX11_guest) (i := 1) rfl dX11_guest_11) ?_
  refine go_V_PI (M := mX11_guest) (pc' := 15) (st := []) (As := [.int a1]) rfl ln_11_135 lb_X8_has (t_X8_has (N := N) hW (by omega) hT2) (by omega) hT2 (Nat.le_of_ble_eq_true rfl) rfl dX11_guest_12 (fun r3 => ?_)
  refine go_br (M := mX11_guest) (pt := 35) (pf := 18) (fun kt kf => r_if_eq (M := mX11_guest) dX11_guest_15 (by decide) kt kf) (fun hc4 => ?_) (fun hc4 => ?_)
  · refine go1 (M := mX11_guest) (pc' := 37) (r_bipush (M := mX11_guest) (v := (-2)) (by decide) dX11_guest_35) ?_
    exact go_iret (M := mX11_guest) rfl rfl dX11_guest_37
  · refine go1 (M := mX11_guest) (pc' := 19) (r_iload_n (M := mX11_guest) (i := 2) rfl dX11_guest_18) ?_
    refine go_S_PI (M := mX11_guest) (pc' := 22) (st := []) (As := [.int a2]) rfl ln_11_136 lb_X8_isKind (t_X8_isKind (N := N) hW (by omega) ) (by omega) (Nat.le_of_ble_eq_true rfl) rfl dX11_guest_19 (fun r5 => ?_)
    refine go_br (M := mX11_guest) (pt := 35) (pf := 25) (fun kt kf => r_if_eq (M := mX11_guest) dX11_guest_22 (by decide) kt kf) (fun hc6 => ?_) (fun hc6 => ?_)
    · refine go1 (M := mX11_guest) (pc' := 37) (r_bipush (M := mX11_guest) (v := (-2)) (by decide) dX11_guest_35) ?_
      exact go_iret (M := mX11_guest) rfl rfl dX11_guest_37
    · refine go1 (M := mX11_guest) (pc' := 26) (r_iload_n (M := mX11_guest) (i := 3) rfl dX11_guest_25) ?_
      refine go1 (M := mX11_guest) (pc' := 27) (r_iconst (M := mX11_guest) (v := 0) (by decide) dX11_guest_26) ?_
      refine go1 (M := mX11_guest) (pc' := 29) (r_ldc (M := mX11_guest) (v := 999999) (tb3 14 (by decide +kernel) rfl) dX11_guest_27) ?_
      refine go_S_PI (M := mX11_guest) (pc' := 32) (st := []) (As := [.int a3, .int 0, .int 999999]) rfl ln_11_73 lb_X11_within (t_X11_within (N := N) hW (by omega) ) (by omega) (Nat.le_of_ble_eq_true rfl) rfl dX11_guest_29 (fun r7 => ?_)
      refine go_br (M := mX11_guest) (pt := 35) (pf := 38) (fun kt kf => r_if_ne (M := mX11_guest) dX11_guest_32 (by decide) kf kt) (fun hc8 => ?_) (fun hc8 => ?_)
      · refine go1 (M := mX11_guest) (pc' := 37) (r_bipush (M := mX11_guest) (v := (-2)) (by decide) dX11_guest_35) ?_
        exact go_iret (M := mX11_guest) rfl rfl dX11_guest_37
      · refine go1 (M := mX11_guest) (pc' := 40) (r_aload (M := mX11_guest) (i := 4) rfl dX11_guest_38) ?_
        refine go1 (M := mX11_guest) (pc' := 41) (r_iload_n (M := mX11_guest) (i := 1) rfl dX11_guest_40) ?_
        refine go_V_PI (M := mX11_guest) (pc' := 44) (st := []) (As := [.int a1]) rfl ln_11_140 lb_X8_isTaken (t_X8_isTaken (N := N) hW (by omega) hT2) (by omega) hT2 (Nat.le_of_ble_eq_true rfl) rfl dX11_guest_41 (fun r9 => ?_)
        refine go_br (M := mX11_guest) (pt := 50) (pf := 47) (fun kt kf => r_if_eq (M := mX11_guest) dX11_guest_44 (by decide) kt kf) (fun hc10 => ?_) (fun hc10 => ?_)
        · refine go1 (M := mX11_guest) (pc' := 52) (r_aload (M := mX11_guest) (i := 4) rfl dX11_guest_50) ?_
          refine go1 (M := mX11_guest) (pc' := 53) (r_iload_n (M := mX11_guest) (i := 1) rfl dX11_guest_52) ?_
          refine go1 (M := mX11_guest) (pc' := 54) (r_iload_n (M := mX11_guest) (i := 2) rfl dX11_guest_53) ?_
          refine go1 (M := mX11_guest) (pc' := 55) (r_iload_n (M := mX11_guest) (i := 3) rfl dX11_guest_54) ?_
          refine go_V_SV (M := mX11_guest) (pc' := 58) (st := []) (As := [.int a1, .int a2, .int a3]) rfl ln_11_143 lb_X8_welcome (t_X8_welcome (N := N) hW (by omega) hT2) (by omega) hT2 (Nat.le_of_ble_eq_true rfl) rfl dX11_guest_55 (fun r11 => ?_)
          refine go1 (M := mX11_guest) (pc' := 59) (r_iconst (M := mX11_guest) (v := 1) (by decide) dX11_guest_58) ?_
          exact go_iret (M := mX11_guest) rfl rfl dX11_guest_59
        · refine go1 (M := mX11_guest) (pc' := 49) (r_bipush (M := mX11_guest) (v := (-3)) (by decide) dX11_guest_47) ?_
          exact go_iret (M := mX11_guest) rfl rfl dX11_guest_49
def f_X11_guestTold (N : Nat) (S : SH) (a0 : Nat) (a1 : Int32) (a2 : Int32) (x : DY) : Option Int32 :=
  Option.bind (f_X11_within N S a2 1 4 x) (fun r1 => (if r1 = 0 then some (-2) else Option.bind (f_X8_isTaken N S (pr S (pr S a0 5) 4) a1 x) (fun r5 => (if r5 = 0 then some (-1) else (if a2 = 1 then ck S (pr S (pr S (pr S a0 5) 4) 1) a1 (some (x.1 (pr S (pr S (pr S a0 5) 4) 1) a1.toNatClampNeg)) else (if a2 = 2 then ck S (pr S (pr S (pr S a0 5) 4) 3) a1 (some (x.1 (pr S (pr S (pr S a0 5) 4) 3) a1.toNatClampNeg)) else (if a2 = 3 then ck S (pr S (pr S (pr S a0 5) 4) 4) a1 (some (x.1 (pr S (pr S (pr S a0 5) 4) 4) a1.toNatClampNeg)) else Option.bind (f_X8_roomOf N S (pr S (pr S a0 5) 4) a1 x) (fun r16 => some r16))))))))
set_option maxHeartbeats 1000000 in
theorem t_X11_guestTold {N d : Nat} {S : SH} (hW : WT S) {x : DY} {a0 : Nat} {a1 : Int32} {a2 : Int32} (hd : 2 ≤ d) (h0 : TY S a0 11) : CT mX11_guestTold d S [.ref a0, .int a1, .int a2] x (wPI x) (f_X11_guestTold N S a0 a1 a2 x) := by
  refine CT.of [some (.ref a0), some (.int a1), some (.int a2), none] rfl (Nat.le_of_ble_eq_true rfl) (by decide +kernel) ?_
  unfold f_X11_guestTold
  refine go1 (M := mX11_guestTold) (pc' := 1) (r_iload_n (M := mX11_guestTold) (i := 2) rfl dX11_guestTold_0) ?_
  refine go1 (M := mX11_guestTold) (pc' := 2) (r_iconst (M := mX11_guestTold) (v := 1) (by decide) dX11_guestTold_1) ?_
  refine go1 (M := mX11_guestTold) (pc' := 3) (r_iconst (M := mX11_guestTold) (v := 4) (by decide) dX11_guestTold_2) ?_
  refine go_S_PI (M := mX11_guestTold) (pc' := 6) (st := []) (As := [.int a2, .int 1, .int 4]) rfl ln_11_73 lb_X11_within (t_X11_within (N := N) hW (by omega) ) (by omega) (Nat.le_of_ble_eq_true rfl) rfl dX11_guestTold_3 (fun r1 => ?_)
  refine go_br (M := mX11_guestTold) (pt := 9) (pf := 12) (fun kt kf => r_if_ne (M := mX11_guestTold) dX11_guestTold_6 (by decide) kf kt) (fun hc2 => ?_) (fun hc2 => ?_)
  · refine go1 (M := mX11_guestTold) (pc' := 11) (r_bipush (M := mX11_guestTold) (v := (-2)) (by decide) dX11_guestTold_9) ?_
    exact go_iret (M := mX11_guestTold) rfl rfl dX11_guestTold_11
  · refine go1 (M := mX11_guestTold) (pc' := 13) (r_aload_n (M := mX11_guestTold) (i := 0) rfl dX11_guestTold_12) ?_
    refine go1 (M := mX11_guestTold) (pc' := 16) (r_getR (M := mX11_guestTold) fl_11_55 h0 rfl (wt_some hW h0 (by decide) (by decide) rfl) dX11_guestTold_13) ?_
    have hT3 : TY S (pr S a0 5) 6 := wt hW h0 (by decide) (by decide) rfl (by decide)
    refine go1 (M := mX11_guestTold) (pc' := 19) (r_getR (M := mX11_guestTold) fl_11_123 hT3 rfl (wt_some hW hT3 (by decide) (by decide) rfl) dX11_guestTold_16) ?_
    have hT4 : TY S (pr S (pr S a0 5) 4) 8 := wt hW hT3 (by decide) (by decide) rfl (by decide)
    refine go1 (M := mX11_guestTold) (pc' := 20) (ls' := [some (.ref a0), some (.int a1), some (.int a2), some (.ref (pr S (pr S a0 5) 4))]) (r_astore_n (M := mX11_guestTold) (ls := [some (.ref a0), some (.int a1), some (.int a2), none]) (i := 3) (v := (pr S (pr S a0 5) 4)) (by decide) rfl dX11_guestTold_19) ?_
    refine go1 (M := mX11_guestTold) (pc' := 21) (r_aload_n (M := mX11_guestTold) (i := 3) rfl dX11_guestTold_20) ?_
    refine go1 (M := mX11_guestTold) (pc' := 22) (r_iload_n (M := mX11_guestTold) (i := 1) rfl dX11_guestTold_21) ?_
    refine go_V_PI (M := mX11_guestTold) (pc' := 25) (st := []) (As := [.int a1]) rfl ln_11_140 lb_X8_isTaken (t_X8_isTaken (N := N) hW (by omega) hT4) (by omega) hT4 (Nat.le_of_ble_eq_true rfl) rfl dX11_guestTold_22 (fun r5 => ?_)
    refine go_br (M := mX11_guestTold) (pt := 28) (pf := 30) (fun kt kf => r_if_ne (M := mX11_guestTold) dX11_guestTold_25 (by decide) kf kt) (fun hc6 => ?_) (fun hc6 => ?_)
    · refine go1 (M := mX11_guestTold) (pc' := 29) (r_iconst (M := mX11_guestTold) (v := (-1)) (by decide) dX11_guestTold_28) ?_
      exact go_iret (M := mX11_guestTold) rfl rfl dX11_guestTold_29
    · refine go1 (M := mX11_guestTold) (pc' := 31) (r_iload_n (M := mX11_guestTold) (i := 2) rfl dX11_guestTold_30) ?_
      refine go_case (fun hk7 => ?_) (fun hk7 => ?_)
      · refine go1 (M := mX11_guestTold) (pc' := 56) (r_tsw (M := mX11_guestTold) (off := 25) dX11_guestTold_31 (by rw [hk7]; decide) (by decide)) ?_
        refine go1 (M := mX11_guestTold) (pc' := 57) (r_aload_n (M := mX11_guestTold) (i := 3) rfl dX11_guestTold_56) ?_
        refine go1 (M := mX11_guestTold) (pc' := 60) (r_getR (M := mX11_guestTold) fl_11_162 hT4 rfl (wt_some hW hT4 (by decide) (by decide) rfl) dX11_guestTold_57) ?_
        have hT8 : TY S (pr S (pr S (pr S a0 5) 4) 1) 14 := wt hW hT4 (by decide) (by decide) rfl (by decide)
        refine go1 (M := mX11_guestTold) (pc' := 61) (r_iload_n (M := mX11_guestTold) (i := 1) rfl dX11_guestTold_60) ?_
        refine go_ck (fun hi9 => ?_)
        refine go1 (M := mX11_guestTold) (pc' := 62) (r_iald (M := mX11_guestTold) hT8 hi9 dX11_guestTold_61) ?_
        exact go_iret (M := mX11_guestTold) rfl rfl dX11_guestTold_62
      · refine go_case (fun hk10 => ?_) (fun hk10 => ?_)
        · refine go1 (M := mX11_guestTold) (pc' := 63) (r_tsw (M := mX11_guestTold) (off := 32) dX11_guestTold_31 (by rw [hk10]; decide) (by decide)) ?_
          refine go1 (M := mX11_guestTold) (pc' := 64) (r_aload_n (M := mX11_guestTold) (i := 3) rfl dX11_guestTold_63) ?_
          refine go1 (M := mX11_guestTold) (pc' := 67) (r_getR (M := mX11_guestTold) fl_11_165 hT4 rfl (wt_some hW hT4 (by decide) (by decide) rfl) dX11_guestTold_64) ?_
          have hT11 : TY S (pr S (pr S (pr S a0 5) 4) 3) 14 := wt hW hT4 (by decide) (by decide) rfl (by decide)
          refine go1 (M := mX11_guestTold) (pc' := 68) (r_iload_n (M := mX11_guestTold) (i := 1) rfl dX11_guestTold_67) ?_
          refine go_ck (fun hi12 => ?_)
          refine go1 (M := mX11_guestTold) (pc' := 69) (r_iald (M := mX11_guestTold) hT11 hi12 dX11_guestTold_68) ?_
          exact go_iret (M := mX11_guestTold) rfl rfl dX11_guestTold_69
        · refine go_case (fun hk13 => ?_) (fun hk13 => ?_)
          · refine go1 (M := mX11_guestTold) (pc' := 70) (r_tsw (M := mX11_guestTold) (off := 39) dX11_guestTold_31 (by rw [hk13]; decide) (by decide)) ?_
            refine go1 (M := mX11_guestTold) (pc' := 71) (r_aload_n (M := mX11_guestTold) (i := 3) rfl dX11_guestTold_70) ?_
            refine go1 (M := mX11_guestTold) (pc' := 74) (r_getR (M := mX11_guestTold) fl_11_168 hT4 rfl (wt_some hW hT4 (by decide) (by decide) rfl) dX11_guestTold_71) ?_
            have hT14 : TY S (pr S (pr S (pr S a0 5) 4) 4) 14 := wt hW hT4 (by decide) (by decide) rfl (by decide)
            refine go1 (M := mX11_guestTold) (pc' := 75) (r_iload_n (M := mX11_guestTold) (i := 1) rfl dX11_guestTold_74) ?_
            refine go_ck (fun hi15 => ?_)
            refine go1 (M := mX11_guestTold) (pc' := 76) (r_iald (M := mX11_guestTold) hT14 hi15 dX11_guestTold_75) ?_
            exact go_iret (M := mX11_guestTold) rfl rfl dX11_guestTold_76
          · have hq0 := lv_neT hk7 (show (1 : Int32).toInt = (1 : Int) by decide)
            have hq1 := lv_neT hk10 (show (2 : Int32).toInt = (2 : Int) by decide)
            have hq2 := lv_neT hk13 (show (3 : Int32).toInt = (3 : Int) by decide)
            refine go1 (M := mX11_guestTold) (pc' := 77) (r_tswO (M := mX11_guestTold) dX11_guestTold_31 (by omega) (by decide)) ?_
            refine go1 (M := mX11_guestTold) (pc' := 78) (r_aload_n (M := mX11_guestTold) (i := 3) rfl dX11_guestTold_77) ?_
            refine go1 (M := mX11_guestTold) (pc' := 79) (r_iload_n (M := mX11_guestTold) (i := 1) rfl dX11_guestTold_78) ?_
            refine go_V_PI (M := mX11_guestTold) (pc' := 82) (st := []) (As := [.int a1]) rfl ln_11_171 lb_X8_roomOf (t_X8_roomOf (N := N) hW (by omega) hT4) (by omega) hT4 (Nat.le_of_ble_eq_true rfl) rfl dX11_guestTold_79 (fun r16 => ?_)
            exact go_iret (M := mX11_guestTold) rfl rfl dX11_guestTold_82
def f_X11_seatTold (N : Nat) (S : SH) (a0 : Nat) (a1 : Int32) (a2 : Int32) (x : DY) : Option Int32 :=
  Option.bind (f_X8_has N S (pr S (pr S a0 5) 4) a1 x) (fun r3 => (if r3 = 0 then some (-2) else (if a2 = 0 then ck S (pr S (pr S (pr S a0 5) 4) 0) a1 (some (x.1 (pr S (pr S (pr S a0 5) 4) 0) a1.toNatClampNeg)) else (if a2 = 1 then Option.bind (f_X11_guestTold N S a0 a1 a2 x) (fun r9 => some r9) else (if a2 = 2 then Option.bind (f_X11_guestTold N S a0 a1 a2 x) (fun r11 => some r11) else (if a2 = 3 then Option.bind (f_X11_guestTold N S a0 a1 a2 x) (fun r13 => some r13) else (if a2 = 4 then Option.bind (f_X11_guestTold N S a0 a1 a2 x) (fun r15 => some r15) else (if a2 = 5 then Option.bind (f_X4_onBill N S (pr S (pr S a0 5) 3) a1 x) (fun r18 => some r18) else (if a2 = 6 then Option.bind (f_X4_billOf N S (pr S (pr S a0 5) 3) a1 (pr S a0 0) x) (fun r22 => some r22) else (if a2 = 7 then ck S (pr S (pr S (pr S a0 5) 4) 5) a1 (some (x.1 (pr S (pr S (pr S a0 5) 4) 5) a1.toNatClampNeg)) else Option.bind (f_X11_guestTold N S a0 a1 a2 x) (fun r26 => some r26)))))))))))
set_option maxHeartbeats 1000000 in
theorem t_X11_seatTold {N d : Nat} {S : SH} (hW : WT S) {x : DY} {a0 : Nat} {a1 : Int32} {a2 : Int32} (hd : 3 ≤ d) (h0 : TY S a0 11) : CT mX11_seatTold d S [.ref a0, .int a1, .int a2] x (wPI x) (f_X11_seatTold N S a0 a1 a2 x) := by
  refine CT.of [some (.ref a0), some (.int a1), some (.int a2), none] rfl (Nat.le_of_ble_eq_true rfl) (by decide +kernel) ?_
  unfold f_X11_seatTold
  refine go1 (M := mX11_seatTold) (pc' := 1) (r_aload_n (M := mX11_seatTold) (i := 0) rfl dX11_seatTold_0) ?_
  refine go1 (M := mX11_seatTold) (pc' := 4) (r_getR (M := mX11_seatTold) fl_11_55 h0 rfl (wt_some hW h0 (by decide) (by decide) rfl) dX11_seatTold_1) ?_
  have hT1 : TY S (pr S a0 5) 6 := wt hW h0 (by decide) (by decide) rfl (by decide)
  refine go1 (M := mX11_seatTold) (pc' := 7) (r_getR (M := mX11_seatTold) fl_11_123 hT1 rfl (wt_some hW hT1 (by decide) (by decide) rfl) dX11_seatTold_4) ?_
  have hT2 : TY S (pr S (pr S a0 5) 4) 8 := wt hW hT1 (by decide) (by decide) rfl (by decide)
  refine go1 (M := mX11_seatTold) (pc' := 8) (ls' := [some (.ref a0), some (.int a1), some (.int a2), some (.ref (pr S (pr S a0 5) 4))]) (r_astore_n (M := mX11_seatTold) (ls := [some (.ref a0), some (.int a1), some (.int a2), none]) (i := 3) (v := (pr S (pr S a0 5) 4)) (by decide) rfl dX11_seatTold_7) ?_
  refine go1 (M := mX11_seatTold) (pc' := 9) (r_aload_n (M := mX11_seatTold) (i := 3) rfl dX11_seatTold_8) ?_
  refine go1 (M := mX11_seatTold) (pc' := 10) (r_iload_n (M := mX11_seatTold) (i := 1) rfl dX11_seatTold_9) ?_
  refine go_V_PI (M := mX11_seatTold) (pc' := 13) (st := []) (As := [.int a1]) rfl ln_11_135 lb_X8_has (t_X8_has (N := N) hW (by omega) hT2) (by omega) hT2 (Nat.le_of_ble_eq_true rfl) rfl dX11_seatTold_10 (fun r3 => ?_)
  refine go_br (M := mX11_seatTold) (pt := 16) (pf := 19) (fun kt kf => r_if_ne (M := mX11_seatTold) dX11_seatTold_13 (by decide) kf kt) (fun hc4 => ?_) (fun hc4 => ?_)
  · refine go1 (M := mX11_seatTold) (pc' := 18) (r_bipush (M := mX11_seatTold) (v := (-2)) (by decide) dX11_seatTold_16) ?_
    exact go_iret (M := mX11_seatTold) rfl rfl dX11_seatTold_18
  · refine go1 (M := mX11_seatTold) (pc' := 20) (r_iload_n (M := mX11_seatTold) (i := 2) rfl dX11_seatTold_19) ?_
    refine go_case (fun hk5 => ?_) (fun hk5 => ?_)
    · refine go1 (M := mX11_seatTold) (pc' := 68) (r_tsw (M := mX11_seatTold) (off := 48) dX11_seatTold_20 (by rw [hk5]; decide) (by decide)) ?_
      refine go1 (M := mX11_seatTold) (pc' := 69) (r_aload_n (M := mX11_seatTold) (i := 3) rfl dX11_seatTold_68) ?_
      refine go1 (M := mX11_seatTold) (pc' := 72) (r_getR (M := mX11_seatTold) fl_11_146 hT2 rfl (wt_some hW hT2 (by decide) (by decide) rfl) dX11_seatTold_69) ?_
      have hT6 : TY S (pr S (pr S (pr S a0 5) 4) 0) 14 := wt hW hT2 (by decide) (by decide) rfl (by decide)
      refine go1 (M := mX11_seatTold) (pc' := 73) (r_iload_n (M := mX11_seatTold) (i := 1) rfl dX11_seatTold_72) ?_
      refine go_ck (fun hi7 => ?_)
      refine go1 (M := mX11_seatTold) (pc' := 74) (r_iald (M := mX11_seatTold) hT6 hi7 dX11_seatTold_73) ?_
      exact go_iret (M := mX11_seatTold) rfl rfl dX11_seatTold_74
    · refine go_case (fun hk8 => ?_) (fun hk8 => ?_)
      · refine go1 (M := mX11_seatTold) (pc' := 110) (r_tsw (M := mX11_seatTold) (off := 90) dX11_seatTold_20 (by rw [hk8]; decide) (by decide)) ?_
        refine go1 (M := mX11_seatTold) (pc' := 111) (r_aload_n (M := mX11_seatTold) (i := 0) rfl dX11_seatTold_110) ?_
        refine go1 (M := mX11_seatTold) (pc' := 112) (r_iload_n (M := mX11_seatTold) (i := 1) rfl dX11_seatTold_111) ?_
        refine go1 (M := mX11_seatTold) (pc' := 113) (r_iload_n (M := mX11_seatTold) (i := 2) rfl dX11_seatTold_112) ?_
        refine go_V_PI (M := mX11_seatTold) (pc' := 116) (st := []) (As := [.int a1, .int a2]) rfl ln_11_159 lb_X11_guestTold (t_X11_guestTold (N := N) hW (by omega) h0) (by omega) h0 (Nat.le_of_ble_eq_true rfl) rfl dX11_seatTold_113 (fun r9 => ?_)
        exact go_iret (M := mX11_seatTold) rfl rfl dX11_seatTold_116
      · refine go_case (fun hk10 => ?_) (fun hk10 => ?_)
        · refine go1 (M := mX11_seatTold) (pc' := 110) (r_tsw (M := mX11_seatTold) (off := 90) dX11_seatTold_20 (by rw [hk10]; decide) (by decide)) ?_
          refine go1 (M := mX11_seatTold) (pc' := 111) (r_aload_n (M := mX11_seatTold) (i := 0) rfl dX11_seatTold_110) ?_
          refine go1 (M := mX11_seatTold) (pc' := 112) (r_iload_n (M := mX11_seatTold) (i := 1) rfl dX11_seatTold_111) ?_
          refine go1 (M := mX11_seatTold) (pc' := 113) (r_iload_n (M := mX11_seatTold) (i := 2) rfl dX11_seatTold_112) ?_
          refine go_V_PI (M := mX11_seatTold) (pc' := 116) (st := []) (As := [.int a1, .int a2]) rfl ln_11_159 lb_X11_guestTold (t_X11_guestTold (N := N) hW (by omega) h0) (by omega) h0 (Nat.le_of_ble_eq_true rfl) rfl dX11_seatTold_113 (fun r11 => ?_)
          exact go_iret (M := mX11_seatTold) rfl rfl dX11_seatTold_116
        · refine go_case (fun hk12 => ?_) (fun hk12 => ?_)
          · refine go1 (M := mX11_seatTold) (pc' := 110) (r_tsw (M := mX11_seatTold) (off := 90) dX11_seatTold_20 (by rw [hk12]; decide) (by decide)) ?_
            refine go1 (M := mX11_seatTold) (pc' := 111) (r_aload_n (M := mX11_seatTold) (i := 0) rfl dX11_seatTold_110) ?_
            refine go1 (M := mX11_seatTold) (pc' := 112) (r_iload_n (M := mX11_seatTold) (i := 1) rfl dX11_seatTold_111) ?_
            refine go1 (M := mX11_seatTold) (pc' := 113) (r_iload_n (M := mX11_seatTold) (i := 2) rfl dX11_seatTold_112) ?_
            refine go_V_PI (M := mX11_seatTold) (pc' := 116) (st := []) (As := [.int a1, .int a2]) rfl ln_11_159 lb_X11_guestTold (t_X11_guestTold (N := N) hW (by omega) h0) (by omega) h0 (Nat.le_of_ble_eq_true rfl) rfl dX11_seatTold_113 (fun r13 => ?_)
            exact go_iret (M := mX11_seatTold) rfl rfl dX11_seatTold_116
          · refine go_case (fun hk14 => ?_) (fun hk14 => ?_)
            · refine go1 (M := mX11_seatTold) (pc' := 110) (r_tsw (M := mX11_seatTold) (off := 90) dX11_seatTold_20 (by rw [hk14]; decide) (by decide)) ?_
              refine go1 (M := mX11_seatTold) (pc' := 111) (r_aload_n (M := mX11_seatTold) (i := 0) rfl dX11_seatTold_110) ?_
              refine go1 (M := mX11_seatTold) (pc' := 112) (r_iload_n (M := mX11_seatTold) (i := 1) rfl dX11_seatTold_111) ?_
              refine go1 (M := mX11_seatTold) (pc' := 113) (r_iload_n (M := mX11_seatTold) (i := 2) rfl dX11_seatTold_112) ?_
              refine go_V_PI (M := mX11_seatTold) (pc' := 116) (st := []) (As := [.int a1, .int a2]) rfl ln_11_159 lb_X11_guestTold (t_X11_guestTold (N := N) hW (by omega) h0) (by omega) h0 (Nat.le_of_ble_eq_true rfl) rfl dX11_seatTold_113 (fun r15 => ?_)
              exact go_iret (M := mX11_seatTold) rfl rfl dX11_seatTold_116
            · refine go_case (fun hk16 => ?_) (fun hk16 => ?_)
              · refine go1 (M := mX11_seatTold) (pc' := 75) (r_tsw (M := mX11_seatTold) (off := 55) dX11_seatTold_20 (by rw [hk16]; decide) (by decide)) ?_
                refine go1 (M := mX11_seatTold) (pc' := 76) (r_aload_n (M := mX11_seatTold) (i := 0) rfl dX11_seatTold_75) ?_
                refine go1 (M := mX11_seatTold) (pc' := 79) (r_getR (M := mX11_seatTold) fl_11_55 h0 rfl (wt_some hW h0 (by decide) (by decide) rfl) dX11_seatTold_76) ?_
                refine go1 (M := mX11_seatTold) (pc' := 82) (r_getR (M := mX11_seatTold) fl_11_91 hT1 rfl (wt_some hW hT1 (by decide) (by decide) rfl) dX11_seatTold_79) ?_
                have hT17 : TY S (pr S (pr S a0 5) 3) 4 := wt hW hT1 (by decide) (by decide) rfl (by decide)
                refine go1 (M := mX11_seatTold) (pc' := 83) (r_iload_n (M := mX11_seatTold) (i := 1) rfl dX11_seatTold_82) ?_
                refine go_V_PI (M := mX11_seatTold) (pc' := 86) (st := []) (As := [.int a1]) rfl ln_11_149 lb_X4_onBill (t_X4_onBill (N := N) hW (by omega) hT17) (by omega) hT17 (Nat.le_of_ble_eq_true rfl) rfl dX11_seatTold_83 (fun r18 => ?_)
                exact go_iret (M := mX11_seatTold) rfl rfl dX11_seatTold_86
              · refine go_case (fun hk19 => ?_) (fun hk19 => ?_)
                · refine go1 (M := mX11_seatTold) (pc' := 87) (r_tsw (M := mX11_seatTold) (off := 67) dX11_seatTold_20 (by rw [hk19]; decide) (by decide)) ?_
                  refine go1 (M := mX11_seatTold) (pc' := 88) (r_aload_n (M := mX11_seatTold) (i := 0) rfl dX11_seatTold_87) ?_
                  refine go1 (M := mX11_seatTold) (pc' := 91) (r_getR (M := mX11_seatTold) fl_11_55 h0 rfl (wt_some hW h0 (by decide) (by decide) rfl) dX11_seatTold_88) ?_
                  refine go1 (M := mX11_seatTold) (pc' := 94) (r_getR (M := mX11_seatTold) fl_11_91 hT1 rfl (wt_some hW hT1 (by decide) (by decide) rfl) dX11_seatTold_91) ?_
                  have hT20 : TY S (pr S (pr S a0 5) 3) 4 := wt hW hT1 (by decide) (by decide) rfl (by decide)
                  refine go1 (M := mX11_seatTold) (pc' := 95) (r_iload_n (M := mX11_seatTold) (i := 1) rfl dX11_seatTold_94) ?_
                  refine go1 (M := mX11_seatTold) (pc' := 96) (r_aload_n (M := mX11_seatTold) (i := 0) rfl dX11_seatTold_95) ?_
                  refine go1 (M := mX11_seatTold) (pc' := 99) (r_getR (M := mX11_seatTold) fl_11_10 h0 rfl (wt_some hW h0 (by decide) (by decide) rfl) dX11_seatTold_96) ?_
                  have hT21 : TY S (pr S a0 0) 3 := wt hW h0 (by decide) (by decide) rfl (by decide)
                  refine go_V_PI (M := mX11_seatTold) (pc' := 102) (st := []) (As := [.int a1, .ref (pr S a0 0)]) rfl ln_11_152 lb_X4_billOf (t_X4_billOf (N := N) hW (by omega) hT20 hT21) (by omega) hT20 (Nat.le_of_ble_eq_true rfl) rfl dX11_seatTold_99 (fun r22 => ?_)
                  exact go_iret (M := mX11_seatTold) rfl rfl dX11_seatTold_102
                · refine go_case (fun hk23 => ?_) (fun hk23 => ?_)
                  · refine go1 (M := mX11_seatTold) (pc' := 103) (r_tsw (M := mX11_seatTold) (off := 83) dX11_seatTold_20 (by rw [hk23]; decide) (by decide)) ?_
                    refine go1 (M := mX11_seatTold) (pc' := 104) (r_aload_n (M := mX11_seatTold) (i := 3) rfl dX11_seatTold_103) ?_
                    refine go1 (M := mX11_seatTold) (pc' := 107) (r_getR (M := mX11_seatTold) fl_11_156 hT2 rfl (wt_some hW hT2 (by decide) (by decide) rfl) dX11_seatTold_104) ?_
                    have hT24 : TY S (pr S (pr S (pr S a0 5) 4) 5) 14 := wt hW hT2 (by decide) (by decide) rfl (by decide)
                    refine go1 (M := mX11_seatTold) (pc' := 108) (r_iload_n (M := mX11_seatTold) (i := 1) rfl dX11_seatTold_107) ?_
                    refine go_ck (fun hi25 => ?_)
                    refine go1 (M := mX11_seatTold) (pc' := 109) (r_iald (M := mX11_seatTold) hT24 hi25 dX11_seatTold_108) ?_
                    exact go_iret (M := mX11_seatTold) rfl rfl dX11_seatTold_109
                  · have hq0 := lv_neT hk5 (show (0 : Int32).toInt = (0 : Int) by decide)
                    have hq1 := lv_neT hk8 (show (1 : Int32).toInt = (1 : Int) by decide)
                    have hq2 := lv_neT hk10 (show (2 : Int32).toInt = (2 : Int) by decide)
                    have hq3 := lv_neT hk12 (show (3 : Int32).toInt = (3 : Int) by decide)
                    have hq4 := lv_neT hk14 (show (4 : Int32).toInt = (4 : Int) by decide)
                    have hq5 := lv_neT hk16 (show (5 : Int32).toInt = (5 : Int) by decide)
                    have hq6 := lv_neT hk19 (show (6 : Int32).toInt = (6 : Int) by decide)
                    have hq7 := lv_neT hk23 (show (7 : Int32).toInt = (7 : Int) by decide)
                    refine go1 (M := mX11_seatTold) (pc' := 110) (r_tswO (M := mX11_seatTold) dX11_seatTold_20 (by omega) (by decide)) ?_
                    refine go1 (M := mX11_seatTold) (pc' := 111) (r_aload_n (M := mX11_seatTold) (i := 0) rfl dX11_seatTold_110) ?_
                    refine go1 (M := mX11_seatTold) (pc' := 112) (r_iload_n (M := mX11_seatTold) (i := 1) rfl dX11_seatTold_111) ?_
                    refine go1 (M := mX11_seatTold) (pc' := 113) (r_iload_n (M := mX11_seatTold) (i := 2) rfl dX11_seatTold_112) ?_
                    refine go_V_PI (M := mX11_seatTold) (pc' := 116) (st := []) (As := [.int a1, .int a2]) rfl ln_11_159 lb_X11_guestTold (t_X11_guestTold (N := N) hW (by omega) h0) (by omega) h0 (Nat.le_of_ble_eq_true rfl) rfl dX11_seatTold_113 (fun r26 => ?_)
                    exact go_iret (M := mX11_seatTold) rfl rfl dX11_seatTold_116
def f_X11_liking (N : Nat) (S : SH) (a0 : Nat) (a1 : Int32) (a2 : Int32) (x : DY) : Option Int64 :=
  Option.bind (f_X8_isTaken N S (pr S (pr S a0 5) 4) a1 x) (fun r3 => (if r3 = 0 then some (-4611686018427387904) else Option.bind (f_X4_has N S (pr S (pr S a0 5) 3) a2 x) (fun r6 => (if r6 = 0 then some (-4611686018427387904) else Option.bind (f_X6_likingOf N S (pr S a0 5) a1 a2 x) (fun r8 => some ((r8).toInt64))))))
set_option maxHeartbeats 1000000 in
theorem t_X11_liking {N d : Nat} {S : SH} (hW : WT S) {x : DY} {a0 : Nat} {a1 : Int32} {a2 : Int32} (hd : 3 ≤ d) (h0 : TY S a0 11) : CT mX11_liking d S [.ref a0, .int a1, .int a2] x (wPL x) (f_X11_liking N S a0 a1 a2 x) := by
  refine CT.of [some (.ref a0), some (.int a1), some (.int a2)] rfl (Nat.le_of_ble_eq_true rfl) (by decide +kernel) ?_
  unfold f_X11_liking
  refine go1 (M := mX11_liking) (pc' := 1) (r_aload_n (M := mX11_liking) (i := 0) rfl dX11_liking_0) ?_
  refine go1 (M := mX11_liking) (pc' := 4) (r_getR (M := mX11_liking) fl_11_55 h0 rfl (wt_some hW h0 (by decide) (by decide) rfl) dX11_liking_1) ?_
  have hT1 : TY S (pr S a0 5) 6 := wt hW h0 (by decide) (by decide) rfl (by decide)
  refine go1 (M := mX11_liking) (pc' := 7) (r_getR (M := mX11_liking) fl_11_123 hT1 rfl (wt_some hW hT1 (by decide) (by decide) rfl) dX11_liking_4) ?_
  have hT2 : TY S (pr S (pr S a0 5) 4) 8 := wt hW hT1 (by decide) (by decide) rfl (by decide)
  refine go1 (M := mX11_liking) (pc' := 8) (r_iload_n (M := mX11_liking) (i := 1) rfl dX11_liking_7) ?_
  refine go_V_PI (M := mX11_liking) (pc' := 11) (st := []) (As := [.int a1]) rfl ln_11_140 lb_X8_isTaken (t_X8_isTaken (N := N) hW (by omega) hT2) (by omega) hT2 (Nat.le_of_ble_eq_true rfl) rfl dX11_liking_8 (fun r3 => ?_)
  refine go_br (M := mX11_liking) (pt := 28) (pf := 14) (fun kt kf => r_if_eq (M := mX11_liking) dX11_liking_11 (by decide) kt kf) (fun hc4 => ?_) (fun hc4 => ?_)
  · refine go1 (M := mX11_liking) (pc' := 31) (r_ldc2 (M := mX11_liking) (v := (-4611686018427387904)) (tb3 55 (by decide +kernel) rfl) dX11_liking_28) ?_
    exact go_lret (M := mX11_liking) rfl rfl dX11_liking_31
  · refine go1 (M := mX11_liking) (pc' := 15) (r_aload_n (M := mX11_liking) (i := 0) rfl dX11_liking_14) ?_
    refine go1 (M := mX11_liking) (pc' := 18) (r_getR (M := mX11_liking) fl_11_55 h0 rfl (wt_some hW h0 (by decide) (by decide) rfl) dX11_liking_15) ?_
    refine go1 (M := mX11_liking) (pc' := 21) (r_getR (M := mX11_liking) fl_11_91 hT1 rfl (wt_some hW hT1 (by decide) (by decide) rfl) dX11_liking_18) ?_
    have hT5 : TY S (pr S (pr S a0 5) 3) 4 := wt hW hT1 (by decide) (by decide) rfl (by decide)
    refine go1 (M := mX11_liking) (pc' := 22) (r_iload_n (M := mX11_liking) (i := 2) rfl dX11_liking_21) ?_
    refine go_V_PI (M := mX11_liking) (pc' := 25) (st := []) (As := [.int a2]) rfl ln_11_95 lb_X4_has (t_X4_has (N := N) hW (by omega) hT5) (by omega) hT5 (Nat.le_of_ble_eq_true rfl) rfl dX11_liking_22 (fun r6 => ?_)
    refine go_br (M := mX11_liking) (pt := 28) (pf := 32) (fun kt kf => r_if_ne (M := mX11_liking) dX11_liking_25 (by decide) kf kt) (fun hc7 => ?_) (fun hc7 => ?_)
    · refine go1 (M := mX11_liking) (pc' := 31) (r_ldc2 (M := mX11_liking) (v := (-4611686018427387904)) (tb3 55 (by decide +kernel) rfl) dX11_liking_28) ?_
      exact go_lret (M := mX11_liking) rfl rfl dX11_liking_31
    · refine go1 (M := mX11_liking) (pc' := 33) (r_aload_n (M := mX11_liking) (i := 0) rfl dX11_liking_32) ?_
      refine go1 (M := mX11_liking) (pc' := 36) (r_getR (M := mX11_liking) fl_11_55 h0 rfl (wt_some hW h0 (by decide) (by decide) rfl) dX11_liking_33) ?_
      refine go1 (M := mX11_liking) (pc' := 37) (r_iload_n (M := mX11_liking) (i := 1) rfl dX11_liking_36) ?_
      refine go1 (M := mX11_liking) (pc' := 38) (r_iload_n (M := mX11_liking) (i := 2) rfl dX11_liking_37) ?_
      refine go_V_PI (M := mX11_liking) (pc' := 41) (st := []) (As := [.int a1, .int a2]) rfl ln_11_176 lb_X6_likingOf (t_X6_likingOf (N := N) hW (by omega) hT1) (by omega) hT1 (Nat.le_of_ble_eq_true rfl) rfl dX11_liking_38 (fun r8 => ?_)
      refine go1 (M := mX11_liking) (pc' := 42) (r_i2l (M := mX11_liking) dX11_liking_41) ?_
      exact go_lret (M := mX11_liking) rfl rfl dX11_liking_42
def j_X11_pays_61 (N : Nat) (S : SH) (p1 : Int32) (p2 : Int32) (p3 : Nat) (x : DY) : Option (Int32 × DY) :=
  ck S (pr S p3 5) p1 (ck S (pr S p3 5) p1 (bl (U1 x (pr S p3 5) p1.toNatClampNeg p2) (fun x13 => some ((x.1 (pr S p3 5) p1.toNatClampNeg), x13))))
set_option maxHeartbeats 1000000 in
theorem j_X11_pays_61_t {N d : Nat} {S : SH} (hW : WT S) (hd : 2 ≤ d) (p1 : Int32) (p2 : Int32) (p3 : Nat) (x : DY) (g3 : TY S p3 8) : Go mX11_pays d S wSI 61 [none, some (.int p1), some (.int p2), some (.ref p3), none] [] x (j_X11_pays_61 N S p1 p2 p3 x) := by
  unfold j_X11_pays_61
  refine go1 (M := mX11_pays) (pc' := 62) (r_aload_n (M := mX11_pays) (i := 3) rfl dX11_pays_61) ?_
  refine go1 (M := mX11_pays) (pc' := 65) (r_getR (M := mX11_pays) fl_11_156 g3 rfl (wt_some hW g3 (by decide) (by decide) rfl) dX11_pays_62) ?_
  have hT10 : TY S (pr S p3 5) 14 := wt hW g3 (by decide) (by decide) rfl (by decide)
  refine go1 (M := mX11_pays) (pc' := 66) (r_iload_n (M := mX11_pays) (i := 1) rfl dX11_pays_65) ?_
  refine go_ck (fun hi11 => ?_)
  refine go1 (M := mX11_pays) (pc' := 67) (r_iald (M := mX11_pays) hT10 hi11 dX11_pays_66) ?_
  refine go1 (M := mX11_pays) (pc' := 69) (ls' := [none, some (.int p1), some (.int p2), some (.ref p3), some (.int (x.1 (pr S p3 5) p1.toNatClampNeg))]) (r_istore (M := mX11_pays) (ls := [none, some (.int p1), some (.int p2), some (.ref p3), none]) (i := 4) (v := (x.1 (pr S p3 5) p1.toNatClampNeg)) (by decide) rfl dX11_pays_67) ?_
  refine go1 (M := mX11_pays) (pc' := 70) (r_aload_n (M := mX11_pays) (i := 3) rfl dX11_pays_69) ?_
  refine go1 (M := mX11_pays) (pc' := 73) (r_getR (M := mX11_pays) fl_11_156 g3 rfl (wt_some hW g3 (by decide) (by decide) rfl) dX11_pays_70) ?_
  refine go1 (M := mX11_pays) (pc' := 74) (r_iload_n (M := mX11_pays) (i := 1) rfl dX11_pays_73) ?_
  refine go1 (M := mX11_pays) (pc' := 75) (r_iload_n (M := mX11_pays) (i := 2) rfl dX11_pays_74) ?_
  refine go_ck (fun hi12 => ?_)
  refine go1 (M := mX11_pays) (pc' := 76) (r_iast (M := mX11_pays) hT10 hi12 dX11_pays_75) ?_
  refine go_blx (fun x13 => ?_)
  refine go1 (M := mX11_pays) (pc' := 78) (r_iload (M := mX11_pays) (i := 4) rfl dX11_pays_76) ?_
  exact go_iret (M := mX11_pays) rfl rfl dX11_pays_78
def j_X11_pays_37 (N : Nat) (S : SH) (p1 : Int32) (p2 : Int32) (p3 : Nat) (x : DY) : Option (Int32 × DY) :=
  Option.bind (f_X8_isTaken N S p3 p1 x) (fun r7 => (if r7 = 0 then some ((-5), x) else (if p2 = (-1) then j_X11_pays_61 N S p1 p2 p3 x else Option.bind (f_X8_isTaken N S p3 p2 x) (fun r14 => (if r14 = 0 then some ((-5), x) else j_X11_pays_61 N S p1 p2 p3 x)))))
set_option maxHeartbeats 1000000 in
theorem j_X11_pays_37_t {N d : Nat} {S : SH} (hW : WT S) (hd : 2 ≤ d) (p1 : Int32) (p2 : Int32) (p3 : Nat) (x : DY) (g3 : TY S p3 8) : Go mX11_pays d S wSI 37 [none, some (.int p1), some (.int p2), some (.ref p3), none] [] x (j_X11_pays_37 N S p1 p2 p3 x) := by
  unfold j_X11_pays_37
  refine go1 (M := mX11_pays) (pc' := 38) (r_aload_n (M := mX11_pays) (i := 3) rfl dX11_pays_37) ?_
  refine go1 (M := mX11_pays) (pc' := 39) (r_iload_n (M := mX11_pays) (i := 1) rfl dX11_pays_38) ?_
  refine go_V_PI (M := mX11_pays) (pc' := 42) (st := []) (As := [.int p1]) rfl ln_11_140 lb_X8_isTaken (t_X8_isTaken (N := N) hW (by omega) g3) (by omega) g3 (Nat.le_of_ble_eq_true rfl) rfl dX11_pays_39 (fun r7 => ?_)
  refine go_br (M := mX11_pays) (pt := 58) (pf := 45) (fun kt kf => r_if_eq (M := mX11_pays) dX11_pays_42 (by decide) kt kf) (fun hc8 => ?_) (fun hc8 => ?_)
  · refine go1 (M := mX11_pays) (pc' := 60) (r_bipush (M := mX11_pays) (v := (-5)) (by decide) dX11_pays_58) ?_
    exact go_iret (M := mX11_pays) rfl rfl dX11_pays_60
  · refine go1 (M := mX11_pays) (pc' := 46) (r_iload_n (M := mX11_pays) (i := 2) rfl dX11_pays_45) ?_
    refine go1 (M := mX11_pays) (pc' := 47) (r_iconst (M := mX11_pays) (v := (-1)) (by decide) dX11_pays_46) ?_
    refine go_br (M := mX11_pays) (pt := 61) (pf := 50) (fun kt kf => r_icmp_eq (M := mX11_pays) dX11_pays_47 (by decide) kt kf) (fun hc9 => ?_) (fun hc9 => ?_)
    · exact j_X11_pays_61_t (N := N) hW (by omega) p1 p2 p3 x g3
    · refine go1 (M := mX11_pays) (pc' := 51) (r_aload_n (M := mX11_pays) (i := 3) rfl dX11_pays_50) ?_
      refine go1 (M := mX11_pays) (pc' := 52) (r_iload_n (M := mX11_pays) (i := 2) rfl dX11_pays_51) ?_
      refine go_V_PI (M := mX11_pays) (pc' := 55) (st := []) (As := [.int p2]) rfl ln_11_140 lb_X8_isTaken (t_X8_isTaken (N := N) hW (by omega) g3) (by omega) g3 (Nat.le_of_ble_eq_true rfl) rfl dX11_pays_52 (fun r14 => ?_)
      refine go_br (M := mX11_pays) (pt := 58) (pf := 61) (fun kt kf => r_if_ne (M := mX11_pays) dX11_pays_55 (by decide) kf kt) (fun hc15 => ?_) (fun hc15 => ?_)
      · refine go1 (M := mX11_pays) (pc' := 60) (r_bipush (M := mX11_pays) (v := (-5)) (by decide) dX11_pays_58) ?_
        exact go_iret (M := mX11_pays) rfl rfl dX11_pays_60
      · exact j_X11_pays_61_t (N := N) hW (by omega) p1 p2 p3 x g3
def f_X11_pays (N : Nat) (S : SH) (a0 : Nat) (a1 : Int32) (a2 : Int32) (x : DY) : Option (Int32 × DY) :=
  Option.bind (f_X8_has N S (pr S (pr S a0 5) 4) a1 x) (fun r3 => (if r3 = 0 then some ((-2), x) else (if a1 = a2 then some ((-2), x) else (if a2 = (-1) then j_X11_pays_37 N S a1 a2 (pr S (pr S a0 5) 4) x else Option.bind (f_X8_has N S (pr S (pr S a0 5) 4) a2 x) (fun r16 => (if r16 = 0 then some ((-2), x) else j_X11_pays_37 N S a1 a2 (pr S (pr S a0 5) 4) x))))))
set_option maxHeartbeats 1000000 in
theorem t_X11_pays {N d : Nat} {S : SH} (hW : WT S) {x : DY} {a0 : Nat} {a1 : Int32} {a2 : Int32} (hd : 2 ≤ d) (h0 : TY S a0 11) : CT mX11_pays d S [.ref a0, .int a1, .int a2] x wSI (f_X11_pays N S a0 a1 a2 x) := by
  refine CT.of [some (.ref a0), some (.int a1), some (.int a2), none, none] rfl (Nat.le_of_ble_eq_true rfl) (by decide +kernel) ?_
  unfold f_X11_pays
  refine go1 (M := mX11_pays) (pc' := 1) (r_aload_n (M := mX11_pays) (i := 0) rfl dX11_pays_0) ?_
  refine go1 (M := mX11_pays) (pc' := 4) (r_getR (M := mX11_pays) fl_11_55 h0 rfl (wt_some hW h0 (by decide) (by decide) rfl) dX11_pays_1) ?_
  have hT1 : TY S (pr S a0 5) 6 := wt hW h0 (by decide) (by decide) rfl (by decide)
  refine go1 (M := mX11_pays) (pc' := 7) (r_getR (M := mX11_pays) fl_11_123 hT1 rfl (wt_some hW hT1 (by decide) (by decide) rfl) dX11_pays_4) ?_
  have hT2 : TY S (pr S (pr S a0 5) 4) 8 := wt hW hT1 (by decide) (by decide) rfl (by decide)
  refine go1 (M := mX11_pays) (pc' := 8) (ls' := [some (.ref a0), some (.int a1), some (.int a2), some (.ref (pr S (pr S a0 5) 4)), none]) (r_astore_n (M := mX11_pays) (ls := [some (.ref a0), some (.int a1), some (.int a2), none, none]) (i := 3) (v := (pr S (pr S a0 5) 4)) (by decide) rfl dX11_pays_7) ?_
  refine go1 (M := mX11_pays) (pc' := 9) (r_aload_n (M := mX11_pays) (i := 3) rfl dX11_pays_8) ?_
  refine go1 (M := mX11_pays) (pc' := 10) (r_iload_n (M := mX11_pays) (i := 1) rfl dX11_pays_9) ?_
  refine go_V_PI (M := mX11_pays) (pc' := 13) (st := []) (As := [.int a1]) rfl ln_11_135 lb_X8_has (t_X8_has (N := N) hW (by omega) hT2) (by omega) hT2 (Nat.le_of_ble_eq_true rfl) rfl dX11_pays_10 (fun r3 => ?_)
  refine go_br (M := mX11_pays) (pt := 34) (pf := 16) (fun kt kf => r_if_eq (M := mX11_pays) dX11_pays_13 (by decide) kt kf) (fun hc4 => ?_) (fun hc4 => ?_)
  · refine go1 (M := mX11_pays) (pc' := 36) (r_bipush (M := mX11_pays) (v := (-2)) (by decide) dX11_pays_34) ?_
    exact go_iret (M := mX11_pays) rfl rfl dX11_pays_36
  · refine go1 (M := mX11_pays) (pc' := 17) (r_iload_n (M := mX11_pays) (i := 1) rfl dX11_pays_16) ?_
    refine go1 (M := mX11_pays) (pc' := 18) (r_iload_n (M := mX11_pays) (i := 2) rfl dX11_pays_17) ?_
    refine go_br (M := mX11_pays) (pt := 34) (pf := 21) (fun kt kf => r_icmp_eq (M := mX11_pays) dX11_pays_18 (by decide) kt kf) (fun hc5 => ?_) (fun hc5 => ?_)
    · refine go1 (M := mX11_pays) (pc' := 36) (r_bipush (M := mX11_pays) (v := (-2)) (by decide) dX11_pays_34) ?_
      exact go_iret (M := mX11_pays) rfl rfl dX11_pays_36
    · refine go1 (M := mX11_pays) (pc' := 22) (r_iload_n (M := mX11_pays) (i := 2) rfl dX11_pays_21) ?_
      refine go1 (M := mX11_pays) (pc' := 23) (r_iconst (M := mX11_pays) (v := (-1)) (by decide) dX11_pays_22) ?_
      refine go_br (M := mX11_pays) (pt := 37) (pf := 26) (fun kt kf => r_icmp_eq (M := mX11_pays) dX11_pays_23 (by decide) kt kf) (fun hc6 => ?_) (fun hc6 => ?_)
      · refine go_drop (ls' := [none, some (.int a1), some (.int a2), some (.ref (pr S (pr S a0 5) 4)), none]) (And.intro rfl (And.intro rfl (And.intro rfl trivial))) ?_
        exact j_X11_pays_37_t (N := N) hW (by omega) a1 a2 (pr S (pr S a0 5) 4) x hT2
      · refine go1 (M := mX11_pays) (pc' := 27) (r_aload_n (M := mX11_pays) (i := 3) rfl dX11_pays_26) ?_
        refine go1 (M := mX11_pays) (pc' := 28) (r_iload_n (M := mX11_pays) (i := 2) rfl dX11_pays_27) ?_
        refine go_V_PI (M := mX11_pays) (pc' := 31) (st := []) (As := [.int a2]) rfl ln_11_135 lb_X8_has (t_X8_has (N := N) hW (by omega) hT2) (by omega) hT2 (Nat.le_of_ble_eq_true rfl) rfl dX11_pays_28 (fun r16 => ?_)
        refine go_br (M := mX11_pays) (pt := 34) (pf := 37) (fun kt kf => r_if_ne (M := mX11_pays) dX11_pays_31 (by decide) kf kt) (fun hc17 => ?_) (fun hc17 => ?_)
        · refine go1 (M := mX11_pays) (pc' := 36) (r_bipush (M := mX11_pays) (v := (-2)) (by decide) dX11_pays_34) ?_
          exact go_iret (M := mX11_pays) rfl rfl dX11_pays_36
        · refine go_drop (ls' := [none, some (.int a1), some (.int a2), some (.ref (pr S (pr S a0 5) 4)), none]) (And.intro rfl (And.intro rfl (And.intro rfl trivial))) ?_
          exact j_X11_pays_37_t (N := N) hW (by omega) a1 a2 (pr S (pr S a0 5) 4) x hT2
def f_X11_putBack (N : Nat) (S : SH) (a0 : Nat) (a1 : Int32) (x : DY) : Option (Int32 × DY) :=
  Option.bind (f_X8_has N S (pr S (pr S a0 5) 4) a1 x) (fun r3 => (if r3 = 0 then some ((-2), x) else Option.bind (f_X6_returnPlate N S (pr S a0 5) a1 x) (fun r5 => some (r5.1, r5.2))))
set_option maxHeartbeats 1000000 in
theorem t_X11_putBack {N d : Nat} {S : SH} (hW : WT S) {x : DY} {a0 : Nat} {a1 : Int32} (hd : 3 ≤ d) (h0 : TY S a0 11) : CT mX11_putBack d S [.ref a0, .int a1] x wSI (f_X11_putBack N S a0 a1 x) := by
  refine CT.of [some (.ref a0), some (.int a1)] rfl (Nat.le_of_ble_eq_true rfl) (by decide +kernel) ?_
  unfold f_X11_putBack
  refine go1 (M := mX11_putBack) (pc' := 1) (r_aload_n (M := mX11_putBack) (i := 0) rfl dX11_putBack_0) ?_
  refine go1 (M := mX11_putBack) (pc' := 4) (r_getR (M := mX11_putBack) fl_11_55 h0 rfl (wt_some hW h0 (by decide) (by decide) rfl) dX11_putBack_1) ?_
  have hT1 : TY S (pr S a0 5) 6 := wt hW h0 (by decide) (by decide) rfl (by decide)
  refine go1 (M := mX11_putBack) (pc' := 7) (r_getR (M := mX11_putBack) fl_11_123 hT1 rfl (wt_some hW hT1 (by decide) (by decide) rfl) dX11_putBack_4) ?_
  have hT2 : TY S (pr S (pr S a0 5) 4) 8 := wt hW hT1 (by decide) (by decide) rfl (by decide)
  refine go1 (M := mX11_putBack) (pc' := 8) (r_iload_n (M := mX11_putBack) (i := 1) rfl dX11_putBack_7) ?_
  refine go_V_PI (M := mX11_putBack) (pc' := 11) (st := []) (As := [.int a1]) rfl ln_11_135 lb_X8_has (t_X8_has (N := N) hW (by omega) hT2) (by omega) hT2 (Nat.le_of_ble_eq_true rfl) rfl dX11_putBack_8 (fun r3 => ?_)
  refine go_br (M := mX11_putBack) (pt := 25) (pf := 14) (fun kt kf => r_if_eq (M := mX11_putBack) dX11_putBack_11 (by decide) kt kf) (fun hc4 => ?_) (fun hc4 => ?_)
  · refine go1 (M := mX11_putBack) (pc' := 27) (r_bipush (M := mX11_putBack) (v := (-2)) (by decide) dX11_putBack_25) ?_
    exact go_iret (M := mX11_putBack) rfl rfl dX11_putBack_27
  · refine go1 (M := mX11_putBack) (pc' := 15) (r_aload_n (M := mX11_putBack) (i := 0) rfl dX11_putBack_14) ?_
    refine go1 (M := mX11_putBack) (pc' := 18) (r_getR (M := mX11_putBack) fl_11_55 h0 rfl (wt_some hW h0 (by decide) (by decide) rfl) dX11_putBack_15) ?_
    refine go1 (M := mX11_putBack) (pc' := 19) (r_iload_n (M := mX11_putBack) (i := 1) rfl dX11_putBack_18) ?_
    refine go_V_SI (M := mX11_putBack) (pc' := 22) (st := []) (As := [.int a1]) rfl ln_11_179 lb_X6_returnPlate (t_X6_returnPlate (N := N) hW (by omega) hT1) (by omega) hT1 (Nat.le_of_ble_eq_true rfl) rfl dX11_putBack_19 (fun r5 => ?_)
    refine go1 (M := mX11_putBack) (pc' := 27) (r_goto (M := mX11_putBack) dX11_putBack_22 (by decide)) ?_
    exact go_iret (M := mX11_putBack) rfl rfl dX11_putBack_27
def f_X11_feed (N : Nat) (S : SH) (a0 : Nat) (a1 : Int32) (a2 : Int64) (x : DY) : Option (Int32 × DY) :=
  Option.bind (f_X11_within N S a1 1 8 x) (fun r1 => (if r1 = 0 then some ((-2), x) else Option.bind (f_X5_append N S (pr S a0 2) a1 a2 x) (fun r4 => some (r4.1, r4.2))))
set_option maxHeartbeats 1000000 in
theorem t_X11_feed {N d : Nat} {S : SH} (hW : WT S) {x : DY} {a0 : Nat} {a1 : Int32} {a2 : Int64} (hd : 2 ≤ d) (h0 : TY S a0 11) : CT mX11_feed d S [.ref a0, .int a1, .long a2] x wSI (f_X11_feed N S a0 a1 a2 x) := by
  refine CT.of [some (.ref a0), some (.int a1), some (.long a2), none] rfl (Nat.le_of_ble_eq_true rfl) (by decide +kernel) ?_
  unfold f_X11_feed
  refine go1 (M := mX11_feed) (pc' := 1) (r_iload_n (M := mX11_feed) (i := 1) rfl dX11_feed_0) ?_
  refine go1 (M := mX11_feed) (pc' := 2) (r_iconst (M := mX11_feed) (v := 1) (by decide) dX11_feed_1) ?_
  refine go1 (M := mX11_feed) (pc' := 4) (r_bipush (M := mX11_feed) (v := 8) (by decide) dX11_feed_2) ?_
  refine go_S_PI (M := mX11_feed) (pc' := 7) (st := []) (As := [.int a1, .int 1, .int 8]) rfl ln_11_73 lb_X11_within (t_X11_within (N := N) hW (by omega) ) (by omega) (Nat.le_of_ble_eq_true rfl) rfl dX11_feed_4 (fun r1 => ?_)
  refine go_br (M := mX11_feed) (pt := 22) (pf := 10) (fun kt kf => r_if_eq (M := mX11_feed) dX11_feed_7 (by decide) kt kf) (fun hc2 => ?_) (fun hc2 => ?_)
  · refine go1 (M := mX11_feed) (pc' := 24) (r_bipush (M := mX11_feed) (v := (-2)) (by decide) dX11_feed_22) ?_
    exact go_iret (M := mX11_feed) rfl rfl dX11_feed_24
  · refine go1 (M := mX11_feed) (pc' := 11) (r_aload_n (M := mX11_feed) (i := 0) rfl dX11_feed_10) ?_
    refine go1 (M := mX11_feed) (pc' := 14) (r_getR (M := mX11_feed) fl_11_26 h0 rfl (wt_some hW h0 (by decide) (by decide) rfl) dX11_feed_11) ?_
    have hT3 : TY S (pr S a0 2) 5 := wt hW h0 (by decide) (by decide) rfl (by decide)
    refine go1 (M := mX11_feed) (pc' := 15) (r_iload_n (M := mX11_feed) (i := 1) rfl dX11_feed_14) ?_
    refine go1 (M := mX11_feed) (pc' := 16) (r_lload_n (M := mX11_feed) (i := 2) rfl dX11_feed_15) ?_
    refine go_V_SI (M := mX11_feed) (pc' := 19) (st := []) (As := [.int a1, .long a2]) rfl ln_11_182 lb_X5_append (t_X5_append (N := N) hW (by omega) hT3) (by omega) hT3 (Nat.le_of_ble_eq_true rfl) rfl dX11_feed_16 (fun r4 => ?_)
    refine go1 (M := mX11_feed) (pc' := 24) (r_goto (M := mX11_feed) dX11_feed_19 (by decide)) ?_
    exact go_iret (M := mX11_feed) rfl rfl dX11_feed_24
def f_X11_says (N : Nat) (S : SH) (a0 : Nat) (a1 : Int32) (a2 : Int32) (a3 : Int32) (x : DY) : Option (Int64 × DY) :=
  Option.bind (f_X8_isTaken N S (pr S (pr S a0 5) 4) a1 x) (fun r3 => (if r3 = 0 then some ((-4611686018427387904), x) else (if a3 = 1 then Option.bind (f_X6_goValue N S (pr S a0 5) a1 x) (fun r11 => some (((r11.1).toInt64), r11.2)) else (if a3 = 0 then Option.bind (f_X4_has N S (pr S (pr S a0 5) 3) a2 x) (fun r8 => (if r8 = 0 then some ((-4611686018427387904), x) else Option.bind (f_X6_takeValue N S (pr S a0 5) a1 a2 x) (fun r10 => some (((r10.1).toInt64), r10.2)))) else some ((-4611686018427387904), x)))))
set_option maxHeartbeats 1000000 in
theorem t_X11_says {N d : Nat} {S : SH} (hW : WT S) {x : DY} {a0 : Nat} {a1 : Int32} {a2 : Int32} {a3 : Int32} (hd : 4 ≤ d) (h0 : TY S a0 11) : CT mX11_says d S [.ref a0, .int a1, .int a2, .int a3] x wSL (f_X11_says N S a0 a1 a2 a3 x) := by
  refine CT.of [some (.ref a0), some (.int a1), some (.int a2), some (.int a3)] rfl (Nat.le_of_ble_eq_true rfl) (by decide +kernel) ?_
  unfold f_X11_says
  refine go1 (M := mX11_says) (pc' := 1) (r_aload_n (M := mX11_says) (i := 0) rfl dX11_says_0) ?_
  refine go1 (M := mX11_says) (pc' := 4) (r_getR (M := mX11_says) fl_11_55 h0 rfl (wt_some hW h0 (by decide) (by decide) rfl) dX11_says_1) ?_
  have hT1 : TY S (pr S a0 5) 6 := wt hW h0 (by decide) (by decide) rfl (by decide)
  refine go1 (M := mX11_says) (pc' := 7) (r_getR (M := mX11_says) fl_11_123 hT1 rfl (wt_some hW hT1 (by decide) (by decide) rfl) dX11_says_4) ?_
  have hT2 : TY S (pr S (pr S a0 5) 4) 8 := wt hW hT1 (by decide) (by decide) rfl (by decide)
  refine go1 (M := mX11_says) (pc' := 8) (r_iload_n (M := mX11_says) (i := 1) rfl dX11_says_7) ?_
  refine go_V_PI (M := mX11_says) (pc' := 11) (st := []) (As := [.int a1]) rfl ln_11_140 lb_X8_isTaken (t_X8_isTaken (N := N) hW (by omega) hT2) (by omega) hT2 (Nat.le_of_ble_eq_true rfl) rfl dX11_says_8 (fun r3 => ?_)
  refine go_br (M := mX11_says) (pt := 14) (pf := 18) (fun kt kf => r_if_ne (M := mX11_says) dX11_says_11 (by decide) kf kt) (fun hc4 => ?_) (fun hc4 => ?_)
  · refine go1 (M := mX11_says) (pc' := 17) (r_ldc2 (M := mX11_says) (v := (-4611686018427387904)) (tb3 55 (by decide +kernel) rfl) dX11_says_14) ?_
    exact go_lret (M := mX11_says) rfl rfl dX11_says_17
  · refine go1 (M := mX11_says) (pc' := 19) (r_iload_n (M := mX11_says) (i := 3) rfl dX11_says_18) ?_
    refine go1 (M := mX11_says) (pc' := 20) (r_iconst (M := mX11_says) (v := 1) (by decide) dX11_says_19) ?_
    refine go_br (M := mX11_says) (pt := 23) (pf := 33) (fun kt kf => r_icmp_ne (M := mX11_says) dX11_says_20 (by decide) kf kt) (fun hc5 => ?_) (fun hc5 => ?_)
    · refine go1 (M := mX11_says) (pc' := 24) (r_aload_n (M := mX11_says) (i := 0) rfl dX11_says_23) ?_
      refine go1 (M := mX11_says) (pc' := 27) (r_getR (M := mX11_says) fl_11_55 h0 rfl (wt_some hW h0 (by decide) (by decide) rfl) dX11_says_24) ?_
      refine go1 (M := mX11_says) (pc' := 28) (r_iload_n (M := mX11_says) (i := 1) rfl dX11_says_27) ?_
      refine go_V_SI (M := mX11_says) (pc' := 31) (st := []) (As := [.int a1]) rfl ln_11_212 lb_X6_goValue (t_X6_goValue (N := N) hW (by omega) hT1) (by omega) hT1 (Nat.le_of_ble_eq_true rfl) rfl dX11_says_28 (fun r11 => ?_)
      refine go1 (M := mX11_says) (pc' := 32) (r_i2l (M := mX11_says) dX11_says_31) ?_
      exact go_lret (M := mX11_says) rfl rfl dX11_says_32
    · refine go1 (M := mX11_says) (pc' := 34) (r_iload_n (M := mX11_says) (i := 3) rfl dX11_says_33) ?_
      refine go_br (M := mX11_says) (pt := 37) (pf := 51) (fun kt kf => r_if_ne (M := mX11_says) dX11_says_34 (by decide) kf kt) (fun hc6 => ?_) (fun hc6 => ?_)
      · refine go1 (M := mX11_says) (pc' := 38) (r_aload_n (M := mX11_says) (i := 0) rfl dX11_says_37) ?_
        refine go1 (M := mX11_says) (pc' := 41) (r_getR (M := mX11_says) fl_11_55 h0 rfl (wt_some hW h0 (by decide) (by decide) rfl) dX11_says_38) ?_
        refine go1 (M := mX11_says) (pc' := 44) (r_getR (M := mX11_says) fl_11_91 hT1 rfl (wt_some hW hT1 (by decide) (by decide) rfl) dX11_says_41) ?_
        have hT7 : TY S (pr S (pr S a0 5) 3) 4 := wt hW hT1 (by decide) (by decide) rfl (by decide)
        refine go1 (M := mX11_says) (pc' := 45) (r_iload_n (M := mX11_says) (i := 2) rfl dX11_says_44) ?_
        refine go_V_PI (M := mX11_says) (pc' := 48) (st := []) (As := [.int a2]) rfl ln_11_95 lb_X4_has (t_X4_has (N := N) hW (by omega) hT7) (by omega) hT7 (Nat.le_of_ble_eq_true rfl) rfl dX11_says_45 (fun r8 => ?_)
        refine go_br (M := mX11_says) (pt := 51) (pf := 55) (fun kt kf => r_if_ne (M := mX11_says) dX11_says_48 (by decide) kf kt) (fun hc9 => ?_) (fun hc9 => ?_)
        · refine go1 (M := mX11_says) (pc' := 54) (r_ldc2 (M := mX11_says) (v := (-4611686018427387904)) (tb3 55 (by decide +kernel) rfl) dX11_says_51) ?_
          exact go_lret (M := mX11_says) rfl rfl dX11_says_54
        · refine go1 (M := mX11_says) (pc' := 56) (r_aload_n (M := mX11_says) (i := 0) rfl dX11_says_55) ?_
          refine go1 (M := mX11_says) (pc' := 59) (r_getR (M := mX11_says) fl_11_55 h0 rfl (wt_some hW h0 (by decide) (by decide) rfl) dX11_says_56) ?_
          refine go1 (M := mX11_says) (pc' := 60) (r_iload_n (M := mX11_says) (i := 1) rfl dX11_says_59) ?_
          refine go1 (M := mX11_says) (pc' := 61) (r_iload_n (M := mX11_says) (i := 2) rfl dX11_says_60) ?_
          refine go_V_SI (M := mX11_says) (pc' := 64) (st := []) (As := [.int a1, .int a2]) rfl ln_11_215 lb_X6_takeValue (t_X6_takeValue (N := N) hW (by omega) hT1) (by omega) hT1 (Nat.le_of_ble_eq_true rfl) rfl dX11_says_61 (fun r10 => ?_)
          refine go1 (M := mX11_says) (pc' := 65) (r_i2l (M := mX11_says) dX11_says_64) ?_
          exact go_lret (M := mX11_says) rfl rfl dX11_says_65
      · refine go1 (M := mX11_says) (pc' := 54) (r_ldc2 (M := mX11_says) (v := (-4611686018427387904)) (tb3 55 (by decide +kernel) rfl) dX11_says_51) ?_
        exact go_lret (M := mX11_says) rfl rfl dX11_says_54
def lp_X11_tick_41_b (N : Nat) (S : SH) (bk41 : Int32 → DY → Option (Int32 × DY)) (p0 : Nat) (p1 : Int32) (p2 : Int32) (x : DY) : Option (Int32 × DY) :=
  (if p1 ≤ p2 then some ((x.1 (pr S p0 5) 9), x) else Option.bind (f_X6_goByOnce N S (pr S p0 5) x) (fun r10 => bk41 (p2 + 1) r10))
set_option maxHeartbeats 1000000 in
theorem lp_X11_tick_41_b_t {N d : Nat} {S : SH} (hW : WT S) (hd : 6 ≤ d) (bk41 : Int32 → DY → Option (Int32 × DY)) (p0 : Nat) (p1 : Int32) (p2 : Int32) (x : DY) (g0 : TY S p0 11) (hbk41 : ∀ (v2 : Int32) (y : DY), Go mX11_tick d S wSI 41 [some (.ref p0), some (.int p1), some (.int v2)] [] y (bk41 v2 y)) : Go mX11_tick d S wSI 41 [some (.ref p0), some (.int p1), some (.int p2)] [] x (lp_X11_tick_41_b N S bk41 p0 p1 p2 x) := by
  unfold lp_X11_tick_41_b
  refine go1 (M := mX11_tick) (pc' := 42) (r_iload_n (M := mX11_tick) (i := 2) rfl dX11_tick_41) ?_
  refine go1 (M := mX11_tick) (pc' := 43) (r_iload_n (M := mX11_tick) (i := 1) rfl dX11_tick_42) ?_
  refine go_br (M := mX11_tick) (pt := 59) (pf := 46) (fun kt kf => r_icmp_ge (M := mX11_tick) dX11_tick_43 (by decide) kt kf) (fun hc7 => ?_) (fun hc7 => ?_)
  · refine go1 (M := mX11_tick) (pc' := 60) (r_aload_n (M := mX11_tick) (i := 0) rfl dX11_tick_59) ?_
    refine go1 (M := mX11_tick) (pc' := 63) (r_getR (M := mX11_tick) fl_11_55 g0 rfl (wt_some hW g0 (by decide) (by decide) rfl) dX11_tick_60) ?_
    have hT8 : TY S (pr S p0 5) 6 := wt hW g0 (by decide) (by decide) rfl (by decide)
    refine go1 (M := mX11_tick) (pc' := 66) (r_getI (M := mX11_tick) fl_11_221 hT8 rfl dX11_tick_63) ?_
    exact go_iret (M := mX11_tick) rfl rfl dX11_tick_66
  · refine go1 (M := mX11_tick) (pc' := 47) (r_aload_n (M := mX11_tick) (i := 0) rfl dX11_tick_46) ?_
    refine go1 (M := mX11_tick) (pc' := 50) (r_getR (M := mX11_tick) fl_11_55 g0 rfl (wt_some hW g0 (by decide) (by decide) rfl) dX11_tick_47) ?_
    have hT9 : TY S (pr S p0 5) 6 := wt hW g0 (by decide) (by decide) rfl (by decide)
    refine go_V_SV (M := mX11_tick) (pc' := 53) (st := []) (As := []) rfl ln_11_224 lb_X6_goByOnce (t_X6_goByOnce (N := N) hW (by omega) hT9) (by omega) hT9 (Nat.le_of_ble_eq_true rfl) rfl dX11_tick_50 (fun r10 => ?_)
    refine go1 (M := mX11_tick) (pc' := 56) (ls' := [some (.ref p0), some (.int p1), some (.int (p2 + 1))]) (r_iinc (M := mX11_tick) (ls := [some (.ref p0), some (.int p1), some (.int p2)]) (i := 2) (v := p2) (c' := 1) (by decide) rfl (by decide) rfl dX11_tick_53) ?_
    refine go1 (M := mX11_tick) (pc' := 41) (r_goto (M := mX11_tick) dX11_tick_56 (by decide)) ?_
    exact hbk41 (p2 + 1) r10
def lp_X11_tick_41 (N : Nat) (S : SH) (p0 : Nat) (p1 : Int32) (p2 : Int32) (x : DY) : Option (Int32 × DY) :=
  itr (fun back (v : Int32 × DY) => lp_X11_tick_41_b N S (fun p2 y => back (p2, y)) p0 p1 v.1 v.2) N (p2, x)
theorem lp_X11_tick_41_t {N d : Nat} {S : SH} (hW : WT S) (hd : 6 ≤ d) (p0 : Nat) (p1 : Int32) (p2 : Int32) (x : DY) (g0 : TY S p0 11) : Go mX11_tick d S wSI 41 [some (.ref p0), some (.int p1), some (.int p2)] [] x (lp_X11_tick_41 N S p0 p1 p2 x) := by
  unfold lp_X11_tick_41
  exact go_itr (L := fun (v : Int32 × DY) => [some (.ref p0), some (.int p1), some (.int v.1)]) (X := fun (v : Int32 × DY) => v.2) (fun back hB v => lp_X11_tick_41_b_t (N := N) hW hd (fun p2 y => back (p2, y)) p0 p1 v.1 v.2 g0 (fun p2 y => hB (p2, y)) ) N (p2, x)
def f_X11_tick (N : Nat) (S : SH) (a0 : Nat) (a1 : Int32) (x : DY) : Option (Int32 × DY) :=
  Option.bind (f_X11_within N S a1 1 60 x) (fun r1 => (if r1 = 0 then some ((-2), x) else (if ((x.1 (pr S a0 5) 7) + a1) ≤ 9999 then bl (U1 x (pr S a0 5) 9 0) (fun x5 => lp_X11_tick_41 N S a0 a1 0 x5) else some ((-4), x))))
set_option maxHeartbeats 1000000 in
theorem t_X11_tick {N d : Nat} {S : SH} (hW : WT S) {x : DY} {a0 : Nat} {a1 : Int32} (hd : 6 ≤ d) (h0 : TY S a0 11) : CT mX11_tick d S [.ref a0, .int a1] x wSI (f_X11_tick N S a0 a1 x) := by
  refine CT.of [some (.ref a0), some (.int a1), none] rfl (Nat.le_of_ble_eq_true rfl) (by decide +kernel) ?_
  unfold f_X11_tick
  refine go1 (M := mX11_tick) (pc' := 1) (r_iload_n (M := mX11_tick) (i := 1) rfl dX11_tick_0) ?_
  refine go1 (M := mX11_tick) (pc' := 2) (r_iconst (M := mX11_tick) (v := 1) (by decide) dX11_tick_1) ?_
  refine go1 (M := mX11_tick) (pc' := 4) (r_bipush (M := mX11_tick) (v := 60) (by decide) dX11_tick_2) ?_
  refine go_S_PI (M := mX11_tick) (pc' := 7) (st := []) (As := [.int a1, .int 1, .int 60]) rfl ln_11_73 lb_X11_within (t_X11_within (N := N) hW (by omega) ) (by omega) (Nat.le_of_ble_eq_true rfl) rfl dX11_tick_4 (fun r1 => ?_)
  refine go_br (M := mX11_tick) (pt := 10) (pf := 13) (fun kt kf => r_if_ne (M := mX11_tick) dX11_tick_7 (by decide) kf kt) (fun hc2 => ?_) (fun hc2 => ?_)
  · refine go1 (M := mX11_tick) (pc' := 12) (r_bipush (M := mX11_tick) (v := (-2)) (by decide) dX11_tick_10) ?_
    exact go_iret (M := mX11_tick) rfl rfl dX11_tick_12
  · refine go1 (M := mX11_tick) (pc' := 14) (r_aload_n (M := mX11_tick) (i := 0) rfl dX11_tick_13) ?_
    refine go1 (M := mX11_tick) (pc' := 17) (r_getR (M := mX11_tick) fl_11_55 h0 rfl (wt_some hW h0 (by decide) (by decide) rfl) dX11_tick_14) ?_
    have hT3 : TY S (pr S a0 5) 6 := wt hW h0 (by decide) (by decide) rfl (by decide)
    refine go1 (M := mX11_tick) (pc' := 20) (r_getI (M := mX11_tick) fl_11_218 hT3 rfl dX11_tick_17) ?_
    refine go1 (M := mX11_tick) (pc' := 21) (r_iload_n (M := mX11_tick) (i := 1) rfl dX11_tick_20) ?_
    refine go1 (M := mX11_tick) (pc' := 22) (r_iadd (M := mX11_tick) dX11_tick_21) ?_
    refine go1 (M := mX11_tick) (pc' := 25) (r_sipush (M := mX11_tick) (v := 9999) (by decide) dX11_tick_22) ?_
    refine go_br (M := mX11_tick) (pt := 31) (pf := 28) (fun kt kf => r_icmp_le (M := mX11_tick) dX11_tick_25 (by decide) kt kf) (fun hc4 => ?_) (fun hc4 => ?_)
    · refine go1 (M := mX11_tick) (pc' := 32) (r_aload_n (M := mX11_tick) (i := 0) rfl dX11_tick_31) ?_
      refine go1 (M := mX11_tick) (pc' := 35) (r_getR (M := mX11_tick) fl_11_55 h0 rfl (wt_some hW h0 (by decide) (by decide) rfl) dX11_tick_32) ?_
      refine go1 (M := mX11_tick) (pc' := 36) (r_iconst (M := mX11_tick) (v := 0) (by decide) dX11_tick_35) ?_
      refine go1 (M := mX11_tick) (pc' := 39) (r_putI (M := mX11_tick) fl_11_221 hT3 rfl rfl dX11_tick_36) ?_
      refine go_blx (fun x5 => ?_)
      refine go1 (M := mX11_tick) (pc' := 40) (r_iconst (M := mX11_tick) (v := 0) (by decide) dX11_tick_39) ?_
      refine go1 (M := mX11_tick) (pc' := 41) (ls' := [some (.ref a0), some (.int a1), some (.int 0)]) (r_istore_n (M := mX11_tick) (ls := [some (.ref a0), some (.int a1), none]) (i := 2) (v := 0) (by decide) rfl dX11_tick_40) ?_
      refine lp_X11_tick_41_t (N := N) hW (by omega) a0 a1 0 x5 h0
    · refine go1 (M := mX11_tick) (pc' := 30) (r_bipush (M := mX11_tick) (v := (-4)) (by decide) dX11_tick_28) ?_
      exact go_iret (M := mX11_tick) rfl rfl dX11_tick_30
def f_X11_order (N : Nat) (S : SH) (a0 : Nat) (a1 : Int32) (a2 : Int32) (x : DY) : Option (Int32 × DY) :=
  Option.bind (f_X8_has N S (pr S (pr S a0 5) 4) a1 x) (fun r3 => (if r3 = 0 then some ((-2), x) else Option.bind (f_X11_isDish N S a2 x) (fun r5 => (if r5 = 0 then some ((-2), x) else Option.bind (f_X8_isTaken N S (pr S (pr S a0 5) 4) a1 x) (fun r7 => (if r7 = 0 then some ((-3), x) else Option.bind (f_X6_sendTray N S (pr S a0 5) a1 a2 x) (fun r9 => some (r9.1, r9.2))))))))
set_option maxHeartbeats 1000000 in
theorem t_X11_order {N d : Nat} {S : SH} (hW : WT S) {x : DY} {a0 : Nat} {a1 : Int32} {a2 : Int32} (hd : 4 ≤ d) (h0 : TY S a0 11) : CT mX11_order d S [.ref a0, .int a1, .int a2] x wSI (f_X11_order N S a0 a1 a2 x) := by
  refine CT.of [some (.ref a0), some (.int a1), some (.int a2)] rfl (Nat.le_of_ble_eq_true rfl) (by decide +kernel) ?_
  unfold f_X11_order
  refine go1 (M := mX11_order) (pc' := 1) (r_aload_n (M := mX11_order) (i := 0) rfl dX11_order_0) ?_
  refine go1 (M := mX11_order) (pc' := 4) (r_getR (M := mX11_order) fl_11_55 h0 rfl (wt_some hW h0 (by decide) (by decide) rfl) dX11_order_1) ?_
  have hT1 : TY S (pr S a0 5) 6 := wt hW h0 (by decide) (by decide) rfl (by decide)
  refine go1 (M := mX11_order) (pc' := 7) (r_getR (M := mX11_order) fl_11_123 hT1 rfl (wt_some hW hT1 (by decide) (by decide) rfl) dX11_order_4) ?_
  have hT2 : TY S (pr S (pr S a0 5) 4) 8 := wt hW hT1 (by decide) (by decide) rfl (by decide)
  refine go1 (M := mX11_order) (pc' := 8) (r_iload_n (M := mX11_order) (i := 1) rfl dX11_order_7) ?_
  refine go_V_PI (M := mX11_order) (pc' := 11) (st := []) (As := [.int a1]) rfl ln_11_135 lb_X8_has (t_X8_has (N := N) hW (by omega) hT2) (by omega) hT2 (Nat.le_of_ble_eq_true rfl) rfl dX11_order_8 (fun r3 => ?_)
  refine go_br (M := mX11_order) (pt := 21) (pf := 14) (fun kt kf => r_if_eq (M := mX11_order) dX11_order_11 (by decide) kt kf) (fun hc4 => ?_) (fun hc4 => ?_)
  · refine go1 (M := mX11_order) (pc' := 23) (r_bipush (M := mX11_order) (v := (-2)) (by decide) dX11_order_21) ?_
    exact go_iret (M := mX11_order) rfl rfl dX11_order_23
  · refine go1 (M := mX11_order) (pc' := 15) (r_iload_n (M := mX11_order) (i := 2) rfl dX11_order_14) ?_
    refine go_S_PI (M := mX11_order) (pc' := 18) (st := []) (As := [.int a2]) rfl ln_11_66 lb_X11_isDish (t_X11_isDish (N := N) hW (by omega) ) (by omega) (Nat.le_of_ble_eq_true rfl) rfl dX11_order_15 (fun r5 => ?_)
    refine go_br (M := mX11_order) (pt := 21) (pf := 24) (fun kt kf => r_if_ne (M := mX11_order) dX11_order_18 (by decide) kf kt) (fun hc6 => ?_) (fun hc6 => ?_)
    · refine go1 (M := mX11_order) (pc' := 23) (r_bipush (M := mX11_order) (v := (-2)) (by decide) dX11_order_21) ?_
      exact go_iret (M := mX11_order) rfl rfl dX11_order_23
    · refine go1 (M := mX11_order) (pc' := 25) (r_aload_n (M := mX11_order) (i := 0) rfl dX11_order_24) ?_
      refine go1 (M := mX11_order) (pc' := 28) (r_getR (M := mX11_order) fl_11_55 h0 rfl (wt_some hW h0 (by decide) (by decide) rfl) dX11_order_25) ?_
      refine go1 (M := mX11_order) (pc' := 31) (r_getR (M := mX11_order) fl_11_123 hT1 rfl (wt_some hW hT1 (by decide) (by decide) rfl) dX11_order_28) ?_
      refine go1 (M := mX11_order) (pc' := 32) (r_iload_n (M := mX11_order) (i := 1) rfl dX11_order_31) ?_
      refine go_V_PI (M := mX11_order) (pc' := 35) (st := []) (As := [.int a1]) rfl ln_11_140 lb_X8_isTaken (t_X8_isTaken (N := N) hW (by omega) hT2) (by omega) hT2 (Nat.le_of_ble_eq_true rfl) rfl dX11_order_32 (fun r7 => ?_)
      refine go_br (M := mX11_order) (pt := 38) (pf := 41) (fun kt kf => r_if_ne (M := mX11_order) dX11_order_35 (by decide) kf kt) (fun hc8 => ?_) (fun hc8 => ?_)
      · refine go1 (M := mX11_order) (pc' := 40) (r_bipush (M := mX11_order) (v := (-3)) (by decide) dX11_order_38) ?_
        exact go_iret (M := mX11_order) rfl rfl dX11_order_40
      · refine go1 (M := mX11_order) (pc' := 42) (r_aload_n (M := mX11_order) (i := 0) rfl dX11_order_41) ?_
        refine go1 (M := mX11_order) (pc' := 45) (r_getR (M := mX11_order) fl_11_55 h0 rfl (wt_some hW h0 (by decide) (by decide) rfl) dX11_order_42) ?_
        refine go1 (M := mX11_order) (pc' := 46) (r_iload_n (M := mX11_order) (i := 1) rfl dX11_order_45) ?_
        refine go1 (M := mX11_order) (pc' := 47) (r_iload_n (M := mX11_order) (i := 2) rfl dX11_order_46) ?_
        refine go_V_SI (M := mX11_order) (pc' := 50) (st := []) (As := [.int a1, .int a2]) rfl ln_11_227 lb_X6_sendTray (t_X6_sendTray (N := N) hW (by omega) hT1) (by omega) hT1 (Nat.le_of_ble_eq_true rfl) rfl dX11_order_47 (fun r9 => ?_)
        exact go_iret (M := mX11_order) rfl rfl dX11_order_50
def f_X11_lane (N : Nat) (S : SH) (a0 : Nat) (a1 : Int32) (x : DY) : Option Int32 :=
  Option.bind (f_X6_isPlace N S (pr S a0 5) a1 x) (fun r2 => (if r2 = 0 then some (-2) else ck S (pr S (pr S (pr S a0 5) 5) 0) a1 (Option.bind (f_X4_has N S (pr S (pr S a0 5) 3) (x.1 (pr S (pr S (pr S a0 5) 5) 0) a1.toNatClampNeg) x) (fun r8 => (if r8 = 0 then some (-1) else ck S (pr S (pr S (pr S a0 5) 3) 4) (x.1 (pr S (pr S (pr S a0 5) 5) 0) a1.toNatClampNeg) (some (x.1 (pr S (pr S (pr S a0 5) 3) 4) (x.1 (pr S (pr S (pr S a0 5) 5) 0) a1.toNatClampNeg).toNatClampNeg)))))))
set_option maxHeartbeats 1000000 in
theorem t_X11_lane {N d : Nat} {S : SH} (hW : WT S) {x : DY} {a0 : Nat} {a1 : Int32} (hd : 2 ≤ d) (h0 : TY S a0 11) : CT mX11_lane d S [.ref a0, .int a1] x (wPI x) (f_X11_lane N S a0 a1 x) := by
  refine CT.of [some (.ref a0), some (.int a1), none] rfl (Nat.le_of_ble_eq_true rfl) (by decide +kernel) ?_
  unfold f_X11_lane
  refine go1 (M := mX11_lane) (pc' := 1) (r_aload_n (M := mX11_lane) (i := 0) rfl dX11_lane_0) ?_
  refine go1 (M := mX11_lane) (pc' := 4) (r_getR (M := mX11_lane) fl_11_55 h0 rfl (wt_some hW h0 (by decide) (by decide) rfl) dX11_lane_1) ?_
  have hT1 : TY S (pr S a0 5) 6 := wt hW h0 (by decide) (by decide) rfl (by decide)
  refine go1 (M := mX11_lane) (pc' := 5) (r_iload_n (M := mX11_lane) (i := 1) rfl dX11_lane_4) ?_
  refine go_V_PI (M := mX11_lane) (pc' := 8) (st := []) (As := [.int a1]) rfl ln_11_113 lb_X6_isPlace (t_X6_isPlace (N := N) hW (by omega) hT1) (by omega) hT1 (Nat.le_of_ble_eq_true rfl) rfl dX11_lane_5 (fun r2 => ?_)
  refine go_br (M := mX11_lane) (pt := 11) (pf := 14) (fun kt kf => r_if_ne (M := mX11_lane) dX11_lane_8 (by decide) kf kt) (fun hc3 => ?_) (fun hc3 => ?_)
  · refine go1 (M := mX11_lane) (pc' := 13) (r_bipush (M := mX11_lane) (v := (-2)) (by decide) dX11_lane_11) ?_
    exact go_iret (M := mX11_lane) rfl rfl dX11_lane_13
  · refine go1 (M := mX11_lane) (pc' := 15) (r_aload_n (M := mX11_lane) (i := 0) rfl dX11_lane_14) ?_
    refine go1 (M := mX11_lane) (pc' := 18) (r_getR (M := mX11_lane) fl_11_55 h0 rfl (wt_some hW h0 (by decide) (by decide) rfl) dX11_lane_15) ?_
    refine go1 (M := mX11_lane) (pc' := 21) (r_getR (M := mX11_lane) fl_11_230 hT1 rfl (wt_some hW hT1 (by decide) (by decide) rfl) dX11_lane_18) ?_
    have hT4 : TY S (pr S (pr S a0 5) 5) 2 := wt hW hT1 (by decide) (by decide) rfl (by decide)
    refine go1 (M := mX11_lane) (pc' := 24) (r_getR (M := mX11_lane) fl_11_234 hT4 rfl (wt_some hW hT4 (by decide) (by decide) rfl) dX11_lane_21) ?_
    have hT5 : TY S (pr S (pr S (pr S a0 5) 5) 0) 14 := wt hW hT4 (by decide) (by decide) rfl (by decide)
    refine go1 (M := mX11_lane) (pc' := 25) (r_iload_n (M := mX11_lane) (i := 1) rfl dX11_lane_24) ?_
    refine go_ck (fun hi6 => ?_)
    refine go1 (M := mX11_lane) (pc' := 26) (r_iald (M := mX11_lane) hT5 hi6 dX11_lane_25) ?_
    refine go1 (M := mX11_lane) (pc' := 27) (ls' := [some (.ref a0), some (.int a1), some (.int (x.1 (pr S (pr S (pr S a0 5) 5) 0) a1.toNatClampNeg))]) (r_istore_n (M := mX11_lane) (ls := [some (.ref a0), some (.int a1), none]) (i := 2) (v := (x.1 (pr S (pr S (pr S a0 5) 5) 0) a1.toNatClampNeg)) (by decide) rfl dX11_lane_26) ?_
    refine go1 (M := mX11_lane) (pc' := 28) (r_aload_n (M := mX11_lane) (i := 0) rfl dX11_lane_27) ?_
    refine go1 (M := mX11_lane) (pc' := 31) (r_getR (M := mX11_lane) fl_11_55 h0 rfl (wt_some hW h0 (by decide) (by decide) rfl) dX11_lane_28) ?_
    refine go1 (M := mX11_lane) (pc' := 34) (r_getR (M := mX11_lane) fl_11_91 hT1 rfl (wt_some hW hT1 (by decide) (by decide) rfl) dX11_lane_31) ?_
    have hT7 : TY S (pr S (pr S a0 5) 3) 4 := wt hW hT1 (by decide) (by decide) rfl (by decide)
    refine go1 (M := mX11_lane) (pc' := 35) (r_iload_n (M := mX11_lane) (i := 2) rfl dX11_lane_34) ?_
    refine go_V_PI (M := mX11_lane) (pc' := 38) (st := []) (As := [.int (x.1 (pr S (pr S (pr S a0 5) 5) 0) a1.toNatClampNeg)]) rfl ln_11_95 lb_X4_has (t_X4_has (N := N) hW (by omega) hT7) (by omega) hT7 (Nat.le_of_ble_eq_true rfl) rfl dX11_lane_35 (fun r8 => ?_)
    refine go_br (M := mX11_lane) (pt := 56) (pf := 41) (fun kt kf => r_if_eq (M := mX11_lane) dX11_lane_38 (by decide) kt kf) (fun hc9 => ?_) (fun hc9 => ?_)
    · refine go1 (M := mX11_lane) (pc' := 57) (r_iconst (M := mX11_lane) (v := (-1)) (by decide) dX11_lane_56) ?_
      exact go_iret (M := mX11_lane) rfl rfl dX11_lane_57
    · refine go1 (M := mX11_lane) (pc' := 42) (r_aload_n (M := mX11_lane) (i := 0) rfl dX11_lane_41) ?_
      refine go1 (M := mX11_lane) (pc' := 45) (r_getR (M := mX11_lane) fl_11_55 h0 rfl (wt_some hW h0 (by decide) (by decide) rfl) dX11_lane_42) ?_
      refine go1 (M := mX11_lane) (pc' := 48) (r_getR (M := mX11_lane) fl_11_91 hT1 rfl (wt_some hW hT1 (by decide) (by decide) rfl) dX11_lane_45) ?_
      refine go1 (M := mX11_lane) (pc' := 51) (r_getR (M := mX11_lane) fl_11_239 hT7 rfl (wt_some hW hT7 (by decide) (by decide) rfl) dX11_lane_48) ?_
      have hT10 : TY S (pr S (pr S (pr S a0 5) 3) 4) 14 := wt hW hT7 (by decide) (by decide) rfl (by decide)
      refine go1 (M := mX11_lane) (pc' := 52) (r_iload_n (M := mX11_lane) (i := 2) rfl dX11_lane_51) ?_
      refine go_ck (fun hi11 => ?_)
      refine go1 (M := mX11_lane) (pc' := 53) (r_iald (M := mX11_lane) hT10 hi11 dX11_lane_52) ?_
      refine go1 (M := mX11_lane) (pc' := 57) (r_goto (M := mX11_lane) dX11_lane_53 (by decide)) ?_
      exact go_iret (M := mX11_lane) rfl rfl dX11_lane_57
def f_X11_empties (N : Nat) (S : SH) (a0 : Nat) (a1 : Int32) (a2 : Int32) (x : DY) : Option Int32 :=
  Option.bind (f_X11_isColour N S a1 x) (fun r1 => (if r1 = 0 then some (-2) else Option.bind (f_X11_within N S a2 0 6 x) (fun r3 => (if r3 = 0 then some (-2) else (if a2 = 0 then Option.bind (f_X4_madeOf N S (pr S (pr S a0 5) 3) a1 x) (fun r8 => some r8) else (if a2 = 6 then Option.bind (f_X4_missing N S (pr S (pr S a0 5) 3) a1 x) (fun r10 => some r10) else Option.bind (f_X4_inState N S (pr S (pr S a0 5) 3) a1 (a2 - 1) x) (fun r11 => some r11)))))))
set_option maxHeartbeats 1000000 in
theorem t_X11_empties {N d : Nat} {S : SH} (hW : WT S) {x : DY} {a0 : Nat} {a1 : Int32} {a2 : Int32} (hd : 3 ≤ d) (h0 : TY S a0 11) : CT mX11_empties d S [.ref a0, .int a1, .int a2] x (wPI x) (f_X11_empties N S a0 a1 a2 x) := by
  refine CT.of [some (.ref a0), some (.int a1), some (.int a2), none] rfl (Nat.le_of_ble_eq_true rfl) (by decide +kernel) ?_
  unfold f_X11_empties
  refine go1 (M := mX11_empties) (pc' := 1) (r_iload_n (M := mX11_empties) (i := 1) rfl dX11_empties_0) ?_
  refine go_S_PI (M := mX11_empties) (pc' := 4) (st := []) (As := [.int a1]) rfl ln_11_70 lb_X11_isColour (t_X11_isColour (N := N) hW (by omega) ) (by omega) (Nat.le_of_ble_eq_true rfl) rfl dX11_empties_1 (fun r1 => ?_)
  refine go_br (M := mX11_empties) (pt := 17) (pf := 7) (fun kt kf => r_if_eq (M := mX11_empties) dX11_empties_4 (by decide) kt kf) (fun hc2 => ?_) (fun hc2 => ?_)
  · refine go1 (M := mX11_empties) (pc' := 19) (r_bipush (M := mX11_empties) (v := (-2)) (by decide) dX11_empties_17) ?_
    exact go_iret (M := mX11_empties) rfl rfl dX11_empties_19
  · refine go1 (M := mX11_empties) (pc' := 8) (r_iload_n (M := mX11_empties) (i := 2) rfl dX11_empties_7) ?_
    refine go1 (M := mX11_empties) (pc' := 9) (r_iconst (M := mX11_empties) (v := 0) (by decide) dX11_empties_8) ?_
    refine go1 (M := mX11_empties) (pc' := 11) (r_bipush (M := mX11_empties) (v := 6) (by decide) dX11_empties_9) ?_
    refine go_S_PI (M := mX11_empties) (pc' := 14) (st := []) (As := [.int a2, .int 0, .int 6]) rfl ln_11_73 lb_X11_within (t_X11_within (N := N) hW (by omega) ) (by omega) (Nat.le_of_ble_eq_true rfl) rfl dX11_empties_11 (fun r3 => ?_)
    refine go_br (M := mX11_empties) (pt := 17) (pf := 20) (fun kt kf => r_if_ne (M := mX11_empties) dX11_empties_14 (by decide) kf kt) (fun hc4 => ?_) (fun hc4 => ?_)
    · refine go1 (M := mX11_empties) (pc' := 19) (r_bipush (M := mX11_empties) (v := (-2)) (by decide) dX11_empties_17) ?_
      exact go_iret (M := mX11_empties) rfl rfl dX11_empties_19
    · refine go1 (M := mX11_empties) (pc' := 21) (r_aload_n (M := mX11_empties) (i := 0) rfl dX11_empties_20) ?_
      refine go1 (M := mX11_empties) (pc' := 24) (r_getR (M := mX11_empties) fl_11_55 h0 rfl (wt_some hW h0 (by decide) (by decide) rfl) dX11_empties_21) ?_
      have hT5 : TY S (pr S a0 5) 6 := wt hW h0 (by decide) (by decide) rfl (by decide)
      refine go1 (M := mX11_empties) (pc' := 27) (r_getR (M := mX11_empties) fl_11_91 hT5 rfl (wt_some hW hT5 (by decide) (by decide) rfl) dX11_empties_24) ?_
      have hT6 : TY S (pr S (pr S a0 5) 3) 4 := wt hW hT5 (by decide) (by decide) rfl (by decide)
      refine go1 (M := mX11_empties) (pc' := 28) (ls' := [some (.ref a0), some (.int a1), some (.int a2), some (.ref (pr S (pr S a0 5) 3))]) (r_astore_n (M := mX11_empties) (ls := [some (.ref a0), some (.int a1), some (.int a2), none]) (i := 3) (v := (pr S (pr S a0 5) 3)) (by decide) rfl dX11_empties_27) ?_
      refine go1 (M := mX11_empties) (pc' := 29) (r_iload_n (M := mX11_empties) (i := 2) rfl dX11_empties_28) ?_
      refine go_case (fun hk7 => ?_) (fun hk7 => ?_)
      · refine go1 (M := mX11_empties) (pc' := 56) (r_lsw (M := mX11_empties) (off := 27) dX11_empties_29 (by decide) (by rw [hk7]; rfl) (by decide)) ?_
        refine go1 (M := mX11_empties) (pc' := 57) (r_aload_n (M := mX11_empties) (i := 3) rfl dX11_empties_56) ?_
        refine go1 (M := mX11_empties) (pc' := 58) (r_iload_n (M := mX11_empties) (i := 1) rfl dX11_empties_57) ?_
        refine go_V_PI (M := mX11_empties) (pc' := 61) (st := []) (As := [.int a1]) rfl ln_11_241 lb_X4_madeOf (t_X4_madeOf (N := N) hW (by omega) hT6) (by omega) hT6 (Nat.le_of_ble_eq_true rfl) rfl dX11_empties_58 (fun r8 => ?_)
        exact go_iret (M := mX11_empties) rfl rfl dX11_empties_61
      · refine go_case (fun hk9 => ?_) (fun hk9 => ?_)
        · refine go1 (M := mX11_empties) (pc' := 62) (r_lsw (M := mX11_empties) (off := 33) dX11_empties_29 (by decide) (by rw [hk9]; rfl) (by decide)) ?_
          refine go1 (M := mX11_empties) (pc' := 63) (r_aload_n (M := mX11_empties) (i := 3) rfl dX11_empties_62) ?_
          refine go1 (M := mX11_empties) (pc' := 64) (r_iload_n (M := mX11_empties) (i := 1) rfl dX11_empties_63) ?_
          refine go_V_PI (M := mX11_empties) (pc' := 67) (st := []) (As := [.int a1]) rfl ln_11_244 lb_X4_missing (t_X4_missing (N := N) hW (by omega) hT6) (by omega) hT6 (Nat.le_of_ble_eq_true rfl) rfl dX11_empties_64 (fun r10 => ?_)
          exact go_iret (M := mX11_empties) rfl rfl dX11_empties_67
        · refine go1 (M := mX11_empties) (pc' := 68) (r_lsw (M := mX11_empties) dX11_empties_29 (by decide) (lsw_out [(0, 27), (6, 33)] 39 (by simp only [List.mem_cons, List.not_mem_nil, or_false, forall_eq_or_imp, forall_eq]; exact ⟨lv_neT hk7 (show (0 : Int32).toInt = (0 : Int) by decide), lv_neT hk9 (show (6 : Int32).toInt = (6 : Int) by decide)⟩)) (by decide)) ?_
          refine go1 (M := mX11_empties) (pc' := 69) (r_aload_n (M := mX11_empties) (i := 3) rfl dX11_empties_68) ?_
          refine go1 (M := mX11_empties) (pc' := 70) (r_iload_n (M := mX11_empties) (i := 1) rfl dX11_empties_69) ?_
          refine go1 (M := mX11_empties) (pc' := 71) (r_iload_n (M := mX11_empties) (i := 2) rfl dX11_empties_70) ?_
          refine go1 (M := mX11_empties) (pc' := 72) (r_iconst (M := mX11_empties) (v := 1) (by decide) dX11_empties_71) ?_
          refine go1 (M := mX11_empties) (pc' := 73) (r_isub (M := mX11_empties) dX11_empties_72) ?_
          refine go_V_PI (M := mX11_empties) (pc' := 76) (st := []) (As := [.int a1, .int (a2 - 1)]) rfl ln_11_247 lb_X4_inState (t_X4_inState (N := N) hW (by omega) hT6) (by omega) hT6 (Nat.le_of_ble_eq_true rfl) rfl dX11_empties_73 (fun r11 => ?_)
          exact go_iret (M := mX11_empties) rfl rfl dX11_empties_76
def f_X11_waste (N : Nat) (S : SH) (a0 : Nat) (a1 : Int32) (x : DY) : Option (Int32 × DY) :=
  Option.bind (f_X11_within N S a1 0 999 x) (fun r1 => (if r1 = 0 then some ((-2), x) else bl (U1 x (pr S a0 0) 3 a1) (fun x4 => some ((x.1 (pr S a0 0) 3), x4))))
set_option maxHeartbeats 1000000 in
theorem t_X11_waste {N d : Nat} {S : SH} (hW : WT S) {x : DY} {a0 : Nat} {a1 : Int32} (hd : 2 ≤ d) (h0 : TY S a0 11) : CT mX11_waste d S [.ref a0, .int a1] x wSI (f_X11_waste N S a0 a1 x) := by
  refine CT.of [some (.ref a0), some (.int a1), none] rfl (Nat.le_of_ble_eq_true rfl) (by decide +kernel) ?_
  unfold f_X11_waste
  refine go1 (M := mX11_waste) (pc' := 1) (r_iload_n (M := mX11_waste) (i := 1) rfl dX11_waste_0) ?_
  refine go1 (M := mX11_waste) (pc' := 2) (r_iconst (M := mX11_waste) (v := 0) (by decide) dX11_waste_1) ?_
  refine go1 (M := mX11_waste) (pc' := 5) (r_sipush (M := mX11_waste) (v := 999) (by decide) dX11_waste_2) ?_
  refine go_S_PI (M := mX11_waste) (pc' := 8) (st := []) (As := [.int a1, .int 0, .int 999]) rfl ln_11_73 lb_X11_within (t_X11_within (N := N) hW (by omega) ) (by omega) (Nat.le_of_ble_eq_true rfl) rfl dX11_waste_5 (fun r1 => ?_)
  refine go_br (M := mX11_waste) (pt := 11) (pf := 14) (fun kt kf => r_if_ne (M := mX11_waste) dX11_waste_8 (by decide) kf kt) (fun hc2 => ?_) (fun hc2 => ?_)
  · refine go1 (M := mX11_waste) (pc' := 13) (r_bipush (M := mX11_waste) (v := (-2)) (by decide) dX11_waste_11) ?_
    exact go_iret (M := mX11_waste) rfl rfl dX11_waste_13
  · refine go1 (M := mX11_waste) (pc' := 15) (r_aload_n (M := mX11_waste) (i := 0) rfl dX11_waste_14) ?_
    refine go1 (M := mX11_waste) (pc' := 18) (r_getR (M := mX11_waste) fl_11_10 h0 rfl (wt_some hW h0 (by decide) (by decide) rfl) dX11_waste_15) ?_
    have hT3 : TY S (pr S a0 0) 3 := wt hW h0 (by decide) (by decide) rfl (by decide)
    refine go1 (M := mX11_waste) (pc' := 21) (r_getI (M := mX11_waste) fl_11_250 hT3 rfl dX11_waste_18) ?_
    refine go1 (M := mX11_waste) (pc' := 22) (ls' := [some (.ref a0), some (.int a1), some (.int (x.1 (pr S a0 0) 3))]) (r_istore_n (M := mX11_waste) (ls := [some (.ref a0), some (.int a1), none]) (i := 2) (v := (x.1 (pr S a0 0) 3)) (by decide) rfl dX11_waste_21) ?_
    refine go1 (M := mX11_waste) (pc' := 23) (r_aload_n (M := mX11_waste) (i := 0) rfl dX11_waste_22) ?_
    refine go1 (M := mX11_waste) (pc' := 26) (r_getR (M := mX11_waste) fl_11_10 h0 rfl (wt_some hW h0 (by decide) (by decide) rfl) dX11_waste_23) ?_
    refine go1 (M := mX11_waste) (pc' := 27) (r_iload_n (M := mX11_waste) (i := 1) rfl dX11_waste_26) ?_
    refine go1 (M := mX11_waste) (pc' := 30) (r_putI (M := mX11_waste) fl_11_250 hT3 rfl rfl dX11_waste_27) ?_
    refine go_blx (fun x4 => ?_)
    refine go1 (M := mX11_waste) (pc' := 31) (r_iload_n (M := mX11_waste) (i := 2) rfl dX11_waste_30) ?_
    exact go_iret (M := mX11_waste) rfl rfl dX11_waste_31
def f_X11_ahead (N : Nat) (S : SH) (a0 : Nat) (a1 : Int32) (a2 : Int32) (a3 : Int32) (x : DY) : Option (Int32 × DY) :=
  Option.bind (f_X1_canLook N S a1 a2 x) (fun r1 => (if r1 = 0 then some ((-2), x) else Option.bind (f_X11_within N S a3 0 (a1 - 1) x) (fun r3 => (if r3 = 0 then some ((-2), x) else Option.bind (f_X1_look N S (pr S a0 6) (pr S a0 5) a1 a2 x) (fun r7 => ck S (pr S (pr S a0 6) 2) a3 (some ((r7.1 (pr S (pr S a0 6) 2) a3.toNatClampNeg), r7)))))))
set_option maxHeartbeats 1000000 in
theorem t_X11_ahead {N d : Nat} {S : SH} (hW : WT S) {x : DY} {a0 : Nat} {a1 : Int32} {a2 : Int32} {a3 : Int32} (hd : 26 ≤ d) (h0 : TY S a0 11) : CT mX11_ahead d S [.ref a0, .int a1, .int a2, .int a3] x wSI (f_X11_ahead N S a0 a1 a2 a3 x) := by
  refine CT.of [some (.ref a0), some (.int a1), some (.int a2), some (.int a3)] rfl (Nat.le_of_ble_eq_true rfl) (by decide +kernel) ?_
  unfold f_X11_ahead
  refine go1 (M := mX11_ahead) (pc' := 1) (r_iload_n (M := mX11_ahead) (i := 1) rfl dX11_ahead_0) ?_
  refine go1 (M := mX11_ahead) (pc' := 2) (r_iload_n (M := mX11_ahead) (i := 2) rfl dX11_ahead_1) ?_
  refine go_S_PI (M := mX11_ahead) (pc' := 5) (st := []) (As := [.int a1, .int a2]) rfl ln_11_253 lb_X1_canLook (t_X1_canLook (N := N) hW (by omega) ) (by omega) (Nat.le_of_ble_eq_true rfl) rfl dX11_ahead_2 (fun r1 => ?_)
  refine go_br (M := mX11_ahead) (pt := 19) (pf := 8) (fun kt kf => r_if_eq (M := mX11_ahead) dX11_ahead_5 (by decide) kt kf) (fun hc2 => ?_) (fun hc2 => ?_)
  · refine go1 (M := mX11_ahead) (pc' := 21) (r_bipush (M := mX11_ahead) (v := (-2)) (by decide) dX11_ahead_19) ?_
    exact go_iret (M := mX11_ahead) rfl rfl dX11_ahead_21
  · refine go1 (M := mX11_ahead) (pc' := 9) (r_iload_n (M := mX11_ahead) (i := 3) rfl dX11_ahead_8) ?_
    refine go1 (M := mX11_ahead) (pc' := 10) (r_iconst (M := mX11_ahead) (v := 0) (by decide) dX11_ahead_9) ?_
    refine go1 (M := mX11_ahead) (pc' := 11) (r_iload_n (M := mX11_ahead) (i := 1) rfl dX11_ahead_10) ?_
    refine go1 (M := mX11_ahead) (pc' := 12) (r_iconst (M := mX11_ahead) (v := 1) (by decide) dX11_ahead_11) ?_
    refine go1 (M := mX11_ahead) (pc' := 13) (r_isub (M := mX11_ahead) dX11_ahead_12) ?_
    refine go_S_PI (M := mX11_ahead) (pc' := 16) (st := []) (As := [.int a3, .int 0, .int (a1 - 1)]) rfl ln_11_73 lb_X11_within (t_X11_within (N := N) hW (by omega) ) (by omega) (Nat.le_of_ble_eq_true rfl) rfl dX11_ahead_13 (fun r3 => ?_)
    refine go_br (M := mX11_ahead) (pt := 19) (pf := 22) (fun kt kf => r_if_ne (M := mX11_ahead) dX11_ahead_16 (by decide) kf kt) (fun hc4 => ?_) (fun hc4 => ?_)
    · refine go1 (M := mX11_ahead) (pc' := 21) (r_bipush (M := mX11_ahead) (v := (-2)) (by decide) dX11_ahead_19) ?_
      exact go_iret (M := mX11_ahead) rfl rfl dX11_ahead_21
    · refine go1 (M := mX11_ahead) (pc' := 23) (r_aload_n (M := mX11_ahead) (i := 0) rfl dX11_ahead_22) ?_
      refine go1 (M := mX11_ahead) (pc' := 26) (r_getR (M := mX11_ahead) fl_11_62 h0 rfl (wt_some hW h0 (by decide) (by decide) rfl) dX11_ahead_23) ?_
      have hT5 : TY S (pr S a0 6) 1 := wt hW h0 (by decide) (by decide) rfl (by decide)
      refine go1 (M := mX11_ahead) (pc' := 27) (r_aload_n (M := mX11_ahead) (i := 0) rfl dX11_ahead_26) ?_
      refine go1 (M := mX11_ahead) (pc' := 30) (r_getR (M := mX11_ahead) fl_11_55 h0 rfl (wt_some hW h0 (by decide) (by decide) rfl) dX11_ahead_27) ?_
      have hT6 : TY S (pr S a0 5) 6 := wt hW h0 (by decide) (by decide) rfl (by decide)
      refine go1 (M := mX11_ahead) (pc' := 31) (r_iload_n (M := mX11_ahead) (i := 1) rfl dX11_ahead_30) ?_
      refine go1 (M := mX11_ahead) (pc' := 32) (r_iload_n (M := mX11_ahead) (i := 2) rfl dX11_ahead_31) ?_
      refine go_V_SV (M := mX11_ahead) (pc' := 35) (st := []) (As := [.ref (pr S a0 5), .int a1, .int a2]) rfl ln_11_257 lb_X1_look (t_X1_look (N := N) hW (by omega) hT5 hT6) (by omega) hT5 (Nat.le_of_ble_eq_true rfl) rfl dX11_ahead_32 (fun r7 => ?_)
      refine go1 (M := mX11_ahead) (pc' := 36) (r_aload_n (M := mX11_ahead) (i := 0) rfl dX11_ahead_35) ?_
      refine go1 (M := mX11_ahead) (pc' := 39) (r_getR (M := mX11_ahead) fl_11_62 h0 rfl (wt_some hW h0 (by decide) (by decide) rfl) dX11_ahead_36) ?_
      refine go1 (M := mX11_ahead) (pc' := 42) (r_getR (M := mX11_ahead) fl_11_261 hT5 rfl (wt_some hW hT5 (by decide) (by decide) rfl) dX11_ahead_39) ?_
      have hT8 : TY S (pr S (pr S a0 6) 2) 14 := wt hW hT5 (by decide) (by decide) rfl (by decide)
      refine go1 (M := mX11_ahead) (pc' := 43) (r_iload_n (M := mX11_ahead) (i := 3) rfl dX11_ahead_42) ?_
      refine go_ck (fun hi9 => ?_)
      refine go1 (M := mX11_ahead) (pc' := 44) (r_iald (M := mX11_ahead) hT8 hi9 dX11_ahead_43) ?_
      exact go_iret (M := mX11_ahead) rfl rfl dX11_ahead_44
def f_X11_worth (N : Nat) (S : SH) (a0 : Nat) (a1 : Int32) (a2 : Int32) (x : DY) : Option (Int64 × DY) :=
  Option.bind (f_X1_canLook N S a1 a2 x) (fun r1 => (if r1 = 0 then some ((-4611686018427387904), x) else Option.bind (f_X1_look N S (pr S a0 6) (pr S a0 5) a1 a2 x) (fun r5 => some ((r5.2 (pr S a0 6) 3), r5))))
set_option maxHeartbeats 1000000 in
theorem t_X11_worth {N d : Nat} {S : SH} (hW : WT S) {x : DY} {a0 : Nat} {a1 : Int32} {a2 : Int32} (hd : 26 ≤ d) (h0 : TY S a0 11) : CT mX11_worth d S [.ref a0, .int a1, .int a2] x wSL (f_X11_worth N S a0 a1 a2 x) := by
  refine CT.of [some (.ref a0), some (.int a1), some (.int a2)] rfl (Nat.le_of_ble_eq_true rfl) (by decide +kernel) ?_
  unfold f_X11_worth
  refine go1 (M := mX11_worth) (pc' := 1) (r_iload_n (M := mX11_worth) (i := 1) rfl dX11_worth_0) ?_
  refine go1 (M := mX11_worth) (pc' := 2) (r_iload_n (M := mX11_worth) (i := 2) rfl dX11_worth_1) ?_
  refine go_S_PI (M := mX11_worth) (pc' := 5) (st := []) (As := [.int a1, .int a2]) rfl ln_11_253 lb_X1_canLook (t_X1_canLook (N := N) hW (by omega) ) (by omega) (Nat.le_of_ble_eq_true rfl) rfl dX11_worth_2 (fun r1 => ?_)
  refine go_br (M := mX11_worth) (pt := 8) (pf := 12) (fun kt kf => r_if_ne (M := mX11_worth) dX11_worth_5 (by decide) kf kt) (fun hc2 => ?_) (fun hc2 => ?_)
  · refine go1 (M := mX11_worth) (pc' := 11) (r_ldc2 (M := mX11_worth) (v := (-4611686018427387904)) (tb3 55 (by decide +kernel) rfl) dX11_worth_8) ?_
    exact go_lret (M := mX11_worth) rfl rfl dX11_worth_11
  · refine go1 (M := mX11_worth) (pc' := 13) (r_aload_n (M := mX11_worth) (i := 0) rfl dX11_worth_12) ?_
    refine go1 (M := mX11_worth) (pc' := 16) (r_getR (M := mX11_worth) fl_11_62 h0 rfl (wt_some hW h0 (by decide) (by decide) rfl) dX11_worth_13) ?_
    have hT3 : TY S (pr S a0 6) 1 := wt hW h0 (by decide) (by decide) rfl (by decide)
    refine go1 (M := mX11_worth) (pc' := 17) (r_aload_n (M := mX11_worth) (i := 0) rfl dX11_worth_16) ?_
    refine go1 (M := mX11_worth) (pc' := 20) (r_getR (M := mX11_worth) fl_11_55 h0 rfl (wt_some hW h0 (by decide) (by decide) rfl) dX11_worth_17) ?_
    have hT4 : TY S (pr S a0 5) 6 := wt hW h0 (by decide) (by decide) rfl (by decide)
    refine go1 (M := mX11_worth) (pc' := 21) (r_iload_n (M := mX11_worth) (i := 1) rfl dX11_worth_20) ?_
    refine go1 (M := mX11_worth) (pc' := 22) (r_iload_n (M := mX11_worth) (i := 2) rfl dX11_worth_21) ?_
    refine go_V_SV (M := mX11_worth) (pc' := 25) (st := []) (As := [.ref (pr S a0 5), .int a1, .int a2]) rfl ln_11_257 lb_X1_look (t_X1_look (N := N) hW (by omega) hT3 hT4) (by omega) hT3 (Nat.le_of_ble_eq_true rfl) rfl dX11_worth_22 (fun r5 => ?_)
    refine go1 (M := mX11_worth) (pc' := 26) (r_aload_n (M := mX11_worth) (i := 0) rfl dX11_worth_25) ?_
    refine go1 (M := mX11_worth) (pc' := 29) (r_getR (M := mX11_worth) fl_11_62 h0 rfl (wt_some hW h0 (by decide) (by decide) rfl) dX11_worth_26) ?_
    refine go1 (M := mX11_worth) (pc' := 32) (r_getL (M := mX11_worth) fl_11_264 hT3 rfl dX11_worth_29) ?_
    exact go_lret (M := mX11_worth) rfl rfl dX11_worth_32
def f_X11_piece (N : Nat) (S : SH) (a0 : Nat) (a1 : Int32) (a2 : Int32) (x : DY) : Option (Int32 × DY) :=
  Option.bind (f_X11_within N S a1 1 6 x) (fun r1 => (if r1 = 0 then some ((-2), x) else Option.bind (f_X11_within N S a2 0 999 x) (fun r3 => (if r3 = 0 then some ((-2), x) else ck S (pr S (pr S a0 3) 0) a1 (ck S (pr S (pr S a0 3) 0) a1 (bl (U1 x (pr S (pr S a0 3) 0) a1.toNatClampNeg a2) (fun x9 => some ((x.1 (pr S (pr S a0 3) 0) a1.toNatClampNeg), x9))))))))
set_option maxHeartbeats 1000000 in
theorem t_X11_piece {N d : Nat} {S : SH} (hW : WT S) {x : DY} {a0 : Nat} {a1 : Int32} {a2 : Int32} (hd : 2 ≤ d) (h0 : TY S a0 11) : CT mX11_piece d S [.ref a0, .int a1, .int a2] x wSI (f_X11_piece N S a0 a1 a2 x) := by
  refine CT.of [some (.ref a0), some (.int a1), some (.int a2), none] rfl (Nat.le_of_ble_eq_true rfl) (by decide +kernel) ?_
  unfold f_X11_piece
  refine go1 (M := mX11_piece) (pc' := 1) (r_iload_n (M := mX11_piece) (i := 1) rfl dX11_piece_0) ?_
  refine go1 (M := mX11_piece) (pc' := 2) (r_iconst (M := mX11_piece) (v := 1) (by decide) dX11_piece_1) ?_
  refine go1 (M := mX11_piece) (pc' := 4) (r_bipush (M := mX11_piece) (v := 6) (by decide) dX11_piece_2) ?_
  refine go_S_PI (M := mX11_piece) (pc' := 7) (st := []) (As := [.int a1, .int 1, .int 6]) rfl ln_11_73 lb_X11_within (t_X11_within (N := N) hW (by omega) ) (by omega) (Nat.le_of_ble_eq_true rfl) rfl dX11_piece_4 (fun r1 => ?_)
  refine go_br (M := mX11_piece) (pt := 21) (pf := 10) (fun kt kf => r_if_eq (M := mX11_piece) dX11_piece_7 (by decide) kt kf) (fun hc2 => ?_) (fun hc2 => ?_)
  · refine go1 (M := mX11_piece) (pc' := 23) (r_bipush (M := mX11_piece) (v := (-2)) (by decide) dX11_piece_21) ?_
    exact go_iret (M := mX11_piece) rfl rfl dX11_piece_23
  · refine go1 (M := mX11_piece) (pc' := 11) (r_iload_n (M := mX11_piece) (i := 2) rfl dX11_piece_10) ?_
    refine go1 (M := mX11_piece) (pc' := 12) (r_iconst (M := mX11_piece) (v := 0) (by decide) dX11_piece_11) ?_
    refine go1 (M := mX11_piece) (pc' := 15) (r_sipush (M := mX11_piece) (v := 999) (by decide) dX11_piece_12) ?_
    refine go_S_PI (M := mX11_piece) (pc' := 18) (st := []) (As := [.int a2, .int 0, .int 999]) rfl ln_11_73 lb_X11_within (t_X11_within (N := N) hW (by omega) ) (by omega) (Nat.le_of_ble_eq_true rfl) rfl dX11_piece_15 (fun r3 => ?_)
    refine go_br (M := mX11_piece) (pt := 21) (pf := 24) (fun kt kf => r_if_ne (M := mX11_piece) dX11_piece_18 (by decide) kf kt) (fun hc4 => ?_) (fun hc4 => ?_)
    · refine go1 (M := mX11_piece) (pc' := 23) (r_bipush (M := mX11_piece) (v := (-2)) (by decide) dX11_piece_21) ?_
      exact go_iret (M := mX11_piece) rfl rfl dX11_piece_23
    · refine go1 (M := mX11_piece) (pc' := 25) (r_aload_n (M := mX11_piece) (i := 0) rfl dX11_piece_24) ?_
      refine go1 (M := mX11_piece) (pc' := 28) (r_getR (M := mX11_piece) fl_11_33 h0 rfl (wt_some hW h0 (by decide) (by decide) rfl) dX11_piece_25) ?_
      have hT5 : TY S (pr S a0 3) 0 := wt hW h0 (by decide) (by decide) rfl (by decide)
      refine go1 (M := mX11_piece) (pc' := 31) (r_getR (M := mX11_piece) fl_11_268 hT5 rfl (wt_some hW hT5 (by decide) (by decide) rfl) dX11_piece_28) ?_
      have hT6 : TY S (pr S (pr S a0 3) 0) 14 := wt hW hT5 (by decide) (by decide) rfl (by decide)
      refine go1 (M := mX11_piece) (pc' := 32) (r_iload_n (M := mX11_piece) (i := 1) rfl dX11_piece_31) ?_
      refine go_ck (fun hi7 => ?_)
      refine go1 (M := mX11_piece) (pc' := 33) (r_iald (M := mX11_piece) hT6 hi7 dX11_piece_32) ?_
      refine go1 (M := mX11_piece) (pc' := 34) (ls' := [some (.ref a0), some (.int a1), some (.int a2), some (.int (x.1 (pr S (pr S a0 3) 0) a1.toNatClampNeg))]) (r_istore_n (M := mX11_piece) (ls := [some (.ref a0), some (.int a1), some (.int a2), none]) (i := 3) (v := (x.1 (pr S (pr S a0 3) 0) a1.toNatClampNeg)) (by decide) rfl dX11_piece_33) ?_
      refine go1 (M := mX11_piece) (pc' := 35) (r_aload_n (M := mX11_piece) (i := 0) rfl dX11_piece_34) ?_
      refine go1 (M := mX11_piece) (pc' := 38) (r_getR (M := mX11_piece) fl_11_33 h0 rfl (wt_some hW h0 (by decide) (by decide) rfl) dX11_piece_35) ?_
      refine go1 (M := mX11_piece) (pc' := 41) (r_getR (M := mX11_piece) fl_11_268 hT5 rfl (wt_some hW hT5 (by decide) (by decide) rfl) dX11_piece_38) ?_
      refine go1 (M := mX11_piece) (pc' := 42) (r_iload_n (M := mX11_piece) (i := 1) rfl dX11_piece_41) ?_
      refine go1 (M := mX11_piece) (pc' := 43) (r_iload_n (M := mX11_piece) (i := 2) rfl dX11_piece_42) ?_
      refine go_ck (fun hi8 => ?_)
      refine go1 (M := mX11_piece) (pc' := 44) (r_iast (M := mX11_piece) hT6 hi8 dX11_piece_43) ?_
      refine go_blx (fun x9 => ?_)
      refine go1 (M := mX11_piece) (pc' := 45) (r_iload_n (M := mX11_piece) (i := 3) rfl dX11_piece_44) ?_
      exact go_iret (M := mX11_piece) rfl rfl dX11_piece_45
def f_X11_cut (N : Nat) (S : SH) (a0 : Nat) (a1 : Int32) (a2 : Int32) (x : DY) : Option (Int32 × DY) :=
  Option.bind (f_X11_within N S a1 1 30 x) (fun r1 => (if r1 = 0 then some ((-2), x) else Option.bind (f_X0_plan N S (pr S a0 3) a1 x) (fun r4 => (if a2 = (-1) then some ((r4.1 (pr S a0 3) 4), r4) else Option.bind (f_X11_within N S a2 0 ((r4.1 (pr S a0 3) 3) - 1) r4) (fun r6 => (if r6 = 0 then some ((-1), r4) else ck S (pr S (pr S a0 3) 2) a2 (some ((r4.1 (pr S (pr S a0 3) 2) a2.toNatClampNeg), r4))))))))
set_option maxHeartbeats 1000000 in
theorem t_X11_cut {N d : Nat} {S : SH} (hW : WT S) {x : DY} {a0 : Nat} {a1 : Int32} {a2 : Int32} (hd : 5 ≤ d) (h0 : TY S a0 11) : CT mX11_cut d S [.ref a0, .int a1, .int a2] x wSI (f_X11_cut N S a0 a1 a2 x) := by
  refine CT.of [some (.ref a0), some (.int a1), some (.int a2)] rfl (Nat.le_of_ble_eq_true rfl) (by decide +kernel) ?_
  unfold f_X11_cut
  refine go1 (M := mX11_cut) (pc' := 1) (r_iload_n (M := mX11_cut) (i := 1) rfl dX11_cut_0) ?_
  refine go1 (M := mX11_cut) (pc' := 2) (r_iconst (M := mX11_cut) (v := 1) (by decide) dX11_cut_1) ?_
  refine go1 (M := mX11_cut) (pc' := 4) (r_bipush (M := mX11_cut) (v := 30) (by decide) dX11_cut_2) ?_
  refine go_S_PI (M := mX11_cut) (pc' := 7) (st := []) (As := [.int a1, .int 1, .int 30]) rfl ln_11_73 lb_X11_within (t_X11_within (N := N) hW (by omega) ) (by omega) (Nat.le_of_ble_eq_true rfl) rfl dX11_cut_4 (fun r1 => ?_)
  refine go_br (M := mX11_cut) (pt := 10) (pf := 13) (fun kt kf => r_if_ne (M := mX11_cut) dX11_cut_7 (by decide) kf kt) (fun hc2 => ?_) (fun hc2 => ?_)
  · refine go1 (M := mX11_cut) (pc' := 12) (r_bipush (M := mX11_cut) (v := (-2)) (by decide) dX11_cut_10) ?_
    exact go_iret (M := mX11_cut) rfl rfl dX11_cut_12
  · refine go1 (M := mX11_cut) (pc' := 14) (r_aload_n (M := mX11_cut) (i := 0) rfl dX11_cut_13) ?_
    refine go1 (M := mX11_cut) (pc' := 17) (r_getR (M := mX11_cut) fl_11_33 h0 rfl (wt_some hW h0 (by decide) (by decide) rfl) dX11_cut_14) ?_
    have hT3 : TY S (pr S a0 3) 0 := wt hW h0 (by decide) (by decide) rfl (by decide)
    refine go1 (M := mX11_cut) (pc' := 18) (r_iload_n (M := mX11_cut) (i := 1) rfl dX11_cut_17) ?_
    refine go_V_SV (M := mX11_cut) (pc' := 21) (st := []) (As := [.int a1]) rfl ln_11_271 lb_X0_plan (t_X0_plan (N := N) hW (by omega) hT3) (by omega) hT3 (Nat.le_of_ble_eq_true rfl) rfl dX11_cut_18 (fun r4 => ?_)
    refine go1 (M := mX11_cut) (pc' := 22) (r_iload_n (M := mX11_cut) (i := 2) rfl dX11_cut_21) ?_
    refine go1 (M := mX11_cut) (pc' := 23) (r_iconst (M := mX11_cut) (v := (-1)) (by decide) dX11_cut_22) ?_
    refine go_br (M := mX11_cut) (pt := 26) (pf := 34) (fun kt kf => r_icmp_ne (M := mX11_cut) dX11_cut_23 (by decide) kf kt) (fun hc5 => ?_) (fun hc5 => ?_)
    · refine go1 (M := mX11_cut) (pc' := 27) (r_aload_n (M := mX11_cut) (i := 0) rfl dX11_cut_26) ?_
      refine go1 (M := mX11_cut) (pc' := 30) (r_getR (M := mX11_cut) fl_11_33 h0 rfl (wt_some hW h0 (by decide) (by decide) rfl) dX11_cut_27) ?_
      refine go1 (M := mX11_cut) (pc' := 33) (r_getI (M := mX11_cut) fl_11_275 hT3 rfl dX11_cut_30) ?_
      exact go_iret (M := mX11_cut) rfl rfl dX11_cut_33
    · refine go1 (M := mX11_cut) (pc' := 35) (r_iload_n (M := mX11_cut) (i := 2) rfl dX11_cut_34) ?_
      refine go1 (M := mX11_cut) (pc' := 36) (r_iconst (M := mX11_cut) (v := 0) (by decide) dX11_cut_35) ?_
      refine go1 (M := mX11_cut) (pc' := 37) (r_aload_n (M := mX11_cut) (i := 0) rfl dX11_cut_36) ?_
      refine go1 (M := mX11_cut) (pc' := 40) (r_getR (M := mX11_cut) fl_11_33 h0 rfl (wt_some hW h0 (by decide) (by decide) rfl) dX11_cut_37) ?_
      refine go1 (M := mX11_cut) (pc' := 43) (r_getI (M := mX11_cut) fl_11_278 hT3 rfl dX11_cut_40) ?_
      refine go1 (M := mX11_cut) (pc' := 44) (r_iconst (M := mX11_cut) (v := 1) (by decide) dX11_cut_43) ?_
      refine go1 (M := mX11_cut) (pc' := 45) (r_isub (M := mX11_cut) dX11_cut_44) ?_
      refine go_S_PI (M := mX11_cut) (pc' := 48) (st := []) (As := [.int a2, .int 0, .int ((r4.1 (pr S a0 3) 3) - 1)]) rfl ln_11_73 lb_X11_within (t_X11_within (N := N) hW (by omega) ) (by omega) (Nat.le_of_ble_eq_true rfl) rfl dX11_cut_45 (fun r6 => ?_)
      refine go_br (M := mX11_cut) (pt := 63) (pf := 51) (fun kt kf => r_if_eq (M := mX11_cut) dX11_cut_48 (by decide) kt kf) (fun hc7 => ?_) (fun hc7 => ?_)
      · refine go1 (M := mX11_cut) (pc' := 64) (r_iconst (M := mX11_cut) (v := (-1)) (by decide) dX11_cut_63) ?_
        exact go_iret (M := mX11_cut) rfl rfl dX11_cut_64
      · refine go1 (M := mX11_cut) (pc' := 52) (r_aload_n (M := mX11_cut) (i := 0) rfl dX11_cut_51) ?_
        refine go1 (M := mX11_cut) (pc' := 55) (r_getR (M := mX11_cut) fl_11_33 h0 rfl (wt_some hW h0 (by decide) (by decide) rfl) dX11_cut_52) ?_
        refine go1 (M := mX11_cut) (pc' := 58) (r_getR (M := mX11_cut) fl_11_281 hT3 rfl (wt_some hW hT3 (by decide) (by decide) rfl) dX11_cut_55) ?_
        have hT8 : TY S (pr S (pr S a0 3) 2) 14 := wt hW hT3 (by decide) (by decide) rfl (by decide)
        refine go1 (M := mX11_cut) (pc' := 59) (r_iload_n (M := mX11_cut) (i := 2) rfl dX11_cut_58) ?_
        refine go_ck (fun hi9 => ?_)
        refine go1 (M := mX11_cut) (pc' := 60) (r_iald (M := mX11_cut) hT8 hi9 dX11_cut_59) ?_
        refine go1 (M := mX11_cut) (pc' := 64) (r_goto (M := mX11_cut) dX11_cut_60 (by decide)) ?_
        exact go_iret (M := mX11_cut) rfl rfl dX11_cut_64
def f_X11_count (N : Nat) (S : SH) (a0 : Nat) (a1 : Int32) (x : DY) : Option Int32 :=
  (if a1 = 0 then some (nI (S.2.2.1 (pr S (pr S a0 5) 2))) else (if a1 = 1 then some (x.1 (pr S (pr S a0 5) 3) 5) else (if a1 = 2 then some (x.1 (pr S (pr S a0 5) 4) 7) else (if a1 = 3 then Option.bind (f_X8_guests N S (pr S (pr S a0 5) 4) x) (fun r13 => some r13) else (if a1 = 4 then some (x.1 (pr S a0 5) 7) else (if a1 = 5 then Option.bind (f_X2_trays N S (pr S (pr S a0 5) 5) x) (fun r19 => some r19) else (if a1 = 6 then some (x.1 (pr S (pr S a0 5) 5) 2) else (if a1 = 7 then some (x.1 (pr S a0 5) 8) else (if a1 = 8 then some (x.1 (pr S a0 1) 2) else (if a1 = 9 then some (x.1 (pr S a0 2) 1) else (if a1 = 10 then some (x.1 (pr S a0 1) 3) else some (-2))))))))))))
set_option maxHeartbeats 1000000 in
theorem t_X11_count {N d : Nat} {S : SH} (hW : WT S) {x : DY} {a0 : Nat} {a1 : Int32} (hd : 3 ≤ d) (h0 : TY S a0 11) : CT mX11_count d S [.ref a0, .int a1] x (wPI x) (f_X11_count N S a0 a1 x) := by
  refine CT.of [some (.ref a0), some (.int a1)] rfl (Nat.le_of_ble_eq_true rfl) (by decide +kernel) ?_
  unfold f_X11_count
  refine go1 (M := mX11_count) (pc' := 1) (r_iload_n (M := mX11_count) (i := 1) rfl dX11_count_0) ?_
  refine go_case (fun hk1 => ?_) (fun hk1 => ?_)
  · refine go1 (M := mX11_count) (pc' := 60) (r_tsw (M := mX11_count) (off := 59) dX11_count_1 (by rw [hk1]; decide) (by decide)) ?_
    refine go1 (M := mX11_count) (pc' := 61) (r_aload_n (M := mX11_count) (i := 0) rfl dX11_count_60) ?_
    refine go1 (M := mX11_count) (pc' := 64) (r_getR (M := mX11_count) fl_11_55 h0 rfl (wt_some hW h0 (by decide) (by decide) rfl) dX11_count_61) ?_
    have hT2 : TY S (pr S a0 5) 6 := wt hW h0 (by decide) (by decide) rfl (by decide)
    refine go1 (M := mX11_count) (pc' := 67) (r_getR (M := mX11_count) fl_11_116 hT2 rfl (wt_some hW hT2 (by decide) (by decide) rfl) dX11_count_64) ?_
    have hT3 : TY S (pr S (pr S a0 5) 2) 14 := wt hW hT2 (by decide) (by decide) rfl (by decide)
    refine go1 (M := mX11_count) (pc' := 68) (r_alen (M := mX11_count) hT3 (by decide) (by decide) dX11_count_67) ?_
    exact go_iret (M := mX11_count) rfl rfl dX11_count_68
  · refine go_case (fun hk4 => ?_) (fun hk4 => ?_)
    · refine go1 (M := mX11_count) (pc' := 69) (r_tsw (M := mX11_count) (off := 68) dX11_count_1 (by rw [hk4]; decide) (by decide)) ?_
      refine go1 (M := mX11_count) (pc' := 70) (r_aload_n (M := mX11_count) (i := 0) rfl dX11_count_69) ?_
      refine go1 (M := mX11_count) (pc' := 73) (r_getR (M := mX11_count) fl_11_55 h0 rfl (wt_some hW h0 (by decide) (by decide) rfl) dX11_count_70) ?_
      have hT5 : TY S (pr S a0 5) 6 := wt hW h0 (by decide) (by decide) rfl (by decide)
      refine go1 (M := mX11_count) (pc' := 76) (r_getR (M := mX11_count) fl_11_91 hT5 rfl (wt_some hW hT5 (by decide) (by decide) rfl) dX11_count_73) ?_
      have hT6 : TY S (pr S (pr S a0 5) 3) 4 := wt hW hT5 (by decide) (by decide) rfl (by decide)
      refine go1 (M := mX11_count) (pc' := 79) (r_getI (M := mX11_count) fl_11_284 hT6 rfl dX11_count_76) ?_
      exact go_iret (M := mX11_count) rfl rfl dX11_count_79
    · refine go_case (fun hk7 => ?_) (fun hk7 => ?_)
      · refine go1 (M := mX11_count) (pc' := 80) (r_tsw (M := mX11_count) (off := 79) dX11_count_1 (by rw [hk7]; decide) (by decide)) ?_
        refine go1 (M := mX11_count) (pc' := 81) (r_aload_n (M := mX11_count) (i := 0) rfl dX11_count_80) ?_
        refine go1 (M := mX11_count) (pc' := 84) (r_getR (M := mX11_count) fl_11_55 h0 rfl (wt_some hW h0 (by decide) (by decide) rfl) dX11_count_81) ?_
        have hT8 : TY S (pr S a0 5) 6 := wt hW h0 (by decide) (by decide) rfl (by decide)
        refine go1 (M := mX11_count) (pc' := 87) (r_getR (M := mX11_count) fl_11_123 hT8 rfl (wt_some hW hT8 (by decide) (by decide) rfl) dX11_count_84) ?_
        have hT9 : TY S (pr S (pr S a0 5) 4) 8 := wt hW hT8 (by decide) (by decide) rfl (by decide)
        refine go1 (M := mX11_count) (pc' := 90) (r_getI (M := mX11_count) fl_11_287 hT9 rfl dX11_count_87) ?_
        exact go_iret (M := mX11_count) rfl rfl dX11_count_90
      · refine go_case (fun hk10 => ?_) (fun hk10 => ?_)
        · refine go1 (M := mX11_count) (pc' := 91) (r_tsw (M := mX11_count) (off := 90) dX11_count_1 (by rw [hk10]; decide) (by decide)) ?_
          refine go1 (M := mX11_count) (pc' := 92) (r_aload_n (M := mX11_count) (i := 0) rfl dX11_count_91) ?_
          refine go1 (M := mX11_count) (pc' := 95) (r_getR (M := mX11_count) fl_11_55 h0 rfl (wt_some hW h0 (by decide) (by decide) rfl) dX11_count_92) ?_
          have hT11 : TY S (pr S a0 5) 6 := wt hW h0 (by decide) (by decide) rfl (by decide)
          refine go1 (M := mX11_count) (pc' := 98) (r_getR (M := mX11_count) fl_11_123 hT11 rfl (wt_some hW hT11 (by decide) (by decide) rfl) dX11_count_95) ?_
          have hT12 : TY S (pr S (pr S a0 5) 4) 8 := wt hW hT11 (by decide) (by decide) rfl (by decide)
          refine go_V_PI (M := mX11_count) (pc' := 101) (st := []) (As := []) rfl ln_11_288 lb_X8_guests (t_X8_guests (N := N) hW (by omega) hT12) (by omega) hT12 (Nat.le_of_ble_eq_true rfl) rfl dX11_count_98 (fun r13 => ?_)
          exact go_iret (M := mX11_count) rfl rfl dX11_count_101
        · refine go_case (fun hk14 => ?_) (fun hk14 => ?_)
          · refine go1 (M := mX11_count) (pc' := 102) (r_tsw (M := mX11_count) (off := 101) dX11_count_1 (by rw [hk14]; decide) (by decide)) ?_
            refine go1 (M := mX11_count) (pc' := 103) (r_aload_n (M := mX11_count) (i := 0) rfl dX11_count_102) ?_
            refine go1 (M := mX11_count) (pc' := 106) (r_getR (M := mX11_count) fl_11_55 h0 rfl (wt_some hW h0 (by decide) (by decide) rfl) dX11_count_103) ?_
            have hT15 : TY S (pr S a0 5) 6 := wt hW h0 (by decide) (by decide) rfl (by decide)
            refine go1 (M := mX11_count) (pc' := 109) (r_getI (M := mX11_count) fl_11_218 hT15 rfl dX11_count_106) ?_
            exact go_iret (M := mX11_count) rfl rfl dX11_count_109
          · refine go_case (fun hk16 => ?_) (fun hk16 => ?_)
            · refine go1 (M := mX11_count) (pc' := 110) (r_tsw (M := mX11_count) (off := 109) dX11_count_1 (by rw [hk16]; decide) (by decide)) ?_
              refine go1 (M := mX11_count) (pc' := 111) (r_aload_n (M := mX11_count) (i := 0) rfl dX11_count_110) ?_
              refine go1 (M := mX11_count) (pc' := 114) (r_getR (M := mX11_count) fl_11_55 h0 rfl (wt_some hW h0 (by decide) (by decide) rfl) dX11_count_111) ?_
              have hT17 : TY S (pr S a0 5) 6 := wt hW h0 (by decide) (by decide) rfl (by decide)
              refine go1 (M := mX11_count) (pc' := 117) (r_getR (M := mX11_count) fl_11_230 hT17 rfl (wt_some hW hT17 (by decide) (by decide) rfl) dX11_count_114) ?_
              have hT18 : TY S (pr S (pr S a0 5) 5) 2 := wt hW hT17 (by decide) (by decide) rfl (by decide)
              refine go_V_PI (M := mX11_count) (pc' := 120) (st := []) (As := []) rfl ln_11_292 lb_X2_trays (t_X2_trays (N := N) hW (by omega) hT18) (by omega) hT18 (Nat.le_of_ble_eq_true rfl) rfl dX11_count_117 (fun r19 => ?_)
              exact go_iret (M := mX11_count) rfl rfl dX11_count_120
            · refine go_case (fun hk20 => ?_) (fun hk20 => ?_)
              · refine go1 (M := mX11_count) (pc' := 121) (r_tsw (M := mX11_count) (off := 120) dX11_count_1 (by rw [hk20]; decide) (by decide)) ?_
                refine go1 (M := mX11_count) (pc' := 122) (r_aload_n (M := mX11_count) (i := 0) rfl dX11_count_121) ?_
                refine go1 (M := mX11_count) (pc' := 125) (r_getR (M := mX11_count) fl_11_55 h0 rfl (wt_some hW h0 (by decide) (by decide) rfl) dX11_count_122) ?_
                have hT21 : TY S (pr S a0 5) 6 := wt hW h0 (by decide) (by decide) rfl (by decide)
                refine go1 (M := mX11_count) (pc' := 128) (r_getR (M := mX11_count) fl_11_230 hT21 rfl (wt_some hW hT21 (by decide) (by decide) rfl) dX11_count_125) ?_
                have hT22 : TY S (pr S (pr S a0 5) 5) 2 := wt hW hT21 (by decide) (by decide) rfl (by decide)
                refine go1 (M := mX11_count) (pc' := 131) (r_getI (M := mX11_count) fl_11_295 hT22 rfl dX11_count_128) ?_
                exact go_iret (M := mX11_count) rfl rfl dX11_count_131
              · refine go_case (fun hk23 => ?_) (fun hk23 => ?_)
                · refine go1 (M := mX11_count) (pc' := 132) (r_tsw (M := mX11_count) (off := 131) dX11_count_1 (by rw [hk23]; decide) (by decide)) ?_
                  refine go1 (M := mX11_count) (pc' := 133) (r_aload_n (M := mX11_count) (i := 0) rfl dX11_count_132) ?_
                  refine go1 (M := mX11_count) (pc' := 136) (r_getR (M := mX11_count) fl_11_55 h0 rfl (wt_some hW h0 (by decide) (by decide) rfl) dX11_count_133) ?_
                  have hT24 : TY S (pr S a0 5) 6 := wt hW h0 (by decide) (by decide) rfl (by decide)
                  refine go1 (M := mX11_count) (pc' := 139) (r_getI (M := mX11_count) fl_11_298 hT24 rfl dX11_count_136) ?_
                  exact go_iret (M := mX11_count) rfl rfl dX11_count_139
                · refine go_case (fun hk25 => ?_) (fun hk25 => ?_)
                  · refine go1 (M := mX11_count) (pc' := 140) (r_tsw (M := mX11_count) (off := 139) dX11_count_1 (by rw [hk25]; decide) (by decide)) ?_
                    refine go1 (M := mX11_count) (pc' := 141) (r_aload_n (M := mX11_count) (i := 0) rfl dX11_count_140) ?_
                    refine go1 (M := mX11_count) (pc' := 144) (r_getR (M := mX11_count) fl_11_19 h0 rfl (wt_some hW h0 (by decide) (by decide) rfl) dX11_count_141) ?_
                    have hT26 : TY S (pr S a0 1) 7 := wt hW h0 (by decide) (by decide) rfl (by decide)
                    refine go1 (M := mX11_count) (pc' := 147) (r_getI (M := mX11_count) fl_11_301 hT26 rfl dX11_count_144) ?_
                    exact go_iret (M := mX11_count) rfl rfl dX11_count_147
                  · refine go_case (fun hk27 => ?_) (fun hk27 => ?_)
                    · refine go1 (M := mX11_count) (pc' := 148) (r_tsw (M := mX11_count) (off := 147) dX11_count_1 (by rw [hk27]; decide) (by decide)) ?_
                      refine go1 (M := mX11_count) (pc' := 149) (r_aload_n (M := mX11_count) (i := 0) rfl dX11_count_148) ?_
                      refine go1 (M := mX11_count) (pc' := 152) (r_getR (M := mX11_count) fl_11_26 h0 rfl (wt_some hW h0 (by decide) (by decide) rfl) dX11_count_149) ?_
                      have hT28 : TY S (pr S a0 2) 5 := wt hW h0 (by decide) (by decide) rfl (by decide)
                      refine go1 (M := mX11_count) (pc' := 155) (r_getI (M := mX11_count) fl_11_193 hT28 rfl dX11_count_152) ?_
                      exact go_iret (M := mX11_count) rfl rfl dX11_count_155
                    · refine go_case (fun hk29 => ?_) (fun hk29 => ?_)
                      · refine go1 (M := mX11_count) (pc' := 156) (r_tsw (M := mX11_count) (off := 155) dX11_count_1 (by rw [hk29]; decide) (by decide)) ?_
                        refine go1 (M := mX11_count) (pc' := 157) (r_aload_n (M := mX11_count) (i := 0) rfl dX11_count_156) ?_
                        refine go1 (M := mX11_count) (pc' := 160) (r_getR (M := mX11_count) fl_11_19 h0 rfl (wt_some hW h0 (by decide) (by decide) rfl) dX11_count_157) ?_
                        have hT30 : TY S (pr S a0 1) 7 := wt hW h0 (by decide) (by decide) rfl (by decide)
                        refine go1 (M := mX11_count) (pc' := 163) (r_getI (M := mX11_count) fl_11_302 hT30 rfl dX11_count_160) ?_
                        exact go_iret (M := mX11_count) rfl rfl dX11_count_163
                      · have hq0 := lv_neT hk1 (show (0 : Int32).toInt = (0 : Int) by decide)
                        have hq1 := lv_neT hk4 (show (1 : Int32).toInt = (1 : Int) by decide)
                        have hq2 := lv_neT hk7 (show (2 : Int32).toInt = (2 : Int) by decide)
                        have hq3 := lv_neT hk10 (show (3 : Int32).toInt = (3 : Int) by decide)
                        have hq4 := lv_neT hk14 (show (4 : Int32).toInt = (4 : Int) by decide)
                        have hq5 := lv_neT hk16 (show (5 : Int32).toInt = (5 : Int) by decide)
                        have hq6 := lv_neT hk20 (show (6 : Int32).toInt = (6 : Int) by decide)
                        have hq7 := lv_neT hk23 (show (7 : Int32).toInt = (7 : Int) by decide)
                        have hq8 := lv_neT hk25 (show (8 : Int32).toInt = (8 : Int) by decide)
                        have hq9 := lv_neT hk27 (show (9 : Int32).toInt = (9 : Int) by decide)
                        have hq10 := lv_neT hk29 (show (10 : Int32).toInt = (10 : Int) by decide)
                        refine go1 (M := mX11_count) (pc' := 164) (r_tswO (M := mX11_count) dX11_count_1 (by omega) (by decide)) ?_
                        refine go1 (M := mX11_count) (pc' := 166) (r_bipush (M := mX11_count) (v := (-2)) (by decide) dX11_count_164) ?_
                        exact go_iret (M := mX11_count) rfl rfl dX11_count_166
def f_X11_sheet (N : Nat) (S : SH) (a0 : Nat) (a1 : Int32) (a2 : Int32) (a3 : Int32) (x : DY) : Option (Int32 × DY) :=
  Option.bind (f_X9_isSheet N S a1 x) (fun r1 => (if r1 = 0 then some ((-2), x) else (if a2 = (-1) then Option.bind (f_X9_remove N S (pr S a0 4) a1 x) (fun r11 => some (1, r11)) else Option.bind (f_X9_isSort N S a2 x) (fun r4 => (if r4 = 0 then some ((-2), x) else (if a3 ≤ 40 then (if 0 ≤ a3 then Option.bind (f_X9_make N S (pr S a0 4) a1 a2 a3 x) (fun r9 => some (1, r9)) else some ((-14), x)) else some ((-2), x)))))))
set_option maxHeartbeats 1000000 in
theorem t_X11_sheet {N d : Nat} {S : SH} (hW : WT S) {x : DY} {a0 : Nat} {a1 : Int32} {a2 : Int32} {a3 : Int32} (hd : 4 ≤ d) (h0 : TY S a0 11) : CT mX11_sheet d S [.ref a0, .int a1, .int a2, .int a3] x wSI (f_X11_sheet N S a0 a1 a2 a3 x) := by
  refine CT.of [some (.ref a0), some (.int a1), some (.int a2), some (.int a3)] rfl (Nat.le_of_ble_eq_true rfl) (by decide +kernel) ?_
  unfold f_X11_sheet
  refine go1 (M := mX11_sheet) (pc' := 1) (r_iload_n (M := mX11_sheet) (i := 1) rfl dX11_sheet_0) ?_
  refine go_S_PI (M := mX11_sheet) (pc' := 4) (st := []) (As := [.int a1]) rfl ln_11_305 lb_X9_isSheet (t_X9_isSheet (N := N) hW (by omega) ) (by omega) (Nat.le_of_ble_eq_true rfl) rfl dX11_sheet_1 (fun r1 => ?_)
  refine go_br (M := mX11_sheet) (pt := 7) (pf := 10) (fun kt kf => r_if_ne (M := mX11_sheet) dX11_sheet_4 (by decide) kf kt) (fun hc2 => ?_) (fun hc2 => ?_)
  · refine go1 (M := mX11_sheet) (pc' := 9) (r_bipush (M := mX11_sheet) (v := (-2)) (by decide) dX11_sheet_7) ?_
    exact go_iret (M := mX11_sheet) rfl rfl dX11_sheet_9
  · refine go1 (M := mX11_sheet) (pc' := 11) (r_iload_n (M := mX11_sheet) (i := 2) rfl dX11_sheet_10) ?_
    refine go1 (M := mX11_sheet) (pc' := 12) (r_iconst (M := mX11_sheet) (v := (-1)) (by decide) dX11_sheet_11) ?_
    refine go_br (M := mX11_sheet) (pt := 15) (pf := 25) (fun kt kf => r_icmp_ne (M := mX11_sheet) dX11_sheet_12 (by decide) kf kt) (fun hc3 => ?_) (fun hc3 => ?_)
    · refine go1 (M := mX11_sheet) (pc' := 16) (r_aload_n (M := mX11_sheet) (i := 0) rfl dX11_sheet_15) ?_
      refine go1 (M := mX11_sheet) (pc' := 19) (r_getR (M := mX11_sheet) fl_11_40 h0 rfl (wt_some hW h0 (by decide) (by decide) rfl) dX11_sheet_16) ?_
      have hT10 : TY S (pr S a0 4) 9 := wt hW h0 (by decide) (by decide) rfl (by decide)
      refine go1 (M := mX11_sheet) (pc' := 20) (r_iload_n (M := mX11_sheet) (i := 1) rfl dX11_sheet_19) ?_
      refine go_V_SV (M := mX11_sheet) (pc' := 23) (st := []) (As := [.int a1]) rfl ln_11_308 lb_X9_remove (t_X9_remove (N := N) hW (by omega) hT10) (by omega) hT10 (Nat.le_of_ble_eq_true rfl) rfl dX11_sheet_20 (fun r11 => ?_)
      refine go1 (M := mX11_sheet) (pc' := 24) (r_iconst (M := mX11_sheet) (v := 1) (by decide) dX11_sheet_23) ?_
      exact go_iret (M := mX11_sheet) rfl rfl dX11_sheet_24
    · refine go1 (M := mX11_sheet) (pc' := 26) (r_iload_n (M := mX11_sheet) (i := 2) rfl dX11_sheet_25) ?_
      refine go_S_PI (M := mX11_sheet) (pc' := 29) (st := []) (As := [.int a2]) rfl ln_11_311 lb_X9_isSort (t_X9_isSort (N := N) hW (by omega) ) (by omega) (Nat.le_of_ble_eq_true rfl) rfl dX11_sheet_26 (fun r4 => ?_)
      refine go_br (M := mX11_sheet) (pt := 38) (pf := 32) (fun kt kf => r_if_eq (M := mX11_sheet) dX11_sheet_29 (by decide) kt kf) (fun hc5 => ?_) (fun hc5 => ?_)
      · refine go1 (M := mX11_sheet) (pc' := 40) (r_bipush (M := mX11_sheet) (v := (-2)) (by decide) dX11_sheet_38) ?_
        exact go_iret (M := mX11_sheet) rfl rfl dX11_sheet_40
      · refine go1 (M := mX11_sheet) (pc' := 33) (r_iload_n (M := mX11_sheet) (i := 3) rfl dX11_sheet_32) ?_
        refine go1 (M := mX11_sheet) (pc' := 35) (r_bipush (M := mX11_sheet) (v := 40) (by decide) dX11_sheet_33) ?_
        refine go_br (M := mX11_sheet) (pt := 41) (pf := 38) (fun kt kf => r_icmp_le (M := mX11_sheet) dX11_sheet_35 (by decide) kt kf) (fun hc6 => ?_) (fun hc6 => ?_)
        · refine go1 (M := mX11_sheet) (pc' := 42) (r_iload_n (M := mX11_sheet) (i := 3) rfl dX11_sheet_41) ?_
          refine go_br (M := mX11_sheet) (pt := 48) (pf := 45) (fun kt kf => r_if_ge (M := mX11_sheet) dX11_sheet_42 (by decide) kt kf) (fun hc7 => ?_) (fun hc7 => ?_)
          · refine go1 (M := mX11_sheet) (pc' := 49) (r_aload_n (M := mX11_sheet) (i := 0) rfl dX11_sheet_48) ?_
            refine go1 (M := mX11_sheet) (pc' := 52) (r_getR (M := mX11_sheet) fl_11_40 h0 rfl (wt_some hW h0 (by decide) (by decide) rfl) dX11_sheet_49) ?_
            have hT8 : TY S (pr S a0 4) 9 := wt hW h0 (by decide) (by decide) rfl (by decide)
            refine go1 (M := mX11_sheet) (pc' := 53) (r_iload_n (M := mX11_sheet) (i := 1) rfl dX11_sheet_52) ?_
            refine go1 (M := mX11_sheet) (pc' := 54) (r_iload_n (M := mX11_sheet) (i := 2) rfl dX11_sheet_53) ?_
            refine go1 (M := mX11_sheet) (pc' := 55) (r_iload_n (M := mX11_sheet) (i := 3) rfl dX11_sheet_54) ?_
            refine go_V_SV (M := mX11_sheet) (pc' := 58) (st := []) (As := [.int a1, .int a2, .int a3]) rfl ln_11_314 lb_X9_make (t_X9_make (N := N) hW (by omega) hT8) (by omega) hT8 (Nat.le_of_ble_eq_true rfl) rfl dX11_sheet_55 (fun r9 => ?_)
            refine go1 (M := mX11_sheet) (pc' := 59) (r_iconst (M := mX11_sheet) (v := 1) (by decide) dX11_sheet_58) ?_
            exact go_iret (M := mX11_sheet) rfl rfl dX11_sheet_59
          · refine go1 (M := mX11_sheet) (pc' := 47) (r_bipush (M := mX11_sheet) (v := (-14)) (by decide) dX11_sheet_45) ?_
            exact go_iret (M := mX11_sheet) rfl rfl dX11_sheet_47
        · refine go1 (M := mX11_sheet) (pc' := 40) (r_bipush (M := mX11_sheet) (v := (-2)) (by decide) dX11_sheet_38) ?_
          exact go_iret (M := mX11_sheet) rfl rfl dX11_sheet_40
def f_X11_cell (N : Nat) (S : SH) (a0 : Nat) (a1 : Int32) (a2 : Int32) (a3 : Int32) (x : DY) : Option (Int32 × DY) :=
  Option.bind (f_X9_isSheet N S a1 x) (fun r1 => (if r1 = 0 then some ((-2), x) else ck S (pr S (pr S a0 4) 0) a1 ((if (x.1 (pr S (pr S a0 4) 0) a1.toNatClampNeg) = (-1) then some ((-11), x) else Option.bind (f_X9_hasItem N S (pr S a0 4) a1 a2 x) (fun r7 => (if r7 = 0 then some ((-12), x) else Option.bind (f_X9_put N S (pr S a0 4) a1 a2 a3 x) (fun r9 => some (1, r9))))))))
set_option maxHeartbeats 1000000 in
theorem t_X11_cell {N d : Nat} {S : SH} (hW : WT S) {x : DY} {a0 : Nat} {a1 : Int32} {a2 : Int32} {a3 : Int32} (hd : 5 ≤ d) (h0 : TY S a0 11) : CT mX11_cell d S [.ref a0, .int a1, .int a2, .int a3] x wSI (f_X11_cell N S a0 a1 a2 a3 x) := by
  refine CT.of [some (.ref a0), some (.int a1), some (.int a2), some (.int a3)] rfl (Nat.le_of_ble_eq_true rfl) (by decide +kernel) ?_
  unfold f_X11_cell
  refine go1 (M := mX11_cell) (pc' := 1) (r_iload_n (M := mX11_cell) (i := 1) rfl dX11_cell_0) ?_
  refine go_S_PI (M := mX11_cell) (pc' := 4) (st := []) (As := [.int a1]) rfl ln_11_305 lb_X9_isSheet (t_X9_isSheet (N := N) hW (by omega) ) (by omega) (Nat.le_of_ble_eq_true rfl) rfl dX11_cell_1 (fun r1 => ?_)
  refine go_br (M := mX11_cell) (pt := 7) (pf := 10) (fun kt kf => r_if_ne (M := mX11_cell) dX11_cell_4 (by decide) kf kt) (fun hc2 => ?_) (fun hc2 => ?_)
  · refine go1 (M := mX11_cell) (pc' := 9) (r_bipush (M := mX11_cell) (v := (-2)) (by decide) dX11_cell_7) ?_
    exact go_iret (M := mX11_cell) rfl rfl dX11_cell_9
  · refine go1 (M := mX11_cell) (pc' := 11) (r_aload_n (M := mX11_cell) (i := 0) rfl dX11_cell_10) ?_
    refine go1 (M := mX11_cell) (pc' := 14) (r_getR (M := mX11_cell) fl_11_40 h0 rfl (wt_some hW h0 (by decide) (by decide) rfl) dX11_cell_11) ?_
    have hT3 : TY S (pr S a0 4) 9 := wt hW h0 (by decide) (by decide) rfl (by decide)
    refine go1 (M := mX11_cell) (pc' := 17) (r_getR (M := mX11_cell) fl_11_317 hT3 rfl (wt_some hW hT3 (by decide) (by decide) rfl) dX11_cell_14) ?_
    have hT4 : TY S (pr S (pr S a0 4) 0) 14 := wt hW hT3 (by decide) (by decide) rfl (by decide)
    refine go1 (M := mX11_cell) (pc' := 18) (r_iload_n (M := mX11_cell) (i := 1) rfl dX11_cell_17) ?_
    refine go_ck (fun hi5 => ?_)
    refine go1 (M := mX11_cell) (pc' := 19) (r_iald (M := mX11_cell) hT4 hi5 dX11_cell_18) ?_
    refine go1 (M := mX11_cell) (pc' := 20) (r_iconst (M := mX11_cell) (v := (-1)) (by decide) dX11_cell_19) ?_
    refine go_br (M := mX11_cell) (pt := 23) (pf := 26) (fun kt kf => r_icmp_ne (M := mX11_cell) dX11_cell_20 (by decide) kf kt) (fun hc6 => ?_) (fun hc6 => ?_)
    · refine go1 (M := mX11_cell) (pc' := 25) (r_bipush (M := mX11_cell) (v := (-11)) (by decide) dX11_cell_23) ?_
      exact go_iret (M := mX11_cell) rfl rfl dX11_cell_25
    · refine go1 (M := mX11_cell) (pc' := 27) (r_aload_n (M := mX11_cell) (i := 0) rfl dX11_cell_26) ?_
      refine go1 (M := mX11_cell) (pc' := 30) (r_getR (M := mX11_cell) fl_11_40 h0 rfl (wt_some hW h0 (by decide) (by decide) rfl) dX11_cell_27) ?_
      refine go1 (M := mX11_cell) (pc' := 31) (r_iload_n (M := mX11_cell) (i := 1) rfl dX11_cell_30) ?_
      refine go1 (M := mX11_cell) (pc' := 32) (r_iload_n (M := mX11_cell) (i := 2) rfl dX11_cell_31) ?_
      refine go_V_PI (M := mX11_cell) (pc' := 35) (st := []) (As := [.int a1, .int a2]) rfl ln_11_320 lb_X9_hasItem (t_X9_hasItem (N := N) hW (by omega) hT3) (by omega) hT3 (Nat.le_of_ble_eq_true rfl) rfl dX11_cell_32 (fun r7 => ?_)
      refine go_br (M := mX11_cell) (pt := 38) (pf := 41) (fun kt kf => r_if_ne (M := mX11_cell) dX11_cell_35 (by decide) kf kt) (fun hc8 => ?_) (fun hc8 => ?_)
      · refine go1 (M := mX11_cell) (pc' := 40) (r_bipush (M := mX11_cell) (v := (-12)) (by decide) dX11_cell_38) ?_
        exact go_iret (M := mX11_cell) rfl rfl dX11_cell_40
      · refine go1 (M := mX11_cell) (pc' := 42) (r_aload_n (M := mX11_cell) (i := 0) rfl dX11_cell_41) ?_
        refine go1 (M := mX11_cell) (pc' := 45) (r_getR (M := mX11_cell) fl_11_40 h0 rfl (wt_some hW h0 (by decide) (by decide) rfl) dX11_cell_42) ?_
        refine go1 (M := mX11_cell) (pc' := 46) (r_iload_n (M := mX11_cell) (i := 1) rfl dX11_cell_45) ?_
        refine go1 (M := mX11_cell) (pc' := 47) (r_iload_n (M := mX11_cell) (i := 2) rfl dX11_cell_46) ?_
        refine go1 (M := mX11_cell) (pc' := 48) (r_iload_n (M := mX11_cell) (i := 3) rfl dX11_cell_47) ?_
        refine go_V_SV (M := mX11_cell) (pc' := 51) (st := []) (As := [.int a1, .int a2, .int a3]) rfl ln_11_323 lb_X9_put (t_X9_put (N := N) hW (by omega) hT3) (by omega) hT3 (Nat.le_of_ble_eq_true rfl) rfl dX11_cell_48 (fun r9 => ?_)
        refine go1 (M := mX11_cell) (pc' := 52) (r_iconst (M := mX11_cell) (v := 1) (by decide) dX11_cell_51) ?_
        exact go_iret (M := mX11_cell) rfl rfl dX11_cell_52
def j_X11_layRow_57 (N : Nat) (S : SH) (bk6 : Int32 → Int32 → DY → Option (Int32 × DY)) (p0 : Nat) (p1 : Int32) (p2 : Int32) (p3 : Int32) (p4 : Int32) (p5 : Int32) (x : DY) : Option (Int32 × DY) :=
  Option.bind (f_X6_goByOnce N S (pr S p0 5) x) (fun r15 => bk6 p4 (p5 + 1) r15)
set_option maxHeartbeats 1000000 in
theorem j_X11_layRow_57_t {N d : Nat} {S : SH} (hW : WT S) (hd : 6 ≤ d) (bk6 : Int32 → Int32 → DY → Option (Int32 × DY)) (p0 : Nat) (p1 : Int32) (p2 : Int32) (p3 : Int32) (p4 : Int32) (p5 : Int32) (x : DY) (g0 : TY S p0 11) (hbk6 : ∀ (v4 : Int32) (v5 : Int32) (y : DY), Go mX11_layRow d S wSI 6 [some (.ref p0), some (.int p1), some (.int p2), some (.int p3), some (.int v4), some (.int v5)] [] y (bk6 v4 v5 y)) : Go mX11_layRow d S wSI 57 [some (.ref p0), some (.int p1), some (.int p2), some (.int p3), some (.int p4), some (.int p5)] [] x (j_X11_layRow_57 N S bk6 p0 p1 p2 p3 p4 p5 x) := by
  unfold j_X11_layRow_57
  refine go1 (M := mX11_layRow) (pc' := 58) (r_aload_n (M := mX11_layRow) (i := 0) rfl dX11_layRow_57) ?_
  refine go1 (M := mX11_layRow) (pc' := 61) (r_getR (M := mX11_layRow) fl_11_55 g0 rfl (wt_some hW g0 (by decide) (by decide) rfl) dX11_layRow_58) ?_
  have hT14 : TY S (pr S p0 5) 6 := wt hW g0 (by decide) (by decide) rfl (by decide)
  refine go_V_SV (M := mX11_layRow) (pc' := 64) (st := []) (As := []) rfl ln_11_224 lb_X6_goByOnce (t_X6_goByOnce (N := N) hW (by omega) hT14) (by omega) hT14 (Nat.le_of_ble_eq_true rfl) rfl dX11_layRow_61 (fun r15 => ?_)
  refine go1 (M := mX11_layRow) (pc' := 67) (ls' := [some (.ref p0), some (.int p1), some (.int p2), some (.int p3), some (.int p4), some (.int (p5 + 1))]) (r_iinc (M := mX11_layRow) (ls := [some (.ref p0), some (.int p1), some (.int p2), some (.int p3), some (.int p4), some (.int p5)]) (i := 5) (v := p5) (c' := 1) (by decide) rfl (by decide) rfl dX11_layRow_64) ?_
  refine go1 (M := mX11_layRow) (pc' := 6) (r_goto (M := mX11_layRow) dX11_layRow_67 (by decide)) ?_
  exact hbk6 p4 (p5 + 1) r15
def lp_X11_layRow_6_b (N : Nat) (S : SH) (bk6 : Int32 → Int32 → DY → Option (Int32 × DY)) (p0 : Nat) (p1 : Int32) (p2 : Int32) (p3 : Int32) (p4 : Int32) (p5 : Int32) (x : DY) : Option (Int32 × DY) :=
  (if p3 ≤ p5 then some (p4, x) else Option.bind (f_X9_hasItem N S (pr S p0 4) p1 (p2 + p5) x) (fun r4 => (if r4 = 0 then some ((-12), x) else ck S (pr S (pr S p0 4) 2) p1 (rfk (S.2.2.2 (pr S (pr S p0 4) 2) p1.toNatClampNeg) (fun b8 => ck S b8 (p2 + p5) (Option.bind (f_X6_layAtHatch N S (pr S p0 5) (x.1 b8 (p2 + p5).toNatClampNeg) x) (fun r12 => (if r12.1 < 0 then j_X11_layRow_57 N S bk6 p0 p1 p2 p3 p4 p5 r12.2 else j_X11_layRow_57 N S bk6 p0 p1 p2 p3 (p4 + 1) p5 r12.2))))))))
set_option maxHeartbeats 1000000 in
theorem lp_X11_layRow_6_b_t {N d : Nat} {S : SH} (hW : WT S) (hd : 6 ≤ d) (bk6 : Int32 → Int32 → DY → Option (Int32 × DY)) (p0 : Nat) (p1 : Int32) (p2 : Int32) (p3 : Int32) (p4 : Int32) (p5 : Int32) (x : DY) (g0 : TY S p0 11) (hbk6 : ∀ (v4 : Int32) (v5 : Int32) (y : DY), Go mX11_layRow d S wSI 6 [some (.ref p0), some (.int p1), some (.int p2), some (.int p3), some (.int v4), some (.int v5)] [] y (bk6 v4 v5 y)) : Go mX11_layRow d S wSI 6 [some (.ref p0), some (.int p1), some (.int p2), some (.int p3), some (.int p4), some (.int p5)] [] x (lp_X11_layRow_6_b N S bk6 p0 p1 p2 p3 p4 p5 x) := by
  unfold lp_X11_layRow_6_b
  refine go1 (M := mX11_layRow) (pc' := 8) (r_iload (M := mX11_layRow) (i := 5) rfl dX11_layRow_6) ?_
  refine go1 (M := mX11_layRow) (pc' := 9) (r_iload_n (M := mX11_layRow) (i := 3) rfl dX11_layRow_8) ?_
  refine go_br (M := mX11_layRow) (pt := 70) (pf := 12) (fun kt kf => r_icmp_ge (M := mX11_layRow) dX11_layRow_9 (by decide) kt kf) (fun hc2 => ?_) (fun hc2 => ?_)
  · refine go1 (M := mX11_layRow) (pc' := 72) (r_iload (M := mX11_layRow) (i := 4) rfl dX11_layRow_70) ?_
    exact go_iret (M := mX11_layRow) rfl rfl dX11_layRow_72
  · refine go1 (M := mX11_layRow) (pc' := 13) (r_aload_n (M := mX11_layRow) (i := 0) rfl dX11_layRow_12) ?_
    refine go1 (M := mX11_layRow) (pc' := 16) (r_getR (M := mX11_layRow) fl_11_40 g0 rfl (wt_some hW g0 (by decide) (by decide) rfl) dX11_layRow_13) ?_
    have hT3 : TY S (pr S p0 4) 9 := wt hW g0 (by decide) (by decide) rfl (by decide)
    refine go1 (M := mX11_layRow) (pc' := 17) (r_iload_n (M := mX11_layRow) (i := 1) rfl dX11_layRow_16) ?_
    refine go1 (M := mX11_layRow) (pc' := 18) (r_iload_n (M := mX11_layRow) (i := 2) rfl dX11_layRow_17) ?_
    refine go1 (M := mX11_layRow) (pc' := 20) (r_iload (M := mX11_layRow) (i := 5) rfl dX11_layRow_18) ?_
    refine go1 (M := mX11_layRow) (pc' := 21) (r_iadd (M := mX11_layRow) dX11_layRow_20) ?_
    refine go_V_PI (M := mX11_layRow) (pc' := 24) (st := []) (As := [.int p1, .int (p2 + p5)]) rfl ln_11_320 lb_X9_hasItem (t_X9_hasItem (N := N) hW (by omega) hT3) (by omega) hT3 (Nat.le_of_ble_eq_true rfl) rfl dX11_layRow_21 (fun r4 => ?_)
    refine go_br (M := mX11_layRow) (pt := 27) (pf := 30) (fun kt kf => r_if_ne (M := mX11_layRow) dX11_layRow_24 (by decide) kf kt) (fun hc5 => ?_) (fun hc5 => ?_)
    · refine go1 (M := mX11_layRow) (pc' := 29) (r_bipush (M := mX11_layRow) (v := (-12)) (by decide) dX11_layRow_27) ?_
      exact go_iret (M := mX11_layRow) rfl rfl dX11_layRow_29
    · refine go1 (M := mX11_layRow) (pc' := 31) (r_aload_n (M := mX11_layRow) (i := 0) rfl dX11_layRow_30) ?_
      refine go1 (M := mX11_layRow) (pc' := 34) (r_getR (M := mX11_layRow) fl_11_55 g0 rfl (wt_some hW g0 (by decide) (by decide) rfl) dX11_layRow_31) ?_
      have hT6 : TY S (pr S p0 5) 6 := wt hW g0 (by decide) (by decide) rfl (by decide)
      refine go1 (M := mX11_layRow) (pc' := 35) (r_aload_n (M := mX11_layRow) (i := 0) rfl dX11_layRow_34) ?_
      refine go1 (M := mX11_layRow) (pc' := 38) (r_getR (M := mX11_layRow) fl_11_40 g0 rfl (wt_some hW g0 (by decide) (by decide) rfl) dX11_layRow_35) ?_
      refine go1 (M := mX11_layRow) (pc' := 41) (r_getR (M := mX11_layRow) fl_11_330 hT3 rfl (wt_some hW hT3 (by decide) (by decide) rfl) dX11_layRow_38) ?_
      have hT7 : TY S (pr S (pr S p0 4) 2) 18 := wt hW hT3 (by decide) (by decide) rfl (by decide)
      refine go1 (M := mX11_layRow) (pc' := 42) (r_iload_n (M := mX11_layRow) (i := 1) rfl dX11_layRow_41) ?_
      refine go_aald (M := mX11_layRow) (pc' := 43) rfl hT7 (by decide) dX11_layRow_42 (fun b8 hb9 => ?_)
      have hT10 : TY S b8 14 := hW.2.2.2 _ hT7 _ _ hb9
      refine go1 (M := mX11_layRow) (pc' := 44) (r_iload_n (M := mX11_layRow) (i := 2) rfl dX11_layRow_43) ?_
      refine go1 (M := mX11_layRow) (pc' := 46) (r_iload (M := mX11_layRow) (i := 5) rfl dX11_layRow_44) ?_
      refine go1 (M := mX11_layRow) (pc' := 47) (r_iadd (M := mX11_layRow) dX11_layRow_46) ?_
      refine go_ck (fun hi11 => ?_)
      refine go1 (M := mX11_layRow) (pc' := 48) (r_iald (M := mX11_layRow) hT10 hi11 dX11_layRow_47) ?_
      refine go_V_SI (M := mX11_layRow) (pc' := 51) (st := []) (As := [.int (x.1 b8 (p2 + p5).toNatClampNeg)]) rfl ln_11_87 lb_X6_layAtHatch (t_X6_layAtHatch (N := N) hW (by omega) hT6) (by omega) hT6 (Nat.le_of_ble_eq_true rfl) rfl dX11_layRow_48 (fun r12 => ?_)
      refine go_br (M := mX11_layRow) (pt := 57) (pf := 54) (fun kt kf => r_if_lt (M := mX11_layRow) dX11_layRow_51 (by decide) kt kf) (fun hc13 => ?_) (fun hc13 => ?_)
      · exact j_X11_layRow_57_t (N := N) hW (by omega) bk6 p0 p1 p2 p3 p4 p5 r12.2 g0 hbk6
      · refine go1 (M := mX11_layRow) (pc' := 57) (ls' := [some (.ref p0), some (.int p1), some (.int p2), some (.int p3), some (.int (p4 + 1)), some (.int p5)]) (r_iinc (M := mX11_layRow) (ls := [some (.ref p0), some (.int p1), some (.int p2), some (.int p3), some (.int p4), some (.int p5)]) (i := 4) (v := p4) (c' := 1) (by decide) rfl (by decide) rfl dX11_layRow_54) ?_
        exact j_X11_layRow_57_t (N := N) hW (by omega) bk6 p0 p1 p2 p3 (p4 + 1) p5 r12.2 g0 hbk6
def lp_X11_layRow_6 (N : Nat) (S : SH) (p0 : Nat) (p1 : Int32) (p2 : Int32) (p3 : Int32) (p4 : Int32) (p5 : Int32) (x : DY) : Option (Int32 × DY) :=
  itr (fun back (v : Int32 × Int32 × DY) => lp_X11_layRow_6_b N S (fun p4 p5 y => back (p4, p5, y)) p0 p1 p2 p3 v.1 v.2.1 v.2.2) N (p4, p5, x)
theorem lp_X11_layRow_6_t {N d : Nat} {S : SH} (hW : WT S) (hd : 6 ≤ d) (p0 : Nat) (p1 : Int32) (p2 : Int32) (p3 : Int32) (p4 : Int32) (p5 : Int32) (x : DY) (g0 : TY S p0 11) : Go mX11_layRow d S wSI 6 [some (.ref p0), some (.int p1), some (.int p2), some (.int p3), some (.int p4), some (.int p5)] [] x (lp_X11_layRow_6 N S p0 p1 p2 p3 p4 p5 x) := by
  unfold lp_X11_layRow_6
  exact go_itr (L := fun (v : Int32 × Int32 × DY) => [some (.ref p0), some (.int p1), some (.int p2), some (.int p3), some (.int v.1), some (.int v.2.1)]) (X := fun (v : Int32 × Int32 × DY) => v.2.2) (fun back hB v => lp_X11_layRow_6_b_t (N := N) hW hd (fun p4 p5 y => back (p4, p5, y)) p0 p1 p2 p3 v.1 v.2.1 v.2.2 g0 (fun p4 p5 y => hB (p4, p5, y)) ) N (p4, p5, x)
def f_X11_layRow (N : Nat) (S : SH) (a0 : Nat) (a1 : Int32) (a2 : Int32) (a3 : Int32) (x : DY) : Option (Int32 × DY) :=
  lp_X11_layRow_6 N S a0 a1 a2 a3 0 0 x
set_option maxHeartbeats 1000000 in
theorem t_X11_layRow {N d : Nat} {S : SH} (hW : WT S) {x : DY} {a0 : Nat} {a1 : Int32} {a2 : Int32} {a3 : Int32} (hd : 6 ≤ d) (h0 : TY S a0 11) : CT mX11_layRow d S [.ref a0, .int a1, .int a2, .int a3] x wSI (f_X11_layRow N S a0 a1 a2 a3 x) := by
  refine CT.of [some (.ref a0), some (.int a1), some (.int a2), some (.int a3), none, none] rfl (Nat.le_of_ble_eq_true rfl) (by decide +kernel) ?_
  unfold f_X11_layRow
  refine go1 (M := mX11_layRow) (pc' := 1) (r_iconst (M := mX11_layRow) (v := 0) (by decide) dX11_layRow_0) ?_
  refine go1 (M := mX11_layRow) (pc' := 3) (ls' := [some (.ref a0), some (.int a1), some (.int a2), some (.int a3), some (.int 0), none]) (r_istore (M := mX11_layRow) (ls := [some (.ref a0), some (.int a1), some (.int a2), some (.int a3), none, none]) (i := 4) (v := 0) (by decide) rfl dX11_layRow_1) ?_
  refine go1 (M := mX11_layRow) (pc' := 4) (r_iconst (M := mX11_layRow) (v := 0) (by decide) dX11_layRow_3) ?_
  refine go1 (M := mX11_layRow) (pc' := 6) (ls' := [some (.ref a0), some (.int a1), some (.int a2), some (.int a3), some (.int 0), some (.int 0)]) (r_istore (M := mX11_layRow) (ls := [some (.ref a0), some (.int a1), some (.int a2), some (.int a3), some (.int 0), none]) (i := 5) (v := 0) (by decide) rfl dX11_layRow_4) ?_
  refine lp_X11_layRow_6_t (N := N) hW (by omega) a0 a1 a2 a3 0 0 x h0
def f_X11_lays (N : Nat) (S : SH) (a0 : Nat) (a1 : Int32) (a2 : Int32) (a3 : Int32) (a4 : Int32) (x : DY) : Option (Int32 × DY) :=
  Option.bind (f_X9_isSheet N S a1 x) (fun r1 => (if r1 = 0 then some ((-2), x) else Option.bind (f_X9_isSort N S a2 x) (fun r3 => (if r3 = 0 then some ((-2), x) else Option.bind (f_X11_within N S a4 0 24 x) (fun r5 => (if r5 = 0 then some ((-2), x) else (if ((x.1 (pr S a0 5) 7) + a4) ≤ 9999 then ck S (pr S (pr S a0 4) 0) a1 ((if (x.1 (pr S (pr S a0 4) 0) a1.toNatClampNeg) = (-1) then some ((-11), x) else (if (x.1 (pr S (pr S a0 4) 0) a1.toNatClampNeg) = a2 then Option.bind (f_X11_layRow N S a0 a1 a3 a4 x) (fun r14 => some (r14.1, r14.2)) else some ((-13), x)))) else some ((-4), x))))))))
set_option maxHeartbeats 1000000 in
theorem t_X11_lays {N d : Nat} {S : SH} (hW : WT S) {x : DY} {a0 : Nat} {a1 : Int32} {a2 : Int32} {a3 : Int32} {a4 : Int32} (hd : 7 ≤ d) (h0 : TY S a0 11) : CT mX11_lays d S [.ref a0, .int a1, .int a2, .int a3, .int a4] x wSI (f_X11_lays N S a0 a1 a2 a3 a4 x) := by
  refine CT.of [some (.ref a0), some (.int a1), some (.int a2), some (.int a3), some (.int a4), none] rfl (Nat.le_of_ble_eq_true rfl) (by decide +kernel) ?_
  unfold f_X11_lays
  refine go1 (M := mX11_lays) (pc' := 1) (r_iload_n (M := mX11_lays) (i := 1) rfl dX11_lays_0) ?_
  refine go_S_PI (M := mX11_lays) (pc' := 4) (st := []) (As := [.int a1]) rfl ln_11_305 lb_X9_isSheet (t_X9_isSheet (N := N) hW (by omega) ) (by omega) (Nat.le_of_ble_eq_true rfl) rfl dX11_lays_1 (fun r1 => ?_)
  refine go_br (M := mX11_lays) (pt := 25) (pf := 7) (fun kt kf => r_if_eq (M := mX11_lays) dX11_lays_4 (by decide) kt kf) (fun hc2 => ?_) (fun hc2 => ?_)
  · refine go1 (M := mX11_lays) (pc' := 27) (r_bipush (M := mX11_lays) (v := (-2)) (by decide) dX11_lays_25) ?_
    exact go_iret (M := mX11_lays) rfl rfl dX11_lays_27
  · refine go1 (M := mX11_lays) (pc' := 8) (r_iload_n (M := mX11_lays) (i := 2) rfl dX11_lays_7) ?_
    refine go_S_PI (M := mX11_lays) (pc' := 11) (st := []) (As := [.int a2]) rfl ln_11_311 lb_X9_isSort (t_X9_isSort (N := N) hW (by omega) ) (by omega) (Nat.le_of_ble_eq_true rfl) rfl dX11_lays_8 (fun r3 => ?_)
    refine go_br (M := mX11_lays) (pt := 25) (pf := 14) (fun kt kf => r_if_eq (M := mX11_lays) dX11_lays_11 (by decide) kt kf) (fun hc4 => ?_) (fun hc4 => ?_)
    · refine go1 (M := mX11_lays) (pc' := 27) (r_bipush (M := mX11_lays) (v := (-2)) (by decide) dX11_lays_25) ?_
      exact go_iret (M := mX11_lays) rfl rfl dX11_lays_27
    · refine go1 (M := mX11_lays) (pc' := 16) (r_iload (M := mX11_lays) (i := 4) rfl dX11_lays_14) ?_
      refine go1 (M := mX11_lays) (pc' := 17) (r_iconst (M := mX11_lays) (v := 0) (by decide) dX11_lays_16) ?_
      refine go1 (M := mX11_lays) (pc' := 19) (r_bipush (M := mX11_lays) (v := 24) (by decide) dX11_lays_17) ?_
      refine go_S_PI (M := mX11_lays) (pc' := 22) (st := []) (As := [.int a4, .int 0, .int 24]) rfl ln_11_73 lb_X11_within (t_X11_within (N := N) hW (by omega) ) (by omega) (Nat.le_of_ble_eq_true rfl) rfl dX11_lays_19 (fun r5 => ?_)
      refine go_br (M := mX11_lays) (pt := 25) (pf := 28) (fun kt kf => r_if_ne (M := mX11_lays) dX11_lays_22 (by decide) kf kt) (fun hc6 => ?_) (fun hc6 => ?_)
      · refine go1 (M := mX11_lays) (pc' := 27) (r_bipush (M := mX11_lays) (v := (-2)) (by decide) dX11_lays_25) ?_
        exact go_iret (M := mX11_lays) rfl rfl dX11_lays_27
      · refine go1 (M := mX11_lays) (pc' := 29) (r_aload_n (M := mX11_lays) (i := 0) rfl dX11_lays_28) ?_
        refine go1 (M := mX11_lays) (pc' := 32) (r_getR (M := mX11_lays) fl_11_55 h0 rfl (wt_some hW h0 (by decide) (by decide) rfl) dX11_lays_29) ?_
        have hT7 : TY S (pr S a0 5) 6 := wt hW h0 (by decide) (by decide) rfl (by decide)
        refine go1 (M := mX11_lays) (pc' := 35) (r_getI (M := mX11_lays) fl_11_218 hT7 rfl dX11_lays_32) ?_
        refine go1 (M := mX11_lays) (pc' := 37) (r_iload (M := mX11_lays) (i := 4) rfl dX11_lays_35) ?_
        refine go1 (M := mX11_lays) (pc' := 38) (r_iadd (M := mX11_lays) dX11_lays_37) ?_
        refine go1 (M := mX11_lays) (pc' := 41) (r_sipush (M := mX11_lays) (v := 9999) (by decide) dX11_lays_38) ?_
        refine go_br (M := mX11_lays) (pt := 47) (pf := 44) (fun kt kf => r_icmp_le (M := mX11_lays) dX11_lays_41 (by decide) kt kf) (fun hc8 => ?_) (fun hc8 => ?_)
        · refine go1 (M := mX11_lays) (pc' := 48) (r_aload_n (M := mX11_lays) (i := 0) rfl dX11_lays_47) ?_
          refine go1 (M := mX11_lays) (pc' := 51) (r_getR (M := mX11_lays) fl_11_40 h0 rfl (wt_some hW h0 (by decide) (by decide) rfl) dX11_lays_48) ?_
          have hT9 : TY S (pr S a0 4) 9 := wt hW h0 (by decide) (by decide) rfl (by decide)
          refine go1 (M := mX11_lays) (pc' := 54) (r_getR (M := mX11_lays) fl_11_317 hT9 rfl (wt_some hW hT9 (by decide) (by decide) rfl) dX11_lays_51) ?_
          have hT10 : TY S (pr S (pr S a0 4) 0) 14 := wt hW hT9 (by decide) (by decide) rfl (by decide)
          refine go1 (M := mX11_lays) (pc' := 55) (r_iload_n (M := mX11_lays) (i := 1) rfl dX11_lays_54) ?_
          refine go_ck (fun hi11 => ?_)
          refine go1 (M := mX11_lays) (pc' := 56) (r_iald (M := mX11_lays) hT10 hi11 dX11_lays_55) ?_
          refine go1 (M := mX11_lays) (pc' := 58) (ls' := [some (.ref a0), some (.int a1), some (.int a2), some (.int a3), some (.int a4), some (.int (x.1 (pr S (pr S a0 4) 0) a1.toNatClampNeg))]) (r_istore (M := mX11_lays) (ls := [some (.ref a0), some (.int a1), some (.int a2), some (.int a3), some (.int a4), none]) (i := 5) (v := (x.1 (pr S (pr S a0 4) 0) a1.toNatClampNeg)) (by decide) rfl dX11_lays_56) ?_
          refine go1 (M := mX11_lays) (pc' := 60) (r_iload (M := mX11_lays) (i := 5) rfl dX11_lays_58) ?_
          refine go1 (M := mX11_lays) (pc' := 61) (r_iconst (M := mX11_lays) (v := (-1)) (by decide) dX11_lays_60) ?_
          refine go_br (M := mX11_lays) (pt := 64) (pf := 67) (fun kt kf => r_icmp_ne (M := mX11_lays) dX11_lays_61 (by decide) kf kt) (fun hc12 => ?_) (fun hc12 => ?_)
          · refine go1 (M := mX11_lays) (pc' := 66) (r_bipush (M := mX11_lays) (v := (-11)) (by decide) dX11_lays_64) ?_
            exact go_iret (M := mX11_lays) rfl rfl dX11_lays_66
          · refine go1 (M := mX11_lays) (pc' := 69) (r_iload (M := mX11_lays) (i := 5) rfl dX11_lays_67) ?_
            refine go1 (M := mX11_lays) (pc' := 70) (r_iload_n (M := mX11_lays) (i := 2) rfl dX11_lays_69) ?_
            refine go_br (M := mX11_lays) (pt := 73) (pf := 84) (fun kt kf => r_icmp_ne (M := mX11_lays) dX11_lays_70 (by decide) kf kt) (fun hc13 => ?_) (fun hc13 => ?_)
            · refine go1 (M := mX11_lays) (pc' := 74) (r_aload_n (M := mX11_lays) (i := 0) rfl dX11_lays_73) ?_
              refine go1 (M := mX11_lays) (pc' := 75) (r_iload_n (M := mX11_lays) (i := 1) rfl dX11_lays_74) ?_
              refine go1 (M := mX11_lays) (pc' := 76) (r_iload_n (M := mX11_lays) (i := 3) rfl dX11_lays_75) ?_
              refine go1 (M := mX11_lays) (pc' := 78) (r_iload (M := mX11_lays) (i := 4) rfl dX11_lays_76) ?_
              refine go_V_SI (M := mX11_lays) (pc' := 81) (st := []) (As := [.int a1, .int a3, .int a4]) rfl ln_11_326 lb_X11_layRow (t_X11_layRow (N := N) hW (by omega) h0) (by omega) h0 (Nat.le_of_ble_eq_true rfl) rfl dX11_lays_78 (fun r14 => ?_)
              refine go1 (M := mX11_lays) (pc' := 86) (r_goto (M := mX11_lays) dX11_lays_81 (by decide)) ?_
              exact go_iret (M := mX11_lays) rfl rfl dX11_lays_86
            · refine go1 (M := mX11_lays) (pc' := 86) (r_bipush (M := mX11_lays) (v := (-13)) (by decide) dX11_lays_84) ?_
              exact go_iret (M := mX11_lays) rfl rfl dX11_lays_86
        · refine go1 (M := mX11_lays) (pc' := 46) (r_bipush (M := mX11_lays) (v := (-4)) (by decide) dX11_lays_44) ?_
          exact go_iret (M := mX11_lays) rfl rfl dX11_lays_46
def f_X11_taken (N : Nat) (S : SH) (a0 : Nat) (a1 : Int32) (a2 : Int32) (x : DY) : Option Int32 :=
  Option.bind (f_X8_isKind N S a2 x) (fun r1 => (if r1 = 0 then some (-2) else Option.bind (f_X8_isTaken N S (pr S (pr S a0 5) 4) a1 x) (fun r5 => (if r5 = 0 then some (-11) else ck S (pr S (pr S (pr S a0 5) 4) 1) a1 (Option.bind (f_X8_isUnder N S (x.1 (pr S (pr S (pr S a0 5) 4) 1) a1.toNatClampNeg) a2 x) (fun r9 => (if r9 = 0 then some (-13) else ck S (pr S (pr S (pr S a0 5) 4) 3) a1 (some (x.1 (pr S (pr S (pr S a0 5) 4) 3) a1.toNatClampNeg)))))))))
set_option maxHeartbeats 1000000 in
theorem t_X11_taken {N d : Nat} {S : SH} (hW : WT S) {x : DY} {a0 : Nat} {a1 : Int32} {a2 : Int32} (hd : 3 ≤ d) (h0 : TY S a0 11) : CT mX11_taken d S [.ref a0, .int a1, .int a2] x (wPI x) (f_X11_taken N S a0 a1 a2 x) := by
  refine CT.of [some (.ref a0), some (.int a1), some (.int a2), none] rfl (Nat.le_of_ble_eq_true rfl) (by decide +kernel) ?_
  unfold f_X11_taken
  refine go1 (M := mX11_taken) (pc' := 1) (r_iload_n (M := mX11_taken) (i := 2) rfl dX11_taken_0) ?_
  refine go_S_PI (M := mX11_taken) (pc' := 4) (st := []) (As := [.int a2]) rfl ln_11_136 lb_X8_isKind (t_X8_isKind (N := N) hW (by omega) ) (by omega) (Nat.le_of_ble_eq_true rfl) rfl dX11_taken_1 (fun r1 => ?_)
  refine go_br (M := mX11_taken) (pt := 7) (pf := 10) (fun kt kf => r_if_ne (M := mX11_taken) dX11_taken_4 (by decide) kf kt) (fun hc2 => ?_) (fun hc2 => ?_)
  · refine go1 (M := mX11_taken) (pc' := 9) (r_bipush (M := mX11_taken) (v := (-2)) (by decide) dX11_taken_7) ?_
    exact go_iret (M := mX11_taken) rfl rfl dX11_taken_9
  · refine go1 (M := mX11_taken) (pc' := 11) (r_aload_n (M := mX11_taken) (i := 0) rfl dX11_taken_10) ?_
    refine go1 (M := mX11_taken) (pc' := 14) (r_getR (M := mX11_taken) fl_11_55 h0 rfl (wt_some hW h0 (by decide) (by decide) rfl) dX11_taken_11) ?_
    have hT3 : TY S (pr S a0 5) 6 := wt hW h0 (by decide) (by decide) rfl (by decide)
    refine go1 (M := mX11_taken) (pc' := 17) (r_getR (M := mX11_taken) fl_11_123 hT3 rfl (wt_some hW hT3 (by decide) (by decide) rfl) dX11_taken_14) ?_
    have hT4 : TY S (pr S (pr S a0 5) 4) 8 := wt hW hT3 (by decide) (by decide) rfl (by decide)
    refine go1 (M := mX11_taken) (pc' := 18) (ls' := [some (.ref a0), some (.int a1), some (.int a2), some (.ref (pr S (pr S a0 5) 4))]) (r_astore_n (M := mX11_taken) (ls := [some (.ref a0), some (.int a1), some (.int a2), none]) (i := 3) (v := (pr S (pr S a0 5) 4)) (by decide) rfl dX11_taken_17) ?_
    refine go1 (M := mX11_taken) (pc' := 19) (r_aload_n (M := mX11_taken) (i := 3) rfl dX11_taken_18) ?_
    refine go1 (M := mX11_taken) (pc' := 20) (r_iload_n (M := mX11_taken) (i := 1) rfl dX11_taken_19) ?_
    refine go_V_PI (M := mX11_taken) (pc' := 23) (st := []) (As := [.int a1]) rfl ln_11_140 lb_X8_isTaken (t_X8_isTaken (N := N) hW (by omega) hT4) (by omega) hT4 (Nat.le_of_ble_eq_true rfl) rfl dX11_taken_20 (fun r5 => ?_)
    refine go_br (M := mX11_taken) (pt := 26) (pf := 29) (fun kt kf => r_if_ne (M := mX11_taken) dX11_taken_23 (by decide) kf kt) (fun hc6 => ?_) (fun hc6 => ?_)
    · refine go1 (M := mX11_taken) (pc' := 28) (r_bipush (M := mX11_taken) (v := (-11)) (by decide) dX11_taken_26) ?_
      exact go_iret (M := mX11_taken) rfl rfl dX11_taken_28
    · refine go1 (M := mX11_taken) (pc' := 30) (r_aload_n (M := mX11_taken) (i := 3) rfl dX11_taken_29) ?_
      refine go1 (M := mX11_taken) (pc' := 33) (r_getR (M := mX11_taken) fl_11_162 hT4 rfl (wt_some hW hT4 (by decide) (by decide) rfl) dX11_taken_30) ?_
      have hT7 : TY S (pr S (pr S (pr S a0 5) 4) 1) 14 := wt hW hT4 (by decide) (by decide) rfl (by decide)
      refine go1 (M := mX11_taken) (pc' := 34) (r_iload_n (M := mX11_taken) (i := 1) rfl dX11_taken_33) ?_
      refine go_ck (fun hi8 => ?_)
      refine go1 (M := mX11_taken) (pc' := 35) (r_iald (M := mX11_taken) hT7 hi8 dX11_taken_34) ?_
      refine go1 (M := mX11_taken) (pc' := 36) (r_iload_n (M := mX11_taken) (i := 2) rfl dX11_taken_35) ?_
      refine go_S_PI (M := mX11_taken) (pc' := 39) (st := []) (As := [.int (x.1 (pr S (pr S (pr S a0 5) 4) 1) a1.toNatClampNeg), .int a2]) rfl ln_11_334 lb_X8_isUnder (t_X8_isUnder (N := N) hW (by omega) ) (by omega) (Nat.le_of_ble_eq_true rfl) rfl dX11_taken_36 (fun r9 => ?_)
      refine go_br (M := mX11_taken) (pt := 51) (pf := 42) (fun kt kf => r_if_eq (M := mX11_taken) dX11_taken_39 (by decide) kt kf) (fun hc10 => ?_) (fun hc10 => ?_)
      · refine go1 (M := mX11_taken) (pc' := 53) (r_bipush (M := mX11_taken) (v := (-13)) (by decide) dX11_taken_51) ?_
        exact go_iret (M := mX11_taken) rfl rfl dX11_taken_53
      · refine go1 (M := mX11_taken) (pc' := 43) (r_aload_n (M := mX11_taken) (i := 3) rfl dX11_taken_42) ?_
        refine go1 (M := mX11_taken) (pc' := 46) (r_getR (M := mX11_taken) fl_11_165 hT4 rfl (wt_some hW hT4 (by decide) (by decide) rfl) dX11_taken_43) ?_
        have hT11 : TY S (pr S (pr S (pr S a0 5) 4) 3) 14 := wt hW hT4 (by decide) (by decide) rfl (by decide)
        refine go1 (M := mX11_taken) (pc' := 47) (r_iload_n (M := mX11_taken) (i := 1) rfl dX11_taken_46) ?_
        refine go_ck (fun hi12 => ?_)
        refine go1 (M := mX11_taken) (pc' := 48) (r_iald (M := mX11_taken) hT11 hi12 dX11_taken_47) ?_
        refine go1 (M := mX11_taken) (pc' := 53) (r_goto (M := mX11_taken) dX11_taken_48 (by decide)) ?_
        exact go_iret (M := mX11_taken) rfl rfl dX11_taken_53
def f_J9_floorMod_7cf53 (N : Nat) (S : SH) (a0 : Int32) (a1 : Int32) (x : DY) : Option Int32 :=
  dv a1 ((if 0 ≤ (a0 ^^^ a1) then some (a0 - a0 / a1 * a1) else (if (a0 - a0 / a1 * a1) = 0 then some (a0 - a0 / a1 * a1) else some ((a0 - a0 / a1 * a1) + a1))))
set_option maxHeartbeats 1000000 in
theorem t_J9_floorMod_7cf53 {N d : Nat} {S : SH} {x : DY} {a0 : Int32} {a1 : Int32} (hd : 1 ≤ d) : CT mJ9_floorMod_7cf53 d S [.int a0, .int a1] x (wPI x) (f_J9_floorMod_7cf53 N S a0 a1 x) := by
  refine CT.of [some (.int a0), some (.int a1), none] rfl (Nat.le_of_ble_eq_true rfl) (by decide +kernel) ?_
  unfold f_J9_floorMod_7cf53
  refine go1 (M := mJ9_floorMod_7cf53) (pc' := 1) (r_iload_n (M := mJ9_floorMod_7cf53) (i := 0) rfl dJ9_floorMod_7cf53_0) ?_
  refine go1 (M := mJ9_floorMod_7cf53) (pc' := 2) (r_iload_n (M := mJ9_floorMod_7cf53) (i := 1) rfl dJ9_floorMod_7cf53_1) ?_
  refine go_dv (fun hz1 => ?_)
  refine go1 (M := mJ9_floorMod_7cf53) (pc' := 3) (r_irem (M := mJ9_floorMod_7cf53) hz1 dJ9_floorMod_7cf53_2) ?_
  refine go1 (M := mJ9_floorMod_7cf53) (pc' := 4) (ls' := [some (.int a0), some (.int a1), some (.int (a0 - a0 / a1 * a1))]) (r_istore_n (M := mJ9_floorMod_7cf53) (ls := [some (.int a0), some (.int a1), none]) (i := 2) (v := (a0 - a0 / a1 * a1)) (by decide) rfl dJ9_floorMod_7cf53_3) ?_
  refine go1 (M := mJ9_floorMod_7cf53) (pc' := 5) (r_iload_n (M := mJ9_floorMod_7cf53) (i := 0) rfl dJ9_floorMod_7cf53_4) ?_
  refine go1 (M := mJ9_floorMod_7cf53) (pc' := 6) (r_iload_n (M := mJ9_floorMod_7cf53) (i := 1) rfl dJ9_floorMod_7cf53_5) ?_
  refine go1 (M := mJ9_floorMod_7cf53) (pc' := 7) (r_ixor (M := mJ9_floorMod_7cf53) dJ9_floorMod_7cf53_6) ?_
  refine go_br (M := mJ9_floorMod_7cf53) (pt := 18) (pf := 10) (fun kt kf => r_if_ge (M := mJ9_floorMod_7cf53) dJ9_floorMod_7cf53_7 (by decide) kt kf) (fun hc2 => ?_) (fun hc2 => ?_)
  · refine go1 (M := mJ9_floorMod_7cf53) (pc' := 19) (r_iload_n (M := mJ9_floorMod_7cf53) (i := 2) rfl dJ9_floorMod_7cf53_18) ?_
    exact go_iret (M := mJ9_floorMod_7cf53) rfl rfl dJ9_floorMod_7cf53_19
  · refine go1 (M := mJ9_floorMod_7cf53) (pc' := 11) (r_iload_n (M := mJ9_floorMod_7cf53) (i := 2) rfl dJ9_floorMod_7cf53_10) ?_
    refine go_br (M := mJ9_floorMod_7cf53) (pt := 18) (pf := 14) (fun kt kf => r_if_eq (M := mJ9_floorMod_7cf53) dJ9_floorMod_7cf53_11 (by decide) kt kf) (fun hc3 => ?_) (fun hc3 => ?_)
    · refine go1 (M := mJ9_floorMod_7cf53) (pc' := 19) (r_iload_n (M := mJ9_floorMod_7cf53) (i := 2) rfl dJ9_floorMod_7cf53_18) ?_
      exact go_iret (M := mJ9_floorMod_7cf53) rfl rfl dJ9_floorMod_7cf53_19
    · refine go1 (M := mJ9_floorMod_7cf53) (pc' := 15) (r_iload_n (M := mJ9_floorMod_7cf53) (i := 2) rfl dJ9_floorMod_7cf53_14) ?_
      refine go1 (M := mJ9_floorMod_7cf53) (pc' := 16) (r_iload_n (M := mJ9_floorMod_7cf53) (i := 1) rfl dJ9_floorMod_7cf53_15) ?_
      refine go1 (M := mJ9_floorMod_7cf53) (pc' := 17) (r_iadd (M := mJ9_floorMod_7cf53) dJ9_floorMod_7cf53_16) ?_
      exact go_iret (M := mJ9_floorMod_7cf53) rfl rfl dJ9_floorMod_7cf53_17
def f_J9_max_7cf53 (N : Nat) (S : SH) (a0 : Int32) (a1 : Int32) (x : DY) : Option Int32 :=
  (if a0 < a1 then some a1 else some a0)
set_option maxHeartbeats 1000000 in
theorem t_J9_max_7cf53 {N d : Nat} {S : SH} {x : DY} {a0 : Int32} {a1 : Int32} (hd : 1 ≤ d) : CT mJ9_max_7cf53 d S [.int a0, .int a1] x (wPI x) (f_J9_max_7cf53 N S a0 a1 x) := by
  refine CT.of [some (.int a0), some (.int a1)] rfl (Nat.le_of_ble_eq_true rfl) (by decide +kernel) ?_
  unfold f_J9_max_7cf53
  refine go1 (M := mJ9_max_7cf53) (pc' := 1) (r_iload_n (M := mJ9_max_7cf53) (i := 0) rfl dJ9_max_7cf53_0) ?_
  refine go1 (M := mJ9_max_7cf53) (pc' := 2) (r_iload_n (M := mJ9_max_7cf53) (i := 1) rfl dJ9_max_7cf53_1) ?_
  refine go_br (M := mJ9_max_7cf53) (pt := 9) (pf := 5) (fun kt kf => r_icmp_lt (M := mJ9_max_7cf53) dJ9_max_7cf53_2 (by decide) kt kf) (fun hc1 => ?_) (fun hc1 => ?_)
  · refine go1 (M := mJ9_max_7cf53) (pc' := 10) (r_iload_n (M := mJ9_max_7cf53) (i := 1) rfl dJ9_max_7cf53_9) ?_
    exact go_iret (M := mJ9_max_7cf53) rfl rfl dJ9_max_7cf53_10
  · refine go1 (M := mJ9_max_7cf53) (pc' := 6) (r_iload_n (M := mJ9_max_7cf53) (i := 0) rfl dJ9_max_7cf53_5) ?_
    refine go1 (M := mJ9_max_7cf53) (pc' := 10) (r_goto (M := mJ9_max_7cf53) dJ9_max_7cf53_6 (by decide)) ?_
    exact go_iret (M := mJ9_max_7cf53) rfl rfl dJ9_max_7cf53_10
