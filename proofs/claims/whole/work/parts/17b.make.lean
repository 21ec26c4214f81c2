/-! MIRRORS that make cells, by program -/
set_option maxRecDepth 100000 in
def fA_X12_ruleZero (N : Nat) (S : SH) (a0 : Nat) (x : DY) : Option (SH × DY) :=
  tk S a0 12 (rfk (S.2.2.2 a0 31) (fun b2 => tk S b2 14 (ck S b2 0 (bl (U1 x b2 (0 : Int32).toNatClampNeg 5) (fun x6 => tk S a0 12 (rfk (S.2.2.2 a0 32) (fun b8 => tk S b8 14 (ck S b8 0 (bl (U1 x6 b8 (0 : Int32).toNatClampNeg 4) (fun x12 => tk S a0 12 (rfk (S.2.2.2 a0 32) (fun b14 => tk S b14 14 (ck S b14 1 (bl (U1 x12 b14 (1 : Int32).toNatClampNeg 10000) (fun x18 => tk S a0 12 (rfk (S.2.2.2 a0 32) (fun b20 => tk S b20 14 (ck S b20 2 (bl (U1 x18 b20 (2 : Int32).toNatClampNeg 10002) (fun x24 => tk S a0 12 (rfk (S.2.2.2 a0 32) (fun b26 => tk S b26 14 (ck S b26 3 (bl (U1 x24 b26 (3 : Int32).toNatClampNeg (-6)) (fun x30 => tk S a0 12 (rfk (S.2.2.2 a0 32) (fun b32 => tk S b32 14 (ck S b32 4 (bl (U1 x30 b32 (4 : Int32).toNatClampNeg (-4)) (fun x36 => tk S a0 12 (rfk (S.2.2.2 a0 31) (fun b38 => tk S b38 14 (ck S b38 1 (bl (U1 x36 b38 (1 : Int32).toNatClampNeg 3) (fun x42 => tk S a0 12 (rfk (S.2.2.2 a0 32) (fun b44 => tk S b44 14 (ck S b44 160 (bl (U1 x42 b44 (160 : Int32).toNatClampNeg 10005) (fun x48 => tk S a0 12 (rfk (S.2.2.2 a0 32) (fun b50 => tk S b50 14 (ck S b50 161 (bl (U1 x48 b50 (161 : Int32).toNatClampNeg 10003) (fun x54 => tk S a0 12 (rfk (S.2.2.2 a0 32) (fun b56 => tk S b56 14 (ck S b56 162 (bl (U1 x54 b56 (162 : Int32).toNatClampNeg (-5)) (fun x60 => some (S, x60)))))))))))))))))))))))))))))))))))))))))))))))))))
set_option maxHeartbeats 20000000 in
set_option maxRecDepth 100000 in
theorem tA_X12_ruleZero {N d : Nat} {S : SH} {x : DY} {a0 : Nat} (hd : 1 ≤ d) : CA mX12_ruleZero d S [.ref a0] x 0 0 wAV (fA_X12_ruleZero N S a0 x) := by
  refine CA.of [some (.ref a0)] rfl (Nat.le_of_ble_eq_true rfl) (by decide +kernel) ?_
  unfold fA_X12_ruleZero
  refine ga1 (M := mX12_ruleZero) (pc' := 1) (k' := 0) (n' := 0) (r_aload_n (M := mX12_ruleZero) (i := 0) rfl dX12_ruleZero_0) ?_
  refine ga_tk (fun h1 => ?_)
  refine ga_rfk (fun b2 hb3 => ?_)
  refine ga1 (M := mX12_ruleZero) (pc' := 4) (k' := 0) (n' := 0) (r_getR (M := mX12_ruleZero) fl_12_103 h1 rfl hb3 dX12_ruleZero_1) ?_
  refine ga1 (M := mX12_ruleZero) (pc' := 5) (k' := 0) (n' := 0) (r_iconst (M := mX12_ruleZero) (v := 0) (by decide) dX12_ruleZero_4) ?_
  refine ga1 (M := mX12_ruleZero) (pc' := 6) (k' := 0) (n' := 0) (r_iconst (M := mX12_ruleZero) (v := 5) (by decide) dX12_ruleZero_5) ?_
  refine ga_tk (fun h4 => ?_)
  refine ga_ck (fun hi5 => ?_)
  refine ga1 (M := mX12_ruleZero) (pc' := 7) (k' := 0) (n' := 0) (r_iast (M := mX12_ruleZero) h4 hi5 dX12_ruleZero_6) ?_
  refine ga_blx (fun x6 => ?_)
  refine ga1 (M := mX12_ruleZero) (pc' := 8) (k' := 0) (n' := 0) (r_aload_n (M := mX12_ruleZero) (i := 0) rfl dX12_ruleZero_7) ?_
  refine ga_tk (fun h7 => ?_)
  refine ga_rfk (fun b8 hb9 => ?_)
  refine ga1 (M := mX12_ruleZero) (pc' := 11) (k' := 0) (n' := 0) (r_getR (M := mX12_ruleZero) fl_12_106 h7 rfl hb9 dX12_ruleZero_8) ?_
  refine ga1 (M := mX12_ruleZero) (pc' := 12) (k' := 0) (n' := 0) (r_iconst (M := mX12_ruleZero) (v := 0) (by decide) dX12_ruleZero_11) ?_
  refine ga1 (M := mX12_ruleZero) (pc' := 13) (k' := 0) (n' := 0) (r_iconst (M := mX12_ruleZero) (v := 4) (by decide) dX12_ruleZero_12) ?_
  refine ga_tk (fun h10 => ?_)
  refine ga_ck (fun hi11 => ?_)
  refine ga1 (M := mX12_ruleZero) (pc' := 14) (k' := 0) (n' := 0) (r_iast (M := mX12_ruleZero) h10 hi11 dX12_ruleZero_13) ?_
  refine ga_blx (fun x12 => ?_)
  refine ga1 (M := mX12_ruleZero) (pc' := 15) (k' := 0) (n' := 0) (r_aload_n (M := mX12_ruleZero) (i := 0) rfl dX12_ruleZero_14) ?_
  refine ga_tk (fun h13 => ?_)
  refine ga_rfk (fun b14 hb15 => ?_)
  refine ga1 (M := mX12_ruleZero) (pc' := 18) (k' := 0) (n' := 0) (r_getR (M := mX12_ruleZero) fl_12_106 h13 rfl hb15 dX12_ruleZero_15) ?_
  refine ga1 (M := mX12_ruleZero) (pc' := 19) (k' := 0) (n' := 0) (r_iconst (M := mX12_ruleZero) (v := 1) (by decide) dX12_ruleZero_18) ?_
  refine ga1 (M := mX12_ruleZero) (pc' := 22) (k' := 0) (n' := 0) (r_sipush (M := mX12_ruleZero) (v := 10000) (by decide) dX12_ruleZero_19) ?_
  refine ga_tk (fun h16 => ?_)
  refine ga_ck (fun hi17 => ?_)
  refine ga1 (M := mX12_ruleZero) (pc' := 23) (k' := 0) (n' := 0) (r_iast (M := mX12_ruleZero) h16 hi17 dX12_ruleZero_22) ?_
  refine ga_blx (fun x18 => ?_)
  refine ga1 (M := mX12_ruleZero) (pc' := 24) (k' := 0) (n' := 0) (r_aload_n (M := mX12_ruleZero) (i := 0) rfl dX12_ruleZero_23) ?_
  refine ga_tk (fun h19 => ?_)
  refine ga_rfk (fun b20 hb21 => ?_)
  refine ga1 (M := mX12_ruleZero) (pc' := 27) (k' := 0) (n' := 0) (r_getR (M := mX12_ruleZero) fl_12_106 h19 rfl hb21 dX12_ruleZero_24) ?_
  refine ga1 (M := mX12_ruleZero) (pc' := 28) (k' := 0) (n' := 0) (r_iconst (M := mX12_ruleZero) (v := 2) (by decide) dX12_ruleZero_27) ?_
  refine ga1 (M := mX12_ruleZero) (pc' := 31) (k' := 0) (n' := 0) (r_sipush (M := mX12_ruleZero) (v := 10002) (by decide) dX12_ruleZero_28) ?_
  refine ga_tk (fun h22 => ?_)
  refine ga_ck (fun hi23 => ?_)
  refine ga1 (M := mX12_ruleZero) (pc' := 32) (k' := 0) (n' := 0) (r_iast (M := mX12_ruleZero) h22 hi23 dX12_ruleZero_31) ?_
  refine ga_blx (fun x24 => ?_)
  refine ga1 (M := mX12_ruleZero) (pc' := 33) (k' := 0) (n' := 0) (r_aload_n (M := mX12_ruleZero) (i := 0) rfl dX12_ruleZero_32) ?_
  refine ga_tk (fun h25 => ?_)
  refine ga_rfk (fun b26 hb27 => ?_)
  refine ga1 (M := mX12_ruleZero) (pc' := 36) (k' := 0) (n' := 0) (r_getR (M := mX12_ruleZero) fl_12_106 h25 rfl hb27 dX12_ruleZero_33) ?_
  refine ga1 (M := mX12_ruleZero) (pc' := 37) (k' := 0) (n' := 0) (r_iconst (M := mX12_ruleZero) (v := 3) (by decide) dX12_ruleZero_36) ?_
  refine ga1 (M := mX12_ruleZero) (pc' := 39) (k' := 0) (n' := 0) (r_bipush (M := mX12_ruleZero) (v := (-6)) (by decide) dX12_ruleZero_37) ?_
  refine ga_tk (fun h28 => ?_)
  refine ga_ck (fun hi29 => ?_)
  refine ga1 (M := mX12_ruleZero) (pc' := 40) (k' := 0) (n' := 0) (r_iast (M := mX12_ruleZero) h28 hi29 dX12_ruleZero_39) ?_
  refine ga_blx (fun x30 => ?_)
  refine ga1 (M := mX12_ruleZero) (pc' := 41) (k' := 0) (n' := 0) (r_aload_n (M := mX12_ruleZero) (i := 0) rfl dX12_ruleZero_40) ?_
  refine ga_tk (fun h31 => ?_)
  refine ga_rfk (fun b32 hb33 => ?_)
  refine ga1 (M := mX12_ruleZero) (pc' := 44) (k' := 0) (n' := 0) (r_getR (M := mX12_ruleZero) fl_12_106 h31 rfl hb33 dX12_ruleZero_41) ?_
  refine ga1 (M := mX12_ruleZero) (pc' := 45) (k' := 0) (n' := 0) (r_iconst (M := mX12_ruleZero) (v := 4) (by decide) dX12_ruleZero_44) ?_
  refine ga1 (M := mX12_ruleZero) (pc' := 47) (k' := 0) (n' := 0) (r_bipush (M := mX12_ruleZero) (v := (-4)) (by decide) dX12_ruleZero_45) ?_
  refine ga_tk (fun h34 => ?_)
  refine ga_ck (fun hi35 => ?_)
  refine ga1 (M := mX12_ruleZero) (pc' := 48) (k' := 0) (n' := 0) (r_iast (M := mX12_ruleZero) h34 hi35 dX12_ruleZero_47) ?_
  refine ga_blx (fun x36 => ?_)
  refine ga1 (M := mX12_ruleZero) (pc' := 49) (k' := 0) (n' := 0) (r_aload_n (M := mX12_ruleZero) (i := 0) rfl dX12_ruleZero_48) ?_
  refine ga_tk (fun h37 => ?_)
  refine ga_rfk (fun b38 hb39 => ?_)
  refine ga1 (M := mX12_ruleZero) (pc' := 52) (k' := 0) (n' := 0) (r_getR (M := mX12_ruleZero) fl_12_103 h37 rfl hb39 dX12_ruleZero_49) ?_
  refine ga1 (M := mX12_ruleZero) (pc' := 53) (k' := 0) (n' := 0) (r_iconst (M := mX12_ruleZero) (v := 1) (by decide) dX12_ruleZero_52) ?_
  refine ga1 (M := mX12_ruleZero) (pc' := 54) (k' := 0) (n' := 0) (r_iconst (M := mX12_ruleZero) (v := 3) (by decide) dX12_ruleZero_53) ?_
  refine ga_tk (fun h40 => ?_)
  refine ga_ck (fun hi41 => ?_)
  refine ga1 (M := mX12_ruleZero) (pc' := 55) (k' := 0) (n' := 0) (r_iast (M := mX12_ruleZero) h40 hi41 dX12_ruleZero_54) ?_
  refine ga_blx (fun x42 => ?_)
  refine ga1 (M := mX12_ruleZero) (pc' := 56) (k' := 0) (n' := 0) (r_aload_n (M := mX12_ruleZero) (i := 0) rfl dX12_ruleZero_55) ?_
  refine ga_tk (fun h43 => ?_)
  refine ga_rfk (fun b44 hb45 => ?_)
  refine ga1 (M := mX12_ruleZero) (pc' := 59) (k' := 0) (n' := 0) (r_getR (M := mX12_ruleZero) fl_12_106 h43 rfl hb45 dX12_ruleZero_56) ?_
  refine ga1 (M := mX12_ruleZero) (pc' := 62) (k' := 0) (n' := 0) (r_sipush (M := mX12_ruleZero) (v := 160) (by decide) dX12_ruleZero_59) ?_
  refine ga1 (M := mX12_ruleZero) (pc' := 65) (k' := 0) (n' := 0) (r_sipush (M := mX12_ruleZero) (v := 10005) (by decide) dX12_ruleZero_62) ?_
  refine ga_tk (fun h46 => ?_)
  refine ga_ck (fun hi47 => ?_)
  refine ga1 (M := mX12_ruleZero) (pc' := 66) (k' := 0) (n' := 0) (r_iast (M := mX12_ruleZero) h46 hi47 dX12_ruleZero_65) ?_
  refine ga_blx (fun x48 => ?_)
  refine ga1 (M := mX12_ruleZero) (pc' := 67) (k' := 0) (n' := 0) (r_aload_n (M := mX12_ruleZero) (i := 0) rfl dX12_ruleZero_66) ?_
  refine ga_tk (fun h49 => ?_)
  refine ga_rfk (fun b50 hb51 => ?_)
  refine ga1 (M := mX12_ruleZero) (pc' := 70) (k' := 0) (n' := 0) (r_getR (M := mX12_ruleZero) fl_12_106 h49 rfl hb51 dX12_ruleZero_67) ?_
  refine ga1 (M := mX12_ruleZero) (pc' := 73) (k' := 0) (n' := 0) (r_sipush (M := mX12_ruleZero) (v := 161) (by decide) dX12_ruleZero_70) ?_
  refine ga1 (M := mX12_ruleZero) (pc' := 76) (k' := 0) (n' := 0) (r_sipush (M := mX12_ruleZero) (v := 10003) (by decide) dX12_ruleZero_73) ?_
  refine ga_tk (fun h52 => ?_)
  refine ga_ck (fun hi53 => ?_)
  refine ga1 (M := mX12_ruleZero) (pc' := 77) (k' := 0) (n' := 0) (r_iast (M := mX12_ruleZero) h52 hi53 dX12_ruleZero_76) ?_
  refine ga_blx (fun x54 => ?_)
  refine ga1 (M := mX12_ruleZero) (pc' := 78) (k' := 0) (n' := 0) (r_aload_n (M := mX12_ruleZero) (i := 0) rfl dX12_ruleZero_77) ?_
  refine ga_tk (fun h55 => ?_)
  refine ga_rfk (fun b56 hb57 => ?_)
  refine ga1 (M := mX12_ruleZero) (pc' := 81) (k' := 0) (n' := 0) (r_getR (M := mX12_ruleZero) fl_12_106 h55 rfl hb57 dX12_ruleZero_78) ?_
  refine ga1 (M := mX12_ruleZero) (pc' := 84) (k' := 0) (n' := 0) (r_sipush (M := mX12_ruleZero) (v := 162) (by decide) dX12_ruleZero_81) ?_
  refine ga1 (M := mX12_ruleZero) (pc' := 86) (k' := 0) (n' := 0) (r_bipush (M := mX12_ruleZero) (v := (-5)) (by decide) dX12_ruleZero_84) ?_
  refine ga_tk (fun h58 => ?_)
  refine ga_ck (fun hi59 => ?_)
  refine ga1 (M := mX12_ruleZero) (pc' := 87) (k' := 0) (n' := 0) (r_iast (M := mX12_ruleZero) h58 hi59 dX12_ruleZero_86) ?_
  refine ga_blx (fun x60 => ?_)
  exact ga_vret (M := mX12_ruleZero) rfl rfl dX12_ruleZero_87
set_option maxRecDepth 100000 in
def fA_X12_init (N : Nat) (S : SH) (a0 : Nat) (a1 : Int32) (x : DY) : Option (SH × DY) :=
  tk S a0 12 (bl (U1 x a0 1 0) (fun x2 => tk S a0 12 (bl (U1 x2 a0 2 0) (fun x4 => tk S a0 12 (bl (U1 x4 a0 3 0) (fun x6 => tk S a0 12 (bl (U1 x6 a0 4 50) (fun x8 => fk S [some (.ref a0), some (.int a1), none] [.ref a0] (nk 6 6 (bl S.1 (fun b12 => bl (SN S 14 (6 : Int32).toNatClampNeg) (fun S13 => bl (XN x8 S.1) (fun x14 => tk S13 a0 12 (lk S13 b12 (bl (UP S13 a0 5 (some b12)) (fun S17 => bl x14 (fun x18 => fk S17 [some (.ref a0), some (.int a1), none] [.ref a0] (nk 6 6 (bl S17.1 (fun b22 => bl (SN S17 14 (6 : Int32).toNatClampNeg) (fun S23 => bl (XN x18 S17.1) (fun x24 => tk S23 a0 12 (lk S23 b22 (bl (UP S23 a0 6 (some b22)) (fun S27 => bl x24 (fun x28 => fk S27 [some (.ref a0), some (.int a1), none] [.ref a0] (nk 5 5 (bl S27.1 (fun b32 => bl (SN S27 14 (5 : Int32).toNatClampNeg) (fun S33 => bl (XN x28 S27.1) (fun x34 => tk S33 a0 12 (lk S33 b32 (bl (UP S33 a0 7 (some b32)) (fun S37 => bl x34 (fun x38 => fk S37 [some (.ref a0), some (.int a1), none] [.ref a0] (nk 300 300 (bl S37.1 (fun b42 => bl (SN S37 14 (300 : Int32).toNatClampNeg) (fun S43 => bl (XN x38 S37.1) (fun x44 => tk S43 a0 12 (lk S43 b42 (bl (UP S43 a0 8 (some b42)) (fun S47 => bl x44 (fun x48 => fk S47 [some (.ref a0), some (.int a1), none] [.ref a0] (nk 300 300 (bl S47.1 (fun b52 => bl (SN S47 14 (300 : Int32).toNatClampNeg) (fun S53 => bl (XN x48 S47.1) (fun x54 => tk S53 a0 12 (lk S53 b52 (bl (UP S53 a0 9 (some b52)) (fun S57 => bl x54 (fun x58 => fk S57 [some (.ref a0), some (.int a1), none] [.ref a0] (nk 300 300 (bl S57.1 (fun b62 => bl (SN S57 14 (300 : Int32).toNatClampNeg) (fun S63 => bl (XN x58 S57.1) (fun x64 => tk S63 a0 12 (lk S63 b62 (bl (UP S63 a0 10 (some b62)) (fun S67 => bl x64 (fun x68 => fk S67 [some (.ref a0), some (.int a1), none] [.ref a0] (nk 300 300 (bl S67.1 (fun b72 => bl (SN S67 14 (300 : Int32).toNatClampNeg) (fun S73 => bl (XN x68 S67.1) (fun x74 => tk S73 a0 12 (lk S73 b72 (bl (UP S73 a0 11 (some b72)) (fun S77 => bl x74 (fun x78 => fk S77 [some (.ref a0), some (.int a1), none] [.ref a0] (nk 300 300 (bl S77.1 (fun b82 => bl (SN S77 14 (300 : Int32).toNatClampNeg) (fun S83 => bl (XN x78 S77.1) (fun x84 => tk S83 a0 12 (lk S83 b82 (bl (UP S83 a0 12 (some b82)) (fun S87 => bl x84 (fun x88 => fk S87 [some (.ref a0), some (.int a1), none] [.ref a0] (nk 12 12 (bl S87.1 (fun b92 => bl (SN S87 14 (12 : Int32).toNatClampNeg) (fun S93 => bl (XN x88 S87.1) (fun x94 => tk S93 a0 12 (lk S93 b92 (bl (UP S93 a0 13 (some b92)) (fun S97 => bl x94 (fun x98 => fk S97 [some (.ref a0), some (.int a1), none] [.ref a0] (nk 12 12 (bl S97.1 (fun b102 => bl (SN S97 14 (12 : Int32).toNatClampNeg) (fun S103 => bl (XN x98 S97.1) (fun x104 => tk S103 a0 12 (lk S103 b102 (bl (UP S103 a0 14 (some b102)) (fun S107 => bl x104 (fun x108 => fk S107 [some (.ref a0), some (.int a1), none] [.ref a0] (nk 16 16 (bl S107.1 (fun b112 => bl (SN S107 14 (16 : Int32).toNatClampNeg) (fun S113 => bl (XN x108 S107.1) (fun x114 => tk S113 a0 12 (lk S113 b112 (bl (UP S113 a0 15 (some b112)) (fun S117 => bl x114 (fun x118 => fk S117 [some (.ref a0), some (.int a1), none] [.ref a0] (nk 300 300 (bl S117.1 (fun b122 => bl (SN S117 14 (300 : Int32).toNatClampNeg) (fun S123 => bl (XN x118 S117.1) (fun x124 => tk S123 a0 12 (lk S123 b122 (bl (UP S123 a0 16 (some b122)) (fun S127 => bl x124 (fun x128 => tk S127 a0 12 (bl (U1 x128 a0 17 0) (fun x130 => tk S127 a0 12 (bl (U1 x130 a0 18 0) (fun x132 => fk S127 [some (.ref a0), some (.int a1), none] [.ref a0] (nk 8 8 (bl S127.1 (fun b136 => bl (SN S127 14 (8 : Int32).toNatClampNeg) (fun S137 => bl (XN x132 S127.1) (fun x138 => tk S137 a0 12 (lk S137 b136 (bl (UP S137 a0 19 (some b136)) (fun S141 => bl x138 (fun x142 => fk S141 [some (.ref a0), some (.int a1), none] [.ref a0] (nk 8 8 (bl S141.1 (fun b146 => bl (SN S141 14 (8 : Int32).toNatClampNeg) (fun S147 => bl (XN x142 S141.1) (fun x148 => tk S147 a0 12 (lk S147 b146 (bl (UP S147 a0 20 (some b146)) (fun S151 => bl x148 (fun x152 => fk S151 [some (.ref a0), some (.int a1), none] [.ref a0] (nk 8 8 (bl S151.1 (fun b156 => bl (SN S151 14 (8 : Int32).toNatClampNeg) (fun S157 => bl (XN x152 S151.1) (fun x158 => tk S157 a0 12 (lk S157 b156 (bl (UP S157 a0 21 (some b156)) (fun S161 => bl x158 (fun x162 => fk S161 [some (.ref a0), some (.int a1), none] [.ref a0] (nk 8 8 (bl S161.1 (fun b166 => bl (SN S161 14 (8 : Int32).toNatClampNeg) (fun S167 => bl (XN x162 S161.1) (fun x168 => tk S167 a0 12 (lk S167 b166 (bl (UP S167 a0 22 (some b166)) (fun S171 => bl x168 (fun x172 => fk S171 [some (.ref a0), some (.int a1), none] [.ref a0] (nk 8 8 (bl S171.1 (fun b176 => bl (SN S171 14 (8 : Int32).toNatClampNeg) (fun S177 => bl (XN x172 S171.1) (fun x178 => tk S177 a0 12 (lk S177 b176 (bl (UP S177 a0 23 (some b176)) (fun S181 => bl x178 (fun x182 => fk S181 [some (.ref a0), some (.int a1), none] [.ref a0] (nk 8 8 (bl S181.1 (fun b186 => bl (SN S181 14 (8 : Int32).toNatClampNeg) (fun S187 => bl (XN x182 S181.1) (fun x188 => tk S187 a0 12 (lk S187 b186 (bl (UP S187 a0 24 (some b186)) (fun S191 => bl x188 (fun x192 => fk S191 [some (.ref a0), some (.int a1), none] [.ref a0] (nk 48 48 (bl S191.1 (fun b196 => bl (SN S191 14 (48 : Int32).toNatClampNeg) (fun S197 => bl (XN x192 S191.1) (fun x198 => tk S197 a0 12 (lk S197 b196 (bl (UP S197 a0 25 (some b196)) (fun S201 => bl x198 (fun x202 => fk S201 [some (.ref a0), some (.int a1), none] [.ref a0] (nk 8 8 (bl S201.1 (fun b206 => bl (SN S201 15 (8 : Int32).toNatClampNeg) (fun S207 => bl (XN x202 S201.1) (fun x208 => tk S207 a0 12 (lk S207 b206 (bl (UP S207 a0 26 (some b206)) (fun S211 => bl x208 (fun x212 => fk S211 [some (.ref a0), some (.int a1), none] [.ref a0] (nk 160 160 (bl S211.1 (fun b216 => bl (SN S211 13 (160 : Int32).toNatClampNeg) (fun S217 => bl (XN x212 S211.1) (fun x218 => tk S217 a0 12 (lk S217 b216 (bl (UP S217 a0 27 (some b216)) (fun S221 => bl x218 (fun x222 => tk S221 a0 12 (bl (U1 x222 a0 28 0) (fun x224 => tk S221 a0 12 (bl (U1 x224 a0 29 1) (fun x226 => tk S221 a0 12 (bl (U1 x226 a0 30 0) (fun x228 => fk S221 [some (.ref a0), some (.int a1), none] [.ref a0] (nk 12 12 (bl S221.1 (fun b232 => bl (SN S221 14 (12 : Int32).toNatClampNeg) (fun S233 => bl (XN x228 S221.1) (fun x234 => tk S233 a0 12 (lk S233 b232 (bl (UP S233 a0 31 (some b232)) (fun S237 => bl x234 (fun x238 => fk S237 [some (.ref a0), some (.int a1), none] [.ref a0] (nk 1920 1920 (bl S237.1 (fun b242 => bl (SN S237 14 (1920 : Int32).toNatClampNeg) (fun S243 => bl (XN x238 S237.1) (fun x244 => tk S243 a0 12 (lk S243 b242 (bl (UP S243 a0 32 (some b242)) (fun S247 => bl x244 (fun x248 => tk S247 a0 12 (bl (U1 x248 a0 33 0) (fun x250 => tk S247 a0 12 (bl (U1 x250 a0 34 0) (fun x252 => tk S247 a0 12 (bl (U1 x252 a0 35 0) (fun x254 => tk S247 a0 12 (bl (U1 x254 a0 36 0) (fun x256 => fk S247 [some (.ref a0), some (.int a1), none] [.ref a0] (nk 161 161 (bl S247.1 (fun b260 => bl (SN S247 14 (161 : Int32).toNatClampNeg) (fun S261 => bl (XN x256 S247.1) (fun x262 => tk S261 a0 12 (lk S261 b260 (bl (UP S261 a0 37 (some b260)) (fun S265 => bl x262 (fun x266 => fk S265 [some (.ref a0), some (.int a1), none] [.ref a0] (nk 7 7 (bl S265.1 (fun b270 => bl (SN S265 15 (7 : Int32).toNatClampNeg) (fun S271 => bl (XN x266 S265.1) (fun x272 => tk S271 a0 12 (lk S271 b270 (bl (UP S271 a0 38 (some b270)) (fun S275 => bl x272 (fun x276 => tk S275 a0 12 (bl (U1 x276 a0 39 0) (fun x278 => tk S275 a0 12 (bl (U1 x278 a0 40 0) (fun x280 => tk S275 a0 12 (bl (U1 x280 a0 41 0) (fun x282 => tk S275 a0 12 (bl (U1 x282 a0 42 0) (fun x284 => fk S275 [some (.ref a0), some (.int a1), none] [.ref a0] (nk 6 6 (bl S275.1 (fun b288 => bl (SN S275 14 (6 : Int32).toNatClampNeg) (fun S289 => bl (XN x284 S275.1) (fun x290 => tk S289 a0 12 (lk S289 b288 (bl (UP S289 a0 43 (some b288)) (fun S293 => bl x290 (fun x294 => fk S293 [some (.ref a0), some (.int a1), none] [.ref a0] (nk 161 161 (bl S293.1 (fun b298 => bl (SN S293 14 (161 : Int32).toNatClampNeg) (fun S299 => bl (XN x294 S293.1) (fun x300 => tk S299 a0 12 (lk S299 b298 (bl (UP S299 a0 44 (some b298)) (fun S303 => bl x300 (fun x304 => tk S303 a0 12 (bl (U1 x304 a0 45 0) (fun x306 => tk S303 a0 12 (bl (U1 x306 a0 46 0) (fun x308 => tk S303 a0 12 (bl (U1 x308 a0 47 0) (fun x310 => fk S303 [some (.ref a0), some (.int a1), none] [.ref a0] (nk 300 300 (bl S303.1 (fun b314 => bl (SN S303 14 (300 : Int32).toNatClampNeg) (fun S315 => bl (XN x310 S303.1) (fun x316 => tk S315 a0 12 (lk S315 b314 (bl (UP S315 a0 48 (some b314)) (fun S319 => bl x316 (fun x320 => fk S319 [some (.ref a0), some (.int a1), none] [.ref a0] (nk 300 300 (bl S319.1 (fun b324 => bl (SN S319 14 (300 : Int32).toNatClampNeg) (fun S325 => bl (XN x320 S319.1) (fun x326 => tk S325 a0 12 (lk S325 b324 (bl (UP S325 a0 49 (some b324)) (fun S329 => bl x326 (fun x330 => fk S329 [some (.ref a0), some (.int a1), none] [.ref a0] (nk 300 300 (bl S329.1 (fun b334 => bl (SN S329 14 (300 : Int32).toNatClampNeg) (fun S335 => bl (XN x330 S329.1) (fun x336 => tk S335 a0 12 (lk S335 b334 (bl (UP S335 a0 50 (some b334)) (fun S339 => bl x336 (fun x340 => fk S339 [some (.ref a0), some (.int a1), none] [.ref a0] (nk 12 12 (bl S339.1 (fun b344 => bl (SN S339 14 (12 : Int32).toNatClampNeg) (fun S345 => bl (XN x340 S339.1) (fun x346 => tk S345 a0 12 (lk S345 b344 (bl (UP S345 a0 51 (some b344)) (fun S349 => bl x346 (fun x350 => fk S349 [some (.ref a0), some (.int a1), none] [.ref a0] (nk 12 12 (bl S349.1 (fun b354 => bl (SN S349 14 (12 : Int32).toNatClampNeg) (fun S355 => bl (XN x350 S349.1) (fun x356 => tk S355 a0 12 (lk S355 b354 (bl (UP S355 a0 52 (some b354)) (fun S359 => bl x356 (fun x360 => fk S359 [some (.ref a0), some (.int a1), none] [.ref a0] (nk 16 16 (bl S359.1 (fun b364 => bl (SN S359 14 (16 : Int32).toNatClampNeg) (fun S365 => bl (XN x360 S359.1) (fun x366 => tk S365 a0 12 (lk S365 b364 (bl (UP S365 a0 53 (some b364)) (fun S369 => bl x366 (fun x370 => fk S369 [some (.ref a0), some (.int a1), none] [.ref a0] (nk 40 40 (bl S369.1 (fun b374 => bl (SN S369 14 (40 : Int32).toNatClampNeg) (fun S375 => bl (XN x370 S369.1) (fun x376 => tk S375 a0 12 (lk S375 b374 (bl (UP S375 a0 54 (some b374)) (fun S379 => bl x376 (fun x380 => fk S379 [some (.ref a0), some (.int a1), none] [.ref a0] (nk 8 8 (bl S379.1 (fun b384 => bl (SN S379 15 (8 : Int32).toNatClampNeg) (fun S385 => bl (XN x380 S379.1) (fun x386 => tk S385 a0 12 (lk S385 b384 (bl (UP S385 a0 55 (some b384)) (fun S389 => bl x386 (fun x390 => tk S389 a0 12 (bl (U1 x390 a0 56 0) (fun x392 => tk S389 a0 12 (bl (U1 x392 a0 57 0) (fun x394 => tk S389 a0 12 (bl (U1 x394 a0 58 0) (fun x396 => tk S389 a0 12 (bl (U1 x396 a0 59 0) (fun x398 => tk S389 a0 12 (bl (U1 x398 a0 60 0) (fun x400 => tk S389 a0 12 (bl (U1 x400 a0 61 0) (fun x402 => fk S389 [some (.ref a0), some (.int a1), none] [.ref a0] (nk 7 7 (bl S389.1 (fun b406 => bl (SN S389 14 (7 : Int32).toNatClampNeg) (fun S407 => bl (XN x402 S389.1) (fun x408 => tk S407 a0 12 (lk S407 b406 (bl (UP S407 a0 62 (some b406)) (fun S411 => bl x408 (fun x412 => fk S411 [some (.ref a0), some (.int a1), none] [.ref a0] (nk 31 31 (bl S411.1 (fun b416 => bl (SN S411 14 (31 : Int32).toNatClampNeg) (fun S417 => bl (XN x412 S411.1) (fun x418 => tk S417 a0 12 (lk S417 b416 (bl (UP S417 a0 63 (some b416)) (fun S421 => bl x418 (fun x422 => fk S421 [some (.ref a0), some (.int a1), none] [.ref a0] (nk 4 4 (bl S421.1 (fun b426 => bl (SN S421 14 (4 : Int32).toNatClampNeg) (fun S427 => bl (XN x422 S421.1) (fun x428 => tk S427 b426 14 (ck S427 b426 0 (bl (U1 x428 b426 (0 : Int32).toNatClampNeg (-1)) (fun x431 => tk S427 b426 14 (ck S427 b426 1 (bl (U1 x431 b426 (1 : Int32).toNatClampNeg (-1)) (fun x434 => tk S427 b426 14 (ck S427 b426 2 (bl (U1 x434 b426 (2 : Int32).toNatClampNeg (-1)) (fun x437 => tk S427 b426 14 (ck S427 b426 3 (bl (U1 x437 b426 (3 : Int32).toNatClampNeg (-1)) (fun x440 => tk S427 a0 12 (lk S427 b426 (bl (UP S427 a0 64 (some b426)) (fun S443 => bl x440 (fun x444 => fk S443 [some (.ref a0), some (.int a1), none] [.ref a0] (nk 4 4 (bl S443.1 (fun b448 => bl (SN S443 14 (4 : Int32).toNatClampNeg) (fun S449 => bl (XN x444 S443.1) (fun x450 => tk S449 a0 12 (lk S449 b448 (bl (UP S449 a0 65 (some b448)) (fun S453 => bl x450 (fun x454 => fk S453 [some (.ref a0), some (.int a1), none] [.ref a0] (nk 160 160 (bl S453.1 (fun b458 => bl (SN S453 14 (160 : Int32).toNatClampNeg) (fun S459 => bl (XN x454 S453.1) (fun x460 => tk S459 a0 12 (lk S459 b458 (bl (UP S459 a0 66 (some b458)) (fun S463 => bl x460 (fun x464 => tk S463 a0 12 (bl (U1 x464 a0 0 (6 + (((a1 - a1 / 7 * 7) + 7) - ((a1 - a1 / 7 * 7) + 7) / 7 * 7))) (fun x466 => tk S463 a0 12 (rfk (S463.2.2.2 a0 5) (fun b468 => tk S463 b468 14 (ck S463 b468 0 (bl (U1 x466 b468 (0 : Int32).toNatClampNeg 0) (fun x472 => tk S463 a0 12 (rfk (S463.2.2.2 a0 6) (fun b474 => tk S463 b474 14 (ck S463 b474 0 (bl (U1 x472 b474 (0 : Int32).toNatClampNeg 20) (fun x478 => tk S463 a0 12 (rfk (S463.2.2.2 a0 5) (fun b480 => tk S463 b480 14 (ck S463 b480 1 (bl (U1 x478 b480 (1 : Int32).toNatClampNeg 1) (fun x484 => tk S463 a0 12 (rfk (S463.2.2.2 a0 6) (fun b486 => tk S463 b486 14 (ck S463 b486 1 (bl (U1 x484 b486 (1 : Int32).toNatClampNeg 20) (fun x490 => tk S463 a0 12 (rfk (S463.2.2.2 a0 5) (fun b492 => tk S463 b492 14 (ck S463 b492 2 (bl (U1 x490 b492 (2 : Int32).toNatClampNeg 2) (fun x496 => tk S463 a0 12 (rfk (S463.2.2.2 a0 6) (fun b498 => tk S463 b498 14 (ck S463 b498 2 (bl (U1 x496 b498 (2 : Int32).toNatClampNeg 20) (fun x502 => tk S463 a0 12 (rfk (S463.2.2.2 a0 5) (fun b504 => tk S463 b504 14 (ck S463 b504 3 (bl (U1 x502 b504 (3 : Int32).toNatClampNeg 3) (fun x508 => tk S463 a0 12 (rfk (S463.2.2.2 a0 6) (fun b510 => tk S463 b510 14 (ck S463 b510 3 (bl (U1 x508 b510 (3 : Int32).toNatClampNeg 20) (fun x514 => tk S463 a0 12 (rfk (S463.2.2.2 a0 5) (fun b516 => tk S463 b516 14 (ck S463 b516 4 (bl (U1 x514 b516 (4 : Int32).toNatClampNeg 4) (fun x520 => tk S463 a0 12 (rfk (S463.2.2.2 a0 6) (fun b522 => tk S463 b522 14 (ck S463 b522 4 (bl (U1 x520 b522 (4 : Int32).toNatClampNeg 20) (fun x526 => tk S463 a0 12 (rfk (S463.2.2.2 a0 5) (fun b528 => tk S463 b528 14 (ck S463 b528 5 (bl (U1 x526 b528 (5 : Int32).toNatClampNeg 0) (fun x532 => tk S463 a0 12 (rfk (S463.2.2.2 a0 6) (fun b534 => tk S463 b534 14 (ck S463 b534 5 (bl (U1 x532 b534 (5 : Int32).toNatClampNeg 20) (fun x538 => tk S463 a0 12 (rfk (S463.2.2.2 a0 7) (fun b540 => tk S463 b540 14 (ck S463 b540 0 (bl (U1 x538 b540 (0 : Int32).toNatClampNeg 100) (fun x544 => tk S463 a0 12 (rfk (S463.2.2.2 a0 7) (fun b546 => tk S463 b546 14 (ck S463 b546 1 (bl (U1 x544 b546 (1 : Int32).toNatClampNeg 100) (fun x550 => tk S463 a0 12 (rfk (S463.2.2.2 a0 7) (fun b552 => tk S463 b552 14 (ck S463 b552 2 (bl (U1 x550 b552 (2 : Int32).toNatClampNeg 100) (fun x556 => tk S463 a0 12 (rfk (S463.2.2.2 a0 7) (fun b558 => tk S463 b558 14 (ck S463 b558 3 (bl (U1 x556 b558 (3 : Int32).toNatClampNeg 100) (fun x562 => tk S463 a0 12 (rfk (S463.2.2.2 a0 7) (fun b564 => tk S463 b564 14 (ck S463 b564 4 (bl (U1 x562 b564 (4 : Int32).toNatClampNeg 100) (fun x568 => tk S463 a0 12 (rfk (S463.2.2.2 a0 13) (fun b570 => tk S463 b570 14 (ck S463 b570 0 (bl (U1 x568 b570 (0 : Int32).toNatClampNeg (-1)) (fun x574 => tk S463 a0 12 (rfk (S463.2.2.2 a0 14) (fun b576 => tk S463 b576 14 (ck S463 b576 0 (bl (U1 x574 b576 (0 : Int32).toNatClampNeg (-1)) (fun x580 => tk S463 a0 12 (rfk (S463.2.2.2 a0 13) (fun b582 => tk S463 b582 14 (ck S463 b582 1 (bl (U1 x580 b582 (1 : Int32).toNatClampNeg (-1)) (fun x586 => tk S463 a0 12 (rfk (S463.2.2.2 a0 14) (fun b588 => tk S463 b588 14 (ck S463 b588 1 (bl (U1 x586 b588 (1 : Int32).toNatClampNeg (-1)) (fun x592 => tk S463 a0 12 (rfk (S463.2.2.2 a0 13) (fun b594 => tk S463 b594 14 (ck S463 b594 2 (bl (U1 x592 b594 (2 : Int32).toNatClampNeg (-1)) (fun x598 => tk S463 a0 12 (rfk (S463.2.2.2 a0 14) (fun b600 => tk S463 b600 14 (ck S463 b600 2 (bl (U1 x598 b600 (2 : Int32).toNatClampNeg (-1)) (fun x604 => tk S463 a0 12 (rfk (S463.2.2.2 a0 13) (fun b606 => tk S463 b606 14 (ck S463 b606 3 (bl (U1 x604 b606 (3 : Int32).toNatClampNeg (-1)) (fun x610 => tk S463 a0 12 (rfk (S463.2.2.2 a0 14) (fun b612 => tk S463 b612 14 (ck S463 b612 3 (bl (U1 x610 b612 (3 : Int32).toNatClampNeg (-1)) (fun x616 => tk S463 a0 12 (rfk (S463.2.2.2 a0 13) (fun b618 => tk S463 b618 14 (ck S463 b618 4 (bl (U1 x616 b618 (4 : Int32).toNatClampNeg (-1)) (fun x622 => tk S463 a0 12 (rfk (S463.2.2.2 a0 14) (fun b624 => tk S463 b624 14 (ck S463 b624 4 (bl (U1 x622 b624 (4 : Int32).toNatClampNeg (-1)) (fun x628 => tk S463 a0 12 (rfk (S463.2.2.2 a0 13) (fun b630 => tk S463 b630 14 (ck S463 b630 5 (bl (U1 x628 b630 (5 : Int32).toNatClampNeg (-1)) (fun x634 => tk S463 a0 12 (rfk (S463.2.2.2 a0 14) (fun b636 => tk S463 b636 14 (ck S463 b636 5 (bl (U1 x634 b636 (5 : Int32).toNatClampNeg (-1)) (fun x640 => tk S463 a0 12 (rfk (S463.2.2.2 a0 13) (fun b642 => tk S463 b642 14 (ck S463 b642 6 (bl (U1 x640 b642 (6 : Int32).toNatClampNeg (-1)) (fun x646 => tk S463 a0 12 (rfk (S463.2.2.2 a0 14) (fun b648 => tk S463 b648 14 (ck S463 b648 6 (bl (U1 x646 b648 (6 : Int32).toNatClampNeg (-1)) (fun x652 => tk S463 a0 12 (rfk (S463.2.2.2 a0 13) (fun b654 => tk S463 b654 14 (ck S463 b654 7 (bl (U1 x652 b654 (7 : Int32).toNatClampNeg (-1)) (fun x658 => tk S463 a0 12 (rfk (S463.2.2.2 a0 14) (fun b660 => tk S463 b660 14 (ck S463 b660 7 (bl (U1 x658 b660 (7 : Int32).toNatClampNeg (-1)) (fun x664 => tk S463 a0 12 (rfk (S463.2.2.2 a0 13) (fun b666 => tk S463 b666 14 (ck S463 b666 8 (bl (U1 x664 b666 (8 : Int32).toNatClampNeg (-1)) (fun x670 => tk S463 a0 12 (rfk (S463.2.2.2 a0 14) (fun b672 => tk S463 b672 14 (ck S463 b672 8 (bl (U1 x670 b672 (8 : Int32).toNatClampNeg (-1)) (fun x676 => tk S463 a0 12 (rfk (S463.2.2.2 a0 13) (fun b678 => tk S463 b678 14 (ck S463 b678 9 (bl (U1 x676 b678 (9 : Int32).toNatClampNeg (-1)) (fun x682 => tk S463 a0 12 (rfk (S463.2.2.2 a0 14) (fun b684 => tk S463 b684 14 (ck S463 b684 9 (bl (U1 x682 b684 (9 : Int32).toNatClampNeg (-1)) (fun x688 => tk S463 a0 12 (rfk (S463.2.2.2 a0 13) (fun b690 => tk S463 b690 14 (ck S463 b690 10 (bl (U1 x688 b690 (10 : Int32).toNatClampNeg (-1)) (fun x694 => tk S463 a0 12 (rfk (S463.2.2.2 a0 14) (fun b696 => tk S463 b696 14 (ck S463 b696 10 (bl (U1 x694 b696 (10 : Int32).toNatClampNeg (-1)) (fun x700 => tk S463 a0 12 (rfk (S463.2.2.2 a0 13) (fun b702 => tk S463 b702 14 (ck S463 b702 11 (bl (U1 x700 b702 (11 : Int32).toNatClampNeg (-1)) (fun x706 => tk S463 a0 12 (rfk (S463.2.2.2 a0 14) (fun b708 => tk S463 b708 14 (ck S463 b708 11 (bl (U1 x706 b708 (11 : Int32).toNatClampNeg (-1)) (fun x712 => fk S463 [some (.ref a0), some (.int a1), some (.int 12)] [] (tk S463 a0 12 (Option.bind (fA_X12_ruleZero N S463 a0 x712) (fun r713 => some (r713.1, r713.2)))))))))))))))))))))))))))))))))))))))))))))))))))))))))))))))))))))))))))))))))))))))))))))))))))))))))))))))))))))))))))))))))))))))))))))))))))))))))))))))))))))))))))))))))))))))))))))))))))))))))))))))))))))))))))))))))))))))))))))))))))))))))))))))))))))))))))))))))))))))))))))))))))))))))))))))))))))))))))))))))))))))))))))))))))))))))))))))))))))))))))))))))))))))))))))))))))))))))))))))))))))))))))))))))))))))))))))))))))))))))))))))))))))))))))))))))))))))))))))))))))))))))))))))))))))))))))))))))))))))))))))))))))))))))))))))))))))))))))))))))))))))))))))))))))))))))))))))))))))))))))))))))))))))))))))))))))))))))))
set_option maxHeartbeats 20000000 in
set_option maxRecDepth 100000 in
theorem tA_X12_init {N d : Nat} {S : SH} {x : DY} {a0 : Nat} {a1 : Int32} (hd : 2 ≤ d) : CA mX12_init d S [.ref a0, .int a1] x 40 5582 wAV (fA_X12_init N S a0 a1 x) := by
  refine CA.of [some (.ref a0), some (.int a1), none] rfl (Nat.le_of_ble_eq_true rfl) (by decide +kernel) ?_
  unfold fA_X12_init
  refine ga1 (M := mX12_init) (pc' := 1) (k' := 40) (n' := 5582) (r_aload_n (M := mX12_init) (i := 0) rfl dX12_init_0) ?_
  refine ga1 (M := mX12_init) (pc' := 4) (k' := 40) (n' := 5582) (r_objInit (M := mX12_init) (tb5 96 (by decide +kernel) rfl) (by omega) (Nat.le_of_ble_eq_true rfl) dX12_init_1) ?_
  refine ga1 (M := mX12_init) (pc' := 5) (k' := 40) (n' := 5582) (r_aload_n (M := mX12_init) (i := 0) rfl dX12_init_4) ?_
  refine ga1 (M := mX12_init) (pc' := 6) (k' := 40) (n' := 5582) (r_iconst (M := mX12_init) (v := 0) (by decide) dX12_init_5) ?_
  refine ga_tk (fun h1 => ?_)
  refine ga1 (M := mX12_init) (pc' := 9) (k' := 40) (n' := 5582) (r_putI9 (M := mX12_init) fl_12_7 h1 (Or.inl rfl) rfl dX12_init_6) ?_
  refine ga_blx (fun x2 => ?_)
  refine ga1 (M := mX12_init) (pc' := 10) (k' := 40) (n' := 5582) (r_aload_n (M := mX12_init) (i := 0) rfl dX12_init_9) ?_
  refine ga1 (M := mX12_init) (pc' := 11) (k' := 40) (n' := 5582) (r_iconst (M := mX12_init) (v := 0) (by decide) dX12_init_10) ?_
  refine ga_tk (fun h3 => ?_)
  refine ga1 (M := mX12_init) (pc' := 14) (k' := 40) (n' := 5582) (r_putI9 (M := mX12_init) fl_12_13 h3 (Or.inl rfl) rfl dX12_init_11) ?_
  refine ga_blx (fun x4 => ?_)
  refine ga1 (M := mX12_init) (pc' := 15) (k' := 40) (n' := 5582) (r_aload_n (M := mX12_init) (i := 0) rfl dX12_init_14) ?_
  refine ga1 (M := mX12_init) (pc' := 16) (k' := 40) (n' := 5582) (r_iconst (M := mX12_init) (v := 0) (by decide) dX12_init_15) ?_
  refine ga_tk (fun h5 => ?_)
  refine ga1 (M := mX12_init) (pc' := 19) (k' := 40) (n' := 5582) (r_putI9 (M := mX12_init) fl_12_16 h5 (Or.inl rfl) rfl dX12_init_16) ?_
  refine ga_blx (fun x6 => ?_)
  refine ga1 (M := mX12_init) (pc' := 20) (k' := 40) (n' := 5582) (r_aload_n (M := mX12_init) (i := 0) rfl dX12_init_19) ?_
  refine ga1 (M := mX12_init) (pc' := 22) (k' := 40) (n' := 5582) (r_bipush (M := mX12_init) (v := 50) (by decide) dX12_init_20) ?_
  refine ga_tk (fun h7 => ?_)
  refine ga1 (M := mX12_init) (pc' := 25) (k' := 40) (n' := 5582) (r_putI9 (M := mX12_init) fl_12_19 h7 (Or.inl rfl) rfl dX12_init_22) ?_
  refine ga_blx (fun x8 => ?_)
  refine ga1 (M := mX12_init) (pc' := 26) (k' := 40) (n' := 5582) (r_aload_n (M := mX12_init) (i := 0) rfl dX12_init_25) ?_
  refine ga1 (M := mX12_init) (pc' := 28) (k' := 40) (n' := 5582) (r_bipush (M := mX12_init) (v := 6) (by decide) dX12_init_26) ?_
  refine ga_fk (fun hf9 => ?_)
  refine ga_nk (fun hm10 hM11 => ?_)
  refine ga1 (M := mX12_init) (pc' := 30) (k' := 39) (n' := 5576) (r_newarr14 (M := mX12_init) (B := 6) hm10 hM11 (by decide) hf9 dX12_init_28) ?_
  refine ga_blR (fun b12 S13 x14 => ?_)
  refine ga_tk (fun h15 => ?_)
  refine ga_lk (fun hl16 => ?_)
  refine ga1 (M := mX12_init) (pc' := 33) (k' := 39) (n' := 5576) (r_putR (M := mX12_init) fl_12_22 h15 (Or.inr ⟨rfl, rfl, rfl⟩) rfl hl16 dX12_init_30) ?_
  refine ga_blS (fun S17 x18 => ?_)
  refine ga1 (M := mX12_init) (pc' := 34) (k' := 39) (n' := 5576) (r_aload_n (M := mX12_init) (i := 0) rfl dX12_init_33) ?_
  refine ga1 (M := mX12_init) (pc' := 36) (k' := 39) (n' := 5576) (r_bipush (M := mX12_init) (v := 6) (by decide) dX12_init_34) ?_
  refine ga_fk (fun hf19 => ?_)
  refine ga_nk (fun hm20 hM21 => ?_)
  refine ga1 (M := mX12_init) (pc' := 38) (k' := 38) (n' := 5570) (r_newarr14 (M := mX12_init) (B := 6) hm20 hM21 (by decide) hf19 dX12_init_36) ?_
  refine ga_blR (fun b22 S23 x24 => ?_)
  refine ga_tk (fun h25 => ?_)
  refine ga_lk (fun hl26 => ?_)
  refine ga1 (M := mX12_init) (pc' := 41) (k' := 38) (n' := 5570) (r_putR (M := mX12_init) fl_12_26 h25 (Or.inr ⟨rfl, rfl, rfl⟩) rfl hl26 dX12_init_38) ?_
  refine ga_blS (fun S27 x28 => ?_)
  refine ga1 (M := mX12_init) (pc' := 42) (k' := 38) (n' := 5570) (r_aload_n (M := mX12_init) (i := 0) rfl dX12_init_41) ?_
  refine ga1 (M := mX12_init) (pc' := 43) (k' := 38) (n' := 5570) (r_iconst (M := mX12_init) (v := 5) (by decide) dX12_init_42) ?_
  refine ga_fk (fun hf29 => ?_)
  refine ga_nk (fun hm30 hM31 => ?_)
  refine ga1 (M := mX12_init) (pc' := 45) (k' := 37) (n' := 5565) (r_newarr14 (M := mX12_init) (B := 5) hm30 hM31 (by decide) hf29 dX12_init_43) ?_
  refine ga_blR (fun b32 S33 x34 => ?_)
  refine ga_tk (fun h35 => ?_)
  refine ga_lk (fun hl36 => ?_)
  refine ga1 (M := mX12_init) (pc' := 48) (k' := 37) (n' := 5565) (r_putR (M := mX12_init) fl_12_29 h35 (Or.inr ⟨rfl, rfl, rfl⟩) rfl hl36 dX12_init_45) ?_
  refine ga_blS (fun S37 x38 => ?_)
  refine ga1 (M := mX12_init) (pc' := 49) (k' := 37) (n' := 5565) (r_aload_n (M := mX12_init) (i := 0) rfl dX12_init_48) ?_
  refine ga1 (M := mX12_init) (pc' := 52) (k' := 37) (n' := 5565) (r_sipush (M := mX12_init) (v := 300) (by decide) dX12_init_49) ?_
  refine ga_fk (fun hf39 => ?_)
  refine ga_nk (fun hm40 hM41 => ?_)
  refine ga1 (M := mX12_init) (pc' := 54) (k' := 36) (n' := 5265) (r_newarr14 (M := mX12_init) (B := 300) hm40 hM41 (by decide) hf39 dX12_init_52) ?_
  refine ga_blR (fun b42 S43 x44 => ?_)
  refine ga_tk (fun h45 => ?_)
  refine ga_lk (fun hl46 => ?_)
  refine ga1 (M := mX12_init) (pc' := 57) (k' := 36) (n' := 5265) (r_putR (M := mX12_init) fl_12_32 h45 (Or.inr ⟨rfl, rfl, rfl⟩) rfl hl46 dX12_init_54) ?_
  refine ga_blS (fun S47 x48 => ?_)
  refine ga1 (M := mX12_init) (pc' := 58) (k' := 36) (n' := 5265) (r_aload_n (M := mX12_init) (i := 0) rfl dX12_init_57) ?_
  refine ga1 (M := mX12_init) (pc' := 61) (k' := 36) (n' := 5265) (r_sipush (M := mX12_init) (v := 300) (by decide) dX12_init_58) ?_
  refine ga_fk (fun hf49 => ?_)
  refine ga_nk (fun hm50 hM51 => ?_)
  refine ga1 (M := mX12_init) (pc' := 63) (k' := 35) (n' := 4965) (r_newarr14 (M := mX12_init) (B := 300) hm50 hM51 (by decide) hf49 dX12_init_61) ?_
  refine ga_blR (fun b52 S53 x54 => ?_)
  refine ga_tk (fun h55 => ?_)
  refine ga_lk (fun hl56 => ?_)
  refine ga1 (M := mX12_init) (pc' := 66) (k' := 35) (n' := 4965) (r_putR (M := mX12_init) fl_12_35 h55 (Or.inr ⟨rfl, rfl, rfl⟩) rfl hl56 dX12_init_63) ?_
  refine ga_blS (fun S57 x58 => ?_)
  refine ga1 (M := mX12_init) (pc' := 67) (k' := 35) (n' := 4965) (r_aload_n (M := mX12_init) (i := 0) rfl dX12_init_66) ?_
  refine ga1 (M := mX12_init) (pc' := 70) (k' := 35) (n' := 4965) (r_sipush (M := mX12_init) (v := 300) (by decide) dX12_init_67) ?_
  refine ga_fk (fun hf59 => ?_)
  refine ga_nk (fun hm60 hM61 => ?_)
  refine ga1 (M := mX12_init) (pc' := 72) (k' := 34) (n' := 4665) (r_newarr14 (M := mX12_init) (B := 300) hm60 hM61 (by decide) hf59 dX12_init_70) ?_
  refine ga_blR (fun b62 S63 x64 => ?_)
  refine ga_tk (fun h65 => ?_)
  refine ga_lk (fun hl66 => ?_)
  refine ga1 (M := mX12_init) (pc' := 75) (k' := 34) (n' := 4665) (r_putR (M := mX12_init) fl_12_38 h65 (Or.inr ⟨rfl, rfl, rfl⟩) rfl hl66 dX12_init_72) ?_
  refine ga_blS (fun S67 x68 => ?_)
  refine ga1 (M := mX12_init) (pc' := 76) (k' := 34) (n' := 4665) (r_aload_n (M := mX12_init) (i := 0) rfl dX12_init_75) ?_
  refine ga1 (M := mX12_init) (pc' := 79) (k' := 34) (n' := 4665) (r_sipush (M := mX12_init) (v := 300) (by decide) dX12_init_76) ?_
  refine ga_fk (fun hf69 => ?_)
  refine ga_nk (fun hm70 hM71 => ?_)
  refine ga1 (M := mX12_init) (pc' := 81) (k' := 33) (n' := 4365) (r_newarr14 (M := mX12_init) (B := 300) hm70 hM71 (by decide) hf69 dX12_init_79) ?_
  refine ga_blR (fun b72 S73 x74 => ?_)
  refine ga_tk (fun h75 => ?_)
  refine ga_lk (fun hl76 => ?_)
  refine ga1 (M := mX12_init) (pc' := 84) (k' := 33) (n' := 4365) (r_putR (M := mX12_init) fl_12_41 h75 (Or.inr ⟨rfl, rfl, rfl⟩) rfl hl76 dX12_init_81) ?_
  refine ga_blS (fun S77 x78 => ?_)
  refine ga1 (M := mX12_init) (pc' := 85) (k' := 33) (n' := 4365) (r_aload_n (M := mX12_init) (i := 0) rfl dX12_init_84) ?_
  refine ga1 (M := mX12_init) (pc' := 88) (k' := 33) (n' := 4365) (r_sipush (M := mX12_init) (v := 300) (by decide) dX12_init_85) ?_
  refine ga_fk (fun hf79 => ?_)
  refine ga_nk (fun hm80 hM81 => ?_)
  refine ga1 (M := mX12_init) (pc' := 90) (k' := 32) (n' := 4065) (r_newarr14 (M := mX12_init) (B := 300) hm80 hM81 (by decide) hf79 dX12_init_88) ?_
  refine ga_blR (fun b82 S83 x84 => ?_)
  refine ga_tk (fun h85 => ?_)
  refine ga_lk (fun hl86 => ?_)
  refine ga1 (M := mX12_init) (pc' := 93) (k' := 32) (n' := 4065) (r_putR (M := mX12_init) fl_12_44 h85 (Or.inr ⟨rfl, rfl, rfl⟩) rfl hl86 dX12_init_90) ?_
  refine ga_blS (fun S87 x88 => ?_)
  refine ga1 (M := mX12_init) (pc' := 94) (k' := 32) (n' := 4065) (r_aload_n (M := mX12_init) (i := 0) rfl dX12_init_93) ?_
  refine ga1 (M := mX12_init) (pc' := 96) (k' := 32) (n' := 4065) (r_bipush (M := mX12_init) (v := 12) (by decide) dX12_init_94) ?_
  refine ga_fk (fun hf89 => ?_)
  refine ga_nk (fun hm90 hM91 => ?_)
  refine ga1 (M := mX12_init) (pc' := 98) (k' := 31) (n' := 4053) (r_newarr14 (M := mX12_init) (B := 12) hm90 hM91 (by decide) hf89 dX12_init_96) ?_
  refine ga_blR (fun b92 S93 x94 => ?_)
  refine ga_tk (fun h95 => ?_)
  refine ga_lk (fun hl96 => ?_)
  refine ga1 (M := mX12_init) (pc' := 101) (k' := 31) (n' := 4053) (r_putR (M := mX12_init) fl_12_47 h95 (Or.inr ⟨rfl, rfl, rfl⟩) rfl hl96 dX12_init_98) ?_
  refine ga_blS (fun S97 x98 => ?_)
  refine ga1 (M := mX12_init) (pc' := 102) (k' := 31) (n' := 4053) (r_aload_n (M := mX12_init) (i := 0) rfl dX12_init_101) ?_
  refine ga1 (M := mX12_init) (pc' := 104) (k' := 31) (n' := 4053) (r_bipush (M := mX12_init) (v := 12) (by decide) dX12_init_102) ?_
  refine ga_fk (fun hf99 => ?_)
  refine ga_nk (fun hm100 hM101 => ?_)
  refine ga1 (M := mX12_init) (pc' := 106) (k' := 30) (n' := 4041) (r_newarr14 (M := mX12_init) (B := 12) hm100 hM101 (by decide) hf99 dX12_init_104) ?_
  refine ga_blR (fun b102 S103 x104 => ?_)
  refine ga_tk (fun h105 => ?_)
  refine ga_lk (fun hl106 => ?_)
  refine ga1 (M := mX12_init) (pc' := 109) (k' := 30) (n' := 4041) (r_putR (M := mX12_init) fl_12_50 h105 (Or.inr ⟨rfl, rfl, rfl⟩) rfl hl106 dX12_init_106) ?_
  refine ga_blS (fun S107 x108 => ?_)
  refine ga1 (M := mX12_init) (pc' := 110) (k' := 30) (n' := 4041) (r_aload_n (M := mX12_init) (i := 0) rfl dX12_init_109) ?_
  refine ga1 (M := mX12_init) (pc' := 112) (k' := 30) (n' := 4041) (r_bipush (M := mX12_init) (v := 16) (by decide) dX12_init_110) ?_
  refine ga_fk (fun hf109 => ?_)
  refine ga_nk (fun hm110 hM111 => ?_)
  refine ga1 (M := mX12_init) (pc' := 114) (k' := 29) (n' := 4025) (r_newarr14 (M := mX12_init) (B := 16) hm110 hM111 (by decide) hf109 dX12_init_112) ?_
  refine ga_blR (fun b112 S113 x114 => ?_)
  refine ga_tk (fun h115 => ?_)
  refine ga_lk (fun hl116 => ?_)
  refine ga1 (M := mX12_init) (pc' := 117) (k' := 29) (n' := 4025) (r_putR (M := mX12_init) fl_12_53 h115 (Or.inr ⟨rfl, rfl, rfl⟩) rfl hl116 dX12_init_114) ?_
  refine ga_blS (fun S117 x118 => ?_)
  refine ga1 (M := mX12_init) (pc' := 118) (k' := 29) (n' := 4025) (r_aload_n (M := mX12_init) (i := 0) rfl dX12_init_117) ?_
  refine ga1 (M := mX12_init) (pc' := 121) (k' := 29) (n' := 4025) (r_sipush (M := mX12_init) (v := 300) (by decide) dX12_init_118) ?_
  refine ga_fk (fun hf119 => ?_)
  refine ga_nk (fun hm120 hM121 => ?_)
  refine ga1 (M := mX12_init) (pc' := 123) (k' := 28) (n' := 3725) (r_newarr14 (M := mX12_init) (B := 300) hm120 hM121 (by decide) hf119 dX12_init_121) ?_
  refine ga_blR (fun b122 S123 x124 => ?_)
  refine ga_tk (fun h125 => ?_)
  refine ga_lk (fun hl126 => ?_)
  refine ga1 (M := mX12_init) (pc' := 126) (k' := 28) (n' := 3725) (r_putR (M := mX12_init) fl_12_56 h125 (Or.inr ⟨rfl, rfl, rfl⟩) rfl hl126 dX12_init_123) ?_
  refine ga_blS (fun S127 x128 => ?_)
  refine ga1 (M := mX12_init) (pc' := 127) (k' := 28) (n' := 3725) (r_aload_n (M := mX12_init) (i := 0) rfl dX12_init_126) ?_
  refine ga1 (M := mX12_init) (pc' := 128) (k' := 28) (n' := 3725) (r_iconst (M := mX12_init) (v := 0) (by decide) dX12_init_127) ?_
  refine ga_tk (fun h129 => ?_)
  refine ga1 (M := mX12_init) (pc' := 131) (k' := 28) (n' := 3725) (r_putI9 (M := mX12_init) fl_12_59 h129 (Or.inl rfl) rfl dX12_init_128) ?_
  refine ga_blx (fun x130 => ?_)
  refine ga1 (M := mX12_init) (pc' := 132) (k' := 28) (n' := 3725) (r_aload_n (M := mX12_init) (i := 0) rfl dX12_init_131) ?_
  refine ga1 (M := mX12_init) (pc' := 133) (k' := 28) (n' := 3725) (r_iconst (M := mX12_init) (v := 0) (by decide) dX12_init_132) ?_
  refine ga_tk (fun h131 => ?_)
  refine ga1 (M := mX12_init) (pc' := 136) (k' := 28) (n' := 3725) (r_putI9 (M := mX12_init) fl_12_62 h131 (Or.inl rfl) rfl dX12_init_133) ?_
  refine ga_blx (fun x132 => ?_)
  refine ga1 (M := mX12_init) (pc' := 137) (k' := 28) (n' := 3725) (r_aload_n (M := mX12_init) (i := 0) rfl dX12_init_136) ?_
  refine ga1 (M := mX12_init) (pc' := 139) (k' := 28) (n' := 3725) (r_bipush (M := mX12_init) (v := 8) (by decide) dX12_init_137) ?_
  refine ga_fk (fun hf133 => ?_)
  refine ga_nk (fun hm134 hM135 => ?_)
  refine ga1 (M := mX12_init) (pc' := 141) (k' := 27) (n' := 3717) (r_newarr14 (M := mX12_init) (B := 8) hm134 hM135 (by decide) hf133 dX12_init_139) ?_
  refine ga_blR (fun b136 S137 x138 => ?_)
  refine ga_tk (fun h139 => ?_)
  refine ga_lk (fun hl140 => ?_)
  refine ga1 (M := mX12_init) (pc' := 144) (k' := 27) (n' := 3717) (r_putR (M := mX12_init) fl_12_65 h139 (Or.inr ⟨rfl, rfl, rfl⟩) rfl hl140 dX12_init_141) ?_
  refine ga_blS (fun S141 x142 => ?_)
  refine ga1 (M := mX12_init) (pc' := 145) (k' := 27) (n' := 3717) (r_aload_n (M := mX12_init) (i := 0) rfl dX12_init_144) ?_
  refine ga1 (M := mX12_init) (pc' := 147) (k' := 27) (n' := 3717) (r_bipush (M := mX12_init) (v := 8) (by decide) dX12_init_145) ?_
  refine ga_fk (fun hf143 => ?_)
  refine ga_nk (fun hm144 hM145 => ?_)
  refine ga1 (M := mX12_init) (pc' := 149) (k' := 26) (n' := 3709) (r_newarr14 (M := mX12_init) (B := 8) hm144 hM145 (by decide) hf143 dX12_init_147) ?_
  refine ga_blR (fun b146 S147 x148 => ?_)
  refine ga_tk (fun h149 => ?_)
  refine ga_lk (fun hl150 => ?_)
  refine ga1 (M := mX12_init) (pc' := 152) (k' := 26) (n' := 3709) (r_putR (M := mX12_init) fl_12_68 h149 (Or.inr ⟨rfl, rfl, rfl⟩) rfl hl150 dX12_init_149) ?_
  refine ga_blS (fun S151 x152 => ?_)
  refine ga1 (M := mX12_init) (pc' := 153) (k' := 26) (n' := 3709) (r_aload_n (M := mX12_init) (i := 0) rfl dX12_init_152) ?_
  refine ga1 (M := mX12_init) (pc' := 155) (k' := 26) (n' := 3709) (r_bipush (M := mX12_init) (v := 8) (by decide) dX12_init_153) ?_
  refine ga_fk (fun hf153 => ?_)
  refine ga_nk (fun hm154 hM155 => ?_)
  refine ga1 (M := mX12_init) (pc' := 157) (k' := 25) (n' := 3701) (r_newarr14 (M := mX12_init) (B := 8) hm154 hM155 (by decide) hf153 dX12_init_155) ?_
  refine ga_blR (fun b156 S157 x158 => ?_)
  refine ga_tk (fun h159 => ?_)
  refine ga_lk (fun hl160 => ?_)
  refine ga1 (M := mX12_init) (pc' := 160) (k' := 25) (n' := 3701) (r_putR (M := mX12_init) fl_12_71 h159 (Or.inr ⟨rfl, rfl, rfl⟩) rfl hl160 dX12_init_157) ?_
  refine ga_blS (fun S161 x162 => ?_)
  refine ga1 (M := mX12_init) (pc' := 161) (k' := 25) (n' := 3701) (r_aload_n (M := mX12_init) (i := 0) rfl dX12_init_160) ?_
  refine ga1 (M := mX12_init) (pc' := 163) (k' := 25) (n' := 3701) (r_bipush (M := mX12_init) (v := 8) (by decide) dX12_init_161) ?_
  refine ga_fk (fun hf163 => ?_)
  refine ga_nk (fun hm164 hM165 => ?_)
  refine ga1 (M := mX12_init) (pc' := 165) (k' := 24) (n' := 3693) (r_newarr14 (M := mX12_init) (B := 8) hm164 hM165 (by decide) hf163 dX12_init_163) ?_
  refine ga_blR (fun b166 S167 x168 => ?_)
  refine ga_tk (fun h169 => ?_)
  refine ga_lk (fun hl170 => ?_)
  refine ga1 (M := mX12_init) (pc' := 168) (k' := 24) (n' := 3693) (r_putR (M := mX12_init) fl_12_74 h169 (Or.inr ⟨rfl, rfl, rfl⟩) rfl hl170 dX12_init_165) ?_
  refine ga_blS (fun S171 x172 => ?_)
  refine ga1 (M := mX12_init) (pc' := 169) (k' := 24) (n' := 3693) (r_aload_n (M := mX12_init) (i := 0) rfl dX12_init_168) ?_
  refine ga1 (M := mX12_init) (pc' := 171) (k' := 24) (n' := 3693) (r_bipush (M := mX12_init) (v := 8) (by decide) dX12_init_169) ?_
  refine ga_fk (fun hf173 => ?_)
  refine ga_nk (fun hm174 hM175 => ?_)
  refine ga1 (M := mX12_init) (pc' := 173) (k' := 23) (n' := 3685) (r_newarr14 (M := mX12_init) (B := 8) hm174 hM175 (by decide) hf173 dX12_init_171) ?_
  refine ga_blR (fun b176 S177 x178 => ?_)
  refine ga_tk (fun h179 => ?_)
  refine ga_lk (fun hl180 => ?_)
  refine ga1 (M := mX12_init) (pc' := 176) (k' := 23) (n' := 3685) (r_putR (M := mX12_init) fl_12_77 h179 (Or.inr ⟨rfl, rfl, rfl⟩) rfl hl180 dX12_init_173) ?_
  refine ga_blS (fun S181 x182 => ?_)
  refine ga1 (M := mX12_init) (pc' := 177) (k' := 23) (n' := 3685) (r_aload_n (M := mX12_init) (i := 0) rfl dX12_init_176) ?_
  refine ga1 (M := mX12_init) (pc' := 179) (k' := 23) (n' := 3685) (r_bipush (M := mX12_init) (v := 8) (by decide) dX12_init_177) ?_
  refine ga_fk (fun hf183 => ?_)
  refine ga_nk (fun hm184 hM185 => ?_)
  refine ga1 (M := mX12_init) (pc' := 181) (k' := 22) (n' := 3677) (r_newarr14 (M := mX12_init) (B := 8) hm184 hM185 (by decide) hf183 dX12_init_179) ?_
  refine ga_blR (fun b186 S187 x188 => ?_)
  refine ga_tk (fun h189 => ?_)
  refine ga_lk (fun hl190 => ?_)
  refine ga1 (M := mX12_init) (pc' := 184) (k' := 22) (n' := 3677) (r_putR (M := mX12_init) fl_12_80 h189 (Or.inr ⟨rfl, rfl, rfl⟩) rfl hl190 dX12_init_181) ?_
  refine ga_blS (fun S191 x192 => ?_)
  refine ga1 (M := mX12_init) (pc' := 185) (k' := 22) (n' := 3677) (r_aload_n (M := mX12_init) (i := 0) rfl dX12_init_184) ?_
  refine ga1 (M := mX12_init) (pc' := 187) (k' := 22) (n' := 3677) (r_bipush (M := mX12_init) (v := 48) (by decide) dX12_init_185) ?_
  refine ga_fk (fun hf193 => ?_)
  refine ga_nk (fun hm194 hM195 => ?_)
  refine ga1 (M := mX12_init) (pc' := 189) (k' := 21) (n' := 3629) (r_newarr14 (M := mX12_init) (B := 48) hm194 hM195 (by decide) hf193 dX12_init_187) ?_
  refine ga_blR (fun b196 S197 x198 => ?_)
  refine ga_tk (fun h199 => ?_)
  refine ga_lk (fun hl200 => ?_)
  refine ga1 (M := mX12_init) (pc' := 192) (k' := 21) (n' := 3629) (r_putR (M := mX12_init) fl_12_83 h199 (Or.inr ⟨rfl, rfl, rfl⟩) rfl hl200 dX12_init_189) ?_
  refine ga_blS (fun S201 x202 => ?_)
  refine ga1 (M := mX12_init) (pc' := 193) (k' := 21) (n' := 3629) (r_aload_n (M := mX12_init) (i := 0) rfl dX12_init_192) ?_
  refine ga1 (M := mX12_init) (pc' := 195) (k' := 21) (n' := 3629) (r_bipush (M := mX12_init) (v := 8) (by decide) dX12_init_193) ?_
  refine ga_fk (fun hf203 => ?_)
  refine ga_nk (fun hm204 hM205 => ?_)
  refine ga1 (M := mX12_init) (pc' := 197) (k' := 20) (n' := 3621) (r_newarr15 (M := mX12_init) (B := 8) hm204 hM205 (by decide) hf203 dX12_init_195) ?_
  refine ga_blR (fun b206 S207 x208 => ?_)
  refine ga_tk (fun h209 => ?_)
  refine ga_lk (fun hl210 => ?_)
  refine ga1 (M := mX12_init) (pc' := 200) (k' := 20) (n' := 3621) (r_putR (M := mX12_init) fl_12_86 h209 (Or.inr ⟨rfl, rfl, rfl⟩) rfl hl210 dX12_init_197) ?_
  refine ga_blS (fun S211 x212 => ?_)
  refine ga1 (M := mX12_init) (pc' := 201) (k' := 20) (n' := 3621) (r_aload_n (M := mX12_init) (i := 0) rfl dX12_init_200) ?_
  refine ga1 (M := mX12_init) (pc' := 204) (k' := 20) (n' := 3621) (r_sipush (M := mX12_init) (v := 160) (by decide) dX12_init_201) ?_
  refine ga_fk (fun hf213 => ?_)
  refine ga_nk (fun hm214 hM215 => ?_)
  refine ga1 (M := mX12_init) (pc' := 206) (k' := 19) (n' := 3461) (r_newarr13 (M := mX12_init) (B := 160) hm214 hM215 (by decide) hf213 dX12_init_204) ?_
  refine ga_blR (fun b216 S217 x218 => ?_)
  refine ga_tk (fun h219 => ?_)
  refine ga_lk (fun hl220 => ?_)
  refine ga1 (M := mX12_init) (pc' := 209) (k' := 19) (n' := 3461) (r_putR (M := mX12_init) fl_12_90 h219 (Or.inr ⟨rfl, rfl, rfl⟩) rfl hl220 dX12_init_206) ?_
  refine ga_blS (fun S221 x222 => ?_)
  refine ga1 (M := mX12_init) (pc' := 210) (k' := 19) (n' := 3461) (r_aload_n (M := mX12_init) (i := 0) rfl dX12_init_209) ?_
  refine ga1 (M := mX12_init) (pc' := 211) (k' := 19) (n' := 3461) (r_iconst (M := mX12_init) (v := 0) (by decide) dX12_init_210) ?_
  refine ga_tk (fun h223 => ?_)
  refine ga1 (M := mX12_init) (pc' := 214) (k' := 19) (n' := 3461) (r_putI9 (M := mX12_init) fl_12_94 h223 (Or.inl rfl) rfl dX12_init_211) ?_
  refine ga_blx (fun x224 => ?_)
  refine ga1 (M := mX12_init) (pc' := 215) (k' := 19) (n' := 3461) (r_aload_n (M := mX12_init) (i := 0) rfl dX12_init_214) ?_
  refine ga1 (M := mX12_init) (pc' := 216) (k' := 19) (n' := 3461) (r_iconst (M := mX12_init) (v := 1) (by decide) dX12_init_215) ?_
  refine ga_tk (fun h225 => ?_)
  refine ga1 (M := mX12_init) (pc' := 219) (k' := 19) (n' := 3461) (r_putI9 (M := mX12_init) fl_12_97 h225 (Or.inl rfl) rfl dX12_init_216) ?_
  refine ga_blx (fun x226 => ?_)
  refine ga1 (M := mX12_init) (pc' := 220) (k' := 19) (n' := 3461) (r_aload_n (M := mX12_init) (i := 0) rfl dX12_init_219) ?_
  refine ga1 (M := mX12_init) (pc' := 221) (k' := 19) (n' := 3461) (r_iconst (M := mX12_init) (v := 0) (by decide) dX12_init_220) ?_
  refine ga_tk (fun h227 => ?_)
  refine ga1 (M := mX12_init) (pc' := 224) (k' := 19) (n' := 3461) (r_putI9 (M := mX12_init) fl_12_100 h227 (Or.inl rfl) rfl dX12_init_221) ?_
  refine ga_blx (fun x228 => ?_)
  refine ga1 (M := mX12_init) (pc' := 225) (k' := 19) (n' := 3461) (r_aload_n (M := mX12_init) (i := 0) rfl dX12_init_224) ?_
  refine ga1 (M := mX12_init) (pc' := 227) (k' := 19) (n' := 3461) (r_bipush (M := mX12_init) (v := 12) (by decide) dX12_init_225) ?_
  refine ga_fk (fun hf229 => ?_)
  refine ga_nk (fun hm230 hM231 => ?_)
  refine ga1 (M := mX12_init) (pc' := 229) (k' := 18) (n' := 3449) (r_newarr14 (M := mX12_init) (B := 12) hm230 hM231 (by decide) hf229 dX12_init_227) ?_
  refine ga_blR (fun b232 S233 x234 => ?_)
  refine ga_tk (fun h235 => ?_)
  refine ga_lk (fun hl236 => ?_)
  refine ga1 (M := mX12_init) (pc' := 232) (k' := 18) (n' := 3449) (r_putR (M := mX12_init) fl_12_103 h235 (Or.inr ⟨rfl, rfl, rfl⟩) rfl hl236 dX12_init_229) ?_
  refine ga_blS (fun S237 x238 => ?_)
  refine ga1 (M := mX12_init) (pc' := 233) (k' := 18) (n' := 3449) (r_aload_n (M := mX12_init) (i := 0) rfl dX12_init_232) ?_
  refine ga1 (M := mX12_init) (pc' := 236) (k' := 18) (n' := 3449) (r_sipush (M := mX12_init) (v := 1920) (by decide) dX12_init_233) ?_
  refine ga_fk (fun hf239 => ?_)
  refine ga_nk (fun hm240 hM241 => ?_)
  refine ga1 (M := mX12_init) (pc' := 238) (k' := 17) (n' := 1529) (r_newarr14 (M := mX12_init) (B := 1920) hm240 hM241 (by decide) hf239 dX12_init_236) ?_
  refine ga_blR (fun b242 S243 x244 => ?_)
  refine ga_tk (fun h245 => ?_)
  refine ga_lk (fun hl246 => ?_)
  refine ga1 (M := mX12_init) (pc' := 241) (k' := 17) (n' := 1529) (r_putR (M := mX12_init) fl_12_106 h245 (Or.inr ⟨rfl, rfl, rfl⟩) rfl hl246 dX12_init_238) ?_
  refine ga_blS (fun S247 x248 => ?_)
  refine ga1 (M := mX12_init) (pc' := 242) (k' := 17) (n' := 1529) (r_aload_n (M := mX12_init) (i := 0) rfl dX12_init_241) ?_
  refine ga1 (M := mX12_init) (pc' := 243) (k' := 17) (n' := 1529) (r_iconst (M := mX12_init) (v := 0) (by decide) dX12_init_242) ?_
  refine ga_tk (fun h249 => ?_)
  refine ga1 (M := mX12_init) (pc' := 246) (k' := 17) (n' := 1529) (r_putI9 (M := mX12_init) fl_12_109 h249 (Or.inl rfl) rfl dX12_init_243) ?_
  refine ga_blx (fun x250 => ?_)
  refine ga1 (M := mX12_init) (pc' := 247) (k' := 17) (n' := 1529) (r_aload_n (M := mX12_init) (i := 0) rfl dX12_init_246) ?_
  refine ga1 (M := mX12_init) (pc' := 248) (k' := 17) (n' := 1529) (r_iconst (M := mX12_init) (v := 0) (by decide) dX12_init_247) ?_
  refine ga_tk (fun h251 => ?_)
  refine ga1 (M := mX12_init) (pc' := 251) (k' := 17) (n' := 1529) (r_putI9 (M := mX12_init) fl_12_112 h251 (Or.inl rfl) rfl dX12_init_248) ?_
  refine ga_blx (fun x252 => ?_)
  refine ga1 (M := mX12_init) (pc' := 252) (k' := 17) (n' := 1529) (r_aload_n (M := mX12_init) (i := 0) rfl dX12_init_251) ?_
  refine ga1 (M := mX12_init) (pc' := 253) (k' := 17) (n' := 1529) (r_iconst (M := mX12_init) (v := 0) (by decide) dX12_init_252) ?_
  refine ga_tk (fun h253 => ?_)
  refine ga1 (M := mX12_init) (pc' := 256) (k' := 17) (n' := 1529) (r_putI9 (M := mX12_init) fl_12_115 h253 (Or.inl rfl) rfl dX12_init_253) ?_
  refine ga_blx (fun x254 => ?_)
  refine ga1 (M := mX12_init) (pc' := 257) (k' := 17) (n' := 1529) (r_aload_n (M := mX12_init) (i := 0) rfl dX12_init_256) ?_
  refine ga1 (M := mX12_init) (pc' := 258) (k' := 17) (n' := 1529) (r_iconst (M := mX12_init) (v := 0) (by decide) dX12_init_257) ?_
  refine ga_tk (fun h255 => ?_)
  refine ga1 (M := mX12_init) (pc' := 261) (k' := 17) (n' := 1529) (r_putI9 (M := mX12_init) fl_12_118 h255 (Or.inl rfl) rfl dX12_init_258) ?_
  refine ga_blx (fun x256 => ?_)
  refine ga1 (M := mX12_init) (pc' := 262) (k' := 17) (n' := 1529) (r_aload_n (M := mX12_init) (i := 0) rfl dX12_init_261) ?_
  refine ga1 (M := mX12_init) (pc' := 265) (k' := 17) (n' := 1529) (r_sipush (M := mX12_init) (v := 161) (by decide) dX12_init_262) ?_
  refine ga_fk (fun hf257 => ?_)
  refine ga_nk (fun hm258 hM259 => ?_)
  refine ga1 (M := mX12_init) (pc' := 267) (k' := 16) (n' := 1368) (r_newarr14 (M := mX12_init) (B := 161) hm258 hM259 (by decide) hf257 dX12_init_265) ?_
  refine ga_blR (fun b260 S261 x262 => ?_)
  refine ga_tk (fun h263 => ?_)
  refine ga_lk (fun hl264 => ?_)
  refine ga1 (M := mX12_init) (pc' := 270) (k' := 16) (n' := 1368) (r_putR (M := mX12_init) fl_12_121 h263 (Or.inr ⟨rfl, rfl, rfl⟩) rfl hl264 dX12_init_267) ?_
  refine ga_blS (fun S265 x266 => ?_)
  refine ga1 (M := mX12_init) (pc' := 271) (k' := 16) (n' := 1368) (r_aload_n (M := mX12_init) (i := 0) rfl dX12_init_270) ?_
  refine ga1 (M := mX12_init) (pc' := 273) (k' := 16) (n' := 1368) (r_bipush (M := mX12_init) (v := 7) (by decide) dX12_init_271) ?_
  refine ga_fk (fun hf267 => ?_)
  refine ga_nk (fun hm268 hM269 => ?_)
  refine ga1 (M := mX12_init) (pc' := 275) (k' := 15) (n' := 1361) (r_newarr15 (M := mX12_init) (B := 7) hm268 hM269 (by decide) hf267 dX12_init_273) ?_
  refine ga_blR (fun b270 S271 x272 => ?_)
  refine ga_tk (fun h273 => ?_)
  refine ga_lk (fun hl274 => ?_)
  refine ga1 (M := mX12_init) (pc' := 278) (k' := 15) (n' := 1361) (r_putR (M := mX12_init) fl_12_124 h273 (Or.inr ⟨rfl, rfl, rfl⟩) rfl hl274 dX12_init_275) ?_
  refine ga_blS (fun S275 x276 => ?_)
  refine ga1 (M := mX12_init) (pc' := 279) (k' := 15) (n' := 1361) (r_aload_n (M := mX12_init) (i := 0) rfl dX12_init_278) ?_
  refine ga1 (M := mX12_init) (pc' := 280) (k' := 15) (n' := 1361) (r_iconst (M := mX12_init) (v := 0) (by decide) dX12_init_279) ?_
  refine ga_tk (fun h277 => ?_)
  refine ga1 (M := mX12_init) (pc' := 283) (k' := 15) (n' := 1361) (r_putI9 (M := mX12_init) fl_12_127 h277 (Or.inl rfl) rfl dX12_init_280) ?_
  refine ga_blx (fun x278 => ?_)
  refine ga1 (M := mX12_init) (pc' := 284) (k' := 15) (n' := 1361) (r_aload_n (M := mX12_init) (i := 0) rfl dX12_init_283) ?_
  refine ga1 (M := mX12_init) (pc' := 285) (k' := 15) (n' := 1361) (r_iconst (M := mX12_init) (v := 0) (by decide) dX12_init_284) ?_
  refine ga_tk (fun h279 => ?_)
  refine ga1 (M := mX12_init) (pc' := 288) (k' := 15) (n' := 1361) (r_putI9 (M := mX12_init) fl_12_130 h279 (Or.inl rfl) rfl dX12_init_285) ?_
  refine ga_blx (fun x280 => ?_)
  refine ga1 (M := mX12_init) (pc' := 289) (k' := 15) (n' := 1361) (r_aload_n (M := mX12_init) (i := 0) rfl dX12_init_288) ?_
  refine ga1 (M := mX12_init) (pc' := 290) (k' := 15) (n' := 1361) (r_iconst (M := mX12_init) (v := 0) (by decide) dX12_init_289) ?_
  refine ga_tk (fun h281 => ?_)
  refine ga1 (M := mX12_init) (pc' := 293) (k' := 15) (n' := 1361) (r_putI9 (M := mX12_init) fl_12_133 h281 (Or.inl rfl) rfl dX12_init_290) ?_
  refine ga_blx (fun x282 => ?_)
  refine ga1 (M := mX12_init) (pc' := 294) (k' := 15) (n' := 1361) (r_aload_n (M := mX12_init) (i := 0) rfl dX12_init_293) ?_
  refine ga1 (M := mX12_init) (pc' := 295) (k' := 15) (n' := 1361) (r_iconst (M := mX12_init) (v := 0) (by decide) dX12_init_294) ?_
  refine ga_tk (fun h283 => ?_)
  refine ga1 (M := mX12_init) (pc' := 298) (k' := 15) (n' := 1361) (r_putI9 (M := mX12_init) fl_12_136 h283 (Or.inl rfl) rfl dX12_init_295) ?_
  refine ga_blx (fun x284 => ?_)
  refine ga1 (M := mX12_init) (pc' := 299) (k' := 15) (n' := 1361) (r_aload_n (M := mX12_init) (i := 0) rfl dX12_init_298) ?_
  refine ga1 (M := mX12_init) (pc' := 301) (k' := 15) (n' := 1361) (r_bipush (M := mX12_init) (v := 6) (by decide) dX12_init_299) ?_
  refine ga_fk (fun hf285 => ?_)
  refine ga_nk (fun hm286 hM287 => ?_)
  refine ga1 (M := mX12_init) (pc' := 303) (k' := 14) (n' := 1355) (r_newarr14 (M := mX12_init) (B := 6) hm286 hM287 (by decide) hf285 dX12_init_301) ?_
  refine ga_blR (fun b288 S289 x290 => ?_)
  refine ga_tk (fun h291 => ?_)
  refine ga_lk (fun hl292 => ?_)
  refine ga1 (M := mX12_init) (pc' := 306) (k' := 14) (n' := 1355) (r_putR (M := mX12_init) fl_12_139 h291 (Or.inr ⟨rfl, rfl, rfl⟩) rfl hl292 dX12_init_303) ?_
  refine ga_blS (fun S293 x294 => ?_)
  refine ga1 (M := mX12_init) (pc' := 307) (k' := 14) (n' := 1355) (r_aload_n (M := mX12_init) (i := 0) rfl dX12_init_306) ?_
  refine ga1 (M := mX12_init) (pc' := 310) (k' := 14) (n' := 1355) (r_sipush (M := mX12_init) (v := 161) (by decide) dX12_init_307) ?_
  refine ga_fk (fun hf295 => ?_)
  refine ga_nk (fun hm296 hM297 => ?_)
  refine ga1 (M := mX12_init) (pc' := 312) (k' := 13) (n' := 1194) (r_newarr14 (M := mX12_init) (B := 161) hm296 hM297 (by decide) hf295 dX12_init_310) ?_
  refine ga_blR (fun b298 S299 x300 => ?_)
  refine ga_tk (fun h301 => ?_)
  refine ga_lk (fun hl302 => ?_)
  refine ga1 (M := mX12_init) (pc' := 315) (k' := 13) (n' := 1194) (r_putR (M := mX12_init) fl_12_142 h301 (Or.inr ⟨rfl, rfl, rfl⟩) rfl hl302 dX12_init_312) ?_
  refine ga_blS (fun S303 x304 => ?_)
  refine ga1 (M := mX12_init) (pc' := 316) (k' := 13) (n' := 1194) (r_aload_n (M := mX12_init) (i := 0) rfl dX12_init_315) ?_
  refine ga1 (M := mX12_init) (pc' := 317) (k' := 13) (n' := 1194) (r_iconst (M := mX12_init) (v := 0) (by decide) dX12_init_316) ?_
  refine ga_tk (fun h305 => ?_)
  refine ga1 (M := mX12_init) (pc' := 320) (k' := 13) (n' := 1194) (r_putI9 (M := mX12_init) fl_12_145 h305 (Or.inl rfl) rfl dX12_init_317) ?_
  refine ga_blx (fun x306 => ?_)
  refine ga1 (M := mX12_init) (pc' := 321) (k' := 13) (n' := 1194) (r_aload_n (M := mX12_init) (i := 0) rfl dX12_init_320) ?_
  refine ga1 (M := mX12_init) (pc' := 322) (k' := 13) (n' := 1194) (r_iconst (M := mX12_init) (v := 0) (by decide) dX12_init_321) ?_
  refine ga_tk (fun h307 => ?_)
  refine ga1 (M := mX12_init) (pc' := 325) (k' := 13) (n' := 1194) (r_putI9 (M := mX12_init) fl_12_148 h307 (Or.inl rfl) rfl dX12_init_322) ?_
  refine ga_blx (fun x308 => ?_)
  refine ga1 (M := mX12_init) (pc' := 326) (k' := 13) (n' := 1194) (r_aload_n (M := mX12_init) (i := 0) rfl dX12_init_325) ?_
  refine ga1 (M := mX12_init) (pc' := 327) (k' := 13) (n' := 1194) (r_iconst (M := mX12_init) (v := 0) (by decide) dX12_init_326) ?_
  refine ga_tk (fun h309 => ?_)
  refine ga1 (M := mX12_init) (pc' := 330) (k' := 13) (n' := 1194) (r_putI9 (M := mX12_init) fl_12_151 h309 (Or.inl rfl) rfl dX12_init_327) ?_
  refine ga_blx (fun x310 => ?_)
  refine ga1 (M := mX12_init) (pc' := 331) (k' := 13) (n' := 1194) (r_aload_n (M := mX12_init) (i := 0) rfl dX12_init_330) ?_
  refine ga1 (M := mX12_init) (pc' := 334) (k' := 13) (n' := 1194) (r_sipush (M := mX12_init) (v := 300) (by decide) dX12_init_331) ?_
  refine ga_fk (fun hf311 => ?_)
  refine ga_nk (fun hm312 hM313 => ?_)
  refine ga1 (M := mX12_init) (pc' := 336) (k' := 12) (n' := 894) (r_newarr14 (M := mX12_init) (B := 300) hm312 hM313 (by decide) hf311 dX12_init_334) ?_
  refine ga_blR (fun b314 S315 x316 => ?_)
  refine ga_tk (fun h317 => ?_)
  refine ga_lk (fun hl318 => ?_)
  refine ga1 (M := mX12_init) (pc' := 339) (k' := 12) (n' := 894) (r_putR (M := mX12_init) fl_12_154 h317 (Or.inr ⟨rfl, rfl, rfl⟩) rfl hl318 dX12_init_336) ?_
  refine ga_blS (fun S319 x320 => ?_)
  refine ga1 (M := mX12_init) (pc' := 340) (k' := 12) (n' := 894) (r_aload_n (M := mX12_init) (i := 0) rfl dX12_init_339) ?_
  refine ga1 (M := mX12_init) (pc' := 343) (k' := 12) (n' := 894) (r_sipush (M := mX12_init) (v := 300) (by decide) dX12_init_340) ?_
  refine ga_fk (fun hf321 => ?_)
  refine ga_nk (fun hm322 hM323 => ?_)
  refine ga1 (M := mX12_init) (pc' := 345) (k' := 11) (n' := 594) (r_newarr14 (M := mX12_init) (B := 300) hm322 hM323 (by decide) hf321 dX12_init_343) ?_
  refine ga_blR (fun b324 S325 x326 => ?_)
  refine ga_tk (fun h327 => ?_)
  refine ga_lk (fun hl328 => ?_)
  refine ga1 (M := mX12_init) (pc' := 348) (k' := 11) (n' := 594) (r_putR (M := mX12_init) fl_12_157 h327 (Or.inr ⟨rfl, rfl, rfl⟩) rfl hl328 dX12_init_345) ?_
  refine ga_blS (fun S329 x330 => ?_)
  refine ga1 (M := mX12_init) (pc' := 349) (k' := 11) (n' := 594) (r_aload_n (M := mX12_init) (i := 0) rfl dX12_init_348) ?_
  refine ga1 (M := mX12_init) (pc' := 352) (k' := 11) (n' := 594) (r_sipush (M := mX12_init) (v := 300) (by decide) dX12_init_349) ?_
  refine ga_fk (fun hf331 => ?_)
  refine ga_nk (fun hm332 hM333 => ?_)
  refine ga1 (M := mX12_init) (pc' := 354) (k' := 10) (n' := 294) (r_newarr14 (M := mX12_init) (B := 300) hm332 hM333 (by decide) hf331 dX12_init_352) ?_
  refine ga_blR (fun b334 S335 x336 => ?_)
  refine ga_tk (fun h337 => ?_)
  refine ga_lk (fun hl338 => ?_)
  refine ga1 (M := mX12_init) (pc' := 357) (k' := 10) (n' := 294) (r_putR (M := mX12_init) fl_12_160 h337 (Or.inr ⟨rfl, rfl, rfl⟩) rfl hl338 dX12_init_354) ?_
  refine ga_blS (fun S339 x340 => ?_)
  refine ga1 (M := mX12_init) (pc' := 358) (k' := 10) (n' := 294) (r_aload_n (M := mX12_init) (i := 0) rfl dX12_init_357) ?_
  refine ga1 (M := mX12_init) (pc' := 360) (k' := 10) (n' := 294) (r_bipush (M := mX12_init) (v := 12) (by decide) dX12_init_358) ?_
  refine ga_fk (fun hf341 => ?_)
  refine ga_nk (fun hm342 hM343 => ?_)
  refine ga1 (M := mX12_init) (pc' := 362) (k' := 9) (n' := 282) (r_newarr14 (M := mX12_init) (B := 12) hm342 hM343 (by decide) hf341 dX12_init_360) ?_
  refine ga_blR (fun b344 S345 x346 => ?_)
  refine ga_tk (fun h347 => ?_)
  refine ga_lk (fun hl348 => ?_)
  refine ga1 (M := mX12_init) (pc' := 365) (k' := 9) (n' := 282) (r_putR (M := mX12_init) fl_12_163 h347 (Or.inr ⟨rfl, rfl, rfl⟩) rfl hl348 dX12_init_362) ?_
  refine ga_blS (fun S349 x350 => ?_)
  refine ga1 (M := mX12_init) (pc' := 366) (k' := 9) (n' := 282) (r_aload_n (M := mX12_init) (i := 0) rfl dX12_init_365) ?_
  refine ga1 (M := mX12_init) (pc' := 368) (k' := 9) (n' := 282) (r_bipush (M := mX12_init) (v := 12) (by decide) dX12_init_366) ?_
  refine ga_fk (fun hf351 => ?_)
  refine ga_nk (fun hm352 hM353 => ?_)
  refine ga1 (M := mX12_init) (pc' := 370) (k' := 8) (n' := 270) (r_newarr14 (M := mX12_init) (B := 12) hm352 hM353 (by decide) hf351 dX12_init_368) ?_
  refine ga_blR (fun b354 S355 x356 => ?_)
  refine ga_tk (fun h357 => ?_)
  refine ga_lk (fun hl358 => ?_)
  refine ga1 (M := mX12_init) (pc' := 373) (k' := 8) (n' := 270) (r_putR (M := mX12_init) fl_12_166 h357 (Or.inr ⟨rfl, rfl, rfl⟩) rfl hl358 dX12_init_370) ?_
  refine ga_blS (fun S359 x360 => ?_)
  refine ga1 (M := mX12_init) (pc' := 374) (k' := 8) (n' := 270) (r_aload_n (M := mX12_init) (i := 0) rfl dX12_init_373) ?_
  refine ga1 (M := mX12_init) (pc' := 376) (k' := 8) (n' := 270) (r_bipush (M := mX12_init) (v := 16) (by decide) dX12_init_374) ?_
  refine ga_fk (fun hf361 => ?_)
  refine ga_nk (fun hm362 hM363 => ?_)
  refine ga1 (M := mX12_init) (pc' := 378) (k' := 7) (n' := 254) (r_newarr14 (M := mX12_init) (B := 16) hm362 hM363 (by decide) hf361 dX12_init_376) ?_
  refine ga_blR (fun b364 S365 x366 => ?_)
  refine ga_tk (fun h367 => ?_)
  refine ga_lk (fun hl368 => ?_)
  refine ga1 (M := mX12_init) (pc' := 381) (k' := 7) (n' := 254) (r_putR (M := mX12_init) fl_12_169 h367 (Or.inr ⟨rfl, rfl, rfl⟩) rfl hl368 dX12_init_378) ?_
  refine ga_blS (fun S369 x370 => ?_)
  refine ga1 (M := mX12_init) (pc' := 382) (k' := 7) (n' := 254) (r_aload_n (M := mX12_init) (i := 0) rfl dX12_init_381) ?_
  refine ga1 (M := mX12_init) (pc' := 384) (k' := 7) (n' := 254) (r_bipush (M := mX12_init) (v := 40) (by decide) dX12_init_382) ?_
  refine ga_fk (fun hf371 => ?_)
  refine ga_nk (fun hm372 hM373 => ?_)
  refine ga1 (M := mX12_init) (pc' := 386) (k' := 6) (n' := 214) (r_newarr14 (M := mX12_init) (B := 40) hm372 hM373 (by decide) hf371 dX12_init_384) ?_
  refine ga_blR (fun b374 S375 x376 => ?_)
  refine ga_tk (fun h377 => ?_)
  refine ga_lk (fun hl378 => ?_)
  refine ga1 (M := mX12_init) (pc' := 389) (k' := 6) (n' := 214) (r_putR (M := mX12_init) fl_12_172 h377 (Or.inr ⟨rfl, rfl, rfl⟩) rfl hl378 dX12_init_386) ?_
  refine ga_blS (fun S379 x380 => ?_)
  refine ga1 (M := mX12_init) (pc' := 390) (k' := 6) (n' := 214) (r_aload_n (M := mX12_init) (i := 0) rfl dX12_init_389) ?_
  refine ga1 (M := mX12_init) (pc' := 392) (k' := 6) (n' := 214) (r_bipush (M := mX12_init) (v := 8) (by decide) dX12_init_390) ?_
  refine ga_fk (fun hf381 => ?_)
  refine ga_nk (fun hm382 hM383 => ?_)
  refine ga1 (M := mX12_init) (pc' := 394) (k' := 5) (n' := 206) (r_newarr15 (M := mX12_init) (B := 8) hm382 hM383 (by decide) hf381 dX12_init_392) ?_
  refine ga_blR (fun b384 S385 x386 => ?_)
  refine ga_tk (fun h387 => ?_)
  refine ga_lk (fun hl388 => ?_)
  refine ga1 (M := mX12_init) (pc' := 397) (k' := 5) (n' := 206) (r_putR (M := mX12_init) fl_12_175 h387 (Or.inr ⟨rfl, rfl, rfl⟩) rfl hl388 dX12_init_394) ?_
  refine ga_blS (fun S389 x390 => ?_)
  refine ga1 (M := mX12_init) (pc' := 398) (k' := 5) (n' := 206) (r_aload_n (M := mX12_init) (i := 0) rfl dX12_init_397) ?_
  refine ga1 (M := mX12_init) (pc' := 399) (k' := 5) (n' := 206) (r_iconst (M := mX12_init) (v := 0) (by decide) dX12_init_398) ?_
  refine ga_tk (fun h391 => ?_)
  refine ga1 (M := mX12_init) (pc' := 402) (k' := 5) (n' := 206) (r_putI9 (M := mX12_init) fl_12_178 h391 (Or.inl rfl) rfl dX12_init_399) ?_
  refine ga_blx (fun x392 => ?_)
  refine ga1 (M := mX12_init) (pc' := 403) (k' := 5) (n' := 206) (r_aload_n (M := mX12_init) (i := 0) rfl dX12_init_402) ?_
  refine ga1 (M := mX12_init) (pc' := 404) (k' := 5) (n' := 206) (r_iconst (M := mX12_init) (v := 0) (by decide) dX12_init_403) ?_
  refine ga_tk (fun h393 => ?_)
  refine ga1 (M := mX12_init) (pc' := 407) (k' := 5) (n' := 206) (r_putI9 (M := mX12_init) fl_12_181 h393 (Or.inl rfl) rfl dX12_init_404) ?_
  refine ga_blx (fun x394 => ?_)
  refine ga1 (M := mX12_init) (pc' := 408) (k' := 5) (n' := 206) (r_aload_n (M := mX12_init) (i := 0) rfl dX12_init_407) ?_
  refine ga1 (M := mX12_init) (pc' := 409) (k' := 5) (n' := 206) (r_iconst (M := mX12_init) (v := 0) (by decide) dX12_init_408) ?_
  refine ga_tk (fun h395 => ?_)
  refine ga1 (M := mX12_init) (pc' := 412) (k' := 5) (n' := 206) (r_putI9 (M := mX12_init) fl_12_184 h395 (Or.inl rfl) rfl dX12_init_409) ?_
  refine ga_blx (fun x396 => ?_)
  refine ga1 (M := mX12_init) (pc' := 413) (k' := 5) (n' := 206) (r_aload_n (M := mX12_init) (i := 0) rfl dX12_init_412) ?_
  refine ga1 (M := mX12_init) (pc' := 414) (k' := 5) (n' := 206) (r_iconst (M := mX12_init) (v := 0) (by decide) dX12_init_413) ?_
  refine ga_tk (fun h397 => ?_)
  refine ga1 (M := mX12_init) (pc' := 417) (k' := 5) (n' := 206) (r_putI9 (M := mX12_init) fl_12_187 h397 (Or.inl rfl) rfl dX12_init_414) ?_
  refine ga_blx (fun x398 => ?_)
  refine ga1 (M := mX12_init) (pc' := 418) (k' := 5) (n' := 206) (r_aload_n (M := mX12_init) (i := 0) rfl dX12_init_417) ?_
  refine ga1 (M := mX12_init) (pc' := 419) (k' := 5) (n' := 206) (r_iconst (M := mX12_init) (v := 0) (by decide) dX12_init_418) ?_
  refine ga_tk (fun h399 => ?_)
  refine ga1 (M := mX12_init) (pc' := 422) (k' := 5) (n' := 206) (r_putI9 (M := mX12_init) fl_12_190 h399 (Or.inl rfl) rfl dX12_init_419) ?_
  refine ga_blx (fun x400 => ?_)
  refine ga1 (M := mX12_init) (pc' := 423) (k' := 5) (n' := 206) (r_aload_n (M := mX12_init) (i := 0) rfl dX12_init_422) ?_
  refine ga1 (M := mX12_init) (pc' := 424) (k' := 5) (n' := 206) (r_iconst (M := mX12_init) (v := 0) (by decide) dX12_init_423) ?_
  refine ga_tk (fun h401 => ?_)
  refine ga1 (M := mX12_init) (pc' := 427) (k' := 5) (n' := 206) (r_putI9 (M := mX12_init) fl_12_193 h401 (Or.inl rfl) rfl dX12_init_424) ?_
  refine ga_blx (fun x402 => ?_)
  refine ga1 (M := mX12_init) (pc' := 428) (k' := 5) (n' := 206) (r_aload_n (M := mX12_init) (i := 0) rfl dX12_init_427) ?_
  refine ga1 (M := mX12_init) (pc' := 430) (k' := 5) (n' := 206) (r_bipush (M := mX12_init) (v := 7) (by decide) dX12_init_428) ?_
  refine ga_fk (fun hf403 => ?_)
  refine ga_nk (fun hm404 hM405 => ?_)
  refine ga1 (M := mX12_init) (pc' := 432) (k' := 4) (n' := 199) (r_newarr14 (M := mX12_init) (B := 7) hm404 hM405 (by decide) hf403 dX12_init_430) ?_
  refine ga_blR (fun b406 S407 x408 => ?_)
  refine ga_tk (fun h409 => ?_)
  refine ga_lk (fun hl410 => ?_)
  refine ga1 (M := mX12_init) (pc' := 435) (k' := 4) (n' := 199) (r_putR (M := mX12_init) fl_12_196 h409 (Or.inr ⟨rfl, rfl, rfl⟩) rfl hl410 dX12_init_432) ?_
  refine ga_blS (fun S411 x412 => ?_)
  refine ga1 (M := mX12_init) (pc' := 436) (k' := 4) (n' := 199) (r_aload_n (M := mX12_init) (i := 0) rfl dX12_init_435) ?_
  refine ga1 (M := mX12_init) (pc' := 438) (k' := 4) (n' := 199) (r_bipush (M := mX12_init) (v := 31) (by decide) dX12_init_436) ?_
  refine ga_fk (fun hf413 => ?_)
  refine ga_nk (fun hm414 hM415 => ?_)
  refine ga1 (M := mX12_init) (pc' := 440) (k' := 3) (n' := 168) (r_newarr14 (M := mX12_init) (B := 31) hm414 hM415 (by decide) hf413 dX12_init_438) ?_
  refine ga_blR (fun b416 S417 x418 => ?_)
  refine ga_tk (fun h419 => ?_)
  refine ga_lk (fun hl420 => ?_)
  refine ga1 (M := mX12_init) (pc' := 443) (k' := 3) (n' := 168) (r_putR (M := mX12_init) fl_12_199 h419 (Or.inr ⟨rfl, rfl, rfl⟩) rfl hl420 dX12_init_440) ?_
  refine ga_blS (fun S421 x422 => ?_)
  refine ga1 (M := mX12_init) (pc' := 444) (k' := 3) (n' := 168) (r_aload_n (M := mX12_init) (i := 0) rfl dX12_init_443) ?_
  refine ga1 (M := mX12_init) (pc' := 445) (k' := 3) (n' := 168) (r_iconst (M := mX12_init) (v := 4) (by decide) dX12_init_444) ?_
  refine ga_fk (fun hf423 => ?_)
  refine ga_nk (fun hm424 hM425 => ?_)
  refine ga1 (M := mX12_init) (pc' := 447) (k' := 2) (n' := 164) (r_newarr14 (M := mX12_init) (B := 4) hm424 hM425 (by decide) hf423 dX12_init_445) ?_
  refine ga_blR (fun b426 S427 x428 => ?_)
  refine ga1 (M := mX12_init) (pc' := 448) (k' := 2) (n' := 164) (r_dup (M := mX12_init) rfl dX12_init_447) ?_
  refine ga1 (M := mX12_init) (pc' := 449) (k' := 2) (n' := 164) (r_iconst (M := mX12_init) (v := 0) (by decide) dX12_init_448) ?_
  refine ga1 (M := mX12_init) (pc' := 450) (k' := 2) (n' := 164) (r_iconst (M := mX12_init) (v := (-1)) (by decide) dX12_init_449) ?_
  refine ga_tk (fun h429 => ?_)
  refine ga_ck (fun hi430 => ?_)
  refine ga1 (M := mX12_init) (pc' := 451) (k' := 2) (n' := 164) (r_iast (M := mX12_init) h429 hi430 dX12_init_450) ?_
  refine ga_blx (fun x431 => ?_)
  refine ga1 (M := mX12_init) (pc' := 452) (k' := 2) (n' := 164) (r_dup (M := mX12_init) rfl dX12_init_451) ?_
  refine ga1 (M := mX12_init) (pc' := 453) (k' := 2) (n' := 164) (r_iconst (M := mX12_init) (v := 1) (by decide) dX12_init_452) ?_
  refine ga1 (M := mX12_init) (pc' := 454) (k' := 2) (n' := 164) (r_iconst (M := mX12_init) (v := (-1)) (by decide) dX12_init_453) ?_
  refine ga_tk (fun h432 => ?_)
  refine ga_ck (fun hi433 => ?_)
  refine ga1 (M := mX12_init) (pc' := 455) (k' := 2) (n' := 164) (r_iast (M := mX12_init) h432 hi433 dX12_init_454) ?_
  refine ga_blx (fun x434 => ?_)
  refine ga1 (M := mX12_init) (pc' := 456) (k' := 2) (n' := 164) (r_dup (M := mX12_init) rfl dX12_init_455) ?_
  refine ga1 (M := mX12_init) (pc' := 457) (k' := 2) (n' := 164) (r_iconst (M := mX12_init) (v := 2) (by decide) dX12_init_456) ?_
  refine ga1 (M := mX12_init) (pc' := 458) (k' := 2) (n' := 164) (r_iconst (M := mX12_init) (v := (-1)) (by decide) dX12_init_457) ?_
  refine ga_tk (fun h435 => ?_)
  refine ga_ck (fun hi436 => ?_)
  refine ga1 (M := mX12_init) (pc' := 459) (k' := 2) (n' := 164) (r_iast (M := mX12_init) h435 hi436 dX12_init_458) ?_
  refine ga_blx (fun x437 => ?_)
  refine ga1 (M := mX12_init) (pc' := 460) (k' := 2) (n' := 164) (r_dup (M := mX12_init) rfl dX12_init_459) ?_
  refine ga1 (M := mX12_init) (pc' := 461) (k' := 2) (n' := 164) (r_iconst (M := mX12_init) (v := 3) (by decide) dX12_init_460) ?_
  refine ga1 (M := mX12_init) (pc' := 462) (k' := 2) (n' := 164) (r_iconst (M := mX12_init) (v := (-1)) (by decide) dX12_init_461) ?_
  refine ga_tk (fun h438 => ?_)
  refine ga_ck (fun hi439 => ?_)
  refine ga1 (M := mX12_init) (pc' := 463) (k' := 2) (n' := 164) (r_iast (M := mX12_init) h438 hi439 dX12_init_462) ?_
  refine ga_blx (fun x440 => ?_)
  refine ga_tk (fun h441 => ?_)
  refine ga_lk (fun hl442 => ?_)
  refine ga1 (M := mX12_init) (pc' := 466) (k' := 2) (n' := 164) (r_putR (M := mX12_init) fl_12_202 h441 (Or.inr ⟨rfl, rfl, rfl⟩) rfl hl442 dX12_init_463) ?_
  refine ga_blS (fun S443 x444 => ?_)
  refine ga1 (M := mX12_init) (pc' := 467) (k' := 2) (n' := 164) (r_aload_n (M := mX12_init) (i := 0) rfl dX12_init_466) ?_
  refine ga1 (M := mX12_init) (pc' := 468) (k' := 2) (n' := 164) (r_iconst (M := mX12_init) (v := 4) (by decide) dX12_init_467) ?_
  refine ga_fk (fun hf445 => ?_)
  refine ga_nk (fun hm446 hM447 => ?_)
  refine ga1 (M := mX12_init) (pc' := 470) (k' := 1) (n' := 160) (r_newarr14 (M := mX12_init) (B := 4) hm446 hM447 (by decide) hf445 dX12_init_468) ?_
  refine ga_blR (fun b448 S449 x450 => ?_)
  refine ga_tk (fun h451 => ?_)
  refine ga_lk (fun hl452 => ?_)
  refine ga1 (M := mX12_init) (pc' := 473) (k' := 1) (n' := 160) (r_putR (M := mX12_init) fl_12_205 h451 (Or.inr ⟨rfl, rfl, rfl⟩) rfl hl452 dX12_init_470) ?_
  refine ga_blS (fun S453 x454 => ?_)
  refine ga1 (M := mX12_init) (pc' := 474) (k' := 1) (n' := 160) (r_aload_n (M := mX12_init) (i := 0) rfl dX12_init_473) ?_
  refine ga1 (M := mX12_init) (pc' := 477) (k' := 1) (n' := 160) (r_sipush (M := mX12_init) (v := 160) (by decide) dX12_init_474) ?_
  refine ga_fk (fun hf455 => ?_)
  refine ga_nk (fun hm456 hM457 => ?_)
  refine ga1 (M := mX12_init) (pc' := 479) (k' := 0) (n' := 0) (r_newarr14 (M := mX12_init) (B := 160) hm456 hM457 (by decide) hf455 dX12_init_477) ?_
  refine ga_blR (fun b458 S459 x460 => ?_)
  refine ga_tk (fun h461 => ?_)
  refine ga_lk (fun hl462 => ?_)
  refine ga1 (M := mX12_init) (pc' := 482) (k' := 0) (n' := 0) (r_putR (M := mX12_init) fl_12_208 h461 (Or.inr ⟨rfl, rfl, rfl⟩) rfl hl462 dX12_init_479) ?_
  refine ga_blS (fun S463 x464 => ?_)
  refine ga1 (M := mX12_init) (pc' := 483) (k' := 0) (n' := 0) (r_aload_n (M := mX12_init) (i := 0) rfl dX12_init_482) ?_
  refine ga1 (M := mX12_init) (pc' := 485) (k' := 0) (n' := 0) (r_bipush (M := mX12_init) (v := 6) (by decide) dX12_init_483) ?_
  refine ga1 (M := mX12_init) (pc' := 486) (k' := 0) (n' := 0) (r_iload_n (M := mX12_init) (i := 1) rfl dX12_init_485) ?_
  refine ga1 (M := mX12_init) (pc' := 488) (k' := 0) (n' := 0) (r_bipush (M := mX12_init) (v := 7) (by decide) dX12_init_486) ?_
  refine ga1 (M := mX12_init) (pc' := 489) (k' := 0) (n' := 0) (r_irem (M := mX12_init) (by decide) dX12_init_488) ?_
  refine ga1 (M := mX12_init) (pc' := 491) (k' := 0) (n' := 0) (r_bipush (M := mX12_init) (v := 7) (by decide) dX12_init_489) ?_
  refine ga1 (M := mX12_init) (pc' := 492) (k' := 0) (n' := 0) (r_iadd (M := mX12_init) dX12_init_491) ?_
  refine ga1 (M := mX12_init) (pc' := 494) (k' := 0) (n' := 0) (r_bipush (M := mX12_init) (v := 7) (by decide) dX12_init_492) ?_
  refine ga1 (M := mX12_init) (pc' := 495) (k' := 0) (n' := 0) (r_irem (M := mX12_init) (by decide) dX12_init_494) ?_
  refine ga1 (M := mX12_init) (pc' := 496) (k' := 0) (n' := 0) (r_iadd (M := mX12_init) dX12_init_495) ?_
  refine ga_tk (fun h465 => ?_)
  refine ga1 (M := mX12_init) (pc' := 499) (k' := 0) (n' := 0) (r_putI9 (M := mX12_init) fl_12_211 h465 (Or.inr ⟨rfl, rfl, rfl⟩) rfl dX12_init_496) ?_
  refine ga_blx (fun x466 => ?_)
  refine ga1 (M := mX12_init) (pc' := 500) (k' := 0) (n' := 0) (r_iconst (M := mX12_init) (v := 0) (by decide) dX12_init_499) ?_
  refine ga1 (M := mX12_init) (pc' := 501) (ls' := [some (.ref a0), some (.int a1), some (.int 0)]) (k' := 0) (n' := 0) (r_istore_n (M := mX12_init) (ls := [some (.ref a0), some (.int a1), none]) (i := 2) (v := 0) (by decide) rfl dX12_init_500) ?_
  refine ga1 (M := mX12_init) (pc' := 502) (k' := 0) (n' := 0) (r_iload_n (M := mX12_init) (i := 2) rfl dX12_init_501) ?_
  refine ga1 (M := mX12_init) (pc' := 504) (k' := 0) (n' := 0) (r_bipush (M := mX12_init) (v := 6) (by decide) dX12_init_502) ?_
  refine ga1 (M := mX12_init) (pc' := 507) (k' := 0) (n' := 0) (fun kk => r_icmp_ge (M := mX12_init) (tgt := 530) dX12_init_504 (by decide) (fun h => absurd h (by decide)) (fun _ => kk)) ?_
  refine ga1 (M := mX12_init) (pc' := 508) (k' := 0) (n' := 0) (r_aload_n (M := mX12_init) (i := 0) rfl dX12_init_507) ?_
  refine ga_tk (fun h467 => ?_)
  refine ga_rfk (fun b468 hb469 => ?_)
  refine ga1 (M := mX12_init) (pc' := 511) (k' := 0) (n' := 0) (r_getR (M := mX12_init) fl_12_22 h467 rfl hb469 dX12_init_508) ?_
  refine ga1 (M := mX12_init) (pc' := 512) (k' := 0) (n' := 0) (r_iload_n (M := mX12_init) (i := 2) rfl dX12_init_511) ?_
  refine ga1 (M := mX12_init) (pc' := 513) (k' := 0) (n' := 0) (r_iload_n (M := mX12_init) (i := 2) rfl dX12_init_512) ?_
  refine ga1 (M := mX12_init) (pc' := 514) (k' := 0) (n' := 0) (r_iconst (M := mX12_init) (v := 5) (by decide) dX12_init_513) ?_
  refine ga1 (M := mX12_init) (pc' := 515) (k' := 0) (n' := 0) (r_iremF (M := mX12_init) (v := 0) (by decide) (by decide) dX12_init_514) ?_
  refine ga_tk (fun h470 => ?_)
  refine ga_ck (fun hi471 => ?_)
  refine ga1 (M := mX12_init) (pc' := 516) (k' := 0) (n' := 0) (r_iast (M := mX12_init) h470 hi471 dX12_init_515) ?_
  refine ga_blx (fun x472 => ?_)
  refine ga1 (M := mX12_init) (pc' := 517) (k' := 0) (n' := 0) (r_aload_n (M := mX12_init) (i := 0) rfl dX12_init_516) ?_
  refine ga_tk (fun h473 => ?_)
  refine ga_rfk (fun b474 hb475 => ?_)
  refine ga1 (M := mX12_init) (pc' := 520) (k' := 0) (n' := 0) (r_getR (M := mX12_init) fl_12_26 h473 rfl hb475 dX12_init_517) ?_
  refine ga1 (M := mX12_init) (pc' := 521) (k' := 0) (n' := 0) (r_iload_n (M := mX12_init) (i := 2) rfl dX12_init_520) ?_
  refine ga1 (M := mX12_init) (pc' := 523) (k' := 0) (n' := 0) (r_bipush (M := mX12_init) (v := 20) (by decide) dX12_init_521) ?_
  refine ga_tk (fun h476 => ?_)
  refine ga_ck (fun hi477 => ?_)
  refine ga1 (M := mX12_init) (pc' := 524) (k' := 0) (n' := 0) (r_iast (M := mX12_init) h476 hi477 dX12_init_523) ?_
  refine ga_blx (fun x478 => ?_)
  refine ga1 (M := mX12_init) (pc' := 527) (ls' := [some (.ref a0), some (.int a1), some (.int 1)]) (k' := 0) (n' := 0) (r_iincF (M := mX12_init) (ls := [some (.ref a0), some (.int a1), some (.int 0)]) (i := 2) (v := 0) (v' := 1) (by decide) rfl (by decide) rfl dX12_init_524) ?_
  refine ga1 (M := mX12_init) (pc' := 501) (k' := 0) (n' := 0) (r_goto (M := mX12_init) dX12_init_527 (by decide)) ?_
  refine ga1 (M := mX12_init) (pc' := 502) (k' := 0) (n' := 0) (r_iload_n (M := mX12_init) (i := 2) rfl dX12_init_501) ?_
  refine ga1 (M := mX12_init) (pc' := 504) (k' := 0) (n' := 0) (r_bipush (M := mX12_init) (v := 6) (by decide) dX12_init_502) ?_
  refine ga1 (M := mX12_init) (pc' := 507) (k' := 0) (n' := 0) (fun kk => r_icmp_ge (M := mX12_init) (tgt := 530) dX12_init_504 (by decide) (fun h => absurd h (by decide)) (fun _ => kk)) ?_
  refine ga1 (M := mX12_init) (pc' := 508) (k' := 0) (n' := 0) (r_aload_n (M := mX12_init) (i := 0) rfl dX12_init_507) ?_
  refine ga_tk (fun h479 => ?_)
  refine ga_rfk (fun b480 hb481 => ?_)
  refine ga1 (M := mX12_init) (pc' := 511) (k' := 0) (n' := 0) (r_getR (M := mX12_init) fl_12_22 h479 rfl hb481 dX12_init_508) ?_
  refine ga1 (M := mX12_init) (pc' := 512) (k' := 0) (n' := 0) (r_iload_n (M := mX12_init) (i := 2) rfl dX12_init_511) ?_
  refine ga1 (M := mX12_init) (pc' := 513) (k' := 0) (n' := 0) (r_iload_n (M := mX12_init) (i := 2) rfl dX12_init_512) ?_
  refine ga1 (M := mX12_init) (pc' := 514) (k' := 0) (n' := 0) (r_iconst (M := mX12_init) (v := 5) (by decide) dX12_init_513) ?_
  refine ga1 (M := mX12_init) (pc' := 515) (k' := 0) (n' := 0) (r_iremF (M := mX12_init) (v := 1) (by decide) (by decide) dX12_init_514) ?_
  refine ga_tk (fun h482 => ?_)
  refine ga_ck (fun hi483 => ?_)
  refine ga1 (M := mX12_init) (pc' := 516) (k' := 0) (n' := 0) (r_iast (M := mX12_init) h482 hi483 dX12_init_515) ?_
  refine ga_blx (fun x484 => ?_)
  refine ga1 (M := mX12_init) (pc' := 517) (k' := 0) (n' := 0) (r_aload_n (M := mX12_init) (i := 0) rfl dX12_init_516) ?_
  refine ga_tk (fun h485 => ?_)
  refine ga_rfk (fun b486 hb487 => ?_)
  refine ga1 (M := mX12_init) (pc' := 520) (k' := 0) (n' := 0) (r_getR (M := mX12_init) fl_12_26 h485 rfl hb487 dX12_init_517) ?_
  refine ga1 (M := mX12_init) (pc' := 521) (k' := 0) (n' := 0) (r_iload_n (M := mX12_init) (i := 2) rfl dX12_init_520) ?_
  refine ga1 (M := mX12_init) (pc' := 523) (k' := 0) (n' := 0) (r_bipush (M := mX12_init) (v := 20) (by decide) dX12_init_521) ?_
  refine ga_tk (fun h488 => ?_)
  refine ga_ck (fun hi489 => ?_)
  refine ga1 (M := mX12_init) (pc' := 524) (k' := 0) (n' := 0) (r_iast (M := mX12_init) h488 hi489 dX12_init_523) ?_
  refine ga_blx (fun x490 => ?_)
  refine ga1 (M := mX12_init) (pc' := 527) (ls' := [some (.ref a0), some (.int a1), some (.int 2)]) (k' := 0) (n' := 0) (r_iincF (M := mX12_init) (ls := [some (.ref a0), some (.int a1), some (.int 1)]) (i := 2) (v := 1) (v' := 2) (by decide) rfl (by decide) rfl dX12_init_524) ?_
  refine ga1 (M := mX12_init) (pc' := 501) (k' := 0) (n' := 0) (r_goto (M := mX12_init) dX12_init_527 (by decide)) ?_
  refine ga1 (M := mX12_init) (pc' := 502) (k' := 0) (n' := 0) (r_iload_n (M := mX12_init) (i := 2) rfl dX12_init_501) ?_
  refine ga1 (M := mX12_init) (pc' := 504) (k' := 0) (n' := 0) (r_bipush (M := mX12_init) (v := 6) (by decide) dX12_init_502) ?_
  refine ga1 (M := mX12_init) (pc' := 507) (k' := 0) (n' := 0) (fun kk => r_icmp_ge (M := mX12_init) (tgt := 530) dX12_init_504 (by decide) (fun h => absurd h (by decide)) (fun _ => kk)) ?_
  refine ga1 (M := mX12_init) (pc' := 508) (k' := 0) (n' := 0) (r_aload_n (M := mX12_init) (i := 0) rfl dX12_init_507) ?_
  refine ga_tk (fun h491 => ?_)
  refine ga_rfk (fun b492 hb493 => ?_)
  refine ga1 (M := mX12_init) (pc' := 511) (k' := 0) (n' := 0) (r_getR (M := mX12_init) fl_12_22 h491 rfl hb493 dX12_init_508) ?_
  refine ga1 (M := mX12_init) (pc' := 512) (k' := 0) (n' := 0) (r_iload_n (M := mX12_init) (i := 2) rfl dX12_init_511) ?_
  refine ga1 (M := mX12_init) (pc' := 513) (k' := 0) (n' := 0) (r_iload_n (M := mX12_init) (i := 2) rfl dX12_init_512) ?_
  refine ga1 (M := mX12_init) (pc' := 514) (k' := 0) (n' := 0) (r_iconst (M := mX12_init) (v := 5) (by decide) dX12_init_513) ?_
  refine ga1 (M := mX12_init) (pc' := 515) (k' := 0) (n' := 0) (r_iremF (M := mX12_init) (v := 2) (by decide) (by decide) dX12_init_514) ?_
  refine ga_tk (fun h494 => ?_)
  refine ga_ck (fun hi495 => ?_)
  refine ga1 (M := mX12_init) (pc' := 516) (k' := 0) (n' := 0) (r_iast (M := mX12_init) h494 hi495 dX12_init_515) ?_
  refine ga_blx (fun x496 => ?_)
  refine ga1 (M := mX12_init) (pc' := 517) (k' := 0) (n' := 0) (r_aload_n (M := mX12_init) (i := 0) rfl dX12_init_516) ?_
  refine ga_tk (fun h497 => ?_)
  refine ga_rfk (fun b498 hb499 => ?_)
  refine ga1 (M := mX12_init) (pc' := 520) (k' := 0) (n' := 0) (r_getR (M := mX12_init) fl_12_26 h497 rfl hb499 dX12_init_517) ?_
  refine ga1 (M := mX12_init) (pc' := 521) (k' := 0) (n' := 0) (r_iload_n (M := mX12_init) (i := 2) rfl dX12_init_520) ?_
  refine ga1 (M := mX12_init) (pc' := 523) (k' := 0) (n' := 0) (r_bipush (M := mX12_init) (v := 20) (by decide) dX12_init_521) ?_
  refine ga_tk (fun h500 => ?_)
  refine ga_ck (fun hi501 => ?_)
  refine ga1 (M := mX12_init) (pc' := 524) (k' := 0) (n' := 0) (r_iast (M := mX12_init) h500 hi501 dX12_init_523) ?_
  refine ga_blx (fun x502 => ?_)
  refine ga1 (M := mX12_init) (pc' := 527) (ls' := [some (.ref a0), some (.int a1), some (.int 3)]) (k' := 0) (n' := 0) (r_iincF (M := mX12_init) (ls := [some (.ref a0), some (.int a1), some (.int 2)]) (i := 2) (v := 2) (v' := 3) (by decide) rfl (by decide) rfl dX12_init_524) ?_
  refine ga1 (M := mX12_init) (pc' := 501) (k' := 0) (n' := 0) (r_goto (M := mX12_init) dX12_init_527 (by decide)) ?_
  refine ga1 (M := mX12_init) (pc' := 502) (k' := 0) (n' := 0) (r_iload_n (M := mX12_init) (i := 2) rfl dX12_init_501) ?_
  refine ga1 (M := mX12_init) (pc' := 504) (k' := 0) (n' := 0) (r_bipush (M := mX12_init) (v := 6) (by decide) dX12_init_502) ?_
  refine ga1 (M := mX12_init) (pc' := 507) (k' := 0) (n' := 0) (fun kk => r_icmp_ge (M := mX12_init) (tgt := 530) dX12_init_504 (by decide) (fun h => absurd h (by decide)) (fun _ => kk)) ?_
  refine ga1 (M := mX12_init) (pc' := 508) (k' := 0) (n' := 0) (r_aload_n (M := mX12_init) (i := 0) rfl dX12_init_507) ?_
  refine ga_tk (fun h503 => ?_)
  refine ga_rfk (fun b504 hb505 => ?_)
  refine ga1 (M := mX12_init) (pc' := 511) (k' := 0) (n' := 0) (r_getR (M := mX12_init) fl_12_22 h503 rfl hb505 dX12_init_508) ?_
  refine ga1 (M := mX12_init) (pc' := 512) (k' := 0) (n' := 0) (r_iload_n (M := mX12_init) (i := 2) rfl dX12_init_511) ?_
  refine ga1 (M := mX12_init) (pc' := 513) (k' := 0) (n' := 0) (r_iload_n (M := mX12_init) (i := 2) rfl dX12_init_512) ?_
  refine ga1 (M := mX12_init) (pc' := 514) (k' := 0) (n' := 0) (r_iconst (M := mX12_init) (v := 5) (by decide) dX12_init_513) ?_
  refine ga1 (M := mX12_init) (pc' := 515) (k' := 0) (n' := 0) (r_iremF (M := mX12_init) (v := 3) (by decide) (by decide) dX12_init_514) ?_
  refine ga_tk (fun h506 => ?_)
  refine ga_ck (fun hi507 => ?_)
  refine ga1 (M := mX12_init) (pc' := 516) (k' := 0) (n' := 0) (r_iast (M := mX12_init) h506 hi507 dX12_init_515) ?_
  refine ga_blx (fun x508 => ?_)
  refine ga1 (M := mX12_init) (pc' := 517) (k' := 0) (n' := 0) (r_aload_n (M := mX12_init) (i := 0) rfl dX12_init_516) ?_
  refine ga_tk (fun h509 => ?_)
  refine ga_rfk (fun b510 hb511 => ?_)
  refine ga1 (M := mX12_init) (pc' := 520) (k' := 0) (n' := 0) (r_getR (M := mX12_init) fl_12_26 h509 rfl hb511 dX12_init_517) ?_
  refine ga1 (M := mX12_init) (pc' := 521) (k' := 0) (n' := 0) (r_iload_n (M := mX12_init) (i := 2) rfl dX12_init_520) ?_
  refine ga1 (M := mX12_init) (pc' := 523) (k' := 0) (n' := 0) (r_bipush (M := mX12_init) (v := 20) (by decide) dX12_init_521) ?_
  refine ga_tk (fun h512 => ?_)
  refine ga_ck (fun hi513 => ?_)
  refine ga1 (M := mX12_init) (pc' := 524) (k' := 0) (n' := 0) (r_iast (M := mX12_init) h512 hi513 dX12_init_523) ?_
  refine ga_blx (fun x514 => ?_)
  refine ga1 (M := mX12_init) (pc' := 527) (ls' := [some (.ref a0), some (.int a1), some (.int 4)]) (k' := 0) (n' := 0) (r_iincF (M := mX12_init) (ls := [some (.ref a0), some (.int a1), some (.int 3)]) (i := 2) (v := 3) (v' := 4) (by decide) rfl (by decide) rfl dX12_init_524) ?_
  refine ga1 (M := mX12_init) (pc' := 501) (k' := 0) (n' := 0) (r_goto (M := mX12_init) dX12_init_527 (by decide)) ?_
  refine ga1 (M := mX12_init) (pc' := 502) (k' := 0) (n' := 0) (r_iload_n (M := mX12_init) (i := 2) rfl dX12_init_501) ?_
  refine ga1 (M := mX12_init) (pc' := 504) (k' := 0) (n' := 0) (r_bipush (M := mX12_init) (v := 6) (by decide) dX12_init_502) ?_
  refine ga1 (M := mX12_init) (pc' := 507) (k' := 0) (n' := 0) (fun kk => r_icmp_ge (M := mX12_init) (tgt := 530) dX12_init_504 (by decide) (fun h => absurd h (by decide)) (fun _ => kk)) ?_
  refine ga1 (M := mX12_init) (pc' := 508) (k' := 0) (n' := 0) (r_aload_n (M := mX12_init) (i := 0) rfl dX12_init_507) ?_
  refine ga_tk (fun h515 => ?_)
  refine ga_rfk (fun b516 hb517 => ?_)
  refine ga1 (M := mX12_init) (pc' := 511) (k' := 0) (n' := 0) (r_getR (M := mX12_init) fl_12_22 h515 rfl hb517 dX12_init_508) ?_
  refine ga1 (M := mX12_init) (pc' := 512) (k' := 0) (n' := 0) (r_iload_n (M := mX12_init) (i := 2) rfl dX12_init_511) ?_
  refine ga1 (M := mX12_init) (pc' := 513) (k' := 0) (n' := 0) (r_iload_n (M := mX12_init) (i := 2) rfl dX12_init_512) ?_
  refine ga1 (M := mX12_init) (pc' := 514) (k' := 0) (n' := 0) (r_iconst (M := mX12_init) (v := 5) (by decide) dX12_init_513) ?_
  refine ga1 (M := mX12_init) (pc' := 515) (k' := 0) (n' := 0) (r_iremF (M := mX12_init) (v := 4) (by decide) (by decide) dX12_init_514) ?_
  refine ga_tk (fun h518 => ?_)
  refine ga_ck (fun hi519 => ?_)
  refine ga1 (M := mX12_init) (pc' := 516) (k' := 0) (n' := 0) (r_iast (M := mX12_init) h518 hi519 dX12_init_515) ?_
  refine ga_blx (fun x520 => ?_)
  refine ga1 (M := mX12_init) (pc' := 517) (k' := 0) (n' := 0) (r_aload_n (M := mX12_init) (i := 0) rfl dX12_init_516) ?_
  refine ga_tk (fun h521 => ?_)
  refine ga_rfk (fun b522 hb523 => ?_)
  refine ga1 (M := mX12_init) (pc' := 520) (k' := 0) (n' := 0) (r_getR (M := mX12_init) fl_12_26 h521 rfl hb523 dX12_init_517) ?_
  refine ga1 (M := mX12_init) (pc' := 521) (k' := 0) (n' := 0) (r_iload_n (M := mX12_init) (i := 2) rfl dX12_init_520) ?_
  refine ga1 (M := mX12_init) (pc' := 523) (k' := 0) (n' := 0) (r_bipush (M := mX12_init) (v := 20) (by decide) dX12_init_521) ?_
  refine ga_tk (fun h524 => ?_)
  refine ga_ck (fun hi525 => ?_)
  refine ga1 (M := mX12_init) (pc' := 524) (k' := 0) (n' := 0) (r_iast (M := mX12_init) h524 hi525 dX12_init_523) ?_
  refine ga_blx (fun x526 => ?_)
  refine ga1 (M := mX12_init) (pc' := 527) (ls' := [some (.ref a0), some (.int a1), some (.int 5)]) (k' := 0) (n' := 0) (r_iincF (M := mX12_init) (ls := [some (.ref a0), some (.int a1), some (.int 4)]) (i := 2) (v := 4) (v' := 5) (by decide) rfl (by decide) rfl dX12_init_524) ?_
  refine ga1 (M := mX12_init) (pc' := 501) (k' := 0) (n' := 0) (r_goto (M := mX12_init) dX12_init_527 (by decide)) ?_
  refine ga1 (M := mX12_init) (pc' := 502) (k' := 0) (n' := 0) (r_iload_n (M := mX12_init) (i := 2) rfl dX12_init_501) ?_
  refine ga1 (M := mX12_init) (pc' := 504) (k' := 0) (n' := 0) (r_bipush (M := mX12_init) (v := 6) (by decide) dX12_init_502) ?_
  refine ga1 (M := mX12_init) (pc' := 507) (k' := 0) (n' := 0) (fun kk => r_icmp_ge (M := mX12_init) (tgt := 530) dX12_init_504 (by decide) (fun h => absurd h (by decide)) (fun _ => kk)) ?_
  refine ga1 (M := mX12_init) (pc' := 508) (k' := 0) (n' := 0) (r_aload_n (M := mX12_init) (i := 0) rfl dX12_init_507) ?_
  refine ga_tk (fun h527 => ?_)
  refine ga_rfk (fun b528 hb529 => ?_)
  refine ga1 (M := mX12_init) (pc' := 511) (k' := 0) (n' := 0) (r_getR (M := mX12_init) fl_12_22 h527 rfl hb529 dX12_init_508) ?_
  refine ga1 (M := mX12_init) (pc' := 512) (k' := 0) (n' := 0) (r_iload_n (M := mX12_init) (i := 2) rfl dX12_init_511) ?_
  refine ga1 (M := mX12_init) (pc' := 513) (k' := 0) (n' := 0) (r_iload_n (M := mX12_init) (i := 2) rfl dX12_init_512) ?_
  refine ga1 (M := mX12_init) (pc' := 514) (k' := 0) (n' := 0) (r_iconst (M := mX12_init) (v := 5) (by decide) dX12_init_513) ?_
  refine ga1 (M := mX12_init) (pc' := 515) (k' := 0) (n' := 0) (r_iremF (M := mX12_init) (v := 0) (by decide) (by decide) dX12_init_514) ?_
  refine ga_tk (fun h530 => ?_)
  refine ga_ck (fun hi531 => ?_)
  refine ga1 (M := mX12_init) (pc' := 516) (k' := 0) (n' := 0) (r_iast (M := mX12_init) h530 hi531 dX12_init_515) ?_
  refine ga_blx (fun x532 => ?_)
  refine ga1 (M := mX12_init) (pc' := 517) (k' := 0) (n' := 0) (r_aload_n (M := mX12_init) (i := 0) rfl dX12_init_516) ?_
  refine ga_tk (fun h533 => ?_)
  refine ga_rfk (fun b534 hb535 => ?_)
  refine ga1 (M := mX12_init) (pc' := 520) (k' := 0) (n' := 0) (r_getR (M := mX12_init) fl_12_26 h533 rfl hb535 dX12_init_517) ?_
  refine ga1 (M := mX12_init) (pc' := 521) (k' := 0) (n' := 0) (r_iload_n (M := mX12_init) (i := 2) rfl dX12_init_520) ?_
  refine ga1 (M := mX12_init) (pc' := 523) (k' := 0) (n' := 0) (r_bipush (M := mX12_init) (v := 20) (by decide) dX12_init_521) ?_
  refine ga_tk (fun h536 => ?_)
  refine ga_ck (fun hi537 => ?_)
  refine ga1 (M := mX12_init) (pc' := 524) (k' := 0) (n' := 0) (r_iast (M := mX12_init) h536 hi537 dX12_init_523) ?_
  refine ga_blx (fun x538 => ?_)
  refine ga1 (M := mX12_init) (pc' := 527) (ls' := [some (.ref a0), some (.int a1), some (.int 6)]) (k' := 0) (n' := 0) (r_iincF (M := mX12_init) (ls := [some (.ref a0), some (.int a1), some (.int 5)]) (i := 2) (v := 5) (v' := 6) (by decide) rfl (by decide) rfl dX12_init_524) ?_
  refine ga1 (M := mX12_init) (pc' := 501) (k' := 0) (n' := 0) (r_goto (M := mX12_init) dX12_init_527 (by decide)) ?_
  refine ga1 (M := mX12_init) (pc' := 502) (k' := 0) (n' := 0) (r_iload_n (M := mX12_init) (i := 2) rfl dX12_init_501) ?_
  refine ga1 (M := mX12_init) (pc' := 504) (k' := 0) (n' := 0) (r_bipush (M := mX12_init) (v := 6) (by decide) dX12_init_502) ?_
  refine ga1 (M := mX12_init) (pc' := 530) (k' := 0) (n' := 0) (fun kk => r_icmp_ge (M := mX12_init) (tgt := 530) dX12_init_504 (by decide) (fun _ => kk) (fun h => absurd (by decide) h)) ?_
  refine ga1 (M := mX12_init) (pc' := 531) (k' := 0) (n' := 0) (r_iconst (M := mX12_init) (v := 0) (by decide) dX12_init_530) ?_
  refine ga1 (M := mX12_init) (pc' := 532) (ls' := [some (.ref a0), some (.int a1), some (.int 0)]) (k' := 0) (n' := 0) (r_istore_n (M := mX12_init) (ls := [some (.ref a0), some (.int a1), some (.int 6)]) (i := 2) (v := 0) (by decide) rfl dX12_init_531) ?_
  refine ga1 (M := mX12_init) (pc' := 533) (k' := 0) (n' := 0) (r_iload_n (M := mX12_init) (i := 2) rfl dX12_init_532) ?_
  refine ga1 (M := mX12_init) (pc' := 534) (k' := 0) (n' := 0) (r_iconst (M := mX12_init) (v := 5) (by decide) dX12_init_533) ?_
  refine ga1 (M := mX12_init) (pc' := 537) (k' := 0) (n' := 0) (fun kk => r_icmp_ge (M := mX12_init) (tgt := 551) dX12_init_534 (by decide) (fun h => absurd h (by decide)) (fun _ => kk)) ?_
  refine ga1 (M := mX12_init) (pc' := 538) (k' := 0) (n' := 0) (r_aload_n (M := mX12_init) (i := 0) rfl dX12_init_537) ?_
  refine ga_tk (fun h539 => ?_)
  refine ga_rfk (fun b540 hb541 => ?_)
  refine ga1 (M := mX12_init) (pc' := 541) (k' := 0) (n' := 0) (r_getR (M := mX12_init) fl_12_29 h539 rfl hb541 dX12_init_538) ?_
  refine ga1 (M := mX12_init) (pc' := 542) (k' := 0) (n' := 0) (r_iload_n (M := mX12_init) (i := 2) rfl dX12_init_541) ?_
  refine ga1 (M := mX12_init) (pc' := 544) (k' := 0) (n' := 0) (r_bipush (M := mX12_init) (v := 100) (by decide) dX12_init_542) ?_
  refine ga_tk (fun h542 => ?_)
  refine ga_ck (fun hi543 => ?_)
  refine ga1 (M := mX12_init) (pc' := 545) (k' := 0) (n' := 0) (r_iast (M := mX12_init) h542 hi543 dX12_init_544) ?_
  refine ga_blx (fun x544 => ?_)
  refine ga1 (M := mX12_init) (pc' := 548) (ls' := [some (.ref a0), some (.int a1), some (.int 1)]) (k' := 0) (n' := 0) (r_iincF (M := mX12_init) (ls := [some (.ref a0), some (.int a1), some (.int 0)]) (i := 2) (v := 0) (v' := 1) (by decide) rfl (by decide) rfl dX12_init_545) ?_
  refine ga1 (M := mX12_init) (pc' := 532) (k' := 0) (n' := 0) (r_goto (M := mX12_init) dX12_init_548 (by decide)) ?_
  refine ga1 (M := mX12_init) (pc' := 533) (k' := 0) (n' := 0) (r_iload_n (M := mX12_init) (i := 2) rfl dX12_init_532) ?_
  refine ga1 (M := mX12_init) (pc' := 534) (k' := 0) (n' := 0) (r_iconst (M := mX12_init) (v := 5) (by decide) dX12_init_533) ?_
  refine ga1 (M := mX12_init) (pc' := 537) (k' := 0) (n' := 0) (fun kk => r_icmp_ge (M := mX12_init) (tgt := 551) dX12_init_534 (by decide) (fun h => absurd h (by decide)) (fun _ => kk)) ?_
  refine ga1 (M := mX12_init) (pc' := 538) (k' := 0) (n' := 0) (r_aload_n (M := mX12_init) (i := 0) rfl dX12_init_537) ?_
  refine ga_tk (fun h545 => ?_)
  refine ga_rfk (fun b546 hb547 => ?_)
  refine ga1 (M := mX12_init) (pc' := 541) (k' := 0) (n' := 0) (r_getR (M := mX12_init) fl_12_29 h545 rfl hb547 dX12_init_538) ?_
  refine ga1 (M := mX12_init) (pc' := 542) (k' := 0) (n' := 0) (r_iload_n (M := mX12_init) (i := 2) rfl dX12_init_541) ?_
  refine ga1 (M := mX12_init) (pc' := 544) (k' := 0) (n' := 0) (r_bipush (M := mX12_init) (v := 100) (by decide) dX12_init_542) ?_
  refine ga_tk (fun h548 => ?_)
  refine ga_ck (fun hi549 => ?_)
  refine ga1 (M := mX12_init) (pc' := 545) (k' := 0) (n' := 0) (r_iast (M := mX12_init) h548 hi549 dX12_init_544) ?_
  refine ga_blx (fun x550 => ?_)
  refine ga1 (M := mX12_init) (pc' := 548) (ls' := [some (.ref a0), some (.int a1), some (.int 2)]) (k' := 0) (n' := 0) (r_iincF (M := mX12_init) (ls := [some (.ref a0), some (.int a1), some (.int 1)]) (i := 2) (v := 1) (v' := 2) (by decide) rfl (by decide) rfl dX12_init_545) ?_
  refine ga1 (M := mX12_init) (pc' := 532) (k' := 0) (n' := 0) (r_goto (M := mX12_init) dX12_init_548 (by decide)) ?_
  refine ga1 (M := mX12_init) (pc' := 533) (k' := 0) (n' := 0) (r_iload_n (M := mX12_init) (i := 2) rfl dX12_init_532) ?_
  refine ga1 (M := mX12_init) (pc' := 534) (k' := 0) (n' := 0) (r_iconst (M := mX12_init) (v := 5) (by decide) dX12_init_533) ?_
  refine ga1 (M := mX12_init) (pc' := 537) (k' := 0) (n' := 0) (fun kk => r_icmp_ge (M := mX12_init) (tgt := 551) dX12_init_534 (by decide) (fun h => absurd h (by decide)) (fun _ => kk)) ?_
  refine ga1 (M := mX12_init) (pc' := 538) (k' := 0) (n' := 0) (r_aload_n (M := mX12_init) (i := 0) rfl dX12_init_537) ?_
  refine ga_tk (fun h551 => ?_)
  refine ga_rfk (fun b552 hb553 => ?_)
  refine ga1 (M := mX12_init) (pc' := 541) (k' := 0) (n' := 0) (r_getR (M := mX12_init) fl_12_29 h551 rfl hb553 dX12_init_538) ?_
  refine ga1 (M := mX12_init) (pc' := 542) (k' := 0) (n' := 0) (r_iload_n (M := mX12_init) (i := 2) rfl dX12_init_541) ?_
  refine ga1 (M := mX12_init) (pc' := 544) (k' := 0) (n' := 0) (r_bipush (M := mX12_init) (v := 100) (by decide) dX12_init_542) ?_
  refine ga_tk (fun h554 => ?_)
  refine ga_ck (fun hi555 => ?_)
  refine ga1 (M := mX12_init) (pc' := 545) (k' := 0) (n' := 0) (r_iast (M := mX12_init) h554 hi555 dX12_init_544) ?_
  refine ga_blx (fun x556 => ?_)
  refine ga1 (M := mX12_init) (pc' := 548) (ls' := [some (.ref a0), some (.int a1), some (.int 3)]) (k' := 0) (n' := 0) (r_iincF (M := mX12_init) (ls := [some (.ref a0), some (.int a1), some (.int 2)]) (i := 2) (v := 2) (v' := 3) (by decide) rfl (by decide) rfl dX12_init_545) ?_
  refine ga1 (M := mX12_init) (pc' := 532) (k' := 0) (n' := 0) (r_goto (M := mX12_init) dX12_init_548 (by decide)) ?_
  refine ga1 (M := mX12_init) (pc' := 533) (k' := 0) (n' := 0) (r_iload_n (M := mX12_init) (i := 2) rfl dX12_init_532) ?_
  refine ga1 (M := mX12_init) (pc' := 534) (k' := 0) (n' := 0) (r_iconst (M := mX12_init) (v := 5) (by decide) dX12_init_533) ?_
  refine ga1 (M := mX12_init) (pc' := 537) (k' := 0) (n' := 0) (fun kk => r_icmp_ge (M := mX12_init) (tgt := 551) dX12_init_534 (by decide) (fun h => absurd h (by decide)) (fun _ => kk)) ?_
  refine ga1 (M := mX12_init) (pc' := 538) (k' := 0) (n' := 0) (r_aload_n (M := mX12_init) (i := 0) rfl dX12_init_537) ?_
  refine ga_tk (fun h557 => ?_)
  refine ga_rfk (fun b558 hb559 => ?_)
  refine ga1 (M := mX12_init) (pc' := 541) (k' := 0) (n' := 0) (r_getR (M := mX12_init) fl_12_29 h557 rfl hb559 dX12_init_538) ?_
  refine ga1 (M := mX12_init) (pc' := 542) (k' := 0) (n' := 0) (r_iload_n (M := mX12_init) (i := 2) rfl dX12_init_541) ?_
  refine ga1 (M := mX12_init) (pc' := 544) (k' := 0) (n' := 0) (r_bipush (M := mX12_init) (v := 100) (by decide) dX12_init_542) ?_
  refine ga_tk (fun h560 => ?_)
  refine ga_ck (fun hi561 => ?_)
  refine ga1 (M := mX12_init) (pc' := 545) (k' := 0) (n' := 0) (r_iast (M := mX12_init) h560 hi561 dX12_init_544) ?_
  refine ga_blx (fun x562 => ?_)
  refine ga1 (M := mX12_init) (pc' := 548) (ls' := [some (.ref a0), some (.int a1), some (.int 4)]) (k' := 0) (n' := 0) (r_iincF (M := mX12_init) (ls := [some (.ref a0), some (.int a1), some (.int 3)]) (i := 2) (v := 3) (v' := 4) (by decide) rfl (by decide) rfl dX12_init_545) ?_
  refine ga1 (M := mX12_init) (pc' := 532) (k' := 0) (n' := 0) (r_goto (M := mX12_init) dX12_init_548 (by decide)) ?_
  refine ga1 (M := mX12_init) (pc' := 533) (k' := 0) (n' := 0) (r_iload_n (M := mX12_init) (i := 2) rfl dX12_init_532) ?_
  refine ga1 (M := mX12_init) (pc' := 534) (k' := 0) (n' := 0) (r_iconst (M := mX12_init) (v := 5) (by decide) dX12_init_533) ?_
  refine ga1 (M := mX12_init) (pc' := 537) (k' := 0) (n' := 0) (fun kk => r_icmp_ge (M := mX12_init) (tgt := 551) dX12_init_534 (by decide) (fun h => absurd h (by decide)) (fun _ => kk)) ?_
  refine ga1 (M := mX12_init) (pc' := 538) (k' := 0) (n' := 0) (r_aload_n (M := mX12_init) (i := 0) rfl dX12_init_537) ?_
  refine ga_tk (fun h563 => ?_)
  refine ga_rfk (fun b564 hb565 => ?_)
  refine ga1 (M := mX12_init) (pc' := 541) (k' := 0) (n' := 0) (r_getR (M := mX12_init) fl_12_29 h563 rfl hb565 dX12_init_538) ?_
  refine ga1 (M := mX12_init) (pc' := 542) (k' := 0) (n' := 0) (r_iload_n (M := mX12_init) (i := 2) rfl dX12_init_541) ?_
  refine ga1 (M := mX12_init) (pc' := 544) (k' := 0) (n' := 0) (r_bipush (M := mX12_init) (v := 100) (by decide) dX12_init_542) ?_
  refine ga_tk (fun h566 => ?_)
  refine ga_ck (fun hi567 => ?_)
  refine ga1 (M := mX12_init) (pc' := 545) (k' := 0) (n' := 0) (r_iast (M := mX12_init) h566 hi567 dX12_init_544) ?_
  refine ga_blx (fun x568 => ?_)
  refine ga1 (M := mX12_init) (pc' := 548) (ls' := [some (.ref a0), some (.int a1), some (.int 5)]) (k' := 0) (n' := 0) (r_iincF (M := mX12_init) (ls := [some (.ref a0), some (.int a1), some (.int 4)]) (i := 2) (v := 4) (v' := 5) (by decide) rfl (by decide) rfl dX12_init_545) ?_
  refine ga1 (M := mX12_init) (pc' := 532) (k' := 0) (n' := 0) (r_goto (M := mX12_init) dX12_init_548 (by decide)) ?_
  refine ga1 (M := mX12_init) (pc' := 533) (k' := 0) (n' := 0) (r_iload_n (M := mX12_init) (i := 2) rfl dX12_init_532) ?_
  refine ga1 (M := mX12_init) (pc' := 534) (k' := 0) (n' := 0) (r_iconst (M := mX12_init) (v := 5) (by decide) dX12_init_533) ?_
  refine ga1 (M := mX12_init) (pc' := 551) (k' := 0) (n' := 0) (fun kk => r_icmp_ge (M := mX12_init) (tgt := 551) dX12_init_534 (by decide) (fun _ => kk) (fun h => absurd (by decide) h)) ?_
  refine ga1 (M := mX12_init) (pc' := 552) (k' := 0) (n' := 0) (r_iconst (M := mX12_init) (v := 0) (by decide) dX12_init_551) ?_
  refine ga1 (M := mX12_init) (pc' := 553) (ls' := [some (.ref a0), some (.int a1), some (.int 0)]) (k' := 0) (n' := 0) (r_istore_n (M := mX12_init) (ls := [some (.ref a0), some (.int a1), some (.int 5)]) (i := 2) (v := 0) (by decide) rfl dX12_init_552) ?_
  refine ga1 (M := mX12_init) (pc' := 554) (k' := 0) (n' := 0) (r_iload_n (M := mX12_init) (i := 2) rfl dX12_init_553) ?_
  refine ga1 (M := mX12_init) (pc' := 556) (k' := 0) (n' := 0) (r_bipush (M := mX12_init) (v := 12) (by decide) dX12_init_554) ?_
  refine ga1 (M := mX12_init) (pc' := 559) (k' := 0) (n' := 0) (fun kk => r_icmp_ge (M := mX12_init) (tgt := 579) dX12_init_556 (by decide) (fun h => absurd h (by decide)) (fun _ => kk)) ?_
  refine ga1 (M := mX12_init) (pc' := 560) (k' := 0) (n' := 0) (r_aload_n (M := mX12_init) (i := 0) rfl dX12_init_559) ?_
  refine ga_tk (fun h569 => ?_)
  refine ga_rfk (fun b570 hb571 => ?_)
  refine ga1 (M := mX12_init) (pc' := 563) (k' := 0) (n' := 0) (r_getR (M := mX12_init) fl_12_47 h569 rfl hb571 dX12_init_560) ?_
  refine ga1 (M := mX12_init) (pc' := 564) (k' := 0) (n' := 0) (r_iload_n (M := mX12_init) (i := 2) rfl dX12_init_563) ?_
  refine ga1 (M := mX12_init) (pc' := 565) (k' := 0) (n' := 0) (r_iconst (M := mX12_init) (v := (-1)) (by decide) dX12_init_564) ?_
  refine ga_tk (fun h572 => ?_)
  refine ga_ck (fun hi573 => ?_)
  refine ga1 (M := mX12_init) (pc' := 566) (k' := 0) (n' := 0) (r_iast (M := mX12_init) h572 hi573 dX12_init_565) ?_
  refine ga_blx (fun x574 => ?_)
  refine ga1 (M := mX12_init) (pc' := 567) (k' := 0) (n' := 0) (r_aload_n (M := mX12_init) (i := 0) rfl dX12_init_566) ?_
  refine ga_tk (fun h575 => ?_)
  refine ga_rfk (fun b576 hb577 => ?_)
  refine ga1 (M := mX12_init) (pc' := 570) (k' := 0) (n' := 0) (r_getR (M := mX12_init) fl_12_50 h575 rfl hb577 dX12_init_567) ?_
  refine ga1 (M := mX12_init) (pc' := 571) (k' := 0) (n' := 0) (r_iload_n (M := mX12_init) (i := 2) rfl dX12_init_570) ?_
  refine ga1 (M := mX12_init) (pc' := 572) (k' := 0) (n' := 0) (r_iconst (M := mX12_init) (v := (-1)) (by decide) dX12_init_571) ?_
  refine ga_tk (fun h578 => ?_)
  refine ga_ck (fun hi579 => ?_)
  refine ga1 (M := mX12_init) (pc' := 573) (k' := 0) (n' := 0) (r_iast (M := mX12_init) h578 hi579 dX12_init_572) ?_
  refine ga_blx (fun x580 => ?_)
  refine ga1 (M := mX12_init) (pc' := 576) (ls' := [some (.ref a0), some (.int a1), some (.int 1)]) (k' := 0) (n' := 0) (r_iincF (M := mX12_init) (ls := [some (.ref a0), some (.int a1), some (.int 0)]) (i := 2) (v := 0) (v' := 1) (by decide) rfl (by decide) rfl dX12_init_573) ?_
  refine ga1 (M := mX12_init) (pc' := 553) (k' := 0) (n' := 0) (r_goto (M := mX12_init) dX12_init_576 (by decide)) ?_
  refine ga1 (M := mX12_init) (pc' := 554) (k' := 0) (n' := 0) (r_iload_n (M := mX12_init) (i := 2) rfl dX12_init_553) ?_
  refine ga1 (M := mX12_init) (pc' := 556) (k' := 0) (n' := 0) (r_bipush (M := mX12_init) (v := 12) (by decide) dX12_init_554) ?_
  refine ga1 (M := mX12_init) (pc' := 559) (k' := 0) (n' := 0) (fun kk => r_icmp_ge (M := mX12_init) (tgt := 579) dX12_init_556 (by decide) (fun h => absurd h (by decide)) (fun _ => kk)) ?_
  refine ga1 (M := mX12_init) (pc' := 560) (k' := 0) (n' := 0) (r_aload_n (M := mX12_init) (i := 0) rfl dX12_init_559) ?_
  refine ga_tk (fun h581 => ?_)
  refine ga_rfk (fun b582 hb583 => ?_)
  refine ga1 (M := mX12_init) (pc' := 563) (k' := 0) (n' := 0) (r_getR (M := mX12_init) fl_12_47 h581 rfl hb583 dX12_init_560) ?_
  refine ga1 (M := mX12_init) (pc' := 564) (k' := 0) (n' := 0) (r_iload_n (M := mX12_init) (i := 2) rfl dX12_init_563) ?_
  refine ga1 (M := mX12_init) (pc' := 565) (k' := 0) (n' := 0) (r_iconst (M := mX12_init) (v := (-1)) (by decide) dX12_init_564) ?_
  refine ga_tk (fun h584 => ?_)
  refine ga_ck (fun hi585 => ?_)
  refine ga1 (M := mX12_init) (pc' := 566) (k' := 0) (n' := 0) (r_iast (M := mX12_init) h584 hi585 dX12_init_565) ?_
  refine ga_blx (fun x586 => ?_)
  refine ga1 (M := mX12_init) (pc' := 567) (k' := 0) (n' := 0) (r_aload_n (M := mX12_init) (i := 0) rfl dX12_init_566) ?_
  refine ga_tk (fun h587 => ?_)
  refine ga_rfk (fun b588 hb589 => ?_)
  refine ga1 (M := mX12_init) (pc' := 570) (k' := 0) (n' := 0) (r_getR (M := mX12_init) fl_12_50 h587 rfl hb589 dX12_init_567) ?_
  refine ga1 (M := mX12_init) (pc' := 571) (k' := 0) (n' := 0) (r_iload_n (M := mX12_init) (i := 2) rfl dX12_init_570) ?_
  refine ga1 (M := mX12_init) (pc' := 572) (k' := 0) (n' := 0) (r_iconst (M := mX12_init) (v := (-1)) (by decide) dX12_init_571) ?_
  refine ga_tk (fun h590 => ?_)
  refine ga_ck (fun hi591 => ?_)
  refine ga1 (M := mX12_init) (pc' := 573) (k' := 0) (n' := 0) (r_iast (M := mX12_init) h590 hi591 dX12_init_572) ?_
  refine ga_blx (fun x592 => ?_)
  refine ga1 (M := mX12_init) (pc' := 576) (ls' := [some (.ref a0), some (.int a1), some (.int 2)]) (k' := 0) (n' := 0) (r_iincF (M := mX12_init) (ls := [some (.ref a0), some (.int a1), some (.int 1)]) (i := 2) (v := 1) (v' := 2) (by decide) rfl (by decide) rfl dX12_init_573) ?_
  refine ga1 (M := mX12_init) (pc' := 553) (k' := 0) (n' := 0) (r_goto (M := mX12_init) dX12_init_576 (by decide)) ?_
  refine ga1 (M := mX12_init) (pc' := 554) (k' := 0) (n' := 0) (r_iload_n (M := mX12_init) (i := 2) rfl dX12_init_553) ?_
  refine ga1 (M := mX12_init) (pc' := 556) (k' := 0) (n' := 0) (r_bipush (M := mX12_init) (v := 12) (by decide) dX12_init_554) ?_
  refine ga1 (M := mX12_init) (pc' := 559) (k' := 0) (n' := 0) (fun kk => r_icmp_ge (M := mX12_init) (tgt := 579) dX12_init_556 (by decide) (fun h => absurd h (by decide)) (fun _ => kk)) ?_
  refine ga1 (M := mX12_init) (pc' := 560) (k' := 0) (n' := 0) (r_aload_n (M := mX12_init) (i := 0) rfl dX12_init_559) ?_
  refine ga_tk (fun h593 => ?_)
  refine ga_rfk (fun b594 hb595 => ?_)
  refine ga1 (M := mX12_init) (pc' := 563) (k' := 0) (n' := 0) (r_getR (M := mX12_init) fl_12_47 h593 rfl hb595 dX12_init_560) ?_
  refine ga1 (M := mX12_init) (pc' := 564) (k' := 0) (n' := 0) (r_iload_n (M := mX12_init) (i := 2) rfl dX12_init_563) ?_
  refine ga1 (M := mX12_init) (pc' := 565) (k' := 0) (n' := 0) (r_iconst (M := mX12_init) (v := (-1)) (by decide) dX12_init_564) ?_
  refine ga_tk (fun h596 => ?_)
  refine ga_ck (fun hi597 => ?_)
  refine ga1 (M := mX12_init) (pc' := 566) (k' := 0) (n' := 0) (r_iast (M := mX12_init) h596 hi597 dX12_init_565) ?_
  refine ga_blx (fun x598 => ?_)
  refine ga1 (M := mX12_init) (pc' := 567) (k' := 0) (n' := 0) (r_aload_n (M := mX12_init) (i := 0) rfl dX12_init_566) ?_
  refine ga_tk (fun h599 => ?_)
  refine ga_rfk (fun b600 hb601 => ?_)
  refine ga1 (M := mX12_init) (pc' := 570) (k' := 0) (n' := 0) (r_getR (M := mX12_init) fl_12_50 h599 rfl hb601 dX12_init_567) ?_
  refine ga1 (M := mX12_init) (pc' := 571) (k' := 0) (n' := 0) (r_iload_n (M := mX12_init) (i := 2) rfl dX12_init_570) ?_
  refine ga1 (M := mX12_init) (pc' := 572) (k' := 0) (n' := 0) (r_iconst (M := mX12_init) (v := (-1)) (by decide) dX12_init_571) ?_
  refine ga_tk (fun h602 => ?_)
  refine ga_ck (fun hi603 => ?_)
  refine ga1 (M := mX12_init) (pc' := 573) (k' := 0) (n' := 0) (r_iast (M := mX12_init) h602 hi603 dX12_init_572) ?_
  refine ga_blx (fun x604 => ?_)
  refine ga1 (M := mX12_init) (pc' := 576) (ls' := [some (.ref a0), some (.int a1), some (.int 3)]) (k' := 0) (n' := 0) (r_iincF (M := mX12_init) (ls := [some (.ref a0), some (.int a1), some (.int 2)]) (i := 2) (v := 2) (v' := 3) (by decide) rfl (by decide) rfl dX12_init_573) ?_
  refine ga1 (M := mX12_init) (pc' := 553) (k' := 0) (n' := 0) (r_goto (M := mX12_init) dX12_init_576 (by decide)) ?_
  refine ga1 (M := mX12_init) (pc' := 554) (k' := 0) (n' := 0) (r_iload_n (M := mX12_init) (i := 2) rfl dX12_init_553) ?_
  refine ga1 (M := mX12_init) (pc' := 556) (k' := 0) (n' := 0) (r_bipush (M := mX12_init) (v := 12) (by decide) dX12_init_554) ?_
  refine ga1 (M := mX12_init) (pc' := 559) (k' := 0) (n' := 0) (fun kk => r_icmp_ge (M := mX12_init) (tgt := 579) dX12_init_556 (by decide) (fun h => absurd h (by decide)) (fun _ => kk)) ?_
  refine ga1 (M := mX12_init) (pc' := 560) (k' := 0) (n' := 0) (r_aload_n (M := mX12_init) (i := 0) rfl dX12_init_559) ?_
  refine ga_tk (fun h605 => ?_)
  refine ga_rfk (fun b606 hb607 => ?_)
  refine ga1 (M := mX12_init) (pc' := 563) (k' := 0) (n' := 0) (r_getR (M := mX12_init) fl_12_47 h605 rfl hb607 dX12_init_560) ?_
  refine ga1 (M := mX12_init) (pc' := 564) (k' := 0) (n' := 0) (r_iload_n (M := mX12_init) (i := 2) rfl dX12_init_563) ?_
  refine ga1 (M := mX12_init) (pc' := 565) (k' := 0) (n' := 0) (r_iconst (M := mX12_init) (v := (-1)) (by decide) dX12_init_564) ?_
  refine ga_tk (fun h608 => ?_)
  refine ga_ck (fun hi609 => ?_)
  refine ga1 (M := mX12_init) (pc' := 566) (k' := 0) (n' := 0) (r_iast (M := mX12_init) h608 hi609 dX12_init_565) ?_
  refine ga_blx (fun x610 => ?_)
  refine ga1 (M := mX12_init) (pc' := 567) (k' := 0) (n' := 0) (r_aload_n (M := mX12_init) (i := 0) rfl dX12_init_566) ?_
  refine ga_tk (fun h611 => ?_)
  refine ga_rfk (fun b612 hb613 => ?_)
  refine ga1 (M := mX12_init) (pc' := 570) (k' := 0) (n' := 0) (r_getR (M := mX12_init) fl_12_50 h611 rfl hb613 dX12_init_567) ?_
  refine ga1 (M := mX12_init) (pc' := 571) (k' := 0) (n' := 0) (r_iload_n (M := mX12_init) (i := 2) rfl dX12_init_570) ?_
  refine ga1 (M := mX12_init) (pc' := 572) (k' := 0) (n' := 0) (r_iconst (M := mX12_init) (v := (-1)) (by decide) dX12_init_571) ?_
  refine ga_tk (fun h614 => ?_)
  refine ga_ck (fun hi615 => ?_)
  refine ga1 (M := mX12_init) (pc' := 573) (k' := 0) (n' := 0) (r_iast (M := mX12_init) h614 hi615 dX12_init_572) ?_
  refine ga_blx (fun x616 => ?_)
  refine ga1 (M := mX12_init) (pc' := 576) (ls' := [some (.ref a0), some (.int a1), some (.int 4)]) (k' := 0) (n' := 0) (r_iincF (M := mX12_init) (ls := [some (.ref a0), some (.int a1), some (.int 3)]) (i := 2) (v := 3) (v' := 4) (by decide) rfl (by decide) rfl dX12_init_573) ?_
  refine ga1 (M := mX12_init) (pc' := 553) (k' := 0) (n' := 0) (r_goto (M := mX12_init) dX12_init_576 (by decide)) ?_
  refine ga1 (M := mX12_init) (pc' := 554) (k' := 0) (n' := 0) (r_iload_n (M := mX12_init) (i := 2) rfl dX12_init_553) ?_
  refine ga1 (M := mX12_init) (pc' := 556) (k' := 0) (n' := 0) (r_bipush (M := mX12_init) (v := 12) (by decide) dX12_init_554) ?_
  refine ga1 (M := mX12_init) (pc' := 559) (k' := 0) (n' := 0) (fun kk => r_icmp_ge (M := mX12_init) (tgt := 579) dX12_init_556 (by decide) (fun h => absurd h (by decide)) (fun _ => kk)) ?_
  refine ga1 (M := mX12_init) (pc' := 560) (k' := 0) (n' := 0) (r_aload_n (M := mX12_init) (i := 0) rfl dX12_init_559) ?_
  refine ga_tk (fun h617 => ?_)
  refine ga_rfk (fun b618 hb619 => ?_)
  refine ga1 (M := mX12_init) (pc' := 563) (k' := 0) (n' := 0) (r_getR (M := mX12_init) fl_12_47 h617 rfl hb619 dX12_init_560) ?_
  refine ga1 (M := mX12_init) (pc' := 564) (k' := 0) (n' := 0) (r_iload_n (M := mX12_init) (i := 2) rfl dX12_init_563) ?_
  refine ga1 (M := mX12_init) (pc' := 565) (k' := 0) (n' := 0) (r_iconst (M := mX12_init) (v := (-1)) (by decide) dX12_init_564) ?_
  refine ga_tk (fun h620 => ?_)
  refine ga_ck (fun hi621 => ?_)
  refine ga1 (M := mX12_init) (pc' := 566) (k' := 0) (n' := 0) (r_iast (M := mX12_init) h620 hi621 dX12_init_565) ?_
  refine ga_blx (fun x622 => ?_)
  refine ga1 (M := mX12_init) (pc' := 567) (k' := 0) (n' := 0) (r_aload_n (M := mX12_init) (i := 0) rfl dX12_init_566) ?_
  refine ga_tk (fun h623 => ?_)
  refine ga_rfk (fun b624 hb625 => ?_)
  refine ga1 (M := mX12_init) (pc' := 570) (k' := 0) (n' := 0) (r_getR (M := mX12_init) fl_12_50 h623 rfl hb625 dX12_init_567) ?_
  refine ga1 (M := mX12_init) (pc' := 571) (k' := 0) (n' := 0) (r_iload_n (M := mX12_init) (i := 2) rfl dX12_init_570) ?_
  refine ga1 (M := mX12_init) (pc' := 572) (k' := 0) (n' := 0) (r_iconst (M := mX12_init) (v := (-1)) (by decide) dX12_init_571) ?_
  refine ga_tk (fun h626 => ?_)
  refine ga_ck (fun hi627 => ?_)
  refine ga1 (M := mX12_init) (pc' := 573) (k' := 0) (n' := 0) (r_iast (M := mX12_init) h626 hi627 dX12_init_572) ?_
  refine ga_blx (fun x628 => ?_)
  refine ga1 (M := mX12_init) (pc' := 576) (ls' := [some (.ref a0), some (.int a1), some (.int 5)]) (k' := 0) (n' := 0) (r_iincF (M := mX12_init) (ls := [some (.ref a0), some (.int a1), some (.int 4)]) (i := 2) (v := 4) (v' := 5) (by decide) rfl (by decide) rfl dX12_init_573) ?_
  refine ga1 (M := mX12_init) (pc' := 553) (k' := 0) (n' := 0) (r_goto (M := mX12_init) dX12_init_576 (by decide)) ?_
  refine ga1 (M := mX12_init) (pc' := 554) (k' := 0) (n' := 0) (r_iload_n (M := mX12_init) (i := 2) rfl dX12_init_553) ?_
  refine ga1 (M := mX12_init) (pc' := 556) (k' := 0) (n' := 0) (r_bipush (M := mX12_init) (v := 12) (by decide) dX12_init_554) ?_
  refine ga1 (M := mX12_init) (pc' := 559) (k' := 0) (n' := 0) (fun kk => r_icmp_ge (M := mX12_init) (tgt := 579) dX12_init_556 (by decide) (fun h => absurd h (by decide)) (fun _ => kk)) ?_
  refine ga1 (M := mX12_init) (pc' := 560) (k' := 0) (n' := 0) (r_aload_n (M := mX12_init) (i := 0) rfl dX12_init_559) ?_
  refine ga_tk (fun h629 => ?_)
  refine ga_rfk (fun b630 hb631 => ?_)
  refine ga1 (M := mX12_init) (pc' := 563) (k' := 0) (n' := 0) (r_getR (M := mX12_init) fl_12_47 h629 rfl hb631 dX12_init_560) ?_
  refine ga1 (M := mX12_init) (pc' := 564) (k' := 0) (n' := 0) (r_iload_n (M := mX12_init) (i := 2) rfl dX12_init_563) ?_
  refine ga1 (M := mX12_init) (pc' := 565) (k' := 0) (n' := 0) (r_iconst (M := mX12_init) (v := (-1)) (by decide) dX12_init_564) ?_
  refine ga_tk (fun h632 => ?_)
  refine ga_ck (fun hi633 => ?_)
  refine ga1 (M := mX12_init) (pc' := 566) (k' := 0) (n' := 0) (r_iast (M := mX12_init) h632 hi633 dX12_init_565) ?_
  refine ga_blx (fun x634 => ?_)
  refine ga1 (M := mX12_init) (pc' := 567) (k' := 0) (n' := 0) (r_aload_n (M := mX12_init) (i := 0) rfl dX12_init_566) ?_
  refine ga_tk (fun h635 => ?_)
  refine ga_rfk (fun b636 hb637 => ?_)
  refine ga1 (M := mX12_init) (pc' := 570) (k' := 0) (n' := 0) (r_getR (M := mX12_init) fl_12_50 h635 rfl hb637 dX12_init_567) ?_
  refine ga1 (M := mX12_init) (pc' := 571) (k' := 0) (n' := 0) (r_iload_n (M := mX12_init) (i := 2) rfl dX12_init_570) ?_
  refine ga1 (M := mX12_init) (pc' := 572) (k' := 0) (n' := 0) (r_iconst (M := mX12_init) (v := (-1)) (by decide) dX12_init_571) ?_
  refine ga_tk (fun h638 => ?_)
  refine ga_ck (fun hi639 => ?_)
  refine ga1 (M := mX12_init) (pc' := 573) (k' := 0) (n' := 0) (r_iast (M := mX12_init) h638 hi639 dX12_init_572) ?_
  refine ga_blx (fun x640 => ?_)
  refine ga1 (M := mX12_init) (pc' := 576) (ls' := [some (.ref a0), some (.int a1), some (.int 6)]) (k' := 0) (n' := 0) (r_iincF (M := mX12_init) (ls := [some (.ref a0), some (.int a1), some (.int 5)]) (i := 2) (v := 5) (v' := 6) (by decide) rfl (by decide) rfl dX12_init_573) ?_
  refine ga1 (M := mX12_init) (pc' := 553) (k' := 0) (n' := 0) (r_goto (M := mX12_init) dX12_init_576 (by decide)) ?_
  refine ga1 (M := mX12_init) (pc' := 554) (k' := 0) (n' := 0) (r_iload_n (M := mX12_init) (i := 2) rfl dX12_init_553) ?_
  refine ga1 (M := mX12_init) (pc' := 556) (k' := 0) (n' := 0) (r_bipush (M := mX12_init) (v := 12) (by decide) dX12_init_554) ?_
  refine ga1 (M := mX12_init) (pc' := 559) (k' := 0) (n' := 0) (fun kk => r_icmp_ge (M := mX12_init) (tgt := 579) dX12_init_556 (by decide) (fun h => absurd h (by decide)) (fun _ => kk)) ?_
  refine ga1 (M := mX12_init) (pc' := 560) (k' := 0) (n' := 0) (r_aload_n (M := mX12_init) (i := 0) rfl dX12_init_559) ?_
  refine ga_tk (fun h641 => ?_)
  refine ga_rfk (fun b642 hb643 => ?_)
  refine ga1 (M := mX12_init) (pc' := 563) (k' := 0) (n' := 0) (r_getR (M := mX12_init) fl_12_47 h641 rfl hb643 dX12_init_560) ?_
  refine ga1 (M := mX12_init) (pc' := 564) (k' := 0) (n' := 0) (r_iload_n (M := mX12_init) (i := 2) rfl dX12_init_563) ?_
  refine ga1 (M := mX12_init) (pc' := 565) (k' := 0) (n' := 0) (r_iconst (M := mX12_init) (v := (-1)) (by decide) dX12_init_564) ?_
  refine ga_tk (fun h644 => ?_)
  refine ga_ck (fun hi645 => ?_)
  refine ga1 (M := mX12_init) (pc' := 566) (k' := 0) (n' := 0) (r_iast (M := mX12_init) h644 hi645 dX12_init_565) ?_
  refine ga_blx (fun x646 => ?_)
  refine ga1 (M := mX12_init) (pc' := 567) (k' := 0) (n' := 0) (r_aload_n (M := mX12_init) (i := 0) rfl dX12_init_566) ?_
  refine ga_tk (fun h647 => ?_)
  refine ga_rfk (fun b648 hb649 => ?_)
  refine ga1 (M := mX12_init) (pc' := 570) (k' := 0) (n' := 0) (r_getR (M := mX12_init) fl_12_50 h647 rfl hb649 dX12_init_567) ?_
  refine ga1 (M := mX12_init) (pc' := 571) (k' := 0) (n' := 0) (r_iload_n (M := mX12_init) (i := 2) rfl dX12_init_570) ?_
  refine ga1 (M := mX12_init) (pc' := 572) (k' := 0) (n' := 0) (r_iconst (M := mX12_init) (v := (-1)) (by decide) dX12_init_571) ?_
  refine ga_tk (fun h650 => ?_)
  refine ga_ck (fun hi651 => ?_)
  refine ga1 (M := mX12_init) (pc' := 573) (k' := 0) (n' := 0) (r_iast (M := mX12_init) h650 hi651 dX12_init_572) ?_
  refine ga_blx (fun x652 => ?_)
  refine ga1 (M := mX12_init) (pc' := 576) (ls' := [some (.ref a0), some (.int a1), some (.int 7)]) (k' := 0) (n' := 0) (r_iincF (M := mX12_init) (ls := [some (.ref a0), some (.int a1), some (.int 6)]) (i := 2) (v := 6) (v' := 7) (by decide) rfl (by decide) rfl dX12_init_573) ?_
  refine ga1 (M := mX12_init) (pc' := 553) (k' := 0) (n' := 0) (r_goto (M := mX12_init) dX12_init_576 (by decide)) ?_
  refine ga1 (M := mX12_init) (pc' := 554) (k' := 0) (n' := 0) (r_iload_n (M := mX12_init) (i := 2) rfl dX12_init_553) ?_
  refine ga1 (M := mX12_init) (pc' := 556) (k' := 0) (n' := 0) (r_bipush (M := mX12_init) (v := 12) (by decide) dX12_init_554) ?_
  refine ga1 (M := mX12_init) (pc' := 559) (k' := 0) (n' := 0) (fun kk => r_icmp_ge (M := mX12_init) (tgt := 579) dX12_init_556 (by decide) (fun h => absurd h (by decide)) (fun _ => kk)) ?_
  refine ga1 (M := mX12_init) (pc' := 560) (k' := 0) (n' := 0) (r_aload_n (M := mX12_init) (i := 0) rfl dX12_init_559) ?_
  refine ga_tk (fun h653 => ?_)
  refine ga_rfk (fun b654 hb655 => ?_)
  refine ga1 (M := mX12_init) (pc' := 563) (k' := 0) (n' := 0) (r_getR (M := mX12_init) fl_12_47 h653 rfl hb655 dX12_init_560) ?_
  refine ga1 (M := mX12_init) (pc' := 564) (k' := 0) (n' := 0) (r_iload_n (M := mX12_init) (i := 2) rfl dX12_init_563) ?_
  refine ga1 (M := mX12_init) (pc' := 565) (k' := 0) (n' := 0) (r_iconst (M := mX12_init) (v := (-1)) (by decide) dX12_init_564) ?_
  refine ga_tk (fun h656 => ?_)
  refine ga_ck (fun hi657 => ?_)
  refine ga1 (M := mX12_init) (pc' := 566) (k' := 0) (n' := 0) (r_iast (M := mX12_init) h656 hi657 dX12_init_565) ?_
  refine ga_blx (fun x658 => ?_)
  refine ga1 (M := mX12_init) (pc' := 567) (k' := 0) (n' := 0) (r_aload_n (M := mX12_init) (i := 0) rfl dX12_init_566) ?_
  refine ga_tk (fun h659 => ?_)
  refine ga_rfk (fun b660 hb661 => ?_)
  refine ga1 (M := mX12_init) (pc' := 570) (k' := 0) (n' := 0) (r_getR (M := mX12_init) fl_12_50 h659 rfl hb661 dX12_init_567) ?_
  refine ga1 (M := mX12_init) (pc' := 571) (k' := 0) (n' := 0) (r_iload_n (M := mX12_init) (i := 2) rfl dX12_init_570) ?_
  refine ga1 (M := mX12_init) (pc' := 572) (k' := 0) (n' := 0) (r_iconst (M := mX12_init) (v := (-1)) (by decide) dX12_init_571) ?_
  refine ga_tk (fun h662 => ?_)
  refine ga_ck (fun hi663 => ?_)
  refine ga1 (M := mX12_init) (pc' := 573) (k' := 0) (n' := 0) (r_iast (M := mX12_init) h662 hi663 dX12_init_572) ?_
  refine ga_blx (fun x664 => ?_)
  refine ga1 (M := mX12_init) (pc' := 576) (ls' := [some (.ref a0), some (.int a1), some (.int 8)]) (k' := 0) (n' := 0) (r_iincF (M := mX12_init) (ls := [some (.ref a0), some (.int a1), some (.int 7)]) (i := 2) (v := 7) (v' := 8) (by decide) rfl (by decide) rfl dX12_init_573) ?_
  refine ga1 (M := mX12_init) (pc' := 553) (k' := 0) (n' := 0) (r_goto (M := mX12_init) dX12_init_576 (by decide)) ?_
  refine ga1 (M := mX12_init) (pc' := 554) (k' := 0) (n' := 0) (r_iload_n (M := mX12_init) (i := 2) rfl dX12_init_553) ?_
  refine ga1 (M := mX12_init) (pc' := 556) (k' := 0) (n' := 0) (r_bipush (M := mX12_init) (v := 12) (by decide) dX12_init_554) ?_
  refine ga1 (M := mX12_init) (pc' := 559) (k' := 0) (n' := 0) (fun kk => r_icmp_ge (M := mX12_init) (tgt := 579) dX12_init_556 (by decide) (fun h => absurd h (by decide)) (fun _ => kk)) ?_
  refine ga1 (M := mX12_init) (pc' := 560) (k' := 0) (n' := 0) (r_aload_n (M := mX12_init) (i := 0) rfl dX12_init_559) ?_
  refine ga_tk (fun h665 => ?_)
  refine ga_rfk (fun b666 hb667 => ?_)
  refine ga1 (M := mX12_init) (pc' := 563) (k' := 0) (n' := 0) (r_getR (M := mX12_init) fl_12_47 h665 rfl hb667 dX12_init_560) ?_
  refine ga1 (M := mX12_init) (pc' := 564) (k' := 0) (n' := 0) (r_iload_n (M := mX12_init) (i := 2) rfl dX12_init_563) ?_
  refine ga1 (M := mX12_init) (pc' := 565) (k' := 0) (n' := 0) (r_iconst (M := mX12_init) (v := (-1)) (by decide) dX12_init_564) ?_
  refine ga_tk (fun h668 => ?_)
  refine ga_ck (fun hi669 => ?_)
  refine ga1 (M := mX12_init) (pc' := 566) (k' := 0) (n' := 0) (r_iast (M := mX12_init) h668 hi669 dX12_init_565) ?_
  refine ga_blx (fun x670 => ?_)
  refine ga1 (M := mX12_init) (pc' := 567) (k' := 0) (n' := 0) (r_aload_n (M := mX12_init) (i := 0) rfl dX12_init_566) ?_
  refine ga_tk (fun h671 => ?_)
  refine ga_rfk (fun b672 hb673 => ?_)
  refine ga1 (M := mX12_init) (pc' := 570) (k' := 0) (n' := 0) (r_getR (M := mX12_init) fl_12_50 h671 rfl hb673 dX12_init_567) ?_
  refine ga1 (M := mX12_init) (pc' := 571) (k' := 0) (n' := 0) (r_iload_n (M := mX12_init) (i := 2) rfl dX12_init_570) ?_
  refine ga1 (M := mX12_init) (pc' := 572) (k' := 0) (n' := 0) (r_iconst (M := mX12_init) (v := (-1)) (by decide) dX12_init_571) ?_
  refine ga_tk (fun h674 => ?_)
  refine ga_ck (fun hi675 => ?_)
  refine ga1 (M := mX12_init) (pc' := 573) (k' := 0) (n' := 0) (r_iast (M := mX12_init) h674 hi675 dX12_init_572) ?_
  refine ga_blx (fun x676 => ?_)
  refine ga1 (M := mX12_init) (pc' := 576) (ls' := [some (.ref a0), some (.int a1), some (.int 9)]) (k' := 0) (n' := 0) (r_iincF (M := mX12_init) (ls := [some (.ref a0), some (.int a1), some (.int 8)]) (i := 2) (v := 8) (v' := 9) (by decide) rfl (by decide) rfl dX12_init_573) ?_
  refine ga1 (M := mX12_init) (pc' := 553) (k' := 0) (n' := 0) (r_goto (M := mX12_init) dX12_init_576 (by decide)) ?_
  refine ga1 (M := mX12_init) (pc' := 554) (k' := 0) (n' := 0) (r_iload_n (M := mX12_init) (i := 2) rfl dX12_init_553) ?_
  refine ga1 (M := mX12_init) (pc' := 556) (k' := 0) (n' := 0) (r_bipush (M := mX12_init) (v := 12) (by decide) dX12_init_554) ?_
  refine ga1 (M := mX12_init) (pc' := 559) (k' := 0) (n' := 0) (fun kk => r_icmp_ge (M := mX12_init) (tgt := 579) dX12_init_556 (by decide) (fun h => absurd h (by decide)) (fun _ => kk)) ?_
  refine ga1 (M := mX12_init) (pc' := 560) (k' := 0) (n' := 0) (r_aload_n (M := mX12_init) (i := 0) rfl dX12_init_559) ?_
  refine ga_tk (fun h677 => ?_)
  refine ga_rfk (fun b678 hb679 => ?_)
  refine ga1 (M := mX12_init) (pc' := 563) (k' := 0) (n' := 0) (r_getR (M := mX12_init) fl_12_47 h677 rfl hb679 dX12_init_560) ?_
  refine ga1 (M := mX12_init) (pc' := 564) (k' := 0) (n' := 0) (r_iload_n (M := mX12_init) (i := 2) rfl dX12_init_563) ?_
  refine ga1 (M := mX12_init) (pc' := 565) (k' := 0) (n' := 0) (r_iconst (M := mX12_init) (v := (-1)) (by decide) dX12_init_564) ?_
  refine ga_tk (fun h680 => ?_)
  refine ga_ck (fun hi681 => ?_)
  refine ga1 (M := mX12_init) (pc' := 566) (k' := 0) (n' := 0) (r_iast (M := mX12_init) h680 hi681 dX12_init_565) ?_
  refine ga_blx (fun x682 => ?_)
  refine ga1 (M := mX12_init) (pc' := 567) (k' := 0) (n' := 0) (r_aload_n (M := mX12_init) (i := 0) rfl dX12_init_566) ?_
  refine ga_tk (fun h683 => ?_)
  refine ga_rfk (fun b684 hb685 => ?_)
  refine ga1 (M := mX12_init) (pc' := 570) (k' := 0) (n' := 0) (r_getR (M := mX12_init) fl_12_50 h683 rfl hb685 dX12_init_567) ?_
  refine ga1 (M := mX12_init) (pc' := 571) (k' := 0) (n' := 0) (r_iload_n (M := mX12_init) (i := 2) rfl dX12_init_570) ?_
  refine ga1 (M := mX12_init) (pc' := 572) (k' := 0) (n' := 0) (r_iconst (M := mX12_init) (v := (-1)) (by decide) dX12_init_571) ?_
  refine ga_tk (fun h686 => ?_)
  refine ga_ck (fun hi687 => ?_)
  refine ga1 (M := mX12_init) (pc' := 573) (k' := 0) (n' := 0) (r_iast (M := mX12_init) h686 hi687 dX12_init_572) ?_
  refine ga_blx (fun x688 => ?_)
  refine ga1 (M := mX12_init) (pc' := 576) (ls' := [some (.ref a0), some (.int a1), some (.int 10)]) (k' := 0) (n' := 0) (r_iincF (M := mX12_init) (ls := [some (.ref a0), some (.int a1), some (.int 9)]) (i := 2) (v := 9) (v' := 10) (by decide) rfl (by decide) rfl dX12_init_573) ?_
  refine ga1 (M := mX12_init) (pc' := 553) (k' := 0) (n' := 0) (r_goto (M := mX12_init) dX12_init_576 (by decide)) ?_
  refine ga1 (M := mX12_init) (pc' := 554) (k' := 0) (n' := 0) (r_iload_n (M := mX12_init) (i := 2) rfl dX12_init_553) ?_
  refine ga1 (M := mX12_init) (pc' := 556) (k' := 0) (n' := 0) (r_bipush (M := mX12_init) (v := 12) (by decide) dX12_init_554) ?_
  refine ga1 (M := mX12_init) (pc' := 559) (k' := 0) (n' := 0) (fun kk => r_icmp_ge (M := mX12_init) (tgt := 579) dX12_init_556 (by decide) (fun h => absurd h (by decide)) (fun _ => kk)) ?_
  refine ga1 (M := mX12_init) (pc' := 560) (k' := 0) (n' := 0) (r_aload_n (M := mX12_init) (i := 0) rfl dX12_init_559) ?_
  refine ga_tk (fun h689 => ?_)
  refine ga_rfk (fun b690 hb691 => ?_)
  refine ga1 (M := mX12_init) (pc' := 563) (k' := 0) (n' := 0) (r_getR (M := mX12_init) fl_12_47 h689 rfl hb691 dX12_init_560) ?_
  refine ga1 (M := mX12_init) (pc' := 564) (k' := 0) (n' := 0) (r_iload_n (M := mX12_init) (i := 2) rfl dX12_init_563) ?_
  refine ga1 (M := mX12_init) (pc' := 565) (k' := 0) (n' := 0) (r_iconst (M := mX12_init) (v := (-1)) (by decide) dX12_init_564) ?_
  refine ga_tk (fun h692 => ?_)
  refine ga_ck (fun hi693 => ?_)
  refine ga1 (M := mX12_init) (pc' := 566) (k' := 0) (n' := 0) (r_iast (M := mX12_init) h692 hi693 dX12_init_565) ?_
  refine ga_blx (fun x694 => ?_)
  refine ga1 (M := mX12_init) (pc' := 567) (k' := 0) (n' := 0) (r_aload_n (M := mX12_init) (i := 0) rfl dX12_init_566) ?_
  refine ga_tk (fun h695 => ?_)
  refine ga_rfk (fun b696 hb697 => ?_)
  refine ga1 (M := mX12_init) (pc' := 570) (k' := 0) (n' := 0) (r_getR (M := mX12_init) fl_12_50 h695 rfl hb697 dX12_init_567) ?_
  refine ga1 (M := mX12_init) (pc' := 571) (k' := 0) (n' := 0) (r_iload_n (M := mX12_init) (i := 2) rfl dX12_init_570) ?_
  refine ga1 (M := mX12_init) (pc' := 572) (k' := 0) (n' := 0) (r_iconst (M := mX12_init) (v := (-1)) (by decide) dX12_init_571) ?_
  refine ga_tk (fun h698 => ?_)
  refine ga_ck (fun hi699 => ?_)
  refine ga1 (M := mX12_init) (pc' := 573) (k' := 0) (n' := 0) (r_iast (M := mX12_init) h698 hi699 dX12_init_572) ?_
  refine ga_blx (fun x700 => ?_)
  refine ga1 (M := mX12_init) (pc' := 576) (ls' := [some (.ref a0), some (.int a1), some (.int 11)]) (k' := 0) (n' := 0) (r_iincF (M := mX12_init) (ls := [some (.ref a0), some (.int a1), some (.int 10)]) (i := 2) (v := 10) (v' := 11) (by decide) rfl (by decide) rfl dX12_init_573) ?_
  refine ga1 (M := mX12_init) (pc' := 553) (k' := 0) (n' := 0) (r_goto (M := mX12_init) dX12_init_576 (by decide)) ?_
  refine ga1 (M := mX12_init) (pc' := 554) (k' := 0) (n' := 0) (r_iload_n (M := mX12_init) (i := 2) rfl dX12_init_553) ?_
  refine ga1 (M := mX12_init) (pc' := 556) (k' := 0) (n' := 0) (r_bipush (M := mX12_init) (v := 12) (by decide) dX12_init_554) ?_
  refine ga1 (M := mX12_init) (pc' := 559) (k' := 0) (n' := 0) (fun kk => r_icmp_ge (M := mX12_init) (tgt := 579) dX12_init_556 (by decide) (fun h => absurd h (by decide)) (fun _ => kk)) ?_
  refine ga1 (M := mX12_init) (pc' := 560) (k' := 0) (n' := 0) (r_aload_n (M := mX12_init) (i := 0) rfl dX12_init_559) ?_
  refine ga_tk (fun h701 => ?_)
  refine ga_rfk (fun b702 hb703 => ?_)
  refine ga1 (M := mX12_init) (pc' := 563) (k' := 0) (n' := 0) (r_getR (M := mX12_init) fl_12_47 h701 rfl hb703 dX12_init_560) ?_
  refine ga1 (M := mX12_init) (pc' := 564) (k' := 0) (n' := 0) (r_iload_n (M := mX12_init) (i := 2) rfl dX12_init_563) ?_
  refine ga1 (M := mX12_init) (pc' := 565) (k' := 0) (n' := 0) (r_iconst (M := mX12_init) (v := (-1)) (by decide) dX12_init_564) ?_
  refine ga_tk (fun h704 => ?_)
  refine ga_ck (fun hi705 => ?_)
  refine ga1 (M := mX12_init) (pc' := 566) (k' := 0) (n' := 0) (r_iast (M := mX12_init) h704 hi705 dX12_init_565) ?_
  refine ga_blx (fun x706 => ?_)
  refine ga1 (M := mX12_init) (pc' := 567) (k' := 0) (n' := 0) (r_aload_n (M := mX12_init) (i := 0) rfl dX12_init_566) ?_
  refine ga_tk (fun h707 => ?_)
  refine ga_rfk (fun b708 hb709 => ?_)
  refine ga1 (M := mX12_init) (pc' := 570) (k' := 0) (n' := 0) (r_getR (M := mX12_init) fl_12_50 h707 rfl hb709 dX12_init_567) ?_
  refine ga1 (M := mX12_init) (pc' := 571) (k' := 0) (n' := 0) (r_iload_n (M := mX12_init) (i := 2) rfl dX12_init_570) ?_
  refine ga1 (M := mX12_init) (pc' := 572) (k' := 0) (n' := 0) (r_iconst (M := mX12_init) (v := (-1)) (by decide) dX12_init_571) ?_
  refine ga_tk (fun h710 => ?_)
  refine ga_ck (fun hi711 => ?_)
  refine ga1 (M := mX12_init) (pc' := 573) (k' := 0) (n' := 0) (r_iast (M := mX12_init) h710 hi711 dX12_init_572) ?_
  refine ga_blx (fun x712 => ?_)
  refine ga1 (M := mX12_init) (pc' := 576) (ls' := [some (.ref a0), some (.int a1), some (.int 12)]) (k' := 0) (n' := 0) (r_iincF (M := mX12_init) (ls := [some (.ref a0), some (.int a1), some (.int 11)]) (i := 2) (v := 11) (v' := 12) (by decide) rfl (by decide) rfl dX12_init_573) ?_
  refine ga1 (M := mX12_init) (pc' := 553) (k' := 0) (n' := 0) (r_goto (M := mX12_init) dX12_init_576 (by decide)) ?_
  refine ga1 (M := mX12_init) (pc' := 554) (k' := 0) (n' := 0) (r_iload_n (M := mX12_init) (i := 2) rfl dX12_init_553) ?_
  refine ga1 (M := mX12_init) (pc' := 556) (k' := 0) (n' := 0) (r_bipush (M := mX12_init) (v := 12) (by decide) dX12_init_554) ?_
  refine ga1 (M := mX12_init) (pc' := 579) (k' := 0) (n' := 0) (fun kk => r_icmp_ge (M := mX12_init) (tgt := 579) dX12_init_556 (by decide) (fun _ => kk) (fun h => absurd (by decide) h)) ?_
  refine ga1 (M := mX12_init) (pc' := 580) (k' := 0) (n' := 0) (r_aload_n (M := mX12_init) (i := 0) rfl dX12_init_579) ?_
  refine ga_fk (fun hf714 => ?_)
  refine ga_tk (fun h715 => ?_)
  refine ga_V (M := mX12_init) (As := []) (st := []) (mc := 0) (ms := 0) (k' := 0) (n' := 0) ln_12_214 lb_X12_ruleZero (tA_X12_ruleZero (N := N) (by omega)) (by omega) h715 (Nat.le_of_ble_eq_true rfl) rfl dX12_init_580 hf714 rfl rfl (fun r713 => ?_)
  show GA mX12_init d _ _ _ 583 [some (.ref a0), some (.int a1), some (.int 12)] [] r713.1 r713.2 0 0 _
  exact ga_vret (M := mX12_init) rfl rfl dX12_init_583
