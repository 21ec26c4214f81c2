theorem dX6_sendTray_17 : decode cX6_sendTray 17 = .ok (.bipush (-4), 2) := by decide +kernel
theorem dX6_sendTray_19 : decode cX6_sendTray 19 = .ok (.ireturn, 1) := by decide +kernel
theorem dX6_sendTray_20 : decode cX6_sendTray 20 = .ok (.aload_n 0, 1) := by decide +kernel
theorem dX6_sendTray_21 : decode cX6_sendTray 21 = .ok (.getfield 12, 3) := by decide +kernel
theorem dX6_sendTray_24 : decode cX6_sendTray 24 = .ok (.iload_n 2, 1) := by decide +kernel
theorem dX6_sendTray_25 : decode cX6_sendTray 25 = .ok (.aload_n 0, 1) := by decide +kernel
theorem dX6_sendTray_26 : decode cX6_sendTray 26 = .ok (.getfield 45, 3) := by decide +kernel
theorem dX6_sendTray_29 : decode cX6_sendTray 29 = .ok (.getfield 96, 3) := by decide +kernel
theorem dX6_sendTray_32 : decode cX6_sendTray 32 = .ok (.iload_n 2, 1) := by decide +kernel
theorem dX6_sendTray_33 : decode cX6_sendTray 33 = .ok (.iaload, 1) := by decide +kernel
theorem dX6_sendTray_34 : decode cX6_sendTray 34 = .ok (.iconst 1, 1) := by decide +kernel
theorem dX6_sendTray_35 : decode cX6_sendTray 35 = .ok (.iload_n 1, 1) := by decide +kernel
theorem dX6_sendTray_36 : decode cX6_sendTray 36 = .ok (.invokevirtual 101, 3) := by decide +kernel
theorem dX6_sendTray_39 : decode cX6_sendTray 39 = .ok (.istore_n 3, 1) := by decide +kernel
theorem dX6_sendTray_40 : decode cX6_sendTray 40 = .ok (.iload_n 3, 1) := by decide +kernel
theorem dX6_sendTray_41 : decode cX6_sendTray 41 = .ok (.ifCond .lt 11, 3) := by decide +kernel
theorem dX6_sendTray_44 : decode cX6_sendTray 44 = .ok (.aload_n 0, 1) := by decide +kernel
theorem dX6_sendTray_45 : decode cX6_sendTray 45 = .ok (.getfield 73, 3) := by decide +kernel
theorem dX6_sendTray_48 : decode cX6_sendTray 48 = .ok (.iload_n 3, 1) := by decide +kernel
theorem dX6_sendTray_49 : decode cX6_sendTray 49 = .ok (.invokevirtual 109, 3) := by decide +kernel
theorem dX6_sendTray_52 : decode cX6_sendTray 52 = .ok (.iload_n 3, 1) := by decide +kernel
theorem dX6_sendTray_53 : decode cX6_sendTray 53 = .ok (.ireturn, 1) := by decide +kernel
theorem dX6_returnPlate_0 : decode cX6_returnPlate 0 = .ok (.aload_n 0, 1) := by decide +kernel
theorem dX6_returnPlate_1 : decode cX6_returnPlate 1 = .ok (.getfield 21, 3) := by decide +kernel
theorem dX6_returnPlate_4 : decode cX6_returnPlate 4 = .ok (.iload_n 1, 1) := by decide +kernel
theorem dX6_returnPlate_5 : decode cX6_returnPlate 5 = .ok (.invokevirtual 112, 3) := by decide +kernel
theorem dX6_returnPlate_8 : decode cX6_returnPlate 8 = .ok (.ifCond .ne 6, 3) := by decide +kernel
theorem dX6_returnPlate_11 : decode cX6_returnPlate 11 = .ok (.bipush (-3), 2) := by decide +kernel
theorem dX6_returnPlate_13 : decode cX6_returnPlate 13 = .ok (.ireturn, 1) := by decide +kernel
theorem dX6_returnPlate_14 : decode cX6_returnPlate 14 = .ok (.aload_n 0, 1) := by decide +kernel
theorem dX6_returnPlate_15 : decode cX6_returnPlate 15 = .ok (.getfield 21, 3) := by decide +kernel
theorem dX6_returnPlate_18 : decode cX6_returnPlate 18 = .ok (.getfield 115, 3) := by decide +kernel
theorem dX6_returnPlate_21 : decode cX6_returnPlate 21 = .ok (.iload_n 1, 1) := by decide +kernel
theorem dX6_returnPlate_22 : decode cX6_returnPlate 22 = .ok (.iaload, 1) := by decide +kernel
theorem dX6_returnPlate_23 : decode cX6_returnPlate 23 = .ok (.istore_n 2, 1) := by decide +kernel
theorem dX6_returnPlate_24 : decode cX6_returnPlate 24 = .ok (.aload_n 0, 1) := by decide +kernel
theorem dX6_returnPlate_25 : decode cX6_returnPlate 25 = .ok (.getfield 21, 3) := by decide +kernel
theorem dX6_returnPlate_28 : decode cX6_returnPlate 28 = .ok (.getfield 118, 3) := by decide +kernel
theorem dX6_returnPlate_31 : decode cX6_returnPlate 31 = .ok (.iload_n 1, 1) := by decide +kernel
theorem dX6_returnPlate_32 : decode cX6_returnPlate 32 = .ok (.iaload, 1) := by decide +kernel
theorem dX6_returnPlate_33 : decode cX6_returnPlate 33 = .ok (.istore_n 3, 1) := by decide +kernel
theorem dX6_returnPlate_34 : decode cX6_returnPlate 34 = .ok (.aload_n 0, 1) := by decide +kernel
theorem dX6_returnPlate_35 : decode cX6_returnPlate 35 = .ok (.getfield 12, 3) := by decide +kernel
theorem dX6_returnPlate_38 : decode cX6_returnPlate 38 = .ok (.iload_n 2, 1) := by decide +kernel
theorem dX6_returnPlate_39 : decode cX6_returnPlate 39 = .ok (.invokevirtual 80, 3) := by decide +kernel
theorem dX6_returnPlate_42 : decode cX6_returnPlate 42 = .ok (.ifCond .eq 21, 3) := by decide +kernel
theorem dX6_returnPlate_45 : decode cX6_returnPlate 45 = .ok (.aload_n 0, 1) := by decide +kernel
theorem dX6_returnPlate_46 : decode cX6_returnPlate 46 = .ok (.iload_n 3, 1) := by decide +kernel
theorem dX6_returnPlate_47 : decode cX6_returnPlate 47 = .ok (.invokevirtual 121, 3) := by decide +kernel
theorem dX6_returnPlate_50 : decode cX6_returnPlate 50 = .ok (.ifCond .eq 13, 3) := by decide +kernel
theorem dX6_returnPlate_53 : decode cX6_returnPlate 53 = .ok (.aload_n 0, 1) := by decide +kernel
theorem dX6_returnPlate_54 : decode cX6_returnPlate 54 = .ok (.getfield 59, 3) := by decide +kernel
theorem dX6_returnPlate_57 : decode cX6_returnPlate 57 = .ok (.iload_n 3, 1) := by decide +kernel
theorem dX6_returnPlate_58 : decode cX6_returnPlate 58 = .ok (.iaload, 1) := by decide +kernel
theorem dX6_returnPlate_59 : decode cX6_returnPlate 59 = .ok (.iconst (-1), 1) := by decide +kernel
theorem dX6_returnPlate_60 : decode cX6_returnPlate 60 = .ok (.if_icmp .eq 6, 3) := by decide +kernel
theorem dX6_returnPlate_63 : decode cX6_returnPlate 63 = .ok (.bipush (-3), 2) := by decide +kernel
theorem dX6_returnPlate_65 : decode cX6_returnPlate 65 = .ok (.ireturn, 1) := by decide +kernel
theorem dX6_returnPlate_66 : decode cX6_returnPlate 66 = .ok (.aload_n 0, 1) := by decide +kernel
theorem dX6_returnPlate_67 : decode cX6_returnPlate 67 = .ok (.getfield 59, 3) := by decide +kernel
theorem dX6_returnPlate_70 : decode cX6_returnPlate 70 = .ok (.iload_n 3, 1) := by decide +kernel
theorem dX6_returnPlate_71 : decode cX6_returnPlate 71 = .ok (.iload_n 2, 1) := by decide +kernel
theorem dX6_returnPlate_72 : decode cX6_returnPlate 72 = .ok (.iastore, 1) := by decide +kernel
theorem dX6_returnPlate_73 : decode cX6_returnPlate 73 = .ok (.aload_n 0, 1) := by decide +kernel
theorem dX6_returnPlate_74 : decode cX6_returnPlate 74 = .ok (.getfield 12, 3) := by decide +kernel
theorem dX6_returnPlate_77 : decode cX6_returnPlate 77 = .ok (.iload_n 2, 1) := by decide +kernel
theorem dX6_returnPlate_78 : decode cX6_returnPlate 78 = .ok (.iconst 0, 1) := by decide +kernel
theorem dX6_returnPlate_79 : decode cX6_returnPlate 79 = .ok (.iconst (-1), 1) := by decide +kernel
theorem dX6_returnPlate_80 : decode cX6_returnPlate 80 = .ok (.invokevirtual 124, 3) := by decide +kernel
theorem dX6_returnPlate_83 : decode cX6_returnPlate 83 = .ok (.aload_n 0, 1) := by decide +kernel
theorem dX6_returnPlate_84 : decode cX6_returnPlate 84 = .ok (.getfield 21, 3) := by decide +kernel
theorem dX6_returnPlate_87 : decode cX6_returnPlate 87 = .ok (.getfield 128, 3) := by decide +kernel
theorem dX6_returnPlate_90 : decode cX6_returnPlate 90 = .ok (.iload_n 1, 1) := by decide +kernel
theorem dX6_returnPlate_91 : decode cX6_returnPlate 91 = .ok (.dup2, 1) := by decide +kernel
theorem dX6_returnPlate_92 : decode cX6_returnPlate 92 = .ok (.iaload, 1) := by decide +kernel
theorem dX6_returnPlate_93 : decode cX6_returnPlate 93 = .ok (.iconst 1, 1) := by decide +kernel
theorem dX6_returnPlate_94 : decode cX6_returnPlate 94 = .ok (.isub, 1) := by decide +kernel
theorem dX6_returnPlate_95 : decode cX6_returnPlate 95 = .ok (.iastore, 1) := by decide +kernel
theorem dX6_returnPlate_96 : decode cX6_returnPlate 96 = .ok (.aload_n 0, 1) := by decide +kernel
theorem dX6_returnPlate_97 : decode cX6_returnPlate 97 = .ok (.getfield 21, 3) := by decide +kernel
theorem dX6_returnPlate_100 : decode cX6_returnPlate 100 = .ok (.getfield 115, 3) := by decide +kernel
theorem dX6_returnPlate_103 : decode cX6_returnPlate 103 = .ok (.iload_n 1, 1) := by decide +kernel
theorem dX6_returnPlate_104 : decode cX6_returnPlate 104 = .ok (.iconst (-1), 1) := by decide +kernel
theorem dX6_returnPlate_105 : decode cX6_returnPlate 105 = .ok (.iastore, 1) := by decide +kernel
theorem dX6_returnPlate_106 : decode cX6_returnPlate 106 = .ok (.iload_n 2, 1) := by decide +kernel
theorem dX6_returnPlate_107 : decode cX6_returnPlate 107 = .ok (.ireturn, 1) := by decide +kernel
theorem dX6_isBusy_0 : decode cX6_isBusy 0 = .ok (.aload_n 0, 1) := by decide +kernel
theorem dX6_isBusy_1 : decode cX6_isBusy 1 = .ok (.getfield 73, 3) := by decide +kernel
theorem dX6_isBusy_4 : decode cX6_isBusy 4 = .ok (.getfield 131, 3) := by decide +kernel
theorem dX6_isBusy_7 : decode cX6_isBusy 7 = .ok (.ifCond .le 5, 3) := by decide +kernel
theorem dX6_isBusy_10 : decode cX6_isBusy 10 = .ok (.iconst 1, 1) := by decide +kernel
theorem dX6_isBusy_11 : decode cX6_isBusy 11 = .ok (.ireturn, 1) := by decide +kernel
theorem dX6_isBusy_12 : decode cX6_isBusy 12 = .ok (.iconst 0, 1) := by decide +kernel
theorem dX6_isBusy_13 : decode cX6_isBusy 13 = .ok (.istore_n 1, 1) := by decide +kernel
theorem dX6_isBusy_14 : decode cX6_isBusy 14 = .ok (.iload_n 1, 1) := by decide +kernel
theorem dX6_isBusy_15 : decode cX6_isBusy 15 = .ok (.aload_n 0, 1) := by decide +kernel
theorem dX6_isBusy_16 : decode cX6_isBusy 16 = .ok (.getfield 59, 3) := by decide +kernel
theorem dX6_isBusy_19 : decode cX6_isBusy 19 = .ok (.arraylength, 1) := by decide +kernel
theorem dX6_isBusy_20 : decode cX6_isBusy 20 = .ok (.if_icmp .ge 32, 3) := by decide +kernel
theorem dX6_isBusy_23 : decode cX6_isBusy 23 = .ok (.aload_n 0, 1) := by decide +kernel
theorem dX6_isBusy_24 : decode cX6_isBusy 24 = .ok (.getfield 59, 3) := by decide +kernel
theorem dX6_isBusy_27 : decode cX6_isBusy 27 = .ok (.iload_n 1, 1) := by decide +kernel
theorem dX6_isBusy_28 : decode cX6_isBusy 28 = .ok (.iaload, 1) := by decide +kernel
theorem dX6_isBusy_29 : decode cX6_isBusy 29 = .ok (.iconst (-1), 1) := by decide +kernel
theorem dX6_isBusy_30 : decode cX6_isBusy 30 = .ok (.if_icmp .ne 14, 3) := by decide +kernel
theorem dX6_isBusy_33 : decode cX6_isBusy 33 = .ok (.aload_n 0, 1) := by decide +kernel
theorem dX6_isBusy_34 : decode cX6_isBusy 34 = .ok (.getfield 73, 3) := by decide +kernel
theorem dX6_isBusy_37 : decode cX6_isBusy 37 = .ok (.iload_n 1, 1) := by decide +kernel
theorem dX6_isBusy_38 : decode cX6_isBusy 38 = .ok (.invokevirtual 134, 3) := by decide +kernel
theorem dX6_isBusy_41 : decode cX6_isBusy 41 = .ok (.ifCond .ne 5, 3) := by decide +kernel
theorem dX6_isBusy_44 : decode cX6_isBusy 44 = .ok (.iconst 1, 1) := by decide +kernel
theorem dX6_isBusy_45 : decode cX6_isBusy 45 = .ok (.ireturn, 1) := by decide +kernel
theorem dX6_isBusy_46 : decode cX6_isBusy 46 = .ok (.iinc 1 1, 3) := by decide +kernel
theorem dX6_isBusy_49 : decode cX6_isBusy 49 = .ok (.goto (-35), 3) := by decide +kernel
theorem dX6_isBusy_52 : decode cX6_isBusy 52 = .ok (.iconst 0, 1) := by decide +kernel
theorem dX6_isBusy_53 : decode cX6_isBusy 53 = .ok (.ireturn, 1) := by decide +kernel
theorem dX6_goByOnce_0 : decode cX6_goByOnce 0 = .ok (.aload_n 0, 1) := by decide +kernel
theorem dX6_goByOnce_1 : decode cX6_goByOnce 1 = .ok (.invokevirtual 137, 3) := by decide +kernel
theorem dX6_goByOnce_4 : decode cX6_goByOnce 4 = .ok (.aload_n 0, 1) := by decide +kernel
theorem dX6_goByOnce_5 : decode cX6_goByOnce 5 = .ok (.invokevirtual 140, 3) := by decide +kernel
theorem dX6_goByOnce_8 : decode cX6_goByOnce 8 = .ok (.aload_n 0, 1) := by decide +kernel
theorem dX6_goByOnce_9 : decode cX6_goByOnce 9 = .ok (.getfield 73, 3) := by decide +kernel
theorem dX6_goByOnce_12 : decode cX6_goByOnce 12 = .ok (.getfield 77, 3) := by decide +kernel
theorem dX6_goByOnce_15 : decode cX6_goByOnce 15 = .ok (.arraylength, 1) := by decide +kernel
theorem dX6_goByOnce_16 : decode cX6_goByOnce 16 = .ok (.iconst 1, 1) := by decide +kernel
theorem dX6_goByOnce_17 : decode cX6_goByOnce 17 = .ok (.isub, 1) := by decide +kernel
theorem dX6_goByOnce_18 : decode cX6_goByOnce 18 = .ok (.istore_n 1, 1) := by decide +kernel
theorem dX6_goByOnce_19 : decode cX6_goByOnce 19 = .ok (.iload_n 1, 1) := by decide +kernel
theorem dX6_goByOnce_20 : decode cX6_goByOnce 20 = .ok (.ifCond .lt 14, 3) := by decide +kernel
theorem dX6_goByOnce_23 : decode cX6_goByOnce 23 = .ok (.aload_n 0, 1) := by decide +kernel
theorem dX6_goByOnce_24 : decode cX6_goByOnce 24 = .ok (.iload_n 1, 1) := by decide +kernel
theorem dX6_goByOnce_25 : decode cX6_goByOnce 25 = .ok (.invokevirtual 143, 3) := by decide +kernel
theorem dX6_goByOnce_28 : decode cX6_goByOnce 28 = .ok (.iinc 1 (-1), 3) := by decide +kernel
theorem dX6_goByOnce_31 : decode cX6_goByOnce 31 = .ok (.goto (-12), 3) := by decide +kernel
theorem dX6_goByOnce_34 : decode cX6_goByOnce 34 = .ok (.aload_n 0, 1) := by decide +kernel
theorem dX6_goByOnce_35 : decode cX6_goByOnce 35 = .ok (.getfield 73, 3) := by decide +kernel
theorem dX6_goByOnce_38 : decode cX6_goByOnce 38 = .ok (.invokevirtual 146, 3) := by decide +kernel
theorem dX6_goByOnce_41 : decode cX6_goByOnce 41 = .ok (.iconst 0, 1) := by decide +kernel
theorem dX6_goByOnce_42 : decode cX6_goByOnce 42 = .ok (.istore_n 1, 1) := by decide +kernel
theorem dX6_goByOnce_43 : decode cX6_goByOnce 43 = .ok (.iload_n 1, 1) := by decide +kernel
theorem dX6_goByOnce_44 : decode cX6_goByOnce 44 = .ok (.aload_n 0, 1) := by decide +kernel
theorem dX6_goByOnce_45 : decode cX6_goByOnce 45 = .ok (.getfield 21, 3) := by decide +kernel
theorem dX6_goByOnce_48 : decode cX6_goByOnce 48 = .ok (.getfield 149, 3) := by decide +kernel
theorem dX6_goByOnce_51 : decode cX6_goByOnce 51 = .ok (.if_icmp .ge 14, 3) := by decide +kernel
theorem dX6_goByOnce_54 : decode cX6_goByOnce 54 = .ok (.aload_n 0, 1) := by decide +kernel
theorem dX6_goByOnce_55 : decode cX6_goByOnce 55 = .ok (.iload_n 1, 1) := by decide +kernel
theorem dX6_goByOnce_56 : decode cX6_goByOnce 56 = .ok (.invokevirtual 152, 3) := by decide +kernel
theorem dX6_goByOnce_59 : decode cX6_goByOnce 59 = .ok (.iinc 1 1, 3) := by decide +kernel
theorem dX6_goByOnce_62 : decode cX6_goByOnce 62 = .ok (.goto (-19), 3) := by decide +kernel
theorem dX6_goByOnce_65 : decode cX6_goByOnce 65 = .ok (.iconst 0, 1) := by decide +kernel
theorem dX6_goByOnce_66 : decode cX6_goByOnce 66 = .ok (.istore_n 1, 1) := by decide +kernel
theorem dX6_goByOnce_67 : decode cX6_goByOnce 67 = .ok (.iload_n 1, 1) := by decide +kernel
theorem dX6_goByOnce_68 : decode cX6_goByOnce 68 = .ok (.aload_n 0, 1) := by decide +kernel
theorem dX6_goByOnce_69 : decode cX6_goByOnce 69 = .ok (.getfield 21, 3) := by decide +kernel
theorem dX6_goByOnce_72 : decode cX6_goByOnce 72 = .ok (.getfield 149, 3) := by decide +kernel
theorem dX6_goByOnce_75 : decode cX6_goByOnce 75 = .ok (.if_icmp .ge 33, 3) := by decide +kernel
theorem dX6_goByOnce_78 : decode cX6_goByOnce 78 = .ok (.aload_n 0, 1) := by decide +kernel
theorem dX6_goByOnce_79 : decode cX6_goByOnce 79 = .ok (.getfield 21, 3) := by decide +kernel
theorem dX6_goByOnce_82 : decode cX6_goByOnce 82 = .ok (.iload_n 1, 1) := by decide +kernel
theorem dX6_goByOnce_83 : decode cX6_goByOnce 83 = .ok (.invokevirtual 112, 3) := by decide +kernel
theorem dX6_goByOnce_86 : decode cX6_goByOnce 86 = .ok (.ifCond .eq 16, 3) := by decide +kernel
theorem dX6_goByOnce_89 : decode cX6_goByOnce 89 = .ok (.aload_n 0, 1) := by decide +kernel
theorem dX6_goByOnce_90 : decode cX6_goByOnce 90 = .ok (.iload_n 1, 1) := by decide +kernel
theorem dX6_goByOnce_91 : decode cX6_goByOnce 91 = .ok (.invokevirtual 155, 3) := by decide +kernel
theorem dX6_goByOnce_94 : decode cX6_goByOnce 94 = .ok (.ifCond .eq 8, 3) := by decide +kernel
theorem dX6_goByOnce_97 : decode cX6_goByOnce 97 = .ok (.aload_n 0, 1) := by decide +kernel
theorem dX6_goByOnce_98 : decode cX6_goByOnce 98 = .ok (.iload_n 1, 1) := by decide +kernel
theorem dX6_goByOnce_99 : decode cX6_goByOnce 99 = .ok (.invokevirtual 159, 3) := by decide +kernel
theorem dX6_goByOnce_102 : decode cX6_goByOnce 102 = .ok (.iinc 1 1, 3) := by decide +kernel
theorem dX6_goByOnce_105 : decode cX6_goByOnce 105 = .ok (.goto (-38), 3) := by decide +kernel
theorem dX6_goByOnce_108 : decode cX6_goByOnce 108 = .ok (.aload_n 0, 1) := by decide +kernel
theorem dX6_goByOnce_109 : decode cX6_goByOnce 109 = .ok (.dup, 1) := by decide +kernel
theorem dX6_goByOnce_110 : decode cX6_goByOnce 110 = .ok (.getfield 31, 3) := by decide +kernel
theorem dX6_goByOnce_113 : decode cX6_goByOnce 113 = .ok (.iconst 1, 1) := by decide +kernel
theorem dX6_goByOnce_114 : decode cX6_goByOnce 114 = .ok (.iadd, 1) := by decide +kernel
theorem dX6_goByOnce_115 : decode cX6_goByOnce 115 = .ok (.putfield 31, 3) := by decide +kernel
theorem dX6_goByOnce_118 : decode cX6_goByOnce 118 = .ok (.return_, 1) := by decide +kernel
theorem dX6_turnBelt_0 : decode cX6_turnBelt 0 = .ok (.aload_n 0, 1) := by decide +kernel
theorem dX6_turnBelt_1 : decode cX6_turnBelt 1 = .ok (.getfield 59, 3) := by decide +kernel
theorem dX6_turnBelt_4 : decode cX6_turnBelt 4 = .ok (.aload_n 0, 1) := by decide +kernel
theorem dX6_turnBelt_5 : decode cX6_turnBelt 5 = .ok (.getfield 59, 3) := by decide +kernel
theorem dX6_turnBelt_8 : decode cX6_turnBelt 8 = .ok (.arraylength, 1) := by decide +kernel
theorem dX6_turnBelt_9 : decode cX6_turnBelt 9 = .ok (.iconst 1, 1) := by decide +kernel
theorem dX6_turnBelt_10 : decode cX6_turnBelt 10 = .ok (.isub, 1) := by decide +kernel
theorem dX6_turnBelt_11 : decode cX6_turnBelt 11 = .ok (.iaload, 1) := by decide +kernel
theorem dX6_turnBelt_12 : decode cX6_turnBelt 12 = .ok (.istore_n 1, 1) := by decide +kernel
theorem dX6_turnBelt_13 : decode cX6_turnBelt 13 = .ok (.aload_n 0, 1) := by decide +kernel
theorem dX6_turnBelt_14 : decode cX6_turnBelt 14 = .ok (.getfield 59, 3) := by decide +kernel
theorem dX6_turnBelt_17 : decode cX6_turnBelt 17 = .ok (.arraylength, 1) := by decide +kernel
theorem dX6_turnBelt_18 : decode cX6_turnBelt 18 = .ok (.iconst 1, 1) := by decide +kernel
theorem dX6_turnBelt_19 : decode cX6_turnBelt 19 = .ok (.isub, 1) := by decide +kernel
theorem dX6_turnBelt_20 : decode cX6_turnBelt 20 = .ok (.istore_n 2, 1) := by decide +kernel
theorem dX6_turnBelt_21 : decode cX6_turnBelt 21 = .ok (.iload_n 2, 1) := by decide +kernel
theorem dX6_turnBelt_22 : decode cX6_turnBelt 22 = .ok (.ifCond .le 36, 3) := by decide +kernel
theorem dX6_turnBelt_25 : decode cX6_turnBelt 25 = .ok (.aload_n 0, 1) := by decide +kernel
theorem dX6_turnBelt_26 : decode cX6_turnBelt 26 = .ok (.getfield 59, 3) := by decide +kernel
theorem dX6_turnBelt_29 : decode cX6_turnBelt 29 = .ok (.iload_n 2, 1) := by decide +kernel
theorem dX6_turnBelt_30 : decode cX6_turnBelt 30 = .ok (.aload_n 0, 1) := by decide +kernel
theorem dX6_turnBelt_31 : decode cX6_turnBelt 31 = .ok (.getfield 59, 3) := by decide +kernel
theorem dX6_turnBelt_34 : decode cX6_turnBelt 34 = .ok (.iload_n 2, 1) := by decide +kernel
theorem dX6_turnBelt_35 : decode cX6_turnBelt 35 = .ok (.iconst 1, 1) := by decide +kernel
theorem dX6_turnBelt_36 : decode cX6_turnBelt 36 = .ok (.isub, 1) := by decide +kernel
theorem dX6_turnBelt_37 : decode cX6_turnBelt 37 = .ok (.iaload, 1) := by decide +kernel
theorem dX6_turnBelt_38 : decode cX6_turnBelt 38 = .ok (.iastore, 1) := by decide +kernel
theorem dX6_turnBelt_39 : decode cX6_turnBelt 39 = .ok (.aload_n 0, 1) := by decide +kernel
theorem dX6_turnBelt_40 : decode cX6_turnBelt 40 = .ok (.getfield 12, 3) := by decide +kernel
theorem dX6_turnBelt_43 : decode cX6_turnBelt 43 = .ok (.aload_n 0, 1) := by decide +kernel
theorem dX6_turnBelt_44 : decode cX6_turnBelt 44 = .ok (.getfield 59, 3) := by decide +kernel
theorem dX6_turnBelt_47 : decode cX6_turnBelt 47 = .ok (.iload_n 2, 1) := by decide +kernel
theorem dX6_turnBelt_48 : decode cX6_turnBelt 48 = .ok (.iaload, 1) := by decide +kernel
theorem dX6_turnBelt_49 : decode cX6_turnBelt 49 = .ok (.invokevirtual 162, 3) := by decide +kernel
theorem dX6_turnBelt_52 : decode cX6_turnBelt 52 = .ok (.iinc 2 (-1), 3) := by decide +kernel
theorem dX6_turnBelt_55 : decode cX6_turnBelt 55 = .ok (.goto (-34), 3) := by decide +kernel
theorem dX6_turnBelt_58 : decode cX6_turnBelt 58 = .ok (.aload_n 0, 1) := by decide +kernel
theorem dX6_turnBelt_59 : decode cX6_turnBelt 59 = .ok (.getfield 59, 3) := by decide +kernel
theorem dX6_turnBelt_62 : decode cX6_turnBelt 62 = .ok (.iconst 0, 1) := by decide +kernel
theorem dX6_turnBelt_63 : decode cX6_turnBelt 63 = .ok (.iload_n 1, 1) := by decide +kernel
theorem dX6_turnBelt_64 : decode cX6_turnBelt 64 = .ok (.iastore, 1) := by decide +kernel
theorem dX6_turnBelt_65 : decode cX6_turnBelt 65 = .ok (.aload_n 0, 1) := by decide +kernel
theorem dX6_turnBelt_66 : decode cX6_turnBelt 66 = .ok (.getfield 12, 3) := by decide +kernel
theorem dX6_turnBelt_69 : decode cX6_turnBelt 69 = .ok (.iload_n 1, 1) := by decide +kernel
theorem dX6_turnBelt_70 : decode cX6_turnBelt 70 = .ok (.invokevirtual 162, 3) := by decide +kernel
theorem dX6_turnBelt_73 : decode cX6_turnBelt 73 = .ok (.return_, 1) := by decide +kernel
theorem dX6_throwStale_0 : decode cX6_throwStale 0 = .ok (.aload_n 0, 1) := by decide +kernel
theorem dX6_throwStale_1 : decode cX6_throwStale 1 = .ok (.getfield 59, 3) := by decide +kernel
theorem dX6_throwStale_4 : decode cX6_throwStale 4 = .ok (.iconst 0, 1) := by decide +kernel
theorem dX6_throwStale_5 : decode cX6_throwStale 5 = .ok (.iaload, 1) := by decide +kernel
theorem dX6_throwStale_6 : decode cX6_throwStale 6 = .ok (.istore_n 1, 1) := by decide +kernel
theorem dX6_throwStale_7 : decode cX6_throwStale 7 = .ok (.aload_n 0, 1) := by decide +kernel
theorem dX6_throwStale_8 : decode cX6_throwStale 8 = .ok (.getfield 12, 3) := by decide +kernel
theorem dX6_throwStale_11 : decode cX6_throwStale 11 = .ok (.iload_n 1, 1) := by decide +kernel
theorem dX6_throwStale_12 : decode cX6_throwStale 12 = .ok (.invokevirtual 80, 3) := by decide +kernel
theorem dX6_throwStale_15 : decode cX6_throwStale 15 = .ok (.ifCond .ne 4, 3) := by decide +kernel
theorem dX6_throwStale_18 : decode cX6_throwStale 18 = .ok (.return_, 1) := by decide +kernel
theorem dX6_throwStale_19 : decode cX6_throwStale 19 = .ok (.aload_n 0, 1) := by decide +kernel
theorem dX6_throwStale_20 : decode cX6_throwStale 20 = .ok (.getfield 12, 3) := by decide +kernel
theorem dX6_throwStale_23 : decode cX6_throwStale 23 = .ok (.getfield 165, 3) := by decide +kernel
theorem dX6_throwStale_26 : decode cX6_throwStale 26 = .ok (.iload_n 1, 1) := by decide +kernel
theorem dX6_throwStale_27 : decode cX6_throwStale 27 = .ok (.iaload, 1) := by decide +kernel
theorem dX6_throwStale_28 : decode cX6_throwStale 28 = .ok (.istore_n 2, 1) := by decide +kernel
theorem dX6_throwStale_29 : decode cX6_throwStale 29 = .ok (.iload_n 2, 1) := by decide +kernel
theorem dX6_throwStale_30 : decode cX6_throwStale 30 = .ok (.invokestatic 93, 3) := by decide +kernel
theorem dX6_throwStale_33 : decode cX6_throwStale 33 = .ok (.ifCond .eq 36, 3) := by decide +kernel
theorem dX6_throwStale_36 : decode cX6_throwStale 36 = .ok (.aload_n 0, 1) := by decide +kernel
theorem dX6_throwStale_37 : decode cX6_throwStale 37 = .ok (.getfield 12, 3) := by decide +kernel
theorem dX6_throwStale_40 : decode cX6_throwStale 40 = .ok (.getfield 168, 3) := by decide +kernel
theorem dX6_throwStale_43 : decode cX6_throwStale 43 = .ok (.iload_n 1, 1) := by decide +kernel
theorem dX6_throwStale_44 : decode cX6_throwStale 44 = .ok (.iaload, 1) := by decide +kernel
theorem dX6_throwStale_45 : decode cX6_throwStale 45 = .ok (.aload_n 0, 1) := by decide +kernel
theorem dX6_throwStale_46 : decode cX6_throwStale 46 = .ok (.getfield 45, 3) := by decide +kernel
theorem dX6_throwStale_49 : decode cX6_throwStale 49 = .ok (.getfield 171, 3) := by decide +kernel
theorem dX6_throwStale_52 : decode cX6_throwStale 52 = .ok (.iload_n 2, 1) := by decide +kernel
theorem dX6_throwStale_53 : decode cX6_throwStale 53 = .ok (.iaload, 1) := by decide +kernel
theorem dX6_throwStale_54 : decode cX6_throwStale 54 = .ok (.if_icmp .le 15, 3) := by decide +kernel
theorem dX6_throwStale_57 : decode cX6_throwStale 57 = .ok (.aload_n 0, 1) := by decide +kernel
theorem dX6_throwStale_58 : decode cX6_throwStale 58 = .ok (.getfield 59, 3) := by decide +kernel
theorem dX6_throwStale_61 : decode cX6_throwStale 61 = .ok (.iconst 0, 1) := by decide +kernel
theorem dX6_throwStale_62 : decode cX6_throwStale 62 = .ok (.iconst (-1), 1) := by decide +kernel
theorem dX6_throwStale_63 : decode cX6_throwStale 63 = .ok (.iastore, 1) := by decide +kernel
theorem dX6_throwStale_64 : decode cX6_throwStale 64 = .ok (.aload_n 0, 1) := by decide +kernel
theorem dX6_throwStale_65 : decode cX6_throwStale 65 = .ok (.iload_n 1, 1) := by decide +kernel
theorem dX6_throwStale_66 : decode cX6_throwStale 66 = .ok (.invokevirtual 174, 3) := by decide +kernel
theorem dX6_throwStale_69 : decode cX6_throwStale 69 = .ok (.return_, 1) := by decide +kernel
theorem dX6_discard_0 : decode cX6_discard 0 = .ok (.aload_n 0, 1) := by decide +kernel
theorem dX6_discard_1 : decode cX6_discard 1 = .ok (.getfield 12, 3) := by decide +kernel
theorem dX6_discard_4 : decode cX6_discard 4 = .ok (.iload_n 1, 1) := by decide +kernel
theorem dX6_discard_5 : decode cX6_discard 5 = .ok (.iconst 4, 1) := by decide +kernel
theorem dX6_discard_6 : decode cX6_discard 6 = .ok (.iconst (-1), 1) := by decide +kernel
theorem dX6_discard_7 : decode cX6_discard 7 = .ok (.invokevirtual 124, 3) := by decide +kernel
theorem dX6_discard_10 : decode cX6_discard 10 = .ok (.aload_n 0, 1) := by decide +kernel
theorem dX6_discard_11 : decode cX6_discard 11 = .ok (.dup, 1) := by decide +kernel
theorem dX6_discard_12 : decode cX6_discard 12 = .ok (.getfield 41, 3) := by decide +kernel
theorem dX6_discard_15 : decode cX6_discard 15 = .ok (.aload_n 0, 1) := by decide +kernel
theorem dX6_discard_16 : decode cX6_discard 16 = .ok (.getfield 45, 3) := by decide +kernel
theorem dX6_discard_19 : decode cX6_discard 19 = .ok (.getfield 177, 3) := by decide +kernel
theorem dX6_discard_22 : decode cX6_discard 22 = .ok (.i2l, 1) := by decide +kernel
theorem dX6_discard_23 : decode cX6_discard 23 = .ok (.lsub, 1) := by decide +kernel
theorem dX6_discard_24 : decode cX6_discard 24 = .ok (.putfield 41, 3) := by decide +kernel
theorem dX6_discard_27 : decode cX6_discard 27 = .ok (.return_, 1) := by decide +kernel
theorem dX6_moveTray_0 : decode cX6_moveTray 0 = .ok (.aload_n 0, 1) := by decide +kernel
theorem dX6_moveTray_1 : decode cX6_moveTray 1 = .ok (.getfield 73, 3) := by decide +kernel
theorem dX6_moveTray_4 : decode cX6_moveTray 4 = .ok (.getfield 77, 3) := by decide +kernel
theorem dX6_moveTray_7 : decode cX6_moveTray 7 = .ok (.iload_n 1, 1) := by decide +kernel
theorem dX6_moveTray_8 : decode cX6_moveTray 8 = .ok (.iaload, 1) := by decide +kernel
theorem dX6_moveTray_9 : decode cX6_moveTray 9 = .ok (.istore_n 2, 1) := by decide +kernel
theorem dX6_moveTray_10 : decode cX6_moveTray 10 = .ok (.aload_n 0, 1) := by decide +kernel
theorem dX6_moveTray_11 : decode cX6_moveTray 11 = .ok (.getfield 12, 3) := by decide +kernel
theorem dX6_moveTray_14 : decode cX6_moveTray 14 = .ok (.iload_n 2, 1) := by decide +kernel
theorem dX6_moveTray_15 : decode cX6_moveTray 15 = .ok (.invokevirtual 80, 3) := by decide +kernel
theorem dX6_moveTray_18 : decode cX6_moveTray 18 = .ok (.ifCond .ne 4, 3) := by decide +kernel
theorem dX6_moveTray_21 : decode cX6_moveTray 21 = .ok (.return_, 1) := by decide +kernel
theorem dX6_moveTray_22 : decode cX6_moveTray 22 = .ok (.aload_n 0, 1) := by decide +kernel
theorem dX6_moveTray_23 : decode cX6_moveTray 23 = .ok (.getfield 12, 3) := by decide +kernel
theorem dX6_moveTray_26 : decode cX6_moveTray 26 = .ok (.iload_n 2, 1) := by decide +kernel
theorem dX6_moveTray_27 : decode cX6_moveTray 27 = .ok (.invokevirtual 162, 3) := by decide +kernel
theorem dX6_moveTray_30 : decode cX6_moveTray 30 = .ok (.aload_n 0, 1) := by decide +kernel
theorem dX6_moveTray_31 : decode cX6_moveTray 31 = .ok (.getfield 12, 3) := by decide +kernel
theorem dX6_moveTray_34 : decode cX6_moveTray 34 = .ok (.getfield 91, 3) := by decide +kernel
theorem dX6_moveTray_37 : decode cX6_moveTray 37 = .ok (.iload_n 2, 1) := by decide +kernel
theorem dX6_moveTray_38 : decode cX6_moveTray 38 = .ok (.iaload, 1) := by decide +kernel
theorem dX6_moveTray_39 : decode cX6_moveTray 39 = .ok (.istore_n 3, 1) := by decide +kernel
theorem dX6_moveTray_40 : decode cX6_moveTray 40 = .ok (.aload_n 0, 1) := by decide +kernel
theorem dX6_moveTray_41 : decode cX6_moveTray 41 = .ok (.getfield 21, 3) := by decide +kernel
theorem dX6_moveTray_44 : decode cX6_moveTray 44 = .ok (.iload_n 3, 1) := by decide +kernel
theorem dX6_moveTray_45 : decode cX6_moveTray 45 = .ok (.invokevirtual 180, 3) := by decide +kernel
theorem dX6_moveTray_48 : decode cX6_moveTray 48 = .ok (.ifCond .eq 45, 3) := by decide +kernel
theorem dX6_moveTray_51 : decode cX6_moveTray 51 = .ok (.aload_n 0, 1) := by decide +kernel
theorem dX6_moveTray_52 : decode cX6_moveTray 52 = .ok (.getfield 21, 3) := by decide +kernel
theorem dX6_moveTray_55 : decode cX6_moveTray 55 = .ok (.getfield 118, 3) := by decide +kernel
theorem dX6_moveTray_58 : decode cX6_moveTray 58 = .ok (.iload_n 3, 1) := by decide +kernel
theorem dX6_moveTray_59 : decode cX6_moveTray 59 = .ok (.iaload, 1) := by decide +kernel
theorem dX6_moveTray_60 : decode cX6_moveTray 60 = .ok (.iload_n 1, 1) := by decide +kernel
theorem dX6_moveTray_61 : decode cX6_moveTray 61 = .ok (.if_icmp .ne 32, 3) := by decide +kernel
theorem dX6_moveTray_64 : decode cX6_moveTray 64 = .ok (.aload_n 0, 1) := by decide +kernel
theorem dX6_moveTray_65 : decode cX6_moveTray 65 = .ok (.getfield 21, 3) := by decide +kernel
theorem dX6_moveTray_68 : decode cX6_moveTray 68 = .ok (.iload_n 3, 1) := by decide +kernel
theorem dX6_moveTray_69 : decode cX6_moveTray 69 = .ok (.invokevirtual 112, 3) := by decide +kernel
theorem dX6_moveTray_72 : decode cX6_moveTray 72 = .ok (.ifCond .ne 56, 3) := by decide +kernel
theorem dX6_moveTray_75 : decode cX6_moveTray 75 = .ok (.aload_n 0, 1) := by decide +kernel
theorem dX6_moveTray_76 : decode cX6_moveTray 76 = .ok (.getfield 73, 3) := by decide +kernel
theorem dX6_moveTray_79 : decode cX6_moveTray 79 = .ok (.getfield 77, 3) := by decide +kernel
theorem dX6_moveTray_82 : decode cX6_moveTray 82 = .ok (.iload_n 1, 1) := by decide +kernel
theorem dX6_moveTray_83 : decode cX6_moveTray 83 = .ok (.iconst (-1), 1) := by decide +kernel
theorem dX6_moveTray_84 : decode cX6_moveTray 84 = .ok (.iastore, 1) := by decide +kernel
theorem dX6_moveTray_85 : decode cX6_moveTray 85 = .ok (.aload_n 0, 1) := by decide +kernel
theorem dX6_moveTray_86 : decode cX6_moveTray 86 = .ok (.iload_n 2, 1) := by decide +kernel
theorem dX6_moveTray_87 : decode cX6_moveTray 87 = .ok (.invokevirtual 174, 3) := by decide +kernel
theorem dX6_moveTray_90 : decode cX6_moveTray 90 = .ok (.goto 38, 3) := by decide +kernel
theorem dX6_moveTray_93 : decode cX6_moveTray 93 = .ok (.aload_n 0, 1) := by decide +kernel
theorem dX6_moveTray_94 : decode cX6_moveTray 94 = .ok (.getfield 73, 3) := by decide +kernel
theorem dX6_moveTray_97 : decode cX6_moveTray 97 = .ok (.iload_n 1, 1) := by decide +kernel
theorem dX6_moveTray_98 : decode cX6_moveTray 98 = .ok (.iconst 1, 1) := by decide +kernel
theorem dX6_moveTray_99 : decode cX6_moveTray 99 = .ok (.iadd, 1) := by decide +kernel
theorem dX6_moveTray_100 : decode cX6_moveTray 100 = .ok (.invokevirtual 134, 3) := by decide +kernel
theorem dX6_moveTray_103 : decode cX6_moveTray 103 = .ok (.ifCond .eq 25, 3) := by decide +kernel
theorem dX6_moveTray_106 : decode cX6_moveTray 106 = .ok (.aload_n 0, 1) := by decide +kernel
theorem dX6_moveTray_107 : decode cX6_moveTray 107 = .ok (.getfield 73, 3) := by decide +kernel
theorem dX6_moveTray_110 : decode cX6_moveTray 110 = .ok (.getfield 77, 3) := by decide +kernel
theorem dX6_moveTray_113 : decode cX6_moveTray 113 = .ok (.iload_n 1, 1) := by decide +kernel
theorem dX6_moveTray_114 : decode cX6_moveTray 114 = .ok (.iconst (-1), 1) := by decide +kernel
theorem dX6_moveTray_115 : decode cX6_moveTray 115 = .ok (.iastore, 1) := by decide +kernel
theorem dX6_moveTray_116 : decode cX6_moveTray 116 = .ok (.aload_n 0, 1) := by decide +kernel
theorem dX6_moveTray_117 : decode cX6_moveTray 117 = .ok (.getfield 73, 3) := by decide +kernel
theorem dX6_moveTray_120 : decode cX6_moveTray 120 = .ok (.getfield 77, 3) := by decide +kernel
theorem dX6_moveTray_123 : decode cX6_moveTray 123 = .ok (.iload_n 1, 1) := by decide +kernel
theorem dX6_moveTray_124 : decode cX6_moveTray 124 = .ok (.iconst 1, 1) := by decide +kernel
theorem dX6_moveTray_125 : decode cX6_moveTray 125 = .ok (.iadd, 1) := by decide +kernel
theorem dX6_moveTray_126 : decode cX6_moveTray 126 = .ok (.iload_n 2, 1) := by decide +kernel
theorem dX6_moveTray_127 : decode cX6_moveTray 127 = .ok (.iastore, 1) := by decide +kernel
theorem dX6_moveTray_128 : decode cX6_moveTray 128 = .ok (.return_, 1) := by decide +kernel
theorem dX6_serve_0 : decode cX6_serve 0 = .ok (.aload_n 0, 1) := by decide +kernel
theorem dX6_serve_1 : decode cX6_serve 1 = .ok (.getfield 21, 3) := by decide +kernel
theorem dX6_serve_4 : decode cX6_serve 4 = .ok (.getfield 115, 3) := by decide +kernel
theorem dX6_serve_7 : decode cX6_serve 7 = .ok (.iload_n 1, 1) := by decide +kernel
theorem dX6_serve_8 : decode cX6_serve 8 = .ok (.iconst (-1), 1) := by decide +kernel
theorem dX6_serve_9 : decode cX6_serve 9 = .ok (.iastore, 1) := by decide +kernel
theorem dX6_serve_10 : decode cX6_serve 10 = .ok (.aload_n 0, 1) := by decide +kernel
theorem dX6_serve_11 : decode cX6_serve 11 = .ok (.getfield 21, 3) := by decide +kernel
theorem dX6_serve_14 : decode cX6_serve 14 = .ok (.getfield 118, 3) := by decide +kernel
theorem dX6_serve_17 : decode cX6_serve 17 = .ok (.iload_n 1, 1) := by decide +kernel
theorem dX6_serve_18 : decode cX6_serve 18 = .ok (.iaload, 1) := by decide +kernel
theorem dX6_serve_19 : decode cX6_serve 19 = .ok (.istore_n 2, 1) := by decide +kernel
theorem dX6_serve_20 : decode cX6_serve 20 = .ok (.aload_n 0, 1) := by decide +kernel
theorem dX6_serve_21 : decode cX6_serve 21 = .ok (.getfield 21, 3) := by decide +kernel
theorem dX6_serve_24 : decode cX6_serve 24 = .ok (.iload_n 1, 1) := by decide +kernel
theorem dX6_serve_25 : decode cX6_serve 25 = .ok (.invokevirtual 112, 3) := by decide +kernel
theorem dX6_serve_28 : decode cX6_serve 28 = .ok (.ifCond .eq 11, 3) := by decide +kernel
theorem dX6_serve_31 : decode cX6_serve 31 = .ok (.aload_n 0, 1) := by decide +kernel
theorem dX6_serve_32 : decode cX6_serve 32 = .ok (.iload_n 2, 1) := by decide +kernel
theorem dX6_serve_33 : decode cX6_serve 33 = .ok (.invokevirtual 121, 3) := by decide +kernel
theorem dX6_serve_36 : decode cX6_serve 36 = .ok (.ifCond .ne 4, 3) := by decide +kernel
theorem dX6_serve_39 : decode cX6_serve 39 = .ok (.return_, 1) := by decide +kernel
theorem dX6_serve_40 : decode cX6_serve 40 = .ok (.aload_n 0, 1) := by decide +kernel
theorem dX6_serve_41 : decode cX6_serve 41 = .ok (.getfield 73, 3) := by decide +kernel
theorem dX6_serve_44 : decode cX6_serve 44 = .ok (.getfield 77, 3) := by decide +kernel
theorem dX6_serve_47 : decode cX6_serve 47 = .ok (.iload_n 2, 1) := by decide +kernel
theorem dX6_serve_48 : decode cX6_serve 48 = .ok (.iaload, 1) := by decide +kernel
theorem dX6_serve_49 : decode cX6_serve 49 = .ok (.istore_n 3, 1) := by decide +kernel
theorem dX6_serve_50 : decode cX6_serve 50 = .ok (.aload_n 0, 1) := by decide +kernel
theorem dX6_serve_51 : decode cX6_serve 51 = .ok (.getfield 59, 3) := by decide +kernel
theorem dX6_serve_54 : decode cX6_serve 54 = .ok (.iload_n 2, 1) := by decide +kernel
theorem dX6_serve_55 : decode cX6_serve 55 = .ok (.iaload, 1) := by decide +kernel
theorem dX6_serve_56 : decode cX6_serve 56 = .ok (.istore 4, 2) := by decide +kernel
theorem dX6_serve_58 : decode cX6_serve 58 = .ok (.aload_n 0, 1) := by decide +kernel
theorem dX6_serve_59 : decode cX6_serve 59 = .ok (.getfield 12, 3) := by decide +kernel
theorem dX6_serve_62 : decode cX6_serve 62 = .ok (.iload_n 3, 1) := by decide +kernel
theorem dX6_serve_63 : decode cX6_serve 63 = .ok (.invokevirtual 80, 3) := by decide +kernel
theorem dX6_serve_66 : decode cX6_serve 66 = .ok (.ifCond .eq 35, 3) := by decide +kernel
theorem dX6_serve_69 : decode cX6_serve 69 = .ok (.aload_n 0, 1) := by decide +kernel
theorem dX6_serve_70 : decode cX6_serve 70 = .ok (.getfield 12, 3) := by decide +kernel
theorem dX6_serve_73 : decode cX6_serve 73 = .ok (.getfield 91, 3) := by decide +kernel
theorem dX6_serve_76 : decode cX6_serve 76 = .ok (.iload_n 3, 1) := by decide +kernel
theorem dX6_serve_77 : decode cX6_serve 77 = .ok (.iaload, 1) := by decide +kernel
theorem dX6_serve_78 : decode cX6_serve 78 = .ok (.iload_n 1, 1) := by decide +kernel
theorem dX6_serve_79 : decode cX6_serve 79 = .ok (.if_icmp .ne 22, 3) := by decide +kernel
theorem dX6_serve_82 : decode cX6_serve 82 = .ok (.aload_n 0, 1) := by decide +kernel
theorem dX6_serve_83 : decode cX6_serve 83 = .ok (.getfield 73, 3) := by decide +kernel
theorem dX6_serve_86 : decode cX6_serve 86 = .ok (.getfield 77, 3) := by decide +kernel
theorem dX6_serve_89 : decode cX6_serve 89 = .ok (.iload_n 2, 1) := by decide +kernel
theorem dX6_serve_90 : decode cX6_serve 90 = .ok (.iconst (-1), 1) := by decide +kernel
theorem dX6_serve_91 : decode cX6_serve 91 = .ok (.iastore, 1) := by decide +kernel
theorem dX6_serve_92 : decode cX6_serve 92 = .ok (.aload_n 0, 1) := by decide +kernel
theorem dX6_serve_93 : decode cX6_serve 93 = .ok (.iload_n 1, 1) := by decide +kernel
theorem dX6_serve_94 : decode cX6_serve 94 = .ok (.iload_n 3, 1) := by decide +kernel
theorem dX6_serve_95 : decode cX6_serve 95 = .ok (.invokevirtual 181, 3) := by decide +kernel
theorem dX6_serve_98 : decode cX6_serve 98 = .ok (.goto 66, 3) := by decide +kernel
theorem dX6_serve_101 : decode cX6_serve 101 = .ok (.aload_n 0, 1) := by decide +kernel
theorem dX6_serve_102 : decode cX6_serve 102 = .ok (.getfield 12, 3) := by decide +kernel
theorem dX6_serve_105 : decode cX6_serve 105 = .ok (.iload 4, 2) := by decide +kernel
theorem dX6_serve_107 : decode cX6_serve 107 = .ok (.invokevirtual 80, 3) := by decide +kernel
theorem dX6_serve_110 : decode cX6_serve 110 = .ok (.ifCond .eq 41, 3) := by decide +kernel
theorem dX6_serve_113 : decode cX6_serve 113 = .ok (.aload_n 0, 1) := by decide +kernel
theorem dX6_serve_114 : decode cX6_serve 114 = .ok (.iload_n 1, 1) := by decide +kernel
theorem dX6_serve_115 : decode cX6_serve 115 = .ok (.iload 4, 2) := by decide +kernel
theorem dX6_serve_117 : decode cX6_serve 117 = .ok (.invokevirtual 185, 3) := by decide +kernel
theorem dX6_serve_120 : decode cX6_serve 120 = .ok (.ifCond .eq 31, 3) := by decide +kernel
theorem dX6_serve_123 : decode cX6_serve 123 = .ok (.aload_n 0, 1) := by decide +kernel
theorem dX6_serve_124 : decode cX6_serve 124 = .ok (.getfield 59, 3) := by decide +kernel
theorem dX6_serve_127 : decode cX6_serve 127 = .ok (.iload_n 2, 1) := by decide +kernel
theorem dX6_serve_128 : decode cX6_serve 128 = .ok (.iconst (-1), 1) := by decide +kernel
theorem dX6_serve_129 : decode cX6_serve 129 = .ok (.iastore, 1) := by decide +kernel
theorem dX6_serve_130 : decode cX6_serve 130 = .ok (.aload_n 0, 1) := by decide +kernel
theorem dX6_serve_131 : decode cX6_serve 131 = .ok (.getfield 21, 3) := by decide +kernel
theorem dX6_serve_134 : decode cX6_serve 134 = .ok (.getfield 115, 3) := by decide +kernel
theorem dX6_serve_137 : decode cX6_serve 137 = .ok (.iload_n 1, 1) := by decide +kernel
theorem dX6_serve_138 : decode cX6_serve 138 = .ok (.iload 4, 2) := by decide +kernel
theorem dX6_serve_140 : decode cX6_serve 140 = .ok (.iastore, 1) := by decide +kernel
theorem dX6_serve_141 : decode cX6_serve 141 = .ok (.aload_n 0, 1) := by decide +kernel
theorem dX6_serve_142 : decode cX6_serve 142 = .ok (.iload_n 1, 1) := by decide +kernel
theorem dX6_serve_143 : decode cX6_serve 143 = .ok (.iload 4, 2) := by decide +kernel
theorem dX6_serve_145 : decode cX6_serve 145 = .ok (.invokevirtual 181, 3) := by decide +kernel
theorem dX6_serve_148 : decode cX6_serve 148 = .ok (.goto 16, 3) := by decide +kernel
theorem dX6_serve_151 : decode cX6_serve 151 = .ok (.aload_n 0, 1) := by decide +kernel
theorem dX6_serve_152 : decode cX6_serve 152 = .ok (.getfield 21, 3) := by decide +kernel
theorem dX6_serve_155 : decode cX6_serve 155 = .ok (.getfield 188, 3) := by decide +kernel
theorem dX6_serve_158 : decode cX6_serve 158 = .ok (.iload_n 1, 1) := by decide +kernel
theorem dX6_serve_159 : decode cX6_serve 159 = .ok (.dup2, 1) := by decide +kernel
theorem dX6_serve_160 : decode cX6_serve 160 = .ok (.iaload, 1) := by decide +kernel
theorem dX6_serve_161 : decode cX6_serve 161 = .ok (.iconst 1, 1) := by decide +kernel
theorem dX6_serve_162 : decode cX6_serve 162 = .ok (.iadd, 1) := by decide +kernel
theorem dX6_serve_163 : decode cX6_serve 163 = .ok (.iastore, 1) := by decide +kernel
theorem dX6_serve_164 : decode cX6_serve 164 = .ok (.return_, 1) := by decide +kernel
theorem dX6_eat_0 : decode cX6_eat 0 = .ok (.aload_n 0, 1) := by decide +kernel
theorem dX6_eat_1 : decode cX6_eat 1 = .ok (.getfield 12, 3) := by decide +kernel
theorem dX6_eat_4 : decode cX6_eat 4 = .ok (.iload_n 2, 1) := by decide +kernel
theorem dX6_eat_5 : decode cX6_eat 5 = .ok (.iconst 2, 1) := by decide +kernel
theorem dX6_eat_6 : decode cX6_eat 6 = .ok (.iload_n 1, 1) := by decide +kernel
theorem dX6_eat_7 : decode cX6_eat 7 = .ok (.invokevirtual 124, 3) := by decide +kernel
theorem dX6_eat_10 : decode cX6_eat 10 = .ok (.aload_n 0, 1) := by decide +kernel
theorem dX6_eat_11 : decode cX6_eat 11 = .ok (.getfield 21, 3) := by decide +kernel
theorem dX6_eat_14 : decode cX6_eat 14 = .ok (.getfield 128, 3) := by decide +kernel
theorem dX6_eat_17 : decode cX6_eat 17 = .ok (.iload_n 1, 1) := by decide +kernel
theorem dX6_eat_18 : decode cX6_eat 18 = .ok (.dup2, 1) := by decide +kernel
theorem dX6_eat_19 : decode cX6_eat 19 = .ok (.iaload, 1) := by decide +kernel
theorem dX6_eat_20 : decode cX6_eat 20 = .ok (.iconst 1, 1) := by decide +kernel
theorem dX6_eat_21 : decode cX6_eat 21 = .ok (.iadd, 1) := by decide +kernel
theorem dX6_eat_22 : decode cX6_eat 22 = .ok (.iastore, 1) := by decide +kernel
theorem dX6_eat_23 : decode cX6_eat 23 = .ok (.aload_n 0, 1) := by decide +kernel
theorem dX6_eat_24 : decode cX6_eat 24 = .ok (.getfield 21, 3) := by decide +kernel
theorem dX6_eat_27 : decode cX6_eat 27 = .ok (.getfield 188, 3) := by decide +kernel
theorem dX6_eat_30 : decode cX6_eat 30 = .ok (.iload_n 1, 1) := by decide +kernel
theorem dX6_eat_31 : decode cX6_eat 31 = .ok (.iconst 0, 1) := by decide +kernel
theorem dX6_eat_32 : decode cX6_eat 32 = .ok (.iastore, 1) := by decide +kernel
theorem dX6_eat_33 : decode cX6_eat 33 = .ok (.aload_n 0, 1) := by decide +kernel
theorem dX6_eat_34 : decode cX6_eat 34 = .ok (.dup, 1) := by decide +kernel
theorem dX6_eat_35 : decode cX6_eat 35 = .ok (.getfield 38, 3) := by decide +kernel
theorem dX6_eat_38 : decode cX6_eat 38 = .ok (.iconst 1, 1) := by decide +kernel
theorem dX6_eat_39 : decode cX6_eat 39 = .ok (.iadd, 1) := by decide +kernel
theorem dX6_eat_40 : decode cX6_eat 40 = .ok (.putfield 38, 3) := by decide +kernel
theorem dX6_eat_43 : decode cX6_eat 43 = .ok (.aload_n 0, 1) := by decide +kernel
theorem dX6_eat_44 : decode cX6_eat 44 = .ok (.dup, 1) := by decide +kernel
theorem dX6_eat_45 : decode cX6_eat 45 = .ok (.getfield 41, 3) := by decide +kernel
theorem dX6_eat_48 : decode cX6_eat 48 = .ok (.aload_n 0, 1) := by decide +kernel
theorem dX6_eat_49 : decode cX6_eat 49 = .ok (.iload_n 2, 1) := by decide +kernel
theorem dX6_eat_50 : decode cX6_eat 50 = .ok (.invokevirtual 191, 3) := by decide +kernel
theorem dX6_eat_53 : decode cX6_eat 53 = .ok (.i2l, 1) := by decide +kernel
theorem dX6_eat_54 : decode cX6_eat 54 = .ok (.ladd, 1) := by decide +kernel
theorem dX6_eat_55 : decode cX6_eat 55 = .ok (.putfield 41, 3) := by decide +kernel
theorem dX6_eat_58 : decode cX6_eat 58 = .ok (.return_, 1) := by decide +kernel
theorem dX6_leave_0 : decode cX6_leave 0 = .ok (.aload_n 0, 1) := by decide +kernel
theorem dX6_leave_1 : decode cX6_leave 1 = .ok (.getfield 21, 3) := by decide +kernel
theorem dX6_leave_4 : decode cX6_leave 4 = .ok (.getfield 194, 3) := by decide +kernel
theorem dX6_leave_7 : decode cX6_leave 7 = .ok (.iload_n 1, 1) := by decide +kernel
theorem dX6_leave_8 : decode cX6_leave 8 = .ok (.iaload, 1) := by decide +kernel
theorem dX6_leave_9 : decode cX6_leave 9 = .ok (.istore_n 2, 1) := by decide +kernel
theorem dX6_leave_10 : decode cX6_leave 10 = .ok (.aload_n 0, 1) := by decide +kernel
theorem dX6_leave_11 : decode cX6_leave 11 = .ok (.getfield 21, 3) := by decide +kernel
theorem dX6_leave_14 : decode cX6_leave 14 = .ok (.iload_n 2, 1) := by decide +kernel
theorem dX6_leave_15 : decode cX6_leave 15 = .ok (.invokevirtual 112, 3) := by decide +kernel
theorem dX6_leave_18 : decode cX6_leave 18 = .ok (.ifCond .eq 16, 3) := by decide +kernel
theorem dX6_leave_21 : decode cX6_leave 21 = .ok (.aload_n 0, 1) := by decide +kernel
theorem dX6_leave_22 : decode cX6_leave 22 = .ok (.getfield 12, 3) := by decide +kernel
theorem dX6_leave_25 : decode cX6_leave 25 = .ok (.iload_n 1, 1) := by decide +kernel
theorem dX6_leave_26 : decode cX6_leave 26 = .ok (.iconst 2, 1) := by decide +kernel
theorem dX6_leave_27 : decode cX6_leave 27 = .ok (.iload_n 2, 1) := by decide +kernel
theorem dX6_leave_28 : decode cX6_leave 28 = .ok (.invokevirtual 197, 3) := by decide +kernel
theorem dX6_leave_31 : decode cX6_leave 31 = .ok (.goto 34, 3) := by decide +kernel
theorem dX6_leave_34 : decode cX6_leave 34 = .ok (.aload_n 0, 1) := by decide +kernel
theorem dX6_leave_35 : decode cX6_leave 35 = .ok (.dup, 1) := by decide +kernel
theorem dX6_leave_36 : decode cX6_leave 36 = .ok (.getfield 35, 3) := by decide +kernel
theorem dX6_leave_39 : decode cX6_leave 39 = .ok (.aload_n 0, 1) := by decide +kernel
theorem dX6_leave_40 : decode cX6_leave 40 = .ok (.getfield 12, 3) := by decide +kernel
theorem dX6_leave_43 : decode cX6_leave 43 = .ok (.iload_n 1, 1) := by decide +kernel
theorem dX6_leave_44 : decode cX6_leave 44 = .ok (.aload_n 0, 1) := by decide +kernel
theorem dX6_leave_45 : decode cX6_leave 45 = .ok (.getfield 45, 3) := by decide +kernel
theorem dX6_leave_48 : decode cX6_leave 48 = .ok (.invokevirtual 200, 3) := by decide +kernel
theorem dX6_leave_51 : decode cX6_leave 51 = .ok (.iadd, 1) := by decide +kernel
theorem dX6_leave_52 : decode cX6_leave 52 = .ok (.putfield 35, 3) := by decide +kernel
theorem dX6_leave_55 : decode cX6_leave 55 = .ok (.aload_n 0, 1) := by decide +kernel
theorem dX6_leave_56 : decode cX6_leave 56 = .ok (.getfield 12, 3) := by decide +kernel
theorem dX6_leave_59 : decode cX6_leave 59 = .ok (.iload_n 1, 1) := by decide +kernel
theorem dX6_leave_60 : decode cX6_leave 60 = .ok (.iconst 3, 1) := by decide +kernel
theorem dX6_leave_61 : decode cX6_leave 61 = .ok (.iconst (-1), 1) := by decide +kernel
theorem dX6_leave_62 : decode cX6_leave 62 = .ok (.invokevirtual 197, 3) := by decide +kernel
theorem dX6_leave_65 : decode cX6_leave 65 = .ok (.aload_n 0, 1) := by decide +kernel
theorem dX6_leave_66 : decode cX6_leave 66 = .ok (.getfield 21, 3) := by decide +kernel
theorem dX6_leave_69 : decode cX6_leave 69 = .ok (.iload_n 1, 1) := by decide +kernel
theorem dX6_leave_70 : decode cX6_leave 70 = .ok (.invokevirtual 204, 3) := by decide +kernel
theorem dX6_leave_73 : decode cX6_leave 73 = .ok (.return_, 1) := by decide +kernel
theorem dX6_priceOf_0 : decode cX6_priceOf 0 = .ok (.aload_n 0, 1) := by decide +kernel
theorem dX6_priceOf_1 : decode cX6_priceOf 1 = .ok (.getfield 12, 3) := by decide +kernel
theorem dX6_priceOf_4 : decode cX6_priceOf 4 = .ok (.iload_n 1, 1) := by decide +kernel
theorem dX6_priceOf_5 : decode cX6_priceOf 5 = .ok (.invokevirtual 80, 3) := by decide +kernel
theorem dX6_priceOf_8 : decode cX6_priceOf 8 = .ok (.ifCond .eq 15, 3) := by decide +kernel
theorem dX6_priceOf_11 : decode cX6_priceOf 11 = .ok (.aload_n 0, 1) := by decide +kernel
theorem dX6_priceOf_12 : decode cX6_priceOf 12 = .ok (.getfield 12, 3) := by decide +kernel
theorem dX6_priceOf_15 : decode cX6_priceOf 15 = .ok (.getfield 207, 3) := by decide +kernel
theorem dX6_priceOf_18 : decode cX6_priceOf 18 = .ok (.iload_n 1, 1) := by decide +kernel
theorem dX6_priceOf_19 : decode cX6_priceOf 19 = .ok (.iaload, 1) := by decide +kernel
theorem dX6_priceOf_20 : decode cX6_priceOf 20 = .ok (.goto 4, 3) := by decide +kernel
theorem dX6_priceOf_23 : decode cX6_priceOf 23 = .ok (.iconst (-1), 1) := by decide +kernel
theorem dX6_priceOf_24 : decode cX6_priceOf 24 = .ok (.istore_n 2, 1) := by decide +kernel
theorem dX6_priceOf_25 : decode cX6_priceOf 25 = .ok (.iload_n 2, 1) := by decide +kernel
theorem dX6_priceOf_26 : decode cX6_priceOf 26 = .ok (.invokestatic 208, 3) := by decide +kernel
theorem dX6_priceOf_29 : decode cX6_priceOf 29 = .ok (.ifCond .eq 15, 3) := by decide +kernel
theorem dX6_priceOf_32 : decode cX6_priceOf 32 = .ok (.aload_n 0, 1) := by decide +kernel
theorem dX6_priceOf_33 : decode cX6_priceOf 33 = .ok (.getfield 45, 3) := by decide +kernel
theorem dX6_priceOf_36 : decode cX6_priceOf 36 = .ok (.getfield 211, 3) := by decide +kernel
theorem dX6_priceOf_39 : decode cX6_priceOf 39 = .ok (.iload_n 2, 1) := by decide +kernel
theorem dX6_priceOf_40 : decode cX6_priceOf 40 = .ok (.iaload, 1) := by decide +kernel
theorem dX6_priceOf_41 : decode cX6_priceOf 41 = .ok (.goto 4, 3) := by decide +kernel
theorem dX6_priceOf_44 : decode cX6_priceOf 44 = .ok (.iconst 0, 1) := by decide +kernel
theorem dX6_priceOf_45 : decode cX6_priceOf 45 = .ok (.ireturn, 1) := by decide +kernel
theorem dX6_likingOf_0 : decode cX6_likingOf 0 = .ok (.aload_n 0, 1) := by decide +kernel
theorem dX6_likingOf_1 : decode cX6_likingOf 1 = .ok (.getfield 21, 3) := by decide +kernel
theorem dX6_likingOf_4 : decode cX6_likingOf 4 = .ok (.iload_n 1, 1) := by decide +kernel
theorem dX6_likingOf_5 : decode cX6_likingOf 5 = .ok (.invokevirtual 112, 3) := by decide +kernel
theorem dX6_likingOf_8 : decode cX6_likingOf 8 = .ok (.ifCond .eq 14, 3) := by decide +kernel
theorem dX6_likingOf_11 : decode cX6_likingOf 11 = .ok (.aload_n 0, 1) := by decide +kernel
theorem dX6_likingOf_12 : decode cX6_likingOf 12 = .ok (.getfield 12, 3) := by decide +kernel
theorem dX6_likingOf_15 : decode cX6_likingOf 15 = .ok (.iload_n 2, 1) := by decide +kernel
theorem dX6_likingOf_16 : decode cX6_likingOf 16 = .ok (.invokevirtual 80, 3) := by decide +kernel
theorem dX6_likingOf_19 : decode cX6_likingOf 19 = .ok (.ifCond .ne 5, 3) := by decide +kernel
theorem dX6_likingOf_22 : decode cX6_likingOf 22 = .ok (.iconst 0, 1) := by decide +kernel
theorem dX6_likingOf_23 : decode cX6_likingOf 23 = .ok (.ireturn, 1) := by decide +kernel
theorem dX6_likingOf_24 : decode cX6_likingOf 24 = .ok (.aload_n 0, 1) := by decide +kernel
theorem dX6_likingOf_25 : decode cX6_likingOf 25 = .ok (.getfield 12, 3) := by decide +kernel
theorem dX6_likingOf_28 : decode cX6_likingOf 28 = .ok (.getfield 165, 3) := by decide +kernel
theorem dX6_likingOf_31 : decode cX6_likingOf 31 = .ok (.iload_n 2, 1) := by decide +kernel
theorem dX6_likingOf_32 : decode cX6_likingOf 32 = .ok (.iaload, 1) := by decide +kernel
theorem dX6_likingOf_33 : decode cX6_likingOf 33 = .ok (.istore_n 3, 1) := by decide +kernel
theorem dX6_likingOf_34 : decode cX6_likingOf 34 = .ok (.aload_n 0, 1) := by decide +kernel
theorem dX6_likingOf_35 : decode cX6_likingOf 35 = .ok (.getfield 21, 3) := by decide +kernel
theorem dX6_likingOf_38 : decode cX6_likingOf 38 = .ok (.iload_n 1, 1) := by decide +kernel
theorem dX6_likingOf_39 : decode cX6_likingOf 39 = .ok (.iload_n 3, 1) := by decide +kernel
theorem dX6_likingOf_40 : decode cX6_likingOf 40 = .ok (.invokevirtual 214, 3) := by decide +kernel
theorem dX6_likingOf_43 : decode cX6_likingOf 43 = .ok (.istore 4, 2) := by decide +kernel
theorem dX6_likingOf_45 : decode cX6_likingOf 45 = .ok (.iload_n 3, 1) := by decide +kernel
theorem dX6_likingOf_46 : decode cX6_likingOf 46 = .ok (.ifCond .ne 7, 3) := by decide +kernel
theorem dX6_likingOf_49 : decode cX6_likingOf 49 = .ok (.iconst 2, 1) := by decide +kernel
theorem dX6_likingOf_50 : decode cX6_likingOf 50 = .ok (.goto 4, 3) := by decide +kernel
theorem dX6_likingOf_53 : decode cX6_likingOf 53 = .ok (.iconst 0, 1) := by decide +kernel
theorem dX6_likingOf_54 : decode cX6_likingOf 54 = .ok (.istore 5, 2) := by decide +kernel
theorem dX6_likingOf_56 : decode cX6_likingOf 56 = .ok (.aload_n 0, 1) := by decide +kernel
theorem dX6_likingOf_57 : decode cX6_likingOf 57 = .ok (.getfield 21, 3) := by decide +kernel
theorem dX6_likingOf_60 : decode cX6_likingOf 60 = .ok (.getfield 217, 3) := by decide +kernel
theorem dX6_likingOf_63 : decode cX6_likingOf 63 = .ok (.iload_n 1, 1) := by decide +kernel
theorem dX6_likingOf_64 : decode cX6_likingOf 64 = .ok (.iaload, 1) := by decide +kernel
theorem dX6_likingOf_65 : decode cX6_likingOf 65 = .ok (.tableswitch 102 1 5 #[35, 41, 46, 61, 78], 35) := by decide +kernel
theorem dX6_likingOf_100 : decode cX6_likingOf 100 = .ok (.iload 4, 2) := by decide +kernel
theorem dX6_likingOf_102 : decode cX6_likingOf 102 = .ok (.iload 5, 2) := by decide +kernel
theorem dX6_likingOf_104 : decode cX6_likingOf 104 = .ok (.iadd, 1) := by decide +kernel
theorem dX6_likingOf_105 : decode cX6_likingOf 105 = .ok (.ireturn, 1) := by decide +kernel
theorem dX6_likingOf_106 : decode cX6_likingOf 106 = .ok (.iload 4, 2) := by decide +kernel
theorem dX6_likingOf_108 : decode cX6_likingOf 108 = .ok (.iconst 1, 1) := by decide +kernel
theorem dX6_likingOf_109 : decode cX6_likingOf 109 = .ok (.iadd, 1) := by decide +kernel
theorem dX6_likingOf_110 : decode cX6_likingOf 110 = .ok (.ireturn, 1) := by decide +kernel
theorem dX6_likingOf_111 : decode cX6_likingOf 111 = .ok (.iload 4, 2) := by decide +kernel
theorem dX6_likingOf_113 : decode cX6_likingOf 113 = .ok (.aload_n 0, 1) := by decide +kernel
theorem dX6_likingOf_114 : decode cX6_likingOf 114 = .ok (.getfield 12, 3) := by decide +kernel
theorem dX6_likingOf_117 : decode cX6_likingOf 117 = .ok (.getfield 168, 3) := by decide +kernel
theorem dX6_likingOf_120 : decode cX6_likingOf 120 = .ok (.iload_n 2, 1) := by decide +kernel
theorem dX6_likingOf_121 : decode cX6_likingOf 121 = .ok (.iaload, 1) := by decide +kernel
theorem dX6_likingOf_122 : decode cX6_likingOf 122 = .ok (.iconst 4, 1) := by decide +kernel
theorem dX6_likingOf_123 : decode cX6_likingOf 123 = .ok (.idiv, 1) := by decide +kernel
theorem dX6_likingOf_124 : decode cX6_likingOf 124 = .ok (.isub, 1) := by decide +kernel
theorem dX6_likingOf_125 : decode cX6_likingOf 125 = .ok (.ireturn, 1) := by decide +kernel
theorem dX6_likingOf_126 : decode cX6_likingOf 126 = .ok (.iload 4, 2) := by decide +kernel
theorem dX6_likingOf_128 : decode cX6_likingOf 128 = .ok (.iconst 1, 1) := by decide +kernel
theorem dX6_likingOf_129 : decode cX6_likingOf 129 = .ok (.iadd, 1) := by decide +kernel
theorem dX6_likingOf_130 : decode cX6_likingOf 130 = .ok (.aload_n 0, 1) := by decide +kernel
theorem dX6_likingOf_131 : decode cX6_likingOf 131 = .ok (.getfield 21, 3) := by decide +kernel
theorem dX6_likingOf_134 : decode cX6_likingOf 134 = .ok (.getfield 188, 3) := by decide +kernel
theorem dX6_likingOf_137 : decode cX6_likingOf 137 = .ok (.iload_n 1, 1) := by decide +kernel
theorem dX6_likingOf_138 : decode cX6_likingOf 138 = .ok (.iaload, 1) := by decide +kernel
theorem dX6_likingOf_139 : decode cX6_likingOf 139 = .ok (.iconst 5, 1) := by decide +kernel
theorem dX6_likingOf_140 : decode cX6_likingOf 140 = .ok (.idiv, 1) := by decide +kernel
theorem dX6_likingOf_141 : decode cX6_likingOf 141 = .ok (.iadd, 1) := by decide +kernel
theorem dX6_likingOf_142 : decode cX6_likingOf 142 = .ok (.ireturn, 1) := by decide +kernel
theorem dX6_likingOf_143 : decode cX6_likingOf 143 = .ok (.aload_n 0, 1) := by decide +kernel
theorem dX6_likingOf_144 : decode cX6_likingOf 144 = .ok (.getfield 21, 3) := by decide +kernel
theorem dX6_likingOf_147 : decode cX6_likingOf 147 = .ok (.getfield 128, 3) := by decide +kernel
theorem dX6_likingOf_150 : decode cX6_likingOf 150 = .ok (.iload_n 1, 1) := by decide +kernel
theorem dX6_likingOf_151 : decode cX6_likingOf 151 = .ok (.iaload, 1) := by decide +kernel
theorem dX6_likingOf_152 : decode cX6_likingOf 152 = .ok (.iconst 2, 1) := by decide +kernel
theorem dX6_likingOf_153 : decode cX6_likingOf 153 = .ok (.if_icmp .ge 11, 3) := by decide +kernel
theorem dX6_likingOf_156 : decode cX6_likingOf 156 = .ok (.iload 4, 2) := by decide +kernel
theorem dX6_likingOf_158 : decode cX6_likingOf 158 = .ok (.iload 5, 2) := by decide +kernel
theorem dX6_likingOf_160 : decode cX6_likingOf 160 = .ok (.iadd, 1) := by decide +kernel
theorem dX6_likingOf_161 : decode cX6_likingOf 161 = .ok (.goto 5, 3) := by decide +kernel
theorem dX6_likingOf_164 : decode cX6_likingOf 164 = .ok (.iload 4, 2) := by decide +kernel
theorem dX6_likingOf_166 : decode cX6_likingOf 166 = .ok (.ireturn, 1) := by decide +kernel
theorem dX6_likingOf_167 : decode cX6_likingOf 167 = .ok (.iload 4, 2) := by decide +kernel
theorem dX6_likingOf_169 : decode cX6_likingOf 169 = .ok (.ireturn, 1) := by decide +kernel
theorem dX6_takeValue_0 : decode cX6_takeValue 0 = .ok (.aload_n 0, 1) := by decide +kernel
theorem dX6_takeValue_1 : decode cX6_takeValue 1 = .ok (.getfield 21, 3) := by decide +kernel
theorem dX6_takeValue_4 : decode cX6_takeValue 4 = .ok (.iload_n 1, 1) := by decide +kernel
theorem dX6_takeValue_5 : decode cX6_takeValue 5 = .ok (.invokevirtual 112, 3) := by decide +kernel
theorem dX6_takeValue_8 : decode cX6_takeValue 8 = .ok (.ifCond .eq 14, 3) := by decide +kernel
theorem dX6_takeValue_11 : decode cX6_takeValue 11 = .ok (.aload_n 0, 1) := by decide +kernel
theorem dX6_takeValue_12 : decode cX6_takeValue 12 = .ok (.getfield 12, 3) := by decide +kernel
theorem dX6_takeValue_15 : decode cX6_takeValue 15 = .ok (.iload_n 2, 1) := by decide +kernel
theorem dX6_takeValue_16 : decode cX6_takeValue 16 = .ok (.invokevirtual 80, 3) := by decide +kernel
theorem dX6_takeValue_19 : decode cX6_takeValue 19 = .ok (.ifCond .ne 5, 3) := by decide +kernel
theorem dX6_takeValue_22 : decode cX6_takeValue 22 = .ok (.iconst 0, 1) := by decide +kernel
theorem dX6_takeValue_23 : decode cX6_takeValue 23 = .ok (.ireturn, 1) := by decide +kernel
theorem dX6_takeValue_24 : decode cX6_takeValue 24 = .ok (.aload_n 0, 1) := by decide +kernel
theorem dX6_takeValue_25 : decode cX6_takeValue 25 = .ok (.getfield 27, 3) := by decide +kernel
theorem dX6_takeValue_28 : decode cX6_takeValue 28 = .ok (.iconst 0, 1) := by decide +kernel
theorem dX6_takeValue_29 : decode cX6_takeValue 29 = .ok (.aload_n 0, 1) := by decide +kernel
theorem dX6_takeValue_30 : decode cX6_takeValue 30 = .ok (.iload_n 1, 1) := by decide +kernel
theorem dX6_takeValue_31 : decode cX6_takeValue 31 = .ok (.iload_n 2, 1) := by decide +kernel
theorem dX6_takeValue_32 : decode cX6_takeValue 32 = .ok (.invokevirtual 220, 3) := by decide +kernel
theorem dX6_takeValue_35 : decode cX6_takeValue 35 = .ok (.iastore, 1) := by decide +kernel
theorem dX6_takeValue_36 : decode cX6_takeValue 36 = .ok (.aload_n 0, 1) := by decide +kernel
theorem dX6_takeValue_37 : decode cX6_takeValue 37 = .ok (.getfield 27, 3) := by decide +kernel
theorem dX6_takeValue_40 : decode cX6_takeValue 40 = .ok (.iconst 1, 1) := by decide +kernel
theorem dX6_takeValue_41 : decode cX6_takeValue 41 = .ok (.aload_n 0, 1) := by decide +kernel
theorem dX6_takeValue_42 : decode cX6_takeValue 42 = .ok (.getfield 12, 3) := by decide +kernel
theorem dX6_takeValue_45 : decode cX6_takeValue 45 = .ok (.getfield 168, 3) := by decide +kernel
theorem dX6_takeValue_48 : decode cX6_takeValue 48 = .ok (.iload_n 2, 1) := by decide +kernel
theorem dX6_takeValue_49 : decode cX6_takeValue 49 = .ok (.iaload, 1) := by decide +kernel
theorem dX6_takeValue_50 : decode cX6_takeValue 50 = .ok (.iastore, 1) := by decide +kernel
theorem dX6_takeValue_51 : decode cX6_takeValue 51 = .ok (.aload_n 0, 1) := by decide +kernel
theorem dX6_takeValue_52 : decode cX6_takeValue 52 = .ok (.getfield 27, 3) := by decide +kernel
theorem dX6_takeValue_55 : decode cX6_takeValue 55 = .ok (.iconst 4, 1) := by decide +kernel
theorem dX6_takeValue_56 : decode cX6_takeValue 56 = .ok (.aload_n 0, 1) := by decide +kernel
theorem dX6_takeValue_57 : decode cX6_takeValue 57 = .ok (.iload_n 2, 1) := by decide +kernel
theorem dX6_takeValue_58 : decode cX6_takeValue 58 = .ok (.invokevirtual 191, 3) := by decide +kernel
theorem dX6_takeValue_61 : decode cX6_takeValue 61 = .ok (.iastore, 1) := by decide +kernel
theorem dX6_takeValue_62 : decode cX6_takeValue 62 = .ok (.aload_n 0, 1) := by decide +kernel
theorem dX6_takeValue_63 : decode cX6_takeValue 63 = .ok (.iload_n 1, 1) := by decide +kernel
theorem dX6_takeValue_64 : decode cX6_takeValue 64 = .ok (.invokevirtual 223, 3) := by decide +kernel
theorem dX6_takeValue_67 : decode cX6_takeValue 67 = .ok (.aload_n 0, 1) := by decide +kernel
theorem dX6_takeValue_68 : decode cX6_takeValue 68 = .ok (.getfield 49, 3) := by decide +kernel
theorem dX6_takeValue_71 : decode cX6_takeValue 71 = .ok (.getfield 226, 3) := by decide +kernel
theorem dX6_takeValue_74 : decode cX6_takeValue 74 = .ok (.iconst 0, 1) := by decide +kernel
theorem dX6_takeValue_75 : decode cX6_takeValue 75 = .ok (.aload_n 0, 1) := by decide +kernel
theorem dX6_takeValue_76 : decode cX6_takeValue 76 = .ok (.getfield 27, 3) := by decide +kernel
theorem dX6_takeValue_79 : decode cX6_takeValue 79 = .ok (.invokevirtual 232, 3) := by decide +kernel
theorem dX6_takeValue_82 : decode cX6_takeValue 82 = .ok (.ireturn, 1) := by decide +kernel
theorem dX6_goValue_0 : decode cX6_goValue 0 = .ok (.aload_n 0, 1) := by decide +kernel
theorem dX6_goValue_1 : decode cX6_goValue 1 = .ok (.getfield 21, 3) := by decide +kernel
theorem dX6_goValue_4 : decode cX6_goValue 4 = .ok (.iload_n 1, 1) := by decide +kernel
theorem dX6_goValue_5 : decode cX6_goValue 5 = .ok (.invokevirtual 112, 3) := by decide +kernel
theorem dX6_goValue_8 : decode cX6_goValue 8 = .ok (.ifCond .ne 5, 3) := by decide +kernel
theorem dX6_goValue_11 : decode cX6_goValue 11 = .ok (.iconst 0, 1) := by decide +kernel
theorem dX6_goValue_12 : decode cX6_goValue 12 = .ok (.ireturn, 1) := by decide +kernel
theorem dX6_goValue_13 : decode cX6_goValue 13 = .ok (.aload_n 0, 1) := by decide +kernel
theorem dX6_goValue_14 : decode cX6_goValue 14 = .ok (.getfield 27, 3) := by decide +kernel
theorem dX6_goValue_17 : decode cX6_goValue 17 = .ok (.iconst 0, 1) := by decide +kernel
theorem dX6_goValue_18 : decode cX6_goValue 18 = .ok (.iconst 0, 1) := by decide +kernel
theorem dX6_goValue_19 : decode cX6_goValue 19 = .ok (.iastore, 1) := by decide +kernel
theorem dX6_goValue_20 : decode cX6_goValue 20 = .ok (.aload_n 0, 1) := by decide +kernel
theorem dX6_goValue_21 : decode cX6_goValue 21 = .ok (.getfield 27, 3) := by decide +kernel
theorem dX6_goValue_24 : decode cX6_goValue 24 = .ok (.iconst 1, 1) := by decide +kernel
theorem dX6_goValue_25 : decode cX6_goValue 25 = .ok (.iconst 0, 1) := by decide +kernel
theorem dX6_goValue_26 : decode cX6_goValue 26 = .ok (.iastore, 1) := by decide +kernel
theorem dX6_goValue_27 : decode cX6_goValue 27 = .ok (.aload_n 0, 1) := by decide +kernel
theorem dX6_goValue_28 : decode cX6_goValue 28 = .ok (.getfield 27, 3) := by decide +kernel
theorem dX6_goValue_31 : decode cX6_goValue 31 = .ok (.iconst 4, 1) := by decide +kernel
theorem dX6_goValue_32 : decode cX6_goValue 32 = .ok (.iconst 0, 1) := by decide +kernel
theorem dX6_goValue_33 : decode cX6_goValue 33 = .ok (.iastore, 1) := by decide +kernel
theorem dX6_goValue_34 : decode cX6_goValue 34 = .ok (.aload_n 0, 1) := by decide +kernel
theorem dX6_goValue_35 : decode cX6_goValue 35 = .ok (.iload_n 1, 1) := by decide +kernel
theorem dX6_goValue_36 : decode cX6_goValue 36 = .ok (.invokevirtual 223, 3) := by decide +kernel
theorem dX6_goValue_39 : decode cX6_goValue 39 = .ok (.aload_n 0, 1) := by decide +kernel
theorem dX6_goValue_40 : decode cX6_goValue 40 = .ok (.getfield 49, 3) := by decide +kernel
theorem dX6_goValue_43 : decode cX6_goValue 43 = .ok (.getfield 226, 3) := by decide +kernel
theorem dX6_goValue_46 : decode cX6_goValue 46 = .ok (.iconst 1, 1) := by decide +kernel
theorem dX6_goValue_47 : decode cX6_goValue 47 = .ok (.aload_n 0, 1) := by decide +kernel
theorem dX6_goValue_48 : decode cX6_goValue 48 = .ok (.getfield 27, 3) := by decide +kernel
theorem dX6_goValue_51 : decode cX6_goValue 51 = .ok (.invokevirtual 232, 3) := by decide +kernel
theorem dX6_goValue_54 : decode cX6_goValue 54 = .ok (.ireturn, 1) := by decide +kernel
theorem dX6_learnGuest_0 : decode cX6_learnGuest 0 = .ok (.aload_n 0, 1) := by decide +kernel
theorem dX6_learnGuest_1 : decode cX6_learnGuest 1 = .ok (.getfield 27, 3) := by decide +kernel
theorem dX6_learnGuest_4 : decode cX6_learnGuest 4 = .ok (.iconst 2, 1) := by decide +kernel
theorem dX6_learnGuest_5 : decode cX6_learnGuest 5 = .ok (.aload_n 0, 1) := by decide +kernel
theorem dX6_learnGuest_6 : decode cX6_learnGuest 6 = .ok (.getfield 21, 3) := by decide +kernel
theorem dX6_learnGuest_9 : decode cX6_learnGuest 9 = .ok (.getfield 188, 3) := by decide +kernel
theorem dX6_learnGuest_12 : decode cX6_learnGuest 12 = .ok (.iload_n 1, 1) := by decide +kernel
theorem dX6_learnGuest_13 : decode cX6_learnGuest 13 = .ok (.iaload, 1) := by decide +kernel
theorem dX6_learnGuest_14 : decode cX6_learnGuest 14 = .ok (.iastore, 1) := by decide +kernel
theorem dX6_learnGuest_15 : decode cX6_learnGuest 15 = .ok (.aload_n 0, 1) := by decide +kernel
theorem dX6_learnGuest_16 : decode cX6_learnGuest 16 = .ok (.getfield 27, 3) := by decide +kernel
theorem dX6_learnGuest_19 : decode cX6_learnGuest 19 = .ok (.iconst 3, 1) := by decide +kernel
theorem dX6_learnGuest_20 : decode cX6_learnGuest 20 = .ok (.aload_n 0, 1) := by decide +kernel
theorem dX6_learnGuest_21 : decode cX6_learnGuest 21 = .ok (.getfield 21, 3) := by decide +kernel
theorem dX6_learnGuest_24 : decode cX6_learnGuest 24 = .ok (.getfield 128, 3) := by decide +kernel
theorem dX6_learnGuest_27 : decode cX6_learnGuest 27 = .ok (.iload_n 1, 1) := by decide +kernel
theorem dX6_learnGuest_28 : decode cX6_learnGuest 28 = .ok (.iaload, 1) := by decide +kernel
theorem dX6_learnGuest_29 : decode cX6_learnGuest 29 = .ok (.iastore, 1) := by decide +kernel
theorem dX6_learnGuest_30 : decode cX6_learnGuest 30 = .ok (.aload_n 0, 1) := by decide +kernel
theorem dX6_learnGuest_31 : decode cX6_learnGuest 31 = .ok (.getfield 27, 3) := by decide +kernel
theorem dX6_learnGuest_34 : decode cX6_learnGuest 34 = .ok (.iconst 5, 1) := by decide +kernel
theorem dX6_learnGuest_35 : decode cX6_learnGuest 35 = .ok (.aload_n 0, 1) := by decide +kernel
theorem dX6_learnGuest_36 : decode cX6_learnGuest 36 = .ok (.getfield 21, 3) := by decide +kernel
theorem dX6_learnGuest_39 : decode cX6_learnGuest 39 = .ok (.iload_n 1, 1) := by decide +kernel
theorem dX6_learnGuest_40 : decode cX6_learnGuest 40 = .ok (.invokevirtual 236, 3) := by decide +kernel
theorem dX6_learnGuest_43 : decode cX6_learnGuest 43 = .ok (.iastore, 1) := by decide +kernel
theorem dX6_learnGuest_44 : decode cX6_learnGuest 44 = .ok (.return_, 1) := by decide +kernel
theorem dX6_copy_0 : decode cX6_copy 0 = .ok (.aload_n 1, 1) := by decide +kernel
theorem dX6_copy_1 : decode cX6_copy 1 = .ok (.getfield 59, 3) := by decide +kernel
theorem dX6_copy_4 : decode cX6_copy 4 = .ok (.arraylength, 1) := by decide +kernel
theorem dX6_copy_5 : decode cX6_copy 5 = .ok (.aload_n 0, 1) := by decide +kernel
theorem dX6_copy_6 : decode cX6_copy 6 = .ok (.getfield 59, 3) := by decide +kernel
theorem dX6_copy_9 : decode cX6_copy 9 = .ok (.arraylength, 1) := by decide +kernel
theorem dX6_copy_10 : decode cX6_copy 10 = .ok (.if_icmp .ne 21, 3) := by decide +kernel
theorem dX6_copy_13 : decode cX6_copy 13 = .ok (.aload_n 1, 1) := by decide +kernel
theorem dX6_copy_14 : decode cX6_copy 14 = .ok (.getfield 59, 3) := by decide +kernel
theorem dX6_copy_17 : decode cX6_copy 17 = .ok (.iconst 0, 1) := by decide +kernel
theorem dX6_copy_18 : decode cX6_copy 18 = .ok (.aload_n 0, 1) := by decide +kernel
theorem dX6_copy_19 : decode cX6_copy 19 = .ok (.getfield 59, 3) := by decide +kernel
theorem dX6_copy_22 : decode cX6_copy 22 = .ok (.iconst 0, 1) := by decide +kernel
theorem dX6_copy_23 : decode cX6_copy 23 = .ok (.aload_n 0, 1) := by decide +kernel
theorem dX6_copy_24 : decode cX6_copy 24 = .ok (.getfield 59, 3) := by decide +kernel
theorem dX6_copy_27 : decode cX6_copy 27 = .ok (.arraylength, 1) := by decide +kernel
theorem dX6_copy_28 : decode cX6_copy 28 = .ok (.invokestatic 239, 3) := by decide +kernel
theorem dX6_copy_31 : decode cX6_copy 31 = .ok (.aload_n 0, 1) := by decide +kernel
theorem dX6_copy_32 : decode cX6_copy 32 = .ok (.getfield 12, 3) := by decide +kernel
theorem dX6_copy_35 : decode cX6_copy 35 = .ok (.aload_n 1, 1) := by decide +kernel
theorem dX6_copy_36 : decode cX6_copy 36 = .ok (.getfield 12, 3) := by decide +kernel
theorem dX6_copy_39 : decode cX6_copy 39 = .ok (.invokevirtual 245, 3) := by decide +kernel
theorem dX6_copy_42 : decode cX6_copy 42 = .ok (.aload_n 0, 1) := by decide +kernel
theorem dX6_copy_43 : decode cX6_copy 43 = .ok (.getfield 21, 3) := by decide +kernel
theorem dX6_copy_46 : decode cX6_copy 46 = .ok (.aload_n 1, 1) := by decide +kernel
theorem dX6_copy_47 : decode cX6_copy 47 = .ok (.getfield 21, 3) := by decide +kernel
theorem dX6_copy_50 : decode cX6_copy 50 = .ok (.invokevirtual 249, 3) := by decide +kernel
theorem dX6_copy_53 : decode cX6_copy 53 = .ok (.aload_n 0, 1) := by decide +kernel
theorem dX6_copy_54 : decode cX6_copy 54 = .ok (.getfield 73, 3) := by decide +kernel
theorem dX6_copy_57 : decode cX6_copy 57 = .ok (.aload_n 1, 1) := by decide +kernel
theorem dX6_copy_58 : decode cX6_copy 58 = .ok (.getfield 73, 3) := by decide +kernel
theorem dX6_copy_61 : decode cX6_copy 61 = .ok (.invokevirtual 252, 3) := by decide +kernel
theorem dX6_copy_64 : decode cX6_copy 64 = .ok (.aload_n 0, 1) := by decide +kernel
theorem dX6_copy_65 : decode cX6_copy 65 = .ok (.aload_n 1, 1) := by decide +kernel
theorem dX6_copy_66 : decode cX6_copy 66 = .ok (.getfield 31, 3) := by decide +kernel
theorem dX6_copy_69 : decode cX6_copy 69 = .ok (.putfield 31, 3) := by decide +kernel
theorem dX6_copy_72 : decode cX6_copy 72 = .ok (.aload_n 0, 1) := by decide +kernel
theorem dX6_copy_73 : decode cX6_copy 73 = .ok (.aload_n 1, 1) := by decide +kernel
theorem dX6_copy_74 : decode cX6_copy 74 = .ok (.getfield 35, 3) := by decide +kernel
theorem dX6_copy_77 : decode cX6_copy 77 = .ok (.putfield 35, 3) := by decide +kernel
theorem dX6_copy_80 : decode cX6_copy 80 = .ok (.aload_n 0, 1) := by decide +kernel
theorem dX6_copy_81 : decode cX6_copy 81 = .ok (.aload_n 1, 1) := by decide +kernel
theorem dX6_copy_82 : decode cX6_copy 82 = .ok (.getfield 38, 3) := by decide +kernel
theorem dX6_copy_85 : decode cX6_copy 85 = .ok (.putfield 38, 3) := by decide +kernel
theorem dX6_copy_88 : decode cX6_copy 88 = .ok (.aload_n 0, 1) := by decide +kernel
theorem dX6_copy_89 : decode cX6_copy 89 = .ok (.aload_n 1, 1) := by decide +kernel
theorem dX6_copy_90 : decode cX6_copy 90 = .ok (.getfield 41, 3) := by decide +kernel
theorem dX6_copy_93 : decode cX6_copy 93 = .ok (.putfield 41, 3) := by decide +kernel
theorem dX6_copy_96 : decode cX6_copy 96 = .ok (.return_, 1) := by decide +kernel
theorem dX7_init_0 : decode cX7_init 0 = .ok (.aload_n 0, 1) := by decide +kernel
theorem dX7_init_1 : decode cX7_init 1 = .ok (.invokespecial 3, 3) := by decide +kernel
theorem dX7_init_4 : decode cX7_init 4 = .ok (.aload_n 0, 1) := by decide +kernel
theorem dX7_init_5 : decode cX7_init 5 = .ok (.bipush 6, 2) := by decide +kernel
theorem dX7_init_7 : decode cX7_init 7 = .ok (.anewarray 9, 3) := by decide +kernel
theorem dX7_init_10 : decode cX7_init 10 = .ok (.putfield 11, 3) := by decide +kernel
theorem dX7_init_13 : decode cX7_init 13 = .ok (.aload_n 0, 1) := by decide +kernel
theorem dX7_init_14 : decode cX7_init 14 = .ok (.new 9, 3) := by decide +kernel
theorem dX7_init_17 : decode cX7_init 17 = .ok (.dup, 1) := by decide +kernel
theorem dX7_init_18 : decode cX7_init 18 = .ok (.getstatic 17, 3) := by decide +kernel
theorem dX7_init_21 : decode cX7_init 21 = .ok (.getstatic 21, 3) := by decide +kernel
theorem dX7_init_24 : decode cX7_init 24 = .ok (.invokespecial 24, 3) := by decide +kernel
theorem dX7_init_27 : decode cX7_init 27 = .ok (.putfield 27, 3) := by decide +kernel
theorem dX7_init_30 : decode cX7_init 30 = .ok (.aload_n 0, 1) := by decide +kernel
theorem dX7_init_31 : decode cX7_init 31 = .ok (.iconst 1, 1) := by decide +kernel
theorem dX7_init_32 : decode cX7_init 32 = .ok (.putfield 31, 3) := by decide +kernel
theorem dX7_init_35 : decode cX7_init 35 = .ok (.aload_n 0, 1) := by decide +kernel
theorem dX7_init_36 : decode cX7_init 36 = .ok (.iconst 0, 1) := by decide +kernel
theorem dX7_init_37 : decode cX7_init 37 = .ok (.putfield 35, 3) := by decide +kernel
theorem dX7_init_40 : decode cX7_init 40 = .ok (.aload_n 0, 1) := by decide +kernel
theorem dX7_init_41 : decode cX7_init 41 = .ok (.getfield 11, 3) := by decide +kernel
theorem dX7_init_44 : decode cX7_init 44 = .ok (.iconst 0, 1) := by decide +kernel
theorem dX7_init_45 : decode cX7_init 45 = .ok (.aload_n 0, 1) := by decide +kernel
theorem dX7_init_46 : decode cX7_init 46 = .ok (.getfield 27, 3) := by decide +kernel
theorem dX7_init_49 : decode cX7_init 49 = .ok (.aastore, 1) := by decide +kernel
theorem dX7_init_50 : decode cX7_init 50 = .ok (.return_, 1) := by decide +kernel
theorem dX7_areFull_0 : decode cX7_areFull 0 = .ok (.aload_n 0, 1) := by decide +kernel
theorem dX7_areFull_1 : decode cX7_areFull 1 = .ok (.getfield 31, 3) := by decide +kernel
theorem dX7_areFull_4 : decode cX7_areFull 4 = .ok (.ifCond .lt 15, 3) := by decide +kernel
theorem dX7_areFull_7 : decode cX7_areFull 7 = .ok (.aload_n 0, 1) := by decide +kernel
theorem dX7_areFull_8 : decode cX7_areFull 8 = .ok (.getfield 31, 3) := by decide +kernel
theorem dX7_areFull_11 : decode cX7_areFull 11 = .ok (.aload_n 0, 1) := by decide +kernel
theorem dX7_areFull_12 : decode cX7_areFull 12 = .ok (.getfield 11, 3) := by decide +kernel
theorem dX7_areFull_15 : decode cX7_areFull 15 = .ok (.arraylength, 1) := by decide +kernel
theorem dX7_areFull_16 : decode cX7_areFull 16 = .ok (.if_icmp .lt 7, 3) := by decide +kernel
theorem dX7_areFull_19 : decode cX7_areFull 19 = .ok (.iconst 1, 1) := by decide +kernel
theorem dX7_areFull_20 : decode cX7_areFull 20 = .ok (.goto 4, 3) := by decide +kernel
theorem dX7_areFull_23 : decode cX7_areFull 23 = .ok (.iconst 0, 1) := by decide +kernel
theorem dX7_areFull_24 : decode cX7_areFull 24 = .ok (.ireturn, 1) := by decide +kernel
theorem dX7_add_0 : decode cX7_add 0 = .ok (.aload_n 0, 1) := by decide +kernel
theorem dX7_add_1 : decode cX7_add 1 = .ok (.invokevirtual 38, 3) := by decide +kernel
theorem dX7_add_4 : decode cX7_add 4 = .ok (.ifCond .eq 6, 3) := by decide +kernel
theorem dX7_add_7 : decode cX7_add 7 = .ok (.bipush (-4), 2) := by decide +kernel
theorem dX7_add_9 : decode cX7_add 9 = .ok (.ireturn, 1) := by decide +kernel
theorem dX7_add_10 : decode cX7_add 10 = .ok (.aload_n 0, 1) := by decide +kernel
theorem dX7_add_11 : decode cX7_add 11 = .ok (.getfield 11, 3) := by decide +kernel
theorem dX7_add_14 : decode cX7_add 14 = .ok (.aload_n 0, 1) := by decide +kernel
theorem dX7_add_15 : decode cX7_add 15 = .ok (.getfield 31, 3) := by decide +kernel
theorem dX7_add_18 : decode cX7_add 18 = .ok (.aload_n 1, 1) := by decide +kernel
theorem dX7_add_19 : decode cX7_add 19 = .ok (.aastore, 1) := by decide +kernel
theorem dX7_add_20 : decode cX7_add 20 = .ok (.aload_n 0, 1) := by decide +kernel
theorem dX7_add_21 : decode cX7_add 21 = .ok (.dup, 1) := by decide +kernel
theorem dX7_add_22 : decode cX7_add 22 = .ok (.getfield 31, 3) := by decide +kernel
theorem dX7_add_25 : decode cX7_add 25 = .ok (.iconst 1, 1) := by decide +kernel
theorem dX7_add_26 : decode cX7_add 26 = .ok (.iadd, 1) := by decide +kernel
theorem dX7_add_27 : decode cX7_add 27 = .ok (.putfield 31, 3) := by decide +kernel
theorem dX7_add_30 : decode cX7_add 30 = .ok (.aload_n 0, 1) := by decide +kernel
theorem dX7_add_31 : decode cX7_add 31 = .ok (.getfield 31, 3) := by decide +kernel
theorem dX7_add_34 : decode cX7_add 34 = .ok (.iconst 1, 1) := by decide +kernel
theorem dX7_add_35 : decode cX7_add 35 = .ok (.isub, 1) := by decide +kernel
theorem dX7_add_36 : decode cX7_add 36 = .ok (.ireturn, 1) := by decide +kernel
theorem dX7_choose_0 : decode cX7_choose 0 = .ok (.iload_n 1, 1) := by decide +kernel
theorem dX7_choose_1 : decode cX7_choose 1 = .ok (.ifCond .lt 20, 3) := by decide +kernel
theorem dX7_choose_4 : decode cX7_choose 4 = .ok (.iload_n 1, 1) := by decide +kernel
theorem dX7_choose_5 : decode cX7_choose 5 = .ok (.aload_n 0, 1) := by decide +kernel
theorem dX7_choose_6 : decode cX7_choose 6 = .ok (.getfield 31, 3) := by decide +kernel
theorem dX7_choose_9 : decode cX7_choose 9 = .ok (.if_icmp .ge 12, 3) := by decide +kernel
theorem dX7_choose_12 : decode cX7_choose 12 = .ok (.iload_n 1, 1) := by decide +kernel
theorem dX7_choose_13 : decode cX7_choose 13 = .ok (.aload_n 0, 1) := by decide +kernel
theorem dX7_choose_14 : decode cX7_choose 14 = .ok (.getfield 11, 3) := by decide +kernel
theorem dX7_choose_17 : decode cX7_choose 17 = .ok (.arraylength, 1) := by decide +kernel
theorem dX7_choose_18 : decode cX7_choose 18 = .ok (.if_icmp .lt 6, 3) := by decide +kernel
theorem dX7_choose_21 : decode cX7_choose 21 = .ok (.bipush (-2), 2) := by decide +kernel
theorem dX7_choose_23 : decode cX7_choose 23 = .ok (.ireturn, 1) := by decide +kernel
theorem dX7_choose_24 : decode cX7_choose 24 = .ok (.aload_n 0, 1) := by decide +kernel
theorem dX7_choose_25 : decode cX7_choose 25 = .ok (.getfield 11, 3) := by decide +kernel
theorem dX7_choose_28 : decode cX7_choose 28 = .ok (.iload_n 1, 1) := by decide +kernel
theorem dX7_choose_29 : decode cX7_choose 29 = .ok (.aaload, 1) := by decide +kernel
theorem dX7_choose_30 : decode cX7_choose 30 = .ok (.astore_n 2, 1) := by decide +kernel
theorem dX7_choose_31 : decode cX7_choose 31 = .ok (.aload_n 2, 1) := by decide +kernel
theorem dX7_choose_32 : decode cX7_choose 32 = .ok (.ifnonnull 6, 3) := by decide +kernel
theorem dX7_choose_35 : decode cX7_choose 35 = .ok (.bipush (-2), 2) := by decide +kernel
theorem dX7_choose_37 : decode cX7_choose 37 = .ok (.ireturn, 1) := by decide +kernel
theorem dX7_choose_38 : decode cX7_choose 38 = .ok (.aload_n 0, 1) := by decide +kernel
theorem dX7_choose_39 : decode cX7_choose 39 = .ok (.getfield 35, 3) := by decide +kernel
theorem dX7_choose_42 : decode cX7_choose 42 = .ok (.istore_n 3, 1) := by decide +kernel
theorem dX7_choose_43 : decode cX7_choose 43 = .ok (.aload_n 0, 1) := by decide +kernel
theorem dX7_choose_44 : decode cX7_choose 44 = .ok (.iload_n 1, 1) := by decide +kernel
theorem dX7_choose_45 : decode cX7_choose 45 = .ok (.putfield 35, 3) := by decide +kernel
theorem dX7_choose_48 : decode cX7_choose 48 = .ok (.aload_n 0, 1) := by decide +kernel
theorem dX7_choose_49 : decode cX7_choose 49 = .ok (.aload_n 2, 1) := by decide +kernel
theorem dX7_choose_50 : decode cX7_choose 50 = .ok (.putfield 27, 3) := by decide +kernel
theorem dX7_choose_53 : decode cX7_choose 53 = .ok (.iload_n 3, 1) := by decide +kernel
theorem dX7_choose_54 : decode cX7_choose 54 = .ok (.ireturn, 1) := by decide +kernel
theorem dX8_init_0 : decode cX8_init 0 = .ok (.aload_n 0, 1) := by decide +kernel
theorem dX8_init_1 : decode cX8_init 1 = .ok (.invokespecial 3, 3) := by decide +kernel
theorem dX8_init_4 : decode cX8_init 4 = .ok (.aload_n 0, 1) := by decide +kernel
theorem dX8_init_5 : decode cX8_init 5 = .ok (.bipush 8, 2) := by decide +kernel
theorem dX8_init_7 : decode cX8_init 7 = .ok (.newarray .int, 2) := by decide +kernel
theorem dX8_init_9 : decode cX8_init 9 = .ok (.putfield 9, 3) := by decide +kernel
theorem dX8_init_12 : decode cX8_init 12 = .ok (.aload_n 0, 1) := by decide +kernel
theorem dX8_init_13 : decode cX8_init 13 = .ok (.bipush 8, 2) := by decide +kernel
theorem dX8_init_15 : decode cX8_init 15 = .ok (.newarray .int, 2) := by decide +kernel
theorem dX8_init_17 : decode cX8_init 17 = .ok (.putfield 15, 3) := by decide +kernel
theorem dX8_init_20 : decode cX8_init 20 = .ok (.aload_n 0, 1) := by decide +kernel
theorem dX8_init_21 : decode cX8_init 21 = .ok (.bipush 8, 2) := by decide +kernel
theorem dX8_init_23 : decode cX8_init 23 = .ok (.newarray .int, 2) := by decide +kernel
theorem dX8_init_25 : decode cX8_init 25 = .ok (.putfield 18, 3) := by decide +kernel
theorem dX8_init_28 : decode cX8_init 28 = .ok (.aload_n 0, 1) := by decide +kernel
theorem dX8_init_29 : decode cX8_init 29 = .ok (.bipush 8, 2) := by decide +kernel
theorem dX8_init_31 : decode cX8_init 31 = .ok (.newarray .int, 2) := by decide +kernel
theorem dX8_init_33 : decode cX8_init 33 = .ok (.putfield 21, 3) := by decide +kernel
theorem dX8_init_36 : decode cX8_init 36 = .ok (.aload_n 0, 1) := by decide +kernel
theorem dX8_init_37 : decode cX8_init 37 = .ok (.bipush 8, 2) := by decide +kernel
theorem dX8_init_39 : decode cX8_init 39 = .ok (.newarray .int, 2) := by decide +kernel
theorem dX8_init_41 : decode cX8_init 41 = .ok (.putfield 24, 3) := by decide +kernel
theorem dX8_init_44 : decode cX8_init 44 = .ok (.aload_n 0, 1) := by decide +kernel
theorem dX8_init_45 : decode cX8_init 45 = .ok (.bipush 8, 2) := by decide +kernel
theorem dX8_init_47 : decode cX8_init 47 = .ok (.newarray .int, 2) := by decide +kernel
theorem dX8_init_49 : decode cX8_init 49 = .ok (.putfield 27, 3) := by decide +kernel
theorem dX8_init_52 : decode cX8_init 52 = .ok (.aload_n 0, 1) := by decide +kernel
theorem dX8_init_53 : decode cX8_init 53 = .ok (.bipush 8, 2) := by decide +kernel
theorem dX8_init_55 : decode cX8_init 55 = .ok (.newarray .int, 2) := by decide +kernel
theorem dX8_init_57 : decode cX8_init 57 = .ok (.putfield 30, 3) := by decide +kernel
theorem dX8_init_60 : decode cX8_init 60 = .ok (.aload_n 0, 1) := by decide +kernel
theorem dX8_init_61 : decode cX8_init 61 = .ok (.iconst 0, 1) := by decide +kernel
theorem dX8_init_62 : decode cX8_init 62 = .ok (.putfield 33, 3) := by decide +kernel
theorem dX8_init_65 : decode cX8_init 65 = .ok (.return_, 1) := by decide +kernel
theorem dX8_isKind_0 : decode cX8_isKind 0 = .ok (.iload_n 0, 1) := by decide +kernel
theorem dX8_isKind_1 : decode cX8_isKind 1 = .ok (.ifCond .lt 15, 3) := by decide +kernel
theorem dX8_isKind_4 : decode cX8_isKind 4 = .ok (.iload_n 0, 1) := by decide +kernel
theorem dX8_isKind_5 : decode cX8_isKind 5 = .ok (.getstatic 37, 3) := by decide +kernel
theorem dX8_isKind_8 : decode cX8_isKind 8 = .ok (.arraylength, 1) := by decide +kernel
theorem dX8_isKind_9 : decode cX8_isKind 9 = .ok (.if_icmp .ge 7, 3) := by decide +kernel
theorem dX8_isKind_12 : decode cX8_isKind 12 = .ok (.iconst 1, 1) := by decide +kernel
theorem dX8_isKind_13 : decode cX8_isKind 13 = .ok (.goto 4, 3) := by decide +kernel
theorem dX8_isKind_16 : decode cX8_isKind 16 = .ok (.iconst 0, 1) := by decide +kernel
theorem dX8_isKind_17 : decode cX8_isKind 17 = .ok (.ireturn, 1) := by decide +kernel
theorem dX8_isUnder_0 : decode cX8_isUnder 0 = .ok (.iload_n 0, 1) := by decide +kernel
theorem dX8_isUnder_1 : decode cX8_isUnder 1 = .ok (.istore_n 2, 1) := by decide +kernel
theorem dX8_isUnder_2 : decode cX8_isUnder 2 = .ok (.iconst 0, 1) := by decide +kernel
theorem dX8_isUnder_3 : decode cX8_isUnder 3 = .ok (.istore_n 3, 1) := by decide +kernel
theorem dX8_isUnder_4 : decode cX8_isUnder 4 = .ok (.iload_n 3, 1) := by decide +kernel
theorem dX8_isUnder_5 : decode cX8_isUnder 5 = .ok (.getstatic 37, 3) := by decide +kernel
theorem dX8_isUnder_8 : decode cX8_isUnder 8 = .ok (.arraylength, 1) := by decide +kernel
theorem dX8_isUnder_9 : decode cX8_isUnder 9 = .ok (.if_icmp .ge 29, 3) := by decide +kernel
theorem dX8_isUnder_12 : decode cX8_isUnder 12 = .ok (.iload_n 2, 1) := by decide +kernel
theorem dX8_isUnder_13 : decode cX8_isUnder 13 = .ok (.invokestatic 40, 3) := by decide +kernel
theorem dX8_isUnder_16 : decode cX8_isUnder 16 = .ok (.ifCond .eq 22, 3) := by decide +kernel
theorem dX8_isUnder_19 : decode cX8_isUnder 19 = .ok (.iload_n 2, 1) := by decide +kernel
theorem dX8_isUnder_20 : decode cX8_isUnder 20 = .ok (.iload_n 1, 1) := by decide +kernel
theorem dX8_isUnder_21 : decode cX8_isUnder 21 = .ok (.if_icmp .ne 5, 3) := by decide +kernel
theorem dX8_isUnder_24 : decode cX8_isUnder 24 = .ok (.iconst 1, 1) := by decide +kernel
theorem dX8_isUnder_25 : decode cX8_isUnder 25 = .ok (.ireturn, 1) := by decide +kernel
theorem dX8_isUnder_26 : decode cX8_isUnder 26 = .ok (.getstatic 37, 3) := by decide +kernel
theorem dX8_isUnder_29 : decode cX8_isUnder 29 = .ok (.iload_n 2, 1) := by decide +kernel
theorem dX8_isUnder_30 : decode cX8_isUnder 30 = .ok (.iaload, 1) := by decide +kernel
theorem dX8_isUnder_31 : decode cX8_isUnder 31 = .ok (.istore_n 2, 1) := by decide +kernel
theorem dX8_isUnder_32 : decode cX8_isUnder 32 = .ok (.iinc 3 1, 3) := by decide +kernel
theorem dX8_isUnder_35 : decode cX8_isUnder 35 = .ok (.goto (-31), 3) := by decide +kernel
theorem dX8_isUnder_38 : decode cX8_isUnder 38 = .ok (.iconst 0, 1) := by decide +kernel
theorem dX8_isUnder_39 : decode cX8_isUnder 39 = .ok (.ireturn, 1) := by decide +kernel
theorem dX8_has_0 : decode cX8_has 0 = .ok (.iload_n 1, 1) := by decide +kernel
theorem dX8_has_1 : decode cX8_has 1 = .ok (.ifCond .lt 15, 3) := by decide +kernel
theorem dX8_has_4 : decode cX8_has 4 = .ok (.iload_n 1, 1) := by decide +kernel
theorem dX8_has_5 : decode cX8_has 5 = .ok (.aload_n 0, 1) := by decide +kernel
theorem dX8_has_6 : decode cX8_has 6 = .ok (.getfield 33, 3) := by decide +kernel
theorem dX8_has_9 : decode cX8_has 9 = .ok (.if_icmp .ge 7, 3) := by decide +kernel
theorem dX8_has_12 : decode cX8_has 12 = .ok (.iconst 1, 1) := by decide +kernel
theorem dX8_has_13 : decode cX8_has 13 = .ok (.goto 4, 3) := by decide +kernel
theorem dX8_has_16 : decode cX8_has 16 = .ok (.iconst 0, 1) := by decide +kernel
theorem dX8_has_17 : decode cX8_has 17 = .ok (.ireturn, 1) := by decide +kernel
theorem dX8_isTaken_0 : decode cX8_isTaken 0 = .ok (.iload_n 1, 1) := by decide +kernel
theorem dX8_isTaken_1 : decode cX8_isTaken 1 = .ok (.ifCond .lt 25, 3) := by decide +kernel
theorem dX8_isTaken_4 : decode cX8_isTaken 4 = .ok (.iload_n 1, 1) := by decide +kernel
theorem dX8_isTaken_5 : decode cX8_isTaken 5 = .ok (.aload_n 0, 1) := by decide +kernel
theorem dX8_isTaken_6 : decode cX8_isTaken 6 = .ok (.getfield 33, 3) := by decide +kernel
theorem dX8_isTaken_9 : decode cX8_isTaken 9 = .ok (.if_icmp .ge 17, 3) := by decide +kernel
theorem dX8_isTaken_12 : decode cX8_isTaken 12 = .ok (.aload_n 0, 1) := by decide +kernel
theorem dX8_isTaken_13 : decode cX8_isTaken 13 = .ok (.getfield 15, 3) := by decide +kernel
theorem dX8_isTaken_16 : decode cX8_isTaken 16 = .ok (.iload_n 1, 1) := by decide +kernel
theorem dX8_isTaken_17 : decode cX8_isTaken 17 = .ok (.iaload, 1) := by decide +kernel
theorem dX8_isTaken_18 : decode cX8_isTaken 18 = .ok (.iconst (-1), 1) := by decide +kernel
theorem dX8_isTaken_19 : decode cX8_isTaken 19 = .ok (.if_icmp .eq 7, 3) := by decide +kernel
theorem dX8_isTaken_22 : decode cX8_isTaken 22 = .ok (.iconst 1, 1) := by decide +kernel
theorem dX8_isTaken_23 : decode cX8_isTaken 23 = .ok (.goto 4, 3) := by decide +kernel
theorem dX8_isTaken_26 : decode cX8_isTaken 26 = .ok (.iconst 0, 1) := by decide +kernel
theorem dX8_isTaken_27 : decode cX8_isTaken 27 = .ok (.ireturn, 1) := by decide +kernel
theorem dX8_roomOf_0 : decode cX8_roomOf 0 = .ok (.iload_n 1, 1) := by decide +kernel
theorem dX8_roomOf_1 : decode cX8_roomOf 1 = .ok (.ifCond .lt 20, 3) := by decide +kernel
theorem dX8_roomOf_4 : decode cX8_roomOf 4 = .ok (.iload_n 1, 1) := by decide +kernel
theorem dX8_roomOf_5 : decode cX8_roomOf 5 = .ok (.aload_n 0, 1) := by decide +kernel
theorem dX8_roomOf_6 : decode cX8_roomOf 6 = .ok (.getfield 33, 3) := by decide +kernel
theorem dX8_roomOf_9 : decode cX8_roomOf 9 = .ok (.if_icmp .ge 12, 3) := by decide +kernel
theorem dX8_roomOf_12 : decode cX8_roomOf 12 = .ok (.aload_n 0, 1) := by decide +kernel
theorem dX8_roomOf_13 : decode cX8_roomOf 13 = .ok (.getfield 15, 3) := by decide +kernel
theorem dX8_roomOf_16 : decode cX8_roomOf 16 = .ok (.iload_n 1, 1) := by decide +kernel
theorem dX8_roomOf_17 : decode cX8_roomOf 17 = .ok (.iaload, 1) := by decide +kernel
theorem dX8_roomOf_18 : decode cX8_roomOf 18 = .ok (.goto 4, 3) := by decide +kernel
theorem dX8_roomOf_21 : decode cX8_roomOf 21 = .ok (.iconst (-1), 1) := by decide +kernel
theorem dX8_roomOf_22 : decode cX8_roomOf 22 = .ok (.istore_n 2, 1) := by decide +kernel
theorem dX8_roomOf_23 : decode cX8_roomOf 23 = .ok (.iload_n 2, 1) := by decide +kernel
theorem dX8_roomOf_24 : decode cX8_roomOf 24 = .ok (.ifCond .lt 19, 3) := by decide +kernel
theorem dX8_roomOf_27 : decode cX8_roomOf 27 = .ok (.iload_n 2, 1) := by decide +kernel
theorem dX8_roomOf_28 : decode cX8_roomOf 28 = .ok (.getstatic 44, 3) := by decide +kernel
theorem dX8_roomOf_31 : decode cX8_roomOf 31 = .ok (.arraylength, 1) := by decide +kernel
theorem dX8_roomOf_32 : decode cX8_roomOf 32 = .ok (.if_icmp .ge 11, 3) := by decide +kernel
theorem dX8_roomOf_35 : decode cX8_roomOf 35 = .ok (.getstatic 44, 3) := by decide +kernel
theorem dX8_roomOf_38 : decode cX8_roomOf 38 = .ok (.iload_n 2, 1) := by decide +kernel
theorem dX8_roomOf_39 : decode cX8_roomOf 39 = .ok (.iaload, 1) := by decide +kernel
theorem dX8_roomOf_40 : decode cX8_roomOf 40 = .ok (.goto 4, 3) := by decide +kernel
theorem dX8_roomOf_43 : decode cX8_roomOf 43 = .ok (.iconst 0, 1) := by decide +kernel
theorem dX8_roomOf_44 : decode cX8_roomOf 44 = .ok (.ireturn, 1) := by decide +kernel
theorem dX8_likesOf_0 : decode cX8_likesOf 0 = .ok (.iload_n 1, 1) := by decide +kernel
theorem dX8_likesOf_1 : decode cX8_likesOf 1 = .ok (.ifCond .lt 23, 3) := by decide +kernel
theorem dX8_likesOf_4 : decode cX8_likesOf 4 = .ok (.iload_n 1, 1) := by decide +kernel
theorem dX8_likesOf_5 : decode cX8_likesOf 5 = .ok (.aload_n 0, 1) := by decide +kernel
theorem dX8_likesOf_6 : decode cX8_likesOf 6 = .ok (.getfield 33, 3) := by decide +kernel
theorem dX8_likesOf_9 : decode cX8_likesOf 9 = .ok (.if_icmp .ge 15, 3) := by decide +kernel
theorem dX8_likesOf_12 : decode cX8_likesOf 12 = .ok (.iload_n 2, 1) := by decide +kernel
theorem dX8_likesOf_13 : decode cX8_likesOf 13 = .ok (.ifCond .lt 11, 3) := by decide +kernel
theorem dX8_likesOf_16 : decode cX8_likesOf 16 = .ok (.iload_n 2, 1) := by decide +kernel
theorem dX8_likesOf_17 : decode cX8_likesOf 17 = .ok (.getstatic 47, 3) := by decide +kernel
theorem dX8_likesOf_20 : decode cX8_likesOf 20 = .ok (.arraylength, 1) := by decide +kernel
theorem dX8_likesOf_21 : decode cX8_likesOf 21 = .ok (.if_icmp .lt 5, 3) := by decide +kernel
theorem dX8_likesOf_24 : decode cX8_likesOf 24 = .ok (.iconst 0, 1) := by decide +kernel
theorem dX8_likesOf_25 : decode cX8_likesOf 25 = .ok (.ireturn, 1) := by decide +kernel
theorem dX8_likesOf_26 : decode cX8_likesOf 26 = .ok (.aload_n 0, 1) := by decide +kernel
theorem dX8_likesOf_27 : decode cX8_likesOf 27 = .ok (.getfield 18, 3) := by decide +kernel
theorem dX8_likesOf_30 : decode cX8_likesOf 30 = .ok (.iload_n 1, 1) := by decide +kernel
theorem dX8_likesOf_31 : decode cX8_likesOf 31 = .ok (.iaload, 1) := by decide +kernel
theorem dX8_likesOf_32 : decode cX8_likesOf 32 = .ok (.getstatic 47, 3) := by decide +kernel
theorem dX8_likesOf_35 : decode cX8_likesOf 35 = .ok (.iload_n 2, 1) := by decide +kernel
theorem dX8_likesOf_36 : decode cX8_likesOf 36 = .ok (.iaload, 1) := by decide +kernel
theorem dX8_likesOf_37 : decode cX8_likesOf 37 = .ok (.idiv, 1) := by decide +kernel
theorem dX8_likesOf_38 : decode cX8_likesOf 38 = .ok (.bipush 10, 2) := by decide +kernel
theorem dX8_likesOf_40 : decode cX8_likesOf 40 = .ok (.irem, 1) := by decide +kernel
theorem dX8_likesOf_41 : decode cX8_likesOf 41 = .ok (.ireturn, 1) := by decide +kernel
theorem dX8_hasOneAt_0 : decode cX8_hasOneAt 0 = .ok (.iconst 0, 1) := by decide +kernel
theorem dX8_hasOneAt_1 : decode cX8_hasOneAt 1 = .ok (.istore_n 2, 1) := by decide +kernel
theorem dX8_hasOneAt_2 : decode cX8_hasOneAt 2 = .ok (.iload_n 2, 1) := by decide +kernel
theorem dX8_hasOneAt_3 : decode cX8_hasOneAt 3 = .ok (.aload_n 0, 1) := by decide +kernel
theorem dX8_hasOneAt_4 : decode cX8_hasOneAt 4 = .ok (.getfield 33, 3) := by decide +kernel
theorem dX8_hasOneAt_7 : decode cX8_hasOneAt 7 = .ok (.if_icmp .ge 21, 3) := by decide +kernel
theorem dX8_hasOneAt_10 : decode cX8_hasOneAt 10 = .ok (.aload_n 0, 1) := by decide +kernel
theorem dX8_hasOneAt_11 : decode cX8_hasOneAt 11 = .ok (.getfield 9, 3) := by decide +kernel
theorem dX8_hasOneAt_14 : decode cX8_hasOneAt 14 = .ok (.iload_n 2, 1) := by decide +kernel
theorem dX8_hasOneAt_15 : decode cX8_hasOneAt 15 = .ok (.iaload, 1) := by decide +kernel
theorem dX8_hasOneAt_16 : decode cX8_hasOneAt 16 = .ok (.iload_n 1, 1) := by decide +kernel
theorem dX8_hasOneAt_17 : decode cX8_hasOneAt 17 = .ok (.if_icmp .ne 5, 3) := by decide +kernel
theorem dX8_hasOneAt_20 : decode cX8_hasOneAt 20 = .ok (.iconst 1, 1) := by decide +kernel
theorem dX8_hasOneAt_21 : decode cX8_hasOneAt 21 = .ok (.ireturn, 1) := by decide +kernel
theorem dX8_hasOneAt_22 : decode cX8_hasOneAt 22 = .ok (.iinc 2 1, 3) := by decide +kernel
theorem dX8_hasOneAt_25 : decode cX8_hasOneAt 25 = .ok (.goto (-23), 3) := by decide +kernel
theorem dX8_hasOneAt_28 : decode cX8_hasOneAt 28 = .ok (.iconst 0, 1) := by decide +kernel
theorem dX8_hasOneAt_29 : decode cX8_hasOneAt 29 = .ok (.ireturn, 1) := by decide +kernel
theorem dX8_add_0 : decode cX8_add 0 = .ok (.aload_n 0, 1) := by decide +kernel
theorem dX8_add_1 : decode cX8_add 1 = .ok (.getfield 33, 3) := by decide +kernel
theorem dX8_add_4 : decode cX8_add 4 = .ok (.istore_n 2, 1) := by decide +kernel
theorem dX8_add_5 : decode cX8_add 5 = .ok (.iload_n 2, 1) := by decide +kernel
theorem dX8_add_6 : decode cX8_add 6 = .ok (.ifCond .lt 9, 3) := by decide +kernel
theorem dX8_add_9 : decode cX8_add 9 = .ok (.iload_n 2, 1) := by decide +kernel
theorem dX8_add_10 : decode cX8_add 10 = .ok (.bipush 8, 2) := by decide +kernel
theorem dX8_add_12 : decode cX8_add 12 = .ok (.if_icmp .lt 6, 3) := by decide +kernel
theorem dX8_add_15 : decode cX8_add 15 = .ok (.bipush (-4), 2) := by decide +kernel
theorem dX8_add_17 : decode cX8_add 17 = .ok (.ireturn, 1) := by decide +kernel
theorem dX8_add_18 : decode cX8_add 18 = .ok (.aload_n 0, 1) := by decide +kernel
theorem dX8_add_19 : decode cX8_add 19 = .ok (.dup, 1) := by decide +kernel
theorem dX8_add_20 : decode cX8_add 20 = .ok (.getfield 33, 3) := by decide +kernel
theorem dX8_add_23 : decode cX8_add 23 = .ok (.iconst 1, 1) := by decide +kernel
theorem dX8_add_24 : decode cX8_add 24 = .ok (.iadd, 1) := by decide +kernel
theorem dX8_add_25 : decode cX8_add 25 = .ok (.putfield 33, 3) := by decide +kernel
theorem dX8_add_28 : decode cX8_add 28 = .ok (.aload_n 0, 1) := by decide +kernel
theorem dX8_add_29 : decode cX8_add 29 = .ok (.getfield 9, 3) := by decide +kernel
theorem dX8_add_32 : decode cX8_add 32 = .ok (.iload_n 2, 1) := by decide +kernel
theorem dX8_add_33 : decode cX8_add 33 = .ok (.iload_n 1, 1) := by decide +kernel
theorem dX8_add_34 : decode cX8_add 34 = .ok (.iastore, 1) := by decide +kernel
theorem dX8_add_35 : decode cX8_add 35 = .ok (.aload_n 0, 1) := by decide +kernel
theorem dX8_add_36 : decode cX8_add 36 = .ok (.iload_n 2, 1) := by decide +kernel
theorem dX8_add_37 : decode cX8_add 37 = .ok (.invokevirtual 50, 3) := by decide +kernel
theorem dX8_add_40 : decode cX8_add 40 = .ok (.iload_n 2, 1) := by decide +kernel
theorem dX8_add_41 : decode cX8_add 41 = .ok (.ireturn, 1) := by decide +kernel
theorem dX8_welcome_0 : decode cX8_welcome 0 = .ok (.aload_n 0, 1) := by decide +kernel
theorem dX8_welcome_1 : decode cX8_welcome 1 = .ok (.iload_n 1, 1) := by decide +kernel
theorem dX8_welcome_2 : decode cX8_welcome 2 = .ok (.invokevirtual 54, 3) := by decide +kernel
theorem dX8_welcome_5 : decode cX8_welcome 5 = .ok (.ifCond .eq 22, 3) := by decide +kernel
theorem dX8_welcome_8 : decode cX8_welcome 8 = .ok (.aload_n 0, 1) := by decide +kernel
theorem dX8_welcome_9 : decode cX8_welcome 9 = .ok (.iload_n 1, 1) := by decide +kernel
theorem dX8_welcome_10 : decode cX8_welcome 10 = .ok (.invokevirtual 50, 3) := by decide +kernel
theorem dX8_welcome_13 : decode cX8_welcome 13 = .ok (.aload_n 0, 1) := by decide +kernel
theorem dX8_welcome_14 : decode cX8_welcome 14 = .ok (.getfield 15, 3) := by decide +kernel
theorem dX8_welcome_17 : decode cX8_welcome 17 = .ok (.iload_n 1, 1) := by decide +kernel
theorem dX8_welcome_18 : decode cX8_welcome 18 = .ok (.iload_n 2, 1) := by decide +kernel
theorem dX8_welcome_19 : decode cX8_welcome 19 = .ok (.iastore, 1) := by decide +kernel
theorem dX8_welcome_20 : decode cX8_welcome 20 = .ok (.aload_n 0, 1) := by decide +kernel
theorem dX8_welcome_21 : decode cX8_welcome 21 = .ok (.getfield 18, 3) := by decide +kernel
theorem dX8_welcome_24 : decode cX8_welcome 24 = .ok (.iload_n 1, 1) := by decide +kernel
theorem dX8_welcome_25 : decode cX8_welcome 25 = .ok (.iload_n 3, 1) := by decide +kernel
theorem dX8_welcome_26 : decode cX8_welcome 26 = .ok (.iastore, 1) := by decide +kernel
theorem dX8_welcome_27 : decode cX8_welcome 27 = .ok (.return_, 1) := by decide +kernel
theorem dX8_clear_0 : decode cX8_clear 0 = .ok (.aload_n 0, 1) := by decide +kernel
theorem dX8_clear_1 : decode cX8_clear 1 = .ok (.getfield 15, 3) := by decide +kernel
theorem dX8_clear_4 : decode cX8_clear 4 = .ok (.iload_n 1, 1) := by decide +kernel
theorem dX8_clear_5 : decode cX8_clear 5 = .ok (.iconst (-1), 1) := by decide +kernel
theorem dX8_clear_6 : decode cX8_clear 6 = .ok (.iastore, 1) := by decide +kernel
theorem dX8_clear_7 : decode cX8_clear 7 = .ok (.aload_n 0, 1) := by decide +kernel
theorem dX8_clear_8 : decode cX8_clear 8 = .ok (.getfield 18, 3) := by decide +kernel
theorem dX8_clear_11 : decode cX8_clear 11 = .ok (.iload_n 1, 1) := by decide +kernel
theorem dX8_clear_12 : decode cX8_clear 12 = .ok (.iconst 0, 1) := by decide +kernel
theorem dX8_clear_13 : decode cX8_clear 13 = .ok (.iastore, 1) := by decide +kernel
theorem dX8_clear_14 : decode cX8_clear 14 = .ok (.aload_n 0, 1) := by decide +kernel
theorem dX8_clear_15 : decode cX8_clear 15 = .ok (.getfield 21, 3) := by decide +kernel
theorem dX8_clear_18 : decode cX8_clear 18 = .ok (.iload_n 1, 1) := by decide +kernel
theorem dX8_clear_19 : decode cX8_clear 19 = .ok (.iconst 0, 1) := by decide +kernel
theorem dX8_clear_20 : decode cX8_clear 20 = .ok (.iastore, 1) := by decide +kernel
theorem dX8_clear_21 : decode cX8_clear 21 = .ok (.aload_n 0, 1) := by decide +kernel
theorem dX8_clear_22 : decode cX8_clear 22 = .ok (.getfield 24, 3) := by decide +kernel
theorem dX8_clear_25 : decode cX8_clear 25 = .ok (.iload_n 1, 1) := by decide +kernel
theorem dX8_clear_26 : decode cX8_clear 26 = .ok (.iconst 0, 1) := by decide +kernel
theorem dX8_clear_27 : decode cX8_clear 27 = .ok (.iastore, 1) := by decide +kernel
theorem dX8_clear_28 : decode cX8_clear 28 = .ok (.aload_n 0, 1) := by decide +kernel
theorem dX8_clear_29 : decode cX8_clear 29 = .ok (.getfield 27, 3) := by decide +kernel
theorem dX8_clear_32 : decode cX8_clear 32 = .ok (.iload_n 1, 1) := by decide +kernel
theorem dX8_clear_33 : decode cX8_clear 33 = .ok (.iconst (-1), 1) := by decide +kernel
theorem dX8_clear_34 : decode cX8_clear 34 = .ok (.iastore, 1) := by decide +kernel
theorem dX8_clear_35 : decode cX8_clear 35 = .ok (.aload_n 0, 1) := by decide +kernel
theorem dX8_clear_36 : decode cX8_clear 36 = .ok (.getfield 30, 3) := by decide +kernel
theorem dX8_clear_39 : decode cX8_clear 39 = .ok (.iload_n 1, 1) := by decide +kernel
theorem dX8_clear_40 : decode cX8_clear 40 = .ok (.iconst (-1), 1) := by decide +kernel
theorem dX8_clear_41 : decode cX8_clear 41 = .ok (.iastore, 1) := by decide +kernel
theorem dX8_clear_42 : decode cX8_clear 42 = .ok (.return_, 1) := by decide +kernel
theorem dX8_dismiss_0 : decode cX8_dismiss 0 = .ok (.aload_n 0, 1) := by decide +kernel
theorem dX8_dismiss_1 : decode cX8_dismiss 1 = .ok (.iload_n 1, 1) := by decide +kernel
theorem dX8_dismiss_2 : decode cX8_dismiss 2 = .ok (.invokevirtual 54, 3) := by decide +kernel
theorem dX8_dismiss_5 : decode cX8_dismiss 5 = .ok (.ifCond .ne 4, 3) := by decide +kernel
theorem dX8_dismiss_8 : decode cX8_dismiss 8 = .ok (.return_, 1) := by decide +kernel
theorem dX8_dismiss_9 : decode cX8_dismiss 9 = .ok (.aload_n 0, 1) := by decide +kernel
theorem dX8_dismiss_10 : decode cX8_dismiss 10 = .ok (.iload_n 1, 1) := by decide +kernel
theorem dX8_dismiss_11 : decode cX8_dismiss 11 = .ok (.invokevirtual 50, 3) := by decide +kernel
theorem dX8_dismiss_14 : decode cX8_dismiss 14 = .ok (.iconst 0, 1) := by decide +kernel
theorem dX8_dismiss_15 : decode cX8_dismiss 15 = .ok (.istore_n 2, 1) := by decide +kernel
theorem dX8_dismiss_16 : decode cX8_dismiss 16 = .ok (.iload_n 2, 1) := by decide +kernel
theorem dX8_dismiss_17 : decode cX8_dismiss 17 = .ok (.aload_n 0, 1) := by decide +kernel
theorem dX8_dismiss_18 : decode cX8_dismiss 18 = .ok (.getfield 33, 3) := by decide +kernel
theorem dX8_dismiss_21 : decode cX8_dismiss 21 = .ok (.if_icmp .ge 26, 3) := by decide +kernel
theorem dX8_dismiss_24 : decode cX8_dismiss 24 = .ok (.aload_n 0, 1) := by decide +kernel
theorem dX8_dismiss_25 : decode cX8_dismiss 25 = .ok (.getfield 27, 3) := by decide +kernel
theorem dX8_dismiss_28 : decode cX8_dismiss 28 = .ok (.iload_n 2, 1) := by decide +kernel
theorem dX8_dismiss_29 : decode cX8_dismiss 29 = .ok (.iaload, 1) := by decide +kernel
theorem dX8_dismiss_30 : decode cX8_dismiss 30 = .ok (.iload_n 1, 1) := by decide +kernel
theorem dX8_dismiss_31 : decode cX8_dismiss 31 = .ok (.if_icmp .ne 10, 3) := by decide +kernel
theorem dX8_dismiss_34 : decode cX8_dismiss 34 = .ok (.aload_n 0, 1) := by decide +kernel
theorem dX8_dismiss_35 : decode cX8_dismiss 35 = .ok (.getfield 27, 3) := by decide +kernel
theorem dX8_dismiss_38 : decode cX8_dismiss 38 = .ok (.iload_n 2, 1) := by decide +kernel
theorem dX8_dismiss_39 : decode cX8_dismiss 39 = .ok (.iconst (-1), 1) := by decide +kernel
theorem dX8_dismiss_40 : decode cX8_dismiss 40 = .ok (.iastore, 1) := by decide +kernel
theorem dX8_dismiss_41 : decode cX8_dismiss 41 = .ok (.iinc 2 1, 3) := by decide +kernel
theorem dX8_dismiss_44 : decode cX8_dismiss 44 = .ok (.goto (-28), 3) := by decide +kernel
theorem dX8_dismiss_47 : decode cX8_dismiss 47 = .ok (.return_, 1) := by decide +kernel
theorem dX8_guests_0 : decode cX8_guests 0 = .ok (.iconst 0, 1) := by decide +kernel
theorem dX8_guests_1 : decode cX8_guests 1 = .ok (.istore_n 1, 1) := by decide +kernel
theorem dX8_guests_2 : decode cX8_guests 2 = .ok (.iconst 0, 1) := by decide +kernel
theorem dX8_guests_3 : decode cX8_guests 3 = .ok (.istore_n 2, 1) := by decide +kernel
theorem dX8_guests_4 : decode cX8_guests 4 = .ok (.iload_n 2, 1) := by decide +kernel
theorem dX8_guests_5 : decode cX8_guests 5 = .ok (.aload_n 0, 1) := by decide +kernel
theorem dX8_guests_6 : decode cX8_guests 6 = .ok (.getfield 33, 3) := by decide +kernel
theorem dX8_guests_9 : decode cX8_guests 9 = .ok (.if_icmp .ge 25, 3) := by decide +kernel
theorem dX8_guests_12 : decode cX8_guests 12 = .ok (.iload_n 1, 1) := by decide +kernel
theorem dX8_guests_13 : decode cX8_guests 13 = .ok (.aload_n 0, 1) := by decide +kernel
theorem dX8_guests_14 : decode cX8_guests 14 = .ok (.iload_n 2, 1) := by decide +kernel
theorem dX8_guests_15 : decode cX8_guests 15 = .ok (.invokevirtual 57, 3) := by decide +kernel
theorem dX8_guests_18 : decode cX8_guests 18 = .ok (.ifCond .eq 7, 3) := by decide +kernel
theorem dX8_guests_21 : decode cX8_guests 21 = .ok (.iconst 1, 1) := by decide +kernel
theorem dX8_guests_22 : decode cX8_guests 22 = .ok (.goto 4, 3) := by decide +kernel
theorem dX8_guests_25 : decode cX8_guests 25 = .ok (.iconst 0, 1) := by decide +kernel
theorem dX8_guests_26 : decode cX8_guests 26 = .ok (.iadd, 1) := by decide +kernel
theorem dX8_guests_27 : decode cX8_guests 27 = .ok (.istore_n 1, 1) := by decide +kernel
theorem dX8_guests_28 : decode cX8_guests 28 = .ok (.iinc 2 1, 3) := by decide +kernel
theorem dX8_guests_31 : decode cX8_guests 31 = .ok (.goto (-27), 3) := by decide +kernel
theorem dX8_guests_34 : decode cX8_guests 34 = .ok (.iload_n 1, 1) := by decide +kernel
theorem dX8_guests_35 : decode cX8_guests 35 = .ok (.ireturn, 1) := by decide +kernel
theorem dX8_copy_0 : decode cX8_copy 0 = .ok (.aload_n 1, 1) := by decide +kernel
theorem dX8_copy_1 : decode cX8_copy 1 = .ok (.getfield 9, 3) := by decide +kernel
theorem dX8_copy_4 : decode cX8_copy 4 = .ok (.iconst 0, 1) := by decide +kernel
theorem dX8_copy_5 : decode cX8_copy 5 = .ok (.aload_n 0, 1) := by decide +kernel
theorem dX8_copy_6 : decode cX8_copy 6 = .ok (.getfield 9, 3) := by decide +kernel
theorem dX8_copy_9 : decode cX8_copy 9 = .ok (.iconst 0, 1) := by decide +kernel
theorem dX8_copy_10 : decode cX8_copy 10 = .ok (.bipush 8, 2) := by decide +kernel
theorem dX8_copy_12 : decode cX8_copy 12 = .ok (.invokestatic 60, 3) := by decide +kernel
theorem dX8_copy_15 : decode cX8_copy 15 = .ok (.aload_n 1, 1) := by decide +kernel
theorem dX8_copy_16 : decode cX8_copy 16 = .ok (.getfield 15, 3) := by decide +kernel
theorem dX8_copy_19 : decode cX8_copy 19 = .ok (.iconst 0, 1) := by decide +kernel
theorem dX8_copy_20 : decode cX8_copy 20 = .ok (.aload_n 0, 1) := by decide +kernel
theorem dX8_copy_21 : decode cX8_copy 21 = .ok (.getfield 15, 3) := by decide +kernel
theorem dX8_copy_24 : decode cX8_copy 24 = .ok (.iconst 0, 1) := by decide +kernel
theorem dX8_copy_25 : decode cX8_copy 25 = .ok (.bipush 8, 2) := by decide +kernel
theorem dX8_copy_27 : decode cX8_copy 27 = .ok (.invokestatic 60, 3) := by decide +kernel
theorem dX8_copy_30 : decode cX8_copy 30 = .ok (.aload_n 1, 1) := by decide +kernel
theorem dX8_copy_31 : decode cX8_copy 31 = .ok (.getfield 18, 3) := by decide +kernel
theorem dX8_copy_34 : decode cX8_copy 34 = .ok (.iconst 0, 1) := by decide +kernel
theorem dX8_copy_35 : decode cX8_copy 35 = .ok (.aload_n 0, 1) := by decide +kernel
theorem dX8_copy_36 : decode cX8_copy 36 = .ok (.getfield 18, 3) := by decide +kernel
theorem dX8_copy_39 : decode cX8_copy 39 = .ok (.iconst 0, 1) := by decide +kernel
theorem dX8_copy_40 : decode cX8_copy 40 = .ok (.bipush 8, 2) := by decide +kernel
theorem dX8_copy_42 : decode cX8_copy 42 = .ok (.invokestatic 60, 3) := by decide +kernel
theorem dX8_copy_45 : decode cX8_copy 45 = .ok (.aload_n 1, 1) := by decide +kernel
theorem dX8_copy_46 : decode cX8_copy 46 = .ok (.getfield 21, 3) := by decide +kernel
theorem dX8_copy_49 : decode cX8_copy 49 = .ok (.iconst 0, 1) := by decide +kernel
theorem dX8_copy_50 : decode cX8_copy 50 = .ok (.aload_n 0, 1) := by decide +kernel
theorem dX8_copy_51 : decode cX8_copy 51 = .ok (.getfield 21, 3) := by decide +kernel
theorem dX8_copy_54 : decode cX8_copy 54 = .ok (.iconst 0, 1) := by decide +kernel
theorem dX8_copy_55 : decode cX8_copy 55 = .ok (.bipush 8, 2) := by decide +kernel
theorem dX8_copy_57 : decode cX8_copy 57 = .ok (.invokestatic 60, 3) := by decide +kernel
theorem dX8_copy_60 : decode cX8_copy 60 = .ok (.aload_n 1, 1) := by decide +kernel
theorem dX8_copy_61 : decode cX8_copy 61 = .ok (.getfield 24, 3) := by decide +kernel
theorem dX8_copy_64 : decode cX8_copy 64 = .ok (.iconst 0, 1) := by decide +kernel
theorem dX8_copy_65 : decode cX8_copy 65 = .ok (.aload_n 0, 1) := by decide +kernel
theorem dX8_copy_66 : decode cX8_copy 66 = .ok (.getfield 24, 3) := by decide +kernel
theorem dX8_copy_69 : decode cX8_copy 69 = .ok (.iconst 0, 1) := by decide +kernel
theorem dX8_copy_70 : decode cX8_copy 70 = .ok (.bipush 8, 2) := by decide +kernel
theorem dX8_copy_72 : decode cX8_copy 72 = .ok (.invokestatic 60, 3) := by decide +kernel
theorem dX8_copy_75 : decode cX8_copy 75 = .ok (.aload_n 1, 1) := by decide +kernel
theorem dX8_copy_76 : decode cX8_copy 76 = .ok (.getfield 27, 3) := by decide +kernel
theorem dX8_copy_79 : decode cX8_copy 79 = .ok (.iconst 0, 1) := by decide +kernel
theorem dX8_copy_80 : decode cX8_copy 80 = .ok (.aload_n 0, 1) := by decide +kernel
theorem dX8_copy_81 : decode cX8_copy 81 = .ok (.getfield 27, 3) := by decide +kernel
theorem dX8_copy_84 : decode cX8_copy 84 = .ok (.iconst 0, 1) := by decide +kernel
theorem dX8_copy_85 : decode cX8_copy 85 = .ok (.bipush 8, 2) := by decide +kernel
theorem dX8_copy_87 : decode cX8_copy 87 = .ok (.invokestatic 60, 3) := by decide +kernel
theorem dX8_copy_90 : decode cX8_copy 90 = .ok (.aload_n 1, 1) := by decide +kernel
theorem dX8_copy_91 : decode cX8_copy 91 = .ok (.getfield 30, 3) := by decide +kernel
theorem dX8_copy_94 : decode cX8_copy 94 = .ok (.iconst 0, 1) := by decide +kernel
theorem dX8_copy_95 : decode cX8_copy 95 = .ok (.aload_n 0, 1) := by decide +kernel
theorem dX8_copy_96 : decode cX8_copy 96 = .ok (.getfield 30, 3) := by decide +kernel
theorem dX8_copy_99 : decode cX8_copy 99 = .ok (.iconst 0, 1) := by decide +kernel
theorem dX8_copy_100 : decode cX8_copy 100 = .ok (.bipush 8, 2) := by decide +kernel
theorem dX8_copy_102 : decode cX8_copy 102 = .ok (.invokestatic 60, 3) := by decide +kernel
theorem dX8_copy_105 : decode cX8_copy 105 = .ok (.aload_n 0, 1) := by decide +kernel
theorem dX8_copy_106 : decode cX8_copy 106 = .ok (.aload_n 1, 1) := by decide +kernel
theorem dX8_copy_107 : decode cX8_copy 107 = .ok (.getfield 33, 3) := by decide +kernel
theorem dX8_copy_110 : decode cX8_copy 110 = .ok (.putfield 33, 3) := by decide +kernel
theorem dX8_copy_113 : decode cX8_copy 113 = .ok (.return_, 1) := by decide +kernel
theorem dX9_init_0 : decode cX9_init 0 = .ok (.aload_n 0, 1) := by decide +kernel
theorem dX9_init_1 : decode cX9_init 1 = .ok (.invokespecial 1, 3) := by decide +kernel
theorem dX9_init_4 : decode cX9_init 4 = .ok (.aload_n 0, 1) := by decide +kernel
theorem dX9_init_5 : decode cX9_init 5 = .ok (.iconst 4, 1) := by decide +kernel
theorem dX9_init_6 : decode cX9_init 6 = .ok (.newarray .int, 2) := by decide +kernel
theorem dX9_init_8 : decode cX9_init 8 = .ok (.dup, 1) := by decide +kernel
theorem dX9_init_9 : decode cX9_init 9 = .ok (.iconst 0, 1) := by decide +kernel
theorem dX9_init_10 : decode cX9_init 10 = .ok (.iconst (-1), 1) := by decide +kernel
theorem dX9_init_11 : decode cX9_init 11 = .ok (.iastore, 1) := by decide +kernel
theorem dX9_init_12 : decode cX9_init 12 = .ok (.dup, 1) := by decide +kernel
theorem dX9_init_13 : decode cX9_init 13 = .ok (.iconst 1, 1) := by decide +kernel
theorem dX9_init_14 : decode cX9_init 14 = .ok (.iconst (-1), 1) := by decide +kernel
theorem dX9_init_15 : decode cX9_init 15 = .ok (.iastore, 1) := by decide +kernel
theorem dX9_init_16 : decode cX9_init 16 = .ok (.dup, 1) := by decide +kernel
theorem dX9_init_17 : decode cX9_init 17 = .ok (.iconst 2, 1) := by decide +kernel
theorem dX9_init_18 : decode cX9_init 18 = .ok (.iconst (-1), 1) := by decide +kernel
theorem dX9_init_19 : decode cX9_init 19 = .ok (.iastore, 1) := by decide +kernel
theorem dX9_init_20 : decode cX9_init 20 = .ok (.dup, 1) := by decide +kernel
theorem dX9_init_21 : decode cX9_init 21 = .ok (.iconst 3, 1) := by decide +kernel
theorem dX9_init_22 : decode cX9_init 22 = .ok (.iconst (-1), 1) := by decide +kernel
theorem dX9_init_23 : decode cX9_init 23 = .ok (.iastore, 1) := by decide +kernel
theorem dX9_init_24 : decode cX9_init 24 = .ok (.putfield 9, 3) := by decide +kernel
theorem dX9_init_27 : decode cX9_init 27 = .ok (.aload_n 0, 1) := by decide +kernel
theorem dX9_init_28 : decode cX9_init 28 = .ok (.iconst 4, 1) := by decide +kernel
theorem dX9_init_29 : decode cX9_init 29 = .ok (.newarray .int, 2) := by decide +kernel
theorem dX9_init_31 : decode cX9_init 31 = .ok (.putfield 13, 3) := by decide +kernel
theorem dX9_init_34 : decode cX9_init 34 = .ok (.aload_n 0, 1) := by decide +kernel
theorem dX9_init_35 : decode cX9_init 35 = .ok (.iconst 4, 1) := by decide +kernel
theorem dX9_init_36 : decode cX9_init 36 = .ok (.bipush 40, 2) := by decide +kernel
theorem dX9_init_38 : decode cX9_init 38 = .ok (.multianewarray 16 2, 4) := by decide +kernel
theorem dX9_init_42 : decode cX9_init 42 = .ok (.putfield 18, 3) := by decide +kernel
theorem dX9_init_45 : decode cX9_init 45 = .ok (.return_, 1) := by decide +kernel
theorem dX9_isSheet_0 : decode cX9_isSheet 0 = .ok (.iload_n 0, 1) := by decide +kernel
theorem dX9_isSheet_1 : decode cX9_isSheet 1 = .ok (.iconst 0, 1) := by decide +kernel
theorem dX9_isSheet_2 : decode cX9_isSheet 2 = .ok (.iconst 3, 1) := by decide +kernel
theorem dX9_isSheet_3 : decode cX9_isSheet 3 = .ok (.invokestatic 21, 3) := by decide +kernel
theorem dX9_isSheet_6 : decode cX9_isSheet 6 = .ok (.ireturn, 1) := by decide +kernel
theorem dX9_isSort_0 : decode cX9_isSort 0 = .ok (.iload_n 0, 1) := by decide +kernel
theorem dX9_isSort_1 : decode cX9_isSort 1 = .ok (.iconst 0, 1) := by decide +kernel
theorem dX9_isSort_2 : decode cX9_isSort 2 = .ok (.iconst 2, 1) := by decide +kernel
theorem dX9_isSort_3 : decode cX9_isSort 3 = .ok (.invokestatic 21, 3) := by decide +kernel
theorem dX9_isSort_6 : decode cX9_isSort 6 = .ok (.ireturn, 1) := by decide +kernel
theorem dX9_hasItem_0 : decode cX9_hasItem 0 = .ok (.iload_n 1, 1) := by decide +kernel
theorem dX9_hasItem_1 : decode cX9_hasItem 1 = .ok (.invokestatic 27, 3) := by decide +kernel
theorem dX9_hasItem_4 : decode cX9_hasItem 4 = .ok (.ifCond .eq 27, 3) := by decide +kernel
theorem dX9_hasItem_7 : decode cX9_hasItem 7 = .ok (.iload_n 2, 1) := by decide +kernel
theorem dX9_hasItem_8 : decode cX9_hasItem 8 = .ok (.ifCond .lt 23, 3) := by decide +kernel
theorem dX9_hasItem_11 : decode cX9_hasItem 11 = .ok (.iload_n 2, 1) := by decide +kernel
theorem dX9_hasItem_12 : decode cX9_hasItem 12 = .ok (.aload_n 0, 1) := by decide +kernel
theorem dX9_hasItem_13 : decode cX9_hasItem 13 = .ok (.getfield 13, 3) := by decide +kernel
theorem dX9_hasItem_16 : decode cX9_hasItem 16 = .ok (.iload_n 1, 1) := by decide +kernel
theorem dX9_hasItem_17 : decode cX9_hasItem 17 = .ok (.iaload, 1) := by decide +kernel
theorem dX9_hasItem_18 : decode cX9_hasItem 18 = .ok (.if_icmp .ge 13, 3) := by decide +kernel
theorem dX9_hasItem_21 : decode cX9_hasItem 21 = .ok (.iload_n 2, 1) := by decide +kernel
theorem dX9_hasItem_22 : decode cX9_hasItem 22 = .ok (.bipush 40, 2) := by decide +kernel
theorem dX9_hasItem_24 : decode cX9_hasItem 24 = .ok (.if_icmp .ge 7, 3) := by decide +kernel
theorem dX9_hasItem_27 : decode cX9_hasItem 27 = .ok (.iconst 1, 1) := by decide +kernel
theorem dX9_hasItem_28 : decode cX9_hasItem 28 = .ok (.goto 4, 3) := by decide +kernel
theorem dX9_hasItem_31 : decode cX9_hasItem 31 = .ok (.iconst 0, 1) := by decide +kernel
theorem dX9_hasItem_32 : decode cX9_hasItem 32 = .ok (.ireturn, 1) := by decide +kernel
theorem dX9_remove_0 : decode cX9_remove 0 = .ok (.iload_n 1, 1) := by decide +kernel
theorem dX9_remove_1 : decode cX9_remove 1 = .ok (.invokestatic 27, 3) := by decide +kernel
theorem dX9_remove_4 : decode cX9_remove 4 = .ok (.ifCond .eq 17, 3) := by decide +kernel
theorem dX9_remove_7 : decode cX9_remove 7 = .ok (.aload_n 0, 1) := by decide +kernel
theorem dX9_remove_8 : decode cX9_remove 8 = .ok (.getfield 9, 3) := by decide +kernel
theorem dX9_remove_11 : decode cX9_remove 11 = .ok (.iload_n 1, 1) := by decide +kernel
theorem dX9_remove_12 : decode cX9_remove 12 = .ok (.iconst (-1), 1) := by decide +kernel
theorem dX9_remove_13 : decode cX9_remove 13 = .ok (.iastore, 1) := by decide +kernel
theorem dX9_remove_14 : decode cX9_remove 14 = .ok (.aload_n 0, 1) := by decide +kernel
theorem dX9_remove_15 : decode cX9_remove 15 = .ok (.getfield 13, 3) := by decide +kernel
theorem dX9_remove_18 : decode cX9_remove 18 = .ok (.iload_n 1, 1) := by decide +kernel
theorem dX9_remove_19 : decode cX9_remove 19 = .ok (.iconst 0, 1) := by decide +kernel
theorem dX9_remove_20 : decode cX9_remove 20 = .ok (.iastore, 1) := by decide +kernel
theorem dX9_remove_21 : decode cX9_remove 21 = .ok (.return_, 1) := by decide +kernel
theorem dX9_make_0 : decode cX9_make 0 = .ok (.iload_n 1, 1) := by decide +kernel
theorem dX9_make_1 : decode cX9_make 1 = .ok (.invokestatic 27, 3) := by decide +kernel
theorem dX9_make_4 : decode cX9_make 4 = .ok (.ifCond .eq 27, 3) := by decide +kernel
theorem dX9_make_7 : decode cX9_make 7 = .ok (.aload_n 0, 1) := by decide +kernel
theorem dX9_make_8 : decode cX9_make 8 = .ok (.getfield 9, 3) := by decide +kernel
theorem dX9_make_11 : decode cX9_make 11 = .ok (.iload_n 1, 1) := by decide +kernel
theorem dX9_make_12 : decode cX9_make 12 = .ok (.iload_n 2, 1) := by decide +kernel
theorem dX9_make_13 : decode cX9_make 13 = .ok (.iastore, 1) := by decide +kernel
theorem dX9_make_14 : decode cX9_make 14 = .ok (.aload_n 0, 1) := by decide +kernel
theorem dX9_make_15 : decode cX9_make 15 = .ok (.getfield 13, 3) := by decide +kernel
theorem dX9_make_18 : decode cX9_make 18 = .ok (.iload_n 1, 1) := by decide +kernel
theorem dX9_make_19 : decode cX9_make 19 = .ok (.iload_n 3, 1) := by decide +kernel
theorem dX9_make_20 : decode cX9_make 20 = .ok (.iastore, 1) := by decide +kernel
theorem dX9_make_21 : decode cX9_make 21 = .ok (.aload_n 0, 1) := by decide +kernel
theorem dX9_make_22 : decode cX9_make 22 = .ok (.getfield 18, 3) := by decide +kernel
theorem dX9_make_25 : decode cX9_make 25 = .ok (.iload_n 1, 1) := by decide +kernel
theorem dX9_make_26 : decode cX9_make 26 = .ok (.aaload, 1) := by decide +kernel
theorem dX9_make_27 : decode cX9_make 27 = .ok (.iconst 0, 1) := by decide +kernel
theorem dX9_make_28 : decode cX9_make 28 = .ok (.invokestatic 31, 3) := by decide +kernel
theorem dX9_make_31 : decode cX9_make 31 = .ok (.return_, 1) := by decide +kernel
theorem dX9_put_0 : decode cX9_put 0 = .ok (.aload_n 0, 1) := by decide +kernel
theorem dX9_put_1 : decode cX9_put 1 = .ok (.iload_n 1, 1) := by decide +kernel
theorem dX9_put_2 : decode cX9_put 2 = .ok (.iload_n 2, 1) := by decide +kernel
theorem dX9_put_3 : decode cX9_put 3 = .ok (.invokevirtual 37, 3) := by decide +kernel
theorem dX9_put_6 : decode cX9_put 6 = .ok (.ifCond .ne 4, 3) := by decide +kernel
theorem dX9_put_9 : decode cX9_put 9 = .ok (.return_, 1) := by decide +kernel
theorem dX9_put_10 : decode cX9_put 10 = .ok (.aload_n 0, 1) := by decide +kernel
theorem dX9_put_11 : decode cX9_put 11 = .ok (.getfield 9, 3) := by decide +kernel
theorem dX9_put_14 : decode cX9_put 14 = .ok (.iload_n 1, 1) := by decide +kernel
theorem dX9_put_15 : decode cX9_put 15 = .ok (.iaload, 1) := by decide +kernel
theorem dX9_put_16 : decode cX9_put 16 = .ok (.lookupswitch 54 #[(0, 28), (1, 41)], 28) := by decide +kernel
theorem dX9_put_44 : decode cX9_put 44 = .ok (.aload_n 0, 1) := by decide +kernel
theorem dX9_put_45 : decode cX9_put 45 = .ok (.getfield 18, 3) := by decide +kernel
theorem dX9_put_48 : decode cX9_put 48 = .ok (.iload_n 1, 1) := by decide +kernel
theorem dX9_put_49 : decode cX9_put 49 = .ok (.aaload, 1) := by decide +kernel
theorem dX9_put_50 : decode cX9_put 50 = .ok (.iload_n 2, 1) := by decide +kernel
theorem dX9_put_51 : decode cX9_put 51 = .ok (.iload_n 3, 1) := by decide +kernel
theorem dX9_put_52 : decode cX9_put 52 = .ok (.i2b, 1) := by decide +kernel
theorem dX9_put_53 : decode cX9_put 53 = .ok (.iastore, 1) := by decide +kernel
theorem dX9_put_54 : decode cX9_put 54 = .ok (.goto 25, 3) := by decide +kernel
theorem dX9_put_57 : decode cX9_put 57 = .ok (.aload_n 0, 1) := by decide +kernel
theorem dX9_put_58 : decode cX9_put 58 = .ok (.getfield 18, 3) := by decide +kernel
theorem dX9_put_61 : decode cX9_put 61 = .ok (.iload_n 1, 1) := by decide +kernel
theorem dX9_put_62 : decode cX9_put 62 = .ok (.aaload, 1) := by decide +kernel
theorem dX9_put_63 : decode cX9_put 63 = .ok (.iload_n 2, 1) := by decide +kernel
theorem dX9_put_64 : decode cX9_put 64 = .ok (.iload_n 3, 1) := by decide +kernel
theorem dX9_put_65 : decode cX9_put 65 = .ok (.i2s, 1) := by decide +kernel
theorem dX9_put_66 : decode cX9_put 66 = .ok (.iastore, 1) := by decide +kernel
theorem dX9_put_67 : decode cX9_put 67 = .ok (.goto 12, 3) := by decide +kernel
theorem dX9_put_70 : decode cX9_put 70 = .ok (.aload_n 0, 1) := by decide +kernel
theorem dX9_put_71 : decode cX9_put 71 = .ok (.getfield 18, 3) := by decide +kernel
theorem dX9_put_74 : decode cX9_put 74 = .ok (.iload_n 1, 1) := by decide +kernel
theorem dX9_put_75 : decode cX9_put 75 = .ok (.aaload, 1) := by decide +kernel
theorem dX9_put_76 : decode cX9_put 76 = .ok (.iload_n 2, 1) := by decide +kernel
theorem dX9_put_77 : decode cX9_put 77 = .ok (.iload_n 3, 1) := by decide +kernel
theorem dX9_put_78 : decode cX9_put 78 = .ok (.iastore, 1) := by decide +kernel
theorem dX9_put_79 : decode cX9_put 79 = .ok (.return_, 1) := by decide +kernel
theorem dX10_init_0 : decode cX10_init 0 = .ok (.aload_n 0, 1) := by decide +kernel
theorem dX10_init_1 : decode cX10_init 1 = .ok (.invokespecial 1, 3) := by decide +kernel
theorem dX10_init_4 : decode cX10_init 4 = .ok (.aload_n 0, 1) := by decide +kernel
theorem dX10_init_5 : decode cX10_init 5 = .ok (.aload_n 1, 1) := by decide +kernel
theorem dX10_init_6 : decode cX10_init 6 = .ok (.putfield 7, 3) := by decide +kernel
theorem dX10_init_9 : decode cX10_init 9 = .ok (.aload_n 0, 1) := by decide +kernel
theorem dX10_init_10 : decode cX10_init 10 = .ok (.aload_n 2, 1) := by decide +kernel
theorem dX10_init_11 : decode cX10_init 11 = .ok (.putfield 13, 3) := by decide +kernel
theorem dX10_init_14 : decode cX10_init 14 = .ok (.aload_n 0, 1) := by decide +kernel
theorem dX10_init_15 : decode cX10_init 15 = .ok (.aload_n 1, 1) := by decide +kernel
theorem dX10_init_16 : decode cX10_init 16 = .ok (.arraylength, 1) := by decide +kernel
theorem dX10_init_17 : decode cX10_init 17 = .ok (.aload_n 2, 1) := by decide +kernel
theorem dX10_init_18 : decode cX10_init 18 = .ok (.arraylength, 1) := by decide +kernel
theorem dX10_init_19 : decode cX10_init 19 = .ok (.invokestatic 16, 3) := by decide +kernel
theorem dX10_init_22 : decode cX10_init 22 = .ok (.newarray .int, 2) := by decide +kernel
theorem dX10_init_24 : decode cX10_init 24 = .ok (.putfield 22, 3) := by decide +kernel
theorem dX10_init_27 : decode cX10_init 27 = .ok (.return_, 1) := by decide +kernel
theorem dX10_value_0 : decode cX10_value 0 = .ok (.iload_n 1, 1) := by decide +kernel
theorem dX10_value_1 : decode cX10_value 1 = .ok (.ifCond .ne 10, 3) := by decide +kernel
theorem dX10_value_4 : decode cX10_value 4 = .ok (.aload_n 0, 1) := by decide +kernel
theorem dX10_value_5 : decode cX10_value 5 = .ok (.getfield 7, 3) := by decide +kernel
theorem dX10_value_8 : decode cX10_value 8 = .ok (.goto 7, 3) := by decide +kernel
theorem dX10_value_11 : decode cX10_value 11 = .ok (.aload_n 0, 1) := by decide +kernel
theorem dX10_value_12 : decode cX10_value 12 = .ok (.getfield 13, 3) := by decide +kernel
theorem dX10_value_15 : decode cX10_value 15 = .ok (.astore_n 3, 1) := by decide +kernel
theorem dX10_value_16 : decode cX10_value 16 = .ok (.iconst 0, 1) := by decide +kernel
theorem dX10_value_17 : decode cX10_value 17 = .ok (.istore 4, 2) := by decide +kernel
theorem dX10_value_19 : decode cX10_value 19 = .ok (.iconst 0, 1) := by decide +kernel
theorem dX10_value_20 : decode cX10_value 20 = .ok (.istore 5, 2) := by decide +kernel
theorem dX10_value_22 : decode cX10_value 22 = .ok (.iload 5, 2) := by decide +kernel
theorem dX10_value_24 : decode cX10_value 24 = .ok (.aload_n 3, 1) := by decide +kernel
theorem dX10_value_25 : decode cX10_value 25 = .ok (.arraylength, 1) := by decide +kernel
theorem dX10_value_26 : decode cX10_value 26 = .ok (.if_icmp .ge 150, 3) := by decide +kernel
theorem dX10_value_29 : decode cX10_value 29 = .ok (.aload_n 3, 1) := by decide +kernel
theorem dX10_value_30 : decode cX10_value 30 = .ok (.iload 5, 2) := by decide +kernel
theorem dX10_value_32 : decode cX10_value 32 = .ok (.iaload, 1) := by decide +kernel
theorem dX10_value_33 : decode cX10_value 33 = .ok (.istore 6, 2) := by decide +kernel
theorem dX10_value_35 : decode cX10_value 35 = .ok (.iconst (-1), 1) := by decide +kernel
theorem dX10_value_36 : decode cX10_value 36 = .ok (.iload 6, 2) := by decide +kernel
theorem dX10_value_38 : decode cX10_value 38 = .ok (.isub, 1) := by decide +kernel
theorem dX10_value_39 : decode cX10_value 39 = .ok (.istore 7, 2) := by decide +kernel
theorem dX10_value_41 : decode cX10_value 41 = .ok (.iload 6, 2) := by decide +kernel
theorem dX10_value_43 : decode cX10_value 43 = .ok (.bipush (-7), 2) := by decide +kernel
theorem dX10_value_45 : decode cX10_value 45 = .ok (.if_icmp .le 47, 3) := by decide +kernel
theorem dX10_value_48 : decode cX10_value 48 = .ok (.iload 4, 2) := by decide +kernel
theorem dX10_value_50 : decode cX10_value 50 = .ok (.aload_n 0, 1) := by decide +kernel
theorem dX10_value_51 : decode cX10_value 51 = .ok (.getfield 22, 3) := by decide +kernel
theorem dX10_value_54 : decode cX10_value 54 = .ok (.arraylength, 1) := by decide +kernel
theorem dX10_value_55 : decode cX10_value 55 = .ok (.if_icmp .ge 115, 3) := by decide +kernel
theorem dX10_value_58 : decode cX10_value 58 = .ok (.aload_n 0, 1) := by decide +kernel
theorem dX10_value_59 : decode cX10_value 59 = .ok (.getfield 22, 3) := by decide +kernel
theorem dX10_value_62 : decode cX10_value 62 = .ok (.iload 4, 2) := by decide +kernel
theorem dX10_value_64 : decode cX10_value 64 = .ok (.iload 7, 2) := by decide +kernel
theorem dX10_value_66 : decode cX10_value 66 = .ok (.ifCond .lt 17, 3) := by decide +kernel
theorem dX10_value_69 : decode cX10_value 69 = .ok (.iload 7, 2) := by decide +kernel
theorem dX10_value_71 : decode cX10_value 71 = .ok (.aload_n 2, 1) := by decide +kernel
theorem dX10_value_72 : decode cX10_value 72 = .ok (.arraylength, 1) := by decide +kernel
theorem dX10_value_73 : decode cX10_value 73 = .ok (.if_icmp .ge 10, 3) := by decide +kernel
theorem dX10_value_76 : decode cX10_value 76 = .ok (.aload_n 2, 1) := by decide +kernel
theorem dX10_value_77 : decode cX10_value 77 = .ok (.iload 7, 2) := by decide +kernel
theorem dX10_value_79 : decode cX10_value 79 = .ok (.iaload, 1) := by decide +kernel
theorem dX10_value_80 : decode cX10_value 80 = .ok (.goto 5, 3) := by decide +kernel
theorem dX10_value_83 : decode cX10_value 83 = .ok (.iload 6, 2) := by decide +kernel
theorem dX10_value_85 : decode cX10_value 85 = .ok (.iastore, 1) := by decide +kernel
theorem dX10_value_86 : decode cX10_value 86 = .ok (.iinc 4 1, 3) := by decide +kernel
theorem dX10_value_89 : decode cX10_value 89 = .ok (.goto 81, 3) := by decide +kernel
theorem dX10_value_92 : decode cX10_value 92 = .ok (.iload 6, 2) := by decide +kernel
theorem dX10_value_94 : decode cX10_value 94 = .ok (.bipush (-8), 2) := by decide +kernel
theorem dX10_value_96 : decode cX10_value 96 = .ok (.if_icmp .lt 35, 3) := by decide +kernel
theorem dX10_value_99 : decode cX10_value 99 = .ok (.iload 4, 2) := by decide +kernel
theorem dX10_value_101 : decode cX10_value 101 = .ok (.iconst 1, 1) := by decide +kernel
theorem dX10_value_102 : decode cX10_value 102 = .ok (.if_icmp .lt 68, 3) := by decide +kernel
theorem dX10_value_105 : decode cX10_value 105 = .ok (.aload_n 0, 1) := by decide +kernel
theorem dX10_value_106 : decode cX10_value 106 = .ok (.getfield 22, 3) := by decide +kernel
theorem dX10_value_109 : decode cX10_value 109 = .ok (.iload 4, 2) := by decide +kernel
theorem dX10_value_111 : decode cX10_value 111 = .ok (.iconst 1, 1) := by decide +kernel
theorem dX10_value_112 : decode cX10_value 112 = .ok (.isub, 1) := by decide +kernel
theorem dX10_value_113 : decode cX10_value 113 = .ok (.iload 6, 2) := by decide +kernel
theorem dX10_value_115 : decode cX10_value 115 = .ok (.aload_n 0, 1) := by decide +kernel
theorem dX10_value_116 : decode cX10_value 116 = .ok (.getfield 22, 3) := by decide +kernel
theorem dX10_value_119 : decode cX10_value 119 = .ok (.iload 4, 2) := by decide +kernel
theorem dX10_value_121 : decode cX10_value 121 = .ok (.iconst 1, 1) := by decide +kernel
theorem dX10_value_122 : decode cX10_value 122 = .ok (.isub, 1) := by decide +kernel
theorem dX10_value_123 : decode cX10_value 123 = .ok (.iaload, 1) := by decide +kernel
theorem dX10_value_124 : decode cX10_value 124 = .ok (.invokestatic 25, 3) := by decide +kernel
theorem dX10_value_127 : decode cX10_value 127 = .ok (.iastore, 1) := by decide +kernel
theorem dX10_value_128 : decode cX10_value 128 = .ok (.goto 42, 3) := by decide +kernel
theorem dX10_value_131 : decode cX10_value 131 = .ok (.iload 4, 2) := by decide +kernel
theorem dX10_value_133 : decode cX10_value 133 = .ok (.iconst 2, 1) := by decide +kernel
theorem dX10_value_134 : decode cX10_value 134 = .ok (.if_icmp .lt 36, 3) := by decide +kernel
theorem dX10_value_137 : decode cX10_value 137 = .ok (.iinc 4 (-1), 3) := by decide +kernel
theorem dX10_value_140 : decode cX10_value 140 = .ok (.aload_n 0, 1) := by decide +kernel
theorem dX10_value_141 : decode cX10_value 141 = .ok (.getfield 22, 3) := by decide +kernel
theorem dX10_value_144 : decode cX10_value 144 = .ok (.iload 4, 2) := by decide +kernel
theorem dX10_value_146 : decode cX10_value 146 = .ok (.iconst 1, 1) := by decide +kernel
theorem dX10_value_147 : decode cX10_value 147 = .ok (.isub, 1) := by decide +kernel
theorem dX10_value_148 : decode cX10_value 148 = .ok (.iload 6, 2) := by decide +kernel
theorem dX10_value_150 : decode cX10_value 150 = .ok (.aload_n 0, 1) := by decide +kernel
theorem dX10_value_151 : decode cX10_value 151 = .ok (.getfield 22, 3) := by decide +kernel
theorem dX10_value_154 : decode cX10_value 154 = .ok (.iload 4, 2) := by decide +kernel
theorem dX10_value_156 : decode cX10_value 156 = .ok (.iconst 1, 1) := by decide +kernel
theorem dX10_value_157 : decode cX10_value 157 = .ok (.isub, 1) := by decide +kernel
theorem dX10_value_158 : decode cX10_value 158 = .ok (.iaload, 1) := by decide +kernel
theorem dX10_value_159 : decode cX10_value 159 = .ok (.aload_n 0, 1) := by decide +kernel
theorem dX10_value_160 : decode cX10_value 160 = .ok (.getfield 22, 3) := by decide +kernel
theorem dX10_value_163 : decode cX10_value 163 = .ok (.iload 4, 2) := by decide +kernel
theorem dX10_value_165 : decode cX10_value 165 = .ok (.iaload, 1) := by decide +kernel
theorem dX10_value_166 : decode cX10_value 166 = .ok (.invokestatic 28, 3) := by decide +kernel
theorem dX10_value_169 : decode cX10_value 169 = .ok (.iastore, 1) := by decide +kernel
theorem dX10_value_170 : decode cX10_value 170 = .ok (.iinc 5 1, 3) := by decide +kernel
theorem dX10_value_173 : decode cX10_value 173 = .ok (.goto (-151), 3) := by decide +kernel
theorem dX10_value_176 : decode cX10_value 176 = .ok (.iload 4, 2) := by decide +kernel
theorem dX10_value_178 : decode cX10_value 178 = .ok (.iconst 1, 1) := by decide +kernel
theorem dX10_value_179 : decode cX10_value 179 = .ok (.if_icmp .lt 15, 3) := by decide +kernel
theorem dX10_value_182 : decode cX10_value 182 = .ok (.aload_n 0, 1) := by decide +kernel
theorem dX10_value_183 : decode cX10_value 183 = .ok (.getfield 22, 3) := by decide +kernel
theorem dX10_value_186 : decode cX10_value 186 = .ok (.iload 4, 2) := by decide +kernel
theorem dX10_value_188 : decode cX10_value 188 = .ok (.iconst 1, 1) := by decide +kernel
theorem dX10_value_189 : decode cX10_value 189 = .ok (.isub, 1) := by decide +kernel
theorem dX10_value_190 : decode cX10_value 190 = .ok (.iaload, 1) := by decide +kernel
theorem dX10_value_191 : decode cX10_value 191 = .ok (.goto 4, 3) := by decide +kernel
theorem dX10_value_194 : decode cX10_value 194 = .ok (.iconst 0, 1) := by decide +kernel
theorem dX10_value_195 : decode cX10_value 195 = .ok (.ireturn, 1) := by decide +kernel
theorem dX10_alone_0 : decode cX10_alone 0 = .ok (.iload_n 0, 1) := by decide +kernel
theorem dX10_alone_1 : decode cX10_alone 1 = .ok (.bipush (-8), 2) := by decide +kernel
theorem dX10_alone_3 : decode cX10_alone 3 = .ok (.if_icmp .ne 6, 3) := by decide +kernel
theorem dX10_alone_6 : decode cX10_alone 6 = .ok (.iload_n 1, 1) := by decide +kernel
theorem dX10_alone_7 : decode cX10_alone 7 = .ok (.ineg, 1) := by decide +kernel
theorem dX10_alone_8 : decode cX10_alone 8 = .ok (.ireturn, 1) := by decide +kernel
theorem dX10_alone_9 : decode cX10_alone 9 = .ok (.iload_n 1, 1) := by decide +kernel
theorem dX10_alone_10 : decode cX10_alone 10 = .ok (.ifCond .ne 7, 3) := by decide +kernel
theorem dX10_alone_13 : decode cX10_alone 13 = .ok (.iconst 1, 1) := by decide +kernel
theorem dX10_alone_14 : decode cX10_alone 14 = .ok (.goto 4, 3) := by decide +kernel
theorem dX10_alone_17 : decode cX10_alone 17 = .ok (.iconst 0, 1) := by decide +kernel
theorem dX10_alone_18 : decode cX10_alone 18 = .ok (.ireturn, 1) := by decide +kernel
theorem dX10_together_0 : decode cX10_together 0 = .ok (.iload_n 0, 1) := by decide +kernel
theorem dX10_together_1 : decode cX10_together 1 = .ok (.tableswitch 97 (-14) (-9) #[93, 89, 78, 67, 53, 39], 39) := by decide +kernel
theorem dX10_together_40 : decode cX10_together 40 = .ok (.iload_n 1, 1) := by decide +kernel
theorem dX10_together_41 : decode cX10_together 41 = .ok (.ifCond .ne 7, 3) := by decide +kernel
theorem dX10_together_44 : decode cX10_together 44 = .ok (.iload_n 2, 1) := by decide +kernel
theorem dX10_together_45 : decode cX10_together 45 = .ok (.ifCond .eq 7, 3) := by decide +kernel
theorem dX10_together_48 : decode cX10_together 48 = .ok (.iconst 1, 1) := by decide +kernel
theorem dX10_together_49 : decode cX10_together 49 = .ok (.goto 4, 3) := by decide +kernel
theorem dX10_together_52 : decode cX10_together 52 = .ok (.iconst 0, 1) := by decide +kernel
theorem dX10_together_53 : decode cX10_together 53 = .ok (.ireturn, 1) := by decide +kernel
theorem dX10_together_54 : decode cX10_together 54 = .ok (.iload_n 1, 1) := by decide +kernel
theorem dX10_together_55 : decode cX10_together 55 = .ok (.ifCond .eq 11, 3) := by decide +kernel
theorem dX10_together_58 : decode cX10_together 58 = .ok (.iload_n 2, 1) := by decide +kernel
theorem dX10_together_59 : decode cX10_together 59 = .ok (.ifCond .eq 7, 3) := by decide +kernel
theorem dX10_together_62 : decode cX10_together 62 = .ok (.iconst 1, 1) := by decide +kernel
theorem dX10_together_63 : decode cX10_together 63 = .ok (.goto 4, 3) := by decide +kernel
theorem dX10_together_66 : decode cX10_together 66 = .ok (.iconst 0, 1) := by decide +kernel
theorem dX10_together_67 : decode cX10_together 67 = .ok (.ireturn, 1) := by decide +kernel
theorem dX10_together_68 : decode cX10_together 68 = .ok (.iload_n 1, 1) := by decide +kernel
theorem dX10_together_69 : decode cX10_together 69 = .ok (.iload_n 2, 1) := by decide +kernel
theorem dX10_together_70 : decode cX10_together 70 = .ok (.if_icmp .ge 7, 3) := by decide +kernel
theorem dX10_together_73 : decode cX10_together 73 = .ok (.iconst 1, 1) := by decide +kernel
theorem dX10_together_74 : decode cX10_together 74 = .ok (.goto 4, 3) := by decide +kernel
theorem dX10_together_77 : decode cX10_together 77 = .ok (.iconst 0, 1) := by decide +kernel
theorem dX10_together_78 : decode cX10_together 78 = .ok (.ireturn, 1) := by decide +kernel
theorem dX10_together_79 : decode cX10_together 79 = .ok (.iload_n 1, 1) := by decide +kernel
theorem dX10_together_80 : decode cX10_together 80 = .ok (.iload_n 2, 1) := by decide +kernel
theorem dX10_together_81 : decode cX10_together 81 = .ok (.if_icmp .ne 7, 3) := by decide +kernel
theorem dX10_together_84 : decode cX10_together 84 = .ok (.iconst 1, 1) := by decide +kernel
theorem dX10_together_85 : decode cX10_together 85 = .ok (.goto 4, 3) := by decide +kernel
theorem dX10_together_88 : decode cX10_together 88 = .ok (.iconst 0, 1) := by decide +kernel
theorem dX10_together_89 : decode cX10_together 89 = .ok (.ireturn, 1) := by decide +kernel
theorem dX10_together_90 : decode cX10_together 90 = .ok (.iload_n 1, 1) := by decide +kernel
theorem dX10_together_91 : decode cX10_together 91 = .ok (.iload_n 2, 1) := by decide +kernel
theorem dX10_together_92 : decode cX10_together 92 = .ok (.iadd, 1) := by decide +kernel
theorem dX10_together_93 : decode cX10_together 93 = .ok (.ireturn, 1) := by decide +kernel
theorem dX10_together_94 : decode cX10_together 94 = .ok (.iload_n 1, 1) := by decide +kernel
theorem dX10_together_95 : decode cX10_together 95 = .ok (.iload_n 2, 1) := by decide +kernel
theorem dX10_together_96 : decode cX10_together 96 = .ok (.isub, 1) := by decide +kernel
theorem dX10_together_97 : decode cX10_together 97 = .ok (.ireturn, 1) := by decide +kernel
theorem dX10_together_98 : decode cX10_together 98 = .ok (.iload_n 1, 1) := by decide +kernel
theorem dX10_together_99 : decode cX10_together 99 = .ok (.iload_n 2, 1) := by decide +kernel
theorem dX10_together_100 : decode cX10_together 100 = .ok (.imul, 1) := by decide +kernel
theorem dX10_together_101 : decode cX10_together 101 = .ok (.ireturn, 1) := by decide +kernel
theorem dX11_init_0 : decode cX11_init 0 = .ok (.aload_n 0, 1) := by decide +kernel
theorem dX11_init_1 : decode cX11_init 1 = .ok (.invokespecial 1, 3) := by decide +kernel
theorem dX11_init_4 : decode cX11_init 4 = .ok (.aload_n 0, 1) := by decide +kernel
theorem dX11_init_5 : decode cX11_init 5 = .ok (.new 7, 3) := by decide +kernel
theorem dX11_init_8 : decode cX11_init 8 = .ok (.dup, 1) := by decide +kernel
theorem dX11_init_9 : decode cX11_init 9 = .ok (.invokespecial 9, 3) := by decide +kernel
theorem dX11_init_12 : decode cX11_init 12 = .ok (.putfield 10, 3) := by decide +kernel
theorem dX11_init_15 : decode cX11_init 15 = .ok (.aload_n 0, 1) := by decide +kernel
theorem dX11_init_16 : decode cX11_init 16 = .ok (.new 16, 3) := by decide +kernel
theorem dX11_init_19 : decode cX11_init 19 = .ok (.dup, 1) := by decide +kernel
theorem dX11_init_20 : decode cX11_init 20 = .ok (.invokespecial 18, 3) := by decide +kernel
theorem dX11_init_23 : decode cX11_init 23 = .ok (.putfield 19, 3) := by decide +kernel
theorem dX11_init_26 : decode cX11_init 26 = .ok (.aload_n 0, 1) := by decide +kernel
theorem dX11_init_27 : decode cX11_init 27 = .ok (.new 23, 3) := by decide +kernel
theorem dX11_init_30 : decode cX11_init 30 = .ok (.dup, 1) := by decide +kernel
theorem dX11_init_31 : decode cX11_init 31 = .ok (.invokespecial 25, 3) := by decide +kernel
theorem dX11_init_34 : decode cX11_init 34 = .ok (.putfield 26, 3) := by decide +kernel
theorem dX11_init_37 : decode cX11_init 37 = .ok (.aload_n 0, 1) := by decide +kernel
theorem dX11_init_38 : decode cX11_init 38 = .ok (.new 30, 3) := by decide +kernel
theorem dX11_init_41 : decode cX11_init 41 = .ok (.dup, 1) := by decide +kernel
theorem dX11_init_42 : decode cX11_init 42 = .ok (.invokespecial 32, 3) := by decide +kernel
theorem dX11_init_45 : decode cX11_init 45 = .ok (.putfield 33, 3) := by decide +kernel
theorem dX11_init_48 : decode cX11_init 48 = .ok (.aload_n 0, 1) := by decide +kernel
theorem dX11_init_49 : decode cX11_init 49 = .ok (.new 37, 3) := by decide +kernel
theorem dX11_init_52 : decode cX11_init 52 = .ok (.dup, 1) := by decide +kernel
theorem dX11_init_53 : decode cX11_init 53 = .ok (.invokespecial 39, 3) := by decide +kernel
theorem dX11_init_56 : decode cX11_init 56 = .ok (.putfield 40, 3) := by decide +kernel
theorem dX11_init_59 : decode cX11_init 59 = .ok (.bipush 6, 2) := by decide +kernel
theorem dX11_init_61 : decode cX11_init 61 = .ok (.iload_n 1, 1) := by decide +kernel
theorem dX11_init_62 : decode cX11_init 62 = .ok (.bipush 7, 2) := by decide +kernel
theorem dX11_init_64 : decode cX11_init 64 = .ok (.invokestatic 44, 3) := by decide +kernel
theorem dX11_init_67 : decode cX11_init 67 = .ok (.iadd, 1) := by decide +kernel
theorem dX11_init_68 : decode cX11_init 68 = .ok (.istore_n 2, 1) := by decide +kernel
theorem dX11_init_69 : decode cX11_init 69 = .ok (.aload_n 0, 1) := by decide +kernel
theorem dX11_init_70 : decode cX11_init 70 = .ok (.new 50, 3) := by decide +kernel
theorem dX11_init_73 : decode cX11_init 73 = .ok (.dup, 1) := by decide +kernel
theorem dX11_init_74 : decode cX11_init 74 = .ok (.iload_n 2, 1) := by decide +kernel
theorem dX11_init_75 : decode cX11_init 75 = .ok (.aload_n 0, 1) := by decide +kernel
theorem dX11_init_76 : decode cX11_init 76 = .ok (.getfield 10, 3) := by decide +kernel
theorem dX11_init_79 : decode cX11_init 79 = .ok (.aload_n 0, 1) := by decide +kernel
theorem dX11_init_80 : decode cX11_init 80 = .ok (.getfield 19, 3) := by decide +kernel
theorem dX11_init_83 : decode cX11_init 83 = .ok (.invokespecial 52, 3) := by decide +kernel
theorem dX11_init_86 : decode cX11_init 86 = .ok (.putfield 55, 3) := by decide +kernel
theorem dX11_init_89 : decode cX11_init 89 = .ok (.aload_n 0, 1) := by decide +kernel
theorem dX11_init_90 : decode cX11_init 90 = .ok (.new 59, 3) := by decide +kernel
theorem dX11_init_93 : decode cX11_init 93 = .ok (.dup, 1) := by decide +kernel
theorem dX11_init_94 : decode cX11_init 94 = .ok (.iload_n 2, 1) := by decide +kernel
theorem dX11_init_95 : decode cX11_init 95 = .ok (.aload_n 0, 1) := by decide +kernel
theorem dX11_init_96 : decode cX11_init 96 = .ok (.getfield 10, 3) := by decide +kernel
theorem dX11_init_99 : decode cX11_init 99 = .ok (.aload_n 0, 1) := by decide +kernel
theorem dX11_init_100 : decode cX11_init 100 = .ok (.getfield 19, 3) := by decide +kernel
theorem dX11_init_103 : decode cX11_init 103 = .ok (.invokespecial 61, 3) := by decide +kernel
theorem dX11_init_106 : decode cX11_init 106 = .ok (.putfield 62, 3) := by decide +kernel
theorem dX11_init_109 : decode cX11_init 109 = .ok (.return_, 1) := by decide +kernel
theorem dX11_within_0 : decode cX11_within 0 = .ok (.iload_n 0, 1) := by decide +kernel
theorem dX11_within_1 : decode cX11_within 1 = .ok (.iload_n 1, 1) := by decide +kernel
theorem dX11_within_2 : decode cX11_within 2 = .ok (.if_icmp .lt 12, 3) := by decide +kernel
theorem dX11_within_5 : decode cX11_within 5 = .ok (.iload_n 0, 1) := by decide +kernel
theorem dX11_within_6 : decode cX11_within 6 = .ok (.iload_n 2, 1) := by decide +kernel
theorem dX11_within_7 : decode cX11_within 7 = .ok (.if_icmp .gt 7, 3) := by decide +kernel
theorem dX11_within_10 : decode cX11_within 10 = .ok (.iconst 1, 1) := by decide +kernel
theorem dX11_within_11 : decode cX11_within 11 = .ok (.goto 4, 3) := by decide +kernel
theorem dX11_within_14 : decode cX11_within 14 = .ok (.iconst 0, 1) := by decide +kernel
theorem dX11_within_15 : decode cX11_within 15 = .ok (.ireturn, 1) := by decide +kernel
theorem dX11_isDish_0 : decode cX11_isDish 0 = .ok (.iload_n 0, 1) := by decide +kernel
theorem dX11_isDish_1 : decode cX11_isDish 1 = .ok (.ifCond .lt 13, 3) := by decide +kernel
theorem dX11_isDish_4 : decode cX11_isDish 4 = .ok (.iload_n 0, 1) := by decide +kernel
theorem dX11_isDish_5 : decode cX11_isDish 5 = .ok (.bipush 6, 2) := by decide +kernel
theorem dX11_isDish_7 : decode cX11_isDish 7 = .ok (.if_icmp .ge 7, 3) := by decide +kernel
theorem dX11_isDish_10 : decode cX11_isDish 10 = .ok (.iconst 1, 1) := by decide +kernel
theorem dX11_isDish_11 : decode cX11_isDish 11 = .ok (.goto 4, 3) := by decide +kernel
theorem dX11_isDish_14 : decode cX11_isDish 14 = .ok (.iconst 0, 1) := by decide +kernel
theorem dX11_isDish_15 : decode cX11_isDish 15 = .ok (.ireturn, 1) := by decide +kernel
theorem dX11_isColour_0 : decode cX11_isColour 0 = .ok (.iload_n 0, 1) := by decide +kernel
theorem dX11_isColour_1 : decode cX11_isColour 1 = .ok (.ifCond .lt 12, 3) := by decide +kernel
theorem dX11_isColour_4 : decode cX11_isColour 4 = .ok (.iload_n 0, 1) := by decide +kernel
theorem dX11_isColour_5 : decode cX11_isColour 5 = .ok (.iconst 5, 1) := by decide +kernel
theorem dX11_isColour_6 : decode cX11_isColour 6 = .ok (.if_icmp .ge 7, 3) := by decide +kernel
theorem dX11_isColour_9 : decode cX11_isColour 9 = .ok (.iconst 1, 1) := by decide +kernel
theorem dX11_isColour_10 : decode cX11_isColour 10 = .ok (.goto 4, 3) := by decide +kernel
theorem dX11_isColour_13 : decode cX11_isColour 13 = .ok (.iconst 0, 1) := by decide +kernel
theorem dX11_isColour_14 : decode cX11_isColour 14 = .ok (.ireturn, 1) := by decide +kernel
theorem dX11_find_0 : decode cX11_find 0 = .ok (.iconst 0, 1) := by decide +kernel
theorem dX11_find_1 : decode cX11_find 1 = .ok (.istore_n 2, 1) := by decide +kernel
theorem dX11_find_2 : decode cX11_find 2 = .ok (.iload_n 2, 1) := by decide +kernel
theorem dX11_find_3 : decode cX11_find 3 = .ok (.aload_n 0, 1) := by decide +kernel
theorem dX11_find_4 : decode cX11_find 4 = .ok (.arraylength, 1) := by decide +kernel
theorem dX11_find_5 : decode cX11_find 5 = .ok (.if_icmp .ge 18, 3) := by decide +kernel
theorem dX11_find_8 : decode cX11_find 8 = .ok (.aload_n 0, 1) := by decide +kernel
theorem dX11_find_9 : decode cX11_find 9 = .ok (.iload_n 2, 1) := by decide +kernel
theorem dX11_find_10 : decode cX11_find 10 = .ok (.iaload, 1) := by decide +kernel
theorem dX11_find_11 : decode cX11_find 11 = .ok (.iload_n 1, 1) := by decide +kernel
theorem dX11_find_12 : decode cX11_find 12 = .ok (.if_icmp .ne 5, 3) := by decide +kernel
theorem dX11_find_15 : decode cX11_find 15 = .ok (.iload_n 2, 1) := by decide +kernel
theorem dX11_find_16 : decode cX11_find 16 = .ok (.ireturn, 1) := by decide +kernel
theorem dX11_find_17 : decode cX11_find 17 = .ok (.iinc 2 1, 3) := by decide +kernel
theorem dX11_find_20 : decode cX11_find 20 = .ok (.goto (-18), 3) := by decide +kernel
theorem dX11_find_23 : decode cX11_find 23 = .ok (.iconst (-1), 1) := by decide +kernel
theorem dX11_find_24 : decode cX11_find 24 = .ok (.ireturn, 1) := by decide +kernel
theorem dX11_dish_0 : decode cX11_dish 0 = .ok (.iload_n 1, 1) := by decide +kernel
theorem dX11_dish_1 : decode cX11_dish 1 = .ok (.invokestatic 66, 3) := by decide +kernel
theorem dX11_dish_4 : decode cX11_dish 4 = .ok (.ifCond .eq 20, 3) := by decide +kernel
theorem dX11_dish_7 : decode cX11_dish 7 = .ok (.iload_n 2, 1) := by decide +kernel
theorem dX11_dish_8 : decode cX11_dish 8 = .ok (.invokestatic 70, 3) := by decide +kernel
theorem dX11_dish_11 : decode cX11_dish 11 = .ok (.ifCond .eq 13, 3) := by decide +kernel
theorem dX11_dish_14 : decode cX11_dish 14 = .ok (.iload_n 3, 1) := by decide +kernel
theorem dX11_dish_15 : decode cX11_dish 15 = .ok (.iconst 1, 1) := by decide +kernel
theorem dX11_dish_16 : decode cX11_dish 16 = .ok (.bipush 60, 2) := by decide +kernel
theorem dX11_dish_18 : decode cX11_dish 18 = .ok (.invokestatic 73, 3) := by decide +kernel
theorem dX11_dish_21 : decode cX11_dish 21 = .ok (.ifCond .ne 6, 3) := by decide +kernel
theorem dX11_dish_24 : decode cX11_dish 24 = .ok (.bipush (-2), 2) := by decide +kernel
theorem dX11_dish_26 : decode cX11_dish 26 = .ok (.ireturn, 1) := by decide +kernel
theorem dX11_dish_27 : decode cX11_dish 27 = .ok (.aload_n 0, 1) := by decide +kernel
theorem dX11_dish_28 : decode cX11_dish 28 = .ok (.getfield 10, 3) := by decide +kernel
theorem dX11_dish_31 : decode cX11_dish 31 = .ok (.getfield 77, 3) := by decide +kernel
theorem dX11_dish_34 : decode cX11_dish 34 = .ok (.iload_n 1, 1) := by decide +kernel
theorem dX11_dish_35 : decode cX11_dish 35 = .ok (.iaload, 1) := by decide +kernel
theorem dX11_dish_36 : decode cX11_dish 36 = .ok (.istore 4, 2) := by decide +kernel
theorem dX11_dish_38 : decode cX11_dish 38 = .ok (.aload_n 0, 1) := by decide +kernel
theorem dX11_dish_39 : decode cX11_dish 39 = .ok (.getfield 10, 3) := by decide +kernel
theorem dX11_dish_42 : decode cX11_dish 42 = .ok (.getfield 77, 3) := by decide +kernel
theorem dX11_dish_45 : decode cX11_dish 45 = .ok (.iload_n 1, 1) := by decide +kernel
theorem dX11_dish_46 : decode cX11_dish 46 = .ok (.iload_n 2, 1) := by decide +kernel
theorem dX11_dish_47 : decode cX11_dish 47 = .ok (.iastore, 1) := by decide +kernel
theorem dX11_dish_48 : decode cX11_dish 48 = .ok (.aload_n 0, 1) := by decide +kernel
theorem dX11_dish_49 : decode cX11_dish 49 = .ok (.getfield 10, 3) := by decide +kernel
theorem dX11_dish_52 : decode cX11_dish 52 = .ok (.getfield 81, 3) := by decide +kernel
theorem dX11_dish_55 : decode cX11_dish 55 = .ok (.iload_n 1, 1) := by decide +kernel
theorem dX11_dish_56 : decode cX11_dish 56 = .ok (.iload_n 3, 1) := by decide +kernel
theorem dX11_dish_57 : decode cX11_dish 57 = .ok (.iastore, 1) := by decide +kernel
theorem dX11_dish_58 : decode cX11_dish 58 = .ok (.iload 4, 2) := by decide +kernel
theorem dX11_dish_60 : decode cX11_dish 60 = .ok (.ireturn, 1) := by decide +kernel
theorem dX11_price_0 : decode cX11_price 0 = .ok (.iload_n 1, 1) := by decide +kernel
theorem dX11_price_1 : decode cX11_price 1 = .ok (.invokestatic 70, 3) := by decide +kernel
theorem dX11_price_4 : decode cX11_price 4 = .ok (.ifCond .eq 14, 3) := by decide +kernel
theorem dX11_price_7 : decode cX11_price 7 = .ok (.iload_n 2, 1) := by decide +kernel
theorem dX11_price_8 : decode cX11_price 8 = .ok (.iconst 0, 1) := by decide +kernel
theorem dX11_price_9 : decode cX11_price 9 = .ok (.sipush 999, 3) := by decide +kernel
theorem dX11_price_12 : decode cX11_price 12 = .ok (.invokestatic 73, 3) := by decide +kernel
theorem dX11_price_15 : decode cX11_price 15 = .ok (.ifCond .ne 6, 3) := by decide +kernel
theorem dX11_price_18 : decode cX11_price 18 = .ok (.bipush (-2), 2) := by decide +kernel
theorem dX11_price_20 : decode cX11_price 20 = .ok (.ireturn, 1) := by decide +kernel
theorem dX11_price_21 : decode cX11_price 21 = .ok (.aload_n 0, 1) := by decide +kernel
theorem dX11_price_22 : decode cX11_price 22 = .ok (.getfield 10, 3) := by decide +kernel
theorem dX11_price_25 : decode cX11_price 25 = .ok (.getfield 84, 3) := by decide +kernel
theorem dX11_price_28 : decode cX11_price 28 = .ok (.iload_n 1, 1) := by decide +kernel
theorem dX11_price_29 : decode cX11_price 29 = .ok (.iaload, 1) := by decide +kernel
theorem dX11_price_30 : decode cX11_price 30 = .ok (.istore_n 3, 1) := by decide +kernel
theorem dX11_price_31 : decode cX11_price 31 = .ok (.aload_n 0, 1) := by decide +kernel
theorem dX11_price_32 : decode cX11_price 32 = .ok (.getfield 10, 3) := by decide +kernel
theorem dX11_price_35 : decode cX11_price 35 = .ok (.getfield 84, 3) := by decide +kernel
theorem dX11_price_38 : decode cX11_price 38 = .ok (.iload_n 1, 1) := by decide +kernel
theorem dX11_price_39 : decode cX11_price 39 = .ok (.iload_n 2, 1) := by decide +kernel
theorem dX11_price_40 : decode cX11_price 40 = .ok (.iastore, 1) := by decide +kernel
theorem dX11_price_41 : decode cX11_price 41 = .ok (.iload_n 3, 1) := by decide +kernel
theorem dX11_price_42 : decode cX11_price 42 = .ok (.ireturn, 1) := by decide +kernel
theorem dX11_lay_0 : decode cX11_lay 0 = .ok (.aload_n 0, 1) := by decide +kernel
theorem dX11_lay_1 : decode cX11_lay 1 = .ok (.getfield 55, 3) := by decide +kernel
theorem dX11_lay_4 : decode cX11_lay 4 = .ok (.iload_n 1, 1) := by decide +kernel
theorem dX11_lay_5 : decode cX11_lay 5 = .ok (.invokevirtual 87, 3) := by decide +kernel
theorem dX11_lay_8 : decode cX11_lay 8 = .ok (.ireturn, 1) := by decide +kernel
theorem dX11_plate_0 : decode cX11_plate 0 = .ok (.aload_n 0, 1) := by decide +kernel
theorem dX11_plate_1 : decode cX11_plate 1 = .ok (.getfield 55, 3) := by decide +kernel
theorem dX11_plate_4 : decode cX11_plate 4 = .ok (.getfield 91, 3) := by decide +kernel
theorem dX11_plate_7 : decode cX11_plate 7 = .ok (.astore_n 3, 1) := by decide +kernel
theorem dX11_plate_8 : decode cX11_plate 8 = .ok (.aload_n 3, 1) := by decide +kernel
theorem dX11_plate_9 : decode cX11_plate 9 = .ok (.iload_n 1, 1) := by decide +kernel
theorem dX11_plate_10 : decode cX11_plate 10 = .ok (.invokevirtual 95, 3) := by decide +kernel
theorem dX11_plate_13 : decode cX11_plate 13 = .ok (.ifCond .ne 6, 3) := by decide +kernel
theorem dX11_plate_16 : decode cX11_plate 16 = .ok (.bipush (-2), 2) := by decide +kernel
theorem dX11_plate_18 : decode cX11_plate 18 = .ok (.ireturn, 1) := by decide +kernel
theorem dX11_plate_19 : decode cX11_plate 19 = .ok (.iload_n 2, 1) := by decide +kernel
theorem dX11_plate_20 : decode cX11_plate 20 = .ok (.tableswitch 73 0 4 #[36, 43, 50, 57, 64], 36) := by decide +kernel
theorem dX11_plate_56 : decode cX11_plate 56 = .ok (.aload_n 3, 1) := by decide +kernel
theorem dX11_plate_57 : decode cX11_plate 57 = .ok (.getfield 100, 3) := by decide +kernel
theorem dX11_plate_60 : decode cX11_plate 60 = .ok (.iload_n 1, 1) := by decide +kernel
theorem dX11_plate_61 : decode cX11_plate 61 = .ok (.iaload, 1) := by decide +kernel
theorem dX11_plate_62 : decode cX11_plate 62 = .ok (.ireturn, 1) := by decide +kernel
theorem dX11_plate_63 : decode cX11_plate 63 = .ok (.aload_n 3, 1) := by decide +kernel
theorem dX11_plate_64 : decode cX11_plate 64 = .ok (.getfield 103, 3) := by decide +kernel
theorem dX11_plate_67 : decode cX11_plate 67 = .ok (.iload_n 1, 1) := by decide +kernel
theorem dX11_plate_68 : decode cX11_plate 68 = .ok (.iaload, 1) := by decide +kernel
theorem dX11_plate_69 : decode cX11_plate 69 = .ok (.ireturn, 1) := by decide +kernel
theorem dX11_plate_70 : decode cX11_plate 70 = .ok (.aload_n 3, 1) := by decide +kernel
theorem dX11_plate_71 : decode cX11_plate 71 = .ok (.getfield 104, 3) := by decide +kernel
theorem dX11_plate_74 : decode cX11_plate 74 = .ok (.iload_n 1, 1) := by decide +kernel
theorem dX11_plate_75 : decode cX11_plate 75 = .ok (.iaload, 1) := by decide +kernel
theorem dX11_plate_76 : decode cX11_plate 76 = .ok (.ireturn, 1) := by decide +kernel
theorem dX11_plate_77 : decode cX11_plate 77 = .ok (.aload_n 3, 1) := by decide +kernel
theorem dX11_plate_78 : decode cX11_plate 78 = .ok (.getfield 107, 3) := by decide +kernel
theorem dX11_plate_81 : decode cX11_plate 81 = .ok (.iload_n 1, 1) := by decide +kernel
theorem dX11_plate_82 : decode cX11_plate 82 = .ok (.iaload, 1) := by decide +kernel
theorem dX11_plate_83 : decode cX11_plate 83 = .ok (.ireturn, 1) := by decide +kernel
theorem dX11_plate_84 : decode cX11_plate 84 = .ok (.aload_n 0, 1) := by decide +kernel
theorem dX11_plate_85 : decode cX11_plate 85 = .ok (.getfield 55, 3) := by decide +kernel
theorem dX11_plate_88 : decode cX11_plate 88 = .ok (.iload_n 1, 1) := by decide +kernel
theorem dX11_plate_89 : decode cX11_plate 89 = .ok (.invokevirtual 110, 3) := by decide +kernel
theorem dX11_plate_92 : decode cX11_plate 92 = .ok (.ireturn, 1) := by decide +kernel
theorem dX11_plate_93 : decode cX11_plate 93 = .ok (.bipush (-2), 2) := by decide +kernel
theorem dX11_plate_95 : decode cX11_plate 95 = .ok (.ireturn, 1) := by decide +kernel
theorem dX11_at_0 : decode cX11_at 0 = .ok (.aload_n 0, 1) := by decide +kernel
theorem dX11_at_1 : decode cX11_at 1 = .ok (.getfield 55, 3) := by decide +kernel
theorem dX11_at_4 : decode cX11_at 4 = .ok (.iload_n 1, 1) := by decide +kernel
theorem dX11_at_5 : decode cX11_at 5 = .ok (.invokevirtual 113, 3) := by decide +kernel
theorem dX11_at_8 : decode cX11_at 8 = .ok (.ifCond .eq 15, 3) := by decide +kernel
theorem dX11_at_11 : decode cX11_at 11 = .ok (.aload_n 0, 1) := by decide +kernel
theorem dX11_at_12 : decode cX11_at 12 = .ok (.getfield 55, 3) := by decide +kernel
theorem dX11_at_15 : decode cX11_at 15 = .ok (.getfield 116, 3) := by decide +kernel
theorem dX11_at_18 : decode cX11_at 18 = .ok (.iload_n 1, 1) := by decide +kernel
theorem dX11_at_19 : decode cX11_at 19 = .ok (.iaload, 1) := by decide +kernel
theorem dX11_at_20 : decode cX11_at 20 = .ok (.goto 5, 3) := by decide +kernel
theorem dX11_at_23 : decode cX11_at 23 = .ok (.bipush (-2), 2) := by decide +kernel
theorem dX11_at_25 : decode cX11_at 25 = .ok (.ireturn, 1) := by decide +kernel
theorem dX11_gone_0 : decode cX11_gone 0 = .ok (.aload_n 0, 1) := by decide +kernel
theorem dX11_gone_1 : decode cX11_gone 1 = .ok (.getfield 55, 3) := by decide +kernel
theorem dX11_gone_4 : decode cX11_gone 4 = .ok (.iload_n 1, 1) := by decide +kernel
theorem dX11_gone_5 : decode cX11_gone 5 = .ok (.invokevirtual 113, 3) := by decide +kernel
theorem dX11_gone_8 : decode cX11_gone 8 = .ok (.ifCond .ne 6, 3) := by decide +kernel
theorem dX11_gone_11 : decode cX11_gone 11 = .ok (.bipush (-2), 2) := by decide +kernel
theorem dX11_gone_13 : decode cX11_gone 13 = .ok (.ireturn, 1) := by decide +kernel
theorem dX11_gone_14 : decode cX11_gone 14 = .ok (.aload_n 0, 1) := by decide +kernel
theorem dX11_gone_15 : decode cX11_gone 15 = .ok (.getfield 55, 3) := by decide +kernel
theorem dX11_gone_18 : decode cX11_gone 18 = .ok (.getfield 116, 3) := by decide +kernel
theorem dX11_gone_21 : decode cX11_gone 21 = .ok (.iload_n 1, 1) := by decide +kernel
theorem dX11_gone_22 : decode cX11_gone 22 = .ok (.iaload, 1) := by decide +kernel
theorem dX11_gone_23 : decode cX11_gone 23 = .ok (.istore_n 2, 1) := by decide +kernel
theorem dX11_gone_24 : decode cX11_gone 24 = .ok (.iload_n 2, 1) := by decide +kernel
theorem dX11_gone_25 : decode cX11_gone 25 = .ok (.iconst (-1), 1) := by decide +kernel
theorem dX11_gone_26 : decode cX11_gone 26 = .ok (.if_icmp .ne 6, 3) := by decide +kernel
theorem dX11_gone_29 : decode cX11_gone 29 = .ok (.bipush (-3), 2) := by decide +kernel
theorem dX11_gone_31 : decode cX11_gone 31 = .ok (.ireturn, 1) := by decide +kernel
theorem dX11_gone_32 : decode cX11_gone 32 = .ok (.aload_n 0, 1) := by decide +kernel
theorem dX11_gone_33 : decode cX11_gone 33 = .ok (.getfield 55, 3) := by decide +kernel
theorem dX11_gone_36 : decode cX11_gone 36 = .ok (.getfield 116, 3) := by decide +kernel
theorem dX11_gone_39 : decode cX11_gone 39 = .ok (.iload_n 1, 1) := by decide +kernel
theorem dX11_gone_40 : decode cX11_gone 40 = .ok (.iconst (-1), 1) := by decide +kernel
theorem dX11_gone_41 : decode cX11_gone 41 = .ok (.iastore, 1) := by decide +kernel
theorem dX11_gone_42 : decode cX11_gone 42 = .ok (.aload_n 0, 1) := by decide +kernel
theorem dX11_gone_43 : decode cX11_gone 43 = .ok (.getfield 55, 3) := by decide +kernel
theorem dX11_gone_46 : decode cX11_gone 46 = .ok (.getfield 91, 3) := by decide +kernel
theorem dX11_gone_49 : decode cX11_gone 49 = .ok (.iload_n 2, 1) := by decide +kernel
theorem dX11_gone_50 : decode cX11_gone 50 = .ok (.iconst 5, 1) := by decide +kernel
theorem dX11_gone_51 : decode cX11_gone 51 = .ok (.iconst (-1), 1) := by decide +kernel
theorem dX11_gone_52 : decode cX11_gone 52 = .ok (.invokevirtual 119, 3) := by decide +kernel
theorem dX11_gone_55 : decode cX11_gone 55 = .ok (.iload_n 2, 1) := by decide +kernel
theorem dX11_gone_56 : decode cX11_gone 56 = .ok (.ireturn, 1) := by decide +kernel
theorem dX11_seat_0 : decode cX11_seat 0 = .ok (.aload_n 0, 1) := by decide +kernel
theorem dX11_seat_1 : decode cX11_seat 1 = .ok (.getfield 55, 3) := by decide +kernel
theorem dX11_seat_4 : decode cX11_seat 4 = .ok (.iload_n 1, 1) := by decide +kernel
theorem dX11_seat_5 : decode cX11_seat 5 = .ok (.invokevirtual 113, 3) := by decide +kernel
theorem dX11_seat_8 : decode cX11_seat 8 = .ok (.ifCond .eq 21, 3) := by decide +kernel
theorem dX11_seat_11 : decode cX11_seat 11 = .ok (.iload_n 1, 1) := by decide +kernel
theorem dX11_seat_12 : decode cX11_seat 12 = .ok (.ifCond .eq 17, 3) := by decide +kernel
theorem dX11_seat_15 : decode cX11_seat 15 = .ok (.aload_n 0, 1) := by decide +kernel
theorem dX11_seat_16 : decode cX11_seat 16 = .ok (.getfield 55, 3) := by decide +kernel
theorem dX11_seat_19 : decode cX11_seat 19 = .ok (.getfield 123, 3) := by decide +kernel
theorem dX11_seat_22 : decode cX11_seat 22 = .ok (.iload_n 1, 1) := by decide +kernel
theorem dX11_seat_23 : decode cX11_seat 23 = .ok (.invokevirtual 127, 3) := by decide +kernel
theorem dX11_seat_26 : decode cX11_seat 26 = .ok (.ifCond .eq 6, 3) := by decide +kernel
theorem dX11_seat_29 : decode cX11_seat 29 = .ok (.bipush (-2), 2) := by decide +kernel
theorem dX11_seat_31 : decode cX11_seat 31 = .ok (.ireturn, 1) := by decide +kernel
theorem dX11_seat_32 : decode cX11_seat 32 = .ok (.aload_n 0, 1) := by decide +kernel
theorem dX11_seat_33 : decode cX11_seat 33 = .ok (.getfield 55, 3) := by decide +kernel
theorem dX11_seat_36 : decode cX11_seat 36 = .ok (.getfield 123, 3) := by decide +kernel
theorem dX11_seat_39 : decode cX11_seat 39 = .ok (.iload_n 1, 1) := by decide +kernel
theorem dX11_seat_40 : decode cX11_seat 40 = .ok (.invokevirtual 132, 3) := by decide +kernel
theorem dX11_seat_43 : decode cX11_seat 43 = .ok (.ireturn, 1) := by decide +kernel
theorem dX11_guest_0 : decode cX11_guest 0 = .ok (.aload_n 0, 1) := by decide +kernel
theorem dX11_guest_1 : decode cX11_guest 1 = .ok (.getfield 55, 3) := by decide +kernel
theorem dX11_guest_4 : decode cX11_guest 4 = .ok (.getfield 123, 3) := by decide +kernel
theorem dX11_guest_7 : decode cX11_guest 7 = .ok (.astore 4, 2) := by decide +kernel
theorem dX11_guest_9 : decode cX11_guest 9 = .ok (.aload 4, 2) := by decide +kernel
theorem dX11_guest_11 : decode cX11_guest 11 = .ok (.iload_n 1, 1) := by decide +kernel
theorem dX11_guest_12 : decode cX11_guest 12 = .ok (.invokevirtual 135, 3) := by decide +kernel
theorem dX11_guest_15 : decode cX11_guest 15 = .ok (.ifCond .eq 20, 3) := by decide +kernel
theorem dX11_guest_18 : decode cX11_guest 18 = .ok (.iload_n 2, 1) := by decide +kernel
theorem dX11_guest_19 : decode cX11_guest 19 = .ok (.invokestatic 136, 3) := by decide +kernel
theorem dX11_guest_22 : decode cX11_guest 22 = .ok (.ifCond .eq 13, 3) := by decide +kernel
theorem dX11_guest_25 : decode cX11_guest 25 = .ok (.iload_n 3, 1) := by decide +kernel
theorem dX11_guest_26 : decode cX11_guest 26 = .ok (.iconst 0, 1) := by decide +kernel
theorem dX11_guest_27 : decode cX11_guest 27 = .ok (.ldc 139, 2) := by decide +kernel
theorem dX11_guest_29 : decode cX11_guest 29 = .ok (.invokestatic 73, 3) := by decide +kernel
theorem dX11_guest_32 : decode cX11_guest 32 = .ok (.ifCond .ne 6, 3) := by decide +kernel
theorem dX11_guest_35 : decode cX11_guest 35 = .ok (.bipush (-2), 2) := by decide +kernel
theorem dX11_guest_37 : decode cX11_guest 37 = .ok (.ireturn, 1) := by decide +kernel
theorem dX11_guest_38 : decode cX11_guest 38 = .ok (.aload 4, 2) := by decide +kernel
theorem dX11_guest_40 : decode cX11_guest 40 = .ok (.iload_n 1, 1) := by decide +kernel
theorem dX11_guest_41 : decode cX11_guest 41 = .ok (.invokevirtual 140, 3) := by decide +kernel
theorem dX11_guest_44 : decode cX11_guest 44 = .ok (.ifCond .eq 6, 3) := by decide +kernel
theorem dX11_guest_47 : decode cX11_guest 47 = .ok (.bipush (-3), 2) := by decide +kernel
theorem dX11_guest_49 : decode cX11_guest 49 = .ok (.ireturn, 1) := by decide +kernel
theorem dX11_guest_50 : decode cX11_guest 50 = .ok (.aload 4, 2) := by decide +kernel
theorem dX11_guest_52 : decode cX11_guest 52 = .ok (.iload_n 1, 1) := by decide +kernel
theorem dX11_guest_53 : decode cX11_guest 53 = .ok (.iload_n 2, 1) := by decide +kernel
theorem dX11_guest_54 : decode cX11_guest 54 = .ok (.iload_n 3, 1) := by decide +kernel
theorem dX11_guest_55 : decode cX11_guest 55 = .ok (.invokevirtual 143, 3) := by decide +kernel
theorem dX11_guest_58 : decode cX11_guest 58 = .ok (.iconst 1, 1) := by decide +kernel
theorem dX11_guest_59 : decode cX11_guest 59 = .ok (.ireturn, 1) := by decide +kernel
theorem dX11_seatTold_0 : decode cX11_seatTold 0 = .ok (.aload_n 0, 1) := by decide +kernel
theorem dX11_seatTold_1 : decode cX11_seatTold 1 = .ok (.getfield 55, 3) := by decide +kernel
theorem dX11_seatTold_4 : decode cX11_seatTold 4 = .ok (.getfield 123, 3) := by decide +kernel
theorem dX11_seatTold_7 : decode cX11_seatTold 7 = .ok (.astore_n 3, 1) := by decide +kernel
theorem dX11_seatTold_8 : decode cX11_seatTold 8 = .ok (.aload_n 3, 1) := by decide +kernel
theorem dX11_seatTold_9 : decode cX11_seatTold 9 = .ok (.iload_n 1, 1) := by decide +kernel
theorem dX11_seatTold_10 : decode cX11_seatTold 10 = .ok (.invokevirtual 135, 3) := by decide +kernel
theorem dX11_seatTold_13 : decode cX11_seatTold 13 = .ok (.ifCond .ne 6, 3) := by decide +kernel
theorem dX11_seatTold_16 : decode cX11_seatTold 16 = .ok (.bipush (-2), 2) := by decide +kernel
theorem dX11_seatTold_18 : decode cX11_seatTold 18 = .ok (.ireturn, 1) := by decide +kernel
theorem dX11_seatTold_19 : decode cX11_seatTold 19 = .ok (.iload_n 2, 1) := by decide +kernel
theorem dX11_seatTold_20 : decode cX11_seatTold 20 = .ok (.tableswitch 90 0 7 #[48, 90, 90, 90, 90, 55, 67, 83], 48) := by decide +kernel
theorem dX11_seatTold_68 : decode cX11_seatTold 68 = .ok (.aload_n 3, 1) := by decide +kernel
theorem dX11_seatTold_69 : decode cX11_seatTold 69 = .ok (.getfield 146, 3) := by decide +kernel
theorem dX11_seatTold_72 : decode cX11_seatTold 72 = .ok (.iload_n 1, 1) := by decide +kernel
theorem dX11_seatTold_73 : decode cX11_seatTold 73 = .ok (.iaload, 1) := by decide +kernel
theorem dX11_seatTold_74 : decode cX11_seatTold 74 = .ok (.ireturn, 1) := by decide +kernel
theorem dX11_seatTold_75 : decode cX11_seatTold 75 = .ok (.aload_n 0, 1) := by decide +kernel
theorem dX11_seatTold_76 : decode cX11_seatTold 76 = .ok (.getfield 55, 3) := by decide +kernel
theorem dX11_seatTold_79 : decode cX11_seatTold 79 = .ok (.getfield 91, 3) := by decide +kernel
theorem dX11_seatTold_82 : decode cX11_seatTold 82 = .ok (.iload_n 1, 1) := by decide +kernel
theorem dX11_seatTold_83 : decode cX11_seatTold 83 = .ok (.invokevirtual 149, 3) := by decide +kernel
theorem dX11_seatTold_86 : decode cX11_seatTold 86 = .ok (.ireturn, 1) := by decide +kernel
theorem dX11_seatTold_87 : decode cX11_seatTold 87 = .ok (.aload_n 0, 1) := by decide +kernel
theorem dX11_seatTold_88 : decode cX11_seatTold 88 = .ok (.getfield 55, 3) := by decide +kernel
theorem dX11_seatTold_91 : decode cX11_seatTold 91 = .ok (.getfield 91, 3) := by decide +kernel
theorem dX11_seatTold_94 : decode cX11_seatTold 94 = .ok (.iload_n 1, 1) := by decide +kernel
theorem dX11_seatTold_95 : decode cX11_seatTold 95 = .ok (.aload_n 0, 1) := by decide +kernel
theorem dX11_seatTold_96 : decode cX11_seatTold 96 = .ok (.getfield 10, 3) := by decide +kernel
theorem dX11_seatTold_99 : decode cX11_seatTold 99 = .ok (.invokevirtual 152, 3) := by decide +kernel
theorem dX11_seatTold_102 : decode cX11_seatTold 102 = .ok (.ireturn, 1) := by decide +kernel
theorem dX11_seatTold_103 : decode cX11_seatTold 103 = .ok (.aload_n 3, 1) := by decide +kernel
theorem dX11_seatTold_104 : decode cX11_seatTold 104 = .ok (.getfield 156, 3) := by decide +kernel
theorem dX11_seatTold_107 : decode cX11_seatTold 107 = .ok (.iload_n 1, 1) := by decide +kernel
theorem dX11_seatTold_108 : decode cX11_seatTold 108 = .ok (.iaload, 1) := by decide +kernel
theorem dX11_seatTold_109 : decode cX11_seatTold 109 = .ok (.ireturn, 1) := by decide +kernel
theorem dX11_seatTold_110 : decode cX11_seatTold 110 = .ok (.aload_n 0, 1) := by decide +kernel
theorem dX11_seatTold_111 : decode cX11_seatTold 111 = .ok (.iload_n 1, 1) := by decide +kernel
theorem dX11_seatTold_112 : decode cX11_seatTold 112 = .ok (.iload_n 2, 1) := by decide +kernel
theorem dX11_seatTold_113 : decode cX11_seatTold 113 = .ok (.invokevirtual 159, 3) := by decide +kernel
theorem dX11_seatTold_116 : decode cX11_seatTold 116 = .ok (.ireturn, 1) := by decide +kernel
theorem dX11_guestTold_0 : decode cX11_guestTold 0 = .ok (.iload_n 2, 1) := by decide +kernel
theorem dX11_guestTold_1 : decode cX11_guestTold 1 = .ok (.iconst 1, 1) := by decide +kernel
theorem dX11_guestTold_2 : decode cX11_guestTold 2 = .ok (.iconst 4, 1) := by decide +kernel
theorem dX11_guestTold_3 : decode cX11_guestTold 3 = .ok (.invokestatic 73, 3) := by decide +kernel
theorem dX11_guestTold_6 : decode cX11_guestTold 6 = .ok (.ifCond .ne 6, 3) := by decide +kernel
theorem dX11_guestTold_9 : decode cX11_guestTold 9 = .ok (.bipush (-2), 2) := by decide +kernel
theorem dX11_guestTold_11 : decode cX11_guestTold 11 = .ok (.ireturn, 1) := by decide +kernel
theorem dX11_guestTold_12 : decode cX11_guestTold 12 = .ok (.aload_n 0, 1) := by decide +kernel
theorem dX11_guestTold_13 : decode cX11_guestTold 13 = .ok (.getfield 55, 3) := by decide +kernel
theorem dX11_guestTold_16 : decode cX11_guestTold 16 = .ok (.getfield 123, 3) := by decide +kernel
theorem dX11_guestTold_19 : decode cX11_guestTold 19 = .ok (.astore_n 3, 1) := by decide +kernel
theorem dX11_guestTold_20 : decode cX11_guestTold 20 = .ok (.aload_n 3, 1) := by decide +kernel
theorem dX11_guestTold_21 : decode cX11_guestTold 21 = .ok (.iload_n 1, 1) := by decide +kernel
theorem dX11_guestTold_22 : decode cX11_guestTold 22 = .ok (.invokevirtual 140, 3) := by decide +kernel
theorem dX11_guestTold_25 : decode cX11_guestTold 25 = .ok (.ifCond .ne 5, 3) := by decide +kernel
theorem dX11_guestTold_28 : decode cX11_guestTold 28 = .ok (.iconst (-1), 1) := by decide +kernel
theorem dX11_guestTold_29 : decode cX11_guestTold 29 = .ok (.ireturn, 1) := by decide +kernel
theorem dX11_guestTold_30 : decode cX11_guestTold 30 = .ok (.iload_n 2, 1) := by decide +kernel
theorem dX11_guestTold_31 : decode cX11_guestTold 31 = .ok (.tableswitch 46 1 3 #[25, 32, 39], 25) := by decide +kernel
theorem dX11_guestTold_56 : decode cX11_guestTold 56 = .ok (.aload_n 3, 1) := by decide +kernel
theorem dX11_guestTold_57 : decode cX11_guestTold 57 = .ok (.getfield 162, 3) := by decide +kernel
theorem dX11_guestTold_60 : decode cX11_guestTold 60 = .ok (.iload_n 1, 1) := by decide +kernel
theorem dX11_guestTold_61 : decode cX11_guestTold 61 = .ok (.iaload, 1) := by decide +kernel
theorem dX11_guestTold_62 : decode cX11_guestTold 62 = .ok (.ireturn, 1) := by decide +kernel
theorem dX11_guestTold_63 : decode cX11_guestTold 63 = .ok (.aload_n 3, 1) := by decide +kernel
theorem dX11_guestTold_64 : decode cX11_guestTold 64 = .ok (.getfield 165, 3) := by decide +kernel
theorem dX11_guestTold_67 : decode cX11_guestTold 67 = .ok (.iload_n 1, 1) := by decide +kernel
theorem dX11_guestTold_68 : decode cX11_guestTold 68 = .ok (.iaload, 1) := by decide +kernel
