theorem dX0_init_0 : decode cX0_init 0 = .ok (.aload_n 0, 1) := by decide +kernel
theorem dX0_init_1 : decode cX0_init 1 = .ok (.invokespecial 1, 3) := by decide +kernel
theorem dX0_init_4 : decode cX0_init 4 = .ok (.aload_n 0, 1) := by decide +kernel
theorem dX0_init_5 : decode cX0_init 5 = .ok (.bipush 7, 2) := by decide +kernel
theorem dX0_init_7 : decode cX0_init 7 = .ok (.newarray .int, 2) := by decide +kernel
theorem dX0_init_9 : decode cX0_init 9 = .ok (.putfield 9, 3) := by decide +kernel
theorem dX0_init_12 : decode cX0_init 12 = .ok (.aload_n 0, 1) := by decide +kernel
theorem dX0_init_13 : decode cX0_init 13 = .ok (.bipush 31, 2) := by decide +kernel
theorem dX0_init_15 : decode cX0_init 15 = .ok (.newarray .int, 2) := by decide +kernel
theorem dX0_init_17 : decode cX0_init 17 = .ok (.putfield 13, 3) := by decide +kernel
theorem dX0_init_20 : decode cX0_init 20 = .ok (.aload_n 0, 1) := by decide +kernel
theorem dX0_init_21 : decode cX0_init 21 = .ok (.bipush 30, 2) := by decide +kernel
theorem dX0_init_23 : decode cX0_init 23 = .ok (.newarray .int, 2) := by decide +kernel
theorem dX0_init_25 : decode cX0_init 25 = .ok (.putfield 16, 3) := by decide +kernel
theorem dX0_init_28 : decode cX0_init 28 = .ok (.aload_n 0, 1) := by decide +kernel
theorem dX0_init_29 : decode cX0_init 29 = .ok (.iconst 0, 1) := by decide +kernel
theorem dX0_init_30 : decode cX0_init 30 = .ok (.putfield 19, 3) := by decide +kernel
theorem dX0_init_33 : decode cX0_init 33 = .ok (.aload_n 0, 1) := by decide +kernel
theorem dX0_init_34 : decode cX0_init 34 = .ok (.iconst 0, 1) := by decide +kernel
theorem dX0_init_35 : decode cX0_init 35 = .ok (.putfield 23, 3) := by decide +kernel
theorem dX0_init_38 : decode cX0_init 38 = .ok (.return_, 1) := by decide +kernel
theorem dX0_plan_0 : decode cX0_plan 0 = .ok (.iconst 1, 1) := by decide +kernel
theorem dX0_plan_1 : decode cX0_plan 1 = .ok (.istore_n 2, 1) := by decide +kernel
theorem dX0_plan_2 : decode cX0_plan 2 = .ok (.iload_n 2, 1) := by decide +kernel
theorem dX0_plan_3 : decode cX0_plan 3 = .ok (.bipush 30, 2) := by decide +kernel
theorem dX0_plan_5 : decode cX0_plan 5 = .ok (.if_icmp .gt 27, 3) := by decide +kernel
theorem dX0_plan_8 : decode cX0_plan 8 = .ok (.aload_n 0, 1) := by decide +kernel
theorem dX0_plan_9 : decode cX0_plan 9 = .ok (.getfield 13, 3) := by decide +kernel
theorem dX0_plan_12 : decode cX0_plan 12 = .ok (.iload_n 2, 1) := by decide +kernel
theorem dX0_plan_13 : decode cX0_plan 13 = .ok (.aload_n 0, 1) := by decide +kernel
theorem dX0_plan_14 : decode cX0_plan 14 = .ok (.aload_n 0, 1) := by decide +kernel
theorem dX0_plan_15 : decode cX0_plan 15 = .ok (.iload_n 2, 1) := by decide +kernel
theorem dX0_plan_16 : decode cX0_plan 16 = .ok (.iconst 0, 1) := by decide +kernel
theorem dX0_plan_17 : decode cX0_plan 17 = .ok (.invokevirtual 26, 3) := by decide +kernel
theorem dX0_plan_20 : decode cX0_plan 20 = .ok (.iload_n 2, 1) := by decide +kernel
theorem dX0_plan_21 : decode cX0_plan 21 = .ok (.iconst 0, 1) := by decide +kernel
theorem dX0_plan_22 : decode cX0_plan 22 = .ok (.invokevirtual 30, 3) := by decide +kernel
theorem dX0_plan_25 : decode cX0_plan 25 = .ok (.iastore, 1) := by decide +kernel
theorem dX0_plan_26 : decode cX0_plan 26 = .ok (.iinc 2 1, 3) := by decide +kernel
theorem dX0_plan_29 : decode cX0_plan 29 = .ok (.goto (-27), 3) := by decide +kernel
theorem dX0_plan_32 : decode cX0_plan 32 = .ok (.aload_n 0, 1) := by decide +kernel
theorem dX0_plan_33 : decode cX0_plan 33 = .ok (.iconst 0, 1) := by decide +kernel
theorem dX0_plan_34 : decode cX0_plan 34 = .ok (.putfield 19, 3) := by decide +kernel
theorem dX0_plan_37 : decode cX0_plan 37 = .ok (.iload_n 1, 1) := by decide +kernel
theorem dX0_plan_38 : decode cX0_plan 38 = .ok (.bipush 30, 2) := by decide +kernel
theorem dX0_plan_40 : decode cX0_plan 40 = .ok (.invokestatic 34, 3) := by decide +kernel
theorem dX0_plan_43 : decode cX0_plan 43 = .ok (.istore_n 2, 1) := by decide +kernel
theorem dX0_plan_44 : decode cX0_plan 44 = .ok (.aload_n 0, 1) := by decide +kernel
theorem dX0_plan_45 : decode cX0_plan 45 = .ok (.aload_n 0, 1) := by decide +kernel
theorem dX0_plan_46 : decode cX0_plan 46 = .ok (.aload_n 0, 1) := by decide +kernel
theorem dX0_plan_47 : decode cX0_plan 47 = .ok (.iload_n 2, 1) := by decide +kernel
theorem dX0_plan_48 : decode cX0_plan 48 = .ok (.iconst 1, 1) := by decide +kernel
theorem dX0_plan_49 : decode cX0_plan 49 = .ok (.invokevirtual 26, 3) := by decide +kernel
theorem dX0_plan_52 : decode cX0_plan 52 = .ok (.iload_n 2, 1) := by decide +kernel
theorem dX0_plan_53 : decode cX0_plan 53 = .ok (.iconst 1, 1) := by decide +kernel
theorem dX0_plan_54 : decode cX0_plan 54 = .ok (.invokevirtual 30, 3) := by decide +kernel
theorem dX0_plan_57 : decode cX0_plan 57 = .ok (.putfield 23, 3) := by decide +kernel
theorem dX0_plan_60 : decode cX0_plan 60 = .ok (.iconst 0, 1) := by decide +kernel
theorem dX0_plan_61 : decode cX0_plan 61 = .ok (.istore_n 3, 1) := by decide +kernel
theorem dX0_plan_62 : decode cX0_plan 62 = .ok (.iload_n 3, 1) := by decide +kernel
theorem dX0_plan_63 : decode cX0_plan 63 = .ok (.bipush 30, 2) := by decide +kernel
theorem dX0_plan_65 : decode cX0_plan 65 = .ok (.if_icmp .ge 52, 3) := by decide +kernel
theorem dX0_plan_68 : decode cX0_plan 68 = .ok (.iload_n 2, 1) := by decide +kernel
theorem dX0_plan_69 : decode cX0_plan 69 = .ok (.ifCond .le 48, 3) := by decide +kernel
theorem dX0_plan_72 : decode cX0_plan 72 = .ok (.aload_n 0, 1) := by decide +kernel
theorem dX0_plan_73 : decode cX0_plan 73 = .ok (.getfield 16, 3) := by decide +kernel
theorem dX0_plan_76 : decode cX0_plan 76 = .ok (.iload_n 3, 1) := by decide +kernel
theorem dX0_plan_77 : decode cX0_plan 77 = .ok (.aload_n 0, 1) := by decide +kernel
theorem dX0_plan_78 : decode cX0_plan 78 = .ok (.iload_n 2, 1) := by decide +kernel
theorem dX0_plan_79 : decode cX0_plan 79 = .ok (.iload_n 3, 1) := by decide +kernel
theorem dX0_plan_80 : decode cX0_plan 80 = .ok (.ifCond .ne 7, 3) := by decide +kernel
theorem dX0_plan_83 : decode cX0_plan 83 = .ok (.iconst 1, 1) := by decide +kernel
theorem dX0_plan_84 : decode cX0_plan 84 = .ok (.goto 4, 3) := by decide +kernel
theorem dX0_plan_87 : decode cX0_plan 87 = .ok (.iconst 0, 1) := by decide +kernel
theorem dX0_plan_88 : decode cX0_plan 88 = .ok (.invokevirtual 26, 3) := by decide +kernel
theorem dX0_plan_91 : decode cX0_plan 91 = .ok (.iastore, 1) := by decide +kernel
theorem dX0_plan_92 : decode cX0_plan 92 = .ok (.iload_n 2, 1) := by decide +kernel
theorem dX0_plan_93 : decode cX0_plan 93 = .ok (.aload_n 0, 1) := by decide +kernel
theorem dX0_plan_94 : decode cX0_plan 94 = .ok (.getfield 16, 3) := by decide +kernel
theorem dX0_plan_97 : decode cX0_plan 97 = .ok (.iload_n 3, 1) := by decide +kernel
theorem dX0_plan_98 : decode cX0_plan 98 = .ok (.iaload, 1) := by decide +kernel
theorem dX0_plan_99 : decode cX0_plan 99 = .ok (.isub, 1) := by decide +kernel
theorem dX0_plan_100 : decode cX0_plan 100 = .ok (.istore_n 2, 1) := by decide +kernel
theorem dX0_plan_101 : decode cX0_plan 101 = .ok (.aload_n 0, 1) := by decide +kernel
theorem dX0_plan_102 : decode cX0_plan 102 = .ok (.dup, 1) := by decide +kernel
theorem dX0_plan_103 : decode cX0_plan 103 = .ok (.getfield 19, 3) := by decide +kernel
theorem dX0_plan_106 : decode cX0_plan 106 = .ok (.iconst 1, 1) := by decide +kernel
theorem dX0_plan_107 : decode cX0_plan 107 = .ok (.iadd, 1) := by decide +kernel
theorem dX0_plan_108 : decode cX0_plan 108 = .ok (.putfield 19, 3) := by decide +kernel
theorem dX0_plan_111 : decode cX0_plan 111 = .ok (.iinc 3 1, 3) := by decide +kernel
theorem dX0_plan_114 : decode cX0_plan 114 = .ok (.goto (-52), 3) := by decide +kernel
theorem dX0_plan_117 : decode cX0_plan 117 = .ok (.return_, 1) := by decide +kernel
theorem dX0_bestPiece_0 : decode cX0_bestPiece 0 = .ok (.iconst 1, 1) := by decide +kernel
theorem dX0_bestPiece_1 : decode cX0_bestPiece 1 = .ok (.istore_n 3, 1) := by decide +kernel
theorem dX0_bestPiece_2 : decode cX0_bestPiece 2 = .ok (.iconst 2, 1) := by decide +kernel
theorem dX0_bestPiece_3 : decode cX0_bestPiece 3 = .ok (.istore 4, 2) := by decide +kernel
theorem dX0_bestPiece_5 : decode cX0_bestPiece 5 = .ok (.iload 4, 2) := by decide +kernel
theorem dX0_bestPiece_7 : decode cX0_bestPiece 7 = .ok (.bipush 6, 2) := by decide +kernel
theorem dX0_bestPiece_9 : decode cX0_bestPiece 9 = .ok (.if_icmp .gt 36, 3) := by decide +kernel
theorem dX0_bestPiece_12 : decode cX0_bestPiece 12 = .ok (.iload 4, 2) := by decide +kernel
theorem dX0_bestPiece_14 : decode cX0_bestPiece 14 = .ok (.iload_n 1, 1) := by decide +kernel
theorem dX0_bestPiece_15 : decode cX0_bestPiece 15 = .ok (.if_icmp .gt 30, 3) := by decide +kernel
theorem dX0_bestPiece_18 : decode cX0_bestPiece 18 = .ok (.aload_n 0, 1) := by decide +kernel
theorem dX0_bestPiece_19 : decode cX0_bestPiece 19 = .ok (.iload 4, 2) := by decide +kernel
theorem dX0_bestPiece_21 : decode cX0_bestPiece 21 = .ok (.iload_n 1, 1) := by decide +kernel
theorem dX0_bestPiece_22 : decode cX0_bestPiece 22 = .ok (.iload_n 2, 1) := by decide +kernel
theorem dX0_bestPiece_23 : decode cX0_bestPiece 23 = .ok (.invokevirtual 30, 3) := by decide +kernel
theorem dX0_bestPiece_26 : decode cX0_bestPiece 26 = .ok (.aload_n 0, 1) := by decide +kernel
theorem dX0_bestPiece_27 : decode cX0_bestPiece 27 = .ok (.iload_n 3, 1) := by decide +kernel
theorem dX0_bestPiece_28 : decode cX0_bestPiece 28 = .ok (.iload_n 1, 1) := by decide +kernel
theorem dX0_bestPiece_29 : decode cX0_bestPiece 29 = .ok (.iload_n 2, 1) := by decide +kernel
theorem dX0_bestPiece_30 : decode cX0_bestPiece 30 = .ok (.invokevirtual 30, 3) := by decide +kernel
theorem dX0_bestPiece_33 : decode cX0_bestPiece 33 = .ok (.if_icmp .le 6, 3) := by decide +kernel
theorem dX0_bestPiece_36 : decode cX0_bestPiece 36 = .ok (.iload 4, 2) := by decide +kernel
theorem dX0_bestPiece_38 : decode cX0_bestPiece 38 = .ok (.istore_n 3, 1) := by decide +kernel
theorem dX0_bestPiece_39 : decode cX0_bestPiece 39 = .ok (.iinc 4 1, 3) := by decide +kernel
theorem dX0_bestPiece_42 : decode cX0_bestPiece 42 = .ok (.goto (-37), 3) := by decide +kernel
theorem dX0_bestPiece_45 : decode cX0_bestPiece 45 = .ok (.iload_n 3, 1) := by decide +kernel
theorem dX0_bestPiece_46 : decode cX0_bestPiece 46 = .ok (.ireturn, 1) := by decide +kernel
theorem dX0_bringsWith_0 : decode cX0_bringsWith 0 = .ok (.iload_n 1, 1) := by decide +kernel
theorem dX0_bringsWith_1 : decode cX0_bringsWith 1 = .ok (.iconst 1, 1) := by decide +kernel
theorem dX0_bringsWith_2 : decode cX0_bringsWith 2 = .ok (.bipush 6, 2) := by decide +kernel
theorem dX0_bringsWith_4 : decode cX0_bringsWith 4 = .ok (.invokestatic 40, 3) := by decide +kernel
theorem dX0_bringsWith_7 : decode cX0_bringsWith 7 = .ok (.ifCond .eq 13, 3) := by decide +kernel
theorem dX0_bringsWith_10 : decode cX0_bringsWith 10 = .ok (.iload_n 2, 1) := by decide +kernel
theorem dX0_bringsWith_11 : decode cX0_bringsWith 11 = .ok (.iload_n 1, 1) := by decide +kernel
theorem dX0_bringsWith_12 : decode cX0_bringsWith 12 = .ok (.bipush 30, 2) := by decide +kernel
theorem dX0_bringsWith_14 : decode cX0_bringsWith 14 = .ok (.invokestatic 40, 3) := by decide +kernel
theorem dX0_bringsWith_17 : decode cX0_bringsWith 17 = .ok (.ifCond .ne 5, 3) := by decide +kernel
theorem dX0_bringsWith_20 : decode cX0_bringsWith 20 = .ok (.iconst 0, 1) := by decide +kernel
theorem dX0_bringsWith_21 : decode cX0_bringsWith 21 = .ok (.ireturn, 1) := by decide +kernel
theorem dX0_bringsWith_22 : decode cX0_bringsWith 22 = .ok (.iload_n 3, 1) := by decide +kernel
theorem dX0_bringsWith_23 : decode cX0_bringsWith 23 = .ok (.ifCond .ne 8, 3) := by decide +kernel
theorem dX0_bringsWith_26 : decode cX0_bringsWith 26 = .ok (.iload_n 1, 1) := by decide +kernel
theorem dX0_bringsWith_27 : decode cX0_bringsWith 27 = .ok (.iload_n 2, 1) := by decide +kernel
theorem dX0_bringsWith_28 : decode cX0_bringsWith 28 = .ok (.if_icmp .ne 7, 3) := by decide +kernel
theorem dX0_bringsWith_31 : decode cX0_bringsWith 31 = .ok (.iconst 1, 1) := by decide +kernel
theorem dX0_bringsWith_32 : decode cX0_bringsWith 32 = .ok (.goto 4, 3) := by decide +kernel
theorem dX0_bringsWith_35 : decode cX0_bringsWith 35 = .ok (.iconst 0, 1) := by decide +kernel
theorem dX0_bringsWith_36 : decode cX0_bringsWith 36 = .ok (.istore 4, 2) := by decide +kernel
theorem dX0_bringsWith_38 : decode cX0_bringsWith 38 = .ok (.iload 4, 2) := by decide +kernel
theorem dX0_bringsWith_40 : decode cX0_bringsWith 40 = .ok (.ifCond .eq 14, 3) := by decide +kernel
theorem dX0_bringsWith_43 : decode cX0_bringsWith 43 = .ok (.aload_n 0, 1) := by decide +kernel
theorem dX0_bringsWith_44 : decode cX0_bringsWith 44 = .ok (.getfield 9, 3) := by decide +kernel
theorem dX0_bringsWith_47 : decode cX0_bringsWith 47 = .ok (.iload_n 1, 1) := by decide +kernel
theorem dX0_bringsWith_48 : decode cX0_bringsWith 48 = .ok (.iaload, 1) := by decide +kernel
theorem dX0_bringsWith_49 : decode cX0_bringsWith 49 = .ok (.iconst 2, 1) := by decide +kernel
theorem dX0_bringsWith_50 : decode cX0_bringsWith 50 = .ok (.idiv, 1) := by decide +kernel
theorem dX0_bringsWith_51 : decode cX0_bringsWith 51 = .ok (.goto 9, 3) := by decide +kernel
theorem dX0_bringsWith_54 : decode cX0_bringsWith 54 = .ok (.aload_n 0, 1) := by decide +kernel
theorem dX0_bringsWith_55 : decode cX0_bringsWith 55 = .ok (.getfield 9, 3) := by decide +kernel
theorem dX0_bringsWith_58 : decode cX0_bringsWith 58 = .ok (.iload_n 1, 1) := by decide +kernel
theorem dX0_bringsWith_59 : decode cX0_bringsWith 59 = .ok (.iaload, 1) := by decide +kernel
theorem dX0_bringsWith_60 : decode cX0_bringsWith 60 = .ok (.aload_n 0, 1) := by decide +kernel
theorem dX0_bringsWith_61 : decode cX0_bringsWith 61 = .ok (.getfield 13, 3) := by decide +kernel
theorem dX0_bringsWith_64 : decode cX0_bringsWith 64 = .ok (.iload_n 2, 1) := by decide +kernel
theorem dX0_bringsWith_65 : decode cX0_bringsWith 65 = .ok (.iload_n 1, 1) := by decide +kernel
theorem dX0_bringsWith_66 : decode cX0_bringsWith 66 = .ok (.isub, 1) := by decide +kernel
theorem dX0_bringsWith_67 : decode cX0_bringsWith 67 = .ok (.iaload, 1) := by decide +kernel
theorem dX0_bringsWith_68 : decode cX0_bringsWith 68 = .ok (.iadd, 1) := by decide +kernel
theorem dX0_bringsWith_69 : decode cX0_bringsWith 69 = .ok (.ireturn, 1) := by decide +kernel
theorem dX1_init_0 : decode cX1_init 0 = .ok (.aload_n 0, 1) := by decide +kernel
theorem dX1_init_1 : decode cX1_init 1 = .ok (.invokespecial 3, 3) := by decide +kernel
theorem dX1_init_4 : decode cX1_init 4 = .ok (.aload_n 0, 1) := by decide +kernel
theorem dX1_init_5 : decode cX1_init 5 = .ok (.iconst 3, 1) := by decide +kernel
theorem dX1_init_6 : decode cX1_init 6 = .ok (.anewarray 11, 3) := by decide +kernel
theorem dX1_init_9 : decode cX1_init 9 = .ok (.putfield 13, 3) := by decide +kernel
theorem dX1_init_12 : decode cX1_init 12 = .ok (.aload_n 0, 1) := by decide +kernel
theorem dX1_init_13 : decode cX1_init 13 = .ok (.iconst 3, 1) := by decide +kernel
theorem dX1_init_14 : decode cX1_init 14 = .ok (.newarray .int, 2) := by decide +kernel
theorem dX1_init_16 : decode cX1_init 16 = .ok (.putfield 17, 3) := by decide +kernel
theorem dX1_init_19 : decode cX1_init 19 = .ok (.aload_n 0, 1) := by decide +kernel
theorem dX1_init_20 : decode cX1_init 20 = .ok (.iconst 3, 1) := by decide +kernel
theorem dX1_init_21 : decode cX1_init 21 = .ok (.newarray .int, 2) := by decide +kernel
theorem dX1_init_23 : decode cX1_init 23 = .ok (.putfield 21, 3) := by decide +kernel
theorem dX1_init_26 : decode cX1_init 26 = .ok (.aload_n 0, 1) := by decide +kernel
theorem dX1_init_27 : decode cX1_init 27 = .ok (.ldc2_w 24, 3) := by decide +kernel
theorem dX1_init_30 : decode cX1_init 30 = .ok (.putfield 26, 3) := by decide +kernel
theorem dX1_init_33 : decode cX1_init 33 = .ok (.iconst 0, 1) := by decide +kernel
theorem dX1_init_34 : decode cX1_init 34 = .ok (.istore 4, 2) := by decide +kernel
theorem dX1_init_36 : decode cX1_init 36 = .ok (.iload 4, 2) := by decide +kernel
theorem dX1_init_38 : decode cX1_init 38 = .ok (.iconst 3, 1) := by decide +kernel
theorem dX1_init_39 : decode cX1_init 39 = .ok (.if_icmp .ge 26, 3) := by decide +kernel
theorem dX1_init_42 : decode cX1_init 42 = .ok (.aload_n 0, 1) := by decide +kernel
theorem dX1_init_43 : decode cX1_init 43 = .ok (.getfield 13, 3) := by decide +kernel
theorem dX1_init_46 : decode cX1_init 46 = .ok (.iload 4, 2) := by decide +kernel
theorem dX1_init_48 : decode cX1_init 48 = .ok (.new 11, 3) := by decide +kernel
theorem dX1_init_51 : decode cX1_init 51 = .ok (.dup, 1) := by decide +kernel
theorem dX1_init_52 : decode cX1_init 52 = .ok (.iload_n 1, 1) := by decide +kernel
theorem dX1_init_53 : decode cX1_init 53 = .ok (.aload_n 2, 1) := by decide +kernel
theorem dX1_init_54 : decode cX1_init 54 = .ok (.aload_n 3, 1) := by decide +kernel
theorem dX1_init_55 : decode cX1_init 55 = .ok (.invokespecial 30, 3) := by decide +kernel
theorem dX1_init_58 : decode cX1_init 58 = .ok (.aastore, 1) := by decide +kernel
theorem dX1_init_59 : decode cX1_init 59 = .ok (.iinc 4 1, 3) := by decide +kernel
theorem dX1_init_62 : decode cX1_init 62 = .ok (.goto (-26), 3) := by decide +kernel
theorem dX1_init_65 : decode cX1_init 65 = .ok (.return_, 1) := by decide +kernel
theorem dX1_canLook_0 : decode cX1_canLook 0 = .ok (.iload_n 0, 1) := by decide +kernel
theorem dX1_canLook_1 : decode cX1_canLook 1 = .ok (.iconst 1, 1) := by decide +kernel
theorem dX1_canLook_2 : decode cX1_canLook 2 = .ok (.iconst 3, 1) := by decide +kernel
theorem dX1_canLook_3 : decode cX1_canLook 3 = .ok (.invokestatic 33, 3) := by decide +kernel
theorem dX1_canLook_6 : decode cX1_canLook 6 = .ok (.ifCond .eq 17, 3) := by decide +kernel
theorem dX1_canLook_9 : decode cX1_canLook 9 = .ok (.iload_n 1, 1) := by decide +kernel
theorem dX1_canLook_10 : decode cX1_canLook 10 = .ok (.iconst 0, 1) := by decide +kernel
theorem dX1_canLook_11 : decode cX1_canLook 11 = .ok (.bipush 24, 2) := by decide +kernel
theorem dX1_canLook_13 : decode cX1_canLook 13 = .ok (.invokestatic 33, 3) := by decide +kernel
theorem dX1_canLook_16 : decode cX1_canLook 16 = .ok (.ifCond .eq 7, 3) := by decide +kernel
theorem dX1_canLook_19 : decode cX1_canLook 19 = .ok (.iconst 1, 1) := by decide +kernel
theorem dX1_canLook_20 : decode cX1_canLook 20 = .ok (.goto 4, 3) := by decide +kernel
theorem dX1_canLook_23 : decode cX1_canLook 23 = .ok (.iconst 0, 1) := by decide +kernel
theorem dX1_canLook_24 : decode cX1_canLook 24 = .ok (.ireturn, 1) := by decide +kernel
theorem dX1_look_0 : decode cX1_look 0 = .ok (.aload_n 0, 1) := by decide +kernel
theorem dX1_look_1 : decode cX1_look 1 = .ok (.ldc2_w 24, 3) := by decide +kernel
theorem dX1_look_4 : decode cX1_look 4 = .ok (.putfield 26, 3) := by decide +kernel
theorem dX1_look_7 : decode cX1_look 7 = .ok (.aload_n 1, 1) := by decide +kernel
theorem dX1_look_8 : decode cX1_look 8 = .ok (.lconst 0, 1) := by decide +kernel
theorem dX1_look_9 : decode cX1_look 9 = .ok (.putfield 37, 3) := by decide +kernel
theorem dX1_look_12 : decode cX1_look 12 = .ok (.aload_n 0, 1) := by decide +kernel
theorem dX1_look_13 : decode cX1_look 13 = .ok (.aload_n 1, 1) := by decide +kernel
theorem dX1_look_14 : decode cX1_look 14 = .ok (.iconst 0, 1) := by decide +kernel
theorem dX1_look_15 : decode cX1_look 15 = .ok (.iload_n 2, 1) := by decide +kernel
theorem dX1_look_16 : decode cX1_look 16 = .ok (.iload_n 3, 1) := by decide +kernel
theorem dX1_look_17 : decode cX1_look 17 = .ok (.invokestatic 40, 3) := by decide +kernel
theorem dX1_look_20 : decode cX1_look 20 = .ok (.return_, 1) := by decide +kernel
theorem dX1_tryChoices_0 : decode cX1_tryChoices 0 = .ok (.iload_n 2, 1) := by decide +kernel
theorem dX1_tryChoices_1 : decode cX1_tryChoices 1 = .ok (.ifCond .lt 13, 3) := by decide +kernel
theorem dX1_tryChoices_4 : decode cX1_tryChoices 4 = .ok (.iload_n 2, 1) := by decide +kernel
theorem dX1_tryChoices_5 : decode cX1_tryChoices 5 = .ok (.iload_n 3, 1) := by decide +kernel
theorem dX1_tryChoices_6 : decode cX1_tryChoices 6 = .ok (.if_icmp .ge 8, 3) := by decide +kernel
theorem dX1_tryChoices_9 : decode cX1_tryChoices 9 = .ok (.iload_n 2, 1) := by decide +kernel
theorem dX1_tryChoices_10 : decode cX1_tryChoices 10 = .ok (.iconst 3, 1) := by decide +kernel
theorem dX1_tryChoices_11 : decode cX1_tryChoices 11 = .ok (.if_icmp .lt 4, 3) := by decide +kernel
theorem dX1_tryChoices_14 : decode cX1_tryChoices 14 = .ok (.return_, 1) := by decide +kernel
theorem dX1_tryChoices_15 : decode cX1_tryChoices 15 = .ok (.aload_n 0, 1) := by decide +kernel
theorem dX1_tryChoices_16 : decode cX1_tryChoices 16 = .ok (.getfield 13, 3) := by decide +kernel
theorem dX1_tryChoices_19 : decode cX1_tryChoices 19 = .ok (.iload_n 2, 1) := by decide +kernel
theorem dX1_tryChoices_20 : decode cX1_tryChoices 20 = .ok (.aaload, 1) := by decide +kernel
theorem dX1_tryChoices_21 : decode cX1_tryChoices 21 = .ok (.astore 5, 2) := by decide +kernel
theorem dX1_tryChoices_23 : decode cX1_tryChoices 23 = .ok (.aload 5, 2) := by decide +kernel
theorem dX1_tryChoices_25 : decode cX1_tryChoices 25 = .ok (.ifnonnull 4, 3) := by decide +kernel
theorem dX1_tryChoices_28 : decode cX1_tryChoices 28 = .ok (.return_, 1) := by decide +kernel
theorem dX1_tryChoices_29 : decode cX1_tryChoices 29 = .ok (.aload_n 1, 1) := by decide +kernel
theorem dX1_tryChoices_30 : decode cX1_tryChoices 30 = .ok (.getfield 44, 3) := by decide +kernel
theorem dX1_tryChoices_33 : decode cX1_tryChoices 33 = .ok (.iconst 0, 1) := by decide +kernel
theorem dX1_tryChoices_34 : decode cX1_tryChoices 34 = .ok (.iaload, 1) := by decide +kernel
theorem dX1_tryChoices_35 : decode cX1_tryChoices 35 = .ok (.iconst (-1), 1) := by decide +kernel
theorem dX1_tryChoices_36 : decode cX1_tryChoices 36 = .ok (.if_icmp .ne 13, 3) := by decide +kernel
theorem dX1_tryChoices_39 : decode cX1_tryChoices 39 = .ok (.aload_n 1, 1) := by decide +kernel
theorem dX1_tryChoices_40 : decode cX1_tryChoices 40 = .ok (.getfield 47, 3) := by decide +kernel
theorem dX1_tryChoices_43 : decode cX1_tryChoices 43 = .ok (.invokevirtual 51, 3) := by decide +kernel
theorem dX1_tryChoices_46 : decode cX1_tryChoices 46 = .ok (.ifCond .eq 7, 3) := by decide +kernel
theorem dX1_tryChoices_49 : decode cX1_tryChoices 49 = .ok (.iconst 1, 1) := by decide +kernel
theorem dX1_tryChoices_50 : decode cX1_tryChoices 50 = .ok (.goto 4, 3) := by decide +kernel
theorem dX1_tryChoices_53 : decode cX1_tryChoices 53 = .ok (.iconst 0, 1) := by decide +kernel
theorem dX1_tryChoices_54 : decode cX1_tryChoices 54 = .ok (.istore 6, 2) := by decide +kernel
theorem dX1_tryChoices_56 : decode cX1_tryChoices 56 = .ok (.iload 6, 2) := by decide +kernel
theorem dX1_tryChoices_58 : decode cX1_tryChoices 58 = .ok (.ifCond .eq 7, 3) := by decide +kernel
theorem dX1_tryChoices_61 : decode cX1_tryChoices 61 = .ok (.iconst 0, 1) := by decide +kernel
theorem dX1_tryChoices_62 : decode cX1_tryChoices 62 = .ok (.goto 5, 3) := by decide +kernel
theorem dX1_tryChoices_65 : decode cX1_tryChoices 65 = .ok (.bipush 6, 2) := by decide +kernel
theorem dX1_tryChoices_67 : decode cX1_tryChoices 67 = .ok (.istore 7, 2) := by decide +kernel
theorem dX1_tryChoices_69 : decode cX1_tryChoices 69 = .ok (.iconst 0, 1) := by decide +kernel
theorem dX1_tryChoices_70 : decode cX1_tryChoices 70 = .ok (.istore 8, 2) := by decide +kernel
theorem dX1_tryChoices_72 : decode cX1_tryChoices 72 = .ok (.iload 8, 2) := by decide +kernel
theorem dX1_tryChoices_74 : decode cX1_tryChoices 74 = .ok (.iload 7, 2) := by decide +kernel
theorem dX1_tryChoices_76 : decode cX1_tryChoices 76 = .ok (.if_icmp .gt 96, 3) := by decide +kernel
theorem dX1_tryChoices_79 : decode cX1_tryChoices 79 = .ok (.aload_n 0, 1) := by decide +kernel
theorem dX1_tryChoices_80 : decode cX1_tryChoices 80 = .ok (.getfield 17, 3) := by decide +kernel
theorem dX1_tryChoices_83 : decode cX1_tryChoices 83 = .ok (.iload_n 2, 1) := by decide +kernel
theorem dX1_tryChoices_84 : decode cX1_tryChoices 84 = .ok (.iload 8, 2) := by decide +kernel
theorem dX1_tryChoices_86 : decode cX1_tryChoices 86 = .ok (.iastore, 1) := by decide +kernel
theorem dX1_tryChoices_87 : decode cX1_tryChoices 87 = .ok (.aload 5, 2) := by decide +kernel
theorem dX1_tryChoices_89 : decode cX1_tryChoices 89 = .ok (.aload_n 1, 1) := by decide +kernel
theorem dX1_tryChoices_90 : decode cX1_tryChoices 90 = .ok (.invokevirtual 57, 3) := by decide +kernel
theorem dX1_tryChoices_93 : decode cX1_tryChoices 93 = .ok (.aload 5, 2) := by decide +kernel
theorem dX1_tryChoices_95 : decode cX1_tryChoices 95 = .ok (.iload 8, 2) := by decide +kernel
theorem dX1_tryChoices_97 : decode cX1_tryChoices 97 = .ok (.invokevirtual 61, 3) := by decide +kernel
theorem dX1_tryChoices_100 : decode cX1_tryChoices 100 = .ok (.pop, 1) := by decide +kernel
theorem dX1_tryChoices_101 : decode cX1_tryChoices 101 = .ok (.aload 5, 2) := by decide +kernel
theorem dX1_tryChoices_103 : decode cX1_tryChoices 103 = .ok (.invokevirtual 65, 3) := by decide +kernel
theorem dX1_tryChoices_106 : decode cX1_tryChoices 106 = .ok (.iload_n 2, 1) := by decide +kernel
theorem dX1_tryChoices_107 : decode cX1_tryChoices 107 = .ok (.iconst 1, 1) := by decide +kernel
theorem dX1_tryChoices_108 : decode cX1_tryChoices 108 = .ok (.iadd, 1) := by decide +kernel
theorem dX1_tryChoices_109 : decode cX1_tryChoices 109 = .ok (.iload_n 3, 1) := by decide +kernel
theorem dX1_tryChoices_110 : decode cX1_tryChoices 110 = .ok (.if_icmp .ge 18, 3) := by decide +kernel
theorem dX1_tryChoices_113 : decode cX1_tryChoices 113 = .ok (.aload_n 0, 1) := by decide +kernel
theorem dX1_tryChoices_114 : decode cX1_tryChoices 114 = .ok (.aload 5, 2) := by decide +kernel
theorem dX1_tryChoices_116 : decode cX1_tryChoices 116 = .ok (.iload_n 2, 1) := by decide +kernel
theorem dX1_tryChoices_117 : decode cX1_tryChoices 117 = .ok (.iconst 1, 1) := by decide +kernel
theorem dX1_tryChoices_118 : decode cX1_tryChoices 118 = .ok (.iadd, 1) := by decide +kernel
theorem dX1_tryChoices_119 : decode cX1_tryChoices 119 = .ok (.iload_n 3, 1) := by decide +kernel
theorem dX1_tryChoices_120 : decode cX1_tryChoices 120 = .ok (.iload 4, 2) := by decide +kernel
theorem dX1_tryChoices_122 : decode cX1_tryChoices 122 = .ok (.invokestatic 40, 3) := by decide +kernel
theorem dX1_tryChoices_125 : decode cX1_tryChoices 125 = .ok (.goto 41, 3) := by decide +kernel
theorem dX1_tryChoices_128 : decode cX1_tryChoices 128 = .ok (.iconst 0, 1) := by decide +kernel
theorem dX1_tryChoices_129 : decode cX1_tryChoices 129 = .ok (.istore 9, 2) := by decide +kernel
theorem dX1_tryChoices_131 : decode cX1_tryChoices 131 = .ok (.iload 9, 2) := by decide +kernel
theorem dX1_tryChoices_133 : decode cX1_tryChoices 133 = .ok (.iload 4, 2) := by decide +kernel
theorem dX1_tryChoices_135 : decode cX1_tryChoices 135 = .ok (.if_icmp .ge 22, 3) := by decide +kernel
theorem dX1_tryChoices_138 : decode cX1_tryChoices 138 = .ok (.aload 5, 2) := by decide +kernel
theorem dX1_tryChoices_140 : decode cX1_tryChoices 140 = .ok (.invokevirtual 68, 3) := by decide +kernel
theorem dX1_tryChoices_143 : decode cX1_tryChoices 143 = .ok (.ifCond .eq 14, 3) := by decide +kernel
theorem dX1_tryChoices_146 : decode cX1_tryChoices 146 = .ok (.aload 5, 2) := by decide +kernel
theorem dX1_tryChoices_148 : decode cX1_tryChoices 148 = .ok (.invokevirtual 65, 3) := by decide +kernel
theorem dX1_tryChoices_151 : decode cX1_tryChoices 151 = .ok (.iinc 9 1, 3) := by decide +kernel
theorem dX1_tryChoices_154 : decode cX1_tryChoices 154 = .ok (.goto (-23), 3) := by decide +kernel
theorem dX1_tryChoices_157 : decode cX1_tryChoices 157 = .ok (.aload_n 0, 1) := by decide +kernel
theorem dX1_tryChoices_158 : decode cX1_tryChoices 158 = .ok (.aload 5, 2) := by decide +kernel
theorem dX1_tryChoices_160 : decode cX1_tryChoices 160 = .ok (.getfield 37, 3) := by decide +kernel
theorem dX1_tryChoices_163 : decode cX1_tryChoices 163 = .ok (.invokevirtual 71, 3) := by decide +kernel
theorem dX1_tryChoices_166 : decode cX1_tryChoices 166 = .ok (.iinc 8 1, 3) := by decide +kernel
theorem dX1_tryChoices_169 : decode cX1_tryChoices 169 = .ok (.goto (-97), 3) := by decide +kernel
theorem dX1_tryChoices_172 : decode cX1_tryChoices 172 = .ok (.return_, 1) := by decide +kernel
theorem dX1_keepBest_0 : decode cX1_keepBest 0 = .ok (.lload_n 1, 1) := by decide +kernel
theorem dX1_keepBest_1 : decode cX1_keepBest 1 = .ok (.aload_n 0, 1) := by decide +kernel
theorem dX1_keepBest_2 : decode cX1_keepBest 2 = .ok (.getfield 26, 3) := by decide +kernel
theorem dX1_keepBest_5 : decode cX1_keepBest 5 = .ok (.lcmp, 1) := by decide +kernel
theorem dX1_keepBest_6 : decode cX1_keepBest 6 = .ok (.ifCond .le 22, 3) := by decide +kernel
theorem dX1_keepBest_9 : decode cX1_keepBest 9 = .ok (.aload_n 0, 1) := by decide +kernel
theorem dX1_keepBest_10 : decode cX1_keepBest 10 = .ok (.lload_n 1, 1) := by decide +kernel
theorem dX1_keepBest_11 : decode cX1_keepBest 11 = .ok (.putfield 26, 3) := by decide +kernel
theorem dX1_keepBest_14 : decode cX1_keepBest 14 = .ok (.aload_n 0, 1) := by decide +kernel
theorem dX1_keepBest_15 : decode cX1_keepBest 15 = .ok (.getfield 17, 3) := by decide +kernel
theorem dX1_keepBest_18 : decode cX1_keepBest 18 = .ok (.iconst 0, 1) := by decide +kernel
theorem dX1_keepBest_19 : decode cX1_keepBest 19 = .ok (.aload_n 0, 1) := by decide +kernel
theorem dX1_keepBest_20 : decode cX1_keepBest 20 = .ok (.getfield 21, 3) := by decide +kernel
theorem dX1_keepBest_23 : decode cX1_keepBest 23 = .ok (.iconst 0, 1) := by decide +kernel
theorem dX1_keepBest_24 : decode cX1_keepBest 24 = .ok (.iconst 3, 1) := by decide +kernel
theorem dX1_keepBest_25 : decode cX1_keepBest 25 = .ok (.invokestatic 75, 3) := by decide +kernel
theorem dX1_keepBest_28 : decode cX1_keepBest 28 = .ok (.return_, 1) := by decide +kernel
theorem dX2_init_0 : decode cX2_init 0 = .ok (.aload_n 0, 1) := by decide +kernel
theorem dX2_init_1 : decode cX2_init 1 = .ok (.invokespecial 3, 3) := by decide +kernel
theorem dX2_init_4 : decode cX2_init 4 = .ok (.aload_n 0, 1) := by decide +kernel
theorem dX2_init_5 : decode cX2_init 5 = .ok (.bipush 16, 2) := by decide +kernel
theorem dX2_init_7 : decode cX2_init 7 = .ok (.newarray .int, 2) := by decide +kernel
theorem dX2_init_9 : decode cX2_init 9 = .ok (.putfield 9, 3) := by decide +kernel
theorem dX2_init_12 : decode cX2_init 12 = .ok (.aload_n 0, 1) := by decide +kernel
theorem dX2_init_13 : decode cX2_init 13 = .ok (.iconst 0, 1) := by decide +kernel
theorem dX2_init_14 : decode cX2_init 14 = .ok (.putfield 15, 3) := by decide +kernel
theorem dX2_init_17 : decode cX2_init 17 = .ok (.aload_n 0, 1) := by decide +kernel
theorem dX2_init_18 : decode cX2_init 18 = .ok (.iload_n 1, 1) := by decide +kernel
theorem dX2_init_19 : decode cX2_init 19 = .ok (.iconst 1, 1) := by decide +kernel
theorem dX2_init_20 : decode cX2_init 20 = .ok (.invokestatic 19, 3) := by decide +kernel
theorem dX2_init_23 : decode cX2_init 23 = .ok (.newarray .int, 2) := by decide +kernel
theorem dX2_init_25 : decode cX2_init 25 = .ok (.putfield 25, 3) := by decide +kernel
theorem dX2_init_28 : decode cX2_init 28 = .ok (.aload_n 0, 1) := by decide +kernel
theorem dX2_init_29 : decode cX2_init 29 = .ok (.getfield 25, 3) := by decide +kernel
theorem dX2_init_32 : decode cX2_init 32 = .ok (.iconst (-1), 1) := by decide +kernel
theorem dX2_init_33 : decode cX2_init 33 = .ok (.invokestatic 28, 3) := by decide +kernel
theorem dX2_init_36 : decode cX2_init 36 = .ok (.return_, 1) := by decide +kernel
theorem dX2_isQueueFull_0 : decode cX2_isQueueFull 0 = .ok (.aload_n 0, 1) := by decide +kernel
theorem dX2_isQueueFull_1 : decode cX2_isQueueFull 1 = .ok (.getfield 15, 3) := by decide +kernel
theorem dX2_isQueueFull_4 : decode cX2_isQueueFull 4 = .ok (.ifCond .lt 15, 3) := by decide +kernel
theorem dX2_isQueueFull_7 : decode cX2_isQueueFull 7 = .ok (.aload_n 0, 1) := by decide +kernel
theorem dX2_isQueueFull_8 : decode cX2_isQueueFull 8 = .ok (.getfield 15, 3) := by decide +kernel
theorem dX2_isQueueFull_11 : decode cX2_isQueueFull 11 = .ok (.aload_n 0, 1) := by decide +kernel
theorem dX2_isQueueFull_12 : decode cX2_isQueueFull 12 = .ok (.getfield 9, 3) := by decide +kernel
theorem dX2_isQueueFull_15 : decode cX2_isQueueFull 15 = .ok (.arraylength, 1) := by decide +kernel
theorem dX2_isQueueFull_16 : decode cX2_isQueueFull 16 = .ok (.if_icmp .lt 7, 3) := by decide +kernel
theorem dX2_isQueueFull_19 : decode cX2_isQueueFull 19 = .ok (.iconst 1, 1) := by decide +kernel
theorem dX2_isQueueFull_20 : decode cX2_isQueueFull 20 = .ok (.goto 4, 3) := by decide +kernel
theorem dX2_isQueueFull_23 : decode cX2_isQueueFull 23 = .ok (.iconst 0, 1) := by decide +kernel
theorem dX2_isQueueFull_24 : decode cX2_isQueueFull 24 = .ok (.ireturn, 1) := by decide +kernel
theorem dX2_join_0 : decode cX2_join 0 = .ok (.aload_n 0, 1) := by decide +kernel
theorem dX2_join_1 : decode cX2_join 1 = .ok (.invokevirtual 34, 3) := by decide +kernel
theorem dX2_join_4 : decode cX2_join 4 = .ok (.ifCond .ne 23, 3) := by decide +kernel
theorem dX2_join_7 : decode cX2_join 7 = .ok (.aload_n 0, 1) := by decide +kernel
theorem dX2_join_8 : decode cX2_join 8 = .ok (.getfield 9, 3) := by decide +kernel
theorem dX2_join_11 : decode cX2_join 11 = .ok (.aload_n 0, 1) := by decide +kernel
theorem dX2_join_12 : decode cX2_join 12 = .ok (.getfield 15, 3) := by decide +kernel
theorem dX2_join_15 : decode cX2_join 15 = .ok (.iload_n 1, 1) := by decide +kernel
theorem dX2_join_16 : decode cX2_join 16 = .ok (.iastore, 1) := by decide +kernel
theorem dX2_join_17 : decode cX2_join 17 = .ok (.aload_n 0, 1) := by decide +kernel
theorem dX2_join_18 : decode cX2_join 18 = .ok (.dup, 1) := by decide +kernel
theorem dX2_join_19 : decode cX2_join 19 = .ok (.getfield 15, 3) := by decide +kernel
theorem dX2_join_22 : decode cX2_join 22 = .ok (.iconst 1, 1) := by decide +kernel
theorem dX2_join_23 : decode cX2_join 23 = .ok (.iadd, 1) := by decide +kernel
theorem dX2_join_24 : decode cX2_join 24 = .ok (.putfield 15, 3) := by decide +kernel
theorem dX2_join_27 : decode cX2_join 27 = .ok (.return_, 1) := by decide +kernel
theorem dX2_isFree_0 : decode cX2_isFree 0 = .ok (.iload_n 1, 1) := by decide +kernel
theorem dX2_isFree_1 : decode cX2_isFree 1 = .ok (.ifCond .lt 26, 3) := by decide +kernel
theorem dX2_isFree_4 : decode cX2_isFree 4 = .ok (.iload_n 1, 1) := by decide +kernel
theorem dX2_isFree_5 : decode cX2_isFree 5 = .ok (.aload_n 0, 1) := by decide +kernel
theorem dX2_isFree_6 : decode cX2_isFree 6 = .ok (.getfield 25, 3) := by decide +kernel
theorem dX2_isFree_9 : decode cX2_isFree 9 = .ok (.arraylength, 1) := by decide +kernel
theorem dX2_isFree_10 : decode cX2_isFree 10 = .ok (.if_icmp .ge 17, 3) := by decide +kernel
theorem dX2_isFree_13 : decode cX2_isFree 13 = .ok (.aload_n 0, 1) := by decide +kernel
theorem dX2_isFree_14 : decode cX2_isFree 14 = .ok (.getfield 25, 3) := by decide +kernel
theorem dX2_isFree_17 : decode cX2_isFree 17 = .ok (.iload_n 1, 1) := by decide +kernel
theorem dX2_isFree_18 : decode cX2_isFree 18 = .ok (.iaload, 1) := by decide +kernel
theorem dX2_isFree_19 : decode cX2_isFree 19 = .ok (.iconst (-1), 1) := by decide +kernel
theorem dX2_isFree_20 : decode cX2_isFree 20 = .ok (.if_icmp .ne 7, 3) := by decide +kernel
theorem dX2_isFree_23 : decode cX2_isFree 23 = .ok (.iconst 1, 1) := by decide +kernel
theorem dX2_isFree_24 : decode cX2_isFree 24 = .ok (.goto 4, 3) := by decide +kernel
theorem dX2_isFree_27 : decode cX2_isFree 27 = .ok (.iconst 0, 1) := by decide +kernel
theorem dX2_isFree_28 : decode cX2_isFree 28 = .ok (.ireturn, 1) := by decide +kernel
theorem dX2_letIn_0 : decode cX2_letIn 0 = .ok (.aload_n 0, 1) := by decide +kernel
theorem dX2_letIn_1 : decode cX2_letIn 1 = .ok (.iconst 0, 1) := by decide +kernel
theorem dX2_letIn_2 : decode cX2_letIn 2 = .ok (.invokevirtual 38, 3) := by decide +kernel
theorem dX2_letIn_5 : decode cX2_letIn 5 = .ok (.ifCond .eq 22, 3) := by decide +kernel
theorem dX2_letIn_8 : decode cX2_letIn 8 = .ok (.aload_n 0, 1) := by decide +kernel
theorem dX2_letIn_9 : decode cX2_letIn 9 = .ok (.getfield 15, 3) := by decide +kernel
theorem dX2_letIn_12 : decode cX2_letIn 12 = .ok (.ifCond .le 15, 3) := by decide +kernel
theorem dX2_letIn_15 : decode cX2_letIn 15 = .ok (.aload_n 0, 1) := by decide +kernel
theorem dX2_letIn_16 : decode cX2_letIn 16 = .ok (.getfield 15, 3) := by decide +kernel
theorem dX2_letIn_19 : decode cX2_letIn 19 = .ok (.aload_n 0, 1) := by decide +kernel
theorem dX2_letIn_20 : decode cX2_letIn 20 = .ok (.getfield 9, 3) := by decide +kernel
theorem dX2_letIn_23 : decode cX2_letIn 23 = .ok (.arraylength, 1) := by decide +kernel
theorem dX2_letIn_24 : decode cX2_letIn 24 = .ok (.if_icmp .le 4, 3) := by decide +kernel
theorem dX2_letIn_27 : decode cX2_letIn 27 = .ok (.return_, 1) := by decide +kernel
theorem dX2_letIn_28 : decode cX2_letIn 28 = .ok (.aload_n 0, 1) := by decide +kernel
theorem dX2_letIn_29 : decode cX2_letIn 29 = .ok (.getfield 25, 3) := by decide +kernel
theorem dX2_letIn_32 : decode cX2_letIn 32 = .ok (.iconst 0, 1) := by decide +kernel
theorem dX2_letIn_33 : decode cX2_letIn 33 = .ok (.aload_n 0, 1) := by decide +kernel
theorem dX2_letIn_34 : decode cX2_letIn 34 = .ok (.getfield 9, 3) := by decide +kernel
theorem dX2_letIn_37 : decode cX2_letIn 37 = .ok (.iconst 0, 1) := by decide +kernel
theorem dX2_letIn_38 : decode cX2_letIn 38 = .ok (.iaload, 1) := by decide +kernel
theorem dX2_letIn_39 : decode cX2_letIn 39 = .ok (.iastore, 1) := by decide +kernel
theorem dX2_letIn_40 : decode cX2_letIn 40 = .ok (.aload_n 0, 1) := by decide +kernel
theorem dX2_letIn_41 : decode cX2_letIn 41 = .ok (.dup, 1) := by decide +kernel
theorem dX2_letIn_42 : decode cX2_letIn 42 = .ok (.getfield 15, 3) := by decide +kernel
theorem dX2_letIn_45 : decode cX2_letIn 45 = .ok (.iconst 1, 1) := by decide +kernel
theorem dX2_letIn_46 : decode cX2_letIn 46 = .ok (.isub, 1) := by decide +kernel
theorem dX2_letIn_47 : decode cX2_letIn 47 = .ok (.putfield 15, 3) := by decide +kernel
theorem dX2_letIn_50 : decode cX2_letIn 50 = .ok (.aload_n 0, 1) := by decide +kernel
theorem dX2_letIn_51 : decode cX2_letIn 51 = .ok (.getfield 9, 3) := by decide +kernel
theorem dX2_letIn_54 : decode cX2_letIn 54 = .ok (.iconst 1, 1) := by decide +kernel
theorem dX2_letIn_55 : decode cX2_letIn 55 = .ok (.aload_n 0, 1) := by decide +kernel
theorem dX2_letIn_56 : decode cX2_letIn 56 = .ok (.getfield 9, 3) := by decide +kernel
theorem dX2_letIn_59 : decode cX2_letIn 59 = .ok (.iconst 0, 1) := by decide +kernel
theorem dX2_letIn_60 : decode cX2_letIn 60 = .ok (.aload_n 0, 1) := by decide +kernel
theorem dX2_letIn_61 : decode cX2_letIn 61 = .ok (.getfield 15, 3) := by decide +kernel
theorem dX2_letIn_64 : decode cX2_letIn 64 = .ok (.invokestatic 42, 3) := by decide +kernel
theorem dX2_letIn_67 : decode cX2_letIn 67 = .ok (.return_, 1) := by decide +kernel
theorem dX2_trays_0 : decode cX2_trays 0 = .ok (.iconst 0, 1) := by decide +kernel
theorem dX2_trays_1 : decode cX2_trays 1 = .ok (.istore_n 1, 1) := by decide +kernel
theorem dX2_trays_2 : decode cX2_trays 2 = .ok (.iconst 0, 1) := by decide +kernel
theorem dX2_trays_3 : decode cX2_trays 3 = .ok (.istore_n 2, 1) := by decide +kernel
theorem dX2_trays_4 : decode cX2_trays 4 = .ok (.iload_n 2, 1) := by decide +kernel
theorem dX2_trays_5 : decode cX2_trays 5 = .ok (.aload_n 0, 1) := by decide +kernel
theorem dX2_trays_6 : decode cX2_trays 6 = .ok (.getfield 25, 3) := by decide +kernel
theorem dX2_trays_9 : decode cX2_trays 9 = .ok (.arraylength, 1) := by decide +kernel
theorem dX2_trays_10 : decode cX2_trays 10 = .ok (.if_icmp .ge 27, 3) := by decide +kernel
theorem dX2_trays_13 : decode cX2_trays 13 = .ok (.iload_n 1, 1) := by decide +kernel
theorem dX2_trays_14 : decode cX2_trays 14 = .ok (.aload_n 0, 1) := by decide +kernel
theorem dX2_trays_15 : decode cX2_trays 15 = .ok (.getfield 25, 3) := by decide +kernel
theorem dX2_trays_18 : decode cX2_trays 18 = .ok (.iload_n 2, 1) := by decide +kernel
theorem dX2_trays_19 : decode cX2_trays 19 = .ok (.iaload, 1) := by decide +kernel
theorem dX2_trays_20 : decode cX2_trays 20 = .ok (.iconst (-1), 1) := by decide +kernel
theorem dX2_trays_21 : decode cX2_trays 21 = .ok (.if_icmp .ne 7, 3) := by decide +kernel
theorem dX2_trays_24 : decode cX2_trays 24 = .ok (.iconst 0, 1) := by decide +kernel
theorem dX2_trays_25 : decode cX2_trays 25 = .ok (.goto 4, 3) := by decide +kernel
theorem dX2_trays_28 : decode cX2_trays 28 = .ok (.iconst 1, 1) := by decide +kernel
theorem dX2_trays_29 : decode cX2_trays 29 = .ok (.iadd, 1) := by decide +kernel
theorem dX2_trays_30 : decode cX2_trays 30 = .ok (.istore_n 1, 1) := by decide +kernel
theorem dX2_trays_31 : decode cX2_trays 31 = .ok (.iinc 2 1, 3) := by decide +kernel
theorem dX2_trays_34 : decode cX2_trays 34 = .ok (.goto (-30), 3) := by decide +kernel
theorem dX2_trays_37 : decode cX2_trays 37 = .ok (.iload_n 1, 1) := by decide +kernel
theorem dX2_trays_38 : decode cX2_trays 38 = .ok (.ireturn, 1) := by decide +kernel
theorem dX2_copy_0 : decode cX2_copy 0 = .ok (.aload_n 1, 1) := by decide +kernel
theorem dX2_copy_1 : decode cX2_copy 1 = .ok (.getfield 25, 3) := by decide +kernel
theorem dX2_copy_4 : decode cX2_copy 4 = .ok (.arraylength, 1) := by decide +kernel
theorem dX2_copy_5 : decode cX2_copy 5 = .ok (.aload_n 0, 1) := by decide +kernel
theorem dX2_copy_6 : decode cX2_copy 6 = .ok (.getfield 25, 3) := by decide +kernel
theorem dX2_copy_9 : decode cX2_copy 9 = .ok (.arraylength, 1) := by decide +kernel
theorem dX2_copy_10 : decode cX2_copy 10 = .ok (.if_icmp .ne 21, 3) := by decide +kernel
theorem dX2_copy_13 : decode cX2_copy 13 = .ok (.aload_n 1, 1) := by decide +kernel
theorem dX2_copy_14 : decode cX2_copy 14 = .ok (.getfield 25, 3) := by decide +kernel
theorem dX2_copy_17 : decode cX2_copy 17 = .ok (.iconst 0, 1) := by decide +kernel
theorem dX2_copy_18 : decode cX2_copy 18 = .ok (.aload_n 0, 1) := by decide +kernel
theorem dX2_copy_19 : decode cX2_copy 19 = .ok (.getfield 25, 3) := by decide +kernel
theorem dX2_copy_22 : decode cX2_copy 22 = .ok (.iconst 0, 1) := by decide +kernel
theorem dX2_copy_23 : decode cX2_copy 23 = .ok (.aload_n 0, 1) := by decide +kernel
theorem dX2_copy_24 : decode cX2_copy 24 = .ok (.getfield 25, 3) := by decide +kernel
theorem dX2_copy_27 : decode cX2_copy 27 = .ok (.arraylength, 1) := by decide +kernel
theorem dX2_copy_28 : decode cX2_copy 28 = .ok (.invokestatic 42, 3) := by decide +kernel
theorem dX2_copy_31 : decode cX2_copy 31 = .ok (.aload_n 1, 1) := by decide +kernel
theorem dX2_copy_32 : decode cX2_copy 32 = .ok (.getfield 9, 3) := by decide +kernel
theorem dX2_copy_35 : decode cX2_copy 35 = .ok (.iconst 0, 1) := by decide +kernel
theorem dX2_copy_36 : decode cX2_copy 36 = .ok (.aload_n 0, 1) := by decide +kernel
theorem dX2_copy_37 : decode cX2_copy 37 = .ok (.getfield 9, 3) := by decide +kernel
theorem dX2_copy_40 : decode cX2_copy 40 = .ok (.iconst 0, 1) := by decide +kernel
theorem dX2_copy_41 : decode cX2_copy 41 = .ok (.bipush 16, 2) := by decide +kernel
theorem dX2_copy_43 : decode cX2_copy 43 = .ok (.invokestatic 42, 3) := by decide +kernel
theorem dX2_copy_46 : decode cX2_copy 46 = .ok (.aload_n 0, 1) := by decide +kernel
theorem dX2_copy_47 : decode cX2_copy 47 = .ok (.aload_n 1, 1) := by decide +kernel
theorem dX2_copy_48 : decode cX2_copy 48 = .ok (.getfield 15, 3) := by decide +kernel
theorem dX2_copy_51 : decode cX2_copy 51 = .ok (.putfield 15, 3) := by decide +kernel
theorem dX2_copy_54 : decode cX2_copy 54 = .ok (.return_, 1) := by decide +kernel
theorem dX3_init_0 : decode cX3_init 0 = .ok (.aload_n 0, 1) := by decide +kernel
theorem dX3_init_1 : decode cX3_init 1 = .ok (.invokespecial 1, 3) := by decide +kernel
theorem dX3_init_4 : decode cX3_init 4 = .ok (.aload_n 0, 1) := by decide +kernel
theorem dX3_init_5 : decode cX3_init 5 = .ok (.bipush 6, 2) := by decide +kernel
theorem dX3_init_7 : decode cX3_init 7 = .ok (.newarray .int, 2) := by decide +kernel
theorem dX3_init_9 : decode cX3_init 9 = .ok (.dup, 1) := by decide +kernel
theorem dX3_init_10 : decode cX3_init 10 = .ok (.iconst 0, 1) := by decide +kernel
theorem dX3_init_11 : decode cX3_init 11 = .ok (.iconst 0, 1) := by decide +kernel
theorem dX3_init_12 : decode cX3_init 12 = .ok (.iastore, 1) := by decide +kernel
theorem dX3_init_13 : decode cX3_init 13 = .ok (.dup, 1) := by decide +kernel
theorem dX3_init_14 : decode cX3_init 14 = .ok (.iconst 1, 1) := by decide +kernel
theorem dX3_init_15 : decode cX3_init 15 = .ok (.iconst 1, 1) := by decide +kernel
theorem dX3_init_16 : decode cX3_init 16 = .ok (.iastore, 1) := by decide +kernel
theorem dX3_init_17 : decode cX3_init 17 = .ok (.dup, 1) := by decide +kernel
theorem dX3_init_18 : decode cX3_init 18 = .ok (.iconst 2, 1) := by decide +kernel
theorem dX3_init_19 : decode cX3_init 19 = .ok (.iconst 2, 1) := by decide +kernel
theorem dX3_init_20 : decode cX3_init 20 = .ok (.iastore, 1) := by decide +kernel
theorem dX3_init_21 : decode cX3_init 21 = .ok (.dup, 1) := by decide +kernel
theorem dX3_init_22 : decode cX3_init 22 = .ok (.iconst 3, 1) := by decide +kernel
theorem dX3_init_23 : decode cX3_init 23 = .ok (.iconst 3, 1) := by decide +kernel
theorem dX3_init_24 : decode cX3_init 24 = .ok (.iastore, 1) := by decide +kernel
theorem dX3_init_25 : decode cX3_init 25 = .ok (.dup, 1) := by decide +kernel
theorem dX3_init_26 : decode cX3_init 26 = .ok (.iconst 4, 1) := by decide +kernel
theorem dX3_init_27 : decode cX3_init 27 = .ok (.iconst 4, 1) := by decide +kernel
theorem dX3_init_28 : decode cX3_init 28 = .ok (.iastore, 1) := by decide +kernel
theorem dX3_init_29 : decode cX3_init 29 = .ok (.dup, 1) := by decide +kernel
theorem dX3_init_30 : decode cX3_init 30 = .ok (.iconst 5, 1) := by decide +kernel
theorem dX3_init_31 : decode cX3_init 31 = .ok (.iconst 0, 1) := by decide +kernel
theorem dX3_init_32 : decode cX3_init 32 = .ok (.iastore, 1) := by decide +kernel
theorem dX3_init_33 : decode cX3_init 33 = .ok (.putfield 7, 3) := by decide +kernel
theorem dX3_init_36 : decode cX3_init 36 = .ok (.aload_n 0, 1) := by decide +kernel
theorem dX3_init_37 : decode cX3_init 37 = .ok (.bipush 6, 2) := by decide +kernel
theorem dX3_init_39 : decode cX3_init 39 = .ok (.newarray .int, 2) := by decide +kernel
theorem dX3_init_41 : decode cX3_init 41 = .ok (.dup, 1) := by decide +kernel
theorem dX3_init_42 : decode cX3_init 42 = .ok (.iconst 0, 1) := by decide +kernel
theorem dX3_init_43 : decode cX3_init 43 = .ok (.bipush 20, 2) := by decide +kernel
theorem dX3_init_45 : decode cX3_init 45 = .ok (.iastore, 1) := by decide +kernel
theorem dX3_init_46 : decode cX3_init 46 = .ok (.dup, 1) := by decide +kernel
theorem dX3_init_47 : decode cX3_init 47 = .ok (.iconst 1, 1) := by decide +kernel
theorem dX3_init_48 : decode cX3_init 48 = .ok (.bipush 20, 2) := by decide +kernel
theorem dX3_init_50 : decode cX3_init 50 = .ok (.iastore, 1) := by decide +kernel
theorem dX3_init_51 : decode cX3_init 51 = .ok (.dup, 1) := by decide +kernel
theorem dX3_init_52 : decode cX3_init 52 = .ok (.iconst 2, 1) := by decide +kernel
theorem dX3_init_53 : decode cX3_init 53 = .ok (.bipush 20, 2) := by decide +kernel
theorem dX3_init_55 : decode cX3_init 55 = .ok (.iastore, 1) := by decide +kernel
theorem dX3_init_56 : decode cX3_init 56 = .ok (.dup, 1) := by decide +kernel
theorem dX3_init_57 : decode cX3_init 57 = .ok (.iconst 3, 1) := by decide +kernel
theorem dX3_init_58 : decode cX3_init 58 = .ok (.bipush 20, 2) := by decide +kernel
theorem dX3_init_60 : decode cX3_init 60 = .ok (.iastore, 1) := by decide +kernel
theorem dX3_init_61 : decode cX3_init 61 = .ok (.dup, 1) := by decide +kernel
theorem dX3_init_62 : decode cX3_init 62 = .ok (.iconst 4, 1) := by decide +kernel
theorem dX3_init_63 : decode cX3_init 63 = .ok (.bipush 20, 2) := by decide +kernel
theorem dX3_init_65 : decode cX3_init 65 = .ok (.iastore, 1) := by decide +kernel
theorem dX3_init_66 : decode cX3_init 66 = .ok (.dup, 1) := by decide +kernel
theorem dX3_init_67 : decode cX3_init 67 = .ok (.iconst 5, 1) := by decide +kernel
theorem dX3_init_68 : decode cX3_init 68 = .ok (.bipush 20, 2) := by decide +kernel
theorem dX3_init_70 : decode cX3_init 70 = .ok (.iastore, 1) := by decide +kernel
theorem dX3_init_71 : decode cX3_init 71 = .ok (.putfield 13, 3) := by decide +kernel
theorem dX3_init_74 : decode cX3_init 74 = .ok (.aload_n 0, 1) := by decide +kernel
theorem dX3_init_75 : decode cX3_init 75 = .ok (.iconst 5, 1) := by decide +kernel
theorem dX3_init_76 : decode cX3_init 76 = .ok (.newarray .int, 2) := by decide +kernel
theorem dX3_init_78 : decode cX3_init 78 = .ok (.dup, 1) := by decide +kernel
theorem dX3_init_79 : decode cX3_init 79 = .ok (.iconst 0, 1) := by decide +kernel
theorem dX3_init_80 : decode cX3_init 80 = .ok (.bipush 100, 2) := by decide +kernel
theorem dX3_init_82 : decode cX3_init 82 = .ok (.iastore, 1) := by decide +kernel
theorem dX3_init_83 : decode cX3_init 83 = .ok (.dup, 1) := by decide +kernel
theorem dX3_init_84 : decode cX3_init 84 = .ok (.iconst 1, 1) := by decide +kernel
theorem dX3_init_85 : decode cX3_init 85 = .ok (.bipush 100, 2) := by decide +kernel
theorem dX3_init_87 : decode cX3_init 87 = .ok (.iastore, 1) := by decide +kernel
theorem dX3_init_88 : decode cX3_init 88 = .ok (.dup, 1) := by decide +kernel
theorem dX3_init_89 : decode cX3_init 89 = .ok (.iconst 2, 1) := by decide +kernel
theorem dX3_init_90 : decode cX3_init 90 = .ok (.bipush 100, 2) := by decide +kernel
theorem dX3_init_92 : decode cX3_init 92 = .ok (.iastore, 1) := by decide +kernel
theorem dX3_init_93 : decode cX3_init 93 = .ok (.dup, 1) := by decide +kernel
theorem dX3_init_94 : decode cX3_init 94 = .ok (.iconst 3, 1) := by decide +kernel
theorem dX3_init_95 : decode cX3_init 95 = .ok (.bipush 100, 2) := by decide +kernel
theorem dX3_init_97 : decode cX3_init 97 = .ok (.iastore, 1) := by decide +kernel
theorem dX3_init_98 : decode cX3_init 98 = .ok (.dup, 1) := by decide +kernel
theorem dX3_init_99 : decode cX3_init 99 = .ok (.iconst 4, 1) := by decide +kernel
theorem dX3_init_100 : decode cX3_init 100 = .ok (.bipush 100, 2) := by decide +kernel
theorem dX3_init_102 : decode cX3_init 102 = .ok (.iastore, 1) := by decide +kernel
theorem dX3_init_103 : decode cX3_init 103 = .ok (.putfield 16, 3) := by decide +kernel
theorem dX3_init_106 : decode cX3_init 106 = .ok (.aload_n 0, 1) := by decide +kernel
theorem dX3_init_107 : decode cX3_init 107 = .ok (.bipush 50, 2) := by decide +kernel
theorem dX3_init_109 : decode cX3_init 109 = .ok (.putfield 19, 3) := by decide +kernel
theorem dX3_init_112 : decode cX3_init 112 = .ok (.return_, 1) := by decide +kernel
theorem dX4_init_0 : decode cX4_init 0 = .ok (.aload_n 0, 1) := by decide +kernel
theorem dX4_init_1 : decode cX4_init 1 = .ok (.invokespecial 3, 3) := by decide +kernel
theorem dX4_init_4 : decode cX4_init 4 = .ok (.aload_n 0, 1) := by decide +kernel
theorem dX4_init_5 : decode cX4_init 5 = .ok (.sipush 300, 3) := by decide +kernel
theorem dX4_init_8 : decode cX4_init 8 = .ok (.newarray .int, 2) := by decide +kernel
theorem dX4_init_10 : decode cX4_init 10 = .ok (.putfield 9, 3) := by decide +kernel
theorem dX4_init_13 : decode cX4_init 13 = .ok (.aload_n 0, 1) := by decide +kernel
theorem dX4_init_14 : decode cX4_init 14 = .ok (.sipush 300, 3) := by decide +kernel
theorem dX4_init_17 : decode cX4_init 17 = .ok (.newarray .int, 2) := by decide +kernel
theorem dX4_init_19 : decode cX4_init 19 = .ok (.putfield 15, 3) := by decide +kernel
theorem dX4_init_22 : decode cX4_init 22 = .ok (.aload_n 0, 1) := by decide +kernel
theorem dX4_init_23 : decode cX4_init 23 = .ok (.sipush 300, 3) := by decide +kernel
theorem dX4_init_26 : decode cX4_init 26 = .ok (.newarray .int, 2) := by decide +kernel
theorem dX4_init_28 : decode cX4_init 28 = .ok (.putfield 18, 3) := by decide +kernel
theorem dX4_init_31 : decode cX4_init 31 = .ok (.aload_n 0, 1) := by decide +kernel
theorem dX4_init_32 : decode cX4_init 32 = .ok (.sipush 300, 3) := by decide +kernel
theorem dX4_init_35 : decode cX4_init 35 = .ok (.newarray .int, 2) := by decide +kernel
theorem dX4_init_37 : decode cX4_init 37 = .ok (.putfield 21, 3) := by decide +kernel
theorem dX4_init_40 : decode cX4_init 40 = .ok (.aload_n 0, 1) := by decide +kernel
theorem dX4_init_41 : decode cX4_init 41 = .ok (.sipush 300, 3) := by decide +kernel
theorem dX4_init_44 : decode cX4_init 44 = .ok (.newarray .int, 2) := by decide +kernel
theorem dX4_init_46 : decode cX4_init 46 = .ok (.putfield 24, 3) := by decide +kernel
theorem dX4_init_49 : decode cX4_init 49 = .ok (.aload_n 0, 1) := by decide +kernel
theorem dX4_init_50 : decode cX4_init 50 = .ok (.iconst 0, 1) := by decide +kernel
theorem dX4_init_51 : decode cX4_init 51 = .ok (.putfield 27, 3) := by decide +kernel
theorem dX4_init_54 : decode cX4_init 54 = .ok (.return_, 1) := by decide +kernel
theorem dX4_has_0 : decode cX4_has 0 = .ok (.iload_n 1, 1) := by decide +kernel
theorem dX4_has_1 : decode cX4_has 1 = .ok (.ifCond .lt 15, 3) := by decide +kernel
theorem dX4_has_4 : decode cX4_has 4 = .ok (.iload_n 1, 1) := by decide +kernel
theorem dX4_has_5 : decode cX4_has 5 = .ok (.aload_n 0, 1) := by decide +kernel
theorem dX4_has_6 : decode cX4_has 6 = .ok (.getfield 27, 3) := by decide +kernel
theorem dX4_has_9 : decode cX4_has 9 = .ok (.if_icmp .ge 7, 3) := by decide +kernel
theorem dX4_has_12 : decode cX4_has 12 = .ok (.iconst 1, 1) := by decide +kernel
theorem dX4_has_13 : decode cX4_has 13 = .ok (.goto 4, 3) := by decide +kernel
theorem dX4_has_16 : decode cX4_has 16 = .ok (.iconst 0, 1) := by decide +kernel
theorem dX4_has_17 : decode cX4_has 17 = .ok (.ireturn, 1) := by decide +kernel
theorem dX4_areFull_0 : decode cX4_areFull 0 = .ok (.aload_n 0, 1) := by decide +kernel
theorem dX4_areFull_1 : decode cX4_areFull 1 = .ok (.getfield 27, 3) := by decide +kernel
theorem dX4_areFull_4 : decode cX4_areFull 4 = .ok (.sipush 300, 3) := by decide +kernel
theorem dX4_areFull_7 : decode cX4_areFull 7 = .ok (.if_icmp .lt 7, 3) := by decide +kernel
theorem dX4_areFull_10 : decode cX4_areFull 10 = .ok (.iconst 1, 1) := by decide +kernel
theorem dX4_areFull_11 : decode cX4_areFull 11 = .ok (.goto 4, 3) := by decide +kernel
theorem dX4_areFull_14 : decode cX4_areFull 14 = .ok (.iconst 0, 1) := by decide +kernel
theorem dX4_areFull_15 : decode cX4_areFull 15 = .ok (.ireturn, 1) := by decide +kernel
theorem dX4_make_0 : decode cX4_make 0 = .ok (.aload_n 0, 1) := by decide +kernel
theorem dX4_make_1 : decode cX4_make 1 = .ok (.getfield 27, 3) := by decide +kernel
theorem dX4_make_4 : decode cX4_make 4 = .ok (.istore 5, 2) := by decide +kernel
theorem dX4_make_6 : decode cX4_make 6 = .ok (.aload_n 0, 1) := by decide +kernel
theorem dX4_make_7 : decode cX4_make 7 = .ok (.invokevirtual 31, 3) := by decide +kernel
theorem dX4_make_10 : decode cX4_make 10 = .ok (.ifCond .ne 8, 3) := by decide +kernel
theorem dX4_make_13 : decode cX4_make 13 = .ok (.iload 5, 2) := by decide +kernel
theorem dX4_make_15 : decode cX4_make 15 = .ok (.ifCond .ge 6, 3) := by decide +kernel
theorem dX4_make_18 : decode cX4_make 18 = .ok (.bipush (-4), 2) := by decide +kernel
theorem dX4_make_20 : decode cX4_make 20 = .ok (.ireturn, 1) := by decide +kernel
theorem dX4_make_21 : decode cX4_make 21 = .ok (.aload_n 0, 1) := by decide +kernel
theorem dX4_make_22 : decode cX4_make 22 = .ok (.dup, 1) := by decide +kernel
theorem dX4_make_23 : decode cX4_make 23 = .ok (.getfield 27, 3) := by decide +kernel
theorem dX4_make_26 : decode cX4_make 26 = .ok (.iconst 1, 1) := by decide +kernel
theorem dX4_make_27 : decode cX4_make 27 = .ok (.iadd, 1) := by decide +kernel
theorem dX4_make_28 : decode cX4_make 28 = .ok (.putfield 27, 3) := by decide +kernel
theorem dX4_make_31 : decode cX4_make 31 = .ok (.aload_n 0, 1) := by decide +kernel
theorem dX4_make_32 : decode cX4_make 32 = .ok (.getfield 9, 3) := by decide +kernel
theorem dX4_make_35 : decode cX4_make 35 = .ok (.iload 5, 2) := by decide +kernel
theorem dX4_make_37 : decode cX4_make 37 = .ok (.iload_n 1, 1) := by decide +kernel
theorem dX4_make_38 : decode cX4_make 38 = .ok (.iastore, 1) := by decide +kernel
theorem dX4_make_39 : decode cX4_make 39 = .ok (.aload_n 0, 1) := by decide +kernel
theorem dX4_make_40 : decode cX4_make 40 = .ok (.getfield 15, 3) := by decide +kernel
theorem dX4_make_43 : decode cX4_make 43 = .ok (.iload 5, 2) := by decide +kernel
theorem dX4_make_45 : decode cX4_make 45 = .ok (.iload_n 2, 1) := by decide +kernel
theorem dX4_make_46 : decode cX4_make 46 = .ok (.iastore, 1) := by decide +kernel
theorem dX4_make_47 : decode cX4_make 47 = .ok (.aload_n 0, 1) := by decide +kernel
theorem dX4_make_48 : decode cX4_make 48 = .ok (.getfield 18, 3) := by decide +kernel
theorem dX4_make_51 : decode cX4_make 51 = .ok (.iload 5, 2) := by decide +kernel
theorem dX4_make_53 : decode cX4_make 53 = .ok (.iconst 0, 1) := by decide +kernel
theorem dX4_make_54 : decode cX4_make 54 = .ok (.iastore, 1) := by decide +kernel
theorem dX4_make_55 : decode cX4_make 55 = .ok (.aload_n 0, 1) := by decide +kernel
theorem dX4_make_56 : decode cX4_make 56 = .ok (.iload 5, 2) := by decide +kernel
theorem dX4_make_58 : decode cX4_make 58 = .ok (.iload_n 3, 1) := by decide +kernel
theorem dX4_make_59 : decode cX4_make 59 = .ok (.iload 4, 2) := by decide +kernel
theorem dX4_make_61 : decode cX4_make 61 = .ok (.invokevirtual 35, 3) := by decide +kernel
theorem dX4_make_64 : decode cX4_make 64 = .ok (.iload 5, 2) := by decide +kernel
theorem dX4_make_66 : decode cX4_make 66 = .ok (.ireturn, 1) := by decide +kernel
theorem dX4_become_0 : decode cX4_become 0 = .ok (.iload_n 1, 1) := by decide +kernel
theorem dX4_become_1 : decode cX4_become 1 = .ok (.ifCond .lt 25, 3) := by decide +kernel
theorem dX4_become_4 : decode cX4_become 4 = .ok (.iload_n 1, 1) := by decide +kernel
theorem dX4_become_5 : decode cX4_become 5 = .ok (.aload_n 0, 1) := by decide +kernel
theorem dX4_become_6 : decode cX4_become 6 = .ok (.getfield 27, 3) := by decide +kernel
theorem dX4_become_9 : decode cX4_become 9 = .ok (.if_icmp .ge 17, 3) := by decide +kernel
theorem dX4_become_12 : decode cX4_become 12 = .ok (.aload_n 0, 1) := by decide +kernel
theorem dX4_become_13 : decode cX4_become 13 = .ok (.getfield 21, 3) := by decide +kernel
theorem dX4_become_16 : decode cX4_become 16 = .ok (.iload_n 1, 1) := by decide +kernel
theorem dX4_become_17 : decode cX4_become 17 = .ok (.iload_n 2, 1) := by decide +kernel
theorem dX4_become_18 : decode cX4_become 18 = .ok (.iastore, 1) := by decide +kernel
theorem dX4_become_19 : decode cX4_become 19 = .ok (.aload_n 0, 1) := by decide +kernel
theorem dX4_become_20 : decode cX4_become 20 = .ok (.getfield 24, 3) := by decide +kernel
theorem dX4_become_23 : decode cX4_become 23 = .ok (.iload_n 1, 1) := by decide +kernel
theorem dX4_become_24 : decode cX4_become 24 = .ok (.iload_n 3, 1) := by decide +kernel
theorem dX4_become_25 : decode cX4_become 25 = .ok (.iastore, 1) := by decide +kernel
theorem dX4_become_26 : decode cX4_become 26 = .ok (.return_, 1) := by decide +kernel
theorem dX4_growOlder_0 : decode cX4_growOlder 0 = .ok (.aload_n 0, 1) := by decide +kernel
theorem dX4_growOlder_1 : decode cX4_growOlder 1 = .ok (.iload_n 1, 1) := by decide +kernel
theorem dX4_growOlder_2 : decode cX4_growOlder 2 = .ok (.invokevirtual 39, 3) := by decide +kernel
theorem dX4_growOlder_5 : decode cX4_growOlder 5 = .ok (.ifCond .eq 13, 3) := by decide +kernel
theorem dX4_growOlder_8 : decode cX4_growOlder 8 = .ok (.aload_n 0, 1) := by decide +kernel
theorem dX4_growOlder_9 : decode cX4_growOlder 9 = .ok (.getfield 18, 3) := by decide +kernel
theorem dX4_growOlder_12 : decode cX4_growOlder 12 = .ok (.iload_n 1, 1) := by decide +kernel
theorem dX4_growOlder_13 : decode cX4_growOlder 13 = .ok (.dup2, 1) := by decide +kernel
theorem dX4_growOlder_14 : decode cX4_growOlder 14 = .ok (.iaload, 1) := by decide +kernel
theorem dX4_growOlder_15 : decode cX4_growOlder 15 = .ok (.iconst 1, 1) := by decide +kernel
theorem dX4_growOlder_16 : decode cX4_growOlder 16 = .ok (.iadd, 1) := by decide +kernel
theorem dX4_growOlder_17 : decode cX4_growOlder 17 = .ok (.iastore, 1) := by decide +kernel
theorem dX4_growOlder_18 : decode cX4_growOlder 18 = .ok (.return_, 1) := by decide +kernel
theorem dX4_madeOf_0 : decode cX4_madeOf 0 = .ok (.iconst 0, 1) := by decide +kernel
theorem dX4_madeOf_1 : decode cX4_madeOf 1 = .ok (.istore_n 2, 1) := by decide +kernel
theorem dX4_madeOf_2 : decode cX4_madeOf 2 = .ok (.iconst 0, 1) := by decide +kernel
theorem dX4_madeOf_3 : decode cX4_madeOf 3 = .ok (.istore_n 3, 1) := by decide +kernel
theorem dX4_madeOf_4 : decode cX4_madeOf 4 = .ok (.iload_n 3, 1) := by decide +kernel
theorem dX4_madeOf_5 : decode cX4_madeOf 5 = .ok (.aload_n 0, 1) := by decide +kernel
theorem dX4_madeOf_6 : decode cX4_madeOf 6 = .ok (.getfield 27, 3) := by decide +kernel
theorem dX4_madeOf_9 : decode cX4_madeOf 9 = .ok (.if_icmp .ge 27, 3) := by decide +kernel
theorem dX4_madeOf_12 : decode cX4_madeOf 12 = .ok (.iload_n 2, 1) := by decide +kernel
theorem dX4_madeOf_13 : decode cX4_madeOf 13 = .ok (.aload_n 0, 1) := by decide +kernel
theorem dX4_madeOf_14 : decode cX4_madeOf 14 = .ok (.getfield 15, 3) := by decide +kernel
theorem dX4_madeOf_17 : decode cX4_madeOf 17 = .ok (.iload_n 3, 1) := by decide +kernel
theorem dX4_madeOf_18 : decode cX4_madeOf 18 = .ok (.iaload, 1) := by decide +kernel
theorem dX4_madeOf_19 : decode cX4_madeOf 19 = .ok (.iload_n 1, 1) := by decide +kernel
theorem dX4_madeOf_20 : decode cX4_madeOf 20 = .ok (.if_icmp .ne 7, 3) := by decide +kernel
theorem dX4_madeOf_23 : decode cX4_madeOf 23 = .ok (.iconst 1, 1) := by decide +kernel
theorem dX4_madeOf_24 : decode cX4_madeOf 24 = .ok (.goto 4, 3) := by decide +kernel
theorem dX4_madeOf_27 : decode cX4_madeOf 27 = .ok (.iconst 0, 1) := by decide +kernel
theorem dX4_madeOf_28 : decode cX4_madeOf 28 = .ok (.iadd, 1) := by decide +kernel
theorem dX4_madeOf_29 : decode cX4_madeOf 29 = .ok (.istore_n 2, 1) := by decide +kernel
theorem dX4_madeOf_30 : decode cX4_madeOf 30 = .ok (.iinc 3 1, 3) := by decide +kernel
theorem dX4_madeOf_33 : decode cX4_madeOf 33 = .ok (.goto (-29), 3) := by decide +kernel
theorem dX4_madeOf_36 : decode cX4_madeOf 36 = .ok (.iload_n 2, 1) := by decide +kernel
theorem dX4_madeOf_37 : decode cX4_madeOf 37 = .ok (.ireturn, 1) := by decide +kernel
theorem dX4_inState_0 : decode cX4_inState 0 = .ok (.iconst 0, 1) := by decide +kernel
theorem dX4_inState_1 : decode cX4_inState 1 = .ok (.istore_n 3, 1) := by decide +kernel
theorem dX4_inState_2 : decode cX4_inState 2 = .ok (.iconst 0, 1) := by decide +kernel
theorem dX4_inState_3 : decode cX4_inState 3 = .ok (.istore 4, 2) := by decide +kernel
theorem dX4_inState_5 : decode cX4_inState 5 = .ok (.iload 4, 2) := by decide +kernel
theorem dX4_inState_7 : decode cX4_inState 7 = .ok (.aload_n 0, 1) := by decide +kernel
theorem dX4_inState_8 : decode cX4_inState 8 = .ok (.getfield 27, 3) := by decide +kernel
theorem dX4_inState_11 : decode cX4_inState 11 = .ok (.if_icmp .ge 39, 3) := by decide +kernel
theorem dX4_inState_14 : decode cX4_inState 14 = .ok (.iload_n 3, 1) := by decide +kernel
theorem dX4_inState_15 : decode cX4_inState 15 = .ok (.aload_n 0, 1) := by decide +kernel
theorem dX4_inState_16 : decode cX4_inState 16 = .ok (.getfield 15, 3) := by decide +kernel
theorem dX4_inState_19 : decode cX4_inState 19 = .ok (.iload 4, 2) := by decide +kernel
theorem dX4_inState_21 : decode cX4_inState 21 = .ok (.iaload, 1) := by decide +kernel
theorem dX4_inState_22 : decode cX4_inState 22 = .ok (.iload_n 1, 1) := by decide +kernel
theorem dX4_inState_23 : decode cX4_inState 23 = .ok (.if_icmp .ne 18, 3) := by decide +kernel
theorem dX4_inState_26 : decode cX4_inState 26 = .ok (.aload_n 0, 1) := by decide +kernel
theorem dX4_inState_27 : decode cX4_inState 27 = .ok (.getfield 21, 3) := by decide +kernel
theorem dX4_inState_30 : decode cX4_inState 30 = .ok (.iload 4, 2) := by decide +kernel
theorem dX4_inState_32 : decode cX4_inState 32 = .ok (.iaload, 1) := by decide +kernel
theorem dX4_inState_33 : decode cX4_inState 33 = .ok (.iload_n 2, 1) := by decide +kernel
theorem dX4_inState_34 : decode cX4_inState 34 = .ok (.if_icmp .ne 7, 3) := by decide +kernel
theorem dX4_inState_37 : decode cX4_inState 37 = .ok (.iconst 1, 1) := by decide +kernel
theorem dX4_inState_38 : decode cX4_inState 38 = .ok (.goto 4, 3) := by decide +kernel
theorem dX4_inState_41 : decode cX4_inState 41 = .ok (.iconst 0, 1) := by decide +kernel
theorem dX4_inState_42 : decode cX4_inState 42 = .ok (.iadd, 1) := by decide +kernel
theorem dX4_inState_43 : decode cX4_inState 43 = .ok (.istore_n 3, 1) := by decide +kernel
theorem dX4_inState_44 : decode cX4_inState 44 = .ok (.iinc 4 1, 3) := by decide +kernel
theorem dX4_inState_47 : decode cX4_inState 47 = .ok (.goto (-42), 3) := by decide +kernel
theorem dX4_inState_50 : decode cX4_inState 50 = .ok (.iload_n 3, 1) := by decide +kernel
theorem dX4_inState_51 : decode cX4_inState 51 = .ok (.ireturn, 1) := by decide +kernel
theorem dX4_missing_0 : decode cX4_missing 0 = .ok (.aload_n 0, 1) := by decide +kernel
theorem dX4_missing_1 : decode cX4_missing 1 = .ok (.iload_n 1, 1) := by decide +kernel
theorem dX4_missing_2 : decode cX4_missing 2 = .ok (.invokevirtual 43, 3) := by decide +kernel
theorem dX4_missing_5 : decode cX4_missing 5 = .ok (.istore_n 2, 1) := by decide +kernel
theorem dX4_missing_6 : decode cX4_missing 6 = .ok (.iconst 0, 1) := by decide +kernel
theorem dX4_missing_7 : decode cX4_missing 7 = .ok (.istore_n 3, 1) := by decide +kernel
theorem dX4_missing_8 : decode cX4_missing 8 = .ok (.iload_n 3, 1) := by decide +kernel
theorem dX4_missing_9 : decode cX4_missing 9 = .ok (.iconst 4, 1) := by decide +kernel
theorem dX4_missing_10 : decode cX4_missing 10 = .ok (.if_icmp .gt 18, 3) := by decide +kernel
theorem dX4_missing_13 : decode cX4_missing 13 = .ok (.iload_n 2, 1) := by decide +kernel
theorem dX4_missing_14 : decode cX4_missing 14 = .ok (.aload_n 0, 1) := by decide +kernel
theorem dX4_missing_15 : decode cX4_missing 15 = .ok (.iload_n 1, 1) := by decide +kernel
theorem dX4_missing_16 : decode cX4_missing 16 = .ok (.iload_n 3, 1) := by decide +kernel
theorem dX4_missing_17 : decode cX4_missing 17 = .ok (.invokevirtual 47, 3) := by decide +kernel
theorem dX4_missing_20 : decode cX4_missing 20 = .ok (.isub, 1) := by decide +kernel
theorem dX4_missing_21 : decode cX4_missing 21 = .ok (.istore_n 2, 1) := by decide +kernel
theorem dX4_missing_22 : decode cX4_missing 22 = .ok (.iinc 3 1, 3) := by decide +kernel
theorem dX4_missing_25 : decode cX4_missing 25 = .ok (.goto (-17), 3) := by decide +kernel
theorem dX4_missing_28 : decode cX4_missing 28 = .ok (.iload_n 2, 1) := by decide +kernel
theorem dX4_missing_29 : decode cX4_missing 29 = .ok (.ireturn, 1) := by decide +kernel
theorem dX4_isOnBill_0 : decode cX4_isOnBill 0 = .ok (.aload_n 0, 1) := by decide +kernel
theorem dX4_isOnBill_1 : decode cX4_isOnBill 1 = .ok (.getfield 21, 3) := by decide +kernel
theorem dX4_isOnBill_4 : decode cX4_isOnBill 4 = .ok (.iload_n 1, 1) := by decide +kernel
theorem dX4_isOnBill_5 : decode cX4_isOnBill 5 = .ok (.iaload, 1) := by decide +kernel
theorem dX4_isOnBill_6 : decode cX4_isOnBill 6 = .ok (.iconst 2, 1) := by decide +kernel
theorem dX4_isOnBill_7 : decode cX4_isOnBill 7 = .ok (.if_icmp .ne 17, 3) := by decide +kernel
theorem dX4_isOnBill_10 : decode cX4_isOnBill 10 = .ok (.aload_n 0, 1) := by decide +kernel
theorem dX4_isOnBill_11 : decode cX4_isOnBill 11 = .ok (.getfield 24, 3) := by decide +kernel
theorem dX4_isOnBill_14 : decode cX4_isOnBill 14 = .ok (.iload_n 1, 1) := by decide +kernel
theorem dX4_isOnBill_15 : decode cX4_isOnBill 15 = .ok (.iaload, 1) := by decide +kernel
theorem dX4_isOnBill_16 : decode cX4_isOnBill 16 = .ok (.iload_n 2, 1) := by decide +kernel
theorem dX4_isOnBill_17 : decode cX4_isOnBill 17 = .ok (.if_icmp .ne 7, 3) := by decide +kernel
theorem dX4_isOnBill_20 : decode cX4_isOnBill 20 = .ok (.iconst 1, 1) := by decide +kernel
theorem dX4_isOnBill_21 : decode cX4_isOnBill 21 = .ok (.goto 4, 3) := by decide +kernel
theorem dX4_isOnBill_24 : decode cX4_isOnBill 24 = .ok (.iconst 0, 1) := by decide +kernel
theorem dX4_isOnBill_25 : decode cX4_isOnBill 25 = .ok (.ireturn, 1) := by decide +kernel
theorem dX4_onBill_0 : decode cX4_onBill 0 = .ok (.iconst 0, 1) := by decide +kernel
theorem dX4_onBill_1 : decode cX4_onBill 1 = .ok (.istore_n 2, 1) := by decide +kernel
theorem dX4_onBill_2 : decode cX4_onBill 2 = .ok (.iconst 0, 1) := by decide +kernel
theorem dX4_onBill_3 : decode cX4_onBill 3 = .ok (.istore_n 3, 1) := by decide +kernel
theorem dX4_onBill_4 : decode cX4_onBill 4 = .ok (.iload_n 3, 1) := by decide +kernel
theorem dX4_onBill_5 : decode cX4_onBill 5 = .ok (.aload_n 0, 1) := by decide +kernel
theorem dX4_onBill_6 : decode cX4_onBill 6 = .ok (.getfield 27, 3) := by decide +kernel
theorem dX4_onBill_9 : decode cX4_onBill 9 = .ok (.if_icmp .ge 26, 3) := by decide +kernel
theorem dX4_onBill_12 : decode cX4_onBill 12 = .ok (.iload_n 2, 1) := by decide +kernel
theorem dX4_onBill_13 : decode cX4_onBill 13 = .ok (.aload_n 0, 1) := by decide +kernel
theorem dX4_onBill_14 : decode cX4_onBill 14 = .ok (.iload_n 3, 1) := by decide +kernel
theorem dX4_onBill_15 : decode cX4_onBill 15 = .ok (.iload_n 1, 1) := by decide +kernel
theorem dX4_onBill_16 : decode cX4_onBill 16 = .ok (.invokevirtual 51, 3) := by decide +kernel
theorem dX4_onBill_19 : decode cX4_onBill 19 = .ok (.ifCond .eq 7, 3) := by decide +kernel
theorem dX4_onBill_22 : decode cX4_onBill 22 = .ok (.iconst 1, 1) := by decide +kernel
theorem dX4_onBill_23 : decode cX4_onBill 23 = .ok (.goto 4, 3) := by decide +kernel
theorem dX4_onBill_26 : decode cX4_onBill 26 = .ok (.iconst 0, 1) := by decide +kernel
theorem dX4_onBill_27 : decode cX4_onBill 27 = .ok (.iadd, 1) := by decide +kernel
theorem dX4_onBill_28 : decode cX4_onBill 28 = .ok (.istore_n 2, 1) := by decide +kernel
theorem dX4_onBill_29 : decode cX4_onBill 29 = .ok (.iinc 3 1, 3) := by decide +kernel
theorem dX4_onBill_32 : decode cX4_onBill 32 = .ok (.goto (-28), 3) := by decide +kernel
theorem dX4_onBill_35 : decode cX4_onBill 35 = .ok (.iload_n 2, 1) := by decide +kernel
theorem dX4_onBill_36 : decode cX4_onBill 36 = .ok (.ireturn, 1) := by decide +kernel
theorem dX4_billOf_0 : decode cX4_billOf 0 = .ok (.iconst 0, 1) := by decide +kernel
theorem dX4_billOf_1 : decode cX4_billOf 1 = .ok (.istore_n 3, 1) := by decide +kernel
theorem dX4_billOf_2 : decode cX4_billOf 2 = .ok (.iconst 0, 1) := by decide +kernel
theorem dX4_billOf_3 : decode cX4_billOf 3 = .ok (.istore 4, 2) := by decide +kernel
theorem dX4_billOf_5 : decode cX4_billOf 5 = .ok (.iload 4, 2) := by decide +kernel
theorem dX4_billOf_7 : decode cX4_billOf 7 = .ok (.aload_n 0, 1) := by decide +kernel
theorem dX4_billOf_8 : decode cX4_billOf 8 = .ok (.getfield 27, 3) := by decide +kernel
theorem dX4_billOf_11 : decode cX4_billOf 11 = .ok (.if_icmp .ge 46, 3) := by decide +kernel
theorem dX4_billOf_14 : decode cX4_billOf 14 = .ok (.aload_n 0, 1) := by decide +kernel
theorem dX4_billOf_15 : decode cX4_billOf 15 = .ok (.getfield 15, 3) := by decide +kernel
theorem dX4_billOf_18 : decode cX4_billOf 18 = .ok (.iload 4, 2) := by decide +kernel
theorem dX4_billOf_20 : decode cX4_billOf 20 = .ok (.iaload, 1) := by decide +kernel
theorem dX4_billOf_21 : decode cX4_billOf 21 = .ok (.istore 5, 2) := by decide +kernel
theorem dX4_billOf_23 : decode cX4_billOf 23 = .ok (.aload_n 0, 1) := by decide +kernel
theorem dX4_billOf_24 : decode cX4_billOf 24 = .ok (.iload 4, 2) := by decide +kernel
theorem dX4_billOf_26 : decode cX4_billOf 26 = .ok (.iload_n 1, 1) := by decide +kernel
theorem dX4_billOf_27 : decode cX4_billOf 27 = .ok (.invokevirtual 51, 3) := by decide +kernel
theorem dX4_billOf_30 : decode cX4_billOf 30 = .ok (.ifCond .eq 21, 3) := by decide +kernel
theorem dX4_billOf_33 : decode cX4_billOf 33 = .ok (.iload 5, 2) := by decide +kernel
theorem dX4_billOf_35 : decode cX4_billOf 35 = .ok (.invokestatic 55, 3) := by decide +kernel
theorem dX4_billOf_38 : decode cX4_billOf 38 = .ok (.ifCond .eq 13, 3) := by decide +kernel
theorem dX4_billOf_41 : decode cX4_billOf 41 = .ok (.iload_n 3, 1) := by decide +kernel
theorem dX4_billOf_42 : decode cX4_billOf 42 = .ok (.aload_n 2, 1) := by decide +kernel
theorem dX4_billOf_43 : decode cX4_billOf 43 = .ok (.getfield 58, 3) := by decide +kernel
theorem dX4_billOf_46 : decode cX4_billOf 46 = .ok (.iload 5, 2) := by decide +kernel
theorem dX4_billOf_48 : decode cX4_billOf 48 = .ok (.iaload, 1) := by decide +kernel
theorem dX4_billOf_49 : decode cX4_billOf 49 = .ok (.iadd, 1) := by decide +kernel
theorem dX4_billOf_50 : decode cX4_billOf 50 = .ok (.istore_n 3, 1) := by decide +kernel
theorem dX4_billOf_51 : decode cX4_billOf 51 = .ok (.iinc 4 1, 3) := by decide +kernel
theorem dX4_billOf_54 : decode cX4_billOf 54 = .ok (.goto (-49), 3) := by decide +kernel
theorem dX4_billOf_57 : decode cX4_billOf 57 = .ok (.iload_n 3, 1) := by decide +kernel
theorem dX4_billOf_58 : decode cX4_billOf 58 = .ok (.ireturn, 1) := by decide +kernel
theorem dX4_clearBill_0 : decode cX4_clearBill 0 = .ok (.iconst 0, 1) := by decide +kernel
theorem dX4_clearBill_1 : decode cX4_clearBill 1 = .ok (.istore 4, 2) := by decide +kernel
theorem dX4_clearBill_3 : decode cX4_clearBill 3 = .ok (.iload 4, 2) := by decide +kernel
theorem dX4_clearBill_5 : decode cX4_clearBill 5 = .ok (.aload_n 0, 1) := by decide +kernel
theorem dX4_clearBill_6 : decode cX4_clearBill 6 = .ok (.getfield 27, 3) := by decide +kernel
theorem dX4_clearBill_9 : decode cX4_clearBill 9 = .ok (.if_icmp .ge 27, 3) := by decide +kernel
theorem dX4_clearBill_12 : decode cX4_clearBill 12 = .ok (.aload_n 0, 1) := by decide +kernel
theorem dX4_clearBill_13 : decode cX4_clearBill 13 = .ok (.iload 4, 2) := by decide +kernel
theorem dX4_clearBill_15 : decode cX4_clearBill 15 = .ok (.iload_n 1, 1) := by decide +kernel
theorem dX4_clearBill_16 : decode cX4_clearBill 16 = .ok (.invokevirtual 51, 3) := by decide +kernel
theorem dX4_clearBill_19 : decode cX4_clearBill 19 = .ok (.ifCond .eq 11, 3) := by decide +kernel
theorem dX4_clearBill_22 : decode cX4_clearBill 22 = .ok (.aload_n 0, 1) := by decide +kernel
theorem dX4_clearBill_23 : decode cX4_clearBill 23 = .ok (.iload 4, 2) := by decide +kernel
theorem dX4_clearBill_25 : decode cX4_clearBill 25 = .ok (.iload_n 2, 1) := by decide +kernel
theorem dX4_clearBill_26 : decode cX4_clearBill 26 = .ok (.iload_n 3, 1) := by decide +kernel
theorem dX4_clearBill_27 : decode cX4_clearBill 27 = .ok (.invokevirtual 35, 3) := by decide +kernel
theorem dX4_clearBill_30 : decode cX4_clearBill 30 = .ok (.iinc 4 1, 3) := by decide +kernel
theorem dX4_clearBill_33 : decode cX4_clearBill 33 = .ok (.goto (-30), 3) := by decide +kernel
theorem dX4_clearBill_36 : decode cX4_clearBill 36 = .ok (.return_, 1) := by decide +kernel
theorem dX4_copy_0 : decode cX4_copy 0 = .ok (.aload_n 1, 1) := by decide +kernel
theorem dX4_copy_1 : decode cX4_copy 1 = .ok (.getfield 27, 3) := by decide +kernel
theorem dX4_copy_4 : decode cX4_copy 4 = .ok (.sipush 300, 3) := by decide +kernel
theorem dX4_copy_7 : decode cX4_copy 7 = .ok (.invokestatic 63, 3) := by decide +kernel
theorem dX4_copy_10 : decode cX4_copy 10 = .ok (.istore_n 2, 1) := by decide +kernel
theorem dX4_copy_11 : decode cX4_copy 11 = .ok (.iload_n 2, 1) := by decide +kernel
theorem dX4_copy_12 : decode cX4_copy 12 = .ok (.ifCond .ge 4, 3) := by decide +kernel
theorem dX4_copy_15 : decode cX4_copy 15 = .ok (.return_, 1) := by decide +kernel
theorem dX4_copy_16 : decode cX4_copy 16 = .ok (.aload_n 1, 1) := by decide +kernel
theorem dX4_copy_17 : decode cX4_copy 17 = .ok (.getfield 9, 3) := by decide +kernel
theorem dX4_copy_20 : decode cX4_copy 20 = .ok (.iconst 0, 1) := by decide +kernel
theorem dX4_copy_21 : decode cX4_copy 21 = .ok (.aload_n 0, 1) := by decide +kernel
theorem dX4_copy_22 : decode cX4_copy 22 = .ok (.getfield 9, 3) := by decide +kernel
theorem dX4_copy_25 : decode cX4_copy 25 = .ok (.iconst 0, 1) := by decide +kernel
theorem dX4_copy_26 : decode cX4_copy 26 = .ok (.iload_n 2, 1) := by decide +kernel
theorem dX4_copy_27 : decode cX4_copy 27 = .ok (.invokestatic 68, 3) := by decide +kernel
theorem dX4_copy_30 : decode cX4_copy 30 = .ok (.aload_n 1, 1) := by decide +kernel
theorem dX4_copy_31 : decode cX4_copy 31 = .ok (.getfield 15, 3) := by decide +kernel
theorem dX4_copy_34 : decode cX4_copy 34 = .ok (.iconst 0, 1) := by decide +kernel
theorem dX4_copy_35 : decode cX4_copy 35 = .ok (.aload_n 0, 1) := by decide +kernel
theorem dX4_copy_36 : decode cX4_copy 36 = .ok (.getfield 15, 3) := by decide +kernel
theorem dX4_copy_39 : decode cX4_copy 39 = .ok (.iconst 0, 1) := by decide +kernel
theorem dX4_copy_40 : decode cX4_copy 40 = .ok (.iload_n 2, 1) := by decide +kernel
theorem dX4_copy_41 : decode cX4_copy 41 = .ok (.invokestatic 68, 3) := by decide +kernel
theorem dX4_copy_44 : decode cX4_copy 44 = .ok (.aload_n 1, 1) := by decide +kernel
theorem dX4_copy_45 : decode cX4_copy 45 = .ok (.getfield 18, 3) := by decide +kernel
theorem dX4_copy_48 : decode cX4_copy 48 = .ok (.iconst 0, 1) := by decide +kernel
theorem dX4_copy_49 : decode cX4_copy 49 = .ok (.aload_n 0, 1) := by decide +kernel
theorem dX4_copy_50 : decode cX4_copy 50 = .ok (.getfield 18, 3) := by decide +kernel
theorem dX4_copy_53 : decode cX4_copy 53 = .ok (.iconst 0, 1) := by decide +kernel
theorem dX4_copy_54 : decode cX4_copy 54 = .ok (.iload_n 2, 1) := by decide +kernel
theorem dX4_copy_55 : decode cX4_copy 55 = .ok (.invokestatic 68, 3) := by decide +kernel
theorem dX4_copy_58 : decode cX4_copy 58 = .ok (.aload_n 1, 1) := by decide +kernel
theorem dX4_copy_59 : decode cX4_copy 59 = .ok (.getfield 21, 3) := by decide +kernel
theorem dX4_copy_62 : decode cX4_copy 62 = .ok (.iconst 0, 1) := by decide +kernel
theorem dX4_copy_63 : decode cX4_copy 63 = .ok (.aload_n 0, 1) := by decide +kernel
theorem dX4_copy_64 : decode cX4_copy 64 = .ok (.getfield 21, 3) := by decide +kernel
theorem dX4_copy_67 : decode cX4_copy 67 = .ok (.iconst 0, 1) := by decide +kernel
theorem dX4_copy_68 : decode cX4_copy 68 = .ok (.iload_n 2, 1) := by decide +kernel
theorem dX4_copy_69 : decode cX4_copy 69 = .ok (.invokestatic 68, 3) := by decide +kernel
theorem dX4_copy_72 : decode cX4_copy 72 = .ok (.aload_n 1, 1) := by decide +kernel
theorem dX4_copy_73 : decode cX4_copy 73 = .ok (.getfield 24, 3) := by decide +kernel
theorem dX4_copy_76 : decode cX4_copy 76 = .ok (.iconst 0, 1) := by decide +kernel
theorem dX4_copy_77 : decode cX4_copy 77 = .ok (.aload_n 0, 1) := by decide +kernel
theorem dX4_copy_78 : decode cX4_copy 78 = .ok (.getfield 24, 3) := by decide +kernel
theorem dX4_copy_81 : decode cX4_copy 81 = .ok (.iconst 0, 1) := by decide +kernel
theorem dX4_copy_82 : decode cX4_copy 82 = .ok (.iload_n 2, 1) := by decide +kernel
theorem dX4_copy_83 : decode cX4_copy 83 = .ok (.invokestatic 68, 3) := by decide +kernel
theorem dX4_copy_86 : decode cX4_copy 86 = .ok (.aload_n 0, 1) := by decide +kernel
theorem dX4_copy_87 : decode cX4_copy 87 = .ok (.iload_n 2, 1) := by decide +kernel
theorem dX4_copy_88 : decode cX4_copy 88 = .ok (.putfield 27, 3) := by decide +kernel
theorem dX4_copy_91 : decode cX4_copy 91 = .ok (.return_, 1) := by decide +kernel
theorem dX5_init_0 : decode cX5_init 0 = .ok (.aload_n 0, 1) := by decide +kernel
theorem dX5_init_1 : decode cX5_init 1 = .ok (.invokespecial 3, 3) := by decide +kernel
theorem dX5_init_4 : decode cX5_init 4 = .ok (.aload_n 0, 1) := by decide +kernel
theorem dX5_init_5 : decode cX5_init 5 = .ok (.sipush 160, 3) := by decide +kernel
theorem dX5_init_8 : decode cX5_init 8 = .ok (.newarray .int, 2) := by decide +kernel
theorem dX5_init_10 : decode cX5_init 10 = .ok (.putfield 9, 3) := by decide +kernel
theorem dX5_init_13 : decode cX5_init 13 = .ok (.aload_n 0, 1) := by decide +kernel
theorem dX5_init_14 : decode cX5_init 14 = .ok (.iconst 0, 1) := by decide +kernel
theorem dX5_init_15 : decode cX5_init 15 = .ok (.putfield 15, 3) := by decide +kernel
theorem dX5_init_18 : decode cX5_init 18 = .ok (.aload_n 0, 1) := by decide +kernel
theorem dX5_init_19 : decode cX5_init 19 = .ok (.sipush 160, 3) := by decide +kernel
theorem dX5_init_22 : decode cX5_init 22 = .ok (.newarray .int, 2) := by decide +kernel
theorem dX5_init_24 : decode cX5_init 24 = .ok (.putfield 19, 3) := by decide +kernel
theorem dX5_init_27 : decode cX5_init 27 = .ok (.aload_n 0, 1) := by decide +kernel
theorem dX5_init_28 : decode cX5_init 28 = .ok (.sipush 160, 3) := by decide +kernel
theorem dX5_init_31 : decode cX5_init 31 = .ok (.newarray .int, 2) := by decide +kernel
theorem dX5_init_33 : decode cX5_init 33 = .ok (.putfield 22, 3) := by decide +kernel
theorem dX5_init_36 : decode cX5_init 36 = .ok (.aload_n 0, 1) := by decide +kernel
theorem dX5_init_37 : decode cX5_init 37 = .ok (.sipush 160, 3) := by decide +kernel
theorem dX5_init_40 : decode cX5_init 40 = .ok (.newarray .int, 2) := by decide +kernel
theorem dX5_init_42 : decode cX5_init 42 = .ok (.putfield 25, 3) := by decide +kernel
theorem dX5_init_45 : decode cX5_init 45 = .ok (.aload_n 0, 1) := by decide +kernel
theorem dX5_init_46 : decode cX5_init 46 = .ok (.iconst 0, 1) := by decide +kernel
theorem dX5_init_47 : decode cX5_init 47 = .ok (.putfield 28, 3) := by decide +kernel
theorem dX5_init_50 : decode cX5_init 50 = .ok (.aload_n 0, 1) := by decide +kernel
theorem dX5_init_51 : decode cX5_init 51 = .ok (.iconst 0, 1) := by decide +kernel
theorem dX5_init_52 : decode cX5_init 52 = .ok (.putfield 31, 3) := by decide +kernel
theorem dX5_init_55 : decode cX5_init 55 = .ok (.aload_n 0, 1) := by decide +kernel
theorem dX5_init_56 : decode cX5_init 56 = .ok (.sipush 160, 3) := by decide +kernel
theorem dX5_init_59 : decode cX5_init 59 = .ok (.newarray .int, 2) := by decide +kernel
theorem dX5_init_61 : decode cX5_init 61 = .ok (.putfield 34, 3) := by decide +kernel
theorem dX5_init_64 : decode cX5_init 64 = .ok (.aload_n 0, 1) := by decide +kernel
theorem dX5_init_65 : decode cX5_init 65 = .ok (.iconst 0, 1) := by decide +kernel
theorem dX5_init_66 : decode cX5_init 66 = .ok (.putfield 37, 3) := by decide +kernel
theorem dX5_init_69 : decode cX5_init 69 = .ok (.aload_n 0, 1) := by decide +kernel
theorem dX5_init_70 : decode cX5_init 70 = .ok (.iconst 0, 1) := by decide +kernel
theorem dX5_init_71 : decode cX5_init 71 = .ok (.putfield 40, 3) := by decide +kernel
theorem dX5_init_74 : decode cX5_init 74 = .ok (.aload_n 0, 1) := by decide +kernel
theorem dX5_init_75 : decode cX5_init 75 = .ok (.iconst 0, 1) := by decide +kernel
theorem dX5_init_76 : decode cX5_init 76 = .ok (.putfield 43, 3) := by decide +kernel
theorem dX5_init_79 : decode cX5_init 79 = .ok (.return_, 1) := by decide +kernel
theorem dX5_append_0 : decode cX5_append 0 = .ok (.iload_n 1, 1) := by decide +kernel
theorem dX5_append_1 : decode cX5_append 1 = .ok (.ifCond .lt 15, 3) := by decide +kernel
theorem dX5_append_4 : decode cX5_append 4 = .ok (.iload_n 1, 1) := by decide +kernel
theorem dX5_append_5 : decode cX5_append 5 = .ok (.sipush 160, 3) := by decide +kernel
theorem dX5_append_8 : decode cX5_append 8 = .ok (.aload_n 0, 1) := by decide +kernel
theorem dX5_append_9 : decode cX5_append 9 = .ok (.getfield 15, 3) := by decide +kernel
theorem dX5_append_12 : decode cX5_append 12 = .ok (.isub, 1) := by decide +kernel
theorem dX5_append_13 : decode cX5_append 13 = .ok (.if_icmp .le 6, 3) := by decide +kernel
theorem dX5_append_16 : decode cX5_append 16 = .ok (.bipush (-4), 2) := by decide +kernel
theorem dX5_append_18 : decode cX5_append 18 = .ok (.ireturn, 1) := by decide +kernel
theorem dX5_append_19 : decode cX5_append 19 = .ok (.iconst 0, 1) := by decide +kernel
theorem dX5_append_20 : decode cX5_append 20 = .ok (.istore 4, 2) := by decide +kernel
theorem dX5_append_22 : decode cX5_append 22 = .ok (.iload 4, 2) := by decide +kernel
theorem dX5_append_24 : decode cX5_append 24 = .ok (.iload_n 1, 1) := by decide +kernel
theorem dX5_append_25 : decode cX5_append 25 = .ok (.if_icmp .ge 40, 3) := by decide +kernel
theorem dX5_append_28 : decode cX5_append 28 = .ok (.aload_n 0, 1) := by decide +kernel
theorem dX5_append_29 : decode cX5_append 29 = .ok (.getfield 9, 3) := by decide +kernel
theorem dX5_append_32 : decode cX5_append 32 = .ok (.aload_n 0, 1) := by decide +kernel
theorem dX5_append_33 : decode cX5_append 33 = .ok (.getfield 15, 3) := by decide +kernel
theorem dX5_append_36 : decode cX5_append 36 = .ok (.lload_n 2, 1) := by decide +kernel
theorem dX5_append_37 : decode cX5_append 37 = .ok (.bipush 8, 2) := by decide +kernel
theorem dX5_append_39 : decode cX5_append 39 = .ok (.iload 4, 2) := by decide +kernel
theorem dX5_append_41 : decode cX5_append 41 = .ok (.imul, 1) := by decide +kernel
theorem dX5_append_42 : decode cX5_append 42 = .ok (.lushr, 1) := by decide +kernel
theorem dX5_append_43 : decode cX5_append 43 = .ok (.l2i, 1) := by decide +kernel
theorem dX5_append_44 : decode cX5_append 44 = .ok (.sipush 255, 3) := by decide +kernel
theorem dX5_append_47 : decode cX5_append 47 = .ok (.iand, 1) := by decide +kernel
theorem dX5_append_48 : decode cX5_append 48 = .ok (.iastore, 1) := by decide +kernel
theorem dX5_append_49 : decode cX5_append 49 = .ok (.aload_n 0, 1) := by decide +kernel
theorem dX5_append_50 : decode cX5_append 50 = .ok (.dup, 1) := by decide +kernel
theorem dX5_append_51 : decode cX5_append 51 = .ok (.getfield 15, 3) := by decide +kernel
theorem dX5_append_54 : decode cX5_append 54 = .ok (.iconst 1, 1) := by decide +kernel
theorem dX5_append_55 : decode cX5_append 55 = .ok (.iadd, 1) := by decide +kernel
theorem dX5_append_56 : decode cX5_append 56 = .ok (.putfield 15, 3) := by decide +kernel
theorem dX5_append_59 : decode cX5_append 59 = .ok (.iinc 4 1, 3) := by decide +kernel
theorem dX5_append_62 : decode cX5_append 62 = .ok (.goto (-40), 3) := by decide +kernel
theorem dX5_append_65 : decode cX5_append 65 = .ok (.aload_n 0, 1) := by decide +kernel
theorem dX5_append_66 : decode cX5_append 66 = .ok (.getfield 15, 3) := by decide +kernel
theorem dX5_append_69 : decode cX5_append 69 = .ok (.ireturn, 1) := by decide +kernel
theorem dX5_readAll_0 : decode cX5_readAll 0 = .ok (.aload_n 0, 1) := by decide +kernel
theorem dX5_readAll_1 : decode cX5_readAll 1 = .ok (.invokevirtual 46, 3) := by decide +kernel
theorem dX5_readAll_4 : decode cX5_readAll 4 = .ok (.aload_n 0, 1) := by decide +kernel
theorem dX5_readAll_5 : decode cX5_readAll 5 = .ok (.iconst 0, 1) := by decide +kernel
theorem dX5_readAll_6 : decode cX5_readAll 6 = .ok (.putfield 31, 3) := by decide +kernel
theorem dX5_readAll_9 : decode cX5_readAll 9 = .ok (.aload_n 0, 1) := by decide +kernel
theorem dX5_readAll_10 : decode cX5_readAll 10 = .ok (.iconst 0, 1) := by decide +kernel
theorem dX5_readAll_11 : decode cX5_readAll 11 = .ok (.putfield 37, 3) := by decide +kernel
theorem dX5_readAll_14 : decode cX5_readAll 14 = .ok (.aload_n 0, 1) := by decide +kernel
theorem dX5_readAll_15 : decode cX5_readAll 15 = .ok (.bipush (-5), 2) := by decide +kernel
theorem dX5_readAll_17 : decode cX5_readAll 17 = .ok (.invokevirtual 49, 3) := by decide +kernel
theorem dX5_readAll_20 : decode cX5_readAll 20 = .ok (.ifCond .eq 11, 3) := by decide +kernel
theorem dX5_readAll_23 : decode cX5_readAll 23 = .ok (.aload_n 0, 1) := by decide +kernel
theorem dX5_readAll_24 : decode cX5_readAll 24 = .ok (.iconst 0, 1) := by decide +kernel
theorem dX5_readAll_25 : decode cX5_readAll 25 = .ok (.invokevirtual 53, 3) := by decide +kernel
theorem dX5_readAll_28 : decode cX5_readAll 28 = .ok (.ifCond .ne 5, 3) := by decide +kernel
theorem dX5_readAll_31 : decode cX5_readAll 31 = .ok (.iconst 0, 1) := by decide +kernel
theorem dX5_readAll_32 : decode cX5_readAll 32 = .ok (.ireturn, 1) := by decide +kernel
theorem dX5_readAll_33 : decode cX5_readAll 33 = .ok (.aload_n 0, 1) := by decide +kernel
theorem dX5_readAll_34 : decode cX5_readAll 34 = .ok (.aload_n 0, 1) := by decide +kernel
theorem dX5_readAll_35 : decode cX5_readAll 35 = .ok (.getfield 37, 3) := by decide +kernel
theorem dX5_readAll_38 : decode cX5_readAll 38 = .ok (.putfield 40, 3) := by decide +kernel
theorem dX5_readAll_41 : decode cX5_readAll 41 = .ok (.aload_n 0, 1) := by decide +kernel
theorem dX5_readAll_42 : decode cX5_readAll 42 = .ok (.bipush 59, 2) := by decide +kernel
theorem dX5_readAll_44 : decode cX5_readAll 44 = .ok (.invokevirtual 49, 3) := by decide +kernel
theorem dX5_readAll_47 : decode cX5_readAll 47 = .ok (.ifCond .eq 41, 3) := by decide +kernel
theorem dX5_readAll_50 : decode cX5_readAll 50 = .ok (.aload_n 0, 1) := by decide +kernel
theorem dX5_readAll_51 : decode cX5_readAll 51 = .ok (.bipush (-6), 2) := by decide +kernel
theorem dX5_readAll_53 : decode cX5_readAll 53 = .ok (.invokevirtual 49, 3) := by decide +kernel
theorem dX5_readAll_56 : decode cX5_readAll 56 = .ok (.ifCond .eq 32, 3) := by decide +kernel
theorem dX5_readAll_59 : decode cX5_readAll 59 = .ok (.aload_n 0, 1) := by decide +kernel
theorem dX5_readAll_60 : decode cX5_readAll 60 = .ok (.iconst 0, 1) := by decide +kernel
theorem dX5_readAll_61 : decode cX5_readAll 61 = .ok (.invokevirtual 53, 3) := by decide +kernel
theorem dX5_readAll_64 : decode cX5_readAll 64 = .ok (.ifCond .eq 24, 3) := by decide +kernel
theorem dX5_readAll_67 : decode cX5_readAll 67 = .ok (.aload_n 0, 1) := by decide +kernel
theorem dX5_readAll_68 : decode cX5_readAll 68 = .ok (.bipush 59, 2) := by decide +kernel
theorem dX5_readAll_70 : decode cX5_readAll 70 = .ok (.invokevirtual 49, 3) := by decide +kernel
theorem dX5_readAll_73 : decode cX5_readAll 73 = .ok (.ifCond .eq 15, 3) := by decide +kernel
theorem dX5_readAll_76 : decode cX5_readAll 76 = .ok (.aload_n 0, 1) := by decide +kernel
theorem dX5_readAll_77 : decode cX5_readAll 77 = .ok (.iconst (-1), 1) := by decide +kernel
theorem dX5_readAll_78 : decode cX5_readAll 78 = .ok (.invokevirtual 49, 3) := by decide +kernel
theorem dX5_readAll_81 : decode cX5_readAll 81 = .ok (.ifCond .eq 7, 3) := by decide +kernel
theorem dX5_readAll_84 : decode cX5_readAll 84 = .ok (.iconst 1, 1) := by decide +kernel
theorem dX5_readAll_85 : decode cX5_readAll 85 = .ok (.goto 4, 3) := by decide +kernel
theorem dX5_readAll_88 : decode cX5_readAll 88 = .ok (.iconst 0, 1) := by decide +kernel
theorem dX5_readAll_89 : decode cX5_readAll 89 = .ok (.ireturn, 1) := by decide +kernel
theorem dX5_copyOfText_0 : decode cX5_copyOfText 0 = .ok (.iconst 0, 1) := by decide +kernel
theorem dX5_copyOfText_1 : decode cX5_copyOfText 1 = .ok (.aload_n 0, 1) := by decide +kernel
theorem dX5_copyOfText_2 : decode cX5_copyOfText 2 = .ok (.getfield 40, 3) := by decide +kernel
theorem dX5_copyOfText_5 : decode cX5_copyOfText 5 = .ok (.aload_n 0, 1) := by decide +kernel
theorem dX5_copyOfText_6 : decode cX5_copyOfText 6 = .ok (.getfield 34, 3) := by decide +kernel
theorem dX5_copyOfText_9 : decode cX5_copyOfText 9 = .ok (.arraylength, 1) := by decide +kernel
theorem dX5_copyOfText_10 : decode cX5_copyOfText 10 = .ok (.invokestatic 56, 3) := by decide +kernel
theorem dX5_copyOfText_13 : decode cX5_copyOfText 13 = .ok (.invokestatic 62, 3) := by decide +kernel
theorem dX5_copyOfText_16 : decode cX5_copyOfText 16 = .ok (.istore_n 1, 1) := by decide +kernel
theorem dX5_copyOfText_17 : decode cX5_copyOfText 17 = .ok (.iload_n 1, 1) := by decide +kernel
theorem dX5_copyOfText_18 : decode cX5_copyOfText 18 = .ok (.aload_n 0, 1) := by decide +kernel
theorem dX5_copyOfText_19 : decode cX5_copyOfText 19 = .ok (.getfield 37, 3) := by decide +kernel
theorem dX5_copyOfText_22 : decode cX5_copyOfText 22 = .ok (.aload_n 0, 1) := by decide +kernel
theorem dX5_copyOfText_23 : decode cX5_copyOfText 23 = .ok (.getfield 34, 3) := by decide +kernel
theorem dX5_copyOfText_26 : decode cX5_copyOfText 26 = .ok (.arraylength, 1) := by decide +kernel
theorem dX5_copyOfText_27 : decode cX5_copyOfText 27 = .ok (.invokestatic 56, 3) := by decide +kernel
theorem dX5_copyOfText_30 : decode cX5_copyOfText 30 = .ok (.invokestatic 62, 3) := by decide +kernel
theorem dX5_copyOfText_33 : decode cX5_copyOfText 33 = .ok (.istore_n 2, 1) := by decide +kernel
theorem dX5_copyOfText_34 : decode cX5_copyOfText 34 = .ok (.new 65, 3) := by decide +kernel
theorem dX5_copyOfText_37 : decode cX5_copyOfText 37 = .ok (.dup, 1) := by decide +kernel
theorem dX5_copyOfText_38 : decode cX5_copyOfText 38 = .ok (.aload_n 0, 1) := by decide +kernel
theorem dX5_copyOfText_39 : decode cX5_copyOfText 39 = .ok (.getfield 34, 3) := by decide +kernel
theorem dX5_copyOfText_42 : decode cX5_copyOfText 42 = .ok (.iconst 0, 1) := by decide +kernel
theorem dX5_copyOfText_43 : decode cX5_copyOfText 43 = .ok (.iload_n 1, 1) := by decide +kernel
theorem dX5_copyOfText_44 : decode cX5_copyOfText 44 = .ok (.invokestatic 67, 3) := by decide +kernel
theorem dX5_copyOfText_47 : decode cX5_copyOfText 47 = .ok (.aload_n 0, 1) := by decide +kernel
theorem dX5_copyOfText_48 : decode cX5_copyOfText 48 = .ok (.getfield 34, 3) := by decide +kernel
theorem dX5_copyOfText_51 : decode cX5_copyOfText 51 = .ok (.iload_n 1, 1) := by decide +kernel
theorem dX5_copyOfText_52 : decode cX5_copyOfText 52 = .ok (.iload_n 2, 1) := by decide +kernel
theorem dX5_copyOfText_53 : decode cX5_copyOfText 53 = .ok (.invokestatic 67, 3) := by decide +kernel
theorem dX5_copyOfText_56 : decode cX5_copyOfText 56 = .ok (.invokespecial 73, 3) := by decide +kernel
theorem dX5_copyOfText_59 : decode cX5_copyOfText 59 = .ok (.areturn, 1) := by decide +kernel
theorem dX5_token_0 : decode cX5_token 0 = .ok (.aload_n 0, 1) := by decide +kernel
theorem dX5_token_1 : decode cX5_token 1 = .ok (.getfield 31, 3) := by decide +kernel
theorem dX5_token_4 : decode cX5_token 4 = .ok (.ifCond .lt 26, 3) := by decide +kernel
theorem dX5_token_7 : decode cX5_token 7 = .ok (.aload_n 0, 1) := by decide +kernel
theorem dX5_token_8 : decode cX5_token 8 = .ok (.getfield 31, 3) := by decide +kernel
theorem dX5_token_11 : decode cX5_token 11 = .ok (.aload_n 0, 1) := by decide +kernel
theorem dX5_token_12 : decode cX5_token 12 = .ok (.getfield 28, 3) := by decide +kernel
theorem dX5_token_15 : decode cX5_token 15 = .ok (.if_icmp .ge 15, 3) := by decide +kernel
theorem dX5_token_18 : decode cX5_token 18 = .ok (.aload_n 0, 1) := by decide +kernel
theorem dX5_token_19 : decode cX5_token 19 = .ok (.getfield 19, 3) := by decide +kernel
theorem dX5_token_22 : decode cX5_token 22 = .ok (.aload_n 0, 1) := by decide +kernel
theorem dX5_token_23 : decode cX5_token 23 = .ok (.getfield 31, 3) := by decide +kernel
theorem dX5_token_26 : decode cX5_token 26 = .ok (.iaload, 1) := by decide +kernel
theorem dX5_token_27 : decode cX5_token 27 = .ok (.goto 4, 3) := by decide +kernel
theorem dX5_token_30 : decode cX5_token 30 = .ok (.iconst (-1), 1) := by decide +kernel
theorem dX5_token_31 : decode cX5_token 31 = .ok (.ireturn, 1) := by decide +kernel
theorem dX5_fail_0 : decode cX5_fail 0 = .ok (.aload_n 0, 1) := by decide +kernel
theorem dX5_fail_1 : decode cX5_fail 1 = .ok (.aload_n 0, 1) := by decide +kernel
theorem dX5_fail_2 : decode cX5_fail 2 = .ok (.getfield 31, 3) := by decide +kernel
theorem dX5_fail_5 : decode cX5_fail 5 = .ok (.ifCond .lt 26, 3) := by decide +kernel
theorem dX5_fail_8 : decode cX5_fail 8 = .ok (.aload_n 0, 1) := by decide +kernel
theorem dX5_fail_9 : decode cX5_fail 9 = .ok (.getfield 31, 3) := by decide +kernel
theorem dX5_fail_12 : decode cX5_fail 12 = .ok (.aload_n 0, 1) := by decide +kernel
theorem dX5_fail_13 : decode cX5_fail 13 = .ok (.getfield 28, 3) := by decide +kernel
theorem dX5_fail_16 : decode cX5_fail 16 = .ok (.if_icmp .ge 15, 3) := by decide +kernel
theorem dX5_fail_19 : decode cX5_fail 19 = .ok (.aload_n 0, 1) := by decide +kernel
theorem dX5_fail_20 : decode cX5_fail 20 = .ok (.getfield 22, 3) := by decide +kernel
theorem dX5_fail_23 : decode cX5_fail 23 = .ok (.aload_n 0, 1) := by decide +kernel
theorem dX5_fail_24 : decode cX5_fail 24 = .ok (.getfield 31, 3) := by decide +kernel
theorem dX5_fail_27 : decode cX5_fail 27 = .ok (.iaload, 1) := by decide +kernel
theorem dX5_fail_28 : decode cX5_fail 28 = .ok (.goto 7, 3) := by decide +kernel
theorem dX5_fail_31 : decode cX5_fail 31 = .ok (.aload_n 0, 1) := by decide +kernel
theorem dX5_fail_32 : decode cX5_fail 32 = .ok (.getfield 15, 3) := by decide +kernel
theorem dX5_fail_35 : decode cX5_fail 35 = .ok (.putfield 43, 3) := by decide +kernel
theorem dX5_fail_38 : decode cX5_fail 38 = .ok (.iconst 0, 1) := by decide +kernel
theorem dX5_fail_39 : decode cX5_fail 39 = .ok (.ireturn, 1) := by decide +kernel
theorem dX5_pass_0 : decode cX5_pass 0 = .ok (.aload_n 0, 1) := by decide +kernel
theorem dX5_pass_1 : decode cX5_pass 1 = .ok (.invokevirtual 76, 3) := by decide +kernel
theorem dX5_pass_4 : decode cX5_pass 4 = .ok (.iload_n 1, 1) := by decide +kernel
theorem dX5_pass_5 : decode cX5_pass 5 = .ok (.if_icmp .eq 8, 3) := by decide +kernel
theorem dX5_pass_8 : decode cX5_pass 8 = .ok (.aload_n 0, 1) := by decide +kernel
theorem dX5_pass_9 : decode cX5_pass 9 = .ok (.invokevirtual 80, 3) := by decide +kernel
theorem dX5_pass_12 : decode cX5_pass 12 = .ok (.ireturn, 1) := by decide +kernel
theorem dX5_pass_13 : decode cX5_pass 13 = .ok (.aload_n 0, 1) := by decide +kernel
theorem dX5_pass_14 : decode cX5_pass 14 = .ok (.dup, 1) := by decide +kernel
theorem dX5_pass_15 : decode cX5_pass 15 = .ok (.getfield 31, 3) := by decide +kernel
theorem dX5_pass_18 : decode cX5_pass 18 = .ok (.iconst 1, 1) := by decide +kernel
theorem dX5_pass_19 : decode cX5_pass 19 = .ok (.iadd, 1) := by decide +kernel
theorem dX5_pass_20 : decode cX5_pass 20 = .ok (.putfield 31, 3) := by decide +kernel
theorem dX5_pass_23 : decode cX5_pass 23 = .ok (.iconst 1, 1) := by decide +kernel
theorem dX5_pass_24 : decode cX5_pass 24 = .ok (.ireturn, 1) := by decide +kernel
theorem dX5_write_0 : decode cX5_write 0 = .ok (.aload_n 0, 1) := by decide +kernel
theorem dX5_write_1 : decode cX5_write 1 = .ok (.getfield 37, 3) := by decide +kernel
theorem dX5_write_4 : decode cX5_write 4 = .ok (.aload_n 0, 1) := by decide +kernel
theorem dX5_write_5 : decode cX5_write 5 = .ok (.getfield 34, 3) := by decide +kernel
theorem dX5_write_8 : decode cX5_write 8 = .ok (.arraylength, 1) := by decide +kernel
theorem dX5_write_9 : decode cX5_write 9 = .ok (.if_icmp .ge 23, 3) := by decide +kernel
theorem dX5_write_12 : decode cX5_write 12 = .ok (.aload_n 0, 1) := by decide +kernel
theorem dX5_write_13 : decode cX5_write 13 = .ok (.getfield 34, 3) := by decide +kernel
theorem dX5_write_16 : decode cX5_write 16 = .ok (.aload_n 0, 1) := by decide +kernel
theorem dX5_write_17 : decode cX5_write 17 = .ok (.getfield 37, 3) := by decide +kernel
theorem dX5_write_20 : decode cX5_write 20 = .ok (.iload_n 1, 1) := by decide +kernel
theorem dX5_write_21 : decode cX5_write 21 = .ok (.iastore, 1) := by decide +kernel
theorem dX5_write_22 : decode cX5_write 22 = .ok (.aload_n 0, 1) := by decide +kernel
theorem dX5_write_23 : decode cX5_write 23 = .ok (.dup, 1) := by decide +kernel
theorem dX5_write_24 : decode cX5_write 24 = .ok (.getfield 37, 3) := by decide +kernel
theorem dX5_write_27 : decode cX5_write 27 = .ok (.iconst 1, 1) := by decide +kernel
theorem dX5_write_28 : decode cX5_write 28 = .ok (.iadd, 1) := by decide +kernel
theorem dX5_write_29 : decode cX5_write 29 = .ok (.putfield 37, 3) := by decide +kernel
theorem dX5_write_32 : decode cX5_write 32 = .ok (.return_, 1) := by decide +kernel
theorem dX5_readEither_0 : decode cX5_readEither 0 = .ok (.aload_n 0, 1) := by decide +kernel
theorem dX5_readEither_1 : decode cX5_readEither 1 = .ok (.iload_n 1, 1) := by decide +kernel
theorem dX5_readEither_2 : decode cX5_readEither 2 = .ok (.invokevirtual 84, 3) := by decide +kernel
theorem dX5_readEither_5 : decode cX5_readEither 5 = .ok (.istore_n 2, 1) := by decide +kernel
theorem dX5_readEither_6 : decode cX5_readEither 6 = .ok (.iconst 0, 1) := by decide +kernel
theorem dX5_readEither_7 : decode cX5_readEither 7 = .ok (.istore_n 3, 1) := by decide +kernel
theorem dX5_readEither_8 : decode cX5_readEither 8 = .ok (.iload_n 3, 1) := by decide +kernel
theorem dX5_readEither_9 : decode cX5_readEither 9 = .ok (.sipush 160, 3) := by decide +kernel
theorem dX5_readEither_12 : decode cX5_readEither 12 = .ok (.if_icmp .ge 44, 3) := by decide +kernel
theorem dX5_readEither_15 : decode cX5_readEither 15 = .ok (.iload_n 2, 1) := by decide +kernel
theorem dX5_readEither_16 : decode cX5_readEither 16 = .ok (.ifCond .eq 40, 3) := by decide +kernel
theorem dX5_readEither_19 : decode cX5_readEither 19 = .ok (.aload_n 0, 1) := by decide +kernel
theorem dX5_readEither_20 : decode cX5_readEither 20 = .ok (.invokevirtual 76, 3) := by decide +kernel
theorem dX5_readEither_23 : decode cX5_readEither 23 = .ok (.bipush (-7), 2) := by decide +kernel
theorem dX5_readEither_25 : decode cX5_readEither 25 = .ok (.if_icmp .ne 31, 3) := by decide +kernel
theorem dX5_readEither_28 : decode cX5_readEither 28 = .ok (.aload_n 0, 1) := by decide +kernel
theorem dX5_readEither_29 : decode cX5_readEither 29 = .ok (.dup, 1) := by decide +kernel
theorem dX5_readEither_30 : decode cX5_readEither 30 = .ok (.getfield 31, 3) := by decide +kernel
theorem dX5_readEither_33 : decode cX5_readEither 33 = .ok (.iconst 1, 1) := by decide +kernel
theorem dX5_readEither_34 : decode cX5_readEither 34 = .ok (.iadd, 1) := by decide +kernel
theorem dX5_readEither_35 : decode cX5_readEither 35 = .ok (.putfield 31, 3) := by decide +kernel
theorem dX5_readEither_38 : decode cX5_readEither 38 = .ok (.aload_n 0, 1) := by decide +kernel
theorem dX5_readEither_39 : decode cX5_readEither 39 = .ok (.iload_n 1, 1) := by decide +kernel
theorem dX5_readEither_40 : decode cX5_readEither 40 = .ok (.invokevirtual 84, 3) := by decide +kernel
theorem dX5_readEither_43 : decode cX5_readEither 43 = .ok (.istore_n 2, 1) := by decide +kernel
theorem dX5_readEither_44 : decode cX5_readEither 44 = .ok (.aload_n 0, 1) := by decide +kernel
theorem dX5_readEither_45 : decode cX5_readEither 45 = .ok (.bipush (-9), 2) := by decide +kernel
theorem dX5_readEither_47 : decode cX5_readEither 47 = .ok (.invokevirtual 87, 3) := by decide +kernel
theorem dX5_readEither_50 : decode cX5_readEither 50 = .ok (.iinc 3 1, 3) := by decide +kernel
theorem dX5_readEither_53 : decode cX5_readEither 53 = .ok (.goto (-45), 3) := by decide +kernel
theorem dX5_readEither_56 : decode cX5_readEither 56 = .ok (.iload_n 2, 1) := by decide +kernel
theorem dX5_readEither_57 : decode cX5_readEither 57 = .ok (.ireturn, 1) := by decide +kernel
theorem dX5_readBoth_0 : decode cX5_readBoth 0 = .ok (.aload_n 0, 1) := by decide +kernel
theorem dX5_readBoth_1 : decode cX5_readBoth 1 = .ok (.iload_n 1, 1) := by decide +kernel
theorem dX5_readBoth_2 : decode cX5_readBoth 2 = .ok (.invokevirtual 91, 3) := by decide +kernel
theorem dX5_readBoth_5 : decode cX5_readBoth 5 = .ok (.istore_n 2, 1) := by decide +kernel
theorem dX5_readBoth_6 : decode cX5_readBoth 6 = .ok (.iconst 0, 1) := by decide +kernel
theorem dX5_readBoth_7 : decode cX5_readBoth 7 = .ok (.istore_n 3, 1) := by decide +kernel
theorem dX5_readBoth_8 : decode cX5_readBoth 8 = .ok (.iload_n 3, 1) := by decide +kernel
theorem dX5_readBoth_9 : decode cX5_readBoth 9 = .ok (.sipush 160, 3) := by decide +kernel
theorem dX5_readBoth_12 : decode cX5_readBoth 12 = .ok (.if_icmp .ge 44, 3) := by decide +kernel
theorem dX5_readBoth_15 : decode cX5_readBoth 15 = .ok (.iload_n 2, 1) := by decide +kernel
theorem dX5_readBoth_16 : decode cX5_readBoth 16 = .ok (.ifCond .eq 40, 3) := by decide +kernel
theorem dX5_readBoth_19 : decode cX5_readBoth 19 = .ok (.aload_n 0, 1) := by decide +kernel
theorem dX5_readBoth_20 : decode cX5_readBoth 20 = .ok (.invokevirtual 76, 3) := by decide +kernel
theorem dX5_readBoth_23 : decode cX5_readBoth 23 = .ok (.bipush (-8), 2) := by decide +kernel
theorem dX5_readBoth_25 : decode cX5_readBoth 25 = .ok (.if_icmp .ne 31, 3) := by decide +kernel
theorem dX5_readBoth_28 : decode cX5_readBoth 28 = .ok (.aload_n 0, 1) := by decide +kernel
theorem dX5_readBoth_29 : decode cX5_readBoth 29 = .ok (.dup, 1) := by decide +kernel
theorem dX5_readBoth_30 : decode cX5_readBoth 30 = .ok (.getfield 31, 3) := by decide +kernel
theorem dX5_readBoth_33 : decode cX5_readBoth 33 = .ok (.iconst 1, 1) := by decide +kernel
theorem dX5_readBoth_34 : decode cX5_readBoth 34 = .ok (.iadd, 1) := by decide +kernel
theorem dX5_readBoth_35 : decode cX5_readBoth 35 = .ok (.putfield 31, 3) := by decide +kernel
theorem dX5_readBoth_38 : decode cX5_readBoth 38 = .ok (.aload_n 0, 1) := by decide +kernel
theorem dX5_readBoth_39 : decode cX5_readBoth 39 = .ok (.iload_n 1, 1) := by decide +kernel
theorem dX5_readBoth_40 : decode cX5_readBoth 40 = .ok (.invokevirtual 91, 3) := by decide +kernel
theorem dX5_readBoth_43 : decode cX5_readBoth 43 = .ok (.istore_n 2, 1) := by decide +kernel
theorem dX5_readBoth_44 : decode cX5_readBoth 44 = .ok (.aload_n 0, 1) := by decide +kernel
theorem dX5_readBoth_45 : decode cX5_readBoth 45 = .ok (.bipush (-10), 2) := by decide +kernel
theorem dX5_readBoth_47 : decode cX5_readBoth 47 = .ok (.invokevirtual 87, 3) := by decide +kernel
theorem dX5_readBoth_50 : decode cX5_readBoth 50 = .ok (.iinc 3 1, 3) := by decide +kernel
theorem dX5_readBoth_53 : decode cX5_readBoth 53 = .ok (.goto (-45), 3) := by decide +kernel
theorem dX5_readBoth_56 : decode cX5_readBoth 56 = .ok (.iload_n 2, 1) := by decide +kernel
theorem dX5_readBoth_57 : decode cX5_readBoth 57 = .ok (.ireturn, 1) := by decide +kernel
theorem dX5_readNot_0 : decode cX5_readNot 0 = .ok (.aload_n 0, 1) := by decide +kernel
theorem dX5_readNot_1 : decode cX5_readNot 1 = .ok (.invokevirtual 76, 3) := by decide +kernel
theorem dX5_readNot_4 : decode cX5_readNot 4 = .ok (.bipush (-9), 2) := by decide +kernel
theorem dX5_readNot_6 : decode cX5_readNot 6 = .ok (.if_icmp .eq 9, 3) := by decide +kernel
theorem dX5_readNot_9 : decode cX5_readNot 9 = .ok (.aload_n 0, 1) := by decide +kernel
theorem dX5_readNot_10 : decode cX5_readNot 10 = .ok (.iload_n 1, 1) := by decide +kernel
theorem dX5_readNot_11 : decode cX5_readNot 11 = .ok (.invokevirtual 94, 3) := by decide +kernel
theorem dX5_readNot_14 : decode cX5_readNot 14 = .ok (.ireturn, 1) := by decide +kernel
theorem dX5_readNot_15 : decode cX5_readNot 15 = .ok (.iload_n 1, 1) := by decide +kernel
theorem dX5_readNot_16 : decode cX5_readNot 16 = .ok (.iconst 5, 1) := by decide +kernel
theorem dX5_readNot_17 : decode cX5_readNot 17 = .ok (.if_icmp .lt 8, 3) := by decide +kernel
theorem dX5_readNot_20 : decode cX5_readNot 20 = .ok (.aload_n 0, 1) := by decide +kernel
theorem dX5_readNot_21 : decode cX5_readNot 21 = .ok (.invokevirtual 80, 3) := by decide +kernel
theorem dX5_readNot_24 : decode cX5_readNot 24 = .ok (.ireturn, 1) := by decide +kernel
theorem dX5_readNot_25 : decode cX5_readNot 25 = .ok (.aload_n 0, 1) := by decide +kernel
theorem dX5_readNot_26 : decode cX5_readNot 26 = .ok (.dup, 1) := by decide +kernel
theorem dX5_readNot_27 : decode cX5_readNot 27 = .ok (.getfield 31, 3) := by decide +kernel
theorem dX5_readNot_30 : decode cX5_readNot 30 = .ok (.iconst 1, 1) := by decide +kernel
theorem dX5_readNot_31 : decode cX5_readNot 31 = .ok (.iadd, 1) := by decide +kernel
theorem dX5_readNot_32 : decode cX5_readNot 32 = .ok (.putfield 31, 3) := by decide +kernel
theorem dX5_readNot_35 : decode cX5_readNot 35 = .ok (.aload_n 0, 1) := by decide +kernel
theorem dX5_readNot_36 : decode cX5_readNot 36 = .ok (.iload_n 1, 1) := by decide +kernel
theorem dX5_readNot_37 : decode cX5_readNot 37 = .ok (.iconst 1, 1) := by decide +kernel
theorem dX5_readNot_38 : decode cX5_readNot 38 = .ok (.iadd, 1) := by decide +kernel
theorem dX5_readNot_39 : decode cX5_readNot 39 = .ok (.invokevirtual 91, 3) := by decide +kernel
theorem dX5_readNot_42 : decode cX5_readNot 42 = .ok (.istore_n 2, 1) := by decide +kernel
theorem dX5_readNot_43 : decode cX5_readNot 43 = .ok (.aload_n 0, 1) := by decide +kernel
theorem dX5_readNot_44 : decode cX5_readNot 44 = .ok (.bipush (-7), 2) := by decide +kernel
theorem dX5_readNot_46 : decode cX5_readNot 46 = .ok (.invokevirtual 87, 3) := by decide +kernel
theorem dX5_readNot_49 : decode cX5_readNot 49 = .ok (.iload_n 2, 1) := by decide +kernel
theorem dX5_readNot_50 : decode cX5_readNot 50 = .ok (.ireturn, 1) := by decide +kernel
theorem dX5_readComparison_0 : decode cX5_readComparison 0 = .ok (.aload_n 0, 1) := by decide +kernel
theorem dX5_readComparison_1 : decode cX5_readComparison 1 = .ok (.iload_n 1, 1) := by decide +kernel
theorem dX5_readComparison_2 : decode cX5_readComparison 2 = .ok (.invokevirtual 97, 3) := by decide +kernel
theorem dX5_readComparison_5 : decode cX5_readComparison 5 = .ok (.istore_n 2, 1) := by decide +kernel
theorem dX5_readComparison_6 : decode cX5_readComparison 6 = .ok (.aload_n 0, 1) := by decide +kernel
theorem dX5_readComparison_7 : decode cX5_readComparison 7 = .ok (.invokevirtual 76, 3) := by decide +kernel
theorem dX5_readComparison_10 : decode cX5_readComparison 10 = .ok (.istore_n 3, 1) := by decide +kernel
theorem dX5_readComparison_11 : decode cX5_readComparison 11 = .ok (.iload_n 2, 1) := by decide +kernel
theorem dX5_readComparison_12 : decode cX5_readComparison 12 = .ok (.ifCond .eq 15, 3) := by decide +kernel
theorem dX5_readComparison_15 : decode cX5_readComparison 15 = .ok (.iload_n 3, 1) := by decide +kernel
theorem dX5_readComparison_16 : decode cX5_readComparison 16 = .ok (.bipush 60, 2) := by decide +kernel
theorem dX5_readComparison_18 : decode cX5_readComparison 18 = .ok (.if_icmp .eq 11, 3) := by decide +kernel
theorem dX5_readComparison_21 : decode cX5_readComparison 21 = .ok (.iload_n 3, 1) := by decide +kernel
theorem dX5_readComparison_22 : decode cX5_readComparison 22 = .ok (.bipush 61, 2) := by decide +kernel
theorem dX5_readComparison_24 : decode cX5_readComparison 24 = .ok (.if_icmp .eq 5, 3) := by decide +kernel
theorem dX5_readComparison_27 : decode cX5_readComparison 27 = .ok (.iload_n 2, 1) := by decide +kernel
theorem dX5_readComparison_28 : decode cX5_readComparison 28 = .ok (.ireturn, 1) := by decide +kernel
theorem dX5_readComparison_29 : decode cX5_readComparison 29 = .ok (.aload_n 0, 1) := by decide +kernel
theorem dX5_readComparison_30 : decode cX5_readComparison 30 = .ok (.dup, 1) := by decide +kernel
theorem dX5_readComparison_31 : decode cX5_readComparison 31 = .ok (.getfield 31, 3) := by decide +kernel
theorem dX5_readComparison_34 : decode cX5_readComparison 34 = .ok (.iconst 1, 1) := by decide +kernel
theorem dX5_readComparison_35 : decode cX5_readComparison 35 = .ok (.iadd, 1) := by decide +kernel
theorem dX5_readComparison_36 : decode cX5_readComparison 36 = .ok (.putfield 31, 3) := by decide +kernel
theorem dX5_readComparison_39 : decode cX5_readComparison 39 = .ok (.aload_n 0, 1) := by decide +kernel
theorem dX5_readComparison_40 : decode cX5_readComparison 40 = .ok (.iload_n 1, 1) := by decide +kernel
theorem dX5_readComparison_41 : decode cX5_readComparison 41 = .ok (.invokevirtual 97, 3) := by decide +kernel
theorem dX5_readComparison_44 : decode cX5_readComparison 44 = .ok (.istore_n 2, 1) := by decide +kernel
theorem dX5_readComparison_45 : decode cX5_readComparison 45 = .ok (.aload_n 0, 1) := by decide +kernel
theorem dX5_readComparison_46 : decode cX5_readComparison 46 = .ok (.iload_n 3, 1) := by decide +kernel
theorem dX5_readComparison_47 : decode cX5_readComparison 47 = .ok (.bipush 60, 2) := by decide +kernel
theorem dX5_readComparison_49 : decode cX5_readComparison 49 = .ok (.if_icmp .ne 8, 3) := by decide +kernel
theorem dX5_readComparison_52 : decode cX5_readComparison 52 = .ok (.bipush (-11), 2) := by decide +kernel
theorem dX5_readComparison_54 : decode cX5_readComparison 54 = .ok (.goto 5, 3) := by decide +kernel
theorem dX5_readComparison_57 : decode cX5_readComparison 57 = .ok (.bipush (-12), 2) := by decide +kernel
theorem dX5_readComparison_59 : decode cX5_readComparison 59 = .ok (.invokevirtual 87, 3) := by decide +kernel
theorem dX5_readComparison_62 : decode cX5_readComparison 62 = .ok (.iload_n 2, 1) := by decide +kernel
theorem dX5_readComparison_63 : decode cX5_readComparison 63 = .ok (.ireturn, 1) := by decide +kernel
theorem dX5_readSum_0 : decode cX5_readSum 0 = .ok (.aload_n 0, 1) := by decide +kernel
theorem dX5_readSum_1 : decode cX5_readSum 1 = .ok (.iload_n 1, 1) := by decide +kernel
theorem dX5_readSum_2 : decode cX5_readSum 2 = .ok (.invokevirtual 100, 3) := by decide +kernel
theorem dX5_readSum_5 : decode cX5_readSum 5 = .ok (.istore_n 2, 1) := by decide +kernel
theorem dX5_readSum_6 : decode cX5_readSum 6 = .ok (.aload_n 0, 1) := by decide +kernel
theorem dX5_readSum_7 : decode cX5_readSum 7 = .ok (.invokevirtual 76, 3) := by decide +kernel
theorem dX5_readSum_10 : decode cX5_readSum 10 = .ok (.istore_n 3, 1) := by decide +kernel
theorem dX5_readSum_11 : decode cX5_readSum 11 = .ok (.iconst 0, 1) := by decide +kernel
theorem dX5_readSum_12 : decode cX5_readSum 12 = .ok (.istore 4, 2) := by decide +kernel
theorem dX5_readSum_14 : decode cX5_readSum 14 = .ok (.iload 4, 2) := by decide +kernel
theorem dX5_readSum_16 : decode cX5_readSum 16 = .ok (.sipush 160, 3) := by decide +kernel
theorem dX5_readSum_19 : decode cX5_readSum 19 = .ok (.if_icmp .ge 63, 3) := by decide +kernel
theorem dX5_readSum_22 : decode cX5_readSum 22 = .ok (.iload_n 2, 1) := by decide +kernel
theorem dX5_readSum_23 : decode cX5_readSum 23 = .ok (.ifCond .eq 59, 3) := by decide +kernel
theorem dX5_readSum_26 : decode cX5_readSum 26 = .ok (.iload_n 3, 1) := by decide +kernel
theorem dX5_readSum_27 : decode cX5_readSum 27 = .ok (.bipush 43, 2) := by decide +kernel
theorem dX5_readSum_29 : decode cX5_readSum 29 = .ok (.if_icmp .eq 9, 3) := by decide +kernel
theorem dX5_readSum_32 : decode cX5_readSum 32 = .ok (.iload_n 3, 1) := by decide +kernel
theorem dX5_readSum_33 : decode cX5_readSum 33 = .ok (.bipush 45, 2) := by decide +kernel
theorem dX5_readSum_35 : decode cX5_readSum 35 = .ok (.if_icmp .ne 47, 3) := by decide +kernel
theorem dX5_readSum_38 : decode cX5_readSum 38 = .ok (.aload_n 0, 1) := by decide +kernel
theorem dX5_readSum_39 : decode cX5_readSum 39 = .ok (.dup, 1) := by decide +kernel
theorem dX5_readSum_40 : decode cX5_readSum 40 = .ok (.getfield 31, 3) := by decide +kernel
theorem dX5_readSum_43 : decode cX5_readSum 43 = .ok (.iconst 1, 1) := by decide +kernel
theorem dX5_readSum_44 : decode cX5_readSum 44 = .ok (.iadd, 1) := by decide +kernel
theorem dX5_readSum_45 : decode cX5_readSum 45 = .ok (.putfield 31, 3) := by decide +kernel
theorem dX5_readSum_48 : decode cX5_readSum 48 = .ok (.aload_n 0, 1) := by decide +kernel
theorem dX5_readSum_49 : decode cX5_readSum 49 = .ok (.iload_n 1, 1) := by decide +kernel
theorem dX5_readSum_50 : decode cX5_readSum 50 = .ok (.invokevirtual 100, 3) := by decide +kernel
theorem dX5_readSum_53 : decode cX5_readSum 53 = .ok (.istore_n 2, 1) := by decide +kernel
theorem dX5_readSum_54 : decode cX5_readSum 54 = .ok (.aload_n 0, 1) := by decide +kernel
theorem dX5_readSum_55 : decode cX5_readSum 55 = .ok (.iload_n 3, 1) := by decide +kernel
theorem dX5_readSum_56 : decode cX5_readSum 56 = .ok (.bipush 43, 2) := by decide +kernel
theorem dX5_readSum_58 : decode cX5_readSum 58 = .ok (.if_icmp .ne 8, 3) := by decide +kernel
theorem dX5_readSum_61 : decode cX5_readSum 61 = .ok (.bipush (-13), 2) := by decide +kernel
theorem dX5_readSum_63 : decode cX5_readSum 63 = .ok (.goto 5, 3) := by decide +kernel
theorem dX5_readSum_66 : decode cX5_readSum 66 = .ok (.bipush (-14), 2) := by decide +kernel
theorem dX5_readSum_68 : decode cX5_readSum 68 = .ok (.invokevirtual 87, 3) := by decide +kernel
theorem dX5_readSum_71 : decode cX5_readSum 71 = .ok (.aload_n 0, 1) := by decide +kernel
theorem dX5_readSum_72 : decode cX5_readSum 72 = .ok (.invokevirtual 76, 3) := by decide +kernel
theorem dX5_readSum_75 : decode cX5_readSum 75 = .ok (.istore_n 3, 1) := by decide +kernel
theorem dX5_readSum_76 : decode cX5_readSum 76 = .ok (.iinc 4 1, 3) := by decide +kernel
theorem dX5_readSum_79 : decode cX5_readSum 79 = .ok (.goto (-65), 3) := by decide +kernel
theorem dX5_readSum_82 : decode cX5_readSum 82 = .ok (.iload_n 2, 1) := by decide +kernel
theorem dX5_readSum_83 : decode cX5_readSum 83 = .ok (.ireturn, 1) := by decide +kernel
theorem dX5_readTerm_0 : decode cX5_readTerm 0 = .ok (.aload_n 0, 1) := by decide +kernel
theorem dX5_readTerm_1 : decode cX5_readTerm 1 = .ok (.iload_n 1, 1) := by decide +kernel
theorem dX5_readTerm_2 : decode cX5_readTerm 2 = .ok (.invokevirtual 103, 3) := by decide +kernel
theorem dX5_readTerm_5 : decode cX5_readTerm 5 = .ok (.istore_n 2, 1) := by decide +kernel
theorem dX5_readTerm_6 : decode cX5_readTerm 6 = .ok (.iconst 0, 1) := by decide +kernel
theorem dX5_readTerm_7 : decode cX5_readTerm 7 = .ok (.istore_n 3, 1) := by decide +kernel
theorem dX5_readTerm_8 : decode cX5_readTerm 8 = .ok (.iload_n 3, 1) := by decide +kernel
theorem dX5_readTerm_9 : decode cX5_readTerm 9 = .ok (.sipush 160, 3) := by decide +kernel
theorem dX5_readTerm_12 : decode cX5_readTerm 12 = .ok (.if_icmp .ge 44, 3) := by decide +kernel
theorem dX5_readTerm_15 : decode cX5_readTerm 15 = .ok (.iload_n 2, 1) := by decide +kernel
theorem dX5_readTerm_16 : decode cX5_readTerm 16 = .ok (.ifCond .eq 40, 3) := by decide +kernel
theorem dX5_readTerm_19 : decode cX5_readTerm 19 = .ok (.aload_n 0, 1) := by decide +kernel
theorem dX5_readTerm_20 : decode cX5_readTerm 20 = .ok (.invokevirtual 76, 3) := by decide +kernel
theorem dX5_readTerm_23 : decode cX5_readTerm 23 = .ok (.bipush 42, 2) := by decide +kernel
theorem dX5_readTerm_25 : decode cX5_readTerm 25 = .ok (.if_icmp .ne 31, 3) := by decide +kernel
theorem dX5_readTerm_28 : decode cX5_readTerm 28 = .ok (.aload_n 0, 1) := by decide +kernel
theorem dX5_readTerm_29 : decode cX5_readTerm 29 = .ok (.dup, 1) := by decide +kernel
theorem dX5_readTerm_30 : decode cX5_readTerm 30 = .ok (.getfield 31, 3) := by decide +kernel
theorem dX5_readTerm_33 : decode cX5_readTerm 33 = .ok (.iconst 1, 1) := by decide +kernel
theorem dX5_readTerm_34 : decode cX5_readTerm 34 = .ok (.iadd, 1) := by decide +kernel
theorem dX5_readTerm_35 : decode cX5_readTerm 35 = .ok (.putfield 31, 3) := by decide +kernel
theorem dX5_readTerm_38 : decode cX5_readTerm 38 = .ok (.aload_n 0, 1) := by decide +kernel
theorem dX5_readTerm_39 : decode cX5_readTerm 39 = .ok (.iload_n 1, 1) := by decide +kernel
theorem dX5_readTerm_40 : decode cX5_readTerm 40 = .ok (.invokevirtual 103, 3) := by decide +kernel
theorem dX5_readTerm_43 : decode cX5_readTerm 43 = .ok (.istore_n 2, 1) := by decide +kernel
theorem dX5_readTerm_44 : decode cX5_readTerm 44 = .ok (.aload_n 0, 1) := by decide +kernel
theorem dX5_readTerm_45 : decode cX5_readTerm 45 = .ok (.bipush (-15), 2) := by decide +kernel
theorem dX5_readTerm_47 : decode cX5_readTerm 47 = .ok (.invokevirtual 87, 3) := by decide +kernel
theorem dX5_readTerm_50 : decode cX5_readTerm 50 = .ok (.iinc 3 1, 3) := by decide +kernel
theorem dX5_readTerm_53 : decode cX5_readTerm 53 = .ok (.goto (-45), 3) := by decide +kernel
theorem dX5_readTerm_56 : decode cX5_readTerm 56 = .ok (.iload_n 2, 1) := by decide +kernel
theorem dX5_readTerm_57 : decode cX5_readTerm 57 = .ok (.ireturn, 1) := by decide +kernel
theorem dX5_readOne_0 : decode cX5_readOne 0 = .ok (.aload_n 0, 1) := by decide +kernel
theorem dX5_readOne_1 : decode cX5_readOne 1 = .ok (.invokevirtual 76, 3) := by decide +kernel
theorem dX5_readOne_4 : decode cX5_readOne 4 = .ok (.istore_n 2, 1) := by decide +kernel
theorem dX5_readOne_5 : decode cX5_readOne 5 = .ok (.iload_n 2, 1) := by decide +kernel
theorem dX5_readOne_6 : decode cX5_readOne 6 = .ok (.bipush (-3), 2) := by decide +kernel
theorem dX5_readOne_8 : decode cX5_readOne 8 = .ok (.if_icmp .eq 9, 3) := by decide +kernel
theorem dX5_readOne_11 : decode cX5_readOne 11 = .ok (.iload_n 2, 1) := by decide +kernel
theorem dX5_readOne_12 : decode cX5_readOne 12 = .ok (.bipush (-4), 2) := by decide +kernel
theorem dX5_readOne_14 : decode cX5_readOne 14 = .ok (.if_icmp .ne 40, 3) := by decide +kernel
theorem dX5_readOne_17 : decode cX5_readOne 17 = .ok (.aload_n 0, 1) := by decide +kernel
theorem dX5_readOne_18 : decode cX5_readOne 18 = .ok (.getfield 31, 3) := by decide +kernel
theorem dX5_readOne_21 : decode cX5_readOne 21 = .ok (.aload_n 0, 1) := by decide +kernel
theorem dX5_readOne_22 : decode cX5_readOne 22 = .ok (.getfield 25, 3) := by decide +kernel
theorem dX5_readOne_25 : decode cX5_readOne 25 = .ok (.arraylength, 1) := by decide +kernel
theorem dX5_readOne_26 : decode cX5_readOne 26 = .ok (.if_icmp .ge 28, 3) := by decide +kernel
theorem dX5_readOne_29 : decode cX5_readOne 29 = .ok (.aload_n 0, 1) := by decide +kernel
theorem dX5_readOne_30 : decode cX5_readOne 30 = .ok (.aload_n 0, 1) := by decide +kernel
theorem dX5_readOne_31 : decode cX5_readOne 31 = .ok (.getfield 25, 3) := by decide +kernel
theorem dX5_readOne_34 : decode cX5_readOne 34 = .ok (.aload_n 0, 1) := by decide +kernel
theorem dX5_readOne_35 : decode cX5_readOne 35 = .ok (.getfield 31, 3) := by decide +kernel
theorem dX5_readOne_38 : decode cX5_readOne 38 = .ok (.iaload, 1) := by decide +kernel
theorem dX5_readOne_39 : decode cX5_readOne 39 = .ok (.invokevirtual 87, 3) := by decide +kernel
theorem dX5_readOne_42 : decode cX5_readOne 42 = .ok (.aload_n 0, 1) := by decide +kernel
theorem dX5_readOne_43 : decode cX5_readOne 43 = .ok (.dup, 1) := by decide +kernel
theorem dX5_readOne_44 : decode cX5_readOne 44 = .ok (.getfield 31, 3) := by decide +kernel
theorem dX5_readOne_47 : decode cX5_readOne 47 = .ok (.iconst 1, 1) := by decide +kernel
theorem dX5_readOne_48 : decode cX5_readOne 48 = .ok (.iadd, 1) := by decide +kernel
theorem dX5_readOne_49 : decode cX5_readOne 49 = .ok (.putfield 31, 3) := by decide +kernel
theorem dX5_readOne_52 : decode cX5_readOne 52 = .ok (.iconst 1, 1) := by decide +kernel
theorem dX5_readOne_53 : decode cX5_readOne 53 = .ok (.ireturn, 1) := by decide +kernel
theorem dX5_readOne_54 : decode cX5_readOne 54 = .ok (.iload_n 2, 1) := by decide +kernel
theorem dX5_readOne_55 : decode cX5_readOne 55 = .ok (.bipush 45, 2) := by decide +kernel
theorem dX5_readOne_57 : decode cX5_readOne 57 = .ok (.if_icmp .eq 9, 3) := by decide +kernel
theorem dX5_readOne_60 : decode cX5_readOne 60 = .ok (.iload_n 2, 1) := by decide +kernel
theorem dX5_readOne_61 : decode cX5_readOne 61 = .ok (.bipush 40, 2) := by decide +kernel
theorem dX5_readOne_63 : decode cX5_readOne 63 = .ok (.if_icmp .ne 8, 3) := by decide +kernel
theorem dX5_readOne_66 : decode cX5_readOne 66 = .ok (.iload_n 1, 1) := by decide +kernel
theorem dX5_readOne_67 : decode cX5_readOne 67 = .ok (.iconst 5, 1) := by decide +kernel
theorem dX5_readOne_68 : decode cX5_readOne 68 = .ok (.if_icmp .lt 8, 3) := by decide +kernel
theorem dX5_readOne_71 : decode cX5_readOne 71 = .ok (.aload_n 0, 1) := by decide +kernel
theorem dX5_readOne_72 : decode cX5_readOne 72 = .ok (.invokevirtual 80, 3) := by decide +kernel
theorem dX5_readOne_75 : decode cX5_readOne 75 = .ok (.ireturn, 1) := by decide +kernel
theorem dX5_readOne_76 : decode cX5_readOne 76 = .ok (.aload_n 0, 1) := by decide +kernel
theorem dX5_readOne_77 : decode cX5_readOne 77 = .ok (.dup, 1) := by decide +kernel
theorem dX5_readOne_78 : decode cX5_readOne 78 = .ok (.getfield 31, 3) := by decide +kernel
theorem dX5_readOne_81 : decode cX5_readOne 81 = .ok (.iconst 1, 1) := by decide +kernel
theorem dX5_readOne_82 : decode cX5_readOne 82 = .ok (.iadd, 1) := by decide +kernel
theorem dX5_readOne_83 : decode cX5_readOne 83 = .ok (.putfield 31, 3) := by decide +kernel
theorem dX5_readOne_86 : decode cX5_readOne 86 = .ok (.iload_n 2, 1) := by decide +kernel
theorem dX5_readOne_87 : decode cX5_readOne 87 = .ok (.bipush 40, 2) := by decide +kernel
theorem dX5_readOne_89 : decode cX5_readOne 89 = .ok (.if_icmp .ne 28, 3) := by decide +kernel
theorem dX5_readOne_92 : decode cX5_readOne 92 = .ok (.aload_n 0, 1) := by decide +kernel
theorem dX5_readOne_93 : decode cX5_readOne 93 = .ok (.iload_n 1, 1) := by decide +kernel
theorem dX5_readOne_94 : decode cX5_readOne 94 = .ok (.iconst 1, 1) := by decide +kernel
theorem dX5_readOne_95 : decode cX5_readOne 95 = .ok (.iadd, 1) := by decide +kernel
theorem dX5_readOne_96 : decode cX5_readOne 96 = .ok (.invokevirtual 53, 3) := by decide +kernel
theorem dX5_readOne_99 : decode cX5_readOne 99 = .ok (.ifCond .eq 16, 3) := by decide +kernel
theorem dX5_readOne_102 : decode cX5_readOne 102 = .ok (.aload_n 0, 1) := by decide +kernel
theorem dX5_readOne_103 : decode cX5_readOne 103 = .ok (.bipush 41, 2) := by decide +kernel
theorem dX5_readOne_105 : decode cX5_readOne 105 = .ok (.invokevirtual 49, 3) := by decide +kernel
theorem dX5_readOne_108 : decode cX5_readOne 108 = .ok (.ifCond .eq 7, 3) := by decide +kernel
theorem dX5_readOne_111 : decode cX5_readOne 111 = .ok (.iconst 1, 1) := by decide +kernel
theorem dX5_readOne_112 : decode cX5_readOne 112 = .ok (.goto 4, 3) := by decide +kernel
theorem dX5_readOne_115 : decode cX5_readOne 115 = .ok (.iconst 0, 1) := by decide +kernel
theorem dX5_readOne_116 : decode cX5_readOne 116 = .ok (.ireturn, 1) := by decide +kernel
theorem dX5_readOne_117 : decode cX5_readOne 117 = .ok (.aload_n 0, 1) := by decide +kernel
theorem dX5_readOne_118 : decode cX5_readOne 118 = .ok (.iload_n 1, 1) := by decide +kernel
theorem dX5_readOne_119 : decode cX5_readOne 119 = .ok (.iconst 1, 1) := by decide +kernel
theorem dX5_readOne_120 : decode cX5_readOne 120 = .ok (.iadd, 1) := by decide +kernel
theorem dX5_readOne_121 : decode cX5_readOne 121 = .ok (.invokevirtual 103, 3) := by decide +kernel
theorem dX5_readOne_124 : decode cX5_readOne 124 = .ok (.istore_n 3, 1) := by decide +kernel
theorem dX5_readOne_125 : decode cX5_readOne 125 = .ok (.aload_n 0, 1) := by decide +kernel
theorem dX5_readOne_126 : decode cX5_readOne 126 = .ok (.bipush (-8), 2) := by decide +kernel
theorem dX5_readOne_128 : decode cX5_readOne 128 = .ok (.invokevirtual 87, 3) := by decide +kernel
theorem dX5_readOne_131 : decode cX5_readOne 131 = .ok (.iload_n 3, 1) := by decide +kernel
theorem dX5_readOne_132 : decode cX5_readOne 132 = .ok (.ireturn, 1) := by decide +kernel
theorem dX5_cutTokens_0 : decode cX5_cutTokens 0 = .ok (.aload_n 0, 1) := by decide +kernel
theorem dX5_cutTokens_1 : decode cX5_cutTokens 1 = .ok (.iconst 0, 1) := by decide +kernel
theorem dX5_cutTokens_2 : decode cX5_cutTokens 2 = .ok (.putfield 28, 3) := by decide +kernel
theorem dX5_cutTokens_5 : decode cX5_cutTokens 5 = .ok (.iconst 0, 1) := by decide +kernel
theorem dX5_cutTokens_6 : decode cX5_cutTokens 6 = .ok (.istore_n 1, 1) := by decide +kernel
theorem dX5_cutTokens_7 : decode cX5_cutTokens 7 = .ok (.iconst 0, 1) := by decide +kernel
theorem dX5_cutTokens_8 : decode cX5_cutTokens 8 = .ok (.istore_n 2, 1) := by decide +kernel
theorem dX5_cutTokens_9 : decode cX5_cutTokens 9 = .ok (.iload_n 2, 1) := by decide +kernel
theorem dX5_cutTokens_10 : decode cX5_cutTokens 10 = .ok (.sipush 160, 3) := by decide +kernel
theorem dX5_cutTokens_13 : decode cX5_cutTokens 13 = .ok (.if_icmp .ge 112, 3) := by decide +kernel
theorem dX5_cutTokens_16 : decode cX5_cutTokens 16 = .ok (.iload_n 1, 1) := by decide +kernel
theorem dX5_cutTokens_17 : decode cX5_cutTokens 17 = .ok (.aload_n 0, 1) := by decide +kernel
theorem dX5_cutTokens_18 : decode cX5_cutTokens 18 = .ok (.getfield 15, 3) := by decide +kernel
theorem dX5_cutTokens_21 : decode cX5_cutTokens 21 = .ok (.if_icmp .ge 104, 3) := by decide +kernel
theorem dX5_cutTokens_24 : decode cX5_cutTokens 24 = .ok (.iload_n 1, 1) := by decide +kernel
theorem dX5_cutTokens_25 : decode cX5_cutTokens 25 = .ok (.iconst 1, 1) := by decide +kernel
theorem dX5_cutTokens_26 : decode cX5_cutTokens 26 = .ok (.iadd, 1) := by decide +kernel
theorem dX5_cutTokens_27 : decode cX5_cutTokens 27 = .ok (.istore_n 3, 1) := by decide +kernel
theorem dX5_cutTokens_28 : decode cX5_cutTokens 28 = .ok (.aload_n 0, 1) := by decide +kernel
theorem dX5_cutTokens_29 : decode cX5_cutTokens 29 = .ok (.getfield 9, 3) := by decide +kernel
theorem dX5_cutTokens_32 : decode cX5_cutTokens 32 = .ok (.iload_n 1, 1) := by decide +kernel
theorem dX5_cutTokens_33 : decode cX5_cutTokens 33 = .ok (.iaload, 1) := by decide +kernel
theorem dX5_cutTokens_34 : decode cX5_cutTokens 34 = .ok (.istore 4, 2) := by decide +kernel
theorem dX5_cutTokens_36 : decode cX5_cutTokens 36 = .ok (.iload 4, 2) := by decide +kernel
theorem dX5_cutTokens_38 : decode cX5_cutTokens 38 = .ok (.invokestatic 106, 3) := by decide +kernel
theorem dX5_cutTokens_41 : decode cX5_cutTokens 41 = .ok (.ifCond .eq 18, 3) := by decide +kernel
theorem dX5_cutTokens_44 : decode cX5_cutTokens 44 = .ok (.aload_n 0, 1) := by decide +kernel
theorem dX5_cutTokens_45 : decode cX5_cutTokens 45 = .ok (.iload_n 1, 1) := by decide +kernel
theorem dX5_cutTokens_46 : decode cX5_cutTokens 46 = .ok (.invokevirtual 109, 3) := by decide +kernel
theorem dX5_cutTokens_49 : decode cX5_cutTokens 49 = .ok (.istore_n 3, 1) := by decide +kernel
theorem dX5_cutTokens_50 : decode cX5_cutTokens 50 = .ok (.aload_n 0, 1) := by decide +kernel
theorem dX5_cutTokens_51 : decode cX5_cutTokens 51 = .ok (.iload_n 1, 1) := by decide +kernel
theorem dX5_cutTokens_52 : decode cX5_cutTokens 52 = .ok (.iload_n 3, 1) := by decide +kernel
theorem dX5_cutTokens_53 : decode cX5_cutTokens 53 = .ok (.invokevirtual 113, 3) := by decide +kernel
theorem dX5_cutTokens_56 : decode cX5_cutTokens 56 = .ok (.goto 61, 3) := by decide +kernel
theorem dX5_cutTokens_59 : decode cX5_cutTokens 59 = .ok (.iload 4, 2) := by decide +kernel
theorem dX5_cutTokens_61 : decode cX5_cutTokens 61 = .ok (.invokestatic 117, 3) := by decide +kernel
theorem dX5_cutTokens_64 : decode cX5_cutTokens 64 = .ok (.ifCond .eq 18, 3) := by decide +kernel
theorem dX5_cutTokens_67 : decode cX5_cutTokens 67 = .ok (.aload_n 0, 1) := by decide +kernel
theorem dX5_cutTokens_68 : decode cX5_cutTokens 68 = .ok (.iload_n 1, 1) := by decide +kernel
theorem dX5_cutTokens_69 : decode cX5_cutTokens 69 = .ok (.invokevirtual 120, 3) := by decide +kernel
theorem dX5_cutTokens_72 : decode cX5_cutTokens 72 = .ok (.istore_n 3, 1) := by decide +kernel
theorem dX5_cutTokens_73 : decode cX5_cutTokens 73 = .ok (.aload_n 0, 1) := by decide +kernel
theorem dX5_cutTokens_74 : decode cX5_cutTokens 74 = .ok (.iload_n 1, 1) := by decide +kernel
theorem dX5_cutTokens_75 : decode cX5_cutTokens 75 = .ok (.iload_n 3, 1) := by decide +kernel
theorem dX5_cutTokens_76 : decode cX5_cutTokens 76 = .ok (.invokevirtual 123, 3) := by decide +kernel
theorem dX5_cutTokens_79 : decode cX5_cutTokens 79 = .ok (.goto 38, 3) := by decide +kernel
theorem dX5_cutTokens_82 : decode cX5_cutTokens 82 = .ok (.iload 4, 2) := by decide +kernel
theorem dX5_cutTokens_84 : decode cX5_cutTokens 84 = .ok (.bipush 32, 2) := by decide +kernel
theorem dX5_cutTokens_86 : decode cX5_cutTokens 86 = .ok (.if_icmp .eq 31, 3) := by decide +kernel
theorem dX5_cutTokens_89 : decode cX5_cutTokens 89 = .ok (.iload 4, 2) := by decide +kernel
theorem dX5_cutTokens_91 : decode cX5_cutTokens 91 = .ok (.bipush 10, 2) := by decide +kernel
theorem dX5_cutTokens_93 : decode cX5_cutTokens 93 = .ok (.if_icmp .eq 24, 3) := by decide +kernel
theorem dX5_cutTokens_96 : decode cX5_cutTokens 96 = .ok (.aload_n 0, 1) := by decide +kernel
theorem dX5_cutTokens_97 : decode cX5_cutTokens 97 = .ok (.iload 4, 2) := by decide +kernel
theorem dX5_cutTokens_99 : decode cX5_cutTokens 99 = .ok (.invokestatic 126, 3) := by decide +kernel
theorem dX5_cutTokens_102 : decode cX5_cutTokens 102 = .ok (.ifCond .eq 8, 3) := by decide +kernel
theorem dX5_cutTokens_105 : decode cX5_cutTokens 105 = .ok (.iload 4, 2) := by decide +kernel
theorem dX5_cutTokens_107 : decode cX5_cutTokens 107 = .ok (.goto 5, 3) := by decide +kernel
theorem dX5_cutTokens_110 : decode cX5_cutTokens 110 = .ok (.bipush (-2), 2) := by decide +kernel
theorem dX5_cutTokens_112 : decode cX5_cutTokens 112 = .ok (.iload_n 1, 1) := by decide +kernel
theorem dX5_cutTokens_113 : decode cX5_cutTokens 113 = .ok (.iconst 0, 1) := by decide +kernel
theorem dX5_cutTokens_114 : decode cX5_cutTokens 114 = .ok (.invokevirtual 129, 3) := by decide +kernel
theorem dX5_cutTokens_117 : decode cX5_cutTokens 117 = .ok (.iload_n 3, 1) := by decide +kernel
theorem dX5_cutTokens_118 : decode cX5_cutTokens 118 = .ok (.istore_n 1, 1) := by decide +kernel
theorem dX5_cutTokens_119 : decode cX5_cutTokens 119 = .ok (.iinc 2 1, 3) := by decide +kernel
theorem dX5_cutTokens_122 : decode cX5_cutTokens 122 = .ok (.goto (-113), 3) := by decide +kernel
theorem dX5_cutTokens_125 : decode cX5_cutTokens 125 = .ok (.return_, 1) := by decide +kernel
theorem dX5_isLetter_0 : decode cX5_isLetter 0 = .ok (.iload_n 0, 1) := by decide +kernel
theorem dX5_isLetter_1 : decode cX5_isLetter 1 = .ok (.bipush 97, 2) := by decide +kernel
theorem dX5_isLetter_3 : decode cX5_isLetter 3 = .ok (.if_icmp .lt 13, 3) := by decide +kernel
theorem dX5_isLetter_6 : decode cX5_isLetter 6 = .ok (.iload_n 0, 1) := by decide +kernel
theorem dX5_isLetter_7 : decode cX5_isLetter 7 = .ok (.bipush 122, 2) := by decide +kernel
theorem dX5_isLetter_9 : decode cX5_isLetter 9 = .ok (.if_icmp .gt 7, 3) := by decide +kernel
theorem dX5_isLetter_12 : decode cX5_isLetter 12 = .ok (.iconst 1, 1) := by decide +kernel
theorem dX5_isLetter_13 : decode cX5_isLetter 13 = .ok (.goto 4, 3) := by decide +kernel
theorem dX5_isLetter_16 : decode cX5_isLetter 16 = .ok (.iconst 0, 1) := by decide +kernel
theorem dX5_isLetter_17 : decode cX5_isLetter 17 = .ok (.ireturn, 1) := by decide +kernel
theorem dX5_isDigit_0 : decode cX5_isDigit 0 = .ok (.iload_n 0, 1) := by decide +kernel
theorem dX5_isDigit_1 : decode cX5_isDigit 1 = .ok (.bipush 48, 2) := by decide +kernel
theorem dX5_isDigit_3 : decode cX5_isDigit 3 = .ok (.if_icmp .lt 13, 3) := by decide +kernel
theorem dX5_isDigit_6 : decode cX5_isDigit 6 = .ok (.iload_n 0, 1) := by decide +kernel
theorem dX5_isDigit_7 : decode cX5_isDigit 7 = .ok (.bipush 57, 2) := by decide +kernel
theorem dX5_isDigit_9 : decode cX5_isDigit 9 = .ok (.if_icmp .gt 7, 3) := by decide +kernel
theorem dX5_isDigit_12 : decode cX5_isDigit 12 = .ok (.iconst 1, 1) := by decide +kernel
theorem dX5_isDigit_13 : decode cX5_isDigit 13 = .ok (.goto 4, 3) := by decide +kernel
theorem dX5_isDigit_16 : decode cX5_isDigit 16 = .ok (.iconst 0, 1) := by decide +kernel
theorem dX5_isDigit_17 : decode cX5_isDigit 17 = .ok (.ireturn, 1) := by decide +kernel
theorem dX5_isSign_0 : decode cX5_isSign 0 = .ok (.iload_n 0, 1) := by decide +kernel
theorem dX5_isSign_1 : decode cX5_isSign 1 = .ok (.tableswitch 105 40 61 #[103, 103, 103, 103, 105, 103, 105, 105, 105, 105, 105, 105, 105, 105, 105, 105, 105, 105, 105, 103, 103, 103], 103) := by decide +kernel
theorem dX5_isSign_104 : decode cX5_isSign 104 = .ok (.iconst 1, 1) := by decide +kernel
theorem dX5_isSign_105 : decode cX5_isSign 105 = .ok (.ireturn, 1) := by decide +kernel
theorem dX5_isSign_106 : decode cX5_isSign 106 = .ok (.iconst 0, 1) := by decide +kernel
theorem dX5_isSign_107 : decode cX5_isSign 107 = .ok (.ireturn, 1) := by decide +kernel
theorem dX5_endOfWord_0 : decode cX5_endOfWord 0 = .ok (.iload_n 1, 1) := by decide +kernel
theorem dX5_endOfWord_1 : decode cX5_endOfWord 1 = .ok (.istore_n 2, 1) := by decide +kernel
theorem dX5_endOfWord_2 : decode cX5_endOfWord 2 = .ok (.iload_n 2, 1) := by decide +kernel
theorem dX5_endOfWord_3 : decode cX5_endOfWord 3 = .ok (.aload_n 0, 1) := by decide +kernel
theorem dX5_endOfWord_4 : decode cX5_endOfWord 4 = .ok (.getfield 15, 3) := by decide +kernel
theorem dX5_endOfWord_7 : decode cX5_endOfWord 7 = .ok (.if_icmp .ge 21, 3) := by decide +kernel
theorem dX5_endOfWord_10 : decode cX5_endOfWord 10 = .ok (.aload_n 0, 1) := by decide +kernel
theorem dX5_endOfWord_11 : decode cX5_endOfWord 11 = .ok (.getfield 9, 3) := by decide +kernel
theorem dX5_endOfWord_14 : decode cX5_endOfWord 14 = .ok (.iload_n 2, 1) := by decide +kernel
theorem dX5_endOfWord_15 : decode cX5_endOfWord 15 = .ok (.iaload, 1) := by decide +kernel
theorem dX5_endOfWord_16 : decode cX5_endOfWord 16 = .ok (.invokestatic 106, 3) := by decide +kernel
theorem dX5_endOfWord_19 : decode cX5_endOfWord 19 = .ok (.ifCond .eq 9, 3) := by decide +kernel
theorem dX5_endOfWord_22 : decode cX5_endOfWord 22 = .ok (.iinc 2 1, 3) := by decide +kernel
theorem dX5_endOfWord_25 : decode cX5_endOfWord 25 = .ok (.goto (-23), 3) := by decide +kernel
theorem dX5_endOfWord_28 : decode cX5_endOfWord 28 = .ok (.iload_n 2, 1) := by decide +kernel
theorem dX5_endOfWord_29 : decode cX5_endOfWord 29 = .ok (.ireturn, 1) := by decide +kernel
theorem dX5_endOfNumber_0 : decode cX5_endOfNumber 0 = .ok (.iload_n 1, 1) := by decide +kernel
theorem dX5_endOfNumber_1 : decode cX5_endOfNumber 1 = .ok (.istore_n 2, 1) := by decide +kernel
theorem dX5_endOfNumber_2 : decode cX5_endOfNumber 2 = .ok (.iload_n 2, 1) := by decide +kernel
theorem dX5_endOfNumber_3 : decode cX5_endOfNumber 3 = .ok (.aload_n 0, 1) := by decide +kernel
theorem dX5_endOfNumber_4 : decode cX5_endOfNumber 4 = .ok (.getfield 15, 3) := by decide +kernel
theorem dX5_endOfNumber_7 : decode cX5_endOfNumber 7 = .ok (.if_icmp .ge 21, 3) := by decide +kernel
theorem dX5_endOfNumber_10 : decode cX5_endOfNumber 10 = .ok (.aload_n 0, 1) := by decide +kernel
theorem dX5_endOfNumber_11 : decode cX5_endOfNumber 11 = .ok (.getfield 9, 3) := by decide +kernel
theorem dX5_endOfNumber_14 : decode cX5_endOfNumber 14 = .ok (.iload_n 2, 1) := by decide +kernel
theorem dX5_endOfNumber_15 : decode cX5_endOfNumber 15 = .ok (.iaload, 1) := by decide +kernel
theorem dX5_endOfNumber_16 : decode cX5_endOfNumber 16 = .ok (.invokestatic 117, 3) := by decide +kernel
theorem dX5_endOfNumber_19 : decode cX5_endOfNumber 19 = .ok (.ifCond .eq 9, 3) := by decide +kernel
theorem dX5_endOfNumber_22 : decode cX5_endOfNumber 22 = .ok (.iinc 2 1, 3) := by decide +kernel
theorem dX5_endOfNumber_25 : decode cX5_endOfNumber 25 = .ok (.goto (-23), 3) := by decide +kernel
theorem dX5_endOfNumber_28 : decode cX5_endOfNumber 28 = .ok (.iload_n 2, 1) := by decide +kernel
theorem dX5_endOfNumber_29 : decode cX5_endOfNumber 29 = .ok (.ireturn, 1) := by decide +kernel
theorem dX5_addToken_0 : decode cX5_addToken 0 = .ok (.aload_n 0, 1) := by decide +kernel
theorem dX5_addToken_1 : decode cX5_addToken 1 = .ok (.getfield 28, 3) := by decide +kernel
theorem dX5_addToken_4 : decode cX5_addToken 4 = .ok (.aload_n 0, 1) := by decide +kernel
theorem dX5_addToken_5 : decode cX5_addToken 5 = .ok (.getfield 19, 3) := by decide +kernel
theorem dX5_addToken_8 : decode cX5_addToken 8 = .ok (.arraylength, 1) := by decide +kernel
theorem dX5_addToken_9 : decode cX5_addToken 9 = .ok (.if_icmp .ge 43, 3) := by decide +kernel
theorem dX5_addToken_12 : decode cX5_addToken 12 = .ok (.aload_n 0, 1) := by decide +kernel
theorem dX5_addToken_13 : decode cX5_addToken 13 = .ok (.getfield 19, 3) := by decide +kernel
theorem dX5_addToken_16 : decode cX5_addToken 16 = .ok (.aload_n 0, 1) := by decide +kernel
theorem dX5_addToken_17 : decode cX5_addToken 17 = .ok (.getfield 28, 3) := by decide +kernel
theorem dX5_addToken_20 : decode cX5_addToken 20 = .ok (.iload_n 1, 1) := by decide +kernel
theorem dX5_addToken_21 : decode cX5_addToken 21 = .ok (.iastore, 1) := by decide +kernel
theorem dX5_addToken_22 : decode cX5_addToken 22 = .ok (.aload_n 0, 1) := by decide +kernel
theorem dX5_addToken_23 : decode cX5_addToken 23 = .ok (.getfield 22, 3) := by decide +kernel
theorem dX5_addToken_26 : decode cX5_addToken 26 = .ok (.aload_n 0, 1) := by decide +kernel
theorem dX5_addToken_27 : decode cX5_addToken 27 = .ok (.getfield 28, 3) := by decide +kernel
theorem dX5_addToken_30 : decode cX5_addToken 30 = .ok (.iload_n 2, 1) := by decide +kernel
theorem dX5_addToken_31 : decode cX5_addToken 31 = .ok (.iastore, 1) := by decide +kernel
theorem dX5_addToken_32 : decode cX5_addToken 32 = .ok (.aload_n 0, 1) := by decide +kernel
theorem dX5_addToken_33 : decode cX5_addToken 33 = .ok (.getfield 25, 3) := by decide +kernel
theorem dX5_addToken_36 : decode cX5_addToken 36 = .ok (.aload_n 0, 1) := by decide +kernel
theorem dX5_addToken_37 : decode cX5_addToken 37 = .ok (.getfield 28, 3) := by decide +kernel
theorem dX5_addToken_40 : decode cX5_addToken 40 = .ok (.iload_n 3, 1) := by decide +kernel
theorem dX5_addToken_41 : decode cX5_addToken 41 = .ok (.iastore, 1) := by decide +kernel
theorem dX5_addToken_42 : decode cX5_addToken 42 = .ok (.aload_n 0, 1) := by decide +kernel
theorem dX5_addToken_43 : decode cX5_addToken 43 = .ok (.dup, 1) := by decide +kernel
theorem dX5_addToken_44 : decode cX5_addToken 44 = .ok (.getfield 28, 3) := by decide +kernel
theorem dX5_addToken_47 : decode cX5_addToken 47 = .ok (.iconst 1, 1) := by decide +kernel
theorem dX5_addToken_48 : decode cX5_addToken 48 = .ok (.iadd, 1) := by decide +kernel
theorem dX5_addToken_49 : decode cX5_addToken 49 = .ok (.putfield 28, 3) := by decide +kernel
theorem dX5_addToken_52 : decode cX5_addToken 52 = .ok (.return_, 1) := by decide +kernel
theorem dX5_addNumber_0 : decode cX5_addNumber 0 = .ok (.iconst 0, 1) := by decide +kernel
theorem dX5_addNumber_1 : decode cX5_addNumber 1 = .ok (.istore_n 3, 1) := by decide +kernel
theorem dX5_addNumber_2 : decode cX5_addNumber 2 = .ok (.iload_n 1, 1) := by decide +kernel
theorem dX5_addNumber_3 : decode cX5_addNumber 3 = .ok (.istore 4, 2) := by decide +kernel
theorem dX5_addNumber_5 : decode cX5_addNumber 5 = .ok (.iload 4, 2) := by decide +kernel
theorem dX5_addNumber_7 : decode cX5_addNumber 7 = .ok (.iload_n 2, 1) := by decide +kernel
theorem dX5_addNumber_8 : decode cX5_addNumber 8 = .ok (.if_icmp .ge 25, 3) := by decide +kernel
theorem dX5_addNumber_11 : decode cX5_addNumber 11 = .ok (.iload_n 3, 1) := by decide +kernel
theorem dX5_addNumber_12 : decode cX5_addNumber 12 = .ok (.bipush 10, 2) := by decide +kernel
theorem dX5_addNumber_14 : decode cX5_addNumber 14 = .ok (.imul, 1) := by decide +kernel
theorem dX5_addNumber_15 : decode cX5_addNumber 15 = .ok (.aload_n 0, 1) := by decide +kernel
theorem dX5_addNumber_16 : decode cX5_addNumber 16 = .ok (.getfield 9, 3) := by decide +kernel
theorem dX5_addNumber_19 : decode cX5_addNumber 19 = .ok (.iload 4, 2) := by decide +kernel
theorem dX5_addNumber_21 : decode cX5_addNumber 21 = .ok (.iaload, 1) := by decide +kernel
theorem dX5_addNumber_22 : decode cX5_addNumber 22 = .ok (.iadd, 1) := by decide +kernel
theorem dX5_addNumber_23 : decode cX5_addNumber 23 = .ok (.bipush 48, 2) := by decide +kernel
theorem dX5_addNumber_25 : decode cX5_addNumber 25 = .ok (.isub, 1) := by decide +kernel
theorem dX5_addNumber_26 : decode cX5_addNumber 26 = .ok (.istore_n 3, 1) := by decide +kernel
theorem dX5_addNumber_27 : decode cX5_addNumber 27 = .ok (.iinc 4 1, 3) := by decide +kernel
theorem dX5_addNumber_30 : decode cX5_addNumber 30 = .ok (.goto (-25), 3) := by decide +kernel
theorem dX5_addNumber_33 : decode cX5_addNumber 33 = .ok (.aload_n 0, 1) := by decide +kernel
theorem dX5_addNumber_34 : decode cX5_addNumber 34 = .ok (.iload_n 2, 1) := by decide +kernel
theorem dX5_addNumber_35 : decode cX5_addNumber 35 = .ok (.iload_n 1, 1) := by decide +kernel
theorem dX5_addNumber_36 : decode cX5_addNumber 36 = .ok (.isub, 1) := by decide +kernel
theorem dX5_addNumber_37 : decode cX5_addNumber 37 = .ok (.iconst 4, 1) := by decide +kernel
theorem dX5_addNumber_38 : decode cX5_addNumber 38 = .ok (.if_icmp .le 8, 3) := by decide +kernel
theorem dX5_addNumber_41 : decode cX5_addNumber 41 = .ok (.bipush (-2), 2) := by decide +kernel
theorem dX5_addNumber_43 : decode cX5_addNumber 43 = .ok (.goto 5, 3) := by decide +kernel
theorem dX5_addNumber_46 : decode cX5_addNumber 46 = .ok (.bipush (-3), 2) := by decide +kernel
theorem dX5_addNumber_48 : decode cX5_addNumber 48 = .ok (.iload_n 1, 1) := by decide +kernel
theorem dX5_addNumber_49 : decode cX5_addNumber 49 = .ok (.iload_n 3, 1) := by decide +kernel
theorem dX5_addNumber_50 : decode cX5_addNumber 50 = .ok (.invokevirtual 129, 3) := by decide +kernel
theorem dX5_addNumber_53 : decode cX5_addNumber 53 = .ok (.return_, 1) := by decide +kernel
theorem dX5_addWord_0 : decode cX5_addWord 0 = .ok (.aload_n 0, 1) := by decide +kernel
theorem dX5_addWord_1 : decode cX5_addWord 1 = .ok (.iload_n 1, 1) := by decide +kernel
theorem dX5_addWord_2 : decode cX5_addWord 2 = .ok (.iload_n 2, 1) := by decide +kernel
theorem dX5_addWord_3 : decode cX5_addWord 3 = .ok (.invokevirtual 133, 3) := by decide +kernel
theorem dX5_addWord_6 : decode cX5_addWord 6 = .ok (.istore_n 3, 1) := by decide +kernel
theorem dX5_addWord_7 : decode cX5_addWord 7 = .ok (.iload_n 3, 1) := by decide +kernel
theorem dX5_addWord_8 : decode cX5_addWord 8 = .ok (.iconst (-1), 1) := by decide +kernel
theorem dX5_addWord_9 : decode cX5_addWord 9 = .ok (.if_icmp .ne 18, 3) := by decide +kernel
theorem dX5_addWord_12 : decode cX5_addWord 12 = .ok (.aload_n 0, 1) := by decide +kernel
theorem dX5_addWord_13 : decode cX5_addWord 13 = .ok (.aload_n 0, 1) := by decide +kernel
theorem dX5_addWord_14 : decode cX5_addWord 14 = .ok (.iload_n 1, 1) := by decide +kernel
theorem dX5_addWord_15 : decode cX5_addWord 15 = .ok (.iload_n 2, 1) := by decide +kernel
theorem dX5_addWord_16 : decode cX5_addWord 16 = .ok (.invokevirtual 136, 3) := by decide +kernel
theorem dX5_addWord_19 : decode cX5_addWord 19 = .ok (.iload_n 1, 1) := by decide +kernel
theorem dX5_addWord_20 : decode cX5_addWord 20 = .ok (.iconst 0, 1) := by decide +kernel
theorem dX5_addWord_21 : decode cX5_addWord 21 = .ok (.invokevirtual 129, 3) := by decide +kernel
theorem dX5_addWord_24 : decode cX5_addWord 24 = .ok (.goto 13, 3) := by decide +kernel
theorem dX5_addWord_27 : decode cX5_addWord 27 = .ok (.aload_n 0, 1) := by decide +kernel
theorem dX5_addWord_28 : decode cX5_addWord 28 = .ok (.bipush (-4), 2) := by decide +kernel
theorem dX5_addWord_30 : decode cX5_addWord 30 = .ok (.iload_n 1, 1) := by decide +kernel
theorem dX5_addWord_31 : decode cX5_addWord 31 = .ok (.iconst (-1), 1) := by decide +kernel
theorem dX5_addWord_32 : decode cX5_addWord 32 = .ok (.iload_n 3, 1) := by decide +kernel
theorem dX5_addWord_33 : decode cX5_addWord 33 = .ok (.isub, 1) := by decide +kernel
theorem dX5_addWord_34 : decode cX5_addWord 34 = .ok (.invokevirtual 129, 3) := by decide +kernel
theorem dX5_addWord_37 : decode cX5_addWord 37 = .ok (.return_, 1) := by decide +kernel
theorem dX5_nameOf_0 : decode cX5_nameOf 0 = .ok (.aload_n 0, 1) := by decide +kernel
theorem dX5_nameOf_1 : decode cX5_nameOf 1 = .ok (.ldc 139, 2) := by decide +kernel
theorem dX5_nameOf_3 : decode cX5_nameOf 3 = .ok (.iload_n 1, 1) := by decide +kernel
theorem dX5_nameOf_4 : decode cX5_nameOf 4 = .ok (.iload_n 2, 1) := by decide +kernel
theorem dX5_nameOf_5 : decode cX5_nameOf 5 = .ok (.invokevirtual 141, 3) := by decide +kernel
theorem dX5_nameOf_8 : decode cX5_nameOf 8 = .ok (.ifCond .eq 5, 3) := by decide +kernel
theorem dX5_nameOf_11 : decode cX5_nameOf 11 = .ok (.iconst 0, 1) := by decide +kernel
theorem dX5_nameOf_12 : decode cX5_nameOf 12 = .ok (.ireturn, 1) := by decide +kernel
theorem dX5_nameOf_13 : decode cX5_nameOf 13 = .ok (.aload_n 0, 1) := by decide +kernel
theorem dX5_nameOf_14 : decode cX5_nameOf 14 = .ok (.ldc 145, 2) := by decide +kernel
theorem dX5_nameOf_16 : decode cX5_nameOf 16 = .ok (.iload_n 1, 1) := by decide +kernel
theorem dX5_nameOf_17 : decode cX5_nameOf 17 = .ok (.iload_n 2, 1) := by decide +kernel
theorem dX5_nameOf_18 : decode cX5_nameOf 18 = .ok (.invokevirtual 141, 3) := by decide +kernel
theorem dX5_nameOf_21 : decode cX5_nameOf 21 = .ok (.ifCond .eq 5, 3) := by decide +kernel
theorem dX5_nameOf_24 : decode cX5_nameOf 24 = .ok (.iconst 1, 1) := by decide +kernel
theorem dX5_nameOf_25 : decode cX5_nameOf 25 = .ok (.ireturn, 1) := by decide +kernel
theorem dX5_nameOf_26 : decode cX5_nameOf 26 = .ok (.aload_n 0, 1) := by decide +kernel
theorem dX5_nameOf_27 : decode cX5_nameOf 27 = .ok (.ldc 147, 2) := by decide +kernel
theorem dX5_nameOf_29 : decode cX5_nameOf 29 = .ok (.iload_n 1, 1) := by decide +kernel
theorem dX5_nameOf_30 : decode cX5_nameOf 30 = .ok (.iload_n 2, 1) := by decide +kernel
theorem dX5_nameOf_31 : decode cX5_nameOf 31 = .ok (.invokevirtual 141, 3) := by decide +kernel
theorem dX5_nameOf_34 : decode cX5_nameOf 34 = .ok (.ifCond .eq 5, 3) := by decide +kernel
theorem dX5_nameOf_37 : decode cX5_nameOf 37 = .ok (.iconst 2, 1) := by decide +kernel
theorem dX5_nameOf_38 : decode cX5_nameOf 38 = .ok (.ireturn, 1) := by decide +kernel
theorem dX5_nameOf_39 : decode cX5_nameOf 39 = .ok (.aload_n 0, 1) := by decide +kernel
theorem dX5_nameOf_40 : decode cX5_nameOf 40 = .ok (.ldc 149, 2) := by decide +kernel
theorem dX5_nameOf_42 : decode cX5_nameOf 42 = .ok (.iload_n 1, 1) := by decide +kernel
theorem dX5_nameOf_43 : decode cX5_nameOf 43 = .ok (.iload_n 2, 1) := by decide +kernel
theorem dX5_nameOf_44 : decode cX5_nameOf 44 = .ok (.invokevirtual 141, 3) := by decide +kernel
theorem dX5_nameOf_47 : decode cX5_nameOf 47 = .ok (.ifCond .eq 5, 3) := by decide +kernel
theorem dX5_nameOf_50 : decode cX5_nameOf 50 = .ok (.iconst 3, 1) := by decide +kernel
theorem dX5_nameOf_51 : decode cX5_nameOf 51 = .ok (.ireturn, 1) := by decide +kernel
theorem dX5_nameOf_52 : decode cX5_nameOf 52 = .ok (.aload_n 0, 1) := by decide +kernel
theorem dX5_nameOf_53 : decode cX5_nameOf 53 = .ok (.ldc 151, 2) := by decide +kernel
theorem dX5_nameOf_55 : decode cX5_nameOf 55 = .ok (.iload_n 1, 1) := by decide +kernel
theorem dX5_nameOf_56 : decode cX5_nameOf 56 = .ok (.iload_n 2, 1) := by decide +kernel
theorem dX5_nameOf_57 : decode cX5_nameOf 57 = .ok (.invokevirtual 141, 3) := by decide +kernel
theorem dX5_nameOf_60 : decode cX5_nameOf 60 = .ok (.ifCond .eq 5, 3) := by decide +kernel
theorem dX5_nameOf_63 : decode cX5_nameOf 63 = .ok (.iconst 4, 1) := by decide +kernel
theorem dX5_nameOf_64 : decode cX5_nameOf 64 = .ok (.ireturn, 1) := by decide +kernel
theorem dX5_nameOf_65 : decode cX5_nameOf 65 = .ok (.aload_n 0, 1) := by decide +kernel
theorem dX5_nameOf_66 : decode cX5_nameOf 66 = .ok (.ldc 153, 2) := by decide +kernel
theorem dX5_nameOf_68 : decode cX5_nameOf 68 = .ok (.iload_n 1, 1) := by decide +kernel
theorem dX5_nameOf_69 : decode cX5_nameOf 69 = .ok (.iload_n 2, 1) := by decide +kernel
theorem dX5_nameOf_70 : decode cX5_nameOf 70 = .ok (.invokevirtual 141, 3) := by decide +kernel
theorem dX5_nameOf_73 : decode cX5_nameOf 73 = .ok (.ifCond .eq 7, 3) := by decide +kernel
theorem dX5_nameOf_76 : decode cX5_nameOf 76 = .ok (.iconst 5, 1) := by decide +kernel
theorem dX5_nameOf_77 : decode cX5_nameOf 77 = .ok (.goto 4, 3) := by decide +kernel
theorem dX5_nameOf_80 : decode cX5_nameOf 80 = .ok (.iconst (-1), 1) := by decide +kernel
theorem dX5_nameOf_81 : decode cX5_nameOf 81 = .ok (.ireturn, 1) := by decide +kernel
theorem dX5_keyOf_0 : decode cX5_keyOf 0 = .ok (.aload_n 0, 1) := by decide +kernel
theorem dX5_keyOf_1 : decode cX5_keyOf 1 = .ok (.ldc 155, 2) := by decide +kernel
theorem dX5_keyOf_3 : decode cX5_keyOf 3 = .ok (.iload_n 1, 1) := by decide +kernel
theorem dX5_keyOf_4 : decode cX5_keyOf 4 = .ok (.iload_n 2, 1) := by decide +kernel
theorem dX5_keyOf_5 : decode cX5_keyOf 5 = .ok (.invokevirtual 141, 3) := by decide +kernel
theorem dX5_keyOf_8 : decode cX5_keyOf 8 = .ok (.ifCond .eq 6, 3) := by decide +kernel
theorem dX5_keyOf_11 : decode cX5_keyOf 11 = .ok (.bipush (-5), 2) := by decide +kernel
theorem dX5_keyOf_13 : decode cX5_keyOf 13 = .ok (.ireturn, 1) := by decide +kernel
theorem dX5_keyOf_14 : decode cX5_keyOf 14 = .ok (.aload_n 0, 1) := by decide +kernel
theorem dX5_keyOf_15 : decode cX5_keyOf 15 = .ok (.ldc 157, 2) := by decide +kernel
theorem dX5_keyOf_17 : decode cX5_keyOf 17 = .ok (.iload_n 1, 1) := by decide +kernel
theorem dX5_keyOf_18 : decode cX5_keyOf 18 = .ok (.iload_n 2, 1) := by decide +kernel
theorem dX5_keyOf_19 : decode cX5_keyOf 19 = .ok (.invokevirtual 141, 3) := by decide +kernel
theorem dX5_keyOf_22 : decode cX5_keyOf 22 = .ok (.ifCond .eq 6, 3) := by decide +kernel
theorem dX5_keyOf_25 : decode cX5_keyOf 25 = .ok (.bipush (-6), 2) := by decide +kernel
theorem dX5_keyOf_27 : decode cX5_keyOf 27 = .ok (.ireturn, 1) := by decide +kernel
theorem dX5_keyOf_28 : decode cX5_keyOf 28 = .ok (.aload_n 0, 1) := by decide +kernel
theorem dX5_keyOf_29 : decode cX5_keyOf 29 = .ok (.ldc 159, 2) := by decide +kernel
theorem dX5_keyOf_31 : decode cX5_keyOf 31 = .ok (.iload_n 1, 1) := by decide +kernel
theorem dX5_keyOf_32 : decode cX5_keyOf 32 = .ok (.iload_n 2, 1) := by decide +kernel
theorem dX5_keyOf_33 : decode cX5_keyOf 33 = .ok (.invokevirtual 141, 3) := by decide +kernel
theorem dX5_keyOf_36 : decode cX5_keyOf 36 = .ok (.ifCond .eq 6, 3) := by decide +kernel
theorem dX5_keyOf_39 : decode cX5_keyOf 39 = .ok (.bipush (-7), 2) := by decide +kernel
theorem dX5_keyOf_41 : decode cX5_keyOf 41 = .ok (.ireturn, 1) := by decide +kernel
theorem dX5_keyOf_42 : decode cX5_keyOf 42 = .ok (.aload_n 0, 1) := by decide +kernel
theorem dX5_keyOf_43 : decode cX5_keyOf 43 = .ok (.ldc 161, 2) := by decide +kernel
theorem dX5_keyOf_45 : decode cX5_keyOf 45 = .ok (.iload_n 1, 1) := by decide +kernel
theorem dX5_keyOf_46 : decode cX5_keyOf 46 = .ok (.iload_n 2, 1) := by decide +kernel
theorem dX5_keyOf_47 : decode cX5_keyOf 47 = .ok (.invokevirtual 141, 3) := by decide +kernel
theorem dX5_keyOf_50 : decode cX5_keyOf 50 = .ok (.ifCond .eq 6, 3) := by decide +kernel
theorem dX5_keyOf_53 : decode cX5_keyOf 53 = .ok (.bipush (-8), 2) := by decide +kernel
theorem dX5_keyOf_55 : decode cX5_keyOf 55 = .ok (.ireturn, 1) := by decide +kernel
theorem dX5_keyOf_56 : decode cX5_keyOf 56 = .ok (.aload_n 0, 1) := by decide +kernel
theorem dX5_keyOf_57 : decode cX5_keyOf 57 = .ok (.ldc 163, 2) := by decide +kernel
theorem dX5_keyOf_59 : decode cX5_keyOf 59 = .ok (.iload_n 1, 1) := by decide +kernel
theorem dX5_keyOf_60 : decode cX5_keyOf 60 = .ok (.iload_n 2, 1) := by decide +kernel
theorem dX5_keyOf_61 : decode cX5_keyOf 61 = .ok (.invokevirtual 141, 3) := by decide +kernel
theorem dX5_keyOf_64 : decode cX5_keyOf 64 = .ok (.ifCond .eq 8, 3) := by decide +kernel
theorem dX5_keyOf_67 : decode cX5_keyOf 67 = .ok (.bipush (-9), 2) := by decide +kernel
theorem dX5_keyOf_69 : decode cX5_keyOf 69 = .ok (.goto 5, 3) := by decide +kernel
theorem dX5_keyOf_72 : decode cX5_keyOf 72 = .ok (.bipush (-2), 2) := by decide +kernel
theorem dX5_keyOf_74 : decode cX5_keyOf 74 = .ok (.ireturn, 1) := by decide +kernel
theorem dX5_spells_0 : decode cX5_spells 0 = .ok (.iload_n 3, 1) := by decide +kernel
theorem dX5_spells_1 : decode cX5_spells 1 = .ok (.iload_n 2, 1) := by decide +kernel
theorem dX5_spells_2 : decode cX5_spells 2 = .ok (.isub, 1) := by decide +kernel
theorem dX5_spells_3 : decode cX5_spells 3 = .ok (.aload_n 1, 1) := by decide +kernel
theorem dX5_spells_4 : decode cX5_spells 4 = .ok (.invokevirtual 165, 3) := by decide +kernel
theorem dX5_spells_7 : decode cX5_spells 7 = .ok (.if_icmp .ne 15, 3) := by decide +kernel
theorem dX5_spells_10 : decode cX5_spells 10 = .ok (.iload_n 2, 1) := by decide +kernel
theorem dX5_spells_11 : decode cX5_spells 11 = .ok (.ifCond .lt 11, 3) := by decide +kernel
theorem dX5_spells_14 : decode cX5_spells 14 = .ok (.iload_n 3, 1) := by decide +kernel
theorem dX5_spells_15 : decode cX5_spells 15 = .ok (.aload_n 0, 1) := by decide +kernel
theorem dX5_spells_16 : decode cX5_spells 16 = .ok (.getfield 15, 3) := by decide +kernel
theorem dX5_spells_19 : decode cX5_spells 19 = .ok (.if_icmp .le 5, 3) := by decide +kernel
theorem dX5_spells_22 : decode cX5_spells 22 = .ok (.iconst 0, 1) := by decide +kernel
theorem dX5_spells_23 : decode cX5_spells 23 = .ok (.ireturn, 1) := by decide +kernel
theorem dX5_spells_24 : decode cX5_spells 24 = .ok (.iconst 0, 1) := by decide +kernel
theorem dX5_spells_25 : decode cX5_spells 25 = .ok (.istore 4, 2) := by decide +kernel
theorem dX5_spells_27 : decode cX5_spells 27 = .ok (.iload 4, 2) := by decide +kernel
theorem dX5_spells_29 : decode cX5_spells 29 = .ok (.aload_n 1, 1) := by decide +kernel
theorem dX5_spells_30 : decode cX5_spells 30 = .ok (.invokevirtual 165, 3) := by decide +kernel
theorem dX5_spells_33 : decode cX5_spells 33 = .ok (.if_icmp .ge 29, 3) := by decide +kernel
theorem dX5_spells_36 : decode cX5_spells 36 = .ok (.aload_n 0, 1) := by decide +kernel
theorem dX5_spells_37 : decode cX5_spells 37 = .ok (.getfield 9, 3) := by decide +kernel
theorem dX5_spells_40 : decode cX5_spells 40 = .ok (.iload_n 2, 1) := by decide +kernel
theorem dX5_spells_41 : decode cX5_spells 41 = .ok (.iload 4, 2) := by decide +kernel
theorem dX5_spells_43 : decode cX5_spells 43 = .ok (.iadd, 1) := by decide +kernel
theorem dX5_spells_44 : decode cX5_spells 44 = .ok (.iaload, 1) := by decide +kernel
theorem dX5_spells_45 : decode cX5_spells 45 = .ok (.aload_n 1, 1) := by decide +kernel
theorem dX5_spells_46 : decode cX5_spells 46 = .ok (.iload 4, 2) := by decide +kernel
theorem dX5_spells_48 : decode cX5_spells 48 = .ok (.invokevirtual 170, 3) := by decide +kernel
theorem dX5_spells_51 : decode cX5_spells 51 = .ok (.if_icmp .eq 5, 3) := by decide +kernel
theorem dX5_spells_54 : decode cX5_spells 54 = .ok (.iconst 0, 1) := by decide +kernel
theorem dX5_spells_55 : decode cX5_spells 55 = .ok (.ireturn, 1) := by decide +kernel
theorem dX5_spells_56 : decode cX5_spells 56 = .ok (.iinc 4 1, 3) := by decide +kernel
theorem dX5_spells_59 : decode cX5_spells 59 = .ok (.goto (-32), 3) := by decide +kernel
theorem dX5_spells_62 : decode cX5_spells 62 = .ok (.iconst 1, 1) := by decide +kernel
theorem dX5_spells_63 : decode cX5_spells 63 = .ok (.ireturn, 1) := by decide +kernel
theorem dX6_init_0 : decode cX6_init 0 = .ok (.aload_n 0, 1) := by decide +kernel
theorem dX6_init_1 : decode cX6_init 1 = .ok (.invokespecial 3, 3) := by decide +kernel
theorem dX6_init_4 : decode cX6_init 4 = .ok (.aload_n 0, 1) := by decide +kernel
theorem dX6_init_5 : decode cX6_init 5 = .ok (.new 9, 3) := by decide +kernel
theorem dX6_init_8 : decode cX6_init 8 = .ok (.dup, 1) := by decide +kernel
theorem dX6_init_9 : decode cX6_init 9 = .ok (.invokespecial 11, 3) := by decide +kernel
theorem dX6_init_12 : decode cX6_init 12 = .ok (.putfield 12, 3) := by decide +kernel
theorem dX6_init_15 : decode cX6_init 15 = .ok (.aload_n 0, 1) := by decide +kernel
theorem dX6_init_16 : decode cX6_init 16 = .ok (.new 18, 3) := by decide +kernel
theorem dX6_init_19 : decode cX6_init 19 = .ok (.dup, 1) := by decide +kernel
theorem dX6_init_20 : decode cX6_init 20 = .ok (.invokespecial 20, 3) := by decide +kernel
theorem dX6_init_23 : decode cX6_init 23 = .ok (.putfield 21, 3) := by decide +kernel
theorem dX6_init_26 : decode cX6_init 26 = .ok (.aload_n 0, 1) := by decide +kernel
theorem dX6_init_27 : decode cX6_init 27 = .ok (.bipush 6, 2) := by decide +kernel
theorem dX6_init_29 : decode cX6_init 29 = .ok (.newarray .int, 2) := by decide +kernel
theorem dX6_init_31 : decode cX6_init 31 = .ok (.putfield 27, 3) := by decide +kernel
theorem dX6_init_34 : decode cX6_init 34 = .ok (.aload_n 0, 1) := by decide +kernel
theorem dX6_init_35 : decode cX6_init 35 = .ok (.iconst 0, 1) := by decide +kernel
theorem dX6_init_36 : decode cX6_init 36 = .ok (.putfield 31, 3) := by decide +kernel
theorem dX6_init_39 : decode cX6_init 39 = .ok (.aload_n 0, 1) := by decide +kernel
theorem dX6_init_40 : decode cX6_init 40 = .ok (.iconst 0, 1) := by decide +kernel
theorem dX6_init_41 : decode cX6_init 41 = .ok (.putfield 35, 3) := by decide +kernel
theorem dX6_init_44 : decode cX6_init 44 = .ok (.aload_n 0, 1) := by decide +kernel
theorem dX6_init_45 : decode cX6_init 45 = .ok (.iconst 0, 1) := by decide +kernel
theorem dX6_init_46 : decode cX6_init 46 = .ok (.putfield 38, 3) := by decide +kernel
theorem dX6_init_49 : decode cX6_init 49 = .ok (.aload_n 0, 1) := by decide +kernel
theorem dX6_init_50 : decode cX6_init 50 = .ok (.lconst 0, 1) := by decide +kernel
theorem dX6_init_51 : decode cX6_init 51 = .ok (.putfield 41, 3) := by decide +kernel
theorem dX6_init_54 : decode cX6_init 54 = .ok (.aload_n 0, 1) := by decide +kernel
theorem dX6_init_55 : decode cX6_init 55 = .ok (.aload_n 2, 1) := by decide +kernel
theorem dX6_init_56 : decode cX6_init 56 = .ok (.putfield 45, 3) := by decide +kernel
theorem dX6_init_59 : decode cX6_init 59 = .ok (.aload_n 0, 1) := by decide +kernel
theorem dX6_init_60 : decode cX6_init 60 = .ok (.aload_n 3, 1) := by decide +kernel
theorem dX6_init_61 : decode cX6_init 61 = .ok (.putfield 49, 3) := by decide +kernel
theorem dX6_init_64 : decode cX6_init 64 = .ok (.aload_n 0, 1) := by decide +kernel
theorem dX6_init_65 : decode cX6_init 65 = .ok (.iload_n 1, 1) := by decide +kernel
theorem dX6_init_66 : decode cX6_init 66 = .ok (.iconst 1, 1) := by decide +kernel
theorem dX6_init_67 : decode cX6_init 67 = .ok (.invokestatic 53, 3) := by decide +kernel
theorem dX6_init_70 : decode cX6_init 70 = .ok (.newarray .int, 2) := by decide +kernel
theorem dX6_init_72 : decode cX6_init 72 = .ok (.putfield 59, 3) := by decide +kernel
theorem dX6_init_75 : decode cX6_init 75 = .ok (.aload_n 0, 1) := by decide +kernel
theorem dX6_init_76 : decode cX6_init 76 = .ok (.getfield 59, 3) := by decide +kernel
theorem dX6_init_79 : decode cX6_init 79 = .ok (.iconst (-1), 1) := by decide +kernel
theorem dX6_init_80 : decode cX6_init 80 = .ok (.invokestatic 62, 3) := by decide +kernel
theorem dX6_init_83 : decode cX6_init 83 = .ok (.aload_n 0, 1) := by decide +kernel
theorem dX6_init_84 : decode cX6_init 84 = .ok (.new 68, 3) := by decide +kernel
theorem dX6_init_87 : decode cX6_init 87 = .ok (.dup, 1) := by decide +kernel
theorem dX6_init_88 : decode cX6_init 88 = .ok (.iload_n 1, 1) := by decide +kernel
theorem dX6_init_89 : decode cX6_init 89 = .ok (.invokespecial 70, 3) := by decide +kernel
theorem dX6_init_92 : decode cX6_init 92 = .ok (.putfield 73, 3) := by decide +kernel
theorem dX6_init_95 : decode cX6_init 95 = .ok (.return_, 1) := by decide +kernel
theorem dX6_isPlace_0 : decode cX6_isPlace 0 = .ok (.iload_n 1, 1) := by decide +kernel
theorem dX6_isPlace_1 : decode cX6_isPlace 1 = .ok (.ifCond .lt 28, 3) := by decide +kernel
theorem dX6_isPlace_4 : decode cX6_isPlace 4 = .ok (.iload_n 1, 1) := by decide +kernel
theorem dX6_isPlace_5 : decode cX6_isPlace 5 = .ok (.aload_n 0, 1) := by decide +kernel
theorem dX6_isPlace_6 : decode cX6_isPlace 6 = .ok (.getfield 59, 3) := by decide +kernel
theorem dX6_isPlace_9 : decode cX6_isPlace 9 = .ok (.arraylength, 1) := by decide +kernel
theorem dX6_isPlace_10 : decode cX6_isPlace 10 = .ok (.if_icmp .ge 19, 3) := by decide +kernel
theorem dX6_isPlace_13 : decode cX6_isPlace 13 = .ok (.iload_n 1, 1) := by decide +kernel
theorem dX6_isPlace_14 : decode cX6_isPlace 14 = .ok (.aload_n 0, 1) := by decide +kernel
theorem dX6_isPlace_15 : decode cX6_isPlace 15 = .ok (.getfield 73, 3) := by decide +kernel
theorem dX6_isPlace_18 : decode cX6_isPlace 18 = .ok (.getfield 77, 3) := by decide +kernel
theorem dX6_isPlace_21 : decode cX6_isPlace 21 = .ok (.arraylength, 1) := by decide +kernel
theorem dX6_isPlace_22 : decode cX6_isPlace 22 = .ok (.if_icmp .ge 7, 3) := by decide +kernel
theorem dX6_isPlace_25 : decode cX6_isPlace 25 = .ok (.iconst 1, 1) := by decide +kernel
theorem dX6_isPlace_26 : decode cX6_isPlace 26 = .ok (.goto 4, 3) := by decide +kernel
theorem dX6_isPlace_29 : decode cX6_isPlace 29 = .ok (.iconst 0, 1) := by decide +kernel
theorem dX6_isPlace_30 : decode cX6_isPlace 30 = .ok (.ireturn, 1) := by decide +kernel
theorem dX6_whereIs_0 : decode cX6_whereIs 0 = .ok (.aload_n 0, 1) := by decide +kernel
theorem dX6_whereIs_1 : decode cX6_whereIs 1 = .ok (.getfield 12, 3) := by decide +kernel
theorem dX6_whereIs_4 : decode cX6_whereIs 4 = .ok (.iload_n 1, 1) := by decide +kernel
theorem dX6_whereIs_5 : decode cX6_whereIs 5 = .ok (.invokevirtual 80, 3) := by decide +kernel
theorem dX6_whereIs_8 : decode cX6_whereIs 8 = .ok (.ifCond .ne 5, 3) := by decide +kernel
theorem dX6_whereIs_11 : decode cX6_whereIs 11 = .ok (.iconst (-1), 1) := by decide +kernel
theorem dX6_whereIs_12 : decode cX6_whereIs 12 = .ok (.ireturn, 1) := by decide +kernel
theorem dX6_whereIs_13 : decode cX6_whereIs 13 = .ok (.aload_n 0, 1) := by decide +kernel
theorem dX6_whereIs_14 : decode cX6_whereIs 14 = .ok (.getfield 12, 3) := by decide +kernel
theorem dX6_whereIs_17 : decode cX6_whereIs 17 = .ok (.getfield 84, 3) := by decide +kernel
theorem dX6_whereIs_20 : decode cX6_whereIs 20 = .ok (.iload_n 1, 1) := by decide +kernel
theorem dX6_whereIs_21 : decode cX6_whereIs 21 = .ok (.iaload, 1) := by decide +kernel
theorem dX6_whereIs_22 : decode cX6_whereIs 22 = .ok (.tableswitch 57 0 2 #[26, 35, 47], 26) := by decide +kernel
theorem dX6_whereIs_48 : decode cX6_whereIs 48 = .ok (.aload_n 0, 1) := by decide +kernel
theorem dX6_whereIs_49 : decode cX6_whereIs 49 = .ok (.getfield 59, 3) := by decide +kernel
theorem dX6_whereIs_52 : decode cX6_whereIs 52 = .ok (.iload_n 1, 1) := by decide +kernel
theorem dX6_whereIs_53 : decode cX6_whereIs 53 = .ok (.invokestatic 87, 3) := by decide +kernel
theorem dX6_whereIs_56 : decode cX6_whereIs 56 = .ok (.ireturn, 1) := by decide +kernel
theorem dX6_whereIs_57 : decode cX6_whereIs 57 = .ok (.aload_n 0, 1) := by decide +kernel
theorem dX6_whereIs_58 : decode cX6_whereIs 58 = .ok (.getfield 73, 3) := by decide +kernel
theorem dX6_whereIs_61 : decode cX6_whereIs 61 = .ok (.getfield 77, 3) := by decide +kernel
theorem dX6_whereIs_64 : decode cX6_whereIs 64 = .ok (.iload_n 1, 1) := by decide +kernel
theorem dX6_whereIs_65 : decode cX6_whereIs 65 = .ok (.invokestatic 87, 3) := by decide +kernel
theorem dX6_whereIs_68 : decode cX6_whereIs 68 = .ok (.ireturn, 1) := by decide +kernel
theorem dX6_whereIs_69 : decode cX6_whereIs 69 = .ok (.aload_n 0, 1) := by decide +kernel
theorem dX6_whereIs_70 : decode cX6_whereIs 70 = .ok (.getfield 12, 3) := by decide +kernel
theorem dX6_whereIs_73 : decode cX6_whereIs 73 = .ok (.getfield 91, 3) := by decide +kernel
theorem dX6_whereIs_76 : decode cX6_whereIs 76 = .ok (.iload_n 1, 1) := by decide +kernel
theorem dX6_whereIs_77 : decode cX6_whereIs 77 = .ok (.iaload, 1) := by decide +kernel
theorem dX6_whereIs_78 : decode cX6_whereIs 78 = .ok (.ireturn, 1) := by decide +kernel
theorem dX6_whereIs_79 : decode cX6_whereIs 79 = .ok (.iconst (-1), 1) := by decide +kernel
theorem dX6_whereIs_80 : decode cX6_whereIs 80 = .ok (.ireturn, 1) := by decide +kernel
theorem dX6_layAtHatch_0 : decode cX6_layAtHatch 0 = .ok (.iload_n 1, 1) := by decide +kernel
theorem dX6_layAtHatch_1 : decode cX6_layAtHatch 1 = .ok (.invokestatic 93, 3) := by decide +kernel
theorem dX6_layAtHatch_4 : decode cX6_layAtHatch 4 = .ok (.ifCond .ne 6, 3) := by decide +kernel
theorem dX6_layAtHatch_7 : decode cX6_layAtHatch 7 = .ok (.bipush (-2), 2) := by decide +kernel
theorem dX6_layAtHatch_9 : decode cX6_layAtHatch 9 = .ok (.ireturn, 1) := by decide +kernel
theorem dX6_layAtHatch_10 : decode cX6_layAtHatch 10 = .ok (.aload_n 0, 1) := by decide +kernel
theorem dX6_layAtHatch_11 : decode cX6_layAtHatch 11 = .ok (.getfield 59, 3) := by decide +kernel
theorem dX6_layAtHatch_14 : decode cX6_layAtHatch 14 = .ok (.iconst 0, 1) := by decide +kernel
theorem dX6_layAtHatch_15 : decode cX6_layAtHatch 15 = .ok (.iaload, 1) := by decide +kernel
theorem dX6_layAtHatch_16 : decode cX6_layAtHatch 16 = .ok (.iconst (-1), 1) := by decide +kernel
theorem dX6_layAtHatch_17 : decode cX6_layAtHatch 17 = .ok (.if_icmp .eq 6, 3) := by decide +kernel
theorem dX6_layAtHatch_20 : decode cX6_layAtHatch 20 = .ok (.bipush (-3), 2) := by decide +kernel
theorem dX6_layAtHatch_22 : decode cX6_layAtHatch 22 = .ok (.ireturn, 1) := by decide +kernel
theorem dX6_layAtHatch_23 : decode cX6_layAtHatch 23 = .ok (.aload_n 0, 1) := by decide +kernel
theorem dX6_layAtHatch_24 : decode cX6_layAtHatch 24 = .ok (.getfield 12, 3) := by decide +kernel
theorem dX6_layAtHatch_27 : decode cX6_layAtHatch 27 = .ok (.iload_n 1, 1) := by decide +kernel
theorem dX6_layAtHatch_28 : decode cX6_layAtHatch 28 = .ok (.aload_n 0, 1) := by decide +kernel
theorem dX6_layAtHatch_29 : decode cX6_layAtHatch 29 = .ok (.getfield 45, 3) := by decide +kernel
theorem dX6_layAtHatch_32 : decode cX6_layAtHatch 32 = .ok (.getfield 96, 3) := by decide +kernel
theorem dX6_layAtHatch_35 : decode cX6_layAtHatch 35 = .ok (.iload_n 1, 1) := by decide +kernel
theorem dX6_layAtHatch_36 : decode cX6_layAtHatch 36 = .ok (.iaload, 1) := by decide +kernel
theorem dX6_layAtHatch_37 : decode cX6_layAtHatch 37 = .ok (.iconst 0, 1) := by decide +kernel
theorem dX6_layAtHatch_38 : decode cX6_layAtHatch 38 = .ok (.iconst (-1), 1) := by decide +kernel
theorem dX6_layAtHatch_39 : decode cX6_layAtHatch 39 = .ok (.invokevirtual 101, 3) := by decide +kernel
theorem dX6_layAtHatch_42 : decode cX6_layAtHatch 42 = .ok (.istore_n 2, 1) := by decide +kernel
theorem dX6_layAtHatch_43 : decode cX6_layAtHatch 43 = .ok (.iload_n 2, 1) := by decide +kernel
theorem dX6_layAtHatch_44 : decode cX6_layAtHatch 44 = .ok (.ifCond .lt 10, 3) := by decide +kernel
theorem dX6_layAtHatch_47 : decode cX6_layAtHatch 47 = .ok (.aload_n 0, 1) := by decide +kernel
theorem dX6_layAtHatch_48 : decode cX6_layAtHatch 48 = .ok (.getfield 59, 3) := by decide +kernel
theorem dX6_layAtHatch_51 : decode cX6_layAtHatch 51 = .ok (.iconst 0, 1) := by decide +kernel
theorem dX6_layAtHatch_52 : decode cX6_layAtHatch 52 = .ok (.iload_n 2, 1) := by decide +kernel
theorem dX6_layAtHatch_53 : decode cX6_layAtHatch 53 = .ok (.iastore, 1) := by decide +kernel
theorem dX6_layAtHatch_54 : decode cX6_layAtHatch 54 = .ok (.iload_n 2, 1) := by decide +kernel
theorem dX6_layAtHatch_55 : decode cX6_layAtHatch 55 = .ok (.ireturn, 1) := by decide +kernel
theorem dX6_sendTray_0 : decode cX6_sendTray 0 = .ok (.aload_n 0, 1) := by decide +kernel
theorem dX6_sendTray_1 : decode cX6_sendTray 1 = .ok (.getfield 73, 3) := by decide +kernel
theorem dX6_sendTray_4 : decode cX6_sendTray 4 = .ok (.invokevirtual 105, 3) := by decide +kernel
theorem dX6_sendTray_7 : decode cX6_sendTray 7 = .ok (.ifCond .ne 10, 3) := by decide +kernel
theorem dX6_sendTray_10 : decode cX6_sendTray 10 = .ok (.iload_n 2, 1) := by decide +kernel
theorem dX6_sendTray_11 : decode cX6_sendTray 11 = .ok (.invokestatic 93, 3) := by decide +kernel
theorem dX6_sendTray_14 : decode cX6_sendTray 14 = .ok (.ifCond .ne 6, 3) := by decide +kernel
