theorem dX12_isText_46 : decode cX12_isText 46 = .ok (.ifCond .ne 5, 3) := by decide +kernel
theorem dX12_isText_49 : decode cX12_isText 49 = .ok (.iconst 0, 1) := by decide +kernel
theorem dX12_isText_50 : decode cX12_isText 50 = .ok (.ireturn, 1) := by decide +kernel
theorem dX12_isText_51 : decode cX12_isText 51 = .ok (.aload_n 0, 1) := by decide +kernel
theorem dX12_isText_52 : decode cX12_isText 52 = .ok (.invokevirtual 320, 3) := by decide +kernel
theorem dX12_isText_55 : decode cX12_isText 55 = .ok (.iinc 1 1, 3) := by decide +kernel
theorem dX12_isText_58 : decode cX12_isText 58 = .ok (.goto (-47), 3) := by decide +kernel
theorem dX12_isText_61 : decode cX12_isText 61 = .ok (.aload_n 0, 1) := by decide +kernel
theorem dX12_isText_62 : decode cX12_isText 62 = .ok (.getfield 112, 3) := by decide +kernel
theorem dX12_isText_65 : decode cX12_isText 65 = .ok (.ifCond .ne 7, 3) := by decide +kernel
theorem dX12_isText_68 : decode cX12_isText 68 = .ok (.iconst 1, 1) := by decide +kernel
theorem dX12_isText_69 : decode cX12_isText 69 = .ok (.goto 4, 3) := by decide +kernel
theorem dX12_isText_72 : decode cX12_isText 72 = .ok (.iconst 0, 1) := by decide +kernel
theorem dX12_isText_73 : decode cX12_isText 73 = .ok (.ireturn, 1) := by decide +kernel
theorem dX12_text_0 : decode cX12_text 0 = .ok (.aload_n 0, 1) := by decide +kernel
theorem dX12_text_1 : decode cX12_text 1 = .ok (.getfield 97, 3) := by decide +kernel
theorem dX12_text_4 : decode cX12_text 4 = .ok (.bipush 6, 2) := by decide +kernel
theorem dX12_text_6 : decode cX12_text 6 = .ok (.if_icmp .ne 6, 3) := by decide +kernel
theorem dX12_text_9 : decode cX12_text 9 = .ok (.bipush (-4), 2) := by decide +kernel
theorem dX12_text_11 : decode cX12_text 11 = .ok (.ireturn, 1) := by decide +kernel
theorem dX12_text_12 : decode cX12_text 12 = .ok (.aload_n 0, 1) := by decide +kernel
theorem dX12_text_13 : decode cX12_text 13 = .ok (.invokevirtual 331, 3) := by decide +kernel
theorem dX12_text_16 : decode cX12_text 16 = .ok (.istore_n 1, 1) := by decide +kernel
theorem dX12_text_17 : decode cX12_text 17 = .ok (.aload_n 0, 1) := by decide +kernel
theorem dX12_text_18 : decode cX12_text 18 = .ok (.getfield 118, 3) := by decide +kernel
theorem dX12_text_21 : decode cX12_text 21 = .ok (.istore_n 2, 1) := by decide +kernel
theorem dX12_text_22 : decode cX12_text 22 = .ok (.aload_n 0, 1) := by decide +kernel
theorem dX12_text_23 : decode cX12_text 23 = .ok (.iconst 0, 1) := by decide +kernel
theorem dX12_text_24 : decode cX12_text 24 = .ok (.putfield 94, 3) := by decide +kernel
theorem dX12_text_27 : decode cX12_text 27 = .ok (.iload_n 1, 1) := by decide +kernel
theorem dX12_text_28 : decode cX12_text 28 = .ok (.ifCond .ne 8, 3) := by decide +kernel
theorem dX12_text_31 : decode cX12_text 31 = .ok (.bipush (-100), 2) := by decide +kernel
theorem dX12_text_33 : decode cX12_text 33 = .ok (.iload_n 2, 1) := by decide +kernel
theorem dX12_text_34 : decode cX12_text 34 = .ok (.isub, 1) := by decide +kernel
theorem dX12_text_35 : decode cX12_text 35 = .ok (.ireturn, 1) := by decide +kernel
theorem dX12_text_36 : decode cX12_text 36 = .ok (.aload_n 0, 1) := by decide +kernel
theorem dX12_text_37 : decode cX12_text 37 = .ok (.dup, 1) := by decide +kernel
theorem dX12_text_38 : decode cX12_text 38 = .ok (.getfield 97, 3) := by decide +kernel
theorem dX12_text_41 : decode cX12_text 41 = .ok (.iconst 1, 1) := by decide +kernel
theorem dX12_text_42 : decode cX12_text 42 = .ok (.iadd, 1) := by decide +kernel
theorem dX12_text_43 : decode cX12_text 43 = .ok (.putfield 97, 3) := by decide +kernel
theorem dX12_text_46 : decode cX12_text 46 = .ok (.aload_n 0, 1) := by decide +kernel
theorem dX12_text_47 : decode cX12_text 47 = .ok (.getfield 97, 3) := by decide +kernel
theorem dX12_text_50 : decode cX12_text 50 = .ok (.iconst 1, 1) := by decide +kernel
theorem dX12_text_51 : decode cX12_text 51 = .ok (.isub, 1) := by decide +kernel
theorem dX12_text_52 : decode cX12_text 52 = .ok (.ireturn, 1) := by decide +kernel
theorem dX12_force_0 : decode cX12_force 0 = .ok (.aload_n 0, 1) := by decide +kernel
theorem dX12_force_1 : decode cX12_force 1 = .ok (.iload_n 1, 1) := by decide +kernel
theorem dX12_force_2 : decode cX12_force 2 = .ok (.iconst 0, 1) := by decide +kernel
theorem dX12_force_3 : decode cX12_force 3 = .ok (.aload_n 0, 1) := by decide +kernel
theorem dX12_force_4 : decode cX12_force 4 = .ok (.getfield 97, 3) := by decide +kernel
theorem dX12_force_7 : decode cX12_force 7 = .ok (.iconst 1, 1) := by decide +kernel
theorem dX12_force_8 : decode cX12_force 8 = .ok (.isub, 1) := by decide +kernel
theorem dX12_force_9 : decode cX12_force 9 = .ok (.invokevirtual 217, 3) := by decide +kernel
theorem dX12_force_12 : decode cX12_force 12 = .ok (.ifCond .ne 6, 3) := by decide +kernel
theorem dX12_force_15 : decode cX12_force 15 = .ok (.bipush (-2), 2) := by decide +kernel
theorem dX12_force_17 : decode cX12_force 17 = .ok (.ireturn, 1) := by decide +kernel
theorem dX12_force_18 : decode cX12_force 18 = .ok (.aload_n 0, 1) := by decide +kernel
theorem dX12_force_19 : decode cX12_force 19 = .ok (.getfield 100, 3) := by decide +kernel
theorem dX12_force_22 : decode cX12_force 22 = .ok (.istore_n 2, 1) := by decide +kernel
theorem dX12_force_23 : decode cX12_force 23 = .ok (.aload_n 0, 1) := by decide +kernel
theorem dX12_force_24 : decode cX12_force 24 = .ok (.iload_n 1, 1) := by decide +kernel
theorem dX12_force_25 : decode cX12_force 25 = .ok (.putfield 100, 3) := by decide +kernel
theorem dX12_force_28 : decode cX12_force 28 = .ok (.iload_n 2, 1) := by decide +kernel
theorem dX12_force_29 : decode cX12_force 29 = .ok (.ireturn, 1) := by decide +kernel
theorem dX12_findFacts_0 : decode cX12_findFacts 0 = .ok (.aload_n 0, 1) := by decide +kernel
theorem dX12_findFacts_1 : decode cX12_findFacts 1 = .ok (.getfield 139, 3) := by decide +kernel
theorem dX12_findFacts_4 : decode cX12_findFacts 4 = .ok (.iconst 0, 1) := by decide +kernel
theorem dX12_findFacts_5 : decode cX12_findFacts 5 = .ok (.iload_n 2, 1) := by decide +kernel
theorem dX12_findFacts_6 : decode cX12_findFacts 6 = .ok (.ifCond .ge 7, 3) := by decide +kernel
theorem dX12_findFacts_9 : decode cX12_findFacts 9 = .ok (.iconst 0, 1) := by decide +kernel
theorem dX12_findFacts_10 : decode cX12_findFacts 10 = .ok (.goto 9, 3) := by decide +kernel
theorem dX12_findFacts_13 : decode cX12_findFacts 13 = .ok (.aload_n 0, 1) := by decide +kernel
theorem dX12_findFacts_14 : decode cX12_findFacts 14 = .ok (.iload_n 1, 1) := by decide +kernel
theorem dX12_findFacts_15 : decode cX12_findFacts 15 = .ok (.iload_n 2, 1) := by decide +kernel
theorem dX12_findFacts_16 : decode cX12_findFacts 16 = .ok (.invokevirtual 254, 3) := by decide +kernel
theorem dX12_findFacts_19 : decode cX12_findFacts 19 = .ok (.iastore, 1) := by decide +kernel
theorem dX12_findFacts_20 : decode cX12_findFacts 20 = .ok (.aload_n 0, 1) := by decide +kernel
theorem dX12_findFacts_21 : decode cX12_findFacts 21 = .ok (.getfield 139, 3) := by decide +kernel
theorem dX12_findFacts_24 : decode cX12_findFacts 24 = .ok (.iconst 1, 1) := by decide +kernel
theorem dX12_findFacts_25 : decode cX12_findFacts 25 = .ok (.iload_n 2, 1) := by decide +kernel
theorem dX12_findFacts_26 : decode cX12_findFacts 26 = .ok (.ifCond .ge 7, 3) := by decide +kernel
theorem dX12_findFacts_29 : decode cX12_findFacts 29 = .ok (.iconst 0, 1) := by decide +kernel
theorem dX12_findFacts_30 : decode cX12_findFacts 30 = .ok (.goto 9, 3) := by decide +kernel
theorem dX12_findFacts_33 : decode cX12_findFacts 33 = .ok (.aload_n 0, 1) := by decide +kernel
theorem dX12_findFacts_34 : decode cX12_findFacts 34 = .ok (.getfield 38, 3) := by decide +kernel
theorem dX12_findFacts_37 : decode cX12_findFacts 37 = .ok (.iload_n 2, 1) := by decide +kernel
theorem dX12_findFacts_38 : decode cX12_findFacts 38 = .ok (.iaload, 1) := by decide +kernel
theorem dX12_findFacts_39 : decode cX12_findFacts 39 = .ok (.iastore, 1) := by decide +kernel
theorem dX12_findFacts_40 : decode cX12_findFacts 40 = .ok (.aload_n 0, 1) := by decide +kernel
theorem dX12_findFacts_41 : decode cX12_findFacts 41 = .ok (.getfield 139, 3) := by decide +kernel
theorem dX12_findFacts_44 : decode cX12_findFacts 44 = .ok (.iconst 2, 1) := by decide +kernel
theorem dX12_findFacts_45 : decode cX12_findFacts 45 = .ok (.aload_n 0, 1) := by decide +kernel
theorem dX12_findFacts_46 : decode cX12_findFacts 46 = .ok (.getfield 74, 3) := by decide +kernel
theorem dX12_findFacts_49 : decode cX12_findFacts 49 = .ok (.iload_n 1, 1) := by decide +kernel
theorem dX12_findFacts_50 : decode cX12_findFacts 50 = .ok (.iaload, 1) := by decide +kernel
theorem dX12_findFacts_51 : decode cX12_findFacts 51 = .ok (.iastore, 1) := by decide +kernel
theorem dX12_findFacts_52 : decode cX12_findFacts 52 = .ok (.aload_n 0, 1) := by decide +kernel
theorem dX12_findFacts_53 : decode cX12_findFacts 53 = .ok (.getfield 139, 3) := by decide +kernel
theorem dX12_findFacts_56 : decode cX12_findFacts 56 = .ok (.iconst 3, 1) := by decide +kernel
theorem dX12_findFacts_57 : decode cX12_findFacts 57 = .ok (.aload_n 0, 1) := by decide +kernel
theorem dX12_findFacts_58 : decode cX12_findFacts 58 = .ok (.getfield 71, 3) := by decide +kernel
theorem dX12_findFacts_61 : decode cX12_findFacts 61 = .ok (.iload_n 1, 1) := by decide +kernel
theorem dX12_findFacts_62 : decode cX12_findFacts 62 = .ok (.iaload, 1) := by decide +kernel
theorem dX12_findFacts_63 : decode cX12_findFacts 63 = .ok (.iastore, 1) := by decide +kernel
theorem dX12_findFacts_64 : decode cX12_findFacts 64 = .ok (.aload_n 0, 1) := by decide +kernel
theorem dX12_findFacts_65 : decode cX12_findFacts 65 = .ok (.getfield 139, 3) := by decide +kernel
theorem dX12_findFacts_68 : decode cX12_findFacts 68 = .ok (.iconst 4, 1) := by decide +kernel
theorem dX12_findFacts_69 : decode cX12_findFacts 69 = .ok (.iload_n 2, 1) := by decide +kernel
theorem dX12_findFacts_70 : decode cX12_findFacts 70 = .ok (.ifCond .ge 7, 3) := by decide +kernel
theorem dX12_findFacts_73 : decode cX12_findFacts 73 = .ok (.iconst 0, 1) := by decide +kernel
theorem dX12_findFacts_74 : decode cX12_findFacts 74 = .ok (.goto 14, 3) := by decide +kernel
theorem dX12_findFacts_77 : decode cX12_findFacts 77 = .ok (.aload_n 0, 1) := by decide +kernel
theorem dX12_findFacts_78 : decode cX12_findFacts 78 = .ok (.getfield 29, 3) := by decide +kernel
theorem dX12_findFacts_81 : decode cX12_findFacts 81 = .ok (.aload_n 0, 1) := by decide +kernel
theorem dX12_findFacts_82 : decode cX12_findFacts 82 = .ok (.getfield 35, 3) := by decide +kernel
theorem dX12_findFacts_85 : decode cX12_findFacts 85 = .ok (.iload_n 2, 1) := by decide +kernel
theorem dX12_findFacts_86 : decode cX12_findFacts 86 = .ok (.iaload, 1) := by decide +kernel
theorem dX12_findFacts_87 : decode cX12_findFacts 87 = .ok (.iaload, 1) := by decide +kernel
theorem dX12_findFacts_88 : decode cX12_findFacts 88 = .ok (.iastore, 1) := by decide +kernel
theorem dX12_findFacts_89 : decode cX12_findFacts 89 = .ok (.aload_n 0, 1) := by decide +kernel
theorem dX12_findFacts_90 : decode cX12_findFacts 90 = .ok (.getfield 139, 3) := by decide +kernel
theorem dX12_findFacts_93 : decode cX12_findFacts 93 = .ok (.iconst 5, 1) := by decide +kernel
theorem dX12_findFacts_94 : decode cX12_findFacts 94 = .ok (.aload_n 0, 1) := by decide +kernel
theorem dX12_findFacts_95 : decode cX12_findFacts 95 = .ok (.aload_n 0, 1) := by decide +kernel
theorem dX12_findFacts_96 : decode cX12_findFacts 96 = .ok (.getfield 68, 3) := by decide +kernel
theorem dX12_findFacts_99 : decode cX12_findFacts 99 = .ok (.iload_n 1, 1) := by decide +kernel
theorem dX12_findFacts_100 : decode cX12_findFacts 100 = .ok (.iaload, 1) := by decide +kernel
theorem dX12_findFacts_101 : decode cX12_findFacts 101 = .ok (.invokevirtual 247, 3) := by decide +kernel
theorem dX12_findFacts_104 : decode cX12_findFacts 104 = .ok (.iastore, 1) := by decide +kernel
theorem dX12_findFacts_105 : decode cX12_findFacts 105 = .ok (.return_, 1) := by decide +kernel
theorem dX12_both_0 : decode cX12_both 0 = .ok (.iload_n 1, 1) := by decide +kernel
theorem dX12_both_1 : decode cX12_both 1 = .ok (.tableswitch 101 (-7) (-1) #[97, 93, 82, 71, 101, 57, 43], 43) := by decide +kernel
theorem dX12_both_44 : decode cX12_both 44 = .ok (.iload_n 2, 1) := by decide +kernel
theorem dX12_both_45 : decode cX12_both 45 = .ok (.ifCond .ne 7, 3) := by decide +kernel
theorem dX12_both_48 : decode cX12_both 48 = .ok (.iload_n 3, 1) := by decide +kernel
theorem dX12_both_49 : decode cX12_both 49 = .ok (.ifCond .eq 7, 3) := by decide +kernel
theorem dX12_both_52 : decode cX12_both 52 = .ok (.iconst 1, 1) := by decide +kernel
theorem dX12_both_53 : decode cX12_both 53 = .ok (.goto 4, 3) := by decide +kernel
theorem dX12_both_56 : decode cX12_both 56 = .ok (.iconst 0, 1) := by decide +kernel
theorem dX12_both_57 : decode cX12_both 57 = .ok (.ireturn, 1) := by decide +kernel
theorem dX12_both_58 : decode cX12_both 58 = .ok (.iload_n 2, 1) := by decide +kernel
theorem dX12_both_59 : decode cX12_both 59 = .ok (.ifCond .eq 11, 3) := by decide +kernel
theorem dX12_both_62 : decode cX12_both 62 = .ok (.iload_n 3, 1) := by decide +kernel
theorem dX12_both_63 : decode cX12_both 63 = .ok (.ifCond .eq 7, 3) := by decide +kernel
theorem dX12_both_66 : decode cX12_both 66 = .ok (.iconst 1, 1) := by decide +kernel
theorem dX12_both_67 : decode cX12_both 67 = .ok (.goto 4, 3) := by decide +kernel
theorem dX12_both_70 : decode cX12_both 70 = .ok (.iconst 0, 1) := by decide +kernel
theorem dX12_both_71 : decode cX12_both 71 = .ok (.ireturn, 1) := by decide +kernel
theorem dX12_both_72 : decode cX12_both 72 = .ok (.iload_n 2, 1) := by decide +kernel
theorem dX12_both_73 : decode cX12_both 73 = .ok (.iload_n 3, 1) := by decide +kernel
theorem dX12_both_74 : decode cX12_both 74 = .ok (.if_icmp .ge 7, 3) := by decide +kernel
theorem dX12_both_77 : decode cX12_both 77 = .ok (.iconst 1, 1) := by decide +kernel
theorem dX12_both_78 : decode cX12_both 78 = .ok (.goto 4, 3) := by decide +kernel
theorem dX12_both_81 : decode cX12_both 81 = .ok (.iconst 0, 1) := by decide +kernel
theorem dX12_both_82 : decode cX12_both 82 = .ok (.ireturn, 1) := by decide +kernel
theorem dX12_both_83 : decode cX12_both 83 = .ok (.iload_n 2, 1) := by decide +kernel
theorem dX12_both_84 : decode cX12_both 84 = .ok (.iload_n 3, 1) := by decide +kernel
theorem dX12_both_85 : decode cX12_both 85 = .ok (.if_icmp .ne 7, 3) := by decide +kernel
theorem dX12_both_88 : decode cX12_both 88 = .ok (.iconst 1, 1) := by decide +kernel
theorem dX12_both_89 : decode cX12_both 89 = .ok (.goto 4, 3) := by decide +kernel
theorem dX12_both_92 : decode cX12_both 92 = .ok (.iconst 0, 1) := by decide +kernel
theorem dX12_both_93 : decode cX12_both 93 = .ok (.ireturn, 1) := by decide +kernel
theorem dX12_both_94 : decode cX12_both 94 = .ok (.iload_n 2, 1) := by decide +kernel
theorem dX12_both_95 : decode cX12_both 95 = .ok (.iload_n 3, 1) := by decide +kernel
theorem dX12_both_96 : decode cX12_both 96 = .ok (.iadd, 1) := by decide +kernel
theorem dX12_both_97 : decode cX12_both 97 = .ok (.ireturn, 1) := by decide +kernel
theorem dX12_both_98 : decode cX12_both 98 = .ok (.iload_n 2, 1) := by decide +kernel
theorem dX12_both_99 : decode cX12_both 99 = .ok (.iload_n 3, 1) := by decide +kernel
theorem dX12_both_100 : decode cX12_both 100 = .ok (.isub, 1) := by decide +kernel
theorem dX12_both_101 : decode cX12_both 101 = .ok (.ireturn, 1) := by decide +kernel
theorem dX12_both_102 : decode cX12_both 102 = .ok (.iload_n 2, 1) := by decide +kernel
theorem dX12_both_103 : decode cX12_both 103 = .ok (.iload_n 3, 1) := by decide +kernel
theorem dX12_both_104 : decode cX12_both 104 = .ok (.imul, 1) := by decide +kernel
theorem dX12_both_105 : decode cX12_both 105 = .ok (.ireturn, 1) := by decide +kernel
theorem dX12_work_0 : decode cX12_work 0 = .ok (.iconst 2, 1) := by decide +kernel
theorem dX12_work_1 : decode cX12_work 1 = .ok (.aload_n 0, 1) := by decide +kernel
theorem dX12_work_2 : decode cX12_work 2 = .ok (.getfield 100, 3) := by decide +kernel
theorem dX12_work_5 : decode cX12_work 5 = .ok (.imul, 1) := by decide +kernel
theorem dX12_work_6 : decode cX12_work 6 = .ok (.iload_n 1, 1) := by decide +kernel
theorem dX12_work_7 : decode cX12_work 7 = .ok (.iadd, 1) := by decide +kernel
theorem dX12_work_8 : decode cX12_work 8 = .ok (.istore_n 2, 1) := by decide +kernel
theorem dX12_work_9 : decode cX12_work 9 = .ok (.iconst 0, 1) := by decide +kernel
theorem dX12_work_10 : decode cX12_work 10 = .ok (.istore_n 3, 1) := by decide +kernel
theorem dX12_work_11 : decode cX12_work 11 = .ok (.iconst 0, 1) := by decide +kernel
theorem dX12_work_12 : decode cX12_work 12 = .ok (.istore 4, 2) := by decide +kernel
theorem dX12_work_14 : decode cX12_work 14 = .ok (.iload 4, 2) := by decide +kernel
theorem dX12_work_16 : decode cX12_work 16 = .ok (.aload_n 0, 1) := by decide +kernel
theorem dX12_work_17 : decode cX12_work 17 = .ok (.getfield 103, 3) := by decide +kernel
theorem dX12_work_20 : decode cX12_work 20 = .ok (.iload_n 2, 1) := by decide +kernel
theorem dX12_work_21 : decode cX12_work 21 = .ok (.iaload, 1) := by decide +kernel
theorem dX12_work_22 : decode cX12_work 22 = .ok (.if_icmp .ge 156, 3) := by decide +kernel
theorem dX12_work_25 : decode cX12_work 25 = .ok (.aload_n 0, 1) := by decide +kernel
theorem dX12_work_26 : decode cX12_work 26 = .ok (.getfield 106, 3) := by decide +kernel
theorem dX12_work_29 : decode cX12_work 29 = .ok (.sipush 160, 3) := by decide +kernel
theorem dX12_work_32 : decode cX12_work 32 = .ok (.iload_n 2, 1) := by decide +kernel
theorem dX12_work_33 : decode cX12_work 33 = .ok (.imul, 1) := by decide +kernel
theorem dX12_work_34 : decode cX12_work 34 = .ok (.iload 4, 2) := by decide +kernel
theorem dX12_work_36 : decode cX12_work 36 = .ok (.iadd, 1) := by decide +kernel
theorem dX12_work_37 : decode cX12_work 37 = .ok (.iaload, 1) := by decide +kernel
theorem dX12_work_38 : decode cX12_work 38 = .ok (.istore 5, 2) := by decide +kernel
theorem dX12_work_40 : decode cX12_work 40 = .ok (.iload 5, 2) := by decide +kernel
theorem dX12_work_42 : decode cX12_work 42 = .ok (.ifCond .lt 39, 3) := by decide +kernel
theorem dX12_work_45 : decode cX12_work 45 = .ok (.aload_n 0, 1) := by decide +kernel
theorem dX12_work_46 : decode cX12_work 46 = .ok (.getfield 142, 3) := by decide +kernel
theorem dX12_work_49 : decode cX12_work 49 = .ok (.iload_n 3, 1) := by decide +kernel
theorem dX12_work_50 : decode cX12_work 50 = .ok (.iload 5, 2) := by decide +kernel
theorem dX12_work_52 : decode cX12_work 52 = .ok (.sipush 10000, 3) := by decide +kernel
theorem dX12_work_55 : decode cX12_work 55 = .ok (.if_icmp .ge 8, 3) := by decide +kernel
theorem dX12_work_58 : decode cX12_work 58 = .ok (.iload 5, 2) := by decide +kernel
theorem dX12_work_60 : decode cX12_work 60 = .ok (.goto 14, 3) := by decide +kernel
theorem dX12_work_63 : decode cX12_work 63 = .ok (.aload_n 0, 1) := by decide +kernel
theorem dX12_work_64 : decode cX12_work 64 = .ok (.getfield 139, 3) := by decide +kernel
theorem dX12_work_67 : decode cX12_work 67 = .ok (.iload 5, 2) := by decide +kernel
theorem dX12_work_69 : decode cX12_work 69 = .ok (.sipush 10000, 3) := by decide +kernel
theorem dX12_work_72 : decode cX12_work 72 = .ok (.isub, 1) := by decide +kernel
theorem dX12_work_73 : decode cX12_work 73 = .ok (.iaload, 1) := by decide +kernel
theorem dX12_work_74 : decode cX12_work 74 = .ok (.iastore, 1) := by decide +kernel
theorem dX12_work_75 : decode cX12_work 75 = .ok (.iinc 3 1, 3) := by decide +kernel
theorem dX12_work_78 : decode cX12_work 78 = .ok (.goto 94, 3) := by decide +kernel
theorem dX12_work_81 : decode cX12_work 81 = .ok (.iload 5, 2) := by decide +kernel
theorem dX12_work_83 : decode cX12_work 83 = .ok (.bipush (-3), 2) := by decide +kernel
theorem dX12_work_85 : decode cX12_work 85 = .ok (.if_icmp .eq 10, 3) := by decide +kernel
theorem dX12_work_88 : decode cX12_work 88 = .ok (.iload 5, 2) := by decide +kernel
theorem dX12_work_90 : decode cX12_work 90 = .ok (.bipush (-9), 2) := by decide +kernel
theorem dX12_work_92 : decode cX12_work 92 = .ok (.if_icmp .ne 49, 3) := by decide +kernel
theorem dX12_work_95 : decode cX12_work 95 = .ok (.aload_n 0, 1) := by decide +kernel
theorem dX12_work_96 : decode cX12_work 96 = .ok (.getfield 142, 3) := by decide +kernel
theorem dX12_work_99 : decode cX12_work 99 = .ok (.iload_n 3, 1) := by decide +kernel
theorem dX12_work_100 : decode cX12_work 100 = .ok (.iconst 1, 1) := by decide +kernel
theorem dX12_work_101 : decode cX12_work 101 = .ok (.isub, 1) := by decide +kernel
theorem dX12_work_102 : decode cX12_work 102 = .ok (.iload 5, 2) := by decide +kernel
theorem dX12_work_104 : decode cX12_work 104 = .ok (.bipush (-9), 2) := by decide +kernel
theorem dX12_work_106 : decode cX12_work 106 = .ok (.if_icmp .ne 15, 3) := by decide +kernel
theorem dX12_work_109 : decode cX12_work 109 = .ok (.aload_n 0, 1) := by decide +kernel
theorem dX12_work_110 : decode cX12_work 110 = .ok (.getfield 142, 3) := by decide +kernel
theorem dX12_work_113 : decode cX12_work 113 = .ok (.iload_n 3, 1) := by decide +kernel
theorem dX12_work_114 : decode cX12_work 114 = .ok (.iconst 1, 1) := by decide +kernel
theorem dX12_work_115 : decode cX12_work 115 = .ok (.isub, 1) := by decide +kernel
theorem dX12_work_116 : decode cX12_work 116 = .ok (.iaload, 1) := by decide +kernel
theorem dX12_work_117 : decode cX12_work 117 = .ok (.ineg, 1) := by decide +kernel
theorem dX12_work_118 : decode cX12_work 118 = .ok (.goto 19, 3) := by decide +kernel
theorem dX12_work_121 : decode cX12_work 121 = .ok (.aload_n 0, 1) := by decide +kernel
theorem dX12_work_122 : decode cX12_work 122 = .ok (.getfield 142, 3) := by decide +kernel
theorem dX12_work_125 : decode cX12_work 125 = .ok (.iload_n 3, 1) := by decide +kernel
theorem dX12_work_126 : decode cX12_work 126 = .ok (.iconst 1, 1) := by decide +kernel
theorem dX12_work_127 : decode cX12_work 127 = .ok (.isub, 1) := by decide +kernel
theorem dX12_work_128 : decode cX12_work 128 = .ok (.iaload, 1) := by decide +kernel
theorem dX12_work_129 : decode cX12_work 129 = .ok (.ifCond .ne 7, 3) := by decide +kernel
theorem dX12_work_132 : decode cX12_work 132 = .ok (.iconst 1, 1) := by decide +kernel
theorem dX12_work_133 : decode cX12_work 133 = .ok (.goto 4, 3) := by decide +kernel
theorem dX12_work_136 : decode cX12_work 136 = .ok (.iconst 0, 1) := by decide +kernel
theorem dX12_work_137 : decode cX12_work 137 = .ok (.iastore, 1) := by decide +kernel
theorem dX12_work_138 : decode cX12_work 138 = .ok (.goto 34, 3) := by decide +kernel
theorem dX12_work_141 : decode cX12_work 141 = .ok (.iinc 3 (-1), 3) := by decide +kernel
theorem dX12_work_144 : decode cX12_work 144 = .ok (.aload_n 0, 1) := by decide +kernel
theorem dX12_work_145 : decode cX12_work 145 = .ok (.getfield 142, 3) := by decide +kernel
theorem dX12_work_148 : decode cX12_work 148 = .ok (.iload_n 3, 1) := by decide +kernel
theorem dX12_work_149 : decode cX12_work 149 = .ok (.iconst 1, 1) := by decide +kernel
theorem dX12_work_150 : decode cX12_work 150 = .ok (.isub, 1) := by decide +kernel
theorem dX12_work_151 : decode cX12_work 151 = .ok (.aload_n 0, 1) := by decide +kernel
theorem dX12_work_152 : decode cX12_work 152 = .ok (.iload 5, 2) := by decide +kernel
theorem dX12_work_154 : decode cX12_work 154 = .ok (.aload_n 0, 1) := by decide +kernel
theorem dX12_work_155 : decode cX12_work 155 = .ok (.getfield 142, 3) := by decide +kernel
theorem dX12_work_158 : decode cX12_work 158 = .ok (.iload_n 3, 1) := by decide +kernel
theorem dX12_work_159 : decode cX12_work 159 = .ok (.iconst 1, 1) := by decide +kernel
theorem dX12_work_160 : decode cX12_work 160 = .ok (.isub, 1) := by decide +kernel
theorem dX12_work_161 : decode cX12_work 161 = .ok (.iaload, 1) := by decide +kernel
theorem dX12_work_162 : decode cX12_work 162 = .ok (.aload_n 0, 1) := by decide +kernel
theorem dX12_work_163 : decode cX12_work 163 = .ok (.getfield 142, 3) := by decide +kernel
theorem dX12_work_166 : decode cX12_work 166 = .ok (.iload_n 3, 1) := by decide +kernel
theorem dX12_work_167 : decode cX12_work 167 = .ok (.iaload, 1) := by decide +kernel
theorem dX12_work_168 : decode cX12_work 168 = .ok (.invokevirtual 334, 3) := by decide +kernel
theorem dX12_work_171 : decode cX12_work 171 = .ok (.iastore, 1) := by decide +kernel
theorem dX12_work_172 : decode cX12_work 172 = .ok (.iinc 4 1, 3) := by decide +kernel
theorem dX12_work_175 : decode cX12_work 175 = .ok (.goto (-161), 3) := by decide +kernel
theorem dX12_work_178 : decode cX12_work 178 = .ok (.aload_n 0, 1) := by decide +kernel
theorem dX12_work_179 : decode cX12_work 179 = .ok (.getfield 142, 3) := by decide +kernel
theorem dX12_work_182 : decode cX12_work 182 = .ok (.iconst 0, 1) := by decide +kernel
theorem dX12_work_183 : decode cX12_work 183 = .ok (.iaload, 1) := by decide +kernel
theorem dX12_work_184 : decode cX12_work 184 = .ok (.ireturn, 1) := by decide +kernel
theorem dX12_says_0 : decode cX12_says 0 = .ok (.aload_n 0, 1) := by decide +kernel
theorem dX12_says_1 : decode cX12_says 1 = .ok (.iload_n 1, 1) := by decide +kernel
theorem dX12_says_2 : decode cX12_says 2 = .ok (.invokevirtual 251, 3) := by decide +kernel
theorem dX12_says_5 : decode cX12_says 5 = .ok (.ifCond .eq 25, 3) := by decide +kernel
theorem dX12_says_8 : decode cX12_says 8 = .ok (.aload_n 0, 1) := by decide +kernel
theorem dX12_says_9 : decode cX12_says 9 = .ok (.iload_n 3, 1) := by decide +kernel
theorem dX12_says_10 : decode cX12_says 10 = .ok (.iconst 0, 1) := by decide +kernel
theorem dX12_says_11 : decode cX12_says 11 = .ok (.iconst 1, 1) := by decide +kernel
theorem dX12_says_12 : decode cX12_says 12 = .ok (.invokevirtual 217, 3) := by decide +kernel
theorem dX12_says_15 : decode cX12_says 15 = .ok (.ifCond .eq 15, 3) := by decide +kernel
theorem dX12_says_18 : decode cX12_says 18 = .ok (.iload_n 3, 1) := by decide +kernel
theorem dX12_says_19 : decode cX12_says 19 = .ok (.ifCond .ne 15, 3) := by decide +kernel
theorem dX12_says_22 : decode cX12_says 22 = .ok (.aload_n 0, 1) := by decide +kernel
theorem dX12_says_23 : decode cX12_says 23 = .ok (.iload_n 2, 1) := by decide +kernel
theorem dX12_says_24 : decode cX12_says 24 = .ok (.invokevirtual 229, 3) := by decide +kernel
theorem dX12_says_27 : decode cX12_says 27 = .ok (.ifCond .ne 7, 3) := by decide +kernel
theorem dX12_says_30 : decode cX12_says 30 = .ok (.ldc2_w 258, 3) := by decide +kernel
theorem dX12_says_33 : decode cX12_says 33 = .ok (.lreturn, 1) := by decide +kernel
theorem dX12_says_34 : decode cX12_says 34 = .ok (.aload_n 0, 1) := by decide +kernel
theorem dX12_says_35 : decode cX12_says 35 = .ok (.iload_n 1, 1) := by decide +kernel
theorem dX12_says_36 : decode cX12_says 36 = .ok (.iload_n 3, 1) := by decide +kernel
theorem dX12_says_37 : decode cX12_says 37 = .ok (.ifCond .ne 7, 3) := by decide +kernel
theorem dX12_says_40 : decode cX12_says 40 = .ok (.iload_n 2, 1) := by decide +kernel
theorem dX12_says_41 : decode cX12_says 41 = .ok (.goto 4, 3) := by decide +kernel
theorem dX12_says_44 : decode cX12_says 44 = .ok (.iconst (-1), 1) := by decide +kernel
theorem dX12_says_45 : decode cX12_says 45 = .ok (.invokevirtual 337, 3) := by decide +kernel
theorem dX12_says_48 : decode cX12_says 48 = .ok (.aload_n 0, 1) := by decide +kernel
theorem dX12_says_49 : decode cX12_says 49 = .ok (.iload_n 3, 1) := by decide +kernel
theorem dX12_says_50 : decode cX12_says 50 = .ok (.invokevirtual 340, 3) := by decide +kernel
theorem dX12_says_53 : decode cX12_says 53 = .ok (.i2l, 1) := by decide +kernel
theorem dX12_says_54 : decode cX12_says 54 = .ok (.lreturn, 1) := by decide +kernel
theorem dX12_goRound_0 : decode cX12_goRound 0 = .ok (.aload_n 0, 1) := by decide +kernel
theorem dX12_goRound_1 : decode cX12_goRound 1 = .ok (.getfield 47, 3) := by decide +kernel
theorem dX12_goRound_4 : decode cX12_goRound 4 = .ok (.aload_n 0, 1) := by decide +kernel
theorem dX12_goRound_5 : decode cX12_goRound 5 = .ok (.getfield 211, 3) := by decide +kernel
theorem dX12_goRound_8 : decode cX12_goRound 8 = .ok (.iconst 1, 1) := by decide +kernel
theorem dX12_goRound_9 : decode cX12_goRound 9 = .ok (.isub, 1) := by decide +kernel
theorem dX12_goRound_10 : decode cX12_goRound 10 = .ok (.iaload, 1) := by decide +kernel
theorem dX12_goRound_11 : decode cX12_goRound 11 = .ok (.istore_n 1, 1) := by decide +kernel
theorem dX12_goRound_12 : decode cX12_goRound 12 = .ok (.aload_n 0, 1) := by decide +kernel
theorem dX12_goRound_13 : decode cX12_goRound 13 = .ok (.getfield 211, 3) := by decide +kernel
theorem dX12_goRound_16 : decode cX12_goRound 16 = .ok (.iconst 1, 1) := by decide +kernel
theorem dX12_goRound_17 : decode cX12_goRound 17 = .ok (.isub, 1) := by decide +kernel
theorem dX12_goRound_18 : decode cX12_goRound 18 = .ok (.istore_n 2, 1) := by decide +kernel
theorem dX12_goRound_19 : decode cX12_goRound 19 = .ok (.iload_n 2, 1) := by decide +kernel
theorem dX12_goRound_20 : decode cX12_goRound 20 = .ok (.ifCond .le 23, 3) := by decide +kernel
theorem dX12_goRound_23 : decode cX12_goRound 23 = .ok (.aload_n 0, 1) := by decide +kernel
theorem dX12_goRound_24 : decode cX12_goRound 24 = .ok (.getfield 47, 3) := by decide +kernel
theorem dX12_goRound_27 : decode cX12_goRound 27 = .ok (.iload_n 2, 1) := by decide +kernel
theorem dX12_goRound_28 : decode cX12_goRound 28 = .ok (.aload_n 0, 1) := by decide +kernel
theorem dX12_goRound_29 : decode cX12_goRound 29 = .ok (.getfield 47, 3) := by decide +kernel
theorem dX12_goRound_32 : decode cX12_goRound 32 = .ok (.iload_n 2, 1) := by decide +kernel
theorem dX12_goRound_33 : decode cX12_goRound 33 = .ok (.iconst 1, 1) := by decide +kernel
theorem dX12_goRound_34 : decode cX12_goRound 34 = .ok (.isub, 1) := by decide +kernel
theorem dX12_goRound_35 : decode cX12_goRound 35 = .ok (.iaload, 1) := by decide +kernel
theorem dX12_goRound_36 : decode cX12_goRound 36 = .ok (.iastore, 1) := by decide +kernel
theorem dX12_goRound_37 : decode cX12_goRound 37 = .ok (.iinc 2 (-1), 3) := by decide +kernel
theorem dX12_goRound_40 : decode cX12_goRound 40 = .ok (.goto (-21), 3) := by decide +kernel
theorem dX12_goRound_43 : decode cX12_goRound 43 = .ok (.aload_n 0, 1) := by decide +kernel
theorem dX12_goRound_44 : decode cX12_goRound 44 = .ok (.getfield 47, 3) := by decide +kernel
theorem dX12_goRound_47 : decode cX12_goRound 47 = .ok (.iconst 0, 1) := by decide +kernel
theorem dX12_goRound_48 : decode cX12_goRound 48 = .ok (.iload_n 1, 1) := by decide +kernel
theorem dX12_goRound_49 : decode cX12_goRound 49 = .ok (.iastore, 1) := by decide +kernel
theorem dX12_goRound_50 : decode cX12_goRound 50 = .ok (.iconst 0, 1) := by decide +kernel
theorem dX12_goRound_51 : decode cX12_goRound 51 = .ok (.istore_n 2, 1) := by decide +kernel
theorem dX12_goRound_52 : decode cX12_goRound 52 = .ok (.iload_n 2, 1) := by decide +kernel
theorem dX12_goRound_53 : decode cX12_goRound 53 = .ok (.aload_n 0, 1) := by decide +kernel
theorem dX12_goRound_54 : decode cX12_goRound 54 = .ok (.getfield 211, 3) := by decide +kernel
theorem dX12_goRound_57 : decode cX12_goRound 57 = .ok (.if_icmp .ge 48, 3) := by decide +kernel
theorem dX12_goRound_60 : decode cX12_goRound 60 = .ok (.aload_n 0, 1) := by decide +kernel
theorem dX12_goRound_61 : decode cX12_goRound 61 = .ok (.getfield 47, 3) := by decide +kernel
theorem dX12_goRound_64 : decode cX12_goRound 64 = .ok (.iload_n 2, 1) := by decide +kernel
theorem dX12_goRound_65 : decode cX12_goRound 65 = .ok (.iaload, 1) := by decide +kernel
theorem dX12_goRound_66 : decode cX12_goRound 66 = .ok (.ifCond .ge 6, 3) := by decide +kernel
theorem dX12_goRound_69 : decode cX12_goRound 69 = .ok (.goto 30, 3) := by decide +kernel
theorem dX12_goRound_72 : decode cX12_goRound 72 = .ok (.aload_n 0, 1) := by decide +kernel
theorem dX12_goRound_73 : decode cX12_goRound 73 = .ok (.getfield 44, 3) := by decide +kernel
theorem dX12_goRound_76 : decode cX12_goRound 76 = .ok (.aload_n 0, 1) := by decide +kernel
theorem dX12_goRound_77 : decode cX12_goRound 77 = .ok (.getfield 47, 3) := by decide +kernel
theorem dX12_goRound_80 : decode cX12_goRound 80 = .ok (.iload_n 2, 1) := by decide +kernel
theorem dX12_goRound_81 : decode cX12_goRound 81 = .ok (.iaload, 1) := by decide +kernel
theorem dX12_goRound_82 : decode cX12_goRound 82 = .ok (.iload_n 2, 1) := by decide +kernel
theorem dX12_goRound_83 : decode cX12_goRound 83 = .ok (.iastore, 1) := by decide +kernel
theorem dX12_goRound_84 : decode cX12_goRound 84 = .ok (.aload_n 0, 1) := by decide +kernel
theorem dX12_goRound_85 : decode cX12_goRound 85 = .ok (.getfield 38, 3) := by decide +kernel
theorem dX12_goRound_88 : decode cX12_goRound 88 = .ok (.aload_n 0, 1) := by decide +kernel
theorem dX12_goRound_89 : decode cX12_goRound 89 = .ok (.getfield 47, 3) := by decide +kernel
theorem dX12_goRound_92 : decode cX12_goRound 92 = .ok (.iload_n 2, 1) := by decide +kernel
theorem dX12_goRound_93 : decode cX12_goRound 93 = .ok (.iaload, 1) := by decide +kernel
theorem dX12_goRound_94 : decode cX12_goRound 94 = .ok (.dup2, 1) := by decide +kernel
theorem dX12_goRound_95 : decode cX12_goRound 95 = .ok (.iaload, 1) := by decide +kernel
theorem dX12_goRound_96 : decode cX12_goRound 96 = .ok (.iconst 1, 1) := by decide +kernel
theorem dX12_goRound_97 : decode cX12_goRound 97 = .ok (.iadd, 1) := by decide +kernel
theorem dX12_goRound_98 : decode cX12_goRound 98 = .ok (.iastore, 1) := by decide +kernel
theorem dX12_goRound_99 : decode cX12_goRound 99 = .ok (.iinc 2 1, 3) := by decide +kernel
theorem dX12_goRound_102 : decode cX12_goRound 102 = .ok (.goto (-50), 3) := by decide +kernel
theorem dX12_goRound_105 : decode cX12_goRound 105 = .ok (.aload_n 0, 1) := by decide +kernel
theorem dX12_goRound_106 : decode cX12_goRound 106 = .ok (.getfield 47, 3) := by decide +kernel
theorem dX12_goRound_109 : decode cX12_goRound 109 = .ok (.iconst 0, 1) := by decide +kernel
theorem dX12_goRound_110 : decode cX12_goRound 110 = .ok (.iaload, 1) := by decide +kernel
theorem dX12_goRound_111 : decode cX12_goRound 111 = .ok (.ifCond .lt 33, 3) := by decide +kernel
theorem dX12_goRound_114 : decode cX12_goRound 114 = .ok (.aload_n 0, 1) := by decide +kernel
theorem dX12_goRound_115 : decode cX12_goRound 115 = .ok (.getfield 38, 3) := by decide +kernel
theorem dX12_goRound_118 : decode cX12_goRound 118 = .ok (.aload_n 0, 1) := by decide +kernel
theorem dX12_goRound_119 : decode cX12_goRound 119 = .ok (.getfield 47, 3) := by decide +kernel
theorem dX12_goRound_122 : decode cX12_goRound 122 = .ok (.iconst 0, 1) := by decide +kernel
theorem dX12_goRound_123 : decode cX12_goRound 123 = .ok (.iaload, 1) := by decide +kernel
theorem dX12_goRound_124 : decode cX12_goRound 124 = .ok (.iaload, 1) := by decide +kernel
theorem dX12_goRound_125 : decode cX12_goRound 125 = .ok (.aload_n 0, 1) := by decide +kernel
theorem dX12_goRound_126 : decode cX12_goRound 126 = .ok (.getfield 26, 3) := by decide +kernel
theorem dX12_goRound_129 : decode cX12_goRound 129 = .ok (.aload_n 0, 1) := by decide +kernel
theorem dX12_goRound_130 : decode cX12_goRound 130 = .ok (.getfield 32, 3) := by decide +kernel
theorem dX12_goRound_133 : decode cX12_goRound 133 = .ok (.aload_n 0, 1) := by decide +kernel
theorem dX12_goRound_134 : decode cX12_goRound 134 = .ok (.getfield 47, 3) := by decide +kernel
theorem dX12_goRound_137 : decode cX12_goRound 137 = .ok (.iconst 0, 1) := by decide +kernel
theorem dX12_goRound_138 : decode cX12_goRound 138 = .ok (.iaload, 1) := by decide +kernel
theorem dX12_goRound_139 : decode cX12_goRound 139 = .ok (.iaload, 1) := by decide +kernel
theorem dX12_goRound_140 : decode cX12_goRound 140 = .ok (.iaload, 1) := by decide +kernel
theorem dX12_goRound_141 : decode cX12_goRound 141 = .ok (.if_icmp .gt 4, 3) := by decide +kernel
theorem dX12_goRound_144 : decode cX12_goRound 144 = .ok (.return_, 1) := by decide +kernel
theorem dX12_goRound_145 : decode cX12_goRound 145 = .ok (.aload_n 0, 1) := by decide +kernel
theorem dX12_goRound_146 : decode cX12_goRound 146 = .ok (.aload_n 0, 1) := by decide +kernel
theorem dX12_goRound_147 : decode cX12_goRound 147 = .ok (.getfield 47, 3) := by decide +kernel
theorem dX12_goRound_150 : decode cX12_goRound 150 = .ok (.iconst 0, 1) := by decide +kernel
theorem dX12_goRound_151 : decode cX12_goRound 151 = .ok (.iaload, 1) := by decide +kernel
theorem dX12_goRound_152 : decode cX12_goRound 152 = .ok (.iconst 4, 1) := by decide +kernel
theorem dX12_goRound_153 : decode cX12_goRound 153 = .ok (.invokevirtual 235, 3) := by decide +kernel
theorem dX12_goRound_156 : decode cX12_goRound 156 = .ok (.aload_n 0, 1) := by decide +kernel
theorem dX12_goRound_157 : decode cX12_goRound 157 = .ok (.dup, 1) := by decide +kernel
theorem dX12_goRound_158 : decode cX12_goRound 158 = .ok (.getfield 151, 3) := by decide +kernel
theorem dX12_goRound_161 : decode cX12_goRound 161 = .ok (.iconst 1, 1) := by decide +kernel
theorem dX12_goRound_162 : decode cX12_goRound 162 = .ok (.iadd, 1) := by decide +kernel
theorem dX12_goRound_163 : decode cX12_goRound 163 = .ok (.putfield 151, 3) := by decide +kernel
theorem dX12_goRound_166 : decode cX12_goRound 166 = .ok (.aload_n 0, 1) := by decide +kernel
theorem dX12_goRound_167 : decode cX12_goRound 167 = .ok (.getfield 47, 3) := by decide +kernel
theorem dX12_goRound_170 : decode cX12_goRound 170 = .ok (.iconst 0, 1) := by decide +kernel
theorem dX12_goRound_171 : decode cX12_goRound 171 = .ok (.iconst (-1), 1) := by decide +kernel
theorem dX12_goRound_172 : decode cX12_goRound 172 = .ok (.iastore, 1) := by decide +kernel
theorem dX12_goRound_173 : decode cX12_goRound 173 = .ok (.return_, 1) := by decide +kernel
theorem dX12_goLane_0 : decode cX12_goLane 0 = .ok (.iconst 0, 1) := by decide +kernel
theorem dX12_goLane_1 : decode cX12_goLane 1 = .ok (.istore_n 1, 1) := by decide +kernel
theorem dX12_goLane_2 : decode cX12_goLane 2 = .ok (.iload_n 1, 1) := by decide +kernel
theorem dX12_goLane_3 : decode cX12_goLane 3 = .ok (.aload_n 0, 1) := by decide +kernel
theorem dX12_goLane_4 : decode cX12_goLane 4 = .ok (.getfield 211, 3) := by decide +kernel
theorem dX12_goLane_7 : decode cX12_goLane 7 = .ok (.if_icmp .ge 33, 3) := by decide +kernel
theorem dX12_goLane_10 : decode cX12_goLane 10 = .ok (.aload_n 0, 1) := by decide +kernel
theorem dX12_goLane_11 : decode cX12_goLane 11 = .ok (.getfield 50, 3) := by decide +kernel
theorem dX12_goLane_14 : decode cX12_goLane 14 = .ok (.iload_n 1, 1) := by decide +kernel
theorem dX12_goLane_15 : decode cX12_goLane 15 = .ok (.iaload, 1) := by decide +kernel
theorem dX12_goLane_16 : decode cX12_goLane 16 = .ok (.ifCond .lt 18, 3) := by decide +kernel
theorem dX12_goLane_19 : decode cX12_goLane 19 = .ok (.aload_n 0, 1) := by decide +kernel
theorem dX12_goLane_20 : decode cX12_goLane 20 = .ok (.getfield 38, 3) := by decide +kernel
theorem dX12_goLane_23 : decode cX12_goLane 23 = .ok (.aload_n 0, 1) := by decide +kernel
theorem dX12_goLane_24 : decode cX12_goLane 24 = .ok (.getfield 50, 3) := by decide +kernel
theorem dX12_goLane_27 : decode cX12_goLane 27 = .ok (.iload_n 1, 1) := by decide +kernel
theorem dX12_goLane_28 : decode cX12_goLane 28 = .ok (.iaload, 1) := by decide +kernel
theorem dX12_goLane_29 : decode cX12_goLane 29 = .ok (.dup2, 1) := by decide +kernel
theorem dX12_goLane_30 : decode cX12_goLane 30 = .ok (.iaload, 1) := by decide +kernel
theorem dX12_goLane_31 : decode cX12_goLane 31 = .ok (.iconst 1, 1) := by decide +kernel
theorem dX12_goLane_32 : decode cX12_goLane 32 = .ok (.iadd, 1) := by decide +kernel
theorem dX12_goLane_33 : decode cX12_goLane 33 = .ok (.iastore, 1) := by decide +kernel
theorem dX12_goLane_34 : decode cX12_goLane 34 = .ok (.iinc 1 1, 3) := by decide +kernel
theorem dX12_goLane_37 : decode cX12_goLane 37 = .ok (.goto (-35), 3) := by decide +kernel
theorem dX12_goLane_40 : decode cX12_goLane 40 = .ok (.aload_n 0, 1) := by decide +kernel
theorem dX12_goLane_41 : decode cX12_goLane 41 = .ok (.getfield 211, 3) := by decide +kernel
theorem dX12_goLane_44 : decode cX12_goLane 44 = .ok (.iconst 1, 1) := by decide +kernel
theorem dX12_goLane_45 : decode cX12_goLane 45 = .ok (.isub, 1) := by decide +kernel
theorem dX12_goLane_46 : decode cX12_goLane 46 = .ok (.istore_n 1, 1) := by decide +kernel
theorem dX12_goLane_47 : decode cX12_goLane 47 = .ok (.iload_n 1, 1) := by decide +kernel
theorem dX12_goLane_48 : decode cX12_goLane 48 = .ok (.ifCond .lt 124, 3) := by decide +kernel
theorem dX12_goLane_51 : decode cX12_goLane 51 = .ok (.aload_n 0, 1) := by decide +kernel
theorem dX12_goLane_52 : decode cX12_goLane 52 = .ok (.getfield 50, 3) := by decide +kernel
theorem dX12_goLane_55 : decode cX12_goLane 55 = .ok (.iload_n 1, 1) := by decide +kernel
theorem dX12_goLane_56 : decode cX12_goLane 56 = .ok (.iaload, 1) := by decide +kernel
theorem dX12_goLane_57 : decode cX12_goLane 57 = .ok (.istore_n 2, 1) := by decide +kernel
theorem dX12_goLane_58 : decode cX12_goLane 58 = .ok (.iload_n 2, 1) := by decide +kernel
theorem dX12_goLane_59 : decode cX12_goLane 59 = .ok (.ifCond .ge 6, 3) := by decide +kernel
theorem dX12_goLane_62 : decode cX12_goLane 62 = .ok (.goto 104, 3) := by decide +kernel
theorem dX12_goLane_65 : decode cX12_goLane 65 = .ok (.aload_n 0, 1) := by decide +kernel
theorem dX12_goLane_66 : decode cX12_goLane 66 = .ok (.getfield 56, 3) := by decide +kernel
theorem dX12_goLane_69 : decode cX12_goLane 69 = .ok (.iload_n 2, 1) := by decide +kernel
theorem dX12_goLane_70 : decode cX12_goLane 70 = .ok (.iaload, 1) := by decide +kernel
theorem dX12_goLane_71 : decode cX12_goLane 71 = .ok (.istore_n 3, 1) := by decide +kernel
theorem dX12_goLane_72 : decode cX12_goLane 72 = .ok (.aload_n 0, 1) := by decide +kernel
theorem dX12_goLane_73 : decode cX12_goLane 73 = .ok (.getfield 65, 3) := by decide +kernel
theorem dX12_goLane_76 : decode cX12_goLane 76 = .ok (.iload_n 3, 1) := by decide +kernel
theorem dX12_goLane_77 : decode cX12_goLane 77 = .ok (.iaload, 1) := by decide +kernel
theorem dX12_goLane_78 : decode cX12_goLane 78 = .ok (.iload_n 1, 1) := by decide +kernel
theorem dX12_goLane_79 : decode cX12_goLane 79 = .ok (.if_icmp .ne 41, 3) := by decide +kernel
theorem dX12_goLane_82 : decode cX12_goLane 82 = .ok (.aload_n 0, 1) := by decide +kernel
theorem dX12_goLane_83 : decode cX12_goLane 83 = .ok (.getfield 86, 3) := by decide +kernel
theorem dX12_goLane_86 : decode cX12_goLane 86 = .ok (.iload_n 3, 1) := by decide +kernel
theorem dX12_goLane_87 : decode cX12_goLane 87 = .ok (.baload, 1) := by decide +kernel
theorem dX12_goLane_88 : decode cX12_goLane 88 = .ok (.ifCond .eq 6, 3) := by decide +kernel
theorem dX12_goLane_91 : decode cX12_goLane 91 = .ok (.goto 75, 3) := by decide +kernel
theorem dX12_goLane_94 : decode cX12_goLane 94 = .ok (.aload_n 0, 1) := by decide +kernel
theorem dX12_goLane_95 : decode cX12_goLane 95 = .ok (.iload_n 2, 1) := by decide +kernel
theorem dX12_goLane_96 : decode cX12_goLane 96 = .ok (.iconst 4, 1) := by decide +kernel
theorem dX12_goLane_97 : decode cX12_goLane 97 = .ok (.invokevirtual 235, 3) := by decide +kernel
theorem dX12_goLane_100 : decode cX12_goLane 100 = .ok (.aload_n 0, 1) := by decide +kernel
theorem dX12_goLane_101 : decode cX12_goLane 101 = .ok (.dup, 1) := by decide +kernel
theorem dX12_goLane_102 : decode cX12_goLane 102 = .ok (.getfield 151, 3) := by decide +kernel
theorem dX12_goLane_105 : decode cX12_goLane 105 = .ok (.iconst 1, 1) := by decide +kernel
theorem dX12_goLane_106 : decode cX12_goLane 106 = .ok (.iadd, 1) := by decide +kernel
theorem dX12_goLane_107 : decode cX12_goLane 107 = .ok (.putfield 151, 3) := by decide +kernel
theorem dX12_goLane_110 : decode cX12_goLane 110 = .ok (.aload_n 0, 1) := by decide +kernel
theorem dX12_goLane_111 : decode cX12_goLane 111 = .ok (.getfield 50, 3) := by decide +kernel
theorem dX12_goLane_114 : decode cX12_goLane 114 = .ok (.iload_n 1, 1) := by decide +kernel
theorem dX12_goLane_115 : decode cX12_goLane 115 = .ok (.iconst (-1), 1) := by decide +kernel
theorem dX12_goLane_116 : decode cX12_goLane 116 = .ok (.iastore, 1) := by decide +kernel
theorem dX12_goLane_117 : decode cX12_goLane 117 = .ok (.goto 49, 3) := by decide +kernel
theorem dX12_goLane_120 : decode cX12_goLane 120 = .ok (.iload_n 1, 1) := by decide +kernel
theorem dX12_goLane_121 : decode cX12_goLane 121 = .ok (.iconst 1, 1) := by decide +kernel
theorem dX12_goLane_122 : decode cX12_goLane 122 = .ok (.iadd, 1) := by decide +kernel
theorem dX12_goLane_123 : decode cX12_goLane 123 = .ok (.aload_n 0, 1) := by decide +kernel
theorem dX12_goLane_124 : decode cX12_goLane 124 = .ok (.getfield 211, 3) := by decide +kernel
theorem dX12_goLane_127 : decode cX12_goLane 127 = .ok (.if_icmp .ge 39, 3) := by decide +kernel
theorem dX12_goLane_130 : decode cX12_goLane 130 = .ok (.aload_n 0, 1) := by decide +kernel
theorem dX12_goLane_131 : decode cX12_goLane 131 = .ok (.getfield 50, 3) := by decide +kernel
theorem dX12_goLane_134 : decode cX12_goLane 134 = .ok (.iload_n 1, 1) := by decide +kernel
theorem dX12_goLane_135 : decode cX12_goLane 135 = .ok (.iconst 1, 1) := by decide +kernel
theorem dX12_goLane_136 : decode cX12_goLane 136 = .ok (.iadd, 1) := by decide +kernel
theorem dX12_goLane_137 : decode cX12_goLane 137 = .ok (.iaload, 1) := by decide +kernel
theorem dX12_goLane_138 : decode cX12_goLane 138 = .ok (.ifCond .ge 28, 3) := by decide +kernel
theorem dX12_goLane_141 : decode cX12_goLane 141 = .ok (.aload_n 0, 1) := by decide +kernel
theorem dX12_goLane_142 : decode cX12_goLane 142 = .ok (.getfield 50, 3) := by decide +kernel
theorem dX12_goLane_145 : decode cX12_goLane 145 = .ok (.iload_n 1, 1) := by decide +kernel
theorem dX12_goLane_146 : decode cX12_goLane 146 = .ok (.iconst 1, 1) := by decide +kernel
theorem dX12_goLane_147 : decode cX12_goLane 147 = .ok (.iadd, 1) := by decide +kernel
theorem dX12_goLane_148 : decode cX12_goLane 148 = .ok (.iload_n 2, 1) := by decide +kernel
theorem dX12_goLane_149 : decode cX12_goLane 149 = .ok (.iastore, 1) := by decide +kernel
theorem dX12_goLane_150 : decode cX12_goLane 150 = .ok (.aload_n 0, 1) := by decide +kernel
theorem dX12_goLane_151 : decode cX12_goLane 151 = .ok (.getfield 50, 3) := by decide +kernel
theorem dX12_goLane_154 : decode cX12_goLane 154 = .ok (.iload_n 1, 1) := by decide +kernel
theorem dX12_goLane_155 : decode cX12_goLane 155 = .ok (.iconst (-1), 1) := by decide +kernel
theorem dX12_goLane_156 : decode cX12_goLane 156 = .ok (.iastore, 1) := by decide +kernel
theorem dX12_goLane_157 : decode cX12_goLane 157 = .ok (.aload_n 0, 1) := by decide +kernel
theorem dX12_goLane_158 : decode cX12_goLane 158 = .ok (.getfield 44, 3) := by decide +kernel
theorem dX12_goLane_161 : decode cX12_goLane 161 = .ok (.iload_n 2, 1) := by decide +kernel
theorem dX12_goLane_162 : decode cX12_goLane 162 = .ok (.iload_n 1, 1) := by decide +kernel
theorem dX12_goLane_163 : decode cX12_goLane 163 = .ok (.iconst 1, 1) := by decide +kernel
theorem dX12_goLane_164 : decode cX12_goLane 164 = .ok (.iadd, 1) := by decide +kernel
theorem dX12_goLane_165 : decode cX12_goLane 165 = .ok (.iastore, 1) := by decide +kernel
theorem dX12_goLane_166 : decode cX12_goLane 166 = .ok (.iinc 1 (-1), 3) := by decide +kernel
theorem dX12_goLane_169 : decode cX12_goLane 169 = .ok (.goto (-122), 3) := by decide +kernel
theorem dX12_goLane_172 : decode cX12_goLane 172 = .ok (.aload_n 0, 1) := by decide +kernel
theorem dX12_goLane_173 : decode cX12_goLane 173 = .ok (.getfield 50, 3) := by decide +kernel
theorem dX12_goLane_176 : decode cX12_goLane 176 = .ok (.iconst 0, 1) := by decide +kernel
theorem dX12_goLane_177 : decode cX12_goLane 177 = .ok (.iaload, 1) := by decide +kernel
theorem dX12_goLane_178 : decode cX12_goLane 178 = .ok (.ifCond .ge 10, 3) := by decide +kernel
theorem dX12_goLane_181 : decode cX12_goLane 181 = .ok (.aload_n 0, 1) := by decide +kernel
theorem dX12_goLane_182 : decode cX12_goLane 182 = .ok (.getfield 59, 3) := by decide +kernel
theorem dX12_goLane_185 : decode cX12_goLane 185 = .ok (.ifCond .ne 4, 3) := by decide +kernel
theorem dX12_goLane_188 : decode cX12_goLane 188 = .ok (.return_, 1) := by decide +kernel
theorem dX12_goLane_189 : decode cX12_goLane 189 = .ok (.aload_n 0, 1) := by decide +kernel
theorem dX12_goLane_190 : decode cX12_goLane 190 = .ok (.getfield 50, 3) := by decide +kernel
theorem dX12_goLane_193 : decode cX12_goLane 193 = .ok (.iconst 0, 1) := by decide +kernel
theorem dX12_goLane_194 : decode cX12_goLane 194 = .ok (.aload_n 0, 1) := by decide +kernel
theorem dX12_goLane_195 : decode cX12_goLane 195 = .ok (.getfield 53, 3) := by decide +kernel
theorem dX12_goLane_198 : decode cX12_goLane 198 = .ok (.iconst 0, 1) := by decide +kernel
theorem dX12_goLane_199 : decode cX12_goLane 199 = .ok (.iaload, 1) := by decide +kernel
theorem dX12_goLane_200 : decode cX12_goLane 200 = .ok (.iastore, 1) := by decide +kernel
theorem dX12_goLane_201 : decode cX12_goLane 201 = .ok (.aload_n 0, 1) := by decide +kernel
theorem dX12_goLane_202 : decode cX12_goLane 202 = .ok (.getfield 44, 3) := by decide +kernel
theorem dX12_goLane_205 : decode cX12_goLane 205 = .ok (.aload_n 0, 1) := by decide +kernel
theorem dX12_goLane_206 : decode cX12_goLane 206 = .ok (.getfield 53, 3) := by decide +kernel
theorem dX12_goLane_209 : decode cX12_goLane 209 = .ok (.iconst 0, 1) := by decide +kernel
theorem dX12_goLane_210 : decode cX12_goLane 210 = .ok (.iaload, 1) := by decide +kernel
theorem dX12_goLane_211 : decode cX12_goLane 211 = .ok (.iconst 0, 1) := by decide +kernel
theorem dX12_goLane_212 : decode cX12_goLane 212 = .ok (.iastore, 1) := by decide +kernel
theorem dX12_goLane_213 : decode cX12_goLane 213 = .ok (.aload_n 0, 1) := by decide +kernel
theorem dX12_goLane_214 : decode cX12_goLane 214 = .ok (.dup, 1) := by decide +kernel
theorem dX12_goLane_215 : decode cX12_goLane 215 = .ok (.getfield 59, 3) := by decide +kernel
theorem dX12_goLane_218 : decode cX12_goLane 218 = .ok (.iconst 1, 1) := by decide +kernel
theorem dX12_goLane_219 : decode cX12_goLane 219 = .ok (.isub, 1) := by decide +kernel
theorem dX12_goLane_220 : decode cX12_goLane 220 = .ok (.putfield 59, 3) := by decide +kernel
theorem dX12_goLane_223 : decode cX12_goLane 223 = .ok (.iconst 0, 1) := by decide +kernel
theorem dX12_goLane_224 : decode cX12_goLane 224 = .ok (.istore_n 1, 1) := by decide +kernel
theorem dX12_goLane_225 : decode cX12_goLane 225 = .ok (.iload_n 1, 1) := by decide +kernel
theorem dX12_goLane_226 : decode cX12_goLane 226 = .ok (.aload_n 0, 1) := by decide +kernel
theorem dX12_goLane_227 : decode cX12_goLane 227 = .ok (.getfield 59, 3) := by decide +kernel
theorem dX12_goLane_230 : decode cX12_goLane 230 = .ok (.if_icmp .ge 23, 3) := by decide +kernel
theorem dX12_goLane_233 : decode cX12_goLane 233 = .ok (.aload_n 0, 1) := by decide +kernel
theorem dX12_goLane_234 : decode cX12_goLane 234 = .ok (.getfield 53, 3) := by decide +kernel
theorem dX12_goLane_237 : decode cX12_goLane 237 = .ok (.iload_n 1, 1) := by decide +kernel
theorem dX12_goLane_238 : decode cX12_goLane 238 = .ok (.aload_n 0, 1) := by decide +kernel
theorem dX12_goLane_239 : decode cX12_goLane 239 = .ok (.getfield 53, 3) := by decide +kernel
theorem dX12_goLane_242 : decode cX12_goLane 242 = .ok (.iload_n 1, 1) := by decide +kernel
theorem dX12_goLane_243 : decode cX12_goLane 243 = .ok (.iconst 1, 1) := by decide +kernel
theorem dX12_goLane_244 : decode cX12_goLane 244 = .ok (.iadd, 1) := by decide +kernel
theorem dX12_goLane_245 : decode cX12_goLane 245 = .ok (.iaload, 1) := by decide +kernel
theorem dX12_goLane_246 : decode cX12_goLane 246 = .ok (.iastore, 1) := by decide +kernel
theorem dX12_goLane_247 : decode cX12_goLane 247 = .ok (.iinc 1 1, 3) := by decide +kernel
theorem dX12_goLane_250 : decode cX12_goLane 250 = .ok (.goto (-25), 3) := by decide +kernel
theorem dX12_goLane_253 : decode cX12_goLane 253 = .ok (.return_, 1) := by decide +kernel
theorem dX12_eats_0 : decode cX12_eats 0 = .ok (.aload_n 0, 1) := by decide +kernel
theorem dX12_eats_1 : decode cX12_eats 1 = .ok (.getfield 41, 3) := by decide +kernel
theorem dX12_eats_4 : decode cX12_eats 4 = .ok (.iload_n 2, 1) := by decide +kernel
theorem dX12_eats_5 : decode cX12_eats 5 = .ok (.iconst 2, 1) := by decide +kernel
theorem dX12_eats_6 : decode cX12_eats 6 = .ok (.iastore, 1) := by decide +kernel
theorem dX12_eats_7 : decode cX12_eats 7 = .ok (.aload_n 0, 1) := by decide +kernel
theorem dX12_eats_8 : decode cX12_eats 8 = .ok (.getfield 44, 3) := by decide +kernel
theorem dX12_eats_11 : decode cX12_eats 11 = .ok (.iload_n 2, 1) := by decide +kernel
theorem dX12_eats_12 : decode cX12_eats 12 = .ok (.iload_n 1, 1) := by decide +kernel
theorem dX12_eats_13 : decode cX12_eats 13 = .ok (.iastore, 1) := by decide +kernel
theorem dX12_eats_14 : decode cX12_eats 14 = .ok (.aload_n 0, 1) := by decide +kernel
theorem dX12_eats_15 : decode cX12_eats 15 = .ok (.getfield 71, 3) := by decide +kernel
theorem dX12_eats_18 : decode cX12_eats 18 = .ok (.iload_n 1, 1) := by decide +kernel
theorem dX12_eats_19 : decode cX12_eats 19 = .ok (.dup2, 1) := by decide +kernel
theorem dX12_eats_20 : decode cX12_eats 20 = .ok (.iaload, 1) := by decide +kernel
theorem dX12_eats_21 : decode cX12_eats 21 = .ok (.iconst 1, 1) := by decide +kernel
theorem dX12_eats_22 : decode cX12_eats 22 = .ok (.iadd, 1) := by decide +kernel
theorem dX12_eats_23 : decode cX12_eats 23 = .ok (.iastore, 1) := by decide +kernel
theorem dX12_eats_24 : decode cX12_eats 24 = .ok (.aload_n 0, 1) := by decide +kernel
theorem dX12_eats_25 : decode cX12_eats 25 = .ok (.dup, 1) := by decide +kernel
theorem dX12_eats_26 : decode cX12_eats 26 = .ok (.getfield 145, 3) := by decide +kernel
theorem dX12_eats_29 : decode cX12_eats 29 = .ok (.iconst 1, 1) := by decide +kernel
theorem dX12_eats_30 : decode cX12_eats 30 = .ok (.iadd, 1) := by decide +kernel
theorem dX12_eats_31 : decode cX12_eats 31 = .ok (.putfield 145, 3) := by decide +kernel
theorem dX12_eats_34 : decode cX12_eats 34 = .ok (.aload_n 0, 1) := by decide +kernel
theorem dX12_eats_35 : decode cX12_eats 35 = .ok (.dup, 1) := by decide +kernel
theorem dX12_eats_36 : decode cX12_eats 36 = .ok (.getfield 148, 3) := by decide +kernel
theorem dX12_eats_39 : decode cX12_eats 39 = .ok (.aload_n 0, 1) := by decide +kernel
theorem dX12_eats_40 : decode cX12_eats 40 = .ok (.getfield 29, 3) := by decide +kernel
theorem dX12_eats_43 : decode cX12_eats 43 = .ok (.aload_n 0, 1) := by decide +kernel
theorem dX12_eats_44 : decode cX12_eats 44 = .ok (.getfield 35, 3) := by decide +kernel
theorem dX12_eats_47 : decode cX12_eats 47 = .ok (.iload_n 2, 1) := by decide +kernel
theorem dX12_eats_48 : decode cX12_eats 48 = .ok (.iaload, 1) := by decide +kernel
theorem dX12_eats_49 : decode cX12_eats 49 = .ok (.iaload, 1) := by decide +kernel
theorem dX12_eats_50 : decode cX12_eats 50 = .ok (.iadd, 1) := by decide +kernel
theorem dX12_eats_51 : decode cX12_eats 51 = .ok (.putfield 148, 3) := by decide +kernel
theorem dX12_eats_54 : decode cX12_eats 54 = .ok (.return_, 1) := by decide +kernel
theorem dX12_dine_0 : decode cX12_dine 0 = .ok (.aload_n 0, 1) := by decide +kernel
theorem dX12_dine_1 : decode cX12_dine 1 = .ok (.getfield 65, 3) := by decide +kernel
theorem dX12_dine_4 : decode cX12_dine 4 = .ok (.iload_n 1, 1) := by decide +kernel
theorem dX12_dine_5 : decode cX12_dine 5 = .ok (.iaload, 1) := by decide +kernel
theorem dX12_dine_6 : decode cX12_dine 6 = .ok (.istore_n 2, 1) := by decide +kernel
theorem dX12_dine_7 : decode cX12_dine 7 = .ok (.aload_n 0, 1) := by decide +kernel
theorem dX12_dine_8 : decode cX12_dine 8 = .ok (.getfield 80, 3) := by decide +kernel
theorem dX12_dine_11 : decode cX12_dine 11 = .ok (.iload_n 1, 1) := by decide +kernel
theorem dX12_dine_12 : decode cX12_dine 12 = .ok (.iconst (-1), 1) := by decide +kernel
theorem dX12_dine_13 : decode cX12_dine 13 = .ok (.iastore, 1) := by decide +kernel
theorem dX12_dine_14 : decode cX12_dine 14 = .ok (.aload_n 0, 1) := by decide +kernel
theorem dX12_dine_15 : decode cX12_dine 15 = .ok (.getfield 50, 3) := by decide +kernel
theorem dX12_dine_18 : decode cX12_dine 18 = .ok (.iload_n 2, 1) := by decide +kernel
theorem dX12_dine_19 : decode cX12_dine 19 = .ok (.iaload, 1) := by decide +kernel
theorem dX12_dine_20 : decode cX12_dine 20 = .ok (.ifCond .lt 44, 3) := by decide +kernel
theorem dX12_dine_23 : decode cX12_dine 23 = .ok (.aload_n 0, 1) := by decide +kernel
theorem dX12_dine_24 : decode cX12_dine 24 = .ok (.getfield 56, 3) := by decide +kernel
theorem dX12_dine_27 : decode cX12_dine 27 = .ok (.aload_n 0, 1) := by decide +kernel
theorem dX12_dine_28 : decode cX12_dine 28 = .ok (.getfield 50, 3) := by decide +kernel
theorem dX12_dine_31 : decode cX12_dine 31 = .ok (.iload_n 2, 1) := by decide +kernel
theorem dX12_dine_32 : decode cX12_dine 32 = .ok (.iaload, 1) := by decide +kernel
theorem dX12_dine_33 : decode cX12_dine 33 = .ok (.iaload, 1) := by decide +kernel
theorem dX12_dine_34 : decode cX12_dine 34 = .ok (.iload_n 1, 1) := by decide +kernel
theorem dX12_dine_35 : decode cX12_dine 35 = .ok (.if_icmp .ne 29, 3) := by decide +kernel
theorem dX12_dine_38 : decode cX12_dine 38 = .ok (.aload_n 0, 1) := by decide +kernel
theorem dX12_dine_39 : decode cX12_dine 39 = .ok (.iload_n 1, 1) := by decide +kernel
theorem dX12_dine_40 : decode cX12_dine 40 = .ok (.aload_n 0, 1) := by decide +kernel
theorem dX12_dine_41 : decode cX12_dine 41 = .ok (.getfield 50, 3) := by decide +kernel
theorem dX12_dine_44 : decode cX12_dine 44 = .ok (.iload_n 2, 1) := by decide +kernel
theorem dX12_dine_45 : decode cX12_dine 45 = .ok (.iaload, 1) := by decide +kernel
theorem dX12_dine_46 : decode cX12_dine 46 = .ok (.invokevirtual 343, 3) := by decide +kernel
theorem dX12_dine_49 : decode cX12_dine 49 = .ok (.aload_n 0, 1) := by decide +kernel
theorem dX12_dine_50 : decode cX12_dine 50 = .ok (.getfield 50, 3) := by decide +kernel
theorem dX12_dine_53 : decode cX12_dine 53 = .ok (.iload_n 2, 1) := by decide +kernel
theorem dX12_dine_54 : decode cX12_dine 54 = .ok (.iconst (-1), 1) := by decide +kernel
theorem dX12_dine_55 : decode cX12_dine 55 = .ok (.iastore, 1) := by decide +kernel
theorem dX12_dine_56 : decode cX12_dine 56 = .ok (.aload_n 0, 1) := by decide +kernel
theorem dX12_dine_57 : decode cX12_dine 57 = .ok (.getfield 74, 3) := by decide +kernel
theorem dX12_dine_60 : decode cX12_dine 60 = .ok (.iload_n 1, 1) := by decide +kernel
theorem dX12_dine_61 : decode cX12_dine 61 = .ok (.iconst 0, 1) := by decide +kernel
theorem dX12_dine_62 : decode cX12_dine 62 = .ok (.iastore, 1) := by decide +kernel
theorem dX12_dine_63 : decode cX12_dine 63 = .ok (.return_, 1) := by decide +kernel
theorem dX12_dine_64 : decode cX12_dine 64 = .ok (.aload_n 0, 1) := by decide +kernel
theorem dX12_dine_65 : decode cX12_dine 65 = .ok (.getfield 47, 3) := by decide +kernel
theorem dX12_dine_68 : decode cX12_dine 68 = .ok (.iload_n 2, 1) := by decide +kernel
theorem dX12_dine_69 : decode cX12_dine 69 = .ok (.iaload, 1) := by decide +kernel
theorem dX12_dine_70 : decode cX12_dine 70 = .ok (.ifCond .lt 60, 3) := by decide +kernel
theorem dX12_dine_73 : decode cX12_dine 73 = .ok (.aload_n 0, 1) := by decide +kernel
theorem dX12_dine_74 : decode cX12_dine 74 = .ok (.iload_n 1, 1) := by decide +kernel
theorem dX12_dine_75 : decode cX12_dine 75 = .ok (.aload_n 0, 1) := by decide +kernel
theorem dX12_dine_76 : decode cX12_dine 76 = .ok (.getfield 47, 3) := by decide +kernel
theorem dX12_dine_79 : decode cX12_dine 79 = .ok (.iload_n 2, 1) := by decide +kernel
theorem dX12_dine_80 : decode cX12_dine 80 = .ok (.iaload, 1) := by decide +kernel
theorem dX12_dine_81 : decode cX12_dine 81 = .ok (.invokevirtual 337, 3) := by decide +kernel
theorem dX12_dine_84 : decode cX12_dine 84 = .ok (.aload_n 0, 1) := by decide +kernel
theorem dX12_dine_85 : decode cX12_dine 85 = .ok (.iconst 0, 1) := by decide +kernel
theorem dX12_dine_86 : decode cX12_dine 86 = .ok (.invokevirtual 340, 3) := by decide +kernel
theorem dX12_dine_89 : decode cX12_dine 89 = .ok (.ifCond .eq 41, 3) := by decide +kernel
theorem dX12_dine_92 : decode cX12_dine 92 = .ok (.aload_n 0, 1) := by decide +kernel
theorem dX12_dine_93 : decode cX12_dine 93 = .ok (.getfield 80, 3) := by decide +kernel
theorem dX12_dine_96 : decode cX12_dine 96 = .ok (.iload_n 1, 1) := by decide +kernel
theorem dX12_dine_97 : decode cX12_dine 97 = .ok (.aload_n 0, 1) := by decide +kernel
theorem dX12_dine_98 : decode cX12_dine 98 = .ok (.getfield 47, 3) := by decide +kernel
theorem dX12_dine_101 : decode cX12_dine 101 = .ok (.iload_n 2, 1) := by decide +kernel
theorem dX12_dine_102 : decode cX12_dine 102 = .ok (.iaload, 1) := by decide +kernel
theorem dX12_dine_103 : decode cX12_dine 103 = .ok (.iastore, 1) := by decide +kernel
theorem dX12_dine_104 : decode cX12_dine 104 = .ok (.aload_n 0, 1) := by decide +kernel
theorem dX12_dine_105 : decode cX12_dine 105 = .ok (.iload_n 1, 1) := by decide +kernel
theorem dX12_dine_106 : decode cX12_dine 106 = .ok (.aload_n 0, 1) := by decide +kernel
theorem dX12_dine_107 : decode cX12_dine 107 = .ok (.getfield 47, 3) := by decide +kernel
theorem dX12_dine_110 : decode cX12_dine 110 = .ok (.iload_n 2, 1) := by decide +kernel
theorem dX12_dine_111 : decode cX12_dine 111 = .ok (.iaload, 1) := by decide +kernel
theorem dX12_dine_112 : decode cX12_dine 112 = .ok (.invokevirtual 343, 3) := by decide +kernel
theorem dX12_dine_115 : decode cX12_dine 115 = .ok (.aload_n 0, 1) := by decide +kernel
theorem dX12_dine_116 : decode cX12_dine 116 = .ok (.getfield 47, 3) := by decide +kernel
theorem dX12_dine_119 : decode cX12_dine 119 = .ok (.iload_n 2, 1) := by decide +kernel
theorem dX12_dine_120 : decode cX12_dine 120 = .ok (.iconst (-1), 1) := by decide +kernel
theorem dX12_dine_121 : decode cX12_dine 121 = .ok (.iastore, 1) := by decide +kernel
theorem dX12_dine_122 : decode cX12_dine 122 = .ok (.aload_n 0, 1) := by decide +kernel
theorem dX12_dine_123 : decode cX12_dine 123 = .ok (.getfield 74, 3) := by decide +kernel
theorem dX12_dine_126 : decode cX12_dine 126 = .ok (.iload_n 1, 1) := by decide +kernel
theorem dX12_dine_127 : decode cX12_dine 127 = .ok (.iconst 0, 1) := by decide +kernel
theorem dX12_dine_128 : decode cX12_dine 128 = .ok (.iastore, 1) := by decide +kernel
theorem dX12_dine_129 : decode cX12_dine 129 = .ok (.return_, 1) := by decide +kernel
theorem dX12_dine_130 : decode cX12_dine 130 = .ok (.aload_n 0, 1) := by decide +kernel
theorem dX12_dine_131 : decode cX12_dine 131 = .ok (.getfield 74, 3) := by decide +kernel
theorem dX12_dine_134 : decode cX12_dine 134 = .ok (.iload_n 1, 1) := by decide +kernel
theorem dX12_dine_135 : decode cX12_dine 135 = .ok (.dup2, 1) := by decide +kernel
theorem dX12_dine_136 : decode cX12_dine 136 = .ok (.iaload, 1) := by decide +kernel
theorem dX12_dine_137 : decode cX12_dine 137 = .ok (.iconst 1, 1) := by decide +kernel
theorem dX12_dine_138 : decode cX12_dine 138 = .ok (.iadd, 1) := by decide +kernel
theorem dX12_dine_139 : decode cX12_dine 139 = .ok (.iastore, 1) := by decide +kernel
theorem dX12_dine_140 : decode cX12_dine 140 = .ok (.return_, 1) := by decide +kernel
theorem dX12_leave_0 : decode cX12_leave 0 = .ok (.aload_n 0, 1) := by decide +kernel
theorem dX12_leave_1 : decode cX12_leave 1 = .ok (.getfield 77, 3) := by decide +kernel
theorem dX12_leave_4 : decode cX12_leave 4 = .ok (.iload_n 1, 1) := by decide +kernel
theorem dX12_leave_5 : decode cX12_leave 5 = .ok (.iaload, 1) := by decide +kernel
theorem dX12_leave_6 : decode cX12_leave 6 = .ok (.istore_n 2, 1) := by decide +kernel
theorem dX12_leave_7 : decode cX12_leave 7 = .ok (.iconst 0, 1) := by decide +kernel
theorem dX12_leave_8 : decode cX12_leave 8 = .ok (.istore_n 3, 1) := by decide +kernel
theorem dX12_leave_9 : decode cX12_leave 9 = .ok (.iload_n 3, 1) := by decide +kernel
theorem dX12_leave_10 : decode cX12_leave 10 = .ok (.aload_n 0, 1) := by decide +kernel
theorem dX12_leave_11 : decode cX12_leave 11 = .ok (.getfield 7, 3) := by decide +kernel
theorem dX12_leave_14 : decode cX12_leave 14 = .ok (.if_icmp .ge 81, 3) := by decide +kernel
theorem dX12_leave_17 : decode cX12_leave 17 = .ok (.aload_n 0, 1) := by decide +kernel
theorem dX12_leave_18 : decode cX12_leave 18 = .ok (.getfield 41, 3) := by decide +kernel
theorem dX12_leave_21 : decode cX12_leave 21 = .ok (.iload_n 3, 1) := by decide +kernel
theorem dX12_leave_22 : decode cX12_leave 22 = .ok (.iaload, 1) := by decide +kernel
theorem dX12_leave_23 : decode cX12_leave 23 = .ok (.iconst 2, 1) := by decide +kernel
theorem dX12_leave_24 : decode cX12_leave 24 = .ok (.if_icmp .ne 65, 3) := by decide +kernel
theorem dX12_leave_27 : decode cX12_leave 27 = .ok (.aload_n 0, 1) := by decide +kernel
theorem dX12_leave_28 : decode cX12_leave 28 = .ok (.getfield 44, 3) := by decide +kernel
theorem dX12_leave_31 : decode cX12_leave 31 = .ok (.iload_n 3, 1) := by decide +kernel
theorem dX12_leave_32 : decode cX12_leave 32 = .ok (.iaload, 1) := by decide +kernel
theorem dX12_leave_33 : decode cX12_leave 33 = .ok (.iload_n 1, 1) := by decide +kernel
theorem dX12_leave_34 : decode cX12_leave 34 = .ok (.if_icmp .eq 6, 3) := by decide +kernel
theorem dX12_leave_37 : decode cX12_leave 37 = .ok (.goto 52, 3) := by decide +kernel
theorem dX12_leave_40 : decode cX12_leave 40 = .ok (.iload_n 2, 1) := by decide +kernel
theorem dX12_leave_41 : decode cX12_leave 41 = .ok (.ifCond .lt 22, 3) := by decide +kernel
theorem dX12_leave_44 : decode cX12_leave 44 = .ok (.aload_n 0, 1) := by decide +kernel
theorem dX12_leave_45 : decode cX12_leave 45 = .ok (.getfield 86, 3) := by decide +kernel
theorem dX12_leave_48 : decode cX12_leave 48 = .ok (.iload_n 2, 1) := by decide +kernel
theorem dX12_leave_49 : decode cX12_leave 49 = .ok (.baload, 1) := by decide +kernel
theorem dX12_leave_50 : decode cX12_leave 50 = .ok (.ifCond .eq 13, 3) := by decide +kernel
theorem dX12_leave_53 : decode cX12_leave 53 = .ok (.aload_n 0, 1) := by decide +kernel
theorem dX12_leave_54 : decode cX12_leave 54 = .ok (.getfield 44, 3) := by decide +kernel
theorem dX12_leave_57 : decode cX12_leave 57 = .ok (.iload_n 3, 1) := by decide +kernel
theorem dX12_leave_58 : decode cX12_leave 58 = .ok (.iload_n 2, 1) := by decide +kernel
theorem dX12_leave_59 : decode cX12_leave 59 = .ok (.iastore, 1) := by decide +kernel
theorem dX12_leave_60 : decode cX12_leave 60 = .ok (.goto 29, 3) := by decide +kernel
theorem dX12_leave_63 : decode cX12_leave 63 = .ok (.aload_n 0, 1) := by decide +kernel
theorem dX12_leave_64 : decode cX12_leave 64 = .ok (.dup, 1) := by decide +kernel
theorem dX12_leave_65 : decode cX12_leave 65 = .ok (.getfield 16, 3) := by decide +kernel
theorem dX12_leave_68 : decode cX12_leave 68 = .ok (.aload_n 0, 1) := by decide +kernel
theorem dX12_leave_69 : decode cX12_leave 69 = .ok (.getfield 29, 3) := by decide +kernel
theorem dX12_leave_72 : decode cX12_leave 72 = .ok (.aload_n 0, 1) := by decide +kernel
theorem dX12_leave_73 : decode cX12_leave 73 = .ok (.getfield 35, 3) := by decide +kernel
theorem dX12_leave_76 : decode cX12_leave 76 = .ok (.iload_n 3, 1) := by decide +kernel
theorem dX12_leave_77 : decode cX12_leave 77 = .ok (.iaload, 1) := by decide +kernel
theorem dX12_leave_78 : decode cX12_leave 78 = .ok (.iaload, 1) := by decide +kernel
theorem dX12_leave_79 : decode cX12_leave 79 = .ok (.iadd, 1) := by decide +kernel
theorem dX12_leave_80 : decode cX12_leave 80 = .ok (.putfield 16, 3) := by decide +kernel
theorem dX12_leave_83 : decode cX12_leave 83 = .ok (.aload_n 0, 1) := by decide +kernel
theorem dX12_leave_84 : decode cX12_leave 84 = .ok (.iload_n 3, 1) := by decide +kernel
theorem dX12_leave_85 : decode cX12_leave 85 = .ok (.iconst 3, 1) := by decide +kernel
theorem dX12_leave_86 : decode cX12_leave 86 = .ok (.invokevirtual 235, 3) := by decide +kernel
theorem dX12_leave_89 : decode cX12_leave 89 = .ok (.iinc 3 1, 3) := by decide +kernel
theorem dX12_leave_92 : decode cX12_leave 92 = .ok (.goto (-83), 3) := by decide +kernel
theorem dX12_leave_95 : decode cX12_leave 95 = .ok (.aload_n 0, 1) := by decide +kernel
theorem dX12_leave_96 : decode cX12_leave 96 = .ok (.getfield 86, 3) := by decide +kernel
theorem dX12_leave_99 : decode cX12_leave 99 = .ok (.iload_n 1, 1) := by decide +kernel
theorem dX12_leave_100 : decode cX12_leave 100 = .ok (.iconst 0, 1) := by decide +kernel
theorem dX12_leave_101 : decode cX12_leave 101 = .ok (.bastore, 1) := by decide +kernel
theorem dX12_leave_102 : decode cX12_leave 102 = .ok (.aload_n 0, 1) := by decide +kernel
theorem dX12_leave_103 : decode cX12_leave 103 = .ok (.getfield 80, 3) := by decide +kernel
theorem dX12_leave_106 : decode cX12_leave 106 = .ok (.iload_n 1, 1) := by decide +kernel
theorem dX12_leave_107 : decode cX12_leave 107 = .ok (.iconst (-1), 1) := by decide +kernel
theorem dX12_leave_108 : decode cX12_leave 108 = .ok (.iastore, 1) := by decide +kernel
theorem dX12_leave_109 : decode cX12_leave 109 = .ok (.aload_n 0, 1) := by decide +kernel
theorem dX12_leave_110 : decode cX12_leave 110 = .ok (.getfield 77, 3) := by decide +kernel
theorem dX12_leave_113 : decode cX12_leave 113 = .ok (.iload_n 1, 1) := by decide +kernel
theorem dX12_leave_114 : decode cX12_leave 114 = .ok (.iconst (-1), 1) := by decide +kernel
theorem dX12_leave_115 : decode cX12_leave 115 = .ok (.iastore, 1) := by decide +kernel
theorem dX12_leave_116 : decode cX12_leave 116 = .ok (.iconst 0, 1) := by decide +kernel
theorem dX12_leave_117 : decode cX12_leave 117 = .ok (.istore_n 3, 1) := by decide +kernel
theorem dX12_leave_118 : decode cX12_leave 118 = .ok (.iload_n 3, 1) := by decide +kernel
theorem dX12_leave_119 : decode cX12_leave 119 = .ok (.aload_n 0, 1) := by decide +kernel
theorem dX12_leave_120 : decode cX12_leave 120 = .ok (.getfield 62, 3) := by decide +kernel
theorem dX12_leave_123 : decode cX12_leave 123 = .ok (.if_icmp .ge 26, 3) := by decide +kernel
theorem dX12_leave_126 : decode cX12_leave 126 = .ok (.aload_n 0, 1) := by decide +kernel
theorem dX12_leave_127 : decode cX12_leave 127 = .ok (.getfield 77, 3) := by decide +kernel
theorem dX12_leave_130 : decode cX12_leave 130 = .ok (.iload_n 3, 1) := by decide +kernel
theorem dX12_leave_131 : decode cX12_leave 131 = .ok (.iaload, 1) := by decide +kernel
theorem dX12_leave_132 : decode cX12_leave 132 = .ok (.iload_n 1, 1) := by decide +kernel
theorem dX12_leave_133 : decode cX12_leave 133 = .ok (.if_icmp .ne 10, 3) := by decide +kernel
theorem dX12_leave_136 : decode cX12_leave 136 = .ok (.aload_n 0, 1) := by decide +kernel
theorem dX12_leave_137 : decode cX12_leave 137 = .ok (.getfield 77, 3) := by decide +kernel
theorem dX12_leave_140 : decode cX12_leave 140 = .ok (.iload_n 3, 1) := by decide +kernel
theorem dX12_leave_141 : decode cX12_leave 141 = .ok (.iconst (-1), 1) := by decide +kernel
theorem dX12_leave_142 : decode cX12_leave 142 = .ok (.iastore, 1) := by decide +kernel
theorem dX12_leave_143 : decode cX12_leave 143 = .ok (.iinc 3 1, 3) := by decide +kernel
theorem dX12_leave_146 : decode cX12_leave 146 = .ok (.goto (-28), 3) := by decide +kernel
theorem dX12_leave_149 : decode cX12_leave 149 = .ok (.return_, 1) := by decide +kernel
theorem dX12_goTick_0 : decode cX12_goTick 0 = .ok (.aload_n 0, 1) := by decide +kernel
theorem dX12_goTick_1 : decode cX12_goTick 1 = .ok (.invokevirtual 346, 3) := by decide +kernel
theorem dX12_goTick_4 : decode cX12_goTick 4 = .ok (.aload_n 0, 1) := by decide +kernel
theorem dX12_goTick_5 : decode cX12_goTick 5 = .ok (.invokevirtual 349, 3) := by decide +kernel
theorem dX12_goTick_8 : decode cX12_goTick 8 = .ok (.iconst 0, 1) := by decide +kernel
theorem dX12_goTick_9 : decode cX12_goTick 9 = .ok (.istore_n 1, 1) := by decide +kernel
theorem dX12_goTick_10 : decode cX12_goTick 10 = .ok (.iload_n 1, 1) := by decide +kernel
theorem dX12_goTick_11 : decode cX12_goTick 11 = .ok (.aload_n 0, 1) := by decide +kernel
theorem dX12_goTick_12 : decode cX12_goTick 12 = .ok (.getfield 62, 3) := by decide +kernel
theorem dX12_goTick_15 : decode cX12_goTick 15 = .ok (.if_icmp .ge 23, 3) := by decide +kernel
theorem dX12_goTick_18 : decode cX12_goTick 18 = .ok (.aload_n 0, 1) := by decide +kernel
theorem dX12_goTick_19 : decode cX12_goTick 19 = .ok (.getfield 86, 3) := by decide +kernel
theorem dX12_goTick_22 : decode cX12_goTick 22 = .ok (.iload_n 1, 1) := by decide +kernel
theorem dX12_goTick_23 : decode cX12_goTick 23 = .ok (.baload, 1) := by decide +kernel
theorem dX12_goTick_24 : decode cX12_goTick 24 = .ok (.ifCond .eq 8, 3) := by decide +kernel
theorem dX12_goTick_27 : decode cX12_goTick 27 = .ok (.aload_n 0, 1) := by decide +kernel
theorem dX12_goTick_28 : decode cX12_goTick 28 = .ok (.iload_n 1, 1) := by decide +kernel
theorem dX12_goTick_29 : decode cX12_goTick 29 = .ok (.invokevirtual 352, 3) := by decide +kernel
theorem dX12_goTick_32 : decode cX12_goTick 32 = .ok (.iinc 1 1, 3) := by decide +kernel
theorem dX12_goTick_35 : decode cX12_goTick 35 = .ok (.goto (-25), 3) := by decide +kernel
theorem dX12_goTick_38 : decode cX12_goTick 38 = .ok (.iconst 0, 1) := by decide +kernel
theorem dX12_goTick_39 : decode cX12_goTick 39 = .ok (.istore_n 1, 1) := by decide +kernel
theorem dX12_goTick_40 : decode cX12_goTick 40 = .ok (.iload_n 1, 1) := by decide +kernel
theorem dX12_goTick_41 : decode cX12_goTick 41 = .ok (.aload_n 0, 1) := by decide +kernel
theorem dX12_goTick_42 : decode cX12_goTick 42 = .ok (.getfield 62, 3) := by decide +kernel
theorem dX12_goTick_45 : decode cX12_goTick 45 = .ok (.if_icmp .ge 40, 3) := by decide +kernel
theorem dX12_goTick_48 : decode cX12_goTick 48 = .ok (.aload_n 0, 1) := by decide +kernel
theorem dX12_goTick_49 : decode cX12_goTick 49 = .ok (.getfield 86, 3) := by decide +kernel
theorem dX12_goTick_52 : decode cX12_goTick 52 = .ok (.iload_n 1, 1) := by decide +kernel
theorem dX12_goTick_53 : decode cX12_goTick 53 = .ok (.baload, 1) := by decide +kernel
theorem dX12_goTick_54 : decode cX12_goTick 54 = .ok (.ifCond .ne 6, 3) := by decide +kernel
theorem dX12_goTick_57 : decode cX12_goTick 57 = .ok (.goto 22, 3) := by decide +kernel
theorem dX12_goTick_60 : decode cX12_goTick 60 = .ok (.aload_n 0, 1) := by decide +kernel
theorem dX12_goTick_61 : decode cX12_goTick 61 = .ok (.iload_n 1, 1) := by decide +kernel
theorem dX12_goTick_62 : decode cX12_goTick 62 = .ok (.iconst (-1), 1) := by decide +kernel
theorem dX12_goTick_63 : decode cX12_goTick 63 = .ok (.invokevirtual 337, 3) := by decide +kernel
theorem dX12_goTick_66 : decode cX12_goTick 66 = .ok (.aload_n 0, 1) := by decide +kernel
theorem dX12_goTick_67 : decode cX12_goTick 67 = .ok (.iconst 1, 1) := by decide +kernel
theorem dX12_goTick_68 : decode cX12_goTick 68 = .ok (.invokevirtual 340, 3) := by decide +kernel
theorem dX12_goTick_71 : decode cX12_goTick 71 = .ok (.ifCond .eq 8, 3) := by decide +kernel
theorem dX12_goTick_74 : decode cX12_goTick 74 = .ok (.aload_n 0, 1) := by decide +kernel
theorem dX12_goTick_75 : decode cX12_goTick 75 = .ok (.iload_n 1, 1) := by decide +kernel
theorem dX12_goTick_76 : decode cX12_goTick 76 = .ok (.invokevirtual 355, 3) := by decide +kernel
theorem dX12_goTick_79 : decode cX12_goTick 79 = .ok (.iinc 1 1, 3) := by decide +kernel
theorem dX12_goTick_82 : decode cX12_goTick 82 = .ok (.goto (-42), 3) := by decide +kernel
theorem dX12_goTick_85 : decode cX12_goTick 85 = .ok (.aload_n 0, 1) := by decide +kernel
theorem dX12_goTick_86 : decode cX12_goTick 86 = .ok (.dup, 1) := by decide +kernel
theorem dX12_goTick_87 : decode cX12_goTick 87 = .ok (.getfield 13, 3) := by decide +kernel
theorem dX12_goTick_90 : decode cX12_goTick 90 = .ok (.iconst 1, 1) := by decide +kernel
theorem dX12_goTick_91 : decode cX12_goTick 91 = .ok (.iadd, 1) := by decide +kernel
theorem dX12_goTick_92 : decode cX12_goTick 92 = .ok (.putfield 13, 3) := by decide +kernel
theorem dX12_goTick_95 : decode cX12_goTick 95 = .ok (.return_, 1) := by decide +kernel
theorem dX12_tick_0 : decode cX12_tick 0 = .ok (.aload_n 0, 1) := by decide +kernel
theorem dX12_tick_1 : decode cX12_tick 1 = .ok (.iload_n 1, 1) := by decide +kernel
theorem dX12_tick_2 : decode cX12_tick 2 = .ok (.iconst 1, 1) := by decide +kernel
theorem dX12_tick_3 : decode cX12_tick 3 = .ok (.bipush 60, 2) := by decide +kernel
theorem dX12_tick_5 : decode cX12_tick 5 = .ok (.invokevirtual 217, 3) := by decide +kernel
theorem dX12_tick_8 : decode cX12_tick 8 = .ok (.ifCond .ne 6, 3) := by decide +kernel
theorem dX12_tick_11 : decode cX12_tick 11 = .ok (.bipush (-2), 2) := by decide +kernel
theorem dX12_tick_13 : decode cX12_tick 13 = .ok (.ireturn, 1) := by decide +kernel
theorem dX12_tick_14 : decode cX12_tick 14 = .ok (.aload_n 0, 1) := by decide +kernel
theorem dX12_tick_15 : decode cX12_tick 15 = .ok (.getfield 13, 3) := by decide +kernel
theorem dX12_tick_18 : decode cX12_tick 18 = .ok (.iload_n 1, 1) := by decide +kernel
theorem dX12_tick_19 : decode cX12_tick 19 = .ok (.iadd, 1) := by decide +kernel
theorem dX12_tick_20 : decode cX12_tick 20 = .ok (.sipush 9999, 3) := by decide +kernel
theorem dX12_tick_23 : decode cX12_tick 23 = .ok (.if_icmp .le 6, 3) := by decide +kernel
theorem dX12_tick_26 : decode cX12_tick 26 = .ok (.bipush (-4), 2) := by decide +kernel
theorem dX12_tick_28 : decode cX12_tick 28 = .ok (.ireturn, 1) := by decide +kernel
theorem dX12_tick_29 : decode cX12_tick 29 = .ok (.aload_n 0, 1) := by decide +kernel
theorem dX12_tick_30 : decode cX12_tick 30 = .ok (.iconst 0, 1) := by decide +kernel
theorem dX12_tick_31 : decode cX12_tick 31 = .ok (.putfield 145, 3) := by decide +kernel
theorem dX12_tick_34 : decode cX12_tick 34 = .ok (.iconst 0, 1) := by decide +kernel
theorem dX12_tick_35 : decode cX12_tick 35 = .ok (.istore_n 2, 1) := by decide +kernel
theorem dX12_tick_36 : decode cX12_tick 36 = .ok (.iload_n 2, 1) := by decide +kernel
theorem dX12_tick_37 : decode cX12_tick 37 = .ok (.iload_n 1, 1) := by decide +kernel
theorem dX12_tick_38 : decode cX12_tick 38 = .ok (.if_icmp .ge 13, 3) := by decide +kernel
theorem dX12_tick_41 : decode cX12_tick 41 = .ok (.aload_n 0, 1) := by decide +kernel
theorem dX12_tick_42 : decode cX12_tick 42 = .ok (.invokevirtual 358, 3) := by decide +kernel
theorem dX12_tick_45 : decode cX12_tick 45 = .ok (.iinc 2 1, 3) := by decide +kernel
theorem dX12_tick_48 : decode cX12_tick 48 = .ok (.goto (-12), 3) := by decide +kernel
theorem dX12_tick_51 : decode cX12_tick 51 = .ok (.aload_n 0, 1) := by decide +kernel
theorem dX12_tick_52 : decode cX12_tick 52 = .ok (.getfield 145, 3) := by decide +kernel
theorem dX12_tick_55 : decode cX12_tick 55 = .ok (.ireturn, 1) := by decide +kernel
theorem dX12_order_0 : decode cX12_order 0 = .ok (.aload_n 0, 1) := by decide +kernel
theorem dX12_order_1 : decode cX12_order 1 = .ok (.iload_n 1, 1) := by decide +kernel
theorem dX12_order_2 : decode cX12_order 2 = .ok (.invokevirtual 239, 3) := by decide +kernel
theorem dX12_order_5 : decode cX12_order 5 = .ok (.ifCond .eq 11, 3) := by decide +kernel
theorem dX12_order_8 : decode cX12_order 8 = .ok (.aload_n 0, 1) := by decide +kernel
theorem dX12_order_9 : decode cX12_order 9 = .ok (.iload_n 2, 1) := by decide +kernel
theorem dX12_order_10 : decode cX12_order 10 = .ok (.invokevirtual 221, 3) := by decide +kernel
theorem dX12_order_13 : decode cX12_order 13 = .ok (.ifCond .ne 6, 3) := by decide +kernel
theorem dX12_order_16 : decode cX12_order 16 = .ok (.bipush (-2), 2) := by decide +kernel
theorem dX12_order_18 : decode cX12_order 18 = .ok (.ireturn, 1) := by decide +kernel
theorem dX12_order_19 : decode cX12_order 19 = .ok (.aload_n 0, 1) := by decide +kernel
theorem dX12_order_20 : decode cX12_order 20 = .ok (.getfield 86, 3) := by decide +kernel
theorem dX12_order_23 : decode cX12_order 23 = .ok (.iload_n 1, 1) := by decide +kernel
theorem dX12_order_24 : decode cX12_order 24 = .ok (.baload, 1) := by decide +kernel
theorem dX12_order_25 : decode cX12_order 25 = .ok (.ifCond .ne 6, 3) := by decide +kernel
theorem dX12_order_28 : decode cX12_order 28 = .ok (.bipush (-3), 2) := by decide +kernel
theorem dX12_order_30 : decode cX12_order 30 = .ok (.ireturn, 1) := by decide +kernel
theorem dX12_order_31 : decode cX12_order 31 = .ok (.aload_n 0, 1) := by decide +kernel
theorem dX12_order_32 : decode cX12_order 32 = .ok (.getfield 59, 3) := by decide +kernel
theorem dX12_order_35 : decode cX12_order 35 = .ok (.bipush 16, 2) := by decide +kernel
theorem dX12_order_37 : decode cX12_order 37 = .ok (.if_icmp .eq 13, 3) := by decide +kernel
theorem dX12_order_40 : decode cX12_order 40 = .ok (.aload_n 0, 1) := by decide +kernel
theorem dX12_order_41 : decode cX12_order 41 = .ok (.getfield 7, 3) := by decide +kernel
theorem dX12_order_44 : decode cX12_order 44 = .ok (.sipush 300, 3) := by decide +kernel
theorem dX12_order_47 : decode cX12_order 47 = .ok (.if_icmp .ne 6, 3) := by decide +kernel
theorem dX12_order_50 : decode cX12_order 50 = .ok (.bipush (-4), 2) := by decide +kernel
theorem dX12_order_52 : decode cX12_order 52 = .ok (.ireturn, 1) := by decide +kernel
theorem dX12_order_53 : decode cX12_order 53 = .ok (.aload_n 0, 1) := by decide +kernel
theorem dX12_order_54 : decode cX12_order 54 = .ok (.iload_n 2, 1) := by decide +kernel
theorem dX12_order_55 : decode cX12_order 55 = .ok (.iconst 1, 1) := by decide +kernel
theorem dX12_order_56 : decode cX12_order 56 = .ok (.iconst (-1), 1) := by decide +kernel
theorem dX12_order_57 : decode cX12_order 57 = .ok (.invokevirtual 225, 3) := by decide +kernel
theorem dX12_order_60 : decode cX12_order 60 = .ok (.istore_n 3, 1) := by decide +kernel
theorem dX12_order_61 : decode cX12_order 61 = .ok (.aload_n 0, 1) := by decide +kernel
theorem dX12_order_62 : decode cX12_order 62 = .ok (.getfield 56, 3) := by decide +kernel
theorem dX12_order_65 : decode cX12_order 65 = .ok (.iload_n 3, 1) := by decide +kernel
theorem dX12_order_66 : decode cX12_order 66 = .ok (.iload_n 1, 1) := by decide +kernel
theorem dX12_order_67 : decode cX12_order 67 = .ok (.iastore, 1) := by decide +kernel
theorem dX12_order_68 : decode cX12_order 68 = .ok (.aload_n 0, 1) := by decide +kernel
theorem dX12_order_69 : decode cX12_order 69 = .ok (.getfield 53, 3) := by decide +kernel
theorem dX12_order_72 : decode cX12_order 72 = .ok (.aload_n 0, 1) := by decide +kernel
theorem dX12_order_73 : decode cX12_order 73 = .ok (.getfield 59, 3) := by decide +kernel
theorem dX12_order_76 : decode cX12_order 76 = .ok (.iload_n 3, 1) := by decide +kernel
theorem dX12_order_77 : decode cX12_order 77 = .ok (.iastore, 1) := by decide +kernel
theorem dX12_order_78 : decode cX12_order 78 = .ok (.aload_n 0, 1) := by decide +kernel
theorem dX12_order_79 : decode cX12_order 79 = .ok (.dup, 1) := by decide +kernel
theorem dX12_order_80 : decode cX12_order 80 = .ok (.getfield 59, 3) := by decide +kernel
theorem dX12_order_83 : decode cX12_order 83 = .ok (.iconst 1, 1) := by decide +kernel
theorem dX12_order_84 : decode cX12_order 84 = .ok (.iadd, 1) := by decide +kernel
theorem dX12_order_85 : decode cX12_order 85 = .ok (.putfield 59, 3) := by decide +kernel
theorem dX12_order_88 : decode cX12_order 88 = .ok (.iload_n 3, 1) := by decide +kernel
theorem dX12_order_89 : decode cX12_order 89 = .ok (.ireturn, 1) := by decide +kernel
theorem dX12_lane_0 : decode cX12_lane 0 = .ok (.aload_n 0, 1) := by decide +kernel
theorem dX12_lane_1 : decode cX12_lane 1 = .ok (.iload_n 1, 1) := by decide +kernel
theorem dX12_lane_2 : decode cX12_lane 2 = .ok (.invokevirtual 232, 3) := by decide +kernel
theorem dX12_lane_5 : decode cX12_lane 5 = .ok (.ifCond .ne 8, 3) := by decide +kernel
theorem dX12_lane_8 : decode cX12_lane 8 = .ok (.bipush (-2), 2) := by decide +kernel
theorem dX12_lane_10 : decode cX12_lane 10 = .ok (.goto 27, 3) := by decide +kernel
theorem dX12_lane_13 : decode cX12_lane 13 = .ok (.aload_n 0, 1) := by decide +kernel
theorem dX12_lane_14 : decode cX12_lane 14 = .ok (.getfield 50, 3) := by decide +kernel
theorem dX12_lane_17 : decode cX12_lane 17 = .ok (.iload_n 1, 1) := by decide +kernel
theorem dX12_lane_18 : decode cX12_lane 18 = .ok (.iaload, 1) := by decide +kernel
theorem dX12_lane_19 : decode cX12_lane 19 = .ok (.ifCond .ge 7, 3) := by decide +kernel
theorem dX12_lane_22 : decode cX12_lane 22 = .ok (.iconst (-1), 1) := by decide +kernel
theorem dX12_lane_23 : decode cX12_lane 23 = .ok (.goto 14, 3) := by decide +kernel
theorem dX12_lane_26 : decode cX12_lane 26 = .ok (.aload_n 0, 1) := by decide +kernel
theorem dX12_lane_27 : decode cX12_lane 27 = .ok (.getfield 56, 3) := by decide +kernel
theorem dX12_lane_30 : decode cX12_lane 30 = .ok (.aload_n 0, 1) := by decide +kernel
theorem dX12_lane_31 : decode cX12_lane 31 = .ok (.getfield 50, 3) := by decide +kernel
theorem dX12_lane_34 : decode cX12_lane 34 = .ok (.iload_n 1, 1) := by decide +kernel
theorem dX12_lane_35 : decode cX12_lane 35 = .ok (.iaload, 1) := by decide +kernel
theorem dX12_lane_36 : decode cX12_lane 36 = .ok (.iaload, 1) := by decide +kernel
theorem dX12_lane_37 : decode cX12_lane 37 = .ok (.ireturn, 1) := by decide +kernel
theorem dX12_countOf_0 : decode cX12_countOf 0 = .ok (.iconst 0, 1) := by decide +kernel
theorem dX12_countOf_1 : decode cX12_countOf 1 = .ok (.istore_n 3, 1) := by decide +kernel
theorem dX12_countOf_2 : decode cX12_countOf 2 = .ok (.iconst 0, 1) := by decide +kernel
theorem dX12_countOf_3 : decode cX12_countOf 3 = .ok (.istore 4, 2) := by decide +kernel
theorem dX12_countOf_5 : decode cX12_countOf 5 = .ok (.iload 4, 2) := by decide +kernel
theorem dX12_countOf_7 : decode cX12_countOf 7 = .ok (.aload_n 0, 1) := by decide +kernel
theorem dX12_countOf_8 : decode cX12_countOf 8 = .ok (.getfield 7, 3) := by decide +kernel
theorem dX12_countOf_11 : decode cX12_countOf 11 = .ok (.if_icmp .ge 43, 3) := by decide +kernel
theorem dX12_countOf_14 : decode cX12_countOf 14 = .ok (.iload_n 3, 1) := by decide +kernel
theorem dX12_countOf_15 : decode cX12_countOf 15 = .ok (.aload_n 0, 1) := by decide +kernel
theorem dX12_countOf_16 : decode cX12_countOf 16 = .ok (.getfield 35, 3) := by decide +kernel
theorem dX12_countOf_19 : decode cX12_countOf 19 = .ok (.iload 4, 2) := by decide +kernel
theorem dX12_countOf_21 : decode cX12_countOf 21 = .ok (.iaload, 1) := by decide +kernel
theorem dX12_countOf_22 : decode cX12_countOf 22 = .ok (.iload_n 1, 1) := by decide +kernel
theorem dX12_countOf_23 : decode cX12_countOf 23 = .ok (.if_icmp .ne 22, 3) := by decide +kernel
theorem dX12_countOf_26 : decode cX12_countOf 26 = .ok (.iload_n 2, 1) := by decide +kernel
theorem dX12_countOf_27 : decode cX12_countOf 27 = .ok (.ifCond .lt 14, 3) := by decide +kernel
theorem dX12_countOf_30 : decode cX12_countOf 30 = .ok (.aload_n 0, 1) := by decide +kernel
theorem dX12_countOf_31 : decode cX12_countOf 31 = .ok (.getfield 41, 3) := by decide +kernel
theorem dX12_countOf_34 : decode cX12_countOf 34 = .ok (.iload 4, 2) := by decide +kernel
theorem dX12_countOf_36 : decode cX12_countOf 36 = .ok (.iaload, 1) := by decide +kernel
theorem dX12_countOf_37 : decode cX12_countOf 37 = .ok (.iload_n 2, 1) := by decide +kernel
theorem dX12_countOf_38 : decode cX12_countOf 38 = .ok (.if_icmp .ne 7, 3) := by decide +kernel
theorem dX12_countOf_41 : decode cX12_countOf 41 = .ok (.iconst 1, 1) := by decide +kernel
theorem dX12_countOf_42 : decode cX12_countOf 42 = .ok (.goto 4, 3) := by decide +kernel
theorem dX12_countOf_45 : decode cX12_countOf 45 = .ok (.iconst 0, 1) := by decide +kernel
theorem dX12_countOf_46 : decode cX12_countOf 46 = .ok (.iadd, 1) := by decide +kernel
theorem dX12_countOf_47 : decode cX12_countOf 47 = .ok (.istore_n 3, 1) := by decide +kernel
theorem dX12_countOf_48 : decode cX12_countOf 48 = .ok (.iinc 4 1, 3) := by decide +kernel
theorem dX12_countOf_51 : decode cX12_countOf 51 = .ok (.goto (-46), 3) := by decide +kernel
theorem dX12_countOf_54 : decode cX12_countOf 54 = .ok (.iload_n 3, 1) := by decide +kernel
theorem dX12_countOf_55 : decode cX12_countOf 55 = .ok (.ireturn, 1) := by decide +kernel
theorem dX12_empties_0 : decode cX12_empties 0 = .ok (.aload_n 0, 1) := by decide +kernel
theorem dX12_empties_1 : decode cX12_empties 1 = .ok (.iload_n 1, 1) := by decide +kernel
theorem dX12_empties_2 : decode cX12_empties 2 = .ok (.iconst 0, 1) := by decide +kernel
theorem dX12_empties_3 : decode cX12_empties 3 = .ok (.iconst 4, 1) := by decide +kernel
theorem dX12_empties_4 : decode cX12_empties 4 = .ok (.invokevirtual 217, 3) := by decide +kernel
theorem dX12_empties_7 : decode cX12_empties 7 = .ok (.ifCond .eq 43, 3) := by decide +kernel
theorem dX12_empties_10 : decode cX12_empties 10 = .ok (.aload_n 0, 1) := by decide +kernel
theorem dX12_empties_11 : decode cX12_empties 11 = .ok (.iload_n 2, 1) := by decide +kernel
theorem dX12_empties_12 : decode cX12_empties 12 = .ok (.iconst 0, 1) := by decide +kernel
theorem dX12_empties_13 : decode cX12_empties 13 = .ok (.bipush 6, 2) := by decide +kernel
theorem dX12_empties_15 : decode cX12_empties 15 = .ok (.invokevirtual 217, 3) := by decide +kernel
theorem dX12_empties_18 : decode cX12_empties 18 = .ok (.ifCond .eq 32, 3) := by decide +kernel
theorem dX12_empties_21 : decode cX12_empties 21 = .ok (.aload_n 0, 1) := by decide +kernel
theorem dX12_empties_22 : decode cX12_empties 22 = .ok (.iload_n 1, 1) := by decide +kernel
theorem dX12_empties_23 : decode cX12_empties 23 = .ok (.iload_n 2, 1) := by decide +kernel
theorem dX12_empties_24 : decode cX12_empties 24 = .ok (.ifCond .ne 7, 3) := by decide +kernel
theorem dX12_empties_27 : decode cX12_empties 27 = .ok (.iconst (-1), 1) := by decide +kernel
theorem dX12_empties_28 : decode cX12_empties 28 = .ok (.goto 16, 3) := by decide +kernel
theorem dX12_empties_31 : decode cX12_empties 31 = .ok (.iload_n 2, 1) := by decide +kernel
theorem dX12_empties_32 : decode cX12_empties 32 = .ok (.bipush 6, 2) := by decide +kernel
theorem dX12_empties_34 : decode cX12_empties 34 = .ok (.if_icmp .ne 7, 3) := by decide +kernel
theorem dX12_empties_37 : decode cX12_empties 37 = .ok (.iconst 5, 1) := by decide +kernel
theorem dX12_empties_38 : decode cX12_empties 38 = .ok (.goto 6, 3) := by decide +kernel
theorem dX12_empties_41 : decode cX12_empties 41 = .ok (.iload_n 2, 1) := by decide +kernel
theorem dX12_empties_42 : decode cX12_empties 42 = .ok (.iconst 1, 1) := by decide +kernel
theorem dX12_empties_43 : decode cX12_empties 43 = .ok (.isub, 1) := by decide +kernel
theorem dX12_empties_44 : decode cX12_empties 44 = .ok (.invokevirtual 361, 3) := by decide +kernel
theorem dX12_empties_47 : decode cX12_empties 47 = .ok (.goto 5, 3) := by decide +kernel
theorem dX12_empties_50 : decode cX12_empties 50 = .ok (.bipush (-2), 2) := by decide +kernel
theorem dX12_empties_52 : decode cX12_empties 52 = .ok (.ireturn, 1) := by decide +kernel
theorem dX12_keep_0 : decode cX12_keep 0 = .ok (.iconst 0, 1) := by decide +kernel
theorem dX12_keep_1 : decode cX12_keep 1 = .ok (.istore_n 1, 1) := by decide +kernel
theorem dX12_keep_2 : decode cX12_keep 2 = .ok (.iload_n 1, 1) := by decide +kernel
theorem dX12_keep_3 : decode cX12_keep 3 = .ok (.aload_n 0, 1) := by decide +kernel
theorem dX12_keep_4 : decode cX12_keep 4 = .ok (.getfield 7, 3) := by decide +kernel
theorem dX12_keep_7 : decode cX12_keep 7 = .ok (.if_icmp .ge 45, 3) := by decide +kernel
theorem dX12_keep_10 : decode cX12_keep 10 = .ok (.aload_n 0, 1) := by decide +kernel
theorem dX12_keep_11 : decode cX12_keep 11 = .ok (.getfield 154, 3) := by decide +kernel
theorem dX12_keep_14 : decode cX12_keep 14 = .ok (.iload_n 1, 1) := by decide +kernel
theorem dX12_keep_15 : decode cX12_keep 15 = .ok (.aload_n 0, 1) := by decide +kernel
theorem dX12_keep_16 : decode cX12_keep 16 = .ok (.getfield 38, 3) := by decide +kernel
theorem dX12_keep_19 : decode cX12_keep 19 = .ok (.iload_n 1, 1) := by decide +kernel
theorem dX12_keep_20 : decode cX12_keep 20 = .ok (.iaload, 1) := by decide +kernel
theorem dX12_keep_21 : decode cX12_keep 21 = .ok (.iastore, 1) := by decide +kernel
theorem dX12_keep_22 : decode cX12_keep 22 = .ok (.aload_n 0, 1) := by decide +kernel
theorem dX12_keep_23 : decode cX12_keep 23 = .ok (.getfield 157, 3) := by decide +kernel
theorem dX12_keep_26 : decode cX12_keep 26 = .ok (.iload_n 1, 1) := by decide +kernel
theorem dX12_keep_27 : decode cX12_keep 27 = .ok (.aload_n 0, 1) := by decide +kernel
theorem dX12_keep_28 : decode cX12_keep 28 = .ok (.getfield 41, 3) := by decide +kernel
theorem dX12_keep_31 : decode cX12_keep 31 = .ok (.iload_n 1, 1) := by decide +kernel
theorem dX12_keep_32 : decode cX12_keep 32 = .ok (.iaload, 1) := by decide +kernel
theorem dX12_keep_33 : decode cX12_keep 33 = .ok (.iastore, 1) := by decide +kernel
theorem dX12_keep_34 : decode cX12_keep 34 = .ok (.aload_n 0, 1) := by decide +kernel
theorem dX12_keep_35 : decode cX12_keep 35 = .ok (.getfield 160, 3) := by decide +kernel
theorem dX12_keep_38 : decode cX12_keep 38 = .ok (.iload_n 1, 1) := by decide +kernel
theorem dX12_keep_39 : decode cX12_keep 39 = .ok (.aload_n 0, 1) := by decide +kernel
theorem dX12_keep_40 : decode cX12_keep 40 = .ok (.getfield 44, 3) := by decide +kernel
theorem dX12_keep_43 : decode cX12_keep 43 = .ok (.iload_n 1, 1) := by decide +kernel
theorem dX12_keep_44 : decode cX12_keep 44 = .ok (.iaload, 1) := by decide +kernel
theorem dX12_keep_45 : decode cX12_keep 45 = .ok (.iastore, 1) := by decide +kernel
theorem dX12_keep_46 : decode cX12_keep 46 = .ok (.iinc 1 1, 3) := by decide +kernel
theorem dX12_keep_49 : decode cX12_keep 49 = .ok (.goto (-47), 3) := by decide +kernel
theorem dX12_keep_52 : decode cX12_keep 52 = .ok (.iconst 0, 1) := by decide +kernel
theorem dX12_keep_53 : decode cX12_keep 53 = .ok (.istore_n 1, 1) := by decide +kernel
theorem dX12_keep_54 : decode cX12_keep 54 = .ok (.iload_n 1, 1) := by decide +kernel
theorem dX12_keep_55 : decode cX12_keep 55 = .ok (.aload_n 0, 1) := by decide +kernel
theorem dX12_keep_56 : decode cX12_keep 56 = .ok (.getfield 211, 3) := by decide +kernel
theorem dX12_keep_59 : decode cX12_keep 59 = .ok (.if_icmp .ge 33, 3) := by decide +kernel
theorem dX12_keep_62 : decode cX12_keep 62 = .ok (.aload_n 0, 1) := by decide +kernel
theorem dX12_keep_63 : decode cX12_keep 63 = .ok (.getfield 163, 3) := by decide +kernel
theorem dX12_keep_66 : decode cX12_keep 66 = .ok (.iload_n 1, 1) := by decide +kernel
theorem dX12_keep_67 : decode cX12_keep 67 = .ok (.aload_n 0, 1) := by decide +kernel
theorem dX12_keep_68 : decode cX12_keep 68 = .ok (.getfield 47, 3) := by decide +kernel
theorem dX12_keep_71 : decode cX12_keep 71 = .ok (.iload_n 1, 1) := by decide +kernel
theorem dX12_keep_72 : decode cX12_keep 72 = .ok (.iaload, 1) := by decide +kernel
theorem dX12_keep_73 : decode cX12_keep 73 = .ok (.iastore, 1) := by decide +kernel
theorem dX12_keep_74 : decode cX12_keep 74 = .ok (.aload_n 0, 1) := by decide +kernel
theorem dX12_keep_75 : decode cX12_keep 75 = .ok (.getfield 166, 3) := by decide +kernel
theorem dX12_keep_78 : decode cX12_keep 78 = .ok (.iload_n 1, 1) := by decide +kernel
theorem dX12_keep_79 : decode cX12_keep 79 = .ok (.aload_n 0, 1) := by decide +kernel
theorem dX12_keep_80 : decode cX12_keep 80 = .ok (.getfield 50, 3) := by decide +kernel
theorem dX12_keep_83 : decode cX12_keep 83 = .ok (.iload_n 1, 1) := by decide +kernel
theorem dX12_keep_84 : decode cX12_keep 84 = .ok (.iaload, 1) := by decide +kernel
theorem dX12_keep_85 : decode cX12_keep 85 = .ok (.iastore, 1) := by decide +kernel
theorem dX12_keep_86 : decode cX12_keep 86 = .ok (.iinc 1 1, 3) := by decide +kernel
theorem dX12_keep_89 : decode cX12_keep 89 = .ok (.goto (-35), 3) := by decide +kernel
theorem dX12_keep_92 : decode cX12_keep 92 = .ok (.iconst 0, 1) := by decide +kernel
theorem dX12_keep_93 : decode cX12_keep 93 = .ok (.istore_n 1, 1) := by decide +kernel
theorem dX12_keep_94 : decode cX12_keep 94 = .ok (.iload_n 1, 1) := by decide +kernel
theorem dX12_keep_95 : decode cX12_keep 95 = .ok (.aload_n 0, 1) := by decide +kernel
theorem dX12_keep_96 : decode cX12_keep 96 = .ok (.getfield 59, 3) := by decide +kernel
theorem dX12_keep_99 : decode cX12_keep 99 = .ok (.if_icmp .ge 21, 3) := by decide +kernel
theorem dX12_keep_102 : decode cX12_keep 102 = .ok (.aload_n 0, 1) := by decide +kernel
theorem dX12_keep_103 : decode cX12_keep 103 = .ok (.getfield 169, 3) := by decide +kernel
theorem dX12_keep_106 : decode cX12_keep 106 = .ok (.iload_n 1, 1) := by decide +kernel
theorem dX12_keep_107 : decode cX12_keep 107 = .ok (.aload_n 0, 1) := by decide +kernel
theorem dX12_keep_108 : decode cX12_keep 108 = .ok (.getfield 53, 3) := by decide +kernel
theorem dX12_keep_111 : decode cX12_keep 111 = .ok (.iload_n 1, 1) := by decide +kernel
theorem dX12_keep_112 : decode cX12_keep 112 = .ok (.iaload, 1) := by decide +kernel
theorem dX12_keep_113 : decode cX12_keep 113 = .ok (.iastore, 1) := by decide +kernel
theorem dX12_keep_114 : decode cX12_keep 114 = .ok (.iinc 1 1, 3) := by decide +kernel
theorem dX12_keep_117 : decode cX12_keep 117 = .ok (.goto (-23), 3) := by decide +kernel
theorem dX12_keep_120 : decode cX12_keep 120 = .ok (.iconst 0, 1) := by decide +kernel
theorem dX12_keep_121 : decode cX12_keep 121 = .ok (.istore_n 1, 1) := by decide +kernel
theorem dX12_keep_122 : decode cX12_keep 122 = .ok (.iload_n 1, 1) := by decide +kernel
theorem dX12_keep_123 : decode cX12_keep 123 = .ok (.aload_n 0, 1) := by decide +kernel
theorem dX12_keep_124 : decode cX12_keep 124 = .ok (.getfield 62, 3) := by decide +kernel
theorem dX12_keep_127 : decode cX12_keep 127 = .ok (.if_icmp .ge 83, 3) := by decide +kernel
theorem dX12_keep_130 : decode cX12_keep 130 = .ok (.aload_n 0, 1) := by decide +kernel
theorem dX12_keep_131 : decode cX12_keep 131 = .ok (.getfield 175, 3) := by decide +kernel
theorem dX12_keep_134 : decode cX12_keep 134 = .ok (.iload_n 1, 1) := by decide +kernel
theorem dX12_keep_135 : decode cX12_keep 135 = .ok (.aload_n 0, 1) := by decide +kernel
theorem dX12_keep_136 : decode cX12_keep 136 = .ok (.getfield 86, 3) := by decide +kernel
theorem dX12_keep_139 : decode cX12_keep 139 = .ok (.iload_n 1, 1) := by decide +kernel
theorem dX12_keep_140 : decode cX12_keep 140 = .ok (.baload, 1) := by decide +kernel
theorem dX12_keep_141 : decode cX12_keep 141 = .ok (.bastore, 1) := by decide +kernel
theorem dX12_keep_142 : decode cX12_keep 142 = .ok (.aload_n 0, 1) := by decide +kernel
theorem dX12_keep_143 : decode cX12_keep 143 = .ok (.getfield 172, 3) := by decide +kernel
theorem dX12_keep_146 : decode cX12_keep 146 = .ok (.iconst 5, 1) := by decide +kernel
theorem dX12_keep_147 : decode cX12_keep 147 = .ok (.iload_n 1, 1) := by decide +kernel
theorem dX12_keep_148 : decode cX12_keep 148 = .ok (.imul, 1) := by decide +kernel
theorem dX12_keep_149 : decode cX12_keep 149 = .ok (.aload_n 0, 1) := by decide +kernel
theorem dX12_keep_150 : decode cX12_keep 150 = .ok (.getfield 71, 3) := by decide +kernel
theorem dX12_keep_153 : decode cX12_keep 153 = .ok (.iload_n 1, 1) := by decide +kernel
theorem dX12_keep_154 : decode cX12_keep 154 = .ok (.iaload, 1) := by decide +kernel
theorem dX12_keep_155 : decode cX12_keep 155 = .ok (.iastore, 1) := by decide +kernel
theorem dX12_keep_156 : decode cX12_keep 156 = .ok (.aload_n 0, 1) := by decide +kernel
theorem dX12_keep_157 : decode cX12_keep 157 = .ok (.getfield 172, 3) := by decide +kernel
theorem dX12_keep_160 : decode cX12_keep 160 = .ok (.iconst 5, 1) := by decide +kernel
theorem dX12_keep_161 : decode cX12_keep 161 = .ok (.iload_n 1, 1) := by decide +kernel
theorem dX12_keep_162 : decode cX12_keep 162 = .ok (.imul, 1) := by decide +kernel
theorem dX12_keep_163 : decode cX12_keep 163 = .ok (.iconst 1, 1) := by decide +kernel
theorem dX12_keep_164 : decode cX12_keep 164 = .ok (.iadd, 1) := by decide +kernel
theorem dX12_keep_165 : decode cX12_keep 165 = .ok (.aload_n 0, 1) := by decide +kernel
theorem dX12_keep_166 : decode cX12_keep 166 = .ok (.getfield 74, 3) := by decide +kernel
theorem dX12_keep_169 : decode cX12_keep 169 = .ok (.iload_n 1, 1) := by decide +kernel
theorem dX12_keep_170 : decode cX12_keep 170 = .ok (.iaload, 1) := by decide +kernel
theorem dX12_keep_171 : decode cX12_keep 171 = .ok (.iastore, 1) := by decide +kernel
theorem dX12_keep_172 : decode cX12_keep 172 = .ok (.aload_n 0, 1) := by decide +kernel
theorem dX12_keep_173 : decode cX12_keep 173 = .ok (.getfield 172, 3) := by decide +kernel
theorem dX12_keep_176 : decode cX12_keep 176 = .ok (.iconst 5, 1) := by decide +kernel
theorem dX12_keep_177 : decode cX12_keep 177 = .ok (.iload_n 1, 1) := by decide +kernel
theorem dX12_keep_178 : decode cX12_keep 178 = .ok (.imul, 1) := by decide +kernel
theorem dX12_keep_179 : decode cX12_keep 179 = .ok (.iconst 2, 1) := by decide +kernel
theorem dX12_keep_180 : decode cX12_keep 180 = .ok (.iadd, 1) := by decide +kernel
theorem dX12_keep_181 : decode cX12_keep 181 = .ok (.aload_n 0, 1) := by decide +kernel
theorem dX12_keep_182 : decode cX12_keep 182 = .ok (.getfield 77, 3) := by decide +kernel
theorem dX12_keep_185 : decode cX12_keep 185 = .ok (.iload_n 1, 1) := by decide +kernel
theorem dX12_keep_186 : decode cX12_keep 186 = .ok (.iaload, 1) := by decide +kernel
theorem dX12_keep_187 : decode cX12_keep 187 = .ok (.iastore, 1) := by decide +kernel
theorem dX12_keep_188 : decode cX12_keep 188 = .ok (.aload_n 0, 1) := by decide +kernel
theorem dX12_keep_189 : decode cX12_keep 189 = .ok (.getfield 172, 3) := by decide +kernel
theorem dX12_keep_192 : decode cX12_keep 192 = .ok (.iconst 5, 1) := by decide +kernel
theorem dX12_keep_193 : decode cX12_keep 193 = .ok (.iload_n 1, 1) := by decide +kernel
theorem dX12_keep_194 : decode cX12_keep 194 = .ok (.imul, 1) := by decide +kernel
theorem dX12_keep_195 : decode cX12_keep 195 = .ok (.iconst 3, 1) := by decide +kernel
theorem dX12_keep_196 : decode cX12_keep 196 = .ok (.iadd, 1) := by decide +kernel
theorem dX12_keep_197 : decode cX12_keep 197 = .ok (.aload_n 0, 1) := by decide +kernel
theorem dX12_keep_198 : decode cX12_keep 198 = .ok (.getfield 80, 3) := by decide +kernel
theorem dX12_keep_201 : decode cX12_keep 201 = .ok (.iload_n 1, 1) := by decide +kernel
theorem dX12_keep_202 : decode cX12_keep 202 = .ok (.iaload, 1) := by decide +kernel
theorem dX12_keep_203 : decode cX12_keep 203 = .ok (.iastore, 1) := by decide +kernel
theorem dX12_keep_204 : decode cX12_keep 204 = .ok (.iinc 1 1, 3) := by decide +kernel
theorem dX12_keep_207 : decode cX12_keep 207 = .ok (.goto (-85), 3) := by decide +kernel
theorem dX12_keep_210 : decode cX12_keep 210 = .ok (.aload_n 0, 1) := by decide +kernel
theorem dX12_keep_211 : decode cX12_keep 211 = .ok (.aload_n 0, 1) := by decide +kernel
theorem dX12_keep_212 : decode cX12_keep 212 = .ok (.getfield 7, 3) := by decide +kernel
theorem dX12_keep_215 : decode cX12_keep 215 = .ok (.putfield 178, 3) := by decide +kernel
theorem dX12_keep_218 : decode cX12_keep 218 = .ok (.aload_n 0, 1) := by decide +kernel
theorem dX12_keep_219 : decode cX12_keep 219 = .ok (.aload_n 0, 1) := by decide +kernel
theorem dX12_keep_220 : decode cX12_keep 220 = .ok (.getfield 13, 3) := by decide +kernel
theorem dX12_keep_223 : decode cX12_keep 223 = .ok (.putfield 181, 3) := by decide +kernel
theorem dX12_keep_226 : decode cX12_keep 226 = .ok (.aload_n 0, 1) := by decide +kernel
theorem dX12_keep_227 : decode cX12_keep 227 = .ok (.aload_n 0, 1) := by decide +kernel
theorem dX12_keep_228 : decode cX12_keep 228 = .ok (.getfield 16, 3) := by decide +kernel
theorem dX12_keep_231 : decode cX12_keep 231 = .ok (.putfield 184, 3) := by decide +kernel
theorem dX12_keep_234 : decode cX12_keep 234 = .ok (.aload_n 0, 1) := by decide +kernel
theorem dX12_keep_235 : decode cX12_keep 235 = .ok (.aload_n 0, 1) := by decide +kernel
theorem dX12_keep_236 : decode cX12_keep 236 = .ok (.getfield 59, 3) := by decide +kernel
theorem dX12_keep_239 : decode cX12_keep 239 = .ok (.putfield 187, 3) := by decide +kernel
theorem dX12_keep_242 : decode cX12_keep 242 = .ok (.return_, 1) := by decide +kernel
theorem dX12_takeBack_0 : decode cX12_takeBack 0 = .ok (.aload_n 0, 1) := by decide +kernel
theorem dX12_takeBack_1 : decode cX12_takeBack 1 = .ok (.aload_n 0, 1) := by decide +kernel
theorem dX12_takeBack_2 : decode cX12_takeBack 2 = .ok (.getfield 178, 3) := by decide +kernel
theorem dX12_takeBack_5 : decode cX12_takeBack 5 = .ok (.putfield 7, 3) := by decide +kernel
theorem dX12_takeBack_8 : decode cX12_takeBack 8 = .ok (.aload_n 0, 1) := by decide +kernel
theorem dX12_takeBack_9 : decode cX12_takeBack 9 = .ok (.aload_n 0, 1) := by decide +kernel
theorem dX12_takeBack_10 : decode cX12_takeBack 10 = .ok (.getfield 181, 3) := by decide +kernel
theorem dX12_takeBack_13 : decode cX12_takeBack 13 = .ok (.putfield 13, 3) := by decide +kernel
theorem dX12_takeBack_16 : decode cX12_takeBack 16 = .ok (.aload_n 0, 1) := by decide +kernel
theorem dX12_takeBack_17 : decode cX12_takeBack 17 = .ok (.aload_n 0, 1) := by decide +kernel
theorem dX12_takeBack_18 : decode cX12_takeBack 18 = .ok (.getfield 184, 3) := by decide +kernel
theorem dX12_takeBack_21 : decode cX12_takeBack 21 = .ok (.putfield 16, 3) := by decide +kernel
theorem dX12_takeBack_24 : decode cX12_takeBack 24 = .ok (.aload_n 0, 1) := by decide +kernel
theorem dX12_takeBack_25 : decode cX12_takeBack 25 = .ok (.aload_n 0, 1) := by decide +kernel
theorem dX12_takeBack_26 : decode cX12_takeBack 26 = .ok (.getfield 187, 3) := by decide +kernel
theorem dX12_takeBack_29 : decode cX12_takeBack 29 = .ok (.putfield 59, 3) := by decide +kernel
theorem dX12_takeBack_32 : decode cX12_takeBack 32 = .ok (.iconst 0, 1) := by decide +kernel
theorem dX12_takeBack_33 : decode cX12_takeBack 33 = .ok (.istore_n 1, 1) := by decide +kernel
theorem dX12_takeBack_34 : decode cX12_takeBack 34 = .ok (.iload_n 1, 1) := by decide +kernel
theorem dX12_takeBack_35 : decode cX12_takeBack 35 = .ok (.aload_n 0, 1) := by decide +kernel
theorem dX12_takeBack_36 : decode cX12_takeBack 36 = .ok (.getfield 7, 3) := by decide +kernel
theorem dX12_takeBack_39 : decode cX12_takeBack 39 = .ok (.if_icmp .ge 45, 3) := by decide +kernel
theorem dX12_takeBack_42 : decode cX12_takeBack 42 = .ok (.aload_n 0, 1) := by decide +kernel
theorem dX12_takeBack_43 : decode cX12_takeBack 43 = .ok (.getfield 38, 3) := by decide +kernel
theorem dX12_takeBack_46 : decode cX12_takeBack 46 = .ok (.iload_n 1, 1) := by decide +kernel
theorem dX12_takeBack_47 : decode cX12_takeBack 47 = .ok (.aload_n 0, 1) := by decide +kernel
theorem dX12_takeBack_48 : decode cX12_takeBack 48 = .ok (.getfield 154, 3) := by decide +kernel
theorem dX12_takeBack_51 : decode cX12_takeBack 51 = .ok (.iload_n 1, 1) := by decide +kernel
theorem dX12_takeBack_52 : decode cX12_takeBack 52 = .ok (.iaload, 1) := by decide +kernel
theorem dX12_takeBack_53 : decode cX12_takeBack 53 = .ok (.iastore, 1) := by decide +kernel
theorem dX12_takeBack_54 : decode cX12_takeBack 54 = .ok (.aload_n 0, 1) := by decide +kernel
theorem dX12_takeBack_55 : decode cX12_takeBack 55 = .ok (.getfield 41, 3) := by decide +kernel
theorem dX12_takeBack_58 : decode cX12_takeBack 58 = .ok (.iload_n 1, 1) := by decide +kernel
theorem dX12_takeBack_59 : decode cX12_takeBack 59 = .ok (.aload_n 0, 1) := by decide +kernel
theorem dX12_takeBack_60 : decode cX12_takeBack 60 = .ok (.getfield 157, 3) := by decide +kernel
theorem dX12_takeBack_63 : decode cX12_takeBack 63 = .ok (.iload_n 1, 1) := by decide +kernel
theorem dX12_takeBack_64 : decode cX12_takeBack 64 = .ok (.iaload, 1) := by decide +kernel
theorem dX12_takeBack_65 : decode cX12_takeBack 65 = .ok (.iastore, 1) := by decide +kernel
theorem dX12_takeBack_66 : decode cX12_takeBack 66 = .ok (.aload_n 0, 1) := by decide +kernel
theorem dX12_takeBack_67 : decode cX12_takeBack 67 = .ok (.getfield 44, 3) := by decide +kernel
theorem dX12_takeBack_70 : decode cX12_takeBack 70 = .ok (.iload_n 1, 1) := by decide +kernel
theorem dX12_takeBack_71 : decode cX12_takeBack 71 = .ok (.aload_n 0, 1) := by decide +kernel
theorem dX12_takeBack_72 : decode cX12_takeBack 72 = .ok (.getfield 160, 3) := by decide +kernel
theorem dX12_takeBack_75 : decode cX12_takeBack 75 = .ok (.iload_n 1, 1) := by decide +kernel
theorem dX12_takeBack_76 : decode cX12_takeBack 76 = .ok (.iaload, 1) := by decide +kernel
theorem dX12_takeBack_77 : decode cX12_takeBack 77 = .ok (.iastore, 1) := by decide +kernel
theorem dX12_takeBack_78 : decode cX12_takeBack 78 = .ok (.iinc 1 1, 3) := by decide +kernel
theorem dX12_takeBack_81 : decode cX12_takeBack 81 = .ok (.goto (-47), 3) := by decide +kernel
theorem dX12_takeBack_84 : decode cX12_takeBack 84 = .ok (.iconst 0, 1) := by decide +kernel
theorem dX12_takeBack_85 : decode cX12_takeBack 85 = .ok (.istore_n 1, 1) := by decide +kernel
theorem dX12_takeBack_86 : decode cX12_takeBack 86 = .ok (.iload_n 1, 1) := by decide +kernel
theorem dX12_takeBack_87 : decode cX12_takeBack 87 = .ok (.aload_n 0, 1) := by decide +kernel
theorem dX12_takeBack_88 : decode cX12_takeBack 88 = .ok (.getfield 211, 3) := by decide +kernel
theorem dX12_takeBack_91 : decode cX12_takeBack 91 = .ok (.if_icmp .ge 33, 3) := by decide +kernel
theorem dX12_takeBack_94 : decode cX12_takeBack 94 = .ok (.aload_n 0, 1) := by decide +kernel
theorem dX12_takeBack_95 : decode cX12_takeBack 95 = .ok (.getfield 47, 3) := by decide +kernel
theorem dX12_takeBack_98 : decode cX12_takeBack 98 = .ok (.iload_n 1, 1) := by decide +kernel
theorem dX12_takeBack_99 : decode cX12_takeBack 99 = .ok (.aload_n 0, 1) := by decide +kernel
theorem dX12_takeBack_100 : decode cX12_takeBack 100 = .ok (.getfield 163, 3) := by decide +kernel
theorem dX12_takeBack_103 : decode cX12_takeBack 103 = .ok (.iload_n 1, 1) := by decide +kernel
theorem dX12_takeBack_104 : decode cX12_takeBack 104 = .ok (.iaload, 1) := by decide +kernel
theorem dX12_takeBack_105 : decode cX12_takeBack 105 = .ok (.iastore, 1) := by decide +kernel
theorem dX12_takeBack_106 : decode cX12_takeBack 106 = .ok (.aload_n 0, 1) := by decide +kernel
theorem dX12_takeBack_107 : decode cX12_takeBack 107 = .ok (.getfield 50, 3) := by decide +kernel
theorem dX12_takeBack_110 : decode cX12_takeBack 110 = .ok (.iload_n 1, 1) := by decide +kernel
theorem dX12_takeBack_111 : decode cX12_takeBack 111 = .ok (.aload_n 0, 1) := by decide +kernel
theorem dX12_takeBack_112 : decode cX12_takeBack 112 = .ok (.getfield 166, 3) := by decide +kernel
theorem dX12_takeBack_115 : decode cX12_takeBack 115 = .ok (.iload_n 1, 1) := by decide +kernel
theorem dX12_takeBack_116 : decode cX12_takeBack 116 = .ok (.iaload, 1) := by decide +kernel
theorem dX12_takeBack_117 : decode cX12_takeBack 117 = .ok (.iastore, 1) := by decide +kernel
theorem dX12_takeBack_118 : decode cX12_takeBack 118 = .ok (.iinc 1 1, 3) := by decide +kernel
theorem dX12_takeBack_121 : decode cX12_takeBack 121 = .ok (.goto (-35), 3) := by decide +kernel
theorem dX12_takeBack_124 : decode cX12_takeBack 124 = .ok (.iconst 0, 1) := by decide +kernel
theorem dX12_takeBack_125 : decode cX12_takeBack 125 = .ok (.istore_n 1, 1) := by decide +kernel
theorem dX12_takeBack_126 : decode cX12_takeBack 126 = .ok (.iload_n 1, 1) := by decide +kernel
theorem dX12_takeBack_127 : decode cX12_takeBack 127 = .ok (.aload_n 0, 1) := by decide +kernel
theorem dX12_takeBack_128 : decode cX12_takeBack 128 = .ok (.getfield 59, 3) := by decide +kernel
theorem dX12_takeBack_131 : decode cX12_takeBack 131 = .ok (.if_icmp .ge 21, 3) := by decide +kernel
theorem dX12_takeBack_134 : decode cX12_takeBack 134 = .ok (.aload_n 0, 1) := by decide +kernel
theorem dX12_takeBack_135 : decode cX12_takeBack 135 = .ok (.getfield 53, 3) := by decide +kernel
theorem dX12_takeBack_138 : decode cX12_takeBack 138 = .ok (.iload_n 1, 1) := by decide +kernel
theorem dX12_takeBack_139 : decode cX12_takeBack 139 = .ok (.aload_n 0, 1) := by decide +kernel
theorem dX12_takeBack_140 : decode cX12_takeBack 140 = .ok (.getfield 169, 3) := by decide +kernel
theorem dX12_takeBack_143 : decode cX12_takeBack 143 = .ok (.iload_n 1, 1) := by decide +kernel
theorem dX12_takeBack_144 : decode cX12_takeBack 144 = .ok (.iaload, 1) := by decide +kernel
theorem dX12_takeBack_145 : decode cX12_takeBack 145 = .ok (.iastore, 1) := by decide +kernel
theorem dX12_takeBack_146 : decode cX12_takeBack 146 = .ok (.iinc 1 1, 3) := by decide +kernel
theorem dX12_takeBack_149 : decode cX12_takeBack 149 = .ok (.goto (-23), 3) := by decide +kernel
theorem dX12_takeBack_152 : decode cX12_takeBack 152 = .ok (.iconst 0, 1) := by decide +kernel
theorem dX12_takeBack_153 : decode cX12_takeBack 153 = .ok (.istore_n 1, 1) := by decide +kernel
theorem dX12_takeBack_154 : decode cX12_takeBack 154 = .ok (.iload_n 1, 1) := by decide +kernel
theorem dX12_takeBack_155 : decode cX12_takeBack 155 = .ok (.aload_n 0, 1) := by decide +kernel
theorem dX12_takeBack_156 : decode cX12_takeBack 156 = .ok (.getfield 62, 3) := by decide +kernel
theorem dX12_takeBack_159 : decode cX12_takeBack 159 = .ok (.if_icmp .ge 83, 3) := by decide +kernel
theorem dX12_takeBack_162 : decode cX12_takeBack 162 = .ok (.aload_n 0, 1) := by decide +kernel
theorem dX12_takeBack_163 : decode cX12_takeBack 163 = .ok (.getfield 86, 3) := by decide +kernel
theorem dX12_takeBack_166 : decode cX12_takeBack 166 = .ok (.iload_n 1, 1) := by decide +kernel
theorem dX12_takeBack_167 : decode cX12_takeBack 167 = .ok (.aload_n 0, 1) := by decide +kernel
theorem dX12_takeBack_168 : decode cX12_takeBack 168 = .ok (.getfield 175, 3) := by decide +kernel
theorem dX12_takeBack_171 : decode cX12_takeBack 171 = .ok (.iload_n 1, 1) := by decide +kernel
theorem dX12_takeBack_172 : decode cX12_takeBack 172 = .ok (.baload, 1) := by decide +kernel
theorem dX12_takeBack_173 : decode cX12_takeBack 173 = .ok (.bastore, 1) := by decide +kernel
theorem dX12_takeBack_174 : decode cX12_takeBack 174 = .ok (.aload_n 0, 1) := by decide +kernel
theorem dX12_takeBack_175 : decode cX12_takeBack 175 = .ok (.getfield 71, 3) := by decide +kernel
theorem dX12_takeBack_178 : decode cX12_takeBack 178 = .ok (.iload_n 1, 1) := by decide +kernel
theorem dX12_takeBack_179 : decode cX12_takeBack 179 = .ok (.aload_n 0, 1) := by decide +kernel
theorem dX12_takeBack_180 : decode cX12_takeBack 180 = .ok (.getfield 172, 3) := by decide +kernel
theorem dX12_takeBack_183 : decode cX12_takeBack 183 = .ok (.iconst 5, 1) := by decide +kernel
theorem dX12_takeBack_184 : decode cX12_takeBack 184 = .ok (.iload_n 1, 1) := by decide +kernel
theorem dX12_takeBack_185 : decode cX12_takeBack 185 = .ok (.imul, 1) := by decide +kernel
theorem dX12_takeBack_186 : decode cX12_takeBack 186 = .ok (.iaload, 1) := by decide +kernel
theorem dX12_takeBack_187 : decode cX12_takeBack 187 = .ok (.iastore, 1) := by decide +kernel
theorem dX12_takeBack_188 : decode cX12_takeBack 188 = .ok (.aload_n 0, 1) := by decide +kernel
theorem dX12_takeBack_189 : decode cX12_takeBack 189 = .ok (.getfield 74, 3) := by decide +kernel
theorem dX12_takeBack_192 : decode cX12_takeBack 192 = .ok (.iload_n 1, 1) := by decide +kernel
theorem dX12_takeBack_193 : decode cX12_takeBack 193 = .ok (.aload_n 0, 1) := by decide +kernel
theorem dX12_takeBack_194 : decode cX12_takeBack 194 = .ok (.getfield 172, 3) := by decide +kernel
theorem dX12_takeBack_197 : decode cX12_takeBack 197 = .ok (.iconst 5, 1) := by decide +kernel
theorem dX12_takeBack_198 : decode cX12_takeBack 198 = .ok (.iload_n 1, 1) := by decide +kernel
theorem dX12_takeBack_199 : decode cX12_takeBack 199 = .ok (.imul, 1) := by decide +kernel
theorem dX12_takeBack_200 : decode cX12_takeBack 200 = .ok (.iconst 1, 1) := by decide +kernel
theorem dX12_takeBack_201 : decode cX12_takeBack 201 = .ok (.iadd, 1) := by decide +kernel
theorem dX12_takeBack_202 : decode cX12_takeBack 202 = .ok (.iaload, 1) := by decide +kernel
theorem dX12_takeBack_203 : decode cX12_takeBack 203 = .ok (.iastore, 1) := by decide +kernel
theorem dX12_takeBack_204 : decode cX12_takeBack 204 = .ok (.aload_n 0, 1) := by decide +kernel
theorem dX12_takeBack_205 : decode cX12_takeBack 205 = .ok (.getfield 77, 3) := by decide +kernel
theorem dX12_takeBack_208 : decode cX12_takeBack 208 = .ok (.iload_n 1, 1) := by decide +kernel
theorem dX12_takeBack_209 : decode cX12_takeBack 209 = .ok (.aload_n 0, 1) := by decide +kernel
theorem dX12_takeBack_210 : decode cX12_takeBack 210 = .ok (.getfield 172, 3) := by decide +kernel
theorem dX12_takeBack_213 : decode cX12_takeBack 213 = .ok (.iconst 5, 1) := by decide +kernel
theorem dX12_takeBack_214 : decode cX12_takeBack 214 = .ok (.iload_n 1, 1) := by decide +kernel
theorem dX12_takeBack_215 : decode cX12_takeBack 215 = .ok (.imul, 1) := by decide +kernel
theorem dX12_takeBack_216 : decode cX12_takeBack 216 = .ok (.iconst 2, 1) := by decide +kernel
theorem dX12_takeBack_217 : decode cX12_takeBack 217 = .ok (.iadd, 1) := by decide +kernel
theorem dX12_takeBack_218 : decode cX12_takeBack 218 = .ok (.iaload, 1) := by decide +kernel
theorem dX12_takeBack_219 : decode cX12_takeBack 219 = .ok (.iastore, 1) := by decide +kernel
theorem dX12_takeBack_220 : decode cX12_takeBack 220 = .ok (.aload_n 0, 1) := by decide +kernel
theorem dX12_takeBack_221 : decode cX12_takeBack 221 = .ok (.getfield 80, 3) := by decide +kernel
theorem dX12_takeBack_224 : decode cX12_takeBack 224 = .ok (.iload_n 1, 1) := by decide +kernel
theorem dX12_takeBack_225 : decode cX12_takeBack 225 = .ok (.aload_n 0, 1) := by decide +kernel
theorem dX12_takeBack_226 : decode cX12_takeBack 226 = .ok (.getfield 172, 3) := by decide +kernel
theorem dX12_takeBack_229 : decode cX12_takeBack 229 = .ok (.iconst 5, 1) := by decide +kernel
theorem dX12_takeBack_230 : decode cX12_takeBack 230 = .ok (.iload_n 1, 1) := by decide +kernel
theorem dX12_takeBack_231 : decode cX12_takeBack 231 = .ok (.imul, 1) := by decide +kernel
theorem dX12_takeBack_232 : decode cX12_takeBack 232 = .ok (.iconst 3, 1) := by decide +kernel
theorem dX12_takeBack_233 : decode cX12_takeBack 233 = .ok (.iadd, 1) := by decide +kernel
theorem dX12_takeBack_234 : decode cX12_takeBack 234 = .ok (.iaload, 1) := by decide +kernel
theorem dX12_takeBack_235 : decode cX12_takeBack 235 = .ok (.iastore, 1) := by decide +kernel
theorem dX12_takeBack_236 : decode cX12_takeBack 236 = .ok (.iinc 1 1, 3) := by decide +kernel
theorem dX12_takeBack_239 : decode cX12_takeBack 239 = .ok (.goto (-85), 3) := by decide +kernel
theorem dX12_takeBack_242 : decode cX12_takeBack 242 = .ok (.return_, 1) := by decide +kernel
theorem dX12_choice_0 : decode cX12_choice 0 = .ok (.iload_n 1, 1) := by decide +kernel
theorem dX12_choice_1 : decode cX12_choice 1 = .ok (.istore 4, 2) := by decide +kernel
theorem dX12_choice_3 : decode cX12_choice 3 = .ok (.iload_n 2, 1) := by decide +kernel
theorem dX12_choice_4 : decode cX12_choice 4 = .ok (.iconst 1, 1) := by decide +kernel
theorem dX12_choice_5 : decode cX12_choice 5 = .ok (.isub, 1) := by decide +kernel
theorem dX12_choice_6 : decode cX12_choice 6 = .ok (.istore 5, 2) := by decide +kernel
theorem dX12_choice_8 : decode cX12_choice 8 = .ok (.iload 5, 2) := by decide +kernel
theorem dX12_choice_10 : decode cX12_choice 10 = .ok (.iload_n 3, 1) := by decide +kernel
theorem dX12_choice_11 : decode cX12_choice 11 = .ok (.if_icmp .le 16, 3) := by decide +kernel
theorem dX12_choice_14 : decode cX12_choice 14 = .ok (.iload 4, 2) := by decide +kernel
theorem dX12_choice_16 : decode cX12_choice 16 = .ok (.bipush 7, 2) := by decide +kernel
theorem dX12_choice_18 : decode cX12_choice 18 = .ok (.idiv, 1) := by decide +kernel
theorem dX12_choice_19 : decode cX12_choice 19 = .ok (.istore 4, 2) := by decide +kernel
theorem dX12_choice_21 : decode cX12_choice 21 = .ok (.iinc 5 (-1), 3) := by decide +kernel
theorem dX12_choice_24 : decode cX12_choice 24 = .ok (.goto (-16), 3) := by decide +kernel
theorem dX12_choice_27 : decode cX12_choice 27 = .ok (.iload 4, 2) := by decide +kernel
theorem dX12_choice_29 : decode cX12_choice 29 = .ok (.bipush 7, 2) := by decide +kernel
theorem dX12_choice_31 : decode cX12_choice 31 = .ok (.irem, 1) := by decide +kernel
theorem dX12_choice_32 : decode cX12_choice 32 = .ok (.ireturn, 1) := by decide +kernel
theorem dX12_lookAhead_0 : decode cX12_lookAhead 0 = .ok (.iconst 1, 1) := by decide +kernel
theorem dX12_lookAhead_1 : decode cX12_lookAhead 1 = .ok (.istore_n 3, 1) := by decide +kernel
theorem dX12_lookAhead_2 : decode cX12_lookAhead 2 = .ok (.iconst 0, 1) := by decide +kernel
theorem dX12_lookAhead_3 : decode cX12_lookAhead 3 = .ok (.istore 4, 2) := by decide +kernel
theorem dX12_lookAhead_5 : decode cX12_lookAhead 5 = .ok (.iload 4, 2) := by decide +kernel
theorem dX12_lookAhead_7 : decode cX12_lookAhead 7 = .ok (.iload_n 1, 1) := by decide +kernel
theorem dX12_lookAhead_8 : decode cX12_lookAhead 8 = .ok (.if_icmp .ge 14, 3) := by decide +kernel
theorem dX12_lookAhead_11 : decode cX12_lookAhead 11 = .ok (.iload_n 3, 1) := by decide +kernel
theorem dX12_lookAhead_12 : decode cX12_lookAhead 12 = .ok (.bipush 7, 2) := by decide +kernel
theorem dX12_lookAhead_14 : decode cX12_lookAhead 14 = .ok (.imul, 1) := by decide +kernel
theorem dX12_lookAhead_15 : decode cX12_lookAhead 15 = .ok (.istore_n 3, 1) := by decide +kernel
theorem dX12_lookAhead_16 : decode cX12_lookAhead 16 = .ok (.iinc 4 1, 3) := by decide +kernel
theorem dX12_lookAhead_19 : decode cX12_lookAhead 19 = .ok (.goto (-14), 3) := by decide +kernel
theorem dX12_lookAhead_22 : decode cX12_lookAhead 22 = .ok (.aload_n 0, 1) := by decide +kernel
theorem dX12_lookAhead_23 : decode cX12_lookAhead 23 = .ok (.invokevirtual 364, 3) := by decide +kernel
theorem dX12_lookAhead_26 : decode cX12_lookAhead 26 = .ok (.iconst 0, 1) := by decide +kernel
theorem dX12_lookAhead_27 : decode cX12_lookAhead 27 = .ok (.istore 4, 2) := by decide +kernel
theorem dX12_lookAhead_29 : decode cX12_lookAhead 29 = .ok (.iload 4, 2) := by decide +kernel
theorem dX12_lookAhead_31 : decode cX12_lookAhead 31 = .ok (.iload_n 3, 1) := by decide +kernel
theorem dX12_lookAhead_32 : decode cX12_lookAhead 32 = .ok (.if_icmp .ge 136, 3) := by decide +kernel
theorem dX12_lookAhead_35 : decode cX12_lookAhead 35 = .ok (.aload_n 0, 1) := by decide +kernel
theorem dX12_lookAhead_36 : decode cX12_lookAhead 36 = .ok (.iconst 0, 1) := by decide +kernel
theorem dX12_lookAhead_37 : decode cX12_lookAhead 37 = .ok (.putfield 148, 3) := by decide +kernel
theorem dX12_lookAhead_40 : decode cX12_lookAhead 40 = .ok (.aload_n 0, 1) := by decide +kernel
theorem dX12_lookAhead_41 : decode cX12_lookAhead 41 = .ok (.iconst 0, 1) := by decide +kernel
theorem dX12_lookAhead_42 : decode cX12_lookAhead 42 = .ok (.putfield 151, 3) := by decide +kernel
theorem dX12_lookAhead_45 : decode cX12_lookAhead 45 = .ok (.iconst 0, 1) := by decide +kernel
theorem dX12_lookAhead_46 : decode cX12_lookAhead 46 = .ok (.istore 5, 2) := by decide +kernel
theorem dX12_lookAhead_48 : decode cX12_lookAhead 48 = .ok (.iload 5, 2) := by decide +kernel
theorem dX12_lookAhead_50 : decode cX12_lookAhead 50 = .ok (.iload_n 1, 1) := by decide +kernel
theorem dX12_lookAhead_51 : decode cX12_lookAhead 51 = .ok (.if_icmp .ge 43, 3) := by decide +kernel
theorem dX12_lookAhead_54 : decode cX12_lookAhead 54 = .ok (.aload_n 0, 1) := by decide +kernel
theorem dX12_lookAhead_55 : decode cX12_lookAhead 55 = .ok (.iload 4, 2) := by decide +kernel
theorem dX12_lookAhead_57 : decode cX12_lookAhead 57 = .ok (.iload_n 1, 1) := by decide +kernel
theorem dX12_lookAhead_58 : decode cX12_lookAhead 58 = .ok (.iload 5, 2) := by decide +kernel
theorem dX12_lookAhead_60 : decode cX12_lookAhead 60 = .ok (.invokevirtual 367, 3) := by decide +kernel
theorem dX12_lookAhead_63 : decode cX12_lookAhead 63 = .ok (.istore 6, 2) := by decide +kernel
theorem dX12_lookAhead_65 : decode cX12_lookAhead 65 = .ok (.iload 6, 2) := by decide +kernel
theorem dX12_lookAhead_67 : decode cX12_lookAhead 67 = .ok (.bipush 6, 2) := by decide +kernel
theorem dX12_lookAhead_69 : decode cX12_lookAhead 69 = .ok (.if_icmp .ge 12, 3) := by decide +kernel
theorem dX12_lookAhead_72 : decode cX12_lookAhead 72 = .ok (.aload_n 0, 1) := by decide +kernel
theorem dX12_lookAhead_73 : decode cX12_lookAhead 73 = .ok (.iload 6, 2) := by decide +kernel
theorem dX12_lookAhead_75 : decode cX12_lookAhead 75 = .ok (.invokevirtual 370, 3) := by decide +kernel
theorem dX12_lookAhead_78 : decode cX12_lookAhead 78 = .ok (.goto 4, 3) := by decide +kernel
theorem dX12_lookAhead_81 : decode cX12_lookAhead 81 = .ok (.iconst (-1), 1) := by decide +kernel
theorem dX12_lookAhead_82 : decode cX12_lookAhead 82 = .ok (.istore 7, 2) := by decide +kernel
theorem dX12_lookAhead_84 : decode cX12_lookAhead 84 = .ok (.aload_n 0, 1) := by decide +kernel
theorem dX12_lookAhead_85 : decode cX12_lookAhead 85 = .ok (.invokevirtual 358, 3) := by decide +kernel
theorem dX12_lookAhead_88 : decode cX12_lookAhead 88 = .ok (.iinc 5 1, 3) := by decide +kernel
theorem dX12_lookAhead_91 : decode cX12_lookAhead 91 = .ok (.goto (-43), 3) := by decide +kernel
theorem dX12_lookAhead_94 : decode cX12_lookAhead 94 = .ok (.iconst 0, 1) := by decide +kernel
theorem dX12_lookAhead_95 : decode cX12_lookAhead 95 = .ok (.istore 5, 2) := by decide +kernel
theorem dX12_lookAhead_97 : decode cX12_lookAhead 97 = .ok (.iload 5, 2) := by decide +kernel
theorem dX12_lookAhead_99 : decode cX12_lookAhead 99 = .ok (.iload_n 2, 1) := by decide +kernel
theorem dX12_lookAhead_100 : decode cX12_lookAhead 100 = .ok (.if_icmp .ge 13, 3) := by decide +kernel
theorem dX12_lookAhead_103 : decode cX12_lookAhead 103 = .ok (.aload_n 0, 1) := by decide +kernel
theorem dX12_lookAhead_104 : decode cX12_lookAhead 104 = .ok (.invokevirtual 358, 3) := by decide +kernel
theorem dX12_lookAhead_107 : decode cX12_lookAhead 107 = .ok (.iinc 5 1, 3) := by decide +kernel
theorem dX12_lookAhead_110 : decode cX12_lookAhead 110 = .ok (.goto (-13), 3) := by decide +kernel
theorem dX12_lookAhead_113 : decode cX12_lookAhead 113 = .ok (.aload_n 0, 1) := by decide +kernel
theorem dX12_lookAhead_114 : decode cX12_lookAhead 114 = .ok (.getfield 148, 3) := by decide +kernel
theorem dX12_lookAhead_117 : decode cX12_lookAhead 117 = .ok (.aload_n 0, 1) := by decide +kernel
theorem dX12_lookAhead_118 : decode cX12_lookAhead 118 = .ok (.getfield 19, 3) := by decide +kernel
theorem dX12_lookAhead_121 : decode cX12_lookAhead 121 = .ok (.aload_n 0, 1) := by decide +kernel
theorem dX12_lookAhead_122 : decode cX12_lookAhead 122 = .ok (.getfield 151, 3) := by decide +kernel
theorem dX12_lookAhead_125 : decode cX12_lookAhead 125 = .ok (.imul, 1) := by decide +kernel
theorem dX12_lookAhead_126 : decode cX12_lookAhead 126 = .ok (.isub, 1) := by decide +kernel
theorem dX12_lookAhead_127 : decode cX12_lookAhead 127 = .ok (.istore 5, 2) := by decide +kernel
theorem dX12_lookAhead_129 : decode cX12_lookAhead 129 = .ok (.aload_n 0, 1) := by decide +kernel
theorem dX12_lookAhead_130 : decode cX12_lookAhead 130 = .ok (.invokevirtual 373, 3) := by decide +kernel
theorem dX12_lookAhead_133 : decode cX12_lookAhead 133 = .ok (.iload 4, 2) := by decide +kernel
theorem dX12_lookAhead_135 : decode cX12_lookAhead 135 = .ok (.ifCond .le 15, 3) := by decide +kernel
theorem dX12_lookAhead_138 : decode cX12_lookAhead 138 = .ok (.iload 5, 2) := by decide +kernel
theorem dX12_lookAhead_140 : decode cX12_lookAhead 140 = .ok (.aload_n 0, 1) := by decide +kernel
theorem dX12_lookAhead_141 : decode cX12_lookAhead 141 = .ok (.getfield 193, 3) := by decide +kernel
theorem dX12_lookAhead_144 : decode cX12_lookAhead 144 = .ok (.if_icmp .gt 6, 3) := by decide +kernel
theorem dX12_lookAhead_147 : decode cX12_lookAhead 147 = .ok (.goto 15, 3) := by decide +kernel
theorem dX12_lookAhead_150 : decode cX12_lookAhead 150 = .ok (.aload_n 0, 1) := by decide +kernel
theorem dX12_lookAhead_151 : decode cX12_lookAhead 151 = .ok (.iload 5, 2) := by decide +kernel
theorem dX12_lookAhead_153 : decode cX12_lookAhead 153 = .ok (.putfield 193, 3) := by decide +kernel
theorem dX12_lookAhead_156 : decode cX12_lookAhead 156 = .ok (.aload_n 0, 1) := by decide +kernel
theorem dX12_lookAhead_157 : decode cX12_lookAhead 157 = .ok (.iload 4, 2) := by decide +kernel
theorem dX12_lookAhead_159 : decode cX12_lookAhead 159 = .ok (.putfield 190, 3) := by decide +kernel
theorem dX12_lookAhead_162 : decode cX12_lookAhead 162 = .ok (.iinc 4 1, 3) := by decide +kernel
theorem dX12_lookAhead_165 : decode cX12_lookAhead 165 = .ok (.goto (-136), 3) := by decide +kernel
theorem dX12_lookAhead_168 : decode cX12_lookAhead 168 = .ok (.return_, 1) := by decide +kernel
theorem dX12_isAhead_0 : decode cX12_isAhead 0 = .ok (.aload_n 0, 1) := by decide +kernel
theorem dX12_isAhead_1 : decode cX12_isAhead 1 = .ok (.iload_n 1, 1) := by decide +kernel
theorem dX12_isAhead_2 : decode cX12_isAhead 2 = .ok (.iconst 1, 1) := by decide +kernel
theorem dX12_isAhead_3 : decode cX12_isAhead 3 = .ok (.iconst 3, 1) := by decide +kernel
theorem dX12_isAhead_4 : decode cX12_isAhead 4 = .ok (.invokevirtual 217, 3) := by decide +kernel
theorem dX12_isAhead_7 : decode cX12_isAhead 7 = .ok (.ifCond .eq 18, 3) := by decide +kernel
theorem dX12_isAhead_10 : decode cX12_isAhead 10 = .ok (.aload_n 0, 1) := by decide +kernel
theorem dX12_isAhead_11 : decode cX12_isAhead 11 = .ok (.iload_n 2, 1) := by decide +kernel
theorem dX12_isAhead_12 : decode cX12_isAhead 12 = .ok (.iconst 0, 1) := by decide +kernel
theorem dX12_isAhead_13 : decode cX12_isAhead 13 = .ok (.bipush 24, 2) := by decide +kernel
theorem dX12_isAhead_15 : decode cX12_isAhead 15 = .ok (.invokevirtual 217, 3) := by decide +kernel
theorem dX12_isAhead_18 : decode cX12_isAhead 18 = .ok (.ifCond .eq 7, 3) := by decide +kernel
theorem dX12_isAhead_21 : decode cX12_isAhead 21 = .ok (.iconst 1, 1) := by decide +kernel
theorem dX12_isAhead_22 : decode cX12_isAhead 22 = .ok (.goto 4, 3) := by decide +kernel
theorem dX12_isAhead_25 : decode cX12_isAhead 25 = .ok (.iconst 0, 1) := by decide +kernel
theorem dX12_isAhead_26 : decode cX12_isAhead 26 = .ok (.ireturn, 1) := by decide +kernel
theorem dX12_waste_0 : decode cX12_waste 0 = .ok (.aload_n 0, 1) := by decide +kernel
theorem dX12_waste_1 : decode cX12_waste 1 = .ok (.iload_n 1, 1) := by decide +kernel
theorem dX12_waste_2 : decode cX12_waste 2 = .ok (.iconst 0, 1) := by decide +kernel
theorem dX12_waste_3 : decode cX12_waste 3 = .ok (.sipush 999, 3) := by decide +kernel
theorem dX12_waste_6 : decode cX12_waste 6 = .ok (.invokevirtual 217, 3) := by decide +kernel
theorem dX12_waste_9 : decode cX12_waste 9 = .ok (.ifCond .ne 6, 3) := by decide +kernel
theorem dX12_waste_12 : decode cX12_waste 12 = .ok (.bipush (-2), 2) := by decide +kernel
theorem dX12_waste_14 : decode cX12_waste 14 = .ok (.ireturn, 1) := by decide +kernel
theorem dX12_waste_15 : decode cX12_waste 15 = .ok (.aload_n 0, 1) := by decide +kernel
theorem dX12_waste_16 : decode cX12_waste 16 = .ok (.getfield 19, 3) := by decide +kernel
theorem dX12_waste_19 : decode cX12_waste 19 = .ok (.istore_n 2, 1) := by decide +kernel
theorem dX12_waste_20 : decode cX12_waste 20 = .ok (.aload_n 0, 1) := by decide +kernel
theorem dX12_waste_21 : decode cX12_waste 21 = .ok (.iload_n 1, 1) := by decide +kernel
theorem dX12_waste_22 : decode cX12_waste 22 = .ok (.putfield 19, 3) := by decide +kernel
theorem dX12_waste_25 : decode cX12_waste 25 = .ok (.iload_n 2, 1) := by decide +kernel
theorem dX12_waste_26 : decode cX12_waste 26 = .ok (.ireturn, 1) := by decide +kernel
theorem dX12_ahead__0 : decode cX12_ahead_ 0 = .ok (.aload_n 0, 1) := by decide +kernel
theorem dX12_ahead__1 : decode cX12_ahead_ 1 = .ok (.iload_n 1, 1) := by decide +kernel
theorem dX12_ahead__2 : decode cX12_ahead_ 2 = .ok (.iload_n 2, 1) := by decide +kernel
theorem dX12_ahead__3 : decode cX12_ahead_ 3 = .ok (.invokevirtual 376, 3) := by decide +kernel
theorem dX12_ahead__6 : decode cX12_ahead_ 6 = .ok (.ifCond .eq 15, 3) := by decide +kernel
theorem dX12_ahead__9 : decode cX12_ahead_ 9 = .ok (.aload_n 0, 1) := by decide +kernel
theorem dX12_ahead__10 : decode cX12_ahead_ 10 = .ok (.iload_n 3, 1) := by decide +kernel
theorem dX12_ahead__11 : decode cX12_ahead_ 11 = .ok (.iconst 0, 1) := by decide +kernel
theorem dX12_ahead__12 : decode cX12_ahead_ 12 = .ok (.iload_n 1, 1) := by decide +kernel
theorem dX12_ahead__13 : decode cX12_ahead_ 13 = .ok (.iconst 1, 1) := by decide +kernel
theorem dX12_ahead__14 : decode cX12_ahead_ 14 = .ok (.isub, 1) := by decide +kernel
theorem dX12_ahead__15 : decode cX12_ahead_ 15 = .ok (.invokevirtual 217, 3) := by decide +kernel
theorem dX12_ahead__18 : decode cX12_ahead_ 18 = .ok (.ifCond .ne 6, 3) := by decide +kernel
theorem dX12_ahead__21 : decode cX12_ahead_ 21 = .ok (.bipush (-2), 2) := by decide +kernel
theorem dX12_ahead__23 : decode cX12_ahead_ 23 = .ok (.ireturn, 1) := by decide +kernel
theorem dX12_ahead__24 : decode cX12_ahead_ 24 = .ok (.aload_n 0, 1) := by decide +kernel
theorem dX12_ahead__25 : decode cX12_ahead_ 25 = .ok (.iload_n 1, 1) := by decide +kernel
theorem dX12_ahead__26 : decode cX12_ahead_ 26 = .ok (.iload_n 2, 1) := by decide +kernel
theorem dX12_ahead__27 : decode cX12_ahead_ 27 = .ok (.invokevirtual 380, 3) := by decide +kernel
theorem dX12_ahead__30 : decode cX12_ahead_ 30 = .ok (.aload_n 0, 1) := by decide +kernel
theorem dX12_ahead__31 : decode cX12_ahead_ 31 = .ok (.aload_n 0, 1) := by decide +kernel
theorem dX12_ahead__32 : decode cX12_ahead_ 32 = .ok (.getfield 190, 3) := by decide +kernel
theorem dX12_ahead__35 : decode cX12_ahead_ 35 = .ok (.iload_n 1, 1) := by decide +kernel
theorem dX12_ahead__36 : decode cX12_ahead_ 36 = .ok (.iload_n 3, 1) := by decide +kernel
theorem dX12_ahead__37 : decode cX12_ahead_ 37 = .ok (.invokevirtual 367, 3) := by decide +kernel
theorem dX12_ahead__40 : decode cX12_ahead_ 40 = .ok (.ireturn, 1) := by decide +kernel
theorem dX12_worth_0 : decode cX12_worth 0 = .ok (.aload_n 0, 1) := by decide +kernel
theorem dX12_worth_1 : decode cX12_worth 1 = .ok (.iload_n 1, 1) := by decide +kernel
theorem dX12_worth_2 : decode cX12_worth 2 = .ok (.iload_n 2, 1) := by decide +kernel
theorem dX12_worth_3 : decode cX12_worth 3 = .ok (.invokevirtual 376, 3) := by decide +kernel
theorem dX12_worth_6 : decode cX12_worth 6 = .ok (.ifCond .ne 7, 3) := by decide +kernel
theorem dX12_worth_9 : decode cX12_worth 9 = .ok (.ldc2_w 258, 3) := by decide +kernel
theorem dX12_worth_12 : decode cX12_worth 12 = .ok (.lreturn, 1) := by decide +kernel
theorem dX12_worth_13 : decode cX12_worth 13 = .ok (.aload_n 0, 1) := by decide +kernel
theorem dX12_worth_14 : decode cX12_worth 14 = .ok (.iload_n 1, 1) := by decide +kernel
theorem dX12_worth_15 : decode cX12_worth 15 = .ok (.iload_n 2, 1) := by decide +kernel
theorem dX12_worth_16 : decode cX12_worth 16 = .ok (.invokevirtual 380, 3) := by decide +kernel
theorem dX12_worth_19 : decode cX12_worth 19 = .ok (.aload_n 0, 1) := by decide +kernel
theorem dX12_worth_20 : decode cX12_worth 20 = .ok (.getfield 193, 3) := by decide +kernel
theorem dX12_worth_23 : decode cX12_worth 23 = .ok (.i2l, 1) := by decide +kernel
theorem dX12_worth_24 : decode cX12_worth 24 = .ok (.lreturn, 1) := by decide +kernel
theorem dX12_piece_0 : decode cX12_piece 0 = .ok (.aload_n 0, 1) := by decide +kernel
theorem dX12_piece_1 : decode cX12_piece 1 = .ok (.iload_n 1, 1) := by decide +kernel
theorem dX12_piece_2 : decode cX12_piece 2 = .ok (.iconst 1, 1) := by decide +kernel
theorem dX12_piece_3 : decode cX12_piece 3 = .ok (.bipush 6, 2) := by decide +kernel
theorem dX12_piece_5 : decode cX12_piece 5 = .ok (.invokevirtual 217, 3) := by decide +kernel
theorem dX12_piece_8 : decode cX12_piece 8 = .ok (.ifCond .eq 15, 3) := by decide +kernel
theorem dX12_piece_11 : decode cX12_piece 11 = .ok (.aload_n 0, 1) := by decide +kernel
theorem dX12_piece_12 : decode cX12_piece 12 = .ok (.iload_n 2, 1) := by decide +kernel
theorem dX12_piece_13 : decode cX12_piece 13 = .ok (.iconst 0, 1) := by decide +kernel
theorem dX12_piece_14 : decode cX12_piece 14 = .ok (.sipush 999, 3) := by decide +kernel
theorem dX12_piece_17 : decode cX12_piece 17 = .ok (.invokevirtual 217, 3) := by decide +kernel
theorem dX12_piece_20 : decode cX12_piece 20 = .ok (.ifCond .ne 6, 3) := by decide +kernel
theorem dX12_piece_23 : decode cX12_piece 23 = .ok (.bipush (-2), 2) := by decide +kernel
theorem dX12_piece_25 : decode cX12_piece 25 = .ok (.ireturn, 1) := by decide +kernel
theorem dX12_piece_26 : decode cX12_piece 26 = .ok (.aload_n 0, 1) := by decide +kernel
theorem dX12_piece_27 : decode cX12_piece 27 = .ok (.getfield 196, 3) := by decide +kernel
theorem dX12_piece_30 : decode cX12_piece 30 = .ok (.iload_n 1, 1) := by decide +kernel
theorem dX12_piece_31 : decode cX12_piece 31 = .ok (.iaload, 1) := by decide +kernel
theorem dX12_piece_32 : decode cX12_piece 32 = .ok (.istore_n 3, 1) := by decide +kernel
theorem dX12_piece_33 : decode cX12_piece 33 = .ok (.aload_n 0, 1) := by decide +kernel
theorem dX12_piece_34 : decode cX12_piece 34 = .ok (.getfield 196, 3) := by decide +kernel
theorem dX12_piece_37 : decode cX12_piece 37 = .ok (.iload_n 1, 1) := by decide +kernel
theorem dX12_piece_38 : decode cX12_piece 38 = .ok (.iload_n 2, 1) := by decide +kernel
theorem dX12_piece_39 : decode cX12_piece 39 = .ok (.iastore, 1) := by decide +kernel
theorem dX12_piece_40 : decode cX12_piece 40 = .ok (.iload_n 3, 1) := by decide +kernel
theorem dX12_piece_41 : decode cX12_piece 41 = .ok (.ireturn, 1) := by decide +kernel
theorem dX12_partOf_0 : decode cX12_partOf 0 = .ok (.iload_n 3, 1) := by decide +kernel
theorem dX12_partOf_1 : decode cX12_partOf 1 = .ok (.ifCond .ne 8, 3) := by decide +kernel
theorem dX12_partOf_4 : decode cX12_partOf 4 = .ok (.iload_n 2, 1) := by decide +kernel
theorem dX12_partOf_5 : decode cX12_partOf 5 = .ok (.iload_n 1, 1) := by decide +kernel
theorem dX12_partOf_6 : decode cX12_partOf 6 = .ok (.if_icmp .ne 14, 3) := by decide +kernel
theorem dX12_partOf_9 : decode cX12_partOf 9 = .ok (.aload_n 0, 1) := by decide +kernel
theorem dX12_partOf_10 : decode cX12_partOf 10 = .ok (.getfield 196, 3) := by decide +kernel
theorem dX12_partOf_13 : decode cX12_partOf 13 = .ok (.iload_n 2, 1) := by decide +kernel
theorem dX12_partOf_14 : decode cX12_partOf 14 = .ok (.iaload, 1) := by decide +kernel
theorem dX12_partOf_15 : decode cX12_partOf 15 = .ok (.iconst 2, 1) := by decide +kernel
theorem dX12_partOf_16 : decode cX12_partOf 16 = .ok (.idiv, 1) := by decide +kernel
theorem dX12_partOf_17 : decode cX12_partOf 17 = .ok (.goto 9, 3) := by decide +kernel
theorem dX12_partOf_20 : decode cX12_partOf 20 = .ok (.aload_n 0, 1) := by decide +kernel
theorem dX12_partOf_21 : decode cX12_partOf 21 = .ok (.getfield 196, 3) := by decide +kernel
theorem dX12_partOf_24 : decode cX12_partOf 24 = .ok (.iload_n 2, 1) := by decide +kernel
theorem dX12_partOf_25 : decode cX12_partOf 25 = .ok (.iaload, 1) := by decide +kernel
theorem dX12_partOf_26 : decode cX12_partOf 26 = .ok (.istore 4, 2) := by decide +kernel
theorem dX12_partOf_28 : decode cX12_partOf 28 = .ok (.iload 4, 2) := by decide +kernel
theorem dX12_partOf_30 : decode cX12_partOf 30 = .ok (.iload_n 2, 1) := by decide +kernel
theorem dX12_partOf_31 : decode cX12_partOf 31 = .ok (.iload_n 1, 1) := by decide +kernel
theorem dX12_partOf_32 : decode cX12_partOf 32 = .ok (.if_icmp .ne 7, 3) := by decide +kernel
theorem dX12_partOf_35 : decode cX12_partOf 35 = .ok (.iconst 0, 1) := by decide +kernel
theorem dX12_partOf_36 : decode cX12_partOf 36 = .ok (.goto 11, 3) := by decide +kernel
theorem dX12_partOf_39 : decode cX12_partOf 39 = .ok (.aload_n 0, 1) := by decide +kernel
theorem dX12_partOf_40 : decode cX12_partOf 40 = .ok (.getfield 199, 3) := by decide +kernel
theorem dX12_partOf_43 : decode cX12_partOf 43 = .ok (.iload_n 1, 1) := by decide +kernel
theorem dX12_partOf_44 : decode cX12_partOf 44 = .ok (.iload_n 2, 1) := by decide +kernel
theorem dX12_partOf_45 : decode cX12_partOf 45 = .ok (.isub, 1) := by decide +kernel
theorem dX12_partOf_46 : decode cX12_partOf 46 = .ok (.iaload, 1) := by decide +kernel
theorem dX12_partOf_47 : decode cX12_partOf 47 = .ok (.iadd, 1) := by decide +kernel
theorem dX12_partOf_48 : decode cX12_partOf 48 = .ok (.ireturn, 1) := by decide +kernel
theorem dX12_most_0 : decode cX12_most 0 = .ok (.iconst 0, 1) := by decide +kernel
theorem dX12_most_1 : decode cX12_most 1 = .ok (.istore_n 3, 1) := by decide +kernel
theorem dX12_most_2 : decode cX12_most 2 = .ok (.iconst 1, 1) := by decide +kernel
theorem dX12_most_3 : decode cX12_most 3 = .ok (.istore 4, 2) := by decide +kernel
theorem dX12_most_5 : decode cX12_most 5 = .ok (.iload 4, 2) := by decide +kernel
theorem dX12_most_7 : decode cX12_most 7 = .ok (.bipush 7, 2) := by decide +kernel
theorem dX12_most_9 : decode cX12_most 9 = .ok (.if_icmp .ge 46, 3) := by decide +kernel
theorem dX12_most_12 : decode cX12_most 12 = .ok (.iload 4, 2) := by decide +kernel
theorem dX12_most_14 : decode cX12_most 14 = .ok (.iload_n 1, 1) := by decide +kernel
theorem dX12_most_15 : decode cX12_most 15 = .ok (.if_icmp .gt 40, 3) := by decide +kernel
theorem dX12_most_18 : decode cX12_most 18 = .ok (.iload 4, 2) := by decide +kernel
theorem dX12_most_20 : decode cX12_most 20 = .ok (.iconst 1, 1) := by decide +kernel
theorem dX12_most_21 : decode cX12_most 21 = .ok (.if_icmp .eq 15, 3) := by decide +kernel
theorem dX12_most_24 : decode cX12_most 24 = .ok (.aload_n 0, 1) := by decide +kernel
theorem dX12_most_25 : decode cX12_most 25 = .ok (.iload_n 1, 1) := by decide +kernel
theorem dX12_most_26 : decode cX12_most 26 = .ok (.iload 4, 2) := by decide +kernel
theorem dX12_most_28 : decode cX12_most 28 = .ok (.iload_n 2, 1) := by decide +kernel
theorem dX12_most_29 : decode cX12_most 29 = .ok (.invokevirtual 383, 3) := by decide +kernel
theorem dX12_most_32 : decode cX12_most 32 = .ok (.iload_n 3, 1) := by decide +kernel
theorem dX12_most_33 : decode cX12_most 33 = .ok (.if_icmp .le 14, 3) := by decide +kernel
theorem dX12_most_36 : decode cX12_most 36 = .ok (.aload_n 0, 1) := by decide +kernel
theorem dX12_most_37 : decode cX12_most 37 = .ok (.iload_n 1, 1) := by decide +kernel
theorem dX12_most_38 : decode cX12_most 38 = .ok (.iload 4, 2) := by decide +kernel
theorem dX12_most_40 : decode cX12_most 40 = .ok (.iload_n 2, 1) := by decide +kernel
theorem dX12_most_41 : decode cX12_most 41 = .ok (.invokevirtual 383, 3) := by decide +kernel
theorem dX12_most_44 : decode cX12_most 44 = .ok (.goto 4, 3) := by decide +kernel
theorem dX12_most_47 : decode cX12_most 47 = .ok (.iload_n 3, 1) := by decide +kernel
theorem dX12_most_48 : decode cX12_most 48 = .ok (.istore_n 3, 1) := by decide +kernel
theorem dX12_most_49 : decode cX12_most 49 = .ok (.iinc 4 1, 3) := by decide +kernel
theorem dX12_most_52 : decode cX12_most 52 = .ok (.goto (-47), 3) := by decide +kernel
theorem dX12_most_55 : decode cX12_most 55 = .ok (.iload_n 3, 1) := by decide +kernel
theorem dX12_most_56 : decode cX12_most 56 = .ok (.ireturn, 1) := by decide +kernel
theorem dX12_cut_0 : decode cX12_cut 0 = .ok (.aload_n 0, 1) := by decide +kernel
theorem dX12_cut_1 : decode cX12_cut 1 = .ok (.iload_n 1, 1) := by decide +kernel
theorem dX12_cut_2 : decode cX12_cut 2 = .ok (.iconst 1, 1) := by decide +kernel
theorem dX12_cut_3 : decode cX12_cut 3 = .ok (.bipush 30, 2) := by decide +kernel
theorem dX12_cut_5 : decode cX12_cut 5 = .ok (.invokevirtual 217, 3) := by decide +kernel
theorem dX12_cut_8 : decode cX12_cut 8 = .ok (.ifCond .ne 6, 3) := by decide +kernel
theorem dX12_cut_11 : decode cX12_cut 11 = .ok (.bipush (-2), 2) := by decide +kernel
theorem dX12_cut_13 : decode cX12_cut 13 = .ok (.ireturn, 1) := by decide +kernel
theorem dX12_cut_14 : decode cX12_cut 14 = .ok (.iconst 1, 1) := by decide +kernel
theorem dX12_cut_15 : decode cX12_cut 15 = .ok (.istore_n 3, 1) := by decide +kernel
theorem dX12_cut_16 : decode cX12_cut 16 = .ok (.iload_n 3, 1) := by decide +kernel
theorem dX12_cut_17 : decode cX12_cut 17 = .ok (.iload_n 1, 1) := by decide +kernel
theorem dX12_cut_18 : decode cX12_cut 18 = .ok (.if_icmp .gt 21, 3) := by decide +kernel
theorem dX12_cut_21 : decode cX12_cut 21 = .ok (.aload_n 0, 1) := by decide +kernel
theorem dX12_cut_22 : decode cX12_cut 22 = .ok (.getfield 199, 3) := by decide +kernel
theorem dX12_cut_25 : decode cX12_cut 25 = .ok (.iload_n 3, 1) := by decide +kernel
theorem dX12_cut_26 : decode cX12_cut 26 = .ok (.aload_n 0, 1) := by decide +kernel
theorem dX12_cut_27 : decode cX12_cut 27 = .ok (.iload_n 3, 1) := by decide +kernel
theorem dX12_cut_28 : decode cX12_cut 28 = .ok (.iconst 0, 1) := by decide +kernel
theorem dX12_cut_29 : decode cX12_cut 29 = .ok (.invokevirtual 387, 3) := by decide +kernel
theorem dX12_cut_32 : decode cX12_cut 32 = .ok (.iastore, 1) := by decide +kernel
theorem dX12_cut_33 : decode cX12_cut 33 = .ok (.iinc 3 1, 3) := by decide +kernel
theorem dX12_cut_36 : decode cX12_cut 36 = .ok (.goto (-20), 3) := by decide +kernel
theorem dX12_cut_39 : decode cX12_cut 39 = .ok (.iload_n 2, 1) := by decide +kernel
theorem dX12_cut_40 : decode cX12_cut 40 = .ok (.iconst (-1), 1) := by decide +kernel
theorem dX12_cut_41 : decode cX12_cut 41 = .ok (.if_icmp .ne 10, 3) := by decide +kernel
theorem dX12_cut_44 : decode cX12_cut 44 = .ok (.aload_n 0, 1) := by decide +kernel
theorem dX12_cut_45 : decode cX12_cut 45 = .ok (.iload_n 1, 1) := by decide +kernel
theorem dX12_cut_46 : decode cX12_cut 46 = .ok (.iconst 1, 1) := by decide +kernel
theorem dX12_cut_47 : decode cX12_cut 47 = .ok (.invokevirtual 387, 3) := by decide +kernel
theorem dX12_cut_50 : decode cX12_cut 50 = .ok (.ireturn, 1) := by decide +kernel
theorem dX12_cut_51 : decode cX12_cut 51 = .ok (.iload_n 1, 1) := by decide +kernel
theorem dX12_cut_52 : decode cX12_cut 52 = .ok (.istore_n 3, 1) := by decide +kernel
theorem dX12_cut_53 : decode cX12_cut 53 = .ok (.iconst 0, 1) := by decide +kernel
theorem dX12_cut_54 : decode cX12_cut 54 = .ok (.istore 4, 2) := by decide +kernel
theorem dX12_cut_56 : decode cX12_cut 56 = .ok (.iload_n 3, 1) := by decide +kernel
theorem dX12_cut_57 : decode cX12_cut 57 = .ok (.ifCond .le 71, 3) := by decide +kernel
theorem dX12_cut_60 : decode cX12_cut 60 = .ok (.iload_n 2, 1) := by decide +kernel
theorem dX12_cut_61 : decode cX12_cut 61 = .ok (.ifCond .lt 67, 3) := by decide +kernel
theorem dX12_cut_64 : decode cX12_cut 64 = .ok (.iconst 1, 1) := by decide +kernel
theorem dX12_cut_65 : decode cX12_cut 65 = .ok (.istore 5, 2) := by decide +kernel
theorem dX12_cut_67 : decode cX12_cut 67 = .ok (.aload_n 0, 1) := by decide +kernel
theorem dX12_cut_68 : decode cX12_cut 68 = .ok (.iload_n 3, 1) := by decide +kernel
theorem dX12_cut_69 : decode cX12_cut 69 = .ok (.iload 5, 2) := by decide +kernel
theorem dX12_cut_71 : decode cX12_cut 71 = .ok (.iload 4, 2) := by decide +kernel
theorem dX12_cut_73 : decode cX12_cut 73 = .ok (.ifCond .ne 7, 3) := by decide +kernel
theorem dX12_cut_76 : decode cX12_cut 76 = .ok (.iconst 1, 1) := by decide +kernel
theorem dX12_cut_77 : decode cX12_cut 77 = .ok (.goto 4, 3) := by decide +kernel
theorem dX12_cut_80 : decode cX12_cut 80 = .ok (.iconst 0, 1) := by decide +kernel
theorem dX12_cut_81 : decode cX12_cut 81 = .ok (.invokevirtual 383, 3) := by decide +kernel
theorem dX12_cut_84 : decode cX12_cut 84 = .ok (.aload_n 0, 1) := by decide +kernel
theorem dX12_cut_85 : decode cX12_cut 85 = .ok (.iload_n 3, 1) := by decide +kernel
theorem dX12_cut_86 : decode cX12_cut 86 = .ok (.iload 4, 2) := by decide +kernel
theorem dX12_cut_88 : decode cX12_cut 88 = .ok (.ifCond .ne 7, 3) := by decide +kernel
theorem dX12_cut_91 : decode cX12_cut 91 = .ok (.iconst 1, 1) := by decide +kernel
theorem dX12_cut_92 : decode cX12_cut 92 = .ok (.goto 4, 3) := by decide +kernel
theorem dX12_cut_95 : decode cX12_cut 95 = .ok (.iconst 0, 1) := by decide +kernel
theorem dX12_cut_96 : decode cX12_cut 96 = .ok (.invokevirtual 387, 3) := by decide +kernel
theorem dX12_cut_99 : decode cX12_cut 99 = .ok (.if_icmp .eq 9, 3) := by decide +kernel
theorem dX12_cut_102 : decode cX12_cut 102 = .ok (.iinc 5 1, 3) := by decide +kernel
theorem dX12_cut_105 : decode cX12_cut 105 = .ok (.goto (-38), 3) := by decide +kernel
theorem dX12_cut_108 : decode cX12_cut 108 = .ok (.iload 4, 2) := by decide +kernel
theorem dX12_cut_110 : decode cX12_cut 110 = .ok (.iload_n 2, 1) := by decide +kernel
theorem dX12_cut_111 : decode cX12_cut 111 = .ok (.if_icmp .ne 6, 3) := by decide +kernel
theorem dX12_cut_114 : decode cX12_cut 114 = .ok (.iload 5, 2) := by decide +kernel
theorem dX12_cut_116 : decode cX12_cut 116 = .ok (.ireturn, 1) := by decide +kernel
theorem dX12_cut_117 : decode cX12_cut 117 = .ok (.iload_n 3, 1) := by decide +kernel
theorem dX12_cut_118 : decode cX12_cut 118 = .ok (.iload 5, 2) := by decide +kernel
theorem dX12_cut_120 : decode cX12_cut 120 = .ok (.isub, 1) := by decide +kernel
theorem dX12_cut_121 : decode cX12_cut 121 = .ok (.istore_n 3, 1) := by decide +kernel
theorem dX12_cut_122 : decode cX12_cut 122 = .ok (.iinc 4 1, 3) := by decide +kernel
theorem dX12_cut_125 : decode cX12_cut 125 = .ok (.goto (-69), 3) := by decide +kernel
theorem dX12_cut_128 : decode cX12_cut 128 = .ok (.iconst (-1), 1) := by decide +kernel
theorem dX12_cut_129 : decode cX12_cut 129 = .ok (.ireturn, 1) := by decide +kernel
theorem dX12_sitting_0 : decode cX12_sitting 0 = .ok (.iconst 0, 1) := by decide +kernel
theorem dX12_sitting_1 : decode cX12_sitting 1 = .ok (.istore_n 1, 1) := by decide +kernel
theorem dX12_sitting_2 : decode cX12_sitting 2 = .ok (.iconst 0, 1) := by decide +kernel
theorem dX12_sitting_3 : decode cX12_sitting 3 = .ok (.istore_n 2, 1) := by decide +kernel
theorem dX12_sitting_4 : decode cX12_sitting 4 = .ok (.iload_n 2, 1) := by decide +kernel
theorem dX12_sitting_5 : decode cX12_sitting 5 = .ok (.aload_n 0, 1) := by decide +kernel
theorem dX12_sitting_6 : decode cX12_sitting 6 = .ok (.getfield 62, 3) := by decide +kernel
theorem dX12_sitting_9 : decode cX12_sitting 9 = .ok (.if_icmp .ge 26, 3) := by decide +kernel
theorem dX12_sitting_12 : decode cX12_sitting 12 = .ok (.iload_n 1, 1) := by decide +kernel
theorem dX12_sitting_13 : decode cX12_sitting 13 = .ok (.aload_n 0, 1) := by decide +kernel
theorem dX12_sitting_14 : decode cX12_sitting 14 = .ok (.getfield 86, 3) := by decide +kernel
theorem dX12_sitting_17 : decode cX12_sitting 17 = .ok (.iload_n 2, 1) := by decide +kernel
theorem dX12_sitting_18 : decode cX12_sitting 18 = .ok (.baload, 1) := by decide +kernel
theorem dX12_sitting_19 : decode cX12_sitting 19 = .ok (.ifCond .eq 7, 3) := by decide +kernel
theorem dX12_sitting_22 : decode cX12_sitting 22 = .ok (.iconst 1, 1) := by decide +kernel
theorem dX12_sitting_23 : decode cX12_sitting 23 = .ok (.goto 4, 3) := by decide +kernel
theorem dX12_sitting_26 : decode cX12_sitting 26 = .ok (.iconst 0, 1) := by decide +kernel
theorem dX12_sitting_27 : decode cX12_sitting 27 = .ok (.iadd, 1) := by decide +kernel
theorem dX12_sitting_28 : decode cX12_sitting 28 = .ok (.istore_n 1, 1) := by decide +kernel
theorem dX12_sitting_29 : decode cX12_sitting 29 = .ok (.iinc 2 1, 3) := by decide +kernel
theorem dX12_sitting_32 : decode cX12_sitting 32 = .ok (.goto (-28), 3) := by decide +kernel
theorem dX12_sitting_35 : decode cX12_sitting 35 = .ok (.iload_n 1, 1) := by decide +kernel
theorem dX12_sitting_36 : decode cX12_sitting 36 = .ok (.ireturn, 1) := by decide +kernel
theorem dX12_trays_0 : decode cX12_trays 0 = .ok (.iconst 0, 1) := by decide +kernel
theorem dX12_trays_1 : decode cX12_trays 1 = .ok (.istore_n 1, 1) := by decide +kernel
theorem dX12_trays_2 : decode cX12_trays 2 = .ok (.iconst 0, 1) := by decide +kernel
theorem dX12_trays_3 : decode cX12_trays 3 = .ok (.istore_n 2, 1) := by decide +kernel
theorem dX12_trays_4 : decode cX12_trays 4 = .ok (.iload_n 2, 1) := by decide +kernel
theorem dX12_trays_5 : decode cX12_trays 5 = .ok (.aload_n 0, 1) := by decide +kernel
theorem dX12_trays_6 : decode cX12_trays 6 = .ok (.getfield 211, 3) := by decide +kernel
theorem dX12_trays_9 : decode cX12_trays 9 = .ok (.if_icmp .ge 26, 3) := by decide +kernel
theorem dX12_trays_12 : decode cX12_trays 12 = .ok (.iload_n 1, 1) := by decide +kernel
theorem dX12_trays_13 : decode cX12_trays 13 = .ok (.aload_n 0, 1) := by decide +kernel
theorem dX12_trays_14 : decode cX12_trays 14 = .ok (.getfield 50, 3) := by decide +kernel
theorem dX12_trays_17 : decode cX12_trays 17 = .ok (.iload_n 2, 1) := by decide +kernel
theorem dX12_trays_18 : decode cX12_trays 18 = .ok (.iaload, 1) := by decide +kernel
theorem dX12_trays_19 : decode cX12_trays 19 = .ok (.ifCond .ge 7, 3) := by decide +kernel
theorem dX12_trays_22 : decode cX12_trays 22 = .ok (.iconst 0, 1) := by decide +kernel
theorem dX12_trays_23 : decode cX12_trays 23 = .ok (.goto 4, 3) := by decide +kernel
theorem dX12_trays_26 : decode cX12_trays 26 = .ok (.iconst 1, 1) := by decide +kernel
theorem dX12_trays_27 : decode cX12_trays 27 = .ok (.iadd, 1) := by decide +kernel
theorem dX12_trays_28 : decode cX12_trays 28 = .ok (.istore_n 1, 1) := by decide +kernel
theorem dX12_trays_29 : decode cX12_trays 29 = .ok (.iinc 2 1, 3) := by decide +kernel
theorem dX12_trays_32 : decode cX12_trays 32 = .ok (.goto (-28), 3) := by decide +kernel
theorem dX12_trays_35 : decode cX12_trays 35 = .ok (.iload_n 1, 1) := by decide +kernel
theorem dX12_trays_36 : decode cX12_trays 36 = .ok (.ireturn, 1) := by decide +kernel
theorem dX12_count_0 : decode cX12_count 0 = .ok (.iload_n 1, 1) := by decide +kernel
theorem dX12_count_1 : decode cX12_count 1 = .ok (.tableswitch 114 0 10 #[59, 64, 69, 74, 79, 84, 89, 94, 99, 104, 109], 59) := by decide +kernel
theorem dX12_count_60 : decode cX12_count 60 = .ok (.aload_n 0, 1) := by decide +kernel
theorem dX12_count_61 : decode cX12_count 61 = .ok (.getfield 211, 3) := by decide +kernel
theorem dX12_count_64 : decode cX12_count 64 = .ok (.ireturn, 1) := by decide +kernel
theorem dX12_count_65 : decode cX12_count 65 = .ok (.aload_n 0, 1) := by decide +kernel
theorem dX12_count_66 : decode cX12_count 66 = .ok (.getfield 7, 3) := by decide +kernel
theorem dX12_count_69 : decode cX12_count 69 = .ok (.ireturn, 1) := by decide +kernel
theorem dX12_count_70 : decode cX12_count 70 = .ok (.aload_n 0, 1) := by decide +kernel
theorem dX12_count_71 : decode cX12_count 71 = .ok (.getfield 62, 3) := by decide +kernel
theorem dX12_count_74 : decode cX12_count 74 = .ok (.ireturn, 1) := by decide +kernel
theorem dX12_count_75 : decode cX12_count 75 = .ok (.aload_n 0, 1) := by decide +kernel
theorem dX12_count_76 : decode cX12_count 76 = .ok (.invokevirtual 390, 3) := by decide +kernel
theorem dX12_count_79 : decode cX12_count 79 = .ok (.ireturn, 1) := by decide +kernel
theorem dX12_count_80 : decode cX12_count 80 = .ok (.aload_n 0, 1) := by decide +kernel
theorem dX12_count_81 : decode cX12_count 81 = .ok (.getfield 13, 3) := by decide +kernel
theorem dX12_count_84 : decode cX12_count 84 = .ok (.ireturn, 1) := by decide +kernel
theorem dX12_count_85 : decode cX12_count 85 = .ok (.aload_n 0, 1) := by decide +kernel
theorem dX12_count_86 : decode cX12_count 86 = .ok (.invokevirtual 393, 3) := by decide +kernel
theorem dX12_count_89 : decode cX12_count 89 = .ok (.ireturn, 1) := by decide +kernel
theorem dX12_count_90 : decode cX12_count 90 = .ok (.aload_n 0, 1) := by decide +kernel
theorem dX12_count_91 : decode cX12_count 91 = .ok (.getfield 59, 3) := by decide +kernel
theorem dX12_count_94 : decode cX12_count 94 = .ok (.ireturn, 1) := by decide +kernel
theorem dX12_count_95 : decode cX12_count 95 = .ok (.aload_n 0, 1) := by decide +kernel
theorem dX12_count_96 : decode cX12_count 96 = .ok (.getfield 16, 3) := by decide +kernel
theorem dX12_count_99 : decode cX12_count 99 = .ok (.ireturn, 1) := by decide +kernel
theorem dX12_count_100 : decode cX12_count 100 = .ok (.aload_n 0, 1) := by decide +kernel
theorem dX12_count_101 : decode cX12_count 101 = .ok (.getfield 97, 3) := by decide +kernel
theorem dX12_count_104 : decode cX12_count 104 = .ok (.ireturn, 1) := by decide +kernel
theorem dX12_count_105 : decode cX12_count 105 = .ok (.aload_n 0, 1) := by decide +kernel
theorem dX12_count_106 : decode cX12_count 106 = .ok (.getfield 94, 3) := by decide +kernel
theorem dX12_count_109 : decode cX12_count 109 = .ok (.ireturn, 1) := by decide +kernel
theorem dX12_count_110 : decode cX12_count 110 = .ok (.aload_n 0, 1) := by decide +kernel
theorem dX12_count_111 : decode cX12_count 111 = .ok (.getfield 100, 3) := by decide +kernel
theorem dX12_count_114 : decode cX12_count 114 = .ok (.ireturn, 1) := by decide +kernel
theorem dX12_count_115 : decode cX12_count 115 = .ok (.bipush (-2), 2) := by decide +kernel
theorem dX12_count_117 : decode cX12_count 117 = .ok (.ireturn, 1) := by decide +kernel
theorem dX12_isSheet_0 : decode cX12_isSheet 0 = .ok (.aload_n 0, 1) := by decide +kernel
theorem dX12_isSheet_1 : decode cX12_isSheet 1 = .ok (.iload_n 1, 1) := by decide +kernel
theorem dX12_isSheet_2 : decode cX12_isSheet 2 = .ok (.iconst 0, 1) := by decide +kernel
theorem dX12_isSheet_3 : decode cX12_isSheet 3 = .ok (.iconst 3, 1) := by decide +kernel
theorem dX12_isSheet_4 : decode cX12_isSheet 4 = .ok (.invokevirtual 217, 3) := by decide +kernel
theorem dX12_isSheet_7 : decode cX12_isSheet 7 = .ok (.ireturn, 1) := by decide +kernel
theorem dX12_sheet_0 : decode cX12_sheet 0 = .ok (.aload_n 0, 1) := by decide +kernel
theorem dX12_sheet_1 : decode cX12_sheet 1 = .ok (.iload_n 1, 1) := by decide +kernel
theorem dX12_sheet_2 : decode cX12_sheet 2 = .ok (.invokevirtual 396, 3) := by decide +kernel
theorem dX12_sheet_5 : decode cX12_sheet 5 = .ok (.ifCond .eq 23, 3) := by decide +kernel
theorem dX12_sheet_8 : decode cX12_sheet 8 = .ok (.aload_n 0, 1) := by decide +kernel
theorem dX12_sheet_9 : decode cX12_sheet 9 = .ok (.iload_n 2, 1) := by decide +kernel
theorem dX12_sheet_10 : decode cX12_sheet 10 = .ok (.iconst (-1), 1) := by decide +kernel
theorem dX12_sheet_11 : decode cX12_sheet 11 = .ok (.iconst 2, 1) := by decide +kernel
theorem dX12_sheet_12 : decode cX12_sheet 12 = .ok (.invokevirtual 217, 3) := by decide +kernel
theorem dX12_sheet_15 : decode cX12_sheet 15 = .ok (.ifCond .eq 13, 3) := by decide +kernel
theorem dX12_sheet_18 : decode cX12_sheet 18 = .ok (.iload_n 2, 1) := by decide +kernel
theorem dX12_sheet_19 : decode cX12_sheet 19 = .ok (.ifCond .lt 12, 3) := by decide +kernel
theorem dX12_sheet_22 : decode cX12_sheet 22 = .ok (.iload_n 3, 1) := by decide +kernel
theorem dX12_sheet_23 : decode cX12_sheet 23 = .ok (.bipush 40, 2) := by decide +kernel
theorem dX12_sheet_25 : decode cX12_sheet 25 = .ok (.if_icmp .le 6, 3) := by decide +kernel
theorem dX12_sheet_28 : decode cX12_sheet 28 = .ok (.bipush (-2), 2) := by decide +kernel
theorem dX12_sheet_30 : decode cX12_sheet 30 = .ok (.ireturn, 1) := by decide +kernel
theorem dX12_sheet_31 : decode cX12_sheet 31 = .ok (.iload_n 2, 1) := by decide +kernel
theorem dX12_sheet_32 : decode cX12_sheet 32 = .ok (.ifCond .lt 10, 3) := by decide +kernel
theorem dX12_sheet_35 : decode cX12_sheet 35 = .ok (.iload_n 3, 1) := by decide +kernel
theorem dX12_sheet_36 : decode cX12_sheet 36 = .ok (.ifCond .ge 6, 3) := by decide +kernel
theorem dX12_sheet_39 : decode cX12_sheet 39 = .ok (.bipush (-14), 2) := by decide +kernel
theorem dX12_sheet_41 : decode cX12_sheet 41 = .ok (.ireturn, 1) := by decide +kernel
theorem dX12_sheet_42 : decode cX12_sheet 42 = .ok (.aload_n 0, 1) := by decide +kernel
theorem dX12_sheet_43 : decode cX12_sheet 43 = .ok (.getfield 202, 3) := by decide +kernel
theorem dX12_sheet_46 : decode cX12_sheet 46 = .ok (.iload_n 1, 1) := by decide +kernel
theorem dX12_sheet_47 : decode cX12_sheet 47 = .ok (.iload_n 2, 1) := by decide +kernel
theorem dX12_sheet_48 : decode cX12_sheet 48 = .ok (.iastore, 1) := by decide +kernel
theorem dX12_sheet_49 : decode cX12_sheet 49 = .ok (.aload_n 0, 1) := by decide +kernel
theorem dX12_sheet_50 : decode cX12_sheet 50 = .ok (.getfield 205, 3) := by decide +kernel
theorem dX12_sheet_53 : decode cX12_sheet 53 = .ok (.iload_n 1, 1) := by decide +kernel
theorem dX12_sheet_54 : decode cX12_sheet 54 = .ok (.iload_n 2, 1) := by decide +kernel
theorem dX12_sheet_55 : decode cX12_sheet 55 = .ok (.ifCond .ge 7, 3) := by decide +kernel
theorem dX12_sheet_58 : decode cX12_sheet 58 = .ok (.iconst 0, 1) := by decide +kernel
theorem dX12_sheet_59 : decode cX12_sheet 59 = .ok (.goto 4, 3) := by decide +kernel
theorem dX12_sheet_62 : decode cX12_sheet 62 = .ok (.iload_n 3, 1) := by decide +kernel
theorem dX12_sheet_63 : decode cX12_sheet 63 = .ok (.iastore, 1) := by decide +kernel
theorem dX12_sheet_64 : decode cX12_sheet 64 = .ok (.iconst 0, 1) := by decide +kernel
theorem dX12_sheet_65 : decode cX12_sheet 65 = .ok (.istore 4, 2) := by decide +kernel
theorem dX12_sheet_67 : decode cX12_sheet 67 = .ok (.iload 4, 2) := by decide +kernel
theorem dX12_sheet_69 : decode cX12_sheet 69 = .ok (.bipush 40, 2) := by decide +kernel
theorem dX12_sheet_71 : decode cX12_sheet 71 = .ok (.if_icmp .ge 22, 3) := by decide +kernel
theorem dX12_sheet_74 : decode cX12_sheet 74 = .ok (.aload_n 0, 1) := by decide +kernel
theorem dX12_sheet_75 : decode cX12_sheet 75 = .ok (.getfield 208, 3) := by decide +kernel
theorem dX12_sheet_78 : decode cX12_sheet 78 = .ok (.bipush 40, 2) := by decide +kernel
theorem dX12_sheet_80 : decode cX12_sheet 80 = .ok (.iload_n 1, 1) := by decide +kernel
theorem dX12_sheet_81 : decode cX12_sheet 81 = .ok (.imul, 1) := by decide +kernel
theorem dX12_sheet_82 : decode cX12_sheet 82 = .ok (.iload 4, 2) := by decide +kernel
theorem dX12_sheet_84 : decode cX12_sheet 84 = .ok (.iadd, 1) := by decide +kernel
theorem dX12_sheet_85 : decode cX12_sheet 85 = .ok (.iconst 0, 1) := by decide +kernel
theorem dX12_sheet_86 : decode cX12_sheet 86 = .ok (.iastore, 1) := by decide +kernel
theorem dX12_sheet_87 : decode cX12_sheet 87 = .ok (.iinc 4 1, 3) := by decide +kernel
theorem dX12_sheet_90 : decode cX12_sheet 90 = .ok (.goto (-23), 3) := by decide +kernel
theorem dX12_sheet_93 : decode cX12_sheet 93 = .ok (.iconst 1, 1) := by decide +kernel
theorem dX12_sheet_94 : decode cX12_sheet 94 = .ok (.ireturn, 1) := by decide +kernel
theorem dX12_cell_0 : decode cX12_cell 0 = .ok (.aload_n 0, 1) := by decide +kernel
theorem dX12_cell_1 : decode cX12_cell 1 = .ok (.iload_n 1, 1) := by decide +kernel
theorem dX12_cell_2 : decode cX12_cell 2 = .ok (.invokevirtual 396, 3) := by decide +kernel
theorem dX12_cell_5 : decode cX12_cell 5 = .ok (.ifCond .ne 6, 3) := by decide +kernel
theorem dX12_cell_8 : decode cX12_cell 8 = .ok (.bipush (-2), 2) := by decide +kernel
theorem dX12_cell_10 : decode cX12_cell 10 = .ok (.ireturn, 1) := by decide +kernel
theorem dX12_cell_11 : decode cX12_cell 11 = .ok (.aload_n 0, 1) := by decide +kernel
theorem dX12_cell_12 : decode cX12_cell 12 = .ok (.getfield 202, 3) := by decide +kernel
theorem dX12_cell_15 : decode cX12_cell 15 = .ok (.iload_n 1, 1) := by decide +kernel
theorem dX12_cell_16 : decode cX12_cell 16 = .ok (.iaload, 1) := by decide +kernel
theorem dX12_cell_17 : decode cX12_cell 17 = .ok (.ifCond .ge 6, 3) := by decide +kernel
theorem dX12_cell_20 : decode cX12_cell 20 = .ok (.bipush (-11), 2) := by decide +kernel
theorem dX12_cell_22 : decode cX12_cell 22 = .ok (.ireturn, 1) := by decide +kernel
theorem dX12_cell_23 : decode cX12_cell 23 = .ok (.aload_n 0, 1) := by decide +kernel
theorem dX12_cell_24 : decode cX12_cell 24 = .ok (.iload_n 2, 1) := by decide +kernel
theorem dX12_cell_25 : decode cX12_cell 25 = .ok (.iconst 0, 1) := by decide +kernel
theorem dX12_cell_26 : decode cX12_cell 26 = .ok (.aload_n 0, 1) := by decide +kernel
theorem dX12_cell_27 : decode cX12_cell 27 = .ok (.getfield 205, 3) := by decide +kernel
theorem dX12_cell_30 : decode cX12_cell 30 = .ok (.iload_n 1, 1) := by decide +kernel
theorem dX12_cell_31 : decode cX12_cell 31 = .ok (.iaload, 1) := by decide +kernel
theorem dX12_cell_32 : decode cX12_cell 32 = .ok (.iconst 1, 1) := by decide +kernel
theorem dX12_cell_33 : decode cX12_cell 33 = .ok (.isub, 1) := by decide +kernel
theorem dX12_cell_34 : decode cX12_cell 34 = .ok (.invokevirtual 217, 3) := by decide +kernel
theorem dX12_cell_37 : decode cX12_cell 37 = .ok (.ifCond .ne 6, 3) := by decide +kernel
theorem dX12_cell_40 : decode cX12_cell 40 = .ok (.bipush (-12), 2) := by decide +kernel
theorem dX12_cell_42 : decode cX12_cell 42 = .ok (.ireturn, 1) := by decide +kernel
theorem dX12_cell_43 : decode cX12_cell 43 = .ok (.aload_n 0, 1) := by decide +kernel
theorem dX12_cell_44 : decode cX12_cell 44 = .ok (.getfield 208, 3) := by decide +kernel
theorem dX12_cell_47 : decode cX12_cell 47 = .ok (.bipush 40, 2) := by decide +kernel
theorem dX12_cell_49 : decode cX12_cell 49 = .ok (.iload_n 1, 1) := by decide +kernel
theorem dX12_cell_50 : decode cX12_cell 50 = .ok (.imul, 1) := by decide +kernel
theorem dX12_cell_51 : decode cX12_cell 51 = .ok (.iload_n 2, 1) := by decide +kernel
theorem dX12_cell_52 : decode cX12_cell 52 = .ok (.iadd, 1) := by decide +kernel
theorem dX12_cell_53 : decode cX12_cell 53 = .ok (.aload_n 0, 1) := by decide +kernel
theorem dX12_cell_54 : decode cX12_cell 54 = .ok (.getfield 202, 3) := by decide +kernel
theorem dX12_cell_57 : decode cX12_cell 57 = .ok (.iload_n 1, 1) := by decide +kernel
theorem dX12_cell_58 : decode cX12_cell 58 = .ok (.iaload, 1) := by decide +kernel
theorem dX12_cell_59 : decode cX12_cell 59 = .ok (.ifCond .ne 8, 3) := by decide +kernel
theorem dX12_cell_62 : decode cX12_cell 62 = .ok (.iload_n 3, 1) := by decide +kernel
theorem dX12_cell_63 : decode cX12_cell 63 = .ok (.i2b, 1) := by decide +kernel
theorem dX12_cell_64 : decode cX12_cell 64 = .ok (.goto 19, 3) := by decide +kernel
theorem dX12_cell_67 : decode cX12_cell 67 = .ok (.aload_n 0, 1) := by decide +kernel
theorem dX12_cell_68 : decode cX12_cell 68 = .ok (.getfield 202, 3) := by decide +kernel
theorem dX12_cell_71 : decode cX12_cell 71 = .ok (.iload_n 1, 1) := by decide +kernel
theorem dX12_cell_72 : decode cX12_cell 72 = .ok (.iaload, 1) := by decide +kernel
theorem dX12_cell_73 : decode cX12_cell 73 = .ok (.iconst 1, 1) := by decide +kernel
theorem dX12_cell_74 : decode cX12_cell 74 = .ok (.if_icmp .ne 8, 3) := by decide +kernel
theorem dX12_cell_77 : decode cX12_cell 77 = .ok (.iload_n 3, 1) := by decide +kernel
theorem dX12_cell_78 : decode cX12_cell 78 = .ok (.i2s, 1) := by decide +kernel
theorem dX12_cell_79 : decode cX12_cell 79 = .ok (.goto 4, 3) := by decide +kernel
theorem dX12_cell_82 : decode cX12_cell 82 = .ok (.iload_n 3, 1) := by decide +kernel
theorem dX12_cell_83 : decode cX12_cell 83 = .ok (.iastore, 1) := by decide +kernel
theorem dX12_cell_84 : decode cX12_cell 84 = .ok (.iconst 1, 1) := by decide +kernel
theorem dX12_cell_85 : decode cX12_cell 85 = .ok (.ireturn, 1) := by decide +kernel
theorem dX12_lays_0 : decode cX12_lays 0 = .ok (.aload_n 0, 1) := by decide +kernel
theorem dX12_lays_1 : decode cX12_lays 1 = .ok (.iload_n 1, 1) := by decide +kernel
theorem dX12_lays_2 : decode cX12_lays 2 = .ok (.invokevirtual 396, 3) := by decide +kernel
theorem dX12_lays_5 : decode cX12_lays 5 = .ok (.ifCond .eq 25, 3) := by decide +kernel
theorem dX12_lays_8 : decode cX12_lays 8 = .ok (.aload_n 0, 1) := by decide +kernel
theorem dX12_lays_9 : decode cX12_lays 9 = .ok (.iload_n 2, 1) := by decide +kernel
theorem dX12_lays_10 : decode cX12_lays 10 = .ok (.iconst 0, 1) := by decide +kernel
theorem dX12_lays_11 : decode cX12_lays 11 = .ok (.iconst 2, 1) := by decide +kernel
theorem dX12_lays_12 : decode cX12_lays 12 = .ok (.invokevirtual 217, 3) := by decide +kernel
theorem dX12_lays_15 : decode cX12_lays 15 = .ok (.ifCond .eq 15, 3) := by decide +kernel
theorem dX12_lays_18 : decode cX12_lays 18 = .ok (.aload_n 0, 1) := by decide +kernel
theorem dX12_lays_19 : decode cX12_lays 19 = .ok (.iload 4, 2) := by decide +kernel
theorem dX12_lays_21 : decode cX12_lays 21 = .ok (.iconst 0, 1) := by decide +kernel
theorem dX12_lays_22 : decode cX12_lays 22 = .ok (.bipush 24, 2) := by decide +kernel
theorem dX12_lays_24 : decode cX12_lays 24 = .ok (.invokevirtual 217, 3) := by decide +kernel
theorem dX12_lays_27 : decode cX12_lays 27 = .ok (.ifCond .ne 6, 3) := by decide +kernel
theorem dX12_lays_30 : decode cX12_lays 30 = .ok (.bipush (-2), 2) := by decide +kernel
theorem dX12_lays_32 : decode cX12_lays 32 = .ok (.ireturn, 1) := by decide +kernel
theorem dX12_lays_33 : decode cX12_lays 33 = .ok (.aload_n 0, 1) := by decide +kernel
theorem dX12_lays_34 : decode cX12_lays 34 = .ok (.getfield 13, 3) := by decide +kernel
theorem dX12_lays_37 : decode cX12_lays 37 = .ok (.iload 4, 2) := by decide +kernel
theorem dX12_lays_39 : decode cX12_lays 39 = .ok (.iadd, 1) := by decide +kernel
theorem dX12_lays_40 : decode cX12_lays 40 = .ok (.sipush 9999, 3) := by decide +kernel
theorem dX12_lays_43 : decode cX12_lays 43 = .ok (.if_icmp .le 6, 3) := by decide +kernel
theorem dX12_lays_46 : decode cX12_lays 46 = .ok (.bipush (-4), 2) := by decide +kernel
theorem dX12_lays_48 : decode cX12_lays 48 = .ok (.ireturn, 1) := by decide +kernel
theorem dX12_lays_49 : decode cX12_lays 49 = .ok (.aload_n 0, 1) := by decide +kernel
theorem dX12_lays_50 : decode cX12_lays 50 = .ok (.getfield 202, 3) := by decide +kernel
theorem dX12_lays_53 : decode cX12_lays 53 = .ok (.iload_n 1, 1) := by decide +kernel
theorem dX12_lays_54 : decode cX12_lays 54 = .ok (.iaload, 1) := by decide +kernel
theorem dX12_lays_55 : decode cX12_lays 55 = .ok (.ifCond .lt 16, 3) := by decide +kernel
theorem dX12_lays_58 : decode cX12_lays 58 = .ok (.aload_n 0, 1) := by decide +kernel
theorem dX12_lays_59 : decode cX12_lays 59 = .ok (.getfield 202, 3) := by decide +kernel
theorem dX12_lays_62 : decode cX12_lays 62 = .ok (.iload_n 1, 1) := by decide +kernel
theorem dX12_lays_63 : decode cX12_lays 63 = .ok (.iaload, 1) := by decide +kernel
theorem dX12_lays_64 : decode cX12_lays 64 = .ok (.iload_n 2, 1) := by decide +kernel
theorem dX12_lays_65 : decode cX12_lays 65 = .ok (.if_icmp .eq 6, 3) := by decide +kernel
theorem dX12_lays_68 : decode cX12_lays 68 = .ok (.bipush (-13), 2) := by decide +kernel
theorem dX12_lays_70 : decode cX12_lays 70 = .ok (.ireturn, 1) := by decide +kernel
theorem dX12_lays_71 : decode cX12_lays 71 = .ok (.aload_n 0, 1) := by decide +kernel
theorem dX12_lays_72 : decode cX12_lays 72 = .ok (.getfield 202, 3) := by decide +kernel
theorem dX12_lays_75 : decode cX12_lays 75 = .ok (.iload_n 1, 1) := by decide +kernel
theorem dX12_lays_76 : decode cX12_lays 76 = .ok (.iaload, 1) := by decide +kernel
theorem dX12_lays_77 : decode cX12_lays 77 = .ok (.ifCond .ge 6, 3) := by decide +kernel
theorem dX12_lays_80 : decode cX12_lays 80 = .ok (.bipush (-11), 2) := by decide +kernel
theorem dX12_lays_82 : decode cX12_lays 82 = .ok (.ireturn, 1) := by decide +kernel
theorem dX12_lays_83 : decode cX12_lays 83 = .ok (.iconst 0, 1) := by decide +kernel
theorem dX12_lays_84 : decode cX12_lays 84 = .ok (.istore 5, 2) := by decide +kernel
theorem dX12_lays_86 : decode cX12_lays 86 = .ok (.iconst 0, 1) := by decide +kernel
theorem dX12_lays_87 : decode cX12_lays 87 = .ok (.istore 6, 2) := by decide +kernel
theorem dX12_lays_89 : decode cX12_lays 89 = .ok (.iload 6, 2) := by decide +kernel
theorem dX12_lays_91 : decode cX12_lays 91 = .ok (.iload 4, 2) := by decide +kernel
theorem dX12_lays_93 : decode cX12_lays 93 = .ok (.if_icmp .ge 66, 3) := by decide +kernel
theorem dX12_lays_96 : decode cX12_lays 96 = .ok (.iload_n 3, 1) := by decide +kernel
theorem dX12_lays_97 : decode cX12_lays 97 = .ok (.ifCond .lt 18, 3) := by decide +kernel
theorem dX12_lays_100 : decode cX12_lays 100 = .ok (.iload_n 3, 1) := by decide +kernel
theorem dX12_lays_101 : decode cX12_lays 101 = .ok (.aload_n 0, 1) := by decide +kernel
theorem dX12_lays_102 : decode cX12_lays 102 = .ok (.getfield 205, 3) := by decide +kernel
theorem dX12_lays_105 : decode cX12_lays 105 = .ok (.iload_n 1, 1) := by decide +kernel
theorem dX12_lays_106 : decode cX12_lays 106 = .ok (.iaload, 1) := by decide +kernel
theorem dX12_lays_107 : decode cX12_lays 107 = .ok (.iload 6, 2) := by decide +kernel
theorem dX12_lays_109 : decode cX12_lays 109 = .ok (.isub, 1) := by decide +kernel
theorem dX12_lays_110 : decode cX12_lays 110 = .ok (.iconst 1, 1) := by decide +kernel
theorem dX12_lays_111 : decode cX12_lays 111 = .ok (.isub, 1) := by decide +kernel
theorem dX12_lays_112 : decode cX12_lays 112 = .ok (.if_icmp .le 6, 3) := by decide +kernel
theorem dX12_lays_115 : decode cX12_lays 115 = .ok (.bipush (-12), 2) := by decide +kernel
theorem dX12_lays_117 : decode cX12_lays 117 = .ok (.ireturn, 1) := by decide +kernel
theorem dX12_lays_118 : decode cX12_lays 118 = .ok (.iload 5, 2) := by decide +kernel
theorem dX12_lays_120 : decode cX12_lays 120 = .ok (.aload_n 0, 1) := by decide +kernel
theorem dX12_lays_121 : decode cX12_lays 121 = .ok (.aload_n 0, 1) := by decide +kernel
theorem dX12_lays_122 : decode cX12_lays 122 = .ok (.getfield 208, 3) := by decide +kernel
theorem dX12_lays_125 : decode cX12_lays 125 = .ok (.bipush 40, 2) := by decide +kernel
theorem dX12_lays_127 : decode cX12_lays 127 = .ok (.iload_n 1, 1) := by decide +kernel
theorem dX12_lays_128 : decode cX12_lays 128 = .ok (.imul, 1) := by decide +kernel
theorem dX12_lays_129 : decode cX12_lays 129 = .ok (.iload_n 3, 1) := by decide +kernel
theorem dX12_lays_130 : decode cX12_lays 130 = .ok (.iadd, 1) := by decide +kernel
theorem dX12_lays_131 : decode cX12_lays 131 = .ok (.iload 6, 2) := by decide +kernel
theorem dX12_lays_133 : decode cX12_lays 133 = .ok (.iadd, 1) := by decide +kernel
theorem dX12_lays_134 : decode cX12_lays 134 = .ok (.iaload, 1) := by decide +kernel
theorem dX12_lays_135 : decode cX12_lays 135 = .ok (.invokevirtual 370, 3) := by decide +kernel
theorem dX12_lays_138 : decode cX12_lays 138 = .ok (.ifCond .lt 7, 3) := by decide +kernel
theorem dX12_lays_141 : decode cX12_lays 141 = .ok (.iconst 1, 1) := by decide +kernel
theorem dX12_lays_142 : decode cX12_lays 142 = .ok (.goto 4, 3) := by decide +kernel
theorem dX12_lays_145 : decode cX12_lays 145 = .ok (.iconst 0, 1) := by decide +kernel
theorem dX12_lays_146 : decode cX12_lays 146 = .ok (.iadd, 1) := by decide +kernel
theorem dX12_lays_147 : decode cX12_lays 147 = .ok (.istore 5, 2) := by decide +kernel
theorem dX12_lays_149 : decode cX12_lays 149 = .ok (.aload_n 0, 1) := by decide +kernel
theorem dX12_lays_150 : decode cX12_lays 150 = .ok (.invokevirtual 358, 3) := by decide +kernel
theorem dX12_lays_153 : decode cX12_lays 153 = .ok (.iinc 6 1, 3) := by decide +kernel
theorem dX12_lays_156 : decode cX12_lays 156 = .ok (.goto (-67), 3) := by decide +kernel
theorem dX12_lays_159 : decode cX12_lays 159 = .ok (.iload 5, 2) := by decide +kernel
theorem dX12_lays_161 : decode cX12_lays 161 = .ok (.ireturn, 1) := by decide +kernel
theorem dX12_isUnder_0 : decode cX12_isUnder 0 = .ok (.iload_n 2, 1) := by decide +kernel
theorem dX12_isUnder_1 : decode cX12_isUnder 1 = .ok (.ifCond .eq 28, 3) := by decide +kernel
theorem dX12_isUnder_4 : decode cX12_isUnder 4 = .ok (.iload_n 1, 1) := by decide +kernel
theorem dX12_isUnder_5 : decode cX12_isUnder 5 = .ok (.iload_n 2, 1) := by decide +kernel
theorem dX12_isUnder_6 : decode cX12_isUnder 6 = .ok (.if_icmp .eq 23, 3) := by decide +kernel
theorem dX12_isUnder_9 : decode cX12_isUnder 9 = .ok (.iload_n 2, 1) := by decide +kernel
theorem dX12_isUnder_10 : decode cX12_isUnder 10 = .ok (.iconst 1, 1) := by decide +kernel
theorem dX12_isUnder_11 : decode cX12_isUnder 11 = .ok (.if_icmp .ne 8, 3) := by decide +kernel
theorem dX12_isUnder_14 : decode cX12_isUnder 14 = .ok (.iload_n 1, 1) := by decide +kernel
theorem dX12_isUnder_15 : decode cX12_isUnder 15 = .ok (.iconst 5, 1) := by decide +kernel
theorem dX12_isUnder_16 : decode cX12_isUnder 16 = .ok (.if_icmp .eq 13, 3) := by decide +kernel
theorem dX12_isUnder_19 : decode cX12_isUnder 19 = .ok (.iload_n 2, 1) := by decide +kernel
theorem dX12_isUnder_20 : decode cX12_isUnder 20 = .ok (.iconst 2, 1) := by decide +kernel
theorem dX12_isUnder_21 : decode cX12_isUnder 21 = .ok (.if_icmp .ne 12, 3) := by decide +kernel
theorem dX12_isUnder_24 : decode cX12_isUnder 24 = .ok (.iload_n 1, 1) := by decide +kernel
theorem dX12_isUnder_25 : decode cX12_isUnder 25 = .ok (.iconst 4, 1) := by decide +kernel
theorem dX12_isUnder_26 : decode cX12_isUnder 26 = .ok (.if_icmp .ne 7, 3) := by decide +kernel
theorem dX12_isUnder_29 : decode cX12_isUnder 29 = .ok (.iconst 1, 1) := by decide +kernel
theorem dX12_isUnder_30 : decode cX12_isUnder 30 = .ok (.goto 4, 3) := by decide +kernel
theorem dX12_isUnder_33 : decode cX12_isUnder 33 = .ok (.iconst 0, 1) := by decide +kernel
theorem dX12_isUnder_34 : decode cX12_isUnder 34 = .ok (.ireturn, 1) := by decide +kernel
theorem dX12_taken_0 : decode cX12_taken 0 = .ok (.aload_n 0, 1) := by decide +kernel
theorem dX12_taken_1 : decode cX12_taken 1 = .ok (.iload_n 2, 1) := by decide +kernel
theorem dX12_taken_2 : decode cX12_taken 2 = .ok (.iconst 0, 1) := by decide +kernel
theorem dX12_taken_3 : decode cX12_taken 3 = .ok (.iconst 5, 1) := by decide +kernel
theorem dX12_taken_4 : decode cX12_taken 4 = .ok (.invokevirtual 217, 3) := by decide +kernel
theorem dX12_taken_7 : decode cX12_taken 7 = .ok (.ifCond .ne 6, 3) := by decide +kernel
theorem dX12_taken_10 : decode cX12_taken 10 = .ok (.bipush (-2), 2) := by decide +kernel
theorem dX12_taken_12 : decode cX12_taken 12 = .ok (.ireturn, 1) := by decide +kernel
theorem dX12_taken_13 : decode cX12_taken 13 = .ok (.aload_n 0, 1) := by decide +kernel
theorem dX12_taken_14 : decode cX12_taken 14 = .ok (.iload_n 1, 1) := by decide +kernel
theorem dX12_taken_15 : decode cX12_taken 15 = .ok (.invokevirtual 251, 3) := by decide +kernel
theorem dX12_taken_18 : decode cX12_taken 18 = .ok (.ifCond .ne 6, 3) := by decide +kernel
theorem dX12_taken_21 : decode cX12_taken 21 = .ok (.bipush (-11), 2) := by decide +kernel
theorem dX12_taken_23 : decode cX12_taken 23 = .ok (.ireturn, 1) := by decide +kernel
theorem dX12_taken_24 : decode cX12_taken 24 = .ok (.aload_n 0, 1) := by decide +kernel
theorem dX12_taken_25 : decode cX12_taken 25 = .ok (.aload_n 0, 1) := by decide +kernel
theorem dX12_taken_26 : decode cX12_taken 26 = .ok (.getfield 68, 3) := by decide +kernel
theorem dX12_taken_29 : decode cX12_taken 29 = .ok (.iload_n 1, 1) := by decide +kernel
theorem dX12_taken_30 : decode cX12_taken 30 = .ok (.iaload, 1) := by decide +kernel
theorem dX12_taken_31 : decode cX12_taken 31 = .ok (.iload_n 2, 1) := by decide +kernel
theorem dX12_taken_32 : decode cX12_taken 32 = .ok (.invokevirtual 399, 3) := by decide +kernel
theorem dX12_taken_35 : decode cX12_taken 35 = .ok (.ifCond .eq 12, 3) := by decide +kernel
theorem dX12_taken_38 : decode cX12_taken 38 = .ok (.aload_n 0, 1) := by decide +kernel
theorem dX12_taken_39 : decode cX12_taken 39 = .ok (.getfield 71, 3) := by decide +kernel
theorem dX12_taken_42 : decode cX12_taken 42 = .ok (.iload_n 1, 1) := by decide +kernel
theorem dX12_taken_43 : decode cX12_taken 43 = .ok (.iaload, 1) := by decide +kernel
theorem dX12_taken_44 : decode cX12_taken 44 = .ok (.goto 5, 3) := by decide +kernel
theorem dX12_taken_47 : decode cX12_taken 47 = .ok (.bipush (-13), 2) := by decide +kernel
theorem dX12_taken_49 : decode cX12_taken 49 = .ok (.ireturn, 1) := by decide +kernel
