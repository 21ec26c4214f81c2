theorem dX11_guestTold_69 : decode cX11_guestTold 69 = .ok (.ireturn, 1) := by decide +kernel
theorem dX11_guestTold_70 : decode cX11_guestTold 70 = .ok (.aload_n 3, 1) := by decide +kernel
theorem dX11_guestTold_71 : decode cX11_guestTold 71 = .ok (.getfield 168, 3) := by decide +kernel
theorem dX11_guestTold_74 : decode cX11_guestTold 74 = .ok (.iload_n 1, 1) := by decide +kernel
theorem dX11_guestTold_75 : decode cX11_guestTold 75 = .ok (.iaload, 1) := by decide +kernel
theorem dX11_guestTold_76 : decode cX11_guestTold 76 = .ok (.ireturn, 1) := by decide +kernel
theorem dX11_guestTold_77 : decode cX11_guestTold 77 = .ok (.aload_n 3, 1) := by decide +kernel
theorem dX11_guestTold_78 : decode cX11_guestTold 78 = .ok (.iload_n 1, 1) := by decide +kernel
theorem dX11_guestTold_79 : decode cX11_guestTold 79 = .ok (.invokevirtual 171, 3) := by decide +kernel
theorem dX11_guestTold_82 : decode cX11_guestTold 82 = .ok (.ireturn, 1) := by decide +kernel
theorem dX11_liking_0 : decode cX11_liking 0 = .ok (.aload_n 0, 1) := by decide +kernel
theorem dX11_liking_1 : decode cX11_liking 1 = .ok (.getfield 55, 3) := by decide +kernel
theorem dX11_liking_4 : decode cX11_liking 4 = .ok (.getfield 123, 3) := by decide +kernel
theorem dX11_liking_7 : decode cX11_liking 7 = .ok (.iload_n 1, 1) := by decide +kernel
theorem dX11_liking_8 : decode cX11_liking 8 = .ok (.invokevirtual 140, 3) := by decide +kernel
theorem dX11_liking_11 : decode cX11_liking 11 = .ok (.ifCond .eq 17, 3) := by decide +kernel
theorem dX11_liking_14 : decode cX11_liking 14 = .ok (.aload_n 0, 1) := by decide +kernel
theorem dX11_liking_15 : decode cX11_liking 15 = .ok (.getfield 55, 3) := by decide +kernel
theorem dX11_liking_18 : decode cX11_liking 18 = .ok (.getfield 91, 3) := by decide +kernel
theorem dX11_liking_21 : decode cX11_liking 21 = .ok (.iload_n 2, 1) := by decide +kernel
theorem dX11_liking_22 : decode cX11_liking 22 = .ok (.invokevirtual 95, 3) := by decide +kernel
theorem dX11_liking_25 : decode cX11_liking 25 = .ok (.ifCond .ne 7, 3) := by decide +kernel
theorem dX11_liking_28 : decode cX11_liking 28 = .ok (.ldc2_w 174, 3) := by decide +kernel
theorem dX11_liking_31 : decode cX11_liking 31 = .ok (.lreturn, 1) := by decide +kernel
theorem dX11_liking_32 : decode cX11_liking 32 = .ok (.aload_n 0, 1) := by decide +kernel
theorem dX11_liking_33 : decode cX11_liking 33 = .ok (.getfield 55, 3) := by decide +kernel
theorem dX11_liking_36 : decode cX11_liking 36 = .ok (.iload_n 1, 1) := by decide +kernel
theorem dX11_liking_37 : decode cX11_liking 37 = .ok (.iload_n 2, 1) := by decide +kernel
theorem dX11_liking_38 : decode cX11_liking 38 = .ok (.invokevirtual 176, 3) := by decide +kernel
theorem dX11_liking_41 : decode cX11_liking 41 = .ok (.i2l, 1) := by decide +kernel
theorem dX11_liking_42 : decode cX11_liking 42 = .ok (.lreturn, 1) := by decide +kernel
theorem dX11_pays_0 : decode cX11_pays 0 = .ok (.aload_n 0, 1) := by decide +kernel
theorem dX11_pays_1 : decode cX11_pays 1 = .ok (.getfield 55, 3) := by decide +kernel
theorem dX11_pays_4 : decode cX11_pays 4 = .ok (.getfield 123, 3) := by decide +kernel
theorem dX11_pays_7 : decode cX11_pays 7 = .ok (.astore_n 3, 1) := by decide +kernel
theorem dX11_pays_8 : decode cX11_pays 8 = .ok (.aload_n 3, 1) := by decide +kernel
theorem dX11_pays_9 : decode cX11_pays 9 = .ok (.iload_n 1, 1) := by decide +kernel
theorem dX11_pays_10 : decode cX11_pays 10 = .ok (.invokevirtual 135, 3) := by decide +kernel
theorem dX11_pays_13 : decode cX11_pays 13 = .ok (.ifCond .eq 21, 3) := by decide +kernel
theorem dX11_pays_16 : decode cX11_pays 16 = .ok (.iload_n 1, 1) := by decide +kernel
theorem dX11_pays_17 : decode cX11_pays 17 = .ok (.iload_n 2, 1) := by decide +kernel
theorem dX11_pays_18 : decode cX11_pays 18 = .ok (.if_icmp .eq 16, 3) := by decide +kernel
theorem dX11_pays_21 : decode cX11_pays 21 = .ok (.iload_n 2, 1) := by decide +kernel
theorem dX11_pays_22 : decode cX11_pays 22 = .ok (.iconst (-1), 1) := by decide +kernel
theorem dX11_pays_23 : decode cX11_pays 23 = .ok (.if_icmp .eq 14, 3) := by decide +kernel
theorem dX11_pays_26 : decode cX11_pays 26 = .ok (.aload_n 3, 1) := by decide +kernel
theorem dX11_pays_27 : decode cX11_pays 27 = .ok (.iload_n 2, 1) := by decide +kernel
theorem dX11_pays_28 : decode cX11_pays 28 = .ok (.invokevirtual 135, 3) := by decide +kernel
theorem dX11_pays_31 : decode cX11_pays 31 = .ok (.ifCond .ne 6, 3) := by decide +kernel
theorem dX11_pays_34 : decode cX11_pays 34 = .ok (.bipush (-2), 2) := by decide +kernel
theorem dX11_pays_36 : decode cX11_pays 36 = .ok (.ireturn, 1) := by decide +kernel
theorem dX11_pays_37 : decode cX11_pays 37 = .ok (.aload_n 3, 1) := by decide +kernel
theorem dX11_pays_38 : decode cX11_pays 38 = .ok (.iload_n 1, 1) := by decide +kernel
theorem dX11_pays_39 : decode cX11_pays 39 = .ok (.invokevirtual 140, 3) := by decide +kernel
theorem dX11_pays_42 : decode cX11_pays 42 = .ok (.ifCond .eq 16, 3) := by decide +kernel
theorem dX11_pays_45 : decode cX11_pays 45 = .ok (.iload_n 2, 1) := by decide +kernel
theorem dX11_pays_46 : decode cX11_pays 46 = .ok (.iconst (-1), 1) := by decide +kernel
theorem dX11_pays_47 : decode cX11_pays 47 = .ok (.if_icmp .eq 14, 3) := by decide +kernel
theorem dX11_pays_50 : decode cX11_pays 50 = .ok (.aload_n 3, 1) := by decide +kernel
theorem dX11_pays_51 : decode cX11_pays 51 = .ok (.iload_n 2, 1) := by decide +kernel
theorem dX11_pays_52 : decode cX11_pays 52 = .ok (.invokevirtual 140, 3) := by decide +kernel
theorem dX11_pays_55 : decode cX11_pays 55 = .ok (.ifCond .ne 6, 3) := by decide +kernel
theorem dX11_pays_58 : decode cX11_pays 58 = .ok (.bipush (-5), 2) := by decide +kernel
theorem dX11_pays_60 : decode cX11_pays 60 = .ok (.ireturn, 1) := by decide +kernel
theorem dX11_pays_61 : decode cX11_pays 61 = .ok (.aload_n 3, 1) := by decide +kernel
theorem dX11_pays_62 : decode cX11_pays 62 = .ok (.getfield 156, 3) := by decide +kernel
theorem dX11_pays_65 : decode cX11_pays 65 = .ok (.iload_n 1, 1) := by decide +kernel
theorem dX11_pays_66 : decode cX11_pays 66 = .ok (.iaload, 1) := by decide +kernel
theorem dX11_pays_67 : decode cX11_pays 67 = .ok (.istore 4, 2) := by decide +kernel
theorem dX11_pays_69 : decode cX11_pays 69 = .ok (.aload_n 3, 1) := by decide +kernel
theorem dX11_pays_70 : decode cX11_pays 70 = .ok (.getfield 156, 3) := by decide +kernel
theorem dX11_pays_73 : decode cX11_pays 73 = .ok (.iload_n 1, 1) := by decide +kernel
theorem dX11_pays_74 : decode cX11_pays 74 = .ok (.iload_n 2, 1) := by decide +kernel
theorem dX11_pays_75 : decode cX11_pays 75 = .ok (.iastore, 1) := by decide +kernel
theorem dX11_pays_76 : decode cX11_pays 76 = .ok (.iload 4, 2) := by decide +kernel
theorem dX11_pays_78 : decode cX11_pays 78 = .ok (.ireturn, 1) := by decide +kernel
theorem dX11_putBack_0 : decode cX11_putBack 0 = .ok (.aload_n 0, 1) := by decide +kernel
theorem dX11_putBack_1 : decode cX11_putBack 1 = .ok (.getfield 55, 3) := by decide +kernel
theorem dX11_putBack_4 : decode cX11_putBack 4 = .ok (.getfield 123, 3) := by decide +kernel
theorem dX11_putBack_7 : decode cX11_putBack 7 = .ok (.iload_n 1, 1) := by decide +kernel
theorem dX11_putBack_8 : decode cX11_putBack 8 = .ok (.invokevirtual 135, 3) := by decide +kernel
theorem dX11_putBack_11 : decode cX11_putBack 11 = .ok (.ifCond .eq 14, 3) := by decide +kernel
theorem dX11_putBack_14 : decode cX11_putBack 14 = .ok (.aload_n 0, 1) := by decide +kernel
theorem dX11_putBack_15 : decode cX11_putBack 15 = .ok (.getfield 55, 3) := by decide +kernel
theorem dX11_putBack_18 : decode cX11_putBack 18 = .ok (.iload_n 1, 1) := by decide +kernel
theorem dX11_putBack_19 : decode cX11_putBack 19 = .ok (.invokevirtual 179, 3) := by decide +kernel
theorem dX11_putBack_22 : decode cX11_putBack 22 = .ok (.goto 5, 3) := by decide +kernel
theorem dX11_putBack_25 : decode cX11_putBack 25 = .ok (.bipush (-2), 2) := by decide +kernel
theorem dX11_putBack_27 : decode cX11_putBack 27 = .ok (.ireturn, 1) := by decide +kernel
theorem dX11_feed_0 : decode cX11_feed 0 = .ok (.iload_n 1, 1) := by decide +kernel
theorem dX11_feed_1 : decode cX11_feed 1 = .ok (.iconst 1, 1) := by decide +kernel
theorem dX11_feed_2 : decode cX11_feed 2 = .ok (.bipush 8, 2) := by decide +kernel
theorem dX11_feed_4 : decode cX11_feed 4 = .ok (.invokestatic 73, 3) := by decide +kernel
theorem dX11_feed_7 : decode cX11_feed 7 = .ok (.ifCond .eq 15, 3) := by decide +kernel
theorem dX11_feed_10 : decode cX11_feed 10 = .ok (.aload_n 0, 1) := by decide +kernel
theorem dX11_feed_11 : decode cX11_feed 11 = .ok (.getfield 26, 3) := by decide +kernel
theorem dX11_feed_14 : decode cX11_feed 14 = .ok (.iload_n 1, 1) := by decide +kernel
theorem dX11_feed_15 : decode cX11_feed 15 = .ok (.lload_n 2, 1) := by decide +kernel
theorem dX11_feed_16 : decode cX11_feed 16 = .ok (.invokevirtual 182, 3) := by decide +kernel
theorem dX11_feed_19 : decode cX11_feed 19 = .ok (.goto 5, 3) := by decide +kernel
theorem dX11_feed_22 : decode cX11_feed 22 = .ok (.bipush (-2), 2) := by decide +kernel
theorem dX11_feed_24 : decode cX11_feed 24 = .ok (.ireturn, 1) := by decide +kernel
theorem dX11_text_0 : decode cX11_text 0 = .ok (.aload_n 0, 1) := by decide +kernel
theorem dX11_text_1 : decode cX11_text 1 = .ok (.getfield 19, 3) := by decide +kernel
theorem dX11_text_4 : decode cX11_text 4 = .ok (.invokevirtual 186, 3) := by decide +kernel
theorem dX11_text_7 : decode cX11_text 7 = .ok (.ifCond .eq 6, 3) := by decide +kernel
theorem dX11_text_10 : decode cX11_text 10 = .ok (.bipush (-4), 2) := by decide +kernel
theorem dX11_text_12 : decode cX11_text 12 = .ok (.ireturn, 1) := by decide +kernel
theorem dX11_text_13 : decode cX11_text 13 = .ok (.aload_n 0, 1) := by decide +kernel
theorem dX11_text_14 : decode cX11_text 14 = .ok (.getfield 26, 3) := by decide +kernel
theorem dX11_text_17 : decode cX11_text 17 = .ok (.invokevirtual 190, 3) := by decide +kernel
theorem dX11_text_20 : decode cX11_text 20 = .ok (.istore_n 1, 1) := by decide +kernel
theorem dX11_text_21 : decode cX11_text 21 = .ok (.aload_n 0, 1) := by decide +kernel
theorem dX11_text_22 : decode cX11_text 22 = .ok (.getfield 26, 3) := by decide +kernel
theorem dX11_text_25 : decode cX11_text 25 = .ok (.iconst 0, 1) := by decide +kernel
theorem dX11_text_26 : decode cX11_text 26 = .ok (.putfield 193, 3) := by decide +kernel
theorem dX11_text_29 : decode cX11_text 29 = .ok (.iload_n 1, 1) := by decide +kernel
theorem dX11_text_30 : decode cX11_text 30 = .ok (.ifCond .eq 20, 3) := by decide +kernel
theorem dX11_text_33 : decode cX11_text 33 = .ok (.aload_n 0, 1) := by decide +kernel
theorem dX11_text_34 : decode cX11_text 34 = .ok (.getfield 19, 3) := by decide +kernel
theorem dX11_text_37 : decode cX11_text 37 = .ok (.aload_n 0, 1) := by decide +kernel
theorem dX11_text_38 : decode cX11_text 38 = .ok (.getfield 26, 3) := by decide +kernel
theorem dX11_text_41 : decode cX11_text 41 = .ok (.invokevirtual 197, 3) := by decide +kernel
theorem dX11_text_44 : decode cX11_text 44 = .ok (.invokevirtual 201, 3) := by decide +kernel
theorem dX11_text_47 : decode cX11_text 47 = .ok (.goto 13, 3) := by decide +kernel
theorem dX11_text_50 : decode cX11_text 50 = .ok (.bipush (-100), 2) := by decide +kernel
theorem dX11_text_52 : decode cX11_text 52 = .ok (.aload_n 0, 1) := by decide +kernel
theorem dX11_text_53 : decode cX11_text 53 = .ok (.getfield 26, 3) := by decide +kernel
theorem dX11_text_56 : decode cX11_text 56 = .ok (.getfield 204, 3) := by decide +kernel
theorem dX11_text_59 : decode cX11_text 59 = .ok (.isub, 1) := by decide +kernel
theorem dX11_text_60 : decode cX11_text 60 = .ok (.ireturn, 1) := by decide +kernel
theorem dX11_force_0 : decode cX11_force 0 = .ok (.aload_n 0, 1) := by decide +kernel
theorem dX11_force_1 : decode cX11_force 1 = .ok (.getfield 19, 3) := by decide +kernel
theorem dX11_force_4 : decode cX11_force 4 = .ok (.iload_n 1, 1) := by decide +kernel
theorem dX11_force_5 : decode cX11_force 5 = .ok (.invokevirtual 207, 3) := by decide +kernel
theorem dX11_force_8 : decode cX11_force 8 = .ok (.ireturn, 1) := by decide +kernel
theorem dX11_says_0 : decode cX11_says 0 = .ok (.aload_n 0, 1) := by decide +kernel
theorem dX11_says_1 : decode cX11_says 1 = .ok (.getfield 55, 3) := by decide +kernel
theorem dX11_says_4 : decode cX11_says 4 = .ok (.getfield 123, 3) := by decide +kernel
theorem dX11_says_7 : decode cX11_says 7 = .ok (.iload_n 1, 1) := by decide +kernel
theorem dX11_says_8 : decode cX11_says 8 = .ok (.invokevirtual 140, 3) := by decide +kernel
theorem dX11_says_11 : decode cX11_says 11 = .ok (.ifCond .ne 7, 3) := by decide +kernel
theorem dX11_says_14 : decode cX11_says 14 = .ok (.ldc2_w 174, 3) := by decide +kernel
theorem dX11_says_17 : decode cX11_says 17 = .ok (.lreturn, 1) := by decide +kernel
theorem dX11_says_18 : decode cX11_says 18 = .ok (.iload_n 3, 1) := by decide +kernel
theorem dX11_says_19 : decode cX11_says 19 = .ok (.iconst 1, 1) := by decide +kernel
theorem dX11_says_20 : decode cX11_says 20 = .ok (.if_icmp .ne 13, 3) := by decide +kernel
theorem dX11_says_23 : decode cX11_says 23 = .ok (.aload_n 0, 1) := by decide +kernel
theorem dX11_says_24 : decode cX11_says 24 = .ok (.getfield 55, 3) := by decide +kernel
theorem dX11_says_27 : decode cX11_says 27 = .ok (.iload_n 1, 1) := by decide +kernel
theorem dX11_says_28 : decode cX11_says 28 = .ok (.invokevirtual 212, 3) := by decide +kernel
theorem dX11_says_31 : decode cX11_says 31 = .ok (.i2l, 1) := by decide +kernel
theorem dX11_says_32 : decode cX11_says 32 = .ok (.lreturn, 1) := by decide +kernel
theorem dX11_says_33 : decode cX11_says 33 = .ok (.iload_n 3, 1) := by decide +kernel
theorem dX11_says_34 : decode cX11_says 34 = .ok (.ifCond .ne 17, 3) := by decide +kernel
theorem dX11_says_37 : decode cX11_says 37 = .ok (.aload_n 0, 1) := by decide +kernel
theorem dX11_says_38 : decode cX11_says 38 = .ok (.getfield 55, 3) := by decide +kernel
theorem dX11_says_41 : decode cX11_says 41 = .ok (.getfield 91, 3) := by decide +kernel
theorem dX11_says_44 : decode cX11_says 44 = .ok (.iload_n 2, 1) := by decide +kernel
theorem dX11_says_45 : decode cX11_says 45 = .ok (.invokevirtual 95, 3) := by decide +kernel
theorem dX11_says_48 : decode cX11_says 48 = .ok (.ifCond .ne 7, 3) := by decide +kernel
theorem dX11_says_51 : decode cX11_says 51 = .ok (.ldc2_w 174, 3) := by decide +kernel
theorem dX11_says_54 : decode cX11_says 54 = .ok (.lreturn, 1) := by decide +kernel
theorem dX11_says_55 : decode cX11_says 55 = .ok (.aload_n 0, 1) := by decide +kernel
theorem dX11_says_56 : decode cX11_says 56 = .ok (.getfield 55, 3) := by decide +kernel
theorem dX11_says_59 : decode cX11_says 59 = .ok (.iload_n 1, 1) := by decide +kernel
theorem dX11_says_60 : decode cX11_says 60 = .ok (.iload_n 2, 1) := by decide +kernel
theorem dX11_says_61 : decode cX11_says 61 = .ok (.invokevirtual 215, 3) := by decide +kernel
theorem dX11_says_64 : decode cX11_says 64 = .ok (.i2l, 1) := by decide +kernel
theorem dX11_says_65 : decode cX11_says 65 = .ok (.lreturn, 1) := by decide +kernel
theorem dX11_tick_0 : decode cX11_tick 0 = .ok (.iload_n 1, 1) := by decide +kernel
theorem dX11_tick_1 : decode cX11_tick 1 = .ok (.iconst 1, 1) := by decide +kernel
theorem dX11_tick_2 : decode cX11_tick 2 = .ok (.bipush 60, 2) := by decide +kernel
theorem dX11_tick_4 : decode cX11_tick 4 = .ok (.invokestatic 73, 3) := by decide +kernel
theorem dX11_tick_7 : decode cX11_tick 7 = .ok (.ifCond .ne 6, 3) := by decide +kernel
theorem dX11_tick_10 : decode cX11_tick 10 = .ok (.bipush (-2), 2) := by decide +kernel
theorem dX11_tick_12 : decode cX11_tick 12 = .ok (.ireturn, 1) := by decide +kernel
theorem dX11_tick_13 : decode cX11_tick 13 = .ok (.aload_n 0, 1) := by decide +kernel
theorem dX11_tick_14 : decode cX11_tick 14 = .ok (.getfield 55, 3) := by decide +kernel
theorem dX11_tick_17 : decode cX11_tick 17 = .ok (.getfield 218, 3) := by decide +kernel
theorem dX11_tick_20 : decode cX11_tick 20 = .ok (.iload_n 1, 1) := by decide +kernel
theorem dX11_tick_21 : decode cX11_tick 21 = .ok (.iadd, 1) := by decide +kernel
theorem dX11_tick_22 : decode cX11_tick 22 = .ok (.sipush 9999, 3) := by decide +kernel
theorem dX11_tick_25 : decode cX11_tick 25 = .ok (.if_icmp .le 6, 3) := by decide +kernel
theorem dX11_tick_28 : decode cX11_tick 28 = .ok (.bipush (-4), 2) := by decide +kernel
theorem dX11_tick_30 : decode cX11_tick 30 = .ok (.ireturn, 1) := by decide +kernel
theorem dX11_tick_31 : decode cX11_tick 31 = .ok (.aload_n 0, 1) := by decide +kernel
theorem dX11_tick_32 : decode cX11_tick 32 = .ok (.getfield 55, 3) := by decide +kernel
theorem dX11_tick_35 : decode cX11_tick 35 = .ok (.iconst 0, 1) := by decide +kernel
theorem dX11_tick_36 : decode cX11_tick 36 = .ok (.putfield 221, 3) := by decide +kernel
theorem dX11_tick_39 : decode cX11_tick 39 = .ok (.iconst 0, 1) := by decide +kernel
theorem dX11_tick_40 : decode cX11_tick 40 = .ok (.istore_n 2, 1) := by decide +kernel
theorem dX11_tick_41 : decode cX11_tick 41 = .ok (.iload_n 2, 1) := by decide +kernel
theorem dX11_tick_42 : decode cX11_tick 42 = .ok (.iload_n 1, 1) := by decide +kernel
theorem dX11_tick_43 : decode cX11_tick 43 = .ok (.if_icmp .ge 16, 3) := by decide +kernel
theorem dX11_tick_46 : decode cX11_tick 46 = .ok (.aload_n 0, 1) := by decide +kernel
theorem dX11_tick_47 : decode cX11_tick 47 = .ok (.getfield 55, 3) := by decide +kernel
theorem dX11_tick_50 : decode cX11_tick 50 = .ok (.invokevirtual 224, 3) := by decide +kernel
theorem dX11_tick_53 : decode cX11_tick 53 = .ok (.iinc 2 1, 3) := by decide +kernel
theorem dX11_tick_56 : decode cX11_tick 56 = .ok (.goto (-15), 3) := by decide +kernel
theorem dX11_tick_59 : decode cX11_tick 59 = .ok (.aload_n 0, 1) := by decide +kernel
theorem dX11_tick_60 : decode cX11_tick 60 = .ok (.getfield 55, 3) := by decide +kernel
theorem dX11_tick_63 : decode cX11_tick 63 = .ok (.getfield 221, 3) := by decide +kernel
theorem dX11_tick_66 : decode cX11_tick 66 = .ok (.ireturn, 1) := by decide +kernel
theorem dX11_order_0 : decode cX11_order 0 = .ok (.aload_n 0, 1) := by decide +kernel
theorem dX11_order_1 : decode cX11_order 1 = .ok (.getfield 55, 3) := by decide +kernel
theorem dX11_order_4 : decode cX11_order 4 = .ok (.getfield 123, 3) := by decide +kernel
theorem dX11_order_7 : decode cX11_order 7 = .ok (.iload_n 1, 1) := by decide +kernel
theorem dX11_order_8 : decode cX11_order 8 = .ok (.invokevirtual 135, 3) := by decide +kernel
theorem dX11_order_11 : decode cX11_order 11 = .ok (.ifCond .eq 10, 3) := by decide +kernel
theorem dX11_order_14 : decode cX11_order 14 = .ok (.iload_n 2, 1) := by decide +kernel
theorem dX11_order_15 : decode cX11_order 15 = .ok (.invokestatic 66, 3) := by decide +kernel
theorem dX11_order_18 : decode cX11_order 18 = .ok (.ifCond .ne 6, 3) := by decide +kernel
theorem dX11_order_21 : decode cX11_order 21 = .ok (.bipush (-2), 2) := by decide +kernel
theorem dX11_order_23 : decode cX11_order 23 = .ok (.ireturn, 1) := by decide +kernel
theorem dX11_order_24 : decode cX11_order 24 = .ok (.aload_n 0, 1) := by decide +kernel
theorem dX11_order_25 : decode cX11_order 25 = .ok (.getfield 55, 3) := by decide +kernel
theorem dX11_order_28 : decode cX11_order 28 = .ok (.getfield 123, 3) := by decide +kernel
theorem dX11_order_31 : decode cX11_order 31 = .ok (.iload_n 1, 1) := by decide +kernel
theorem dX11_order_32 : decode cX11_order 32 = .ok (.invokevirtual 140, 3) := by decide +kernel
theorem dX11_order_35 : decode cX11_order 35 = .ok (.ifCond .ne 6, 3) := by decide +kernel
theorem dX11_order_38 : decode cX11_order 38 = .ok (.bipush (-3), 2) := by decide +kernel
theorem dX11_order_40 : decode cX11_order 40 = .ok (.ireturn, 1) := by decide +kernel
theorem dX11_order_41 : decode cX11_order 41 = .ok (.aload_n 0, 1) := by decide +kernel
theorem dX11_order_42 : decode cX11_order 42 = .ok (.getfield 55, 3) := by decide +kernel
theorem dX11_order_45 : decode cX11_order 45 = .ok (.iload_n 1, 1) := by decide +kernel
theorem dX11_order_46 : decode cX11_order 46 = .ok (.iload_n 2, 1) := by decide +kernel
theorem dX11_order_47 : decode cX11_order 47 = .ok (.invokevirtual 227, 3) := by decide +kernel
theorem dX11_order_50 : decode cX11_order 50 = .ok (.ireturn, 1) := by decide +kernel
theorem dX11_lane_0 : decode cX11_lane 0 = .ok (.aload_n 0, 1) := by decide +kernel
theorem dX11_lane_1 : decode cX11_lane 1 = .ok (.getfield 55, 3) := by decide +kernel
theorem dX11_lane_4 : decode cX11_lane 4 = .ok (.iload_n 1, 1) := by decide +kernel
theorem dX11_lane_5 : decode cX11_lane 5 = .ok (.invokevirtual 113, 3) := by decide +kernel
theorem dX11_lane_8 : decode cX11_lane 8 = .ok (.ifCond .ne 6, 3) := by decide +kernel
theorem dX11_lane_11 : decode cX11_lane 11 = .ok (.bipush (-2), 2) := by decide +kernel
theorem dX11_lane_13 : decode cX11_lane 13 = .ok (.ireturn, 1) := by decide +kernel
theorem dX11_lane_14 : decode cX11_lane 14 = .ok (.aload_n 0, 1) := by decide +kernel
theorem dX11_lane_15 : decode cX11_lane 15 = .ok (.getfield 55, 3) := by decide +kernel
theorem dX11_lane_18 : decode cX11_lane 18 = .ok (.getfield 230, 3) := by decide +kernel
theorem dX11_lane_21 : decode cX11_lane 21 = .ok (.getfield 234, 3) := by decide +kernel
theorem dX11_lane_24 : decode cX11_lane 24 = .ok (.iload_n 1, 1) := by decide +kernel
theorem dX11_lane_25 : decode cX11_lane 25 = .ok (.iaload, 1) := by decide +kernel
theorem dX11_lane_26 : decode cX11_lane 26 = .ok (.istore_n 2, 1) := by decide +kernel
theorem dX11_lane_27 : decode cX11_lane 27 = .ok (.aload_n 0, 1) := by decide +kernel
theorem dX11_lane_28 : decode cX11_lane 28 = .ok (.getfield 55, 3) := by decide +kernel
theorem dX11_lane_31 : decode cX11_lane 31 = .ok (.getfield 91, 3) := by decide +kernel
theorem dX11_lane_34 : decode cX11_lane 34 = .ok (.iload_n 2, 1) := by decide +kernel
theorem dX11_lane_35 : decode cX11_lane 35 = .ok (.invokevirtual 95, 3) := by decide +kernel
theorem dX11_lane_38 : decode cX11_lane 38 = .ok (.ifCond .eq 18, 3) := by decide +kernel
theorem dX11_lane_41 : decode cX11_lane 41 = .ok (.aload_n 0, 1) := by decide +kernel
theorem dX11_lane_42 : decode cX11_lane 42 = .ok (.getfield 55, 3) := by decide +kernel
theorem dX11_lane_45 : decode cX11_lane 45 = .ok (.getfield 91, 3) := by decide +kernel
theorem dX11_lane_48 : decode cX11_lane 48 = .ok (.getfield 239, 3) := by decide +kernel
theorem dX11_lane_51 : decode cX11_lane 51 = .ok (.iload_n 2, 1) := by decide +kernel
theorem dX11_lane_52 : decode cX11_lane 52 = .ok (.iaload, 1) := by decide +kernel
theorem dX11_lane_53 : decode cX11_lane 53 = .ok (.goto 4, 3) := by decide +kernel
theorem dX11_lane_56 : decode cX11_lane 56 = .ok (.iconst (-1), 1) := by decide +kernel
theorem dX11_lane_57 : decode cX11_lane 57 = .ok (.ireturn, 1) := by decide +kernel
theorem dX11_empties_0 : decode cX11_empties 0 = .ok (.iload_n 1, 1) := by decide +kernel
theorem dX11_empties_1 : decode cX11_empties 1 = .ok (.invokestatic 70, 3) := by decide +kernel
theorem dX11_empties_4 : decode cX11_empties 4 = .ok (.ifCond .eq 13, 3) := by decide +kernel
theorem dX11_empties_7 : decode cX11_empties 7 = .ok (.iload_n 2, 1) := by decide +kernel
theorem dX11_empties_8 : decode cX11_empties 8 = .ok (.iconst 0, 1) := by decide +kernel
theorem dX11_empties_9 : decode cX11_empties 9 = .ok (.bipush 6, 2) := by decide +kernel
theorem dX11_empties_11 : decode cX11_empties 11 = .ok (.invokestatic 73, 3) := by decide +kernel
theorem dX11_empties_14 : decode cX11_empties 14 = .ok (.ifCond .ne 6, 3) := by decide +kernel
theorem dX11_empties_17 : decode cX11_empties 17 = .ok (.bipush (-2), 2) := by decide +kernel
theorem dX11_empties_19 : decode cX11_empties 19 = .ok (.ireturn, 1) := by decide +kernel
theorem dX11_empties_20 : decode cX11_empties 20 = .ok (.aload_n 0, 1) := by decide +kernel
theorem dX11_empties_21 : decode cX11_empties 21 = .ok (.getfield 55, 3) := by decide +kernel
theorem dX11_empties_24 : decode cX11_empties 24 = .ok (.getfield 91, 3) := by decide +kernel
theorem dX11_empties_27 : decode cX11_empties 27 = .ok (.astore_n 3, 1) := by decide +kernel
theorem dX11_empties_28 : decode cX11_empties 28 = .ok (.iload_n 2, 1) := by decide +kernel
theorem dX11_empties_29 : decode cX11_empties 29 = .ok (.lookupswitch 39 #[(0, 27), (6, 33)], 27) := by decide +kernel
theorem dX11_empties_56 : decode cX11_empties 56 = .ok (.aload_n 3, 1) := by decide +kernel
theorem dX11_empties_57 : decode cX11_empties 57 = .ok (.iload_n 1, 1) := by decide +kernel
theorem dX11_empties_58 : decode cX11_empties 58 = .ok (.invokevirtual 241, 3) := by decide +kernel
theorem dX11_empties_61 : decode cX11_empties 61 = .ok (.ireturn, 1) := by decide +kernel
theorem dX11_empties_62 : decode cX11_empties 62 = .ok (.aload_n 3, 1) := by decide +kernel
theorem dX11_empties_63 : decode cX11_empties 63 = .ok (.iload_n 1, 1) := by decide +kernel
theorem dX11_empties_64 : decode cX11_empties 64 = .ok (.invokevirtual 244, 3) := by decide +kernel
theorem dX11_empties_67 : decode cX11_empties 67 = .ok (.ireturn, 1) := by decide +kernel
theorem dX11_empties_68 : decode cX11_empties 68 = .ok (.aload_n 3, 1) := by decide +kernel
theorem dX11_empties_69 : decode cX11_empties 69 = .ok (.iload_n 1, 1) := by decide +kernel
theorem dX11_empties_70 : decode cX11_empties 70 = .ok (.iload_n 2, 1) := by decide +kernel
theorem dX11_empties_71 : decode cX11_empties 71 = .ok (.iconst 1, 1) := by decide +kernel
theorem dX11_empties_72 : decode cX11_empties 72 = .ok (.isub, 1) := by decide +kernel
theorem dX11_empties_73 : decode cX11_empties 73 = .ok (.invokevirtual 247, 3) := by decide +kernel
theorem dX11_empties_76 : decode cX11_empties 76 = .ok (.ireturn, 1) := by decide +kernel
theorem dX11_waste_0 : decode cX11_waste 0 = .ok (.iload_n 1, 1) := by decide +kernel
theorem dX11_waste_1 : decode cX11_waste 1 = .ok (.iconst 0, 1) := by decide +kernel
theorem dX11_waste_2 : decode cX11_waste 2 = .ok (.sipush 999, 3) := by decide +kernel
theorem dX11_waste_5 : decode cX11_waste 5 = .ok (.invokestatic 73, 3) := by decide +kernel
theorem dX11_waste_8 : decode cX11_waste 8 = .ok (.ifCond .ne 6, 3) := by decide +kernel
theorem dX11_waste_11 : decode cX11_waste 11 = .ok (.bipush (-2), 2) := by decide +kernel
theorem dX11_waste_13 : decode cX11_waste 13 = .ok (.ireturn, 1) := by decide +kernel
theorem dX11_waste_14 : decode cX11_waste 14 = .ok (.aload_n 0, 1) := by decide +kernel
theorem dX11_waste_15 : decode cX11_waste 15 = .ok (.getfield 10, 3) := by decide +kernel
theorem dX11_waste_18 : decode cX11_waste 18 = .ok (.getfield 250, 3) := by decide +kernel
theorem dX11_waste_21 : decode cX11_waste 21 = .ok (.istore_n 2, 1) := by decide +kernel
theorem dX11_waste_22 : decode cX11_waste 22 = .ok (.aload_n 0, 1) := by decide +kernel
theorem dX11_waste_23 : decode cX11_waste 23 = .ok (.getfield 10, 3) := by decide +kernel
theorem dX11_waste_26 : decode cX11_waste 26 = .ok (.iload_n 1, 1) := by decide +kernel
theorem dX11_waste_27 : decode cX11_waste 27 = .ok (.putfield 250, 3) := by decide +kernel
theorem dX11_waste_30 : decode cX11_waste 30 = .ok (.iload_n 2, 1) := by decide +kernel
theorem dX11_waste_31 : decode cX11_waste 31 = .ok (.ireturn, 1) := by decide +kernel
theorem dX11_ahead_0 : decode cX11_ahead 0 = .ok (.iload_n 1, 1) := by decide +kernel
theorem dX11_ahead_1 : decode cX11_ahead 1 = .ok (.iload_n 2, 1) := by decide +kernel
theorem dX11_ahead_2 : decode cX11_ahead 2 = .ok (.invokestatic 253, 3) := by decide +kernel
theorem dX11_ahead_5 : decode cX11_ahead 5 = .ok (.ifCond .eq 14, 3) := by decide +kernel
theorem dX11_ahead_8 : decode cX11_ahead 8 = .ok (.iload_n 3, 1) := by decide +kernel
theorem dX11_ahead_9 : decode cX11_ahead 9 = .ok (.iconst 0, 1) := by decide +kernel
theorem dX11_ahead_10 : decode cX11_ahead 10 = .ok (.iload_n 1, 1) := by decide +kernel
theorem dX11_ahead_11 : decode cX11_ahead 11 = .ok (.iconst 1, 1) := by decide +kernel
theorem dX11_ahead_12 : decode cX11_ahead 12 = .ok (.isub, 1) := by decide +kernel
theorem dX11_ahead_13 : decode cX11_ahead 13 = .ok (.invokestatic 73, 3) := by decide +kernel
theorem dX11_ahead_16 : decode cX11_ahead 16 = .ok (.ifCond .ne 6, 3) := by decide +kernel
theorem dX11_ahead_19 : decode cX11_ahead 19 = .ok (.bipush (-2), 2) := by decide +kernel
theorem dX11_ahead_21 : decode cX11_ahead 21 = .ok (.ireturn, 1) := by decide +kernel
theorem dX11_ahead_22 : decode cX11_ahead 22 = .ok (.aload_n 0, 1) := by decide +kernel
theorem dX11_ahead_23 : decode cX11_ahead 23 = .ok (.getfield 62, 3) := by decide +kernel
theorem dX11_ahead_26 : decode cX11_ahead 26 = .ok (.aload_n 0, 1) := by decide +kernel
theorem dX11_ahead_27 : decode cX11_ahead 27 = .ok (.getfield 55, 3) := by decide +kernel
theorem dX11_ahead_30 : decode cX11_ahead 30 = .ok (.iload_n 1, 1) := by decide +kernel
theorem dX11_ahead_31 : decode cX11_ahead 31 = .ok (.iload_n 2, 1) := by decide +kernel
theorem dX11_ahead_32 : decode cX11_ahead 32 = .ok (.invokevirtual 257, 3) := by decide +kernel
theorem dX11_ahead_35 : decode cX11_ahead 35 = .ok (.aload_n 0, 1) := by decide +kernel
theorem dX11_ahead_36 : decode cX11_ahead 36 = .ok (.getfield 62, 3) := by decide +kernel
theorem dX11_ahead_39 : decode cX11_ahead 39 = .ok (.getfield 261, 3) := by decide +kernel
theorem dX11_ahead_42 : decode cX11_ahead 42 = .ok (.iload_n 3, 1) := by decide +kernel
theorem dX11_ahead_43 : decode cX11_ahead 43 = .ok (.iaload, 1) := by decide +kernel
theorem dX11_ahead_44 : decode cX11_ahead 44 = .ok (.ireturn, 1) := by decide +kernel
theorem dX11_worth_0 : decode cX11_worth 0 = .ok (.iload_n 1, 1) := by decide +kernel
theorem dX11_worth_1 : decode cX11_worth 1 = .ok (.iload_n 2, 1) := by decide +kernel
theorem dX11_worth_2 : decode cX11_worth 2 = .ok (.invokestatic 253, 3) := by decide +kernel
theorem dX11_worth_5 : decode cX11_worth 5 = .ok (.ifCond .ne 7, 3) := by decide +kernel
theorem dX11_worth_8 : decode cX11_worth 8 = .ok (.ldc2_w 174, 3) := by decide +kernel
theorem dX11_worth_11 : decode cX11_worth 11 = .ok (.lreturn, 1) := by decide +kernel
theorem dX11_worth_12 : decode cX11_worth 12 = .ok (.aload_n 0, 1) := by decide +kernel
theorem dX11_worth_13 : decode cX11_worth 13 = .ok (.getfield 62, 3) := by decide +kernel
theorem dX11_worth_16 : decode cX11_worth 16 = .ok (.aload_n 0, 1) := by decide +kernel
theorem dX11_worth_17 : decode cX11_worth 17 = .ok (.getfield 55, 3) := by decide +kernel
theorem dX11_worth_20 : decode cX11_worth 20 = .ok (.iload_n 1, 1) := by decide +kernel
theorem dX11_worth_21 : decode cX11_worth 21 = .ok (.iload_n 2, 1) := by decide +kernel
theorem dX11_worth_22 : decode cX11_worth 22 = .ok (.invokevirtual 257, 3) := by decide +kernel
theorem dX11_worth_25 : decode cX11_worth 25 = .ok (.aload_n 0, 1) := by decide +kernel
theorem dX11_worth_26 : decode cX11_worth 26 = .ok (.getfield 62, 3) := by decide +kernel
theorem dX11_worth_29 : decode cX11_worth 29 = .ok (.getfield 264, 3) := by decide +kernel
theorem dX11_worth_32 : decode cX11_worth 32 = .ok (.lreturn, 1) := by decide +kernel
theorem dX11_piece_0 : decode cX11_piece 0 = .ok (.iload_n 1, 1) := by decide +kernel
theorem dX11_piece_1 : decode cX11_piece 1 = .ok (.iconst 1, 1) := by decide +kernel
theorem dX11_piece_2 : decode cX11_piece 2 = .ok (.bipush 6, 2) := by decide +kernel
theorem dX11_piece_4 : decode cX11_piece 4 = .ok (.invokestatic 73, 3) := by decide +kernel
theorem dX11_piece_7 : decode cX11_piece 7 = .ok (.ifCond .eq 14, 3) := by decide +kernel
theorem dX11_piece_10 : decode cX11_piece 10 = .ok (.iload_n 2, 1) := by decide +kernel
theorem dX11_piece_11 : decode cX11_piece 11 = .ok (.iconst 0, 1) := by decide +kernel
theorem dX11_piece_12 : decode cX11_piece 12 = .ok (.sipush 999, 3) := by decide +kernel
theorem dX11_piece_15 : decode cX11_piece 15 = .ok (.invokestatic 73, 3) := by decide +kernel
theorem dX11_piece_18 : decode cX11_piece 18 = .ok (.ifCond .ne 6, 3) := by decide +kernel
theorem dX11_piece_21 : decode cX11_piece 21 = .ok (.bipush (-2), 2) := by decide +kernel
theorem dX11_piece_23 : decode cX11_piece 23 = .ok (.ireturn, 1) := by decide +kernel
theorem dX11_piece_24 : decode cX11_piece 24 = .ok (.aload_n 0, 1) := by decide +kernel
theorem dX11_piece_25 : decode cX11_piece 25 = .ok (.getfield 33, 3) := by decide +kernel
theorem dX11_piece_28 : decode cX11_piece 28 = .ok (.getfield 268, 3) := by decide +kernel
theorem dX11_piece_31 : decode cX11_piece 31 = .ok (.iload_n 1, 1) := by decide +kernel
theorem dX11_piece_32 : decode cX11_piece 32 = .ok (.iaload, 1) := by decide +kernel
theorem dX11_piece_33 : decode cX11_piece 33 = .ok (.istore_n 3, 1) := by decide +kernel
theorem dX11_piece_34 : decode cX11_piece 34 = .ok (.aload_n 0, 1) := by decide +kernel
theorem dX11_piece_35 : decode cX11_piece 35 = .ok (.getfield 33, 3) := by decide +kernel
theorem dX11_piece_38 : decode cX11_piece 38 = .ok (.getfield 268, 3) := by decide +kernel
theorem dX11_piece_41 : decode cX11_piece 41 = .ok (.iload_n 1, 1) := by decide +kernel
theorem dX11_piece_42 : decode cX11_piece 42 = .ok (.iload_n 2, 1) := by decide +kernel
theorem dX11_piece_43 : decode cX11_piece 43 = .ok (.iastore, 1) := by decide +kernel
theorem dX11_piece_44 : decode cX11_piece 44 = .ok (.iload_n 3, 1) := by decide +kernel
theorem dX11_piece_45 : decode cX11_piece 45 = .ok (.ireturn, 1) := by decide +kernel
theorem dX11_cut_0 : decode cX11_cut 0 = .ok (.iload_n 1, 1) := by decide +kernel
theorem dX11_cut_1 : decode cX11_cut 1 = .ok (.iconst 1, 1) := by decide +kernel
theorem dX11_cut_2 : decode cX11_cut 2 = .ok (.bipush 30, 2) := by decide +kernel
theorem dX11_cut_4 : decode cX11_cut 4 = .ok (.invokestatic 73, 3) := by decide +kernel
theorem dX11_cut_7 : decode cX11_cut 7 = .ok (.ifCond .ne 6, 3) := by decide +kernel
theorem dX11_cut_10 : decode cX11_cut 10 = .ok (.bipush (-2), 2) := by decide +kernel
theorem dX11_cut_12 : decode cX11_cut 12 = .ok (.ireturn, 1) := by decide +kernel
theorem dX11_cut_13 : decode cX11_cut 13 = .ok (.aload_n 0, 1) := by decide +kernel
theorem dX11_cut_14 : decode cX11_cut 14 = .ok (.getfield 33, 3) := by decide +kernel
theorem dX11_cut_17 : decode cX11_cut 17 = .ok (.iload_n 1, 1) := by decide +kernel
theorem dX11_cut_18 : decode cX11_cut 18 = .ok (.invokevirtual 271, 3) := by decide +kernel
theorem dX11_cut_21 : decode cX11_cut 21 = .ok (.iload_n 2, 1) := by decide +kernel
theorem dX11_cut_22 : decode cX11_cut 22 = .ok (.iconst (-1), 1) := by decide +kernel
theorem dX11_cut_23 : decode cX11_cut 23 = .ok (.if_icmp .ne 11, 3) := by decide +kernel
theorem dX11_cut_26 : decode cX11_cut 26 = .ok (.aload_n 0, 1) := by decide +kernel
theorem dX11_cut_27 : decode cX11_cut 27 = .ok (.getfield 33, 3) := by decide +kernel
theorem dX11_cut_30 : decode cX11_cut 30 = .ok (.getfield 275, 3) := by decide +kernel
theorem dX11_cut_33 : decode cX11_cut 33 = .ok (.ireturn, 1) := by decide +kernel
theorem dX11_cut_34 : decode cX11_cut 34 = .ok (.iload_n 2, 1) := by decide +kernel
theorem dX11_cut_35 : decode cX11_cut 35 = .ok (.iconst 0, 1) := by decide +kernel
theorem dX11_cut_36 : decode cX11_cut 36 = .ok (.aload_n 0, 1) := by decide +kernel
theorem dX11_cut_37 : decode cX11_cut 37 = .ok (.getfield 33, 3) := by decide +kernel
theorem dX11_cut_40 : decode cX11_cut 40 = .ok (.getfield 278, 3) := by decide +kernel
theorem dX11_cut_43 : decode cX11_cut 43 = .ok (.iconst 1, 1) := by decide +kernel
theorem dX11_cut_44 : decode cX11_cut 44 = .ok (.isub, 1) := by decide +kernel
theorem dX11_cut_45 : decode cX11_cut 45 = .ok (.invokestatic 73, 3) := by decide +kernel
theorem dX11_cut_48 : decode cX11_cut 48 = .ok (.ifCond .eq 15, 3) := by decide +kernel
theorem dX11_cut_51 : decode cX11_cut 51 = .ok (.aload_n 0, 1) := by decide +kernel
theorem dX11_cut_52 : decode cX11_cut 52 = .ok (.getfield 33, 3) := by decide +kernel
theorem dX11_cut_55 : decode cX11_cut 55 = .ok (.getfield 281, 3) := by decide +kernel
theorem dX11_cut_58 : decode cX11_cut 58 = .ok (.iload_n 2, 1) := by decide +kernel
theorem dX11_cut_59 : decode cX11_cut 59 = .ok (.iaload, 1) := by decide +kernel
theorem dX11_cut_60 : decode cX11_cut 60 = .ok (.goto 4, 3) := by decide +kernel
theorem dX11_cut_63 : decode cX11_cut 63 = .ok (.iconst (-1), 1) := by decide +kernel
theorem dX11_cut_64 : decode cX11_cut 64 = .ok (.ireturn, 1) := by decide +kernel
theorem dX11_count_0 : decode cX11_count 0 = .ok (.iload_n 1, 1) := by decide +kernel
theorem dX11_count_1 : decode cX11_count 1 = .ok (.tableswitch 163 0 10 #[59, 68, 79, 90, 101, 109, 120, 131, 139, 147, 155], 59) := by decide +kernel
theorem dX11_count_60 : decode cX11_count 60 = .ok (.aload_n 0, 1) := by decide +kernel
theorem dX11_count_61 : decode cX11_count 61 = .ok (.getfield 55, 3) := by decide +kernel
theorem dX11_count_64 : decode cX11_count 64 = .ok (.getfield 116, 3) := by decide +kernel
theorem dX11_count_67 : decode cX11_count 67 = .ok (.arraylength, 1) := by decide +kernel
theorem dX11_count_68 : decode cX11_count 68 = .ok (.ireturn, 1) := by decide +kernel
theorem dX11_count_69 : decode cX11_count 69 = .ok (.aload_n 0, 1) := by decide +kernel
theorem dX11_count_70 : decode cX11_count 70 = .ok (.getfield 55, 3) := by decide +kernel
theorem dX11_count_73 : decode cX11_count 73 = .ok (.getfield 91, 3) := by decide +kernel
theorem dX11_count_76 : decode cX11_count 76 = .ok (.getfield 284, 3) := by decide +kernel
theorem dX11_count_79 : decode cX11_count 79 = .ok (.ireturn, 1) := by decide +kernel
theorem dX11_count_80 : decode cX11_count 80 = .ok (.aload_n 0, 1) := by decide +kernel
theorem dX11_count_81 : decode cX11_count 81 = .ok (.getfield 55, 3) := by decide +kernel
theorem dX11_count_84 : decode cX11_count 84 = .ok (.getfield 123, 3) := by decide +kernel
theorem dX11_count_87 : decode cX11_count 87 = .ok (.getfield 287, 3) := by decide +kernel
theorem dX11_count_90 : decode cX11_count 90 = .ok (.ireturn, 1) := by decide +kernel
theorem dX11_count_91 : decode cX11_count 91 = .ok (.aload_n 0, 1) := by decide +kernel
theorem dX11_count_92 : decode cX11_count 92 = .ok (.getfield 55, 3) := by decide +kernel
theorem dX11_count_95 : decode cX11_count 95 = .ok (.getfield 123, 3) := by decide +kernel
theorem dX11_count_98 : decode cX11_count 98 = .ok (.invokevirtual 288, 3) := by decide +kernel
theorem dX11_count_101 : decode cX11_count 101 = .ok (.ireturn, 1) := by decide +kernel
theorem dX11_count_102 : decode cX11_count 102 = .ok (.aload_n 0, 1) := by decide +kernel
theorem dX11_count_103 : decode cX11_count 103 = .ok (.getfield 55, 3) := by decide +kernel
theorem dX11_count_106 : decode cX11_count 106 = .ok (.getfield 218, 3) := by decide +kernel
theorem dX11_count_109 : decode cX11_count 109 = .ok (.ireturn, 1) := by decide +kernel
theorem dX11_count_110 : decode cX11_count 110 = .ok (.aload_n 0, 1) := by decide +kernel
theorem dX11_count_111 : decode cX11_count 111 = .ok (.getfield 55, 3) := by decide +kernel
theorem dX11_count_114 : decode cX11_count 114 = .ok (.getfield 230, 3) := by decide +kernel
theorem dX11_count_117 : decode cX11_count 117 = .ok (.invokevirtual 292, 3) := by decide +kernel
theorem dX11_count_120 : decode cX11_count 120 = .ok (.ireturn, 1) := by decide +kernel
theorem dX11_count_121 : decode cX11_count 121 = .ok (.aload_n 0, 1) := by decide +kernel
theorem dX11_count_122 : decode cX11_count 122 = .ok (.getfield 55, 3) := by decide +kernel
theorem dX11_count_125 : decode cX11_count 125 = .ok (.getfield 230, 3) := by decide +kernel
theorem dX11_count_128 : decode cX11_count 128 = .ok (.getfield 295, 3) := by decide +kernel
theorem dX11_count_131 : decode cX11_count 131 = .ok (.ireturn, 1) := by decide +kernel
theorem dX11_count_132 : decode cX11_count 132 = .ok (.aload_n 0, 1) := by decide +kernel
theorem dX11_count_133 : decode cX11_count 133 = .ok (.getfield 55, 3) := by decide +kernel
theorem dX11_count_136 : decode cX11_count 136 = .ok (.getfield 298, 3) := by decide +kernel
theorem dX11_count_139 : decode cX11_count 139 = .ok (.ireturn, 1) := by decide +kernel
theorem dX11_count_140 : decode cX11_count 140 = .ok (.aload_n 0, 1) := by decide +kernel
theorem dX11_count_141 : decode cX11_count 141 = .ok (.getfield 19, 3) := by decide +kernel
theorem dX11_count_144 : decode cX11_count 144 = .ok (.getfield 301, 3) := by decide +kernel
theorem dX11_count_147 : decode cX11_count 147 = .ok (.ireturn, 1) := by decide +kernel
theorem dX11_count_148 : decode cX11_count 148 = .ok (.aload_n 0, 1) := by decide +kernel
theorem dX11_count_149 : decode cX11_count 149 = .ok (.getfield 26, 3) := by decide +kernel
theorem dX11_count_152 : decode cX11_count 152 = .ok (.getfield 193, 3) := by decide +kernel
theorem dX11_count_155 : decode cX11_count 155 = .ok (.ireturn, 1) := by decide +kernel
theorem dX11_count_156 : decode cX11_count 156 = .ok (.aload_n 0, 1) := by decide +kernel
theorem dX11_count_157 : decode cX11_count 157 = .ok (.getfield 19, 3) := by decide +kernel
theorem dX11_count_160 : decode cX11_count 160 = .ok (.getfield 302, 3) := by decide +kernel
theorem dX11_count_163 : decode cX11_count 163 = .ok (.ireturn, 1) := by decide +kernel
theorem dX11_count_164 : decode cX11_count 164 = .ok (.bipush (-2), 2) := by decide +kernel
theorem dX11_count_166 : decode cX11_count 166 = .ok (.ireturn, 1) := by decide +kernel
theorem dX11_sheet_0 : decode cX11_sheet 0 = .ok (.iload_n 1, 1) := by decide +kernel
theorem dX11_sheet_1 : decode cX11_sheet 1 = .ok (.invokestatic 305, 3) := by decide +kernel
theorem dX11_sheet_4 : decode cX11_sheet 4 = .ok (.ifCond .ne 6, 3) := by decide +kernel
theorem dX11_sheet_7 : decode cX11_sheet 7 = .ok (.bipush (-2), 2) := by decide +kernel
theorem dX11_sheet_9 : decode cX11_sheet 9 = .ok (.ireturn, 1) := by decide +kernel
theorem dX11_sheet_10 : decode cX11_sheet 10 = .ok (.iload_n 2, 1) := by decide +kernel
theorem dX11_sheet_11 : decode cX11_sheet 11 = .ok (.iconst (-1), 1) := by decide +kernel
theorem dX11_sheet_12 : decode cX11_sheet 12 = .ok (.if_icmp .ne 13, 3) := by decide +kernel
theorem dX11_sheet_15 : decode cX11_sheet 15 = .ok (.aload_n 0, 1) := by decide +kernel
theorem dX11_sheet_16 : decode cX11_sheet 16 = .ok (.getfield 40, 3) := by decide +kernel
theorem dX11_sheet_19 : decode cX11_sheet 19 = .ok (.iload_n 1, 1) := by decide +kernel
theorem dX11_sheet_20 : decode cX11_sheet 20 = .ok (.invokevirtual 308, 3) := by decide +kernel
theorem dX11_sheet_23 : decode cX11_sheet 23 = .ok (.iconst 1, 1) := by decide +kernel
theorem dX11_sheet_24 : decode cX11_sheet 24 = .ok (.ireturn, 1) := by decide +kernel
theorem dX11_sheet_25 : decode cX11_sheet 25 = .ok (.iload_n 2, 1) := by decide +kernel
theorem dX11_sheet_26 : decode cX11_sheet 26 = .ok (.invokestatic 311, 3) := by decide +kernel
theorem dX11_sheet_29 : decode cX11_sheet 29 = .ok (.ifCond .eq 9, 3) := by decide +kernel
theorem dX11_sheet_32 : decode cX11_sheet 32 = .ok (.iload_n 3, 1) := by decide +kernel
theorem dX11_sheet_33 : decode cX11_sheet 33 = .ok (.bipush 40, 2) := by decide +kernel
theorem dX11_sheet_35 : decode cX11_sheet 35 = .ok (.if_icmp .le 6, 3) := by decide +kernel
theorem dX11_sheet_38 : decode cX11_sheet 38 = .ok (.bipush (-2), 2) := by decide +kernel
theorem dX11_sheet_40 : decode cX11_sheet 40 = .ok (.ireturn, 1) := by decide +kernel
theorem dX11_sheet_41 : decode cX11_sheet 41 = .ok (.iload_n 3, 1) := by decide +kernel
theorem dX11_sheet_42 : decode cX11_sheet 42 = .ok (.ifCond .ge 6, 3) := by decide +kernel
theorem dX11_sheet_45 : decode cX11_sheet 45 = .ok (.bipush (-14), 2) := by decide +kernel
theorem dX11_sheet_47 : decode cX11_sheet 47 = .ok (.ireturn, 1) := by decide +kernel
theorem dX11_sheet_48 : decode cX11_sheet 48 = .ok (.aload_n 0, 1) := by decide +kernel
theorem dX11_sheet_49 : decode cX11_sheet 49 = .ok (.getfield 40, 3) := by decide +kernel
theorem dX11_sheet_52 : decode cX11_sheet 52 = .ok (.iload_n 1, 1) := by decide +kernel
theorem dX11_sheet_53 : decode cX11_sheet 53 = .ok (.iload_n 2, 1) := by decide +kernel
theorem dX11_sheet_54 : decode cX11_sheet 54 = .ok (.iload_n 3, 1) := by decide +kernel
theorem dX11_sheet_55 : decode cX11_sheet 55 = .ok (.invokevirtual 314, 3) := by decide +kernel
theorem dX11_sheet_58 : decode cX11_sheet 58 = .ok (.iconst 1, 1) := by decide +kernel
theorem dX11_sheet_59 : decode cX11_sheet 59 = .ok (.ireturn, 1) := by decide +kernel
theorem dX11_cell_0 : decode cX11_cell 0 = .ok (.iload_n 1, 1) := by decide +kernel
theorem dX11_cell_1 : decode cX11_cell 1 = .ok (.invokestatic 305, 3) := by decide +kernel
theorem dX11_cell_4 : decode cX11_cell 4 = .ok (.ifCond .ne 6, 3) := by decide +kernel
theorem dX11_cell_7 : decode cX11_cell 7 = .ok (.bipush (-2), 2) := by decide +kernel
theorem dX11_cell_9 : decode cX11_cell 9 = .ok (.ireturn, 1) := by decide +kernel
theorem dX11_cell_10 : decode cX11_cell 10 = .ok (.aload_n 0, 1) := by decide +kernel
theorem dX11_cell_11 : decode cX11_cell 11 = .ok (.getfield 40, 3) := by decide +kernel
theorem dX11_cell_14 : decode cX11_cell 14 = .ok (.getfield 317, 3) := by decide +kernel
theorem dX11_cell_17 : decode cX11_cell 17 = .ok (.iload_n 1, 1) := by decide +kernel
theorem dX11_cell_18 : decode cX11_cell 18 = .ok (.iaload, 1) := by decide +kernel
theorem dX11_cell_19 : decode cX11_cell 19 = .ok (.iconst (-1), 1) := by decide +kernel
theorem dX11_cell_20 : decode cX11_cell 20 = .ok (.if_icmp .ne 6, 3) := by decide +kernel
theorem dX11_cell_23 : decode cX11_cell 23 = .ok (.bipush (-11), 2) := by decide +kernel
theorem dX11_cell_25 : decode cX11_cell 25 = .ok (.ireturn, 1) := by decide +kernel
theorem dX11_cell_26 : decode cX11_cell 26 = .ok (.aload_n 0, 1) := by decide +kernel
theorem dX11_cell_27 : decode cX11_cell 27 = .ok (.getfield 40, 3) := by decide +kernel
theorem dX11_cell_30 : decode cX11_cell 30 = .ok (.iload_n 1, 1) := by decide +kernel
theorem dX11_cell_31 : decode cX11_cell 31 = .ok (.iload_n 2, 1) := by decide +kernel
theorem dX11_cell_32 : decode cX11_cell 32 = .ok (.invokevirtual 320, 3) := by decide +kernel
theorem dX11_cell_35 : decode cX11_cell 35 = .ok (.ifCond .ne 6, 3) := by decide +kernel
theorem dX11_cell_38 : decode cX11_cell 38 = .ok (.bipush (-12), 2) := by decide +kernel
theorem dX11_cell_40 : decode cX11_cell 40 = .ok (.ireturn, 1) := by decide +kernel
theorem dX11_cell_41 : decode cX11_cell 41 = .ok (.aload_n 0, 1) := by decide +kernel
theorem dX11_cell_42 : decode cX11_cell 42 = .ok (.getfield 40, 3) := by decide +kernel
theorem dX11_cell_45 : decode cX11_cell 45 = .ok (.iload_n 1, 1) := by decide +kernel
theorem dX11_cell_46 : decode cX11_cell 46 = .ok (.iload_n 2, 1) := by decide +kernel
theorem dX11_cell_47 : decode cX11_cell 47 = .ok (.iload_n 3, 1) := by decide +kernel
theorem dX11_cell_48 : decode cX11_cell 48 = .ok (.invokevirtual 323, 3) := by decide +kernel
theorem dX11_cell_51 : decode cX11_cell 51 = .ok (.iconst 1, 1) := by decide +kernel
theorem dX11_cell_52 : decode cX11_cell 52 = .ok (.ireturn, 1) := by decide +kernel
theorem dX11_lays_0 : decode cX11_lays 0 = .ok (.iload_n 1, 1) := by decide +kernel
theorem dX11_lays_1 : decode cX11_lays 1 = .ok (.invokestatic 305, 3) := by decide +kernel
theorem dX11_lays_4 : decode cX11_lays 4 = .ok (.ifCond .eq 21, 3) := by decide +kernel
theorem dX11_lays_7 : decode cX11_lays 7 = .ok (.iload_n 2, 1) := by decide +kernel
theorem dX11_lays_8 : decode cX11_lays 8 = .ok (.invokestatic 311, 3) := by decide +kernel
theorem dX11_lays_11 : decode cX11_lays 11 = .ok (.ifCond .eq 14, 3) := by decide +kernel
theorem dX11_lays_14 : decode cX11_lays 14 = .ok (.iload 4, 2) := by decide +kernel
theorem dX11_lays_16 : decode cX11_lays 16 = .ok (.iconst 0, 1) := by decide +kernel
theorem dX11_lays_17 : decode cX11_lays 17 = .ok (.bipush 24, 2) := by decide +kernel
theorem dX11_lays_19 : decode cX11_lays 19 = .ok (.invokestatic 73, 3) := by decide +kernel
theorem dX11_lays_22 : decode cX11_lays 22 = .ok (.ifCond .ne 6, 3) := by decide +kernel
theorem dX11_lays_25 : decode cX11_lays 25 = .ok (.bipush (-2), 2) := by decide +kernel
theorem dX11_lays_27 : decode cX11_lays 27 = .ok (.ireturn, 1) := by decide +kernel
theorem dX11_lays_28 : decode cX11_lays 28 = .ok (.aload_n 0, 1) := by decide +kernel
theorem dX11_lays_29 : decode cX11_lays 29 = .ok (.getfield 55, 3) := by decide +kernel
theorem dX11_lays_32 : decode cX11_lays 32 = .ok (.getfield 218, 3) := by decide +kernel
theorem dX11_lays_35 : decode cX11_lays 35 = .ok (.iload 4, 2) := by decide +kernel
theorem dX11_lays_37 : decode cX11_lays 37 = .ok (.iadd, 1) := by decide +kernel
theorem dX11_lays_38 : decode cX11_lays 38 = .ok (.sipush 9999, 3) := by decide +kernel
theorem dX11_lays_41 : decode cX11_lays 41 = .ok (.if_icmp .le 6, 3) := by decide +kernel
theorem dX11_lays_44 : decode cX11_lays 44 = .ok (.bipush (-4), 2) := by decide +kernel
theorem dX11_lays_46 : decode cX11_lays 46 = .ok (.ireturn, 1) := by decide +kernel
theorem dX11_lays_47 : decode cX11_lays 47 = .ok (.aload_n 0, 1) := by decide +kernel
theorem dX11_lays_48 : decode cX11_lays 48 = .ok (.getfield 40, 3) := by decide +kernel
theorem dX11_lays_51 : decode cX11_lays 51 = .ok (.getfield 317, 3) := by decide +kernel
theorem dX11_lays_54 : decode cX11_lays 54 = .ok (.iload_n 1, 1) := by decide +kernel
theorem dX11_lays_55 : decode cX11_lays 55 = .ok (.iaload, 1) := by decide +kernel
theorem dX11_lays_56 : decode cX11_lays 56 = .ok (.istore 5, 2) := by decide +kernel
theorem dX11_lays_58 : decode cX11_lays 58 = .ok (.iload 5, 2) := by decide +kernel
theorem dX11_lays_60 : decode cX11_lays 60 = .ok (.iconst (-1), 1) := by decide +kernel
theorem dX11_lays_61 : decode cX11_lays 61 = .ok (.if_icmp .ne 6, 3) := by decide +kernel
theorem dX11_lays_64 : decode cX11_lays 64 = .ok (.bipush (-11), 2) := by decide +kernel
theorem dX11_lays_66 : decode cX11_lays 66 = .ok (.ireturn, 1) := by decide +kernel
theorem dX11_lays_67 : decode cX11_lays 67 = .ok (.iload 5, 2) := by decide +kernel
theorem dX11_lays_69 : decode cX11_lays 69 = .ok (.iload_n 2, 1) := by decide +kernel
theorem dX11_lays_70 : decode cX11_lays 70 = .ok (.if_icmp .ne 14, 3) := by decide +kernel
theorem dX11_lays_73 : decode cX11_lays 73 = .ok (.aload_n 0, 1) := by decide +kernel
theorem dX11_lays_74 : decode cX11_lays 74 = .ok (.iload_n 1, 1) := by decide +kernel
theorem dX11_lays_75 : decode cX11_lays 75 = .ok (.iload_n 3, 1) := by decide +kernel
theorem dX11_lays_76 : decode cX11_lays 76 = .ok (.iload 4, 2) := by decide +kernel
theorem dX11_lays_78 : decode cX11_lays 78 = .ok (.invokevirtual 326, 3) := by decide +kernel
theorem dX11_lays_81 : decode cX11_lays 81 = .ok (.goto 5, 3) := by decide +kernel
theorem dX11_lays_84 : decode cX11_lays 84 = .ok (.bipush (-13), 2) := by decide +kernel
theorem dX11_lays_86 : decode cX11_lays 86 = .ok (.ireturn, 1) := by decide +kernel
theorem dX11_layRow_0 : decode cX11_layRow 0 = .ok (.iconst 0, 1) := by decide +kernel
theorem dX11_layRow_1 : decode cX11_layRow 1 = .ok (.istore 4, 2) := by decide +kernel
theorem dX11_layRow_3 : decode cX11_layRow 3 = .ok (.iconst 0, 1) := by decide +kernel
theorem dX11_layRow_4 : decode cX11_layRow 4 = .ok (.istore 5, 2) := by decide +kernel
theorem dX11_layRow_6 : decode cX11_layRow 6 = .ok (.iload 5, 2) := by decide +kernel
theorem dX11_layRow_8 : decode cX11_layRow 8 = .ok (.iload_n 3, 1) := by decide +kernel
theorem dX11_layRow_9 : decode cX11_layRow 9 = .ok (.if_icmp .ge 61, 3) := by decide +kernel
theorem dX11_layRow_12 : decode cX11_layRow 12 = .ok (.aload_n 0, 1) := by decide +kernel
theorem dX11_layRow_13 : decode cX11_layRow 13 = .ok (.getfield 40, 3) := by decide +kernel
theorem dX11_layRow_16 : decode cX11_layRow 16 = .ok (.iload_n 1, 1) := by decide +kernel
theorem dX11_layRow_17 : decode cX11_layRow 17 = .ok (.iload_n 2, 1) := by decide +kernel
theorem dX11_layRow_18 : decode cX11_layRow 18 = .ok (.iload 5, 2) := by decide +kernel
theorem dX11_layRow_20 : decode cX11_layRow 20 = .ok (.iadd, 1) := by decide +kernel
theorem dX11_layRow_21 : decode cX11_layRow 21 = .ok (.invokevirtual 320, 3) := by decide +kernel
theorem dX11_layRow_24 : decode cX11_layRow 24 = .ok (.ifCond .ne 6, 3) := by decide +kernel
theorem dX11_layRow_27 : decode cX11_layRow 27 = .ok (.bipush (-12), 2) := by decide +kernel
theorem dX11_layRow_29 : decode cX11_layRow 29 = .ok (.ireturn, 1) := by decide +kernel
theorem dX11_layRow_30 : decode cX11_layRow 30 = .ok (.aload_n 0, 1) := by decide +kernel
theorem dX11_layRow_31 : decode cX11_layRow 31 = .ok (.getfield 55, 3) := by decide +kernel
theorem dX11_layRow_34 : decode cX11_layRow 34 = .ok (.aload_n 0, 1) := by decide +kernel
theorem dX11_layRow_35 : decode cX11_layRow 35 = .ok (.getfield 40, 3) := by decide +kernel
theorem dX11_layRow_38 : decode cX11_layRow 38 = .ok (.getfield 330, 3) := by decide +kernel
theorem dX11_layRow_41 : decode cX11_layRow 41 = .ok (.iload_n 1, 1) := by decide +kernel
theorem dX11_layRow_42 : decode cX11_layRow 42 = .ok (.aaload, 1) := by decide +kernel
theorem dX11_layRow_43 : decode cX11_layRow 43 = .ok (.iload_n 2, 1) := by decide +kernel
theorem dX11_layRow_44 : decode cX11_layRow 44 = .ok (.iload 5, 2) := by decide +kernel
theorem dX11_layRow_46 : decode cX11_layRow 46 = .ok (.iadd, 1) := by decide +kernel
theorem dX11_layRow_47 : decode cX11_layRow 47 = .ok (.iaload, 1) := by decide +kernel
theorem dX11_layRow_48 : decode cX11_layRow 48 = .ok (.invokevirtual 87, 3) := by decide +kernel
theorem dX11_layRow_51 : decode cX11_layRow 51 = .ok (.ifCond .lt 6, 3) := by decide +kernel
theorem dX11_layRow_54 : decode cX11_layRow 54 = .ok (.iinc 4 1, 3) := by decide +kernel
theorem dX11_layRow_57 : decode cX11_layRow 57 = .ok (.aload_n 0, 1) := by decide +kernel
theorem dX11_layRow_58 : decode cX11_layRow 58 = .ok (.getfield 55, 3) := by decide +kernel
theorem dX11_layRow_61 : decode cX11_layRow 61 = .ok (.invokevirtual 224, 3) := by decide +kernel
theorem dX11_layRow_64 : decode cX11_layRow 64 = .ok (.iinc 5 1, 3) := by decide +kernel
theorem dX11_layRow_67 : decode cX11_layRow 67 = .ok (.goto (-61), 3) := by decide +kernel
theorem dX11_layRow_70 : decode cX11_layRow 70 = .ok (.iload 4, 2) := by decide +kernel
theorem dX11_layRow_72 : decode cX11_layRow 72 = .ok (.ireturn, 1) := by decide +kernel
theorem dX11_taken_0 : decode cX11_taken 0 = .ok (.iload_n 2, 1) := by decide +kernel
theorem dX11_taken_1 : decode cX11_taken 1 = .ok (.invokestatic 136, 3) := by decide +kernel
theorem dX11_taken_4 : decode cX11_taken 4 = .ok (.ifCond .ne 6, 3) := by decide +kernel
theorem dX11_taken_7 : decode cX11_taken 7 = .ok (.bipush (-2), 2) := by decide +kernel
theorem dX11_taken_9 : decode cX11_taken 9 = .ok (.ireturn, 1) := by decide +kernel
theorem dX11_taken_10 : decode cX11_taken 10 = .ok (.aload_n 0, 1) := by decide +kernel
theorem dX11_taken_11 : decode cX11_taken 11 = .ok (.getfield 55, 3) := by decide +kernel
theorem dX11_taken_14 : decode cX11_taken 14 = .ok (.getfield 123, 3) := by decide +kernel
theorem dX11_taken_17 : decode cX11_taken 17 = .ok (.astore_n 3, 1) := by decide +kernel
theorem dX11_taken_18 : decode cX11_taken 18 = .ok (.aload_n 3, 1) := by decide +kernel
theorem dX11_taken_19 : decode cX11_taken 19 = .ok (.iload_n 1, 1) := by decide +kernel
theorem dX11_taken_20 : decode cX11_taken 20 = .ok (.invokevirtual 140, 3) := by decide +kernel
theorem dX11_taken_23 : decode cX11_taken 23 = .ok (.ifCond .ne 6, 3) := by decide +kernel
theorem dX11_taken_26 : decode cX11_taken 26 = .ok (.bipush (-11), 2) := by decide +kernel
theorem dX11_taken_28 : decode cX11_taken 28 = .ok (.ireturn, 1) := by decide +kernel
theorem dX11_taken_29 : decode cX11_taken 29 = .ok (.aload_n 3, 1) := by decide +kernel
theorem dX11_taken_30 : decode cX11_taken 30 = .ok (.getfield 162, 3) := by decide +kernel
theorem dX11_taken_33 : decode cX11_taken 33 = .ok (.iload_n 1, 1) := by decide +kernel
theorem dX11_taken_34 : decode cX11_taken 34 = .ok (.iaload, 1) := by decide +kernel
theorem dX11_taken_35 : decode cX11_taken 35 = .ok (.iload_n 2, 1) := by decide +kernel
theorem dX11_taken_36 : decode cX11_taken 36 = .ok (.invokestatic 334, 3) := by decide +kernel
theorem dX11_taken_39 : decode cX11_taken 39 = .ok (.ifCond .eq 12, 3) := by decide +kernel
theorem dX11_taken_42 : decode cX11_taken 42 = .ok (.aload_n 3, 1) := by decide +kernel
theorem dX11_taken_43 : decode cX11_taken 43 = .ok (.getfield 165, 3) := by decide +kernel
theorem dX11_taken_46 : decode cX11_taken 46 = .ok (.iload_n 1, 1) := by decide +kernel
theorem dX11_taken_47 : decode cX11_taken 47 = .ok (.iaload, 1) := by decide +kernel
theorem dX11_taken_48 : decode cX11_taken 48 = .ok (.goto 5, 3) := by decide +kernel
theorem dX11_taken_51 : decode cX11_taken 51 = .ok (.bipush (-13), 2) := by decide +kernel
theorem dX11_taken_53 : decode cX11_taken 53 = .ok (.ireturn, 1) := by decide +kernel
theorem dX12_in_0 : decode cX12_in 0 = .ok (.iload_n 1, 1) := by decide +kernel
theorem dX12_in_1 : decode cX12_in 1 = .ok (.iload_n 2, 1) := by decide +kernel
theorem dX12_in_2 : decode cX12_in 2 = .ok (.if_icmp .lt 12, 3) := by decide +kernel
theorem dX12_in_5 : decode cX12_in 5 = .ok (.iload_n 1, 1) := by decide +kernel
theorem dX12_in_6 : decode cX12_in 6 = .ok (.iload_n 3, 1) := by decide +kernel
theorem dX12_in_7 : decode cX12_in 7 = .ok (.if_icmp .gt 7, 3) := by decide +kernel
theorem dX12_in_10 : decode cX12_in 10 = .ok (.iconst 1, 1) := by decide +kernel
theorem dX12_in_11 : decode cX12_in 11 = .ok (.goto 4, 3) := by decide +kernel
theorem dX12_in_14 : decode cX12_in 14 = .ok (.iconst 0, 1) := by decide +kernel
theorem dX12_in_15 : decode cX12_in 15 = .ok (.ireturn, 1) := by decide +kernel
theorem dX12_init_0 : decode cX12_init 0 = .ok (.aload_n 0, 1) := by decide +kernel
theorem dX12_init_1 : decode cX12_init 1 = .ok (.invokespecial 1, 3) := by decide +kernel
theorem dX12_init_4 : decode cX12_init 4 = .ok (.aload_n 0, 1) := by decide +kernel
theorem dX12_init_5 : decode cX12_init 5 = .ok (.iconst 0, 1) := by decide +kernel
theorem dX12_init_6 : decode cX12_init 6 = .ok (.putfield 7, 3) := by decide +kernel
theorem dX12_init_9 : decode cX12_init 9 = .ok (.aload_n 0, 1) := by decide +kernel
theorem dX12_init_10 : decode cX12_init 10 = .ok (.iconst 0, 1) := by decide +kernel
theorem dX12_init_11 : decode cX12_init 11 = .ok (.putfield 13, 3) := by decide +kernel
theorem dX12_init_14 : decode cX12_init 14 = .ok (.aload_n 0, 1) := by decide +kernel
theorem dX12_init_15 : decode cX12_init 15 = .ok (.iconst 0, 1) := by decide +kernel
theorem dX12_init_16 : decode cX12_init 16 = .ok (.putfield 16, 3) := by decide +kernel
theorem dX12_init_19 : decode cX12_init 19 = .ok (.aload_n 0, 1) := by decide +kernel
theorem dX12_init_20 : decode cX12_init 20 = .ok (.bipush 50, 2) := by decide +kernel
theorem dX12_init_22 : decode cX12_init 22 = .ok (.putfield 19, 3) := by decide +kernel
theorem dX12_init_25 : decode cX12_init 25 = .ok (.aload_n 0, 1) := by decide +kernel
theorem dX12_init_26 : decode cX12_init 26 = .ok (.bipush 6, 2) := by decide +kernel
theorem dX12_init_28 : decode cX12_init 28 = .ok (.newarray .int, 2) := by decide +kernel
theorem dX12_init_30 : decode cX12_init 30 = .ok (.putfield 22, 3) := by decide +kernel
theorem dX12_init_33 : decode cX12_init 33 = .ok (.aload_n 0, 1) := by decide +kernel
theorem dX12_init_34 : decode cX12_init 34 = .ok (.bipush 6, 2) := by decide +kernel
theorem dX12_init_36 : decode cX12_init 36 = .ok (.newarray .int, 2) := by decide +kernel
theorem dX12_init_38 : decode cX12_init 38 = .ok (.putfield 26, 3) := by decide +kernel
theorem dX12_init_41 : decode cX12_init 41 = .ok (.aload_n 0, 1) := by decide +kernel
theorem dX12_init_42 : decode cX12_init 42 = .ok (.iconst 5, 1) := by decide +kernel
theorem dX12_init_43 : decode cX12_init 43 = .ok (.newarray .int, 2) := by decide +kernel
theorem dX12_init_45 : decode cX12_init 45 = .ok (.putfield 29, 3) := by decide +kernel
theorem dX12_init_48 : decode cX12_init 48 = .ok (.aload_n 0, 1) := by decide +kernel
theorem dX12_init_49 : decode cX12_init 49 = .ok (.sipush 300, 3) := by decide +kernel
theorem dX12_init_52 : decode cX12_init 52 = .ok (.newarray .int, 2) := by decide +kernel
theorem dX12_init_54 : decode cX12_init 54 = .ok (.putfield 32, 3) := by decide +kernel
theorem dX12_init_57 : decode cX12_init 57 = .ok (.aload_n 0, 1) := by decide +kernel
theorem dX12_init_58 : decode cX12_init 58 = .ok (.sipush 300, 3) := by decide +kernel
theorem dX12_init_61 : decode cX12_init 61 = .ok (.newarray .int, 2) := by decide +kernel
theorem dX12_init_63 : decode cX12_init 63 = .ok (.putfield 35, 3) := by decide +kernel
theorem dX12_init_66 : decode cX12_init 66 = .ok (.aload_n 0, 1) := by decide +kernel
theorem dX12_init_67 : decode cX12_init 67 = .ok (.sipush 300, 3) := by decide +kernel
theorem dX12_init_70 : decode cX12_init 70 = .ok (.newarray .int, 2) := by decide +kernel
theorem dX12_init_72 : decode cX12_init 72 = .ok (.putfield 38, 3) := by decide +kernel
theorem dX12_init_75 : decode cX12_init 75 = .ok (.aload_n 0, 1) := by decide +kernel
theorem dX12_init_76 : decode cX12_init 76 = .ok (.sipush 300, 3) := by decide +kernel
theorem dX12_init_79 : decode cX12_init 79 = .ok (.newarray .int, 2) := by decide +kernel
theorem dX12_init_81 : decode cX12_init 81 = .ok (.putfield 41, 3) := by decide +kernel
theorem dX12_init_84 : decode cX12_init 84 = .ok (.aload_n 0, 1) := by decide +kernel
theorem dX12_init_85 : decode cX12_init 85 = .ok (.sipush 300, 3) := by decide +kernel
theorem dX12_init_88 : decode cX12_init 88 = .ok (.newarray .int, 2) := by decide +kernel
theorem dX12_init_90 : decode cX12_init 90 = .ok (.putfield 44, 3) := by decide +kernel
theorem dX12_init_93 : decode cX12_init 93 = .ok (.aload_n 0, 1) := by decide +kernel
theorem dX12_init_94 : decode cX12_init 94 = .ok (.bipush 12, 2) := by decide +kernel
theorem dX12_init_96 : decode cX12_init 96 = .ok (.newarray .int, 2) := by decide +kernel
theorem dX12_init_98 : decode cX12_init 98 = .ok (.putfield 47, 3) := by decide +kernel
theorem dX12_init_101 : decode cX12_init 101 = .ok (.aload_n 0, 1) := by decide +kernel
theorem dX12_init_102 : decode cX12_init 102 = .ok (.bipush 12, 2) := by decide +kernel
theorem dX12_init_104 : decode cX12_init 104 = .ok (.newarray .int, 2) := by decide +kernel
theorem dX12_init_106 : decode cX12_init 106 = .ok (.putfield 50, 3) := by decide +kernel
theorem dX12_init_109 : decode cX12_init 109 = .ok (.aload_n 0, 1) := by decide +kernel
theorem dX12_init_110 : decode cX12_init 110 = .ok (.bipush 16, 2) := by decide +kernel
theorem dX12_init_112 : decode cX12_init 112 = .ok (.newarray .int, 2) := by decide +kernel
theorem dX12_init_114 : decode cX12_init 114 = .ok (.putfield 53, 3) := by decide +kernel
theorem dX12_init_117 : decode cX12_init 117 = .ok (.aload_n 0, 1) := by decide +kernel
theorem dX12_init_118 : decode cX12_init 118 = .ok (.sipush 300, 3) := by decide +kernel
theorem dX12_init_121 : decode cX12_init 121 = .ok (.newarray .int, 2) := by decide +kernel
theorem dX12_init_123 : decode cX12_init 123 = .ok (.putfield 56, 3) := by decide +kernel
theorem dX12_init_126 : decode cX12_init 126 = .ok (.aload_n 0, 1) := by decide +kernel
theorem dX12_init_127 : decode cX12_init 127 = .ok (.iconst 0, 1) := by decide +kernel
theorem dX12_init_128 : decode cX12_init 128 = .ok (.putfield 59, 3) := by decide +kernel
theorem dX12_init_131 : decode cX12_init 131 = .ok (.aload_n 0, 1) := by decide +kernel
theorem dX12_init_132 : decode cX12_init 132 = .ok (.iconst 0, 1) := by decide +kernel
theorem dX12_init_133 : decode cX12_init 133 = .ok (.putfield 62, 3) := by decide +kernel
theorem dX12_init_136 : decode cX12_init 136 = .ok (.aload_n 0, 1) := by decide +kernel
theorem dX12_init_137 : decode cX12_init 137 = .ok (.bipush 8, 2) := by decide +kernel
theorem dX12_init_139 : decode cX12_init 139 = .ok (.newarray .int, 2) := by decide +kernel
theorem dX12_init_141 : decode cX12_init 141 = .ok (.putfield 65, 3) := by decide +kernel
theorem dX12_init_144 : decode cX12_init 144 = .ok (.aload_n 0, 1) := by decide +kernel
theorem dX12_init_145 : decode cX12_init 145 = .ok (.bipush 8, 2) := by decide +kernel
theorem dX12_init_147 : decode cX12_init 147 = .ok (.newarray .int, 2) := by decide +kernel
theorem dX12_init_149 : decode cX12_init 149 = .ok (.putfield 68, 3) := by decide +kernel
theorem dX12_init_152 : decode cX12_init 152 = .ok (.aload_n 0, 1) := by decide +kernel
theorem dX12_init_153 : decode cX12_init 153 = .ok (.bipush 8, 2) := by decide +kernel
theorem dX12_init_155 : decode cX12_init 155 = .ok (.newarray .int, 2) := by decide +kernel
theorem dX12_init_157 : decode cX12_init 157 = .ok (.putfield 71, 3) := by decide +kernel
theorem dX12_init_160 : decode cX12_init 160 = .ok (.aload_n 0, 1) := by decide +kernel
theorem dX12_init_161 : decode cX12_init 161 = .ok (.bipush 8, 2) := by decide +kernel
theorem dX12_init_163 : decode cX12_init 163 = .ok (.newarray .int, 2) := by decide +kernel
theorem dX12_init_165 : decode cX12_init 165 = .ok (.putfield 74, 3) := by decide +kernel
theorem dX12_init_168 : decode cX12_init 168 = .ok (.aload_n 0, 1) := by decide +kernel
theorem dX12_init_169 : decode cX12_init 169 = .ok (.bipush 8, 2) := by decide +kernel
theorem dX12_init_171 : decode cX12_init 171 = .ok (.newarray .int, 2) := by decide +kernel
theorem dX12_init_173 : decode cX12_init 173 = .ok (.putfield 77, 3) := by decide +kernel
theorem dX12_init_176 : decode cX12_init 176 = .ok (.aload_n 0, 1) := by decide +kernel
theorem dX12_init_177 : decode cX12_init 177 = .ok (.bipush 8, 2) := by decide +kernel
theorem dX12_init_179 : decode cX12_init 179 = .ok (.newarray .int, 2) := by decide +kernel
theorem dX12_init_181 : decode cX12_init 181 = .ok (.putfield 80, 3) := by decide +kernel
theorem dX12_init_184 : decode cX12_init 184 = .ok (.aload_n 0, 1) := by decide +kernel
theorem dX12_init_185 : decode cX12_init 185 = .ok (.bipush 48, 2) := by decide +kernel
theorem dX12_init_187 : decode cX12_init 187 = .ok (.newarray .int, 2) := by decide +kernel
theorem dX12_init_189 : decode cX12_init 189 = .ok (.putfield 83, 3) := by decide +kernel
theorem dX12_init_192 : decode cX12_init 192 = .ok (.aload_n 0, 1) := by decide +kernel
theorem dX12_init_193 : decode cX12_init 193 = .ok (.bipush 8, 2) := by decide +kernel
theorem dX12_init_195 : decode cX12_init 195 = .ok (.newarray .boolean, 2) := by decide +kernel
theorem dX12_init_197 : decode cX12_init 197 = .ok (.putfield 86, 3) := by decide +kernel
theorem dX12_init_200 : decode cX12_init 200 = .ok (.aload_n 0, 1) := by decide +kernel
theorem dX12_init_201 : decode cX12_init 201 = .ok (.sipush 160, 3) := by decide +kernel
theorem dX12_init_204 : decode cX12_init 204 = .ok (.newarray .byte, 2) := by decide +kernel
theorem dX12_init_206 : decode cX12_init 206 = .ok (.putfield 90, 3) := by decide +kernel
theorem dX12_init_209 : decode cX12_init 209 = .ok (.aload_n 0, 1) := by decide +kernel
theorem dX12_init_210 : decode cX12_init 210 = .ok (.iconst 0, 1) := by decide +kernel
theorem dX12_init_211 : decode cX12_init 211 = .ok (.putfield 94, 3) := by decide +kernel
theorem dX12_init_214 : decode cX12_init 214 = .ok (.aload_n 0, 1) := by decide +kernel
theorem dX12_init_215 : decode cX12_init 215 = .ok (.iconst 1, 1) := by decide +kernel
theorem dX12_init_216 : decode cX12_init 216 = .ok (.putfield 97, 3) := by decide +kernel
theorem dX12_init_219 : decode cX12_init 219 = .ok (.aload_n 0, 1) := by decide +kernel
theorem dX12_init_220 : decode cX12_init 220 = .ok (.iconst 0, 1) := by decide +kernel
theorem dX12_init_221 : decode cX12_init 221 = .ok (.putfield 100, 3) := by decide +kernel
theorem dX12_init_224 : decode cX12_init 224 = .ok (.aload_n 0, 1) := by decide +kernel
theorem dX12_init_225 : decode cX12_init 225 = .ok (.bipush 12, 2) := by decide +kernel
theorem dX12_init_227 : decode cX12_init 227 = .ok (.newarray .int, 2) := by decide +kernel
theorem dX12_init_229 : decode cX12_init 229 = .ok (.putfield 103, 3) := by decide +kernel
theorem dX12_init_232 : decode cX12_init 232 = .ok (.aload_n 0, 1) := by decide +kernel
theorem dX12_init_233 : decode cX12_init 233 = .ok (.sipush 1920, 3) := by decide +kernel
theorem dX12_init_236 : decode cX12_init 236 = .ok (.newarray .int, 2) := by decide +kernel
theorem dX12_init_238 : decode cX12_init 238 = .ok (.putfield 106, 3) := by decide +kernel
theorem dX12_init_241 : decode cX12_init 241 = .ok (.aload_n 0, 1) := by decide +kernel
theorem dX12_init_242 : decode cX12_init 242 = .ok (.iconst 0, 1) := by decide +kernel
theorem dX12_init_243 : decode cX12_init 243 = .ok (.putfield 109, 3) := by decide +kernel
theorem dX12_init_246 : decode cX12_init 246 = .ok (.aload_n 0, 1) := by decide +kernel
theorem dX12_init_247 : decode cX12_init 247 = .ok (.iconst 0, 1) := by decide +kernel
theorem dX12_init_248 : decode cX12_init 248 = .ok (.putfield 112, 3) := by decide +kernel
theorem dX12_init_251 : decode cX12_init 251 = .ok (.aload_n 0, 1) := by decide +kernel
theorem dX12_init_252 : decode cX12_init 252 = .ok (.iconst 0, 1) := by decide +kernel
theorem dX12_init_253 : decode cX12_init 253 = .ok (.putfield 115, 3) := by decide +kernel
theorem dX12_init_256 : decode cX12_init 256 = .ok (.aload_n 0, 1) := by decide +kernel
theorem dX12_init_257 : decode cX12_init 257 = .ok (.iconst 0, 1) := by decide +kernel
theorem dX12_init_258 : decode cX12_init 258 = .ok (.putfield 118, 3) := by decide +kernel
theorem dX12_init_261 : decode cX12_init 261 = .ok (.aload_n 0, 1) := by decide +kernel
theorem dX12_init_262 : decode cX12_init 262 = .ok (.sipush 161, 3) := by decide +kernel
theorem dX12_init_265 : decode cX12_init 265 = .ok (.newarray .int, 2) := by decide +kernel
theorem dX12_init_267 : decode cX12_init 267 = .ok (.putfield 121, 3) := by decide +kernel
theorem dX12_init_270 : decode cX12_init 270 = .ok (.aload_n 0, 1) := by decide +kernel
theorem dX12_init_271 : decode cX12_init 271 = .ok (.bipush 7, 2) := by decide +kernel
theorem dX12_init_273 : decode cX12_init 273 = .ok (.newarray .boolean, 2) := by decide +kernel
theorem dX12_init_275 : decode cX12_init 275 = .ok (.putfield 124, 3) := by decide +kernel
theorem dX12_init_278 : decode cX12_init 278 = .ok (.aload_n 0, 1) := by decide +kernel
theorem dX12_init_279 : decode cX12_init 279 = .ok (.iconst 0, 1) := by decide +kernel
theorem dX12_init_280 : decode cX12_init 280 = .ok (.putfield 127, 3) := by decide +kernel
theorem dX12_init_283 : decode cX12_init 283 = .ok (.aload_n 0, 1) := by decide +kernel
theorem dX12_init_284 : decode cX12_init 284 = .ok (.iconst 0, 1) := by decide +kernel
theorem dX12_init_285 : decode cX12_init 285 = .ok (.putfield 130, 3) := by decide +kernel
theorem dX12_init_288 : decode cX12_init 288 = .ok (.aload_n 0, 1) := by decide +kernel
theorem dX12_init_289 : decode cX12_init 289 = .ok (.iconst 0, 1) := by decide +kernel
theorem dX12_init_290 : decode cX12_init 290 = .ok (.putfield 133, 3) := by decide +kernel
theorem dX12_init_293 : decode cX12_init 293 = .ok (.aload_n 0, 1) := by decide +kernel
theorem dX12_init_294 : decode cX12_init 294 = .ok (.iconst 0, 1) := by decide +kernel
theorem dX12_init_295 : decode cX12_init 295 = .ok (.putfield 136, 3) := by decide +kernel
theorem dX12_init_298 : decode cX12_init 298 = .ok (.aload_n 0, 1) := by decide +kernel
theorem dX12_init_299 : decode cX12_init 299 = .ok (.bipush 6, 2) := by decide +kernel
theorem dX12_init_301 : decode cX12_init 301 = .ok (.newarray .int, 2) := by decide +kernel
theorem dX12_init_303 : decode cX12_init 303 = .ok (.putfield 139, 3) := by decide +kernel
theorem dX12_init_306 : decode cX12_init 306 = .ok (.aload_n 0, 1) := by decide +kernel
theorem dX12_init_307 : decode cX12_init 307 = .ok (.sipush 161, 3) := by decide +kernel
theorem dX12_init_310 : decode cX12_init 310 = .ok (.newarray .int, 2) := by decide +kernel
theorem dX12_init_312 : decode cX12_init 312 = .ok (.putfield 142, 3) := by decide +kernel
theorem dX12_init_315 : decode cX12_init 315 = .ok (.aload_n 0, 1) := by decide +kernel
theorem dX12_init_316 : decode cX12_init 316 = .ok (.iconst 0, 1) := by decide +kernel
theorem dX12_init_317 : decode cX12_init 317 = .ok (.putfield 145, 3) := by decide +kernel
theorem dX12_init_320 : decode cX12_init 320 = .ok (.aload_n 0, 1) := by decide +kernel
theorem dX12_init_321 : decode cX12_init 321 = .ok (.iconst 0, 1) := by decide +kernel
theorem dX12_init_322 : decode cX12_init 322 = .ok (.putfield 148, 3) := by decide +kernel
theorem dX12_init_325 : decode cX12_init 325 = .ok (.aload_n 0, 1) := by decide +kernel
theorem dX12_init_326 : decode cX12_init 326 = .ok (.iconst 0, 1) := by decide +kernel
theorem dX12_init_327 : decode cX12_init 327 = .ok (.putfield 151, 3) := by decide +kernel
theorem dX12_init_330 : decode cX12_init 330 = .ok (.aload_n 0, 1) := by decide +kernel
theorem dX12_init_331 : decode cX12_init 331 = .ok (.sipush 300, 3) := by decide +kernel
theorem dX12_init_334 : decode cX12_init 334 = .ok (.newarray .int, 2) := by decide +kernel
theorem dX12_init_336 : decode cX12_init 336 = .ok (.putfield 154, 3) := by decide +kernel
theorem dX12_init_339 : decode cX12_init 339 = .ok (.aload_n 0, 1) := by decide +kernel
theorem dX12_init_340 : decode cX12_init 340 = .ok (.sipush 300, 3) := by decide +kernel
theorem dX12_init_343 : decode cX12_init 343 = .ok (.newarray .int, 2) := by decide +kernel
theorem dX12_init_345 : decode cX12_init 345 = .ok (.putfield 157, 3) := by decide +kernel
theorem dX12_init_348 : decode cX12_init 348 = .ok (.aload_n 0, 1) := by decide +kernel
theorem dX12_init_349 : decode cX12_init 349 = .ok (.sipush 300, 3) := by decide +kernel
theorem dX12_init_352 : decode cX12_init 352 = .ok (.newarray .int, 2) := by decide +kernel
theorem dX12_init_354 : decode cX12_init 354 = .ok (.putfield 160, 3) := by decide +kernel
theorem dX12_init_357 : decode cX12_init 357 = .ok (.aload_n 0, 1) := by decide +kernel
theorem dX12_init_358 : decode cX12_init 358 = .ok (.bipush 12, 2) := by decide +kernel
theorem dX12_init_360 : decode cX12_init 360 = .ok (.newarray .int, 2) := by decide +kernel
theorem dX12_init_362 : decode cX12_init 362 = .ok (.putfield 163, 3) := by decide +kernel
theorem dX12_init_365 : decode cX12_init 365 = .ok (.aload_n 0, 1) := by decide +kernel
theorem dX12_init_366 : decode cX12_init 366 = .ok (.bipush 12, 2) := by decide +kernel
theorem dX12_init_368 : decode cX12_init 368 = .ok (.newarray .int, 2) := by decide +kernel
theorem dX12_init_370 : decode cX12_init 370 = .ok (.putfield 166, 3) := by decide +kernel
theorem dX12_init_373 : decode cX12_init 373 = .ok (.aload_n 0, 1) := by decide +kernel
theorem dX12_init_374 : decode cX12_init 374 = .ok (.bipush 16, 2) := by decide +kernel
theorem dX12_init_376 : decode cX12_init 376 = .ok (.newarray .int, 2) := by decide +kernel
theorem dX12_init_378 : decode cX12_init 378 = .ok (.putfield 169, 3) := by decide +kernel
theorem dX12_init_381 : decode cX12_init 381 = .ok (.aload_n 0, 1) := by decide +kernel
theorem dX12_init_382 : decode cX12_init 382 = .ok (.bipush 40, 2) := by decide +kernel
theorem dX12_init_384 : decode cX12_init 384 = .ok (.newarray .int, 2) := by decide +kernel
theorem dX12_init_386 : decode cX12_init 386 = .ok (.putfield 172, 3) := by decide +kernel
theorem dX12_init_389 : decode cX12_init 389 = .ok (.aload_n 0, 1) := by decide +kernel
theorem dX12_init_390 : decode cX12_init 390 = .ok (.bipush 8, 2) := by decide +kernel
theorem dX12_init_392 : decode cX12_init 392 = .ok (.newarray .boolean, 2) := by decide +kernel
theorem dX12_init_394 : decode cX12_init 394 = .ok (.putfield 175, 3) := by decide +kernel
theorem dX12_init_397 : decode cX12_init 397 = .ok (.aload_n 0, 1) := by decide +kernel
theorem dX12_init_398 : decode cX12_init 398 = .ok (.iconst 0, 1) := by decide +kernel
theorem dX12_init_399 : decode cX12_init 399 = .ok (.putfield 178, 3) := by decide +kernel
theorem dX12_init_402 : decode cX12_init 402 = .ok (.aload_n 0, 1) := by decide +kernel
theorem dX12_init_403 : decode cX12_init 403 = .ok (.iconst 0, 1) := by decide +kernel
theorem dX12_init_404 : decode cX12_init 404 = .ok (.putfield 181, 3) := by decide +kernel
theorem dX12_init_407 : decode cX12_init 407 = .ok (.aload_n 0, 1) := by decide +kernel
theorem dX12_init_408 : decode cX12_init 408 = .ok (.iconst 0, 1) := by decide +kernel
theorem dX12_init_409 : decode cX12_init 409 = .ok (.putfield 184, 3) := by decide +kernel
theorem dX12_init_412 : decode cX12_init 412 = .ok (.aload_n 0, 1) := by decide +kernel
theorem dX12_init_413 : decode cX12_init 413 = .ok (.iconst 0, 1) := by decide +kernel
theorem dX12_init_414 : decode cX12_init 414 = .ok (.putfield 187, 3) := by decide +kernel
theorem dX12_init_417 : decode cX12_init 417 = .ok (.aload_n 0, 1) := by decide +kernel
theorem dX12_init_418 : decode cX12_init 418 = .ok (.iconst 0, 1) := by decide +kernel
theorem dX12_init_419 : decode cX12_init 419 = .ok (.putfield 190, 3) := by decide +kernel
theorem dX12_init_422 : decode cX12_init 422 = .ok (.aload_n 0, 1) := by decide +kernel
theorem dX12_init_423 : decode cX12_init 423 = .ok (.iconst 0, 1) := by decide +kernel
theorem dX12_init_424 : decode cX12_init 424 = .ok (.putfield 193, 3) := by decide +kernel
theorem dX12_init_427 : decode cX12_init 427 = .ok (.aload_n 0, 1) := by decide +kernel
theorem dX12_init_428 : decode cX12_init 428 = .ok (.bipush 7, 2) := by decide +kernel
theorem dX12_init_430 : decode cX12_init 430 = .ok (.newarray .int, 2) := by decide +kernel
theorem dX12_init_432 : decode cX12_init 432 = .ok (.putfield 196, 3) := by decide +kernel
theorem dX12_init_435 : decode cX12_init 435 = .ok (.aload_n 0, 1) := by decide +kernel
theorem dX12_init_436 : decode cX12_init 436 = .ok (.bipush 31, 2) := by decide +kernel
theorem dX12_init_438 : decode cX12_init 438 = .ok (.newarray .int, 2) := by decide +kernel
theorem dX12_init_440 : decode cX12_init 440 = .ok (.putfield 199, 3) := by decide +kernel
theorem dX12_init_443 : decode cX12_init 443 = .ok (.aload_n 0, 1) := by decide +kernel
theorem dX12_init_444 : decode cX12_init 444 = .ok (.iconst 4, 1) := by decide +kernel
theorem dX12_init_445 : decode cX12_init 445 = .ok (.newarray .int, 2) := by decide +kernel
theorem dX12_init_447 : decode cX12_init 447 = .ok (.dup, 1) := by decide +kernel
theorem dX12_init_448 : decode cX12_init 448 = .ok (.iconst 0, 1) := by decide +kernel
theorem dX12_init_449 : decode cX12_init 449 = .ok (.iconst (-1), 1) := by decide +kernel
theorem dX12_init_450 : decode cX12_init 450 = .ok (.iastore, 1) := by decide +kernel
theorem dX12_init_451 : decode cX12_init 451 = .ok (.dup, 1) := by decide +kernel
theorem dX12_init_452 : decode cX12_init 452 = .ok (.iconst 1, 1) := by decide +kernel
theorem dX12_init_453 : decode cX12_init 453 = .ok (.iconst (-1), 1) := by decide +kernel
theorem dX12_init_454 : decode cX12_init 454 = .ok (.iastore, 1) := by decide +kernel
theorem dX12_init_455 : decode cX12_init 455 = .ok (.dup, 1) := by decide +kernel
theorem dX12_init_456 : decode cX12_init 456 = .ok (.iconst 2, 1) := by decide +kernel
theorem dX12_init_457 : decode cX12_init 457 = .ok (.iconst (-1), 1) := by decide +kernel
theorem dX12_init_458 : decode cX12_init 458 = .ok (.iastore, 1) := by decide +kernel
theorem dX12_init_459 : decode cX12_init 459 = .ok (.dup, 1) := by decide +kernel
theorem dX12_init_460 : decode cX12_init 460 = .ok (.iconst 3, 1) := by decide +kernel
theorem dX12_init_461 : decode cX12_init 461 = .ok (.iconst (-1), 1) := by decide +kernel
theorem dX12_init_462 : decode cX12_init 462 = .ok (.iastore, 1) := by decide +kernel
theorem dX12_init_463 : decode cX12_init 463 = .ok (.putfield 202, 3) := by decide +kernel
theorem dX12_init_466 : decode cX12_init 466 = .ok (.aload_n 0, 1) := by decide +kernel
theorem dX12_init_467 : decode cX12_init 467 = .ok (.iconst 4, 1) := by decide +kernel
theorem dX12_init_468 : decode cX12_init 468 = .ok (.newarray .int, 2) := by decide +kernel
theorem dX12_init_470 : decode cX12_init 470 = .ok (.putfield 205, 3) := by decide +kernel
theorem dX12_init_473 : decode cX12_init 473 = .ok (.aload_n 0, 1) := by decide +kernel
theorem dX12_init_474 : decode cX12_init 474 = .ok (.sipush 160, 3) := by decide +kernel
theorem dX12_init_477 : decode cX12_init 477 = .ok (.newarray .int, 2) := by decide +kernel
theorem dX12_init_479 : decode cX12_init 479 = .ok (.putfield 208, 3) := by decide +kernel
theorem dX12_init_482 : decode cX12_init 482 = .ok (.aload_n 0, 1) := by decide +kernel
theorem dX12_init_483 : decode cX12_init 483 = .ok (.bipush 6, 2) := by decide +kernel
theorem dX12_init_485 : decode cX12_init 485 = .ok (.iload_n 1, 1) := by decide +kernel
theorem dX12_init_486 : decode cX12_init 486 = .ok (.bipush 7, 2) := by decide +kernel
theorem dX12_init_488 : decode cX12_init 488 = .ok (.irem, 1) := by decide +kernel
theorem dX12_init_489 : decode cX12_init 489 = .ok (.bipush 7, 2) := by decide +kernel
theorem dX12_init_491 : decode cX12_init 491 = .ok (.iadd, 1) := by decide +kernel
theorem dX12_init_492 : decode cX12_init 492 = .ok (.bipush 7, 2) := by decide +kernel
theorem dX12_init_494 : decode cX12_init 494 = .ok (.irem, 1) := by decide +kernel
theorem dX12_init_495 : decode cX12_init 495 = .ok (.iadd, 1) := by decide +kernel
theorem dX12_init_496 : decode cX12_init 496 = .ok (.putfield 211, 3) := by decide +kernel
theorem dX12_init_499 : decode cX12_init 499 = .ok (.iconst 0, 1) := by decide +kernel
theorem dX12_init_500 : decode cX12_init 500 = .ok (.istore_n 2, 1) := by decide +kernel
theorem dX12_init_501 : decode cX12_init 501 = .ok (.iload_n 2, 1) := by decide +kernel
theorem dX12_init_502 : decode cX12_init 502 = .ok (.bipush 6, 2) := by decide +kernel
theorem dX12_init_504 : decode cX12_init 504 = .ok (.if_icmp .ge 26, 3) := by decide +kernel
theorem dX12_init_507 : decode cX12_init 507 = .ok (.aload_n 0, 1) := by decide +kernel
theorem dX12_init_508 : decode cX12_init 508 = .ok (.getfield 22, 3) := by decide +kernel
theorem dX12_init_511 : decode cX12_init 511 = .ok (.iload_n 2, 1) := by decide +kernel
theorem dX12_init_512 : decode cX12_init 512 = .ok (.iload_n 2, 1) := by decide +kernel
theorem dX12_init_513 : decode cX12_init 513 = .ok (.iconst 5, 1) := by decide +kernel
theorem dX12_init_514 : decode cX12_init 514 = .ok (.irem, 1) := by decide +kernel
theorem dX12_init_515 : decode cX12_init 515 = .ok (.iastore, 1) := by decide +kernel
theorem dX12_init_516 : decode cX12_init 516 = .ok (.aload_n 0, 1) := by decide +kernel
theorem dX12_init_517 : decode cX12_init 517 = .ok (.getfield 26, 3) := by decide +kernel
theorem dX12_init_520 : decode cX12_init 520 = .ok (.iload_n 2, 1) := by decide +kernel
theorem dX12_init_521 : decode cX12_init 521 = .ok (.bipush 20, 2) := by decide +kernel
theorem dX12_init_523 : decode cX12_init 523 = .ok (.iastore, 1) := by decide +kernel
theorem dX12_init_524 : decode cX12_init 524 = .ok (.iinc 2 1, 3) := by decide +kernel
theorem dX12_init_527 : decode cX12_init 527 = .ok (.goto (-26), 3) := by decide +kernel
theorem dX12_init_530 : decode cX12_init 530 = .ok (.iconst 0, 1) := by decide +kernel
theorem dX12_init_531 : decode cX12_init 531 = .ok (.istore_n 2, 1) := by decide +kernel
theorem dX12_init_532 : decode cX12_init 532 = .ok (.iload_n 2, 1) := by decide +kernel
theorem dX12_init_533 : decode cX12_init 533 = .ok (.iconst 5, 1) := by decide +kernel
theorem dX12_init_534 : decode cX12_init 534 = .ok (.if_icmp .ge 17, 3) := by decide +kernel
theorem dX12_init_537 : decode cX12_init 537 = .ok (.aload_n 0, 1) := by decide +kernel
theorem dX12_init_538 : decode cX12_init 538 = .ok (.getfield 29, 3) := by decide +kernel
theorem dX12_init_541 : decode cX12_init 541 = .ok (.iload_n 2, 1) := by decide +kernel
theorem dX12_init_542 : decode cX12_init 542 = .ok (.bipush 100, 2) := by decide +kernel
theorem dX12_init_544 : decode cX12_init 544 = .ok (.iastore, 1) := by decide +kernel
theorem dX12_init_545 : decode cX12_init 545 = .ok (.iinc 2 1, 3) := by decide +kernel
theorem dX12_init_548 : decode cX12_init 548 = .ok (.goto (-16), 3) := by decide +kernel
theorem dX12_init_551 : decode cX12_init 551 = .ok (.iconst 0, 1) := by decide +kernel
theorem dX12_init_552 : decode cX12_init 552 = .ok (.istore_n 2, 1) := by decide +kernel
theorem dX12_init_553 : decode cX12_init 553 = .ok (.iload_n 2, 1) := by decide +kernel
theorem dX12_init_554 : decode cX12_init 554 = .ok (.bipush 12, 2) := by decide +kernel
theorem dX12_init_556 : decode cX12_init 556 = .ok (.if_icmp .ge 23, 3) := by decide +kernel
theorem dX12_init_559 : decode cX12_init 559 = .ok (.aload_n 0, 1) := by decide +kernel
theorem dX12_init_560 : decode cX12_init 560 = .ok (.getfield 47, 3) := by decide +kernel
theorem dX12_init_563 : decode cX12_init 563 = .ok (.iload_n 2, 1) := by decide +kernel
theorem dX12_init_564 : decode cX12_init 564 = .ok (.iconst (-1), 1) := by decide +kernel
theorem dX12_init_565 : decode cX12_init 565 = .ok (.iastore, 1) := by decide +kernel
theorem dX12_init_566 : decode cX12_init 566 = .ok (.aload_n 0, 1) := by decide +kernel
theorem dX12_init_567 : decode cX12_init 567 = .ok (.getfield 50, 3) := by decide +kernel
theorem dX12_init_570 : decode cX12_init 570 = .ok (.iload_n 2, 1) := by decide +kernel
theorem dX12_init_571 : decode cX12_init 571 = .ok (.iconst (-1), 1) := by decide +kernel
theorem dX12_init_572 : decode cX12_init 572 = .ok (.iastore, 1) := by decide +kernel
theorem dX12_init_573 : decode cX12_init 573 = .ok (.iinc 2 1, 3) := by decide +kernel
theorem dX12_init_576 : decode cX12_init 576 = .ok (.goto (-23), 3) := by decide +kernel
theorem dX12_init_579 : decode cX12_init 579 = .ok (.aload_n 0, 1) := by decide +kernel
theorem dX12_init_580 : decode cX12_init 580 = .ok (.invokevirtual 214, 3) := by decide +kernel
theorem dX12_init_583 : decode cX12_init 583 = .ok (.return_, 1) := by decide +kernel
theorem dX12_isDish_0 : decode cX12_isDish 0 = .ok (.aload_n 0, 1) := by decide +kernel
theorem dX12_isDish_1 : decode cX12_isDish 1 = .ok (.iload_n 1, 1) := by decide +kernel
theorem dX12_isDish_2 : decode cX12_isDish 2 = .ok (.iconst 0, 1) := by decide +kernel
theorem dX12_isDish_3 : decode cX12_isDish 3 = .ok (.iconst 5, 1) := by decide +kernel
theorem dX12_isDish_4 : decode cX12_isDish 4 = .ok (.invokevirtual 217, 3) := by decide +kernel
theorem dX12_isDish_7 : decode cX12_isDish 7 = .ok (.ireturn, 1) := by decide +kernel
theorem dX12_isPlace_0 : decode cX12_isPlace 0 = .ok (.aload_n 0, 1) := by decide +kernel
theorem dX12_isPlace_1 : decode cX12_isPlace 1 = .ok (.iload_n 1, 1) := by decide +kernel
theorem dX12_isPlace_2 : decode cX12_isPlace 2 = .ok (.iconst 0, 1) := by decide +kernel
theorem dX12_isPlace_3 : decode cX12_isPlace 3 = .ok (.aload_n 0, 1) := by decide +kernel
theorem dX12_isPlace_4 : decode cX12_isPlace 4 = .ok (.getfield 211, 3) := by decide +kernel
theorem dX12_isPlace_7 : decode cX12_isPlace 7 = .ok (.iconst 1, 1) := by decide +kernel
theorem dX12_isPlace_8 : decode cX12_isPlace 8 = .ok (.isub, 1) := by decide +kernel
theorem dX12_isPlace_9 : decode cX12_isPlace 9 = .ok (.invokevirtual 217, 3) := by decide +kernel
theorem dX12_isPlace_12 : decode cX12_isPlace 12 = .ok (.ireturn, 1) := by decide +kernel
theorem dX12_isPlate_0 : decode cX12_isPlate 0 = .ok (.aload_n 0, 1) := by decide +kernel
theorem dX12_isPlate_1 : decode cX12_isPlate 1 = .ok (.iload_n 1, 1) := by decide +kernel
theorem dX12_isPlate_2 : decode cX12_isPlate 2 = .ok (.iconst 0, 1) := by decide +kernel
theorem dX12_isPlate_3 : decode cX12_isPlate 3 = .ok (.aload_n 0, 1) := by decide +kernel
theorem dX12_isPlate_4 : decode cX12_isPlate 4 = .ok (.getfield 7, 3) := by decide +kernel
theorem dX12_isPlate_7 : decode cX12_isPlate 7 = .ok (.iconst 1, 1) := by decide +kernel
theorem dX12_isPlate_8 : decode cX12_isPlate 8 = .ok (.isub, 1) := by decide +kernel
theorem dX12_isPlate_9 : decode cX12_isPlate 9 = .ok (.invokevirtual 217, 3) := by decide +kernel
theorem dX12_isPlate_12 : decode cX12_isPlate 12 = .ok (.ireturn, 1) := by decide +kernel
theorem dX12_dish_0 : decode cX12_dish 0 = .ok (.aload_n 0, 1) := by decide +kernel
theorem dX12_dish_1 : decode cX12_dish 1 = .ok (.iload_n 1, 1) := by decide +kernel
theorem dX12_dish_2 : decode cX12_dish 2 = .ok (.invokevirtual 221, 3) := by decide +kernel
theorem dX12_dish_5 : decode cX12_dish 5 = .ok (.ifCond .eq 24, 3) := by decide +kernel
theorem dX12_dish_8 : decode cX12_dish 8 = .ok (.aload_n 0, 1) := by decide +kernel
theorem dX12_dish_9 : decode cX12_dish 9 = .ok (.iload_n 2, 1) := by decide +kernel
theorem dX12_dish_10 : decode cX12_dish 10 = .ok (.iconst 0, 1) := by decide +kernel
theorem dX12_dish_11 : decode cX12_dish 11 = .ok (.iconst 4, 1) := by decide +kernel
theorem dX12_dish_12 : decode cX12_dish 12 = .ok (.invokevirtual 217, 3) := by decide +kernel
theorem dX12_dish_15 : decode cX12_dish 15 = .ok (.ifCond .eq 14, 3) := by decide +kernel
theorem dX12_dish_18 : decode cX12_dish 18 = .ok (.aload_n 0, 1) := by decide +kernel
theorem dX12_dish_19 : decode cX12_dish 19 = .ok (.iload_n 3, 1) := by decide +kernel
theorem dX12_dish_20 : decode cX12_dish 20 = .ok (.iconst 1, 1) := by decide +kernel
theorem dX12_dish_21 : decode cX12_dish 21 = .ok (.bipush 60, 2) := by decide +kernel
theorem dX12_dish_23 : decode cX12_dish 23 = .ok (.invokevirtual 217, 3) := by decide +kernel
theorem dX12_dish_26 : decode cX12_dish 26 = .ok (.ifCond .ne 6, 3) := by decide +kernel
theorem dX12_dish_29 : decode cX12_dish 29 = .ok (.bipush (-2), 2) := by decide +kernel
theorem dX12_dish_31 : decode cX12_dish 31 = .ok (.ireturn, 1) := by decide +kernel
theorem dX12_dish_32 : decode cX12_dish 32 = .ok (.aload_n 0, 1) := by decide +kernel
theorem dX12_dish_33 : decode cX12_dish 33 = .ok (.getfield 22, 3) := by decide +kernel
theorem dX12_dish_36 : decode cX12_dish 36 = .ok (.iload_n 1, 1) := by decide +kernel
theorem dX12_dish_37 : decode cX12_dish 37 = .ok (.iaload, 1) := by decide +kernel
theorem dX12_dish_38 : decode cX12_dish 38 = .ok (.istore 4, 2) := by decide +kernel
theorem dX12_dish_40 : decode cX12_dish 40 = .ok (.aload_n 0, 1) := by decide +kernel
theorem dX12_dish_41 : decode cX12_dish 41 = .ok (.getfield 22, 3) := by decide +kernel
theorem dX12_dish_44 : decode cX12_dish 44 = .ok (.iload_n 1, 1) := by decide +kernel
theorem dX12_dish_45 : decode cX12_dish 45 = .ok (.iload_n 2, 1) := by decide +kernel
theorem dX12_dish_46 : decode cX12_dish 46 = .ok (.iastore, 1) := by decide +kernel
theorem dX12_dish_47 : decode cX12_dish 47 = .ok (.aload_n 0, 1) := by decide +kernel
theorem dX12_dish_48 : decode cX12_dish 48 = .ok (.getfield 26, 3) := by decide +kernel
theorem dX12_dish_51 : decode cX12_dish 51 = .ok (.iload_n 1, 1) := by decide +kernel
theorem dX12_dish_52 : decode cX12_dish 52 = .ok (.iload_n 3, 1) := by decide +kernel
theorem dX12_dish_53 : decode cX12_dish 53 = .ok (.iastore, 1) := by decide +kernel
theorem dX12_dish_54 : decode cX12_dish 54 = .ok (.iload 4, 2) := by decide +kernel
theorem dX12_dish_56 : decode cX12_dish 56 = .ok (.ireturn, 1) := by decide +kernel
theorem dX12_price_0 : decode cX12_price 0 = .ok (.aload_n 0, 1) := by decide +kernel
theorem dX12_price_1 : decode cX12_price 1 = .ok (.iload_n 1, 1) := by decide +kernel
theorem dX12_price_2 : decode cX12_price 2 = .ok (.iconst 0, 1) := by decide +kernel
theorem dX12_price_3 : decode cX12_price 3 = .ok (.iconst 4, 1) := by decide +kernel
theorem dX12_price_4 : decode cX12_price 4 = .ok (.invokevirtual 217, 3) := by decide +kernel
theorem dX12_price_7 : decode cX12_price 7 = .ok (.ifCond .eq 15, 3) := by decide +kernel
theorem dX12_price_10 : decode cX12_price 10 = .ok (.aload_n 0, 1) := by decide +kernel
theorem dX12_price_11 : decode cX12_price 11 = .ok (.iload_n 2, 1) := by decide +kernel
theorem dX12_price_12 : decode cX12_price 12 = .ok (.iconst 0, 1) := by decide +kernel
theorem dX12_price_13 : decode cX12_price 13 = .ok (.sipush 999, 3) := by decide +kernel
theorem dX12_price_16 : decode cX12_price 16 = .ok (.invokevirtual 217, 3) := by decide +kernel
theorem dX12_price_19 : decode cX12_price 19 = .ok (.ifCond .ne 6, 3) := by decide +kernel
theorem dX12_price_22 : decode cX12_price 22 = .ok (.bipush (-2), 2) := by decide +kernel
theorem dX12_price_24 : decode cX12_price 24 = .ok (.ireturn, 1) := by decide +kernel
theorem dX12_price_25 : decode cX12_price 25 = .ok (.aload_n 0, 1) := by decide +kernel
theorem dX12_price_26 : decode cX12_price 26 = .ok (.getfield 29, 3) := by decide +kernel
theorem dX12_price_29 : decode cX12_price 29 = .ok (.iload_n 1, 1) := by decide +kernel
theorem dX12_price_30 : decode cX12_price 30 = .ok (.iaload, 1) := by decide +kernel
theorem dX12_price_31 : decode cX12_price 31 = .ok (.istore_n 3, 1) := by decide +kernel
theorem dX12_price_32 : decode cX12_price 32 = .ok (.aload_n 0, 1) := by decide +kernel
theorem dX12_price_33 : decode cX12_price 33 = .ok (.getfield 29, 3) := by decide +kernel
theorem dX12_price_36 : decode cX12_price 36 = .ok (.iload_n 1, 1) := by decide +kernel
theorem dX12_price_37 : decode cX12_price 37 = .ok (.iload_n 2, 1) := by decide +kernel
theorem dX12_price_38 : decode cX12_price 38 = .ok (.iastore, 1) := by decide +kernel
theorem dX12_price_39 : decode cX12_price 39 = .ok (.iload_n 3, 1) := by decide +kernel
theorem dX12_price_40 : decode cX12_price 40 = .ok (.ireturn, 1) := by decide +kernel
theorem dX12_makes_0 : decode cX12_makes 0 = .ok (.aload_n 0, 1) := by decide +kernel
theorem dX12_makes_1 : decode cX12_makes 1 = .ok (.getfield 32, 3) := by decide +kernel
theorem dX12_makes_4 : decode cX12_makes 4 = .ok (.aload_n 0, 1) := by decide +kernel
theorem dX12_makes_5 : decode cX12_makes 5 = .ok (.getfield 7, 3) := by decide +kernel
theorem dX12_makes_8 : decode cX12_makes 8 = .ok (.iload_n 1, 1) := by decide +kernel
theorem dX12_makes_9 : decode cX12_makes 9 = .ok (.iastore, 1) := by decide +kernel
theorem dX12_makes_10 : decode cX12_makes 10 = .ok (.aload_n 0, 1) := by decide +kernel
theorem dX12_makes_11 : decode cX12_makes 11 = .ok (.getfield 35, 3) := by decide +kernel
theorem dX12_makes_14 : decode cX12_makes 14 = .ok (.aload_n 0, 1) := by decide +kernel
theorem dX12_makes_15 : decode cX12_makes 15 = .ok (.getfield 7, 3) := by decide +kernel
theorem dX12_makes_18 : decode cX12_makes 18 = .ok (.aload_n 0, 1) := by decide +kernel
theorem dX12_makes_19 : decode cX12_makes 19 = .ok (.getfield 22, 3) := by decide +kernel
theorem dX12_makes_22 : decode cX12_makes 22 = .ok (.iload_n 1, 1) := by decide +kernel
theorem dX12_makes_23 : decode cX12_makes 23 = .ok (.iaload, 1) := by decide +kernel
theorem dX12_makes_24 : decode cX12_makes 24 = .ok (.iastore, 1) := by decide +kernel
theorem dX12_makes_25 : decode cX12_makes 25 = .ok (.aload_n 0, 1) := by decide +kernel
theorem dX12_makes_26 : decode cX12_makes 26 = .ok (.getfield 38, 3) := by decide +kernel
theorem dX12_makes_29 : decode cX12_makes 29 = .ok (.aload_n 0, 1) := by decide +kernel
theorem dX12_makes_30 : decode cX12_makes 30 = .ok (.getfield 7, 3) := by decide +kernel
theorem dX12_makes_33 : decode cX12_makes 33 = .ok (.iconst 0, 1) := by decide +kernel
theorem dX12_makes_34 : decode cX12_makes 34 = .ok (.iastore, 1) := by decide +kernel
theorem dX12_makes_35 : decode cX12_makes 35 = .ok (.aload_n 0, 1) := by decide +kernel
theorem dX12_makes_36 : decode cX12_makes 36 = .ok (.getfield 41, 3) := by decide +kernel
theorem dX12_makes_39 : decode cX12_makes 39 = .ok (.aload_n 0, 1) := by decide +kernel
theorem dX12_makes_40 : decode cX12_makes 40 = .ok (.getfield 7, 3) := by decide +kernel
theorem dX12_makes_43 : decode cX12_makes 43 = .ok (.iload_n 2, 1) := by decide +kernel
theorem dX12_makes_44 : decode cX12_makes 44 = .ok (.iastore, 1) := by decide +kernel
theorem dX12_makes_45 : decode cX12_makes 45 = .ok (.aload_n 0, 1) := by decide +kernel
theorem dX12_makes_46 : decode cX12_makes 46 = .ok (.getfield 44, 3) := by decide +kernel
theorem dX12_makes_49 : decode cX12_makes 49 = .ok (.aload_n 0, 1) := by decide +kernel
theorem dX12_makes_50 : decode cX12_makes 50 = .ok (.getfield 7, 3) := by decide +kernel
theorem dX12_makes_53 : decode cX12_makes 53 = .ok (.iload_n 3, 1) := by decide +kernel
theorem dX12_makes_54 : decode cX12_makes 54 = .ok (.iastore, 1) := by decide +kernel
theorem dX12_makes_55 : decode cX12_makes 55 = .ok (.aload_n 0, 1) := by decide +kernel
theorem dX12_makes_56 : decode cX12_makes 56 = .ok (.dup, 1) := by decide +kernel
theorem dX12_makes_57 : decode cX12_makes 57 = .ok (.getfield 7, 3) := by decide +kernel
theorem dX12_makes_60 : decode cX12_makes 60 = .ok (.iconst 1, 1) := by decide +kernel
theorem dX12_makes_61 : decode cX12_makes 61 = .ok (.iadd, 1) := by decide +kernel
theorem dX12_makes_62 : decode cX12_makes 62 = .ok (.putfield 7, 3) := by decide +kernel
theorem dX12_makes_65 : decode cX12_makes 65 = .ok (.aload_n 0, 1) := by decide +kernel
theorem dX12_makes_66 : decode cX12_makes 66 = .ok (.getfield 7, 3) := by decide +kernel
theorem dX12_makes_69 : decode cX12_makes 69 = .ok (.iconst 1, 1) := by decide +kernel
theorem dX12_makes_70 : decode cX12_makes 70 = .ok (.isub, 1) := by decide +kernel
theorem dX12_makes_71 : decode cX12_makes 71 = .ok (.ireturn, 1) := by decide +kernel
theorem dX12_lay_0 : decode cX12_lay 0 = .ok (.aload_n 0, 1) := by decide +kernel
theorem dX12_lay_1 : decode cX12_lay 1 = .ok (.iload_n 1, 1) := by decide +kernel
theorem dX12_lay_2 : decode cX12_lay 2 = .ok (.invokevirtual 221, 3) := by decide +kernel
theorem dX12_lay_5 : decode cX12_lay 5 = .ok (.ifCond .ne 6, 3) := by decide +kernel
theorem dX12_lay_8 : decode cX12_lay 8 = .ok (.bipush (-2), 2) := by decide +kernel
theorem dX12_lay_10 : decode cX12_lay 10 = .ok (.ireturn, 1) := by decide +kernel
theorem dX12_lay_11 : decode cX12_lay 11 = .ok (.aload_n 0, 1) := by decide +kernel
theorem dX12_lay_12 : decode cX12_lay 12 = .ok (.getfield 47, 3) := by decide +kernel
theorem dX12_lay_15 : decode cX12_lay 15 = .ok (.iconst 0, 1) := by decide +kernel
theorem dX12_lay_16 : decode cX12_lay 16 = .ok (.iaload, 1) := by decide +kernel
theorem dX12_lay_17 : decode cX12_lay 17 = .ok (.ifCond .lt 6, 3) := by decide +kernel
theorem dX12_lay_20 : decode cX12_lay 20 = .ok (.bipush (-3), 2) := by decide +kernel
theorem dX12_lay_22 : decode cX12_lay 22 = .ok (.ireturn, 1) := by decide +kernel
theorem dX12_lay_23 : decode cX12_lay 23 = .ok (.aload_n 0, 1) := by decide +kernel
theorem dX12_lay_24 : decode cX12_lay 24 = .ok (.getfield 7, 3) := by decide +kernel
theorem dX12_lay_27 : decode cX12_lay 27 = .ok (.sipush 300, 3) := by decide +kernel
theorem dX12_lay_30 : decode cX12_lay 30 = .ok (.if_icmp .ne 6, 3) := by decide +kernel
theorem dX12_lay_33 : decode cX12_lay 33 = .ok (.bipush (-4), 2) := by decide +kernel
theorem dX12_lay_35 : decode cX12_lay 35 = .ok (.ireturn, 1) := by decide +kernel
theorem dX12_lay_36 : decode cX12_lay 36 = .ok (.aload_n 0, 1) := by decide +kernel
theorem dX12_lay_37 : decode cX12_lay 37 = .ok (.getfield 47, 3) := by decide +kernel
theorem dX12_lay_40 : decode cX12_lay 40 = .ok (.iconst 0, 1) := by decide +kernel
theorem dX12_lay_41 : decode cX12_lay 41 = .ok (.aload_n 0, 1) := by decide +kernel
theorem dX12_lay_42 : decode cX12_lay 42 = .ok (.iload_n 1, 1) := by decide +kernel
theorem dX12_lay_43 : decode cX12_lay 43 = .ok (.iconst 0, 1) := by decide +kernel
theorem dX12_lay_44 : decode cX12_lay 44 = .ok (.iconst 0, 1) := by decide +kernel
theorem dX12_lay_45 : decode cX12_lay 45 = .ok (.invokevirtual 225, 3) := by decide +kernel
theorem dX12_lay_48 : decode cX12_lay 48 = .ok (.iastore, 1) := by decide +kernel
theorem dX12_lay_49 : decode cX12_lay 49 = .ok (.aload_n 0, 1) := by decide +kernel
theorem dX12_lay_50 : decode cX12_lay 50 = .ok (.getfield 7, 3) := by decide +kernel
theorem dX12_lay_53 : decode cX12_lay 53 = .ok (.iconst 1, 1) := by decide +kernel
theorem dX12_lay_54 : decode cX12_lay 54 = .ok (.isub, 1) := by decide +kernel
theorem dX12_lay_55 : decode cX12_lay 55 = .ok (.ireturn, 1) := by decide +kernel
theorem dX12_plate_0 : decode cX12_plate 0 = .ok (.aload_n 0, 1) := by decide +kernel
theorem dX12_plate_1 : decode cX12_plate 1 = .ok (.iload_n 1, 1) := by decide +kernel
theorem dX12_plate_2 : decode cX12_plate 2 = .ok (.invokevirtual 229, 3) := by decide +kernel
theorem dX12_plate_5 : decode cX12_plate 5 = .ok (.ifCond .eq 13, 3) := by decide +kernel
theorem dX12_plate_8 : decode cX12_plate 8 = .ok (.aload_n 0, 1) := by decide +kernel
theorem dX12_plate_9 : decode cX12_plate 9 = .ok (.iload_n 2, 1) := by decide +kernel
theorem dX12_plate_10 : decode cX12_plate 10 = .ok (.iconst 0, 1) := by decide +kernel
theorem dX12_plate_11 : decode cX12_plate 11 = .ok (.iconst 4, 1) := by decide +kernel
theorem dX12_plate_12 : decode cX12_plate 12 = .ok (.invokevirtual 217, 3) := by decide +kernel
theorem dX12_plate_15 : decode cX12_plate 15 = .ok (.ifCond .ne 6, 3) := by decide +kernel
theorem dX12_plate_18 : decode cX12_plate 18 = .ok (.bipush (-2), 2) := by decide +kernel
theorem dX12_plate_20 : decode cX12_plate 20 = .ok (.ireturn, 1) := by decide +kernel
theorem dX12_plate_21 : decode cX12_plate 21 = .ok (.iload_n 2, 1) := by decide +kernel
theorem dX12_plate_22 : decode cX12_plate 22 = .ok (.ifCond .ne 12, 3) := by decide +kernel
theorem dX12_plate_25 : decode cX12_plate 25 = .ok (.aload_n 0, 1) := by decide +kernel
theorem dX12_plate_26 : decode cX12_plate 26 = .ok (.getfield 32, 3) := by decide +kernel
theorem dX12_plate_29 : decode cX12_plate 29 = .ok (.iload_n 1, 1) := by decide +kernel
theorem dX12_plate_30 : decode cX12_plate 30 = .ok (.iaload, 1) := by decide +kernel
theorem dX12_plate_31 : decode cX12_plate 31 = .ok (.goto 51, 3) := by decide +kernel
theorem dX12_plate_34 : decode cX12_plate 34 = .ok (.iload_n 2, 1) := by decide +kernel
theorem dX12_plate_35 : decode cX12_plate 35 = .ok (.iconst 1, 1) := by decide +kernel
theorem dX12_plate_36 : decode cX12_plate 36 = .ok (.if_icmp .ne 12, 3) := by decide +kernel
theorem dX12_plate_39 : decode cX12_plate 39 = .ok (.aload_n 0, 1) := by decide +kernel
theorem dX12_plate_40 : decode cX12_plate 40 = .ok (.getfield 35, 3) := by decide +kernel
theorem dX12_plate_43 : decode cX12_plate 43 = .ok (.iload_n 1, 1) := by decide +kernel
theorem dX12_plate_44 : decode cX12_plate 44 = .ok (.iaload, 1) := by decide +kernel
theorem dX12_plate_45 : decode cX12_plate 45 = .ok (.goto 37, 3) := by decide +kernel
theorem dX12_plate_48 : decode cX12_plate 48 = .ok (.iload_n 2, 1) := by decide +kernel
theorem dX12_plate_49 : decode cX12_plate 49 = .ok (.iconst 2, 1) := by decide +kernel
theorem dX12_plate_50 : decode cX12_plate 50 = .ok (.if_icmp .ne 12, 3) := by decide +kernel
theorem dX12_plate_53 : decode cX12_plate 53 = .ok (.aload_n 0, 1) := by decide +kernel
theorem dX12_plate_54 : decode cX12_plate 54 = .ok (.getfield 38, 3) := by decide +kernel
theorem dX12_plate_57 : decode cX12_plate 57 = .ok (.iload_n 1, 1) := by decide +kernel
theorem dX12_plate_58 : decode cX12_plate 58 = .ok (.iaload, 1) := by decide +kernel
theorem dX12_plate_59 : decode cX12_plate 59 = .ok (.goto 23, 3) := by decide +kernel
theorem dX12_plate_62 : decode cX12_plate 62 = .ok (.iload_n 2, 1) := by decide +kernel
theorem dX12_plate_63 : decode cX12_plate 63 = .ok (.iconst 3, 1) := by decide +kernel
theorem dX12_plate_64 : decode cX12_plate 64 = .ok (.if_icmp .ne 12, 3) := by decide +kernel
theorem dX12_plate_67 : decode cX12_plate 67 = .ok (.aload_n 0, 1) := by decide +kernel
theorem dX12_plate_68 : decode cX12_plate 68 = .ok (.getfield 41, 3) := by decide +kernel
theorem dX12_plate_71 : decode cX12_plate 71 = .ok (.iload_n 1, 1) := by decide +kernel
theorem dX12_plate_72 : decode cX12_plate 72 = .ok (.iaload, 1) := by decide +kernel
theorem dX12_plate_73 : decode cX12_plate 73 = .ok (.goto 9, 3) := by decide +kernel
theorem dX12_plate_76 : decode cX12_plate 76 = .ok (.aload_n 0, 1) := by decide +kernel
theorem dX12_plate_77 : decode cX12_plate 77 = .ok (.getfield 44, 3) := by decide +kernel
theorem dX12_plate_80 : decode cX12_plate 80 = .ok (.iload_n 1, 1) := by decide +kernel
theorem dX12_plate_81 : decode cX12_plate 81 = .ok (.iaload, 1) := by decide +kernel
theorem dX12_plate_82 : decode cX12_plate 82 = .ok (.ireturn, 1) := by decide +kernel
theorem dX12_at_0 : decode cX12_at 0 = .ok (.aload_n 0, 1) := by decide +kernel
theorem dX12_at_1 : decode cX12_at 1 = .ok (.iload_n 1, 1) := by decide +kernel
theorem dX12_at_2 : decode cX12_at 2 = .ok (.invokevirtual 232, 3) := by decide +kernel
theorem dX12_at_5 : decode cX12_at 5 = .ok (.ifCond .eq 12, 3) := by decide +kernel
theorem dX12_at_8 : decode cX12_at 8 = .ok (.aload_n 0, 1) := by decide +kernel
theorem dX12_at_9 : decode cX12_at 9 = .ok (.getfield 47, 3) := by decide +kernel
theorem dX12_at_12 : decode cX12_at 12 = .ok (.iload_n 1, 1) := by decide +kernel
theorem dX12_at_13 : decode cX12_at 13 = .ok (.iaload, 1) := by decide +kernel
theorem dX12_at_14 : decode cX12_at 14 = .ok (.goto 5, 3) := by decide +kernel
theorem dX12_at_17 : decode cX12_at 17 = .ok (.bipush (-2), 2) := by decide +kernel
theorem dX12_at_19 : decode cX12_at 19 = .ok (.ireturn, 1) := by decide +kernel
theorem dX12_ends_0 : decode cX12_ends 0 = .ok (.aload_n 0, 1) := by decide +kernel
theorem dX12_ends_1 : decode cX12_ends 1 = .ok (.getfield 41, 3) := by decide +kernel
theorem dX12_ends_4 : decode cX12_ends 4 = .ok (.iload_n 1, 1) := by decide +kernel
theorem dX12_ends_5 : decode cX12_ends 5 = .ok (.iload_n 2, 1) := by decide +kernel
theorem dX12_ends_6 : decode cX12_ends 6 = .ok (.iastore, 1) := by decide +kernel
theorem dX12_ends_7 : decode cX12_ends 7 = .ok (.aload_n 0, 1) := by decide +kernel
theorem dX12_ends_8 : decode cX12_ends 8 = .ok (.getfield 44, 3) := by decide +kernel
theorem dX12_ends_11 : decode cX12_ends 11 = .ok (.iload_n 1, 1) := by decide +kernel
theorem dX12_ends_12 : decode cX12_ends 12 = .ok (.iconst (-1), 1) := by decide +kernel
theorem dX12_ends_13 : decode cX12_ends 13 = .ok (.iastore, 1) := by decide +kernel
theorem dX12_ends_14 : decode cX12_ends 14 = .ok (.return_, 1) := by decide +kernel
theorem dX12_gone_0 : decode cX12_gone 0 = .ok (.aload_n 0, 1) := by decide +kernel
theorem dX12_gone_1 : decode cX12_gone 1 = .ok (.iload_n 1, 1) := by decide +kernel
theorem dX12_gone_2 : decode cX12_gone 2 = .ok (.invokevirtual 232, 3) := by decide +kernel
theorem dX12_gone_5 : decode cX12_gone 5 = .ok (.ifCond .ne 6, 3) := by decide +kernel
theorem dX12_gone_8 : decode cX12_gone 8 = .ok (.bipush (-2), 2) := by decide +kernel
theorem dX12_gone_10 : decode cX12_gone 10 = .ok (.ireturn, 1) := by decide +kernel
theorem dX12_gone_11 : decode cX12_gone 11 = .ok (.aload_n 0, 1) := by decide +kernel
theorem dX12_gone_12 : decode cX12_gone 12 = .ok (.getfield 47, 3) := by decide +kernel
theorem dX12_gone_15 : decode cX12_gone 15 = .ok (.iload_n 1, 1) := by decide +kernel
theorem dX12_gone_16 : decode cX12_gone 16 = .ok (.iaload, 1) := by decide +kernel
theorem dX12_gone_17 : decode cX12_gone 17 = .ok (.istore_n 2, 1) := by decide +kernel
theorem dX12_gone_18 : decode cX12_gone 18 = .ok (.iload_n 2, 1) := by decide +kernel
theorem dX12_gone_19 : decode cX12_gone 19 = .ok (.ifCond .ge 6, 3) := by decide +kernel
theorem dX12_gone_22 : decode cX12_gone 22 = .ok (.bipush (-3), 2) := by decide +kernel
theorem dX12_gone_24 : decode cX12_gone 24 = .ok (.ireturn, 1) := by decide +kernel
theorem dX12_gone_25 : decode cX12_gone 25 = .ok (.aload_n 0, 1) := by decide +kernel
theorem dX12_gone_26 : decode cX12_gone 26 = .ok (.iload_n 2, 1) := by decide +kernel
theorem dX12_gone_27 : decode cX12_gone 27 = .ok (.iconst 5, 1) := by decide +kernel
theorem dX12_gone_28 : decode cX12_gone 28 = .ok (.invokevirtual 235, 3) := by decide +kernel
theorem dX12_gone_31 : decode cX12_gone 31 = .ok (.aload_n 0, 1) := by decide +kernel
theorem dX12_gone_32 : decode cX12_gone 32 = .ok (.getfield 47, 3) := by decide +kernel
theorem dX12_gone_35 : decode cX12_gone 35 = .ok (.iload_n 1, 1) := by decide +kernel
theorem dX12_gone_36 : decode cX12_gone 36 = .ok (.iconst (-1), 1) := by decide +kernel
theorem dX12_gone_37 : decode cX12_gone 37 = .ok (.iastore, 1) := by decide +kernel
theorem dX12_gone_38 : decode cX12_gone 38 = .ok (.iload_n 2, 1) := by decide +kernel
theorem dX12_gone_39 : decode cX12_gone 39 = .ok (.ireturn, 1) := by decide +kernel
theorem dX12_isSeat_0 : decode cX12_isSeat 0 = .ok (.aload_n 0, 1) := by decide +kernel
theorem dX12_isSeat_1 : decode cX12_isSeat 1 = .ok (.iload_n 1, 1) := by decide +kernel
theorem dX12_isSeat_2 : decode cX12_isSeat 2 = .ok (.iconst 0, 1) := by decide +kernel
theorem dX12_isSeat_3 : decode cX12_isSeat 3 = .ok (.aload_n 0, 1) := by decide +kernel
theorem dX12_isSeat_4 : decode cX12_isSeat 4 = .ok (.getfield 62, 3) := by decide +kernel
theorem dX12_isSeat_7 : decode cX12_isSeat 7 = .ok (.iconst 1, 1) := by decide +kernel
theorem dX12_isSeat_8 : decode cX12_isSeat 8 = .ok (.isub, 1) := by decide +kernel
theorem dX12_isSeat_9 : decode cX12_isSeat 9 = .ok (.invokevirtual 217, 3) := by decide +kernel
theorem dX12_isSeat_12 : decode cX12_isSeat 12 = .ok (.ireturn, 1) := by decide +kernel
theorem dX12_isSat_0 : decode cX12_isSat 0 = .ok (.aload_n 0, 1) := by decide +kernel
theorem dX12_isSat_1 : decode cX12_isSat 1 = .ok (.iload_n 1, 1) := by decide +kernel
theorem dX12_isSat_2 : decode cX12_isSat 2 = .ok (.invokevirtual 239, 3) := by decide +kernel
theorem dX12_isSat_5 : decode cX12_isSat 5 = .ok (.ifCond .eq 16, 3) := by decide +kernel
theorem dX12_isSat_8 : decode cX12_isSat 8 = .ok (.aload_n 0, 1) := by decide +kernel
theorem dX12_isSat_9 : decode cX12_isSat 9 = .ok (.getfield 86, 3) := by decide +kernel
theorem dX12_isSat_12 : decode cX12_isSat 12 = .ok (.iload_n 1, 1) := by decide +kernel
theorem dX12_isSat_13 : decode cX12_isSat 13 = .ok (.baload, 1) := by decide +kernel
theorem dX12_isSat_14 : decode cX12_isSat 14 = .ok (.ifCond .eq 7, 3) := by decide +kernel
theorem dX12_isSat_17 : decode cX12_isSat 17 = .ok (.iconst 1, 1) := by decide +kernel
theorem dX12_isSat_18 : decode cX12_isSat 18 = .ok (.goto 4, 3) := by decide +kernel
theorem dX12_isSat_21 : decode cX12_isSat 21 = .ok (.iconst 0, 1) := by decide +kernel
theorem dX12_isSat_22 : decode cX12_isSat 22 = .ok (.ireturn, 1) := by decide +kernel
theorem dX12_seat_0 : decode cX12_seat 0 = .ok (.aload_n 0, 1) := by decide +kernel
theorem dX12_seat_1 : decode cX12_seat 1 = .ok (.iload_n 1, 1) := by decide +kernel
theorem dX12_seat_2 : decode cX12_seat 2 = .ok (.iconst 1, 1) := by decide +kernel
theorem dX12_seat_3 : decode cX12_seat 3 = .ok (.aload_n 0, 1) := by decide +kernel
theorem dX12_seat_4 : decode cX12_seat 4 = .ok (.getfield 211, 3) := by decide +kernel
theorem dX12_seat_7 : decode cX12_seat 7 = .ok (.iconst 1, 1) := by decide +kernel
theorem dX12_seat_8 : decode cX12_seat 8 = .ok (.isub, 1) := by decide +kernel
theorem dX12_seat_9 : decode cX12_seat 9 = .ok (.invokevirtual 217, 3) := by decide +kernel
theorem dX12_seat_12 : decode cX12_seat 12 = .ok (.ifCond .ne 6, 3) := by decide +kernel
theorem dX12_seat_15 : decode cX12_seat 15 = .ok (.bipush (-2), 2) := by decide +kernel
theorem dX12_seat_17 : decode cX12_seat 17 = .ok (.ireturn, 1) := by decide +kernel
theorem dX12_seat_18 : decode cX12_seat 18 = .ok (.iconst 0, 1) := by decide +kernel
theorem dX12_seat_19 : decode cX12_seat 19 = .ok (.istore_n 2, 1) := by decide +kernel
theorem dX12_seat_20 : decode cX12_seat 20 = .ok (.iload_n 2, 1) := by decide +kernel
theorem dX12_seat_21 : decode cX12_seat 21 = .ok (.aload_n 0, 1) := by decide +kernel
theorem dX12_seat_22 : decode cX12_seat 22 = .ok (.getfield 62, 3) := by decide +kernel
theorem dX12_seat_25 : decode cX12_seat 25 = .ok (.if_icmp .ge 22, 3) := by decide +kernel
theorem dX12_seat_28 : decode cX12_seat 28 = .ok (.aload_n 0, 1) := by decide +kernel
theorem dX12_seat_29 : decode cX12_seat 29 = .ok (.getfield 65, 3) := by decide +kernel
theorem dX12_seat_32 : decode cX12_seat 32 = .ok (.iload_n 2, 1) := by decide +kernel
theorem dX12_seat_33 : decode cX12_seat 33 = .ok (.iaload, 1) := by decide +kernel
theorem dX12_seat_34 : decode cX12_seat 34 = .ok (.iload_n 1, 1) := by decide +kernel
theorem dX12_seat_35 : decode cX12_seat 35 = .ok (.if_icmp .ne 6, 3) := by decide +kernel
theorem dX12_seat_38 : decode cX12_seat 38 = .ok (.bipush (-2), 2) := by decide +kernel
theorem dX12_seat_40 : decode cX12_seat 40 = .ok (.ireturn, 1) := by decide +kernel
theorem dX12_seat_41 : decode cX12_seat 41 = .ok (.iinc 2 1, 3) := by decide +kernel
theorem dX12_seat_44 : decode cX12_seat 44 = .ok (.goto (-24), 3) := by decide +kernel
theorem dX12_seat_47 : decode cX12_seat 47 = .ok (.aload_n 0, 1) := by decide +kernel
theorem dX12_seat_48 : decode cX12_seat 48 = .ok (.getfield 62, 3) := by decide +kernel
theorem dX12_seat_51 : decode cX12_seat 51 = .ok (.bipush 8, 2) := by decide +kernel
theorem dX12_seat_53 : decode cX12_seat 53 = .ok (.if_icmp .ne 6, 3) := by decide +kernel
theorem dX12_seat_56 : decode cX12_seat 56 = .ok (.bipush (-4), 2) := by decide +kernel
theorem dX12_seat_58 : decode cX12_seat 58 = .ok (.ireturn, 1) := by decide +kernel
theorem dX12_seat_59 : decode cX12_seat 59 = .ok (.aload_n 0, 1) := by decide +kernel
theorem dX12_seat_60 : decode cX12_seat 60 = .ok (.getfield 65, 3) := by decide +kernel
theorem dX12_seat_63 : decode cX12_seat 63 = .ok (.aload_n 0, 1) := by decide +kernel
theorem dX12_seat_64 : decode cX12_seat 64 = .ok (.getfield 62, 3) := by decide +kernel
theorem dX12_seat_67 : decode cX12_seat 67 = .ok (.iload_n 1, 1) := by decide +kernel
theorem dX12_seat_68 : decode cX12_seat 68 = .ok (.iastore, 1) := by decide +kernel
theorem dX12_seat_69 : decode cX12_seat 69 = .ok (.aload_n 0, 1) := by decide +kernel
theorem dX12_seat_70 : decode cX12_seat 70 = .ok (.getfield 77, 3) := by decide +kernel
theorem dX12_seat_73 : decode cX12_seat 73 = .ok (.aload_n 0, 1) := by decide +kernel
theorem dX12_seat_74 : decode cX12_seat 74 = .ok (.getfield 62, 3) := by decide +kernel
theorem dX12_seat_77 : decode cX12_seat 77 = .ok (.iconst (-1), 1) := by decide +kernel
theorem dX12_seat_78 : decode cX12_seat 78 = .ok (.iastore, 1) := by decide +kernel
theorem dX12_seat_79 : decode cX12_seat 79 = .ok (.aload_n 0, 1) := by decide +kernel
theorem dX12_seat_80 : decode cX12_seat 80 = .ok (.getfield 80, 3) := by decide +kernel
theorem dX12_seat_83 : decode cX12_seat 83 = .ok (.aload_n 0, 1) := by decide +kernel
theorem dX12_seat_84 : decode cX12_seat 84 = .ok (.getfield 62, 3) := by decide +kernel
theorem dX12_seat_87 : decode cX12_seat 87 = .ok (.iconst (-1), 1) := by decide +kernel
theorem dX12_seat_88 : decode cX12_seat 88 = .ok (.iastore, 1) := by decide +kernel
theorem dX12_seat_89 : decode cX12_seat 89 = .ok (.aload_n 0, 1) := by decide +kernel
theorem dX12_seat_90 : decode cX12_seat 90 = .ok (.dup, 1) := by decide +kernel
theorem dX12_seat_91 : decode cX12_seat 91 = .ok (.getfield 62, 3) := by decide +kernel
theorem dX12_seat_94 : decode cX12_seat 94 = .ok (.iconst 1, 1) := by decide +kernel
theorem dX12_seat_95 : decode cX12_seat 95 = .ok (.iadd, 1) := by decide +kernel
theorem dX12_seat_96 : decode cX12_seat 96 = .ok (.putfield 62, 3) := by decide +kernel
theorem dX12_seat_99 : decode cX12_seat 99 = .ok (.aload_n 0, 1) := by decide +kernel
theorem dX12_seat_100 : decode cX12_seat 100 = .ok (.getfield 62, 3) := by decide +kernel
theorem dX12_seat_103 : decode cX12_seat 103 = .ok (.iconst 1, 1) := by decide +kernel
theorem dX12_seat_104 : decode cX12_seat 104 = .ok (.isub, 1) := by decide +kernel
theorem dX12_seat_105 : decode cX12_seat 105 = .ok (.ireturn, 1) := by decide +kernel
theorem dX12_guest_0 : decode cX12_guest 0 = .ok (.aload_n 0, 1) := by decide +kernel
theorem dX12_guest_1 : decode cX12_guest 1 = .ok (.iload_n 1, 1) := by decide +kernel
theorem dX12_guest_2 : decode cX12_guest 2 = .ok (.invokevirtual 239, 3) := by decide +kernel
theorem dX12_guest_5 : decode cX12_guest 5 = .ok (.ifCond .eq 24, 3) := by decide +kernel
theorem dX12_guest_8 : decode cX12_guest 8 = .ok (.aload_n 0, 1) := by decide +kernel
theorem dX12_guest_9 : decode cX12_guest 9 = .ok (.iload_n 2, 1) := by decide +kernel
theorem dX12_guest_10 : decode cX12_guest 10 = .ok (.iconst 0, 1) := by decide +kernel
theorem dX12_guest_11 : decode cX12_guest 11 = .ok (.iconst 5, 1) := by decide +kernel
theorem dX12_guest_12 : decode cX12_guest 12 = .ok (.invokevirtual 217, 3) := by decide +kernel
theorem dX12_guest_15 : decode cX12_guest 15 = .ok (.ifCond .eq 14, 3) := by decide +kernel
theorem dX12_guest_18 : decode cX12_guest 18 = .ok (.aload_n 0, 1) := by decide +kernel
theorem dX12_guest_19 : decode cX12_guest 19 = .ok (.iload_n 3, 1) := by decide +kernel
theorem dX12_guest_20 : decode cX12_guest 20 = .ok (.iconst 0, 1) := by decide +kernel
theorem dX12_guest_21 : decode cX12_guest 21 = .ok (.ldc 242, 2) := by decide +kernel
theorem dX12_guest_23 : decode cX12_guest 23 = .ok (.invokevirtual 217, 3) := by decide +kernel
theorem dX12_guest_26 : decode cX12_guest 26 = .ok (.ifCond .ne 6, 3) := by decide +kernel
theorem dX12_guest_29 : decode cX12_guest 29 = .ok (.bipush (-2), 2) := by decide +kernel
theorem dX12_guest_31 : decode cX12_guest 31 = .ok (.ireturn, 1) := by decide +kernel
theorem dX12_guest_32 : decode cX12_guest 32 = .ok (.aload_n 0, 1) := by decide +kernel
theorem dX12_guest_33 : decode cX12_guest 33 = .ok (.getfield 86, 3) := by decide +kernel
theorem dX12_guest_36 : decode cX12_guest 36 = .ok (.iload_n 1, 1) := by decide +kernel
theorem dX12_guest_37 : decode cX12_guest 37 = .ok (.baload, 1) := by decide +kernel
theorem dX12_guest_38 : decode cX12_guest 38 = .ok (.ifCond .eq 6, 3) := by decide +kernel
theorem dX12_guest_41 : decode cX12_guest 41 = .ok (.bipush (-3), 2) := by decide +kernel
theorem dX12_guest_43 : decode cX12_guest 43 = .ok (.ireturn, 1) := by decide +kernel
theorem dX12_guest_44 : decode cX12_guest 44 = .ok (.aload_n 0, 1) := by decide +kernel
theorem dX12_guest_45 : decode cX12_guest 45 = .ok (.getfield 86, 3) := by decide +kernel
theorem dX12_guest_48 : decode cX12_guest 48 = .ok (.iload_n 1, 1) := by decide +kernel
theorem dX12_guest_49 : decode cX12_guest 49 = .ok (.iconst 1, 1) := by decide +kernel
theorem dX12_guest_50 : decode cX12_guest 50 = .ok (.bastore, 1) := by decide +kernel
theorem dX12_guest_51 : decode cX12_guest 51 = .ok (.aload_n 0, 1) := by decide +kernel
theorem dX12_guest_52 : decode cX12_guest 52 = .ok (.getfield 68, 3) := by decide +kernel
theorem dX12_guest_55 : decode cX12_guest 55 = .ok (.iload_n 1, 1) := by decide +kernel
theorem dX12_guest_56 : decode cX12_guest 56 = .ok (.iload_n 2, 1) := by decide +kernel
theorem dX12_guest_57 : decode cX12_guest 57 = .ok (.iastore, 1) := by decide +kernel
theorem dX12_guest_58 : decode cX12_guest 58 = .ok (.aload_n 0, 1) := by decide +kernel
theorem dX12_guest_59 : decode cX12_guest 59 = .ok (.getfield 71, 3) := by decide +kernel
theorem dX12_guest_62 : decode cX12_guest 62 = .ok (.iload_n 1, 1) := by decide +kernel
theorem dX12_guest_63 : decode cX12_guest 63 = .ok (.iconst 0, 1) := by decide +kernel
theorem dX12_guest_64 : decode cX12_guest 64 = .ok (.iastore, 1) := by decide +kernel
theorem dX12_guest_65 : decode cX12_guest 65 = .ok (.aload_n 0, 1) := by decide +kernel
theorem dX12_guest_66 : decode cX12_guest 66 = .ok (.getfield 74, 3) := by decide +kernel
theorem dX12_guest_69 : decode cX12_guest 69 = .ok (.iload_n 1, 1) := by decide +kernel
theorem dX12_guest_70 : decode cX12_guest 70 = .ok (.iconst 0, 1) := by decide +kernel
theorem dX12_guest_71 : decode cX12_guest 71 = .ok (.iastore, 1) := by decide +kernel
theorem dX12_guest_72 : decode cX12_guest 72 = .ok (.aload_n 0, 1) := by decide +kernel
theorem dX12_guest_73 : decode cX12_guest 73 = .ok (.getfield 77, 3) := by decide +kernel
theorem dX12_guest_76 : decode cX12_guest 76 = .ok (.iload_n 1, 1) := by decide +kernel
theorem dX12_guest_77 : decode cX12_guest 77 = .ok (.iconst (-1), 1) := by decide +kernel
theorem dX12_guest_78 : decode cX12_guest 78 = .ok (.iastore, 1) := by decide +kernel
theorem dX12_guest_79 : decode cX12_guest 79 = .ok (.aload_n 0, 1) := by decide +kernel
theorem dX12_guest_80 : decode cX12_guest 80 = .ok (.getfield 80, 3) := by decide +kernel
theorem dX12_guest_83 : decode cX12_guest 83 = .ok (.iload_n 1, 1) := by decide +kernel
theorem dX12_guest_84 : decode cX12_guest 84 = .ok (.iconst (-1), 1) := by decide +kernel
theorem dX12_guest_85 : decode cX12_guest 85 = .ok (.iastore, 1) := by decide +kernel
theorem dX12_guest_86 : decode cX12_guest 86 = .ok (.iload_n 3, 1) := by decide +kernel
theorem dX12_guest_87 : decode cX12_guest 87 = .ok (.istore 4, 2) := by decide +kernel
theorem dX12_guest_89 : decode cX12_guest 89 = .ok (.iconst 0, 1) := by decide +kernel
theorem dX12_guest_90 : decode cX12_guest 90 = .ok (.istore 5, 2) := by decide +kernel
theorem dX12_guest_92 : decode cX12_guest 92 = .ok (.iload 5, 2) := by decide +kernel
theorem dX12_guest_94 : decode cX12_guest 94 = .ok (.bipush 6, 2) := by decide +kernel
theorem dX12_guest_96 : decode cX12_guest 96 = .ok (.if_icmp .ge 33, 3) := by decide +kernel
theorem dX12_guest_99 : decode cX12_guest 99 = .ok (.aload_n 0, 1) := by decide +kernel
theorem dX12_guest_100 : decode cX12_guest 100 = .ok (.getfield 83, 3) := by decide +kernel
theorem dX12_guest_103 : decode cX12_guest 103 = .ok (.bipush 6, 2) := by decide +kernel
theorem dX12_guest_105 : decode cX12_guest 105 = .ok (.iload_n 1, 1) := by decide +kernel
theorem dX12_guest_106 : decode cX12_guest 106 = .ok (.imul, 1) := by decide +kernel
theorem dX12_guest_107 : decode cX12_guest 107 = .ok (.iload 5, 2) := by decide +kernel
theorem dX12_guest_109 : decode cX12_guest 109 = .ok (.iadd, 1) := by decide +kernel
theorem dX12_guest_110 : decode cX12_guest 110 = .ok (.iload 4, 2) := by decide +kernel
theorem dX12_guest_112 : decode cX12_guest 112 = .ok (.bipush 10, 2) := by decide +kernel
theorem dX12_guest_114 : decode cX12_guest 114 = .ok (.irem, 1) := by decide +kernel
theorem dX12_guest_115 : decode cX12_guest 115 = .ok (.iastore, 1) := by decide +kernel
theorem dX12_guest_116 : decode cX12_guest 116 = .ok (.iload 4, 2) := by decide +kernel
theorem dX12_guest_118 : decode cX12_guest 118 = .ok (.bipush 10, 2) := by decide +kernel
theorem dX12_guest_120 : decode cX12_guest 120 = .ok (.idiv, 1) := by decide +kernel
theorem dX12_guest_121 : decode cX12_guest 121 = .ok (.istore 4, 2) := by decide +kernel
theorem dX12_guest_123 : decode cX12_guest 123 = .ok (.iinc 5 1, 3) := by decide +kernel
theorem dX12_guest_126 : decode cX12_guest 126 = .ok (.goto (-34), 3) := by decide +kernel
theorem dX12_guest_129 : decode cX12_guest 129 = .ok (.iconst 1, 1) := by decide +kernel
theorem dX12_guest_130 : decode cX12_guest 130 = .ok (.ireturn, 1) := by decide +kernel
theorem dX12_roomOf_0 : decode cX12_roomOf 0 = .ok (.iload_n 1, 1) := by decide +kernel
theorem dX12_roomOf_1 : decode cX12_roomOf 1 = .ok (.iconst 1, 1) := by decide +kernel
theorem dX12_roomOf_2 : decode cX12_roomOf 2 = .ok (.if_icmp .ne 7, 3) := by decide +kernel
theorem dX12_roomOf_5 : decode cX12_roomOf 5 = .ok (.iconst 3, 1) := by decide +kernel
theorem dX12_roomOf_6 : decode cX12_roomOf 6 = .ok (.goto 34, 3) := by decide +kernel
theorem dX12_roomOf_9 : decode cX12_roomOf 9 = .ok (.iload_n 1, 1) := by decide +kernel
theorem dX12_roomOf_10 : decode cX12_roomOf 10 = .ok (.iconst 2, 1) := by decide +kernel
theorem dX12_roomOf_11 : decode cX12_roomOf 11 = .ok (.if_icmp .ne 8, 3) := by decide +kernel
theorem dX12_roomOf_14 : decode cX12_roomOf 14 = .ok (.bipush 10, 2) := by decide +kernel
theorem dX12_roomOf_16 : decode cX12_roomOf 16 = .ok (.goto 24, 3) := by decide +kernel
theorem dX12_roomOf_19 : decode cX12_roomOf 19 = .ok (.iload_n 1, 1) := by decide +kernel
theorem dX12_roomOf_20 : decode cX12_roomOf 20 = .ok (.iconst 4, 1) := by decide +kernel
theorem dX12_roomOf_21 : decode cX12_roomOf 21 = .ok (.if_icmp .ne 8, 3) := by decide +kernel
theorem dX12_roomOf_24 : decode cX12_roomOf 24 = .ok (.bipush 9, 2) := by decide +kernel
theorem dX12_roomOf_26 : decode cX12_roomOf 26 = .ok (.goto 14, 3) := by decide +kernel
theorem dX12_roomOf_29 : decode cX12_roomOf 29 = .ok (.iload_n 1, 1) := by decide +kernel
theorem dX12_roomOf_30 : decode cX12_roomOf 30 = .ok (.iconst 5, 1) := by decide +kernel
theorem dX12_roomOf_31 : decode cX12_roomOf 31 = .ok (.if_icmp .ne 7, 3) := by decide +kernel
theorem dX12_roomOf_34 : decode cX12_roomOf 34 = .ok (.iconst 2, 1) := by decide +kernel
theorem dX12_roomOf_35 : decode cX12_roomOf 35 = .ok (.goto 5, 3) := by decide +kernel
theorem dX12_roomOf_38 : decode cX12_roomOf 38 = .ok (.bipush 6, 2) := by decide +kernel
theorem dX12_roomOf_40 : decode cX12_roomOf 40 = .ok (.ireturn, 1) := by decide +kernel
theorem dX12_liked_0 : decode cX12_liked 0 = .ok (.aload_n 0, 1) := by decide +kernel
theorem dX12_liked_1 : decode cX12_liked 1 = .ok (.getfield 83, 3) := by decide +kernel
theorem dX12_liked_4 : decode cX12_liked 4 = .ok (.bipush 6, 2) := by decide +kernel
theorem dX12_liked_6 : decode cX12_liked 6 = .ok (.iload_n 1, 1) := by decide +kernel
theorem dX12_liked_7 : decode cX12_liked 7 = .ok (.imul, 1) := by decide +kernel
theorem dX12_liked_8 : decode cX12_liked 8 = .ok (.aload_n 0, 1) := by decide +kernel
theorem dX12_liked_9 : decode cX12_liked 9 = .ok (.getfield 32, 3) := by decide +kernel
theorem dX12_liked_12 : decode cX12_liked 12 = .ok (.iload_n 2, 1) := by decide +kernel
theorem dX12_liked_13 : decode cX12_liked 13 = .ok (.iaload, 1) := by decide +kernel
theorem dX12_liked_14 : decode cX12_liked 14 = .ok (.iadd, 1) := by decide +kernel
theorem dX12_liked_15 : decode cX12_liked 15 = .ok (.iaload, 1) := by decide +kernel
theorem dX12_liked_16 : decode cX12_liked 16 = .ok (.istore_n 3, 1) := by decide +kernel
theorem dX12_liked_17 : decode cX12_liked 17 = .ok (.aload_n 0, 1) := by decide +kernel
theorem dX12_liked_18 : decode cX12_liked 18 = .ok (.getfield 68, 3) := by decide +kernel
theorem dX12_liked_21 : decode cX12_liked 21 = .ok (.iload_n 1, 1) := by decide +kernel
theorem dX12_liked_22 : decode cX12_liked 22 = .ok (.iaload, 1) := by decide +kernel
theorem dX12_liked_23 : decode cX12_liked 23 = .ok (.istore 4, 2) := by decide +kernel
theorem dX12_liked_25 : decode cX12_liked 25 = .ok (.iload 4, 2) := by decide +kernel
theorem dX12_liked_27 : decode cX12_liked 27 = .ok (.iconst 1, 1) := by decide +kernel
theorem dX12_liked_28 : decode cX12_liked 28 = .ok (.if_icmp .eq 19, 3) := by decide +kernel
theorem dX12_liked_31 : decode cX12_liked 31 = .ok (.iload 4, 2) := by decide +kernel
theorem dX12_liked_33 : decode cX12_liked 33 = .ok (.iconst 5, 1) := by decide +kernel
theorem dX12_liked_34 : decode cX12_liked 34 = .ok (.if_icmp .ne 30, 3) := by decide +kernel
theorem dX12_liked_37 : decode cX12_liked 37 = .ok (.aload_n 0, 1) := by decide +kernel
theorem dX12_liked_38 : decode cX12_liked 38 = .ok (.getfield 71, 3) := by decide +kernel
theorem dX12_liked_41 : decode cX12_liked 41 = .ok (.iload_n 1, 1) := by decide +kernel
theorem dX12_liked_42 : decode cX12_liked 42 = .ok (.iaload, 1) := by decide +kernel
theorem dX12_liked_43 : decode cX12_liked 43 = .ok (.iconst 2, 1) := by decide +kernel
theorem dX12_liked_44 : decode cX12_liked 44 = .ok (.if_icmp .ge 20, 3) := by decide +kernel
theorem dX12_liked_47 : decode cX12_liked 47 = .ok (.iload_n 3, 1) := by decide +kernel
theorem dX12_liked_48 : decode cX12_liked 48 = .ok (.aload_n 0, 1) := by decide +kernel
theorem dX12_liked_49 : decode cX12_liked 49 = .ok (.getfield 32, 3) := by decide +kernel
theorem dX12_liked_52 : decode cX12_liked 52 = .ok (.iload_n 2, 1) := by decide +kernel
theorem dX12_liked_53 : decode cX12_liked 53 = .ok (.iaload, 1) := by decide +kernel
theorem dX12_liked_54 : decode cX12_liked 54 = .ok (.ifCond .ne 7, 3) := by decide +kernel
theorem dX12_liked_57 : decode cX12_liked 57 = .ok (.iconst 2, 1) := by decide +kernel
theorem dX12_liked_58 : decode cX12_liked 58 = .ok (.goto 4, 3) := by decide +kernel
theorem dX12_liked_61 : decode cX12_liked 61 = .ok (.iconst 0, 1) := by decide +kernel
theorem dX12_liked_62 : decode cX12_liked 62 = .ok (.iadd, 1) := by decide +kernel
theorem dX12_liked_63 : decode cX12_liked 63 = .ok (.istore_n 3, 1) := by decide +kernel
theorem dX12_liked_64 : decode cX12_liked 64 = .ok (.iload 4, 2) := by decide +kernel
theorem dX12_liked_66 : decode cX12_liked 66 = .ok (.iconst 2, 1) := by decide +kernel
theorem dX12_liked_67 : decode cX12_liked 67 = .ok (.if_icmp .eq 9, 3) := by decide +kernel
theorem dX12_liked_70 : decode cX12_liked 70 = .ok (.iload 4, 2) := by decide +kernel
theorem dX12_liked_72 : decode cX12_liked 72 = .ok (.iconst 4, 1) := by decide +kernel
theorem dX12_liked_73 : decode cX12_liked 73 = .ok (.if_icmp .ne 6, 3) := by decide +kernel
theorem dX12_liked_76 : decode cX12_liked 76 = .ok (.iinc 3 1, 3) := by decide +kernel
theorem dX12_liked_79 : decode cX12_liked 79 = .ok (.iload 4, 2) := by decide +kernel
theorem dX12_liked_81 : decode cX12_liked 81 = .ok (.iconst 4, 1) := by decide +kernel
theorem dX12_liked_82 : decode cX12_liked 82 = .ok (.if_icmp .ne 14, 3) := by decide +kernel
theorem dX12_liked_85 : decode cX12_liked 85 = .ok (.iload_n 3, 1) := by decide +kernel
theorem dX12_liked_86 : decode cX12_liked 86 = .ok (.aload_n 0, 1) := by decide +kernel
theorem dX12_liked_87 : decode cX12_liked 87 = .ok (.getfield 74, 3) := by decide +kernel
theorem dX12_liked_90 : decode cX12_liked 90 = .ok (.iload_n 1, 1) := by decide +kernel
theorem dX12_liked_91 : decode cX12_liked 91 = .ok (.iaload, 1) := by decide +kernel
theorem dX12_liked_92 : decode cX12_liked 92 = .ok (.iconst 5, 1) := by decide +kernel
theorem dX12_liked_93 : decode cX12_liked 93 = .ok (.idiv, 1) := by decide +kernel
theorem dX12_liked_94 : decode cX12_liked 94 = .ok (.iadd, 1) := by decide +kernel
theorem dX12_liked_95 : decode cX12_liked 95 = .ok (.istore_n 3, 1) := by decide +kernel
theorem dX12_liked_96 : decode cX12_liked 96 = .ok (.iload 4, 2) := by decide +kernel
theorem dX12_liked_98 : decode cX12_liked 98 = .ok (.iconst 3, 1) := by decide +kernel
theorem dX12_liked_99 : decode cX12_liked 99 = .ok (.if_icmp .ne 14, 3) := by decide +kernel
theorem dX12_liked_102 : decode cX12_liked 102 = .ok (.iload_n 3, 1) := by decide +kernel
theorem dX12_liked_103 : decode cX12_liked 103 = .ok (.aload_n 0, 1) := by decide +kernel
theorem dX12_liked_104 : decode cX12_liked 104 = .ok (.getfield 38, 3) := by decide +kernel
theorem dX12_liked_107 : decode cX12_liked 107 = .ok (.iload_n 2, 1) := by decide +kernel
theorem dX12_liked_108 : decode cX12_liked 108 = .ok (.iaload, 1) := by decide +kernel
theorem dX12_liked_109 : decode cX12_liked 109 = .ok (.iconst 4, 1) := by decide +kernel
theorem dX12_liked_110 : decode cX12_liked 110 = .ok (.idiv, 1) := by decide +kernel
theorem dX12_liked_111 : decode cX12_liked 111 = .ok (.isub, 1) := by decide +kernel
theorem dX12_liked_112 : decode cX12_liked 112 = .ok (.istore_n 3, 1) := by decide +kernel
theorem dX12_liked_113 : decode cX12_liked 113 = .ok (.iload_n 3, 1) := by decide +kernel
theorem dX12_liked_114 : decode cX12_liked 114 = .ok (.ireturn, 1) := by decide +kernel
theorem dX12_billOf_0 : decode cX12_billOf 0 = .ok (.iconst 0, 1) := by decide +kernel
theorem dX12_billOf_1 : decode cX12_billOf 1 = .ok (.istore_n 3, 1) := by decide +kernel
theorem dX12_billOf_2 : decode cX12_billOf 2 = .ok (.iconst 0, 1) := by decide +kernel
theorem dX12_billOf_3 : decode cX12_billOf 3 = .ok (.istore 4, 2) := by decide +kernel
theorem dX12_billOf_5 : decode cX12_billOf 5 = .ok (.iload 4, 2) := by decide +kernel
theorem dX12_billOf_7 : decode cX12_billOf 7 = .ok (.aload_n 0, 1) := by decide +kernel
theorem dX12_billOf_8 : decode cX12_billOf 8 = .ok (.getfield 7, 3) := by decide +kernel
theorem dX12_billOf_11 : decode cX12_billOf 11 = .ok (.if_icmp .ge 58, 3) := by decide +kernel
theorem dX12_billOf_14 : decode cX12_billOf 14 = .ok (.iload_n 3, 1) := by decide +kernel
theorem dX12_billOf_15 : decode cX12_billOf 15 = .ok (.aload_n 0, 1) := by decide +kernel
theorem dX12_billOf_16 : decode cX12_billOf 16 = .ok (.getfield 41, 3) := by decide +kernel
theorem dX12_billOf_19 : decode cX12_billOf 19 = .ok (.iload 4, 2) := by decide +kernel
theorem dX12_billOf_21 : decode cX12_billOf 21 = .ok (.iaload, 1) := by decide +kernel
theorem dX12_billOf_22 : decode cX12_billOf 22 = .ok (.iconst 2, 1) := by decide +kernel
theorem dX12_billOf_23 : decode cX12_billOf 23 = .ok (.if_icmp .ne 37, 3) := by decide +kernel
theorem dX12_billOf_26 : decode cX12_billOf 26 = .ok (.aload_n 0, 1) := by decide +kernel
theorem dX12_billOf_27 : decode cX12_billOf 27 = .ok (.getfield 44, 3) := by decide +kernel
theorem dX12_billOf_30 : decode cX12_billOf 30 = .ok (.iload 4, 2) := by decide +kernel
theorem dX12_billOf_32 : decode cX12_billOf 32 = .ok (.iaload, 1) := by decide +kernel
theorem dX12_billOf_33 : decode cX12_billOf 33 = .ok (.iload_n 1, 1) := by decide +kernel
theorem dX12_billOf_34 : decode cX12_billOf 34 = .ok (.if_icmp .ne 26, 3) := by decide +kernel
theorem dX12_billOf_37 : decode cX12_billOf 37 = .ok (.iload_n 2, 1) := by decide +kernel
theorem dX12_billOf_38 : decode cX12_billOf 38 = .ok (.ifCond .eq 7, 3) := by decide +kernel
theorem dX12_billOf_41 : decode cX12_billOf 41 = .ok (.iconst 1, 1) := by decide +kernel
theorem dX12_billOf_42 : decode cX12_billOf 42 = .ok (.goto 19, 3) := by decide +kernel
theorem dX12_billOf_45 : decode cX12_billOf 45 = .ok (.aload_n 0, 1) := by decide +kernel
theorem dX12_billOf_46 : decode cX12_billOf 46 = .ok (.getfield 29, 3) := by decide +kernel
theorem dX12_billOf_49 : decode cX12_billOf 49 = .ok (.aload_n 0, 1) := by decide +kernel
theorem dX12_billOf_50 : decode cX12_billOf 50 = .ok (.getfield 35, 3) := by decide +kernel
theorem dX12_billOf_53 : decode cX12_billOf 53 = .ok (.iload 4, 2) := by decide +kernel
theorem dX12_billOf_55 : decode cX12_billOf 55 = .ok (.iaload, 1) := by decide +kernel
theorem dX12_billOf_56 : decode cX12_billOf 56 = .ok (.iaload, 1) := by decide +kernel
theorem dX12_billOf_57 : decode cX12_billOf 57 = .ok (.goto 4, 3) := by decide +kernel
theorem dX12_billOf_60 : decode cX12_billOf 60 = .ok (.iconst 0, 1) := by decide +kernel
theorem dX12_billOf_61 : decode cX12_billOf 61 = .ok (.iadd, 1) := by decide +kernel
theorem dX12_billOf_62 : decode cX12_billOf 62 = .ok (.istore_n 3, 1) := by decide +kernel
theorem dX12_billOf_63 : decode cX12_billOf 63 = .ok (.iinc 4 1, 3) := by decide +kernel
theorem dX12_billOf_66 : decode cX12_billOf 66 = .ok (.goto (-61), 3) := by decide +kernel
theorem dX12_billOf_69 : decode cX12_billOf 69 = .ok (.iload_n 3, 1) := by decide +kernel
theorem dX12_billOf_70 : decode cX12_billOf 70 = .ok (.ireturn, 1) := by decide +kernel
theorem dX12_seatTold_0 : decode cX12_seatTold 0 = .ok (.aload_n 0, 1) := by decide +kernel
theorem dX12_seatTold_1 : decode cX12_seatTold 1 = .ok (.iload_n 1, 1) := by decide +kernel
theorem dX12_seatTold_2 : decode cX12_seatTold 2 = .ok (.invokevirtual 239, 3) := by decide +kernel
theorem dX12_seatTold_5 : decode cX12_seatTold 5 = .ok (.ifCond .eq 14, 3) := by decide +kernel
theorem dX12_seatTold_8 : decode cX12_seatTold 8 = .ok (.aload_n 0, 1) := by decide +kernel
theorem dX12_seatTold_9 : decode cX12_seatTold 9 = .ok (.iload_n 2, 1) := by decide +kernel
theorem dX12_seatTold_10 : decode cX12_seatTold 10 = .ok (.iconst 0, 1) := by decide +kernel
theorem dX12_seatTold_11 : decode cX12_seatTold 11 = .ok (.bipush 7, 2) := by decide +kernel
theorem dX12_seatTold_13 : decode cX12_seatTold 13 = .ok (.invokevirtual 217, 3) := by decide +kernel
theorem dX12_seatTold_16 : decode cX12_seatTold 16 = .ok (.ifCond .ne 6, 3) := by decide +kernel
theorem dX12_seatTold_19 : decode cX12_seatTold 19 = .ok (.bipush (-2), 2) := by decide +kernel
theorem dX12_seatTold_21 : decode cX12_seatTold 21 = .ok (.ireturn, 1) := by decide +kernel
theorem dX12_seatTold_22 : decode cX12_seatTold 22 = .ok (.iload_n 2, 1) := by decide +kernel
theorem dX12_seatTold_23 : decode cX12_seatTold 23 = .ok (.ifCond .ne 10, 3) := by decide +kernel
theorem dX12_seatTold_26 : decode cX12_seatTold 26 = .ok (.aload_n 0, 1) := by decide +kernel
theorem dX12_seatTold_27 : decode cX12_seatTold 27 = .ok (.getfield 65, 3) := by decide +kernel
theorem dX12_seatTold_30 : decode cX12_seatTold 30 = .ok (.iload_n 1, 1) := by decide +kernel
theorem dX12_seatTold_31 : decode cX12_seatTold 31 = .ok (.iaload, 1) := by decide +kernel
theorem dX12_seatTold_32 : decode cX12_seatTold 32 = .ok (.ireturn, 1) := by decide +kernel
theorem dX12_seatTold_33 : decode cX12_seatTold 33 = .ok (.iload_n 2, 1) := by decide +kernel
theorem dX12_seatTold_34 : decode cX12_seatTold 34 = .ok (.iconst 5, 1) := by decide +kernel
theorem dX12_seatTold_35 : decode cX12_seatTold 35 = .ok (.if_icmp .eq 9, 3) := by decide +kernel
theorem dX12_seatTold_38 : decode cX12_seatTold 38 = .ok (.iload_n 2, 1) := by decide +kernel
theorem dX12_seatTold_39 : decode cX12_seatTold 39 = .ok (.bipush 6, 2) := by decide +kernel
theorem dX12_seatTold_41 : decode cX12_seatTold 41 = .ok (.if_icmp .ne 19, 3) := by decide +kernel
theorem dX12_seatTold_44 : decode cX12_seatTold 44 = .ok (.aload_n 0, 1) := by decide +kernel
theorem dX12_seatTold_45 : decode cX12_seatTold 45 = .ok (.iload_n 1, 1) := by decide +kernel
theorem dX12_seatTold_46 : decode cX12_seatTold 46 = .ok (.iload_n 2, 1) := by decide +kernel
theorem dX12_seatTold_47 : decode cX12_seatTold 47 = .ok (.iconst 5, 1) := by decide +kernel
theorem dX12_seatTold_48 : decode cX12_seatTold 48 = .ok (.if_icmp .ne 7, 3) := by decide +kernel
theorem dX12_seatTold_51 : decode cX12_seatTold 51 = .ok (.iconst 1, 1) := by decide +kernel
theorem dX12_seatTold_52 : decode cX12_seatTold 52 = .ok (.goto 4, 3) := by decide +kernel
theorem dX12_seatTold_55 : decode cX12_seatTold 55 = .ok (.iconst 0, 1) := by decide +kernel
theorem dX12_seatTold_56 : decode cX12_seatTold 56 = .ok (.invokevirtual 243, 3) := by decide +kernel
theorem dX12_seatTold_59 : decode cX12_seatTold 59 = .ok (.ireturn, 1) := by decide +kernel
theorem dX12_seatTold_60 : decode cX12_seatTold 60 = .ok (.aload_n 0, 1) := by decide +kernel
theorem dX12_seatTold_61 : decode cX12_seatTold 61 = .ok (.getfield 86, 3) := by decide +kernel
theorem dX12_seatTold_64 : decode cX12_seatTold 64 = .ok (.iload_n 1, 1) := by decide +kernel
theorem dX12_seatTold_65 : decode cX12_seatTold 65 = .ok (.baload, 1) := by decide +kernel
theorem dX12_seatTold_66 : decode cX12_seatTold 66 = .ok (.ifCond .ne 5, 3) := by decide +kernel
theorem dX12_seatTold_69 : decode cX12_seatTold 69 = .ok (.iconst (-1), 1) := by decide +kernel
theorem dX12_seatTold_70 : decode cX12_seatTold 70 = .ok (.ireturn, 1) := by decide +kernel
theorem dX12_seatTold_71 : decode cX12_seatTold 71 = .ok (.iload_n 2, 1) := by decide +kernel
theorem dX12_seatTold_72 : decode cX12_seatTold 72 = .ok (.iconst 1, 1) := by decide +kernel
theorem dX12_seatTold_73 : decode cX12_seatTold 73 = .ok (.if_icmp .ne 12, 3) := by decide +kernel
theorem dX12_seatTold_76 : decode cX12_seatTold 76 = .ok (.aload_n 0, 1) := by decide +kernel
theorem dX12_seatTold_77 : decode cX12_seatTold 77 = .ok (.getfield 68, 3) := by decide +kernel
theorem dX12_seatTold_80 : decode cX12_seatTold 80 = .ok (.iload_n 1, 1) := by decide +kernel
theorem dX12_seatTold_81 : decode cX12_seatTold 81 = .ok (.iaload, 1) := by decide +kernel
theorem dX12_seatTold_82 : decode cX12_seatTold 82 = .ok (.goto 55, 3) := by decide +kernel
theorem dX12_seatTold_85 : decode cX12_seatTold 85 = .ok (.iload_n 2, 1) := by decide +kernel
theorem dX12_seatTold_86 : decode cX12_seatTold 86 = .ok (.iconst 2, 1) := by decide +kernel
theorem dX12_seatTold_87 : decode cX12_seatTold 87 = .ok (.if_icmp .ne 12, 3) := by decide +kernel
theorem dX12_seatTold_90 : decode cX12_seatTold 90 = .ok (.aload_n 0, 1) := by decide +kernel
theorem dX12_seatTold_91 : decode cX12_seatTold 91 = .ok (.getfield 71, 3) := by decide +kernel
theorem dX12_seatTold_94 : decode cX12_seatTold 94 = .ok (.iload_n 1, 1) := by decide +kernel
theorem dX12_seatTold_95 : decode cX12_seatTold 95 = .ok (.iaload, 1) := by decide +kernel
theorem dX12_seatTold_96 : decode cX12_seatTold 96 = .ok (.goto 41, 3) := by decide +kernel
theorem dX12_seatTold_99 : decode cX12_seatTold 99 = .ok (.iload_n 2, 1) := by decide +kernel
theorem dX12_seatTold_100 : decode cX12_seatTold 100 = .ok (.iconst 3, 1) := by decide +kernel
theorem dX12_seatTold_101 : decode cX12_seatTold 101 = .ok (.if_icmp .ne 12, 3) := by decide +kernel
theorem dX12_seatTold_104 : decode cX12_seatTold 104 = .ok (.aload_n 0, 1) := by decide +kernel
theorem dX12_seatTold_105 : decode cX12_seatTold 105 = .ok (.getfield 74, 3) := by decide +kernel
theorem dX12_seatTold_108 : decode cX12_seatTold 108 = .ok (.iload_n 1, 1) := by decide +kernel
theorem dX12_seatTold_109 : decode cX12_seatTold 109 = .ok (.iaload, 1) := by decide +kernel
theorem dX12_seatTold_110 : decode cX12_seatTold 110 = .ok (.goto 27, 3) := by decide +kernel
theorem dX12_seatTold_113 : decode cX12_seatTold 113 = .ok (.iload_n 2, 1) := by decide +kernel
theorem dX12_seatTold_114 : decode cX12_seatTold 114 = .ok (.iconst 4, 1) := by decide +kernel
theorem dX12_seatTold_115 : decode cX12_seatTold 115 = .ok (.if_icmp .ne 16, 3) := by decide +kernel
theorem dX12_seatTold_118 : decode cX12_seatTold 118 = .ok (.aload_n 0, 1) := by decide +kernel
theorem dX12_seatTold_119 : decode cX12_seatTold 119 = .ok (.aload_n 0, 1) := by decide +kernel
theorem dX12_seatTold_120 : decode cX12_seatTold 120 = .ok (.getfield 68, 3) := by decide +kernel
theorem dX12_seatTold_123 : decode cX12_seatTold 123 = .ok (.iload_n 1, 1) := by decide +kernel
theorem dX12_seatTold_124 : decode cX12_seatTold 124 = .ok (.iaload, 1) := by decide +kernel
theorem dX12_seatTold_125 : decode cX12_seatTold 125 = .ok (.invokevirtual 247, 3) := by decide +kernel
theorem dX12_seatTold_128 : decode cX12_seatTold 128 = .ok (.goto 9, 3) := by decide +kernel
theorem dX12_seatTold_131 : decode cX12_seatTold 131 = .ok (.aload_n 0, 1) := by decide +kernel
theorem dX12_seatTold_132 : decode cX12_seatTold 132 = .ok (.getfield 77, 3) := by decide +kernel
theorem dX12_seatTold_135 : decode cX12_seatTold 135 = .ok (.iload_n 1, 1) := by decide +kernel
theorem dX12_seatTold_136 : decode cX12_seatTold 136 = .ok (.iaload, 1) := by decide +kernel
theorem dX12_seatTold_137 : decode cX12_seatTold 137 = .ok (.ireturn, 1) := by decide +kernel
theorem dX12_liking_0 : decode cX12_liking 0 = .ok (.aload_n 0, 1) := by decide +kernel
theorem dX12_liking_1 : decode cX12_liking 1 = .ok (.iload_n 1, 1) := by decide +kernel
theorem dX12_liking_2 : decode cX12_liking 2 = .ok (.invokevirtual 251, 3) := by decide +kernel
theorem dX12_liking_5 : decode cX12_liking 5 = .ok (.ifCond .eq 21, 3) := by decide +kernel
theorem dX12_liking_8 : decode cX12_liking 8 = .ok (.aload_n 0, 1) := by decide +kernel
theorem dX12_liking_9 : decode cX12_liking 9 = .ok (.iload_n 2, 1) := by decide +kernel
theorem dX12_liking_10 : decode cX12_liking 10 = .ok (.invokevirtual 229, 3) := by decide +kernel
theorem dX12_liking_13 : decode cX12_liking 13 = .ok (.ifCond .eq 13, 3) := by decide +kernel
theorem dX12_liking_16 : decode cX12_liking 16 = .ok (.aload_n 0, 1) := by decide +kernel
theorem dX12_liking_17 : decode cX12_liking 17 = .ok (.iload_n 1, 1) := by decide +kernel
theorem dX12_liking_18 : decode cX12_liking 18 = .ok (.iload_n 2, 1) := by decide +kernel
theorem dX12_liking_19 : decode cX12_liking 19 = .ok (.invokevirtual 254, 3) := by decide +kernel
theorem dX12_liking_22 : decode cX12_liking 22 = .ok (.i2l, 1) := by decide +kernel
theorem dX12_liking_23 : decode cX12_liking 23 = .ok (.goto 6, 3) := by decide +kernel
theorem dX12_liking_26 : decode cX12_liking 26 = .ok (.ldc2_w 258, 3) := by decide +kernel
theorem dX12_liking_29 : decode cX12_liking 29 = .ok (.lreturn, 1) := by decide +kernel
theorem dX12_pays_0 : decode cX12_pays 0 = .ok (.aload_n 0, 1) := by decide +kernel
theorem dX12_pays_1 : decode cX12_pays 1 = .ok (.iload_n 1, 1) := by decide +kernel
theorem dX12_pays_2 : decode cX12_pays 2 = .ok (.invokevirtual 239, 3) := by decide +kernel
theorem dX12_pays_5 : decode cX12_pays 5 = .ok (.ifCond .eq 21, 3) := by decide +kernel
theorem dX12_pays_8 : decode cX12_pays 8 = .ok (.iload_n 2, 1) := by decide +kernel
theorem dX12_pays_9 : decode cX12_pays 9 = .ok (.iconst (-1), 1) := by decide +kernel
theorem dX12_pays_10 : decode cX12_pays 10 = .ok (.if_icmp .eq 11, 3) := by decide +kernel
theorem dX12_pays_13 : decode cX12_pays 13 = .ok (.aload_n 0, 1) := by decide +kernel
theorem dX12_pays_14 : decode cX12_pays 14 = .ok (.iload_n 2, 1) := by decide +kernel
theorem dX12_pays_15 : decode cX12_pays 15 = .ok (.invokevirtual 239, 3) := by decide +kernel
theorem dX12_pays_18 : decode cX12_pays 18 = .ok (.ifCond .eq 8, 3) := by decide +kernel
theorem dX12_pays_21 : decode cX12_pays 21 = .ok (.iload_n 1, 1) := by decide +kernel
theorem dX12_pays_22 : decode cX12_pays 22 = .ok (.iload_n 2, 1) := by decide +kernel
theorem dX12_pays_23 : decode cX12_pays 23 = .ok (.if_icmp .ne 6, 3) := by decide +kernel
theorem dX12_pays_26 : decode cX12_pays 26 = .ok (.bipush (-2), 2) := by decide +kernel
theorem dX12_pays_28 : decode cX12_pays 28 = .ok (.ireturn, 1) := by decide +kernel
theorem dX12_pays_29 : decode cX12_pays 29 = .ok (.aload_n 0, 1) := by decide +kernel
theorem dX12_pays_30 : decode cX12_pays 30 = .ok (.getfield 86, 3) := by decide +kernel
theorem dX12_pays_33 : decode cX12_pays 33 = .ok (.iload_n 1, 1) := by decide +kernel
theorem dX12_pays_34 : decode cX12_pays 34 = .ok (.baload, 1) := by decide +kernel
theorem dX12_pays_35 : decode cX12_pays 35 = .ok (.ifCond .eq 17, 3) := by decide +kernel
theorem dX12_pays_38 : decode cX12_pays 38 = .ok (.iload_n 2, 1) := by decide +kernel
theorem dX12_pays_39 : decode cX12_pays 39 = .ok (.iconst (-1), 1) := by decide +kernel
theorem dX12_pays_40 : decode cX12_pays 40 = .ok (.if_icmp .eq 15, 3) := by decide +kernel
theorem dX12_pays_43 : decode cX12_pays 43 = .ok (.aload_n 0, 1) := by decide +kernel
theorem dX12_pays_44 : decode cX12_pays 44 = .ok (.getfield 86, 3) := by decide +kernel
theorem dX12_pays_47 : decode cX12_pays 47 = .ok (.iload_n 2, 1) := by decide +kernel
theorem dX12_pays_48 : decode cX12_pays 48 = .ok (.baload, 1) := by decide +kernel
theorem dX12_pays_49 : decode cX12_pays 49 = .ok (.ifCond .ne 6, 3) := by decide +kernel
theorem dX12_pays_52 : decode cX12_pays 52 = .ok (.bipush (-5), 2) := by decide +kernel
theorem dX12_pays_54 : decode cX12_pays 54 = .ok (.ireturn, 1) := by decide +kernel
theorem dX12_pays_55 : decode cX12_pays 55 = .ok (.aload_n 0, 1) := by decide +kernel
theorem dX12_pays_56 : decode cX12_pays 56 = .ok (.getfield 77, 3) := by decide +kernel
theorem dX12_pays_59 : decode cX12_pays 59 = .ok (.iload_n 1, 1) := by decide +kernel
theorem dX12_pays_60 : decode cX12_pays 60 = .ok (.iaload, 1) := by decide +kernel
theorem dX12_pays_61 : decode cX12_pays 61 = .ok (.istore_n 3, 1) := by decide +kernel
theorem dX12_pays_62 : decode cX12_pays 62 = .ok (.aload_n 0, 1) := by decide +kernel
theorem dX12_pays_63 : decode cX12_pays 63 = .ok (.getfield 77, 3) := by decide +kernel
theorem dX12_pays_66 : decode cX12_pays 66 = .ok (.iload_n 1, 1) := by decide +kernel
theorem dX12_pays_67 : decode cX12_pays 67 = .ok (.iload_n 2, 1) := by decide +kernel
theorem dX12_pays_68 : decode cX12_pays 68 = .ok (.iastore, 1) := by decide +kernel
theorem dX12_pays_69 : decode cX12_pays 69 = .ok (.iload_n 3, 1) := by decide +kernel
theorem dX12_pays_70 : decode cX12_pays 70 = .ok (.ireturn, 1) := by decide +kernel
theorem dX12_putBack_0 : decode cX12_putBack 0 = .ok (.aload_n 0, 1) := by decide +kernel
theorem dX12_putBack_1 : decode cX12_putBack 1 = .ok (.iload_n 1, 1) := by decide +kernel
theorem dX12_putBack_2 : decode cX12_putBack 2 = .ok (.invokevirtual 239, 3) := by decide +kernel
theorem dX12_putBack_5 : decode cX12_putBack 5 = .ok (.ifCond .ne 6, 3) := by decide +kernel
theorem dX12_putBack_8 : decode cX12_putBack 8 = .ok (.bipush (-2), 2) := by decide +kernel
theorem dX12_putBack_10 : decode cX12_putBack 10 = .ok (.ireturn, 1) := by decide +kernel
theorem dX12_putBack_11 : decode cX12_putBack 11 = .ok (.aload_n 0, 1) := by decide +kernel
theorem dX12_putBack_12 : decode cX12_putBack 12 = .ok (.getfield 86, 3) := by decide +kernel
theorem dX12_putBack_15 : decode cX12_putBack 15 = .ok (.iload_n 1, 1) := by decide +kernel
theorem dX12_putBack_16 : decode cX12_putBack 16 = .ok (.baload, 1) := by decide +kernel
theorem dX12_putBack_17 : decode cX12_putBack 17 = .ok (.ifCond .eq 26, 3) := by decide +kernel
theorem dX12_putBack_20 : decode cX12_putBack 20 = .ok (.aload_n 0, 1) := by decide +kernel
theorem dX12_putBack_21 : decode cX12_putBack 21 = .ok (.getfield 80, 3) := by decide +kernel
theorem dX12_putBack_24 : decode cX12_putBack 24 = .ok (.iload_n 1, 1) := by decide +kernel
theorem dX12_putBack_25 : decode cX12_putBack 25 = .ok (.iaload, 1) := by decide +kernel
theorem dX12_putBack_26 : decode cX12_putBack 26 = .ok (.ifCond .lt 17, 3) := by decide +kernel
theorem dX12_putBack_29 : decode cX12_putBack 29 = .ok (.aload_n 0, 1) := by decide +kernel
theorem dX12_putBack_30 : decode cX12_putBack 30 = .ok (.getfield 47, 3) := by decide +kernel
theorem dX12_putBack_33 : decode cX12_putBack 33 = .ok (.aload_n 0, 1) := by decide +kernel
theorem dX12_putBack_34 : decode cX12_putBack 34 = .ok (.getfield 65, 3) := by decide +kernel
theorem dX12_putBack_37 : decode cX12_putBack 37 = .ok (.iload_n 1, 1) := by decide +kernel
theorem dX12_putBack_38 : decode cX12_putBack 38 = .ok (.iaload, 1) := by decide +kernel
theorem dX12_putBack_39 : decode cX12_putBack 39 = .ok (.iaload, 1) := by decide +kernel
theorem dX12_putBack_40 : decode cX12_putBack 40 = .ok (.ifCond .lt 6, 3) := by decide +kernel
theorem dX12_putBack_43 : decode cX12_putBack 43 = .ok (.bipush (-3), 2) := by decide +kernel
theorem dX12_putBack_45 : decode cX12_putBack 45 = .ok (.ireturn, 1) := by decide +kernel
theorem dX12_putBack_46 : decode cX12_putBack 46 = .ok (.aload_n 0, 1) := by decide +kernel
theorem dX12_putBack_47 : decode cX12_putBack 47 = .ok (.getfield 80, 3) := by decide +kernel
theorem dX12_putBack_50 : decode cX12_putBack 50 = .ok (.iload_n 1, 1) := by decide +kernel
theorem dX12_putBack_51 : decode cX12_putBack 51 = .ok (.iaload, 1) := by decide +kernel
theorem dX12_putBack_52 : decode cX12_putBack 52 = .ok (.istore_n 2, 1) := by decide +kernel
theorem dX12_putBack_53 : decode cX12_putBack 53 = .ok (.aload_n 0, 1) := by decide +kernel
theorem dX12_putBack_54 : decode cX12_putBack 54 = .ok (.getfield 80, 3) := by decide +kernel
theorem dX12_putBack_57 : decode cX12_putBack 57 = .ok (.iload_n 1, 1) := by decide +kernel
theorem dX12_putBack_58 : decode cX12_putBack 58 = .ok (.iconst (-1), 1) := by decide +kernel
theorem dX12_putBack_59 : decode cX12_putBack 59 = .ok (.iastore, 1) := by decide +kernel
theorem dX12_putBack_60 : decode cX12_putBack 60 = .ok (.aload_n 0, 1) := by decide +kernel
theorem dX12_putBack_61 : decode cX12_putBack 61 = .ok (.getfield 41, 3) := by decide +kernel
theorem dX12_putBack_64 : decode cX12_putBack 64 = .ok (.iload_n 2, 1) := by decide +kernel
theorem dX12_putBack_65 : decode cX12_putBack 65 = .ok (.iconst 0, 1) := by decide +kernel
theorem dX12_putBack_66 : decode cX12_putBack 66 = .ok (.iastore, 1) := by decide +kernel
theorem dX12_putBack_67 : decode cX12_putBack 67 = .ok (.aload_n 0, 1) := by decide +kernel
theorem dX12_putBack_68 : decode cX12_putBack 68 = .ok (.getfield 44, 3) := by decide +kernel
theorem dX12_putBack_71 : decode cX12_putBack 71 = .ok (.iload_n 2, 1) := by decide +kernel
theorem dX12_putBack_72 : decode cX12_putBack 72 = .ok (.aload_n 0, 1) := by decide +kernel
theorem dX12_putBack_73 : decode cX12_putBack 73 = .ok (.getfield 65, 3) := by decide +kernel
theorem dX12_putBack_76 : decode cX12_putBack 76 = .ok (.iload_n 1, 1) := by decide +kernel
theorem dX12_putBack_77 : decode cX12_putBack 77 = .ok (.iaload, 1) := by decide +kernel
theorem dX12_putBack_78 : decode cX12_putBack 78 = .ok (.iastore, 1) := by decide +kernel
theorem dX12_putBack_79 : decode cX12_putBack 79 = .ok (.aload_n 0, 1) := by decide +kernel
theorem dX12_putBack_80 : decode cX12_putBack 80 = .ok (.getfield 47, 3) := by decide +kernel
theorem dX12_putBack_83 : decode cX12_putBack 83 = .ok (.aload_n 0, 1) := by decide +kernel
theorem dX12_putBack_84 : decode cX12_putBack 84 = .ok (.getfield 65, 3) := by decide +kernel
theorem dX12_putBack_87 : decode cX12_putBack 87 = .ok (.iload_n 1, 1) := by decide +kernel
theorem dX12_putBack_88 : decode cX12_putBack 88 = .ok (.iaload, 1) := by decide +kernel
theorem dX12_putBack_89 : decode cX12_putBack 89 = .ok (.iload_n 2, 1) := by decide +kernel
theorem dX12_putBack_90 : decode cX12_putBack 90 = .ok (.iastore, 1) := by decide +kernel
theorem dX12_putBack_91 : decode cX12_putBack 91 = .ok (.aload_n 0, 1) := by decide +kernel
theorem dX12_putBack_92 : decode cX12_putBack 92 = .ok (.getfield 71, 3) := by decide +kernel
theorem dX12_putBack_95 : decode cX12_putBack 95 = .ok (.iload_n 1, 1) := by decide +kernel
theorem dX12_putBack_96 : decode cX12_putBack 96 = .ok (.dup2, 1) := by decide +kernel
theorem dX12_putBack_97 : decode cX12_putBack 97 = .ok (.iaload, 1) := by decide +kernel
theorem dX12_putBack_98 : decode cX12_putBack 98 = .ok (.iconst 1, 1) := by decide +kernel
theorem dX12_putBack_99 : decode cX12_putBack 99 = .ok (.isub, 1) := by decide +kernel
theorem dX12_putBack_100 : decode cX12_putBack 100 = .ok (.iastore, 1) := by decide +kernel
theorem dX12_putBack_101 : decode cX12_putBack 101 = .ok (.iload_n 2, 1) := by decide +kernel
theorem dX12_putBack_102 : decode cX12_putBack 102 = .ok (.ireturn, 1) := by decide +kernel
theorem dX12_ruleZero_0 : decode cX12_ruleZero 0 = .ok (.aload_n 0, 1) := by decide +kernel
theorem dX12_ruleZero_1 : decode cX12_ruleZero 1 = .ok (.getfield 103, 3) := by decide +kernel
theorem dX12_ruleZero_4 : decode cX12_ruleZero 4 = .ok (.iconst 0, 1) := by decide +kernel
theorem dX12_ruleZero_5 : decode cX12_ruleZero 5 = .ok (.iconst 5, 1) := by decide +kernel
theorem dX12_ruleZero_6 : decode cX12_ruleZero 6 = .ok (.iastore, 1) := by decide +kernel
theorem dX12_ruleZero_7 : decode cX12_ruleZero 7 = .ok (.aload_n 0, 1) := by decide +kernel
theorem dX12_ruleZero_8 : decode cX12_ruleZero 8 = .ok (.getfield 106, 3) := by decide +kernel
theorem dX12_ruleZero_11 : decode cX12_ruleZero 11 = .ok (.iconst 0, 1) := by decide +kernel
theorem dX12_ruleZero_12 : decode cX12_ruleZero 12 = .ok (.iconst 4, 1) := by decide +kernel
theorem dX12_ruleZero_13 : decode cX12_ruleZero 13 = .ok (.iastore, 1) := by decide +kernel
theorem dX12_ruleZero_14 : decode cX12_ruleZero 14 = .ok (.aload_n 0, 1) := by decide +kernel
theorem dX12_ruleZero_15 : decode cX12_ruleZero 15 = .ok (.getfield 106, 3) := by decide +kernel
theorem dX12_ruleZero_18 : decode cX12_ruleZero 18 = .ok (.iconst 1, 1) := by decide +kernel
theorem dX12_ruleZero_19 : decode cX12_ruleZero 19 = .ok (.sipush 10000, 3) := by decide +kernel
theorem dX12_ruleZero_22 : decode cX12_ruleZero 22 = .ok (.iastore, 1) := by decide +kernel
theorem dX12_ruleZero_23 : decode cX12_ruleZero 23 = .ok (.aload_n 0, 1) := by decide +kernel
theorem dX12_ruleZero_24 : decode cX12_ruleZero 24 = .ok (.getfield 106, 3) := by decide +kernel
theorem dX12_ruleZero_27 : decode cX12_ruleZero 27 = .ok (.iconst 2, 1) := by decide +kernel
theorem dX12_ruleZero_28 : decode cX12_ruleZero 28 = .ok (.sipush 10002, 3) := by decide +kernel
theorem dX12_ruleZero_31 : decode cX12_ruleZero 31 = .ok (.iastore, 1) := by decide +kernel
theorem dX12_ruleZero_32 : decode cX12_ruleZero 32 = .ok (.aload_n 0, 1) := by decide +kernel
theorem dX12_ruleZero_33 : decode cX12_ruleZero 33 = .ok (.getfield 106, 3) := by decide +kernel
theorem dX12_ruleZero_36 : decode cX12_ruleZero 36 = .ok (.iconst 3, 1) := by decide +kernel
theorem dX12_ruleZero_37 : decode cX12_ruleZero 37 = .ok (.bipush (-6), 2) := by decide +kernel
theorem dX12_ruleZero_39 : decode cX12_ruleZero 39 = .ok (.iastore, 1) := by decide +kernel
theorem dX12_ruleZero_40 : decode cX12_ruleZero 40 = .ok (.aload_n 0, 1) := by decide +kernel
theorem dX12_ruleZero_41 : decode cX12_ruleZero 41 = .ok (.getfield 106, 3) := by decide +kernel
theorem dX12_ruleZero_44 : decode cX12_ruleZero 44 = .ok (.iconst 4, 1) := by decide +kernel
theorem dX12_ruleZero_45 : decode cX12_ruleZero 45 = .ok (.bipush (-4), 2) := by decide +kernel
theorem dX12_ruleZero_47 : decode cX12_ruleZero 47 = .ok (.iastore, 1) := by decide +kernel
theorem dX12_ruleZero_48 : decode cX12_ruleZero 48 = .ok (.aload_n 0, 1) := by decide +kernel
theorem dX12_ruleZero_49 : decode cX12_ruleZero 49 = .ok (.getfield 103, 3) := by decide +kernel
theorem dX12_ruleZero_52 : decode cX12_ruleZero 52 = .ok (.iconst 1, 1) := by decide +kernel
theorem dX12_ruleZero_53 : decode cX12_ruleZero 53 = .ok (.iconst 3, 1) := by decide +kernel
theorem dX12_ruleZero_54 : decode cX12_ruleZero 54 = .ok (.iastore, 1) := by decide +kernel
theorem dX12_ruleZero_55 : decode cX12_ruleZero 55 = .ok (.aload_n 0, 1) := by decide +kernel
theorem dX12_ruleZero_56 : decode cX12_ruleZero 56 = .ok (.getfield 106, 3) := by decide +kernel
theorem dX12_ruleZero_59 : decode cX12_ruleZero 59 = .ok (.sipush 160, 3) := by decide +kernel
theorem dX12_ruleZero_62 : decode cX12_ruleZero 62 = .ok (.sipush 10005, 3) := by decide +kernel
theorem dX12_ruleZero_65 : decode cX12_ruleZero 65 = .ok (.iastore, 1) := by decide +kernel
theorem dX12_ruleZero_66 : decode cX12_ruleZero 66 = .ok (.aload_n 0, 1) := by decide +kernel
theorem dX12_ruleZero_67 : decode cX12_ruleZero 67 = .ok (.getfield 106, 3) := by decide +kernel
theorem dX12_ruleZero_70 : decode cX12_ruleZero 70 = .ok (.sipush 161, 3) := by decide +kernel
theorem dX12_ruleZero_73 : decode cX12_ruleZero 73 = .ok (.sipush 10003, 3) := by decide +kernel
theorem dX12_ruleZero_76 : decode cX12_ruleZero 76 = .ok (.iastore, 1) := by decide +kernel
theorem dX12_ruleZero_77 : decode cX12_ruleZero 77 = .ok (.aload_n 0, 1) := by decide +kernel
theorem dX12_ruleZero_78 : decode cX12_ruleZero 78 = .ok (.getfield 106, 3) := by decide +kernel
theorem dX12_ruleZero_81 : decode cX12_ruleZero 81 = .ok (.sipush 162, 3) := by decide +kernel
theorem dX12_ruleZero_84 : decode cX12_ruleZero 84 = .ok (.bipush (-5), 2) := by decide +kernel
theorem dX12_ruleZero_86 : decode cX12_ruleZero 86 = .ok (.iastore, 1) := by decide +kernel
theorem dX12_ruleZero_87 : decode cX12_ruleZero 87 = .ok (.return_, 1) := by decide +kernel
theorem dX12_feed_0 : decode cX12_feed 0 = .ok (.aload_n 0, 1) := by decide +kernel
theorem dX12_feed_1 : decode cX12_feed 1 = .ok (.iload_n 1, 1) := by decide +kernel
theorem dX12_feed_2 : decode cX12_feed 2 = .ok (.iconst 1, 1) := by decide +kernel
theorem dX12_feed_3 : decode cX12_feed 3 = .ok (.bipush 8, 2) := by decide +kernel
theorem dX12_feed_5 : decode cX12_feed 5 = .ok (.invokevirtual 217, 3) := by decide +kernel
theorem dX12_feed_8 : decode cX12_feed 8 = .ok (.ifCond .ne 6, 3) := by decide +kernel
theorem dX12_feed_11 : decode cX12_feed 11 = .ok (.bipush (-2), 2) := by decide +kernel
theorem dX12_feed_13 : decode cX12_feed 13 = .ok (.ireturn, 1) := by decide +kernel
theorem dX12_feed_14 : decode cX12_feed 14 = .ok (.aload_n 0, 1) := by decide +kernel
theorem dX12_feed_15 : decode cX12_feed 15 = .ok (.getfield 94, 3) := by decide +kernel
theorem dX12_feed_18 : decode cX12_feed 18 = .ok (.iload_n 1, 1) := by decide +kernel
theorem dX12_feed_19 : decode cX12_feed 19 = .ok (.iadd, 1) := by decide +kernel
theorem dX12_feed_20 : decode cX12_feed 20 = .ok (.sipush 160, 3) := by decide +kernel
theorem dX12_feed_23 : decode cX12_feed 23 = .ok (.if_icmp .le 6, 3) := by decide +kernel
theorem dX12_feed_26 : decode cX12_feed 26 = .ok (.bipush (-4), 2) := by decide +kernel
theorem dX12_feed_28 : decode cX12_feed 28 = .ok (.ireturn, 1) := by decide +kernel
theorem dX12_feed_29 : decode cX12_feed 29 = .ok (.iconst 0, 1) := by decide +kernel
theorem dX12_feed_30 : decode cX12_feed 30 = .ok (.istore 4, 2) := by decide +kernel
theorem dX12_feed_32 : decode cX12_feed 32 = .ok (.iload 4, 2) := by decide +kernel
theorem dX12_feed_34 : decode cX12_feed 34 = .ok (.iload_n 1, 1) := by decide +kernel
theorem dX12_feed_35 : decode cX12_feed 35 = .ok (.if_icmp .ge 37, 3) := by decide +kernel
theorem dX12_feed_38 : decode cX12_feed 38 = .ok (.aload_n 0, 1) := by decide +kernel
theorem dX12_feed_39 : decode cX12_feed 39 = .ok (.getfield 90, 3) := by decide +kernel
theorem dX12_feed_42 : decode cX12_feed 42 = .ok (.aload_n 0, 1) := by decide +kernel
theorem dX12_feed_43 : decode cX12_feed 43 = .ok (.getfield 94, 3) := by decide +kernel
theorem dX12_feed_46 : decode cX12_feed 46 = .ok (.lload_n 2, 1) := by decide +kernel
theorem dX12_feed_47 : decode cX12_feed 47 = .ok (.bipush 8, 2) := by decide +kernel
theorem dX12_feed_49 : decode cX12_feed 49 = .ok (.iload 4, 2) := by decide +kernel
theorem dX12_feed_51 : decode cX12_feed 51 = .ok (.imul, 1) := by decide +kernel
theorem dX12_feed_52 : decode cX12_feed 52 = .ok (.lshr, 1) := by decide +kernel
theorem dX12_feed_53 : decode cX12_feed 53 = .ok (.l2i, 1) := by decide +kernel
theorem dX12_feed_54 : decode cX12_feed 54 = .ok (.i2b, 1) := by decide +kernel
theorem dX12_feed_55 : decode cX12_feed 55 = .ok (.bastore, 1) := by decide +kernel
theorem dX12_feed_56 : decode cX12_feed 56 = .ok (.aload_n 0, 1) := by decide +kernel
theorem dX12_feed_57 : decode cX12_feed 57 = .ok (.dup, 1) := by decide +kernel
theorem dX12_feed_58 : decode cX12_feed 58 = .ok (.getfield 94, 3) := by decide +kernel
theorem dX12_feed_61 : decode cX12_feed 61 = .ok (.iconst 1, 1) := by decide +kernel
theorem dX12_feed_62 : decode cX12_feed 62 = .ok (.iadd, 1) := by decide +kernel
theorem dX12_feed_63 : decode cX12_feed 63 = .ok (.putfield 94, 3) := by decide +kernel
theorem dX12_feed_66 : decode cX12_feed 66 = .ok (.iinc 4 1, 3) := by decide +kernel
theorem dX12_feed_69 : decode cX12_feed 69 = .ok (.goto (-37), 3) := by decide +kernel
theorem dX12_feed_72 : decode cX12_feed 72 = .ok (.aload_n 0, 1) := by decide +kernel
theorem dX12_feed_73 : decode cX12_feed 73 = .ok (.getfield 94, 3) := by decide +kernel
theorem dX12_feed_76 : decode cX12_feed 76 = .ok (.ireturn, 1) := by decide +kernel
theorem dX12_isLetter_0 : decode cX12_isLetter 0 = .ok (.iload_n 1, 1) := by decide +kernel
theorem dX12_isLetter_1 : decode cX12_isLetter 1 = .ok (.bipush 97, 2) := by decide +kernel
theorem dX12_isLetter_3 : decode cX12_isLetter 3 = .ok (.if_icmp .lt 13, 3) := by decide +kernel
theorem dX12_isLetter_6 : decode cX12_isLetter 6 = .ok (.iload_n 1, 1) := by decide +kernel
theorem dX12_isLetter_7 : decode cX12_isLetter 7 = .ok (.bipush 122, 2) := by decide +kernel
theorem dX12_isLetter_9 : decode cX12_isLetter 9 = .ok (.if_icmp .gt 7, 3) := by decide +kernel
theorem dX12_isLetter_12 : decode cX12_isLetter 12 = .ok (.iconst 1, 1) := by decide +kernel
theorem dX12_isLetter_13 : decode cX12_isLetter 13 = .ok (.goto 4, 3) := by decide +kernel
theorem dX12_isLetter_16 : decode cX12_isLetter 16 = .ok (.iconst 0, 1) := by decide +kernel
theorem dX12_isLetter_17 : decode cX12_isLetter 17 = .ok (.ireturn, 1) := by decide +kernel
theorem dX12_isDigit_0 : decode cX12_isDigit 0 = .ok (.iload_n 1, 1) := by decide +kernel
theorem dX12_isDigit_1 : decode cX12_isDigit 1 = .ok (.bipush 48, 2) := by decide +kernel
theorem dX12_isDigit_3 : decode cX12_isDigit 3 = .ok (.if_icmp .lt 13, 3) := by decide +kernel
theorem dX12_isDigit_6 : decode cX12_isDigit 6 = .ok (.iload_n 1, 1) := by decide +kernel
theorem dX12_isDigit_7 : decode cX12_isDigit 7 = .ok (.bipush 57, 2) := by decide +kernel
theorem dX12_isDigit_9 : decode cX12_isDigit 9 = .ok (.if_icmp .gt 7, 3) := by decide +kernel
theorem dX12_isDigit_12 : decode cX12_isDigit 12 = .ok (.iconst 1, 1) := by decide +kernel
theorem dX12_isDigit_13 : decode cX12_isDigit 13 = .ok (.goto 4, 3) := by decide +kernel
theorem dX12_isDigit_16 : decode cX12_isDigit 16 = .ok (.iconst 0, 1) := by decide +kernel
theorem dX12_isDigit_17 : decode cX12_isDigit 17 = .ok (.ireturn, 1) := by decide +kernel
theorem dX12_isWord_0 : decode cX12_isWord 0 = .ok (.lload_n 1, 1) := by decide +kernel
theorem dX12_isWord_1 : decode cX12_isWord 1 = .ok (.lstore_n 3, 1) := by decide +kernel
theorem dX12_isWord_2 : decode cX12_isWord 2 = .ok (.aload_n 0, 1) := by decide +kernel
theorem dX12_isWord_3 : decode cX12_isWord 3 = .ok (.getfield 109, 3) := by decide +kernel
theorem dX12_isWord_6 : decode cX12_isWord 6 = .ok (.iconst 1, 1) := by decide +kernel
theorem dX12_isWord_7 : decode cX12_isWord 7 = .ok (.isub, 1) := by decide +kernel
theorem dX12_isWord_8 : decode cX12_isWord 8 = .ok (.istore 5, 2) := by decide +kernel
theorem dX12_isWord_10 : decode cX12_isWord 10 = .ok (.iload 5, 2) := by decide +kernel
theorem dX12_isWord_12 : decode cX12_isWord 12 = .ok (.aload_n 0, 1) := by decide +kernel
theorem dX12_isWord_13 : decode cX12_isWord 13 = .ok (.getfield 118, 3) := by decide +kernel
theorem dX12_isWord_16 : decode cX12_isWord 16 = .ok (.if_icmp .lt 39, 3) := by decide +kernel
theorem dX12_isWord_19 : decode cX12_isWord 19 = .ok (.lload_n 3, 1) := by decide +kernel
theorem dX12_isWord_20 : decode cX12_isWord 20 = .ok (.lconst 0, 1) := by decide +kernel
theorem dX12_isWord_21 : decode cX12_isWord 21 = .ok (.lcmp, 1) := by decide +kernel
theorem dX12_isWord_22 : decode cX12_isWord 22 = .ok (.ifCond .le 33, 3) := by decide +kernel
theorem dX12_isWord_25 : decode cX12_isWord 25 = .ok (.lload_n 3, 1) := by decide +kernel
theorem dX12_isWord_26 : decode cX12_isWord 26 = .ok (.ldc2_w 260, 3) := by decide +kernel
theorem dX12_isWord_29 : decode cX12_isWord 29 = .ok (.land, 1) := by decide +kernel
theorem dX12_isWord_30 : decode cX12_isWord 30 = .ok (.aload_n 0, 1) := by decide +kernel
theorem dX12_isWord_31 : decode cX12_isWord 31 = .ok (.getfield 90, 3) := by decide +kernel
theorem dX12_isWord_34 : decode cX12_isWord 34 = .ok (.iload 5, 2) := by decide +kernel
theorem dX12_isWord_36 : decode cX12_isWord 36 = .ok (.baload, 1) := by decide +kernel
theorem dX12_isWord_37 : decode cX12_isWord 37 = .ok (.bipush 96, 2) := by decide +kernel
theorem dX12_isWord_39 : decode cX12_isWord 39 = .ok (.isub, 1) := by decide +kernel
theorem dX12_isWord_40 : decode cX12_isWord 40 = .ok (.i2l, 1) := by decide +kernel
theorem dX12_isWord_41 : decode cX12_isWord 41 = .ok (.lcmp, 1) := by decide +kernel
theorem dX12_isWord_42 : decode cX12_isWord 42 = .ok (.ifCond .ne 13, 3) := by decide +kernel
theorem dX12_isWord_45 : decode cX12_isWord 45 = .ok (.lload_n 3, 1) := by decide +kernel
theorem dX12_isWord_46 : decode cX12_isWord 46 = .ok (.iconst 5, 1) := by decide +kernel
theorem dX12_isWord_47 : decode cX12_isWord 47 = .ok (.lshr, 1) := by decide +kernel
theorem dX12_isWord_48 : decode cX12_isWord 48 = .ok (.lstore_n 3, 1) := by decide +kernel
theorem dX12_isWord_49 : decode cX12_isWord 49 = .ok (.iinc 5 (-1), 3) := by decide +kernel
theorem dX12_isWord_52 : decode cX12_isWord 52 = .ok (.goto (-42), 3) := by decide +kernel
theorem dX12_isWord_55 : decode cX12_isWord 55 = .ok (.lload_n 3, 1) := by decide +kernel
theorem dX12_isWord_56 : decode cX12_isWord 56 = .ok (.lconst 0, 1) := by decide +kernel
theorem dX12_isWord_57 : decode cX12_isWord 57 = .ok (.lcmp, 1) := by decide +kernel
theorem dX12_isWord_58 : decode cX12_isWord 58 = .ok (.ifCond .ne 18, 3) := by decide +kernel
theorem dX12_isWord_61 : decode cX12_isWord 61 = .ok (.iload 5, 2) := by decide +kernel
theorem dX12_isWord_63 : decode cX12_isWord 63 = .ok (.aload_n 0, 1) := by decide +kernel
theorem dX12_isWord_64 : decode cX12_isWord 64 = .ok (.getfield 118, 3) := by decide +kernel
theorem dX12_isWord_67 : decode cX12_isWord 67 = .ok (.iconst 1, 1) := by decide +kernel
theorem dX12_isWord_68 : decode cX12_isWord 68 = .ok (.isub, 1) := by decide +kernel
theorem dX12_isWord_69 : decode cX12_isWord 69 = .ok (.if_icmp .ne 7, 3) := by decide +kernel
theorem dX12_isWord_72 : decode cX12_isWord 72 = .ok (.iconst 1, 1) := by decide +kernel
theorem dX12_isWord_73 : decode cX12_isWord 73 = .ok (.goto 4, 3) := by decide +kernel
theorem dX12_isWord_76 : decode cX12_isWord 76 = .ok (.iconst 0, 1) := by decide +kernel
theorem dX12_isWord_77 : decode cX12_isWord 77 = .ok (.ireturn, 1) := by decide +kernel
theorem dX12_wordToken_0 : decode cX12_wordToken 0 = .ok (.aload_n 0, 1) := by decide +kernel
theorem dX12_wordToken_1 : decode cX12_wordToken 1 = .ok (.getfield 109, 3) := by decide +kernel
theorem dX12_wordToken_4 : decode cX12_wordToken 4 = .ok (.aload_n 0, 1) := by decide +kernel
theorem dX12_wordToken_5 : decode cX12_wordToken 5 = .ok (.getfield 94, 3) := by decide +kernel
theorem dX12_wordToken_8 : decode cX12_wordToken 8 = .ok (.if_icmp .ge 32, 3) := by decide +kernel
