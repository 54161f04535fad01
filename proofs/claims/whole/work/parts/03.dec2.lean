theorem dX8_row_32 : decode cX8_row 32 = .ok (.aload_n 0, 1) := by decide +kernel
theorem dX8_row_33 : decode cX8_row 33 = .ok (.iload_n 1, 1) := by decide +kernel
theorem dX8_row_34 : decode cX8_row 34 = .ok (.iconst 0, 1) := by decide +kernel
theorem dX8_row_35 : decode cX8_row 35 = .ok (.invokevirtual 81, 3) := by decide +kernel
theorem dX8_row_38 : decode cX8_row 38 = .ok (.bipush 6, 2) := by decide +kernel
theorem dX8_row_40 : decode cX8_row 40 = .ok (.if_icmp .ne 15, 3) := by decide +kernel
theorem dX8_row_43 : decode cX8_row 43 = .ok (.aload_n 0, 1) := by decide +kernel
theorem dX8_row_44 : decode cX8_row 44 = .ok (.iload_n 1, 1) := by decide +kernel
theorem dX8_row_45 : decode cX8_row 45 = .ok (.iconst 3, 1) := by decide +kernel
theorem dX8_row_46 : decode cX8_row 46 = .ok (.iload_n 2, 1) := by decide +kernel
theorem dX8_row_47 : decode cX8_row 47 = .ok (.iadd, 1) := by decide +kernel
theorem dX8_row_48 : decode cX8_row 48 = .ok (.iload_n 3, 1) := by decide +kernel
theorem dX8_row_49 : decode cX8_row 49 = .ok (.invokevirtual 89, 3) := by decide +kernel
theorem dX8_row_52 : decode cX8_row 52 = .ok (.goto 5, 3) := by decide +kernel
theorem dX8_row_55 : decode cX8_row 55 = .ok (.bipush (-3), 2) := by decide +kernel
theorem dX8_row_57 : decode cX8_row 57 = .ok (.ireturn, 1) := by decide +kernel
theorem dX8_feed_0 : decode cX8_feed 0 = .ok (.iload_n 1, 1) := by decide +kernel
theorem dX8_feed_1 : decode cX8_feed 1 = .ok (.iconst 0, 1) := by decide +kernel
theorem dX8_feed_2 : decode cX8_feed 2 = .ok (.bipush 127, 2) := by decide +kernel
theorem dX8_feed_4 : decode cX8_feed 4 = .ok (.invokestatic 77, 3) := by decide +kernel
theorem dX8_feed_7 : decode cX8_feed 7 = .ok (.ifCond .ne 6, 3) := by decide +kernel
theorem dX8_feed_10 : decode cX8_feed 10 = .ok (.bipush (-2), 2) := by decide +kernel
theorem dX8_feed_12 : decode cX8_feed 12 = .ok (.ireturn, 1) := by decide +kernel
theorem dX8_feed_13 : decode cX8_feed 13 = .ok (.aload_n 0, 1) := by decide +kernel
theorem dX8_feed_14 : decode cX8_feed 14 = .ok (.getfield 121, 3) := by decide +kernel
theorem dX8_feed_17 : decode cX8_feed 17 = .ok (.bipush 100, 2) := by decide +kernel
theorem dX8_feed_19 : decode cX8_feed 19 = .ok (.if_icmp .ne 6, 3) := by decide +kernel
theorem dX8_feed_22 : decode cX8_feed 22 = .ok (.bipush (-4), 2) := by decide +kernel
theorem dX8_feed_24 : decode cX8_feed 24 = .ok (.ireturn, 1) := by decide +kernel
theorem dX8_feed_25 : decode cX8_feed 25 = .ok (.aload_n 0, 1) := by decide +kernel
theorem dX8_feed_26 : decode cX8_feed 26 = .ok (.getfield 21, 3) := by decide +kernel
theorem dX8_feed_29 : decode cX8_feed 29 = .ok (.aload_n 0, 1) := by decide +kernel
theorem dX8_feed_30 : decode cX8_feed 30 = .ok (.getfield 121, 3) := by decide +kernel
theorem dX8_feed_33 : decode cX8_feed 33 = .ok (.iload_n 1, 1) := by decide +kernel
theorem dX8_feed_34 : decode cX8_feed 34 = .ok (.iastore, 1) := by decide +kernel
theorem dX8_feed_35 : decode cX8_feed 35 = .ok (.aload_n 0, 1) := by decide +kernel
theorem dX8_feed_36 : decode cX8_feed 36 = .ok (.dup, 1) := by decide +kernel
theorem dX8_feed_37 : decode cX8_feed 37 = .ok (.getfield 121, 3) := by decide +kernel
theorem dX8_feed_40 : decode cX8_feed 40 = .ok (.iconst 1, 1) := by decide +kernel
theorem dX8_feed_41 : decode cX8_feed 41 = .ok (.iadd, 1) := by decide +kernel
theorem dX8_feed_42 : decode cX8_feed 42 = .ok (.putfield 121, 3) := by decide +kernel
theorem dX8_feed_45 : decode cX8_feed 45 = .ok (.aload_n 0, 1) := by decide +kernel
theorem dX8_feed_46 : decode cX8_feed 46 = .ok (.getfield 121, 3) := by decide +kernel
theorem dX8_feed_49 : decode cX8_feed 49 = .ok (.ireturn, 1) := by decide +kernel
theorem dX8_isAt_0 : decode cX8_isAt 0 = .ok (.aload_n 0, 1) := by decide +kernel
theorem dX8_isAt_1 : decode cX8_isAt 1 = .ok (.getfield 125, 3) := by decide +kernel
theorem dX8_isAt_4 : decode cX8_isAt 4 = .ok (.ifCond .eq 31, 3) := by decide +kernel
theorem dX8_isAt_7 : decode cX8_isAt 7 = .ok (.aload_n 0, 1) := by decide +kernel
theorem dX8_isAt_8 : decode cX8_isAt 8 = .ok (.getfield 128, 3) := by decide +kernel
theorem dX8_isAt_11 : decode cX8_isAt 11 = .ok (.aload_n 0, 1) := by decide +kernel
theorem dX8_isAt_12 : decode cX8_isAt 12 = .ok (.getfield 131, 3) := by decide +kernel
theorem dX8_isAt_15 : decode cX8_isAt 15 = .ok (.if_icmp .ge 20, 3) := by decide +kernel
theorem dX8_isAt_18 : decode cX8_isAt 18 = .ok (.aload_n 0, 1) := by decide +kernel
theorem dX8_isAt_19 : decode cX8_isAt 19 = .ok (.getfield 30, 3) := by decide +kernel
theorem dX8_isAt_22 : decode cX8_isAt 22 = .ok (.aload_n 0, 1) := by decide +kernel
theorem dX8_isAt_23 : decode cX8_isAt 23 = .ok (.getfield 128, 3) := by decide +kernel
theorem dX8_isAt_26 : decode cX8_isAt 26 = .ok (.iaload, 1) := by decide +kernel
theorem dX8_isAt_27 : decode cX8_isAt 27 = .ok (.iload_n 1, 1) := by decide +kernel
theorem dX8_isAt_28 : decode cX8_isAt 28 = .ok (.if_icmp .ne 7, 3) := by decide +kernel
theorem dX8_isAt_31 : decode cX8_isAt 31 = .ok (.iconst 1, 1) := by decide +kernel
theorem dX8_isAt_32 : decode cX8_isAt 32 = .ok (.goto 4, 3) := by decide +kernel
theorem dX8_isAt_35 : decode cX8_isAt 35 = .ok (.iconst 0, 1) := by decide +kernel
theorem dX8_isAt_36 : decode cX8_isAt 36 = .ok (.ireturn, 1) := by decide +kernel
theorem dX8_takes_0 : decode cX8_takes 0 = .ok (.aload_n 0, 1) := by decide +kernel
theorem dX8_takes_1 : decode cX8_takes 1 = .ok (.iload_n 1, 1) := by decide +kernel
theorem dX8_takes_2 : decode cX8_takes 2 = .ok (.invokevirtual 134, 3) := by decide +kernel
theorem dX8_takes_5 : decode cX8_takes 5 = .ok (.ifCond .eq 16, 3) := by decide +kernel
theorem dX8_takes_8 : decode cX8_takes 8 = .ok (.aload_n 0, 1) := by decide +kernel
theorem dX8_takes_9 : decode cX8_takes 9 = .ok (.dup, 1) := by decide +kernel
theorem dX8_takes_10 : decode cX8_takes 10 = .ok (.getfield 128, 3) := by decide +kernel
theorem dX8_takes_13 : decode cX8_takes 13 = .ok (.iconst 1, 1) := by decide +kernel
theorem dX8_takes_14 : decode cX8_takes 14 = .ok (.iadd, 1) := by decide +kernel
theorem dX8_takes_15 : decode cX8_takes 15 = .ok (.putfield 128, 3) := by decide +kernel
theorem dX8_takes_18 : decode cX8_takes 18 = .ok (.goto 8, 3) := by decide +kernel
theorem dX8_takes_21 : decode cX8_takes 21 = .ok (.aload_n 0, 1) := by decide +kernel
theorem dX8_takes_22 : decode cX8_takes 22 = .ok (.iconst 0, 1) := by decide +kernel
theorem dX8_takes_23 : decode cX8_takes 23 = .ok (.putfield 125, 3) := by decide +kernel
theorem dX8_takes_26 : decode cX8_takes 26 = .ok (.return_, 1) := by decide +kernel
theorem dX8_isDigit_0 : decode cX8_isDigit 0 = .ok (.aload_n 0, 1) := by decide +kernel
theorem dX8_isDigit_1 : decode cX8_isDigit 1 = .ok (.getfield 125, 3) := by decide +kernel
theorem dX8_isDigit_4 : decode cX8_isDigit 4 = .ok (.ifCond .eq 46, 3) := by decide +kernel
theorem dX8_isDigit_7 : decode cX8_isDigit 7 = .ok (.aload_n 0, 1) := by decide +kernel
theorem dX8_isDigit_8 : decode cX8_isDigit 8 = .ok (.getfield 128, 3) := by decide +kernel
theorem dX8_isDigit_11 : decode cX8_isDigit 11 = .ok (.aload_n 0, 1) := by decide +kernel
theorem dX8_isDigit_12 : decode cX8_isDigit 12 = .ok (.getfield 131, 3) := by decide +kernel
theorem dX8_isDigit_15 : decode cX8_isDigit 15 = .ok (.if_icmp .ge 35, 3) := by decide +kernel
theorem dX8_isDigit_18 : decode cX8_isDigit 18 = .ok (.aload_n 0, 1) := by decide +kernel
theorem dX8_isDigit_19 : decode cX8_isDigit 19 = .ok (.getfield 30, 3) := by decide +kernel
theorem dX8_isDigit_22 : decode cX8_isDigit 22 = .ok (.aload_n 0, 1) := by decide +kernel
theorem dX8_isDigit_23 : decode cX8_isDigit 23 = .ok (.getfield 128, 3) := by decide +kernel
theorem dX8_isDigit_26 : decode cX8_isDigit 26 = .ok (.iaload, 1) := by decide +kernel
theorem dX8_isDigit_27 : decode cX8_isDigit 27 = .ok (.bipush 48, 2) := by decide +kernel
theorem dX8_isDigit_29 : decode cX8_isDigit 29 = .ok (.if_icmp .lt 21, 3) := by decide +kernel
theorem dX8_isDigit_32 : decode cX8_isDigit 32 = .ok (.aload_n 0, 1) := by decide +kernel
theorem dX8_isDigit_33 : decode cX8_isDigit 33 = .ok (.getfield 30, 3) := by decide +kernel
theorem dX8_isDigit_36 : decode cX8_isDigit 36 = .ok (.aload_n 0, 1) := by decide +kernel
theorem dX8_isDigit_37 : decode cX8_isDigit 37 = .ok (.getfield 128, 3) := by decide +kernel
theorem dX8_isDigit_40 : decode cX8_isDigit 40 = .ok (.iaload, 1) := by decide +kernel
theorem dX8_isDigit_41 : decode cX8_isDigit 41 = .ok (.bipush 57, 2) := by decide +kernel
theorem dX8_isDigit_43 : decode cX8_isDigit 43 = .ok (.if_icmp .gt 7, 3) := by decide +kernel
theorem dX8_isDigit_46 : decode cX8_isDigit 46 = .ok (.iconst 1, 1) := by decide +kernel
theorem dX8_isDigit_47 : decode cX8_isDigit 47 = .ok (.goto 4, 3) := by decide +kernel
theorem dX8_isDigit_50 : decode cX8_isDigit 50 = .ok (.iconst 0, 1) := by decide +kernel
theorem dX8_isDigit_51 : decode cX8_isDigit 51 = .ok (.ireturn, 1) := by decide +kernel
theorem dX8_number__0 : decode cX8_number_ 0 = .ok (.aload_n 0, 1) := by decide +kernel
theorem dX8_number__1 : decode cX8_number_ 1 = .ok (.invokevirtual 137, 3) := by decide +kernel
theorem dX8_number__4 : decode cX8_number_ 4 = .ok (.ifCond .ne 10, 3) := by decide +kernel
theorem dX8_number__7 : decode cX8_number_ 7 = .ok (.aload_n 0, 1) := by decide +kernel
theorem dX8_number__8 : decode cX8_number_ 8 = .ok (.iconst 0, 1) := by decide +kernel
theorem dX8_number__9 : decode cX8_number_ 9 = .ok (.putfield 125, 3) := by decide +kernel
theorem dX8_number__12 : decode cX8_number_ 12 = .ok (.iconst 0, 1) := by decide +kernel
theorem dX8_number__13 : decode cX8_number_ 13 = .ok (.ireturn, 1) := by decide +kernel
theorem dX8_number__14 : decode cX8_number_ 14 = .ok (.aload_n 0, 1) := by decide +kernel
theorem dX8_number__15 : decode cX8_number_ 15 = .ok (.getfield 30, 3) := by decide +kernel
theorem dX8_number__18 : decode cX8_number_ 18 = .ok (.aload_n 0, 1) := by decide +kernel
theorem dX8_number__19 : decode cX8_number_ 19 = .ok (.getfield 128, 3) := by decide +kernel
theorem dX8_number__22 : decode cX8_number_ 22 = .ok (.iaload, 1) := by decide +kernel
theorem dX8_number__23 : decode cX8_number_ 23 = .ok (.bipush 48, 2) := by decide +kernel
theorem dX8_number__25 : decode cX8_number_ 25 = .ok (.isub, 1) := by decide +kernel
theorem dX8_number__26 : decode cX8_number_ 26 = .ok (.istore_n 1, 1) := by decide +kernel
theorem dX8_number__27 : decode cX8_number_ 27 = .ok (.aload_n 0, 1) := by decide +kernel
theorem dX8_number__28 : decode cX8_number_ 28 = .ok (.dup, 1) := by decide +kernel
theorem dX8_number__29 : decode cX8_number_ 29 = .ok (.getfield 128, 3) := by decide +kernel
theorem dX8_number__32 : decode cX8_number_ 32 = .ok (.iconst 1, 1) := by decide +kernel
theorem dX8_number__33 : decode cX8_number_ 33 = .ok (.iadd, 1) := by decide +kernel
theorem dX8_number__34 : decode cX8_number_ 34 = .ok (.putfield 128, 3) := by decide +kernel
theorem dX8_number__37 : decode cX8_number_ 37 = .ok (.aload_n 0, 1) := by decide +kernel
theorem dX8_number__38 : decode cX8_number_ 38 = .ok (.invokevirtual 137, 3) := by decide +kernel
theorem dX8_number__41 : decode cX8_number_ 41 = .ok (.ifCond .eq 31, 3) := by decide +kernel
theorem dX8_number__44 : decode cX8_number_ 44 = .ok (.bipush 10, 2) := by decide +kernel
theorem dX8_number__46 : decode cX8_number_ 46 = .ok (.iload_n 1, 1) := by decide +kernel
theorem dX8_number__47 : decode cX8_number_ 47 = .ok (.imul, 1) := by decide +kernel
theorem dX8_number__48 : decode cX8_number_ 48 = .ok (.aload_n 0, 1) := by decide +kernel
theorem dX8_number__49 : decode cX8_number_ 49 = .ok (.getfield 30, 3) := by decide +kernel
theorem dX8_number__52 : decode cX8_number_ 52 = .ok (.aload_n 0, 1) := by decide +kernel
theorem dX8_number__53 : decode cX8_number_ 53 = .ok (.getfield 128, 3) := by decide +kernel
theorem dX8_number__56 : decode cX8_number_ 56 = .ok (.iaload, 1) := by decide +kernel
theorem dX8_number__57 : decode cX8_number_ 57 = .ok (.iadd, 1) := by decide +kernel
theorem dX8_number__58 : decode cX8_number_ 58 = .ok (.bipush 48, 2) := by decide +kernel
theorem dX8_number__60 : decode cX8_number_ 60 = .ok (.isub, 1) := by decide +kernel
theorem dX8_number__61 : decode cX8_number_ 61 = .ok (.istore_n 1, 1) := by decide +kernel
theorem dX8_number__62 : decode cX8_number_ 62 = .ok (.aload_n 0, 1) := by decide +kernel
theorem dX8_number__63 : decode cX8_number_ 63 = .ok (.dup, 1) := by decide +kernel
theorem dX8_number__64 : decode cX8_number_ 64 = .ok (.getfield 128, 3) := by decide +kernel
theorem dX8_number__67 : decode cX8_number_ 67 = .ok (.iconst 1, 1) := by decide +kernel
theorem dX8_number__68 : decode cX8_number_ 68 = .ok (.iadd, 1) := by decide +kernel
theorem dX8_number__69 : decode cX8_number_ 69 = .ok (.putfield 128, 3) := by decide +kernel
theorem dX8_number__72 : decode cX8_number_ 72 = .ok (.iload_n 1, 1) := by decide +kernel
theorem dX8_number__73 : decode cX8_number_ 73 = .ok (.ireturn, 1) := by decide +kernel
theorem dX8_test_0 : decode cX8_test 0 = .ok (.iconst (-1), 1) := by decide +kernel
theorem dX8_test_1 : decode cX8_test 1 = .ok (.istore_n 1, 1) := by decide +kernel
theorem dX8_test_2 : decode cX8_test 2 = .ok (.iconst 0, 1) := by decide +kernel
theorem dX8_test_3 : decode cX8_test 3 = .ok (.istore_n 2, 1) := by decide +kernel
theorem dX8_test_4 : decode cX8_test 4 = .ok (.iload_n 2, 1) := by decide +kernel
theorem dX8_test_5 : decode cX8_test 5 = .ok (.bipush 6, 2) := by decide +kernel
theorem dX8_test_7 : decode cX8_test 7 = .ok (.if_icmp .ge 28, 3) := by decide +kernel
theorem dX8_test_10 : decode cX8_test 10 = .ok (.aload_n 0, 1) := by decide +kernel
theorem dX8_test_11 : decode cX8_test 11 = .ok (.aload_n 0, 1) := by decide +kernel
theorem dX8_test_12 : decode cX8_test 12 = .ok (.getfield 36, 3) := by decide +kernel
theorem dX8_test_15 : decode cX8_test 15 = .ok (.iload_n 2, 1) := by decide +kernel
theorem dX8_test_16 : decode cX8_test 16 = .ok (.caload, 1) := by decide +kernel
theorem dX8_test_17 : decode cX8_test 17 = .ok (.invokevirtual 134, 3) := by decide +kernel
theorem dX8_test_20 : decode cX8_test 20 = .ok (.ifCond .eq 7, 3) := by decide +kernel
theorem dX8_test_23 : decode cX8_test 23 = .ok (.iload_n 2, 1) := by decide +kernel
theorem dX8_test_24 : decode cX8_test 24 = .ok (.goto 4, 3) := by decide +kernel
theorem dX8_test_27 : decode cX8_test 27 = .ok (.iload_n 1, 1) := by decide +kernel
theorem dX8_test_28 : decode cX8_test 28 = .ok (.istore_n 1, 1) := by decide +kernel
theorem dX8_test_29 : decode cX8_test 29 = .ok (.iinc 2 1, 3) := by decide +kernel
theorem dX8_test_32 : decode cX8_test 32 = .ok (.goto (-28), 3) := by decide +kernel
theorem dX8_test_35 : decode cX8_test 35 = .ok (.iload_n 1, 1) := by decide +kernel
theorem dX8_test_36 : decode cX8_test 36 = .ok (.iconst (-1), 1) := by decide +kernel
theorem dX8_test_37 : decode cX8_test 37 = .ok (.if_icmp .ne 10, 3) := by decide +kernel
theorem dX8_test_40 : decode cX8_test 40 = .ok (.aload_n 0, 1) := by decide +kernel
theorem dX8_test_41 : decode cX8_test 41 = .ok (.iconst 0, 1) := by decide +kernel
theorem dX8_test_42 : decode cX8_test 42 = .ok (.putfield 125, 3) := by decide +kernel
theorem dX8_test_45 : decode cX8_test 45 = .ok (.iconst 0, 1) := by decide +kernel
theorem dX8_test_46 : decode cX8_test 46 = .ok (.ireturn, 1) := by decide +kernel
theorem dX8_test_47 : decode cX8_test 47 = .ok (.aload_n 0, 1) := by decide +kernel
theorem dX8_test_48 : decode cX8_test 48 = .ok (.dup, 1) := by decide +kernel
theorem dX8_test_49 : decode cX8_test 49 = .ok (.getfield 128, 3) := by decide +kernel
theorem dX8_test_52 : decode cX8_test 52 = .ok (.iconst 1, 1) := by decide +kernel
theorem dX8_test_53 : decode cX8_test 53 = .ok (.iadd, 1) := by decide +kernel
theorem dX8_test_54 : decode cX8_test 54 = .ok (.putfield 128, 3) := by decide +kernel
theorem dX8_test_57 : decode cX8_test 57 = .ok (.aload_n 0, 1) := by decide +kernel
theorem dX8_test_58 : decode cX8_test 58 = .ok (.bipush 60, 2) := by decide +kernel
theorem dX8_test_60 : decode cX8_test 60 = .ok (.invokevirtual 134, 3) := by decide +kernel
theorem dX8_test_63 : decode cX8_test 63 = .ok (.ifCond .eq 7, 3) := by decide +kernel
theorem dX8_test_66 : decode cX8_test 66 = .ok (.iconst (-1), 1) := by decide +kernel
theorem dX8_test_67 : decode cX8_test 67 = .ok (.goto 17, 3) := by decide +kernel
theorem dX8_test_70 : decode cX8_test 70 = .ok (.aload_n 0, 1) := by decide +kernel
theorem dX8_test_71 : decode cX8_test 71 = .ok (.bipush 62, 2) := by decide +kernel
theorem dX8_test_73 : decode cX8_test 73 = .ok (.invokevirtual 134, 3) := by decide +kernel
theorem dX8_test_76 : decode cX8_test 76 = .ok (.ifCond .eq 7, 3) := by decide +kernel
theorem dX8_test_79 : decode cX8_test 79 = .ok (.iconst 1, 1) := by decide +kernel
theorem dX8_test_80 : decode cX8_test 80 = .ok (.goto 4, 3) := by decide +kernel
theorem dX8_test_83 : decode cX8_test 83 = .ok (.iconst 0, 1) := by decide +kernel
theorem dX8_test_84 : decode cX8_test 84 = .ok (.istore_n 2, 1) := by decide +kernel
theorem dX8_test_85 : decode cX8_test 85 = .ok (.aload_n 0, 1) := by decide +kernel
theorem dX8_test_86 : decode cX8_test 86 = .ok (.iload_n 2, 1) := by decide +kernel
theorem dX8_test_87 : decode cX8_test 87 = .ok (.ifCond .ge 8, 3) := by decide +kernel
theorem dX8_test_90 : decode cX8_test 90 = .ok (.bipush 60, 2) := by decide +kernel
theorem dX8_test_92 : decode cX8_test 92 = .ok (.goto 14, 3) := by decide +kernel
theorem dX8_test_95 : decode cX8_test 95 = .ok (.iload_n 2, 1) := by decide +kernel
theorem dX8_test_96 : decode cX8_test 96 = .ok (.ifCond .le 8, 3) := by decide +kernel
theorem dX8_test_99 : decode cX8_test 99 = .ok (.bipush 62, 2) := by decide +kernel
theorem dX8_test_101 : decode cX8_test 101 = .ok (.goto 5, 3) := by decide +kernel
theorem dX8_test_104 : decode cX8_test 104 = .ok (.bipush 61, 2) := by decide +kernel
theorem dX8_test_106 : decode cX8_test 106 = .ok (.invokevirtual 141, 3) := by decide +kernel
theorem dX8_test_109 : decode cX8_test 109 = .ok (.aload_n 0, 1) := by decide +kernel
theorem dX8_test_110 : decode cX8_test 110 = .ok (.invokevirtual 144, 3) := by decide +kernel
theorem dX8_test_113 : decode cX8_test 113 = .ok (.istore_n 3, 1) := by decide +kernel
theorem dX8_test_114 : decode cX8_test 114 = .ok (.iload_n 2, 1) := by decide +kernel
theorem dX8_test_115 : decode cX8_test 115 = .ok (.ifCond .ge 21, 3) := by decide +kernel
theorem dX8_test_118 : decode cX8_test 118 = .ok (.aload_n 0, 1) := by decide +kernel
theorem dX8_test_119 : decode cX8_test 119 = .ok (.getfield 33, 3) := by decide +kernel
theorem dX8_test_122 : decode cX8_test 122 = .ok (.iload_n 1, 1) := by decide +kernel
theorem dX8_test_123 : decode cX8_test 123 = .ok (.iaload, 1) := by decide +kernel
theorem dX8_test_124 : decode cX8_test 124 = .ok (.iload_n 3, 1) := by decide +kernel
theorem dX8_test_125 : decode cX8_test 125 = .ok (.if_icmp .ge 7, 3) := by decide +kernel
theorem dX8_test_128 : decode cX8_test 128 = .ok (.iconst 1, 1) := by decide +kernel
theorem dX8_test_129 : decode cX8_test 129 = .ok (.goto 44, 3) := by decide +kernel
theorem dX8_test_132 : decode cX8_test 132 = .ok (.iconst 0, 1) := by decide +kernel
theorem dX8_test_133 : decode cX8_test 133 = .ok (.goto 40, 3) := by decide +kernel
theorem dX8_test_136 : decode cX8_test 136 = .ok (.iload_n 2, 1) := by decide +kernel
theorem dX8_test_137 : decode cX8_test 137 = .ok (.ifCond .le 21, 3) := by decide +kernel
theorem dX8_test_140 : decode cX8_test 140 = .ok (.aload_n 0, 1) := by decide +kernel
theorem dX8_test_141 : decode cX8_test 141 = .ok (.getfield 33, 3) := by decide +kernel
theorem dX8_test_144 : decode cX8_test 144 = .ok (.iload_n 1, 1) := by decide +kernel
theorem dX8_test_145 : decode cX8_test 145 = .ok (.iaload, 1) := by decide +kernel
theorem dX8_test_146 : decode cX8_test 146 = .ok (.iload_n 3, 1) := by decide +kernel
theorem dX8_test_147 : decode cX8_test 147 = .ok (.if_icmp .le 7, 3) := by decide +kernel
theorem dX8_test_150 : decode cX8_test 150 = .ok (.iconst 1, 1) := by decide +kernel
theorem dX8_test_151 : decode cX8_test 151 = .ok (.goto 22, 3) := by decide +kernel
theorem dX8_test_154 : decode cX8_test 154 = .ok (.iconst 0, 1) := by decide +kernel
theorem dX8_test_155 : decode cX8_test 155 = .ok (.goto 18, 3) := by decide +kernel
theorem dX8_test_158 : decode cX8_test 158 = .ok (.aload_n 0, 1) := by decide +kernel
theorem dX8_test_159 : decode cX8_test 159 = .ok (.getfield 33, 3) := by decide +kernel
theorem dX8_test_162 : decode cX8_test 162 = .ok (.iload_n 1, 1) := by decide +kernel
theorem dX8_test_163 : decode cX8_test 163 = .ok (.iaload, 1) := by decide +kernel
theorem dX8_test_164 : decode cX8_test 164 = .ok (.iload_n 3, 1) := by decide +kernel
theorem dX8_test_165 : decode cX8_test 165 = .ok (.if_icmp .ne 7, 3) := by decide +kernel
theorem dX8_test_168 : decode cX8_test 168 = .ok (.iconst 1, 1) := by decide +kernel
theorem dX8_test_169 : decode cX8_test 169 = .ok (.goto 4, 3) := by decide +kernel
theorem dX8_test_172 : decode cX8_test 172 = .ok (.iconst 0, 1) := by decide +kernel
theorem dX8_test_173 : decode cX8_test 173 = .ok (.ireturn, 1) := by decide +kernel
theorem dX8_factor_0 : decode cX8_factor 0 = .ok (.aload_n 0, 1) := by decide +kernel
theorem dX8_factor_1 : decode cX8_factor 1 = .ok (.getfield 146, 3) := by decide +kernel
theorem dX8_factor_4 : decode cX8_factor 4 = .ok (.iconst 4, 1) := by decide +kernel
theorem dX8_factor_5 : decode cX8_factor 5 = .ok (.if_icmp .ge 58, 3) := by decide +kernel
theorem dX8_factor_8 : decode cX8_factor 8 = .ok (.aload_n 0, 1) := by decide +kernel
theorem dX8_factor_9 : decode cX8_factor 9 = .ok (.bipush 33, 2) := by decide +kernel
theorem dX8_factor_11 : decode cX8_factor 11 = .ok (.invokevirtual 134, 3) := by decide +kernel
theorem dX8_factor_14 : decode cX8_factor 14 = .ok (.ifCond .eq 49, 3) := by decide +kernel
theorem dX8_factor_17 : decode cX8_factor 17 = .ok (.aload_n 0, 1) := by decide +kernel
theorem dX8_factor_18 : decode cX8_factor 18 = .ok (.dup, 1) := by decide +kernel
theorem dX8_factor_19 : decode cX8_factor 19 = .ok (.getfield 128, 3) := by decide +kernel
theorem dX8_factor_22 : decode cX8_factor 22 = .ok (.iconst 1, 1) := by decide +kernel
theorem dX8_factor_23 : decode cX8_factor 23 = .ok (.iadd, 1) := by decide +kernel
theorem dX8_factor_24 : decode cX8_factor 24 = .ok (.putfield 128, 3) := by decide +kernel
theorem dX8_factor_27 : decode cX8_factor 27 = .ok (.aload_n 0, 1) := by decide +kernel
theorem dX8_factor_28 : decode cX8_factor 28 = .ok (.dup, 1) := by decide +kernel
theorem dX8_factor_29 : decode cX8_factor 29 = .ok (.getfield 146, 3) := by decide +kernel
theorem dX8_factor_32 : decode cX8_factor 32 = .ok (.iconst 1, 1) := by decide +kernel
theorem dX8_factor_33 : decode cX8_factor 33 = .ok (.iadd, 1) := by decide +kernel
theorem dX8_factor_34 : decode cX8_factor 34 = .ok (.putfield 146, 3) := by decide +kernel
theorem dX8_factor_37 : decode cX8_factor 37 = .ok (.aload_n 0, 1) := by decide +kernel
theorem dX8_factor_38 : decode cX8_factor 38 = .ok (.invokevirtual 149, 3) := by decide +kernel
theorem dX8_factor_41 : decode cX8_factor 41 = .ok (.ifCond .ne 7, 3) := by decide +kernel
theorem dX8_factor_44 : decode cX8_factor 44 = .ok (.iconst 1, 1) := by decide +kernel
theorem dX8_factor_45 : decode cX8_factor 45 = .ok (.goto 4, 3) := by decide +kernel
theorem dX8_factor_48 : decode cX8_factor 48 = .ok (.iconst 0, 1) := by decide +kernel
theorem dX8_factor_49 : decode cX8_factor 49 = .ok (.istore_n 1, 1) := by decide +kernel
theorem dX8_factor_50 : decode cX8_factor 50 = .ok (.aload_n 0, 1) := by decide +kernel
theorem dX8_factor_51 : decode cX8_factor 51 = .ok (.dup, 1) := by decide +kernel
theorem dX8_factor_52 : decode cX8_factor 52 = .ok (.getfield 146, 3) := by decide +kernel
theorem dX8_factor_55 : decode cX8_factor 55 = .ok (.iconst 1, 1) := by decide +kernel
theorem dX8_factor_56 : decode cX8_factor 56 = .ok (.isub, 1) := by decide +kernel
theorem dX8_factor_57 : decode cX8_factor 57 = .ok (.putfield 146, 3) := by decide +kernel
theorem dX8_factor_60 : decode cX8_factor 60 = .ok (.goto 69, 3) := by decide +kernel
theorem dX8_factor_63 : decode cX8_factor 63 = .ok (.aload_n 0, 1) := by decide +kernel
theorem dX8_factor_64 : decode cX8_factor 64 = .ok (.getfield 146, 3) := by decide +kernel
theorem dX8_factor_67 : decode cX8_factor 67 = .ok (.iconst 4, 1) := by decide +kernel
theorem dX8_factor_68 : decode cX8_factor 68 = .ok (.if_icmp .ge 56, 3) := by decide +kernel
theorem dX8_factor_71 : decode cX8_factor 71 = .ok (.aload_n 0, 1) := by decide +kernel
theorem dX8_factor_72 : decode cX8_factor 72 = .ok (.bipush 40, 2) := by decide +kernel
theorem dX8_factor_74 : decode cX8_factor 74 = .ok (.invokevirtual 134, 3) := by decide +kernel
theorem dX8_factor_77 : decode cX8_factor 77 = .ok (.ifCond .eq 47, 3) := by decide +kernel
theorem dX8_factor_80 : decode cX8_factor 80 = .ok (.aload_n 0, 1) := by decide +kernel
theorem dX8_factor_81 : decode cX8_factor 81 = .ok (.dup, 1) := by decide +kernel
theorem dX8_factor_82 : decode cX8_factor 82 = .ok (.getfield 128, 3) := by decide +kernel
theorem dX8_factor_85 : decode cX8_factor 85 = .ok (.iconst 1, 1) := by decide +kernel
theorem dX8_factor_86 : decode cX8_factor 86 = .ok (.iadd, 1) := by decide +kernel
theorem dX8_factor_87 : decode cX8_factor 87 = .ok (.putfield 128, 3) := by decide +kernel
theorem dX8_factor_90 : decode cX8_factor 90 = .ok (.aload_n 0, 1) := by decide +kernel
theorem dX8_factor_91 : decode cX8_factor 91 = .ok (.dup, 1) := by decide +kernel
theorem dX8_factor_92 : decode cX8_factor 92 = .ok (.getfield 146, 3) := by decide +kernel
theorem dX8_factor_95 : decode cX8_factor 95 = .ok (.iconst 1, 1) := by decide +kernel
theorem dX8_factor_96 : decode cX8_factor 96 = .ok (.iadd, 1) := by decide +kernel
theorem dX8_factor_97 : decode cX8_factor 97 = .ok (.putfield 146, 3) := by decide +kernel
theorem dX8_factor_100 : decode cX8_factor 100 = .ok (.aload_n 0, 1) := by decide +kernel
theorem dX8_factor_101 : decode cX8_factor 101 = .ok (.invokevirtual 152, 3) := by decide +kernel
theorem dX8_factor_104 : decode cX8_factor 104 = .ok (.istore_n 1, 1) := by decide +kernel
theorem dX8_factor_105 : decode cX8_factor 105 = .ok (.aload_n 0, 1) := by decide +kernel
theorem dX8_factor_106 : decode cX8_factor 106 = .ok (.dup, 1) := by decide +kernel
theorem dX8_factor_107 : decode cX8_factor 107 = .ok (.getfield 146, 3) := by decide +kernel
theorem dX8_factor_110 : decode cX8_factor 110 = .ok (.iconst 1, 1) := by decide +kernel
theorem dX8_factor_111 : decode cX8_factor 111 = .ok (.isub, 1) := by decide +kernel
theorem dX8_factor_112 : decode cX8_factor 112 = .ok (.putfield 146, 3) := by decide +kernel
theorem dX8_factor_115 : decode cX8_factor 115 = .ok (.aload_n 0, 1) := by decide +kernel
theorem dX8_factor_116 : decode cX8_factor 116 = .ok (.bipush 41, 2) := by decide +kernel
theorem dX8_factor_118 : decode cX8_factor 118 = .ok (.invokevirtual 141, 3) := by decide +kernel
theorem dX8_factor_121 : decode cX8_factor 121 = .ok (.goto 8, 3) := by decide +kernel
theorem dX8_factor_124 : decode cX8_factor 124 = .ok (.aload_n 0, 1) := by decide +kernel
theorem dX8_factor_125 : decode cX8_factor 125 = .ok (.invokevirtual 155, 3) := by decide +kernel
theorem dX8_factor_128 : decode cX8_factor 128 = .ok (.istore_n 1, 1) := by decide +kernel
theorem dX8_factor_129 : decode cX8_factor 129 = .ok (.iload_n 1, 1) := by decide +kernel
theorem dX8_factor_130 : decode cX8_factor 130 = .ok (.ireturn, 1) := by decide +kernel
theorem dX8_both_0 : decode cX8_both 0 = .ok (.aload_n 0, 1) := by decide +kernel
theorem dX8_both_1 : decode cX8_both 1 = .ok (.invokevirtual 149, 3) := by decide +kernel
theorem dX8_both_4 : decode cX8_both 4 = .ok (.istore_n 1, 1) := by decide +kernel
theorem dX8_both_5 : decode cX8_both 5 = .ok (.aload_n 0, 1) := by decide +kernel
theorem dX8_both_6 : decode cX8_both 6 = .ok (.bipush 38, 2) := by decide +kernel
theorem dX8_both_8 : decode cX8_both 8 = .ok (.invokevirtual 134, 3) := by decide +kernel
theorem dX8_both_11 : decode cX8_both 11 = .ok (.ifCond .eq 35, 3) := by decide +kernel
theorem dX8_both_14 : decode cX8_both 14 = .ok (.aload_n 0, 1) := by decide +kernel
theorem dX8_both_15 : decode cX8_both 15 = .ok (.dup, 1) := by decide +kernel
theorem dX8_both_16 : decode cX8_both 16 = .ok (.getfield 128, 3) := by decide +kernel
theorem dX8_both_19 : decode cX8_both 19 = .ok (.iconst 1, 1) := by decide +kernel
theorem dX8_both_20 : decode cX8_both 20 = .ok (.iadd, 1) := by decide +kernel
theorem dX8_both_21 : decode cX8_both 21 = .ok (.putfield 128, 3) := by decide +kernel
theorem dX8_both_24 : decode cX8_both 24 = .ok (.aload_n 0, 1) := by decide +kernel
theorem dX8_both_25 : decode cX8_both 25 = .ok (.invokevirtual 149, 3) := by decide +kernel
theorem dX8_both_28 : decode cX8_both 28 = .ok (.istore_n 2, 1) := by decide +kernel
theorem dX8_both_29 : decode cX8_both 29 = .ok (.iload_n 1, 1) := by decide +kernel
theorem dX8_both_30 : decode cX8_both 30 = .ok (.ifCond .eq 11, 3) := by decide +kernel
theorem dX8_both_33 : decode cX8_both 33 = .ok (.iload_n 2, 1) := by decide +kernel
theorem dX8_both_34 : decode cX8_both 34 = .ok (.ifCond .eq 7, 3) := by decide +kernel
theorem dX8_both_37 : decode cX8_both 37 = .ok (.iconst 1, 1) := by decide +kernel
theorem dX8_both_38 : decode cX8_both 38 = .ok (.goto 4, 3) := by decide +kernel
theorem dX8_both_41 : decode cX8_both 41 = .ok (.iconst 0, 1) := by decide +kernel
theorem dX8_both_42 : decode cX8_both 42 = .ok (.istore_n 1, 1) := by decide +kernel
theorem dX8_both_43 : decode cX8_both 43 = .ok (.goto (-38), 3) := by decide +kernel
theorem dX8_both_46 : decode cX8_both 46 = .ok (.iload_n 1, 1) := by decide +kernel
theorem dX8_both_47 : decode cX8_both 47 = .ok (.ireturn, 1) := by decide +kernel
theorem dX8_any_0 : decode cX8_any 0 = .ok (.aload_n 0, 1) := by decide +kernel
theorem dX8_any_1 : decode cX8_any 1 = .ok (.invokevirtual 158, 3) := by decide +kernel
theorem dX8_any_4 : decode cX8_any 4 = .ok (.istore_n 1, 1) := by decide +kernel
theorem dX8_any_5 : decode cX8_any 5 = .ok (.aload_n 0, 1) := by decide +kernel
theorem dX8_any_6 : decode cX8_any 6 = .ok (.bipush 124, 2) := by decide +kernel
theorem dX8_any_8 : decode cX8_any 8 = .ok (.invokevirtual 134, 3) := by decide +kernel
theorem dX8_any_11 : decode cX8_any 11 = .ok (.ifCond .eq 35, 3) := by decide +kernel
theorem dX8_any_14 : decode cX8_any 14 = .ok (.aload_n 0, 1) := by decide +kernel
theorem dX8_any_15 : decode cX8_any 15 = .ok (.dup, 1) := by decide +kernel
theorem dX8_any_16 : decode cX8_any 16 = .ok (.getfield 128, 3) := by decide +kernel
theorem dX8_any_19 : decode cX8_any 19 = .ok (.iconst 1, 1) := by decide +kernel
theorem dX8_any_20 : decode cX8_any 20 = .ok (.iadd, 1) := by decide +kernel
theorem dX8_any_21 : decode cX8_any 21 = .ok (.putfield 128, 3) := by decide +kernel
theorem dX8_any_24 : decode cX8_any 24 = .ok (.aload_n 0, 1) := by decide +kernel
theorem dX8_any_25 : decode cX8_any 25 = .ok (.invokevirtual 158, 3) := by decide +kernel
theorem dX8_any_28 : decode cX8_any 28 = .ok (.istore_n 2, 1) := by decide +kernel
theorem dX8_any_29 : decode cX8_any 29 = .ok (.iload_n 1, 1) := by decide +kernel
theorem dX8_any_30 : decode cX8_any 30 = .ok (.ifCond .ne 7, 3) := by decide +kernel
theorem dX8_any_33 : decode cX8_any 33 = .ok (.iload_n 2, 1) := by decide +kernel
theorem dX8_any_34 : decode cX8_any 34 = .ok (.ifCond .eq 7, 3) := by decide +kernel
theorem dX8_any_37 : decode cX8_any 37 = .ok (.iconst 1, 1) := by decide +kernel
theorem dX8_any_38 : decode cX8_any 38 = .ok (.goto 4, 3) := by decide +kernel
theorem dX8_any_41 : decode cX8_any 41 = .ok (.iconst 0, 1) := by decide +kernel
theorem dX8_any_42 : decode cX8_any 42 = .ok (.istore_n 1, 1) := by decide +kernel
theorem dX8_any_43 : decode cX8_any 43 = .ok (.goto (-38), 3) := by decide +kernel
theorem dX8_any_46 : decode cX8_any 46 = .ok (.iload_n 1, 1) := by decide +kernel
theorem dX8_any_47 : decode cX8_any 47 = .ok (.ireturn, 1) := by decide +kernel
theorem dX8_clause_0 : decode cX8_clause 0 = .ok (.aload_n 0, 1) := by decide +kernel
theorem dX8_clause_1 : decode cX8_clause 1 = .ok (.bipush 115, 2) := by decide +kernel
theorem dX8_clause_3 : decode cX8_clause 3 = .ok (.invokevirtual 134, 3) := by decide +kernel
theorem dX8_clause_6 : decode cX8_clause 6 = .ok (.ifCond .eq 7, 3) := by decide +kernel
theorem dX8_clause_9 : decode cX8_clause 9 = .ok (.iconst 1, 1) := by decide +kernel
theorem dX8_clause_10 : decode cX8_clause 10 = .ok (.goto 30, 3) := by decide +kernel
theorem dX8_clause_13 : decode cX8_clause 13 = .ok (.aload_n 0, 1) := by decide +kernel
theorem dX8_clause_14 : decode cX8_clause 14 = .ok (.bipush 110, 2) := by decide +kernel
theorem dX8_clause_16 : decode cX8_clause 16 = .ok (.invokevirtual 134, 3) := by decide +kernel
theorem dX8_clause_19 : decode cX8_clause 19 = .ok (.ifCond .eq 7, 3) := by decide +kernel
theorem dX8_clause_22 : decode cX8_clause 22 = .ok (.iconst 2, 1) := by decide +kernel
theorem dX8_clause_23 : decode cX8_clause 23 = .ok (.goto 17, 3) := by decide +kernel
theorem dX8_clause_26 : decode cX8_clause 26 = .ok (.aload_n 0, 1) := by decide +kernel
theorem dX8_clause_27 : decode cX8_clause 27 = .ok (.bipush 119, 2) := by decide +kernel
theorem dX8_clause_29 : decode cX8_clause 29 = .ok (.invokevirtual 134, 3) := by decide +kernel
theorem dX8_clause_32 : decode cX8_clause 32 = .ok (.ifCond .eq 7, 3) := by decide +kernel
theorem dX8_clause_35 : decode cX8_clause 35 = .ok (.iconst 3, 1) := by decide +kernel
theorem dX8_clause_36 : decode cX8_clause 36 = .ok (.goto 4, 3) := by decide +kernel
theorem dX8_clause_39 : decode cX8_clause 39 = .ok (.iconst 0, 1) := by decide +kernel
theorem dX8_clause_40 : decode cX8_clause 40 = .ok (.istore_n 1, 1) := by decide +kernel
theorem dX8_clause_41 : decode cX8_clause 41 = .ok (.iconst 0, 1) := by decide +kernel
theorem dX8_clause_42 : decode cX8_clause 42 = .ok (.istore_n 2, 1) := by decide +kernel
theorem dX8_clause_43 : decode cX8_clause 43 = .ok (.iload_n 2, 1) := by decide +kernel
theorem dX8_clause_44 : decode cX8_clause 44 = .ok (.bipush 6, 2) := by decide +kernel
theorem dX8_clause_46 : decode cX8_clause 46 = .ok (.if_icmp .ge 38, 3) := by decide +kernel
theorem dX8_clause_49 : decode cX8_clause 49 = .ok (.aload_n 0, 1) := by decide +kernel
theorem dX8_clause_50 : decode cX8_clause 50 = .ok (.getfield 40, 3) := by decide +kernel
theorem dX8_clause_53 : decode cX8_clause 53 = .ok (.bipush 6, 2) := by decide +kernel
theorem dX8_clause_55 : decode cX8_clause 55 = .ok (.iload_n 1, 1) := by decide +kernel
theorem dX8_clause_56 : decode cX8_clause 56 = .ok (.imul, 1) := by decide +kernel
theorem dX8_clause_57 : decode cX8_clause 57 = .ok (.iload_n 2, 1) := by decide +kernel
theorem dX8_clause_58 : decode cX8_clause 58 = .ok (.iadd, 1) := by decide +kernel
theorem dX8_clause_59 : decode cX8_clause 59 = .ok (.caload, 1) := by decide +kernel
theorem dX8_clause_60 : decode cX8_clause 60 = .ok (.ifCond .eq 24, 3) := by decide +kernel
theorem dX8_clause_63 : decode cX8_clause 63 = .ok (.aload_n 0, 1) := by decide +kernel
theorem dX8_clause_64 : decode cX8_clause 64 = .ok (.aload_n 0, 1) := by decide +kernel
theorem dX8_clause_65 : decode cX8_clause 65 = .ok (.getfield 40, 3) := by decide +kernel
theorem dX8_clause_68 : decode cX8_clause 68 = .ok (.bipush 6, 2) := by decide +kernel
theorem dX8_clause_70 : decode cX8_clause 70 = .ok (.iload_n 1, 1) := by decide +kernel
theorem dX8_clause_71 : decode cX8_clause 71 = .ok (.imul, 1) := by decide +kernel
theorem dX8_clause_72 : decode cX8_clause 72 = .ok (.iload_n 2, 1) := by decide +kernel
theorem dX8_clause_73 : decode cX8_clause 73 = .ok (.iadd, 1) := by decide +kernel
theorem dX8_clause_74 : decode cX8_clause 74 = .ok (.caload, 1) := by decide +kernel
theorem dX8_clause_75 : decode cX8_clause 75 = .ok (.invokevirtual 141, 3) := by decide +kernel
theorem dX8_clause_78 : decode cX8_clause 78 = .ok (.iinc 2 1, 3) := by decide +kernel
theorem dX8_clause_81 : decode cX8_clause 81 = .ok (.goto (-38), 3) := by decide +kernel
theorem dX8_clause_84 : decode cX8_clause 84 = .ok (.aload_n 0, 1) := by decide +kernel
theorem dX8_clause_85 : decode cX8_clause 85 = .ok (.bipush 32, 2) := by decide +kernel
theorem dX8_clause_87 : decode cX8_clause 87 = .ok (.invokevirtual 141, 3) := by decide +kernel
theorem dX8_clause_90 : decode cX8_clause 90 = .ok (.aload_n 0, 1) := by decide +kernel
theorem dX8_clause_91 : decode cX8_clause 91 = .ok (.invokevirtual 144, 3) := by decide +kernel
theorem dX8_clause_94 : decode cX8_clause 94 = .ok (.istore_n 2, 1) := by decide +kernel
theorem dX8_clause_95 : decode cX8_clause 95 = .ok (.iload_n 1, 1) := by decide +kernel
theorem dX8_clause_96 : decode cX8_clause 96 = .ok (.iconst 1, 1) := by decide +kernel
theorem dX8_clause_97 : decode cX8_clause 97 = .ok (.if_icmp .le 38, 3) := by decide +kernel
theorem dX8_clause_100 : decode cX8_clause 100 = .ok (.aload_n 0, 1) := by decide +kernel
theorem dX8_clause_101 : decode cX8_clause 101 = .ok (.iload_n 1, 1) := by decide +kernel
theorem dX8_clause_102 : decode cX8_clause 102 = .ok (.iconst 2, 1) := by decide +kernel
theorem dX8_clause_103 : decode cX8_clause 103 = .ok (.if_icmp .ne 7, 3) := by decide +kernel
theorem dX8_clause_106 : decode cX8_clause 106 = .ok (.iload_n 2, 1) := by decide +kernel
theorem dX8_clause_107 : decode cX8_clause 107 = .ok (.goto 7, 3) := by decide +kernel
theorem dX8_clause_110 : decode cX8_clause 110 = .ok (.aload_n 0, 1) := by decide +kernel
theorem dX8_clause_111 : decode cX8_clause 111 = .ok (.getfield 161, 3) := by decide +kernel
theorem dX8_clause_114 : decode cX8_clause 114 = .ok (.putfield 161, 3) := by decide +kernel
theorem dX8_clause_117 : decode cX8_clause 117 = .ok (.aload_n 0, 1) := by decide +kernel
theorem dX8_clause_118 : decode cX8_clause 118 = .ok (.iload_n 1, 1) := by decide +kernel
theorem dX8_clause_119 : decode cX8_clause 119 = .ok (.iconst 3, 1) := by decide +kernel
theorem dX8_clause_120 : decode cX8_clause 120 = .ok (.if_icmp .ne 7, 3) := by decide +kernel
theorem dX8_clause_123 : decode cX8_clause 123 = .ok (.iload_n 2, 1) := by decide +kernel
theorem dX8_clause_124 : decode cX8_clause 124 = .ok (.goto 7, 3) := by decide +kernel
theorem dX8_clause_127 : decode cX8_clause 127 = .ok (.aload_n 0, 1) := by decide +kernel
theorem dX8_clause_128 : decode cX8_clause 128 = .ok (.getfield 164, 3) := by decide +kernel
theorem dX8_clause_131 : decode cX8_clause 131 = .ok (.putfield 164, 3) := by decide +kernel
theorem dX8_clause_134 : decode cX8_clause 134 = .ok (.return_, 1) := by decide +kernel
theorem dX8_clause_135 : decode cX8_clause 135 = .ok (.aload_n 0, 1) := by decide +kernel
theorem dX8_clause_136 : decode cX8_clause 136 = .ok (.bipush 32, 2) := by decide +kernel
theorem dX8_clause_138 : decode cX8_clause 138 = .ok (.invokevirtual 141, 3) := by decide +kernel
theorem dX8_clause_141 : decode cX8_clause 141 = .ok (.aload_n 0, 1) := by decide +kernel
theorem dX8_clause_142 : decode cX8_clause 142 = .ok (.iconst 0, 1) := by decide +kernel
theorem dX8_clause_143 : decode cX8_clause 143 = .ok (.putfield 146, 3) := by decide +kernel
theorem dX8_clause_146 : decode cX8_clause 146 = .ok (.aload_n 0, 1) := by decide +kernel
theorem dX8_clause_147 : decode cX8_clause 147 = .ok (.invokevirtual 152, 3) := by decide +kernel
theorem dX8_clause_150 : decode cX8_clause 150 = .ok (.istore_n 3, 1) := by decide +kernel
theorem dX8_clause_151 : decode cX8_clause 151 = .ok (.aload_n 0, 1) := by decide +kernel
theorem dX8_clause_152 : decode cX8_clause 152 = .ok (.dup, 1) := by decide +kernel
theorem dX8_clause_153 : decode cX8_clause 153 = .ok (.getfield 167, 3) := by decide +kernel
theorem dX8_clause_156 : decode cX8_clause 156 = .ok (.iload_n 3, 1) := by decide +kernel
theorem dX8_clause_157 : decode cX8_clause 157 = .ok (.ifCond .ne 7, 3) := by decide +kernel
theorem dX8_clause_160 : decode cX8_clause 160 = .ok (.iconst 0, 1) := by decide +kernel
theorem dX8_clause_161 : decode cX8_clause 161 = .ok (.goto 13, 3) := by decide +kernel
theorem dX8_clause_164 : decode cX8_clause 164 = .ok (.iload_n 1, 1) := by decide +kernel
theorem dX8_clause_165 : decode cX8_clause 165 = .ok (.ifCond .ne 7, 3) := by decide +kernel
theorem dX8_clause_168 : decode cX8_clause 168 = .ok (.iload_n 2, 1) := by decide +kernel
theorem dX8_clause_169 : decode cX8_clause 169 = .ok (.goto 5, 3) := by decide +kernel
theorem dX8_clause_172 : decode cX8_clause 172 = .ok (.iload_n 2, 1) := by decide +kernel
theorem dX8_clause_173 : decode cX8_clause 173 = .ok (.ineg, 1) := by decide +kernel
theorem dX8_clause_174 : decode cX8_clause 174 = .ok (.iadd, 1) := by decide +kernel
theorem dX8_clause_175 : decode cX8_clause 175 = .ok (.putfield 167, 3) := by decide +kernel
theorem dX8_clause_178 : decode cX8_clause 178 = .ok (.return_, 1) := by decide +kernel
theorem dX8_readAll_0 : decode cX8_readAll 0 = .ok (.aload_n 0, 1) := by decide +kernel
theorem dX8_readAll_1 : decode cX8_readAll 1 = .ok (.iconst 0, 1) := by decide +kernel
theorem dX8_readAll_2 : decode cX8_readAll 2 = .ok (.putfield 128, 3) := by decide +kernel
theorem dX8_readAll_5 : decode cX8_readAll 5 = .ok (.aload_n 0, 1) := by decide +kernel
theorem dX8_readAll_6 : decode cX8_readAll 6 = .ok (.iconst 1, 1) := by decide +kernel
theorem dX8_readAll_7 : decode cX8_readAll 7 = .ok (.putfield 125, 3) := by decide +kernel
theorem dX8_readAll_10 : decode cX8_readAll 10 = .ok (.aload_n 0, 1) := by decide +kernel
theorem dX8_readAll_11 : decode cX8_readAll 11 = .ok (.aload_n 0, 1) := by decide +kernel
theorem dX8_readAll_12 : decode cX8_readAll 12 = .ok (.getfield 33, 3) := by decide +kernel
theorem dX8_readAll_15 : decode cX8_readAll 15 = .ok (.iconst 3, 1) := by decide +kernel
theorem dX8_readAll_16 : decode cX8_readAll 16 = .ok (.iaload, 1) := by decide +kernel
theorem dX8_readAll_17 : decode cX8_readAll 17 = .ok (.putfield 167, 3) := by decide +kernel
theorem dX8_readAll_20 : decode cX8_readAll 20 = .ok (.aload_n 0, 1) := by decide +kernel
theorem dX8_readAll_21 : decode cX8_readAll 21 = .ok (.iconst 3, 1) := by decide +kernel
theorem dX8_readAll_22 : decode cX8_readAll 22 = .ok (.putfield 161, 3) := by decide +kernel
theorem dX8_readAll_25 : decode cX8_readAll 25 = .ok (.aload_n 0, 1) := by decide +kernel
theorem dX8_readAll_26 : decode cX8_readAll 26 = .ok (.iconst 2, 1) := by decide +kernel
theorem dX8_readAll_27 : decode cX8_readAll 27 = .ok (.putfield 164, 3) := by decide +kernel
theorem dX8_readAll_30 : decode cX8_readAll 30 = .ok (.iconst 1, 1) := by decide +kernel
theorem dX8_readAll_31 : decode cX8_readAll 31 = .ok (.istore_n 1, 1) := by decide +kernel
theorem dX8_readAll_32 : decode cX8_readAll 32 = .ok (.aload_n 0, 1) := by decide +kernel
theorem dX8_readAll_33 : decode cX8_readAll 33 = .ok (.invokevirtual 170, 3) := by decide +kernel
theorem dX8_readAll_36 : decode cX8_readAll 36 = .ok (.iload_n 1, 1) := by decide +kernel
theorem dX8_readAll_37 : decode cX8_readAll 37 = .ok (.bipush 10, 2) := by decide +kernel
theorem dX8_readAll_39 : decode cX8_readAll 39 = .ok (.if_icmp .ge 32, 3) := by decide +kernel
theorem dX8_readAll_42 : decode cX8_readAll 42 = .ok (.aload_n 0, 1) := by decide +kernel
theorem dX8_readAll_43 : decode cX8_readAll 43 = .ok (.bipush 59, 2) := by decide +kernel
theorem dX8_readAll_45 : decode cX8_readAll 45 = .ok (.invokevirtual 134, 3) := by decide +kernel
theorem dX8_readAll_48 : decode cX8_readAll 48 = .ok (.ifCond .eq 23, 3) := by decide +kernel
theorem dX8_readAll_51 : decode cX8_readAll 51 = .ok (.aload_n 0, 1) := by decide +kernel
theorem dX8_readAll_52 : decode cX8_readAll 52 = .ok (.dup, 1) := by decide +kernel
theorem dX8_readAll_53 : decode cX8_readAll 53 = .ok (.getfield 128, 3) := by decide +kernel
theorem dX8_readAll_56 : decode cX8_readAll 56 = .ok (.iconst 1, 1) := by decide +kernel
theorem dX8_readAll_57 : decode cX8_readAll 57 = .ok (.iadd, 1) := by decide +kernel
theorem dX8_readAll_58 : decode cX8_readAll 58 = .ok (.putfield 128, 3) := by decide +kernel
theorem dX8_readAll_61 : decode cX8_readAll 61 = .ok (.aload_n 0, 1) := by decide +kernel
theorem dX8_readAll_62 : decode cX8_readAll 62 = .ok (.invokevirtual 170, 3) := by decide +kernel
theorem dX8_readAll_65 : decode cX8_readAll 65 = .ok (.iinc 1 1, 3) := by decide +kernel
theorem dX8_readAll_68 : decode cX8_readAll 68 = .ok (.goto (-32), 3) := by decide +kernel
theorem dX8_readAll_71 : decode cX8_readAll 71 = .ok (.aload_n 0, 1) := by decide +kernel
theorem dX8_readAll_72 : decode cX8_readAll 72 = .ok (.getfield 125, 3) := by decide +kernel
theorem dX8_readAll_75 : decode cX8_readAll 75 = .ok (.ifCond .eq 18, 3) := by decide +kernel
theorem dX8_readAll_78 : decode cX8_readAll 78 = .ok (.aload_n 0, 1) := by decide +kernel
theorem dX8_readAll_79 : decode cX8_readAll 79 = .ok (.getfield 128, 3) := by decide +kernel
theorem dX8_readAll_82 : decode cX8_readAll 82 = .ok (.aload_n 0, 1) := by decide +kernel
theorem dX8_readAll_83 : decode cX8_readAll 83 = .ok (.getfield 131, 3) := by decide +kernel
theorem dX8_readAll_86 : decode cX8_readAll 86 = .ok (.if_icmp .ne 7, 3) := by decide +kernel
theorem dX8_readAll_89 : decode cX8_readAll 89 = .ok (.iconst 1, 1) := by decide +kernel
theorem dX8_readAll_90 : decode cX8_readAll 90 = .ok (.goto 4, 3) := by decide +kernel
theorem dX8_readAll_93 : decode cX8_readAll 93 = .ok (.iconst 0, 1) := by decide +kernel
theorem dX8_readAll_94 : decode cX8_readAll 94 = .ok (.ireturn, 1) := by decide +kernel
theorem dX8_readFor_0 : decode cX8_readFor 0 = .ok (.aload_n 0, 1) := by decide +kernel
theorem dX8_readFor_1 : decode cX8_readFor 1 = .ok (.getfield 33, 3) := by decide +kernel
theorem dX8_readFor_4 : decode cX8_readFor 4 = .ok (.iconst 0, 1) := by decide +kernel
theorem dX8_readFor_5 : decode cX8_readFor 5 = .ok (.iload_n 1, 1) := by decide +kernel
theorem dX8_readFor_6 : decode cX8_readFor 6 = .ok (.iastore, 1) := by decide +kernel
theorem dX8_readFor_7 : decode cX8_readFor 7 = .ok (.aload_n 0, 1) := by decide +kernel
theorem dX8_readFor_8 : decode cX8_readFor 8 = .ok (.getfield 33, 3) := by decide +kernel
theorem dX8_readFor_11 : decode cX8_readFor 11 = .ok (.iconst 1, 1) := by decide +kernel
theorem dX8_readFor_12 : decode cX8_readFor 12 = .ok (.aload_n 0, 1) := by decide +kernel
theorem dX8_readFor_13 : decode cX8_readFor 13 = .ok (.iload_n 1, 1) := by decide +kernel
theorem dX8_readFor_14 : decode cX8_readFor 14 = .ok (.iconst 0, 1) := by decide +kernel
theorem dX8_readFor_15 : decode cX8_readFor 15 = .ok (.invokevirtual 81, 3) := by decide +kernel
theorem dX8_readFor_18 : decode cX8_readFor 18 = .ok (.iastore, 1) := by decide +kernel
theorem dX8_readFor_19 : decode cX8_readFor 19 = .ok (.aload_n 0, 1) := by decide +kernel
theorem dX8_readFor_20 : decode cX8_readFor 20 = .ok (.getfield 33, 3) := by decide +kernel
theorem dX8_readFor_23 : decode cX8_readFor 23 = .ok (.iconst 2, 1) := by decide +kernel
theorem dX8_readFor_24 : decode cX8_readFor 24 = .ok (.aload_n 0, 1) := by decide +kernel
theorem dX8_readFor_25 : decode cX8_readFor 25 = .ok (.iload_n 1, 1) := by decide +kernel
theorem dX8_readFor_26 : decode cX8_readFor 26 = .ok (.iconst 1, 1) := by decide +kernel
theorem dX8_readFor_27 : decode cX8_readFor 27 = .ok (.invokevirtual 81, 3) := by decide +kernel
theorem dX8_readFor_30 : decode cX8_readFor 30 = .ok (.iastore, 1) := by decide +kernel
theorem dX8_readFor_31 : decode cX8_readFor 31 = .ok (.aload_n 0, 1) := by decide +kernel
theorem dX8_readFor_32 : decode cX8_readFor 32 = .ok (.getfield 33, 3) := by decide +kernel
theorem dX8_readFor_35 : decode cX8_readFor 35 = .ok (.iconst 3, 1) := by decide +kernel
theorem dX8_readFor_36 : decode cX8_readFor 36 = .ok (.aload_n 0, 1) := by decide +kernel
theorem dX8_readFor_37 : decode cX8_readFor 37 = .ok (.iload_n 1, 1) := by decide +kernel
theorem dX8_readFor_38 : decode cX8_readFor 38 = .ok (.iconst 2, 1) := by decide +kernel
theorem dX8_readFor_39 : decode cX8_readFor 39 = .ok (.invokevirtual 81, 3) := by decide +kernel
theorem dX8_readFor_42 : decode cX8_readFor 42 = .ok (.iastore, 1) := by decide +kernel
theorem dX8_readFor_43 : decode cX8_readFor 43 = .ok (.aload_n 0, 1) := by decide +kernel
theorem dX8_readFor_44 : decode cX8_readFor 44 = .ok (.getfield 33, 3) := by decide +kernel
theorem dX8_readFor_47 : decode cX8_readFor 47 = .ok (.iconst 4, 1) := by decide +kernel
theorem dX8_readFor_48 : decode cX8_readFor 48 = .ok (.iload_n 2, 1) := by decide +kernel
theorem dX8_readFor_49 : decode cX8_readFor 49 = .ok (.iastore, 1) := by decide +kernel
theorem dX8_readFor_50 : decode cX8_readFor 50 = .ok (.aload_n 0, 1) := by decide +kernel
theorem dX8_readFor_51 : decode cX8_readFor 51 = .ok (.getfield 33, 3) := by decide +kernel
theorem dX8_readFor_54 : decode cX8_readFor 54 = .ok (.iconst 5, 1) := by decide +kernel
theorem dX8_readFor_55 : decode cX8_readFor 55 = .ok (.aload_n 0, 1) := by decide +kernel
theorem dX8_readFor_56 : decode cX8_readFor 56 = .ok (.getfield 9, 3) := by decide +kernel
theorem dX8_readFor_59 : decode cX8_readFor 59 = .ok (.bipush 52, 2) := by decide +kernel
theorem dX8_readFor_61 : decode cX8_readFor 61 = .ok (.iaload, 1) := by decide +kernel
theorem dX8_readFor_62 : decode cX8_readFor 62 = .ok (.bipush 10, 2) := by decide +kernel
theorem dX8_readFor_64 : decode cX8_readFor 64 = .ok (.irem, 1) := by decide +kernel
theorem dX8_readFor_65 : decode cX8_readFor 65 = .ok (.iastore, 1) := by decide +kernel
theorem dX8_readFor_66 : decode cX8_readFor 66 = .ok (.aload_n 0, 1) := by decide +kernel
theorem dX8_readFor_67 : decode cX8_readFor 67 = .ok (.getfield 9, 3) := by decide +kernel
theorem dX8_readFor_70 : decode cX8_readFor 70 = .ok (.bipush 53, 2) := by decide +kernel
theorem dX8_readFor_72 : decode cX8_readFor 72 = .ok (.iaload, 1) := by decide +kernel
theorem dX8_readFor_73 : decode cX8_readFor 73 = .ok (.ifCond .ne 24, 3) := by decide +kernel
theorem dX8_readFor_76 : decode cX8_readFor 76 = .ok (.aload_n 0, 1) := by decide +kernel
theorem dX8_readFor_77 : decode cX8_readFor 77 = .ok (.aload_n 0, 1) := by decide +kernel
theorem dX8_readFor_78 : decode cX8_readFor 78 = .ok (.getfield 33, 3) := by decide +kernel
theorem dX8_readFor_81 : decode cX8_readFor 81 = .ok (.iconst 3, 1) := by decide +kernel
theorem dX8_readFor_82 : decode cX8_readFor 82 = .ok (.iaload, 1) := by decide +kernel
theorem dX8_readFor_83 : decode cX8_readFor 83 = .ok (.putfield 167, 3) := by decide +kernel
theorem dX8_readFor_86 : decode cX8_readFor 86 = .ok (.aload_n 0, 1) := by decide +kernel
theorem dX8_readFor_87 : decode cX8_readFor 87 = .ok (.iconst 3, 1) := by decide +kernel
theorem dX8_readFor_88 : decode cX8_readFor 88 = .ok (.putfield 161, 3) := by decide +kernel
theorem dX8_readFor_91 : decode cX8_readFor 91 = .ok (.aload_n 0, 1) := by decide +kernel
theorem dX8_readFor_92 : decode cX8_readFor 92 = .ok (.iconst 2, 1) := by decide +kernel
theorem dX8_readFor_93 : decode cX8_readFor 93 = .ok (.putfield 164, 3) := by decide +kernel
theorem dX8_readFor_96 : decode cX8_readFor 96 = .ok (.return_, 1) := by decide +kernel
theorem dX8_readFor_97 : decode cX8_readFor 97 = .ok (.aload_n 0, 1) := by decide +kernel
theorem dX8_readFor_98 : decode cX8_readFor 98 = .ok (.getfield 9, 3) := by decide +kernel
theorem dX8_readFor_101 : decode cX8_readFor 101 = .ok (.bipush 53, 2) := by decide +kernel
theorem dX8_readFor_103 : decode cX8_readFor 103 = .ok (.iaload, 1) := by decide +kernel
theorem dX8_readFor_104 : decode cX8_readFor 104 = .ok (.iconst 1, 1) := by decide +kernel
theorem dX8_readFor_105 : decode cX8_readFor 105 = .ok (.isub, 1) := by decide +kernel
theorem dX8_readFor_106 : decode cX8_readFor 106 = .ok (.istore_n 3, 1) := by decide +kernel
theorem dX8_readFor_107 : decode cX8_readFor 107 = .ok (.aload_n 0, 1) := by decide +kernel
theorem dX8_readFor_108 : decode cX8_readFor 108 = .ok (.aload_n 0, 1) := by decide +kernel
theorem dX8_readFor_109 : decode cX8_readFor 109 = .ok (.getfield 27, 3) := by decide +kernel
theorem dX8_readFor_112 : decode cX8_readFor 112 = .ok (.iload_n 3, 1) := by decide +kernel
theorem dX8_readFor_113 : decode cX8_readFor 113 = .ok (.iaload, 1) := by decide +kernel
theorem dX8_readFor_114 : decode cX8_readFor 114 = .ok (.putfield 131, 3) := by decide +kernel
theorem dX8_readFor_117 : decode cX8_readFor 117 = .ok (.iconst 0, 1) := by decide +kernel
theorem dX8_readFor_118 : decode cX8_readFor 118 = .ok (.istore 4, 2) := by decide +kernel
theorem dX8_readFor_120 : decode cX8_readFor 120 = .ok (.iload 4, 2) := by decide +kernel
theorem dX8_readFor_122 : decode cX8_readFor 122 = .ok (.aload_n 0, 1) := by decide +kernel
theorem dX8_readFor_123 : decode cX8_readFor 123 = .ok (.getfield 131, 3) := by decide +kernel
theorem dX8_readFor_126 : decode cX8_readFor 126 = .ok (.if_icmp .ge 28, 3) := by decide +kernel
theorem dX8_readFor_129 : decode cX8_readFor 129 = .ok (.aload_n 0, 1) := by decide +kernel
theorem dX8_readFor_130 : decode cX8_readFor 130 = .ok (.getfield 30, 3) := by decide +kernel
theorem dX8_readFor_133 : decode cX8_readFor 133 = .ok (.iload 4, 2) := by decide +kernel
theorem dX8_readFor_135 : decode cX8_readFor 135 = .ok (.aload_n 0, 1) := by decide +kernel
theorem dX8_readFor_136 : decode cX8_readFor 136 = .ok (.getfield 24, 3) := by decide +kernel
theorem dX8_readFor_139 : decode cX8_readFor 139 = .ok (.bipush 100, 2) := by decide +kernel
theorem dX8_readFor_141 : decode cX8_readFor 141 = .ok (.iload_n 3, 1) := by decide +kernel
theorem dX8_readFor_142 : decode cX8_readFor 142 = .ok (.imul, 1) := by decide +kernel
theorem dX8_readFor_143 : decode cX8_readFor 143 = .ok (.iload 4, 2) := by decide +kernel
theorem dX8_readFor_145 : decode cX8_readFor 145 = .ok (.iadd, 1) := by decide +kernel
theorem dX8_readFor_146 : decode cX8_readFor 146 = .ok (.iaload, 1) := by decide +kernel
theorem dX8_readFor_147 : decode cX8_readFor 147 = .ok (.iastore, 1) := by decide +kernel
theorem dX8_readFor_148 : decode cX8_readFor 148 = .ok (.iinc 4 1, 3) := by decide +kernel
theorem dX8_readFor_151 : decode cX8_readFor 151 = .ok (.goto (-31), 3) := by decide +kernel
theorem dX8_readFor_154 : decode cX8_readFor 154 = .ok (.aload_n 0, 1) := by decide +kernel
theorem dX8_readFor_155 : decode cX8_readFor 155 = .ok (.invokevirtual 173, 3) := by decide +kernel
theorem dX8_readFor_158 : decode cX8_readFor 158 = .ok (.pop, 1) := by decide +kernel
theorem dX8_readFor_159 : decode cX8_readFor 159 = .ok (.return_, 1) := by decide +kernel
theorem dX8_city_0 : decode cX8_city 0 = .ok (.aload_n 0, 1) := by decide +kernel
theorem dX8_city_1 : decode cX8_city 1 = .ok (.getfield 176, 3) := by decide +kernel
theorem dX8_city_4 : decode cX8_city 4 = .ok (.bipush 6, 2) := by decide +kernel
theorem dX8_city_6 : decode cX8_city 6 = .ok (.if_icmp .ne 6, 3) := by decide +kernel
theorem dX8_city_9 : decode cX8_city 9 = .ok (.bipush (-4), 2) := by decide +kernel
theorem dX8_city_11 : decode cX8_city 11 = .ok (.ireturn, 1) := by decide +kernel
theorem dX8_city_12 : decode cX8_city 12 = .ok (.aload_n 0, 1) := by decide +kernel
theorem dX8_city_13 : decode cX8_city 13 = .ok (.aload_n 0, 1) := by decide +kernel
theorem dX8_city_14 : decode cX8_city 14 = .ok (.getfield 121, 3) := by decide +kernel
theorem dX8_city_17 : decode cX8_city 17 = .ok (.putfield 131, 3) := by decide +kernel
theorem dX8_city_20 : decode cX8_city 20 = .ok (.iconst 0, 1) := by decide +kernel
theorem dX8_city_21 : decode cX8_city 21 = .ok (.istore_n 1, 1) := by decide +kernel
theorem dX8_city_22 : decode cX8_city 22 = .ok (.iload_n 1, 1) := by decide +kernel
theorem dX8_city_23 : decode cX8_city 23 = .ok (.aload_n 0, 1) := by decide +kernel
theorem dX8_city_24 : decode cX8_city 24 = .ok (.getfield 131, 3) := by decide +kernel
theorem dX8_city_27 : decode cX8_city 27 = .ok (.if_icmp .ge 21, 3) := by decide +kernel
theorem dX8_city_30 : decode cX8_city 30 = .ok (.aload_n 0, 1) := by decide +kernel
theorem dX8_city_31 : decode cX8_city 31 = .ok (.getfield 30, 3) := by decide +kernel
theorem dX8_city_34 : decode cX8_city 34 = .ok (.iload_n 1, 1) := by decide +kernel
theorem dX8_city_35 : decode cX8_city 35 = .ok (.aload_n 0, 1) := by decide +kernel
theorem dX8_city_36 : decode cX8_city 36 = .ok (.getfield 21, 3) := by decide +kernel
theorem dX8_city_39 : decode cX8_city 39 = .ok (.iload_n 1, 1) := by decide +kernel
theorem dX8_city_40 : decode cX8_city 40 = .ok (.iaload, 1) := by decide +kernel
theorem dX8_city_41 : decode cX8_city 41 = .ok (.iastore, 1) := by decide +kernel
theorem dX8_city_42 : decode cX8_city 42 = .ok (.iinc 1 1, 3) := by decide +kernel
theorem dX8_city_45 : decode cX8_city 45 = .ok (.goto (-23), 3) := by decide +kernel
theorem dX8_city_48 : decode cX8_city 48 = .ok (.aload_n 0, 1) := by decide +kernel
theorem dX8_city_49 : decode cX8_city 49 = .ok (.iconst 0, 1) := by decide +kernel
theorem dX8_city_50 : decode cX8_city 50 = .ok (.putfield 121, 3) := by decide +kernel
theorem dX8_city_53 : decode cX8_city 53 = .ok (.aload_n 0, 1) := by decide +kernel
theorem dX8_city_54 : decode cX8_city 54 = .ok (.invokevirtual 173, 3) := by decide +kernel
theorem dX8_city_57 : decode cX8_city 57 = .ok (.ifCond .ne 11, 3) := by decide +kernel
theorem dX8_city_60 : decode cX8_city 60 = .ok (.bipush (-10), 2) := by decide +kernel
theorem dX8_city_62 : decode cX8_city 62 = .ok (.aload_n 0, 1) := by decide +kernel
theorem dX8_city_63 : decode cX8_city 63 = .ok (.getfield 128, 3) := by decide +kernel
theorem dX8_city_66 : decode cX8_city 66 = .ok (.isub, 1) := by decide +kernel
theorem dX8_city_67 : decode cX8_city 67 = .ok (.ireturn, 1) := by decide +kernel
theorem dX8_city_68 : decode cX8_city 68 = .ok (.iconst 0, 1) := by decide +kernel
theorem dX8_city_69 : decode cX8_city 69 = .ok (.istore_n 1, 1) := by decide +kernel
theorem dX8_city_70 : decode cX8_city 70 = .ok (.iload_n 1, 1) := by decide +kernel
theorem dX8_city_71 : decode cX8_city 71 = .ok (.aload_n 0, 1) := by decide +kernel
theorem dX8_city_72 : decode cX8_city 72 = .ok (.getfield 131, 3) := by decide +kernel
theorem dX8_city_75 : decode cX8_city 75 = .ok (.if_icmp .ge 29, 3) := by decide +kernel
theorem dX8_city_78 : decode cX8_city 78 = .ok (.aload_n 0, 1) := by decide +kernel
theorem dX8_city_79 : decode cX8_city 79 = .ok (.getfield 24, 3) := by decide +kernel
theorem dX8_city_82 : decode cX8_city 82 = .ok (.bipush 100, 2) := by decide +kernel
theorem dX8_city_84 : decode cX8_city 84 = .ok (.aload_n 0, 1) := by decide +kernel
theorem dX8_city_85 : decode cX8_city 85 = .ok (.getfield 176, 3) := by decide +kernel
theorem dX8_city_88 : decode cX8_city 88 = .ok (.imul, 1) := by decide +kernel
theorem dX8_city_89 : decode cX8_city 89 = .ok (.iload_n 1, 1) := by decide +kernel
theorem dX8_city_90 : decode cX8_city 90 = .ok (.iadd, 1) := by decide +kernel
theorem dX8_city_91 : decode cX8_city 91 = .ok (.aload_n 0, 1) := by decide +kernel
theorem dX8_city_92 : decode cX8_city 92 = .ok (.getfield 30, 3) := by decide +kernel
theorem dX8_city_95 : decode cX8_city 95 = .ok (.iload_n 1, 1) := by decide +kernel
theorem dX8_city_96 : decode cX8_city 96 = .ok (.iaload, 1) := by decide +kernel
theorem dX8_city_97 : decode cX8_city 97 = .ok (.iastore, 1) := by decide +kernel
theorem dX8_city_98 : decode cX8_city 98 = .ok (.iinc 1 1, 3) := by decide +kernel
theorem dX8_city_101 : decode cX8_city 101 = .ok (.goto (-31), 3) := by decide +kernel
theorem dX8_city_104 : decode cX8_city 104 = .ok (.aload_n 0, 1) := by decide +kernel
theorem dX8_city_105 : decode cX8_city 105 = .ok (.getfield 27, 3) := by decide +kernel
theorem dX8_city_108 : decode cX8_city 108 = .ok (.aload_n 0, 1) := by decide +kernel
theorem dX8_city_109 : decode cX8_city 109 = .ok (.getfield 176, 3) := by decide +kernel
theorem dX8_city_112 : decode cX8_city 112 = .ok (.aload_n 0, 1) := by decide +kernel
theorem dX8_city_113 : decode cX8_city 113 = .ok (.getfield 131, 3) := by decide +kernel
theorem dX8_city_116 : decode cX8_city 116 = .ok (.iastore, 1) := by decide +kernel
theorem dX8_city_117 : decode cX8_city 117 = .ok (.aload_n 0, 1) := by decide +kernel
theorem dX8_city_118 : decode cX8_city 118 = .ok (.dup, 1) := by decide +kernel
theorem dX8_city_119 : decode cX8_city 119 = .ok (.getfield 176, 3) := by decide +kernel
theorem dX8_city_122 : decode cX8_city 122 = .ok (.iconst 1, 1) := by decide +kernel
theorem dX8_city_123 : decode cX8_city 123 = .ok (.iadd, 1) := by decide +kernel
theorem dX8_city_124 : decode cX8_city 124 = .ok (.putfield 176, 3) := by decide +kernel
theorem dX8_city_127 : decode cX8_city 127 = .ok (.aload_n 0, 1) := by decide +kernel
theorem dX8_city_128 : decode cX8_city 128 = .ok (.getfield 9, 3) := by decide +kernel
theorem dX8_city_131 : decode cX8_city 131 = .ok (.bipush 53, 2) := by decide +kernel
theorem dX8_city_133 : decode cX8_city 133 = .ok (.aload_n 0, 1) := by decide +kernel
theorem dX8_city_134 : decode cX8_city 134 = .ok (.getfield 176, 3) := by decide +kernel
theorem dX8_city_137 : decode cX8_city 137 = .ok (.iastore, 1) := by decide +kernel
theorem dX8_city_138 : decode cX8_city 138 = .ok (.aload_n 0, 1) := by decide +kernel
theorem dX8_city_139 : decode cX8_city 139 = .ok (.getfield 176, 3) := by decide +kernel
theorem dX8_city_142 : decode cX8_city 142 = .ok (.iconst 1, 1) := by decide +kernel
theorem dX8_city_143 : decode cX8_city 143 = .ok (.isub, 1) := by decide +kernel
theorem dX8_city_144 : decode cX8_city 144 = .ok (.ireturn, 1) := by decide +kernel
theorem dX8_urge_0 : decode cX8_urge 0 = .ok (.aload_n 0, 1) := by decide +kernel
theorem dX8_urge_1 : decode cX8_urge 1 = .ok (.iload_n 1, 1) := by decide +kernel
theorem dX8_urge_2 : decode cX8_urge 2 = .ok (.aload_n 0, 1) := by decide +kernel
theorem dX8_urge_3 : decode cX8_urge 3 = .ok (.iload_n 1, 1) := by decide +kernel
theorem dX8_urge_4 : decode cX8_urge 4 = .ok (.invokevirtual 85, 3) := by decide +kernel
theorem dX8_urge_7 : decode cX8_urge 7 = .ok (.invokevirtual 179, 3) := by decide +kernel
theorem dX8_urge_10 : decode cX8_urge 10 = .ok (.aload_n 0, 1) := by decide +kernel
theorem dX8_urge_11 : decode cX8_urge 11 = .ok (.getfield 167, 3) := by decide +kernel
theorem dX8_urge_14 : decode cX8_urge 14 = .ok (.iconst 3, 1) := by decide +kernel
theorem dX8_urge_15 : decode cX8_urge 15 = .ok (.iload_n 2, 1) := by decide +kernel
theorem dX8_urge_16 : decode cX8_urge 16 = .ok (.imul, 1) := by decide +kernel
theorem dX8_urge_17 : decode cX8_urge 17 = .ok (.iadd, 1) := by decide +kernel
theorem dX8_urge_18 : decode cX8_urge 18 = .ok (.istore_n 3, 1) := by decide +kernel
theorem dX8_urge_19 : decode cX8_urge 19 = .ok (.iload_n 3, 1) := by decide +kernel
theorem dX8_urge_20 : decode cX8_urge 20 = .ok (.aload_n 0, 1) := by decide +kernel
theorem dX8_urge_21 : decode cX8_urge 21 = .ok (.iload_n 1, 1) := by decide +kernel
theorem dX8_urge_22 : decode cX8_urge 22 = .ok (.iconst 1, 1) := by decide +kernel
theorem dX8_urge_23 : decode cX8_urge 23 = .ok (.invokevirtual 81, 3) := by decide +kernel
theorem dX8_urge_26 : decode cX8_urge 26 = .ok (.iadd, 1) := by decide +kernel
theorem dX8_urge_27 : decode cX8_urge 27 = .ok (.istore 4, 2) := by decide +kernel
theorem dX8_urge_29 : decode cX8_urge 29 = .ok (.aload_n 0, 1) := by decide +kernel
theorem dX8_urge_30 : decode cX8_urge 30 = .ok (.iload_n 1, 1) := by decide +kernel
theorem dX8_urge_31 : decode cX8_urge 31 = .ok (.iconst 0, 1) := by decide +kernel
theorem dX8_urge_32 : decode cX8_urge 32 = .ok (.invokevirtual 81, 3) := by decide +kernel
theorem dX8_urge_35 : decode cX8_urge 35 = .ok (.tableswitch 112 1 6 #[37, 40, 44, 50, 65, 87], 37) := by decide +kernel
theorem dX8_urge_72 : decode cX8_urge 72 = .ok (.iload 4, 2) := by decide +kernel
theorem dX8_urge_74 : decode cX8_urge 74 = .ok (.ireturn, 1) := by decide +kernel
theorem dX8_urge_75 : decode cX8_urge 75 = .ok (.iload_n 3, 1) := by decide +kernel
theorem dX8_urge_76 : decode cX8_urge 76 = .ok (.iconst 2, 1) := by decide +kernel
theorem dX8_urge_77 : decode cX8_urge 77 = .ok (.idiv, 1) := by decide +kernel
theorem dX8_urge_78 : decode cX8_urge 78 = .ok (.ireturn, 1) := by decide +kernel
theorem dX8_urge_79 : decode cX8_urge 79 = .ok (.iload_n 3, 1) := by decide +kernel
theorem dX8_urge_80 : decode cX8_urge 80 = .ok (.iconst 2, 1) := by decide +kernel
theorem dX8_urge_81 : decode cX8_urge 81 = .ok (.iload_n 2, 1) := by decide +kernel
theorem dX8_urge_82 : decode cX8_urge 82 = .ok (.imul, 1) := by decide +kernel
theorem dX8_urge_83 : decode cX8_urge 83 = .ok (.iadd, 1) := by decide +kernel
theorem dX8_urge_84 : decode cX8_urge 84 = .ok (.ireturn, 1) := by decide +kernel
theorem dX8_urge_85 : decode cX8_urge 85 = .ok (.iload_n 2, 1) := by decide +kernel
theorem dX8_urge_86 : decode cX8_urge 86 = .ok (.iconst 2, 1) := by decide +kernel
theorem dX8_urge_87 : decode cX8_urge 87 = .ok (.if_icmp .ne 10, 3) := by decide +kernel
theorem dX8_urge_90 : decode cX8_urge 90 = .ok (.iconst 2, 1) := by decide +kernel
theorem dX8_urge_91 : decode cX8_urge 91 = .ok (.iload 4, 2) := by decide +kernel
theorem dX8_urge_93 : decode cX8_urge 93 = .ok (.imul, 1) := by decide +kernel
theorem dX8_urge_94 : decode cX8_urge 94 = .ok (.goto 5, 3) := by decide +kernel
theorem dX8_urge_97 : decode cX8_urge 97 = .ok (.iload 4, 2) := by decide +kernel
theorem dX8_urge_99 : decode cX8_urge 99 = .ok (.ireturn, 1) := by decide +kernel
theorem dX8_urge_100 : decode cX8_urge 100 = .ok (.iload_n 3, 1) := by decide +kernel
theorem dX8_urge_101 : decode cX8_urge 101 = .ok (.iconst 2, 1) := by decide +kernel
theorem dX8_urge_102 : decode cX8_urge 102 = .ok (.idiv, 1) := by decide +kernel
theorem dX8_urge_103 : decode cX8_urge 103 = .ok (.aload_n 0, 1) := by decide +kernel
theorem dX8_urge_104 : decode cX8_urge 104 = .ok (.getfield 9, 3) := by decide +kernel
theorem dX8_urge_107 : decode cX8_urge 107 = .ok (.bipush 52, 2) := by decide +kernel
theorem dX8_urge_109 : decode cX8_urge 109 = .ok (.iaload, 1) := by decide +kernel
theorem dX8_urge_110 : decode cX8_urge 110 = .ok (.iconst 4, 1) := by decide +kernel
theorem dX8_urge_111 : decode cX8_urge 111 = .ok (.irem, 1) := by decide +kernel
theorem dX8_urge_112 : decode cX8_urge 112 = .ok (.ifCond .ne 7, 3) := by decide +kernel
theorem dX8_urge_115 : decode cX8_urge 115 = .ok (.iconst 4, 1) := by decide +kernel
theorem dX8_urge_116 : decode cX8_urge 116 = .ok (.goto 4, 3) := by decide +kernel
theorem dX8_urge_119 : decode cX8_urge 119 = .ok (.iconst 0, 1) := by decide +kernel
theorem dX8_urge_120 : decode cX8_urge 120 = .ok (.isub, 1) := by decide +kernel
theorem dX8_urge_121 : decode cX8_urge 121 = .ok (.ireturn, 1) := by decide +kernel
theorem dX8_urge_122 : decode cX8_urge 122 = .ok (.iload_n 3, 1) := by decide +kernel
theorem dX8_urge_123 : decode cX8_urge 123 = .ok (.iconst 2, 1) := by decide +kernel
theorem dX8_urge_124 : decode cX8_urge 124 = .ok (.iload_n 2, 1) := by decide +kernel
theorem dX8_urge_125 : decode cX8_urge 125 = .ok (.imul, 1) := by decide +kernel
theorem dX8_urge_126 : decode cX8_urge 126 = .ok (.iadd, 1) := by decide +kernel
theorem dX8_urge_127 : decode cX8_urge 127 = .ok (.aload_n 0, 1) := by decide +kernel
theorem dX8_urge_128 : decode cX8_urge 128 = .ok (.iload_n 1, 1) := by decide +kernel
theorem dX8_urge_129 : decode cX8_urge 129 = .ok (.iconst 3, 1) := by decide +kernel
theorem dX8_urge_130 : decode cX8_urge 130 = .ok (.aload_n 0, 1) := by decide +kernel
theorem dX8_urge_131 : decode cX8_urge 131 = .ok (.getfield 9, 3) := by decide +kernel
theorem dX8_urge_134 : decode cX8_urge 134 = .ok (.bipush 52, 2) := by decide +kernel
theorem dX8_urge_136 : decode cX8_urge 136 = .ok (.iaload, 1) := by decide +kernel
theorem dX8_urge_137 : decode cX8_urge 137 = .ok (.iconst 4, 1) := by decide +kernel
theorem dX8_urge_138 : decode cX8_urge 138 = .ok (.irem, 1) := by decide +kernel
theorem dX8_urge_139 : decode cX8_urge 139 = .ok (.iadd, 1) := by decide +kernel
theorem dX8_urge_140 : decode cX8_urge 140 = .ok (.invokevirtual 81, 3) := by decide +kernel
theorem dX8_urge_143 : decode cX8_urge 143 = .ok (.iadd, 1) := by decide +kernel
theorem dX8_urge_144 : decode cX8_urge 144 = .ok (.iconst 4, 1) := by decide +kernel
theorem dX8_urge_145 : decode cX8_urge 145 = .ok (.isub, 1) := by decide +kernel
theorem dX8_urge_146 : decode cX8_urge 146 = .ok (.ireturn, 1) := by decide +kernel
theorem dX8_urge_147 : decode cX8_urge 147 = .ok (.iload_n 3, 1) := by decide +kernel
theorem dX8_urge_148 : decode cX8_urge 148 = .ok (.ireturn, 1) := by decide +kernel
theorem dX8_laughing_0 : decode cX8_laughing 0 = .ok (.aload_n 0, 1) := by decide +kernel
theorem dX8_laughing_1 : decode cX8_laughing 1 = .ok (.getfield 9, 3) := by decide +kernel
theorem dX8_laughing_4 : decode cX8_laughing 4 = .ok (.bipush 48, 2) := by decide +kernel
theorem dX8_laughing_6 : decode cX8_laughing 6 = .ok (.iaload, 1) := by decide +kernel
theorem dX8_laughing_7 : decode cX8_laughing 7 = .ok (.istore_n 1, 1) := by decide +kernel
theorem dX8_laughing_8 : decode cX8_laughing 8 = .ok (.iconst 0, 1) := by decide +kernel
theorem dX8_laughing_9 : decode cX8_laughing 9 = .ok (.istore_n 2, 1) := by decide +kernel
theorem dX8_laughing_10 : decode cX8_laughing 10 = .ok (.iload_n 2, 1) := by decide +kernel
theorem dX8_laughing_11 : decode cX8_laughing 11 = .ok (.iload_n 1, 1) := by decide +kernel
theorem dX8_laughing_12 : decode cX8_laughing 12 = .ok (.if_icmp .ge 56, 3) := by decide +kernel
theorem dX8_laughing_15 : decode cX8_laughing 15 = .ok (.iconst 0, 1) := by decide +kernel
theorem dX8_laughing_16 : decode cX8_laughing 16 = .ok (.istore_n 3, 1) := by decide +kernel
theorem dX8_laughing_17 : decode cX8_laughing 17 = .ok (.iload_n 3, 1) := by decide +kernel
theorem dX8_laughing_18 : decode cX8_laughing 18 = .ok (.iconst 3, 1) := by decide +kernel
theorem dX8_laughing_19 : decode cX8_laughing 19 = .ok (.if_icmp .ge 43, 3) := by decide +kernel
theorem dX8_laughing_22 : decode cX8_laughing 22 = .ok (.aload_n 0, 1) := by decide +kernel
theorem dX8_laughing_23 : decode cX8_laughing 23 = .ok (.getfield 43, 3) := by decide +kernel
theorem dX8_laughing_26 : decode cX8_laughing 26 = .ok (.iconst 3, 1) := by decide +kernel
theorem dX8_laughing_27 : decode cX8_laughing 27 = .ok (.iload_n 2, 1) := by decide +kernel
theorem dX8_laughing_28 : decode cX8_laughing 28 = .ok (.imul, 1) := by decide +kernel
theorem dX8_laughing_29 : decode cX8_laughing 29 = .ok (.iload_n 3, 1) := by decide +kernel
theorem dX8_laughing_30 : decode cX8_laughing 30 = .ok (.iadd, 1) := by decide +kernel
theorem dX8_laughing_31 : decode cX8_laughing 31 = .ok (.aload_n 0, 1) := by decide +kernel
theorem dX8_laughing_32 : decode cX8_laughing 32 = .ok (.aload_n 0, 1) := by decide +kernel
theorem dX8_laughing_33 : decode cX8_laughing 33 = .ok (.getfield 9, 3) := by decide +kernel
theorem dX8_laughing_36 : decode cX8_laughing 36 = .ok (.bipush 42, 2) := by decide +kernel
theorem dX8_laughing_38 : decode cX8_laughing 38 = .ok (.iload_n 2, 1) := by decide +kernel
theorem dX8_laughing_39 : decode cX8_laughing 39 = .ok (.iadd, 1) := by decide +kernel
theorem dX8_laughing_40 : decode cX8_laughing 40 = .ok (.iaload, 1) := by decide +kernel
theorem dX8_laughing_41 : decode cX8_laughing 41 = .ok (.iload_n 3, 1) := by decide +kernel
theorem dX8_laughing_42 : decode cX8_laughing 42 = .ok (.invokevirtual 114, 3) := by decide +kernel
theorem dX8_laughing_45 : decode cX8_laughing 45 = .ok (.bipush 10, 2) := by decide +kernel
theorem dX8_laughing_47 : decode cX8_laughing 47 = .ok (.if_icmp .lt 7, 3) := by decide +kernel
theorem dX8_laughing_50 : decode cX8_laughing 50 = .ok (.iconst 1, 1) := by decide +kernel
theorem dX8_laughing_51 : decode cX8_laughing 51 = .ok (.goto 4, 3) := by decide +kernel
theorem dX8_laughing_54 : decode cX8_laughing 54 = .ok (.iconst 0, 1) := by decide +kernel
theorem dX8_laughing_55 : decode cX8_laughing 55 = .ok (.bastore, 1) := by decide +kernel
theorem dX8_laughing_56 : decode cX8_laughing 56 = .ok (.iinc 3 1, 3) := by decide +kernel
theorem dX8_laughing_59 : decode cX8_laughing 59 = .ok (.goto (-42), 3) := by decide +kernel
theorem dX8_laughing_62 : decode cX8_laughing 62 = .ok (.iinc 2 1, 3) := by decide +kernel
theorem dX8_laughing_65 : decode cX8_laughing 65 = .ok (.goto (-55), 3) := by decide +kernel
theorem dX8_laughing_68 : decode cX8_laughing 68 = .ok (.iconst 0, 1) := by decide +kernel
theorem dX8_laughing_69 : decode cX8_laughing 69 = .ok (.istore_n 2, 1) := by decide +kernel
theorem dX8_laughing_70 : decode cX8_laughing 70 = .ok (.iconst (-1), 1) := by decide +kernel
theorem dX8_laughing_71 : decode cX8_laughing 71 = .ok (.istore_n 3, 1) := by decide +kernel
theorem dX8_laughing_72 : decode cX8_laughing 72 = .ok (.iload_n 2, 1) := by decide +kernel
theorem dX8_laughing_73 : decode cX8_laughing 73 = .ok (.iload_n 3, 1) := by decide +kernel
theorem dX8_laughing_74 : decode cX8_laughing 74 = .ok (.if_icmp .eq 113, 3) := by decide +kernel
theorem dX8_laughing_77 : decode cX8_laughing 77 = .ok (.iload_n 2, 1) := by decide +kernel
theorem dX8_laughing_78 : decode cX8_laughing 78 = .ok (.istore_n 3, 1) := by decide +kernel
theorem dX8_laughing_79 : decode cX8_laughing 79 = .ok (.iconst 0, 1) := by decide +kernel
theorem dX8_laughing_80 : decode cX8_laughing 80 = .ok (.istore 4, 2) := by decide +kernel
theorem dX8_laughing_82 : decode cX8_laughing 82 = .ok (.iload 4, 2) := by decide +kernel
theorem dX8_laughing_84 : decode cX8_laughing 84 = .ok (.iload_n 1, 1) := by decide +kernel
theorem dX8_laughing_85 : decode cX8_laughing 85 = .ok (.if_icmp .ge 99, 3) := by decide +kernel
theorem dX8_laughing_88 : decode cX8_laughing 88 = .ok (.iload 4, 2) := by decide +kernel
theorem dX8_laughing_90 : decode cX8_laughing 90 = .ok (.ifCond .le 22, 3) := by decide +kernel
theorem dX8_laughing_93 : decode cX8_laughing 93 = .ok (.iload_n 3, 1) := by decide +kernel
theorem dX8_laughing_94 : decode cX8_laughing 94 = .ok (.aload_n 0, 1) := by decide +kernel
theorem dX8_laughing_95 : decode cX8_laughing 95 = .ok (.getfield 9, 3) := by decide +kernel
theorem dX8_laughing_98 : decode cX8_laughing 98 = .ok (.bipush 42, 2) := by decide +kernel
theorem dX8_laughing_100 : decode cX8_laughing 100 = .ok (.iload 4, 2) := by decide +kernel
theorem dX8_laughing_102 : decode cX8_laughing 102 = .ok (.iadd, 1) := by decide +kernel
theorem dX8_laughing_103 : decode cX8_laughing 103 = .ok (.iconst 1, 1) := by decide +kernel
theorem dX8_laughing_104 : decode cX8_laughing 104 = .ok (.isub, 1) := by decide +kernel
theorem dX8_laughing_105 : decode cX8_laughing 105 = .ok (.iaload, 1) := by decide +kernel
theorem dX8_laughing_106 : decode cX8_laughing 106 = .ok (.ishr, 1) := by decide +kernel
theorem dX8_laughing_107 : decode cX8_laughing 107 = .ok (.iconst 1, 1) := by decide +kernel
theorem dX8_laughing_108 : decode cX8_laughing 108 = .ok (.iand, 1) := by decide +kernel
theorem dX8_laughing_109 : decode cX8_laughing 109 = .ok (.goto 4, 3) := by decide +kernel
theorem dX8_laughing_112 : decode cX8_laughing 112 = .ok (.iconst 0, 1) := by decide +kernel
theorem dX8_laughing_113 : decode cX8_laughing 113 = .ok (.iload 4, 2) := by decide +kernel
theorem dX8_laughing_115 : decode cX8_laughing 115 = .ok (.iload_n 1, 1) := by decide +kernel
theorem dX8_laughing_116 : decode cX8_laughing 116 = .ok (.iconst 1, 1) := by decide +kernel
theorem dX8_laughing_117 : decode cX8_laughing 117 = .ok (.isub, 1) := by decide +kernel
theorem dX8_laughing_118 : decode cX8_laughing 118 = .ok (.if_icmp .ge 22, 3) := by decide +kernel
theorem dX8_laughing_121 : decode cX8_laughing 121 = .ok (.iload_n 3, 1) := by decide +kernel
theorem dX8_laughing_122 : decode cX8_laughing 122 = .ok (.aload_n 0, 1) := by decide +kernel
theorem dX8_laughing_123 : decode cX8_laughing 123 = .ok (.getfield 9, 3) := by decide +kernel
theorem dX8_laughing_126 : decode cX8_laughing 126 = .ok (.bipush 42, 2) := by decide +kernel
theorem dX8_laughing_128 : decode cX8_laughing 128 = .ok (.iload 4, 2) := by decide +kernel
theorem dX8_laughing_130 : decode cX8_laughing 130 = .ok (.iadd, 1) := by decide +kernel
theorem dX8_laughing_131 : decode cX8_laughing 131 = .ok (.iconst 1, 1) := by decide +kernel
theorem dX8_laughing_132 : decode cX8_laughing 132 = .ok (.iadd, 1) := by decide +kernel
theorem dX8_laughing_133 : decode cX8_laughing 133 = .ok (.iaload, 1) := by decide +kernel
theorem dX8_laughing_134 : decode cX8_laughing 134 = .ok (.ishr, 1) := by decide +kernel
theorem dX8_laughing_135 : decode cX8_laughing 135 = .ok (.iconst 1, 1) := by decide +kernel
theorem dX8_laughing_136 : decode cX8_laughing 136 = .ok (.iand, 1) := by decide +kernel
theorem dX8_laughing_137 : decode cX8_laughing 137 = .ok (.goto 4, 3) := by decide +kernel
theorem dX8_laughing_140 : decode cX8_laughing 140 = .ok (.iconst 0, 1) := by decide +kernel
theorem dX8_laughing_141 : decode cX8_laughing 141 = .ok (.iadd, 1) := by decide +kernel
theorem dX8_laughing_142 : decode cX8_laughing 142 = .ok (.istore 5, 2) := by decide +kernel
theorem dX8_laughing_144 : decode cX8_laughing 144 = .ok (.iload_n 2, 1) := by decide +kernel
theorem dX8_laughing_145 : decode cX8_laughing 145 = .ok (.aload_n 0, 1) := by decide +kernel
theorem dX8_laughing_146 : decode cX8_laughing 146 = .ok (.getfield 43, 3) := by decide +kernel
theorem dX8_laughing_149 : decode cX8_laughing 149 = .ok (.iconst 3, 1) := by decide +kernel
theorem dX8_laughing_150 : decode cX8_laughing 150 = .ok (.iload 4, 2) := by decide +kernel
theorem dX8_laughing_152 : decode cX8_laughing 152 = .ok (.imul, 1) := by decide +kernel
theorem dX8_laughing_153 : decode cX8_laughing 153 = .ok (.iload 5, 2) := by decide +kernel
theorem dX8_laughing_155 : decode cX8_laughing 155 = .ok (.iadd, 1) := by decide +kernel
theorem dX8_laughing_156 : decode cX8_laughing 156 = .ok (.baload, 1) := by decide +kernel
theorem dX8_laughing_157 : decode cX8_laughing 157 = .ok (.ifCond .eq 18, 3) := by decide +kernel
theorem dX8_laughing_160 : decode cX8_laughing 160 = .ok (.iconst 1, 1) := by decide +kernel
theorem dX8_laughing_161 : decode cX8_laughing 161 = .ok (.aload_n 0, 1) := by decide +kernel
theorem dX8_laughing_162 : decode cX8_laughing 162 = .ok (.getfield 9, 3) := by decide +kernel
theorem dX8_laughing_165 : decode cX8_laughing 165 = .ok (.bipush 42, 2) := by decide +kernel
theorem dX8_laughing_167 : decode cX8_laughing 167 = .ok (.iload 4, 2) := by decide +kernel
theorem dX8_laughing_169 : decode cX8_laughing 169 = .ok (.iadd, 1) := by decide +kernel
theorem dX8_laughing_170 : decode cX8_laughing 170 = .ok (.iaload, 1) := by decide +kernel
theorem dX8_laughing_171 : decode cX8_laughing 171 = .ok (.ishl, 1) := by decide +kernel
theorem dX8_laughing_172 : decode cX8_laughing 172 = .ok (.goto 4, 3) := by decide +kernel
theorem dX8_laughing_175 : decode cX8_laughing 175 = .ok (.iconst 0, 1) := by decide +kernel
theorem dX8_laughing_176 : decode cX8_laughing 176 = .ok (.ior, 1) := by decide +kernel
theorem dX8_laughing_177 : decode cX8_laughing 177 = .ok (.istore_n 2, 1) := by decide +kernel
theorem dX8_laughing_178 : decode cX8_laughing 178 = .ok (.iinc 4 1, 3) := by decide +kernel
theorem dX8_laughing_181 : decode cX8_laughing 181 = .ok (.goto (-99), 3) := by decide +kernel
theorem dX8_laughing_184 : decode cX8_laughing 184 = .ok (.goto (-112), 3) := by decide +kernel
theorem dX8_laughing_187 : decode cX8_laughing 187 = .ok (.iload_n 2, 1) := by decide +kernel
theorem dX8_laughing_188 : decode cX8_laughing 188 = .ok (.ireturn, 1) := by decide +kernel
theorem dX8_nearNow_0 : decode cX8_nearNow 0 = .ok (.aload_n 0, 1) := by decide +kernel
theorem dX8_nearNow_1 : decode cX8_nearNow 1 = .ok (.iconst 0, 1) := by decide +kernel
theorem dX8_nearNow_2 : decode cX8_nearNow 2 = .ok (.iconst 0, 1) := by decide +kernel
theorem dX8_nearNow_3 : decode cX8_nearNow 3 = .ok (.invokevirtual 179, 3) := by decide +kernel
theorem dX8_nearNow_6 : decode cX8_nearNow 6 = .ok (.aload_n 0, 1) := by decide +kernel
theorem dX8_nearNow_7 : decode cX8_nearNow 7 = .ok (.getfield 161, 3) := by decide +kernel
theorem dX8_nearNow_10 : decode cX8_nearNow 10 = .ok (.ireturn, 1) := by decide +kernel
theorem dX8_windNow_0 : decode cX8_windNow 0 = .ok (.aload_n 0, 1) := by decide +kernel
theorem dX8_windNow_1 : decode cX8_windNow 1 = .ok (.iconst 0, 1) := by decide +kernel
theorem dX8_windNow_2 : decode cX8_windNow 2 = .ok (.iconst 0, 1) := by decide +kernel
theorem dX8_windNow_3 : decode cX8_windNow 3 = .ok (.invokevirtual 179, 3) := by decide +kernel
theorem dX8_windNow_6 : decode cX8_windNow 6 = .ok (.aload_n 0, 1) := by decide +kernel
theorem dX8_windNow_7 : decode cX8_windNow 7 = .ok (.getfield 164, 3) := by decide +kernel
theorem dX8_windNow_10 : decode cX8_windNow 10 = .ok (.ireturn, 1) := by decide +kernel
theorem dX8_hour_0 : decode cX8_hour 0 = .ok (.aload_n 0, 1) := by decide +kernel
theorem dX8_hour_1 : decode cX8_hour 1 = .ok (.getfield 9, 3) := by decide +kernel
theorem dX8_hour_4 : decode cX8_hour 4 = .ok (.bipush 50, 2) := by decide +kernel
theorem dX8_hour_6 : decode cX8_hour 6 = .ok (.iaload, 1) := by decide +kernel
theorem dX8_hour_7 : decode cX8_hour 7 = .ok (.ifCond .ne 63, 3) := by decide +kernel
theorem dX8_hour_10 : decode cX8_hour 10 = .ok (.aload_n 0, 1) := by decide +kernel
theorem dX8_hour_11 : decode cX8_hour 11 = .ok (.getfield 9, 3) := by decide +kernel
theorem dX8_hour_14 : decode cX8_hour 14 = .ok (.bipush 48, 2) := by decide +kernel
theorem dX8_hour_16 : decode cX8_hour 16 = .ok (.iaload, 1) := by decide +kernel
theorem dX8_hour_17 : decode cX8_hour 17 = .ok (.ifCond .le 53, 3) := by decide +kernel
theorem dX8_hour_20 : decode cX8_hour 20 = .ok (.iconst 1, 1) := by decide +kernel
theorem dX8_hour_21 : decode cX8_hour 21 = .ok (.istore_n 1, 1) := by decide +kernel
theorem dX8_hour_22 : decode cX8_hour 22 = .ok (.iload_n 1, 1) := by decide +kernel
theorem dX8_hour_23 : decode cX8_hour 23 = .ok (.aload_n 0, 1) := by decide +kernel
theorem dX8_hour_24 : decode cX8_hour 24 = .ok (.getfield 9, 3) := by decide +kernel
theorem dX8_hour_27 : decode cX8_hour 27 = .ok (.bipush 48, 2) := by decide +kernel
theorem dX8_hour_29 : decode cX8_hour 29 = .ok (.iaload, 1) := by decide +kernel
theorem dX8_hour_30 : decode cX8_hour 30 = .ok (.if_icmp .ge 29, 3) := by decide +kernel
theorem dX8_hour_33 : decode cX8_hour 33 = .ok (.aload_n 0, 1) := by decide +kernel
theorem dX8_hour_34 : decode cX8_hour 34 = .ok (.getfield 9, 3) := by decide +kernel
theorem dX8_hour_37 : decode cX8_hour 37 = .ok (.bipush 42, 2) := by decide +kernel
theorem dX8_hour_39 : decode cX8_hour 39 = .ok (.iload_n 1, 1) := by decide +kernel
theorem dX8_hour_40 : decode cX8_hour 40 = .ok (.iadd, 1) := by decide +kernel
theorem dX8_hour_41 : decode cX8_hour 41 = .ok (.iconst 1, 1) := by decide +kernel
theorem dX8_hour_42 : decode cX8_hour 42 = .ok (.isub, 1) := by decide +kernel
theorem dX8_hour_43 : decode cX8_hour 43 = .ok (.aload_n 0, 1) := by decide +kernel
theorem dX8_hour_44 : decode cX8_hour 44 = .ok (.getfield 9, 3) := by decide +kernel
theorem dX8_hour_47 : decode cX8_hour 47 = .ok (.bipush 42, 2) := by decide +kernel
theorem dX8_hour_49 : decode cX8_hour 49 = .ok (.iload_n 1, 1) := by decide +kernel
theorem dX8_hour_50 : decode cX8_hour 50 = .ok (.iadd, 1) := by decide +kernel
theorem dX8_hour_51 : decode cX8_hour 51 = .ok (.iaload, 1) := by decide +kernel
theorem dX8_hour_52 : decode cX8_hour 52 = .ok (.iastore, 1) := by decide +kernel
theorem dX8_hour_53 : decode cX8_hour 53 = .ok (.iinc 1 1, 3) := by decide +kernel
theorem dX8_hour_56 : decode cX8_hour 56 = .ok (.goto (-34), 3) := by decide +kernel
theorem dX8_hour_59 : decode cX8_hour 59 = .ok (.aload_n 0, 1) := by decide +kernel
theorem dX8_hour_60 : decode cX8_hour 60 = .ok (.getfield 9, 3) := by decide +kernel
theorem dX8_hour_63 : decode cX8_hour 63 = .ok (.bipush 48, 2) := by decide +kernel
theorem dX8_hour_65 : decode cX8_hour 65 = .ok (.dup2, 1) := by decide +kernel
theorem dX8_hour_66 : decode cX8_hour 66 = .ok (.iaload, 1) := by decide +kernel
theorem dX8_hour_67 : decode cX8_hour 67 = .ok (.iconst 1, 1) := by decide +kernel
theorem dX8_hour_68 : decode cX8_hour 68 = .ok (.isub, 1) := by decide +kernel
theorem dX8_hour_69 : decode cX8_hour 69 = .ok (.iastore, 1) := by decide +kernel
theorem dX8_hour_70 : decode cX8_hour 70 = .ok (.aload_n 0, 1) := by decide +kernel
theorem dX8_hour_71 : decode cX8_hour 71 = .ok (.invokevirtual 104, 3) := by decide +kernel
theorem dX8_hour_74 : decode cX8_hour 74 = .ok (.istore_n 1, 1) := by decide +kernel
theorem dX8_hour_75 : decode cX8_hour 75 = .ok (.aload_n 0, 1) := by decide +kernel
theorem dX8_hour_76 : decode cX8_hour 76 = .ok (.invokevirtual 182, 3) := by decide +kernel
theorem dX8_hour_79 : decode cX8_hour 79 = .ok (.istore_n 2, 1) := by decide +kernel
theorem dX8_hour_80 : decode cX8_hour 80 = .ok (.iconst 0, 1) := by decide +kernel
theorem dX8_hour_81 : decode cX8_hour 81 = .ok (.istore_n 3, 1) := by decide +kernel
theorem dX8_hour_82 : decode cX8_hour 82 = .ok (.iconst 0, 1) := by decide +kernel
theorem dX8_hour_83 : decode cX8_hour 83 = .ok (.istore 4, 2) := by decide +kernel
theorem dX8_hour_85 : decode cX8_hour 85 = .ok (.iload 4, 2) := by decide +kernel
theorem dX8_hour_87 : decode cX8_hour 87 = .ok (.aload_n 0, 1) := by decide +kernel
theorem dX8_hour_88 : decode cX8_hour 88 = .ok (.getfield 9, 3) := by decide +kernel
theorem dX8_hour_91 : decode cX8_hour 91 = .ok (.bipush 48, 2) := by decide +kernel
theorem dX8_hour_93 : decode cX8_hour 93 = .ok (.iaload, 1) := by decide +kernel
theorem dX8_hour_94 : decode cX8_hour 94 = .ok (.if_icmp .ge 43, 3) := by decide +kernel
theorem dX8_hour_97 : decode cX8_hour 97 = .ok (.iload_n 3, 1) := by decide +kernel
theorem dX8_hour_98 : decode cX8_hour 98 = .ok (.ifCond .ne 27, 3) := by decide +kernel
theorem dX8_hour_101 : decode cX8_hour 101 = .ok (.iload 4, 2) := by decide +kernel
theorem dX8_hour_103 : decode cX8_hour 103 = .ok (.iload_n 2, 1) := by decide +kernel
theorem dX8_hour_104 : decode cX8_hour 104 = .ok (.if_icmp .ge 25, 3) := by decide +kernel
theorem dX8_hour_107 : decode cX8_hour 107 = .ok (.iload_n 1, 1) := by decide +kernel
theorem dX8_hour_108 : decode cX8_hour 108 = .ok (.aload_n 0, 1) := by decide +kernel
theorem dX8_hour_109 : decode cX8_hour 109 = .ok (.getfield 9, 3) := by decide +kernel
theorem dX8_hour_112 : decode cX8_hour 112 = .ok (.bipush 42, 2) := by decide +kernel
theorem dX8_hour_114 : decode cX8_hour 114 = .ok (.iload 4, 2) := by decide +kernel
theorem dX8_hour_116 : decode cX8_hour 116 = .ok (.iadd, 1) := by decide +kernel
theorem dX8_hour_117 : decode cX8_hour 117 = .ok (.iaload, 1) := by decide +kernel
theorem dX8_hour_118 : decode cX8_hour 118 = .ok (.ishr, 1) := by decide +kernel
theorem dX8_hour_119 : decode cX8_hour 119 = .ok (.iconst 1, 1) := by decide +kernel
theorem dX8_hour_120 : decode cX8_hour 120 = .ok (.iand, 1) := by decide +kernel
theorem dX8_hour_121 : decode cX8_hour 121 = .ok (.iconst 1, 1) := by decide +kernel
theorem dX8_hour_122 : decode cX8_hour 122 = .ok (.if_icmp .ne 7, 3) := by decide +kernel
theorem dX8_hour_125 : decode cX8_hour 125 = .ok (.iconst 1, 1) := by decide +kernel
theorem dX8_hour_126 : decode cX8_hour 126 = .ok (.goto 4, 3) := by decide +kernel
theorem dX8_hour_129 : decode cX8_hour 129 = .ok (.iconst 0, 1) := by decide +kernel
theorem dX8_hour_130 : decode cX8_hour 130 = .ok (.istore_n 3, 1) := by decide +kernel
theorem dX8_hour_131 : decode cX8_hour 131 = .ok (.iinc 4 1, 3) := by decide +kernel
theorem dX8_hour_134 : decode cX8_hour 134 = .ok (.goto (-49), 3) := by decide +kernel
theorem dX8_hour_137 : decode cX8_hour 137 = .ok (.aload_n 0, 1) := by decide +kernel
theorem dX8_hour_138 : decode cX8_hour 138 = .ok (.getfield 9, 3) := by decide +kernel
theorem dX8_hour_141 : decode cX8_hour 141 = .ok (.bipush 50, 2) := by decide +kernel
theorem dX8_hour_143 : decode cX8_hour 143 = .ok (.iload_n 3, 1) := by decide +kernel
theorem dX8_hour_144 : decode cX8_hour 144 = .ok (.ifCond .eq 10, 3) := by decide +kernel
theorem dX8_hour_147 : decode cX8_hour 147 = .ok (.aload_n 0, 1) := by decide +kernel
theorem dX8_hour_148 : decode cX8_hour 148 = .ok (.invokevirtual 185, 3) := by decide +kernel
theorem dX8_hour_151 : decode cX8_hour 151 = .ok (.goto 16, 3) := by decide +kernel
theorem dX8_hour_154 : decode cX8_hour 154 = .ok (.iconst 0, 1) := by decide +kernel
theorem dX8_hour_155 : decode cX8_hour 155 = .ok (.aload_n 0, 1) := by decide +kernel
theorem dX8_hour_156 : decode cX8_hour 156 = .ok (.getfield 9, 3) := by decide +kernel
theorem dX8_hour_159 : decode cX8_hour 159 = .ok (.bipush 50, 2) := by decide +kernel
theorem dX8_hour_161 : decode cX8_hour 161 = .ok (.iaload, 1) := by decide +kernel
theorem dX8_hour_162 : decode cX8_hour 162 = .ok (.iconst 1, 1) := by decide +kernel
theorem dX8_hour_163 : decode cX8_hour 163 = .ok (.isub, 1) := by decide +kernel
theorem dX8_hour_164 : decode cX8_hour 164 = .ok (.invokestatic 188, 3) := by decide +kernel
theorem dX8_hour_167 : decode cX8_hour 167 = .ok (.iastore, 1) := by decide +kernel
theorem dX8_hour_168 : decode cX8_hour 168 = .ok (.aload_n 0, 1) := by decide +kernel
theorem dX8_hour_169 : decode cX8_hour 169 = .ok (.getfield 9, 3) := by decide +kernel
theorem dX8_hour_172 : decode cX8_hour 172 = .ok (.bipush 51, 2) := by decide +kernel
theorem dX8_hour_174 : decode cX8_hour 174 = .ok (.dup2, 1) := by decide +kernel
theorem dX8_hour_175 : decode cX8_hour 175 = .ok (.iaload, 1) := by decide +kernel
theorem dX8_hour_176 : decode cX8_hour 176 = .ok (.iload_n 3, 1) := by decide +kernel
theorem dX8_hour_177 : decode cX8_hour 177 = .ok (.ifCond .eq 7, 3) := by decide +kernel
theorem dX8_hour_180 : decode cX8_hour 180 = .ok (.iconst 1, 1) := by decide +kernel
theorem dX8_hour_181 : decode cX8_hour 181 = .ok (.goto 4, 3) := by decide +kernel
theorem dX8_hour_184 : decode cX8_hour 184 = .ok (.iconst 0, 1) := by decide +kernel
theorem dX8_hour_185 : decode cX8_hour 185 = .ok (.iadd, 1) := by decide +kernel
theorem dX8_hour_186 : decode cX8_hour 186 = .ok (.iastore, 1) := by decide +kernel
theorem dX8_hour_187 : decode cX8_hour 187 = .ok (.iconst 0, 1) := by decide +kernel
theorem dX8_hour_188 : decode cX8_hour 188 = .ok (.istore 4, 2) := by decide +kernel
theorem dX8_hour_190 : decode cX8_hour 190 = .ok (.iload 4, 2) := by decide +kernel
theorem dX8_hour_192 : decode cX8_hour 192 = .ok (.aload_n 0, 1) := by decide +kernel
theorem dX8_hour_193 : decode cX8_hour 193 = .ok (.getfield 9, 3) := by decide +kernel
theorem dX8_hour_196 : decode cX8_hour 196 = .ok (.bipush 48, 2) := by decide +kernel
theorem dX8_hour_198 : decode cX8_hour 198 = .ok (.iaload, 1) := by decide +kernel
theorem dX8_hour_199 : decode cX8_hour 199 = .ok (.if_icmp .ge 57, 3) := by decide +kernel
theorem dX8_hour_202 : decode cX8_hour 202 = .ok (.aload_n 0, 1) := by decide +kernel
theorem dX8_hour_203 : decode cX8_hour 203 = .ok (.getfield 9, 3) := by decide +kernel
theorem dX8_hour_206 : decode cX8_hour 206 = .ok (.bipush 42, 2) := by decide +kernel
theorem dX8_hour_208 : decode cX8_hour 208 = .ok (.iload 4, 2) := by decide +kernel
theorem dX8_hour_210 : decode cX8_hour 210 = .ok (.iadd, 1) := by decide +kernel
theorem dX8_hour_211 : decode cX8_hour 211 = .ok (.iaload, 1) := by decide +kernel
theorem dX8_hour_212 : decode cX8_hour 212 = .ok (.istore 5, 2) := by decide +kernel
theorem dX8_hour_214 : decode cX8_hour 214 = .ok (.aload_n 0, 1) := by decide +kernel
theorem dX8_hour_215 : decode cX8_hour 215 = .ok (.iload 5, 2) := by decide +kernel
theorem dX8_hour_217 : decode cX8_hour 217 = .ok (.iconst 2, 1) := by decide +kernel
theorem dX8_hour_218 : decode cX8_hour 218 = .ok (.iload_n 1, 1) := by decide +kernel
theorem dX8_hour_219 : decode cX8_hour 219 = .ok (.iload 5, 2) := by decide +kernel
theorem dX8_hour_221 : decode cX8_hour 221 = .ok (.ishr, 1) := by decide +kernel
theorem dX8_hour_222 : decode cX8_hour 222 = .ok (.iconst 1, 1) := by decide +kernel
theorem dX8_hour_223 : decode cX8_hour 223 = .ok (.iand, 1) := by decide +kernel
theorem dX8_hour_224 : decode cX8_hour 224 = .ok (.iconst 1, 1) := by decide +kernel
theorem dX8_hour_225 : decode cX8_hour 225 = .ok (.if_icmp .ne 7, 3) := by decide +kernel
theorem dX8_hour_228 : decode cX8_hour 228 = .ok (.iconst 0, 1) := by decide +kernel
theorem dX8_hour_229 : decode cX8_hour 229 = .ok (.goto 17, 3) := by decide +kernel
theorem dX8_hour_232 : decode cX8_hour 232 = .ok (.bipush 9, 2) := by decide +kernel
theorem dX8_hour_234 : decode cX8_hour 234 = .ok (.aload_n 0, 1) := by decide +kernel
theorem dX8_hour_235 : decode cX8_hour 235 = .ok (.iload 5, 2) := by decide +kernel
theorem dX8_hour_237 : decode cX8_hour 237 = .ok (.iconst 2, 1) := by decide +kernel
theorem dX8_hour_238 : decode cX8_hour 238 = .ok (.invokevirtual 81, 3) := by decide +kernel
theorem dX8_hour_241 : decode cX8_hour 241 = .ok (.iconst 1, 1) := by decide +kernel
theorem dX8_hour_242 : decode cX8_hour 242 = .ok (.iadd, 1) := by decide +kernel
theorem dX8_hour_243 : decode cX8_hour 243 = .ok (.invokestatic 193, 3) := by decide +kernel
theorem dX8_hour_246 : decode cX8_hour 246 = .ok (.invokevirtual 89, 3) := by decide +kernel
theorem dX8_hour_249 : decode cX8_hour 249 = .ok (.pop, 1) := by decide +kernel
theorem dX8_hour_250 : decode cX8_hour 250 = .ok (.iinc 4 1, 3) := by decide +kernel
theorem dX8_hour_253 : decode cX8_hour 253 = .ok (.goto (-63), 3) := by decide +kernel
theorem dX8_hour_256 : decode cX8_hour 256 = .ok (.aload_n 0, 1) := by decide +kernel
theorem dX8_hour_257 : decode cX8_hour 257 = .ok (.getfield 9, 3) := by decide +kernel
theorem dX8_hour_260 : decode cX8_hour 260 = .ok (.bipush 52, 2) := by decide +kernel
theorem dX8_hour_262 : decode cX8_hour 262 = .ok (.dup2, 1) := by decide +kernel
theorem dX8_hour_263 : decode cX8_hour 263 = .ok (.iaload, 1) := by decide +kernel
theorem dX8_hour_264 : decode cX8_hour 264 = .ok (.iconst 1, 1) := by decide +kernel
theorem dX8_hour_265 : decode cX8_hour 265 = .ok (.iadd, 1) := by decide +kernel
theorem dX8_hour_266 : decode cX8_hour 266 = .ok (.iastore, 1) := by decide +kernel
theorem dX8_hour_267 : decode cX8_hour 267 = .ok (.return_, 1) := by decide +kernel
theorem dX8_hours_0 : decode cX8_hours 0 = .ok (.iconst 0, 1) := by decide +kernel
theorem dX8_hours_1 : decode cX8_hours 1 = .ok (.istore_n 2, 1) := by decide +kernel
theorem dX8_hours_2 : decode cX8_hours 2 = .ok (.iload_n 2, 1) := by decide +kernel
theorem dX8_hours_3 : decode cX8_hours 3 = .ok (.iload_n 1, 1) := by decide +kernel
theorem dX8_hours_4 : decode cX8_hours 4 = .ok (.if_icmp .ge 13, 3) := by decide +kernel
theorem dX8_hours_7 : decode cX8_hours 7 = .ok (.aload_n 0, 1) := by decide +kernel
theorem dX8_hours_8 : decode cX8_hours 8 = .ok (.invokevirtual 196, 3) := by decide +kernel
theorem dX8_hours_11 : decode cX8_hours 11 = .ok (.iinc 2 1, 3) := by decide +kernel
theorem dX8_hours_14 : decode cX8_hours 14 = .ok (.goto (-12), 3) := by decide +kernel
theorem dX8_hours_17 : decode cX8_hours 17 = .ok (.return_, 1) := by decide +kernel
theorem dX8_ins_0 : decode cX8_ins 0 = .ok (.aload_n 0, 1) := by decide +kernel
theorem dX8_ins_1 : decode cX8_ins 1 = .ok (.getfield 9, 3) := by decide +kernel
theorem dX8_ins_4 : decode cX8_ins 4 = .ok (.bipush 49, 2) := by decide +kernel
theorem dX8_ins_6 : decode cX8_ins 6 = .ok (.iaload, 1) := by decide +kernel
theorem dX8_ins_7 : decode cX8_ins 7 = .ok (.aload_n 0, 1) := by decide +kernel
theorem dX8_ins_8 : decode cX8_ins 8 = .ok (.getfield 9, 3) := by decide +kernel
theorem dX8_ins_11 : decode cX8_ins 11 = .ok (.bipush 48, 2) := by decide +kernel
theorem dX8_ins_13 : decode cX8_ins 13 = .ok (.iaload, 1) := by decide +kernel
theorem dX8_ins_14 : decode cX8_ins 14 = .ok (.isub, 1) := by decide +kernel
theorem dX8_ins_15 : decode cX8_ins 15 = .ok (.ireturn, 1) := by decide +kernel
theorem dX8_gets_0 : decode cX8_gets 0 = .ok (.aload_n 0, 1) := by decide +kernel
theorem dX8_gets_1 : decode cX8_gets 1 = .ok (.getfield 9, 3) := by decide +kernel
theorem dX8_gets_4 : decode cX8_gets 4 = .ok (.aload_n 0, 1) := by decide +kernel
theorem dX8_gets_5 : decode cX8_gets 5 = .ok (.getfield 15, 3) := by decide +kernel
theorem dX8_gets_8 : decode cX8_gets 8 = .ok (.invokestatic 73, 3) := by decide +kernel
theorem dX8_gets_11 : decode cX8_gets 11 = .ok (.bipush (-5), 2) := by decide +kernel
theorem dX8_gets_13 : decode cX8_gets 13 = .ok (.istore_n 2, 1) := by decide +kernel
theorem dX8_gets_14 : decode cX8_gets 14 = .ok (.iconst 0, 1) := by decide +kernel
theorem dX8_gets_15 : decode cX8_gets 15 = .ok (.istore_n 3, 1) := by decide +kernel
theorem dX8_gets_16 : decode cX8_gets 16 = .ok (.iload_n 3, 1) := by decide +kernel
theorem dX8_gets_17 : decode cX8_gets 17 = .ok (.bipush 60, 2) := by decide +kernel
theorem dX8_gets_19 : decode cX8_gets 19 = .ok (.if_icmp .gt 34, 3) := by decide +kernel
theorem dX8_gets_22 : decode cX8_gets 22 = .ok (.iload_n 2, 1) := by decide +kernel
theorem dX8_gets_23 : decode cX8_gets 23 = .ok (.bipush (-5), 2) := by decide +kernel
theorem dX8_gets_25 : decode cX8_gets 25 = .ok (.if_icmp .ne 28, 3) := by decide +kernel
theorem dX8_gets_28 : decode cX8_gets 28 = .ok (.aload_n 0, 1) := by decide +kernel
theorem dX8_gets_29 : decode cX8_gets 29 = .ok (.iload_n 1, 1) := by decide +kernel
theorem dX8_gets_30 : decode cX8_gets 30 = .ok (.invokevirtual 101, 3) := by decide +kernel
theorem dX8_gets_33 : decode cX8_gets 33 = .ok (.ifCond .eq 8, 3) := by decide +kernel
theorem dX8_gets_36 : decode cX8_gets 36 = .ok (.bipush (-5), 2) := by decide +kernel
theorem dX8_gets_38 : decode cX8_gets 38 = .ok (.goto 4, 3) := by decide +kernel
theorem dX8_gets_41 : decode cX8_gets 41 = .ok (.iload_n 3, 1) := by decide +kernel
theorem dX8_gets_42 : decode cX8_gets 42 = .ok (.istore_n 2, 1) := by decide +kernel
theorem dX8_gets_43 : decode cX8_gets 43 = .ok (.aload_n 0, 1) := by decide +kernel
theorem dX8_gets_44 : decode cX8_gets 44 = .ok (.invokevirtual 196, 3) := by decide +kernel
theorem dX8_gets_47 : decode cX8_gets 47 = .ok (.iinc 3 1, 3) := by decide +kernel
theorem dX8_gets_50 : decode cX8_gets 50 = .ok (.goto (-34), 3) := by decide +kernel
theorem dX8_gets_53 : decode cX8_gets 53 = .ok (.aload_n 0, 1) := by decide +kernel
theorem dX8_gets_54 : decode cX8_gets 54 = .ok (.getfield 15, 3) := by decide +kernel
theorem dX8_gets_57 : decode cX8_gets 57 = .ok (.aload_n 0, 1) := by decide +kernel
theorem dX8_gets_58 : decode cX8_gets 58 = .ok (.getfield 9, 3) := by decide +kernel
theorem dX8_gets_61 : decode cX8_gets 61 = .ok (.invokestatic 73, 3) := by decide +kernel
theorem dX8_gets_64 : decode cX8_gets 64 = .ok (.iload_n 2, 1) := by decide +kernel
theorem dX8_gets_65 : decode cX8_gets 65 = .ok (.ireturn, 1) := by decide +kernel
theorem dX8_many_0 : decode cX8_many 0 = .ok (.iconst 0, 1) := by decide +kernel
theorem dX8_many_1 : decode cX8_many 1 = .ok (.istore_n 1, 1) := by decide +kernel
theorem dX8_many_2 : decode cX8_many 2 = .ok (.iconst 0, 1) := by decide +kernel
theorem dX8_many_3 : decode cX8_many 3 = .ok (.istore_n 2, 1) := by decide +kernel
theorem dX8_many_4 : decode cX8_many 4 = .ok (.iload_n 2, 1) := by decide +kernel
theorem dX8_many_5 : decode cX8_many 5 = .ok (.bipush 6, 2) := by decide +kernel
theorem dX8_many_7 : decode cX8_many 7 = .ok (.if_icmp .ge 17, 3) := by decide +kernel
theorem dX8_many_10 : decode cX8_many 10 = .ok (.iload_n 1, 1) := by decide +kernel
theorem dX8_many_11 : decode cX8_many 11 = .ok (.iload_n 0, 1) := by decide +kernel
theorem dX8_many_12 : decode cX8_many 12 = .ok (.iload_n 2, 1) := by decide +kernel
theorem dX8_many_13 : decode cX8_many 13 = .ok (.ishr, 1) := by decide +kernel
theorem dX8_many_14 : decode cX8_many 14 = .ok (.iconst 1, 1) := by decide +kernel
theorem dX8_many_15 : decode cX8_many 15 = .ok (.iand, 1) := by decide +kernel
theorem dX8_many_16 : decode cX8_many 16 = .ok (.iadd, 1) := by decide +kernel
theorem dX8_many_17 : decode cX8_many 17 = .ok (.istore_n 1, 1) := by decide +kernel
theorem dX8_many_18 : decode cX8_many 18 = .ok (.iinc 2 1, 3) := by decide +kernel
theorem dX8_many_21 : decode cX8_many 21 = .ok (.goto (-17), 3) := by decide +kernel
theorem dX8_many_24 : decode cX8_many 24 = .ok (.iload_n 1, 1) := by decide +kernel
theorem dX8_many_25 : decode cX8_many 25 = .ok (.ireturn, 1) := by decide +kernel
theorem dX8_spark_0 : decode cX8_spark 0 = .ok (.bipush (-5), 2) := by decide +kernel
theorem dX8_spark_2 : decode cX8_spark 2 = .ok (.istore_n 2, 1) := by decide +kernel
theorem dX8_spark_3 : decode cX8_spark 3 = .ok (.iconst (-1), 1) := by decide +kernel
theorem dX8_spark_4 : decode cX8_spark 4 = .ok (.istore_n 3, 1) := by decide +kernel
theorem dX8_spark_5 : decode cX8_spark 5 = .ok (.iconst 0, 1) := by decide +kernel
theorem dX8_spark_6 : decode cX8_spark 6 = .ok (.istore 4, 2) := by decide +kernel
theorem dX8_spark_8 : decode cX8_spark 8 = .ok (.iload 4, 2) := by decide +kernel
theorem dX8_spark_10 : decode cX8_spark 10 = .ok (.aload_n 0, 1) := by decide +kernel
theorem dX8_spark_11 : decode cX8_spark 11 = .ok (.getfield 9, 3) := by decide +kernel
theorem dX8_spark_14 : decode cX8_spark 14 = .ok (.bipush 49, 2) := by decide +kernel
theorem dX8_spark_16 : decode cX8_spark 16 = .ok (.iaload, 1) := by decide +kernel
theorem dX8_spark_17 : decode cX8_spark 17 = .ok (.if_icmp .ge 68, 3) := by decide +kernel
theorem dX8_spark_20 : decode cX8_spark 20 = .ok (.aload_n 0, 1) := by decide +kernel
theorem dX8_spark_21 : decode cX8_spark 21 = .ok (.iload 4, 2) := by decide +kernel
theorem dX8_spark_23 : decode cX8_spark 23 = .ok (.invokevirtual 101, 3) := by decide +kernel
theorem dX8_spark_26 : decode cX8_spark 26 = .ok (.ifCond .eq 53, 3) := by decide +kernel
theorem dX8_spark_29 : decode cX8_spark 29 = .ok (.aload_n 0, 1) := by decide +kernel
theorem dX8_spark_30 : decode cX8_spark 30 = .ok (.iload 4, 2) := by decide +kernel
theorem dX8_spark_32 : decode cX8_spark 32 = .ok (.iconst 2, 1) := by decide +kernel
theorem dX8_spark_33 : decode cX8_spark 33 = .ok (.bipush 9, 2) := by decide +kernel
theorem dX8_spark_35 : decode cX8_spark 35 = .ok (.invokevirtual 89, 3) := by decide +kernel
theorem dX8_spark_38 : decode cX8_spark 38 = .ok (.istore 5, 2) := by decide +kernel
theorem dX8_spark_40 : decode cX8_spark 40 = .ok (.aload_n 0, 1) := by decide +kernel
theorem dX8_spark_41 : decode cX8_spark 41 = .ok (.invokevirtual 104, 3) := by decide +kernel
theorem dX8_spark_44 : decode cX8_spark 44 = .ok (.invokestatic 199, 3) := by decide +kernel
theorem dX8_spark_47 : decode cX8_spark 47 = .ok (.istore 6, 2) := by decide +kernel
theorem dX8_spark_49 : decode cX8_spark 49 = .ok (.aload_n 0, 1) := by decide +kernel
theorem dX8_spark_50 : decode cX8_spark 50 = .ok (.iload 4, 2) := by decide +kernel
theorem dX8_spark_52 : decode cX8_spark 52 = .ok (.iconst 2, 1) := by decide +kernel
theorem dX8_spark_53 : decode cX8_spark 53 = .ok (.iload 5, 2) := by decide +kernel
theorem dX8_spark_55 : decode cX8_spark 55 = .ok (.invokevirtual 89, 3) := by decide +kernel
theorem dX8_spark_58 : decode cX8_spark 58 = .ok (.pop, 1) := by decide +kernel
theorem dX8_spark_59 : decode cX8_spark 59 = .ok (.iload 6, 2) := by decide +kernel
theorem dX8_spark_61 : decode cX8_spark 61 = .ok (.iload_n 3, 1) := by decide +kernel
theorem dX8_spark_62 : decode cX8_spark 62 = .ok (.if_icmp .le 8, 3) := by decide +kernel
theorem dX8_spark_65 : decode cX8_spark 65 = .ok (.iload 4, 2) := by decide +kernel
theorem dX8_spark_67 : decode cX8_spark 67 = .ok (.goto 4, 3) := by decide +kernel
theorem dX8_spark_70 : decode cX8_spark 70 = .ok (.iload_n 2, 1) := by decide +kernel
theorem dX8_spark_71 : decode cX8_spark 71 = .ok (.istore_n 2, 1) := by decide +kernel
theorem dX8_spark_72 : decode cX8_spark 72 = .ok (.iload 6, 2) := by decide +kernel
theorem dX8_spark_74 : decode cX8_spark 74 = .ok (.iload_n 3, 1) := by decide +kernel
theorem dX8_spark_75 : decode cX8_spark 75 = .ok (.invokestatic 188, 3) := by decide +kernel
theorem dX8_spark_78 : decode cX8_spark 78 = .ok (.istore_n 3, 1) := by decide +kernel
theorem dX8_spark_79 : decode cX8_spark 79 = .ok (.iinc 4 1, 3) := by decide +kernel
theorem dX8_spark_82 : decode cX8_spark 82 = .ok (.goto (-74), 3) := by decide +kernel
theorem dX8_spark_85 : decode cX8_spark 85 = .ok (.iload_n 1, 1) := by decide +kernel
theorem dX8_spark_86 : decode cX8_spark 86 = .ok (.ifCond .eq 11, 3) := by decide +kernel
theorem dX8_spark_89 : decode cX8_spark 89 = .ok (.iconst 0, 1) := by decide +kernel
theorem dX8_spark_90 : decode cX8_spark 90 = .ok (.iload_n 3, 1) := by decide +kernel
theorem dX8_spark_91 : decode cX8_spark 91 = .ok (.invokestatic 188, 3) := by decide +kernel
theorem dX8_spark_94 : decode cX8_spark 94 = .ok (.goto 4, 3) := by decide +kernel
theorem dX8_spark_97 : decode cX8_spark 97 = .ok (.iload_n 2, 1) := by decide +kernel
theorem dX8_spark_98 : decode cX8_spark 98 = .ok (.ireturn, 1) := by decide +kernel
theorem dX8_hush_0 : decode cX8_hush 0 = .ok (.iconst 0, 1) := by decide +kernel
theorem dX8_hush_1 : decode cX8_hush 1 = .ok (.istore_n 1, 1) := by decide +kernel
theorem dX8_hush_2 : decode cX8_hush 2 = .ok (.iconst 0, 1) := by decide +kernel
theorem dX8_hush_3 : decode cX8_hush 3 = .ok (.istore_n 2, 1) := by decide +kernel
theorem dX8_hush_4 : decode cX8_hush 4 = .ok (.iload_n 2, 1) := by decide +kernel
theorem dX8_hush_5 : decode cX8_hush 5 = .ok (.aload_n 0, 1) := by decide +kernel
theorem dX8_hush_6 : decode cX8_hush 6 = .ok (.getfield 9, 3) := by decide +kernel
theorem dX8_hush_9 : decode cX8_hush 9 = .ok (.bipush 48, 2) := by decide +kernel
theorem dX8_hush_11 : decode cX8_hush 11 = .ok (.iaload, 1) := by decide +kernel
theorem dX8_hush_12 : decode cX8_hush 12 = .ok (.if_icmp .ge 23, 3) := by decide +kernel
theorem dX8_hush_15 : decode cX8_hush 15 = .ok (.iload_n 1, 1) := by decide +kernel
theorem dX8_hush_16 : decode cX8_hush 16 = .ok (.iconst 1, 1) := by decide +kernel
theorem dX8_hush_17 : decode cX8_hush 17 = .ok (.aload_n 0, 1) := by decide +kernel
theorem dX8_hush_18 : decode cX8_hush 18 = .ok (.getfield 9, 3) := by decide +kernel
theorem dX8_hush_21 : decode cX8_hush 21 = .ok (.bipush 42, 2) := by decide +kernel
theorem dX8_hush_23 : decode cX8_hush 23 = .ok (.iload_n 2, 1) := by decide +kernel
theorem dX8_hush_24 : decode cX8_hush 24 = .ok (.iadd, 1) := by decide +kernel
theorem dX8_hush_25 : decode cX8_hush 25 = .ok (.iaload, 1) := by decide +kernel
theorem dX8_hush_26 : decode cX8_hush 26 = .ok (.ishl, 1) := by decide +kernel
theorem dX8_hush_27 : decode cX8_hush 27 = .ok (.ior, 1) := by decide +kernel
theorem dX8_hush_28 : decode cX8_hush 28 = .ok (.istore_n 1, 1) := by decide +kernel
theorem dX8_hush_29 : decode cX8_hush 29 = .ok (.iinc 2 1, 3) := by decide +kernel
theorem dX8_hush_32 : decode cX8_hush 32 = .ok (.goto (-28), 3) := by decide +kernel
theorem dX8_hush_35 : decode cX8_hush 35 = .ok (.bipush (-5), 2) := by decide +kernel
theorem dX8_hush_37 : decode cX8_hush 37 = .ok (.istore_n 2, 1) := by decide +kernel
theorem dX8_hush_38 : decode cX8_hush 38 = .ok (.iconst 0, 1) := by decide +kernel
theorem dX8_hush_39 : decode cX8_hush 39 = .ok (.istore_n 3, 1) := by decide +kernel
theorem dX8_hush_40 : decode cX8_hush 40 = .ok (.iload_n 3, 1) := by decide +kernel
theorem dX8_hush_41 : decode cX8_hush 41 = .ok (.iconst 1, 1) := by decide +kernel
theorem dX8_hush_42 : decode cX8_hush 42 = .ok (.aload_n 0, 1) := by decide +kernel
theorem dX8_hush_43 : decode cX8_hush 43 = .ok (.getfield 9, 3) := by decide +kernel
theorem dX8_hush_46 : decode cX8_hush 46 = .ok (.bipush 49, 2) := by decide +kernel
theorem dX8_hush_48 : decode cX8_hush 48 = .ok (.iaload, 1) := by decide +kernel
theorem dX8_hush_49 : decode cX8_hush 49 = .ok (.ishl, 1) := by decide +kernel
theorem dX8_hush_50 : decode cX8_hush 50 = .ok (.if_icmp .ge 137, 3) := by decide +kernel
theorem dX8_hush_53 : decode cX8_hush 53 = .ok (.iload_n 3, 1) := by decide +kernel
theorem dX8_hush_54 : decode cX8_hush 54 = .ok (.iload_n 1, 1) := by decide +kernel
theorem dX8_hush_55 : decode cX8_hush 55 = .ok (.iconst (-1), 1) := by decide +kernel
theorem dX8_hush_56 : decode cX8_hush 56 = .ok (.ixor, 1) := by decide +kernel
theorem dX8_hush_57 : decode cX8_hush 57 = .ok (.iand, 1) := by decide +kernel
theorem dX8_hush_58 : decode cX8_hush 58 = .ok (.ifCond .ne 123, 3) := by decide +kernel
theorem dX8_hush_61 : decode cX8_hush 61 = .ok (.iload_n 2, 1) := by decide +kernel
theorem dX8_hush_62 : decode cX8_hush 62 = .ok (.bipush (-5), 2) := by decide +kernel
theorem dX8_hush_64 : decode cX8_hush 64 = .ok (.if_icmp .eq 14, 3) := by decide +kernel
theorem dX8_hush_67 : decode cX8_hush 67 = .ok (.iload_n 3, 1) := by decide +kernel
theorem dX8_hush_68 : decode cX8_hush 68 = .ok (.invokestatic 199, 3) := by decide +kernel
theorem dX8_hush_71 : decode cX8_hush 71 = .ok (.iload_n 2, 1) := by decide +kernel
theorem dX8_hush_72 : decode cX8_hush 72 = .ok (.invokestatic 199, 3) := by decide +kernel
theorem dX8_hush_75 : decode cX8_hush 75 = .ok (.if_icmp .ge 106, 3) := by decide +kernel
theorem dX8_hush_78 : decode cX8_hush 78 = .ok (.aload_n 0, 1) := by decide +kernel
theorem dX8_hush_79 : decode cX8_hush 79 = .ok (.getfield 9, 3) := by decide +kernel
theorem dX8_hush_82 : decode cX8_hush 82 = .ok (.aload_n 0, 1) := by decide +kernel
theorem dX8_hush_83 : decode cX8_hush 83 = .ok (.getfield 15, 3) := by decide +kernel
theorem dX8_hush_86 : decode cX8_hush 86 = .ok (.invokestatic 73, 3) := by decide +kernel
theorem dX8_hush_89 : decode cX8_hush 89 = .ok (.iconst 0, 1) := by decide +kernel
theorem dX8_hush_90 : decode cX8_hush 90 = .ok (.istore 4, 2) := by decide +kernel
theorem dX8_hush_92 : decode cX8_hush 92 = .ok (.iload 4, 2) := by decide +kernel
theorem dX8_hush_94 : decode cX8_hush 94 = .ok (.aload_n 0, 1) := by decide +kernel
theorem dX8_hush_95 : decode cX8_hush 95 = .ok (.getfield 9, 3) := by decide +kernel
theorem dX8_hush_98 : decode cX8_hush 98 = .ok (.bipush 49, 2) := by decide +kernel
theorem dX8_hush_100 : decode cX8_hush 100 = .ok (.iaload, 1) := by decide +kernel
theorem dX8_hush_101 : decode cX8_hush 101 = .ok (.if_icmp .ge 38, 3) := by decide +kernel
theorem dX8_hush_104 : decode cX8_hush 104 = .ok (.aload_n 0, 1) := by decide +kernel
theorem dX8_hush_105 : decode cX8_hush 105 = .ok (.iload 4, 2) := by decide +kernel
theorem dX8_hush_107 : decode cX8_hush 107 = .ok (.iconst 2, 1) := by decide +kernel
theorem dX8_hush_108 : decode cX8_hush 108 = .ok (.iload_n 3, 1) := by decide +kernel
theorem dX8_hush_109 : decode cX8_hush 109 = .ok (.iload 4, 2) := by decide +kernel
theorem dX8_hush_111 : decode cX8_hush 111 = .ok (.ishr, 1) := by decide +kernel
theorem dX8_hush_112 : decode cX8_hush 112 = .ok (.iconst 1, 1) := by decide +kernel
theorem dX8_hush_113 : decode cX8_hush 113 = .ok (.iand, 1) := by decide +kernel
theorem dX8_hush_114 : decode cX8_hush 114 = .ok (.iconst 1, 1) := by decide +kernel
theorem dX8_hush_115 : decode cX8_hush 115 = .ok (.if_icmp .ne 7, 3) := by decide +kernel
theorem dX8_hush_118 : decode cX8_hush 118 = .ok (.iconst 0, 1) := by decide +kernel
theorem dX8_hush_119 : decode cX8_hush 119 = .ok (.goto 10, 3) := by decide +kernel
theorem dX8_hush_122 : decode cX8_hush 122 = .ok (.aload_n 0, 1) := by decide +kernel
theorem dX8_hush_123 : decode cX8_hush 123 = .ok (.iload 4, 2) := by decide +kernel
theorem dX8_hush_125 : decode cX8_hush 125 = .ok (.iconst 2, 1) := by decide +kernel
theorem dX8_hush_126 : decode cX8_hush 126 = .ok (.invokevirtual 81, 3) := by decide +kernel
theorem dX8_hush_129 : decode cX8_hush 129 = .ok (.invokevirtual 89, 3) := by decide +kernel
theorem dX8_hush_132 : decode cX8_hush 132 = .ok (.pop, 1) := by decide +kernel
theorem dX8_hush_133 : decode cX8_hush 133 = .ok (.iinc 4 1, 3) := by decide +kernel
theorem dX8_hush_136 : decode cX8_hush 136 = .ok (.goto (-44), 3) := by decide +kernel
theorem dX8_hush_139 : decode cX8_hush 139 = .ok (.aload_n 0, 1) := by decide +kernel
theorem dX8_hush_140 : decode cX8_hush 140 = .ok (.getfield 9, 3) := by decide +kernel
theorem dX8_hush_143 : decode cX8_hush 143 = .ok (.bipush 51, 2) := by decide +kernel
theorem dX8_hush_145 : decode cX8_hush 145 = .ok (.iaload, 1) := by decide +kernel
theorem dX8_hush_146 : decode cX8_hush 146 = .ok (.istore 4, 2) := by decide +kernel
theorem dX8_hush_148 : decode cX8_hush 148 = .ok (.aload_n 0, 1) := by decide +kernel
theorem dX8_hush_149 : decode cX8_hush 149 = .ok (.invokevirtual 196, 3) := by decide +kernel
theorem dX8_hush_152 : decode cX8_hush 152 = .ok (.aload_n 0, 1) := by decide +kernel
theorem dX8_hush_153 : decode cX8_hush 153 = .ok (.getfield 9, 3) := by decide +kernel
theorem dX8_hush_156 : decode cX8_hush 156 = .ok (.bipush 51, 2) := by decide +kernel
theorem dX8_hush_158 : decode cX8_hush 158 = .ok (.iaload, 1) := by decide +kernel
theorem dX8_hush_159 : decode cX8_hush 159 = .ok (.iload 4, 2) := by decide +kernel
theorem dX8_hush_161 : decode cX8_hush 161 = .ok (.if_icmp .ne 7, 3) := by decide +kernel
theorem dX8_hush_164 : decode cX8_hush 164 = .ok (.iload_n 3, 1) := by decide +kernel
theorem dX8_hush_165 : decode cX8_hush 165 = .ok (.goto 4, 3) := by decide +kernel
theorem dX8_hush_168 : decode cX8_hush 168 = .ok (.iload_n 2, 1) := by decide +kernel
theorem dX8_hush_169 : decode cX8_hush 169 = .ok (.istore_n 2, 1) := by decide +kernel
theorem dX8_hush_170 : decode cX8_hush 170 = .ok (.aload_n 0, 1) := by decide +kernel
theorem dX8_hush_171 : decode cX8_hush 171 = .ok (.getfield 15, 3) := by decide +kernel
theorem dX8_hush_174 : decode cX8_hush 174 = .ok (.aload_n 0, 1) := by decide +kernel
theorem dX8_hush_175 : decode cX8_hush 175 = .ok (.getfield 9, 3) := by decide +kernel
theorem dX8_hush_178 : decode cX8_hush 178 = .ok (.invokestatic 73, 3) := by decide +kernel
theorem dX8_hush_181 : decode cX8_hush 181 = .ok (.iinc 3 1, 3) := by decide +kernel
theorem dX8_hush_184 : decode cX8_hush 184 = .ok (.goto (-144), 3) := by decide +kernel
theorem dX8_hush_187 : decode cX8_hush 187 = .ok (.iload_n 2, 1) := by decide +kernel
theorem dX8_hush_188 : decode cX8_hush 188 = .ok (.ireturn, 1) := by decide +kernel
theorem dX8_told_0 : decode cX8_told 0 = .ok (.iload_n 1, 1) := by decide +kernel
theorem dX8_told_1 : decode cX8_told 1 = .ok (.tableswitch 116 0 9 #[55, 63, 68, 73, 81, 89, 94, 100, 106, 111], 55) := by decide +kernel
theorem dX8_told_56 : decode cX8_told 56 = .ok (.aload_n 0, 1) := by decide +kernel
theorem dX8_told_57 : decode cX8_told 57 = .ok (.getfield 9, 3) := by decide +kernel
theorem dX8_told_60 : decode cX8_told 60 = .ok (.bipush 52, 2) := by decide +kernel
theorem dX8_told_62 : decode cX8_told 62 = .ok (.iaload, 1) := by decide +kernel
theorem dX8_told_63 : decode cX8_told 63 = .ok (.ireturn, 1) := by decide +kernel
theorem dX8_told_64 : decode cX8_told 64 = .ok (.aload_n 0, 1) := by decide +kernel
theorem dX8_told_65 : decode cX8_told 65 = .ok (.invokevirtual 182, 3) := by decide +kernel
theorem dX8_told_68 : decode cX8_told 68 = .ok (.ireturn, 1) := by decide +kernel
theorem dX8_told_69 : decode cX8_told 69 = .ok (.aload_n 0, 1) := by decide +kernel
theorem dX8_told_70 : decode cX8_told 70 = .ok (.invokevirtual 185, 3) := by decide +kernel
theorem dX8_told_73 : decode cX8_told 73 = .ok (.ireturn, 1) := by decide +kernel
theorem dX8_told_74 : decode cX8_told 74 = .ok (.aload_n 0, 1) := by decide +kernel
theorem dX8_told_75 : decode cX8_told 75 = .ok (.getfield 9, 3) := by decide +kernel
theorem dX8_told_78 : decode cX8_told 78 = .ok (.bipush 50, 2) := by decide +kernel
theorem dX8_told_80 : decode cX8_told 80 = .ok (.iaload, 1) := by decide +kernel
theorem dX8_told_81 : decode cX8_told 81 = .ok (.ireturn, 1) := by decide +kernel
theorem dX8_told_82 : decode cX8_told 82 = .ok (.aload_n 0, 1) := by decide +kernel
theorem dX8_told_83 : decode cX8_told 83 = .ok (.getfield 9, 3) := by decide +kernel
theorem dX8_told_86 : decode cX8_told 86 = .ok (.bipush 51, 2) := by decide +kernel
theorem dX8_told_88 : decode cX8_told 88 = .ok (.iaload, 1) := by decide +kernel
theorem dX8_told_89 : decode cX8_told 89 = .ok (.ireturn, 1) := by decide +kernel
theorem dX8_told_90 : decode cX8_told 90 = .ok (.aload_n 0, 1) := by decide +kernel
theorem dX8_told_91 : decode cX8_told 91 = .ok (.invokevirtual 104, 3) := by decide +kernel
theorem dX8_told_94 : decode cX8_told 94 = .ok (.ireturn, 1) := by decide +kernel
theorem dX8_told_95 : decode cX8_told 95 = .ok (.aload_n 0, 1) := by decide +kernel
theorem dX8_told_96 : decode cX8_told 96 = .ok (.iconst 0, 1) := by decide +kernel
theorem dX8_told_97 : decode cX8_told 97 = .ok (.invokevirtual 202, 3) := by decide +kernel
theorem dX8_told_100 : decode cX8_told 100 = .ok (.ireturn, 1) := by decide +kernel
theorem dX8_told_101 : decode cX8_told 101 = .ok (.aload_n 0, 1) := by decide +kernel
theorem dX8_told_102 : decode cX8_told 102 = .ok (.iconst 1, 1) := by decide +kernel
theorem dX8_told_103 : decode cX8_told 103 = .ok (.invokevirtual 202, 3) := by decide +kernel
theorem dX8_told_106 : decode cX8_told 106 = .ok (.ireturn, 1) := by decide +kernel
theorem dX8_told_107 : decode cX8_told 107 = .ok (.aload_n 0, 1) := by decide +kernel
theorem dX8_told_108 : decode cX8_told 108 = .ok (.invokevirtual 206, 3) := by decide +kernel
theorem dX8_told_111 : decode cX8_told 111 = .ok (.ireturn, 1) := by decide +kernel
theorem dX8_told_112 : decode cX8_told 112 = .ok (.aload_n 0, 1) := by decide +kernel
theorem dX8_told_113 : decode cX8_told 113 = .ok (.invokevirtual 209, 3) := by decide +kernel
theorem dX8_told_116 : decode cX8_told 116 = .ok (.ireturn, 1) := by decide +kernel
theorem dX8_told_117 : decode cX8_told 117 = .ok (.iload_n 1, 1) := by decide +kernel
theorem dX8_told_118 : decode cX8_told 118 = .ok (.bipush 10, 2) := by decide +kernel
theorem dX8_told_120 : decode cX8_told 120 = .ok (.isub, 1) := by decide +kernel
theorem dX8_told_121 : decode cX8_told 121 = .ok (.iconst 0, 1) := by decide +kernel
theorem dX8_told_122 : decode cX8_told 122 = .ok (.aload_n 0, 1) := by decide +kernel
theorem dX8_told_123 : decode cX8_told 123 = .ok (.getfield 9, 3) := by decide +kernel
theorem dX8_told_126 : decode cX8_told 126 = .ok (.bipush 48, 2) := by decide +kernel
theorem dX8_told_128 : decode cX8_told 128 = .ok (.iaload, 1) := by decide +kernel
theorem dX8_told_129 : decode cX8_told 129 = .ok (.iconst 1, 1) := by decide +kernel
theorem dX8_told_130 : decode cX8_told 130 = .ok (.isub, 1) := by decide +kernel
theorem dX8_told_131 : decode cX8_told 131 = .ok (.invokestatic 77, 3) := by decide +kernel
theorem dX8_told_134 : decode cX8_told 134 = .ok (.ifCond .eq 18, 3) := by decide +kernel
theorem dX8_told_137 : decode cX8_told 137 = .ok (.aload_n 0, 1) := by decide +kernel
theorem dX8_told_138 : decode cX8_told 138 = .ok (.getfield 9, 3) := by decide +kernel
theorem dX8_told_141 : decode cX8_told 141 = .ok (.bipush 42, 2) := by decide +kernel
theorem dX8_told_143 : decode cX8_told 143 = .ok (.iload_n 1, 1) := by decide +kernel
theorem dX8_told_144 : decode cX8_told 144 = .ok (.iadd, 1) := by decide +kernel
theorem dX8_told_145 : decode cX8_told 145 = .ok (.bipush 10, 2) := by decide +kernel
theorem dX8_told_147 : decode cX8_told 147 = .ok (.isub, 1) := by decide +kernel
theorem dX8_told_148 : decode cX8_told 148 = .ok (.iaload, 1) := by decide +kernel
theorem dX8_told_149 : decode cX8_told 149 = .ok (.goto 4, 3) := by decide +kernel
theorem dX8_told_152 : decode cX8_told 152 = .ok (.iconst (-1), 1) := by decide +kernel
theorem dX8_told_153 : decode cX8_told 153 = .ok (.ireturn, 1) := by decide +kernel
theorem dX8_pass_0 : decode cX8_pass 0 = .ok (.iload_n 1, 1) := by decide +kernel
theorem dX8_pass_1 : decode cX8_pass 1 = .ok (.iconst 0, 1) := by decide +kernel
theorem dX8_pass_2 : decode cX8_pass 2 = .ok (.bipush 60, 2) := by decide +kernel
theorem dX8_pass_4 : decode cX8_pass 4 = .ok (.invokestatic 77, 3) := by decide +kernel
theorem dX8_pass_7 : decode cX8_pass 7 = .ok (.ifCond .ne 6, 3) := by decide +kernel
theorem dX8_pass_10 : decode cX8_pass 10 = .ok (.bipush (-2), 2) := by decide +kernel
theorem dX8_pass_12 : decode cX8_pass 12 = .ok (.ireturn, 1) := by decide +kernel
theorem dX8_pass_13 : decode cX8_pass 13 = .ok (.aload_n 0, 1) := by decide +kernel
theorem dX8_pass_14 : decode cX8_pass 14 = .ok (.getfield 9, 3) := by decide +kernel
theorem dX8_pass_17 : decode cX8_pass 17 = .ok (.bipush 52, 2) := by decide +kernel
theorem dX8_pass_19 : decode cX8_pass 19 = .ok (.iaload, 1) := by decide +kernel
theorem dX8_pass_20 : decode cX8_pass 20 = .ok (.iload_n 1, 1) := by decide +kernel
theorem dX8_pass_21 : decode cX8_pass 21 = .ok (.iadd, 1) := by decide +kernel
theorem dX8_pass_22 : decode cX8_pass 22 = .ok (.sipush 9999, 3) := by decide +kernel
theorem dX8_pass_25 : decode cX8_pass 25 = .ok (.if_icmp .le 6, 3) := by decide +kernel
theorem dX8_pass_28 : decode cX8_pass 28 = .ok (.bipush (-3), 2) := by decide +kernel
theorem dX8_pass_30 : decode cX8_pass 30 = .ok (.ireturn, 1) := by decide +kernel
theorem dX8_pass_31 : decode cX8_pass 31 = .ok (.aload_n 0, 1) := by decide +kernel
theorem dX8_pass_32 : decode cX8_pass 32 = .ok (.iload_n 1, 1) := by decide +kernel
theorem dX8_pass_33 : decode cX8_pass 33 = .ok (.invokevirtual 212, 3) := by decide +kernel
theorem dX8_pass_36 : decode cX8_pass 36 = .ok (.aload_n 0, 1) := by decide +kernel
theorem dX8_pass_37 : decode cX8_pass 37 = .ok (.getfield 9, 3) := by decide +kernel
theorem dX8_pass_40 : decode cX8_pass 40 = .ok (.bipush 52, 2) := by decide +kernel
theorem dX8_pass_42 : decode cX8_pass 42 = .ok (.iaload, 1) := by decide +kernel
theorem dX8_pass_43 : decode cX8_pass 43 = .ok (.ireturn, 1) := by decide +kernel
theorem dX8_on_0 : decode cX8_on 0 = .ok (.iload_n 2, 1) := by decide +kernel
theorem dX8_on_1 : decode cX8_on 1 = .ok (.iconst 0, 1) := by decide +kernel
theorem dX8_on_2 : decode cX8_on 2 = .ok (.iconst 2, 1) := by decide +kernel
theorem dX8_on_3 : decode cX8_on 3 = .ok (.invokestatic 77, 3) := by decide +kernel
theorem dX8_on_6 : decode cX8_on 6 = .ok (.ifCond .ne 16, 3) := by decide +kernel
theorem dX8_on_9 : decode cX8_on 9 = .ok (.aload_n 0, 1) := by decide +kernel
theorem dX8_on_10 : decode cX8_on 10 = .ok (.iload_n 2, 1) := by decide +kernel
theorem dX8_on_11 : decode cX8_on 11 = .ok (.bipush 10, 2) := by decide +kernel
theorem dX8_on_13 : decode cX8_on 13 = .ok (.isub, 1) := by decide +kernel
theorem dX8_on_14 : decode cX8_on 14 = .ok (.invokevirtual 97, 3) := by decide +kernel
theorem dX8_on_17 : decode cX8_on 17 = .ok (.ifCond .ne 5, 3) := by decide +kernel
theorem dX8_on_20 : decode cX8_on 20 = .ok (.iconst (-1), 1) := by decide +kernel
theorem dX8_on_21 : decode cX8_on 21 = .ok (.ireturn, 1) := by decide +kernel
theorem dX8_on_22 : decode cX8_on 22 = .ok (.iload_n 1, 1) := by decide +kernel
theorem dX8_on_23 : decode cX8_on 23 = .ok (.iconst 0, 1) := by decide +kernel
theorem dX8_on_24 : decode cX8_on 24 = .ok (.bipush 60, 2) := by decide +kernel
theorem dX8_on_26 : decode cX8_on 26 = .ok (.invokestatic 77, 3) := by decide +kernel
theorem dX8_on_29 : decode cX8_on 29 = .ok (.ifCond .ne 6, 3) := by decide +kernel
theorem dX8_on_32 : decode cX8_on 32 = .ok (.bipush (-2), 2) := by decide +kernel
theorem dX8_on_34 : decode cX8_on 34 = .ok (.ireturn, 1) := by decide +kernel
theorem dX8_on_35 : decode cX8_on 35 = .ok (.aload_n 0, 1) := by decide +kernel
theorem dX8_on_36 : decode cX8_on 36 = .ok (.getfield 9, 3) := by decide +kernel
theorem dX8_on_39 : decode cX8_on 39 = .ok (.aload_n 0, 1) := by decide +kernel
theorem dX8_on_40 : decode cX8_on 40 = .ok (.getfield 15, 3) := by decide +kernel
theorem dX8_on_43 : decode cX8_on 43 = .ok (.invokestatic 73, 3) := by decide +kernel
theorem dX8_on_46 : decode cX8_on 46 = .ok (.aload_n 0, 1) := by decide +kernel
theorem dX8_on_47 : decode cX8_on 47 = .ok (.iload_n 1, 1) := by decide +kernel
theorem dX8_on_48 : decode cX8_on 48 = .ok (.invokevirtual 212, 3) := by decide +kernel
theorem dX8_on_51 : decode cX8_on 51 = .ok (.iload_n 2, 1) := by decide +kernel
theorem dX8_on_52 : decode cX8_on 52 = .ok (.ifCond .ne 13, 3) := by decide +kernel
theorem dX8_on_55 : decode cX8_on 55 = .ok (.aload_n 0, 1) := by decide +kernel
theorem dX8_on_56 : decode cX8_on 56 = .ok (.getfield 9, 3) := by decide +kernel
theorem dX8_on_59 : decode cX8_on 59 = .ok (.bipush 50, 2) := by decide +kernel
theorem dX8_on_61 : decode cX8_on 61 = .ok (.iaload, 1) := by decide +kernel
theorem dX8_on_62 : decode cX8_on 62 = .ok (.goto 39, 3) := by decide +kernel
theorem dX8_on_65 : decode cX8_on 65 = .ok (.iload_n 2, 1) := by decide +kernel
theorem dX8_on_66 : decode cX8_on 66 = .ok (.iconst 1, 1) := by decide +kernel
theorem dX8_on_67 : decode cX8_on 67 = .ok (.if_icmp .ne 13, 3) := by decide +kernel
theorem dX8_on_70 : decode cX8_on 70 = .ok (.aload_n 0, 1) := by decide +kernel
theorem dX8_on_71 : decode cX8_on 71 = .ok (.getfield 9, 3) := by decide +kernel
theorem dX8_on_74 : decode cX8_on 74 = .ok (.bipush 51, 2) := by decide +kernel
theorem dX8_on_76 : decode cX8_on 76 = .ok (.iaload, 1) := by decide +kernel
theorem dX8_on_77 : decode cX8_on 77 = .ok (.goto 24, 3) := by decide +kernel
theorem dX8_on_80 : decode cX8_on 80 = .ok (.iload_n 2, 1) := by decide +kernel
theorem dX8_on_81 : decode cX8_on 81 = .ok (.iconst 2, 1) := by decide +kernel
theorem dX8_on_82 : decode cX8_on 82 = .ok (.if_icmp .ne 10, 3) := by decide +kernel
theorem dX8_on_85 : decode cX8_on 85 = .ok (.aload_n 0, 1) := by decide +kernel
theorem dX8_on_86 : decode cX8_on 86 = .ok (.invokevirtual 209, 3) := by decide +kernel
theorem dX8_on_89 : decode cX8_on 89 = .ok (.goto 12, 3) := by decide +kernel
theorem dX8_on_92 : decode cX8_on 92 = .ok (.aload_n 0, 1) := by decide +kernel
theorem dX8_on_93 : decode cX8_on 93 = .ok (.iload_n 2, 1) := by decide +kernel
theorem dX8_on_94 : decode cX8_on 94 = .ok (.bipush 10, 2) := by decide +kernel
theorem dX8_on_96 : decode cX8_on 96 = .ok (.isub, 1) := by decide +kernel
theorem dX8_on_97 : decode cX8_on 97 = .ok (.iconst 2, 1) := by decide +kernel
theorem dX8_on_98 : decode cX8_on 98 = .ok (.invokevirtual 81, 3) := by decide +kernel
theorem dX8_on_101 : decode cX8_on 101 = .ok (.istore_n 3, 1) := by decide +kernel
theorem dX8_on_102 : decode cX8_on 102 = .ok (.aload_n 0, 1) := by decide +kernel
theorem dX8_on_103 : decode cX8_on 103 = .ok (.getfield 15, 3) := by decide +kernel
theorem dX8_on_106 : decode cX8_on 106 = .ok (.aload_n 0, 1) := by decide +kernel
theorem dX8_on_107 : decode cX8_on 107 = .ok (.getfield 9, 3) := by decide +kernel
theorem dX8_on_110 : decode cX8_on 110 = .ok (.invokestatic 73, 3) := by decide +kernel
theorem dX8_on_113 : decode cX8_on 113 = .ok (.iload_n 3, 1) := by decide +kernel
theorem dX8_on_114 : decode cX8_on 114 = .ok (.ireturn, 1) := by decide +kernel
theorem dX8_turn_0 : decode cX8_turn 0 = .ok (.iload_n 1, 1) := by decide +kernel
theorem dX8_turn_1 : decode cX8_turn 1 = .ok (.iconst 1, 1) := by decide +kernel
theorem dX8_turn_2 : decode cX8_turn 2 = .ok (.bipush 12, 2) := by decide +kernel
theorem dX8_turn_4 : decode cX8_turn 4 = .ok (.invokestatic 77, 3) := by decide +kernel
theorem dX8_turn_7 : decode cX8_turn 7 = .ok (.ifCond .ne 6, 3) := by decide +kernel
theorem dX8_turn_10 : decode cX8_turn 10 = .ok (.bipush (-2), 2) := by decide +kernel
theorem dX8_turn_12 : decode cX8_turn 12 = .ok (.ireturn, 1) := by decide +kernel
theorem dX8_turn_13 : decode cX8_turn 13 = .ok (.aload_n 0, 1) := by decide +kernel
theorem dX8_turn_14 : decode cX8_turn 14 = .ok (.iload_n 1, 1) := by decide +kernel
theorem dX8_turn_15 : decode cX8_turn 15 = .ok (.iconst 2, 1) := by decide +kernel
theorem dX8_turn_16 : decode cX8_turn 16 = .ok (.invokevirtual 215, 3) := by decide +kernel
theorem dX8_turn_19 : decode cX8_turn 19 = .ok (.istore_n 2, 1) := by decide +kernel
theorem dX8_turn_20 : decode cX8_turn 20 = .ok (.bipush (-5), 2) := by decide +kernel
theorem dX8_turn_22 : decode cX8_turn 22 = .ok (.istore_n 3, 1) := by decide +kernel
theorem dX8_turn_23 : decode cX8_turn 23 = .ok (.iconst 0, 1) := by decide +kernel
theorem dX8_turn_24 : decode cX8_turn 24 = .ok (.istore 4, 2) := by decide +kernel
theorem dX8_turn_26 : decode cX8_turn 26 = .ok (.iload 4, 2) := by decide +kernel
theorem dX8_turn_28 : decode cX8_turn 28 = .ok (.aload_n 0, 1) := by decide +kernel
theorem dX8_turn_29 : decode cX8_turn 29 = .ok (.getfield 9, 3) := by decide +kernel
theorem dX8_turn_32 : decode cX8_turn 32 = .ok (.bipush 49, 2) := by decide +kernel
theorem dX8_turn_34 : decode cX8_turn 34 = .ok (.iaload, 1) := by decide +kernel
theorem dX8_turn_35 : decode cX8_turn 35 = .ok (.if_icmp .ge 101, 3) := by decide +kernel
theorem dX8_turn_38 : decode cX8_turn 38 = .ok (.iload 4, 2) := by decide +kernel
theorem dX8_turn_40 : decode cX8_turn 40 = .ok (.iconst 1, 1) := by decide +kernel
theorem dX8_turn_41 : decode cX8_turn 41 = .ok (.iadd, 1) := by decide +kernel
theorem dX8_turn_42 : decode cX8_turn 42 = .ok (.istore 5, 2) := by decide +kernel
theorem dX8_turn_44 : decode cX8_turn 44 = .ok (.iload 5, 2) := by decide +kernel
theorem dX8_turn_46 : decode cX8_turn 46 = .ok (.aload_n 0, 1) := by decide +kernel
theorem dX8_turn_47 : decode cX8_turn 47 = .ok (.getfield 9, 3) := by decide +kernel
theorem dX8_turn_50 : decode cX8_turn 50 = .ok (.bipush 49, 2) := by decide +kernel
theorem dX8_turn_52 : decode cX8_turn 52 = .ok (.iaload, 1) := by decide +kernel
theorem dX8_turn_53 : decode cX8_turn 53 = .ok (.if_icmp .ge 77, 3) := by decide +kernel
theorem dX8_turn_56 : decode cX8_turn 56 = .ok (.aload_n 0, 1) := by decide +kernel
theorem dX8_turn_57 : decode cX8_turn 57 = .ok (.iload 4, 2) := by decide +kernel
theorem dX8_turn_59 : decode cX8_turn 59 = .ok (.invokevirtual 101, 3) := by decide +kernel
theorem dX8_turn_62 : decode cX8_turn 62 = .ok (.ifCond .eq 62, 3) := by decide +kernel
theorem dX8_turn_65 : decode cX8_turn 65 = .ok (.aload_n 0, 1) := by decide +kernel
theorem dX8_turn_66 : decode cX8_turn 66 = .ok (.iload 5, 2) := by decide +kernel
theorem dX8_turn_68 : decode cX8_turn 68 = .ok (.invokevirtual 101, 3) := by decide +kernel
theorem dX8_turn_71 : decode cX8_turn 71 = .ok (.ifCond .eq 53, 3) := by decide +kernel
theorem dX8_turn_74 : decode cX8_turn 74 = .ok (.aload_n 0, 1) := by decide +kernel
theorem dX8_turn_75 : decode cX8_turn 75 = .ok (.iload 4, 2) := by decide +kernel
theorem dX8_turn_77 : decode cX8_turn 77 = .ok (.iload 5, 2) := by decide +kernel
theorem dX8_turn_79 : decode cX8_turn 79 = .ok (.invokevirtual 117, 3) := by decide +kernel
theorem dX8_turn_82 : decode cX8_turn 82 = .ok (.aload_n 0, 1) := by decide +kernel
theorem dX8_turn_83 : decode cX8_turn 83 = .ok (.iload_n 1, 1) := by decide +kernel
theorem dX8_turn_84 : decode cX8_turn 84 = .ok (.iconst 2, 1) := by decide +kernel
theorem dX8_turn_85 : decode cX8_turn 85 = .ok (.invokevirtual 215, 3) := by decide +kernel
theorem dX8_turn_88 : decode cX8_turn 88 = .ok (.istore 6, 2) := by decide +kernel
theorem dX8_turn_90 : decode cX8_turn 90 = .ok (.aload_n 0, 1) := by decide +kernel
theorem dX8_turn_91 : decode cX8_turn 91 = .ok (.iload 4, 2) := by decide +kernel
theorem dX8_turn_93 : decode cX8_turn 93 = .ok (.iload 5, 2) := by decide +kernel
theorem dX8_turn_95 : decode cX8_turn 95 = .ok (.invokevirtual 117, 3) := by decide +kernel
theorem dX8_turn_98 : decode cX8_turn 98 = .ok (.iload 6, 2) := by decide +kernel
theorem dX8_turn_100 : decode cX8_turn 100 = .ok (.iload_n 2, 1) := by decide +kernel
theorem dX8_turn_101 : decode cX8_turn 101 = .ok (.if_icmp .le 14, 3) := by decide +kernel
theorem dX8_turn_104 : decode cX8_turn 104 = .ok (.bipush 10, 2) := by decide +kernel
theorem dX8_turn_106 : decode cX8_turn 106 = .ok (.iload 4, 2) := by decide +kernel
theorem dX8_turn_108 : decode cX8_turn 108 = .ok (.imul, 1) := by decide +kernel
theorem dX8_turn_109 : decode cX8_turn 109 = .ok (.iload 5, 2) := by decide +kernel
theorem dX8_turn_111 : decode cX8_turn 111 = .ok (.iadd, 1) := by decide +kernel
theorem dX8_turn_112 : decode cX8_turn 112 = .ok (.goto 4, 3) := by decide +kernel
theorem dX8_turn_115 : decode cX8_turn 115 = .ok (.iload_n 3, 1) := by decide +kernel
theorem dX8_turn_116 : decode cX8_turn 116 = .ok (.istore_n 3, 1) := by decide +kernel
theorem dX8_turn_117 : decode cX8_turn 117 = .ok (.iload 6, 2) := by decide +kernel
theorem dX8_turn_119 : decode cX8_turn 119 = .ok (.iload_n 2, 1) := by decide +kernel
theorem dX8_turn_120 : decode cX8_turn 120 = .ok (.invokestatic 188, 3) := by decide +kernel
theorem dX8_turn_123 : decode cX8_turn 123 = .ok (.istore_n 2, 1) := by decide +kernel
theorem dX8_turn_124 : decode cX8_turn 124 = .ok (.iinc 5 1, 3) := by decide +kernel
theorem dX8_turn_127 : decode cX8_turn 127 = .ok (.goto (-83), 3) := by decide +kernel
theorem dX8_turn_130 : decode cX8_turn 130 = .ok (.iinc 4 1, 3) := by decide +kernel
theorem dX8_turn_133 : decode cX8_turn 133 = .ok (.goto (-107), 3) := by decide +kernel
theorem dX8_turn_136 : decode cX8_turn 136 = .ok (.iload_n 3, 1) := by decide +kernel
theorem dX8_turn_137 : decode cX8_turn 137 = .ok (.ireturn, 1) := by decide +kernel
theorem dX8_see_0 : decode cX8_see 0 = .ok (.iload_n 1, 1) := by decide +kernel
theorem dX8_see_1 : decode cX8_see 1 = .ok (.iconst (-1), 1) := by decide +kernel
theorem dX8_see_2 : decode cX8_see 2 = .ok (.if_icmp .ne 13, 3) := by decide +kernel
theorem dX8_see_5 : decode cX8_see 5 = .ok (.aload_n 0, 1) := by decide +kernel
theorem dX8_see_6 : decode cX8_see 6 = .ok (.getfield 9, 3) := by decide +kernel
theorem dX8_see_9 : decode cX8_see 9 = .ok (.bipush 54, 2) := by decide +kernel
theorem dX8_see_11 : decode cX8_see 11 = .ok (.iconst 0, 1) := by decide +kernel
theorem dX8_see_12 : decode cX8_see 12 = .ok (.iastore, 1) := by decide +kernel
theorem dX8_see_13 : decode cX8_see 13 = .ok (.iconst 0, 1) := by decide +kernel
theorem dX8_see_14 : decode cX8_see 14 = .ok (.ireturn, 1) := by decide +kernel
theorem dX8_see_15 : decode cX8_see 15 = .ok (.aload_n 0, 1) := by decide +kernel
theorem dX8_see_16 : decode cX8_see 16 = .ok (.iload_n 1, 1) := by decide +kernel
theorem dX8_see_17 : decode cX8_see 17 = .ok (.invokevirtual 97, 3) := by decide +kernel
theorem dX8_see_20 : decode cX8_see 20 = .ok (.ifCond .ne 5, 3) := by decide +kernel
theorem dX8_see_23 : decode cX8_see 23 = .ok (.iconst (-1), 1) := by decide +kernel
theorem dX8_see_24 : decode cX8_see 24 = .ok (.ireturn, 1) := by decide +kernel
theorem dX8_see_25 : decode cX8_see 25 = .ok (.iload_n 2, 1) := by decide +kernel
theorem dX8_see_26 : decode cX8_see 26 = .ok (.iconst 0, 1) := by decide +kernel
theorem dX8_see_27 : decode cX8_see 27 = .ok (.bipush 12, 2) := by decide +kernel
theorem dX8_see_29 : decode cX8_see 29 = .ok (.invokestatic 77, 3) := by decide +kernel
theorem dX8_see_32 : decode cX8_see 32 = .ok (.ifCond .ne 6, 3) := by decide +kernel
theorem dX8_see_35 : decode cX8_see 35 = .ok (.bipush (-2), 2) := by decide +kernel
theorem dX8_see_37 : decode cX8_see 37 = .ok (.ireturn, 1) := by decide +kernel
theorem dX8_see_38 : decode cX8_see 38 = .ok (.aload_n 0, 1) := by decide +kernel
theorem dX8_see_39 : decode cX8_see 39 = .ok (.getfield 9, 3) := by decide +kernel
theorem dX8_see_42 : decode cX8_see 42 = .ok (.bipush 54, 2) := by decide +kernel
theorem dX8_see_44 : decode cX8_see 44 = .ok (.iaload, 1) := by decide +kernel
theorem dX8_see_45 : decode cX8_see 45 = .ok (.iconst 5, 1) := by decide +kernel
theorem dX8_see_46 : decode cX8_see 46 = .ok (.if_icmp .ne 6, 3) := by decide +kernel
theorem dX8_see_49 : decode cX8_see 49 = .ok (.bipush (-4), 2) := by decide +kernel
theorem dX8_see_51 : decode cX8_see 51 = .ok (.ireturn, 1) := by decide +kernel
theorem dX8_see_52 : decode cX8_see 52 = .ok (.bipush 55, 2) := by decide +kernel
theorem dX8_see_54 : decode cX8_see 54 = .ok (.iconst 3, 1) := by decide +kernel
theorem dX8_see_55 : decode cX8_see 55 = .ok (.aload_n 0, 1) := by decide +kernel
theorem dX8_see_56 : decode cX8_see 56 = .ok (.getfield 9, 3) := by decide +kernel
theorem dX8_see_59 : decode cX8_see 59 = .ok (.bipush 54, 2) := by decide +kernel
theorem dX8_see_61 : decode cX8_see 61 = .ok (.iaload, 1) := by decide +kernel
theorem dX8_see_62 : decode cX8_see 62 = .ok (.imul, 1) := by decide +kernel
theorem dX8_see_63 : decode cX8_see 63 = .ok (.iadd, 1) := by decide +kernel
theorem dX8_see_64 : decode cX8_see 64 = .ok (.istore 4, 2) := by decide +kernel
theorem dX8_see_66 : decode cX8_see 66 = .ok (.aload_n 0, 1) := by decide +kernel
theorem dX8_see_67 : decode cX8_see 67 = .ok (.getfield 9, 3) := by decide +kernel
theorem dX8_see_70 : decode cX8_see 70 = .ok (.iload 4, 2) := by decide +kernel
theorem dX8_see_72 : decode cX8_see 72 = .ok (.iload_n 1, 1) := by decide +kernel
theorem dX8_see_73 : decode cX8_see 73 = .ok (.iastore, 1) := by decide +kernel
theorem dX8_see_74 : decode cX8_see 74 = .ok (.aload_n 0, 1) := by decide +kernel
theorem dX8_see_75 : decode cX8_see 75 = .ok (.getfield 9, 3) := by decide +kernel
theorem dX8_see_78 : decode cX8_see 78 = .ok (.iload 4, 2) := by decide +kernel
theorem dX8_see_80 : decode cX8_see 80 = .ok (.iconst 1, 1) := by decide +kernel
theorem dX8_see_81 : decode cX8_see 81 = .ok (.iadd, 1) := by decide +kernel
theorem dX8_see_82 : decode cX8_see 82 = .ok (.iload_n 2, 1) := by decide +kernel
theorem dX8_see_83 : decode cX8_see 83 = .ok (.iastore, 1) := by decide +kernel
theorem dX8_see_84 : decode cX8_see 84 = .ok (.aload_n 0, 1) := by decide +kernel
theorem dX8_see_85 : decode cX8_see 85 = .ok (.getfield 9, 3) := by decide +kernel
theorem dX8_see_88 : decode cX8_see 88 = .ok (.iload 4, 2) := by decide +kernel
theorem dX8_see_90 : decode cX8_see 90 = .ok (.iconst 2, 1) := by decide +kernel
theorem dX8_see_91 : decode cX8_see 91 = .ok (.iadd, 1) := by decide +kernel
theorem dX8_see_92 : decode cX8_see 92 = .ok (.iload_n 3, 1) := by decide +kernel
theorem dX8_see_93 : decode cX8_see 93 = .ok (.ifCond .eq 7, 3) := by decide +kernel
theorem dX8_see_96 : decode cX8_see 96 = .ok (.iconst 1, 1) := by decide +kernel
theorem dX8_see_97 : decode cX8_see 97 = .ok (.goto 4, 3) := by decide +kernel
theorem dX8_see_100 : decode cX8_see 100 = .ok (.iconst 0, 1) := by decide +kernel
theorem dX8_see_101 : decode cX8_see 101 = .ok (.iastore, 1) := by decide +kernel
theorem dX8_see_102 : decode cX8_see 102 = .ok (.aload_n 0, 1) := by decide +kernel
theorem dX8_see_103 : decode cX8_see 103 = .ok (.getfield 9, 3) := by decide +kernel
theorem dX8_see_106 : decode cX8_see 106 = .ok (.bipush 54, 2) := by decide +kernel
theorem dX8_see_108 : decode cX8_see 108 = .ok (.dup2, 1) := by decide +kernel
theorem dX8_see_109 : decode cX8_see 109 = .ok (.iaload, 1) := by decide +kernel
theorem dX8_see_110 : decode cX8_see 110 = .ok (.iconst 1, 1) := by decide +kernel
theorem dX8_see_111 : decode cX8_see 111 = .ok (.iadd, 1) := by decide +kernel
theorem dX8_see_112 : decode cX8_see 112 = .ok (.iastore, 1) := by decide +kernel
theorem dX8_see_113 : decode cX8_see 113 = .ok (.aload_n 0, 1) := by decide +kernel
theorem dX8_see_114 : decode cX8_see 114 = .ok (.getfield 9, 3) := by decide +kernel
theorem dX8_see_117 : decode cX8_see 117 = .ok (.bipush 54, 2) := by decide +kernel
theorem dX8_see_119 : decode cX8_see 119 = .ok (.iaload, 1) := by decide +kernel
theorem dX8_see_120 : decode cX8_see 120 = .ok (.ireturn, 1) := by decide +kernel
theorem dX8_isAllSeen_0 : decode cX8_isAllSeen 0 = .ok (.aload_n 0, 1) := by decide +kernel
theorem dX8_isAllSeen_1 : decode cX8_isAllSeen 1 = .ok (.getfield 9, 3) := by decide +kernel
theorem dX8_isAllSeen_4 : decode cX8_isAllSeen 4 = .ok (.aload_n 0, 1) := by decide +kernel
theorem dX8_isAllSeen_5 : decode cX8_isAllSeen 5 = .ok (.getfield 15, 3) := by decide +kernel
theorem dX8_isAllSeen_8 : decode cX8_isAllSeen 8 = .ok (.invokestatic 73, 3) := by decide +kernel
theorem dX8_isAllSeen_11 : decode cX8_isAllSeen 11 = .ok (.iconst 1, 1) := by decide +kernel
theorem dX8_isAllSeen_12 : decode cX8_isAllSeen 12 = .ok (.istore_n 1, 1) := by decide +kernel
theorem dX8_isAllSeen_13 : decode cX8_isAllSeen 13 = .ok (.iconst 0, 1) := by decide +kernel
theorem dX8_isAllSeen_14 : decode cX8_isAllSeen 14 = .ok (.istore_n 2, 1) := by decide +kernel
theorem dX8_isAllSeen_15 : decode cX8_isAllSeen 15 = .ok (.iload_n 2, 1) := by decide +kernel
theorem dX8_isAllSeen_16 : decode cX8_isAllSeen 16 = .ok (.bipush 12, 2) := by decide +kernel
theorem dX8_isAllSeen_18 : decode cX8_isAllSeen 18 = .ok (.if_icmp .gt 98, 3) := by decide +kernel
theorem dX8_isAllSeen_21 : decode cX8_isAllSeen 21 = .ok (.iload_n 1, 1) := by decide +kernel
theorem dX8_isAllSeen_22 : decode cX8_isAllSeen 22 = .ok (.ifCond .eq 94, 3) := by decide +kernel
theorem dX8_isAllSeen_25 : decode cX8_isAllSeen 25 = .ok (.iconst 0, 1) := by decide +kernel
theorem dX8_isAllSeen_26 : decode cX8_isAllSeen 26 = .ok (.istore_n 3, 1) := by decide +kernel
theorem dX8_isAllSeen_27 : decode cX8_isAllSeen 27 = .ok (.iload_n 3, 1) := by decide +kernel
theorem dX8_isAllSeen_28 : decode cX8_isAllSeen 28 = .ok (.aload_n 0, 1) := by decide +kernel
theorem dX8_isAllSeen_29 : decode cX8_isAllSeen 29 = .ok (.getfield 9, 3) := by decide +kernel
theorem dX8_isAllSeen_32 : decode cX8_isAllSeen 32 = .ok (.bipush 54, 2) := by decide +kernel
theorem dX8_isAllSeen_34 : decode cX8_isAllSeen 34 = .ok (.iaload, 1) := by decide +kernel
theorem dX8_isAllSeen_35 : decode cX8_isAllSeen 35 = .ok (.if_icmp .ge 71, 3) := by decide +kernel
theorem dX8_isAllSeen_38 : decode cX8_isAllSeen 38 = .ok (.bipush 55, 2) := by decide +kernel
theorem dX8_isAllSeen_40 : decode cX8_isAllSeen 40 = .ok (.iconst 3, 1) := by decide +kernel
theorem dX8_isAllSeen_41 : decode cX8_isAllSeen 41 = .ok (.iload_n 3, 1) := by decide +kernel
theorem dX8_isAllSeen_42 : decode cX8_isAllSeen 42 = .ok (.imul, 1) := by decide +kernel
theorem dX8_isAllSeen_43 : decode cX8_isAllSeen 43 = .ok (.iadd, 1) := by decide +kernel
theorem dX8_isAllSeen_44 : decode cX8_isAllSeen 44 = .ok (.istore 4, 2) := by decide +kernel
theorem dX8_isAllSeen_46 : decode cX8_isAllSeen 46 = .ok (.iload_n 1, 1) := by decide +kernel
theorem dX8_isAllSeen_47 : decode cX8_isAllSeen 47 = .ok (.ifCond .eq 51, 3) := by decide +kernel
theorem dX8_isAllSeen_50 : decode cX8_isAllSeen 50 = .ok (.aload_n 0, 1) := by decide +kernel
theorem dX8_isAllSeen_51 : decode cX8_isAllSeen 51 = .ok (.getfield 9, 3) := by decide +kernel
theorem dX8_isAllSeen_54 : decode cX8_isAllSeen 54 = .ok (.iload 4, 2) := by decide +kernel
theorem dX8_isAllSeen_56 : decode cX8_isAllSeen 56 = .ok (.iconst 1, 1) := by decide +kernel
theorem dX8_isAllSeen_57 : decode cX8_isAllSeen 57 = .ok (.iadd, 1) := by decide +kernel
theorem dX8_isAllSeen_58 : decode cX8_isAllSeen 58 = .ok (.iaload, 1) := by decide +kernel
theorem dX8_isAllSeen_59 : decode cX8_isAllSeen 59 = .ok (.iload_n 2, 1) := by decide +kernel
theorem dX8_isAllSeen_60 : decode cX8_isAllSeen 60 = .ok (.if_icmp .ne 34, 3) := by decide +kernel
theorem dX8_isAllSeen_63 : decode cX8_isAllSeen 63 = .ok (.aload_n 0, 1) := by decide +kernel
theorem dX8_isAllSeen_64 : decode cX8_isAllSeen 64 = .ok (.aload_n 0, 1) := by decide +kernel
theorem dX8_isAllSeen_65 : decode cX8_isAllSeen 65 = .ok (.getfield 9, 3) := by decide +kernel
theorem dX8_isAllSeen_68 : decode cX8_isAllSeen 68 = .ok (.iload 4, 2) := by decide +kernel
theorem dX8_isAllSeen_70 : decode cX8_isAllSeen 70 = .ok (.iaload, 1) := by decide +kernel
theorem dX8_isAllSeen_71 : decode cX8_isAllSeen 71 = .ok (.invokevirtual 101, 3) := by decide +kernel
theorem dX8_isAllSeen_74 : decode cX8_isAllSeen 74 = .ok (.aload_n 0, 1) := by decide +kernel
theorem dX8_isAllSeen_75 : decode cX8_isAllSeen 75 = .ok (.getfield 9, 3) := by decide +kernel
theorem dX8_isAllSeen_78 : decode cX8_isAllSeen 78 = .ok (.iload 4, 2) := by decide +kernel
theorem dX8_isAllSeen_80 : decode cX8_isAllSeen 80 = .ok (.iconst 2, 1) := by decide +kernel
theorem dX8_isAllSeen_81 : decode cX8_isAllSeen 81 = .ok (.iadd, 1) := by decide +kernel
theorem dX8_isAllSeen_82 : decode cX8_isAllSeen 82 = .ok (.iaload, 1) := by decide +kernel
theorem dX8_isAllSeen_83 : decode cX8_isAllSeen 83 = .ok (.ifCond .ne 7, 3) := by decide +kernel
theorem dX8_isAllSeen_86 : decode cX8_isAllSeen 86 = .ok (.iconst 1, 1) := by decide +kernel
theorem dX8_isAllSeen_87 : decode cX8_isAllSeen 87 = .ok (.goto 4, 3) := by decide +kernel
theorem dX8_isAllSeen_90 : decode cX8_isAllSeen 90 = .ok (.iconst 0, 1) := by decide +kernel
theorem dX8_isAllSeen_91 : decode cX8_isAllSeen 91 = .ok (.if_icmp .ne 7, 3) := by decide +kernel
theorem dX8_isAllSeen_94 : decode cX8_isAllSeen 94 = .ok (.iconst 1, 1) := by decide +kernel
theorem dX8_isAllSeen_95 : decode cX8_isAllSeen 95 = .ok (.goto 4, 3) := by decide +kernel
theorem dX8_isAllSeen_98 : decode cX8_isAllSeen 98 = .ok (.iconst 0, 1) := by decide +kernel
theorem dX8_isAllSeen_99 : decode cX8_isAllSeen 99 = .ok (.istore_n 1, 1) := by decide +kernel
theorem dX8_isAllSeen_100 : decode cX8_isAllSeen 100 = .ok (.iinc 3 1, 3) := by decide +kernel
theorem dX8_isAllSeen_103 : decode cX8_isAllSeen 103 = .ok (.goto (-76), 3) := by decide +kernel
theorem dX8_isAllSeen_106 : decode cX8_isAllSeen 106 = .ok (.aload_n 0, 1) := by decide +kernel
theorem dX8_isAllSeen_107 : decode cX8_isAllSeen 107 = .ok (.invokevirtual 196, 3) := by decide +kernel
theorem dX8_isAllSeen_110 : decode cX8_isAllSeen 110 = .ok (.iinc 2 1, 3) := by decide +kernel
theorem dX8_isAllSeen_113 : decode cX8_isAllSeen 113 = .ok (.goto (-98), 3) := by decide +kernel
theorem dX8_isAllSeen_116 : decode cX8_isAllSeen 116 = .ok (.aload_n 0, 1) := by decide +kernel
theorem dX8_isAllSeen_117 : decode cX8_isAllSeen 117 = .ok (.getfield 15, 3) := by decide +kernel
theorem dX8_isAllSeen_120 : decode cX8_isAllSeen 120 = .ok (.aload_n 0, 1) := by decide +kernel
theorem dX8_isAllSeen_121 : decode cX8_isAllSeen 121 = .ok (.getfield 9, 3) := by decide +kernel
theorem dX8_isAllSeen_124 : decode cX8_isAllSeen 124 = .ok (.invokestatic 73, 3) := by decide +kernel
theorem dX8_isAllSeen_127 : decode cX8_isAllSeen 127 = .ok (.iload_n 1, 1) := by decide +kernel
theorem dX8_isAllSeen_128 : decode cX8_isAllSeen 128 = .ok (.ireturn, 1) := by decide +kernel
theorem dX8_fits_0 : decode cX8_fits 0 = .ok (.aload_n 0, 1) := by decide +kernel
theorem dX8_fits_1 : decode cX8_fits 1 = .ok (.iload_n 1, 1) := by decide +kernel
theorem dX8_fits_2 : decode cX8_fits 2 = .ok (.iload_n 2, 1) := by decide +kernel
theorem dX8_fits_3 : decode cX8_fits 3 = .ok (.invokevirtual 81, 3) := by decide +kernel
theorem dX8_fits_6 : decode cX8_fits 6 = .ok (.istore_n 3, 1) := by decide +kernel
theorem dX8_fits_7 : decode cX8_fits 7 = .ok (.iconst 0, 1) := by decide +kernel
theorem dX8_fits_8 : decode cX8_fits 8 = .ok (.istore 4, 2) := by decide +kernel
theorem dX8_fits_10 : decode cX8_fits 10 = .ok (.iconst 0, 1) := by decide +kernel
theorem dX8_fits_11 : decode cX8_fits 11 = .ok (.istore 5, 2) := by decide +kernel
theorem dX8_fits_13 : decode cX8_fits 13 = .ok (.iload 5, 2) := by decide +kernel
theorem dX8_fits_15 : decode cX8_fits 15 = .ok (.bipush 10, 2) := by decide +kernel
theorem dX8_fits_17 : decode cX8_fits 17 = .ok (.if_icmp .ge 38, 3) := by decide +kernel
theorem dX8_fits_20 : decode cX8_fits 20 = .ok (.aload_n 0, 1) := by decide +kernel
theorem dX8_fits_21 : decode cX8_fits 21 = .ok (.iload_n 1, 1) := by decide +kernel
theorem dX8_fits_22 : decode cX8_fits 22 = .ok (.iload_n 2, 1) := by decide +kernel
theorem dX8_fits_23 : decode cX8_fits 23 = .ok (.iload 5, 2) := by decide +kernel
theorem dX8_fits_25 : decode cX8_fits 25 = .ok (.invokevirtual 89, 3) := by decide +kernel
theorem dX8_fits_28 : decode cX8_fits 28 = .ok (.pop, 1) := by decide +kernel
theorem dX8_fits_29 : decode cX8_fits 29 = .ok (.iload 4, 2) := by decide +kernel
theorem dX8_fits_31 : decode cX8_fits 31 = .ok (.aload_n 0, 1) := by decide +kernel
theorem dX8_fits_32 : decode cX8_fits 32 = .ok (.invokevirtual 218, 3) := by decide +kernel
theorem dX8_fits_35 : decode cX8_fits 35 = .ok (.ifCond .eq 10, 3) := by decide +kernel
theorem dX8_fits_38 : decode cX8_fits 38 = .ok (.iconst 1, 1) := by decide +kernel
theorem dX8_fits_39 : decode cX8_fits 39 = .ok (.iload 5, 2) := by decide +kernel
theorem dX8_fits_41 : decode cX8_fits 41 = .ok (.ishl, 1) := by decide +kernel
theorem dX8_fits_42 : decode cX8_fits 42 = .ok (.goto 4, 3) := by decide +kernel
theorem dX8_fits_45 : decode cX8_fits 45 = .ok (.iconst 0, 1) := by decide +kernel
theorem dX8_fits_46 : decode cX8_fits 46 = .ok (.ior, 1) := by decide +kernel
theorem dX8_fits_47 : decode cX8_fits 47 = .ok (.istore 4, 2) := by decide +kernel
theorem dX8_fits_49 : decode cX8_fits 49 = .ok (.iinc 5 1, 3) := by decide +kernel
theorem dX8_fits_52 : decode cX8_fits 52 = .ok (.goto (-39), 3) := by decide +kernel
theorem dX8_fits_55 : decode cX8_fits 55 = .ok (.aload_n 0, 1) := by decide +kernel
theorem dX8_fits_56 : decode cX8_fits 56 = .ok (.iload_n 1, 1) := by decide +kernel
theorem dX8_fits_57 : decode cX8_fits 57 = .ok (.iload_n 2, 1) := by decide +kernel
theorem dX8_fits_58 : decode cX8_fits 58 = .ok (.iload_n 3, 1) := by decide +kernel
theorem dX8_fits_59 : decode cX8_fits 59 = .ok (.invokevirtual 89, 3) := by decide +kernel
theorem dX8_fits_62 : decode cX8_fits 62 = .ok (.pop, 1) := by decide +kernel
theorem dX8_fits_63 : decode cX8_fits 63 = .ok (.iload 4, 2) := by decide +kernel
theorem dX8_fits_65 : decode cX8_fits 65 = .ok (.ireturn, 1) := by decide +kernel
theorem dX8_can_0 : decode cX8_can 0 = .ok (.aload_n 0, 1) := by decide +kernel
theorem dX8_can_1 : decode cX8_can 1 = .ok (.iload_n 1, 1) := by decide +kernel
theorem dX8_can_2 : decode cX8_can 2 = .ok (.invokevirtual 97, 3) := by decide +kernel
theorem dX8_can_5 : decode cX8_can 5 = .ok (.ifCond .eq 12, 3) := by decide +kernel
theorem dX8_can_8 : decode cX8_can 8 = .ok (.iload_n 2, 1) := by decide +kernel
theorem dX8_can_9 : decode cX8_can 9 = .ok (.iconst 0, 1) := by decide +kernel
theorem dX8_can_10 : decode cX8_can 10 = .ok (.iconst 1, 1) := by decide +kernel
theorem dX8_can_11 : decode cX8_can 11 = .ok (.invokestatic 77, 3) := by decide +kernel
theorem dX8_can_14 : decode cX8_can 14 = .ok (.ifCond .ne 5, 3) := by decide +kernel
theorem dX8_can_17 : decode cX8_can 17 = .ok (.iconst (-1), 1) := by decide +kernel
theorem dX8_can_18 : decode cX8_can 18 = .ok (.ireturn, 1) := by decide +kernel
theorem dX8_can_19 : decode cX8_can 19 = .ok (.aload_n 0, 1) := by decide +kernel
theorem dX8_can_20 : decode cX8_can 20 = .ok (.iload_n 1, 1) := by decide +kernel
theorem dX8_can_21 : decode cX8_can 21 = .ok (.iconst 1, 1) := by decide +kernel
theorem dX8_can_22 : decode cX8_can 22 = .ok (.invokevirtual 111, 3) := by decide +kernel
theorem dX8_can_25 : decode cX8_can 25 = .ok (.istore_n 3, 1) := by decide +kernel
theorem dX8_can_26 : decode cX8_can 26 = .ok (.iconst 0, 1) := by decide +kernel
theorem dX8_can_27 : decode cX8_can 27 = .ok (.istore 4, 2) := by decide +kernel
theorem dX8_can_29 : decode cX8_can 29 = .ok (.bipush (-5), 2) := by decide +kernel
theorem dX8_can_31 : decode cX8_can 31 = .ok (.istore 5, 2) := by decide +kernel
theorem dX8_can_33 : decode cX8_can 33 = .ok (.bipush 9, 2) := by decide +kernel
theorem dX8_can_35 : decode cX8_can 35 = .ok (.istore 6, 2) := by decide +kernel
theorem dX8_can_37 : decode cX8_can 37 = .ok (.iload 6, 2) := by decide +kernel
theorem dX8_can_39 : decode cX8_can 39 = .ok (.ifCond .lt 39, 3) := by decide +kernel
theorem dX8_can_42 : decode cX8_can 42 = .ok (.iload 4, 2) := by decide +kernel
theorem dX8_can_44 : decode cX8_can 44 = .ok (.iload_n 3, 1) := by decide +kernel
theorem dX8_can_45 : decode cX8_can 45 = .ok (.iload 6, 2) := by decide +kernel
theorem dX8_can_47 : decode cX8_can 47 = .ok (.ishr, 1) := by decide +kernel
theorem dX8_can_48 : decode cX8_can 48 = .ok (.iconst 1, 1) := by decide +kernel
theorem dX8_can_49 : decode cX8_can 49 = .ok (.iand, 1) := by decide +kernel
theorem dX8_can_50 : decode cX8_can 50 = .ok (.iadd, 1) := by decide +kernel
theorem dX8_can_51 : decode cX8_can 51 = .ok (.istore 4, 2) := by decide +kernel
theorem dX8_can_53 : decode cX8_can 53 = .ok (.iload_n 3, 1) := by decide +kernel
theorem dX8_can_54 : decode cX8_can 54 = .ok (.iload 6, 2) := by decide +kernel
theorem dX8_can_56 : decode cX8_can 56 = .ok (.ishr, 1) := by decide +kernel
theorem dX8_can_57 : decode cX8_can 57 = .ok (.iconst 1, 1) := by decide +kernel
theorem dX8_can_58 : decode cX8_can 58 = .ok (.iand, 1) := by decide +kernel
theorem dX8_can_59 : decode cX8_can 59 = .ok (.iconst 1, 1) := by decide +kernel
theorem dX8_can_60 : decode cX8_can 60 = .ok (.if_icmp .ne 8, 3) := by decide +kernel
theorem dX8_can_63 : decode cX8_can 63 = .ok (.iload 6, 2) := by decide +kernel
theorem dX8_can_65 : decode cX8_can 65 = .ok (.goto 5, 3) := by decide +kernel
theorem dX8_can_68 : decode cX8_can 68 = .ok (.iload 5, 2) := by decide +kernel
theorem dX8_can_70 : decode cX8_can 70 = .ok (.istore 5, 2) := by decide +kernel
theorem dX8_can_72 : decode cX8_can 72 = .ok (.iinc 6 (-1), 3) := by decide +kernel
theorem dX8_can_75 : decode cX8_can 75 = .ok (.goto (-38), 3) := by decide +kernel
theorem dX8_can_78 : decode cX8_can 78 = .ok (.iload_n 2, 1) := by decide +kernel
theorem dX8_can_79 : decode cX8_can 79 = .ok (.ifCond .ne 8, 3) := by decide +kernel
theorem dX8_can_82 : decode cX8_can 82 = .ok (.iload 4, 2) := by decide +kernel
theorem dX8_can_84 : decode cX8_can 84 = .ok (.goto 5, 3) := by decide +kernel
theorem dX8_can_87 : decode cX8_can 87 = .ok (.iload 5, 2) := by decide +kernel
theorem dX8_can_89 : decode cX8_can 89 = .ok (.ireturn, 1) := by decide +kernel
theorem dX8_fraction_0 : decode cX8_fraction 0 = .ok (.lload_n 0, 1) := by decide +kernel
theorem dX8_fraction_1 : decode cX8_fraction 1 = .ok (.lstore 5, 2) := by decide +kernel
theorem dX8_fraction_3 : decode cX8_fraction 3 = .ok (.lload_n 2, 1) := by decide +kernel
theorem dX8_fraction_4 : decode cX8_fraction 4 = .ok (.lstore 7, 2) := by decide +kernel
theorem dX8_fraction_6 : decode cX8_fraction 6 = .ok (.lload 7, 2) := by decide +kernel
theorem dX8_fraction_8 : decode cX8_fraction 8 = .ok (.lconst 0, 1) := by decide +kernel
theorem dX8_fraction_9 : decode cX8_fraction 9 = .ok (.lcmp, 1) := by decide +kernel
theorem dX8_fraction_10 : decode cX8_fraction 10 = .ok (.ifCond .eq 21, 3) := by decide +kernel
theorem dX8_fraction_13 : decode cX8_fraction 13 = .ok (.lload 5, 2) := by decide +kernel
theorem dX8_fraction_15 : decode cX8_fraction 15 = .ok (.lload 7, 2) := by decide +kernel
theorem dX8_fraction_17 : decode cX8_fraction 17 = .ok (.lrem, 1) := by decide +kernel
theorem dX8_fraction_18 : decode cX8_fraction 18 = .ok (.lstore 9, 2) := by decide +kernel
theorem dX8_fraction_20 : decode cX8_fraction 20 = .ok (.lload 7, 2) := by decide +kernel
theorem dX8_fraction_22 : decode cX8_fraction 22 = .ok (.lstore 5, 2) := by decide +kernel
theorem dX8_fraction_24 : decode cX8_fraction 24 = .ok (.lload 9, 2) := by decide +kernel
theorem dX8_fraction_26 : decode cX8_fraction 26 = .ok (.lstore 7, 2) := by decide +kernel
theorem dX8_fraction_28 : decode cX8_fraction 28 = .ok (.goto (-22), 3) := by decide +kernel
theorem dX8_fraction_31 : decode cX8_fraction 31 = .ok (.iload 4, 2) := by decide +kernel
theorem dX8_fraction_33 : decode cX8_fraction 33 = .ok (.ifCond .ne 10, 3) := by decide +kernel
theorem dX8_fraction_36 : decode cX8_fraction 36 = .ok (.lload_n 0, 1) := by decide +kernel
theorem dX8_fraction_37 : decode cX8_fraction 37 = .ok (.lload 5, 2) := by decide +kernel
theorem dX8_fraction_39 : decode cX8_fraction 39 = .ok (.ldiv, 1) := by decide +kernel
theorem dX8_fraction_40 : decode cX8_fraction 40 = .ok (.goto 7, 3) := by decide +kernel
theorem dX8_fraction_43 : decode cX8_fraction 43 = .ok (.lload_n 2, 1) := by decide +kernel
theorem dX8_fraction_44 : decode cX8_fraction 44 = .ok (.lload 5, 2) := by decide +kernel
theorem dX8_fraction_46 : decode cX8_fraction 46 = .ok (.ldiv, 1) := by decide +kernel
theorem dX8_fraction_47 : decode cX8_fraction 47 = .ok (.lreturn, 1) := by decide +kernel
theorem dX8_odds_0 : decode cX8_odds 0 = .ok (.iload_n 1, 1) := by decide +kernel
theorem dX8_odds_1 : decode cX8_odds 1 = .ok (.iconst 1, 1) := by decide +kernel
theorem dX8_odds_2 : decode cX8_odds 2 = .ok (.bipush 20, 2) := by decide +kernel
theorem dX8_odds_4 : decode cX8_odds 4 = .ok (.invokestatic 77, 3) := by decide +kernel
theorem dX8_odds_7 : decode cX8_odds 7 = .ok (.ifCond .eq 22, 3) := by decide +kernel
theorem dX8_odds_10 : decode cX8_odds 10 = .ok (.iload_n 2, 1) := by decide +kernel
theorem dX8_odds_11 : decode cX8_odds 11 = .ok (.iconst 0, 1) := by decide +kernel
theorem dX8_odds_12 : decode cX8_odds 12 = .ok (.iconst 1, 1) := by decide +kernel
theorem dX8_odds_13 : decode cX8_odds 13 = .ok (.invokestatic 77, 3) := by decide +kernel
theorem dX8_odds_16 : decode cX8_odds 16 = .ok (.ifCond .eq 13, 3) := by decide +kernel
theorem dX8_odds_19 : decode cX8_odds 19 = .ok (.aload_n 0, 1) := by decide +kernel
theorem dX8_odds_20 : decode cX8_odds 20 = .ok (.getfield 9, 3) := by decide +kernel
theorem dX8_odds_23 : decode cX8_odds 23 = .ok (.bipush 48, 2) := by decide +kernel
theorem dX8_odds_25 : decode cX8_odds 25 = .ok (.iaload, 1) := by decide +kernel
theorem dX8_odds_26 : decode cX8_odds 26 = .ok (.ifCond .ne 7, 3) := by decide +kernel
theorem dX8_odds_29 : decode cX8_odds 29 = .ok (.ldc2_w 221, 3) := by decide +kernel
theorem dX8_odds_32 : decode cX8_odds 32 = .ok (.lreturn, 1) := by decide +kernel
theorem dX8_odds_33 : decode cX8_odds 33 = .ok (.iconst 0, 1) := by decide +kernel
theorem dX8_odds_34 : decode cX8_odds 34 = .ok (.istore_n 3, 1) := by decide +kernel
theorem dX8_odds_35 : decode cX8_odds 35 = .ok (.iconst 0, 1) := by decide +kernel
theorem dX8_odds_36 : decode cX8_odds 36 = .ok (.istore 4, 2) := by decide +kernel
theorem dX8_odds_38 : decode cX8_odds 38 = .ok (.iload 4, 2) := by decide +kernel
theorem dX8_odds_40 : decode cX8_odds 40 = .ok (.aload_n 0, 1) := by decide +kernel
theorem dX8_odds_41 : decode cX8_odds 41 = .ok (.getfield 9, 3) := by decide +kernel
theorem dX8_odds_44 : decode cX8_odds 44 = .ok (.bipush 48, 2) := by decide +kernel
theorem dX8_odds_46 : decode cX8_odds 46 = .ok (.iaload, 1) := by decide +kernel
theorem dX8_odds_47 : decode cX8_odds 47 = .ok (.if_icmp .ge 66, 3) := by decide +kernel
theorem dX8_odds_50 : decode cX8_odds 50 = .ok (.aload_n 0, 1) := by decide +kernel
theorem dX8_odds_51 : decode cX8_odds 51 = .ok (.getfield 9, 3) := by decide +kernel
theorem dX8_odds_54 : decode cX8_odds 54 = .ok (.bipush 42, 2) := by decide +kernel
theorem dX8_odds_56 : decode cX8_odds 56 = .ok (.iload 4, 2) := by decide +kernel
theorem dX8_odds_58 : decode cX8_odds 58 = .ok (.iadd, 1) := by decide +kernel
theorem dX8_odds_59 : decode cX8_odds 59 = .ok (.iaload, 1) := by decide +kernel
theorem dX8_odds_60 : decode cX8_odds 60 = .ok (.istore 5, 2) := by decide +kernel
theorem dX8_odds_62 : decode cX8_odds 62 = .ok (.aload_n 0, 1) := by decide +kernel
theorem dX8_odds_63 : decode cX8_odds 63 = .ok (.iload 5, 2) := by decide +kernel
theorem dX8_odds_65 : decode cX8_odds 65 = .ok (.iconst 2, 1) := by decide +kernel
theorem dX8_odds_66 : decode cX8_odds 66 = .ok (.bipush 9, 2) := by decide +kernel
theorem dX8_odds_68 : decode cX8_odds 68 = .ok (.invokevirtual 89, 3) := by decide +kernel
theorem dX8_odds_71 : decode cX8_odds 71 = .ok (.istore 6, 2) := by decide +kernel
theorem dX8_odds_73 : decode cX8_odds 73 = .ok (.iload_n 3, 1) := by decide +kernel
theorem dX8_odds_74 : decode cX8_odds 74 = .ok (.aload_n 0, 1) := by decide +kernel
theorem dX8_odds_75 : decode cX8_odds 75 = .ok (.iload_n 1, 1) := by decide +kernel
theorem dX8_odds_76 : decode cX8_odds 76 = .ok (.iconst 1, 1) := by decide +kernel
theorem dX8_odds_77 : decode cX8_odds 77 = .ok (.invokevirtual 215, 3) := by decide +kernel
theorem dX8_odds_80 : decode cX8_odds 80 = .ok (.aload_n 0, 1) := by decide +kernel
theorem dX8_odds_81 : decode cX8_odds 81 = .ok (.getfield 9, 3) := by decide +kernel
theorem dX8_odds_84 : decode cX8_odds 84 = .ok (.bipush 51, 2) := by decide +kernel
theorem dX8_odds_86 : decode cX8_odds 86 = .ok (.iaload, 1) := by decide +kernel
theorem dX8_odds_87 : decode cX8_odds 87 = .ok (.if_icmp .le 7, 3) := by decide +kernel
theorem dX8_odds_90 : decode cX8_odds 90 = .ok (.iconst 1, 1) := by decide +kernel
theorem dX8_odds_91 : decode cX8_odds 91 = .ok (.goto 4, 3) := by decide +kernel
theorem dX8_odds_94 : decode cX8_odds 94 = .ok (.iconst 0, 1) := by decide +kernel
theorem dX8_odds_95 : decode cX8_odds 95 = .ok (.iadd, 1) := by decide +kernel
theorem dX8_odds_96 : decode cX8_odds 96 = .ok (.istore_n 3, 1) := by decide +kernel
theorem dX8_odds_97 : decode cX8_odds 97 = .ok (.aload_n 0, 1) := by decide +kernel
theorem dX8_odds_98 : decode cX8_odds 98 = .ok (.iload 5, 2) := by decide +kernel
theorem dX8_odds_100 : decode cX8_odds 100 = .ok (.iconst 2, 1) := by decide +kernel
theorem dX8_odds_101 : decode cX8_odds 101 = .ok (.iload 6, 2) := by decide +kernel
theorem dX8_odds_103 : decode cX8_odds 103 = .ok (.invokevirtual 89, 3) := by decide +kernel
theorem dX8_odds_106 : decode cX8_odds 106 = .ok (.pop, 1) := by decide +kernel
theorem dX8_odds_107 : decode cX8_odds 107 = .ok (.iinc 4 1, 3) := by decide +kernel
theorem dX8_odds_110 : decode cX8_odds 110 = .ok (.goto (-72), 3) := by decide +kernel
theorem dX8_odds_113 : decode cX8_odds 113 = .ok (.iload_n 3, 1) := by decide +kernel
theorem dX8_odds_114 : decode cX8_odds 114 = .ok (.i2l, 1) := by decide +kernel
theorem dX8_odds_115 : decode cX8_odds 115 = .ok (.aload_n 0, 1) := by decide +kernel
theorem dX8_odds_116 : decode cX8_odds 116 = .ok (.getfield 9, 3) := by decide +kernel
theorem dX8_odds_119 : decode cX8_odds 119 = .ok (.bipush 48, 2) := by decide +kernel
theorem dX8_odds_121 : decode cX8_odds 121 = .ok (.iaload, 1) := by decide +kernel
theorem dX8_odds_122 : decode cX8_odds 122 = .ok (.i2l, 1) := by decide +kernel
theorem dX8_odds_123 : decode cX8_odds 123 = .ok (.iload_n 2, 1) := by decide +kernel
theorem dX8_odds_124 : decode cX8_odds 124 = .ok (.invokestatic 223, 3) := by decide +kernel
theorem dX8_odds_127 : decode cX8_odds 127 = .ok (.lreturn, 1) := by decide +kernel
theorem dX8_mean_0 : decode cX8_mean 0 = .ok (.iload_n 1, 1) := by decide +kernel
theorem dX8_mean_1 : decode cX8_mean 1 = .ok (.iconst 0, 1) := by decide +kernel
theorem dX8_mean_2 : decode cX8_mean 2 = .ok (.iconst 1, 1) := by decide +kernel
theorem dX8_mean_3 : decode cX8_mean 3 = .ok (.invokestatic 77, 3) := by decide +kernel
theorem dX8_mean_6 : decode cX8_mean 6 = .ok (.ifCond .eq 13, 3) := by decide +kernel
theorem dX8_mean_9 : decode cX8_mean 9 = .ok (.aload_n 0, 1) := by decide +kernel
theorem dX8_mean_10 : decode cX8_mean 10 = .ok (.getfield 9, 3) := by decide +kernel
theorem dX8_mean_13 : decode cX8_mean 13 = .ok (.bipush 48, 2) := by decide +kernel
theorem dX8_mean_15 : decode cX8_mean 15 = .ok (.iaload, 1) := by decide +kernel
theorem dX8_mean_16 : decode cX8_mean 16 = .ok (.ifCond .ne 7, 3) := by decide +kernel
theorem dX8_mean_19 : decode cX8_mean 19 = .ok (.ldc2_w 221, 3) := by decide +kernel
theorem dX8_mean_22 : decode cX8_mean 22 = .ok (.lreturn, 1) := by decide +kernel
theorem dX8_mean_23 : decode cX8_mean 23 = .ok (.iconst 0, 1) := by decide +kernel
theorem dX8_mean_24 : decode cX8_mean 24 = .ok (.istore_n 2, 1) := by decide +kernel
theorem dX8_mean_25 : decode cX8_mean 25 = .ok (.iconst 0, 1) := by decide +kernel
theorem dX8_mean_26 : decode cX8_mean 26 = .ok (.istore_n 3, 1) := by decide +kernel
theorem dX8_mean_27 : decode cX8_mean 27 = .ok (.iload_n 3, 1) := by decide +kernel
theorem dX8_mean_28 : decode cX8_mean 28 = .ok (.aload_n 0, 1) := by decide +kernel
theorem dX8_mean_29 : decode cX8_mean 29 = .ok (.getfield 9, 3) := by decide +kernel
theorem dX8_mean_32 : decode cX8_mean 32 = .ok (.bipush 48, 2) := by decide +kernel
theorem dX8_mean_34 : decode cX8_mean 34 = .ok (.iaload, 1) := by decide +kernel
theorem dX8_mean_35 : decode cX8_mean 35 = .ok (.if_icmp .ge 26, 3) := by decide +kernel
theorem dX8_mean_38 : decode cX8_mean 38 = .ok (.iload_n 2, 1) := by decide +kernel
theorem dX8_mean_39 : decode cX8_mean 39 = .ok (.aload_n 0, 1) := by decide +kernel
theorem dX8_mean_40 : decode cX8_mean 40 = .ok (.aload_n 0, 1) := by decide +kernel
theorem dX8_mean_41 : decode cX8_mean 41 = .ok (.getfield 9, 3) := by decide +kernel
theorem dX8_mean_44 : decode cX8_mean 44 = .ok (.bipush 42, 2) := by decide +kernel
theorem dX8_mean_46 : decode cX8_mean 46 = .ok (.iload_n 3, 1) := by decide +kernel
theorem dX8_mean_47 : decode cX8_mean 47 = .ok (.iadd, 1) := by decide +kernel
theorem dX8_mean_48 : decode cX8_mean 48 = .ok (.iaload, 1) := by decide +kernel
theorem dX8_mean_49 : decode cX8_mean 49 = .ok (.iconst 2, 1) := by decide +kernel
theorem dX8_mean_50 : decode cX8_mean 50 = .ok (.invokevirtual 81, 3) := by decide +kernel
theorem dX8_mean_53 : decode cX8_mean 53 = .ok (.iadd, 1) := by decide +kernel
theorem dX8_mean_54 : decode cX8_mean 54 = .ok (.istore_n 2, 1) := by decide +kernel
theorem dX8_mean_55 : decode cX8_mean 55 = .ok (.iinc 3 1, 3) := by decide +kernel
theorem dX8_mean_58 : decode cX8_mean 58 = .ok (.goto (-31), 3) := by decide +kernel
theorem dX8_mean_61 : decode cX8_mean 61 = .ok (.iload_n 2, 1) := by decide +kernel
theorem dX8_mean_62 : decode cX8_mean 62 = .ok (.i2l, 1) := by decide +kernel
theorem dX8_mean_63 : decode cX8_mean 63 = .ok (.aload_n 0, 1) := by decide +kernel
theorem dX8_mean_64 : decode cX8_mean 64 = .ok (.getfield 9, 3) := by decide +kernel
theorem dX8_mean_67 : decode cX8_mean 67 = .ok (.bipush 48, 2) := by decide +kernel
theorem dX8_mean_69 : decode cX8_mean 69 = .ok (.iaload, 1) := by decide +kernel
theorem dX8_mean_70 : decode cX8_mean 70 = .ok (.i2l, 1) := by decide +kernel
theorem dX8_mean_71 : decode cX8_mean 71 = .ok (.iload_n 1, 1) := by decide +kernel
theorem dX8_mean_72 : decode cX8_mean 72 = .ok (.invokestatic 223, 3) := by decide +kernel
theorem dX8_mean_75 : decode cX8_mean 75 = .ok (.lreturn, 1) := by decide +kernel
theorem dX8_plan_0 : decode cX8_plan 0 = .ok (.iload_n 1, 1) := by decide +kernel
theorem dX8_plan_1 : decode cX8_plan 1 = .ok (.iconst (-1), 1) := by decide +kernel
theorem dX8_plan_2 : decode cX8_plan 2 = .ok (.if_icmp .ne 13, 3) := by decide +kernel
theorem dX8_plan_5 : decode cX8_plan 5 = .ok (.aload_n 0, 1) := by decide +kernel
theorem dX8_plan_6 : decode cX8_plan 6 = .ok (.getfield 9, 3) := by decide +kernel
theorem dX8_plan_9 : decode cX8_plan 9 = .ok (.bipush 70, 2) := by decide +kernel
theorem dX8_plan_11 : decode cX8_plan 11 = .ok (.iconst 0, 1) := by decide +kernel
theorem dX8_plan_12 : decode cX8_plan 12 = .ok (.iastore, 1) := by decide +kernel
theorem dX8_plan_13 : decode cX8_plan 13 = .ok (.iconst 0, 1) := by decide +kernel
theorem dX8_plan_14 : decode cX8_plan 14 = .ok (.ireturn, 1) := by decide +kernel
theorem dX8_plan_15 : decode cX8_plan 15 = .ok (.iload_n 1, 1) := by decide +kernel
theorem dX8_plan_16 : decode cX8_plan 16 = .ok (.iconst 0, 1) := by decide +kernel
theorem dX8_plan_17 : decode cX8_plan 17 = .ok (.iconst 3, 1) := by decide +kernel
theorem dX8_plan_18 : decode cX8_plan 18 = .ok (.invokestatic 77, 3) := by decide +kernel
theorem dX8_plan_21 : decode cX8_plan 21 = .ok (.ifCond .eq 21, 3) := by decide +kernel
theorem dX8_plan_24 : decode cX8_plan 24 = .ok (.iload_n 1, 1) := by decide +kernel
theorem dX8_plan_25 : decode cX8_plan 25 = .ok (.iconst 1, 1) := by decide +kernel
theorem dX8_plan_26 : decode cX8_plan 26 = .ok (.if_icmp .eq 8, 3) := by decide +kernel
theorem dX8_plan_29 : decode cX8_plan 29 = .ok (.iload_n 1, 1) := by decide +kernel
theorem dX8_plan_30 : decode cX8_plan 30 = .ok (.iconst 2, 1) := by decide +kernel
theorem dX8_plan_31 : decode cX8_plan 31 = .ok (.if_icmp .ne 13, 3) := by decide +kernel
theorem dX8_plan_34 : decode cX8_plan 34 = .ok (.aload_n 0, 1) := by decide +kernel
theorem dX8_plan_35 : decode cX8_plan 35 = .ok (.iload_n 2, 1) := by decide +kernel
theorem dX8_plan_36 : decode cX8_plan 36 = .ok (.invokevirtual 97, 3) := by decide +kernel
theorem dX8_plan_39 : decode cX8_plan 39 = .ok (.ifCond .ne 5, 3) := by decide +kernel
theorem dX8_plan_42 : decode cX8_plan 42 = .ok (.iconst (-1), 1) := by decide +kernel
theorem dX8_plan_43 : decode cX8_plan 43 = .ok (.ireturn, 1) := by decide +kernel
theorem dX8_plan_44 : decode cX8_plan 44 = .ok (.aload_n 0, 1) := by decide +kernel
theorem dX8_plan_45 : decode cX8_plan 45 = .ok (.getfield 9, 3) := by decide +kernel
theorem dX8_plan_48 : decode cX8_plan 48 = .ok (.bipush 70, 2) := by decide +kernel
theorem dX8_plan_50 : decode cX8_plan 50 = .ok (.iaload, 1) := by decide +kernel
theorem dX8_plan_51 : decode cX8_plan 51 = .ok (.bipush 10, 2) := by decide +kernel
theorem dX8_plan_53 : decode cX8_plan 53 = .ok (.if_icmp .ne 6, 3) := by decide +kernel
theorem dX8_plan_56 : decode cX8_plan 56 = .ok (.bipush (-4), 2) := by decide +kernel
theorem dX8_plan_58 : decode cX8_plan 58 = .ok (.ireturn, 1) := by decide +kernel
theorem dX8_plan_59 : decode cX8_plan 59 = .ok (.aload_n 0, 1) := by decide +kernel
theorem dX8_plan_60 : decode cX8_plan 60 = .ok (.getfield 9, 3) := by decide +kernel
theorem dX8_plan_63 : decode cX8_plan 63 = .ok (.bipush 71, 2) := by decide +kernel
theorem dX8_plan_65 : decode cX8_plan 65 = .ok (.iconst 2, 1) := by decide +kernel
theorem dX8_plan_66 : decode cX8_plan 66 = .ok (.aload_n 0, 1) := by decide +kernel
theorem dX8_plan_67 : decode cX8_plan 67 = .ok (.getfield 9, 3) := by decide +kernel
theorem dX8_plan_70 : decode cX8_plan 70 = .ok (.bipush 70, 2) := by decide +kernel
theorem dX8_plan_72 : decode cX8_plan 72 = .ok (.iaload, 1) := by decide +kernel
theorem dX8_plan_73 : decode cX8_plan 73 = .ok (.imul, 1) := by decide +kernel
theorem dX8_plan_74 : decode cX8_plan 74 = .ok (.iadd, 1) := by decide +kernel
theorem dX8_plan_75 : decode cX8_plan 75 = .ok (.iload_n 1, 1) := by decide +kernel
theorem dX8_plan_76 : decode cX8_plan 76 = .ok (.iastore, 1) := by decide +kernel
theorem dX8_plan_77 : decode cX8_plan 77 = .ok (.aload_n 0, 1) := by decide +kernel
theorem dX8_plan_78 : decode cX8_plan 78 = .ok (.getfield 9, 3) := by decide +kernel
theorem dX8_plan_81 : decode cX8_plan 81 = .ok (.bipush 72, 2) := by decide +kernel
theorem dX8_plan_83 : decode cX8_plan 83 = .ok (.iconst 2, 1) := by decide +kernel
theorem dX8_plan_84 : decode cX8_plan 84 = .ok (.aload_n 0, 1) := by decide +kernel
theorem dX8_plan_85 : decode cX8_plan 85 = .ok (.getfield 9, 3) := by decide +kernel
theorem dX8_plan_88 : decode cX8_plan 88 = .ok (.bipush 70, 2) := by decide +kernel
theorem dX8_plan_90 : decode cX8_plan 90 = .ok (.iaload, 1) := by decide +kernel
theorem dX8_plan_91 : decode cX8_plan 91 = .ok (.imul, 1) := by decide +kernel
theorem dX8_plan_92 : decode cX8_plan 92 = .ok (.iadd, 1) := by decide +kernel
theorem dX8_plan_93 : decode cX8_plan 93 = .ok (.iload_n 2, 1) := by decide +kernel
theorem dX8_plan_94 : decode cX8_plan 94 = .ok (.iastore, 1) := by decide +kernel
theorem dX8_plan_95 : decode cX8_plan 95 = .ok (.aload_n 0, 1) := by decide +kernel
theorem dX8_plan_96 : decode cX8_plan 96 = .ok (.getfield 9, 3) := by decide +kernel
theorem dX8_plan_99 : decode cX8_plan 99 = .ok (.bipush 70, 2) := by decide +kernel
theorem dX8_plan_101 : decode cX8_plan 101 = .ok (.dup2, 1) := by decide +kernel
theorem dX8_plan_102 : decode cX8_plan 102 = .ok (.iaload, 1) := by decide +kernel
theorem dX8_plan_103 : decode cX8_plan 103 = .ok (.iconst 1, 1) := by decide +kernel
theorem dX8_plan_104 : decode cX8_plan 104 = .ok (.iadd, 1) := by decide +kernel
theorem dX8_plan_105 : decode cX8_plan 105 = .ok (.iastore, 1) := by decide +kernel
theorem dX8_plan_106 : decode cX8_plan 106 = .ok (.aload_n 0, 1) := by decide +kernel
theorem dX8_plan_107 : decode cX8_plan 107 = .ok (.getfield 9, 3) := by decide +kernel
theorem dX8_plan_110 : decode cX8_plan 110 = .ok (.bipush 70, 2) := by decide +kernel
theorem dX8_plan_112 : decode cX8_plan 112 = .ok (.iaload, 1) := by decide +kernel
theorem dX8_plan_113 : decode cX8_plan 113 = .ok (.ireturn, 1) := by decide +kernel
theorem dX8_ends_0 : decode cX8_ends 0 = .ok (.iload_n 1, 1) := by decide +kernel
theorem dX8_ends_1 : decode cX8_ends 1 = .ok (.iconst 0, 1) := by decide +kernel
theorem dX8_ends_2 : decode cX8_ends 2 = .ok (.iconst 1, 1) := by decide +kernel
theorem dX8_ends_3 : decode cX8_ends 3 = .ok (.invokestatic 77, 3) := by decide +kernel
theorem dX8_ends_6 : decode cX8_ends 6 = .ok (.ifCond .ne 5, 3) := by decide +kernel
theorem dX8_ends_9 : decode cX8_ends 9 = .ok (.iconst (-1), 1) := by decide +kernel
theorem dX8_ends_10 : decode cX8_ends 10 = .ok (.ireturn, 1) := by decide +kernel
theorem dX8_ends_11 : decode cX8_ends 11 = .ok (.aload_n 0, 1) := by decide +kernel
theorem dX8_ends_12 : decode cX8_ends 12 = .ok (.getfield 9, 3) := by decide +kernel
theorem dX8_ends_15 : decode cX8_ends 15 = .ok (.aload_n 0, 1) := by decide +kernel
theorem dX8_ends_16 : decode cX8_ends 16 = .ok (.getfield 15, 3) := by decide +kernel
theorem dX8_ends_19 : decode cX8_ends 19 = .ok (.invokestatic 73, 3) := by decide +kernel
theorem dX8_ends_22 : decode cX8_ends 22 = .ok (.iconst 0, 1) := by decide +kernel
theorem dX8_ends_23 : decode cX8_ends 23 = .ok (.istore_n 2, 1) := by decide +kernel
theorem dX8_ends_24 : decode cX8_ends 24 = .ok (.iload_n 2, 1) := by decide +kernel
theorem dX8_ends_25 : decode cX8_ends 25 = .ok (.aload_n 0, 1) := by decide +kernel
theorem dX8_ends_26 : decode cX8_ends 26 = .ok (.getfield 9, 3) := by decide +kernel
theorem dX8_ends_29 : decode cX8_ends 29 = .ok (.bipush 70, 2) := by decide +kernel
theorem dX8_ends_31 : decode cX8_ends 31 = .ok (.iaload, 1) := by decide +kernel
theorem dX8_ends_32 : decode cX8_ends 32 = .ok (.if_icmp .ge 80, 3) := by decide +kernel
theorem dX8_ends_35 : decode cX8_ends 35 = .ok (.aload_n 0, 1) := by decide +kernel
theorem dX8_ends_36 : decode cX8_ends 36 = .ok (.getfield 9, 3) := by decide +kernel
theorem dX8_ends_39 : decode cX8_ends 39 = .ok (.bipush 71, 2) := by decide +kernel
theorem dX8_ends_41 : decode cX8_ends 41 = .ok (.iconst 2, 1) := by decide +kernel
theorem dX8_ends_42 : decode cX8_ends 42 = .ok (.iload_n 2, 1) := by decide +kernel
theorem dX8_ends_43 : decode cX8_ends 43 = .ok (.imul, 1) := by decide +kernel
theorem dX8_ends_44 : decode cX8_ends 44 = .ok (.iadd, 1) := by decide +kernel
theorem dX8_ends_45 : decode cX8_ends 45 = .ok (.iaload, 1) := by decide +kernel
theorem dX8_ends_46 : decode cX8_ends 46 = .ok (.istore_n 3, 1) := by decide +kernel
theorem dX8_ends_47 : decode cX8_ends 47 = .ok (.aload_n 0, 1) := by decide +kernel
theorem dX8_ends_48 : decode cX8_ends 48 = .ok (.getfield 9, 3) := by decide +kernel
theorem dX8_ends_51 : decode cX8_ends 51 = .ok (.bipush 72, 2) := by decide +kernel
theorem dX8_ends_53 : decode cX8_ends 53 = .ok (.iconst 2, 1) := by decide +kernel
theorem dX8_ends_54 : decode cX8_ends 54 = .ok (.iload_n 2, 1) := by decide +kernel
theorem dX8_ends_55 : decode cX8_ends 55 = .ok (.imul, 1) := by decide +kernel
theorem dX8_ends_56 : decode cX8_ends 56 = .ok (.iadd, 1) := by decide +kernel
theorem dX8_ends_57 : decode cX8_ends 57 = .ok (.iaload, 1) := by decide +kernel
theorem dX8_ends_58 : decode cX8_ends 58 = .ok (.istore 4, 2) := by decide +kernel
theorem dX8_ends_60 : decode cX8_ends 60 = .ok (.iload_n 3, 1) := by decide +kernel
theorem dX8_ends_61 : decode cX8_ends 61 = .ok (.ifCond .ne 10, 3) := by decide +kernel
theorem dX8_ends_64 : decode cX8_ends 64 = .ok (.aload_n 0, 1) := by decide +kernel
theorem dX8_ends_65 : decode cX8_ends 65 = .ok (.invokevirtual 196, 3) := by decide +kernel
theorem dX8_ends_68 : decode cX8_ends 68 = .ok (.goto 38, 3) := by decide +kernel
theorem dX8_ends_71 : decode cX8_ends 71 = .ok (.iload_n 3, 1) := by decide +kernel
theorem dX8_ends_72 : decode cX8_ends 72 = .ok (.iconst 3, 1) := by decide +kernel
theorem dX8_ends_73 : decode cX8_ends 73 = .ok (.if_icmp .ne 14, 3) := by decide +kernel
theorem dX8_ends_76 : decode cX8_ends 76 = .ok (.aload_n 0, 1) := by decide +kernel
theorem dX8_ends_77 : decode cX8_ends 77 = .ok (.getfield 9, 3) := by decide +kernel
theorem dX8_ends_80 : decode cX8_ends 80 = .ok (.bipush 50, 2) := by decide +kernel
theorem dX8_ends_82 : decode cX8_ends 82 = .ok (.iconst 0, 1) := by decide +kernel
theorem dX8_ends_83 : decode cX8_ends 83 = .ok (.iastore, 1) := by decide +kernel
theorem dX8_ends_84 : decode cX8_ends 84 = .ok (.goto 22, 3) := by decide +kernel
theorem dX8_ends_87 : decode cX8_ends 87 = .ok (.aload_n 0, 1) := by decide +kernel
theorem dX8_ends_88 : decode cX8_ends 88 = .ok (.iload 4, 2) := by decide +kernel
theorem dX8_ends_90 : decode cX8_ends 90 = .ok (.iconst 2, 1) := by decide +kernel
theorem dX8_ends_91 : decode cX8_ends 91 = .ok (.iload_n 3, 1) := by decide +kernel
theorem dX8_ends_92 : decode cX8_ends 92 = .ok (.iconst 1, 1) := by decide +kernel
theorem dX8_ends_93 : decode cX8_ends 93 = .ok (.if_icmp .ne 7, 3) := by decide +kernel
theorem dX8_ends_96 : decode cX8_ends 96 = .ok (.iconst 0, 1) := by decide +kernel
theorem dX8_ends_97 : decode cX8_ends 97 = .ok (.goto 5, 3) := by decide +kernel
theorem dX8_ends_100 : decode cX8_ends 100 = .ok (.bipush 9, 2) := by decide +kernel
theorem dX8_ends_102 : decode cX8_ends 102 = .ok (.invokevirtual 89, 3) := by decide +kernel
theorem dX8_ends_105 : decode cX8_ends 105 = .ok (.pop, 1) := by decide +kernel
theorem dX8_ends_106 : decode cX8_ends 106 = .ok (.iinc 2 1, 3) := by decide +kernel
theorem dX8_ends_109 : decode cX8_ends 109 = .ok (.goto (-85), 3) := by decide +kernel
theorem dX8_ends_112 : decode cX8_ends 112 = .ok (.iload_n 1, 1) := by decide +kernel
theorem dX8_ends_113 : decode cX8_ends 113 = .ok (.ifCond .ne 10, 3) := by decide +kernel
theorem dX8_ends_116 : decode cX8_ends 116 = .ok (.aload_n 0, 1) := by decide +kernel
theorem dX8_ends_117 : decode cX8_ends 117 = .ok (.invokevirtual 209, 3) := by decide +kernel
theorem dX8_ends_120 : decode cX8_ends 120 = .ok (.goto 10, 3) := by decide +kernel
theorem dX8_ends_123 : decode cX8_ends 123 = .ok (.aload_n 0, 1) := by decide +kernel
theorem dX8_ends_124 : decode cX8_ends 124 = .ok (.getfield 9, 3) := by decide +kernel
theorem dX8_ends_127 : decode cX8_ends 127 = .ok (.bipush 51, 2) := by decide +kernel
theorem dX8_ends_129 : decode cX8_ends 129 = .ok (.iaload, 1) := by decide +kernel
theorem dX8_ends_130 : decode cX8_ends 130 = .ok (.istore_n 2, 1) := by decide +kernel
theorem dX8_ends_131 : decode cX8_ends 131 = .ok (.aload_n 0, 1) := by decide +kernel
theorem dX8_ends_132 : decode cX8_ends 132 = .ok (.getfield 15, 3) := by decide +kernel
theorem dX8_ends_135 : decode cX8_ends 135 = .ok (.aload_n 0, 1) := by decide +kernel
theorem dX8_ends_136 : decode cX8_ends 136 = .ok (.getfield 9, 3) := by decide +kernel
theorem dX8_ends_139 : decode cX8_ends 139 = .ok (.invokestatic 73, 3) := by decide +kernel
theorem dX8_ends_142 : decode cX8_ends 142 = .ok (.iload_n 2, 1) := by decide +kernel
theorem dX8_ends_143 : decode cX8_ends 143 = .ok (.ireturn, 1) := by decide +kernel
theorem dX8_book_0 : decode cX8_book 0 = .ok (.iload_n 1, 1) := by decide +kernel
theorem dX8_book_1 : decode cX8_book 1 = .ok (.iconst (-1), 1) := by decide +kernel
theorem dX8_book_2 : decode cX8_book 2 = .ok (.if_icmp .ne 13, 3) := by decide +kernel
theorem dX8_book_5 : decode cX8_book 5 = .ok (.aload_n 0, 1) := by decide +kernel
theorem dX8_book_6 : decode cX8_book 6 = .ok (.getfield 9, 3) := by decide +kernel
theorem dX8_book_9 : decode cX8_book 9 = .ok (.bipush 91, 2) := by decide +kernel
theorem dX8_book_11 : decode cX8_book 11 = .ok (.iconst 0, 1) := by decide +kernel
theorem dX8_book_12 : decode cX8_book 12 = .ok (.iastore, 1) := by decide +kernel
theorem dX8_book_13 : decode cX8_book 13 = .ok (.iconst 0, 1) := by decide +kernel
theorem dX8_book_14 : decode cX8_book 14 = .ok (.ireturn, 1) := by decide +kernel
theorem dX8_book_15 : decode cX8_book 15 = .ok (.aload_n 0, 1) := by decide +kernel
theorem dX8_book_16 : decode cX8_book 16 = .ok (.iload_n 1, 1) := by decide +kernel
theorem dX8_book_17 : decode cX8_book 17 = .ok (.invokevirtual 97, 3) := by decide +kernel
theorem dX8_book_20 : decode cX8_book 20 = .ok (.ifCond .ne 5, 3) := by decide +kernel
theorem dX8_book_23 : decode cX8_book 23 = .ok (.iconst (-1), 1) := by decide +kernel
theorem dX8_book_24 : decode cX8_book 24 = .ok (.ireturn, 1) := by decide +kernel
theorem dX8_book_25 : decode cX8_book 25 = .ok (.iload_n 2, 1) := by decide +kernel
theorem dX8_book_26 : decode cX8_book 26 = .ok (.iconst 0, 1) := by decide +kernel
theorem dX8_book_27 : decode cX8_book 27 = .ok (.bipush 9, 2) := by decide +kernel
theorem dX8_book_29 : decode cX8_book 29 = .ok (.invokestatic 77, 3) := by decide +kernel
theorem dX8_book_32 : decode cX8_book 32 = .ok (.ifCond .ne 6, 3) := by decide +kernel
theorem dX8_book_35 : decode cX8_book 35 = .ok (.bipush (-2), 2) := by decide +kernel
theorem dX8_book_37 : decode cX8_book 37 = .ok (.ireturn, 1) := by decide +kernel
theorem dX8_book_38 : decode cX8_book 38 = .ok (.aload_n 0, 1) := by decide +kernel
theorem dX8_book_39 : decode cX8_book 39 = .ok (.getfield 9, 3) := by decide +kernel
theorem dX8_book_42 : decode cX8_book 42 = .ok (.bipush 91, 2) := by decide +kernel
theorem dX8_book_44 : decode cX8_book 44 = .ok (.iaload, 1) := by decide +kernel
theorem dX8_book_45 : decode cX8_book 45 = .ok (.bipush 8, 2) := by decide +kernel
theorem dX8_book_47 : decode cX8_book 47 = .ok (.if_icmp .ne 6, 3) := by decide +kernel
theorem dX8_book_50 : decode cX8_book 50 = .ok (.bipush (-4), 2) := by decide +kernel
theorem dX8_book_52 : decode cX8_book 52 = .ok (.ireturn, 1) := by decide +kernel
theorem dX8_book_53 : decode cX8_book 53 = .ok (.aload_n 0, 1) := by decide +kernel
theorem dX8_book_54 : decode cX8_book 54 = .ok (.getfield 9, 3) := by decide +kernel
theorem dX8_book_57 : decode cX8_book 57 = .ok (.bipush 92, 2) := by decide +kernel
theorem dX8_book_59 : decode cX8_book 59 = .ok (.iconst 2, 1) := by decide +kernel
theorem dX8_book_60 : decode cX8_book 60 = .ok (.aload_n 0, 1) := by decide +kernel
theorem dX8_book_61 : decode cX8_book 61 = .ok (.getfield 9, 3) := by decide +kernel
theorem dX8_book_64 : decode cX8_book 64 = .ok (.bipush 91, 2) := by decide +kernel
theorem dX8_book_66 : decode cX8_book 66 = .ok (.iaload, 1) := by decide +kernel
theorem dX8_book_67 : decode cX8_book 67 = .ok (.imul, 1) := by decide +kernel
theorem dX8_book_68 : decode cX8_book 68 = .ok (.iadd, 1) := by decide +kernel
theorem dX8_book_69 : decode cX8_book 69 = .ok (.iload_n 1, 1) := by decide +kernel
theorem dX8_book_70 : decode cX8_book 70 = .ok (.iastore, 1) := by decide +kernel
theorem dX8_book_71 : decode cX8_book 71 = .ok (.aload_n 0, 1) := by decide +kernel
theorem dX8_book_72 : decode cX8_book 72 = .ok (.getfield 9, 3) := by decide +kernel
theorem dX8_book_75 : decode cX8_book 75 = .ok (.bipush 93, 2) := by decide +kernel
theorem dX8_book_77 : decode cX8_book 77 = .ok (.iconst 2, 1) := by decide +kernel
theorem dX8_book_78 : decode cX8_book 78 = .ok (.aload_n 0, 1) := by decide +kernel
theorem dX8_book_79 : decode cX8_book 79 = .ok (.getfield 9, 3) := by decide +kernel
theorem dX8_book_82 : decode cX8_book 82 = .ok (.bipush 91, 2) := by decide +kernel
theorem dX8_book_84 : decode cX8_book 84 = .ok (.iaload, 1) := by decide +kernel
theorem dX8_book_85 : decode cX8_book 85 = .ok (.imul, 1) := by decide +kernel
theorem dX8_book_86 : decode cX8_book 86 = .ok (.iadd, 1) := by decide +kernel
theorem dX8_book_87 : decode cX8_book 87 = .ok (.iload_n 2, 1) := by decide +kernel
theorem dX8_book_88 : decode cX8_book 88 = .ok (.iastore, 1) := by decide +kernel
theorem dX8_book_89 : decode cX8_book 89 = .ok (.aload_n 0, 1) := by decide +kernel
theorem dX8_book_90 : decode cX8_book 90 = .ok (.getfield 9, 3) := by decide +kernel
theorem dX8_book_93 : decode cX8_book 93 = .ok (.bipush 91, 2) := by decide +kernel
theorem dX8_book_95 : decode cX8_book 95 = .ok (.dup2, 1) := by decide +kernel
theorem dX8_book_96 : decode cX8_book 96 = .ok (.iaload, 1) := by decide +kernel
theorem dX8_book_97 : decode cX8_book 97 = .ok (.iconst 1, 1) := by decide +kernel
theorem dX8_book_98 : decode cX8_book 98 = .ok (.iadd, 1) := by decide +kernel
theorem dX8_book_99 : decode cX8_book 99 = .ok (.iastore, 1) := by decide +kernel
theorem dX8_book_100 : decode cX8_book 100 = .ok (.aload_n 0, 1) := by decide +kernel
theorem dX8_book_101 : decode cX8_book 101 = .ok (.getfield 9, 3) := by decide +kernel
theorem dX8_book_104 : decode cX8_book 104 = .ok (.bipush 91, 2) := by decide +kernel
theorem dX8_book_106 : decode cX8_book 106 = .ok (.iaload, 1) := by decide +kernel
theorem dX8_book_107 : decode cX8_book 107 = .ok (.ireturn, 1) := by decide +kernel
theorem dX8_looked_0 : decode cX8_looked 0 = .ok (.iconst 0, 1) := by decide +kernel
theorem dX8_looked_1 : decode cX8_looked 1 = .ok (.istore_n 1, 1) := by decide +kernel
theorem dX8_looked_2 : decode cX8_looked 2 = .ok (.iload_n 1, 1) := by decide +kernel
theorem dX8_looked_3 : decode cX8_looked 3 = .ok (.aload_n 0, 1) := by decide +kernel
theorem dX8_looked_4 : decode cX8_looked 4 = .ok (.getfield 9, 3) := by decide +kernel
theorem dX8_looked_7 : decode cX8_looked 7 = .ok (.bipush 91, 2) := by decide +kernel
theorem dX8_looked_9 : decode cX8_looked 9 = .ok (.iaload, 1) := by decide +kernel
theorem dX8_looked_10 : decode cX8_looked 10 = .ok (.if_icmp .ge 41, 3) := by decide +kernel
theorem dX8_looked_13 : decode cX8_looked 13 = .ok (.aload_n 0, 1) := by decide +kernel
theorem dX8_looked_14 : decode cX8_looked 14 = .ok (.aload_n 0, 1) := by decide +kernel
theorem dX8_looked_15 : decode cX8_looked 15 = .ok (.getfield 9, 3) := by decide +kernel
theorem dX8_looked_18 : decode cX8_looked 18 = .ok (.bipush 92, 2) := by decide +kernel
theorem dX8_looked_20 : decode cX8_looked 20 = .ok (.iconst 2, 1) := by decide +kernel
theorem dX8_looked_21 : decode cX8_looked 21 = .ok (.iload_n 1, 1) := by decide +kernel
theorem dX8_looked_22 : decode cX8_looked 22 = .ok (.imul, 1) := by decide +kernel
theorem dX8_looked_23 : decode cX8_looked 23 = .ok (.iadd, 1) := by decide +kernel
theorem dX8_looked_24 : decode cX8_looked 24 = .ok (.iaload, 1) := by decide +kernel
theorem dX8_looked_25 : decode cX8_looked 25 = .ok (.iconst 2, 1) := by decide +kernel
theorem dX8_looked_26 : decode cX8_looked 26 = .ok (.invokevirtual 81, 3) := by decide +kernel
theorem dX8_looked_29 : decode cX8_looked 29 = .ok (.aload_n 0, 1) := by decide +kernel
theorem dX8_looked_30 : decode cX8_looked 30 = .ok (.getfield 9, 3) := by decide +kernel
theorem dX8_looked_33 : decode cX8_looked 33 = .ok (.bipush 93, 2) := by decide +kernel
theorem dX8_looked_35 : decode cX8_looked 35 = .ok (.iconst 2, 1) := by decide +kernel
theorem dX8_looked_36 : decode cX8_looked 36 = .ok (.iload_n 1, 1) := by decide +kernel
theorem dX8_looked_37 : decode cX8_looked 37 = .ok (.imul, 1) := by decide +kernel
theorem dX8_looked_38 : decode cX8_looked 38 = .ok (.iadd, 1) := by decide +kernel
theorem dX8_looked_39 : decode cX8_looked 39 = .ok (.iaload, 1) := by decide +kernel
theorem dX8_looked_40 : decode cX8_looked 40 = .ok (.if_icmp .eq 5, 3) := by decide +kernel
theorem dX8_looked_43 : decode cX8_looked 43 = .ok (.iload_n 1, 1) := by decide +kernel
theorem dX8_looked_44 : decode cX8_looked 44 = .ok (.ireturn, 1) := by decide +kernel
theorem dX8_looked_45 : decode cX8_looked 45 = .ok (.iinc 1 1, 3) := by decide +kernel
theorem dX8_looked_48 : decode cX8_looked 48 = .ok (.goto (-46), 3) := by decide +kernel
theorem dX8_looked_51 : decode cX8_looked 51 = .ok (.bipush (-5), 2) := by decide +kernel
theorem dX8_looked_53 : decode cX8_looked 53 = .ok (.ireturn, 1) := by decide +kernel
theorem dX8_body_0 : decode cX8_body 0 = .ok (.aload_n 0, 1) := by decide +kernel
theorem dX8_body_1 : decode cX8_body 1 = .ok (.getfield 227, 3) := by decide +kernel
theorem dX8_body_4 : decode cX8_body 4 = .ok (.bipush 20, 2) := by decide +kernel
theorem dX8_body_6 : decode cX8_body 6 = .ok (.if_icmp .ge 13, 3) := by decide +kernel
theorem dX8_body_9 : decode cX8_body 9 = .ok (.aload_n 0, 1) := by decide +kernel
theorem dX8_body_10 : decode cX8_body 10 = .ok (.getfield 53, 3) := by decide +kernel
theorem dX8_body_13 : decode cX8_body 13 = .ok (.aload_n 0, 1) := by decide +kernel
theorem dX8_body_14 : decode cX8_body 14 = .ok (.getfield 227, 3) := by decide +kernel
theorem dX8_body_17 : decode cX8_body 17 = .ok (.iload_n 1, 1) := by decide +kernel
theorem dX8_body_18 : decode cX8_body 18 = .ok (.iastore, 1) := by decide +kernel
theorem dX8_body_19 : decode cX8_body 19 = .ok (.aload_n 0, 1) := by decide +kernel
theorem dX8_body_20 : decode cX8_body 20 = .ok (.dup, 1) := by decide +kernel
theorem dX8_body_21 : decode cX8_body 21 = .ok (.getfield 227, 3) := by decide +kernel
theorem dX8_body_24 : decode cX8_body 24 = .ok (.iconst 1, 1) := by decide +kernel
theorem dX8_body_25 : decode cX8_body 25 = .ok (.iadd, 1) := by decide +kernel
theorem dX8_body_26 : decode cX8_body 26 = .ok (.putfield 227, 3) := by decide +kernel
theorem dX8_body_29 : decode cX8_body 29 = .ok (.iload_n 1, 1) := by decide +kernel
theorem dX8_body_30 : decode cX8_body 30 = .ok (.ireturn, 1) := by decide +kernel
theorem dX8_all_0 : decode cX8_all 0 = .ok (.aload_n 0, 1) := by decide +kernel
theorem dX8_all_1 : decode cX8_all 1 = .ok (.aload_n 0, 1) := by decide +kernel
theorem dX8_all_2 : decode cX8_all 2 = .ok (.iload_n 1, 1) := by decide +kernel
theorem dX8_all_3 : decode cX8_all 3 = .ok (.iconst 0, 1) := by decide +kernel
theorem dX8_all_4 : decode cX8_all 4 = .ok (.invokevirtual 81, 3) := by decide +kernel
theorem dX8_all_7 : decode cX8_all 7 = .ok (.iload_n 1, 1) := by decide +kernel
theorem dX8_all_8 : decode cX8_all 8 = .ok (.iload_n 2, 1) := by decide +kernel
theorem dX8_all_9 : decode cX8_all 9 = .ok (.iload_n 3, 1) := by decide +kernel
theorem dX8_all_10 : decode cX8_all 10 = .ok (.invokevirtual 230, 3) := by decide +kernel
theorem dX8_all_13 : decode cX8_all 13 = .ok (.ireturn, 1) := by decide +kernel
theorem dX8_byKind_0 : decode cX8_byKind 0 = .ok (.iload_n 1, 1) := by decide +kernel
theorem dX8_byKind_1 : decode cX8_byKind 1 = .ok (.istore 5, 2) := by decide +kernel
theorem dX8_byKind_3 : decode cX8_byKind 3 = .ok (.aload_n 0, 1) := by decide +kernel
theorem dX8_byKind_4 : decode cX8_byKind 4 = .ok (.getfield 50, 3) := by decide +kernel
theorem dX8_byKind_7 : decode cX8_byKind 7 = .ok (.iconst 3, 1) := by decide +kernel
theorem dX8_byKind_8 : decode cX8_byKind 8 = .ok (.iload 5, 2) := by decide +kernel
theorem dX8_byKind_10 : decode cX8_byKind 10 = .ok (.imul, 1) := by decide +kernel
theorem dX8_byKind_11 : decode cX8_byKind 11 = .ok (.iload_n 3, 1) := by decide +kernel
theorem dX8_byKind_12 : decode cX8_byKind 12 = .ok (.iadd, 1) := by decide +kernel
theorem dX8_byKind_13 : decode cX8_byKind 13 = .ok (.iaload, 1) := by decide +kernel
theorem dX8_byKind_14 : decode cX8_byKind 14 = .ok (.ifCond .ne 15, 3) := by decide +kernel
theorem dX8_byKind_17 : decode cX8_byKind 17 = .ok (.aload_n 0, 1) := by decide +kernel
theorem dX8_byKind_18 : decode cX8_byKind 18 = .ok (.getfield 47, 3) := by decide +kernel
theorem dX8_byKind_21 : decode cX8_byKind 21 = .ok (.iload 5, 2) := by decide +kernel
theorem dX8_byKind_23 : decode cX8_byKind 23 = .ok (.iaload, 1) := by decide +kernel
theorem dX8_byKind_24 : decode cX8_byKind 24 = .ok (.istore 5, 2) := by decide +kernel
theorem dX8_byKind_26 : decode cX8_byKind 26 = .ok (.goto (-23), 3) := by decide +kernel
theorem dX8_byKind_29 : decode cX8_byKind 29 = .ok (.aload_n 0, 1) := by decide +kernel
theorem dX8_byKind_30 : decode cX8_byKind 30 = .ok (.getfield 47, 3) := by decide +kernel
theorem dX8_byKind_33 : decode cX8_byKind 33 = .ok (.iload 5, 2) := by decide +kernel
theorem dX8_byKind_35 : decode cX8_byKind 35 = .ok (.iaload, 1) := by decide +kernel
theorem dX8_byKind_36 : decode cX8_byKind 36 = .ok (.istore 6, 2) := by decide +kernel
theorem dX8_byKind_38 : decode cX8_byKind 38 = .ok (.aload_n 0, 1) := by decide +kernel
theorem dX8_byKind_39 : decode cX8_byKind 39 = .ok (.aload_n 0, 1) := by decide +kernel
theorem dX8_byKind_40 : decode cX8_byKind 40 = .ok (.getfield 50, 3) := by decide +kernel
theorem dX8_byKind_43 : decode cX8_byKind 43 = .ok (.iconst 3, 1) := by decide +kernel
theorem dX8_byKind_44 : decode cX8_byKind 44 = .ok (.iload 5, 2) := by decide +kernel
theorem dX8_byKind_46 : decode cX8_byKind 46 = .ok (.imul, 1) := by decide +kernel
theorem dX8_byKind_47 : decode cX8_byKind 47 = .ok (.iload_n 3, 1) := by decide +kernel
theorem dX8_byKind_48 : decode cX8_byKind 48 = .ok (.iadd, 1) := by decide +kernel
theorem dX8_byKind_49 : decode cX8_byKind 49 = .ok (.iaload, 1) := by decide +kernel
theorem dX8_byKind_50 : decode cX8_byKind 50 = .ok (.invokevirtual 234, 3) := by decide +kernel
theorem dX8_byKind_53 : decode cX8_byKind 53 = .ok (.lookupswitch 228 #[(10, 91), (11, 96), (12, 112), (20, 123), (30, 137), (40, 150), (50, 169), (51, 181), (60, 194), (70, 207)], 91) := by decide +kernel
theorem dX8_byKind_144 : decode cX8_byKind 144 = .ok (.iload 4, 2) := by decide +kernel
theorem dX8_byKind_146 : decode cX8_byKind 146 = .ok (.iload_n 2, 1) := by decide +kernel
theorem dX8_byKind_147 : decode cX8_byKind 147 = .ok (.iadd, 1) := by decide +kernel
theorem dX8_byKind_148 : decode cX8_byKind 148 = .ok (.ireturn, 1) := by decide +kernel
theorem dX8_byKind_149 : decode cX8_byKind 149 = .ok (.aload_n 0, 1) := by decide +kernel
theorem dX8_byKind_150 : decode cX8_byKind 150 = .ok (.iload_n 2, 1) := by decide +kernel
theorem dX8_byKind_151 : decode cX8_byKind 151 = .ok (.iconst 0, 1) := by decide +kernel
theorem dX8_byKind_152 : decode cX8_byKind 152 = .ok (.iload 4, 2) := by decide +kernel
theorem dX8_byKind_154 : decode cX8_byKind 154 = .ok (.invokevirtual 237, 3) := by decide +kernel
theorem dX8_byKind_157 : decode cX8_byKind 157 = .ok (.aload_n 0, 1) := by decide +kernel
theorem dX8_byKind_158 : decode cX8_byKind 158 = .ok (.iload_n 2, 1) := by decide +kernel
theorem dX8_byKind_159 : decode cX8_byKind 159 = .ok (.iconst 1, 1) := by decide +kernel
theorem dX8_byKind_160 : decode cX8_byKind 160 = .ok (.invokevirtual 81, 3) := by decide +kernel
theorem dX8_byKind_163 : decode cX8_byKind 163 = .ok (.isub, 1) := by decide +kernel
theorem dX8_byKind_164 : decode cX8_byKind 164 = .ok (.ireturn, 1) := by decide +kernel
theorem dX8_byKind_165 : decode cX8_byKind 165 = .ok (.aload_n 0, 1) := by decide +kernel
theorem dX8_byKind_166 : decode cX8_byKind 166 = .ok (.iload_n 2, 1) := by decide +kernel
theorem dX8_byKind_167 : decode cX8_byKind 167 = .ok (.iconst 1, 1) := by decide +kernel
theorem dX8_byKind_168 : decode cX8_byKind 168 = .ok (.iload 4, 2) := by decide +kernel
theorem dX8_byKind_170 : decode cX8_byKind 170 = .ok (.invokevirtual 237, 3) := by decide +kernel
theorem dX8_byKind_173 : decode cX8_byKind 173 = .ok (.iconst 2, 1) := by decide +kernel
theorem dX8_byKind_174 : decode cX8_byKind 174 = .ok (.imul, 1) := by decide +kernel
theorem dX8_byKind_175 : decode cX8_byKind 175 = .ok (.ireturn, 1) := by decide +kernel
theorem dX8_byKind_176 : decode cX8_byKind 176 = .ok (.aload_n 0, 1) := by decide +kernel
theorem dX8_byKind_177 : decode cX8_byKind 177 = .ok (.iload 6, 2) := by decide +kernel
theorem dX8_byKind_179 : decode cX8_byKind 179 = .ok (.iload_n 2, 1) := by decide +kernel
theorem dX8_byKind_180 : decode cX8_byKind 180 = .ok (.iconst 1, 1) := by decide +kernel
theorem dX8_byKind_181 : decode cX8_byKind 181 = .ok (.iload 4, 2) := by decide +kernel
theorem dX8_byKind_183 : decode cX8_byKind 183 = .ok (.invokevirtual 230, 3) := by decide +kernel
theorem dX8_byKind_186 : decode cX8_byKind 186 = .ok (.bipush 6, 2) := by decide +kernel
theorem dX8_byKind_188 : decode cX8_byKind 188 = .ok (.ixor, 1) := by decide +kernel
theorem dX8_byKind_189 : decode cX8_byKind 189 = .ok (.ireturn, 1) := by decide +kernel
theorem dX8_byKind_190 : decode cX8_byKind 190 = .ok (.aload_n 0, 1) := by decide +kernel
theorem dX8_byKind_191 : decode cX8_byKind 191 = .ok (.iload 6, 2) := by decide +kernel
theorem dX8_byKind_193 : decode cX8_byKind 193 = .ok (.iload_n 2, 1) := by decide +kernel
theorem dX8_byKind_194 : decode cX8_byKind 194 = .ok (.iconst 0, 1) := by decide +kernel
theorem dX8_byKind_195 : decode cX8_byKind 195 = .ok (.iload 4, 2) := by decide +kernel
theorem dX8_byKind_197 : decode cX8_byKind 197 = .ok (.iconst 3, 1) := by decide +kernel
theorem dX8_byKind_198 : decode cX8_byKind 198 = .ok (.imul, 1) := by decide +kernel
theorem dX8_byKind_199 : decode cX8_byKind 199 = .ok (.invokevirtual 230, 3) := by decide +kernel
theorem dX8_byKind_202 : decode cX8_byKind 202 = .ok (.ireturn, 1) := by decide +kernel
theorem dX8_byKind_203 : decode cX8_byKind 203 = .ok (.aload_n 0, 1) := by decide +kernel
theorem dX8_byKind_204 : decode cX8_byKind 204 = .ok (.iload 6, 2) := by decide +kernel
theorem dX8_byKind_206 : decode cX8_byKind 206 = .ok (.iload_n 2, 1) := by decide +kernel
theorem dX8_byKind_207 : decode cX8_byKind 207 = .ok (.iconst 2, 1) := by decide +kernel
theorem dX8_byKind_208 : decode cX8_byKind 208 = .ok (.iload 4, 2) := by decide +kernel
theorem dX8_byKind_210 : decode cX8_byKind 210 = .ok (.invokevirtual 230, 3) := by decide +kernel
theorem dX8_byKind_213 : decode cX8_byKind 213 = .ok (.aload_n 0, 1) := by decide +kernel
theorem dX8_byKind_214 : decode cX8_byKind 214 = .ok (.iload_n 2, 1) := by decide +kernel
theorem dX8_byKind_215 : decode cX8_byKind 215 = .ok (.iconst 1, 1) := by decide +kernel
theorem dX8_byKind_216 : decode cX8_byKind 216 = .ok (.iconst 1, 1) := by decide +kernel
theorem dX8_byKind_217 : decode cX8_byKind 217 = .ok (.invokevirtual 237, 3) := by decide +kernel
theorem dX8_byKind_220 : decode cX8_byKind 220 = .ok (.iadd, 1) := by decide +kernel
theorem dX8_byKind_221 : decode cX8_byKind 221 = .ok (.ireturn, 1) := by decide +kernel
theorem dX8_byKind_222 : decode cX8_byKind 222 = .ok (.aload_n 0, 1) := by decide +kernel
theorem dX8_byKind_223 : decode cX8_byKind 223 = .ok (.iload 6, 2) := by decide +kernel
theorem dX8_byKind_225 : decode cX8_byKind 225 = .ok (.iload_n 2, 1) := by decide +kernel
theorem dX8_byKind_226 : decode cX8_byKind 226 = .ok (.iconst 0, 1) := by decide +kernel
theorem dX8_byKind_227 : decode cX8_byKind 227 = .ok (.iload 4, 2) := by decide +kernel
theorem dX8_byKind_229 : decode cX8_byKind 229 = .ok (.invokevirtual 230, 3) := by decide +kernel
theorem dX8_byKind_232 : decode cX8_byKind 232 = .ok (.ineg, 1) := by decide +kernel
theorem dX8_byKind_233 : decode cX8_byKind 233 = .ok (.ireturn, 1) := by decide +kernel
theorem dX8_byKind_234 : decode cX8_byKind 234 = .ok (.aload_n 0, 1) := by decide +kernel
theorem dX8_byKind_235 : decode cX8_byKind 235 = .ok (.iload 6, 2) := by decide +kernel
theorem dX8_byKind_237 : decode cX8_byKind 237 = .ok (.iload_n 2, 1) := by decide +kernel
theorem dX8_byKind_238 : decode cX8_byKind 238 = .ok (.iconst 1, 1) := by decide +kernel
theorem dX8_byKind_239 : decode cX8_byKind 239 = .ok (.iload 4, 2) := by decide +kernel
theorem dX8_byKind_241 : decode cX8_byKind 241 = .ok (.iconst 1, 1) := by decide +kernel
theorem dX8_byKind_242 : decode cX8_byKind 242 = .ok (.iadd, 1) := by decide +kernel
theorem dX8_byKind_243 : decode cX8_byKind 243 = .ok (.invokevirtual 230, 3) := by decide +kernel
theorem dX8_byKind_246 : decode cX8_byKind 246 = .ok (.ireturn, 1) := by decide +kernel
theorem dX8_byKind_247 : decode cX8_byKind 247 = .ok (.aload_n 0, 1) := by decide +kernel
theorem dX8_byKind_248 : decode cX8_byKind 248 = .ok (.iload 6, 2) := by decide +kernel
theorem dX8_byKind_250 : decode cX8_byKind 250 = .ok (.iload_n 2, 1) := by decide +kernel
theorem dX8_byKind_251 : decode cX8_byKind 251 = .ok (.iconst 2, 1) := by decide +kernel
theorem dX8_byKind_252 : decode cX8_byKind 252 = .ok (.iload 4, 2) := by decide +kernel
theorem dX8_byKind_254 : decode cX8_byKind 254 = .ok (.iload_n 2, 1) := by decide +kernel
theorem dX8_byKind_255 : decode cX8_byKind 255 = .ok (.isub, 1) := by decide +kernel
theorem dX8_byKind_256 : decode cX8_byKind 256 = .ok (.invokevirtual 230, 3) := by decide +kernel
theorem dX8_byKind_259 : decode cX8_byKind 259 = .ok (.ireturn, 1) := by decide +kernel
theorem dX8_byKind_260 : decode cX8_byKind 260 = .ok (.aload_n 0, 1) := by decide +kernel
theorem dX8_byKind_261 : decode cX8_byKind 261 = .ok (.iload 6, 2) := by decide +kernel
theorem dX8_byKind_263 : decode cX8_byKind 263 = .ok (.iload_n 2, 1) := by decide +kernel
theorem dX8_byKind_264 : decode cX8_byKind 264 = .ok (.iconst 1, 1) := by decide +kernel
theorem dX8_byKind_265 : decode cX8_byKind 265 = .ok (.iload 4, 2) := by decide +kernel
theorem dX8_byKind_267 : decode cX8_byKind 267 = .ok (.invokevirtual 230, 3) := by decide +kernel
theorem dX8_byKind_270 : decode cX8_byKind 270 = .ok (.aload_n 0, 1) := by decide +kernel
theorem dX8_byKind_271 : decode cX8_byKind 271 = .ok (.iload 6, 2) := by decide +kernel
theorem dX8_byKind_273 : decode cX8_byKind 273 = .ok (.iload_n 2, 1) := by decide +kernel
theorem dX8_byKind_274 : decode cX8_byKind 274 = .ok (.iconst 0, 1) := by decide +kernel
theorem dX8_byKind_275 : decode cX8_byKind 275 = .ok (.iconst 2, 1) := by decide +kernel
theorem dX8_byKind_276 : decode cX8_byKind 276 = .ok (.invokevirtual 230, 3) := by decide +kernel
theorem dX8_byKind_279 : decode cX8_byKind 279 = .ok (.iadd, 1) := by decide +kernel
theorem dX8_byKind_280 : decode cX8_byKind 280 = .ok (.ireturn, 1) := by decide +kernel
theorem dX8_byKind_281 : decode cX8_byKind 281 = .ok (.aload_n 0, 1) := by decide +kernel
theorem dX8_byKind_282 : decode cX8_byKind 282 = .ok (.iload 6, 2) := by decide +kernel
theorem dX8_byKind_284 : decode cX8_byKind 284 = .ok (.iload_n 2, 1) := by decide +kernel
theorem dX8_byKind_285 : decode cX8_byKind 285 = .ok (.iconst 0, 1) := by decide +kernel
theorem dX8_byKind_286 : decode cX8_byKind 286 = .ok (.iload 4, 2) := by decide +kernel
theorem dX8_byKind_288 : decode cX8_byKind 288 = .ok (.invokevirtual 230, 3) := by decide +kernel
theorem dX8_byKind_291 : decode cX8_byKind 291 = .ok (.aload_n 0, 1) := by decide +kernel
theorem dX8_byKind_292 : decode cX8_byKind 292 = .ok (.iload_n 2, 1) := by decide +kernel
theorem dX8_byKind_293 : decode cX8_byKind 293 = .ok (.iconst 1, 1) := by decide +kernel
theorem dX8_byKind_294 : decode cX8_byKind 294 = .ok (.invokevirtual 81, 3) := by decide +kernel
theorem dX8_byKind_297 : decode cX8_byKind 297 = .ok (.ixor, 1) := by decide +kernel
theorem dX8_byKind_298 : decode cX8_byKind 298 = .ok (.ireturn, 1) := by decide +kernel
theorem dX8_act_0 : decode cX8_act 0 = .ok (.aload_n 0, 1) := by decide +kernel
theorem dX8_act_1 : decode cX8_act 1 = .ok (.iconst 0, 1) := by decide +kernel
theorem dX8_act_2 : decode cX8_act 2 = .ok (.putfield 227, 3) := by decide +kernel
theorem dX8_act_5 : decode cX8_act 5 = .ok (.aload_n 0, 1) := by decide +kernel
theorem dX8_act_6 : decode cX8_act 6 = .ok (.iload_n 1, 1) := by decide +kernel
theorem dX8_act_7 : decode cX8_act 7 = .ok (.invokevirtual 97, 3) := by decide +kernel
theorem dX8_act_10 : decode cX8_act 10 = .ok (.ifCond .eq 22, 3) := by decide +kernel
theorem dX8_act_13 : decode cX8_act 13 = .ok (.iload_n 2, 1) := by decide +kernel
theorem dX8_act_14 : decode cX8_act 14 = .ok (.iconst 0, 1) := by decide +kernel
theorem dX8_act_15 : decode cX8_act 15 = .ok (.iconst 2, 1) := by decide +kernel
theorem dX8_act_16 : decode cX8_act 16 = .ok (.invokestatic 77, 3) := by decide +kernel
theorem dX8_act_19 : decode cX8_act 19 = .ok (.ifCond .eq 13, 3) := by decide +kernel
theorem dX8_act_22 : decode cX8_act 22 = .ok (.aload_n 0, 1) := by decide +kernel
theorem dX8_act_23 : decode cX8_act 23 = .ok (.iload_n 1, 1) := by decide +kernel
theorem dX8_act_24 : decode cX8_act 24 = .ok (.iload_n 2, 1) := by decide +kernel
theorem dX8_act_25 : decode cX8_act 25 = .ok (.iload_n 3, 1) := by decide +kernel
theorem dX8_act_26 : decode cX8_act 26 = .ok (.invokevirtual 237, 3) := by decide +kernel
theorem dX8_act_29 : decode cX8_act 29 = .ok (.goto 4, 3) := by decide +kernel
theorem dX8_act_32 : decode cX8_act 32 = .ok (.iconst 0, 1) := by decide +kernel
theorem dX8_act_33 : decode cX8_act 33 = .ok (.ireturn, 1) := by decide +kernel
theorem dX8_trace_0 : decode cX8_trace 0 = .ok (.iload_n 1, 1) := by decide +kernel
theorem dX8_trace_1 : decode cX8_trace 1 = .ok (.iconst 0, 1) := by decide +kernel
theorem dX8_trace_2 : decode cX8_trace 2 = .ok (.bipush 20, 2) := by decide +kernel
theorem dX8_trace_4 : decode cX8_trace 4 = .ok (.aload_n 0, 1) := by decide +kernel
theorem dX8_trace_5 : decode cX8_trace 5 = .ok (.getfield 227, 3) := by decide +kernel
theorem dX8_trace_8 : decode cX8_trace 8 = .ok (.invokestatic 193, 3) := by decide +kernel
theorem dX8_trace_11 : decode cX8_trace 11 = .ok (.iconst 1, 1) := by decide +kernel
theorem dX8_trace_12 : decode cX8_trace 12 = .ok (.isub, 1) := by decide +kernel
theorem dX8_trace_13 : decode cX8_trace 13 = .ok (.invokestatic 77, 3) := by decide +kernel
theorem dX8_trace_16 : decode cX8_trace 16 = .ok (.ifCond .eq 12, 3) := by decide +kernel
theorem dX8_trace_19 : decode cX8_trace 19 = .ok (.aload_n 0, 1) := by decide +kernel
theorem dX8_trace_20 : decode cX8_trace 20 = .ok (.getfield 53, 3) := by decide +kernel
theorem dX8_trace_23 : decode cX8_trace 23 = .ok (.iload_n 1, 1) := by decide +kernel
theorem dX8_trace_24 : decode cX8_trace 24 = .ok (.iaload, 1) := by decide +kernel
theorem dX8_trace_25 : decode cX8_trace 25 = .ok (.goto 4, 3) := by decide +kernel
theorem dX8_trace_28 : decode cX8_trace 28 = .ok (.iconst (-1), 1) := by decide +kernel
theorem dX8_trace_29 : decode cX8_trace 29 = .ok (.ireturn, 1) := by decide +kernel
theorem dX8_taken_0 : decode cX8_taken 0 = .ok (.iload_n 2, 1) := by decide +kernel
theorem dX8_taken_1 : decode cX8_taken 1 = .ok (.iconst 0, 1) := by decide +kernel
theorem dX8_taken_2 : decode cX8_taken 2 = .ok (.bipush 6, 2) := by decide +kernel
theorem dX8_taken_4 : decode cX8_taken 4 = .ok (.invokestatic 77, 3) := by decide +kernel
theorem dX8_taken_7 : decode cX8_taken 7 = .ok (.ifCond .ne 6, 3) := by decide +kernel
theorem dX8_taken_10 : decode cX8_taken 10 = .ok (.bipush (-2), 2) := by decide +kernel
theorem dX8_taken_12 : decode cX8_taken 12 = .ok (.ireturn, 1) := by decide +kernel
theorem dX8_taken_13 : decode cX8_taken 13 = .ok (.aload_n 0, 1) := by decide +kernel
theorem dX8_taken_14 : decode cX8_taken 14 = .ok (.iload_n 1, 1) := by decide +kernel
theorem dX8_taken_15 : decode cX8_taken 15 = .ok (.invokevirtual 97, 3) := by decide +kernel
theorem dX8_taken_18 : decode cX8_taken 18 = .ok (.ifCond .ne 6, 3) := by decide +kernel
theorem dX8_taken_21 : decode cX8_taken 21 = .ok (.bipush (-11), 2) := by decide +kernel
theorem dX8_taken_23 : decode cX8_taken 23 = .ok (.ireturn, 1) := by decide +kernel
theorem dX8_taken_24 : decode cX8_taken 24 = .ok (.aload_n 0, 1) := by decide +kernel
theorem dX8_taken_25 : decode cX8_taken 25 = .ok (.iload_n 1, 1) := by decide +kernel
theorem dX8_taken_26 : decode cX8_taken 26 = .ok (.iconst 0, 1) := by decide +kernel
theorem dX8_taken_27 : decode cX8_taken 27 = .ok (.invokevirtual 81, 3) := by decide +kernel
theorem dX8_taken_30 : decode cX8_taken 30 = .ok (.istore_n 3, 1) := by decide +kernel
theorem dX8_taken_31 : decode cX8_taken 31 = .ok (.iload_n 3, 1) := by decide +kernel
theorem dX8_taken_32 : decode cX8_taken 32 = .ok (.iconst (-1), 1) := by decide +kernel
theorem dX8_taken_33 : decode cX8_taken 33 = .ok (.if_icmp .eq 18, 3) := by decide +kernel
theorem dX8_taken_36 : decode cX8_taken 36 = .ok (.iload_n 3, 1) := by decide +kernel
theorem dX8_taken_37 : decode cX8_taken 37 = .ok (.iload_n 2, 1) := by decide +kernel
theorem dX8_taken_38 : decode cX8_taken 38 = .ok (.if_icmp .eq 13, 3) := by decide +kernel
theorem dX8_taken_41 : decode cX8_taken 41 = .ok (.aload_n 0, 1) := by decide +kernel
theorem dX8_taken_42 : decode cX8_taken 42 = .ok (.getfield 47, 3) := by decide +kernel
theorem dX8_taken_45 : decode cX8_taken 45 = .ok (.iload_n 3, 1) := by decide +kernel
theorem dX8_taken_46 : decode cX8_taken 46 = .ok (.iaload, 1) := by decide +kernel
theorem dX8_taken_47 : decode cX8_taken 47 = .ok (.istore_n 3, 1) := by decide +kernel
theorem dX8_taken_48 : decode cX8_taken 48 = .ok (.goto (-17), 3) := by decide +kernel
theorem dX8_taken_51 : decode cX8_taken 51 = .ok (.iload_n 3, 1) := by decide +kernel
theorem dX8_taken_52 : decode cX8_taken 52 = .ok (.iload_n 2, 1) := by decide +kernel
theorem dX8_taken_53 : decode cX8_taken 53 = .ok (.if_icmp .ne 12, 3) := by decide +kernel
theorem dX8_taken_56 : decode cX8_taken 56 = .ok (.aload_n 0, 1) := by decide +kernel
theorem dX8_taken_57 : decode cX8_taken 57 = .ok (.iload_n 1, 1) := by decide +kernel
theorem dX8_taken_58 : decode cX8_taken 58 = .ok (.iconst 0, 1) := by decide +kernel
theorem dX8_taken_59 : decode cX8_taken 59 = .ok (.invokevirtual 81, 3) := by decide +kernel
theorem dX8_taken_62 : decode cX8_taken 62 = .ok (.goto 5, 3) := by decide +kernel
theorem dX8_taken_65 : decode cX8_taken 65 = .ok (.bipush (-12), 2) := by decide +kernel
theorem dX8_taken_67 : decode cX8_taken 67 = .ok (.ireturn, 1) := by decide +kernel
theorem dX8_count_0 : decode cX8_count 0 = .ok (.iload_n 1, 1) := by decide +kernel
theorem dX8_count_1 : decode cX8_count 1 = .ok (.tableswitch 102 0 7 #[47, 55, 63, 68, 76, 84, 92, 97], 47) := by decide +kernel
theorem dX8_count_48 : decode cX8_count 48 = .ok (.aload_n 0, 1) := by decide +kernel
theorem dX8_count_49 : decode cX8_count 49 = .ok (.getfield 9, 3) := by decide +kernel
theorem dX8_count_52 : decode cX8_count 52 = .ok (.bipush 49, 2) := by decide +kernel
theorem dX8_count_54 : decode cX8_count 54 = .ok (.iaload, 1) := by decide +kernel
theorem dX8_count_55 : decode cX8_count 55 = .ok (.ireturn, 1) := by decide +kernel
theorem dX8_count_56 : decode cX8_count 56 = .ok (.aload_n 0, 1) := by decide +kernel
theorem dX8_count_57 : decode cX8_count 57 = .ok (.getfield 9, 3) := by decide +kernel
theorem dX8_count_60 : decode cX8_count 60 = .ok (.bipush 48, 2) := by decide +kernel
theorem dX8_count_62 : decode cX8_count 62 = .ok (.iaload, 1) := by decide +kernel
theorem dX8_count_63 : decode cX8_count 63 = .ok (.ireturn, 1) := by decide +kernel
theorem dX8_count_64 : decode cX8_count 64 = .ok (.aload_n 0, 1) := by decide +kernel
theorem dX8_count_65 : decode cX8_count 65 = .ok (.getfield 176, 3) := by decide +kernel
theorem dX8_count_68 : decode cX8_count 68 = .ok (.ireturn, 1) := by decide +kernel
theorem dX8_count_69 : decode cX8_count 69 = .ok (.aload_n 0, 1) := by decide +kernel
theorem dX8_count_70 : decode cX8_count 70 = .ok (.getfield 9, 3) := by decide +kernel
theorem dX8_count_73 : decode cX8_count 73 = .ok (.bipush 54, 2) := by decide +kernel
theorem dX8_count_75 : decode cX8_count 75 = .ok (.iaload, 1) := by decide +kernel
theorem dX8_count_76 : decode cX8_count 76 = .ok (.ireturn, 1) := by decide +kernel
theorem dX8_count_77 : decode cX8_count 77 = .ok (.aload_n 0, 1) := by decide +kernel
theorem dX8_count_78 : decode cX8_count 78 = .ok (.getfield 9, 3) := by decide +kernel
theorem dX8_count_81 : decode cX8_count 81 = .ok (.bipush 70, 2) := by decide +kernel
theorem dX8_count_83 : decode cX8_count 83 = .ok (.iaload, 1) := by decide +kernel
theorem dX8_count_84 : decode cX8_count 84 = .ok (.ireturn, 1) := by decide +kernel
theorem dX8_count_85 : decode cX8_count 85 = .ok (.aload_n 0, 1) := by decide +kernel
theorem dX8_count_86 : decode cX8_count 86 = .ok (.getfield 9, 3) := by decide +kernel
theorem dX8_count_89 : decode cX8_count 89 = .ok (.bipush 91, 2) := by decide +kernel
theorem dX8_count_91 : decode cX8_count 91 = .ok (.iaload, 1) := by decide +kernel
theorem dX8_count_92 : decode cX8_count 92 = .ok (.ireturn, 1) := by decide +kernel
theorem dX8_count_93 : decode cX8_count 93 = .ok (.aload_n 0, 1) := by decide +kernel
theorem dX8_count_94 : decode cX8_count 94 = .ok (.getfield 121, 3) := by decide +kernel
theorem dX8_count_97 : decode cX8_count 97 = .ok (.ireturn, 1) := by decide +kernel
theorem dX8_count_98 : decode cX8_count 98 = .ok (.aload_n 0, 1) := by decide +kernel
theorem dX8_count_99 : decode cX8_count 99 = .ok (.getfield 227, 3) := by decide +kernel
theorem dX8_count_102 : decode cX8_count 102 = .ok (.ireturn, 1) := by decide +kernel
theorem dX8_count_103 : decode cX8_count 103 = .ok (.bipush (-2), 2) := by decide +kernel
theorem dX8_count_105 : decode cX8_count 105 = .ok (.ireturn, 1) := by decide +kernel
theorem dX8_isTape_0 : decode cX8_isTape 0 = .ok (.iload_n 0, 1) := by decide +kernel
theorem dX8_isTape_1 : decode cX8_isTape 1 = .ok (.iconst 0, 1) := by decide +kernel
theorem dX8_isTape_2 : decode cX8_isTape 2 = .ok (.iconst 5, 1) := by decide +kernel
theorem dX8_isTape_3 : decode cX8_isTape 3 = .ok (.invokestatic 77, 3) := by decide +kernel
theorem dX8_isTape_6 : decode cX8_isTape 6 = .ok (.ireturn, 1) := by decide +kernel
theorem dX8_tape_0 : decode cX8_tape 0 = .ok (.iload_n 1, 1) := by decide +kernel
theorem dX8_tape_1 : decode cX8_tape 1 = .ok (.invokestatic 240, 3) := by decide +kernel
theorem dX8_tape_4 : decode cX8_tape 4 = .ok (.ifCond .ne 5, 3) := by decide +kernel
theorem dX8_tape_7 : decode cX8_tape 7 = .ok (.iconst (-1), 1) := by decide +kernel
theorem dX8_tape_8 : decode cX8_tape 8 = .ok (.ireturn, 1) := by decide +kernel
theorem dX8_tape_9 : decode cX8_tape 9 = .ok (.iload_n 2, 1) := by decide +kernel
theorem dX8_tape_10 : decode cX8_tape 10 = .ok (.iconst (-1), 1) := by decide +kernel
theorem dX8_tape_11 : decode cX8_tape 11 = .ok (.iconst 4, 1) := by decide +kernel
theorem dX8_tape_12 : decode cX8_tape 12 = .ok (.invokestatic 77, 3) := by decide +kernel
theorem dX8_tape_15 : decode cX8_tape 15 = .ok (.ifCond .eq 13, 3) := by decide +kernel
theorem dX8_tape_18 : decode cX8_tape 18 = .ok (.iload_n 2, 1) := by decide +kernel
theorem dX8_tape_19 : decode cX8_tape 19 = .ok (.ifCond .lt 12, 3) := by decide +kernel
theorem dX8_tape_22 : decode cX8_tape 22 = .ok (.iload_n 3, 1) := by decide +kernel
theorem dX8_tape_23 : decode cX8_tape 23 = .ok (.bipush 60, 2) := by decide +kernel
theorem dX8_tape_25 : decode cX8_tape 25 = .ok (.if_icmp .le 6, 3) := by decide +kernel
theorem dX8_tape_28 : decode cX8_tape 28 = .ok (.bipush (-2), 2) := by decide +kernel
theorem dX8_tape_30 : decode cX8_tape 30 = .ok (.ireturn, 1) := by decide +kernel
theorem dX8_tape_31 : decode cX8_tape 31 = .ok (.iload_n 2, 1) := by decide +kernel
theorem dX8_tape_32 : decode cX8_tape 32 = .ok (.ifCond .lt 10, 3) := by decide +kernel
theorem dX8_tape_35 : decode cX8_tape 35 = .ok (.iload_n 3, 1) := by decide +kernel
theorem dX8_tape_36 : decode cX8_tape 36 = .ok (.ifCond .ge 6, 3) := by decide +kernel
theorem dX8_tape_39 : decode cX8_tape 39 = .ok (.bipush (-14), 2) := by decide +kernel
theorem dX8_tape_41 : decode cX8_tape 41 = .ok (.ireturn, 1) := by decide +kernel
theorem dX8_tape_42 : decode cX8_tape 42 = .ok (.aload_n 0, 1) := by decide +kernel
theorem dX8_tape_43 : decode cX8_tape 43 = .ok (.getfield 56, 3) := by decide +kernel
theorem dX8_tape_46 : decode cX8_tape 46 = .ok (.iload_n 1, 1) := by decide +kernel
theorem dX8_tape_47 : decode cX8_tape 47 = .ok (.iload_n 2, 1) := by decide +kernel
theorem dX8_tape_48 : decode cX8_tape 48 = .ok (.iastore, 1) := by decide +kernel
theorem dX8_tape_49 : decode cX8_tape 49 = .ok (.aload_n 0, 1) := by decide +kernel
theorem dX8_tape_50 : decode cX8_tape 50 = .ok (.getfield 59, 3) := by decide +kernel
theorem dX8_tape_53 : decode cX8_tape 53 = .ok (.iload_n 1, 1) := by decide +kernel
theorem dX8_tape_54 : decode cX8_tape 54 = .ok (.iload_n 2, 1) := by decide +kernel
theorem dX8_tape_55 : decode cX8_tape 55 = .ok (.ifCond .ge 7, 3) := by decide +kernel
theorem dX8_tape_58 : decode cX8_tape 58 = .ok (.iconst 0, 1) := by decide +kernel
theorem dX8_tape_59 : decode cX8_tape 59 = .ok (.goto 4, 3) := by decide +kernel
theorem dX8_tape_62 : decode cX8_tape 62 = .ok (.iload_n 3, 1) := by decide +kernel
theorem dX8_tape_63 : decode cX8_tape 63 = .ok (.iastore, 1) := by decide +kernel
theorem dX8_tape_64 : decode cX8_tape 64 = .ok (.iconst 0, 1) := by decide +kernel
theorem dX8_tape_65 : decode cX8_tape 65 = .ok (.istore 4, 2) := by decide +kernel
theorem dX8_tape_67 : decode cX8_tape 67 = .ok (.iload 4, 2) := by decide +kernel
theorem dX8_tape_69 : decode cX8_tape 69 = .ok (.bipush 60, 2) := by decide +kernel
theorem dX8_tape_71 : decode cX8_tape 71 = .ok (.if_icmp .ge 22, 3) := by decide +kernel
theorem dX8_tape_74 : decode cX8_tape 74 = .ok (.aload_n 0, 1) := by decide +kernel
theorem dX8_tape_75 : decode cX8_tape 75 = .ok (.getfield 62, 3) := by decide +kernel
theorem dX8_tape_78 : decode cX8_tape 78 = .ok (.bipush 60, 2) := by decide +kernel
theorem dX8_tape_80 : decode cX8_tape 80 = .ok (.iload_n 1, 1) := by decide +kernel
theorem dX8_tape_81 : decode cX8_tape 81 = .ok (.imul, 1) := by decide +kernel
theorem dX8_tape_82 : decode cX8_tape 82 = .ok (.iload 4, 2) := by decide +kernel
theorem dX8_tape_84 : decode cX8_tape 84 = .ok (.iadd, 1) := by decide +kernel
theorem dX8_tape_85 : decode cX8_tape 85 = .ok (.lconst 0, 1) := by decide +kernel
theorem dX8_tape_86 : decode cX8_tape 86 = .ok (.lastore, 1) := by decide +kernel
theorem dX8_tape_87 : decode cX8_tape 87 = .ok (.iinc 4 1, 3) := by decide +kernel
theorem dX8_tape_90 : decode cX8_tape 90 = .ok (.goto (-23), 3) := by decide +kernel
theorem dX8_tape_93 : decode cX8_tape 93 = .ok (.iconst 1, 1) := by decide +kernel
theorem dX8_tape_94 : decode cX8_tape 94 = .ok (.ireturn, 1) := by decide +kernel
theorem dX8_item_0 : decode cX8_item 0 = .ok (.iload_n 1, 1) := by decide +kernel
theorem dX8_item_1 : decode cX8_item 1 = .ok (.invokestatic 240, 3) := by decide +kernel
theorem dX8_item_4 : decode cX8_item 4 = .ok (.ifCond .ne 5, 3) := by decide +kernel
theorem dX8_item_7 : decode cX8_item 7 = .ok (.iconst (-1), 1) := by decide +kernel
theorem dX8_item_8 : decode cX8_item 8 = .ok (.ireturn, 1) := by decide +kernel
theorem dX8_item_9 : decode cX8_item 9 = .ok (.aload_n 0, 1) := by decide +kernel
theorem dX8_item_10 : decode cX8_item 10 = .ok (.getfield 56, 3) := by decide +kernel
theorem dX8_item_13 : decode cX8_item 13 = .ok (.iload_n 1, 1) := by decide +kernel
theorem dX8_item_14 : decode cX8_item 14 = .ok (.iaload, 1) := by decide +kernel
theorem dX8_item_15 : decode cX8_item 15 = .ok (.ifCond .ge 6, 3) := by decide +kernel
theorem dX8_item_18 : decode cX8_item 18 = .ok (.bipush (-11), 2) := by decide +kernel
theorem dX8_item_20 : decode cX8_item 20 = .ok (.ireturn, 1) := by decide +kernel
theorem dX8_item_21 : decode cX8_item 21 = .ok (.iload_n 2, 1) := by decide +kernel
theorem dX8_item_22 : decode cX8_item 22 = .ok (.iconst 0, 1) := by decide +kernel
theorem dX8_item_23 : decode cX8_item 23 = .ok (.aload_n 0, 1) := by decide +kernel
theorem dX8_item_24 : decode cX8_item 24 = .ok (.getfield 59, 3) := by decide +kernel
theorem dX8_item_27 : decode cX8_item 27 = .ok (.iload_n 1, 1) := by decide +kernel
theorem dX8_item_28 : decode cX8_item 28 = .ok (.iaload, 1) := by decide +kernel
theorem dX8_item_29 : decode cX8_item 29 = .ok (.iconst 1, 1) := by decide +kernel
theorem dX8_item_30 : decode cX8_item 30 = .ok (.isub, 1) := by decide +kernel
theorem dX8_item_31 : decode cX8_item 31 = .ok (.invokestatic 77, 3) := by decide +kernel
theorem dX8_item_34 : decode cX8_item 34 = .ok (.ifCond .ne 6, 3) := by decide +kernel
theorem dX8_item_37 : decode cX8_item 37 = .ok (.bipush (-13), 2) := by decide +kernel
theorem dX8_item_39 : decode cX8_item 39 = .ok (.ireturn, 1) := by decide +kernel
theorem dX8_item_40 : decode cX8_item 40 = .ok (.aload_n 0, 1) := by decide +kernel
theorem dX8_item_41 : decode cX8_item 41 = .ok (.getfield 56, 3) := by decide +kernel
theorem dX8_item_44 : decode cX8_item 44 = .ok (.iload_n 1, 1) := by decide +kernel
theorem dX8_item_45 : decode cX8_item 45 = .ok (.iaload, 1) := by decide +kernel
theorem dX8_item_46 : decode cX8_item 46 = .ok (.istore 5, 2) := by decide +kernel
theorem dX8_item_48 : decode cX8_item 48 = .ok (.aload_n 0, 1) := by decide +kernel
theorem dX8_item_49 : decode cX8_item 49 = .ok (.getfield 62, 3) := by decide +kernel
theorem dX8_item_52 : decode cX8_item 52 = .ok (.bipush 60, 2) := by decide +kernel
theorem dX8_item_54 : decode cX8_item 54 = .ok (.iload_n 1, 1) := by decide +kernel
theorem dX8_item_55 : decode cX8_item 55 = .ok (.imul, 1) := by decide +kernel
theorem dX8_item_56 : decode cX8_item 56 = .ok (.iload_n 2, 1) := by decide +kernel
theorem dX8_item_57 : decode cX8_item 57 = .ok (.iadd, 1) := by decide +kernel
theorem dX8_item_58 : decode cX8_item 58 = .ok (.iload 5, 2) := by decide +kernel
theorem dX8_item_60 : decode cX8_item 60 = .ok (.ifCond .ne 10, 3) := by decide +kernel
theorem dX8_item_63 : decode cX8_item 63 = .ok (.lload_n 3, 1) := by decide +kernel
theorem dX8_item_64 : decode cX8_item 64 = .ok (.l2i, 1) := by decide +kernel
theorem dX8_item_65 : decode cX8_item 65 = .ok (.i2b, 1) := by decide +kernel
theorem dX8_item_66 : decode cX8_item 66 = .ok (.i2l, 1) := by decide +kernel
theorem dX8_item_67 : decode cX8_item 67 = .ok (.goto 49, 3) := by decide +kernel
theorem dX8_item_70 : decode cX8_item 70 = .ok (.iload 5, 2) := by decide +kernel
theorem dX8_item_72 : decode cX8_item 72 = .ok (.iconst 1, 1) := by decide +kernel
theorem dX8_item_73 : decode cX8_item 73 = .ok (.if_icmp .ne 10, 3) := by decide +kernel
theorem dX8_item_76 : decode cX8_item 76 = .ok (.lload_n 3, 1) := by decide +kernel
theorem dX8_item_77 : decode cX8_item 77 = .ok (.l2i, 1) := by decide +kernel
theorem dX8_item_78 : decode cX8_item 78 = .ok (.i2s, 1) := by decide +kernel
theorem dX8_item_79 : decode cX8_item 79 = .ok (.i2l, 1) := by decide +kernel
theorem dX8_item_80 : decode cX8_item 80 = .ok (.goto 36, 3) := by decide +kernel
theorem dX8_item_83 : decode cX8_item 83 = .ok (.iload 5, 2) := by decide +kernel
theorem dX8_item_85 : decode cX8_item 85 = .ok (.iconst 2, 1) := by decide +kernel
theorem dX8_item_86 : decode cX8_item 86 = .ok (.if_icmp .ne 9, 3) := by decide +kernel
theorem dX8_item_89 : decode cX8_item 89 = .ok (.lload_n 3, 1) := by decide +kernel
theorem dX8_item_90 : decode cX8_item 90 = .ok (.l2i, 1) := by decide +kernel
theorem dX8_item_91 : decode cX8_item 91 = .ok (.i2l, 1) := by decide +kernel
theorem dX8_item_92 : decode cX8_item 92 = .ok (.goto 24, 3) := by decide +kernel
theorem dX8_item_95 : decode cX8_item 95 = .ok (.iload 5, 2) := by decide +kernel
theorem dX8_item_97 : decode cX8_item 97 = .ok (.iconst 3, 1) := by decide +kernel
theorem dX8_item_98 : decode cX8_item 98 = .ok (.if_icmp .ne 7, 3) := by decide +kernel
theorem dX8_item_101 : decode cX8_item 101 = .ok (.lload_n 3, 1) := by decide +kernel
theorem dX8_item_102 : decode cX8_item 102 = .ok (.goto 14, 3) := by decide +kernel
theorem dX8_item_105 : decode cX8_item 105 = .ok (.lload_n 3, 1) := by decide +kernel
theorem dX8_item_106 : decode cX8_item 106 = .ok (.lconst 0, 1) := by decide +kernel
theorem dX8_item_107 : decode cX8_item 107 = .ok (.lcmp, 1) := by decide +kernel
theorem dX8_item_108 : decode cX8_item 108 = .ok (.ifCond .eq 7, 3) := by decide +kernel
theorem dX8_item_111 : decode cX8_item 111 = .ok (.lconst 1, 1) := by decide +kernel
theorem dX8_item_112 : decode cX8_item 112 = .ok (.goto 4, 3) := by decide +kernel
theorem dX8_item_115 : decode cX8_item 115 = .ok (.lconst 0, 1) := by decide +kernel
theorem dX8_item_116 : decode cX8_item 116 = .ok (.lastore, 1) := by decide +kernel
theorem dX8_item_117 : decode cX8_item 117 = .ok (.iconst 1, 1) := by decide +kernel
theorem dX8_item_118 : decode cX8_item 118 = .ok (.ireturn, 1) := by decide +kernel
theorem dX8_read_0 : decode cX8_read 0 = .ok (.iload_n 1, 1) := by decide +kernel
theorem dX8_read_1 : decode cX8_read 1 = .ok (.invokestatic 240, 3) := by decide +kernel
theorem dX8_read_4 : decode cX8_read 4 = .ok (.ifCond .eq 33, 3) := by decide +kernel
theorem dX8_read_7 : decode cX8_read 7 = .ok (.iload_n 2, 1) := by decide +kernel
theorem dX8_read_8 : decode cX8_read 8 = .ok (.iconst 0, 1) := by decide +kernel
theorem dX8_read_9 : decode cX8_read 9 = .ok (.aload_n 0, 1) := by decide +kernel
theorem dX8_read_10 : decode cX8_read 10 = .ok (.getfield 59, 3) := by decide +kernel
theorem dX8_read_13 : decode cX8_read 13 = .ok (.iload_n 1, 1) := by decide +kernel
theorem dX8_read_14 : decode cX8_read 14 = .ok (.iaload, 1) := by decide +kernel
theorem dX8_read_15 : decode cX8_read 15 = .ok (.iconst 1, 1) := by decide +kernel
theorem dX8_read_16 : decode cX8_read 16 = .ok (.isub, 1) := by decide +kernel
theorem dX8_read_17 : decode cX8_read 17 = .ok (.invokestatic 77, 3) := by decide +kernel
theorem dX8_read_20 : decode cX8_read 20 = .ok (.ifCond .eq 17, 3) := by decide +kernel
theorem dX8_read_23 : decode cX8_read 23 = .ok (.aload_n 0, 1) := by decide +kernel
theorem dX8_read_24 : decode cX8_read 24 = .ok (.getfield 62, 3) := by decide +kernel
theorem dX8_read_27 : decode cX8_read 27 = .ok (.bipush 60, 2) := by decide +kernel
theorem dX8_read_29 : decode cX8_read 29 = .ok (.iload_n 1, 1) := by decide +kernel
theorem dX8_read_30 : decode cX8_read 30 = .ok (.imul, 1) := by decide +kernel
theorem dX8_read_31 : decode cX8_read 31 = .ok (.iload_n 2, 1) := by decide +kernel
theorem dX8_read_32 : decode cX8_read 32 = .ok (.iadd, 1) := by decide +kernel
theorem dX8_read_33 : decode cX8_read 33 = .ok (.laload, 1) := by decide +kernel
theorem dX8_read_34 : decode cX8_read 34 = .ok (.goto 6, 3) := by decide +kernel
theorem dX8_read_37 : decode cX8_read 37 = .ok (.ldc2_w 221, 3) := by decide +kernel
theorem dX8_read_40 : decode cX8_read 40 = .ok (.lreturn, 1) := by decide +kernel
theorem dX8_shift_0 : decode cX8_shift 0 = .ok (.iload_n 1, 1) := by decide +kernel
theorem dX8_shift_1 : decode cX8_shift 1 = .ok (.invokestatic 240, 3) := by decide +kernel
theorem dX8_shift_4 : decode cX8_shift 4 = .ok (.ifCond .eq 10, 3) := by decide +kernel
theorem dX8_shift_7 : decode cX8_shift 7 = .ok (.iload_n 3, 1) := by decide +kernel
theorem dX8_shift_8 : decode cX8_shift 8 = .ok (.invokestatic 240, 3) := by decide +kernel
theorem dX8_shift_11 : decode cX8_shift 11 = .ok (.ifCond .ne 5, 3) := by decide +kernel
theorem dX8_shift_14 : decode cX8_shift 14 = .ok (.iconst (-1), 1) := by decide +kernel
theorem dX8_shift_15 : decode cX8_shift 15 = .ok (.ireturn, 1) := by decide +kernel
theorem dX8_shift_16 : decode cX8_shift 16 = .ok (.aload_n 0, 1) := by decide +kernel
theorem dX8_shift_17 : decode cX8_shift 17 = .ok (.getfield 56, 3) := by decide +kernel
theorem dX8_shift_20 : decode cX8_shift 20 = .ok (.iload_n 1, 1) := by decide +kernel
theorem dX8_shift_21 : decode cX8_shift 21 = .ok (.iaload, 1) := by decide +kernel
theorem dX8_shift_22 : decode cX8_shift 22 = .ok (.ifCond .lt 12, 3) := by decide +kernel
theorem dX8_shift_25 : decode cX8_shift 25 = .ok (.aload_n 0, 1) := by decide +kernel
theorem dX8_shift_26 : decode cX8_shift 26 = .ok (.getfield 56, 3) := by decide +kernel
theorem dX8_shift_29 : decode cX8_shift 29 = .ok (.iload_n 3, 1) := by decide +kernel
theorem dX8_shift_30 : decode cX8_shift 30 = .ok (.iaload, 1) := by decide +kernel
theorem dX8_shift_31 : decode cX8_shift 31 = .ok (.ifCond .ge 6, 3) := by decide +kernel
theorem dX8_shift_34 : decode cX8_shift 34 = .ok (.bipush (-11), 2) := by decide +kernel
theorem dX8_shift_36 : decode cX8_shift 36 = .ok (.ireturn, 1) := by decide +kernel
theorem dX8_shift_37 : decode cX8_shift 37 = .ok (.aload_n 0, 1) := by decide +kernel
theorem dX8_shift_38 : decode cX8_shift 38 = .ok (.getfield 56, 3) := by decide +kernel
theorem dX8_shift_41 : decode cX8_shift 41 = .ok (.iload_n 1, 1) := by decide +kernel
theorem dX8_shift_42 : decode cX8_shift 42 = .ok (.iaload, 1) := by decide +kernel
theorem dX8_shift_43 : decode cX8_shift 43 = .ok (.aload_n 0, 1) := by decide +kernel
theorem dX8_shift_44 : decode cX8_shift 44 = .ok (.getfield 56, 3) := by decide +kernel
theorem dX8_shift_47 : decode cX8_shift 47 = .ok (.iload_n 3, 1) := by decide +kernel
theorem dX8_shift_48 : decode cX8_shift 48 = .ok (.iaload, 1) := by decide +kernel
theorem dX8_shift_49 : decode cX8_shift 49 = .ok (.if_icmp .eq 6, 3) := by decide +kernel
theorem dX8_shift_52 : decode cX8_shift 52 = .ok (.bipush (-12), 2) := by decide +kernel
theorem dX8_shift_54 : decode cX8_shift 54 = .ok (.ireturn, 1) := by decide +kernel
theorem dX8_shift_55 : decode cX8_shift 55 = .ok (.iload 5, 2) := by decide +kernel
theorem dX8_shift_57 : decode cX8_shift 57 = .ok (.ifCond .lt 39, 3) := by decide +kernel
theorem dX8_shift_60 : decode cX8_shift 60 = .ok (.iload_n 2, 1) := by decide +kernel
theorem dX8_shift_61 : decode cX8_shift 61 = .ok (.ifCond .lt 35, 3) := by decide +kernel
theorem dX8_shift_64 : decode cX8_shift 64 = .ok (.iload 4, 2) := by decide +kernel
theorem dX8_shift_66 : decode cX8_shift 66 = .ok (.ifCond .lt 30, 3) := by decide +kernel
theorem dX8_shift_69 : decode cX8_shift 69 = .ok (.iload 5, 2) := by decide +kernel
theorem dX8_shift_71 : decode cX8_shift 71 = .ok (.aload_n 0, 1) := by decide +kernel
theorem dX8_shift_72 : decode cX8_shift 72 = .ok (.getfield 59, 3) := by decide +kernel
theorem dX8_shift_75 : decode cX8_shift 75 = .ok (.iload_n 1, 1) := by decide +kernel
theorem dX8_shift_76 : decode cX8_shift 76 = .ok (.iaload, 1) := by decide +kernel
theorem dX8_shift_77 : decode cX8_shift 77 = .ok (.iload_n 2, 1) := by decide +kernel
theorem dX8_shift_78 : decode cX8_shift 78 = .ok (.isub, 1) := by decide +kernel
theorem dX8_shift_79 : decode cX8_shift 79 = .ok (.if_icmp .gt 17, 3) := by decide +kernel
theorem dX8_shift_82 : decode cX8_shift 82 = .ok (.iload 5, 2) := by decide +kernel
theorem dX8_shift_84 : decode cX8_shift 84 = .ok (.aload_n 0, 1) := by decide +kernel
theorem dX8_shift_85 : decode cX8_shift 85 = .ok (.getfield 59, 3) := by decide +kernel
theorem dX8_shift_88 : decode cX8_shift 88 = .ok (.iload_n 3, 1) := by decide +kernel
theorem dX8_shift_89 : decode cX8_shift 89 = .ok (.iaload, 1) := by decide +kernel
theorem dX8_shift_90 : decode cX8_shift 90 = .ok (.iload 4, 2) := by decide +kernel
theorem dX8_shift_92 : decode cX8_shift 92 = .ok (.isub, 1) := by decide +kernel
theorem dX8_shift_93 : decode cX8_shift 93 = .ok (.if_icmp .le 6, 3) := by decide +kernel
theorem dX8_shift_96 : decode cX8_shift 96 = .ok (.bipush (-13), 2) := by decide +kernel
theorem dX8_shift_98 : decode cX8_shift 98 = .ok (.ireturn, 1) := by decide +kernel
theorem dX8_shift_99 : decode cX8_shift 99 = .ok (.iconst 0, 1) := by decide +kernel
theorem dX8_shift_100 : decode cX8_shift 100 = .ok (.istore 6, 2) := by decide +kernel
theorem dX8_shift_102 : decode cX8_shift 102 = .ok (.iload 6, 2) := by decide +kernel
theorem dX8_shift_104 : decode cX8_shift 104 = .ok (.iload 5, 2) := by decide +kernel
theorem dX8_shift_106 : decode cX8_shift 106 = .ok (.if_icmp .ge 30, 3) := by decide +kernel
theorem dX8_shift_109 : decode cX8_shift 109 = .ok (.aload_n 0, 1) := by decide +kernel
theorem dX8_shift_110 : decode cX8_shift 110 = .ok (.getfield 66, 3) := by decide +kernel
theorem dX8_shift_113 : decode cX8_shift 113 = .ok (.iload 6, 2) := by decide +kernel
theorem dX8_shift_115 : decode cX8_shift 115 = .ok (.aload_n 0, 1) := by decide +kernel
theorem dX8_shift_116 : decode cX8_shift 116 = .ok (.getfield 62, 3) := by decide +kernel
theorem dX8_shift_119 : decode cX8_shift 119 = .ok (.bipush 60, 2) := by decide +kernel
theorem dX8_shift_121 : decode cX8_shift 121 = .ok (.iload_n 1, 1) := by decide +kernel
theorem dX8_shift_122 : decode cX8_shift 122 = .ok (.imul, 1) := by decide +kernel
theorem dX8_shift_123 : decode cX8_shift 123 = .ok (.iload_n 2, 1) := by decide +kernel
theorem dX8_shift_124 : decode cX8_shift 124 = .ok (.iadd, 1) := by decide +kernel
theorem dX8_shift_125 : decode cX8_shift 125 = .ok (.iload 6, 2) := by decide +kernel
theorem dX8_shift_127 : decode cX8_shift 127 = .ok (.iadd, 1) := by decide +kernel
theorem dX8_shift_128 : decode cX8_shift 128 = .ok (.laload, 1) := by decide +kernel
theorem dX8_shift_129 : decode cX8_shift 129 = .ok (.lastore, 1) := by decide +kernel
theorem dX8_shift_130 : decode cX8_shift 130 = .ok (.iinc 6 1, 3) := by decide +kernel
theorem dX8_shift_133 : decode cX8_shift 133 = .ok (.goto (-31), 3) := by decide +kernel
theorem dX8_shift_136 : decode cX8_shift 136 = .ok (.iconst 0, 1) := by decide +kernel
theorem dX8_shift_137 : decode cX8_shift 137 = .ok (.istore 6, 2) := by decide +kernel
theorem dX8_shift_139 : decode cX8_shift 139 = .ok (.iload 6, 2) := by decide +kernel
theorem dX8_shift_141 : decode cX8_shift 141 = .ok (.iload 5, 2) := by decide +kernel
theorem dX8_shift_143 : decode cX8_shift 143 = .ok (.if_icmp .ge 31, 3) := by decide +kernel
theorem dX8_shift_146 : decode cX8_shift 146 = .ok (.aload_n 0, 1) := by decide +kernel
theorem dX8_shift_147 : decode cX8_shift 147 = .ok (.getfield 62, 3) := by decide +kernel
theorem dX8_shift_150 : decode cX8_shift 150 = .ok (.bipush 60, 2) := by decide +kernel
theorem dX8_shift_152 : decode cX8_shift 152 = .ok (.iload_n 3, 1) := by decide +kernel
theorem dX8_shift_153 : decode cX8_shift 153 = .ok (.imul, 1) := by decide +kernel
theorem dX8_shift_154 : decode cX8_shift 154 = .ok (.iload 4, 2) := by decide +kernel
theorem dX8_shift_156 : decode cX8_shift 156 = .ok (.iadd, 1) := by decide +kernel
theorem dX8_shift_157 : decode cX8_shift 157 = .ok (.iload 6, 2) := by decide +kernel
theorem dX8_shift_159 : decode cX8_shift 159 = .ok (.iadd, 1) := by decide +kernel
theorem dX8_shift_160 : decode cX8_shift 160 = .ok (.aload_n 0, 1) := by decide +kernel
theorem dX8_shift_161 : decode cX8_shift 161 = .ok (.getfield 66, 3) := by decide +kernel
theorem dX8_shift_164 : decode cX8_shift 164 = .ok (.iload 6, 2) := by decide +kernel
theorem dX8_shift_166 : decode cX8_shift 166 = .ok (.laload, 1) := by decide +kernel
theorem dX8_shift_167 : decode cX8_shift 167 = .ok (.lastore, 1) := by decide +kernel
theorem dX8_shift_168 : decode cX8_shift 168 = .ok (.iinc 6 1, 3) := by decide +kernel
theorem dX8_shift_171 : decode cX8_shift 171 = .ok (.goto (-32), 3) := by decide +kernel
theorem dX8_shift_174 : decode cX8_shift 174 = .ok (.iload 5, 2) := by decide +kernel
theorem dX8_shift_176 : decode cX8_shift 176 = .ok (.ireturn, 1) := by decide +kernel
theorem dX8_judge_0 : decode cX8_judge 0 = .ok (.iload_n 1, 1) := by decide +kernel
theorem dX8_judge_1 : decode cX8_judge 1 = .ok (.invokestatic 240, 3) := by decide +kernel
theorem dX8_judge_4 : decode cX8_judge 4 = .ok (.ifCond .ne 5, 3) := by decide +kernel
theorem dX8_judge_7 : decode cX8_judge 7 = .ok (.iconst (-1), 1) := by decide +kernel
theorem dX8_judge_8 : decode cX8_judge 8 = .ok (.ireturn, 1) := by decide +kernel
theorem dX8_judge_9 : decode cX8_judge 9 = .ok (.aload_n 0, 1) := by decide +kernel
theorem dX8_judge_10 : decode cX8_judge 10 = .ok (.getfield 56, 3) := by decide +kernel
theorem dX8_judge_13 : decode cX8_judge 13 = .ok (.iload_n 1, 1) := by decide +kernel
theorem dX8_judge_14 : decode cX8_judge 14 = .ok (.iaload, 1) := by decide +kernel
theorem dX8_judge_15 : decode cX8_judge 15 = .ok (.ifCond .le 6, 3) := by decide +kernel
theorem dX8_judge_18 : decode cX8_judge 18 = .ok (.bipush (-12), 2) := by decide +kernel
theorem dX8_judge_20 : decode cX8_judge 20 = .ok (.ireturn, 1) := by decide +kernel
theorem dX8_judge_21 : decode cX8_judge 21 = .ok (.iconst 0, 1) := by decide +kernel
theorem dX8_judge_22 : decode cX8_judge 22 = .ok (.istore_n 3, 1) := by decide +kernel
theorem dX8_judge_23 : decode cX8_judge 23 = .ok (.iload_n 3, 1) := by decide +kernel
theorem dX8_judge_24 : decode cX8_judge 24 = .ok (.aload_n 0, 1) := by decide +kernel
theorem dX8_judge_25 : decode cX8_judge 25 = .ok (.getfield 9, 3) := by decide +kernel
theorem dX8_judge_28 : decode cX8_judge 28 = .ok (.bipush 48, 2) := by decide +kernel
theorem dX8_judge_30 : decode cX8_judge 30 = .ok (.iaload, 1) := by decide +kernel
theorem dX8_judge_31 : decode cX8_judge 31 = .ok (.if_icmp .ge 67, 3) := by decide +kernel
theorem dX8_judge_34 : decode cX8_judge 34 = .ok (.iload_n 2, 1) := by decide +kernel
theorem dX8_judge_35 : decode cX8_judge 35 = .ok (.i2l, 1) := by decide +kernel
theorem dX8_judge_36 : decode cX8_judge 36 = .ok (.iload_n 3, 1) := by decide +kernel
theorem dX8_judge_37 : decode cX8_judge 37 = .ok (.i2l, 1) := by decide +kernel
theorem dX8_judge_38 : decode cX8_judge 38 = .ok (.ladd, 1) := by decide +kernel
theorem dX8_judge_39 : decode cX8_judge 39 = .ok (.lstore 4, 2) := by decide +kernel
theorem dX8_judge_41 : decode cX8_judge 41 = .ok (.iload_n 2, 1) := by decide +kernel
theorem dX8_judge_42 : decode cX8_judge 42 = .ok (.ifCond .lt 16, 3) := by decide +kernel
theorem dX8_judge_45 : decode cX8_judge 45 = .ok (.lload 4, 2) := by decide +kernel
theorem dX8_judge_47 : decode cX8_judge 47 = .ok (.aload_n 0, 1) := by decide +kernel
theorem dX8_judge_48 : decode cX8_judge 48 = .ok (.getfield 59, 3) := by decide +kernel
theorem dX8_judge_51 : decode cX8_judge 51 = .ok (.iload_n 1, 1) := by decide +kernel
theorem dX8_judge_52 : decode cX8_judge 52 = .ok (.iaload, 1) := by decide +kernel
theorem dX8_judge_53 : decode cX8_judge 53 = .ok (.i2l, 1) := by decide +kernel
theorem dX8_judge_54 : decode cX8_judge 54 = .ok (.lcmp, 1) := by decide +kernel
theorem dX8_judge_55 : decode cX8_judge 55 = .ok (.ifCond .lt 8, 3) := by decide +kernel
theorem dX8_judge_58 : decode cX8_judge 58 = .ok (.bipush 100, 2) := by decide +kernel
theorem dX8_judge_60 : decode cX8_judge 60 = .ok (.iload_n 3, 1) := by decide +kernel
theorem dX8_judge_61 : decode cX8_judge 61 = .ok (.iadd, 1) := by decide +kernel
theorem dX8_judge_62 : decode cX8_judge 62 = .ok (.ireturn, 1) := by decide +kernel
theorem dX8_judge_63 : decode cX8_judge 63 = .ok (.aload_n 0, 1) := by decide +kernel
theorem dX8_judge_64 : decode cX8_judge 64 = .ok (.getfield 62, 3) := by decide +kernel
theorem dX8_judge_67 : decode cX8_judge 67 = .ok (.bipush 60, 2) := by decide +kernel
theorem dX8_judge_69 : decode cX8_judge 69 = .ok (.iload_n 1, 1) := by decide +kernel
theorem dX8_judge_70 : decode cX8_judge 70 = .ok (.imul, 1) := by decide +kernel
theorem dX8_judge_71 : decode cX8_judge 71 = .ok (.lload 4, 2) := by decide +kernel
theorem dX8_judge_73 : decode cX8_judge 73 = .ok (.l2i, 1) := by decide +kernel
theorem dX8_judge_74 : decode cX8_judge 74 = .ok (.iadd, 1) := by decide +kernel
theorem dX8_judge_75 : decode cX8_judge 75 = .ok (.laload, 1) := by decide +kernel
theorem dX8_judge_76 : decode cX8_judge 76 = .ok (.aload_n 0, 1) := by decide +kernel
theorem dX8_judge_77 : decode cX8_judge 77 = .ok (.getfield 9, 3) := by decide +kernel
theorem dX8_judge_80 : decode cX8_judge 80 = .ok (.bipush 42, 2) := by decide +kernel
theorem dX8_judge_82 : decode cX8_judge 82 = .ok (.iload_n 3, 1) := by decide +kernel
theorem dX8_judge_83 : decode cX8_judge 83 = .ok (.iadd, 1) := by decide +kernel
theorem dX8_judge_84 : decode cX8_judge 84 = .ok (.iaload, 1) := by decide +kernel
theorem dX8_judge_85 : decode cX8_judge 85 = .ok (.i2l, 1) := by decide +kernel
theorem dX8_judge_86 : decode cX8_judge 86 = .ok (.lcmp, 1) := by decide +kernel
theorem dX8_judge_87 : decode cX8_judge 87 = .ok (.ifCond .eq 5, 3) := by decide +kernel
theorem dX8_judge_90 : decode cX8_judge 90 = .ok (.iload_n 3, 1) := by decide +kernel
theorem dX8_judge_91 : decode cX8_judge 91 = .ok (.ireturn, 1) := by decide +kernel
theorem dX8_judge_92 : decode cX8_judge 92 = .ok (.iinc 3 1, 3) := by decide +kernel
theorem dX8_judge_95 : decode cX8_judge 95 = .ok (.goto (-72), 3) := by decide +kernel
theorem dX8_judge_98 : decode cX8_judge 98 = .ok (.bipush (-5), 2) := by decide +kernel
theorem dX8_judge_100 : decode cX8_judge 100 = .ok (.ireturn, 1) := by decide +kernel
theorem dJ11_isValidCodePoint_9a6ad_0 : decode cJ11_isValidCodePoint_9a6ad 0 = .ok (.iload_n 0, 1) := by decide +kernel
theorem dJ11_isValidCodePoint_9a6ad_1 : decode cJ11_isValidCodePoint_9a6ad 1 = .ok (.bipush 16, 2) := by decide +kernel
theorem dJ11_isValidCodePoint_9a6ad_3 : decode cJ11_isValidCodePoint_9a6ad 3 = .ok (.iushr, 1) := by decide +kernel
theorem dJ11_isValidCodePoint_9a6ad_4 : decode cJ11_isValidCodePoint_9a6ad 4 = .ok (.istore_n 1, 1) := by decide +kernel
theorem dJ11_isValidCodePoint_9a6ad_5 : decode cJ11_isValidCodePoint_9a6ad 5 = .ok (.iload_n 1, 1) := by decide +kernel
theorem dJ11_isValidCodePoint_9a6ad_6 : decode cJ11_isValidCodePoint_9a6ad 6 = .ok (.bipush 17, 2) := by decide +kernel
theorem dJ11_isValidCodePoint_9a6ad_8 : decode cJ11_isValidCodePoint_9a6ad 8 = .ok (.if_icmp .ge 7, 3) := by decide +kernel
theorem dJ11_isValidCodePoint_9a6ad_11 : decode cJ11_isValidCodePoint_9a6ad 11 = .ok (.iconst 1, 1) := by decide +kernel
theorem dJ11_isValidCodePoint_9a6ad_12 : decode cJ11_isValidCodePoint_9a6ad 12 = .ok (.goto 4, 3) := by decide +kernel
theorem dJ11_isValidCodePoint_9a6ad_15 : decode cJ11_isValidCodePoint_9a6ad 15 = .ok (.iconst 0, 1) := by decide +kernel
theorem dJ11_isValidCodePoint_9a6ad_16 : decode cJ11_isValidCodePoint_9a6ad 16 = .ok (.ireturn, 1) := by decide +kernel
theorem dJ11_highSurrogate_5068e_0 : decode cJ11_highSurrogate_5068e 0 = .ok (.iload_n 0, 1) := by decide +kernel
theorem dJ11_highSurrogate_5068e_1 : decode cJ11_highSurrogate_5068e 1 = .ok (.bipush 10, 2) := by decide +kernel
theorem dJ11_highSurrogate_5068e_3 : decode cJ11_highSurrogate_5068e 3 = .ok (.iushr, 1) := by decide +kernel
theorem dJ11_highSurrogate_5068e_4 : decode cJ11_highSurrogate_5068e 4 = .ok (.ldc 110, 2) := by decide +kernel
theorem dJ11_highSurrogate_5068e_6 : decode cJ11_highSurrogate_5068e 6 = .ok (.iadd, 1) := by decide +kernel
theorem dJ11_highSurrogate_5068e_7 : decode cJ11_highSurrogate_5068e 7 = .ok (.i2c, 1) := by decide +kernel
theorem dJ11_highSurrogate_5068e_8 : decode cJ11_highSurrogate_5068e 8 = .ok (.ireturn, 1) := by decide +kernel
theorem dJ11_lowSurrogate_5068e_0 : decode cJ11_lowSurrogate_5068e 0 = .ok (.iload_n 0, 1) := by decide +kernel
theorem dJ11_lowSurrogate_5068e_1 : decode cJ11_lowSurrogate_5068e 1 = .ok (.sipush 1023, 3) := by decide +kernel
theorem dJ11_lowSurrogate_5068e_4 : decode cJ11_lowSurrogate_5068e 4 = .ok (.iand, 1) := by decide +kernel
theorem dJ11_lowSurrogate_5068e_5 : decode cJ11_lowSurrogate_5068e 5 = .ok (.ldc 76, 2) := by decide +kernel
theorem dJ11_lowSurrogate_5068e_7 : decode cJ11_lowSurrogate_5068e 7 = .ok (.iadd, 1) := by decide +kernel
theorem dJ11_lowSurrogate_5068e_8 : decode cJ11_lowSurrogate_5068e 8 = .ok (.i2c, 1) := by decide +kernel
theorem dJ11_lowSurrogate_5068e_9 : decode cJ11_lowSurrogate_5068e 9 = .ok (.ireturn, 1) := by decide +kernel
theorem dJ6_bitCount_0f7a4_0 : decode cJ6_bitCount_0f7a4 0 = .ok (.iload_n 0, 1) := by decide +kernel
theorem dJ6_bitCount_0f7a4_1 : decode cJ6_bitCount_0f7a4 1 = .ok (.iload_n 0, 1) := by decide +kernel
theorem dJ6_bitCount_0f7a4_2 : decode cJ6_bitCount_0f7a4 2 = .ok (.iconst 1, 1) := by decide +kernel
theorem dJ6_bitCount_0f7a4_3 : decode cJ6_bitCount_0f7a4 3 = .ok (.iushr, 1) := by decide +kernel
theorem dJ6_bitCount_0f7a4_4 : decode cJ6_bitCount_0f7a4 4 = .ok (.ldc_w 265, 3) := by decide +kernel
theorem dJ6_bitCount_0f7a4_7 : decode cJ6_bitCount_0f7a4 7 = .ok (.iand, 1) := by decide +kernel
theorem dJ6_bitCount_0f7a4_8 : decode cJ6_bitCount_0f7a4 8 = .ok (.isub, 1) := by decide +kernel
theorem dJ6_bitCount_0f7a4_9 : decode cJ6_bitCount_0f7a4 9 = .ok (.istore_n 0, 1) := by decide +kernel
theorem dJ6_bitCount_0f7a4_10 : decode cJ6_bitCount_0f7a4 10 = .ok (.iload_n 0, 1) := by decide +kernel
theorem dJ6_bitCount_0f7a4_11 : decode cJ6_bitCount_0f7a4 11 = .ok (.ldc_w 266, 3) := by decide +kernel
theorem dJ6_bitCount_0f7a4_14 : decode cJ6_bitCount_0f7a4 14 = .ok (.iand, 1) := by decide +kernel
theorem dJ6_bitCount_0f7a4_15 : decode cJ6_bitCount_0f7a4 15 = .ok (.iload_n 0, 1) := by decide +kernel
theorem dJ6_bitCount_0f7a4_16 : decode cJ6_bitCount_0f7a4 16 = .ok (.iconst 2, 1) := by decide +kernel
theorem dJ6_bitCount_0f7a4_17 : decode cJ6_bitCount_0f7a4 17 = .ok (.iushr, 1) := by decide +kernel
theorem dJ6_bitCount_0f7a4_18 : decode cJ6_bitCount_0f7a4 18 = .ok (.ldc_w 266, 3) := by decide +kernel
theorem dJ6_bitCount_0f7a4_21 : decode cJ6_bitCount_0f7a4 21 = .ok (.iand, 1) := by decide +kernel
theorem dJ6_bitCount_0f7a4_22 : decode cJ6_bitCount_0f7a4 22 = .ok (.iadd, 1) := by decide +kernel
theorem dJ6_bitCount_0f7a4_23 : decode cJ6_bitCount_0f7a4 23 = .ok (.istore_n 0, 1) := by decide +kernel
theorem dJ6_bitCount_0f7a4_24 : decode cJ6_bitCount_0f7a4 24 = .ok (.iload_n 0, 1) := by decide +kernel
theorem dJ6_bitCount_0f7a4_25 : decode cJ6_bitCount_0f7a4 25 = .ok (.iload_n 0, 1) := by decide +kernel
theorem dJ6_bitCount_0f7a4_26 : decode cJ6_bitCount_0f7a4 26 = .ok (.iconst 4, 1) := by decide +kernel
theorem dJ6_bitCount_0f7a4_27 : decode cJ6_bitCount_0f7a4 27 = .ok (.iushr, 1) := by decide +kernel
theorem dJ6_bitCount_0f7a4_28 : decode cJ6_bitCount_0f7a4 28 = .ok (.iadd, 1) := by decide +kernel
theorem dJ6_bitCount_0f7a4_29 : decode cJ6_bitCount_0f7a4 29 = .ok (.ldc_w 267, 3) := by decide +kernel
theorem dJ6_bitCount_0f7a4_32 : decode cJ6_bitCount_0f7a4 32 = .ok (.iand, 1) := by decide +kernel
theorem dJ6_bitCount_0f7a4_33 : decode cJ6_bitCount_0f7a4 33 = .ok (.istore_n 0, 1) := by decide +kernel
theorem dJ6_bitCount_0f7a4_34 : decode cJ6_bitCount_0f7a4 34 = .ok (.iload_n 0, 1) := by decide +kernel
theorem dJ6_bitCount_0f7a4_35 : decode cJ6_bitCount_0f7a4 35 = .ok (.iload_n 0, 1) := by decide +kernel
theorem dJ6_bitCount_0f7a4_36 : decode cJ6_bitCount_0f7a4 36 = .ok (.bipush 8, 2) := by decide +kernel
theorem dJ6_bitCount_0f7a4_38 : decode cJ6_bitCount_0f7a4 38 = .ok (.iushr, 1) := by decide +kernel
theorem dJ6_bitCount_0f7a4_39 : decode cJ6_bitCount_0f7a4 39 = .ok (.iadd, 1) := by decide +kernel
theorem dJ6_bitCount_0f7a4_40 : decode cJ6_bitCount_0f7a4 40 = .ok (.istore_n 0, 1) := by decide +kernel
theorem dJ6_bitCount_0f7a4_41 : decode cJ6_bitCount_0f7a4 41 = .ok (.iload_n 0, 1) := by decide +kernel
theorem dJ6_bitCount_0f7a4_42 : decode cJ6_bitCount_0f7a4 42 = .ok (.iload_n 0, 1) := by decide +kernel
theorem dJ6_bitCount_0f7a4_43 : decode cJ6_bitCount_0f7a4 43 = .ok (.bipush 16, 2) := by decide +kernel
theorem dJ6_bitCount_0f7a4_45 : decode cJ6_bitCount_0f7a4 45 = .ok (.iushr, 1) := by decide +kernel
theorem dJ6_bitCount_0f7a4_46 : decode cJ6_bitCount_0f7a4 46 = .ok (.iadd, 1) := by decide +kernel
theorem dJ6_bitCount_0f7a4_47 : decode cJ6_bitCount_0f7a4 47 = .ok (.istore_n 0, 1) := by decide +kernel
theorem dJ6_bitCount_0f7a4_48 : decode cJ6_bitCount_0f7a4 48 = .ok (.iload_n 0, 1) := by decide +kernel
theorem dJ6_bitCount_0f7a4_49 : decode cJ6_bitCount_0f7a4 49 = .ok (.bipush 63, 2) := by decide +kernel
theorem dJ6_bitCount_0f7a4_51 : decode cJ6_bitCount_0f7a4 51 = .ok (.iand, 1) := by decide +kernel
theorem dJ6_bitCount_0f7a4_52 : decode cJ6_bitCount_0f7a4 52 = .ok (.ireturn, 1) := by decide +kernel
theorem dJ9_max_7cf53_0 : decode cJ9_max_7cf53 0 = .ok (.iload_n 0, 1) := by decide +kernel
theorem dJ9_max_7cf53_1 : decode cJ9_max_7cf53 1 = .ok (.iload_n 1, 1) := by decide +kernel
theorem dJ9_max_7cf53_2 : decode cJ9_max_7cf53 2 = .ok (.if_icmp .lt 7, 3) := by decide +kernel
theorem dJ9_max_7cf53_5 : decode cJ9_max_7cf53 5 = .ok (.iload_n 0, 1) := by decide +kernel
theorem dJ9_max_7cf53_6 : decode cJ9_max_7cf53 6 = .ok (.goto 4, 3) := by decide +kernel
theorem dJ9_max_7cf53_9 : decode cJ9_max_7cf53 9 = .ok (.iload_n 1, 1) := by decide +kernel
theorem dJ9_max_7cf53_10 : decode cJ9_max_7cf53 10 = .ok (.ireturn, 1) := by decide +kernel
theorem dJ9_min_7cf53_0 : decode cJ9_min_7cf53 0 = .ok (.iload_n 0, 1) := by decide +kernel
theorem dJ9_min_7cf53_1 : decode cJ9_min_7cf53 1 = .ok (.iload_n 1, 1) := by decide +kernel
theorem dJ9_min_7cf53_2 : decode cJ9_min_7cf53 2 = .ok (.if_icmp .gt 7, 3) := by decide +kernel
theorem dJ9_min_7cf53_5 : decode cJ9_min_7cf53 5 = .ok (.iload_n 0, 1) := by decide +kernel
theorem dJ9_min_7cf53_6 : decode cJ9_min_7cf53 6 = .ok (.goto 4, 3) := by decide +kernel
theorem dJ9_min_7cf53_9 : decode cJ9_min_7cf53 9 = .ok (.iload_n 1, 1) := by decide +kernel
theorem dJ9_min_7cf53_10 : decode cJ9_min_7cf53 10 = .ok (.ireturn, 1) := by decide +kernel
theorem dJ0_length_8abf5_0 : decode cJ0_length_8abf5 0 = .ok (.aload_n 0, 1) := by decide +kernel
theorem dJ0_length_8abf5_1 : decode cJ0_length_8abf5 1 = .ok (.getfield 9, 3) := by decide +kernel
theorem dJ0_length_8abf5_4 : decode cJ0_length_8abf5 4 = .ok (.arraylength, 1) := by decide +kernel
theorem dJ0_length_8abf5_5 : decode cJ0_length_8abf5 5 = .ok (.aload_n 0, 1) := by decide +kernel
theorem dJ0_length_8abf5_6 : decode cJ0_length_8abf5 6 = .ok (.invokevirtual 335, 3) := by decide +kernel
theorem dJ0_length_8abf5_9 : decode cJ0_length_8abf5 9 = .ok (.ishr, 1) := by decide +kernel
theorem dJ0_length_8abf5_10 : decode cJ0_length_8abf5 10 = .ok (.ireturn, 1) := by decide +kernel
theorem dJ0_isEmpty_aae02_0 : decode cJ0_isEmpty_aae02 0 = .ok (.aload_n 0, 1) := by decide +kernel
theorem dJ0_isEmpty_aae02_1 : decode cJ0_isEmpty_aae02 1 = .ok (.getfield 9, 3) := by decide +kernel
theorem dJ0_isEmpty_aae02_4 : decode cJ0_isEmpty_aae02 4 = .ok (.arraylength, 1) := by decide +kernel
theorem dJ0_isEmpty_aae02_5 : decode cJ0_isEmpty_aae02 5 = .ok (.ifCond .ne 7, 3) := by decide +kernel
theorem dJ0_isEmpty_aae02_8 : decode cJ0_isEmpty_aae02 8 = .ok (.iconst 1, 1) := by decide +kernel
theorem dJ0_isEmpty_aae02_9 : decode cJ0_isEmpty_aae02 9 = .ok (.goto 4, 3) := by decide +kernel
theorem dJ0_isEmpty_aae02_12 : decode cJ0_isEmpty_aae02 12 = .ok (.iconst 0, 1) := by decide +kernel
theorem dJ0_isEmpty_aae02_13 : decode cJ0_isEmpty_aae02 13 = .ok (.ireturn, 1) := by decide +kernel
theorem dJ0_charAt_5068e_0 : decode cJ0_charAt_5068e 0 = .ok (.aload_n 0, 1) := by decide +kernel
theorem dJ0_charAt_5068e_1 : decode cJ0_charAt_5068e 1 = .ok (.invokevirtual 492, 3) := by decide +kernel
theorem dJ0_charAt_5068e_4 : decode cJ0_charAt_5068e 4 = .ok (.ifCond .eq 12, 3) := by decide +kernel
theorem dJ0_charAt_5068e_7 : decode cJ0_charAt_5068e 7 = .ok (.aload_n 0, 1) := by decide +kernel
theorem dJ0_charAt_5068e_8 : decode cJ0_charAt_5068e 8 = .ok (.getfield 9, 3) := by decide +kernel
theorem dJ0_charAt_5068e_11 : decode cJ0_charAt_5068e 11 = .ok (.iload_n 1, 1) := by decide +kernel
theorem dJ0_charAt_5068e_12 : decode cJ0_charAt_5068e 12 = .ok (.invokestatic 495, 3) := by decide +kernel
theorem dJ0_charAt_5068e_15 : decode cJ0_charAt_5068e 15 = .ok (.ireturn, 1) := by decide +kernel
theorem dJ0_charAt_5068e_16 : decode cJ0_charAt_5068e 16 = .ok (.aload_n 0, 1) := by decide +kernel
theorem dJ0_charAt_5068e_17 : decode cJ0_charAt_5068e 17 = .ok (.getfield 9, 3) := by decide +kernel
theorem dJ0_charAt_5068e_20 : decode cJ0_charAt_5068e 20 = .ok (.iload_n 1, 1) := by decide +kernel
theorem dJ0_charAt_5068e_21 : decode cJ0_charAt_5068e 21 = .ok (.invokestatic 498, 3) := by decide +kernel
theorem dJ0_charAt_5068e_24 : decode cJ0_charAt_5068e 24 = .ok (.ireturn, 1) := by decide +kernel
theorem dJ0_indexOf_0f7a4_0 : decode cJ0_indexOf_0f7a4 0 = .ok (.aload_n 0, 1) := by decide +kernel
theorem dJ0_indexOf_0f7a4_1 : decode cJ0_indexOf_0f7a4 1 = .ok (.iload_n 1, 1) := by decide +kernel
theorem dJ0_indexOf_0f7a4_2 : decode cJ0_indexOf_0f7a4 2 = .ok (.iconst 0, 1) := by decide +kernel
theorem dJ0_indexOf_0f7a4_3 : decode cJ0_indexOf_0f7a4 3 = .ok (.invokevirtual 633, 3) := by decide +kernel
theorem dJ0_indexOf_0f7a4_6 : decode cJ0_indexOf_0f7a4 6 = .ok (.ireturn, 1) := by decide +kernel
theorem dJ0_indexOf_7cf53_0 : decode cJ0_indexOf_7cf53 0 = .ok (.aload_n 0, 1) := by decide +kernel
theorem dJ0_indexOf_7cf53_1 : decode cJ0_indexOf_7cf53 1 = .ok (.invokevirtual 492, 3) := by decide +kernel
theorem dJ0_indexOf_7cf53_4 : decode cJ0_indexOf_7cf53 4 = .ok (.ifCond .eq 19, 3) := by decide +kernel
theorem dJ0_indexOf_7cf53_7 : decode cJ0_indexOf_7cf53 7 = .ok (.aload_n 0, 1) := by decide +kernel
theorem dJ0_indexOf_7cf53_8 : decode cJ0_indexOf_7cf53 8 = .ok (.getfield 9, 3) := by decide +kernel
theorem dJ0_indexOf_7cf53_11 : decode cJ0_indexOf_7cf53 11 = .ok (.iload_n 1, 1) := by decide +kernel
theorem dJ0_indexOf_7cf53_12 : decode cJ0_indexOf_7cf53 12 = .ok (.iload_n 2, 1) := by decide +kernel
theorem dJ0_indexOf_7cf53_13 : decode cJ0_indexOf_7cf53 13 = .ok (.aload_n 0, 1) := by decide +kernel
theorem dJ0_indexOf_7cf53_14 : decode cJ0_indexOf_7cf53 14 = .ok (.invokevirtual 505, 3) := by decide +kernel
theorem dJ0_indexOf_7cf53_17 : decode cJ0_indexOf_7cf53 17 = .ok (.invokestatic 637, 3) := by decide +kernel
theorem dJ0_indexOf_7cf53_20 : decode cJ0_indexOf_7cf53 20 = .ok (.goto 16, 3) := by decide +kernel
theorem dJ0_indexOf_7cf53_23 : decode cJ0_indexOf_7cf53 23 = .ok (.aload_n 0, 1) := by decide +kernel
theorem dJ0_indexOf_7cf53_24 : decode cJ0_indexOf_7cf53 24 = .ok (.getfield 9, 3) := by decide +kernel
theorem dJ0_indexOf_7cf53_27 : decode cJ0_indexOf_7cf53 27 = .ok (.iload_n 1, 1) := by decide +kernel
theorem dJ0_indexOf_7cf53_28 : decode cJ0_indexOf_7cf53 28 = .ok (.iload_n 2, 1) := by decide +kernel
theorem dJ0_indexOf_7cf53_29 : decode cJ0_indexOf_7cf53 29 = .ok (.aload_n 0, 1) := by decide +kernel
theorem dJ0_indexOf_7cf53_30 : decode cJ0_indexOf_7cf53 30 = .ok (.invokevirtual 505, 3) := by decide +kernel
theorem dJ0_indexOf_7cf53_33 : decode cJ0_indexOf_7cf53 33 = .ok (.invokestatic 640, 3) := by decide +kernel
theorem dJ0_indexOf_7cf53_36 : decode cJ0_indexOf_7cf53 36 = .ok (.ireturn, 1) := by decide +kernel
theorem dJ0_coder_7d493_0 : decode cJ0_coder_7d493 0 = .ok (.getstatic 38, 3) := by decide +kernel
theorem dJ0_coder_7d493_3 : decode cJ0_coder_7d493 3 = .ok (.ifCond .eq 10, 3) := by decide +kernel
theorem dJ0_coder_7d493_6 : decode cJ0_coder_7d493 6 = .ok (.aload_n 0, 1) := by decide +kernel
theorem dJ0_coder_7d493_7 : decode cJ0_coder_7d493 7 = .ok (.getfield 15, 3) := by decide +kernel
theorem dJ0_coder_7d493_10 : decode cJ0_coder_7d493 10 = .ok (.goto 4, 3) := by decide +kernel
theorem dJ0_coder_7d493_13 : decode cJ0_coder_7d493 13 = .ok (.iconst 1, 1) := by decide +kernel
theorem dJ0_coder_7d493_14 : decode cJ0_coder_7d493 14 = .ok (.ireturn, 1) := by decide +kernel
theorem dJ0_isLatin1_aae02_0 : decode cJ0_isLatin1_aae02 0 = .ok (.getstatic 38, 3) := by decide +kernel
theorem dJ0_isLatin1_aae02_3 : decode cJ0_isLatin1_aae02 3 = .ok (.ifCond .eq 14, 3) := by decide +kernel
theorem dJ0_isLatin1_aae02_6 : decode cJ0_isLatin1_aae02 6 = .ok (.aload_n 0, 1) := by decide +kernel
theorem dJ0_isLatin1_aae02_7 : decode cJ0_isLatin1_aae02 7 = .ok (.getfield 15, 3) := by decide +kernel
theorem dJ0_isLatin1_aae02_10 : decode cJ0_isLatin1_aae02 10 = .ok (.ifCond .ne 7, 3) := by decide +kernel
theorem dJ0_isLatin1_aae02_13 : decode cJ0_isLatin1_aae02 13 = .ok (.iconst 1, 1) := by decide +kernel
theorem dJ0_isLatin1_aae02_14 : decode cJ0_isLatin1_aae02 14 = .ok (.goto 4, 3) := by decide +kernel
theorem dJ0_isLatin1_aae02_17 : decode cJ0_isLatin1_aae02 17 = .ok (.iconst 0, 1) := by decide +kernel
theorem dJ0_isLatin1_aae02_18 : decode cJ0_isLatin1_aae02 18 = .ok (.ireturn, 1) := by decide +kernel
theorem dJ0_checkIndex_df160_0 : decode cJ0_checkIndex_df160 0 = .ok (.iload_n 0, 1) := by decide +kernel
theorem dJ0_checkIndex_df160_1 : decode cJ0_checkIndex_df160 1 = .ok (.iload_n 1, 1) := by decide +kernel
theorem dJ0_checkIndex_df160_2 : decode cJ0_checkIndex_df160 2 = .ok (.getstatic 1053, 3) := by decide +kernel
theorem dJ0_checkIndex_df160_5 : decode cJ0_checkIndex_df160 5 = .ok (.invokestatic 1059, 3) := by decide +kernel
theorem dJ0_checkIndex_df160_8 : decode cJ0_checkIndex_df160 8 = .ok (.pop, 1) := by decide +kernel
theorem dJ0_checkIndex_df160_9 : decode cJ0_checkIndex_df160 9 = .ok (.return_, 1) := by decide +kernel
theorem dJ0_checkBoundsBeginEnd_23922_0 : decode cJ0_checkBoundsBeginEnd_23922 0 = .ok (.iload_n 0, 1) := by decide +kernel
theorem dJ0_checkBoundsBeginEnd_23922_1 : decode cJ0_checkBoundsBeginEnd_23922 1 = .ok (.iload_n 1, 1) := by decide +kernel
theorem dJ0_checkBoundsBeginEnd_23922_2 : decode cJ0_checkBoundsBeginEnd_23922 2 = .ok (.iload_n 2, 1) := by decide +kernel
theorem dJ0_checkBoundsBeginEnd_23922_3 : decode cJ0_checkBoundsBeginEnd_23922 3 = .ok (.getstatic 1053, 3) := by decide +kernel
theorem dJ0_checkBoundsBeginEnd_23922_6 : decode cJ0_checkBoundsBeginEnd_23922 6 = .ok (.invokestatic 1062, 3) := by decide +kernel
theorem dJ0_checkBoundsBeginEnd_23922_9 : decode cJ0_checkBoundsBeginEnd_23922 9 = .ok (.pop, 1) := by decide +kernel
theorem dJ0_checkBoundsBeginEnd_23922_10 : decode cJ0_checkBoundsBeginEnd_23922 10 = .ok (.return_, 1) := by decide +kernel
theorem dJ1_charAt_3b067_0 : decode cJ1_charAt_3b067 0 = .ok (.iload_n 1, 1) := by decide +kernel
theorem dJ1_charAt_3b067_1 : decode cJ1_charAt_3b067 1 = .ok (.aload_n 0, 1) := by decide +kernel
theorem dJ1_charAt_3b067_2 : decode cJ1_charAt_3b067 2 = .ok (.arraylength, 1) := by decide +kernel
theorem dJ1_charAt_3b067_3 : decode cJ1_charAt_3b067 3 = .ok (.invokestatic 9, 3) := by decide +kernel
theorem dJ1_charAt_3b067_6 : decode cJ1_charAt_3b067 6 = .ok (.aload_n 0, 1) := by decide +kernel
theorem dJ1_charAt_3b067_7 : decode cJ1_charAt_3b067 7 = .ok (.iload_n 1, 1) := by decide +kernel
theorem dJ1_charAt_3b067_8 : decode cJ1_charAt_3b067 8 = .ok (.baload, 1) := by decide +kernel
theorem dJ1_charAt_3b067_9 : decode cJ1_charAt_3b067 9 = .ok (.sipush 255, 3) := by decide +kernel
theorem dJ1_charAt_3b067_12 : decode cJ1_charAt_3b067 12 = .ok (.iand, 1) := by decide +kernel
theorem dJ1_charAt_3b067_13 : decode cJ1_charAt_3b067 13 = .ok (.i2c, 1) := by decide +kernel
theorem dJ1_charAt_3b067_14 : decode cJ1_charAt_3b067 14 = .ok (.ireturn, 1) := by decide +kernel
theorem dJ1_canEncode_9a6ad_0 : decode cJ1_canEncode_9a6ad 0 = .ok (.iload_n 0, 1) := by decide +kernel
theorem dJ1_canEncode_9a6ad_1 : decode cJ1_canEncode_9a6ad 1 = .ok (.ifCond .lt 14, 3) := by decide +kernel
theorem dJ1_canEncode_9a6ad_4 : decode cJ1_canEncode_9a6ad 4 = .ok (.iload_n 0, 1) := by decide +kernel
theorem dJ1_canEncode_9a6ad_5 : decode cJ1_canEncode_9a6ad 5 = .ok (.sipush 255, 3) := by decide +kernel
theorem dJ1_canEncode_9a6ad_8 : decode cJ1_canEncode_9a6ad 8 = .ok (.if_icmp .gt 7, 3) := by decide +kernel
theorem dJ1_canEncode_9a6ad_11 : decode cJ1_canEncode_9a6ad 11 = .ok (.iconst 1, 1) := by decide +kernel
theorem dJ1_canEncode_9a6ad_12 : decode cJ1_canEncode_9a6ad 12 = .ok (.goto 4, 3) := by decide +kernel
theorem dJ1_canEncode_9a6ad_15 : decode cJ1_canEncode_9a6ad 15 = .ok (.iconst 0, 1) := by decide +kernel
theorem dJ1_canEncode_9a6ad_16 : decode cJ1_canEncode_9a6ad 16 = .ok (.ireturn, 1) := by decide +kernel
theorem dJ1_indexOf_4cfef_0 : decode cJ1_indexOf_4cfef 0 = .ok (.iload_n 1, 1) := by decide +kernel
theorem dJ1_indexOf_4cfef_1 : decode cJ1_indexOf_4cfef 1 = .ok (.invokestatic 88, 3) := by decide +kernel
theorem dJ1_indexOf_4cfef_4 : decode cJ1_indexOf_4cfef 4 = .ok (.ifCond .ne 5, 3) := by decide +kernel
theorem dJ1_indexOf_4cfef_7 : decode cJ1_indexOf_4cfef 7 = .ok (.iconst (-1), 1) := by decide +kernel
theorem dJ1_indexOf_4cfef_8 : decode cJ1_indexOf_4cfef 8 = .ok (.ireturn, 1) := by decide +kernel
theorem dJ1_indexOf_4cfef_9 : decode cJ1_indexOf_4cfef 9 = .ok (.iload_n 2, 1) := by decide +kernel
theorem dJ1_indexOf_4cfef_10 : decode cJ1_indexOf_4cfef 10 = .ok (.iconst 0, 1) := by decide +kernel
theorem dJ1_indexOf_4cfef_11 : decode cJ1_indexOf_4cfef 11 = .ok (.invokestatic 92, 3) := by decide +kernel
theorem dJ1_indexOf_4cfef_14 : decode cJ1_indexOf_4cfef 14 = .ok (.istore_n 2, 1) := by decide +kernel
theorem dJ1_indexOf_4cfef_15 : decode cJ1_indexOf_4cfef 15 = .ok (.iload_n 3, 1) := by decide +kernel
theorem dJ1_indexOf_4cfef_16 : decode cJ1_indexOf_4cfef 16 = .ok (.aload_n 0, 1) := by decide +kernel
theorem dJ1_indexOf_4cfef_17 : decode cJ1_indexOf_4cfef 17 = .ok (.arraylength, 1) := by decide +kernel
theorem dJ1_indexOf_4cfef_18 : decode cJ1_indexOf_4cfef 18 = .ok (.invokestatic 38, 3) := by decide +kernel
theorem dJ1_indexOf_4cfef_21 : decode cJ1_indexOf_4cfef 21 = .ok (.istore_n 3, 1) := by decide +kernel
theorem dJ1_indexOf_4cfef_22 : decode cJ1_indexOf_4cfef 22 = .ok (.iload_n 2, 1) := by decide +kernel
theorem dJ1_indexOf_4cfef_23 : decode cJ1_indexOf_4cfef 23 = .ok (.iload_n 3, 1) := by decide +kernel
theorem dJ1_indexOf_4cfef_24 : decode cJ1_indexOf_4cfef 24 = .ok (.if_icmp .lt 5, 3) := by decide +kernel
theorem dJ1_indexOf_4cfef_27 : decode cJ1_indexOf_4cfef 27 = .ok (.iconst (-1), 1) := by decide +kernel
theorem dJ1_indexOf_4cfef_28 : decode cJ1_indexOf_4cfef 28 = .ok (.ireturn, 1) := by decide +kernel
theorem dJ1_indexOf_4cfef_29 : decode cJ1_indexOf_4cfef 29 = .ok (.aload_n 0, 1) := by decide +kernel
theorem dJ1_indexOf_4cfef_30 : decode cJ1_indexOf_4cfef 30 = .ok (.iload_n 1, 1) := by decide +kernel
theorem dJ1_indexOf_4cfef_31 : decode cJ1_indexOf_4cfef 31 = .ok (.iload_n 2, 1) := by decide +kernel
theorem dJ1_indexOf_4cfef_32 : decode cJ1_indexOf_4cfef 32 = .ok (.iload_n 3, 1) := by decide +kernel
theorem dJ1_indexOf_4cfef_33 : decode cJ1_indexOf_4cfef 33 = .ok (.invokestatic 95, 3) := by decide +kernel
theorem dJ1_indexOf_4cfef_36 : decode cJ1_indexOf_4cfef 36 = .ok (.ireturn, 1) := by decide +kernel
theorem dJ1_indexOfChar_4cfef_0 : decode cJ1_indexOfChar_4cfef 0 = .ok (.iload_n 1, 1) := by decide +kernel
theorem dJ1_indexOfChar_4cfef_1 : decode cJ1_indexOfChar_4cfef 1 = .ok (.i2b, 1) := by decide +kernel
theorem dJ1_indexOfChar_4cfef_2 : decode cJ1_indexOfChar_4cfef 2 = .ok (.istore 4, 2) := by decide +kernel
theorem dJ1_indexOfChar_4cfef_4 : decode cJ1_indexOfChar_4cfef 4 = .ok (.iload_n 2, 1) := by decide +kernel
theorem dJ1_indexOfChar_4cfef_5 : decode cJ1_indexOfChar_4cfef 5 = .ok (.istore 5, 2) := by decide +kernel
theorem dJ1_indexOfChar_4cfef_7 : decode cJ1_indexOfChar_4cfef 7 = .ok (.iload 5, 2) := by decide +kernel
theorem dJ1_indexOfChar_4cfef_9 : decode cJ1_indexOfChar_4cfef 9 = .ok (.iload_n 3, 1) := by decide +kernel
theorem dJ1_indexOfChar_4cfef_10 : decode cJ1_indexOfChar_4cfef 10 = .ok (.if_icmp .ge 21, 3) := by decide +kernel
theorem dJ1_indexOfChar_4cfef_13 : decode cJ1_indexOfChar_4cfef 13 = .ok (.aload_n 0, 1) := by decide +kernel
theorem dJ1_indexOfChar_4cfef_14 : decode cJ1_indexOfChar_4cfef 14 = .ok (.iload 5, 2) := by decide +kernel
theorem dJ1_indexOfChar_4cfef_16 : decode cJ1_indexOfChar_4cfef 16 = .ok (.baload, 1) := by decide +kernel
theorem dJ1_indexOfChar_4cfef_17 : decode cJ1_indexOfChar_4cfef 17 = .ok (.iload 4, 2) := by decide +kernel
theorem dJ1_indexOfChar_4cfef_19 : decode cJ1_indexOfChar_4cfef 19 = .ok (.if_icmp .ne 6, 3) := by decide +kernel
theorem dJ1_indexOfChar_4cfef_22 : decode cJ1_indexOfChar_4cfef 22 = .ok (.iload 5, 2) := by decide +kernel
theorem dJ1_indexOfChar_4cfef_24 : decode cJ1_indexOfChar_4cfef 24 = .ok (.ireturn, 1) := by decide +kernel
theorem dJ1_indexOfChar_4cfef_25 : decode cJ1_indexOfChar_4cfef 25 = .ok (.iinc 5 1, 3) := by decide +kernel
theorem dJ1_indexOfChar_4cfef_28 : decode cJ1_indexOfChar_4cfef 28 = .ok (.goto (-21), 3) := by decide +kernel
theorem dJ1_indexOfChar_4cfef_31 : decode cJ1_indexOfChar_4cfef 31 = .ok (.iconst (-1), 1) := by decide +kernel
theorem dJ1_indexOfChar_4cfef_32 : decode cJ1_indexOfChar_4cfef 32 = .ok (.ireturn, 1) := by decide +kernel
theorem dJ2_getChar_3b067_0 : decode cJ2_getChar_3b067 0 = .ok (.getstatic 44, 3) := by decide +kernel
theorem dJ2_getChar_3b067_3 : decode cJ2_getChar_3b067 3 = .ok (.ifCond .ne 25, 3) := by decide +kernel
theorem dJ2_getChar_3b067_6 : decode cJ2_getChar_3b067 6 = .ok (.iload_n 1, 1) := by decide +kernel
theorem dJ2_getChar_3b067_7 : decode cJ2_getChar_3b067 7 = .ok (.ifCond .lt 11, 3) := by decide +kernel
theorem dJ2_getChar_3b067_10 : decode cJ2_getChar_3b067 10 = .ok (.iload_n 1, 1) := by decide +kernel
theorem dJ2_getChar_3b067_11 : decode cJ2_getChar_3b067 11 = .ok (.aload_n 0, 1) := by decide +kernel
theorem dJ2_getChar_3b067_12 : decode cJ2_getChar_3b067 12 = .ok (.invokestatic 48, 3) := by decide +kernel
theorem dJ2_getChar_3b067_15 : decode cJ2_getChar_3b067 15 = .ok (.if_icmp .lt 13, 3) := by decide +kernel
theorem dJ2_getChar_3b067_18 : decode cJ2_getChar_3b067 18 = .ok (.new 52, 3) := by decide +kernel
theorem dJ2_getChar_3b067_21 : decode cJ2_getChar_3b067 21 = .ok (.dup, 1) := by decide +kernel
theorem dJ2_getChar_3b067_22 : decode cJ2_getChar_3b067 22 = .ok (.ldc 54, 2) := by decide +kernel
theorem dJ2_getChar_3b067_24 : decode cJ2_getChar_3b067 24 = .ok (.invokespecial 56, 3) := by decide +kernel
theorem dJ2_getChar_3b067_27 : decode cJ2_getChar_3b067 27 = .ok (.athrow, 1) := by decide +kernel
theorem dJ2_getChar_3b067_28 : decode cJ2_getChar_3b067 28 = .ok (.iload_n 1, 1) := by decide +kernel
theorem dJ2_getChar_3b067_29 : decode cJ2_getChar_3b067 29 = .ok (.iconst 1, 1) := by decide +kernel
theorem dJ2_getChar_3b067_30 : decode cJ2_getChar_3b067 30 = .ok (.ishl, 1) := by decide +kernel
theorem dJ2_getChar_3b067_31 : decode cJ2_getChar_3b067 31 = .ok (.istore_n 1, 1) := by decide +kernel
theorem dJ2_getChar_3b067_32 : decode cJ2_getChar_3b067 32 = .ok (.aload_n 0, 1) := by decide +kernel
theorem dJ2_getChar_3b067_33 : decode cJ2_getChar_3b067 33 = .ok (.iload_n 1, 1) := by decide +kernel
theorem dJ2_getChar_3b067_34 : decode cJ2_getChar_3b067 34 = .ok (.iinc 1 1, 3) := by decide +kernel
theorem dJ2_getChar_3b067_37 : decode cJ2_getChar_3b067 37 = .ok (.baload, 1) := by decide +kernel
theorem dJ2_getChar_3b067_38 : decode cJ2_getChar_3b067 38 = .ok (.sipush 255, 3) := by decide +kernel
theorem dJ2_getChar_3b067_41 : decode cJ2_getChar_3b067 41 = .ok (.iand, 1) := by decide +kernel
theorem dJ2_getChar_3b067_42 : decode cJ2_getChar_3b067 42 = .ok (.getstatic 59, 3) := by decide +kernel
theorem dJ2_getChar_3b067_45 : decode cJ2_getChar_3b067 45 = .ok (.ishl, 1) := by decide +kernel
theorem dJ2_getChar_3b067_46 : decode cJ2_getChar_3b067 46 = .ok (.aload_n 0, 1) := by decide +kernel
theorem dJ2_getChar_3b067_47 : decode cJ2_getChar_3b067 47 = .ok (.iload_n 1, 1) := by decide +kernel
theorem dJ2_getChar_3b067_48 : decode cJ2_getChar_3b067 48 = .ok (.baload, 1) := by decide +kernel
theorem dJ2_getChar_3b067_49 : decode cJ2_getChar_3b067 49 = .ok (.sipush 255, 3) := by decide +kernel
theorem dJ2_getChar_3b067_52 : decode cJ2_getChar_3b067 52 = .ok (.iand, 1) := by decide +kernel
theorem dJ2_getChar_3b067_53 : decode cJ2_getChar_3b067 53 = .ok (.getstatic 63, 3) := by decide +kernel
theorem dJ2_getChar_3b067_56 : decode cJ2_getChar_3b067 56 = .ok (.ishl, 1) := by decide +kernel
theorem dJ2_getChar_3b067_57 : decode cJ2_getChar_3b067 57 = .ok (.ior, 1) := by decide +kernel
theorem dJ2_getChar_3b067_58 : decode cJ2_getChar_3b067 58 = .ok (.i2c, 1) := by decide +kernel
theorem dJ2_getChar_3b067_59 : decode cJ2_getChar_3b067 59 = .ok (.ireturn, 1) := by decide +kernel
theorem dJ2_length_9d52b_0 : decode cJ2_length_9d52b 0 = .ok (.aload_n 0, 1) := by decide +kernel
theorem dJ2_length_9d52b_1 : decode cJ2_length_9d52b 1 = .ok (.arraylength, 1) := by decide +kernel
theorem dJ2_length_9d52b_2 : decode cJ2_length_9d52b 2 = .ok (.iconst 1, 1) := by decide +kernel
theorem dJ2_length_9d52b_3 : decode cJ2_length_9d52b 3 = .ok (.ishr, 1) := by decide +kernel
theorem dJ2_length_9d52b_4 : decode cJ2_length_9d52b 4 = .ok (.ireturn, 1) := by decide +kernel
theorem dJ2_indexOf_4cfef_0 : decode cJ2_indexOf_4cfef 0 = .ok (.iload_n 2, 1) := by decide +kernel
theorem dJ2_indexOf_4cfef_1 : decode cJ2_indexOf_4cfef 1 = .ok (.iconst 0, 1) := by decide +kernel
theorem dJ2_indexOf_4cfef_2 : decode cJ2_indexOf_4cfef 2 = .ok (.invokestatic 224, 3) := by decide +kernel
theorem dJ2_indexOf_4cfef_5 : decode cJ2_indexOf_4cfef 5 = .ok (.istore_n 2, 1) := by decide +kernel
theorem dJ2_indexOf_4cfef_6 : decode cJ2_indexOf_4cfef 6 = .ok (.iload_n 3, 1) := by decide +kernel
theorem dJ2_indexOf_4cfef_7 : decode cJ2_indexOf_4cfef 7 = .ok (.aload_n 0, 1) := by decide +kernel
theorem dJ2_indexOf_4cfef_8 : decode cJ2_indexOf_4cfef 8 = .ok (.arraylength, 1) := by decide +kernel
theorem dJ2_indexOf_4cfef_9 : decode cJ2_indexOf_4cfef 9 = .ok (.iconst 1, 1) := by decide +kernel
theorem dJ2_indexOf_4cfef_10 : decode cJ2_indexOf_4cfef 10 = .ok (.ishr, 1) := by decide +kernel
theorem dJ2_indexOf_4cfef_11 : decode cJ2_indexOf_4cfef 11 = .ok (.invokestatic 183, 3) := by decide +kernel
theorem dJ2_indexOf_4cfef_14 : decode cJ2_indexOf_4cfef 14 = .ok (.istore_n 3, 1) := by decide +kernel
theorem dJ2_indexOf_4cfef_15 : decode cJ2_indexOf_4cfef 15 = .ok (.iload_n 2, 1) := by decide +kernel
theorem dJ2_indexOf_4cfef_16 : decode cJ2_indexOf_4cfef 16 = .ok (.iload_n 3, 1) := by decide +kernel
theorem dJ2_indexOf_4cfef_17 : decode cJ2_indexOf_4cfef 17 = .ok (.if_icmp .lt 5, 3) := by decide +kernel
theorem dJ2_indexOf_4cfef_20 : decode cJ2_indexOf_4cfef 20 = .ok (.iconst (-1), 1) := by decide +kernel
theorem dJ2_indexOf_4cfef_21 : decode cJ2_indexOf_4cfef 21 = .ok (.ireturn, 1) := by decide +kernel
theorem dJ2_indexOf_4cfef_22 : decode cJ2_indexOf_4cfef 22 = .ok (.iload_n 1, 1) := by decide +kernel
theorem dJ2_indexOf_4cfef_23 : decode cJ2_indexOf_4cfef 23 = .ok (.ldc 227, 2) := by decide +kernel
theorem dJ2_indexOf_4cfef_25 : decode cJ2_indexOf_4cfef 25 = .ok (.if_icmp .ge 11, 3) := by decide +kernel
theorem dJ2_indexOf_4cfef_28 : decode cJ2_indexOf_4cfef 28 = .ok (.aload_n 0, 1) := by decide +kernel
theorem dJ2_indexOf_4cfef_29 : decode cJ2_indexOf_4cfef 29 = .ok (.iload_n 1, 1) := by decide +kernel
theorem dJ2_indexOf_4cfef_30 : decode cJ2_indexOf_4cfef 30 = .ok (.iload_n 2, 1) := by decide +kernel
theorem dJ2_indexOf_4cfef_31 : decode cJ2_indexOf_4cfef 31 = .ok (.iload_n 3, 1) := by decide +kernel
theorem dJ2_indexOf_4cfef_32 : decode cJ2_indexOf_4cfef 32 = .ok (.invokestatic 228, 3) := by decide +kernel
theorem dJ2_indexOf_4cfef_35 : decode cJ2_indexOf_4cfef 35 = .ok (.ireturn, 1) := by decide +kernel
theorem dJ2_indexOf_4cfef_36 : decode cJ2_indexOf_4cfef 36 = .ok (.aload_n 0, 1) := by decide +kernel
theorem dJ2_indexOf_4cfef_37 : decode cJ2_indexOf_4cfef 37 = .ok (.iload_n 1, 1) := by decide +kernel
theorem dJ2_indexOf_4cfef_38 : decode cJ2_indexOf_4cfef 38 = .ok (.iload_n 2, 1) := by decide +kernel
theorem dJ2_indexOf_4cfef_39 : decode cJ2_indexOf_4cfef 39 = .ok (.iload_n 3, 1) := by decide +kernel
theorem dJ2_indexOf_4cfef_40 : decode cJ2_indexOf_4cfef 40 = .ok (.invokestatic 232, 3) := by decide +kernel
theorem dJ2_indexOf_4cfef_43 : decode cJ2_indexOf_4cfef 43 = .ok (.ireturn, 1) := by decide +kernel
theorem dJ2_indexOfChar_4cfef_0 : decode cJ2_indexOfChar_4cfef 0 = .ok (.iload_n 2, 1) := by decide +kernel
theorem dJ2_indexOfChar_4cfef_1 : decode cJ2_indexOfChar_4cfef 1 = .ok (.iload_n 3, 1) := by decide +kernel
theorem dJ2_indexOfChar_4cfef_2 : decode cJ2_indexOfChar_4cfef 2 = .ok (.aload_n 0, 1) := by decide +kernel
theorem dJ2_indexOfChar_4cfef_3 : decode cJ2_indexOfChar_4cfef 3 = .ok (.invokestatic 96, 3) := by decide +kernel
theorem dJ2_indexOfChar_4cfef_6 : decode cJ2_indexOfChar_4cfef 6 = .ok (.aload_n 0, 1) := by decide +kernel
theorem dJ2_indexOfChar_4cfef_7 : decode cJ2_indexOfChar_4cfef 7 = .ok (.iload_n 1, 1) := by decide +kernel
theorem dJ2_indexOfChar_4cfef_8 : decode cJ2_indexOfChar_4cfef 8 = .ok (.iload_n 2, 1) := by decide +kernel
theorem dJ2_indexOfChar_4cfef_9 : decode cJ2_indexOfChar_4cfef 9 = .ok (.iload_n 3, 1) := by decide +kernel
theorem dJ2_indexOfChar_4cfef_10 : decode cJ2_indexOfChar_4cfef 10 = .ok (.invokestatic 244, 3) := by decide +kernel
theorem dJ2_indexOfChar_4cfef_13 : decode cJ2_indexOfChar_4cfef 13 = .ok (.ireturn, 1) := by decide +kernel
theorem dJ2_indexOfCharUnsafe_4cfef_0 : decode cJ2_indexOfCharUnsafe_4cfef 0 = .ok (.iload_n 2, 1) := by decide +kernel
theorem dJ2_indexOfCharUnsafe_4cfef_1 : decode cJ2_indexOfCharUnsafe_4cfef 1 = .ok (.istore 4, 2) := by decide +kernel
theorem dJ2_indexOfCharUnsafe_4cfef_3 : decode cJ2_indexOfCharUnsafe_4cfef 3 = .ok (.iload 4, 2) := by decide +kernel
theorem dJ2_indexOfCharUnsafe_4cfef_5 : decode cJ2_indexOfCharUnsafe_4cfef 5 = .ok (.iload_n 3, 1) := by decide +kernel
theorem dJ2_indexOfCharUnsafe_4cfef_6 : decode cJ2_indexOfCharUnsafe_4cfef 6 = .ok (.if_icmp .ge 22, 3) := by decide +kernel
theorem dJ2_indexOfCharUnsafe_4cfef_9 : decode cJ2_indexOfCharUnsafe_4cfef 9 = .ok (.aload_n 0, 1) := by decide +kernel
theorem dJ2_indexOfCharUnsafe_4cfef_10 : decode cJ2_indexOfCharUnsafe_4cfef 10 = .ok (.iload 4, 2) := by decide +kernel
theorem dJ2_indexOfCharUnsafe_4cfef_12 : decode cJ2_indexOfCharUnsafe_4cfef 12 = .ok (.invokestatic 71, 3) := by decide +kernel
theorem dJ2_indexOfCharUnsafe_4cfef_15 : decode cJ2_indexOfCharUnsafe_4cfef 15 = .ok (.iload_n 1, 1) := by decide +kernel
theorem dJ2_indexOfCharUnsafe_4cfef_16 : decode cJ2_indexOfCharUnsafe_4cfef 16 = .ok (.if_icmp .ne 6, 3) := by decide +kernel
theorem dJ2_indexOfCharUnsafe_4cfef_19 : decode cJ2_indexOfCharUnsafe_4cfef 19 = .ok (.iload 4, 2) := by decide +kernel
theorem dJ2_indexOfCharUnsafe_4cfef_21 : decode cJ2_indexOfCharUnsafe_4cfef 21 = .ok (.ireturn, 1) := by decide +kernel
theorem dJ2_indexOfCharUnsafe_4cfef_22 : decode cJ2_indexOfCharUnsafe_4cfef 22 = .ok (.iinc 4 1, 3) := by decide +kernel
theorem dJ2_indexOfCharUnsafe_4cfef_25 : decode cJ2_indexOfCharUnsafe_4cfef 25 = .ok (.goto (-22), 3) := by decide +kernel
theorem dJ2_indexOfCharUnsafe_4cfef_28 : decode cJ2_indexOfCharUnsafe_4cfef 28 = .ok (.iconst (-1), 1) := by decide +kernel
theorem dJ2_indexOfCharUnsafe_4cfef_29 : decode cJ2_indexOfCharUnsafe_4cfef 29 = .ok (.ireturn, 1) := by decide +kernel
theorem dJ2_indexOfSupplementary_4cfef_0 : decode cJ2_indexOfSupplementary_4cfef 0 = .ok (.iload_n 1, 1) := by decide +kernel
theorem dJ2_indexOfSupplementary_4cfef_1 : decode cJ2_indexOfSupplementary_4cfef 1 = .ok (.invokestatic 164, 3) := by decide +kernel
theorem dJ2_indexOfSupplementary_4cfef_4 : decode cJ2_indexOfSupplementary_4cfef 4 = .ok (.ifCond .eq 65, 3) := by decide +kernel
theorem dJ2_indexOfSupplementary_4cfef_7 : decode cJ2_indexOfSupplementary_4cfef 7 = .ok (.iload_n 1, 1) := by decide +kernel
theorem dJ2_indexOfSupplementary_4cfef_8 : decode cJ2_indexOfSupplementary_4cfef 8 = .ok (.invokestatic 157, 3) := by decide +kernel
theorem dJ2_indexOfSupplementary_4cfef_11 : decode cJ2_indexOfSupplementary_4cfef 11 = .ok (.istore 4, 2) := by decide +kernel
theorem dJ2_indexOfSupplementary_4cfef_13 : decode cJ2_indexOfSupplementary_4cfef 13 = .ok (.iload_n 1, 1) := by decide +kernel
theorem dJ2_indexOfSupplementary_4cfef_14 : decode cJ2_indexOfSupplementary_4cfef 14 = .ok (.invokestatic 161, 3) := by decide +kernel
theorem dJ2_indexOfSupplementary_4cfef_17 : decode cJ2_indexOfSupplementary_4cfef 17 = .ok (.istore 5, 2) := by decide +kernel
theorem dJ2_indexOfSupplementary_4cfef_19 : decode cJ2_indexOfSupplementary_4cfef 19 = .ok (.iload_n 2, 1) := by decide +kernel
theorem dJ2_indexOfSupplementary_4cfef_20 : decode cJ2_indexOfSupplementary_4cfef 20 = .ok (.iload_n 3, 1) := by decide +kernel
theorem dJ2_indexOfSupplementary_4cfef_21 : decode cJ2_indexOfSupplementary_4cfef 21 = .ok (.aload_n 0, 1) := by decide +kernel
theorem dJ2_indexOfSupplementary_4cfef_22 : decode cJ2_indexOfSupplementary_4cfef 22 = .ok (.invokestatic 96, 3) := by decide +kernel
theorem dJ2_indexOfSupplementary_4cfef_25 : decode cJ2_indexOfSupplementary_4cfef 25 = .ok (.iload_n 2, 1) := by decide +kernel
theorem dJ2_indexOfSupplementary_4cfef_26 : decode cJ2_indexOfSupplementary_4cfef 26 = .ok (.istore 6, 2) := by decide +kernel
theorem dJ2_indexOfSupplementary_4cfef_28 : decode cJ2_indexOfSupplementary_4cfef 28 = .ok (.iload 6, 2) := by decide +kernel
theorem dJ2_indexOfSupplementary_4cfef_30 : decode cJ2_indexOfSupplementary_4cfef 30 = .ok (.iload_n 3, 1) := by decide +kernel
theorem dJ2_indexOfSupplementary_4cfef_31 : decode cJ2_indexOfSupplementary_4cfef 31 = .ok (.iconst 1, 1) := by decide +kernel
theorem dJ2_indexOfSupplementary_4cfef_32 : decode cJ2_indexOfSupplementary_4cfef 32 = .ok (.isub, 1) := by decide +kernel
theorem dJ2_indexOfSupplementary_4cfef_33 : decode cJ2_indexOfSupplementary_4cfef 33 = .ok (.if_icmp .ge 36, 3) := by decide +kernel
theorem dJ2_indexOfSupplementary_4cfef_36 : decode cJ2_indexOfSupplementary_4cfef 36 = .ok (.aload_n 0, 1) := by decide +kernel
theorem dJ2_indexOfSupplementary_4cfef_37 : decode cJ2_indexOfSupplementary_4cfef 37 = .ok (.iload 6, 2) := by decide +kernel
theorem dJ2_indexOfSupplementary_4cfef_39 : decode cJ2_indexOfSupplementary_4cfef 39 = .ok (.invokestatic 71, 3) := by decide +kernel
theorem dJ2_indexOfSupplementary_4cfef_42 : decode cJ2_indexOfSupplementary_4cfef 42 = .ok (.iload 4, 2) := by decide +kernel
theorem dJ2_indexOfSupplementary_4cfef_44 : decode cJ2_indexOfSupplementary_4cfef 44 = .ok (.if_icmp .ne 19, 3) := by decide +kernel
theorem dJ2_indexOfSupplementary_4cfef_47 : decode cJ2_indexOfSupplementary_4cfef 47 = .ok (.aload_n 0, 1) := by decide +kernel
theorem dJ2_indexOfSupplementary_4cfef_48 : decode cJ2_indexOfSupplementary_4cfef 48 = .ok (.iload 6, 2) := by decide +kernel
theorem dJ2_indexOfSupplementary_4cfef_50 : decode cJ2_indexOfSupplementary_4cfef 50 = .ok (.iconst 1, 1) := by decide +kernel
theorem dJ2_indexOfSupplementary_4cfef_51 : decode cJ2_indexOfSupplementary_4cfef 51 = .ok (.iadd, 1) := by decide +kernel
theorem dJ2_indexOfSupplementary_4cfef_52 : decode cJ2_indexOfSupplementary_4cfef 52 = .ok (.invokestatic 71, 3) := by decide +kernel
theorem dJ2_indexOfSupplementary_4cfef_55 : decode cJ2_indexOfSupplementary_4cfef 55 = .ok (.iload 5, 2) := by decide +kernel
theorem dJ2_indexOfSupplementary_4cfef_57 : decode cJ2_indexOfSupplementary_4cfef 57 = .ok (.if_icmp .ne 6, 3) := by decide +kernel
theorem dJ2_indexOfSupplementary_4cfef_60 : decode cJ2_indexOfSupplementary_4cfef 60 = .ok (.iload 6, 2) := by decide +kernel
theorem dJ2_indexOfSupplementary_4cfef_62 : decode cJ2_indexOfSupplementary_4cfef 62 = .ok (.ireturn, 1) := by decide +kernel
theorem dJ2_indexOfSupplementary_4cfef_63 : decode cJ2_indexOfSupplementary_4cfef 63 = .ok (.iinc 6 1, 3) := by decide +kernel
theorem dJ2_indexOfSupplementary_4cfef_66 : decode cJ2_indexOfSupplementary_4cfef 66 = .ok (.goto (-38), 3) := by decide +kernel
theorem dJ2_indexOfSupplementary_4cfef_69 : decode cJ2_indexOfSupplementary_4cfef 69 = .ok (.iconst (-1), 1) := by decide +kernel
theorem dJ2_indexOfSupplementary_4cfef_70 : decode cJ2_indexOfSupplementary_4cfef 70 = .ok (.ireturn, 1) := by decide +kernel
theorem dJ2_charAt_3b067_0 : decode cJ2_charAt_3b067 0 = .ok (.iload_n 1, 1) := by decide +kernel
theorem dJ2_charAt_3b067_1 : decode cJ2_charAt_3b067 1 = .ok (.aload_n 0, 1) := by decide +kernel
theorem dJ2_charAt_3b067_2 : decode cJ2_charAt_3b067 2 = .ok (.invokestatic 67, 3) := by decide +kernel
theorem dJ2_charAt_3b067_5 : decode cJ2_charAt_3b067 5 = .ok (.aload_n 0, 1) := by decide +kernel
theorem dJ2_charAt_3b067_6 : decode cJ2_charAt_3b067 6 = .ok (.iload_n 1, 1) := by decide +kernel
theorem dJ2_charAt_3b067_7 : decode cJ2_charAt_3b067 7 = .ok (.invokestatic 71, 3) := by decide +kernel
theorem dJ2_charAt_3b067_10 : decode cJ2_charAt_3b067 10 = .ok (.ireturn, 1) := by decide +kernel
theorem dJ2_checkIndex_2214a_0 : decode cJ2_checkIndex_2214a 0 = .ok (.iload_n 0, 1) := by decide +kernel
theorem dJ2_checkIndex_2214a_1 : decode cJ2_checkIndex_2214a 1 = .ok (.aload_n 1, 1) := by decide +kernel
theorem dJ2_checkIndex_2214a_2 : decode cJ2_checkIndex_2214a 2 = .ok (.invokestatic 48, 3) := by decide +kernel
theorem dJ2_checkIndex_2214a_5 : decode cJ2_checkIndex_2214a 5 = .ok (.invokestatic 414, 3) := by decide +kernel
theorem dJ2_checkIndex_2214a_8 : decode cJ2_checkIndex_2214a 8 = .ok (.return_, 1) := by decide +kernel
theorem dJ2_checkBoundsBeginEnd_d044e_0 : decode cJ2_checkBoundsBeginEnd_d044e 0 = .ok (.iload_n 0, 1) := by decide +kernel
theorem dJ2_checkBoundsBeginEnd_d044e_1 : decode cJ2_checkBoundsBeginEnd_d044e 1 = .ok (.iload_n 1, 1) := by decide +kernel
theorem dJ2_checkBoundsBeginEnd_d044e_2 : decode cJ2_checkBoundsBeginEnd_d044e 2 = .ok (.aload_n 2, 1) := by decide +kernel
theorem dJ2_checkBoundsBeginEnd_d044e_3 : decode cJ2_checkBoundsBeginEnd_d044e 3 = .ok (.invokestatic 48, 3) := by decide +kernel
theorem dJ2_checkBoundsBeginEnd_d044e_6 : decode cJ2_checkBoundsBeginEnd_d044e 6 = .ok (.invokestatic 241, 3) := by decide +kernel
theorem dJ2_checkBoundsBeginEnd_d044e_9 : decode cJ2_checkBoundsBeginEnd_d044e 9 = .ok (.return_, 1) := by decide +kernel
theorem dJ3_checkIndex_8e157_0 : decode cJ3_checkIndex_8e157 0 = .ok (.iload_n 0, 1) := by decide +kernel
theorem dJ3_checkIndex_8e157_1 : decode cJ3_checkIndex_8e157 1 = .ok (.ifCond .lt 8, 3) := by decide +kernel
theorem dJ3_checkIndex_8e157_4 : decode cJ3_checkIndex_8e157 4 = .ok (.iload_n 0, 1) := by decide +kernel
theorem dJ3_checkIndex_8e157_5 : decode cJ3_checkIndex_8e157 5 = .ok (.iload_n 1, 1) := by decide +kernel
theorem dJ3_checkIndex_8e157_6 : decode cJ3_checkIndex_8e157 6 = .ok (.if_icmp .lt 10, 3) := by decide +kernel
theorem dJ3_checkIndex_8e157_9 : decode cJ3_checkIndex_8e157 9 = .ok (.aload_n 2, 1) := by decide +kernel
theorem dJ3_checkIndex_8e157_10 : decode cJ3_checkIndex_8e157 10 = .ok (.iload_n 0, 1) := by decide +kernel
theorem dJ3_checkIndex_8e157_11 : decode cJ3_checkIndex_8e157 11 = .ok (.iload_n 1, 1) := by decide +kernel
theorem dJ3_checkIndex_8e157_12 : decode cJ3_checkIndex_8e157 12 = .ok (.invokestatic 95, 3) := by decide +kernel
theorem dJ3_checkIndex_8e157_15 : decode cJ3_checkIndex_8e157 15 = .ok (.athrow, 1) := by decide +kernel
theorem dJ3_checkIndex_8e157_16 : decode cJ3_checkIndex_8e157 16 = .ok (.iload_n 0, 1) := by decide +kernel
theorem dJ3_checkIndex_8e157_17 : decode cJ3_checkIndex_8e157 17 = .ok (.ireturn, 1) := by decide +kernel
theorem dJ3_checkFromToIndex_8c36e_0 : decode cJ3_checkFromToIndex_8c36e 0 = .ok (.iload_n 0, 1) := by decide +kernel
theorem dJ3_checkFromToIndex_8c36e_1 : decode cJ3_checkFromToIndex_8c36e 1 = .ok (.ifCond .lt 13, 3) := by decide +kernel
theorem dJ3_checkFromToIndex_8c36e_4 : decode cJ3_checkFromToIndex_8c36e 4 = .ok (.iload_n 0, 1) := by decide +kernel
theorem dJ3_checkFromToIndex_8c36e_5 : decode cJ3_checkFromToIndex_8c36e 5 = .ok (.iload_n 1, 1) := by decide +kernel
theorem dJ3_checkFromToIndex_8c36e_6 : decode cJ3_checkFromToIndex_8c36e 6 = .ok (.if_icmp .gt 8, 3) := by decide +kernel
theorem dJ3_checkFromToIndex_8c36e_9 : decode cJ3_checkFromToIndex_8c36e 9 = .ok (.iload_n 1, 1) := by decide +kernel
theorem dJ3_checkFromToIndex_8c36e_10 : decode cJ3_checkFromToIndex_8c36e 10 = .ok (.iload_n 2, 1) := by decide +kernel
theorem dJ3_checkFromToIndex_8c36e_11 : decode cJ3_checkFromToIndex_8c36e 11 = .ok (.if_icmp .le 11, 3) := by decide +kernel
theorem dJ3_checkFromToIndex_8c36e_14 : decode cJ3_checkFromToIndex_8c36e 14 = .ok (.aload_n 3, 1) := by decide +kernel
theorem dJ3_checkFromToIndex_8c36e_15 : decode cJ3_checkFromToIndex_8c36e 15 = .ok (.iload_n 0, 1) := by decide +kernel
theorem dJ3_checkFromToIndex_8c36e_16 : decode cJ3_checkFromToIndex_8c36e 16 = .ok (.iload_n 1, 1) := by decide +kernel
theorem dJ3_checkFromToIndex_8c36e_17 : decode cJ3_checkFromToIndex_8c36e 17 = .ok (.iload_n 2, 1) := by decide +kernel
theorem dJ3_checkFromToIndex_8c36e_18 : decode cJ3_checkFromToIndex_8c36e 18 = .ok (.invokestatic 99, 3) := by decide +kernel
theorem dJ3_checkFromToIndex_8c36e_21 : decode cJ3_checkFromToIndex_8c36e 21 = .ok (.athrow, 1) := by decide +kernel
theorem dJ3_checkFromToIndex_8c36e_22 : decode cJ3_checkFromToIndex_8c36e 22 = .ok (.iload_n 0, 1) := by decide +kernel
theorem dJ3_checkFromToIndex_8c36e_23 : decode cJ3_checkFromToIndex_8c36e 23 = .ok (.ireturn, 1) := by decide +kernel
theorem dL_law_0 : decode cL_law 0 = .ok (.new 7, 3) := by decide +kernel
theorem dL_law_3 : decode cL_law 3 = .ok (.dup, 1) := by decide +kernel
theorem dL_law_4 : decode cL_law 4 = .ok (.invokespecial 9, 3) := by decide +kernel
theorem dL_law_7 : decode cL_law 7 = .ok (.astore_n 1, 1) := by decide +kernel
theorem dL_law_8 : decode cL_law 8 = .ok (.new 10, 3) := by decide +kernel
theorem dL_law_11 : decode cL_law 11 = .ok (.dup, 1) := by decide +kernel
theorem dL_law_12 : decode cL_law 12 = .ok (.invokespecial 12, 3) := by decide +kernel
theorem dL_law_15 : decode cL_law 15 = .ok (.astore_n 2, 1) := by decide +kernel
theorem dL_law_16 : decode cL_law 16 = .ok (.iconst 0, 1) := by decide +kernel
theorem dL_law_17 : decode cL_law 17 = .ok (.istore_n 3, 1) := by decide +kernel
theorem dL_law_18 : decode cL_law 18 = .ok (.iload_n 3, 1) := by decide +kernel
theorem dL_law_19 : decode cL_law 19 = .ok (.aload_n 0, 1) := by decide +kernel
theorem dL_law_20 : decode cL_law 20 = .ok (.arraylength, 1) := by decide +kernel
theorem dL_law_21 : decode cL_law 21 = .ok (.bipush 6, 2) := by decide +kernel
theorem dL_law_23 : decode cL_law 23 = .ok (.isub, 1) := by decide +kernel
theorem dL_law_24 : decode cL_law 24 = .ok (.if_icmp .gt 1173, 3) := by decide +kernel
theorem dL_law_27 : decode cL_law 27 = .ok (.aload_n 0, 1) := by decide +kernel
theorem dL_law_28 : decode cL_law 28 = .ok (.iload_n 3, 1) := by decide +kernel
theorem dL_law_29 : decode cL_law 29 = .ok (.iaload, 1) := by decide +kernel
theorem dL_law_30 : decode cL_law 30 = .ok (.bipush 31, 2) := by decide +kernel
theorem dL_law_32 : decode cL_law 32 = .ok (.iand, 1) := by decide +kernel
theorem dL_law_33 : decode cL_law 33 = .ok (.tableswitch 1158 0 31 #[143, 186, 219, 252, 285, 308, 331, 374, 397, 410, 433, 456, 489, 512, 571, 604, 638, 662, 695, 718, 751, 764, 797, 810, 823, 866, 889, 922, 945, 988, 1061, 1095], 143) := by decide +kernel
theorem dL_law_176 : decode cL_law 176 = .ok (.aload_n 1, 1) := by decide +kernel
theorem dL_law_177 : decode cL_law 177 = .ok (.aload_n 0, 1) := by decide +kernel
theorem dL_law_178 : decode cL_law 178 = .ok (.iload_n 3, 1) := by decide +kernel
theorem dL_law_179 : decode cL_law 179 = .ok (.iconst 1, 1) := by decide +kernel
theorem dL_law_180 : decode cL_law 180 = .ok (.iadd, 1) := by decide +kernel
theorem dL_law_181 : decode cL_law 181 = .ok (.iaload, 1) := by decide +kernel
theorem dL_law_182 : decode cL_law 182 = .ok (.aload_n 0, 1) := by decide +kernel
theorem dL_law_183 : decode cL_law 183 = .ok (.iload_n 3, 1) := by decide +kernel
theorem dL_law_184 : decode cL_law 184 = .ok (.iconst 2, 1) := by decide +kernel
theorem dL_law_185 : decode cL_law 185 = .ok (.iadd, 1) := by decide +kernel
theorem dL_law_186 : decode cL_law 186 = .ok (.iaload, 1) := by decide +kernel
theorem dL_law_187 : decode cL_law 187 = .ok (.aload_n 0, 1) := by decide +kernel
theorem dL_law_188 : decode cL_law 188 = .ok (.iload_n 3, 1) := by decide +kernel
theorem dL_law_189 : decode cL_law 189 = .ok (.iconst 3, 1) := by decide +kernel
theorem dL_law_190 : decode cL_law 190 = .ok (.iadd, 1) := by decide +kernel
theorem dL_law_191 : decode cL_law 191 = .ok (.iaload, 1) := by decide +kernel
theorem dL_law_192 : decode cL_law 192 = .ok (.invokevirtual 13, 3) := by decide +kernel
theorem dL_law_195 : decode cL_law 195 = .ok (.aload_n 2, 1) := by decide +kernel
theorem dL_law_196 : decode cL_law 196 = .ok (.aload_n 0, 1) := by decide +kernel
theorem dL_law_197 : decode cL_law 197 = .ok (.iload_n 3, 1) := by decide +kernel
theorem dL_law_198 : decode cL_law 198 = .ok (.iconst 1, 1) := by decide +kernel
theorem dL_law_199 : decode cL_law 199 = .ok (.iadd, 1) := by decide +kernel
theorem dL_law_200 : decode cL_law 200 = .ok (.iaload, 1) := by decide +kernel
theorem dL_law_201 : decode cL_law 201 = .ok (.aload_n 0, 1) := by decide +kernel
theorem dL_law_202 : decode cL_law 202 = .ok (.iload_n 3, 1) := by decide +kernel
theorem dL_law_203 : decode cL_law 203 = .ok (.iconst 2, 1) := by decide +kernel
theorem dL_law_204 : decode cL_law 204 = .ok (.iadd, 1) := by decide +kernel
theorem dL_law_205 : decode cL_law 205 = .ok (.iaload, 1) := by decide +kernel
theorem dL_law_206 : decode cL_law 206 = .ok (.aload_n 0, 1) := by decide +kernel
theorem dL_law_207 : decode cL_law 207 = .ok (.iload_n 3, 1) := by decide +kernel
theorem dL_law_208 : decode cL_law 208 = .ok (.iconst 3, 1) := by decide +kernel
theorem dL_law_209 : decode cL_law 209 = .ok (.iadd, 1) := by decide +kernel
theorem dL_law_210 : decode cL_law 210 = .ok (.iaload, 1) := by decide +kernel
theorem dL_law_211 : decode cL_law 211 = .ok (.invokevirtual 17, 3) := by decide +kernel
theorem dL_law_214 : decode cL_law 214 = .ok (.if_icmp .eq 977, 3) := by decide +kernel
theorem dL_law_217 : decode cL_law 217 = .ok (.iconst 0, 1) := by decide +kernel
theorem dL_law_218 : decode cL_law 218 = .ok (.ireturn, 1) := by decide +kernel
theorem dL_law_219 : decode cL_law 219 = .ok (.aload_n 1, 1) := by decide +kernel
theorem dL_law_220 : decode cL_law 220 = .ok (.aload_n 0, 1) := by decide +kernel
theorem dL_law_221 : decode cL_law 221 = .ok (.iload_n 3, 1) := by decide +kernel
theorem dL_law_222 : decode cL_law 222 = .ok (.iconst 1, 1) := by decide +kernel
theorem dL_law_223 : decode cL_law 223 = .ok (.iadd, 1) := by decide +kernel
theorem dL_law_224 : decode cL_law 224 = .ok (.iaload, 1) := by decide +kernel
theorem dL_law_225 : decode cL_law 225 = .ok (.aload_n 0, 1) := by decide +kernel
theorem dL_law_226 : decode cL_law 226 = .ok (.iload_n 3, 1) := by decide +kernel
theorem dL_law_227 : decode cL_law 227 = .ok (.iconst 2, 1) := by decide +kernel
theorem dL_law_228 : decode cL_law 228 = .ok (.iadd, 1) := by decide +kernel
theorem dL_law_229 : decode cL_law 229 = .ok (.iaload, 1) := by decide +kernel
theorem dL_law_230 : decode cL_law 230 = .ok (.invokevirtual 18, 3) := by decide +kernel
theorem dL_law_233 : decode cL_law 233 = .ok (.aload_n 2, 1) := by decide +kernel
theorem dL_law_234 : decode cL_law 234 = .ok (.aload_n 0, 1) := by decide +kernel
theorem dL_law_235 : decode cL_law 235 = .ok (.iload_n 3, 1) := by decide +kernel
theorem dL_law_236 : decode cL_law 236 = .ok (.iconst 1, 1) := by decide +kernel
theorem dL_law_237 : decode cL_law 237 = .ok (.iadd, 1) := by decide +kernel
theorem dL_law_238 : decode cL_law 238 = .ok (.iaload, 1) := by decide +kernel
theorem dL_law_239 : decode cL_law 239 = .ok (.aload_n 0, 1) := by decide +kernel
theorem dL_law_240 : decode cL_law 240 = .ok (.iload_n 3, 1) := by decide +kernel
theorem dL_law_241 : decode cL_law 241 = .ok (.iconst 2, 1) := by decide +kernel
theorem dL_law_242 : decode cL_law 242 = .ok (.iadd, 1) := by decide +kernel
theorem dL_law_243 : decode cL_law 243 = .ok (.iaload, 1) := by decide +kernel
theorem dL_law_244 : decode cL_law 244 = .ok (.invokevirtual 22, 3) := by decide +kernel
theorem dL_law_247 : decode cL_law 247 = .ok (.if_icmp .eq 944, 3) := by decide +kernel
theorem dL_law_250 : decode cL_law 250 = .ok (.iconst 0, 1) := by decide +kernel
theorem dL_law_251 : decode cL_law 251 = .ok (.ireturn, 1) := by decide +kernel
theorem dL_law_252 : decode cL_law 252 = .ok (.aload_n 1, 1) := by decide +kernel
theorem dL_law_253 : decode cL_law 253 = .ok (.aload_n 0, 1) := by decide +kernel
theorem dL_law_254 : decode cL_law 254 = .ok (.iload_n 3, 1) := by decide +kernel
theorem dL_law_255 : decode cL_law 255 = .ok (.iconst 1, 1) := by decide +kernel
theorem dL_law_256 : decode cL_law 256 = .ok (.iadd, 1) := by decide +kernel
theorem dL_law_257 : decode cL_law 257 = .ok (.iaload, 1) := by decide +kernel
theorem dL_law_258 : decode cL_law 258 = .ok (.aload_n 0, 1) := by decide +kernel
theorem dL_law_259 : decode cL_law 259 = .ok (.iload_n 3, 1) := by decide +kernel
theorem dL_law_260 : decode cL_law 260 = .ok (.iconst 2, 1) := by decide +kernel
theorem dL_law_261 : decode cL_law 261 = .ok (.iadd, 1) := by decide +kernel
theorem dL_law_262 : decode cL_law 262 = .ok (.iaload, 1) := by decide +kernel
theorem dL_law_263 : decode cL_law 263 = .ok (.invokevirtual 23, 3) := by decide +kernel
theorem dL_law_266 : decode cL_law 266 = .ok (.aload_n 2, 1) := by decide +kernel
theorem dL_law_267 : decode cL_law 267 = .ok (.aload_n 0, 1) := by decide +kernel
theorem dL_law_268 : decode cL_law 268 = .ok (.iload_n 3, 1) := by decide +kernel
theorem dL_law_269 : decode cL_law 269 = .ok (.iconst 1, 1) := by decide +kernel
theorem dL_law_270 : decode cL_law 270 = .ok (.iadd, 1) := by decide +kernel
theorem dL_law_271 : decode cL_law 271 = .ok (.iaload, 1) := by decide +kernel
theorem dL_law_272 : decode cL_law 272 = .ok (.aload_n 0, 1) := by decide +kernel
theorem dL_law_273 : decode cL_law 273 = .ok (.iload_n 3, 1) := by decide +kernel
theorem dL_law_274 : decode cL_law 274 = .ok (.iconst 2, 1) := by decide +kernel
theorem dL_law_275 : decode cL_law 275 = .ok (.iadd, 1) := by decide +kernel
theorem dL_law_276 : decode cL_law 276 = .ok (.iaload, 1) := by decide +kernel
theorem dL_law_277 : decode cL_law 277 = .ok (.invokevirtual 26, 3) := by decide +kernel
theorem dL_law_280 : decode cL_law 280 = .ok (.if_icmp .eq 911, 3) := by decide +kernel
theorem dL_law_283 : decode cL_law 283 = .ok (.iconst 0, 1) := by decide +kernel
theorem dL_law_284 : decode cL_law 284 = .ok (.ireturn, 1) := by decide +kernel
theorem dL_law_285 : decode cL_law 285 = .ok (.aload_n 1, 1) := by decide +kernel
theorem dL_law_286 : decode cL_law 286 = .ok (.aload_n 0, 1) := by decide +kernel
theorem dL_law_287 : decode cL_law 287 = .ok (.iload_n 3, 1) := by decide +kernel
theorem dL_law_288 : decode cL_law 288 = .ok (.iconst 1, 1) := by decide +kernel
theorem dL_law_289 : decode cL_law 289 = .ok (.iadd, 1) := by decide +kernel
theorem dL_law_290 : decode cL_law 290 = .ok (.iaload, 1) := by decide +kernel
theorem dL_law_291 : decode cL_law 291 = .ok (.aload_n 0, 1) := by decide +kernel
theorem dL_law_292 : decode cL_law 292 = .ok (.iload_n 3, 1) := by decide +kernel
theorem dL_law_293 : decode cL_law 293 = .ok (.iconst 2, 1) := by decide +kernel
theorem dL_law_294 : decode cL_law 294 = .ok (.iadd, 1) := by decide +kernel
theorem dL_law_295 : decode cL_law 295 = .ok (.iaload, 1) := by decide +kernel
theorem dL_law_296 : decode cL_law 296 = .ok (.invokevirtual 27, 3) := by decide +kernel
theorem dL_law_299 : decode cL_law 299 = .ok (.aload_n 2, 1) := by decide +kernel
theorem dL_law_300 : decode cL_law 300 = .ok (.aload_n 0, 1) := by decide +kernel
theorem dL_law_301 : decode cL_law 301 = .ok (.iload_n 3, 1) := by decide +kernel
theorem dL_law_302 : decode cL_law 302 = .ok (.iconst 1, 1) := by decide +kernel
theorem dL_law_303 : decode cL_law 303 = .ok (.iadd, 1) := by decide +kernel
theorem dL_law_304 : decode cL_law 304 = .ok (.iaload, 1) := by decide +kernel
theorem dL_law_305 : decode cL_law 305 = .ok (.aload_n 0, 1) := by decide +kernel
theorem dL_law_306 : decode cL_law 306 = .ok (.iload_n 3, 1) := by decide +kernel
theorem dL_law_307 : decode cL_law 307 = .ok (.iconst 2, 1) := by decide +kernel
theorem dL_law_308 : decode cL_law 308 = .ok (.iadd, 1) := by decide +kernel
theorem dL_law_309 : decode cL_law 309 = .ok (.iaload, 1) := by decide +kernel
theorem dL_law_310 : decode cL_law 310 = .ok (.invokevirtual 30, 3) := by decide +kernel
theorem dL_law_313 : decode cL_law 313 = .ok (.if_icmp .eq 878, 3) := by decide +kernel
theorem dL_law_316 : decode cL_law 316 = .ok (.iconst 0, 1) := by decide +kernel
theorem dL_law_317 : decode cL_law 317 = .ok (.ireturn, 1) := by decide +kernel
theorem dL_law_318 : decode cL_law 318 = .ok (.aload_n 1, 1) := by decide +kernel
theorem dL_law_319 : decode cL_law 319 = .ok (.aload_n 0, 1) := by decide +kernel
theorem dL_law_320 : decode cL_law 320 = .ok (.iload_n 3, 1) := by decide +kernel
theorem dL_law_321 : decode cL_law 321 = .ok (.iconst 1, 1) := by decide +kernel
theorem dL_law_322 : decode cL_law 322 = .ok (.iadd, 1) := by decide +kernel
theorem dL_law_323 : decode cL_law 323 = .ok (.iaload, 1) := by decide +kernel
theorem dL_law_324 : decode cL_law 324 = .ok (.invokevirtual 31, 3) := by decide +kernel
theorem dL_law_327 : decode cL_law 327 = .ok (.aload_n 2, 1) := by decide +kernel
theorem dL_law_328 : decode cL_law 328 = .ok (.aload_n 0, 1) := by decide +kernel
theorem dL_law_329 : decode cL_law 329 = .ok (.iload_n 3, 1) := by decide +kernel
theorem dL_law_330 : decode cL_law 330 = .ok (.iconst 1, 1) := by decide +kernel
theorem dL_law_331 : decode cL_law 331 = .ok (.iadd, 1) := by decide +kernel
theorem dL_law_332 : decode cL_law 332 = .ok (.iaload, 1) := by decide +kernel
theorem dL_law_333 : decode cL_law 333 = .ok (.invokevirtual 35, 3) := by decide +kernel
theorem dL_law_336 : decode cL_law 336 = .ok (.if_icmp .eq 855, 3) := by decide +kernel
theorem dL_law_339 : decode cL_law 339 = .ok (.iconst 0, 1) := by decide +kernel
theorem dL_law_340 : decode cL_law 340 = .ok (.ireturn, 1) := by decide +kernel
theorem dL_law_341 : decode cL_law 341 = .ok (.aload_n 1, 1) := by decide +kernel
theorem dL_law_342 : decode cL_law 342 = .ok (.aload_n 0, 1) := by decide +kernel
theorem dL_law_343 : decode cL_law 343 = .ok (.iload_n 3, 1) := by decide +kernel
theorem dL_law_344 : decode cL_law 344 = .ok (.iconst 1, 1) := by decide +kernel
theorem dL_law_345 : decode cL_law 345 = .ok (.iadd, 1) := by decide +kernel
theorem dL_law_346 : decode cL_law 346 = .ok (.iaload, 1) := by decide +kernel
theorem dL_law_347 : decode cL_law 347 = .ok (.invokevirtual 36, 3) := by decide +kernel
theorem dL_law_350 : decode cL_law 350 = .ok (.aload_n 2, 1) := by decide +kernel
theorem dL_law_351 : decode cL_law 351 = .ok (.aload_n 0, 1) := by decide +kernel
theorem dL_law_352 : decode cL_law 352 = .ok (.iload_n 3, 1) := by decide +kernel
theorem dL_law_353 : decode cL_law 353 = .ok (.iconst 1, 1) := by decide +kernel
theorem dL_law_354 : decode cL_law 354 = .ok (.iadd, 1) := by decide +kernel
theorem dL_law_355 : decode cL_law 355 = .ok (.iaload, 1) := by decide +kernel
theorem dL_law_356 : decode cL_law 356 = .ok (.invokevirtual 39, 3) := by decide +kernel
theorem dL_law_359 : decode cL_law 359 = .ok (.if_icmp .eq 832, 3) := by decide +kernel
theorem dL_law_362 : decode cL_law 362 = .ok (.iconst 0, 1) := by decide +kernel
theorem dL_law_363 : decode cL_law 363 = .ok (.ireturn, 1) := by decide +kernel
theorem dL_law_364 : decode cL_law 364 = .ok (.aload_n 1, 1) := by decide +kernel
theorem dL_law_365 : decode cL_law 365 = .ok (.aload_n 0, 1) := by decide +kernel
theorem dL_law_366 : decode cL_law 366 = .ok (.iload_n 3, 1) := by decide +kernel
theorem dL_law_367 : decode cL_law 367 = .ok (.iconst 1, 1) := by decide +kernel
theorem dL_law_368 : decode cL_law 368 = .ok (.iadd, 1) := by decide +kernel
theorem dL_law_369 : decode cL_law 369 = .ok (.iaload, 1) := by decide +kernel
theorem dL_law_370 : decode cL_law 370 = .ok (.aload_n 0, 1) := by decide +kernel
theorem dL_law_371 : decode cL_law 371 = .ok (.iload_n 3, 1) := by decide +kernel
theorem dL_law_372 : decode cL_law 372 = .ok (.iconst 2, 1) := by decide +kernel
theorem dL_law_373 : decode cL_law 373 = .ok (.iadd, 1) := by decide +kernel
theorem dL_law_374 : decode cL_law 374 = .ok (.iaload, 1) := by decide +kernel
theorem dL_law_375 : decode cL_law 375 = .ok (.aload_n 0, 1) := by decide +kernel
theorem dL_law_376 : decode cL_law 376 = .ok (.iload_n 3, 1) := by decide +kernel
theorem dL_law_377 : decode cL_law 377 = .ok (.iconst 3, 1) := by decide +kernel
theorem dL_law_378 : decode cL_law 378 = .ok (.iadd, 1) := by decide +kernel
theorem dL_law_379 : decode cL_law 379 = .ok (.iaload, 1) := by decide +kernel
theorem dL_law_380 : decode cL_law 380 = .ok (.invokevirtual 40, 3) := by decide +kernel
theorem dL_law_383 : decode cL_law 383 = .ok (.aload_n 2, 1) := by decide +kernel
theorem dL_law_384 : decode cL_law 384 = .ok (.aload_n 0, 1) := by decide +kernel
theorem dL_law_385 : decode cL_law 385 = .ok (.iload_n 3, 1) := by decide +kernel
theorem dL_law_386 : decode cL_law 386 = .ok (.iconst 1, 1) := by decide +kernel
theorem dL_law_387 : decode cL_law 387 = .ok (.iadd, 1) := by decide +kernel
theorem dL_law_388 : decode cL_law 388 = .ok (.iaload, 1) := by decide +kernel
theorem dL_law_389 : decode cL_law 389 = .ok (.aload_n 0, 1) := by decide +kernel
theorem dL_law_390 : decode cL_law 390 = .ok (.iload_n 3, 1) := by decide +kernel
theorem dL_law_391 : decode cL_law 391 = .ok (.iconst 2, 1) := by decide +kernel
theorem dL_law_392 : decode cL_law 392 = .ok (.iadd, 1) := by decide +kernel
theorem dL_law_393 : decode cL_law 393 = .ok (.iaload, 1) := by decide +kernel
theorem dL_law_394 : decode cL_law 394 = .ok (.aload_n 0, 1) := by decide +kernel
theorem dL_law_395 : decode cL_law 395 = .ok (.iload_n 3, 1) := by decide +kernel
theorem dL_law_396 : decode cL_law 396 = .ok (.iconst 3, 1) := by decide +kernel
theorem dL_law_397 : decode cL_law 397 = .ok (.iadd, 1) := by decide +kernel
theorem dL_law_398 : decode cL_law 398 = .ok (.iaload, 1) := by decide +kernel
theorem dL_law_399 : decode cL_law 399 = .ok (.invokevirtual 43, 3) := by decide +kernel
theorem dL_law_402 : decode cL_law 402 = .ok (.if_icmp .eq 789, 3) := by decide +kernel
theorem dL_law_405 : decode cL_law 405 = .ok (.iconst 0, 1) := by decide +kernel
theorem dL_law_406 : decode cL_law 406 = .ok (.ireturn, 1) := by decide +kernel
theorem dL_law_407 : decode cL_law 407 = .ok (.aload_n 1, 1) := by decide +kernel
theorem dL_law_408 : decode cL_law 408 = .ok (.aload_n 0, 1) := by decide +kernel
theorem dL_law_409 : decode cL_law 409 = .ok (.iload_n 3, 1) := by decide +kernel
theorem dL_law_410 : decode cL_law 410 = .ok (.iconst 1, 1) := by decide +kernel
theorem dL_law_411 : decode cL_law 411 = .ok (.iadd, 1) := by decide +kernel
theorem dL_law_412 : decode cL_law 412 = .ok (.iaload, 1) := by decide +kernel
theorem dL_law_413 : decode cL_law 413 = .ok (.invokevirtual 44, 3) := by decide +kernel
theorem dL_law_416 : decode cL_law 416 = .ok (.aload_n 2, 1) := by decide +kernel
theorem dL_law_417 : decode cL_law 417 = .ok (.aload_n 0, 1) := by decide +kernel
theorem dL_law_418 : decode cL_law 418 = .ok (.iload_n 3, 1) := by decide +kernel
theorem dL_law_419 : decode cL_law 419 = .ok (.iconst 1, 1) := by decide +kernel
theorem dL_law_420 : decode cL_law 420 = .ok (.iadd, 1) := by decide +kernel
theorem dL_law_421 : decode cL_law 421 = .ok (.iaload, 1) := by decide +kernel
theorem dL_law_422 : decode cL_law 422 = .ok (.invokevirtual 47, 3) := by decide +kernel
theorem dL_law_425 : decode cL_law 425 = .ok (.if_icmp .eq 766, 3) := by decide +kernel
theorem dL_law_428 : decode cL_law 428 = .ok (.iconst 0, 1) := by decide +kernel
theorem dL_law_429 : decode cL_law 429 = .ok (.ireturn, 1) := by decide +kernel
theorem dL_law_430 : decode cL_law 430 = .ok (.aload_n 1, 1) := by decide +kernel
theorem dL_law_431 : decode cL_law 431 = .ok (.invokevirtual 48, 3) := by decide +kernel
theorem dL_law_434 : decode cL_law 434 = .ok (.aload_n 2, 1) := by decide +kernel
theorem dL_law_435 : decode cL_law 435 = .ok (.invokevirtual 52, 3) := by decide +kernel
theorem dL_law_438 : decode cL_law 438 = .ok (.if_icmp .eq 753, 3) := by decide +kernel
theorem dL_law_441 : decode cL_law 441 = .ok (.iconst 0, 1) := by decide +kernel
theorem dL_law_442 : decode cL_law 442 = .ok (.ireturn, 1) := by decide +kernel
theorem dL_law_443 : decode cL_law 443 = .ok (.aload_n 1, 1) := by decide +kernel
theorem dL_law_444 : decode cL_law 444 = .ok (.aload_n 0, 1) := by decide +kernel
theorem dL_law_445 : decode cL_law 445 = .ok (.iload_n 3, 1) := by decide +kernel
theorem dL_law_446 : decode cL_law 446 = .ok (.iconst 1, 1) := by decide +kernel
theorem dL_law_447 : decode cL_law 447 = .ok (.iadd, 1) := by decide +kernel
theorem dL_law_448 : decode cL_law 448 = .ok (.iaload, 1) := by decide +kernel
theorem dL_law_449 : decode cL_law 449 = .ok (.invokevirtual 53, 3) := by decide +kernel
theorem dL_law_452 : decode cL_law 452 = .ok (.aload_n 2, 1) := by decide +kernel
theorem dL_law_453 : decode cL_law 453 = .ok (.aload_n 0, 1) := by decide +kernel
theorem dL_law_454 : decode cL_law 454 = .ok (.iload_n 3, 1) := by decide +kernel
theorem dL_law_455 : decode cL_law 455 = .ok (.iconst 1, 1) := by decide +kernel
theorem dL_law_456 : decode cL_law 456 = .ok (.iadd, 1) := by decide +kernel
theorem dL_law_457 : decode cL_law 457 = .ok (.iaload, 1) := by decide +kernel
theorem dL_law_458 : decode cL_law 458 = .ok (.invokevirtual 56, 3) := by decide +kernel
theorem dL_law_461 : decode cL_law 461 = .ok (.if_icmp .eq 730, 3) := by decide +kernel
theorem dL_law_464 : decode cL_law 464 = .ok (.iconst 0, 1) := by decide +kernel
theorem dL_law_465 : decode cL_law 465 = .ok (.ireturn, 1) := by decide +kernel
theorem dL_law_466 : decode cL_law 466 = .ok (.aload_n 1, 1) := by decide +kernel
theorem dL_law_467 : decode cL_law 467 = .ok (.aload_n 0, 1) := by decide +kernel
theorem dL_law_468 : decode cL_law 468 = .ok (.iload_n 3, 1) := by decide +kernel
theorem dL_law_469 : decode cL_law 469 = .ok (.iconst 1, 1) := by decide +kernel
theorem dL_law_470 : decode cL_law 470 = .ok (.iadd, 1) := by decide +kernel
theorem dL_law_471 : decode cL_law 471 = .ok (.iaload, 1) := by decide +kernel
theorem dL_law_472 : decode cL_law 472 = .ok (.invokevirtual 57, 3) := by decide +kernel
theorem dL_law_475 : decode cL_law 475 = .ok (.aload_n 2, 1) := by decide +kernel
theorem dL_law_476 : decode cL_law 476 = .ok (.aload_n 0, 1) := by decide +kernel
theorem dL_law_477 : decode cL_law 477 = .ok (.iload_n 3, 1) := by decide +kernel
theorem dL_law_478 : decode cL_law 478 = .ok (.iconst 1, 1) := by decide +kernel
theorem dL_law_479 : decode cL_law 479 = .ok (.iadd, 1) := by decide +kernel
theorem dL_law_480 : decode cL_law 480 = .ok (.iaload, 1) := by decide +kernel
theorem dL_law_481 : decode cL_law 481 = .ok (.invokevirtual 60, 3) := by decide +kernel
theorem dL_law_484 : decode cL_law 484 = .ok (.if_icmp .eq 707, 3) := by decide +kernel
theorem dL_law_487 : decode cL_law 487 = .ok (.iconst 0, 1) := by decide +kernel
theorem dL_law_488 : decode cL_law 488 = .ok (.ireturn, 1) := by decide +kernel
theorem dL_law_489 : decode cL_law 489 = .ok (.aload_n 1, 1) := by decide +kernel
theorem dL_law_490 : decode cL_law 490 = .ok (.aload_n 0, 1) := by decide +kernel
theorem dL_law_491 : decode cL_law 491 = .ok (.iload_n 3, 1) := by decide +kernel
theorem dL_law_492 : decode cL_law 492 = .ok (.iconst 1, 1) := by decide +kernel
theorem dL_law_493 : decode cL_law 493 = .ok (.iadd, 1) := by decide +kernel
theorem dL_law_494 : decode cL_law 494 = .ok (.iaload, 1) := by decide +kernel
theorem dL_law_495 : decode cL_law 495 = .ok (.aload_n 0, 1) := by decide +kernel
theorem dL_law_496 : decode cL_law 496 = .ok (.iload_n 3, 1) := by decide +kernel
theorem dL_law_497 : decode cL_law 497 = .ok (.iconst 2, 1) := by decide +kernel
theorem dL_law_498 : decode cL_law 498 = .ok (.iadd, 1) := by decide +kernel
theorem dL_law_499 : decode cL_law 499 = .ok (.iaload, 1) := by decide +kernel
theorem dL_law_500 : decode cL_law 500 = .ok (.invokevirtual 61, 3) := by decide +kernel
theorem dL_law_503 : decode cL_law 503 = .ok (.aload_n 2, 1) := by decide +kernel
theorem dL_law_504 : decode cL_law 504 = .ok (.aload_n 0, 1) := by decide +kernel
theorem dL_law_505 : decode cL_law 505 = .ok (.iload_n 3, 1) := by decide +kernel
theorem dL_law_506 : decode cL_law 506 = .ok (.iconst 1, 1) := by decide +kernel
theorem dL_law_507 : decode cL_law 507 = .ok (.iadd, 1) := by decide +kernel
theorem dL_law_508 : decode cL_law 508 = .ok (.iaload, 1) := by decide +kernel
theorem dL_law_509 : decode cL_law 509 = .ok (.aload_n 0, 1) := by decide +kernel
theorem dL_law_510 : decode cL_law 510 = .ok (.iload_n 3, 1) := by decide +kernel
theorem dL_law_511 : decode cL_law 511 = .ok (.iconst 2, 1) := by decide +kernel
theorem dL_law_512 : decode cL_law 512 = .ok (.iadd, 1) := by decide +kernel
theorem dL_law_513 : decode cL_law 513 = .ok (.iaload, 1) := by decide +kernel
theorem dL_law_514 : decode cL_law 514 = .ok (.invokevirtual 64, 3) := by decide +kernel
theorem dL_law_517 : decode cL_law 517 = .ok (.if_icmp .eq 674, 3) := by decide +kernel
theorem dL_law_520 : decode cL_law 520 = .ok (.iconst 0, 1) := by decide +kernel
theorem dL_law_521 : decode cL_law 521 = .ok (.ireturn, 1) := by decide +kernel
theorem dL_law_522 : decode cL_law 522 = .ok (.aload_n 1, 1) := by decide +kernel
theorem dL_law_523 : decode cL_law 523 = .ok (.aload_n 0, 1) := by decide +kernel
theorem dL_law_524 : decode cL_law 524 = .ok (.iload_n 3, 1) := by decide +kernel
theorem dL_law_525 : decode cL_law 525 = .ok (.iconst 1, 1) := by decide +kernel
theorem dL_law_526 : decode cL_law 526 = .ok (.iadd, 1) := by decide +kernel
theorem dL_law_527 : decode cL_law 527 = .ok (.iaload, 1) := by decide +kernel
theorem dL_law_528 : decode cL_law 528 = .ok (.invokevirtual 65, 3) := by decide +kernel
theorem dL_law_531 : decode cL_law 531 = .ok (.aload_n 2, 1) := by decide +kernel
theorem dL_law_532 : decode cL_law 532 = .ok (.aload_n 0, 1) := by decide +kernel
theorem dL_law_533 : decode cL_law 533 = .ok (.iload_n 3, 1) := by decide +kernel
theorem dL_law_534 : decode cL_law 534 = .ok (.iconst 1, 1) := by decide +kernel
theorem dL_law_535 : decode cL_law 535 = .ok (.iadd, 1) := by decide +kernel
theorem dL_law_536 : decode cL_law 536 = .ok (.iaload, 1) := by decide +kernel
theorem dL_law_537 : decode cL_law 537 = .ok (.invokevirtual 68, 3) := by decide +kernel
theorem dL_law_540 : decode cL_law 540 = .ok (.if_icmp .eq 651, 3) := by decide +kernel
theorem dL_law_543 : decode cL_law 543 = .ok (.iconst 0, 1) := by decide +kernel
theorem dL_law_544 : decode cL_law 544 = .ok (.ireturn, 1) := by decide +kernel
theorem dL_law_545 : decode cL_law 545 = .ok (.aload_n 1, 1) := by decide +kernel
theorem dL_law_546 : decode cL_law 546 = .ok (.aload_n 0, 1) := by decide +kernel
theorem dL_law_547 : decode cL_law 547 = .ok (.iload_n 3, 1) := by decide +kernel
theorem dL_law_548 : decode cL_law 548 = .ok (.iconst 1, 1) := by decide +kernel
theorem dL_law_549 : decode cL_law 549 = .ok (.iadd, 1) := by decide +kernel
theorem dL_law_550 : decode cL_law 550 = .ok (.iaload, 1) := by decide +kernel
theorem dL_law_551 : decode cL_law 551 = .ok (.aload_n 0, 1) := by decide +kernel
theorem dL_law_552 : decode cL_law 552 = .ok (.iload_n 3, 1) := by decide +kernel
theorem dL_law_553 : decode cL_law 553 = .ok (.iconst 2, 1) := by decide +kernel
theorem dL_law_554 : decode cL_law 554 = .ok (.iadd, 1) := by decide +kernel
theorem dL_law_555 : decode cL_law 555 = .ok (.iaload, 1) := by decide +kernel
theorem dL_law_556 : decode cL_law 556 = .ok (.aload_n 0, 1) := by decide +kernel
theorem dL_law_557 : decode cL_law 557 = .ok (.iload_n 3, 1) := by decide +kernel
theorem dL_law_558 : decode cL_law 558 = .ok (.iconst 3, 1) := by decide +kernel
theorem dL_law_559 : decode cL_law 559 = .ok (.iadd, 1) := by decide +kernel
theorem dL_law_560 : decode cL_law 560 = .ok (.iaload, 1) := by decide +kernel
theorem dL_law_561 : decode cL_law 561 = .ok (.ifCond .eq 7, 3) := by decide +kernel
theorem dL_law_564 : decode cL_law 564 = .ok (.iconst 1, 1) := by decide +kernel
theorem dL_law_565 : decode cL_law 565 = .ok (.goto 4, 3) := by decide +kernel
theorem dL_law_568 : decode cL_law 568 = .ok (.iconst 0, 1) := by decide +kernel
theorem dL_law_569 : decode cL_law 569 = .ok (.invokevirtual 69, 3) := by decide +kernel
theorem dL_law_572 : decode cL_law 572 = .ok (.aload_n 2, 1) := by decide +kernel
theorem dL_law_573 : decode cL_law 573 = .ok (.aload_n 0, 1) := by decide +kernel
theorem dL_law_574 : decode cL_law 574 = .ok (.iload_n 3, 1) := by decide +kernel
theorem dL_law_575 : decode cL_law 575 = .ok (.iconst 1, 1) := by decide +kernel
theorem dL_law_576 : decode cL_law 576 = .ok (.iadd, 1) := by decide +kernel
theorem dL_law_577 : decode cL_law 577 = .ok (.iaload, 1) := by decide +kernel
theorem dL_law_578 : decode cL_law 578 = .ok (.aload_n 0, 1) := by decide +kernel
theorem dL_law_579 : decode cL_law 579 = .ok (.iload_n 3, 1) := by decide +kernel
theorem dL_law_580 : decode cL_law 580 = .ok (.iconst 2, 1) := by decide +kernel
theorem dL_law_581 : decode cL_law 581 = .ok (.iadd, 1) := by decide +kernel
theorem dL_law_582 : decode cL_law 582 = .ok (.iaload, 1) := by decide +kernel
theorem dL_law_583 : decode cL_law 583 = .ok (.aload_n 0, 1) := by decide +kernel
theorem dL_law_584 : decode cL_law 584 = .ok (.iload_n 3, 1) := by decide +kernel
theorem dL_law_585 : decode cL_law 585 = .ok (.iconst 3, 1) := by decide +kernel
theorem dL_law_586 : decode cL_law 586 = .ok (.iadd, 1) := by decide +kernel
theorem dL_law_587 : decode cL_law 587 = .ok (.iaload, 1) := by decide +kernel
theorem dL_law_588 : decode cL_law 588 = .ok (.ifCond .eq 7, 3) := by decide +kernel
theorem dL_law_591 : decode cL_law 591 = .ok (.iconst 1, 1) := by decide +kernel
theorem dL_law_592 : decode cL_law 592 = .ok (.goto 4, 3) := by decide +kernel
theorem dL_law_595 : decode cL_law 595 = .ok (.iconst 0, 1) := by decide +kernel
theorem dL_law_596 : decode cL_law 596 = .ok (.invokevirtual 73, 3) := by decide +kernel
theorem dL_law_599 : decode cL_law 599 = .ok (.if_icmp .eq 592, 3) := by decide +kernel
theorem dL_law_602 : decode cL_law 602 = .ok (.iconst 0, 1) := by decide +kernel
theorem dL_law_603 : decode cL_law 603 = .ok (.ireturn, 1) := by decide +kernel
theorem dL_law_604 : decode cL_law 604 = .ok (.aload_n 1, 1) := by decide +kernel
theorem dL_law_605 : decode cL_law 605 = .ok (.aload_n 0, 1) := by decide +kernel
theorem dL_law_606 : decode cL_law 606 = .ok (.iload_n 3, 1) := by decide +kernel
theorem dL_law_607 : decode cL_law 607 = .ok (.iconst 1, 1) := by decide +kernel
theorem dL_law_608 : decode cL_law 608 = .ok (.iadd, 1) := by decide +kernel
theorem dL_law_609 : decode cL_law 609 = .ok (.iaload, 1) := by decide +kernel
theorem dL_law_610 : decode cL_law 610 = .ok (.aload_n 0, 1) := by decide +kernel
theorem dL_law_611 : decode cL_law 611 = .ok (.iload_n 3, 1) := by decide +kernel
theorem dL_law_612 : decode cL_law 612 = .ok (.iconst 2, 1) := by decide +kernel
theorem dL_law_613 : decode cL_law 613 = .ok (.iadd, 1) := by decide +kernel
theorem dL_law_614 : decode cL_law 614 = .ok (.iaload, 1) := by decide +kernel
theorem dL_law_615 : decode cL_law 615 = .ok (.invokevirtual 74, 3) := by decide +kernel
theorem dL_law_618 : decode cL_law 618 = .ok (.aload_n 2, 1) := by decide +kernel
theorem dL_law_619 : decode cL_law 619 = .ok (.aload_n 0, 1) := by decide +kernel
theorem dL_law_620 : decode cL_law 620 = .ok (.iload_n 3, 1) := by decide +kernel
theorem dL_law_621 : decode cL_law 621 = .ok (.iconst 1, 1) := by decide +kernel
theorem dL_law_622 : decode cL_law 622 = .ok (.iadd, 1) := by decide +kernel
theorem dL_law_623 : decode cL_law 623 = .ok (.iaload, 1) := by decide +kernel
theorem dL_law_624 : decode cL_law 624 = .ok (.aload_n 0, 1) := by decide +kernel
theorem dL_law_625 : decode cL_law 625 = .ok (.iload_n 3, 1) := by decide +kernel
theorem dL_law_626 : decode cL_law 626 = .ok (.iconst 2, 1) := by decide +kernel
theorem dL_law_627 : decode cL_law 627 = .ok (.iadd, 1) := by decide +kernel
theorem dL_law_628 : decode cL_law 628 = .ok (.iaload, 1) := by decide +kernel
theorem dL_law_629 : decode cL_law 629 = .ok (.invokevirtual 77, 3) := by decide +kernel
theorem dL_law_632 : decode cL_law 632 = .ok (.if_icmp .eq 559, 3) := by decide +kernel
theorem dL_law_635 : decode cL_law 635 = .ok (.iconst 0, 1) := by decide +kernel
theorem dL_law_636 : decode cL_law 636 = .ok (.ireturn, 1) := by decide +kernel
theorem dL_law_637 : decode cL_law 637 = .ok (.aload_n 1, 1) := by decide +kernel
theorem dL_law_638 : decode cL_law 638 = .ok (.aload_n 0, 1) := by decide +kernel
theorem dL_law_639 : decode cL_law 639 = .ok (.iload_n 3, 1) := by decide +kernel
theorem dL_law_640 : decode cL_law 640 = .ok (.iconst 1, 1) := by decide +kernel
theorem dL_law_641 : decode cL_law 641 = .ok (.iadd, 1) := by decide +kernel
theorem dL_law_642 : decode cL_law 642 = .ok (.iaload, 1) := by decide +kernel
theorem dL_law_643 : decode cL_law 643 = .ok (.aload_n 0, 1) := by decide +kernel
theorem dL_law_644 : decode cL_law 644 = .ok (.iload_n 3, 1) := by decide +kernel
theorem dL_law_645 : decode cL_law 645 = .ok (.iconst 2, 1) := by decide +kernel
theorem dL_law_646 : decode cL_law 646 = .ok (.iadd, 1) := by decide +kernel
theorem dL_law_647 : decode cL_law 647 = .ok (.iaload, 1) := by decide +kernel
theorem dL_law_648 : decode cL_law 648 = .ok (.invokevirtual 78, 3) := by decide +kernel
theorem dL_law_651 : decode cL_law 651 = .ok (.aload_n 2, 1) := by decide +kernel
theorem dL_law_652 : decode cL_law 652 = .ok (.aload_n 0, 1) := by decide +kernel
theorem dL_law_653 : decode cL_law 653 = .ok (.iload_n 3, 1) := by decide +kernel
theorem dL_law_654 : decode cL_law 654 = .ok (.iconst 1, 1) := by decide +kernel
theorem dL_law_655 : decode cL_law 655 = .ok (.iadd, 1) := by decide +kernel
theorem dL_law_656 : decode cL_law 656 = .ok (.iaload, 1) := by decide +kernel
theorem dL_law_657 : decode cL_law 657 = .ok (.aload_n 0, 1) := by decide +kernel
theorem dL_law_658 : decode cL_law 658 = .ok (.iload_n 3, 1) := by decide +kernel
theorem dL_law_659 : decode cL_law 659 = .ok (.iconst 2, 1) := by decide +kernel
theorem dL_law_660 : decode cL_law 660 = .ok (.iadd, 1) := by decide +kernel
theorem dL_law_661 : decode cL_law 661 = .ok (.iaload, 1) := by decide +kernel
theorem dL_law_662 : decode cL_law 662 = .ok (.invokevirtual 82, 3) := by decide +kernel
theorem dL_law_665 : decode cL_law 665 = .ok (.lcmp, 1) := by decide +kernel
theorem dL_law_666 : decode cL_law 666 = .ok (.ifCond .eq 525, 3) := by decide +kernel
theorem dL_law_669 : decode cL_law 669 = .ok (.iconst 0, 1) := by decide +kernel
theorem dL_law_670 : decode cL_law 670 = .ok (.ireturn, 1) := by decide +kernel
theorem dL_law_671 : decode cL_law 671 = .ok (.aload_n 1, 1) := by decide +kernel
theorem dL_law_672 : decode cL_law 672 = .ok (.aload_n 0, 1) := by decide +kernel
theorem dL_law_673 : decode cL_law 673 = .ok (.iload_n 3, 1) := by decide +kernel
theorem dL_law_674 : decode cL_law 674 = .ok (.iconst 1, 1) := by decide +kernel
theorem dL_law_675 : decode cL_law 675 = .ok (.iadd, 1) := by decide +kernel
theorem dL_law_676 : decode cL_law 676 = .ok (.iaload, 1) := by decide +kernel
theorem dL_law_677 : decode cL_law 677 = .ok (.invokevirtual 83, 3) := by decide +kernel
theorem dL_law_680 : decode cL_law 680 = .ok (.aload_n 2, 1) := by decide +kernel
theorem dL_law_681 : decode cL_law 681 = .ok (.aload_n 0, 1) := by decide +kernel
theorem dL_law_682 : decode cL_law 682 = .ok (.iload_n 3, 1) := by decide +kernel
theorem dL_law_683 : decode cL_law 683 = .ok (.iconst 1, 1) := by decide +kernel
theorem dL_law_684 : decode cL_law 684 = .ok (.iadd, 1) := by decide +kernel
theorem dL_law_685 : decode cL_law 685 = .ok (.iaload, 1) := by decide +kernel
theorem dL_law_686 : decode cL_law 686 = .ok (.invokevirtual 87, 3) := by decide +kernel
theorem dL_law_689 : decode cL_law 689 = .ok (.lcmp, 1) := by decide +kernel
theorem dL_law_690 : decode cL_law 690 = .ok (.ifCond .eq 501, 3) := by decide +kernel
theorem dL_law_693 : decode cL_law 693 = .ok (.iconst 0, 1) := by decide +kernel
theorem dL_law_694 : decode cL_law 694 = .ok (.ireturn, 1) := by decide +kernel
theorem dL_law_695 : decode cL_law 695 = .ok (.aload_n 1, 1) := by decide +kernel
theorem dL_law_696 : decode cL_law 696 = .ok (.aload_n 0, 1) := by decide +kernel
theorem dL_law_697 : decode cL_law 697 = .ok (.iload_n 3, 1) := by decide +kernel
theorem dL_law_698 : decode cL_law 698 = .ok (.iconst 1, 1) := by decide +kernel
theorem dL_law_699 : decode cL_law 699 = .ok (.iadd, 1) := by decide +kernel
theorem dL_law_700 : decode cL_law 700 = .ok (.iaload, 1) := by decide +kernel
theorem dL_law_701 : decode cL_law 701 = .ok (.aload_n 0, 1) := by decide +kernel
theorem dL_law_702 : decode cL_law 702 = .ok (.iload_n 3, 1) := by decide +kernel
theorem dL_law_703 : decode cL_law 703 = .ok (.iconst 2, 1) := by decide +kernel
theorem dL_law_704 : decode cL_law 704 = .ok (.iadd, 1) := by decide +kernel
theorem dL_law_705 : decode cL_law 705 = .ok (.iaload, 1) := by decide +kernel
theorem dL_law_706 : decode cL_law 706 = .ok (.invokevirtual 88, 3) := by decide +kernel
theorem dL_law_709 : decode cL_law 709 = .ok (.aload_n 2, 1) := by decide +kernel
theorem dL_law_710 : decode cL_law 710 = .ok (.aload_n 0, 1) := by decide +kernel
theorem dL_law_711 : decode cL_law 711 = .ok (.iload_n 3, 1) := by decide +kernel
theorem dL_law_712 : decode cL_law 712 = .ok (.iconst 1, 1) := by decide +kernel
theorem dL_law_713 : decode cL_law 713 = .ok (.iadd, 1) := by decide +kernel
theorem dL_law_714 : decode cL_law 714 = .ok (.iaload, 1) := by decide +kernel
theorem dL_law_715 : decode cL_law 715 = .ok (.aload_n 0, 1) := by decide +kernel
theorem dL_law_716 : decode cL_law 716 = .ok (.iload_n 3, 1) := by decide +kernel
theorem dL_law_717 : decode cL_law 717 = .ok (.iconst 2, 1) := by decide +kernel
theorem dL_law_718 : decode cL_law 718 = .ok (.iadd, 1) := by decide +kernel
theorem dL_law_719 : decode cL_law 719 = .ok (.iaload, 1) := by decide +kernel
theorem dL_law_720 : decode cL_law 720 = .ok (.invokevirtual 91, 3) := by decide +kernel
theorem dL_law_723 : decode cL_law 723 = .ok (.if_icmp .eq 468, 3) := by decide +kernel
theorem dL_law_726 : decode cL_law 726 = .ok (.iconst 0, 1) := by decide +kernel
theorem dL_law_727 : decode cL_law 727 = .ok (.ireturn, 1) := by decide +kernel
theorem dL_law_728 : decode cL_law 728 = .ok (.aload_n 1, 1) := by decide +kernel
theorem dL_law_729 : decode cL_law 729 = .ok (.aload_n 0, 1) := by decide +kernel
theorem dL_law_730 : decode cL_law 730 = .ok (.iload_n 3, 1) := by decide +kernel
theorem dL_law_731 : decode cL_law 731 = .ok (.iconst 1, 1) := by decide +kernel
theorem dL_law_732 : decode cL_law 732 = .ok (.iadd, 1) := by decide +kernel
theorem dL_law_733 : decode cL_law 733 = .ok (.iaload, 1) := by decide +kernel
theorem dL_law_734 : decode cL_law 734 = .ok (.invokevirtual 92, 3) := by decide +kernel
theorem dL_law_737 : decode cL_law 737 = .ok (.aload_n 2, 1) := by decide +kernel
theorem dL_law_738 : decode cL_law 738 = .ok (.aload_n 0, 1) := by decide +kernel
theorem dL_law_739 : decode cL_law 739 = .ok (.iload_n 3, 1) := by decide +kernel
theorem dL_law_740 : decode cL_law 740 = .ok (.iconst 1, 1) := by decide +kernel
theorem dL_law_741 : decode cL_law 741 = .ok (.iadd, 1) := by decide +kernel
theorem dL_law_742 : decode cL_law 742 = .ok (.iaload, 1) := by decide +kernel
theorem dL_law_743 : decode cL_law 743 = .ok (.invokevirtual 95, 3) := by decide +kernel
theorem dL_law_746 : decode cL_law 746 = .ok (.if_icmp .eq 445, 3) := by decide +kernel
theorem dL_law_749 : decode cL_law 749 = .ok (.iconst 0, 1) := by decide +kernel
theorem dL_law_750 : decode cL_law 750 = .ok (.ireturn, 1) := by decide +kernel
theorem dL_law_751 : decode cL_law 751 = .ok (.aload_n 1, 1) := by decide +kernel
theorem dL_law_752 : decode cL_law 752 = .ok (.aload_n 0, 1) := by decide +kernel
theorem dL_law_753 : decode cL_law 753 = .ok (.iload_n 3, 1) := by decide +kernel
theorem dL_law_754 : decode cL_law 754 = .ok (.iconst 1, 1) := by decide +kernel
theorem dL_law_755 : decode cL_law 755 = .ok (.iadd, 1) := by decide +kernel
theorem dL_law_756 : decode cL_law 756 = .ok (.iaload, 1) := by decide +kernel
theorem dL_law_757 : decode cL_law 757 = .ok (.aload_n 0, 1) := by decide +kernel
theorem dL_law_758 : decode cL_law 758 = .ok (.iload_n 3, 1) := by decide +kernel
theorem dL_law_759 : decode cL_law 759 = .ok (.iconst 2, 1) := by decide +kernel
theorem dL_law_760 : decode cL_law 760 = .ok (.iadd, 1) := by decide +kernel
theorem dL_law_761 : decode cL_law 761 = .ok (.iaload, 1) := by decide +kernel
theorem dL_law_762 : decode cL_law 762 = .ok (.invokevirtual 96, 3) := by decide +kernel
theorem dL_law_765 : decode cL_law 765 = .ok (.aload_n 2, 1) := by decide +kernel
theorem dL_law_766 : decode cL_law 766 = .ok (.aload_n 0, 1) := by decide +kernel
theorem dL_law_767 : decode cL_law 767 = .ok (.iload_n 3, 1) := by decide +kernel
theorem dL_law_768 : decode cL_law 768 = .ok (.iconst 1, 1) := by decide +kernel
theorem dL_law_769 : decode cL_law 769 = .ok (.iadd, 1) := by decide +kernel
theorem dL_law_770 : decode cL_law 770 = .ok (.iaload, 1) := by decide +kernel
theorem dL_law_771 : decode cL_law 771 = .ok (.aload_n 0, 1) := by decide +kernel
theorem dL_law_772 : decode cL_law 772 = .ok (.iload_n 3, 1) := by decide +kernel
theorem dL_law_773 : decode cL_law 773 = .ok (.iconst 2, 1) := by decide +kernel
theorem dL_law_774 : decode cL_law 774 = .ok (.iadd, 1) := by decide +kernel
theorem dL_law_775 : decode cL_law 775 = .ok (.iaload, 1) := by decide +kernel
theorem dL_law_776 : decode cL_law 776 = .ok (.invokevirtual 99, 3) := by decide +kernel
theorem dL_law_779 : decode cL_law 779 = .ok (.if_icmp .eq 412, 3) := by decide +kernel
theorem dL_law_782 : decode cL_law 782 = .ok (.iconst 0, 1) := by decide +kernel
theorem dL_law_783 : decode cL_law 783 = .ok (.ireturn, 1) := by decide +kernel
theorem dL_law_784 : decode cL_law 784 = .ok (.aload_n 1, 1) := by decide +kernel
theorem dL_law_785 : decode cL_law 785 = .ok (.invokevirtual 100, 3) := by decide +kernel
theorem dL_law_788 : decode cL_law 788 = .ok (.aload_n 2, 1) := by decide +kernel
theorem dL_law_789 : decode cL_law 789 = .ok (.invokevirtual 103, 3) := by decide +kernel
theorem dL_law_792 : decode cL_law 792 = .ok (.if_icmp .eq 399, 3) := by decide +kernel
theorem dL_law_795 : decode cL_law 795 = .ok (.iconst 0, 1) := by decide +kernel
theorem dL_law_796 : decode cL_law 796 = .ok (.ireturn, 1) := by decide +kernel
theorem dL_law_797 : decode cL_law 797 = .ok (.aload_n 1, 1) := by decide +kernel
theorem dL_law_798 : decode cL_law 798 = .ok (.aload_n 0, 1) := by decide +kernel
theorem dL_law_799 : decode cL_law 799 = .ok (.iload_n 3, 1) := by decide +kernel
theorem dL_law_800 : decode cL_law 800 = .ok (.iconst 1, 1) := by decide +kernel
theorem dL_law_801 : decode cL_law 801 = .ok (.iadd, 1) := by decide +kernel
theorem dL_law_802 : decode cL_law 802 = .ok (.iaload, 1) := by decide +kernel
theorem dL_law_803 : decode cL_law 803 = .ok (.aload_n 0, 1) := by decide +kernel
theorem dL_law_804 : decode cL_law 804 = .ok (.iload_n 3, 1) := by decide +kernel
theorem dL_law_805 : decode cL_law 805 = .ok (.iconst 2, 1) := by decide +kernel
theorem dL_law_806 : decode cL_law 806 = .ok (.iadd, 1) := by decide +kernel
theorem dL_law_807 : decode cL_law 807 = .ok (.iaload, 1) := by decide +kernel
theorem dL_law_808 : decode cL_law 808 = .ok (.invokevirtual 104, 3) := by decide +kernel
theorem dL_law_811 : decode cL_law 811 = .ok (.aload_n 2, 1) := by decide +kernel
theorem dL_law_812 : decode cL_law 812 = .ok (.aload_n 0, 1) := by decide +kernel
theorem dL_law_813 : decode cL_law 813 = .ok (.iload_n 3, 1) := by decide +kernel
theorem dL_law_814 : decode cL_law 814 = .ok (.iconst 1, 1) := by decide +kernel
theorem dL_law_815 : decode cL_law 815 = .ok (.iadd, 1) := by decide +kernel
theorem dL_law_816 : decode cL_law 816 = .ok (.iaload, 1) := by decide +kernel
theorem dL_law_817 : decode cL_law 817 = .ok (.aload_n 0, 1) := by decide +kernel
theorem dL_law_818 : decode cL_law 818 = .ok (.iload_n 3, 1) := by decide +kernel
theorem dL_law_819 : decode cL_law 819 = .ok (.iconst 2, 1) := by decide +kernel
theorem dL_law_820 : decode cL_law 820 = .ok (.iadd, 1) := by decide +kernel
theorem dL_law_821 : decode cL_law 821 = .ok (.iaload, 1) := by decide +kernel
theorem dL_law_822 : decode cL_law 822 = .ok (.invokevirtual 107, 3) := by decide +kernel
theorem dL_law_825 : decode cL_law 825 = .ok (.if_icmp .eq 366, 3) := by decide +kernel
theorem dL_law_828 : decode cL_law 828 = .ok (.iconst 0, 1) := by decide +kernel
theorem dL_law_829 : decode cL_law 829 = .ok (.ireturn, 1) := by decide +kernel
theorem dL_law_830 : decode cL_law 830 = .ok (.aload_n 1, 1) := by decide +kernel
theorem dL_law_831 : decode cL_law 831 = .ok (.invokevirtual 108, 3) := by decide +kernel
theorem dL_law_834 : decode cL_law 834 = .ok (.aload_n 2, 1) := by decide +kernel
theorem dL_law_835 : decode cL_law 835 = .ok (.invokevirtual 111, 3) := by decide +kernel
theorem dL_law_838 : decode cL_law 838 = .ok (.if_icmp .eq 353, 3) := by decide +kernel
theorem dL_law_841 : decode cL_law 841 = .ok (.iconst 0, 1) := by decide +kernel
theorem dL_law_842 : decode cL_law 842 = .ok (.ireturn, 1) := by decide +kernel
theorem dL_law_843 : decode cL_law 843 = .ok (.aload_n 1, 1) := by decide +kernel
theorem dL_law_844 : decode cL_law 844 = .ok (.invokevirtual 112, 3) := by decide +kernel
theorem dL_law_847 : decode cL_law 847 = .ok (.aload_n 2, 1) := by decide +kernel
theorem dL_law_848 : decode cL_law 848 = .ok (.invokevirtual 115, 3) := by decide +kernel
theorem dL_law_851 : decode cL_law 851 = .ok (.if_icmp .eq 340, 3) := by decide +kernel
theorem dL_law_854 : decode cL_law 854 = .ok (.iconst 0, 1) := by decide +kernel
theorem dL_law_855 : decode cL_law 855 = .ok (.ireturn, 1) := by decide +kernel
theorem dL_law_856 : decode cL_law 856 = .ok (.aload_n 1, 1) := by decide +kernel
theorem dL_law_857 : decode cL_law 857 = .ok (.aload_n 0, 1) := by decide +kernel
theorem dL_law_858 : decode cL_law 858 = .ok (.iload_n 3, 1) := by decide +kernel
theorem dL_law_859 : decode cL_law 859 = .ok (.iconst 1, 1) := by decide +kernel
theorem dL_law_860 : decode cL_law 860 = .ok (.iadd, 1) := by decide +kernel
theorem dL_law_861 : decode cL_law 861 = .ok (.iaload, 1) := by decide +kernel
theorem dL_law_862 : decode cL_law 862 = .ok (.aload_n 0, 1) := by decide +kernel
theorem dL_law_863 : decode cL_law 863 = .ok (.iload_n 3, 1) := by decide +kernel
theorem dL_law_864 : decode cL_law 864 = .ok (.iconst 2, 1) := by decide +kernel
theorem dL_law_865 : decode cL_law 865 = .ok (.iadd, 1) := by decide +kernel
theorem dL_law_866 : decode cL_law 866 = .ok (.iaload, 1) := by decide +kernel
theorem dL_law_867 : decode cL_law 867 = .ok (.aload_n 0, 1) := by decide +kernel
theorem dL_law_868 : decode cL_law 868 = .ok (.iload_n 3, 1) := by decide +kernel
theorem dL_law_869 : decode cL_law 869 = .ok (.iconst 3, 1) := by decide +kernel
theorem dL_law_870 : decode cL_law 870 = .ok (.iadd, 1) := by decide +kernel
theorem dL_law_871 : decode cL_law 871 = .ok (.iaload, 1) := by decide +kernel
theorem dL_law_872 : decode cL_law 872 = .ok (.invokevirtual 116, 3) := by decide +kernel
theorem dL_law_875 : decode cL_law 875 = .ok (.aload_n 2, 1) := by decide +kernel
theorem dL_law_876 : decode cL_law 876 = .ok (.aload_n 0, 1) := by decide +kernel
theorem dL_law_877 : decode cL_law 877 = .ok (.iload_n 3, 1) := by decide +kernel
theorem dL_law_878 : decode cL_law 878 = .ok (.iconst 1, 1) := by decide +kernel
theorem dL_law_879 : decode cL_law 879 = .ok (.iadd, 1) := by decide +kernel
theorem dL_law_880 : decode cL_law 880 = .ok (.iaload, 1) := by decide +kernel
theorem dL_law_881 : decode cL_law 881 = .ok (.aload_n 0, 1) := by decide +kernel
theorem dL_law_882 : decode cL_law 882 = .ok (.iload_n 3, 1) := by decide +kernel
theorem dL_law_883 : decode cL_law 883 = .ok (.iconst 2, 1) := by decide +kernel
theorem dL_law_884 : decode cL_law 884 = .ok (.iadd, 1) := by decide +kernel
theorem dL_law_885 : decode cL_law 885 = .ok (.iaload, 1) := by decide +kernel
theorem dL_law_886 : decode cL_law 886 = .ok (.aload_n 0, 1) := by decide +kernel
theorem dL_law_887 : decode cL_law 887 = .ok (.iload_n 3, 1) := by decide +kernel
theorem dL_law_888 : decode cL_law 888 = .ok (.iconst 3, 1) := by decide +kernel
theorem dL_law_889 : decode cL_law 889 = .ok (.iadd, 1) := by decide +kernel
theorem dL_law_890 : decode cL_law 890 = .ok (.iaload, 1) := by decide +kernel
theorem dL_law_891 : decode cL_law 891 = .ok (.invokevirtual 119, 3) := by decide +kernel
theorem dL_law_894 : decode cL_law 894 = .ok (.if_icmp .eq 297, 3) := by decide +kernel
theorem dL_law_897 : decode cL_law 897 = .ok (.iconst 0, 1) := by decide +kernel
theorem dL_law_898 : decode cL_law 898 = .ok (.ireturn, 1) := by decide +kernel
theorem dL_law_899 : decode cL_law 899 = .ok (.aload_n 1, 1) := by decide +kernel
theorem dL_law_900 : decode cL_law 900 = .ok (.aload_n 0, 1) := by decide +kernel
theorem dL_law_901 : decode cL_law 901 = .ok (.iload_n 3, 1) := by decide +kernel
theorem dL_law_902 : decode cL_law 902 = .ok (.iconst 1, 1) := by decide +kernel
theorem dL_law_903 : decode cL_law 903 = .ok (.iadd, 1) := by decide +kernel
theorem dL_law_904 : decode cL_law 904 = .ok (.iaload, 1) := by decide +kernel
theorem dL_law_905 : decode cL_law 905 = .ok (.invokevirtual 120, 3) := by decide +kernel
theorem dL_law_908 : decode cL_law 908 = .ok (.aload_n 2, 1) := by decide +kernel
theorem dL_law_909 : decode cL_law 909 = .ok (.aload_n 0, 1) := by decide +kernel
theorem dL_law_910 : decode cL_law 910 = .ok (.iload_n 3, 1) := by decide +kernel
theorem dL_law_911 : decode cL_law 911 = .ok (.iconst 1, 1) := by decide +kernel
theorem dL_law_912 : decode cL_law 912 = .ok (.iadd, 1) := by decide +kernel
theorem dL_law_913 : decode cL_law 913 = .ok (.iaload, 1) := by decide +kernel
theorem dL_law_914 : decode cL_law 914 = .ok (.invokevirtual 123, 3) := by decide +kernel
theorem dL_law_917 : decode cL_law 917 = .ok (.if_icmp .eq 274, 3) := by decide +kernel
theorem dL_law_920 : decode cL_law 920 = .ok (.iconst 0, 1) := by decide +kernel
theorem dL_law_921 : decode cL_law 921 = .ok (.ireturn, 1) := by decide +kernel
theorem dL_law_922 : decode cL_law 922 = .ok (.aload_n 1, 1) := by decide +kernel
theorem dL_law_923 : decode cL_law 923 = .ok (.aload_n 0, 1) := by decide +kernel
theorem dL_law_924 : decode cL_law 924 = .ok (.iload_n 3, 1) := by decide +kernel
theorem dL_law_925 : decode cL_law 925 = .ok (.iconst 1, 1) := by decide +kernel
theorem dL_law_926 : decode cL_law 926 = .ok (.iadd, 1) := by decide +kernel
theorem dL_law_927 : decode cL_law 927 = .ok (.iaload, 1) := by decide +kernel
theorem dL_law_928 : decode cL_law 928 = .ok (.aload_n 0, 1) := by decide +kernel
theorem dL_law_929 : decode cL_law 929 = .ok (.iload_n 3, 1) := by decide +kernel
theorem dL_law_930 : decode cL_law 930 = .ok (.iconst 2, 1) := by decide +kernel
theorem dL_law_931 : decode cL_law 931 = .ok (.iadd, 1) := by decide +kernel
theorem dL_law_932 : decode cL_law 932 = .ok (.iaload, 1) := by decide +kernel
theorem dL_law_933 : decode cL_law 933 = .ok (.invokevirtual 124, 3) := by decide +kernel
theorem dL_law_936 : decode cL_law 936 = .ok (.aload_n 2, 1) := by decide +kernel
theorem dL_law_937 : decode cL_law 937 = .ok (.aload_n 0, 1) := by decide +kernel
theorem dL_law_938 : decode cL_law 938 = .ok (.iload_n 3, 1) := by decide +kernel
theorem dL_law_939 : decode cL_law 939 = .ok (.iconst 1, 1) := by decide +kernel
theorem dL_law_940 : decode cL_law 940 = .ok (.iadd, 1) := by decide +kernel
theorem dL_law_941 : decode cL_law 941 = .ok (.iaload, 1) := by decide +kernel
theorem dL_law_942 : decode cL_law 942 = .ok (.aload_n 0, 1) := by decide +kernel
theorem dL_law_943 : decode cL_law 943 = .ok (.iload_n 3, 1) := by decide +kernel
theorem dL_law_944 : decode cL_law 944 = .ok (.iconst 2, 1) := by decide +kernel
theorem dL_law_945 : decode cL_law 945 = .ok (.iadd, 1) := by decide +kernel
theorem dL_law_946 : decode cL_law 946 = .ok (.iaload, 1) := by decide +kernel
theorem dL_law_947 : decode cL_law 947 = .ok (.invokevirtual 127, 3) := by decide +kernel
theorem dL_law_950 : decode cL_law 950 = .ok (.if_icmp .eq 241, 3) := by decide +kernel
theorem dL_law_953 : decode cL_law 953 = .ok (.iconst 0, 1) := by decide +kernel
theorem dL_law_954 : decode cL_law 954 = .ok (.ireturn, 1) := by decide +kernel
theorem dL_law_955 : decode cL_law 955 = .ok (.aload_n 1, 1) := by decide +kernel
theorem dL_law_956 : decode cL_law 956 = .ok (.aload_n 0, 1) := by decide +kernel
theorem dL_law_957 : decode cL_law 957 = .ok (.iload_n 3, 1) := by decide +kernel
theorem dL_law_958 : decode cL_law 958 = .ok (.iconst 1, 1) := by decide +kernel
theorem dL_law_959 : decode cL_law 959 = .ok (.iadd, 1) := by decide +kernel
theorem dL_law_960 : decode cL_law 960 = .ok (.iaload, 1) := by decide +kernel
theorem dL_law_961 : decode cL_law 961 = .ok (.invokevirtual 128, 3) := by decide +kernel
theorem dL_law_964 : decode cL_law 964 = .ok (.aload_n 2, 1) := by decide +kernel
theorem dL_law_965 : decode cL_law 965 = .ok (.aload_n 0, 1) := by decide +kernel
theorem dL_law_966 : decode cL_law 966 = .ok (.iload_n 3, 1) := by decide +kernel
theorem dL_law_967 : decode cL_law 967 = .ok (.iconst 1, 1) := by decide +kernel
theorem dL_law_968 : decode cL_law 968 = .ok (.iadd, 1) := by decide +kernel
theorem dL_law_969 : decode cL_law 969 = .ok (.iaload, 1) := by decide +kernel
theorem dL_law_970 : decode cL_law 970 = .ok (.invokevirtual 131, 3) := by decide +kernel
theorem dL_law_973 : decode cL_law 973 = .ok (.if_icmp .eq 218, 3) := by decide +kernel
theorem dL_law_976 : decode cL_law 976 = .ok (.iconst 0, 1) := by decide +kernel
theorem dL_law_977 : decode cL_law 977 = .ok (.ireturn, 1) := by decide +kernel
theorem dL_law_978 : decode cL_law 978 = .ok (.aload_n 1, 1) := by decide +kernel
theorem dL_law_979 : decode cL_law 979 = .ok (.aload_n 0, 1) := by decide +kernel
theorem dL_law_980 : decode cL_law 980 = .ok (.iload_n 3, 1) := by decide +kernel
theorem dL_law_981 : decode cL_law 981 = .ok (.iconst 1, 1) := by decide +kernel
theorem dL_law_982 : decode cL_law 982 = .ok (.iadd, 1) := by decide +kernel
theorem dL_law_983 : decode cL_law 983 = .ok (.iaload, 1) := by decide +kernel
theorem dL_law_984 : decode cL_law 984 = .ok (.aload_n 0, 1) := by decide +kernel
theorem dL_law_985 : decode cL_law 985 = .ok (.iload_n 3, 1) := by decide +kernel
theorem dL_law_986 : decode cL_law 986 = .ok (.iconst 2, 1) := by decide +kernel
theorem dL_law_987 : decode cL_law 987 = .ok (.iadd, 1) := by decide +kernel
theorem dL_law_988 : decode cL_law 988 = .ok (.iaload, 1) := by decide +kernel
theorem dL_law_989 : decode cL_law 989 = .ok (.aload_n 0, 1) := by decide +kernel
theorem dL_law_990 : decode cL_law 990 = .ok (.iload_n 3, 1) := by decide +kernel
theorem dL_law_991 : decode cL_law 991 = .ok (.iconst 3, 1) := by decide +kernel
theorem dL_law_992 : decode cL_law 992 = .ok (.iadd, 1) := by decide +kernel
theorem dL_law_993 : decode cL_law 993 = .ok (.iaload, 1) := by decide +kernel
theorem dL_law_994 : decode cL_law 994 = .ok (.invokevirtual 132, 3) := by decide +kernel
theorem dL_law_997 : decode cL_law 997 = .ok (.aload_n 2, 1) := by decide +kernel
theorem dL_law_998 : decode cL_law 998 = .ok (.aload_n 0, 1) := by decide +kernel
theorem dL_law_999 : decode cL_law 999 = .ok (.iload_n 3, 1) := by decide +kernel
theorem dL_law_1000 : decode cL_law 1000 = .ok (.iconst 1, 1) := by decide +kernel
theorem dL_law_1001 : decode cL_law 1001 = .ok (.iadd, 1) := by decide +kernel
theorem dL_law_1002 : decode cL_law 1002 = .ok (.iaload, 1) := by decide +kernel
theorem dL_law_1003 : decode cL_law 1003 = .ok (.aload_n 0, 1) := by decide +kernel
theorem dL_law_1004 : decode cL_law 1004 = .ok (.iload_n 3, 1) := by decide +kernel
theorem dL_law_1005 : decode cL_law 1005 = .ok (.iconst 2, 1) := by decide +kernel
theorem dL_law_1006 : decode cL_law 1006 = .ok (.iadd, 1) := by decide +kernel
theorem dL_law_1007 : decode cL_law 1007 = .ok (.iaload, 1) := by decide +kernel
theorem dL_law_1008 : decode cL_law 1008 = .ok (.aload_n 0, 1) := by decide +kernel
theorem dL_law_1009 : decode cL_law 1009 = .ok (.iload_n 3, 1) := by decide +kernel
theorem dL_law_1010 : decode cL_law 1010 = .ok (.iconst 3, 1) := by decide +kernel
theorem dL_law_1011 : decode cL_law 1011 = .ok (.iadd, 1) := by decide +kernel
theorem dL_law_1012 : decode cL_law 1012 = .ok (.iaload, 1) := by decide +kernel
theorem dL_law_1013 : decode cL_law 1013 = .ok (.invokevirtual 135, 3) := by decide +kernel
theorem dL_law_1016 : decode cL_law 1016 = .ok (.if_icmp .eq 175, 3) := by decide +kernel
theorem dL_law_1019 : decode cL_law 1019 = .ok (.iconst 0, 1) := by decide +kernel
theorem dL_law_1020 : decode cL_law 1020 = .ok (.ireturn, 1) := by decide +kernel
theorem dL_law_1021 : decode cL_law 1021 = .ok (.aload_n 1, 1) := by decide +kernel
theorem dL_law_1022 : decode cL_law 1022 = .ok (.aload_n 0, 1) := by decide +kernel
theorem dL_law_1023 : decode cL_law 1023 = .ok (.iload_n 3, 1) := by decide +kernel
theorem dL_law_1024 : decode cL_law 1024 = .ok (.iconst 1, 1) := by decide +kernel
theorem dL_law_1025 : decode cL_law 1025 = .ok (.iadd, 1) := by decide +kernel
theorem dL_law_1026 : decode cL_law 1026 = .ok (.iaload, 1) := by decide +kernel
theorem dL_law_1027 : decode cL_law 1027 = .ok (.aload_n 0, 1) := by decide +kernel
theorem dL_law_1028 : decode cL_law 1028 = .ok (.iload_n 3, 1) := by decide +kernel
theorem dL_law_1029 : decode cL_law 1029 = .ok (.iconst 2, 1) := by decide +kernel
theorem dL_law_1030 : decode cL_law 1030 = .ok (.iadd, 1) := by decide +kernel
theorem dL_law_1031 : decode cL_law 1031 = .ok (.iaload, 1) := by decide +kernel
theorem dL_law_1032 : decode cL_law 1032 = .ok (.aload_n 0, 1) := by decide +kernel
theorem dL_law_1033 : decode cL_law 1033 = .ok (.iload_n 3, 1) := by decide +kernel
theorem dL_law_1034 : decode cL_law 1034 = .ok (.iconst 3, 1) := by decide +kernel
theorem dL_law_1035 : decode cL_law 1035 = .ok (.iadd, 1) := by decide +kernel
theorem dL_law_1036 : decode cL_law 1036 = .ok (.iaload, 1) := by decide +kernel
theorem dL_law_1037 : decode cL_law 1037 = .ok (.i2l, 1) := by decide +kernel
theorem dL_law_1038 : decode cL_law 1038 = .ok (.bipush 32, 2) := by decide +kernel
theorem dL_law_1040 : decode cL_law 1040 = .ok (.lshl, 1) := by decide +kernel
theorem dL_law_1041 : decode cL_law 1041 = .ok (.aload_n 0, 1) := by decide +kernel
theorem dL_law_1042 : decode cL_law 1042 = .ok (.iload_n 3, 1) := by decide +kernel
theorem dL_law_1043 : decode cL_law 1043 = .ok (.iconst 4, 1) := by decide +kernel
theorem dL_law_1044 : decode cL_law 1044 = .ok (.iadd, 1) := by decide +kernel
theorem dL_law_1045 : decode cL_law 1045 = .ok (.iaload, 1) := by decide +kernel
theorem dL_law_1046 : decode cL_law 1046 = .ok (.i2l, 1) := by decide +kernel
theorem dL_law_1047 : decode cL_law 1047 = .ok (.ldc2_w 136, 3) := by decide +kernel
theorem dL_law_1050 : decode cL_law 1050 = .ok (.land, 1) := by decide +kernel
theorem dL_law_1051 : decode cL_law 1051 = .ok (.lor, 1) := by decide +kernel
theorem dL_law_1052 : decode cL_law 1052 = .ok (.invokevirtual 138, 3) := by decide +kernel
theorem dL_law_1055 : decode cL_law 1055 = .ok (.aload_n 2, 1) := by decide +kernel
theorem dL_law_1056 : decode cL_law 1056 = .ok (.aload_n 0, 1) := by decide +kernel
theorem dL_law_1057 : decode cL_law 1057 = .ok (.iload_n 3, 1) := by decide +kernel
theorem dL_law_1058 : decode cL_law 1058 = .ok (.iconst 1, 1) := by decide +kernel
theorem dL_law_1059 : decode cL_law 1059 = .ok (.iadd, 1) := by decide +kernel
theorem dL_law_1060 : decode cL_law 1060 = .ok (.iaload, 1) := by decide +kernel
theorem dL_law_1061 : decode cL_law 1061 = .ok (.aload_n 0, 1) := by decide +kernel
theorem dL_law_1062 : decode cL_law 1062 = .ok (.iload_n 3, 1) := by decide +kernel
theorem dL_law_1063 : decode cL_law 1063 = .ok (.iconst 2, 1) := by decide +kernel
theorem dL_law_1064 : decode cL_law 1064 = .ok (.iadd, 1) := by decide +kernel
theorem dL_law_1065 : decode cL_law 1065 = .ok (.iaload, 1) := by decide +kernel
theorem dL_law_1066 : decode cL_law 1066 = .ok (.aload_n 0, 1) := by decide +kernel
theorem dL_law_1067 : decode cL_law 1067 = .ok (.iload_n 3, 1) := by decide +kernel
theorem dL_law_1068 : decode cL_law 1068 = .ok (.iconst 3, 1) := by decide +kernel
theorem dL_law_1069 : decode cL_law 1069 = .ok (.iadd, 1) := by decide +kernel
theorem dL_law_1070 : decode cL_law 1070 = .ok (.iaload, 1) := by decide +kernel
theorem dL_law_1071 : decode cL_law 1071 = .ok (.i2l, 1) := by decide +kernel
theorem dL_law_1072 : decode cL_law 1072 = .ok (.bipush 32, 2) := by decide +kernel
theorem dL_law_1074 : decode cL_law 1074 = .ok (.lshl, 1) := by decide +kernel
theorem dL_law_1075 : decode cL_law 1075 = .ok (.aload_n 0, 1) := by decide +kernel
theorem dL_law_1076 : decode cL_law 1076 = .ok (.iload_n 3, 1) := by decide +kernel
theorem dL_law_1077 : decode cL_law 1077 = .ok (.iconst 4, 1) := by decide +kernel
theorem dL_law_1078 : decode cL_law 1078 = .ok (.iadd, 1) := by decide +kernel
theorem dL_law_1079 : decode cL_law 1079 = .ok (.iaload, 1) := by decide +kernel
theorem dL_law_1080 : decode cL_law 1080 = .ok (.i2l, 1) := by decide +kernel
theorem dL_law_1081 : decode cL_law 1081 = .ok (.ldc2_w 136, 3) := by decide +kernel
theorem dL_law_1084 : decode cL_law 1084 = .ok (.land, 1) := by decide +kernel
theorem dL_law_1085 : decode cL_law 1085 = .ok (.lor, 1) := by decide +kernel
theorem dL_law_1086 : decode cL_law 1086 = .ok (.invokevirtual 142, 3) := by decide +kernel
theorem dL_law_1089 : decode cL_law 1089 = .ok (.if_icmp .eq 102, 3) := by decide +kernel
theorem dL_law_1092 : decode cL_law 1092 = .ok (.iconst 0, 1) := by decide +kernel
theorem dL_law_1093 : decode cL_law 1093 = .ok (.ireturn, 1) := by decide +kernel
theorem dL_law_1094 : decode cL_law 1094 = .ok (.aload_n 1, 1) := by decide +kernel
theorem dL_law_1095 : decode cL_law 1095 = .ok (.aload_n 0, 1) := by decide +kernel
theorem dL_law_1096 : decode cL_law 1096 = .ok (.iload_n 3, 1) := by decide +kernel
theorem dL_law_1097 : decode cL_law 1097 = .ok (.iconst 1, 1) := by decide +kernel
theorem dL_law_1098 : decode cL_law 1098 = .ok (.iadd, 1) := by decide +kernel
theorem dL_law_1099 : decode cL_law 1099 = .ok (.iaload, 1) := by decide +kernel
theorem dL_law_1100 : decode cL_law 1100 = .ok (.aload_n 0, 1) := by decide +kernel
theorem dL_law_1101 : decode cL_law 1101 = .ok (.iload_n 3, 1) := by decide +kernel
theorem dL_law_1102 : decode cL_law 1102 = .ok (.iconst 2, 1) := by decide +kernel
theorem dL_law_1103 : decode cL_law 1103 = .ok (.iadd, 1) := by decide +kernel
theorem dL_law_1104 : decode cL_law 1104 = .ok (.iaload, 1) := by decide +kernel
theorem dL_law_1105 : decode cL_law 1105 = .ok (.invokevirtual 143, 3) := by decide +kernel
theorem dL_law_1108 : decode cL_law 1108 = .ok (.aload_n 2, 1) := by decide +kernel
theorem dL_law_1109 : decode cL_law 1109 = .ok (.aload_n 0, 1) := by decide +kernel
theorem dL_law_1110 : decode cL_law 1110 = .ok (.iload_n 3, 1) := by decide +kernel
theorem dL_law_1111 : decode cL_law 1111 = .ok (.iconst 1, 1) := by decide +kernel
theorem dL_law_1112 : decode cL_law 1112 = .ok (.iadd, 1) := by decide +kernel
theorem dL_law_1113 : decode cL_law 1113 = .ok (.iaload, 1) := by decide +kernel
theorem dL_law_1114 : decode cL_law 1114 = .ok (.aload_n 0, 1) := by decide +kernel
theorem dL_law_1115 : decode cL_law 1115 = .ok (.iload_n 3, 1) := by decide +kernel
theorem dL_law_1116 : decode cL_law 1116 = .ok (.iconst 2, 1) := by decide +kernel
theorem dL_law_1117 : decode cL_law 1117 = .ok (.iadd, 1) := by decide +kernel
theorem dL_law_1118 : decode cL_law 1118 = .ok (.iaload, 1) := by decide +kernel
theorem dL_law_1119 : decode cL_law 1119 = .ok (.invokevirtual 146, 3) := by decide +kernel
theorem dL_law_1122 : decode cL_law 1122 = .ok (.lcmp, 1) := by decide +kernel
theorem dL_law_1123 : decode cL_law 1123 = .ok (.ifCond .eq 68, 3) := by decide +kernel
theorem dL_law_1126 : decode cL_law 1126 = .ok (.iconst 0, 1) := by decide +kernel
theorem dL_law_1127 : decode cL_law 1127 = .ok (.ireturn, 1) := by decide +kernel
theorem dL_law_1128 : decode cL_law 1128 = .ok (.aload_n 1, 1) := by decide +kernel
theorem dL_law_1129 : decode cL_law 1129 = .ok (.aload_n 0, 1) := by decide +kernel
theorem dL_law_1130 : decode cL_law 1130 = .ok (.iload_n 3, 1) := by decide +kernel
theorem dL_law_1131 : decode cL_law 1131 = .ok (.iconst 1, 1) := by decide +kernel
theorem dL_law_1132 : decode cL_law 1132 = .ok (.iadd, 1) := by decide +kernel
theorem dL_law_1133 : decode cL_law 1133 = .ok (.iaload, 1) := by decide +kernel
theorem dL_law_1134 : decode cL_law 1134 = .ok (.aload_n 0, 1) := by decide +kernel
theorem dL_law_1135 : decode cL_law 1135 = .ok (.iload_n 3, 1) := by decide +kernel
theorem dL_law_1136 : decode cL_law 1136 = .ok (.iconst 2, 1) := by decide +kernel
theorem dL_law_1137 : decode cL_law 1137 = .ok (.iadd, 1) := by decide +kernel
theorem dL_law_1138 : decode cL_law 1138 = .ok (.iaload, 1) := by decide +kernel
theorem dL_law_1139 : decode cL_law 1139 = .ok (.aload_n 0, 1) := by decide +kernel
theorem dL_law_1140 : decode cL_law 1140 = .ok (.iload_n 3, 1) := by decide +kernel
theorem dL_law_1141 : decode cL_law 1141 = .ok (.iconst 3, 1) := by decide +kernel
theorem dL_law_1142 : decode cL_law 1142 = .ok (.iadd, 1) := by decide +kernel
theorem dL_law_1143 : decode cL_law 1143 = .ok (.iaload, 1) := by decide +kernel
theorem dL_law_1144 : decode cL_law 1144 = .ok (.aload_n 0, 1) := by decide +kernel
theorem dL_law_1145 : decode cL_law 1145 = .ok (.iload_n 3, 1) := by decide +kernel
theorem dL_law_1146 : decode cL_law 1146 = .ok (.iconst 4, 1) := by decide +kernel
theorem dL_law_1147 : decode cL_law 1147 = .ok (.iadd, 1) := by decide +kernel
theorem dL_law_1148 : decode cL_law 1148 = .ok (.iaload, 1) := by decide +kernel
theorem dL_law_1149 : decode cL_law 1149 = .ok (.aload_n 0, 1) := by decide +kernel
theorem dL_law_1150 : decode cL_law 1150 = .ok (.iload_n 3, 1) := by decide +kernel
theorem dL_law_1151 : decode cL_law 1151 = .ok (.iconst 5, 1) := by decide +kernel
theorem dL_law_1152 : decode cL_law 1152 = .ok (.iadd, 1) := by decide +kernel
theorem dL_law_1153 : decode cL_law 1153 = .ok (.iaload, 1) := by decide +kernel
theorem dL_law_1154 : decode cL_law 1154 = .ok (.invokevirtual 147, 3) := by decide +kernel
theorem dL_law_1157 : decode cL_law 1157 = .ok (.aload_n 2, 1) := by decide +kernel
theorem dL_law_1158 : decode cL_law 1158 = .ok (.aload_n 0, 1) := by decide +kernel
theorem dL_law_1159 : decode cL_law 1159 = .ok (.iload_n 3, 1) := by decide +kernel
theorem dL_law_1160 : decode cL_law 1160 = .ok (.iconst 1, 1) := by decide +kernel
theorem dL_law_1161 : decode cL_law 1161 = .ok (.iadd, 1) := by decide +kernel
theorem dL_law_1162 : decode cL_law 1162 = .ok (.iaload, 1) := by decide +kernel
theorem dL_law_1163 : decode cL_law 1163 = .ok (.aload_n 0, 1) := by decide +kernel
theorem dL_law_1164 : decode cL_law 1164 = .ok (.iload_n 3, 1) := by decide +kernel
theorem dL_law_1165 : decode cL_law 1165 = .ok (.iconst 2, 1) := by decide +kernel
theorem dL_law_1166 : decode cL_law 1166 = .ok (.iadd, 1) := by decide +kernel
theorem dL_law_1167 : decode cL_law 1167 = .ok (.iaload, 1) := by decide +kernel
theorem dL_law_1168 : decode cL_law 1168 = .ok (.aload_n 0, 1) := by decide +kernel
theorem dL_law_1169 : decode cL_law 1169 = .ok (.iload_n 3, 1) := by decide +kernel
theorem dL_law_1170 : decode cL_law 1170 = .ok (.iconst 3, 1) := by decide +kernel
theorem dL_law_1171 : decode cL_law 1171 = .ok (.iadd, 1) := by decide +kernel
theorem dL_law_1172 : decode cL_law 1172 = .ok (.iaload, 1) := by decide +kernel
theorem dL_law_1173 : decode cL_law 1173 = .ok (.aload_n 0, 1) := by decide +kernel
theorem dL_law_1174 : decode cL_law 1174 = .ok (.iload_n 3, 1) := by decide +kernel
theorem dL_law_1175 : decode cL_law 1175 = .ok (.iconst 4, 1) := by decide +kernel
theorem dL_law_1176 : decode cL_law 1176 = .ok (.iadd, 1) := by decide +kernel
theorem dL_law_1177 : decode cL_law 1177 = .ok (.iaload, 1) := by decide +kernel
theorem dL_law_1178 : decode cL_law 1178 = .ok (.aload_n 0, 1) := by decide +kernel
theorem dL_law_1179 : decode cL_law 1179 = .ok (.iload_n 3, 1) := by decide +kernel
theorem dL_law_1180 : decode cL_law 1180 = .ok (.iconst 5, 1) := by decide +kernel
theorem dL_law_1181 : decode cL_law 1181 = .ok (.iadd, 1) := by decide +kernel
theorem dL_law_1182 : decode cL_law 1182 = .ok (.iaload, 1) := by decide +kernel
theorem dL_law_1183 : decode cL_law 1183 = .ok (.invokevirtual 151, 3) := by decide +kernel
theorem dL_law_1186 : decode cL_law 1186 = .ok (.if_icmp .eq 5, 3) := by decide +kernel
theorem dL_law_1189 : decode cL_law 1189 = .ok (.iconst 0, 1) := by decide +kernel
theorem dL_law_1190 : decode cL_law 1190 = .ok (.ireturn, 1) := by decide +kernel
theorem dL_law_1191 : decode cL_law 1191 = .ok (.iinc 3 6, 3) := by decide +kernel
theorem dL_law_1194 : decode cL_law 1194 = .ok (.goto (-1176), 3) := by decide +kernel
theorem dL_law_1197 : decode cL_law 1197 = .ok (.iconst 1, 1) := by decide +kernel
theorem dL_law_1198 : decode cL_law 1198 = .ok (.ireturn, 1) := by decide +kernel
