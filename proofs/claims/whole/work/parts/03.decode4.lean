theorem dX9_init_215 : decode cX9_init 215 = .ok (.putfield 147, 3) := by decide +kernel
theorem dX9_init_218 : decode cX9_init 218 = .ok (.return_, 1) := by decide +kernel
theorem dX9_thrown_0 : decode cX9_thrown 0 = .ok (.aload_n 0, 1) := by decide +kernel
theorem dX9_thrown_1 : decode cX9_thrown 1 = .ok (.getfield 150, 3) := by decide +kernel
theorem dX9_thrown_4 : decode cX9_thrown 4 = .ok (.ireturn, 1) := by decide +kernel
theorem dX9_good_0 : decode cX9_good 0 = .ok (.aload_n 0, 1) := by decide +kernel
theorem dX9_good_1 : decode cX9_good 1 = .ok (.iload_n 1, 1) := by decide +kernel
theorem dX9_good_2 : decode cX9_good 2 = .ok (.ifCond .eq 7, 3) := by decide +kernel
theorem dX9_good_5 : decode cX9_good 5 = .ok (.iconst 0, 1) := by decide +kernel
theorem dX9_good_6 : decode cX9_good 6 = .ok (.goto 4, 3) := by decide +kernel
theorem dX9_good_9 : decode cX9_good 9 = .ok (.iload_n 2, 1) := by decide +kernel
theorem dX9_good_10 : decode cX9_good 10 = .ok (.putfield 150, 3) := by decide +kernel
theorem dX9_good_13 : decode cX9_good 13 = .ok (.iload_n 1, 1) := by decide +kernel
theorem dX9_good_14 : decode cX9_good 14 = .ok (.ireturn, 1) := by decide +kernel
set_option maxRecDepth 20000 in
theorem ggX9_feed_X9_good : GoodIn wsX9_feed wsX9_good := goodIn_r _ [6, 7, 13, 14, 15, 16, 17, 18, 19, 20, 21, 22, 23, 24, 25, 26, 27, 28, 29, 30, 31, 32, 33, 34, 35, 36] (by decide +kernel) (by decide +kernel)
set_option maxRecDepth 20000 in
theorem gX9_feed_X9_good : GoodIn wsX9_feed (wsV RX9 156 RX9 yX9_good wsX9_good) := goodIn_app (goodIn_of _ (by decide +kernel)) ggX9_feed_X9_good
set_option maxRecDepth 20000 in
theorem ggX9_feed_X9_four : GoodIn wsX9_feed wsX9_four := goodIn_r _ [11, 12, 1, 13, 14, 15, 16, 17, 18, 19, 20, 21, 22, 23, 24, 25, 26, 27, 28, 29, 30, 31, 32, 33, 34, 35, 36] (by decide +kernel) (by decide +kernel)
set_option maxRecDepth 20000 in
theorem gX9_feed_X9_four : GoodIn wsX9_feed (wsV RX9 160 RX9 yX9_four wsX9_four) := goodIn_app (goodIn_of _ (by decide +kernel)) ggX9_feed_X9_four
theorem dX9_feed_0 : decode cX9_feed 0 = .ok (.aload_n 0, 1) := by decide +kernel
theorem dX9_feed_1 : decode cX9_feed 1 = .ok (.aload_n 0, 1) := by decide +kernel
theorem dX9_feed_2 : decode cX9_feed 2 = .ok (.getfield 153, 3) := by decide +kernel
theorem dX9_feed_5 : decode cX9_feed 5 = .ok (.bipush 20, 2) := by decide +kernel
theorem dX9_feed_7 : decode cX9_feed 7 = .ok (.iadd, 1) := by decide +kernel
theorem dX9_feed_8 : decode cX9_feed 8 = .ok (.sipush 4000, 3) := by decide +kernel
theorem dX9_feed_11 : decode cX9_feed 11 = .ok (.if_icmp .gt 7, 3) := by decide +kernel
theorem dX9_feed_14 : decode cX9_feed 14 = .ok (.iconst 1, 1) := by decide +kernel
theorem dX9_feed_15 : decode cX9_feed 15 = .ok (.goto 4, 3) := by decide +kernel
theorem dX9_feed_18 : decode cX9_feed 18 = .ok (.iconst 0, 1) := by decide +kernel
theorem dX9_feed_19 : decode cX9_feed 19 = .ok (.iconst 1, 1) := by decide +kernel
theorem dX9_feed_20 : decode cX9_feed 20 = .ok (.invokevirtual 156, 3) := by decide +kernel
theorem dX9_feed_23 : decode cX9_feed 23 = .ok (.ifCond .ne 5, 3) := by decide +kernel
theorem dX9_feed_26 : decode cX9_feed 26 = .ok (.iconst 0, 1) := by decide +kernel
theorem dX9_feed_27 : decode cX9_feed 27 = .ok (.ireturn, 1) := by decide +kernel
theorem dX9_feed_28 : decode cX9_feed 28 = .ok (.aload_n 0, 1) := by decide +kernel
theorem dX9_feed_29 : decode cX9_feed 29 = .ok (.iload_n 1, 1) := by decide +kernel
theorem dX9_feed_30 : decode cX9_feed 30 = .ok (.invokevirtual 160, 3) := by decide +kernel
theorem dX9_feed_33 : decode cX9_feed 33 = .ok (.aload_n 0, 1) := by decide +kernel
theorem dX9_feed_34 : decode cX9_feed 34 = .ok (.iload_n 2, 1) := by decide +kernel
theorem dX9_feed_35 : decode cX9_feed 35 = .ok (.invokevirtual 160, 3) := by decide +kernel
theorem dX9_feed_38 : decode cX9_feed 38 = .ok (.aload_n 0, 1) := by decide +kernel
theorem dX9_feed_39 : decode cX9_feed 39 = .ok (.iload_n 3, 1) := by decide +kernel
theorem dX9_feed_40 : decode cX9_feed 40 = .ok (.invokevirtual 160, 3) := by decide +kernel
theorem dX9_feed_43 : decode cX9_feed 43 = .ok (.aload_n 0, 1) := by decide +kernel
theorem dX9_feed_44 : decode cX9_feed 44 = .ok (.iload 4, 2) := by decide +kernel
theorem dX9_feed_46 : decode cX9_feed 46 = .ok (.invokevirtual 160, 3) := by decide +kernel
theorem dX9_feed_49 : decode cX9_feed 49 = .ok (.aload_n 0, 1) := by decide +kernel
theorem dX9_feed_50 : decode cX9_feed 50 = .ok (.iload 5, 2) := by decide +kernel
theorem dX9_feed_52 : decode cX9_feed 52 = .ok (.invokevirtual 160, 3) := by decide +kernel
theorem dX9_feed_55 : decode cX9_feed 55 = .ok (.aload_n 0, 1) := by decide +kernel
theorem dX9_feed_56 : decode cX9_feed 56 = .ok (.getfield 153, 3) := by decide +kernel
theorem dX9_feed_59 : decode cX9_feed 59 = .ok (.ireturn, 1) := by decide +kernel
theorem dX9_four_0 : decode cX9_four 0 = .ok (.bipush 24, 2) := by decide +kernel
theorem dX9_four_2 : decode cX9_four 2 = .ok (.istore_n 2, 1) := by decide +kernel
theorem dX9_four_3 : decode cX9_four 3 = .ok (.iload_n 2, 1) := by decide +kernel
theorem dX9_four_4 : decode cX9_four 4 = .ok (.ifCond .lt 32, 3) := by decide +kernel
theorem dX9_four_7 : decode cX9_four 7 = .ok (.aload_n 0, 1) := by decide +kernel
theorem dX9_four_8 : decode cX9_four 8 = .ok (.getfield 144, 3) := by decide +kernel
theorem dX9_four_11 : decode cX9_four 11 = .ok (.aload_n 0, 1) := by decide +kernel
theorem dX9_four_12 : decode cX9_four 12 = .ok (.getfield 153, 3) := by decide +kernel
theorem dX9_four_15 : decode cX9_four 15 = .ok (.iload_n 1, 1) := by decide +kernel
theorem dX9_four_16 : decode cX9_four 16 = .ok (.iload_n 2, 1) := by decide +kernel
theorem dX9_four_17 : decode cX9_four 17 = .ok (.ishr, 1) := by decide +kernel
theorem dX9_four_18 : decode cX9_four 18 = .ok (.i2b, 1) := by decide +kernel
theorem dX9_four_19 : decode cX9_four 19 = .ok (.bastore, 1) := by decide +kernel
theorem dX9_four_20 : decode cX9_four 20 = .ok (.aload_n 0, 1) := by decide +kernel
theorem dX9_four_21 : decode cX9_four 21 = .ok (.dup, 1) := by decide +kernel
theorem dX9_four_22 : decode cX9_four 22 = .ok (.getfield 153, 3) := by decide +kernel
theorem dX9_four_25 : decode cX9_four 25 = .ok (.iconst 1, 1) := by decide +kernel
theorem dX9_four_26 : decode cX9_four 26 = .ok (.iadd, 1) := by decide +kernel
theorem dX9_four_27 : decode cX9_four 27 = .ok (.putfield 153, 3) := by decide +kernel
theorem dX9_four_30 : decode cX9_four 30 = .ok (.iinc 2 (-8), 3) := by decide +kernel
theorem dX9_four_33 : decode cX9_four 33 = .ok (.goto (-30), 3) := by decide +kernel
theorem dX9_four_36 : decode cX9_four 36 = .ok (.return_, 1) := by decide +kernel
set_option maxRecDepth 20000 in
theorem ggX9_end_X9_good : GoodIn wsX9_end wsX9_good := goodIn_r _ [6, 7, 8, 9, 10, 11, 12, 13, 14, 15, 16, 17, 18, 19, 20, 21, 22, 23, 24, 25, 26, 27, 28, 29, 30, 31] (by decide +kernel) (by decide +kernel)
set_option maxRecDepth 20000 in
theorem gX9_end_X9_good : GoodIn wsX9_end (wsV RX9 156 RX9 yX9_good wsX9_good) := goodIn_app (goodIn_of _ (by decide +kernel)) ggX9_end_X9_good
theorem dX9_end_0 : decode cX9_end 0 = .ok (.aload_n 0, 1) := by decide +kernel
theorem dX9_end_1 : decode cX9_end 1 = .ok (.iload_n 1, 1) := by decide +kernel
theorem dX9_end_2 : decode cX9_end 2 = .ok (.ifCond .lt 15, 3) := by decide +kernel
theorem dX9_end_5 : decode cX9_end 5 = .ok (.iload_n 1, 1) := by decide +kernel
theorem dX9_end_6 : decode cX9_end 6 = .ok (.aload_n 0, 1) := by decide +kernel
theorem dX9_end_7 : decode cX9_end 7 = .ok (.getfield 153, 3) := by decide +kernel
theorem dX9_end_10 : decode cX9_end 10 = .ok (.if_icmp .gt 7, 3) := by decide +kernel
theorem dX9_end_13 : decode cX9_end 13 = .ok (.iconst 1, 1) := by decide +kernel
theorem dX9_end_14 : decode cX9_end 14 = .ok (.goto 4, 3) := by decide +kernel
theorem dX9_end_17 : decode cX9_end 17 = .ok (.iconst 0, 1) := by decide +kernel
theorem dX9_end_18 : decode cX9_end 18 = .ok (.iconst 1, 1) := by decide +kernel
theorem dX9_end_19 : decode cX9_end 19 = .ok (.invokevirtual 156, 3) := by decide +kernel
theorem dX9_end_22 : decode cX9_end 22 = .ok (.ifCond .ne 5, 3) := by decide +kernel
theorem dX9_end_25 : decode cX9_end 25 = .ok (.iconst 0, 1) := by decide +kernel
theorem dX9_end_26 : decode cX9_end 26 = .ok (.ireturn, 1) := by decide +kernel
theorem dX9_end_27 : decode cX9_end 27 = .ok (.aload_n 0, 1) := by decide +kernel
theorem dX9_end_28 : decode cX9_end 28 = .ok (.iload_n 1, 1) := by decide +kernel
theorem dX9_end_29 : decode cX9_end 29 = .ok (.putfield 153, 3) := by decide +kernel
theorem dX9_end_32 : decode cX9_end 32 = .ok (.iload_n 1, 1) := by decide +kernel
theorem dX9_end_33 : decode cX9_end 33 = .ok (.ireturn, 1) := by decide +kernel
set_option maxRecDepth 20000 in
theorem ggX9_fill_X9_good : GoodIn wsX9_fill wsX9_good := goodIn_r _ [8, 9, 10, 11, 12, 13, 14, 15, 16, 17, 18, 19, 20, 21, 22, 23, 24, 25, 26, 27, 28, 29, 30, 31, 32, 33] (by decide +kernel) (by decide +kernel)
set_option maxRecDepth 20000 in
theorem gX9_fill_X9_good : GoodIn wsX9_fill (wsV RX9 156 RX9 yX9_good wsX9_good) := goodIn_app (goodIn_of _ (by decide +kernel)) ggX9_fill_X9_good
theorem dX9_fill_0 : decode cX9_fill 0 = .ok (.aload_n 0, 1) := by decide +kernel
theorem dX9_fill_1 : decode cX9_fill 1 = .ok (.iload_n 2, 1) := by decide +kernel
theorem dX9_fill_2 : decode cX9_fill 2 = .ok (.iconst 1, 1) := by decide +kernel
theorem dX9_fill_3 : decode cX9_fill 3 = .ok (.if_icmp .lt 25, 3) := by decide +kernel
theorem dX9_fill_6 : decode cX9_fill 6 = .ok (.iload_n 2, 1) := by decide +kernel
theorem dX9_fill_7 : decode cX9_fill 7 = .ok (.sipush 256, 3) := by decide +kernel
theorem dX9_fill_10 : decode cX9_fill 10 = .ok (.if_icmp .gt 18, 3) := by decide +kernel
theorem dX9_fill_13 : decode cX9_fill 13 = .ok (.iload_n 3, 1) := by decide +kernel
theorem dX9_fill_14 : decode cX9_fill 14 = .ok (.ifCond .lt 14, 3) := by decide +kernel
theorem dX9_fill_17 : decode cX9_fill 17 = .ok (.iload_n 3, 1) := by decide +kernel
theorem dX9_fill_18 : decode cX9_fill 18 = .ok (.sipush 4000, 3) := by decide +kernel
theorem dX9_fill_21 : decode cX9_fill 21 = .ok (.if_icmp .gt 7, 3) := by decide +kernel
theorem dX9_fill_24 : decode cX9_fill 24 = .ok (.iconst 1, 1) := by decide +kernel
theorem dX9_fill_25 : decode cX9_fill 25 = .ok (.goto 4, 3) := by decide +kernel
theorem dX9_fill_28 : decode cX9_fill 28 = .ok (.iconst 0, 1) := by decide +kernel
theorem dX9_fill_29 : decode cX9_fill 29 = .ok (.iconst 1, 1) := by decide +kernel
theorem dX9_fill_30 : decode cX9_fill 30 = .ok (.invokevirtual 156, 3) := by decide +kernel
theorem dX9_fill_33 : decode cX9_fill 33 = .ok (.ifCond .eq 28, 3) := by decide +kernel
theorem dX9_fill_36 : decode cX9_fill 36 = .ok (.aload_n 0, 1) := by decide +kernel
theorem dX9_fill_37 : decode cX9_fill 37 = .ok (.aload_n 0, 1) := by decide +kernel
theorem dX9_fill_38 : decode cX9_fill 38 = .ok (.getfield 153, 3) := by decide +kernel
theorem dX9_fill_41 : decode cX9_fill 41 = .ok (.iload_n 3, 1) := by decide +kernel
theorem dX9_fill_42 : decode cX9_fill 42 = .ok (.iadd, 1) := by decide +kernel
theorem dX9_fill_43 : decode cX9_fill 43 = .ok (.sipush 4000, 3) := by decide +kernel
theorem dX9_fill_46 : decode cX9_fill 46 = .ok (.if_icmp .gt 7, 3) := by decide +kernel
theorem dX9_fill_49 : decode cX9_fill 49 = .ok (.iconst 1, 1) := by decide +kernel
theorem dX9_fill_50 : decode cX9_fill 50 = .ok (.goto 4, 3) := by decide +kernel
theorem dX9_fill_53 : decode cX9_fill 53 = .ok (.iconst 0, 1) := by decide +kernel
theorem dX9_fill_54 : decode cX9_fill 54 = .ok (.iconst 2, 1) := by decide +kernel
theorem dX9_fill_55 : decode cX9_fill 55 = .ok (.invokevirtual 156, 3) := by decide +kernel
theorem dX9_fill_58 : decode cX9_fill 58 = .ok (.ifCond .ne 5, 3) := by decide +kernel
theorem dX9_fill_61 : decode cX9_fill 61 = .ok (.iconst 0, 1) := by decide +kernel
theorem dX9_fill_62 : decode cX9_fill 62 = .ok (.ireturn, 1) := by decide +kernel
theorem dX9_fill_63 : decode cX9_fill 63 = .ok (.iload_n 1, 1) := by decide +kernel
theorem dX9_fill_64 : decode cX9_fill 64 = .ok (.istore 4, 2) := by decide +kernel
theorem dX9_fill_66 : decode cX9_fill 66 = .ok (.iconst 0, 1) := by decide +kernel
theorem dX9_fill_67 : decode cX9_fill 67 = .ok (.istore 5, 2) := by decide +kernel
theorem dX9_fill_69 : decode cX9_fill 69 = .ok (.iload 5, 2) := by decide +kernel
theorem dX9_fill_71 : decode cX9_fill 71 = .ok (.iload_n 3, 1) := by decide +kernel
theorem dX9_fill_72 : decode cX9_fill 72 = .ok (.if_icmp .ge 47, 3) := by decide +kernel
theorem dX9_fill_75 : decode cX9_fill 75 = .ok (.iload 4, 2) := by decide +kernel
theorem dX9_fill_77 : decode cX9_fill 77 = .ok (.ldc 163, 2) := by decide +kernel
theorem dX9_fill_79 : decode cX9_fill 79 = .ok (.imul, 1) := by decide +kernel
theorem dX9_fill_80 : decode cX9_fill 80 = .ok (.sipush 12345, 3) := by decide +kernel
theorem dX9_fill_83 : decode cX9_fill 83 = .ok (.iadd, 1) := by decide +kernel
theorem dX9_fill_84 : decode cX9_fill 84 = .ok (.istore 4, 2) := by decide +kernel
theorem dX9_fill_86 : decode cX9_fill 86 = .ok (.aload_n 0, 1) := by decide +kernel
theorem dX9_fill_87 : decode cX9_fill 87 = .ok (.getfield 144, 3) := by decide +kernel
theorem dX9_fill_90 : decode cX9_fill 90 = .ok (.aload_n 0, 1) := by decide +kernel
theorem dX9_fill_91 : decode cX9_fill 91 = .ok (.getfield 153, 3) := by decide +kernel
theorem dX9_fill_94 : decode cX9_fill 94 = .ok (.iload 4, 2) := by decide +kernel
theorem dX9_fill_96 : decode cX9_fill 96 = .ok (.bipush 16, 2) := by decide +kernel
theorem dX9_fill_98 : decode cX9_fill 98 = .ok (.iushr, 1) := by decide +kernel
theorem dX9_fill_99 : decode cX9_fill 99 = .ok (.iload_n 2, 1) := by decide +kernel
theorem dX9_fill_100 : decode cX9_fill 100 = .ok (.irem, 1) := by decide +kernel
theorem dX9_fill_101 : decode cX9_fill 101 = .ok (.i2b, 1) := by decide +kernel
theorem dX9_fill_102 : decode cX9_fill 102 = .ok (.bastore, 1) := by decide +kernel
theorem dX9_fill_103 : decode cX9_fill 103 = .ok (.aload_n 0, 1) := by decide +kernel
theorem dX9_fill_104 : decode cX9_fill 104 = .ok (.dup, 1) := by decide +kernel
theorem dX9_fill_105 : decode cX9_fill 105 = .ok (.getfield 153, 3) := by decide +kernel
theorem dX9_fill_108 : decode cX9_fill 108 = .ok (.iconst 1, 1) := by decide +kernel
theorem dX9_fill_109 : decode cX9_fill 109 = .ok (.iadd, 1) := by decide +kernel
theorem dX9_fill_110 : decode cX9_fill 110 = .ok (.putfield 153, 3) := by decide +kernel
theorem dX9_fill_113 : decode cX9_fill 113 = .ok (.iinc 5 1, 3) := by decide +kernel
theorem dX9_fill_116 : decode cX9_fill 116 = .ok (.goto (-47), 3) := by decide +kernel
theorem dX9_fill_119 : decode cX9_fill 119 = .ok (.aload_n 0, 1) := by decide +kernel
theorem dX9_fill_120 : decode cX9_fill 120 = .ok (.getfield 153, 3) := by decide +kernel
theorem dX9_fill_123 : decode cX9_fill 123 = .ok (.ireturn, 1) := by decide +kernel
set_option maxRecDepth 20000 in
theorem ggX9_pack__X9_pack : GoodIn wsX9_pack_ wsX9_pack := goodIn_r _ [12, 4, 13, 7, 14, 15, 16, 11, 17, 18, 19, 20, 21, 22, 23, 24, 25, 26, 27, 28, 29, 30, 31, 32, 33, 34, 35, 36, 37, 38, 39, 40, 41, 42, 43, 44, 45, 46, 47, 48, 49, 50, 51, 52, 53, 54, 55, 56, 57, 58, 59, 60, 61, 62, 63, 64, 65, 66, 67, 68, 69, 70, 71, 72, 73] (by decide +kernel) (by decide +kernel)
set_option maxRecDepth 20000 in
theorem gX9_pack__X9_pack : GoodIn wsX9_pack_ (wsV RX9 164 RX9 yX9_pack wsX9_pack) := goodIn_app (goodIn_of _ (by decide +kernel)) ggX9_pack__X9_pack
theorem dX9_pack__0 : decode cX9_pack_ 0 = .ok (.aload_n 0, 1) := by decide +kernel
theorem dX9_pack__1 : decode cX9_pack_ 1 = .ok (.aload_n 0, 1) := by decide +kernel
theorem dX9_pack__2 : decode cX9_pack_ 2 = .ok (.getfield 144, 3) := by decide +kernel
theorem dX9_pack__5 : decode cX9_pack_ 5 = .ok (.iconst 0, 1) := by decide +kernel
theorem dX9_pack__6 : decode cX9_pack_ 6 = .ok (.aload_n 0, 1) := by decide +kernel
theorem dX9_pack__7 : decode cX9_pack_ 7 = .ok (.getfield 153, 3) := by decide +kernel
theorem dX9_pack__10 : decode cX9_pack_ 10 = .ok (.invokevirtual 164, 3) := by decide +kernel
theorem dX9_pack__13 : decode cX9_pack_ 13 = .ok (.aload_n 0, 1) := by decide +kernel
theorem dX9_pack__14 : decode cX9_pack_ 14 = .ok (.iconst 0, 1) := by decide +kernel
theorem dX9_pack__15 : decode cX9_pack_ 15 = .ok (.putfield 153, 3) := by decide +kernel
theorem dX9_pack__18 : decode cX9_pack_ 18 = .ok (.aload_n 0, 1) := by decide +kernel
theorem dX9_pack__19 : decode cX9_pack_ 19 = .ok (.iconst 0, 1) := by decide +kernel
theorem dX9_pack__20 : decode cX9_pack_ 20 = .ok (.putfield 150, 3) := by decide +kernel
theorem dX9_pack__23 : decode cX9_pack_ 23 = .ok (.aload_n 0, 1) := by decide +kernel
theorem dX9_pack__24 : decode cX9_pack_ 24 = .ok (.aload_n 0, 1) := by decide +kernel
theorem dX9_pack__25 : decode cX9_pack_ 25 = .ok (.getfield 16, 3) := by decide +kernel
theorem dX9_pack__28 : decode cX9_pack_ 28 = .ok (.putfield 168, 3) := by decide +kernel
theorem dX9_pack__31 : decode cX9_pack_ 31 = .ok (.iconst 0, 1) := by decide +kernel
theorem dX9_pack__32 : decode cX9_pack_ 32 = .ok (.istore_n 1, 1) := by decide +kernel
theorem dX9_pack__33 : decode cX9_pack_ 33 = .ok (.iload_n 1, 1) := by decide +kernel
theorem dX9_pack__34 : decode cX9_pack_ 34 = .ok (.aload_n 0, 1) := by decide +kernel
theorem dX9_pack__35 : decode cX9_pack_ 35 = .ok (.getfield 16, 3) := by decide +kernel
theorem dX9_pack__38 : decode cX9_pack_ 38 = .ok (.if_icmp .ge 21, 3) := by decide +kernel
theorem dX9_pack__41 : decode cX9_pack_ 41 = .ok (.aload_n 0, 1) := by decide +kernel
theorem dX9_pack__42 : decode cX9_pack_ 42 = .ok (.getfield 147, 3) := by decide +kernel
theorem dX9_pack__45 : decode cX9_pack_ 45 = .ok (.iload_n 1, 1) := by decide +kernel
theorem dX9_pack__46 : decode cX9_pack_ 46 = .ok (.aload_n 0, 1) := by decide +kernel
theorem dX9_pack__47 : decode cX9_pack_ 47 = .ok (.getfield 12, 3) := by decide +kernel
theorem dX9_pack__50 : decode cX9_pack_ 50 = .ok (.iload_n 1, 1) := by decide +kernel
theorem dX9_pack__51 : decode cX9_pack_ 51 = .ok (.baload, 1) := by decide +kernel
theorem dX9_pack__52 : decode cX9_pack_ 52 = .ok (.bastore, 1) := by decide +kernel
theorem dX9_pack__53 : decode cX9_pack_ 53 = .ok (.iinc 1 1, 3) := by decide +kernel
theorem dX9_pack__56 : decode cX9_pack_ 56 = .ok (.goto (-23), 3) := by decide +kernel
theorem dX9_pack__59 : decode cX9_pack_ 59 = .ok (.aload_n 0, 1) := by decide +kernel
theorem dX9_pack__60 : decode cX9_pack_ 60 = .ok (.getfield 168, 3) := by decide +kernel
theorem dX9_pack__63 : decode cX9_pack_ 63 = .ok (.ireturn, 1) := by decide +kernel
set_option maxRecDepth 20000 in
theorem ggX9_open_X9_good : GoodIn wsX9_open wsX9_good := goodIn_r _ [12, 3, 87, 88, 89, 90, 91, 92, 93, 94, 95, 96, 97, 98, 99, 100, 101, 102, 103, 104, 105, 106, 107, 108, 109, 110] (by decide +kernel) (by decide +kernel)
set_option maxRecDepth 20000 in
theorem gX9_open_X9_good : GoodIn wsX9_open (wsV RX9 156 RX9 yX9_good wsX9_good) := goodIn_app (goodIn_of _ (by decide +kernel)) ggX9_open_X9_good
theorem dX9_open_0 : decode cX9_open 0 = .ok (.aload_n 0, 1) := by decide +kernel
theorem dX9_open_1 : decode cX9_open 1 = .ok (.getfield 153, 3) := by decide +kernel
theorem dX9_open_4 : decode cX9_open 4 = .ok (.istore_n 2, 1) := by decide +kernel
theorem dX9_open_5 : decode cX9_open 5 = .ok (.aload_n 0, 1) := by decide +kernel
theorem dX9_open_6 : decode cX9_open 6 = .ok (.iconst 0, 1) := by decide +kernel
theorem dX9_open_7 : decode cX9_open 7 = .ok (.putfield 153, 3) := by decide +kernel
theorem dX9_open_10 : decode cX9_open 10 = .ok (.aload_n 0, 1) := by decide +kernel
theorem dX9_open_11 : decode cX9_open 11 = .ok (.iload_n 1, 1) := by decide +kernel
theorem dX9_open_12 : decode cX9_open 12 = .ok (.ifCond .lt 14, 3) := by decide +kernel
theorem dX9_open_15 : decode cX9_open 15 = .ok (.iload_n 1, 1) := by decide +kernel
theorem dX9_open_16 : decode cX9_open 16 = .ok (.sipush 8192, 3) := by decide +kernel
theorem dX9_open_19 : decode cX9_open 19 = .ok (.if_icmp .gt 7, 3) := by decide +kernel
theorem dX9_open_22 : decode cX9_open 22 = .ok (.iconst 1, 1) := by decide +kernel
theorem dX9_open_23 : decode cX9_open 23 = .ok (.goto 4, 3) := by decide +kernel
theorem dX9_open_26 : decode cX9_open 26 = .ok (.iconst 0, 1) := by decide +kernel
theorem dX9_open_27 : decode cX9_open 27 = .ok (.iconst 1, 1) := by decide +kernel
theorem dX9_open_28 : decode cX9_open 28 = .ok (.invokevirtual 156, 3) := by decide +kernel
theorem dX9_open_31 : decode cX9_open 31 = .ok (.ifCond .ne 5, 3) := by decide +kernel
theorem dX9_open_34 : decode cX9_open 34 = .ok (.iconst 0, 1) := by decide +kernel
theorem dX9_open_35 : decode cX9_open 35 = .ok (.ireturn, 1) := by decide +kernel
theorem dX9_open_36 : decode cX9_open 36 = .ok (.aload_n 0, 1) := by decide +kernel
theorem dX9_open_37 : decode cX9_open 37 = .ok (.aload_n 0, 1) := by decide +kernel
theorem dX9_open_38 : decode cX9_open 38 = .ok (.getfield 144, 3) := by decide +kernel
theorem dX9_open_41 : decode cX9_open 41 = .ok (.iconst 0, 1) := by decide +kernel
theorem dX9_open_42 : decode cX9_open 42 = .ok (.iload_n 2, 1) := by decide +kernel
theorem dX9_open_43 : decode cX9_open 43 = .ok (.iload_n 1, 1) := by decide +kernel
theorem dX9_open_44 : decode cX9_open 44 = .ok (.invokevirtual 171, 3) := by decide +kernel
theorem dX9_open_47 : decode cX9_open 47 = .ok (.goto 11, 3) := by decide +kernel
theorem dX9_open_50 : decode cX9_open 50 = .ok (.astore_n 3, 1) := by decide +kernel
theorem dX9_open_51 : decode cX9_open 51 = .ok (.aload_n 0, 1) := by decide +kernel
theorem dX9_open_52 : decode cX9_open 52 = .ok (.iconst 2, 1) := by decide +kernel
theorem dX9_open_53 : decode cX9_open 53 = .ok (.putfield 150, 3) := by decide +kernel
theorem dX9_open_56 : decode cX9_open 56 = .ok (.iconst 0, 1) := by decide +kernel
theorem dX9_open_57 : decode cX9_open 57 = .ok (.ireturn, 1) := by decide +kernel
theorem dX9_open_58 : decode cX9_open 58 = .ok (.aload_n 0, 1) := by decide +kernel
theorem dX9_open_59 : decode cX9_open 59 = .ok (.aload_n 0, 1) := by decide +kernel
theorem dX9_open_60 : decode cX9_open 60 = .ok (.getfield 82, 3) := by decide +kernel
theorem dX9_open_63 : decode cX9_open 63 = .ok (.putfield 168, 3) := by decide +kernel
theorem dX9_open_66 : decode cX9_open 66 = .ok (.iconst 0, 1) := by decide +kernel
theorem dX9_open_67 : decode cX9_open 67 = .ok (.istore_n 3, 1) := by decide +kernel
theorem dX9_open_68 : decode cX9_open 68 = .ok (.iload_n 3, 1) := by decide +kernel
theorem dX9_open_69 : decode cX9_open 69 = .ok (.aload_n 0, 1) := by decide +kernel
theorem dX9_open_70 : decode cX9_open 70 = .ok (.getfield 82, 3) := by decide +kernel
theorem dX9_open_73 : decode cX9_open 73 = .ok (.if_icmp .ge 21, 3) := by decide +kernel
theorem dX9_open_76 : decode cX9_open 76 = .ok (.aload_n 0, 1) := by decide +kernel
theorem dX9_open_77 : decode cX9_open 77 = .ok (.getfield 147, 3) := by decide +kernel
theorem dX9_open_80 : decode cX9_open 80 = .ok (.iload_n 3, 1) := by decide +kernel
theorem dX9_open_81 : decode cX9_open 81 = .ok (.aload_n 0, 1) := by decide +kernel
theorem dX9_open_82 : decode cX9_open 82 = .ok (.getfield 88, 3) := by decide +kernel
theorem dX9_open_85 : decode cX9_open 85 = .ok (.iload_n 3, 1) := by decide +kernel
theorem dX9_open_86 : decode cX9_open 86 = .ok (.baload, 1) := by decide +kernel
theorem dX9_open_87 : decode cX9_open 87 = .ok (.bastore, 1) := by decide +kernel
theorem dX9_open_88 : decode cX9_open 88 = .ok (.iinc 3 1, 3) := by decide +kernel
theorem dX9_open_91 : decode cX9_open 91 = .ok (.goto (-23), 3) := by decide +kernel
theorem dX9_open_94 : decode cX9_open 94 = .ok (.aload_n 0, 1) := by decide +kernel
theorem dX9_open_95 : decode cX9_open 95 = .ok (.getfield 168, 3) := by decide +kernel
theorem dX9_open_98 : decode cX9_open 98 = .ok (.ireturn, 1) := by decide +kernel
set_option maxRecDepth 20000 in
theorem ggX9_back_X9_good : GoodIn wsX9_back wsX9_good := goodIn_r _ [9, 10, 11, 12, 13, 14, 15, 16, 17, 18, 19, 20, 21, 22, 23, 24, 25, 26, 27, 28, 29, 30, 31, 32, 33, 34] (by decide +kernel) (by decide +kernel)
set_option maxRecDepth 20000 in
theorem gX9_back_X9_good : GoodIn wsX9_back (wsV RX9 156 RX9 yX9_good wsX9_good) := goodIn_app (goodIn_of _ (by decide +kernel)) ggX9_back_X9_good
theorem dX9_back_0 : decode cX9_back 0 = .ok (.aload_n 0, 1) := by decide +kernel
theorem dX9_back_1 : decode cX9_back 1 = .ok (.aload_n 0, 1) := by decide +kernel
theorem dX9_back_2 : decode cX9_back 2 = .ok (.getfield 168, 3) := by decide +kernel
theorem dX9_back_5 : decode cX9_back 5 = .ok (.sipush 4000, 3) := by decide +kernel
theorem dX9_back_8 : decode cX9_back 8 = .ok (.if_icmp .gt 7, 3) := by decide +kernel
theorem dX9_back_11 : decode cX9_back 11 = .ok (.iconst 1, 1) := by decide +kernel
theorem dX9_back_12 : decode cX9_back 12 = .ok (.goto 4, 3) := by decide +kernel
theorem dX9_back_15 : decode cX9_back 15 = .ok (.iconst 0, 1) := by decide +kernel
theorem dX9_back_16 : decode cX9_back 16 = .ok (.iconst 1, 1) := by decide +kernel
theorem dX9_back_17 : decode cX9_back 17 = .ok (.invokevirtual 156, 3) := by decide +kernel
theorem dX9_back_20 : decode cX9_back 20 = .ok (.ifCond .ne 5, 3) := by decide +kernel
theorem dX9_back_23 : decode cX9_back 23 = .ok (.iconst 0, 1) := by decide +kernel
theorem dX9_back_24 : decode cX9_back 24 = .ok (.ireturn, 1) := by decide +kernel
theorem dX9_back_25 : decode cX9_back 25 = .ok (.aload_n 0, 1) := by decide +kernel
theorem dX9_back_26 : decode cX9_back 26 = .ok (.aload_n 0, 1) := by decide +kernel
theorem dX9_back_27 : decode cX9_back 27 = .ok (.getfield 168, 3) := by decide +kernel
theorem dX9_back_30 : decode cX9_back 30 = .ok (.putfield 153, 3) := by decide +kernel
theorem dX9_back_33 : decode cX9_back 33 = .ok (.iconst 0, 1) := by decide +kernel
theorem dX9_back_34 : decode cX9_back 34 = .ok (.istore_n 1, 1) := by decide +kernel
theorem dX9_back_35 : decode cX9_back 35 = .ok (.iload_n 1, 1) := by decide +kernel
theorem dX9_back_36 : decode cX9_back 36 = .ok (.aload_n 0, 1) := by decide +kernel
theorem dX9_back_37 : decode cX9_back 37 = .ok (.getfield 153, 3) := by decide +kernel
theorem dX9_back_40 : decode cX9_back 40 = .ok (.if_icmp .ge 21, 3) := by decide +kernel
theorem dX9_back_43 : decode cX9_back 43 = .ok (.aload_n 0, 1) := by decide +kernel
theorem dX9_back_44 : decode cX9_back 44 = .ok (.getfield 144, 3) := by decide +kernel
theorem dX9_back_47 : decode cX9_back 47 = .ok (.iload_n 1, 1) := by decide +kernel
theorem dX9_back_48 : decode cX9_back 48 = .ok (.aload_n 0, 1) := by decide +kernel
theorem dX9_back_49 : decode cX9_back 49 = .ok (.getfield 147, 3) := by decide +kernel
theorem dX9_back_52 : decode cX9_back 52 = .ok (.iload_n 1, 1) := by decide +kernel
theorem dX9_back_53 : decode cX9_back 53 = .ok (.baload, 1) := by decide +kernel
theorem dX9_back_54 : decode cX9_back 54 = .ok (.bastore, 1) := by decide +kernel
theorem dX9_back_55 : decode cX9_back 55 = .ok (.iinc 1 1, 3) := by decide +kernel
theorem dX9_back_58 : decode cX9_back 58 = .ok (.goto (-23), 3) := by decide +kernel
theorem dX9_back_61 : decode cX9_back 61 = .ok (.aload_n 0, 1) := by decide +kernel
theorem dX9_back_62 : decode cX9_back 62 = .ok (.getfield 153, 3) := by decide +kernel
theorem dX9_back_65 : decode cX9_back 65 = .ok (.ireturn, 1) := by decide +kernel
set_option maxRecDepth 20000 in
theorem ggX9_patch_X9_good : GoodIn wsX9_patch wsX9_good := goodIn_r _ [7, 8, 9, 10, 11, 12, 13, 14, 15, 16, 17, 18, 19, 20, 21, 22, 23, 24, 25, 26, 27, 28, 29, 30, 31, 32] (by decide +kernel) (by decide +kernel)
set_option maxRecDepth 20000 in
theorem gX9_patch_X9_good : GoodIn wsX9_patch (wsV RX9 156 RX9 yX9_good wsX9_good) := goodIn_app (goodIn_of _ (by decide +kernel)) ggX9_patch_X9_good
theorem dX9_patch_0 : decode cX9_patch 0 = .ok (.aload_n 0, 1) := by decide +kernel
theorem dX9_patch_1 : decode cX9_patch 1 = .ok (.iload_n 1, 1) := by decide +kernel
theorem dX9_patch_2 : decode cX9_patch 2 = .ok (.ifCond .lt 15, 3) := by decide +kernel
theorem dX9_patch_5 : decode cX9_patch 5 = .ok (.iload_n 1, 1) := by decide +kernel
theorem dX9_patch_6 : decode cX9_patch 6 = .ok (.aload_n 0, 1) := by decide +kernel
theorem dX9_patch_7 : decode cX9_patch 7 = .ok (.getfield 153, 3) := by decide +kernel
theorem dX9_patch_10 : decode cX9_patch 10 = .ok (.if_icmp .ge 7, 3) := by decide +kernel
theorem dX9_patch_13 : decode cX9_patch 13 = .ok (.iconst 1, 1) := by decide +kernel
theorem dX9_patch_14 : decode cX9_patch 14 = .ok (.goto 4, 3) := by decide +kernel
theorem dX9_patch_17 : decode cX9_patch 17 = .ok (.iconst 0, 1) := by decide +kernel
theorem dX9_patch_18 : decode cX9_patch 18 = .ok (.iconst 1, 1) := by decide +kernel
theorem dX9_patch_19 : decode cX9_patch 19 = .ok (.invokevirtual 156, 3) := by decide +kernel
theorem dX9_patch_22 : decode cX9_patch 22 = .ok (.ifCond .ne 5, 3) := by decide +kernel
theorem dX9_patch_25 : decode cX9_patch 25 = .ok (.iconst 0, 1) := by decide +kernel
theorem dX9_patch_26 : decode cX9_patch 26 = .ok (.ireturn, 1) := by decide +kernel
theorem dX9_patch_27 : decode cX9_patch 27 = .ok (.aload_n 0, 1) := by decide +kernel
theorem dX9_patch_28 : decode cX9_patch 28 = .ok (.getfield 144, 3) := by decide +kernel
theorem dX9_patch_31 : decode cX9_patch 31 = .ok (.iload_n 1, 1) := by decide +kernel
theorem dX9_patch_32 : decode cX9_patch 32 = .ok (.baload, 1) := by decide +kernel
theorem dX9_patch_33 : decode cX9_patch 33 = .ok (.sipush 255, 3) := by decide +kernel
theorem dX9_patch_36 : decode cX9_patch 36 = .ok (.iand, 1) := by decide +kernel
theorem dX9_patch_37 : decode cX9_patch 37 = .ok (.istore_n 3, 1) := by decide +kernel
theorem dX9_patch_38 : decode cX9_patch 38 = .ok (.aload_n 0, 1) := by decide +kernel
theorem dX9_patch_39 : decode cX9_patch 39 = .ok (.getfield 144, 3) := by decide +kernel
theorem dX9_patch_42 : decode cX9_patch 42 = .ok (.iload_n 1, 1) := by decide +kernel
theorem dX9_patch_43 : decode cX9_patch 43 = .ok (.iload_n 2, 1) := by decide +kernel
theorem dX9_patch_44 : decode cX9_patch 44 = .ok (.i2b, 1) := by decide +kernel
theorem dX9_patch_45 : decode cX9_patch 45 = .ok (.bastore, 1) := by decide +kernel
theorem dX9_patch_46 : decode cX9_patch 46 = .ok (.iload_n 3, 1) := by decide +kernel
theorem dX9_patch_47 : decode cX9_patch 47 = .ok (.ireturn, 1) := by decide +kernel
set_option maxRecDepth 20000 in
theorem ggX9_sum_X9_adler : GoodIn wsX9_sum wsX9_adler := goodIn_r _ [7, 8] (by decide +kernel) (by decide +kernel)
set_option maxRecDepth 20000 in
theorem gX9_sum_X9_adler : GoodIn wsX9_sum (va_wsS RX9 49 yX9_adler wsX9_adler) := goodIn_app (goodIn_of _ (by decide +kernel)) ggX9_sum_X9_adler
theorem dX9_sum_0 : decode cX9_sum 0 = .ok (.aload_n 0, 1) := by decide +kernel
theorem dX9_sum_1 : decode cX9_sum 1 = .ok (.iconst 0, 1) := by decide +kernel
theorem dX9_sum_2 : decode cX9_sum 2 = .ok (.putfield 150, 3) := by decide +kernel
theorem dX9_sum_5 : decode cX9_sum 5 = .ok (.aload_n 0, 1) := by decide +kernel
theorem dX9_sum_6 : decode cX9_sum 6 = .ok (.getfield 147, 3) := by decide +kernel
theorem dX9_sum_9 : decode cX9_sum 9 = .ok (.iconst 0, 1) := by decide +kernel
theorem dX9_sum_10 : decode cX9_sum 10 = .ok (.aload_n 0, 1) := by decide +kernel
theorem dX9_sum_11 : decode cX9_sum 11 = .ok (.getfield 168, 3) := by decide +kernel
theorem dX9_sum_14 : decode cX9_sum 14 = .ok (.invokestatic 49, 3) := by decide +kernel
theorem dX9_sum_17 : decode cX9_sum 17 = .ok (.ireturn, 1) := by decide +kernel
set_option maxRecDepth 20000 in
theorem ggX9_word_X9_good : GoodIn wsX9_word wsX9_good := goodIn_r _ [8, 9, 10, 11, 12, 13, 14, 15, 16, 17, 18, 19, 20, 21, 22, 23, 24, 25, 26, 27, 28, 29, 30, 31, 32, 33] (by decide +kernel) (by decide +kernel)
set_option maxRecDepth 20000 in
theorem gX9_word_X9_good : GoodIn wsX9_word (wsV RX9 156 RX9 yX9_good wsX9_good) := goodIn_app (goodIn_of _ (by decide +kernel)) ggX9_word_X9_good
theorem dX9_word_0 : decode cX9_word 0 = .ok (.aload_n 0, 1) := by decide +kernel
theorem dX9_word_1 : decode cX9_word 1 = .ok (.iload_n 1, 1) := by decide +kernel
theorem dX9_word_2 : decode cX9_word 2 = .ok (.ifCond .lt 15, 3) := by decide +kernel
theorem dX9_word_5 : decode cX9_word 5 = .ok (.iload_n 1, 1) := by decide +kernel
theorem dX9_word_6 : decode cX9_word 6 = .ok (.aload_n 0, 1) := by decide +kernel
theorem dX9_word_7 : decode cX9_word 7 = .ok (.getfield 168, 3) := by decide +kernel
theorem dX9_word_10 : decode cX9_word 10 = .ok (.if_icmp .ge 7, 3) := by decide +kernel
theorem dX9_word_13 : decode cX9_word 13 = .ok (.iconst 1, 1) := by decide +kernel
theorem dX9_word_14 : decode cX9_word 14 = .ok (.goto 4, 3) := by decide +kernel
theorem dX9_word_17 : decode cX9_word 17 = .ok (.iconst 0, 1) := by decide +kernel
theorem dX9_word_18 : decode cX9_word 18 = .ok (.iconst 1, 1) := by decide +kernel
theorem dX9_word_19 : decode cX9_word 19 = .ok (.invokevirtual 156, 3) := by decide +kernel
theorem dX9_word_22 : decode cX9_word 22 = .ok (.ifCond .ne 5, 3) := by decide +kernel
theorem dX9_word_25 : decode cX9_word 25 = .ok (.lconst 0, 1) := by decide +kernel
theorem dX9_word_26 : decode cX9_word 26 = .ok (.lreturn, 1) := by decide +kernel
theorem dX9_word_27 : decode cX9_word 27 = .ok (.lconst 0, 1) := by decide +kernel
theorem dX9_word_28 : decode cX9_word 28 = .ok (.lstore_n 2, 1) := by decide +kernel
theorem dX9_word_29 : decode cX9_word 29 = .ok (.iload_n 1, 1) := by decide +kernel
theorem dX9_word_30 : decode cX9_word 30 = .ok (.istore 4, 2) := by decide +kernel
theorem dX9_word_32 : decode cX9_word 32 = .ok (.iload 4, 2) := by decide +kernel
theorem dX9_word_34 : decode cX9_word 34 = .ok (.iload_n 1, 1) := by decide +kernel
theorem dX9_word_35 : decode cX9_word 35 = .ok (.bipush 8, 2) := by decide +kernel
theorem dX9_word_37 : decode cX9_word 37 = .ok (.iadd, 1) := by decide +kernel
theorem dX9_word_38 : decode cX9_word 38 = .ok (.if_icmp .ge 40, 3) := by decide +kernel
theorem dX9_word_41 : decode cX9_word 41 = .ok (.lload_n 2, 1) := by decide +kernel
theorem dX9_word_42 : decode cX9_word 42 = .ok (.bipush 8, 2) := by decide +kernel
theorem dX9_word_44 : decode cX9_word 44 = .ok (.lshl, 1) := by decide +kernel
theorem dX9_word_45 : decode cX9_word 45 = .ok (.iload 4, 2) := by decide +kernel
theorem dX9_word_47 : decode cX9_word 47 = .ok (.aload_n 0, 1) := by decide +kernel
theorem dX9_word_48 : decode cX9_word 48 = .ok (.getfield 168, 3) := by decide +kernel
theorem dX9_word_51 : decode cX9_word 51 = .ok (.if_icmp .ge 18, 3) := by decide +kernel
theorem dX9_word_54 : decode cX9_word 54 = .ok (.aload_n 0, 1) := by decide +kernel
theorem dX9_word_55 : decode cX9_word 55 = .ok (.getfield 147, 3) := by decide +kernel
theorem dX9_word_58 : decode cX9_word 58 = .ok (.iload 4, 2) := by decide +kernel
theorem dX9_word_60 : decode cX9_word 60 = .ok (.baload, 1) := by decide +kernel
theorem dX9_word_61 : decode cX9_word 61 = .ok (.i2l, 1) := by decide +kernel
theorem dX9_word_62 : decode cX9_word 62 = .ok (.ldc2_w 175, 3) := by decide +kernel
theorem dX9_word_65 : decode cX9_word 65 = .ok (.land, 1) := by decide +kernel
theorem dX9_word_66 : decode cX9_word 66 = .ok (.goto 4, 3) := by decide +kernel
theorem dX9_word_69 : decode cX9_word 69 = .ok (.lconst 0, 1) := by decide +kernel
theorem dX9_word_70 : decode cX9_word 70 = .ok (.lor, 1) := by decide +kernel
theorem dX9_word_71 : decode cX9_word 71 = .ok (.lstore_n 2, 1) := by decide +kernel
theorem dX9_word_72 : decode cX9_word 72 = .ok (.iinc 4 1, 3) := by decide +kernel
theorem dX9_word_75 : decode cX9_word 75 = .ok (.goto (-43), 3) := by decide +kernel
theorem dX9_word_78 : decode cX9_word 78 = .ok (.lload_n 2, 1) := by decide +kernel
theorem dX9_word_79 : decode cX9_word 79 = .ok (.lreturn, 1) := by decide +kernel
set_option maxRecDepth 20000 in
theorem ggX9_count_X9_good : GoodIn wsX9_count wsX9_good := goodIn_r _ [7, 8, 9, 10, 11, 12, 13, 14, 15, 16, 17, 18, 19, 20, 21, 22, 23, 24, 25, 26, 27, 28, 29, 30, 31, 32] (by decide +kernel) (by decide +kernel)
set_option maxRecDepth 20000 in
theorem gX9_count_X9_good : GoodIn wsX9_count (wsV RX9 156 RX9 yX9_good wsX9_good) := goodIn_app (goodIn_of _ (by decide +kernel)) ggX9_count_X9_good
theorem dX9_count_0 : decode cX9_count 0 = .ok (.aload_n 0, 1) := by decide +kernel
theorem dX9_count_1 : decode cX9_count 1 = .ok (.iload_n 1, 1) := by decide +kernel
theorem dX9_count_2 : decode cX9_count 2 = .ok (.ifCond .lt 12, 3) := by decide +kernel
theorem dX9_count_5 : decode cX9_count 5 = .ok (.iload_n 1, 1) := by decide +kernel
theorem dX9_count_6 : decode cX9_count 6 = .ok (.iconst 1, 1) := by decide +kernel
theorem dX9_count_7 : decode cX9_count 7 = .ok (.if_icmp .gt 7, 3) := by decide +kernel
theorem dX9_count_10 : decode cX9_count 10 = .ok (.iconst 1, 1) := by decide +kernel
theorem dX9_count_11 : decode cX9_count 11 = .ok (.goto 4, 3) := by decide +kernel
theorem dX9_count_14 : decode cX9_count 14 = .ok (.iconst 0, 1) := by decide +kernel
theorem dX9_count_15 : decode cX9_count 15 = .ok (.iconst 1, 1) := by decide +kernel
theorem dX9_count_16 : decode cX9_count 16 = .ok (.invokevirtual 156, 3) := by decide +kernel
theorem dX9_count_19 : decode cX9_count 19 = .ok (.ifCond .ne 5, 3) := by decide +kernel
theorem dX9_count_22 : decode cX9_count 22 = .ok (.iconst 0, 1) := by decide +kernel
theorem dX9_count_23 : decode cX9_count 23 = .ok (.ireturn, 1) := by decide +kernel
theorem dX9_count_24 : decode cX9_count 24 = .ok (.iload_n 1, 1) := by decide +kernel
theorem dX9_count_25 : decode cX9_count 25 = .ok (.ifCond .ne 10, 3) := by decide +kernel
theorem dX9_count_28 : decode cX9_count 28 = .ok (.aload_n 0, 1) := by decide +kernel
theorem dX9_count_29 : decode cX9_count 29 = .ok (.getfield 153, 3) := by decide +kernel
theorem dX9_count_32 : decode cX9_count 32 = .ok (.goto 7, 3) := by decide +kernel
theorem dX9_count_35 : decode cX9_count 35 = .ok (.aload_n 0, 1) := by decide +kernel
theorem dX9_count_36 : decode cX9_count 36 = .ok (.getfield 168, 3) := by decide +kernel
theorem dX9_count_39 : decode cX9_count 39 = .ok (.ireturn, 1) := by decide +kernel
theorem dJ9_min_7cf53_0 : decode cJ9_min_7cf53 0 = .ok (.iload_n 0, 1) := by decide +kernel
theorem dJ9_min_7cf53_1 : decode cJ9_min_7cf53 1 = .ok (.iload_n 1, 1) := by decide +kernel
theorem dJ9_min_7cf53_2 : decode cJ9_min_7cf53 2 = .ok (.if_icmp .gt 7, 3) := by decide +kernel
theorem dJ9_min_7cf53_5 : decode cJ9_min_7cf53 5 = .ok (.iload_n 0, 1) := by decide +kernel
theorem dJ9_min_7cf53_6 : decode cJ9_min_7cf53 6 = .ok (.goto 4, 3) := by decide +kernel
theorem dJ9_min_7cf53_9 : decode cJ9_min_7cf53 9 = .ok (.iload_n 1, 1) := by decide +kernel
theorem dJ9_min_7cf53_10 : decode cJ9_min_7cf53 10 = .ok (.ireturn, 1) := by decide +kernel
set_option maxRecDepth 20000 in
theorem ggL_feed_X7_feed : GoodIn wsL_feed wsX7_feed := goodIn_ca (goodIn_r _ [6, 7, 8, 9, 10, 5, 11, 12, 13, 14, 15, 16, 17, 18, 19, 20, 21, 22, 23, 24, 25, 26, 27, 28, 29] (by decide +kernel) (by decide +kernel)) (goodIn_sub (fun _ h => List.mem_cons_of_mem _ (List.mem_append_right _ h)) (by decide +kernel))
set_option maxRecDepth 20000 in
theorem gL_feed_X7_feed : GoodIn wsL_feed (wsV RL 7 RX7 yX7_feed wsX7_feed) := goodIn_app (goodIn_of _ (by decide +kernel)) ggL_feed_X7_feed
