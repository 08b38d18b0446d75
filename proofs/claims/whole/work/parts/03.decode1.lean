theorem dX5_writeHighFirst_7 : decode cX5_writeHighFirst 7 = .ok (.istore_n 3, 1) := by decide +kernel
theorem dX5_writeHighFirst_8 : decode cX5_writeHighFirst 8 = .ok (.iload_n 3, 1) := by decide +kernel
theorem dX5_writeHighFirst_9 : decode cX5_writeHighFirst 9 = .ok (.ifCond .lt 25, 3) := by decide +kernel
theorem dX5_writeHighFirst_12 : decode cX5_writeHighFirst 12 = .ok (.aload_n 0, 1) := by decide +kernel
theorem dX5_writeHighFirst_13 : decode cX5_writeHighFirst 13 = .ok (.getfield 12, 3) := by decide +kernel
theorem dX5_writeHighFirst_16 : decode cX5_writeHighFirst 16 = .ok (.iload_n 1, 1) := by decide +kernel
theorem dX5_writeHighFirst_17 : decode cX5_writeHighFirst 17 = .ok (.iload_n 3, 1) := by decide +kernel
theorem dX5_writeHighFirst_18 : decode cX5_writeHighFirst 18 = .ok (.iushr, 1) := by decide +kernel
theorem dX5_writeHighFirst_19 : decode cX5_writeHighFirst 19 = .ok (.sipush 255, 3) := by decide +kernel
theorem dX5_writeHighFirst_22 : decode cX5_writeHighFirst 22 = .ok (.iand, 1) := by decide +kernel
theorem dX5_writeHighFirst_23 : decode cX5_writeHighFirst 23 = .ok (.bipush 8, 2) := by decide +kernel
theorem dX5_writeHighFirst_25 : decode cX5_writeHighFirst 25 = .ok (.invokevirtual 33, 3) := by decide +kernel
theorem dX5_writeHighFirst_28 : decode cX5_writeHighFirst 28 = .ok (.iinc 3 (-8), 3) := by decide +kernel
theorem dX5_writeHighFirst_31 : decode cX5_writeHighFirst 31 = .ok (.goto (-23), 3) := by decide +kernel
theorem dX5_writeHighFirst_34 : decode cX5_writeHighFirst 34 = .ok (.return_, 1) := by decide +kernel
theorem dX5_lastNotAbove_0 : decode cX5_lastNotAbove 0 = .ok (.iconst 0, 1) := by decide +kernel
theorem dX5_lastNotAbove_1 : decode cX5_lastNotAbove 1 = .ok (.istore_n 2, 1) := by decide +kernel
theorem dX5_lastNotAbove_2 : decode cX5_lastNotAbove 2 = .ok (.iconst 1, 1) := by decide +kernel
theorem dX5_lastNotAbove_3 : decode cX5_lastNotAbove 3 = .ok (.istore_n 3, 1) := by decide +kernel
theorem dX5_lastNotAbove_4 : decode cX5_lastNotAbove 4 = .ok (.iload_n 3, 1) := by decide +kernel
theorem dX5_lastNotAbove_5 : decode cX5_lastNotAbove 5 = .ok (.aload_n 0, 1) := by decide +kernel
theorem dX5_lastNotAbove_6 : decode cX5_lastNotAbove 6 = .ok (.arraylength, 1) := by decide +kernel
theorem dX5_lastNotAbove_7 : decode cX5_lastNotAbove 7 = .ok (.if_icmp .ge 18, 3) := by decide +kernel
theorem dX5_lastNotAbove_10 : decode cX5_lastNotAbove 10 = .ok (.aload_n 0, 1) := by decide +kernel
theorem dX5_lastNotAbove_11 : decode cX5_lastNotAbove 11 = .ok (.iload_n 3, 1) := by decide +kernel
theorem dX5_lastNotAbove_12 : decode cX5_lastNotAbove 12 = .ok (.iaload, 1) := by decide +kernel
theorem dX5_lastNotAbove_13 : decode cX5_lastNotAbove 13 = .ok (.iload_n 1, 1) := by decide +kernel
theorem dX5_lastNotAbove_14 : decode cX5_lastNotAbove 14 = .ok (.if_icmp .gt 11, 3) := by decide +kernel
theorem dX5_lastNotAbove_17 : decode cX5_lastNotAbove 17 = .ok (.iload_n 3, 1) := by decide +kernel
theorem dX5_lastNotAbove_18 : decode cX5_lastNotAbove 18 = .ok (.istore_n 2, 1) := by decide +kernel
theorem dX5_lastNotAbove_19 : decode cX5_lastNotAbove 19 = .ok (.iinc 3 1, 3) := by decide +kernel
theorem dX5_lastNotAbove_22 : decode cX5_lastNotAbove 22 = .ok (.goto (-18), 3) := by decide +kernel
theorem dX5_lastNotAbove_25 : decode cX5_lastNotAbove 25 = .ok (.iload_n 2, 1) := by decide +kernel
theorem dX5_lastNotAbove_26 : decode cX5_lastNotAbove 26 = .ok (.ireturn, 1) := by decide +kernel
set_option maxRecDepth 20000 in
theorem ggX6_init_X2_init : GoodIn wsX6_init wsX2_init := goodIn_r _ [14, 15, 2, 3, 10, 16, 17, 18, 19, 20, 21] (by decide +kernel) (by decide +kernel)
set_option maxRecDepth 20000 in
theorem gX6_init_X2_init : GoodIn wsX6_init (wsX2_init) := ggX6_init_X2_init
theorem dX6_init_0 : decode cX6_init 0 = .ok (.aload_n 0, 1) := by decide +kernel
theorem dX6_init_1 : decode cX6_init 1 = .ok (.invokespecial 3, 3) := by decide +kernel
theorem dX6_init_4 : decode cX6_init 4 = .ok (.aload_n 0, 1) := by decide +kernel
theorem dX6_init_5 : decode cX6_init 5 = .ok (.new 9, 3) := by decide +kernel
theorem dX6_init_8 : decode cX6_init 8 = .ok (.dup, 1) := by decide +kernel
theorem dX6_init_9 : decode cX6_init 9 = .ok (.sipush 286, 3) := by decide +kernel
theorem dX6_init_12 : decode cX6_init 12 = .ok (.invokespecial 11, 3) := by decide +kernel
theorem dX6_init_15 : decode cX6_init 15 = .ok (.putfield 14, 3) := by decide +kernel
theorem dX6_init_18 : decode cX6_init 18 = .ok (.aload_n 0, 1) := by decide +kernel
theorem dX6_init_19 : decode cX6_init 19 = .ok (.new 9, 3) := by decide +kernel
theorem dX6_init_22 : decode cX6_init 22 = .ok (.dup, 1) := by decide +kernel
theorem dX6_init_23 : decode cX6_init 23 = .ok (.bipush 30, 2) := by decide +kernel
theorem dX6_init_25 : decode cX6_init 25 = .ok (.invokespecial 11, 3) := by decide +kernel
theorem dX6_init_28 : decode cX6_init 28 = .ok (.putfield 20, 3) := by decide +kernel
theorem dX6_init_31 : decode cX6_init 31 = .ok (.aload_n 0, 1) := by decide +kernel
theorem dX6_init_32 : decode cX6_init 32 = .ok (.new 9, 3) := by decide +kernel
theorem dX6_init_35 : decode cX6_init 35 = .ok (.dup, 1) := by decide +kernel
theorem dX6_init_36 : decode cX6_init 36 = .ok (.getstatic 23, 3) := by decide +kernel
theorem dX6_init_39 : decode cX6_init 39 = .ok (.arraylength, 1) := by decide +kernel
theorem dX6_init_40 : decode cX6_init 40 = .ok (.invokespecial 11, 3) := by decide +kernel
theorem dX6_init_43 : decode cX6_init 43 = .ok (.putfield 27, 3) := by decide +kernel
theorem dX6_init_46 : decode cX6_init 46 = .ok (.aload_n 0, 1) := by decide +kernel
theorem dX6_init_47 : decode cX6_init 47 = .ok (.sipush 316, 3) := by decide +kernel
theorem dX6_init_50 : decode cX6_init 50 = .ok (.newarray .int, 2) := by decide +kernel
theorem dX6_init_52 : decode cX6_init 52 = .ok (.putfield 30, 3) := by decide +kernel
theorem dX6_init_55 : decode cX6_init 55 = .ok (.return_, 1) := by decide +kernel
set_option maxRecDepth 20000 in
theorem ggX6_readSets_X0_readBits : GoodIn wsX6_readSets wsX0_readBits := goodIn_ca (goodIn_r _ [10, 11, 12, 13, 9, 14, 15, 2, 16, 17, 18, 63, 64, 65] (by decide +kernel) (by decide +kernel)) (goodIn_sub (fun _ h => List.mem_cons_of_mem _ (List.mem_append_left _ (List.mem_append_right _ h))) (by decide +kernel))
set_option maxRecDepth 20000 in
theorem gX6_readSets_X0_readBits : GoodIn wsX6_readSets (wsV RX6 33 RX0 yX0_readBits wsX0_readBits) := goodIn_app (goodIn_of _ (by decide +kernel)) ggX6_readSets_X0_readBits
set_option maxRecDepth 20000 in
theorem ggX6_readSets_X6_readLengthCodes : GoodIn wsX6_readSets wsX6_readLengthCodes := goodIn_ca (goodIn_ca (goodIn_r _ [23, 3, 24, 6, 7, 8, 9, 10, 11, 12, 13, 14, 15, 2, 16, 17, 18, 25, 26, 27, 22, 28, 1, 29, 30, 31, 32, 33, 34, 35, 36, 37, 38, 39, 40, 41, 42, 43, 44, 59, 60, 61, 62, 63, 64, 65, 66, 67, 68] (by decide +kernel) (by decide +kernel)) (goodIn_sub (fun _ h => List.mem_cons_of_mem _ (List.mem_append_left _ (List.mem_append_right _ h))) (by decide +kernel))) (goodIn_sub (fun _ h => List.mem_cons_of_mem _ (List.mem_append_left _ (List.mem_append_left _ (List.mem_append_right _ h)))) (by decide +kernel))
set_option maxRecDepth 20000 in
theorem gX6_readSets_X6_readLengthCodes : GoodIn wsX6_readSets (wsV RX6 46 RX6 yX6_readLengthCodes wsX6_readLengthCodes) := goodIn_app (goodIn_of _ (by decide +kernel)) ggX6_readSets_X6_readLengthCodes
set_option maxRecDepth 20000 in
theorem ggX6_readSets_X6_readLengths : GoodIn wsX6_readSets wsX6_readLengths := goodIn_ca (goodIn_ca (goodIn_ca (goodIn_r _ [48, 24, 3, 49, 50, 51, 32, 52, 53, 2, 34, 40, 54, 12, 13, 9, 14, 15, 16, 17, 18, 6, 7, 8, 10, 11, 55, 56, 57, 22, 58, 1, 59, 60, 61, 62, 66, 67, 68, 63, 64, 65] (by decide +kernel) (by decide +kernel)) (goodIn_sub (fun _ h => List.mem_cons_of_mem _ (List.mem_append_right _ h)) (by decide +kernel))) (goodIn_sub (fun _ h => List.mem_cons_of_mem _ (List.mem_append_left _ (List.mem_append_right _ h))) (by decide +kernel))) (goodIn_sub (fun _ h => List.mem_cons_of_mem _ (List.mem_append_left _ (List.mem_append_left _ (List.mem_append_right _ h)))) (by decide +kernel))
set_option maxRecDepth 20000 in
theorem gX6_readSets_X6_readLengths : GoodIn wsX6_readSets (wsV RX6 50 RX6 yX6_readLengths wsX6_readLengths) := goodIn_app (goodIn_of _ (by decide +kernel)) ggX6_readSets_X6_readLengths
set_option maxRecDepth 20000 in
theorem ggX6_readSets_X6_learnAllowed : GoodIn wsX6_readSets wsX6_learnAllowed := goodIn_ca (goodIn_r _ [28, 1, 2, 3, 29, 30, 31, 32, 33, 34, 35, 36, 37, 38, 39, 40, 41, 42, 43, 44, 59, 60, 61, 62, 66, 67, 68] (by decide +kernel) (by decide +kernel)) (goodIn_sub (fun _ h => List.mem_cons_of_mem _ (List.mem_append_left _ (List.mem_append_left _ (List.mem_append_right _ h)))) (by decide +kernel))
set_option maxRecDepth 20000 in
theorem gX6_readSets_X6_learnAllowed : GoodIn wsX6_readSets (wsV RX6 55 RX6 yX6_learnAllowed wsX6_learnAllowed) := goodIn_app (goodIn_of _ (by decide +kernel)) ggX6_readSets_X6_learnAllowed
theorem dX6_readSets_0 : decode cX6_readSets 0 = .ok (.aload_n 1, 1) := by decide +kernel
theorem dX6_readSets_1 : decode cX6_readSets 1 = .ok (.iconst 5, 1) := by decide +kernel
theorem dX6_readSets_2 : decode cX6_readSets 2 = .ok (.invokevirtual 33, 3) := by decide +kernel
theorem dX6_readSets_5 : decode cX6_readSets 5 = .ok (.sipush 257, 3) := by decide +kernel
theorem dX6_readSets_8 : decode cX6_readSets 8 = .ok (.iadd, 1) := by decide +kernel
theorem dX6_readSets_9 : decode cX6_readSets 9 = .ok (.istore_n 2, 1) := by decide +kernel
theorem dX6_readSets_10 : decode cX6_readSets 10 = .ok (.aload_n 1, 1) := by decide +kernel
theorem dX6_readSets_11 : decode cX6_readSets 11 = .ok (.iconst 5, 1) := by decide +kernel
theorem dX6_readSets_12 : decode cX6_readSets 12 = .ok (.invokevirtual 33, 3) := by decide +kernel
theorem dX6_readSets_15 : decode cX6_readSets 15 = .ok (.iconst 1, 1) := by decide +kernel
theorem dX6_readSets_16 : decode cX6_readSets 16 = .ok (.iadd, 1) := by decide +kernel
theorem dX6_readSets_17 : decode cX6_readSets 17 = .ok (.istore_n 3, 1) := by decide +kernel
theorem dX6_readSets_18 : decode cX6_readSets 18 = .ok (.aload_n 1, 1) := by decide +kernel
theorem dX6_readSets_19 : decode cX6_readSets 19 = .ok (.iconst 4, 1) := by decide +kernel
theorem dX6_readSets_20 : decode cX6_readSets 20 = .ok (.invokevirtual 33, 3) := by decide +kernel
theorem dX6_readSets_23 : decode cX6_readSets 23 = .ok (.iconst 4, 1) := by decide +kernel
theorem dX6_readSets_24 : decode cX6_readSets 24 = .ok (.iadd, 1) := by decide +kernel
theorem dX6_readSets_25 : decode cX6_readSets 25 = .ok (.istore 4, 2) := by decide +kernel
theorem dX6_readSets_27 : decode cX6_readSets 27 = .ok (.iload_n 2, 1) := by decide +kernel
theorem dX6_readSets_28 : decode cX6_readSets 28 = .ok (.sipush 286, 3) := by decide +kernel
theorem dX6_readSets_31 : decode cX6_readSets 31 = .ok (.if_icmp .gt 9, 3) := by decide +kernel
theorem dX6_readSets_34 : decode cX6_readSets 34 = .ok (.iload_n 3, 1) := by decide +kernel
theorem dX6_readSets_35 : decode cX6_readSets 35 = .ok (.bipush 30, 2) := by decide +kernel
theorem dX6_readSets_37 : decode cX6_readSets 37 = .ok (.if_icmp .le 13, 3) := by decide +kernel
theorem dX6_readSets_40 : decode cX6_readSets 40 = .ok (.new 39, 3) := by decide +kernel
theorem dX6_readSets_43 : decode cX6_readSets 43 = .ok (.dup, 1) := by decide +kernel
theorem dX6_readSets_44 : decode cX6_readSets 44 = .ok (.ldc 41, 2) := by decide +kernel
theorem dX6_readSets_46 : decode cX6_readSets 46 = .ok (.invokespecial 43, 3) := by decide +kernel
theorem dX6_readSets_49 : decode cX6_readSets 49 = .ok (.athrow, 1) := by decide +kernel
theorem dX6_readSets_50 : decode cX6_readSets 50 = .ok (.aload_n 0, 1) := by decide +kernel
theorem dX6_readSets_51 : decode cX6_readSets 51 = .ok (.aload_n 1, 1) := by decide +kernel
theorem dX6_readSets_52 : decode cX6_readSets 52 = .ok (.iload 4, 2) := by decide +kernel
theorem dX6_readSets_54 : decode cX6_readSets 54 = .ok (.invokevirtual 46, 3) := by decide +kernel
theorem dX6_readSets_57 : decode cX6_readSets 57 = .ok (.aload_n 0, 1) := by decide +kernel
theorem dX6_readSets_58 : decode cX6_readSets 58 = .ok (.aload_n 1, 1) := by decide +kernel
theorem dX6_readSets_59 : decode cX6_readSets 59 = .ok (.iload_n 2, 1) := by decide +kernel
theorem dX6_readSets_60 : decode cX6_readSets 60 = .ok (.iload_n 3, 1) := by decide +kernel
theorem dX6_readSets_61 : decode cX6_readSets 61 = .ok (.iadd, 1) := by decide +kernel
theorem dX6_readSets_62 : decode cX6_readSets 62 = .ok (.invokevirtual 50, 3) := by decide +kernel
theorem dX6_readSets_65 : decode cX6_readSets 65 = .ok (.aload_n 0, 1) := by decide +kernel
theorem dX6_readSets_66 : decode cX6_readSets 66 = .ok (.getfield 30, 3) := by decide +kernel
theorem dX6_readSets_69 : decode cX6_readSets 69 = .ok (.sipush 256, 3) := by decide +kernel
theorem dX6_readSets_72 : decode cX6_readSets 72 = .ok (.iaload, 1) := by decide +kernel
theorem dX6_readSets_73 : decode cX6_readSets 73 = .ok (.ifCond .ne 13, 3) := by decide +kernel
theorem dX6_readSets_76 : decode cX6_readSets 76 = .ok (.new 39, 3) := by decide +kernel
theorem dX6_readSets_79 : decode cX6_readSets 79 = .ok (.dup, 1) := by decide +kernel
theorem dX6_readSets_80 : decode cX6_readSets 80 = .ok (.ldc 53, 2) := by decide +kernel
theorem dX6_readSets_82 : decode cX6_readSets 82 = .ok (.invokespecial 43, 3) := by decide +kernel
theorem dX6_readSets_85 : decode cX6_readSets 85 = .ok (.athrow, 1) := by decide +kernel
theorem dX6_readSets_86 : decode cX6_readSets 86 = .ok (.aload_n 0, 1) := by decide +kernel
theorem dX6_readSets_87 : decode cX6_readSets 87 = .ok (.aload_n 0, 1) := by decide +kernel
theorem dX6_readSets_88 : decode cX6_readSets 88 = .ok (.getfield 14, 3) := by decide +kernel
theorem dX6_readSets_91 : decode cX6_readSets 91 = .ok (.iconst 0, 1) := by decide +kernel
theorem dX6_readSets_92 : decode cX6_readSets 92 = .ok (.iload_n 2, 1) := by decide +kernel
theorem dX6_readSets_93 : decode cX6_readSets 93 = .ok (.invokevirtual 55, 3) := by decide +kernel
theorem dX6_readSets_96 : decode cX6_readSets 96 = .ok (.aload_n 0, 1) := by decide +kernel
theorem dX6_readSets_97 : decode cX6_readSets 97 = .ok (.aload_n 0, 1) := by decide +kernel
theorem dX6_readSets_98 : decode cX6_readSets 98 = .ok (.getfield 20, 3) := by decide +kernel
theorem dX6_readSets_101 : decode cX6_readSets 101 = .ok (.iload_n 2, 1) := by decide +kernel
theorem dX6_readSets_102 : decode cX6_readSets 102 = .ok (.iload_n 3, 1) := by decide +kernel
theorem dX6_readSets_103 : decode cX6_readSets 103 = .ok (.invokevirtual 55, 3) := by decide +kernel
theorem dX6_readSets_106 : decode cX6_readSets 106 = .ok (.return_, 1) := by decide +kernel
set_option maxRecDepth 20000 in
theorem ggX6_readLengthCodes_X0_readBits : GoodIn wsX6_readLengthCodes wsX0_readBits := goodIn_ca (goodIn_r _ [7, 8, 9, 10, 6, 11, 12, 13, 14, 15, 16, 43, 44, 45] (by decide +kernel) (by decide +kernel)) (goodIn_sub (fun _ h => List.mem_cons_of_mem _ (List.mem_append_left _ (List.mem_append_right _ h))) (by decide +kernel))
set_option maxRecDepth 20000 in
theorem gX6_readLengthCodes_X0_readBits : GoodIn wsX6_readLengthCodes (wsV RX6 33 RX0 yX0_readBits wsX0_readBits) := goodIn_app (goodIn_of _ (by decide +kernel)) ggX6_readLengthCodes_X0_readBits
set_option maxRecDepth 20000 in
theorem ggX6_readLengthCodes_X6_learnAllowed : GoodIn wsX6_readLengthCodes wsX6_learnAllowed := goodIn_ca (goodIn_r _ [21, 22, 13, 1, 23, 24, 25, 26, 27, 28, 29, 30, 31, 32, 33, 34, 35, 36, 37, 38, 39, 40, 41, 42, 46, 47, 48] (by decide +kernel) (by decide +kernel)) (goodIn_sub (fun _ h => List.mem_cons_of_mem _ (List.mem_append_right _ h)) (by decide +kernel))
set_option maxRecDepth 20000 in
theorem gX6_readLengthCodes_X6_learnAllowed : GoodIn wsX6_readLengthCodes (wsV RX6 55 RX6 yX6_learnAllowed wsX6_learnAllowed) := goodIn_app (goodIn_of _ (by decide +kernel)) ggX6_readLengthCodes_X6_learnAllowed
theorem dX6_readLengthCodes_0 : decode cX6_readLengthCodes 0 = .ok (.iconst 0, 1) := by decide +kernel
theorem dX6_readLengthCodes_1 : decode cX6_readLengthCodes 1 = .ok (.istore_n 3, 1) := by decide +kernel
theorem dX6_readLengthCodes_2 : decode cX6_readLengthCodes 2 = .ok (.iload_n 3, 1) := by decide +kernel
theorem dX6_readLengthCodes_3 : decode cX6_readLengthCodes 3 = .ok (.getstatic 23, 3) := by decide +kernel
theorem dX6_readLengthCodes_6 : decode cX6_readLengthCodes 6 = .ok (.arraylength, 1) := by decide +kernel
theorem dX6_readLengthCodes_7 : decode cX6_readLengthCodes 7 = .ok (.if_icmp .ge 33, 3) := by decide +kernel
theorem dX6_readLengthCodes_10 : decode cX6_readLengthCodes 10 = .ok (.aload_n 0, 1) := by decide +kernel
theorem dX6_readLengthCodes_11 : decode cX6_readLengthCodes 11 = .ok (.getfield 30, 3) := by decide +kernel
theorem dX6_readLengthCodes_14 : decode cX6_readLengthCodes 14 = .ok (.getstatic 23, 3) := by decide +kernel
theorem dX6_readLengthCodes_17 : decode cX6_readLengthCodes 17 = .ok (.iload_n 3, 1) := by decide +kernel
theorem dX6_readLengthCodes_18 : decode cX6_readLengthCodes 18 = .ok (.iaload, 1) := by decide +kernel
theorem dX6_readLengthCodes_19 : decode cX6_readLengthCodes 19 = .ok (.iload_n 3, 1) := by decide +kernel
theorem dX6_readLengthCodes_20 : decode cX6_readLengthCodes 20 = .ok (.iload_n 2, 1) := by decide +kernel
theorem dX6_readLengthCodes_21 : decode cX6_readLengthCodes 21 = .ok (.if_icmp .ge 11, 3) := by decide +kernel
theorem dX6_readLengthCodes_24 : decode cX6_readLengthCodes 24 = .ok (.aload_n 1, 1) := by decide +kernel
theorem dX6_readLengthCodes_25 : decode cX6_readLengthCodes 25 = .ok (.iconst 3, 1) := by decide +kernel
theorem dX6_readLengthCodes_26 : decode cX6_readLengthCodes 26 = .ok (.invokevirtual 33, 3) := by decide +kernel
theorem dX6_readLengthCodes_29 : decode cX6_readLengthCodes 29 = .ok (.goto 4, 3) := by decide +kernel
theorem dX6_readLengthCodes_32 : decode cX6_readLengthCodes 32 = .ok (.iconst 0, 1) := by decide +kernel
theorem dX6_readLengthCodes_33 : decode cX6_readLengthCodes 33 = .ok (.iastore, 1) := by decide +kernel
theorem dX6_readLengthCodes_34 : decode cX6_readLengthCodes 34 = .ok (.iinc 3 1, 3) := by decide +kernel
theorem dX6_readLengthCodes_37 : decode cX6_readLengthCodes 37 = .ok (.goto (-35), 3) := by decide +kernel
theorem dX6_readLengthCodes_40 : decode cX6_readLengthCodes 40 = .ok (.aload_n 0, 1) := by decide +kernel
theorem dX6_readLengthCodes_41 : decode cX6_readLengthCodes 41 = .ok (.aload_n 0, 1) := by decide +kernel
theorem dX6_readLengthCodes_42 : decode cX6_readLengthCodes 42 = .ok (.getfield 27, 3) := by decide +kernel
theorem dX6_readLengthCodes_45 : decode cX6_readLengthCodes 45 = .ok (.iconst 0, 1) := by decide +kernel
theorem dX6_readLengthCodes_46 : decode cX6_readLengthCodes 46 = .ok (.getstatic 23, 3) := by decide +kernel
theorem dX6_readLengthCodes_49 : decode cX6_readLengthCodes 49 = .ok (.arraylength, 1) := by decide +kernel
theorem dX6_readLengthCodes_50 : decode cX6_readLengthCodes 50 = .ok (.invokevirtual 55, 3) := by decide +kernel
theorem dX6_readLengthCodes_53 : decode cX6_readLengthCodes 53 = .ok (.return_, 1) := by decide +kernel
set_option maxRecDepth 20000 in
theorem ggX6_readLengths_X2_readSymbol : GoodIn wsX6_readLengths wsX2_readSymbol := goodIn_ca (goodIn_ca (goodIn_r _ [7, 8, 9, 10, 11, 12, 13, 14, 15, 16, 17, 18, 19, 20, 36, 37, 38, 39, 40, 41] (by decide +kernel) (by decide +kernel)) (goodIn_sub (fun _ h => List.mem_cons_of_mem _ (List.mem_append_left _ (List.mem_append_left _ (List.mem_append_right _ h)))) (by decide +kernel))) (goodIn_sub (fun _ h => List.mem_cons_of_mem _ (List.mem_append_left _ (List.mem_append_right _ h))) (by decide +kernel))
set_option maxRecDepth 20000 in
theorem gX6_readLengths_X2_readSymbol : GoodIn wsX6_readLengths (wsV RX6 59 RX2 yX2_readSymbol wsX2_readSymbol) := goodIn_app (goodIn_of _ (by decide +kernel)) ggX6_readLengths_X2_readSymbol
set_option maxRecDepth 20000 in
theorem ggX6_readLengths_X0_readBits : GoodIn wsX6_readLengths wsX0_readBits := goodIn_ca (goodIn_r _ [24, 25, 13, 14, 15, 16, 17, 9, 18, 19, 20, 39, 40, 41] (by decide +kernel) (by decide +kernel)) (goodIn_sub (fun _ h => List.mem_cons_of_mem _ (List.mem_append_left _ (List.mem_append_right _ h))) (by decide +kernel))
set_option maxRecDepth 20000 in
theorem gX6_readLengths_X0_readBits : GoodIn wsX6_readLengths (wsV RX6 33 RX0 yX0_readBits wsX0_readBits) := goodIn_app (goodIn_of _ (by decide +kernel)) ggX6_readLengths_X0_readBits
set_option maxRecDepth 20000 in
theorem ggX6_readLengths_X6_repeatLength : GoodIn wsX6_readLengths wsX6_repeatLength := goodIn_ca (goodIn_r _ [30, 31, 9, 2, 32, 33, 34, 35] (by decide +kernel) (by decide +kernel)) (goodIn_sub (fun _ h => List.mem_cons_of_mem _ (List.mem_append_right _ h)) (by decide +kernel))
set_option maxRecDepth 20000 in
theorem gX6_readLengths_X6_repeatLength : GoodIn wsX6_readLengths (wsV RX6 69 RX6 yX6_repeatLength wsX6_repeatLength) := goodIn_app (goodIn_of _ (by decide +kernel)) ggX6_readLengths_X6_repeatLength
theorem dX6_readLengths_0 : decode cX6_readLengths 0 = .ok (.iconst 0, 1) := by decide +kernel
theorem dX6_readLengths_1 : decode cX6_readLengths 1 = .ok (.istore_n 3, 1) := by decide +kernel
theorem dX6_readLengths_2 : decode cX6_readLengths 2 = .ok (.iconst 0, 1) := by decide +kernel
theorem dX6_readLengths_3 : decode cX6_readLengths 3 = .ok (.istore 4, 2) := by decide +kernel
theorem dX6_readLengths_5 : decode cX6_readLengths 5 = .ok (.iload 4, 2) := by decide +kernel
theorem dX6_readLengths_7 : decode cX6_readLengths 7 = .ok (.iload_n 2, 1) := by decide +kernel
theorem dX6_readLengths_8 : decode cX6_readLengths 8 = .ok (.if_icmp .ge 96, 3) := by decide +kernel
theorem dX6_readLengths_11 : decode cX6_readLengths 11 = .ok (.iload_n 3, 1) := by decide +kernel
theorem dX6_readLengths_12 : decode cX6_readLengths 12 = .ok (.iload_n 2, 1) := by decide +kernel
theorem dX6_readLengths_13 : decode cX6_readLengths 13 = .ok (.if_icmp .ge 91, 3) := by decide +kernel
theorem dX6_readLengths_16 : decode cX6_readLengths 16 = .ok (.aload_n 0, 1) := by decide +kernel
theorem dX6_readLengths_17 : decode cX6_readLengths 17 = .ok (.getfield 27, 3) := by decide +kernel
theorem dX6_readLengths_20 : decode cX6_readLengths 20 = .ok (.aload_n 1, 1) := by decide +kernel
theorem dX6_readLengths_21 : decode cX6_readLengths 21 = .ok (.invokevirtual 59, 3) := by decide +kernel
theorem dX6_readLengths_24 : decode cX6_readLengths 24 = .ok (.istore 5, 2) := by decide +kernel
theorem dX6_readLengths_26 : decode cX6_readLengths 26 = .ok (.iload 5, 2) := by decide +kernel
theorem dX6_readLengths_28 : decode cX6_readLengths 28 = .ok (.bipush 16, 2) := by decide +kernel
theorem dX6_readLengths_30 : decode cX6_readLengths 30 = .ok (.if_icmp .ge 17, 3) := by decide +kernel
theorem dX6_readLengths_33 : decode cX6_readLengths 33 = .ok (.aload_n 0, 1) := by decide +kernel
theorem dX6_readLengths_34 : decode cX6_readLengths 34 = .ok (.getfield 30, 3) := by decide +kernel
theorem dX6_readLengths_37 : decode cX6_readLengths 37 = .ok (.iload_n 3, 1) := by decide +kernel
theorem dX6_readLengths_38 : decode cX6_readLengths 38 = .ok (.iload 5, 2) := by decide +kernel
theorem dX6_readLengths_40 : decode cX6_readLengths 40 = .ok (.iastore, 1) := by decide +kernel
theorem dX6_readLengths_41 : decode cX6_readLengths 41 = .ok (.iinc 3 1, 3) := by decide +kernel
theorem dX6_readLengths_44 : decode cX6_readLengths 44 = .ok (.goto 54, 3) := by decide +kernel
theorem dX6_readLengths_47 : decode cX6_readLengths 47 = .ok (.iload 5, 2) := by decide +kernel
theorem dX6_readLengths_49 : decode cX6_readLengths 49 = .ok (.bipush 16, 2) := by decide +kernel
theorem dX6_readLengths_51 : decode cX6_readLengths 51 = .ok (.isub, 1) := by decide +kernel
theorem dX6_readLengths_52 : decode cX6_readLengths 52 = .ok (.istore 6, 2) := by decide +kernel
theorem dX6_readLengths_54 : decode cX6_readLengths 54 = .ok (.getstatic 63, 3) := by decide +kernel
theorem dX6_readLengths_57 : decode cX6_readLengths 57 = .ok (.iload 6, 2) := by decide +kernel
theorem dX6_readLengths_59 : decode cX6_readLengths 59 = .ok (.iaload, 1) := by decide +kernel
theorem dX6_readLengths_60 : decode cX6_readLengths 60 = .ok (.aload_n 1, 1) := by decide +kernel
theorem dX6_readLengths_61 : decode cX6_readLengths 61 = .ok (.getstatic 66, 3) := by decide +kernel
theorem dX6_readLengths_64 : decode cX6_readLengths 64 = .ok (.iload 6, 2) := by decide +kernel
theorem dX6_readLengths_66 : decode cX6_readLengths 66 = .ok (.iaload, 1) := by decide +kernel
theorem dX6_readLengths_67 : decode cX6_readLengths 67 = .ok (.invokevirtual 33, 3) := by decide +kernel
theorem dX6_readLengths_70 : decode cX6_readLengths 70 = .ok (.iadd, 1) := by decide +kernel
theorem dX6_readLengths_71 : decode cX6_readLengths 71 = .ok (.istore 7, 2) := by decide +kernel
theorem dX6_readLengths_73 : decode cX6_readLengths 73 = .ok (.aload_n 0, 1) := by decide +kernel
theorem dX6_readLengths_74 : decode cX6_readLengths 74 = .ok (.iload 5, 2) := by decide +kernel
theorem dX6_readLengths_76 : decode cX6_readLengths 76 = .ok (.bipush 16, 2) := by decide +kernel
theorem dX6_readLengths_78 : decode cX6_readLengths 78 = .ok (.if_icmp .ne 7, 3) := by decide +kernel
theorem dX6_readLengths_81 : decode cX6_readLengths 81 = .ok (.iconst 1, 1) := by decide +kernel
theorem dX6_readLengths_82 : decode cX6_readLengths 82 = .ok (.goto 4, 3) := by decide +kernel
theorem dX6_readLengths_85 : decode cX6_readLengths 85 = .ok (.iconst 0, 1) := by decide +kernel
theorem dX6_readLengths_86 : decode cX6_readLengths 86 = .ok (.iload_n 3, 1) := by decide +kernel
theorem dX6_readLengths_87 : decode cX6_readLengths 87 = .ok (.iload 7, 2) := by decide +kernel
theorem dX6_readLengths_89 : decode cX6_readLengths 89 = .ok (.iload_n 2, 1) := by decide +kernel
theorem dX6_readLengths_90 : decode cX6_readLengths 90 = .ok (.invokevirtual 69, 3) := by decide +kernel
theorem dX6_readLengths_93 : decode cX6_readLengths 93 = .ok (.iload_n 3, 1) := by decide +kernel
theorem dX6_readLengths_94 : decode cX6_readLengths 94 = .ok (.iload 7, 2) := by decide +kernel
theorem dX6_readLengths_96 : decode cX6_readLengths 96 = .ok (.iadd, 1) := by decide +kernel
theorem dX6_readLengths_97 : decode cX6_readLengths 97 = .ok (.istore_n 3, 1) := by decide +kernel
theorem dX6_readLengths_98 : decode cX6_readLengths 98 = .ok (.iinc 4 1, 3) := by decide +kernel
theorem dX6_readLengths_101 : decode cX6_readLengths 101 = .ok (.goto (-96), 3) := by decide +kernel
theorem dX6_readLengths_104 : decode cX6_readLengths 104 = .ok (.return_, 1) := by decide +kernel
theorem dX6_repeatLength_0 : decode cX6_repeatLength 0 = .ok (.iload_n 1, 1) := by decide +kernel
theorem dX6_repeatLength_1 : decode cX6_repeatLength 1 = .ok (.ifCond .eq 17, 3) := by decide +kernel
theorem dX6_repeatLength_4 : decode cX6_repeatLength 4 = .ok (.iload_n 2, 1) := by decide +kernel
theorem dX6_repeatLength_5 : decode cX6_repeatLength 5 = .ok (.ifCond .ne 13, 3) := by decide +kernel
theorem dX6_repeatLength_8 : decode cX6_repeatLength 8 = .ok (.new 39, 3) := by decide +kernel
theorem dX6_repeatLength_11 : decode cX6_repeatLength 11 = .ok (.dup, 1) := by decide +kernel
theorem dX6_repeatLength_12 : decode cX6_repeatLength 12 = .ok (.ldc 73, 2) := by decide +kernel
theorem dX6_repeatLength_14 : decode cX6_repeatLength 14 = .ok (.invokespecial 43, 3) := by decide +kernel
theorem dX6_repeatLength_17 : decode cX6_repeatLength 17 = .ok (.athrow, 1) := by decide +kernel
theorem dX6_repeatLength_18 : decode cX6_repeatLength 18 = .ok (.iload_n 3, 1) := by decide +kernel
theorem dX6_repeatLength_19 : decode cX6_repeatLength 19 = .ok (.iload 4, 2) := by decide +kernel
theorem dX6_repeatLength_21 : decode cX6_repeatLength 21 = .ok (.iload_n 2, 1) := by decide +kernel
theorem dX6_repeatLength_22 : decode cX6_repeatLength 22 = .ok (.isub, 1) := by decide +kernel
theorem dX6_repeatLength_23 : decode cX6_repeatLength 23 = .ok (.if_icmp .le 13, 3) := by decide +kernel
theorem dX6_repeatLength_26 : decode cX6_repeatLength 26 = .ok (.new 39, 3) := by decide +kernel
theorem dX6_repeatLength_29 : decode cX6_repeatLength 29 = .ok (.dup, 1) := by decide +kernel
theorem dX6_repeatLength_30 : decode cX6_repeatLength 30 = .ok (.ldc 75, 2) := by decide +kernel
theorem dX6_repeatLength_32 : decode cX6_repeatLength 32 = .ok (.invokespecial 43, 3) := by decide +kernel
theorem dX6_repeatLength_35 : decode cX6_repeatLength 35 = .ok (.athrow, 1) := by decide +kernel
theorem dX6_repeatLength_36 : decode cX6_repeatLength 36 = .ok (.iload_n 1, 1) := by decide +kernel
theorem dX6_repeatLength_37 : decode cX6_repeatLength 37 = .ok (.ifCond .eq 14, 3) := by decide +kernel
theorem dX6_repeatLength_40 : decode cX6_repeatLength 40 = .ok (.aload_n 0, 1) := by decide +kernel
theorem dX6_repeatLength_41 : decode cX6_repeatLength 41 = .ok (.getfield 30, 3) := by decide +kernel
theorem dX6_repeatLength_44 : decode cX6_repeatLength 44 = .ok (.iload_n 2, 1) := by decide +kernel
theorem dX6_repeatLength_45 : decode cX6_repeatLength 45 = .ok (.iconst 1, 1) := by decide +kernel
theorem dX6_repeatLength_46 : decode cX6_repeatLength 46 = .ok (.isub, 1) := by decide +kernel
theorem dX6_repeatLength_47 : decode cX6_repeatLength 47 = .ok (.iaload, 1) := by decide +kernel
theorem dX6_repeatLength_48 : decode cX6_repeatLength 48 = .ok (.goto 4, 3) := by decide +kernel
theorem dX6_repeatLength_51 : decode cX6_repeatLength 51 = .ok (.iconst 0, 1) := by decide +kernel
theorem dX6_repeatLength_52 : decode cX6_repeatLength 52 = .ok (.istore 5, 2) := by decide +kernel
theorem dX6_repeatLength_54 : decode cX6_repeatLength 54 = .ok (.iload_n 2, 1) := by decide +kernel
theorem dX6_repeatLength_55 : decode cX6_repeatLength 55 = .ok (.istore 6, 2) := by decide +kernel
theorem dX6_repeatLength_57 : decode cX6_repeatLength 57 = .ok (.iload 6, 2) := by decide +kernel
theorem dX6_repeatLength_59 : decode cX6_repeatLength 59 = .ok (.iload_n 2, 1) := by decide +kernel
theorem dX6_repeatLength_60 : decode cX6_repeatLength 60 = .ok (.iload_n 3, 1) := by decide +kernel
theorem dX6_repeatLength_61 : decode cX6_repeatLength 61 = .ok (.iadd, 1) := by decide +kernel
theorem dX6_repeatLength_62 : decode cX6_repeatLength 62 = .ok (.if_icmp .ge 18, 3) := by decide +kernel
theorem dX6_repeatLength_65 : decode cX6_repeatLength 65 = .ok (.aload_n 0, 1) := by decide +kernel
theorem dX6_repeatLength_66 : decode cX6_repeatLength 66 = .ok (.getfield 30, 3) := by decide +kernel
theorem dX6_repeatLength_69 : decode cX6_repeatLength 69 = .ok (.iload 6, 2) := by decide +kernel
theorem dX6_repeatLength_71 : decode cX6_repeatLength 71 = .ok (.iload 5, 2) := by decide +kernel
theorem dX6_repeatLength_73 : decode cX6_repeatLength 73 = .ok (.iastore, 1) := by decide +kernel
theorem dX6_repeatLength_74 : decode cX6_repeatLength 74 = .ok (.iinc 6 1, 3) := by decide +kernel
theorem dX6_repeatLength_77 : decode cX6_repeatLength 77 = .ok (.goto (-20), 3) := by decide +kernel
theorem dX6_repeatLength_80 : decode cX6_repeatLength 80 = .ok (.return_, 1) := by decide +kernel
set_option maxRecDepth 20000 in
theorem ggX6_learnAllowed_X2_learn : GoodIn wsX6_learnAllowed wsX2_learn := goodIn_r _ [8, 9, 10, 11, 12, 7, 13, 14, 15, 24, 25, 26] (by decide +kernel) (by decide +kernel)
set_option maxRecDepth 20000 in
theorem gX6_learnAllowed_X2_learn : GoodIn wsX6_learnAllowed (wsV RX6 77 RX2 yX2_learn wsX2_learn) := goodIn_app (goodIn_of _ (by decide +kernel)) ggX6_learnAllowed_X2_learn
set_option maxRecDepth 20000 in
theorem ggX6_learnAllowed_X2_isAllowed : GoodIn wsX6_learnAllowed wsX2_isAllowed := goodIn_r _ [19, 9, 24, 25, 26] (by decide +kernel) (by decide +kernel)
set_option maxRecDepth 20000 in
theorem gX6_learnAllowed_X2_isAllowed : GoodIn wsX6_learnAllowed (wsV RX6 81 RX2 yX2_isAllowed wsX2_isAllowed) := goodIn_app (goodIn_of _ (by decide +kernel)) ggX6_learnAllowed_X2_isAllowed
theorem dX6_learnAllowed_0 : decode cX6_learnAllowed 0 = .ok (.aload_n 1, 1) := by decide +kernel
theorem dX6_learnAllowed_1 : decode cX6_learnAllowed 1 = .ok (.aload_n 0, 1) := by decide +kernel
theorem dX6_learnAllowed_2 : decode cX6_learnAllowed 2 = .ok (.getfield 30, 3) := by decide +kernel
theorem dX6_learnAllowed_5 : decode cX6_learnAllowed 5 = .ok (.iload_n 2, 1) := by decide +kernel
theorem dX6_learnAllowed_6 : decode cX6_learnAllowed 6 = .ok (.iload_n 3, 1) := by decide +kernel
theorem dX6_learnAllowed_7 : decode cX6_learnAllowed 7 = .ok (.invokevirtual 77, 3) := by decide +kernel
theorem dX6_learnAllowed_10 : decode cX6_learnAllowed 10 = .ok (.aload_n 1, 1) := by decide +kernel
theorem dX6_learnAllowed_11 : decode cX6_learnAllowed 11 = .ok (.invokevirtual 81, 3) := by decide +kernel
theorem dX6_learnAllowed_14 : decode cX6_learnAllowed 14 = .ok (.ifCond .ne 13, 3) := by decide +kernel
theorem dX6_learnAllowed_17 : decode cX6_learnAllowed 17 = .ok (.new 39, 3) := by decide +kernel
theorem dX6_learnAllowed_20 : decode cX6_learnAllowed 20 = .ok (.dup, 1) := by decide +kernel
theorem dX6_learnAllowed_21 : decode cX6_learnAllowed 21 = .ok (.ldc 85, 2) := by decide +kernel
theorem dX6_learnAllowed_23 : decode cX6_learnAllowed 23 = .ok (.invokespecial 43, 3) := by decide +kernel
theorem dX6_learnAllowed_26 : decode cX6_learnAllowed 26 = .ok (.athrow, 1) := by decide +kernel
theorem dX6_learnAllowed_27 : decode cX6_learnAllowed 27 = .ok (.return_, 1) := by decide +kernel
set_option maxRecDepth 20000 in
theorem ggX7_init_X5_init : GoodIn wsX7_init wsX5_init := goodIn_r _ [17, 18, 2, 3, 19, 20, 21, 22, 23, 24, 25, 26, 27, 28, 29, 30, 31, 32, 33, 34, 35, 96, 97, 98, 99, 87, 88, 100, 101, 102, 103, 104] (by decide +kernel) (by decide +kernel)
set_option maxRecDepth 20000 in
theorem gX7_init_X5_init_n21 : GoodIn wsX7_init (wsX5_init) := ggX7_init_X5_init
set_option maxRecDepth 20000 in
theorem ggX7_init_X4_init : GoodIn wsX7_init wsX4_init := goodIn_r _ [38, 39, 2, 3, 40, 41, 42, 43, 44, 45, 46, 47, 48, 49, 50, 51, 52, 33, 53, 54, 55, 56, 57, 58, 59, 60, 61, 62, 63, 64, 65, 66, 67, 68, 69, 70, 71, 72, 73, 74, 75, 76, 77, 78, 79, 105, 106, 107, 89, 90, 91, 92, 93, 94, 95, 108, 109, 110, 111, 112, 113, 114] (by decide +kernel) (by decide +kernel)
set_option maxRecDepth 20000 in
theorem gX7_init_X4_init : GoodIn wsX7_init (wsX4_init) := ggX7_init_X4_init
theorem dX7_init_0 : decode cX7_init 0 = .ok (.aload_n 0, 1) := by decide +kernel
theorem dX7_init_1 : decode cX7_init 1 = .ok (.invokespecial 3, 3) := by decide +kernel
theorem dX7_init_4 : decode cX7_init 4 = .ok (.aload_n 0, 1) := by decide +kernel
theorem dX7_init_5 : decode cX7_init 5 = .ok (.sipush 4000, 3) := by decide +kernel
theorem dX7_init_8 : decode cX7_init 8 = .ok (.newarray .byte, 2) := by decide +kernel
theorem dX7_init_10 : decode cX7_init 10 = .ok (.putfield 9, 3) := by decide +kernel
theorem dX7_init_13 : decode cX7_init 13 = .ok (.aload_n 0, 1) := by decide +kernel
theorem dX7_init_14 : decode cX7_init 14 = .ok (.sipush 8192, 3) := by decide +kernel
theorem dX7_init_17 : decode cX7_init 17 = .ok (.newarray .byte, 2) := by decide +kernel
theorem dX7_init_19 : decode cX7_init 19 = .ok (.putfield 13, 3) := by decide +kernel
theorem dX7_init_22 : decode cX7_init 22 = .ok (.aload_n 0, 1) := by decide +kernel
theorem dX7_init_23 : decode cX7_init 23 = .ok (.sipush 8192, 3) := by decide +kernel
theorem dX7_init_26 : decode cX7_init 26 = .ok (.newarray .byte, 2) := by decide +kernel
theorem dX7_init_28 : decode cX7_init 28 = .ok (.putfield 16, 3) := by decide +kernel
theorem dX7_init_31 : decode cX7_init 31 = .ok (.aload_n 0, 1) := by decide +kernel
theorem dX7_init_32 : decode cX7_init 32 = .ok (.new 19, 3) := by decide +kernel
theorem dX7_init_35 : decode cX7_init 35 = .ok (.dup, 1) := by decide +kernel
theorem dX7_init_36 : decode cX7_init 36 = .ok (.invokespecial 21, 3) := by decide +kernel
theorem dX7_init_39 : decode cX7_init 39 = .ok (.putfield 22, 3) := by decide +kernel
theorem dX7_init_42 : decode cX7_init 42 = .ok (.aload_n 0, 1) := by decide +kernel
theorem dX7_init_43 : decode cX7_init 43 = .ok (.new 26, 3) := by decide +kernel
theorem dX7_init_46 : decode cX7_init 46 = .ok (.dup, 1) := by decide +kernel
theorem dX7_init_47 : decode cX7_init 47 = .ok (.invokespecial 28, 3) := by decide +kernel
theorem dX7_init_50 : decode cX7_init 50 = .ok (.putfield 29, 3) := by decide +kernel
theorem dX7_init_53 : decode cX7_init 53 = .ok (.return_, 1) := by decide +kernel
set_option maxRecDepth 20000 in
theorem ggX7_feed_X7_needRoom : GoodIn wsX7_feed wsX7_needRoom := goodIn_ca (goodIn_r _ [6, 7, 8, 1, 18, 19, 20, 21, 22, 23, 24] (by decide +kernel) (by decide +kernel)) (goodIn_sub (fun _ h => List.mem_cons_of_mem _ (List.mem_append_right _ h)) (by decide +kernel))
set_option maxRecDepth 20000 in
theorem gX7_feed_X7_needRoom : GoodIn wsX7_feed (wsV RX7 33 RX7 yX7_needRoom wsX7_needRoom) := goodIn_app (goodIn_of _ (by decide +kernel)) ggX7_feed_X7_needRoom
set_option maxRecDepth 20000 in
theorem ggX7_feed_X7_appendInt : GoodIn wsX7_feed wsX7_appendInt := goodIn_r _ [12, 13, 14, 15, 5, 16, 17, 1, 18, 19, 20, 21, 22, 23, 24] (by decide +kernel) (by decide +kernel)
set_option maxRecDepth 20000 in
theorem gX7_feed_X7_appendInt : GoodIn wsX7_feed (wsV RX7 37 RX7 yX7_appendInt wsX7_appendInt) := goodIn_app (goodIn_of _ (by decide +kernel)) ggX7_feed_X7_appendInt
theorem dX7_feed_0 : decode cX7_feed 0 = .ok (.aload_n 0, 1) := by decide +kernel
theorem dX7_feed_1 : decode cX7_feed 1 = .ok (.bipush 20, 2) := by decide +kernel
theorem dX7_feed_3 : decode cX7_feed 3 = .ok (.invokevirtual 33, 3) := by decide +kernel
theorem dX7_feed_6 : decode cX7_feed 6 = .ok (.aload_n 0, 1) := by decide +kernel
theorem dX7_feed_7 : decode cX7_feed 7 = .ok (.iload_n 1, 1) := by decide +kernel
theorem dX7_feed_8 : decode cX7_feed 8 = .ok (.invokevirtual 37, 3) := by decide +kernel
theorem dX7_feed_11 : decode cX7_feed 11 = .ok (.aload_n 0, 1) := by decide +kernel
theorem dX7_feed_12 : decode cX7_feed 12 = .ok (.iload_n 2, 1) := by decide +kernel
theorem dX7_feed_13 : decode cX7_feed 13 = .ok (.invokevirtual 37, 3) := by decide +kernel
theorem dX7_feed_16 : decode cX7_feed 16 = .ok (.aload_n 0, 1) := by decide +kernel
theorem dX7_feed_17 : decode cX7_feed 17 = .ok (.iload_n 3, 1) := by decide +kernel
theorem dX7_feed_18 : decode cX7_feed 18 = .ok (.invokevirtual 37, 3) := by decide +kernel
theorem dX7_feed_21 : decode cX7_feed 21 = .ok (.aload_n 0, 1) := by decide +kernel
theorem dX7_feed_22 : decode cX7_feed 22 = .ok (.iload 4, 2) := by decide +kernel
theorem dX7_feed_24 : decode cX7_feed 24 = .ok (.invokevirtual 37, 3) := by decide +kernel
theorem dX7_feed_27 : decode cX7_feed 27 = .ok (.aload_n 0, 1) := by decide +kernel
theorem dX7_feed_28 : decode cX7_feed 28 = .ok (.iload 5, 2) := by decide +kernel
theorem dX7_feed_30 : decode cX7_feed 30 = .ok (.invokevirtual 37, 3) := by decide +kernel
theorem dX7_feed_33 : decode cX7_feed 33 = .ok (.aload_n 0, 1) := by decide +kernel
theorem dX7_feed_34 : decode cX7_feed 34 = .ok (.getfield 40, 3) := by decide +kernel
theorem dX7_feed_37 : decode cX7_feed 37 = .ok (.ireturn, 1) := by decide +kernel
set_option maxRecDepth 20000 in
theorem ggX7_end_X7_needRange : GoodIn wsX7_end wsX7_needRange := goodIn_ca (goodIn_r _ [5, 6, 7] (by decide +kernel) (by decide +kernel)) (goodIn_sub (fun _ h => List.mem_cons_of_mem _ (List.mem_append_right _ h)) (by decide +kernel))
set_option maxRecDepth 20000 in
theorem gX7_end_X7_needRange : GoodIn wsX7_end (va_wsS RX7 44 yX7_needRange wsX7_needRange) := goodIn_app (goodIn_of _ (by decide +kernel)) ggX7_end_X7_needRange
theorem dX7_end_0 : decode cX7_end 0 = .ok (.iload_n 1, 1) := by decide +kernel
theorem dX7_end_1 : decode cX7_end 1 = .ok (.iconst 0, 1) := by decide +kernel
theorem dX7_end_2 : decode cX7_end 2 = .ok (.aload_n 0, 1) := by decide +kernel
theorem dX7_end_3 : decode cX7_end 3 = .ok (.getfield 40, 3) := by decide +kernel
theorem dX7_end_6 : decode cX7_end 6 = .ok (.invokestatic 44, 3) := by decide +kernel
theorem dX7_end_9 : decode cX7_end 9 = .ok (.aload_n 0, 1) := by decide +kernel
theorem dX7_end_10 : decode cX7_end 10 = .ok (.iload_n 1, 1) := by decide +kernel
theorem dX7_end_11 : decode cX7_end 11 = .ok (.putfield 40, 3) := by decide +kernel
theorem dX7_end_14 : decode cX7_end 14 = .ok (.iload_n 1, 1) := by decide +kernel
theorem dX7_end_15 : decode cX7_end 15 = .ok (.ireturn, 1) := by decide +kernel
set_option maxRecDepth 20000 in
theorem ggX7_fill_X7_needRange : GoodIn wsX7_fill wsX7_needRange := goodIn_ca (goodIn_r _ [6, 7, 8] (by decide +kernel) (by decide +kernel)) (goodIn_sub (fun _ h => List.mem_cons_of_mem _ (List.mem_append_left _ (List.mem_append_right _ h))) (by decide +kernel))
set_option maxRecDepth 20000 in
theorem gX7_fill_X7_needRange : GoodIn wsX7_fill (va_wsS RX7 44 yX7_needRange wsX7_needRange) := goodIn_app (goodIn_of _ (by decide +kernel)) ggX7_fill_X7_needRange
set_option maxRecDepth 20000 in
theorem ggX7_fill_X7_needRoom : GoodIn wsX7_fill wsX7_needRoom := goodIn_ca (goodIn_r _ [12, 13, 14, 2, 20, 21, 22, 23, 24, 25, 26] (by decide +kernel) (by decide +kernel)) (goodIn_sub (fun _ h => List.mem_cons_of_mem _ (List.mem_append_right _ h)) (by decide +kernel))
set_option maxRecDepth 20000 in
theorem gX7_fill_X7_needRoom : GoodIn wsX7_fill (wsV RX7 33 RX7 yX7_needRoom wsX7_needRoom) := goodIn_app (goodIn_of _ (by decide +kernel)) ggX7_fill_X7_needRoom
set_option maxRecDepth 20000 in
theorem ggX7_fill_X7_appendByte : GoodIn wsX7_fill wsX7_appendByte := goodIn_r _ [18, 19, 2, 20, 21, 22, 23, 24, 25, 26] (by decide +kernel) (by decide +kernel)
set_option maxRecDepth 20000 in
theorem gX7_fill_X7_appendByte : GoodIn wsX7_fill (wsV RX7 49 RX7 yX7_appendByte wsX7_appendByte) := goodIn_app (goodIn_of _ (by decide +kernel)) ggX7_fill_X7_appendByte
theorem dX7_fill_0 : decode cX7_fill 0 = .ok (.iload_n 2, 1) := by decide +kernel
theorem dX7_fill_1 : decode cX7_fill 1 = .ok (.iconst 1, 1) := by decide +kernel
theorem dX7_fill_2 : decode cX7_fill 2 = .ok (.sipush 256, 3) := by decide +kernel
theorem dX7_fill_5 : decode cX7_fill 5 = .ok (.invokestatic 44, 3) := by decide +kernel
theorem dX7_fill_8 : decode cX7_fill 8 = .ok (.iload_n 3, 1) := by decide +kernel
theorem dX7_fill_9 : decode cX7_fill 9 = .ok (.iconst 0, 1) := by decide +kernel
theorem dX7_fill_10 : decode cX7_fill 10 = .ok (.sipush 4000, 3) := by decide +kernel
theorem dX7_fill_13 : decode cX7_fill 13 = .ok (.invokestatic 44, 3) := by decide +kernel
theorem dX7_fill_16 : decode cX7_fill 16 = .ok (.aload_n 0, 1) := by decide +kernel
theorem dX7_fill_17 : decode cX7_fill 17 = .ok (.iload_n 3, 1) := by decide +kernel
theorem dX7_fill_18 : decode cX7_fill 18 = .ok (.invokevirtual 33, 3) := by decide +kernel
theorem dX7_fill_21 : decode cX7_fill 21 = .ok (.iload_n 1, 1) := by decide +kernel
theorem dX7_fill_22 : decode cX7_fill 22 = .ok (.istore 4, 2) := by decide +kernel
theorem dX7_fill_24 : decode cX7_fill 24 = .ok (.iconst 0, 1) := by decide +kernel
theorem dX7_fill_25 : decode cX7_fill 25 = .ok (.istore 5, 2) := by decide +kernel
theorem dX7_fill_27 : decode cX7_fill 27 = .ok (.iload 5, 2) := by decide +kernel
theorem dX7_fill_29 : decode cX7_fill 29 = .ok (.iload_n 3, 1) := by decide +kernel
theorem dX7_fill_30 : decode cX7_fill 30 = .ok (.if_icmp .ge 31, 3) := by decide +kernel
theorem dX7_fill_33 : decode cX7_fill 33 = .ok (.iload 4, 2) := by decide +kernel
theorem dX7_fill_35 : decode cX7_fill 35 = .ok (.ldc 48, 2) := by decide +kernel
theorem dX7_fill_37 : decode cX7_fill 37 = .ok (.imul, 1) := by decide +kernel
theorem dX7_fill_38 : decode cX7_fill 38 = .ok (.sipush 12345, 3) := by decide +kernel
theorem dX7_fill_41 : decode cX7_fill 41 = .ok (.iadd, 1) := by decide +kernel
theorem dX7_fill_42 : decode cX7_fill 42 = .ok (.istore 4, 2) := by decide +kernel
theorem dX7_fill_44 : decode cX7_fill 44 = .ok (.aload_n 0, 1) := by decide +kernel
theorem dX7_fill_45 : decode cX7_fill 45 = .ok (.iload 4, 2) := by decide +kernel
theorem dX7_fill_47 : decode cX7_fill 47 = .ok (.bipush 16, 2) := by decide +kernel
theorem dX7_fill_49 : decode cX7_fill 49 = .ok (.iushr, 1) := by decide +kernel
theorem dX7_fill_50 : decode cX7_fill 50 = .ok (.iload_n 2, 1) := by decide +kernel
theorem dX7_fill_51 : decode cX7_fill 51 = .ok (.irem, 1) := by decide +kernel
theorem dX7_fill_52 : decode cX7_fill 52 = .ok (.invokevirtual 49, 3) := by decide +kernel
theorem dX7_fill_55 : decode cX7_fill 55 = .ok (.iinc 5 1, 3) := by decide +kernel
theorem dX7_fill_58 : decode cX7_fill 58 = .ok (.goto (-31), 3) := by decide +kernel
theorem dX7_fill_61 : decode cX7_fill 61 = .ok (.aload_n 0, 1) := by decide +kernel
theorem dX7_fill_62 : decode cX7_fill 62 = .ok (.getfield 40, 3) := by decide +kernel
theorem dX7_fill_65 : decode cX7_fill 65 = .ok (.ireturn, 1) := by decide +kernel
set_option maxRecDepth 20000 in
theorem ggX7_pack_X5_write : GoodIn wsX7_pack wsX5_write := goodIn_r _ [10, 11, 12, 13, 14, 15, 16, 17, 18, 19, 20, 21, 22, 23, 9, 24, 25, 26, 27, 28, 29, 30, 31, 32, 33, 34, 35, 36, 37, 38, 39, 40, 41, 42, 43, 44, 45, 46, 47, 48, 49, 50, 51, 52, 53, 54, 55, 56, 57, 58, 59, 60, 61, 62, 63, 64, 65, 66, 67, 68, 69, 70, 71, 72, 73, 74, 75, 76, 77, 78, 79, 80, 81, 82, 83, 84, 85, 86, 87, 88, 89, 90, 91, 92, 93, 94, 95, 103, 104, 105, 106, 107, 108, 109, 110, 111, 112, 113] (by decide +kernel) (by decide +kernel)
set_option maxRecDepth 20000 in
theorem gX7_pack_X5_write : GoodIn wsX7_pack (wsV RX7 52 RX5 yX5_write wsX5_write) := goodIn_app (goodIn_of _ (by decide +kernel)) ggX7_pack_X5_write
theorem dX7_pack_0 : decode cX7_pack 0 = .ok (.aload_n 0, 1) := by decide +kernel
theorem dX7_pack_1 : decode cX7_pack 1 = .ok (.aload_n 0, 1) := by decide +kernel
theorem dX7_pack_2 : decode cX7_pack 2 = .ok (.getfield 22, 3) := by decide +kernel
theorem dX7_pack_5 : decode cX7_pack 5 = .ok (.aload_n 0, 1) := by decide +kernel
theorem dX7_pack_6 : decode cX7_pack 6 = .ok (.getfield 9, 3) := by decide +kernel
theorem dX7_pack_9 : decode cX7_pack 9 = .ok (.aload_n 0, 1) := by decide +kernel
theorem dX7_pack_10 : decode cX7_pack 10 = .ok (.getfield 40, 3) := by decide +kernel
theorem dX7_pack_13 : decode cX7_pack 13 = .ok (.aload_n 0, 1) := by decide +kernel
theorem dX7_pack_14 : decode cX7_pack 14 = .ok (.getfield 13, 3) := by decide +kernel
theorem dX7_pack_17 : decode cX7_pack 17 = .ok (.invokevirtual 52, 3) := by decide +kernel
theorem dX7_pack_20 : decode cX7_pack 20 = .ok (.putfield 56, 3) := by decide +kernel
theorem dX7_pack_23 : decode cX7_pack 23 = .ok (.aload_n 0, 1) := by decide +kernel
theorem dX7_pack_24 : decode cX7_pack 24 = .ok (.iconst 0, 1) := by decide +kernel
theorem dX7_pack_25 : decode cX7_pack 25 = .ok (.putfield 40, 3) := by decide +kernel
theorem dX7_pack_28 : decode cX7_pack 28 = .ok (.aload_n 0, 1) := by decide +kernel
theorem dX7_pack_29 : decode cX7_pack 29 = .ok (.getfield 56, 3) := by decide +kernel
theorem dX7_pack_32 : decode cX7_pack 32 = .ok (.ireturn, 1) := by decide +kernel
set_option maxRecDepth 20000 in
theorem ggX7_open_X7_needRange : GoodIn wsX7_open wsX7_needRange := goodIn_ca (goodIn_r _ [10, 11, 12] (by decide +kernel) (by decide +kernel)) (goodIn_sub (fun _ h => List.mem_cons_of_mem _ (List.mem_append_left _ (List.mem_append_left _ (List.mem_append_left _ (List.mem_append_left _ (List.mem_append_right _ h)))))) (by decide +kernel))
set_option maxRecDepth 20000 in
theorem gX7_open_X7_needRange : GoodIn wsX7_open (va_wsS RX7 44 yX7_needRange wsX7_needRange) := goodIn_app (goodIn_of _ (by decide +kernel)) ggX7_open_X7_needRange
set_option maxRecDepth 20000 in
theorem ggX7_open_X4_read : GoodIn wsX7_open wsX4_read := goodIn_ca (goodIn_ca (goodIn_ca (goodIn_ca (goodIn_r _ [17, 18, 19, 20, 21, 22, 23, 24, 25, 26, 27, 28, 29, 30, 31, 32, 33, 34, 16, 35, 36, 37, 38, 39, 40, 41, 42, 43, 44, 45, 46, 47, 48, 49, 50, 51, 52, 53, 54, 55, 56, 57, 58, 59, 60, 61, 62, 63, 64, 65, 66, 67, 68, 69, 70, 71, 72, 73, 74, 75, 76, 77, 78, 79, 80, 81, 82, 83, 84, 85, 86, 87, 88, 89, 90, 91, 92, 93, 94, 95, 96, 97, 98, 99, 100, 101, 102, 103, 104, 105, 106, 107, 108, 109, 110, 111, 112, 113, 114, 115, 116, 117, 118, 119, 120, 121, 122, 123, 124, 125, 126, 127, 128, 129, 130, 131, 132, 9, 133, 134, 142, 143, 144, 145, 146, 147, 148, 149, 150, 151, 152, 153, 154, 155, 156, 157, 158] (by decide +kernel) (by decide +kernel)) (goodIn_sub (fun _ h => List.mem_cons_of_mem _ (List.mem_append_left _ (List.mem_append_left _ (List.mem_append_left _ (List.mem_append_right _ h))))) (by decide +kernel))) (goodIn_sub (fun _ h => List.mem_cons_of_mem _ (List.mem_append_left _ (List.mem_append_left _ (List.mem_append_right _ h)))) (by decide +kernel))) (goodIn_sub (fun _ h => List.mem_cons_of_mem _ (List.mem_append_left _ (List.mem_append_right _ h))) (by decide +kernel))) (goodIn_sub (fun _ h => List.mem_cons_of_mem _ (List.mem_append_right _ h)) (by decide +kernel))
set_option maxRecDepth 20000 in
theorem gX7_open_X4_read : GoodIn wsX7_open (wsV RX7 59 RX4 yX4_read wsX4_read) := goodIn_app (goodIn_of _ (by decide +kernel)) ggX7_open_X4_read
theorem dX7_open_0 : decode cX7_open 0 = .ok (.aload_n 0, 1) := by decide +kernel
theorem dX7_open_1 : decode cX7_open 1 = .ok (.getfield 40, 3) := by decide +kernel
theorem dX7_open_4 : decode cX7_open 4 = .ok (.istore_n 2, 1) := by decide +kernel
theorem dX7_open_5 : decode cX7_open 5 = .ok (.aload_n 0, 1) := by decide +kernel
theorem dX7_open_6 : decode cX7_open 6 = .ok (.iconst 0, 1) := by decide +kernel
theorem dX7_open_7 : decode cX7_open 7 = .ok (.putfield 40, 3) := by decide +kernel
theorem dX7_open_10 : decode cX7_open 10 = .ok (.iload_n 1, 1) := by decide +kernel
theorem dX7_open_11 : decode cX7_open 11 = .ok (.iconst 0, 1) := by decide +kernel
theorem dX7_open_12 : decode cX7_open 12 = .ok (.sipush 8192, 3) := by decide +kernel
theorem dX7_open_15 : decode cX7_open 15 = .ok (.invokestatic 44, 3) := by decide +kernel
theorem dX7_open_18 : decode cX7_open 18 = .ok (.aload_n 0, 1) := by decide +kernel
theorem dX7_open_19 : decode cX7_open 19 = .ok (.getfield 29, 3) := by decide +kernel
theorem dX7_open_22 : decode cX7_open 22 = .ok (.aload_n 0, 1) := by decide +kernel
theorem dX7_open_23 : decode cX7_open 23 = .ok (.getfield 9, 3) := by decide +kernel
theorem dX7_open_26 : decode cX7_open 26 = .ok (.iload_n 2, 1) := by decide +kernel
theorem dX7_open_27 : decode cX7_open 27 = .ok (.aload_n 0, 1) := by decide +kernel
theorem dX7_open_28 : decode cX7_open 28 = .ok (.getfield 16, 3) := by decide +kernel
theorem dX7_open_31 : decode cX7_open 31 = .ok (.iload_n 1, 1) := by decide +kernel
theorem dX7_open_32 : decode cX7_open 32 = .ok (.invokevirtual 59, 3) := by decide +kernel
theorem dX7_open_35 : decode cX7_open 35 = .ok (.istore_n 3, 1) := by decide +kernel
theorem dX7_open_36 : decode cX7_open 36 = .ok (.aload_n 0, 1) := by decide +kernel
theorem dX7_open_37 : decode cX7_open 37 = .ok (.getfield 13, 3) := by decide +kernel
theorem dX7_open_40 : decode cX7_open 40 = .ok (.astore 4, 2) := by decide +kernel
theorem dX7_open_42 : decode cX7_open 42 = .ok (.aload_n 0, 1) := by decide +kernel
theorem dX7_open_43 : decode cX7_open 43 = .ok (.aload_n 0, 1) := by decide +kernel
theorem dX7_open_44 : decode cX7_open 44 = .ok (.getfield 16, 3) := by decide +kernel
theorem dX7_open_47 : decode cX7_open 47 = .ok (.putfield 13, 3) := by decide +kernel
theorem dX7_open_50 : decode cX7_open 50 = .ok (.aload_n 0, 1) := by decide +kernel
theorem dX7_open_51 : decode cX7_open 51 = .ok (.aload 4, 2) := by decide +kernel
theorem dX7_open_53 : decode cX7_open 53 = .ok (.putfield 16, 3) := by decide +kernel
theorem dX7_open_56 : decode cX7_open 56 = .ok (.aload_n 0, 1) := by decide +kernel
theorem dX7_open_57 : decode cX7_open 57 = .ok (.iload_n 3, 1) := by decide +kernel
theorem dX7_open_58 : decode cX7_open 58 = .ok (.putfield 56, 3) := by decide +kernel
theorem dX7_open_61 : decode cX7_open 61 = .ok (.iload_n 3, 1) := by decide +kernel
theorem dX7_open_62 : decode cX7_open 62 = .ok (.ireturn, 1) := by decide +kernel
theorem dX7_back_0 : decode cX7_back 0 = .ok (.aload_n 0, 1) := by decide +kernel
theorem dX7_back_1 : decode cX7_back 1 = .ok (.getfield 56, 3) := by decide +kernel
theorem dX7_back_4 : decode cX7_back 4 = .ok (.sipush 4000, 3) := by decide +kernel
theorem dX7_back_7 : decode cX7_back 7 = .ok (.if_icmp .le 13, 3) := by decide +kernel
theorem dX7_back_10 : decode cX7_back 10 = .ok (.new 63, 3) := by decide +kernel
theorem dX7_back_13 : decode cX7_back 13 = .ok (.dup, 1) := by decide +kernel
theorem dX7_back_14 : decode cX7_back 14 = .ok (.ldc 65, 2) := by decide +kernel
theorem dX7_back_16 : decode cX7_back 16 = .ok (.invokespecial 67, 3) := by decide +kernel
theorem dX7_back_19 : decode cX7_back 19 = .ok (.athrow, 1) := by decide +kernel
theorem dX7_back_20 : decode cX7_back 20 = .ok (.aload_n 0, 1) := by decide +kernel
theorem dX7_back_21 : decode cX7_back 21 = .ok (.getfield 13, 3) := by decide +kernel
theorem dX7_back_24 : decode cX7_back 24 = .ok (.iconst 0, 1) := by decide +kernel
theorem dX7_back_25 : decode cX7_back 25 = .ok (.aload_n 0, 1) := by decide +kernel
theorem dX7_back_26 : decode cX7_back 26 = .ok (.getfield 9, 3) := by decide +kernel
theorem dX7_back_29 : decode cX7_back 29 = .ok (.iconst 0, 1) := by decide +kernel
theorem dX7_back_30 : decode cX7_back 30 = .ok (.aload_n 0, 1) := by decide +kernel
theorem dX7_back_31 : decode cX7_back 31 = .ok (.getfield 56, 3) := by decide +kernel
theorem dX7_back_34 : decode cX7_back 34 = .ok (.invokestatic 70, 3) := by decide +kernel
theorem dX7_back_37 : decode cX7_back 37 = .ok (.aload_n 0, 1) := by decide +kernel
theorem dX7_back_38 : decode cX7_back 38 = .ok (.aload_n 0, 1) := by decide +kernel
theorem dX7_back_39 : decode cX7_back 39 = .ok (.getfield 56, 3) := by decide +kernel
theorem dX7_back_42 : decode cX7_back 42 = .ok (.putfield 40, 3) := by decide +kernel
theorem dX7_back_45 : decode cX7_back 45 = .ok (.aload_n 0, 1) := by decide +kernel
theorem dX7_back_46 : decode cX7_back 46 = .ok (.getfield 40, 3) := by decide +kernel
theorem dX7_back_49 : decode cX7_back 49 = .ok (.ireturn, 1) := by decide +kernel
set_option maxRecDepth 20000 in
theorem ggX7_patch_X7_needRange : GoodIn wsX7_patch wsX7_needRange := goodIn_ca (goodIn_r _ [6, 7, 8] (by decide +kernel) (by decide +kernel)) (goodIn_sub (fun _ h => List.mem_cons_of_mem _ (List.mem_append_right _ h)) (by decide +kernel))
set_option maxRecDepth 20000 in
theorem gX7_patch_X7_needRange : GoodIn wsX7_patch (va_wsS RX7 44 yX7_needRange wsX7_needRange) := goodIn_app (goodIn_of _ (by decide +kernel)) ggX7_patch_X7_needRange
theorem dX7_patch_0 : decode cX7_patch 0 = .ok (.iload_n 1, 1) := by decide +kernel
theorem dX7_patch_1 : decode cX7_patch 1 = .ok (.iconst 0, 1) := by decide +kernel
theorem dX7_patch_2 : decode cX7_patch 2 = .ok (.aload_n 0, 1) := by decide +kernel
theorem dX7_patch_3 : decode cX7_patch 3 = .ok (.getfield 40, 3) := by decide +kernel
theorem dX7_patch_6 : decode cX7_patch 6 = .ok (.iconst 1, 1) := by decide +kernel
theorem dX7_patch_7 : decode cX7_patch 7 = .ok (.isub, 1) := by decide +kernel
theorem dX7_patch_8 : decode cX7_patch 8 = .ok (.invokestatic 44, 3) := by decide +kernel
theorem dX7_patch_11 : decode cX7_patch 11 = .ok (.aload_n 0, 1) := by decide +kernel
theorem dX7_patch_12 : decode cX7_patch 12 = .ok (.getfield 9, 3) := by decide +kernel
theorem dX7_patch_15 : decode cX7_patch 15 = .ok (.iload_n 1, 1) := by decide +kernel
theorem dX7_patch_16 : decode cX7_patch 16 = .ok (.baload, 1) := by decide +kernel
theorem dX7_patch_17 : decode cX7_patch 17 = .ok (.sipush 255, 3) := by decide +kernel
theorem dX7_patch_20 : decode cX7_patch 20 = .ok (.iand, 1) := by decide +kernel
theorem dX7_patch_21 : decode cX7_patch 21 = .ok (.istore_n 3, 1) := by decide +kernel
theorem dX7_patch_22 : decode cX7_patch 22 = .ok (.aload_n 0, 1) := by decide +kernel
theorem dX7_patch_23 : decode cX7_patch 23 = .ok (.getfield 9, 3) := by decide +kernel
theorem dX7_patch_26 : decode cX7_patch 26 = .ok (.iload_n 1, 1) := by decide +kernel
theorem dX7_patch_27 : decode cX7_patch 27 = .ok (.iload_n 2, 1) := by decide +kernel
theorem dX7_patch_28 : decode cX7_patch 28 = .ok (.i2b, 1) := by decide +kernel
theorem dX7_patch_29 : decode cX7_patch 29 = .ok (.bastore, 1) := by decide +kernel
theorem dX7_patch_30 : decode cX7_patch 30 = .ok (.iload_n 3, 1) := by decide +kernel
theorem dX7_patch_31 : decode cX7_patch 31 = .ok (.ireturn, 1) := by decide +kernel
set_option maxRecDepth 20000 in
theorem ggX7_sum_X7_adler : GoodIn wsX7_sum wsX7_adler := goodIn_r _ [6, 7] (by decide +kernel) (by decide +kernel)
set_option maxRecDepth 20000 in
theorem gX7_sum_X7_adler : GoodIn wsX7_sum (va_wsS RX7 76 yX7_adler wsX7_adler) := goodIn_app (goodIn_of _ (by decide +kernel)) ggX7_sum_X7_adler
theorem dX7_sum_0 : decode cX7_sum 0 = .ok (.aload_n 0, 1) := by decide +kernel
theorem dX7_sum_1 : decode cX7_sum 1 = .ok (.getfield 13, 3) := by decide +kernel
theorem dX7_sum_4 : decode cX7_sum 4 = .ok (.aload_n 0, 1) := by decide +kernel
theorem dX7_sum_5 : decode cX7_sum 5 = .ok (.getfield 56, 3) := by decide +kernel
theorem dX7_sum_8 : decode cX7_sum 8 = .ok (.invokestatic 76, 3) := by decide +kernel
theorem dX7_sum_11 : decode cX7_sum 11 = .ok (.ireturn, 1) := by decide +kernel
theorem dX7_word_0 : decode cX7_word 0 = .ok (.iload_n 1, 1) := by decide +kernel
theorem dX7_word_1 : decode cX7_word 1 = .ok (.ifCond .lt 11, 3) := by decide +kernel
theorem dX7_word_4 : decode cX7_word 4 = .ok (.iload_n 1, 1) := by decide +kernel
theorem dX7_word_5 : decode cX7_word 5 = .ok (.aload_n 0, 1) := by decide +kernel
theorem dX7_word_6 : decode cX7_word 6 = .ok (.getfield 56, 3) := by decide +kernel
theorem dX7_word_9 : decode cX7_word 9 = .ok (.if_icmp .lt 13, 3) := by decide +kernel
theorem dX7_word_12 : decode cX7_word 12 = .ok (.new 63, 3) := by decide +kernel
theorem dX7_word_15 : decode cX7_word 15 = .ok (.dup, 1) := by decide +kernel
theorem dX7_word_16 : decode cX7_word 16 = .ok (.ldc 80, 2) := by decide +kernel
theorem dX7_word_18 : decode cX7_word 18 = .ok (.invokespecial 67, 3) := by decide +kernel
theorem dX7_word_21 : decode cX7_word 21 = .ok (.athrow, 1) := by decide +kernel
theorem dX7_word_22 : decode cX7_word 22 = .ok (.lconst 0, 1) := by decide +kernel
theorem dX7_word_23 : decode cX7_word 23 = .ok (.lstore_n 2, 1) := by decide +kernel
theorem dX7_word_24 : decode cX7_word 24 = .ok (.iload_n 1, 1) := by decide +kernel
theorem dX7_word_25 : decode cX7_word 25 = .ok (.istore 4, 2) := by decide +kernel
theorem dX7_word_27 : decode cX7_word 27 = .ok (.iload 4, 2) := by decide +kernel
theorem dX7_word_29 : decode cX7_word 29 = .ok (.iload_n 1, 1) := by decide +kernel
theorem dX7_word_30 : decode cX7_word 30 = .ok (.bipush 8, 2) := by decide +kernel
theorem dX7_word_32 : decode cX7_word 32 = .ok (.iadd, 1) := by decide +kernel
theorem dX7_word_33 : decode cX7_word 33 = .ok (.if_icmp .ge 40, 3) := by decide +kernel
theorem dX7_word_36 : decode cX7_word 36 = .ok (.lload_n 2, 1) := by decide +kernel
theorem dX7_word_37 : decode cX7_word 37 = .ok (.bipush 8, 2) := by decide +kernel
theorem dX7_word_39 : decode cX7_word 39 = .ok (.lshl, 1) := by decide +kernel
theorem dX7_word_40 : decode cX7_word 40 = .ok (.iload 4, 2) := by decide +kernel
theorem dX7_word_42 : decode cX7_word 42 = .ok (.aload_n 0, 1) := by decide +kernel
theorem dX7_word_43 : decode cX7_word 43 = .ok (.getfield 56, 3) := by decide +kernel
theorem dX7_word_46 : decode cX7_word 46 = .ok (.if_icmp .ge 17, 3) := by decide +kernel
theorem dX7_word_49 : decode cX7_word 49 = .ok (.aload_n 0, 1) := by decide +kernel
theorem dX7_word_50 : decode cX7_word 50 = .ok (.getfield 13, 3) := by decide +kernel
theorem dX7_word_53 : decode cX7_word 53 = .ok (.iload 4, 2) := by decide +kernel
theorem dX7_word_55 : decode cX7_word 55 = .ok (.baload, 1) := by decide +kernel
theorem dX7_word_56 : decode cX7_word 56 = .ok (.sipush 255, 3) := by decide +kernel
theorem dX7_word_59 : decode cX7_word 59 = .ok (.iand, 1) := by decide +kernel
theorem dX7_word_60 : decode cX7_word 60 = .ok (.goto 4, 3) := by decide +kernel
theorem dX7_word_63 : decode cX7_word 63 = .ok (.iconst 0, 1) := by decide +kernel
theorem dX7_word_64 : decode cX7_word 64 = .ok (.i2l, 1) := by decide +kernel
theorem dX7_word_65 : decode cX7_word 65 = .ok (.lor, 1) := by decide +kernel
theorem dX7_word_66 : decode cX7_word 66 = .ok (.lstore_n 2, 1) := by decide +kernel
theorem dX7_word_67 : decode cX7_word 67 = .ok (.iinc 4 1, 3) := by decide +kernel
theorem dX7_word_70 : decode cX7_word 70 = .ok (.goto (-43), 3) := by decide +kernel
theorem dX7_word_73 : decode cX7_word 73 = .ok (.lload_n 2, 1) := by decide +kernel
theorem dX7_word_74 : decode cX7_word 74 = .ok (.lreturn, 1) := by decide +kernel
set_option maxRecDepth 20000 in
theorem ggX7_count_X7_needRange : GoodIn wsX7_count wsX7_needRange := goodIn_ca (goodIn_r _ [6, 7, 8] (by decide +kernel) (by decide +kernel)) (goodIn_sub (fun _ h => List.mem_cons_of_mem _ (List.mem_append_right _ h)) (by decide +kernel))
set_option maxRecDepth 20000 in
theorem gX7_count_X7_needRange : GoodIn wsX7_count (va_wsS RX7 44 yX7_needRange wsX7_needRange) := goodIn_app (goodIn_of _ (by decide +kernel)) ggX7_count_X7_needRange
theorem dX7_count_0 : decode cX7_count 0 = .ok (.iload_n 1, 1) := by decide +kernel
theorem dX7_count_1 : decode cX7_count 1 = .ok (.iconst 0, 1) := by decide +kernel
theorem dX7_count_2 : decode cX7_count 2 = .ok (.iconst 1, 1) := by decide +kernel
theorem dX7_count_3 : decode cX7_count 3 = .ok (.invokestatic 44, 3) := by decide +kernel
theorem dX7_count_6 : decode cX7_count 6 = .ok (.iload_n 1, 1) := by decide +kernel
theorem dX7_count_7 : decode cX7_count 7 = .ok (.ifCond .ne 10, 3) := by decide +kernel
theorem dX7_count_10 : decode cX7_count 10 = .ok (.aload_n 0, 1) := by decide +kernel
theorem dX7_count_11 : decode cX7_count 11 = .ok (.getfield 40, 3) := by decide +kernel
theorem dX7_count_14 : decode cX7_count 14 = .ok (.goto 7, 3) := by decide +kernel
theorem dX7_count_17 : decode cX7_count 17 = .ok (.aload_n 0, 1) := by decide +kernel
theorem dX7_count_18 : decode cX7_count 18 = .ok (.getfield 56, 3) := by decide +kernel
theorem dX7_count_21 : decode cX7_count 21 = .ok (.ireturn, 1) := by decide +kernel
theorem dX7_needRange_0 : decode cX7_needRange 0 = .ok (.iload_n 0, 1) := by decide +kernel
theorem dX7_needRange_1 : decode cX7_needRange 1 = .ok (.iload_n 1, 1) := by decide +kernel
theorem dX7_needRange_2 : decode cX7_needRange 2 = .ok (.if_icmp .lt 8, 3) := by decide +kernel
theorem dX7_needRange_5 : decode cX7_needRange 5 = .ok (.iload_n 0, 1) := by decide +kernel
theorem dX7_needRange_6 : decode cX7_needRange 6 = .ok (.iload_n 2, 1) := by decide +kernel
theorem dX7_needRange_7 : decode cX7_needRange 7 = .ok (.if_icmp .le 13, 3) := by decide +kernel
theorem dX7_needRange_10 : decode cX7_needRange 10 = .ok (.new 82, 3) := by decide +kernel
theorem dX7_needRange_13 : decode cX7_needRange 13 = .ok (.dup, 1) := by decide +kernel
theorem dX7_needRange_14 : decode cX7_needRange 14 = .ok (.ldc 84, 2) := by decide +kernel
theorem dX7_needRange_16 : decode cX7_needRange 16 = .ok (.invokespecial 86, 3) := by decide +kernel
theorem dX7_needRange_19 : decode cX7_needRange 19 = .ok (.athrow, 1) := by decide +kernel
theorem dX7_needRange_20 : decode cX7_needRange 20 = .ok (.return_, 1) := by decide +kernel
theorem dX7_needRoom_0 : decode cX7_needRoom 0 = .ok (.iload_n 1, 1) := by decide +kernel
theorem dX7_needRoom_1 : decode cX7_needRoom 1 = .ok (.sipush 4000, 3) := by decide +kernel
theorem dX7_needRoom_4 : decode cX7_needRoom 4 = .ok (.aload_n 0, 1) := by decide +kernel
theorem dX7_needRoom_5 : decode cX7_needRoom 5 = .ok (.getfield 40, 3) := by decide +kernel
theorem dX7_needRoom_8 : decode cX7_needRoom 8 = .ok (.isub, 1) := by decide +kernel
theorem dX7_needRoom_9 : decode cX7_needRoom 9 = .ok (.if_icmp .le 13, 3) := by decide +kernel
theorem dX7_needRoom_12 : decode cX7_needRoom 12 = .ok (.new 63, 3) := by decide +kernel
theorem dX7_needRoom_15 : decode cX7_needRoom 15 = .ok (.dup, 1) := by decide +kernel
theorem dX7_needRoom_16 : decode cX7_needRoom 16 = .ok (.ldc 87, 2) := by decide +kernel
theorem dX7_needRoom_18 : decode cX7_needRoom 18 = .ok (.invokespecial 67, 3) := by decide +kernel
theorem dX7_needRoom_21 : decode cX7_needRoom 21 = .ok (.athrow, 1) := by decide +kernel
theorem dX7_needRoom_22 : decode cX7_needRoom 22 = .ok (.return_, 1) := by decide +kernel
theorem dX7_appendByte_0 : decode cX7_appendByte 0 = .ok (.aload_n 0, 1) := by decide +kernel
theorem dX7_appendByte_1 : decode cX7_appendByte 1 = .ok (.getfield 9, 3) := by decide +kernel
theorem dX7_appendByte_4 : decode cX7_appendByte 4 = .ok (.aload_n 0, 1) := by decide +kernel
theorem dX7_appendByte_5 : decode cX7_appendByte 5 = .ok (.getfield 40, 3) := by decide +kernel
theorem dX7_appendByte_8 : decode cX7_appendByte 8 = .ok (.iload_n 1, 1) := by decide +kernel
theorem dX7_appendByte_9 : decode cX7_appendByte 9 = .ok (.i2b, 1) := by decide +kernel
theorem dX7_appendByte_10 : decode cX7_appendByte 10 = .ok (.bastore, 1) := by decide +kernel
theorem dX7_appendByte_11 : decode cX7_appendByte 11 = .ok (.aload_n 0, 1) := by decide +kernel
theorem dX7_appendByte_12 : decode cX7_appendByte 12 = .ok (.dup, 1) := by decide +kernel
theorem dX7_appendByte_13 : decode cX7_appendByte 13 = .ok (.getfield 40, 3) := by decide +kernel
theorem dX7_appendByte_16 : decode cX7_appendByte 16 = .ok (.iconst 1, 1) := by decide +kernel
theorem dX7_appendByte_17 : decode cX7_appendByte 17 = .ok (.iadd, 1) := by decide +kernel
theorem dX7_appendByte_18 : decode cX7_appendByte 18 = .ok (.putfield 40, 3) := by decide +kernel
theorem dX7_appendByte_21 : decode cX7_appendByte 21 = .ok (.return_, 1) := by decide +kernel
set_option maxRecDepth 20000 in
theorem ggX7_appendInt_X7_appendByte : GoodIn wsX7_appendInt wsX7_appendByte := goodIn_r _ [5, 6, 7, 8, 9, 10, 11, 12, 13, 14] (by decide +kernel) (by decide +kernel)
set_option maxRecDepth 20000 in
theorem gX7_appendInt_X7_appendByte : GoodIn wsX7_appendInt (wsV RX7 49 RX7 yX7_appendByte wsX7_appendByte) := goodIn_app (goodIn_of _ (by decide +kernel)) ggX7_appendInt_X7_appendByte
theorem dX7_appendInt_0 : decode cX7_appendInt 0 = .ok (.bipush 24, 2) := by decide +kernel
theorem dX7_appendInt_2 : decode cX7_appendInt 2 = .ok (.istore_n 2, 1) := by decide +kernel
theorem dX7_appendInt_3 : decode cX7_appendInt 3 = .ok (.iload_n 2, 1) := by decide +kernel
theorem dX7_appendInt_4 : decode cX7_appendInt 4 = .ok (.ifCond .lt 16, 3) := by decide +kernel
theorem dX7_appendInt_7 : decode cX7_appendInt 7 = .ok (.aload_n 0, 1) := by decide +kernel
theorem dX7_appendInt_8 : decode cX7_appendInt 8 = .ok (.iload_n 1, 1) := by decide +kernel
theorem dX7_appendInt_9 : decode cX7_appendInt 9 = .ok (.iload_n 2, 1) := by decide +kernel
theorem dX7_appendInt_10 : decode cX7_appendInt 10 = .ok (.iushr, 1) := by decide +kernel
theorem dX7_appendInt_11 : decode cX7_appendInt 11 = .ok (.invokevirtual 49, 3) := by decide +kernel
theorem dX7_appendInt_14 : decode cX7_appendInt 14 = .ok (.iinc 2 (-8), 3) := by decide +kernel
theorem dX7_appendInt_17 : decode cX7_appendInt 17 = .ok (.goto (-14), 3) := by decide +kernel
theorem dX7_appendInt_20 : decode cX7_appendInt 20 = .ok (.return_, 1) := by decide +kernel
theorem dX7_adler_0 : decode cX7_adler 0 = .ok (.iconst 1, 1) := by decide +kernel
theorem dX7_adler_1 : decode cX7_adler 1 = .ok (.istore_n 2, 1) := by decide +kernel
theorem dX7_adler_2 : decode cX7_adler 2 = .ok (.iconst 0, 1) := by decide +kernel
theorem dX7_adler_3 : decode cX7_adler 3 = .ok (.istore_n 3, 1) := by decide +kernel
theorem dX7_adler_4 : decode cX7_adler 4 = .ok (.iconst 0, 1) := by decide +kernel
theorem dX7_adler_5 : decode cX7_adler 5 = .ok (.istore 4, 2) := by decide +kernel
theorem dX7_adler_7 : decode cX7_adler 7 = .ok (.iload 4, 2) := by decide +kernel
theorem dX7_adler_9 : decode cX7_adler 9 = .ok (.iload_n 1, 1) := by decide +kernel
theorem dX7_adler_10 : decode cX7_adler 10 = .ok (.if_icmp .ge 30, 3) := by decide +kernel
theorem dX7_adler_13 : decode cX7_adler 13 = .ok (.iload_n 2, 1) := by decide +kernel
theorem dX7_adler_14 : decode cX7_adler 14 = .ok (.aload_n 0, 1) := by decide +kernel
theorem dX7_adler_15 : decode cX7_adler 15 = .ok (.iload 4, 2) := by decide +kernel
theorem dX7_adler_17 : decode cX7_adler 17 = .ok (.baload, 1) := by decide +kernel
theorem dX7_adler_18 : decode cX7_adler 18 = .ok (.sipush 255, 3) := by decide +kernel
theorem dX7_adler_21 : decode cX7_adler 21 = .ok (.iand, 1) := by decide +kernel
theorem dX7_adler_22 : decode cX7_adler 22 = .ok (.iadd, 1) := by decide +kernel
theorem dX7_adler_23 : decode cX7_adler 23 = .ok (.ldc 89, 2) := by decide +kernel
theorem dX7_adler_25 : decode cX7_adler 25 = .ok (.irem, 1) := by decide +kernel
theorem dX7_adler_26 : decode cX7_adler 26 = .ok (.istore_n 2, 1) := by decide +kernel
theorem dX7_adler_27 : decode cX7_adler 27 = .ok (.iload_n 3, 1) := by decide +kernel
theorem dX7_adler_28 : decode cX7_adler 28 = .ok (.iload_n 2, 1) := by decide +kernel
theorem dX7_adler_29 : decode cX7_adler 29 = .ok (.iadd, 1) := by decide +kernel
theorem dX7_adler_30 : decode cX7_adler 30 = .ok (.ldc 89, 2) := by decide +kernel
theorem dX7_adler_32 : decode cX7_adler 32 = .ok (.irem, 1) := by decide +kernel
theorem dX7_adler_33 : decode cX7_adler 33 = .ok (.istore_n 3, 1) := by decide +kernel
theorem dX7_adler_34 : decode cX7_adler 34 = .ok (.iinc 4 1, 3) := by decide +kernel
theorem dX7_adler_37 : decode cX7_adler 37 = .ok (.goto (-30), 3) := by decide +kernel
theorem dX7_adler_40 : decode cX7_adler 40 = .ok (.iload_n 3, 1) := by decide +kernel
theorem dX7_adler_41 : decode cX7_adler 41 = .ok (.bipush 16, 2) := by decide +kernel
theorem dX7_adler_43 : decode cX7_adler 43 = .ok (.ishl, 1) := by decide +kernel
theorem dX7_adler_44 : decode cX7_adler 44 = .ok (.iload_n 2, 1) := by decide +kernel
theorem dX7_adler_45 : decode cX7_adler 45 = .ok (.ior, 1) := by decide +kernel
theorem dX7_adler_46 : decode cX7_adler 46 = .ok (.ireturn, 1) := by decide +kernel
theorem dX8_init_0 : decode cX8_init 0 = .ok (.aload_n 0, 1) := by decide +kernel
theorem dX8_init_1 : decode cX8_init 1 = .ok (.aconst_null, 1) := by decide +kernel
theorem dX8_init_2 : decode cX8_init 2 = .ok (.aconst_null, 1) := by decide +kernel
theorem dX8_init_3 : decode cX8_init 3 = .ok (.iconst 0, 1) := by decide +kernel
theorem dX8_init_4 : decode cX8_init 4 = .ok (.iconst 0, 1) := by decide +kernel
theorem dX8_init_5 : decode cX8_init 5 = .ok (.invokespecial 1, 3) := by decide +kernel
theorem dX8_init_8 : decode cX8_init 8 = .ok (.return_, 1) := by decide +kernel
theorem dX9_must_0 : decode cX9_must 0 = .ok (.iload_n 1, 1) := by decide +kernel
theorem dX9_must_1 : decode cX9_must 1 = .ok (.ifCond .ne 8, 3) := by decide +kernel
theorem dX9_must_4 : decode cX9_must 4 = .ok (.aload_n 0, 1) := by decide +kernel
theorem dX9_must_5 : decode cX9_must 5 = .ok (.getfield 1, 3) := by decide +kernel
theorem dX9_must_8 : decode cX9_must 8 = .ok (.athrow, 1) := by decide +kernel
theorem dX9_must_9 : decode cX9_must 9 = .ok (.return_, 1) := by decide +kernel
theorem dX9_number_0 : decode cX9_number 0 = .ok (.lconst 0, 1) := by decide +kernel
theorem dX9_number_1 : decode cX9_number 1 = .ok (.lstore_n 3, 1) := by decide +kernel
theorem dX9_number_2 : decode cX9_number 2 = .ok (.iload_n 2, 1) := by decide +kernel
theorem dX9_number_3 : decode cX9_number 3 = .ok (.iconst 1, 1) := by decide +kernel
theorem dX9_number_4 : decode cX9_number 4 = .ok (.isub, 1) := by decide +kernel
theorem dX9_number_5 : decode cX9_number 5 = .ok (.istore 5, 2) := by decide +kernel
theorem dX9_number_7 : decode cX9_number 7 = .ok (.iload 5, 2) := by decide +kernel
theorem dX9_number_9 : decode cX9_number 9 = .ok (.ifCond .lt 26, 3) := by decide +kernel
theorem dX9_number_12 : decode cX9_number 12 = .ok (.lload_n 3, 1) := by decide +kernel
theorem dX9_number_13 : decode cX9_number 13 = .ok (.bipush 8, 2) := by decide +kernel
theorem dX9_number_15 : decode cX9_number 15 = .ok (.lshl, 1) := by decide +kernel
theorem dX9_number_16 : decode cX9_number 16 = .ok (.aload_n 0, 1) := by decide +kernel
theorem dX9_number_17 : decode cX9_number 17 = .ok (.iload_n 1, 1) := by decide +kernel
theorem dX9_number_18 : decode cX9_number 18 = .ok (.iload 5, 2) := by decide +kernel
theorem dX9_number_20 : decode cX9_number 20 = .ok (.iadd, 1) := by decide +kernel
theorem dX9_number_21 : decode cX9_number 21 = .ok (.baload, 1) := by decide +kernel
theorem dX9_number_22 : decode cX9_number 22 = .ok (.sipush 255, 3) := by decide +kernel
theorem dX9_number_25 : decode cX9_number 25 = .ok (.iand, 1) := by decide +kernel
theorem dX9_number_26 : decode cX9_number 26 = .ok (.i2l, 1) := by decide +kernel
theorem dX9_number_27 : decode cX9_number 27 = .ok (.lor, 1) := by decide +kernel
theorem dX9_number_28 : decode cX9_number 28 = .ok (.lstore_n 3, 1) := by decide +kernel
theorem dX9_number_29 : decode cX9_number 29 = .ok (.iinc 5 (-1), 3) := by decide +kernel
theorem dX9_number_32 : decode cX9_number 32 = .ok (.goto (-25), 3) := by decide +kernel
theorem dX9_number_35 : decode cX9_number 35 = .ok (.lload_n 3, 1) := by decide +kernel
theorem dX9_number_36 : decode cX9_number 36 = .ok (.lreturn, 1) := by decide +kernel
theorem dX9_adler_0 : decode cX9_adler 0 = .ok (.iconst 1, 1) := by decide +kernel
theorem dX9_adler_1 : decode cX9_adler 1 = .ok (.istore_n 3, 1) := by decide +kernel
theorem dX9_adler_2 : decode cX9_adler 2 = .ok (.iconst 0, 1) := by decide +kernel
theorem dX9_adler_3 : decode cX9_adler 3 = .ok (.istore 4, 2) := by decide +kernel
theorem dX9_adler_5 : decode cX9_adler 5 = .ok (.iconst 0, 1) := by decide +kernel
theorem dX9_adler_6 : decode cX9_adler 6 = .ok (.istore 5, 2) := by decide +kernel
theorem dX9_adler_8 : decode cX9_adler 8 = .ok (.iload 5, 2) := by decide +kernel
theorem dX9_adler_10 : decode cX9_adler 10 = .ok (.iload_n 2, 1) := by decide +kernel
theorem dX9_adler_11 : decode cX9_adler 11 = .ok (.if_icmp .ge 34, 3) := by decide +kernel
theorem dX9_adler_14 : decode cX9_adler 14 = .ok (.iload_n 3, 1) := by decide +kernel
theorem dX9_adler_15 : decode cX9_adler 15 = .ok (.aload_n 0, 1) := by decide +kernel
theorem dX9_adler_16 : decode cX9_adler 16 = .ok (.iload_n 1, 1) := by decide +kernel
theorem dX9_adler_17 : decode cX9_adler 17 = .ok (.iload 5, 2) := by decide +kernel
theorem dX9_adler_19 : decode cX9_adler 19 = .ok (.iadd, 1) := by decide +kernel
theorem dX9_adler_20 : decode cX9_adler 20 = .ok (.baload, 1) := by decide +kernel
theorem dX9_adler_21 : decode cX9_adler 21 = .ok (.sipush 255, 3) := by decide +kernel
theorem dX9_adler_24 : decode cX9_adler 24 = .ok (.iand, 1) := by decide +kernel
theorem dX9_adler_25 : decode cX9_adler 25 = .ok (.iadd, 1) := by decide +kernel
theorem dX9_adler_26 : decode cX9_adler 26 = .ok (.ldc 7, 2) := by decide +kernel
theorem dX9_adler_28 : decode cX9_adler 28 = .ok (.irem, 1) := by decide +kernel
theorem dX9_adler_29 : decode cX9_adler 29 = .ok (.istore_n 3, 1) := by decide +kernel
theorem dX9_adler_30 : decode cX9_adler 30 = .ok (.iload 4, 2) := by decide +kernel
theorem dX9_adler_32 : decode cX9_adler 32 = .ok (.iload_n 3, 1) := by decide +kernel
theorem dX9_adler_33 : decode cX9_adler 33 = .ok (.iadd, 1) := by decide +kernel
theorem dX9_adler_34 : decode cX9_adler 34 = .ok (.ldc 7, 2) := by decide +kernel
theorem dX9_adler_36 : decode cX9_adler 36 = .ok (.irem, 1) := by decide +kernel
theorem dX9_adler_37 : decode cX9_adler 37 = .ok (.istore 4, 2) := by decide +kernel
theorem dX9_adler_39 : decode cX9_adler 39 = .ok (.iinc 5 1, 3) := by decide +kernel
theorem dX9_adler_42 : decode cX9_adler 42 = .ok (.goto (-34), 3) := by decide +kernel
theorem dX9_adler_45 : decode cX9_adler 45 = .ok (.iload 4, 2) := by decide +kernel
theorem dX9_adler_47 : decode cX9_adler 47 = .ok (.bipush 16, 2) := by decide +kernel
theorem dX9_adler_49 : decode cX9_adler 49 = .ok (.ishl, 1) := by decide +kernel
theorem dX9_adler_50 : decode cX9_adler 50 = .ok (.iload_n 3, 1) := by decide +kernel
theorem dX9_adler_51 : decode cX9_adler 51 = .ok (.ior, 1) := by decide +kernel
theorem dX9_adler_52 : decode cX9_adler 52 = .ok (.ireturn, 1) := by decide +kernel
theorem dX9_bit_0 : decode cX9_bit 0 = .ok (.aload_n 0, 1) := by decide +kernel
theorem dX9_bit_1 : decode cX9_bit 1 = .ok (.getfield 8, 3) := by decide +kernel
theorem dX9_bit_4 : decode cX9_bit 4 = .ok (.ifCond .ne 23, 3) := by decide +kernel
theorem dX9_bit_7 : decode cX9_bit 7 = .ok (.aload_n 0, 1) := by decide +kernel
theorem dX9_bit_8 : decode cX9_bit 8 = .ok (.getfield 12, 3) := by decide +kernel
theorem dX9_bit_11 : decode cX9_bit 11 = .ok (.aload_n 0, 1) := by decide +kernel
theorem dX9_bit_12 : decode cX9_bit 12 = .ok (.getfield 16, 3) := by decide +kernel
theorem dX9_bit_15 : decode cX9_bit 15 = .ok (.iconst 0, 1) := by decide +kernel
theorem dX9_bit_16 : decode cX9_bit 16 = .ok (.bastore, 1) := by decide +kernel
theorem dX9_bit_17 : decode cX9_bit 17 = .ok (.aload_n 0, 1) := by decide +kernel
theorem dX9_bit_18 : decode cX9_bit 18 = .ok (.dup, 1) := by decide +kernel
theorem dX9_bit_19 : decode cX9_bit 19 = .ok (.getfield 16, 3) := by decide +kernel
theorem dX9_bit_22 : decode cX9_bit 22 = .ok (.iconst 1, 1) := by decide +kernel
theorem dX9_bit_23 : decode cX9_bit 23 = .ok (.iadd, 1) := by decide +kernel
theorem dX9_bit_24 : decode cX9_bit 24 = .ok (.putfield 16, 3) := by decide +kernel
theorem dX9_bit_27 : decode cX9_bit 27 = .ok (.aload_n 0, 1) := by decide +kernel
theorem dX9_bit_28 : decode cX9_bit 28 = .ok (.getfield 12, 3) := by decide +kernel
theorem dX9_bit_31 : decode cX9_bit 31 = .ok (.aload_n 0, 1) := by decide +kernel
theorem dX9_bit_32 : decode cX9_bit 32 = .ok (.getfield 16, 3) := by decide +kernel
theorem dX9_bit_35 : decode cX9_bit 35 = .ok (.iconst 1, 1) := by decide +kernel
theorem dX9_bit_36 : decode cX9_bit 36 = .ok (.isub, 1) := by decide +kernel
theorem dX9_bit_37 : decode cX9_bit 37 = .ok (.dup2, 1) := by decide +kernel
theorem dX9_bit_38 : decode cX9_bit 38 = .ok (.baload, 1) := by decide +kernel
theorem dX9_bit_39 : decode cX9_bit 39 = .ok (.iload_n 1, 1) := by decide +kernel
theorem dX9_bit_40 : decode cX9_bit 40 = .ok (.iconst 1, 1) := by decide +kernel
theorem dX9_bit_41 : decode cX9_bit 41 = .ok (.iand, 1) := by decide +kernel
theorem dX9_bit_42 : decode cX9_bit 42 = .ok (.aload_n 0, 1) := by decide +kernel
theorem dX9_bit_43 : decode cX9_bit 43 = .ok (.getfield 8, 3) := by decide +kernel
theorem dX9_bit_46 : decode cX9_bit 46 = .ok (.ishl, 1) := by decide +kernel
theorem dX9_bit_47 : decode cX9_bit 47 = .ok (.i2b, 1) := by decide +kernel
theorem dX9_bit_48 : decode cX9_bit 48 = .ok (.ior, 1) := by decide +kernel
theorem dX9_bit_49 : decode cX9_bit 49 = .ok (.i2b, 1) := by decide +kernel
theorem dX9_bit_50 : decode cX9_bit 50 = .ok (.bastore, 1) := by decide +kernel
theorem dX9_bit_51 : decode cX9_bit 51 = .ok (.aload_n 0, 1) := by decide +kernel
theorem dX9_bit_52 : decode cX9_bit 52 = .ok (.aload_n 0, 1) := by decide +kernel
theorem dX9_bit_53 : decode cX9_bit 53 = .ok (.getfield 8, 3) := by decide +kernel
theorem dX9_bit_56 : decode cX9_bit 56 = .ok (.iconst 1, 1) := by decide +kernel
theorem dX9_bit_57 : decode cX9_bit 57 = .ok (.iadd, 1) := by decide +kernel
theorem dX9_bit_58 : decode cX9_bit 58 = .ok (.bipush 7, 2) := by decide +kernel
theorem dX9_bit_60 : decode cX9_bit 60 = .ok (.iand, 1) := by decide +kernel
theorem dX9_bit_61 : decode cX9_bit 61 = .ok (.putfield 8, 3) := by decide +kernel
theorem dX9_bit_64 : decode cX9_bit 64 = .ok (.return_, 1) := by decide +kernel
set_option maxRecDepth 20000 in
theorem ggX9_low_X9_bit : GoodIn wsX9_low wsX9_bit := goodIn_r _ [5, 6, 7, 8, 9, 10, 11, 12, 13, 14, 15, 16, 17, 18, 19, 20, 21, 22, 23, 24, 25, 26, 27, 28, 29, 30, 31, 32] (by decide +kernel) (by decide +kernel)
set_option maxRecDepth 20000 in
theorem gX9_low_X9_bit : GoodIn wsX9_low (wsV RX9 19 RX9 yX9_bit wsX9_bit) := goodIn_app (goodIn_of _ (by decide +kernel)) ggX9_low_X9_bit
theorem dX9_low_0 : decode cX9_low 0 = .ok (.iconst 0, 1) := by decide +kernel
theorem dX9_low_1 : decode cX9_low 1 = .ok (.istore_n 3, 1) := by decide +kernel
theorem dX9_low_2 : decode cX9_low 2 = .ok (.iload_n 3, 1) := by decide +kernel
theorem dX9_low_3 : decode cX9_low 3 = .ok (.iload_n 2, 1) := by decide +kernel
theorem dX9_low_4 : decode cX9_low 4 = .ok (.if_icmp .ge 16, 3) := by decide +kernel
theorem dX9_low_7 : decode cX9_low 7 = .ok (.aload_n 0, 1) := by decide +kernel
theorem dX9_low_8 : decode cX9_low 8 = .ok (.iload_n 1, 1) := by decide +kernel
theorem dX9_low_9 : decode cX9_low 9 = .ok (.iload_n 3, 1) := by decide +kernel
theorem dX9_low_10 : decode cX9_low 10 = .ok (.ishr, 1) := by decide +kernel
theorem dX9_low_11 : decode cX9_low 11 = .ok (.invokevirtual 19, 3) := by decide +kernel
theorem dX9_low_14 : decode cX9_low 14 = .ok (.iinc 3 1, 3) := by decide +kernel
theorem dX9_low_17 : decode cX9_low 17 = .ok (.goto (-15), 3) := by decide +kernel
theorem dX9_low_20 : decode cX9_low 20 = .ok (.return_, 1) := by decide +kernel
set_option maxRecDepth 20000 in
theorem ggX9_high_X9_bit : GoodIn wsX9_high wsX9_bit := goodIn_r _ [5, 6, 7, 8, 9, 10, 11, 12, 13, 14, 15, 16, 17, 18, 19, 20, 21, 22, 23, 24, 25, 26, 27, 28, 29, 30, 31, 32] (by decide +kernel) (by decide +kernel)
set_option maxRecDepth 20000 in
theorem gX9_high_X9_bit : GoodIn wsX9_high (wsV RX9 19 RX9 yX9_bit wsX9_bit) := goodIn_app (goodIn_of _ (by decide +kernel)) ggX9_high_X9_bit
theorem dX9_high_0 : decode cX9_high 0 = .ok (.iload_n 2, 1) := by decide +kernel
theorem dX9_high_1 : decode cX9_high 1 = .ok (.iconst 1, 1) := by decide +kernel
theorem dX9_high_2 : decode cX9_high 2 = .ok (.isub, 1) := by decide +kernel
theorem dX9_high_3 : decode cX9_high 3 = .ok (.istore_n 3, 1) := by decide +kernel
theorem dX9_high_4 : decode cX9_high 4 = .ok (.iload_n 3, 1) := by decide +kernel
theorem dX9_high_5 : decode cX9_high 5 = .ok (.ifCond .lt 16, 3) := by decide +kernel
theorem dX9_high_8 : decode cX9_high 8 = .ok (.aload_n 0, 1) := by decide +kernel
theorem dX9_high_9 : decode cX9_high 9 = .ok (.iload_n 1, 1) := by decide +kernel
theorem dX9_high_10 : decode cX9_high 10 = .ok (.iload_n 3, 1) := by decide +kernel
theorem dX9_high_11 : decode cX9_high 11 = .ok (.ishr, 1) := by decide +kernel
theorem dX9_high_12 : decode cX9_high 12 = .ok (.invokevirtual 19, 3) := by decide +kernel
theorem dX9_high_15 : decode cX9_high 15 = .ok (.iinc 3 (-1), 3) := by decide +kernel
theorem dX9_high_18 : decode cX9_high 18 = .ok (.goto (-14), 3) := by decide +kernel
theorem dX9_high_21 : decode cX9_high 21 = .ok (.return_, 1) := by decide +kernel
set_option maxRecDepth 20000 in
theorem ggX9_symbol_X9_high : GoodIn wsX9_symbol wsX9_high := goodIn_r _ [5, 6, 7, 8, 4, 9, 10, 11, 12, 13, 14, 15, 16, 17, 18, 19, 20, 21, 22, 23, 24, 25, 26, 27, 28, 29, 30, 31, 32, 33, 34, 35, 36] (by decide +kernel) (by decide +kernel)
set_option maxRecDepth 20000 in
theorem gX9_symbol_X9_high : GoodIn wsX9_symbol (wsV RX9 23 RX9 yX9_high wsX9_high) := goodIn_app (goodIn_of _ (by decide +kernel)) ggX9_symbol_X9_high
theorem dX9_symbol_0 : decode cX9_symbol 0 = .ok (.iload_n 1, 1) := by decide +kernel
theorem dX9_symbol_1 : decode cX9_symbol 1 = .ok (.sipush 144, 3) := by decide +kernel
theorem dX9_symbol_4 : decode cX9_symbol 4 = .ok (.if_icmp .ge 16, 3) := by decide +kernel
theorem dX9_symbol_7 : decode cX9_symbol 7 = .ok (.aload_n 0, 1) := by decide +kernel
theorem dX9_symbol_8 : decode cX9_symbol 8 = .ok (.bipush 48, 2) := by decide +kernel
theorem dX9_symbol_10 : decode cX9_symbol 10 = .ok (.iload_n 1, 1) := by decide +kernel
theorem dX9_symbol_11 : decode cX9_symbol 11 = .ok (.iadd, 1) := by decide +kernel
theorem dX9_symbol_12 : decode cX9_symbol 12 = .ok (.bipush 8, 2) := by decide +kernel
theorem dX9_symbol_14 : decode cX9_symbol 14 = .ok (.invokevirtual 23, 3) := by decide +kernel
theorem dX9_symbol_17 : decode cX9_symbol 17 = .ok (.goto 64, 3) := by decide +kernel
theorem dX9_symbol_20 : decode cX9_symbol 20 = .ok (.iload_n 1, 1) := by decide +kernel
theorem dX9_symbol_21 : decode cX9_symbol 21 = .ok (.sipush 256, 3) := by decide +kernel
theorem dX9_symbol_24 : decode cX9_symbol 24 = .ok (.if_icmp .ge 21, 3) := by decide +kernel
theorem dX9_symbol_27 : decode cX9_symbol 27 = .ok (.aload_n 0, 1) := by decide +kernel
theorem dX9_symbol_28 : decode cX9_symbol 28 = .ok (.sipush 400, 3) := by decide +kernel
theorem dX9_symbol_31 : decode cX9_symbol 31 = .ok (.iload_n 1, 1) := by decide +kernel
theorem dX9_symbol_32 : decode cX9_symbol 32 = .ok (.iadd, 1) := by decide +kernel
theorem dX9_symbol_33 : decode cX9_symbol 33 = .ok (.sipush 144, 3) := by decide +kernel
theorem dX9_symbol_36 : decode cX9_symbol 36 = .ok (.isub, 1) := by decide +kernel
theorem dX9_symbol_37 : decode cX9_symbol 37 = .ok (.bipush 9, 2) := by decide +kernel
theorem dX9_symbol_39 : decode cX9_symbol 39 = .ok (.invokevirtual 23, 3) := by decide +kernel
theorem dX9_symbol_42 : decode cX9_symbol 42 = .ok (.goto 39, 3) := by decide +kernel
theorem dX9_symbol_45 : decode cX9_symbol 45 = .ok (.iload_n 1, 1) := by decide +kernel
theorem dX9_symbol_46 : decode cX9_symbol 46 = .ok (.sipush 280, 3) := by decide +kernel
theorem dX9_symbol_49 : decode cX9_symbol 49 = .ok (.if_icmp .ge 17, 3) := by decide +kernel
theorem dX9_symbol_52 : decode cX9_symbol 52 = .ok (.aload_n 0, 1) := by decide +kernel
theorem dX9_symbol_53 : decode cX9_symbol 53 = .ok (.iload_n 1, 1) := by decide +kernel
theorem dX9_symbol_54 : decode cX9_symbol 54 = .ok (.sipush 256, 3) := by decide +kernel
theorem dX9_symbol_57 : decode cX9_symbol 57 = .ok (.isub, 1) := by decide +kernel
theorem dX9_symbol_58 : decode cX9_symbol 58 = .ok (.bipush 7, 2) := by decide +kernel
theorem dX9_symbol_60 : decode cX9_symbol 60 = .ok (.invokevirtual 23, 3) := by decide +kernel
theorem dX9_symbol_63 : decode cX9_symbol 63 = .ok (.goto 18, 3) := by decide +kernel
theorem dX9_symbol_66 : decode cX9_symbol 66 = .ok (.aload_n 0, 1) := by decide +kernel
theorem dX9_symbol_67 : decode cX9_symbol 67 = .ok (.sipush 192, 3) := by decide +kernel
theorem dX9_symbol_70 : decode cX9_symbol 70 = .ok (.iload_n 1, 1) := by decide +kernel
theorem dX9_symbol_71 : decode cX9_symbol 71 = .ok (.iadd, 1) := by decide +kernel
theorem dX9_symbol_72 : decode cX9_symbol 72 = .ok (.sipush 280, 3) := by decide +kernel
theorem dX9_symbol_75 : decode cX9_symbol 75 = .ok (.isub, 1) := by decide +kernel
theorem dX9_symbol_76 : decode cX9_symbol 76 = .ok (.bipush 8, 2) := by decide +kernel
theorem dX9_symbol_78 : decode cX9_symbol 78 = .ok (.invokevirtual 23, 3) := by decide +kernel
theorem dX9_symbol_81 : decode cX9_symbol 81 = .ok (.return_, 1) := by decide +kernel
theorem dX9_lengthBits_0 : decode cX9_lengthBits 0 = .ok (.iload_n 0, 1) := by decide +kernel
theorem dX9_lengthBits_1 : decode cX9_lengthBits 1 = .ok (.bipush 8, 2) := by decide +kernel
theorem dX9_lengthBits_3 : decode cX9_lengthBits 3 = .ok (.if_icmp .lt 9, 3) := by decide +kernel
theorem dX9_lengthBits_6 : decode cX9_lengthBits 6 = .ok (.iload_n 0, 1) := by decide +kernel
theorem dX9_lengthBits_7 : decode cX9_lengthBits 7 = .ok (.bipush 28, 2) := by decide +kernel
theorem dX9_lengthBits_9 : decode cX9_lengthBits 9 = .ok (.if_icmp .ne 7, 3) := by decide +kernel
theorem dX9_lengthBits_12 : decode cX9_lengthBits 12 = .ok (.iconst 0, 1) := by decide +kernel
theorem dX9_lengthBits_13 : decode cX9_lengthBits 13 = .ok (.goto 8, 3) := by decide +kernel
theorem dX9_lengthBits_16 : decode cX9_lengthBits 16 = .ok (.iload_n 0, 1) := by decide +kernel
theorem dX9_lengthBits_17 : decode cX9_lengthBits 17 = .ok (.iconst 4, 1) := by decide +kernel
theorem dX9_lengthBits_18 : decode cX9_lengthBits 18 = .ok (.idiv, 1) := by decide +kernel
theorem dX9_lengthBits_19 : decode cX9_lengthBits 19 = .ok (.iconst 1, 1) := by decide +kernel
theorem dX9_lengthBits_20 : decode cX9_lengthBits 20 = .ok (.isub, 1) := by decide +kernel
theorem dX9_lengthBits_21 : decode cX9_lengthBits 21 = .ok (.ireturn, 1) := by decide +kernel
theorem dX9_lengthOf_0 : decode cX9_lengthOf 0 = .ok (.iload_n 0, 1) := by decide +kernel
theorem dX9_lengthOf_1 : decode cX9_lengthOf 1 = .ok (.bipush 8, 2) := by decide +kernel
theorem dX9_lengthOf_3 : decode cX9_lengthOf 3 = .ok (.if_icmp .ge 9, 3) := by decide +kernel
theorem dX9_lengthOf_6 : decode cX9_lengthOf 6 = .ok (.iconst 3, 1) := by decide +kernel
theorem dX9_lengthOf_7 : decode cX9_lengthOf 7 = .ok (.iload_n 0, 1) := by decide +kernel
theorem dX9_lengthOf_8 : decode cX9_lengthOf 8 = .ok (.iadd, 1) := by decide +kernel
theorem dX9_lengthOf_9 : decode cX9_lengthOf 9 = .ok (.goto 28, 3) := by decide +kernel
theorem dX9_lengthOf_12 : decode cX9_lengthOf 12 = .ok (.iload_n 0, 1) := by decide +kernel
theorem dX9_lengthOf_13 : decode cX9_lengthOf 13 = .ok (.bipush 28, 2) := by decide +kernel
theorem dX9_lengthOf_15 : decode cX9_lengthOf 15 = .ok (.if_icmp .ne 9, 3) := by decide +kernel
theorem dX9_lengthOf_18 : decode cX9_lengthOf 18 = .ok (.sipush 258, 3) := by decide +kernel
theorem dX9_lengthOf_21 : decode cX9_lengthOf 21 = .ok (.goto 16, 3) := by decide +kernel
theorem dX9_lengthOf_24 : decode cX9_lengthOf 24 = .ok (.iconst 3, 1) := by decide +kernel
theorem dX9_lengthOf_25 : decode cX9_lengthOf 25 = .ok (.iconst 4, 1) := by decide +kernel
theorem dX9_lengthOf_26 : decode cX9_lengthOf 26 = .ok (.iload_n 0, 1) := by decide +kernel
theorem dX9_lengthOf_27 : decode cX9_lengthOf 27 = .ok (.iconst 4, 1) := by decide +kernel
theorem dX9_lengthOf_28 : decode cX9_lengthOf 28 = .ok (.irem, 1) := by decide +kernel
theorem dX9_lengthOf_29 : decode cX9_lengthOf 29 = .ok (.iadd, 1) := by decide +kernel
theorem dX9_lengthOf_30 : decode cX9_lengthOf 30 = .ok (.iload_n 0, 1) := by decide +kernel
theorem dX9_lengthOf_31 : decode cX9_lengthOf 31 = .ok (.iconst 4, 1) := by decide +kernel
theorem dX9_lengthOf_32 : decode cX9_lengthOf 32 = .ok (.idiv, 1) := by decide +kernel
theorem dX9_lengthOf_33 : decode cX9_lengthOf 33 = .ok (.iconst 1, 1) := by decide +kernel
theorem dX9_lengthOf_34 : decode cX9_lengthOf 34 = .ok (.isub, 1) := by decide +kernel
theorem dX9_lengthOf_35 : decode cX9_lengthOf 35 = .ok (.ishl, 1) := by decide +kernel
theorem dX9_lengthOf_36 : decode cX9_lengthOf 36 = .ok (.iadd, 1) := by decide +kernel
theorem dX9_lengthOf_37 : decode cX9_lengthOf 37 = .ok (.ireturn, 1) := by decide +kernel
theorem dX9_wayBits_0 : decode cX9_wayBits 0 = .ok (.iload_n 0, 1) := by decide +kernel
theorem dX9_wayBits_1 : decode cX9_wayBits 1 = .ok (.iconst 4, 1) := by decide +kernel
theorem dX9_wayBits_2 : decode cX9_wayBits 2 = .ok (.if_icmp .ge 7, 3) := by decide +kernel
theorem dX9_wayBits_5 : decode cX9_wayBits 5 = .ok (.iconst 0, 1) := by decide +kernel
theorem dX9_wayBits_6 : decode cX9_wayBits 6 = .ok (.goto 8, 3) := by decide +kernel
theorem dX9_wayBits_9 : decode cX9_wayBits 9 = .ok (.iload_n 0, 1) := by decide +kernel
theorem dX9_wayBits_10 : decode cX9_wayBits 10 = .ok (.iconst 2, 1) := by decide +kernel
theorem dX9_wayBits_11 : decode cX9_wayBits 11 = .ok (.idiv, 1) := by decide +kernel
theorem dX9_wayBits_12 : decode cX9_wayBits 12 = .ok (.iconst 1, 1) := by decide +kernel
theorem dX9_wayBits_13 : decode cX9_wayBits 13 = .ok (.isub, 1) := by decide +kernel
theorem dX9_wayBits_14 : decode cX9_wayBits 14 = .ok (.ireturn, 1) := by decide +kernel
theorem dX9_wayOf_0 : decode cX9_wayOf 0 = .ok (.iload_n 0, 1) := by decide +kernel
theorem dX9_wayOf_1 : decode cX9_wayOf 1 = .ok (.iconst 4, 1) := by decide +kernel
theorem dX9_wayOf_2 : decode cX9_wayOf 2 = .ok (.if_icmp .ge 9, 3) := by decide +kernel
theorem dX9_wayOf_5 : decode cX9_wayOf 5 = .ok (.iconst 1, 1) := by decide +kernel
theorem dX9_wayOf_6 : decode cX9_wayOf 6 = .ok (.iload_n 0, 1) := by decide +kernel
theorem dX9_wayOf_7 : decode cX9_wayOf 7 = .ok (.iadd, 1) := by decide +kernel
theorem dX9_wayOf_8 : decode cX9_wayOf 8 = .ok (.goto 16, 3) := by decide +kernel
theorem dX9_wayOf_11 : decode cX9_wayOf 11 = .ok (.iconst 1, 1) := by decide +kernel
theorem dX9_wayOf_12 : decode cX9_wayOf 12 = .ok (.iconst 2, 1) := by decide +kernel
theorem dX9_wayOf_13 : decode cX9_wayOf 13 = .ok (.iload_n 0, 1) := by decide +kernel
theorem dX9_wayOf_14 : decode cX9_wayOf 14 = .ok (.iconst 2, 1) := by decide +kernel
theorem dX9_wayOf_15 : decode cX9_wayOf 15 = .ok (.irem, 1) := by decide +kernel
theorem dX9_wayOf_16 : decode cX9_wayOf 16 = .ok (.iadd, 1) := by decide +kernel
theorem dX9_wayOf_17 : decode cX9_wayOf 17 = .ok (.iload_n 0, 1) := by decide +kernel
theorem dX9_wayOf_18 : decode cX9_wayOf 18 = .ok (.iconst 2, 1) := by decide +kernel
theorem dX9_wayOf_19 : decode cX9_wayOf 19 = .ok (.idiv, 1) := by decide +kernel
theorem dX9_wayOf_20 : decode cX9_wayOf 20 = .ok (.iconst 1, 1) := by decide +kernel
theorem dX9_wayOf_21 : decode cX9_wayOf 21 = .ok (.isub, 1) := by decide +kernel
theorem dX9_wayOf_22 : decode cX9_wayOf 22 = .ok (.ishl, 1) := by decide +kernel
theorem dX9_wayOf_23 : decode cX9_wayOf 23 = .ok (.iadd, 1) := by decide +kernel
theorem dX9_wayOf_24 : decode cX9_wayOf 24 = .ok (.ireturn, 1) := by decide +kernel
set_option maxRecDepth 20000 in
theorem ggX9_copied_X9_lengthOf : GoodIn wsX9_copied wsX9_lengthOf := goodIn_r _ [4] (by decide +kernel) (by decide +kernel)
set_option maxRecDepth 20000 in
theorem gX9_copied_X9_lengthOf : GoodIn wsX9_copied (va_wsS RX9 27 yX9_lengthOf wsX9_lengthOf) := goodIn_app (goodIn_of _ (by decide +kernel)) ggX9_copied_X9_lengthOf
set_option maxRecDepth 20000 in
theorem ggX9_copied_X9_symbol : GoodIn wsX9_copied wsX9_symbol := goodIn_r _ [8, 9, 10, 11, 3, 12, 13, 14, 15, 16, 17, 18, 19, 33, 34, 35, 36, 37, 38, 39, 40, 41, 42, 43, 44, 45, 46, 47, 48, 49, 50, 51, 52, 53, 54, 55, 56] (by decide +kernel) (by decide +kernel)
set_option maxRecDepth 20000 in
theorem gX9_copied_X9_symbol : GoodIn wsX9_copied (wsV RX9 31 RX9 yX9_symbol wsX9_symbol) := goodIn_app (goodIn_of _ (by decide +kernel)) ggX9_copied_X9_symbol
set_option maxRecDepth 20000 in
theorem ggX9_copied_X9_lengthBits : GoodIn wsX9_copied wsX9_lengthBits := goodIn_r _ [22] (by decide +kernel) (by decide +kernel)
set_option maxRecDepth 20000 in
theorem gX9_copied_X9_lengthBits : GoodIn wsX9_copied (va_wsS RX9 34 yX9_lengthBits wsX9_lengthBits) := goodIn_app (goodIn_of _ (by decide +kernel)) ggX9_copied_X9_lengthBits
set_option maxRecDepth 20000 in
theorem ggX9_copied_X9_low : GoodIn wsX9_copied wsX9_low := goodIn_r _ [26, 13, 14, 15, 3, 16, 17, 18, 19, 33, 34, 35, 36, 37, 38, 39, 40, 41, 42, 43, 44, 45, 46, 47, 48, 49, 50, 51, 52, 53, 54, 55, 56] (by decide +kernel) (by decide +kernel)
set_option maxRecDepth 20000 in
theorem gX9_copied_X9_low : GoodIn wsX9_copied (wsV RX9 37 RX9 yX9_low wsX9_low) := goodIn_app (goodIn_of _ (by decide +kernel)) ggX9_copied_X9_low
set_option maxRecDepth 20000 in
theorem ggX9_copied_X9_wayOf : GoodIn wsX9_copied wsX9_wayOf := goodIn_r _ [29] (by decide +kernel) (by decide +kernel)
set_option maxRecDepth 20000 in
theorem gX9_copied_X9_wayOf : GoodIn wsX9_copied (va_wsS RX9 40 yX9_wayOf wsX9_wayOf) := goodIn_app (goodIn_of _ (by decide +kernel)) ggX9_copied_X9_wayOf
set_option maxRecDepth 20000 in
theorem ggX9_copied_X9_high : GoodIn wsX9_copied wsX9_high := goodIn_r _ [12, 13, 14, 15, 3, 16, 17, 18, 19, 33, 34, 35, 36, 37, 38, 39, 40, 41, 42, 43, 44, 45, 46, 47, 48, 49, 50, 51, 52, 53, 54, 55, 56] (by decide +kernel) (by decide +kernel)
set_option maxRecDepth 20000 in
theorem gX9_copied_X9_high : GoodIn wsX9_copied (wsV RX9 23 RX9 yX9_high wsX9_high) := goodIn_app (goodIn_of _ (by decide +kernel)) ggX9_copied_X9_high
set_option maxRecDepth 20000 in
theorem ggX9_copied_X9_wayBits : GoodIn wsX9_copied wsX9_wayBits := goodIn_r _ [32] (by decide +kernel) (by decide +kernel)
set_option maxRecDepth 20000 in
theorem gX9_copied_X9_wayBits : GoodIn wsX9_copied (va_wsS RX9 43 yX9_wayBits wsX9_wayBits) := goodIn_app (goodIn_of _ (by decide +kernel)) ggX9_copied_X9_wayBits
theorem dX9_copied_0 : decode cX9_copied 0 = .ok (.bipush 28, 2) := by decide +kernel
theorem dX9_copied_2 : decode cX9_copied 2 = .ok (.istore_n 3, 1) := by decide +kernel
theorem dX9_copied_3 : decode cX9_copied 3 = .ok (.iload_n 3, 1) := by decide +kernel
theorem dX9_copied_4 : decode cX9_copied 4 = .ok (.invokestatic 27, 3) := by decide +kernel
theorem dX9_copied_7 : decode cX9_copied 7 = .ok (.iload_n 1, 1) := by decide +kernel
theorem dX9_copied_8 : decode cX9_copied 8 = .ok (.if_icmp .le 9, 3) := by decide +kernel
theorem dX9_copied_11 : decode cX9_copied 11 = .ok (.iinc 3 (-1), 3) := by decide +kernel
theorem dX9_copied_14 : decode cX9_copied 14 = .ok (.goto (-11), 3) := by decide +kernel
theorem dX9_copied_17 : decode cX9_copied 17 = .ok (.aload_n 0, 1) := by decide +kernel
theorem dX9_copied_18 : decode cX9_copied 18 = .ok (.sipush 257, 3) := by decide +kernel
theorem dX9_copied_21 : decode cX9_copied 21 = .ok (.iload_n 3, 1) := by decide +kernel
theorem dX9_copied_22 : decode cX9_copied 22 = .ok (.iadd, 1) := by decide +kernel
theorem dX9_copied_23 : decode cX9_copied 23 = .ok (.invokevirtual 31, 3) := by decide +kernel
theorem dX9_copied_26 : decode cX9_copied 26 = .ok (.aload_n 0, 1) := by decide +kernel
theorem dX9_copied_27 : decode cX9_copied 27 = .ok (.iload_n 1, 1) := by decide +kernel
theorem dX9_copied_28 : decode cX9_copied 28 = .ok (.iload_n 3, 1) := by decide +kernel
theorem dX9_copied_29 : decode cX9_copied 29 = .ok (.invokestatic 27, 3) := by decide +kernel
theorem dX9_copied_32 : decode cX9_copied 32 = .ok (.isub, 1) := by decide +kernel
theorem dX9_copied_33 : decode cX9_copied 33 = .ok (.iload_n 3, 1) := by decide +kernel
theorem dX9_copied_34 : decode cX9_copied 34 = .ok (.invokestatic 34, 3) := by decide +kernel
theorem dX9_copied_37 : decode cX9_copied 37 = .ok (.invokevirtual 37, 3) := by decide +kernel
theorem dX9_copied_40 : decode cX9_copied 40 = .ok (.bipush 29, 2) := by decide +kernel
theorem dX9_copied_42 : decode cX9_copied 42 = .ok (.istore 4, 2) := by decide +kernel
theorem dX9_copied_44 : decode cX9_copied 44 = .ok (.iload 4, 2) := by decide +kernel
theorem dX9_copied_46 : decode cX9_copied 46 = .ok (.invokestatic 40, 3) := by decide +kernel
theorem dX9_copied_49 : decode cX9_copied 49 = .ok (.iload_n 2, 1) := by decide +kernel
theorem dX9_copied_50 : decode cX9_copied 50 = .ok (.if_icmp .le 9, 3) := by decide +kernel
theorem dX9_copied_53 : decode cX9_copied 53 = .ok (.iinc 4 (-1), 3) := by decide +kernel
theorem dX9_copied_56 : decode cX9_copied 56 = .ok (.goto (-12), 3) := by decide +kernel
theorem dX9_copied_59 : decode cX9_copied 59 = .ok (.aload_n 0, 1) := by decide +kernel
theorem dX9_copied_60 : decode cX9_copied 60 = .ok (.iload 4, 2) := by decide +kernel
theorem dX9_copied_62 : decode cX9_copied 62 = .ok (.iconst 5, 1) := by decide +kernel
theorem dX9_copied_63 : decode cX9_copied 63 = .ok (.invokevirtual 23, 3) := by decide +kernel
theorem dX9_copied_66 : decode cX9_copied 66 = .ok (.aload_n 0, 1) := by decide +kernel
theorem dX9_copied_67 : decode cX9_copied 67 = .ok (.iload_n 2, 1) := by decide +kernel
theorem dX9_copied_68 : decode cX9_copied 68 = .ok (.iload 4, 2) := by decide +kernel
theorem dX9_copied_70 : decode cX9_copied 70 = .ok (.invokestatic 40, 3) := by decide +kernel
theorem dX9_copied_73 : decode cX9_copied 73 = .ok (.isub, 1) := by decide +kernel
theorem dX9_copied_74 : decode cX9_copied 74 = .ok (.iload 4, 2) := by decide +kernel
theorem dX9_copied_76 : decode cX9_copied 76 = .ok (.invokestatic 43, 3) := by decide +kernel
theorem dX9_copied_79 : decode cX9_copied 79 = .ok (.invokevirtual 37, 3) := by decide +kernel
theorem dX9_copied_82 : decode cX9_copied 82 = .ok (.return_, 1) := by decide +kernel
set_option maxRecDepth 20000 in
theorem ggX9_pack_X9_bit : GoodIn wsX9_pack wsX9_bit := goodIn_r _ [8, 2, 3, 1, 41, 42, 43, 44, 45, 46, 47, 48, 49, 50, 51, 52, 53, 54, 55, 56, 57, 58, 59, 60, 61, 62, 63, 64] (by decide +kernel) (by decide +kernel)
set_option maxRecDepth 20000 in
theorem gX9_pack_X9_bit : GoodIn wsX9_pack (wsV RX9 19 RX9 yX9_bit wsX9_bit) := goodIn_app (goodIn_of _ (by decide +kernel)) ggX9_pack_X9_bit
set_option maxRecDepth 20000 in
theorem ggX9_pack_X9_low : GoodIn wsX9_pack wsX9_low := goodIn_r _ [12, 4, 5, 6, 7, 8, 2, 3, 1, 41, 42, 43, 44, 45, 46, 47, 48, 49, 50, 51, 52, 53, 54, 55, 56, 57, 58, 59, 60, 61, 62, 63, 64] (by decide +kernel) (by decide +kernel)
set_option maxRecDepth 20000 in
theorem gX9_pack_X9_low : GoodIn wsX9_pack (wsV RX9 37 RX9 yX9_low wsX9_low) := goodIn_app (goodIn_of _ (by decide +kernel)) ggX9_pack_X9_low
set_option maxRecDepth 20000 in
theorem ggX9_pack_X9_symbol : GoodIn wsX9_pack wsX9_symbol := goodIn_r _ [16, 17, 18, 19, 7, 20, 4, 5, 6, 8, 2, 3, 1, 41, 42, 43, 44, 45, 46, 47, 48, 49, 50, 51, 52, 53, 54, 55, 56, 57, 58, 59, 60, 61, 62, 63, 64] (by decide +kernel) (by decide +kernel)
set_option maxRecDepth 20000 in
theorem gX9_pack_X9_symbol : GoodIn wsX9_pack (wsV RX9 31 RX9 yX9_symbol wsX9_symbol) := goodIn_app (goodIn_of _ (by decide +kernel)) ggX9_pack_X9_symbol
set_option maxRecDepth 20000 in
theorem ggX9_pack_X9_copied : GoodIn wsX9_pack wsX9_copied := goodIn_r _ [24, 25, 26, 7, 27, 13, 14, 15, 16, 17, 18, 19, 20, 4, 5, 6, 8, 2, 3, 1, 28, 29, 30, 9, 10, 11, 12, 31, 32, 33, 34, 35, 36, 41, 42, 43, 44, 45, 46, 47, 48, 49, 50, 51, 52, 53, 54, 55, 56, 57, 58, 59, 60, 61, 62, 63, 64] (by decide +kernel) (by decide +kernel)
set_option maxRecDepth 20000 in
theorem gX9_pack_X9_copied : GoodIn wsX9_pack (wsV RX9 46 RX9 yX9_copied wsX9_copied) := goodIn_app (goodIn_of _ (by decide +kernel)) ggX9_pack_X9_copied
set_option maxRecDepth 20000 in
theorem ggX9_pack_X9_adler : GoodIn wsX9_pack wsX9_adler := goodIn_r _ [39, 40] (by decide +kernel) (by decide +kernel)
set_option maxRecDepth 20000 in
theorem gX9_pack_X9_adler : GoodIn wsX9_pack (va_wsS RX9 49 yX9_adler wsX9_adler) := goodIn_app (goodIn_of _ (by decide +kernel)) ggX9_pack_X9_adler
theorem dX9_pack_0 : decode cX9_pack 0 = .ok (.aload_n 0, 1) := by decide +kernel
theorem dX9_pack_1 : decode cX9_pack 1 = .ok (.iconst 0, 1) := by decide +kernel
theorem dX9_pack_2 : decode cX9_pack 2 = .ok (.putfield 16, 3) := by decide +kernel
theorem dX9_pack_5 : decode cX9_pack 5 = .ok (.aload_n 0, 1) := by decide +kernel
theorem dX9_pack_6 : decode cX9_pack 6 = .ok (.iconst 0, 1) := by decide +kernel
theorem dX9_pack_7 : decode cX9_pack 7 = .ok (.putfield 8, 3) := by decide +kernel
theorem dX9_pack_10 : decode cX9_pack 10 = .ok (.aload_n 0, 1) := by decide +kernel
theorem dX9_pack_11 : decode cX9_pack 11 = .ok (.getfield 12, 3) := by decide +kernel
theorem dX9_pack_14 : decode cX9_pack 14 = .ok (.iconst 0, 1) := by decide +kernel
theorem dX9_pack_15 : decode cX9_pack 15 = .ok (.bipush 120, 2) := by decide +kernel
theorem dX9_pack_17 : decode cX9_pack 17 = .ok (.bastore, 1) := by decide +kernel
theorem dX9_pack_18 : decode cX9_pack 18 = .ok (.aload_n 0, 1) := by decide +kernel
theorem dX9_pack_19 : decode cX9_pack 19 = .ok (.getfield 12, 3) := by decide +kernel
theorem dX9_pack_22 : decode cX9_pack 22 = .ok (.iconst 1, 1) := by decide +kernel
theorem dX9_pack_23 : decode cX9_pack 23 = .ok (.bipush (-100), 2) := by decide +kernel
theorem dX9_pack_25 : decode cX9_pack 25 = .ok (.bastore, 1) := by decide +kernel
theorem dX9_pack_26 : decode cX9_pack 26 = .ok (.aload_n 0, 1) := by decide +kernel
theorem dX9_pack_27 : decode cX9_pack 27 = .ok (.iconst 2, 1) := by decide +kernel
theorem dX9_pack_28 : decode cX9_pack 28 = .ok (.putfield 16, 3) := by decide +kernel
theorem dX9_pack_31 : decode cX9_pack 31 = .ok (.aload_n 0, 1) := by decide +kernel
theorem dX9_pack_32 : decode cX9_pack 32 = .ok (.iconst 1, 1) := by decide +kernel
theorem dX9_pack_33 : decode cX9_pack 33 = .ok (.invokevirtual 19, 3) := by decide +kernel
theorem dX9_pack_36 : decode cX9_pack 36 = .ok (.aload_n 0, 1) := by decide +kernel
theorem dX9_pack_37 : decode cX9_pack 37 = .ok (.iconst 1, 1) := by decide +kernel
theorem dX9_pack_38 : decode cX9_pack 38 = .ok (.iconst 2, 1) := by decide +kernel
theorem dX9_pack_39 : decode cX9_pack 39 = .ok (.invokevirtual 37, 3) := by decide +kernel
theorem dX9_pack_42 : decode cX9_pack 42 = .ok (.iconst 0, 1) := by decide +kernel
theorem dX9_pack_43 : decode cX9_pack 43 = .ok (.istore 4, 2) := by decide +kernel
theorem dX9_pack_45 : decode cX9_pack 45 = .ok (.iload 4, 2) := by decide +kernel
theorem dX9_pack_47 : decode cX9_pack 47 = .ok (.iload_n 3, 1) := by decide +kernel
theorem dX9_pack_48 : decode cX9_pack 48 = .ok (.if_icmp .ge 141, 3) := by decide +kernel
theorem dX9_pack_51 : decode cX9_pack 51 = .ok (.iconst 2, 1) := by decide +kernel
theorem dX9_pack_52 : decode cX9_pack 52 = .ok (.istore 5, 2) := by decide +kernel
theorem dX9_pack_54 : decode cX9_pack 54 = .ok (.iconst 0, 1) := by decide +kernel
theorem dX9_pack_55 : decode cX9_pack 55 = .ok (.istore 6, 2) := by decide +kernel
theorem dX9_pack_57 : decode cX9_pack 57 = .ok (.iconst 1, 1) := by decide +kernel
theorem dX9_pack_58 : decode cX9_pack 58 = .ok (.istore 7, 2) := by decide +kernel
theorem dX9_pack_60 : decode cX9_pack 60 = .ok (.iload 7, 2) := by decide +kernel
theorem dX9_pack_62 : decode cX9_pack 62 = .ok (.iload 4, 2) := by decide +kernel
theorem dX9_pack_64 : decode cX9_pack 64 = .ok (.if_icmp .gt 82, 3) := by decide +kernel
theorem dX9_pack_67 : decode cX9_pack 67 = .ok (.iload 5, 2) := by decide +kernel
theorem dX9_pack_69 : decode cX9_pack 69 = .ok (.sipush 258, 3) := by decide +kernel
theorem dX9_pack_72 : decode cX9_pack 72 = .ok (.if_icmp .ge 74, 3) := by decide +kernel
theorem dX9_pack_75 : decode cX9_pack 75 = .ok (.iconst 0, 1) := by decide +kernel
theorem dX9_pack_76 : decode cX9_pack 76 = .ok (.istore 8, 2) := by decide +kernel
theorem dX9_pack_78 : decode cX9_pack 78 = .ok (.iload 8, 2) := by decide +kernel
theorem dX9_pack_80 : decode cX9_pack 80 = .ok (.sipush 258, 3) := by decide +kernel
theorem dX9_pack_83 : decode cX9_pack 83 = .ok (.if_icmp .ge 42, 3) := by decide +kernel
theorem dX9_pack_86 : decode cX9_pack 86 = .ok (.iload 4, 2) := by decide +kernel
theorem dX9_pack_88 : decode cX9_pack 88 = .ok (.iload 8, 2) := by decide +kernel
theorem dX9_pack_90 : decode cX9_pack 90 = .ok (.iadd, 1) := by decide +kernel
theorem dX9_pack_91 : decode cX9_pack 91 = .ok (.iload_n 3, 1) := by decide +kernel
theorem dX9_pack_92 : decode cX9_pack 92 = .ok (.if_icmp .ge 33, 3) := by decide +kernel
theorem dX9_pack_95 : decode cX9_pack 95 = .ok (.aload_n 1, 1) := by decide +kernel
theorem dX9_pack_96 : decode cX9_pack 96 = .ok (.iload_n 2, 1) := by decide +kernel
theorem dX9_pack_97 : decode cX9_pack 97 = .ok (.iload 4, 2) := by decide +kernel
theorem dX9_pack_99 : decode cX9_pack 99 = .ok (.iadd, 1) := by decide +kernel
theorem dX9_pack_100 : decode cX9_pack 100 = .ok (.iload 8, 2) := by decide +kernel
theorem dX9_pack_102 : decode cX9_pack 102 = .ok (.iadd, 1) := by decide +kernel
theorem dX9_pack_103 : decode cX9_pack 103 = .ok (.baload, 1) := by decide +kernel
theorem dX9_pack_104 : decode cX9_pack 104 = .ok (.aload_n 1, 1) := by decide +kernel
theorem dX9_pack_105 : decode cX9_pack 105 = .ok (.iload_n 2, 1) := by decide +kernel
theorem dX9_pack_106 : decode cX9_pack 106 = .ok (.iload 4, 2) := by decide +kernel
theorem dX9_pack_108 : decode cX9_pack 108 = .ok (.iadd, 1) := by decide +kernel
theorem dX9_pack_109 : decode cX9_pack 109 = .ok (.iload 8, 2) := by decide +kernel
theorem dX9_pack_111 : decode cX9_pack 111 = .ok (.iadd, 1) := by decide +kernel
theorem dX9_pack_112 : decode cX9_pack 112 = .ok (.iload 7, 2) := by decide +kernel
theorem dX9_pack_114 : decode cX9_pack 114 = .ok (.isub, 1) := by decide +kernel
theorem dX9_pack_115 : decode cX9_pack 115 = .ok (.baload, 1) := by decide +kernel
theorem dX9_pack_116 : decode cX9_pack 116 = .ok (.if_icmp .ne 9, 3) := by decide +kernel
theorem dX9_pack_119 : decode cX9_pack 119 = .ok (.iinc 8 1, 3) := by decide +kernel
theorem dX9_pack_122 : decode cX9_pack 122 = .ok (.goto (-44), 3) := by decide +kernel
theorem dX9_pack_125 : decode cX9_pack 125 = .ok (.iload 8, 2) := by decide +kernel
theorem dX9_pack_127 : decode cX9_pack 127 = .ok (.iload 5, 2) := by decide +kernel
theorem dX9_pack_129 : decode cX9_pack 129 = .ok (.if_icmp .le 11, 3) := by decide +kernel
theorem dX9_pack_132 : decode cX9_pack 132 = .ok (.iload 8, 2) := by decide +kernel
theorem dX9_pack_134 : decode cX9_pack 134 = .ok (.istore 5, 2) := by decide +kernel
theorem dX9_pack_136 : decode cX9_pack 136 = .ok (.iload 7, 2) := by decide +kernel
theorem dX9_pack_138 : decode cX9_pack 138 = .ok (.istore 6, 2) := by decide +kernel
theorem dX9_pack_140 : decode cX9_pack 140 = .ok (.iinc 7 1, 3) := by decide +kernel
theorem dX9_pack_143 : decode cX9_pack 143 = .ok (.goto (-83), 3) := by decide +kernel
theorem dX9_pack_146 : decode cX9_pack 146 = .ok (.iload 6, 2) := by decide +kernel
theorem dX9_pack_148 : decode cX9_pack 148 = .ok (.ifCond .ne 23, 3) := by decide +kernel
theorem dX9_pack_151 : decode cX9_pack 151 = .ok (.aload_n 0, 1) := by decide +kernel
theorem dX9_pack_152 : decode cX9_pack 152 = .ok (.aload_n 1, 1) := by decide +kernel
theorem dX9_pack_153 : decode cX9_pack 153 = .ok (.iload_n 2, 1) := by decide +kernel
theorem dX9_pack_154 : decode cX9_pack 154 = .ok (.iload 4, 2) := by decide +kernel
theorem dX9_pack_156 : decode cX9_pack 156 = .ok (.iadd, 1) := by decide +kernel
theorem dX9_pack_157 : decode cX9_pack 157 = .ok (.baload, 1) := by decide +kernel
theorem dX9_pack_158 : decode cX9_pack 158 = .ok (.sipush 255, 3) := by decide +kernel
theorem dX9_pack_161 : decode cX9_pack 161 = .ok (.iand, 1) := by decide +kernel
theorem dX9_pack_162 : decode cX9_pack 162 = .ok (.invokevirtual 31, 3) := by decide +kernel
theorem dX9_pack_165 : decode cX9_pack 165 = .ok (.iinc 4 1, 3) := by decide +kernel
theorem dX9_pack_168 : decode cX9_pack 168 = .ok (.goto 18, 3) := by decide +kernel
theorem dX9_pack_171 : decode cX9_pack 171 = .ok (.aload_n 0, 1) := by decide +kernel
theorem dX9_pack_172 : decode cX9_pack 172 = .ok (.iload 5, 2) := by decide +kernel
theorem dX9_pack_174 : decode cX9_pack 174 = .ok (.iload 6, 2) := by decide +kernel
theorem dX9_pack_176 : decode cX9_pack 176 = .ok (.invokevirtual 46, 3) := by decide +kernel
theorem dX9_pack_179 : decode cX9_pack 179 = .ok (.iload 4, 2) := by decide +kernel
theorem dX9_pack_181 : decode cX9_pack 181 = .ok (.iload 5, 2) := by decide +kernel
theorem dX9_pack_183 : decode cX9_pack 183 = .ok (.iadd, 1) := by decide +kernel
theorem dX9_pack_184 : decode cX9_pack 184 = .ok (.istore 4, 2) := by decide +kernel
theorem dX9_pack_186 : decode cX9_pack 186 = .ok (.goto (-141), 3) := by decide +kernel
theorem dX9_pack_189 : decode cX9_pack 189 = .ok (.aload_n 0, 1) := by decide +kernel
theorem dX9_pack_190 : decode cX9_pack 190 = .ok (.sipush 256, 3) := by decide +kernel
theorem dX9_pack_193 : decode cX9_pack 193 = .ok (.invokevirtual 31, 3) := by decide +kernel
theorem dX9_pack_196 : decode cX9_pack 196 = .ok (.aload_n 0, 1) := by decide +kernel
theorem dX9_pack_197 : decode cX9_pack 197 = .ok (.iconst 0, 1) := by decide +kernel
theorem dX9_pack_198 : decode cX9_pack 198 = .ok (.putfield 8, 3) := by decide +kernel
theorem dX9_pack_201 : decode cX9_pack 201 = .ok (.aload_n 1, 1) := by decide +kernel
theorem dX9_pack_202 : decode cX9_pack 202 = .ok (.iload_n 2, 1) := by decide +kernel
theorem dX9_pack_203 : decode cX9_pack 203 = .ok (.iload_n 3, 1) := by decide +kernel
theorem dX9_pack_204 : decode cX9_pack 204 = .ok (.invokestatic 49, 3) := by decide +kernel
theorem dX9_pack_207 : decode cX9_pack 207 = .ok (.istore 5, 2) := by decide +kernel
theorem dX9_pack_209 : decode cX9_pack 209 = .ok (.bipush 24, 2) := by decide +kernel
theorem dX9_pack_211 : decode cX9_pack 211 = .ok (.istore 6, 2) := by decide +kernel
theorem dX9_pack_213 : decode cX9_pack 213 = .ok (.iload 6, 2) := by decide +kernel
theorem dX9_pack_215 : decode cX9_pack 215 = .ok (.ifCond .lt 34, 3) := by decide +kernel
theorem dX9_pack_218 : decode cX9_pack 218 = .ok (.aload_n 0, 1) := by decide +kernel
theorem dX9_pack_219 : decode cX9_pack 219 = .ok (.getfield 12, 3) := by decide +kernel
theorem dX9_pack_222 : decode cX9_pack 222 = .ok (.aload_n 0, 1) := by decide +kernel
theorem dX9_pack_223 : decode cX9_pack 223 = .ok (.getfield 16, 3) := by decide +kernel
theorem dX9_pack_226 : decode cX9_pack 226 = .ok (.iload 5, 2) := by decide +kernel
theorem dX9_pack_228 : decode cX9_pack 228 = .ok (.iload 6, 2) := by decide +kernel
theorem dX9_pack_230 : decode cX9_pack 230 = .ok (.iushr, 1) := by decide +kernel
theorem dX9_pack_231 : decode cX9_pack 231 = .ok (.i2b, 1) := by decide +kernel
theorem dX9_pack_232 : decode cX9_pack 232 = .ok (.bastore, 1) := by decide +kernel
theorem dX9_pack_233 : decode cX9_pack 233 = .ok (.aload_n 0, 1) := by decide +kernel
theorem dX9_pack_234 : decode cX9_pack 234 = .ok (.dup, 1) := by decide +kernel
theorem dX9_pack_235 : decode cX9_pack 235 = .ok (.getfield 16, 3) := by decide +kernel
theorem dX9_pack_238 : decode cX9_pack 238 = .ok (.iconst 1, 1) := by decide +kernel
theorem dX9_pack_239 : decode cX9_pack 239 = .ok (.iadd, 1) := by decide +kernel
theorem dX9_pack_240 : decode cX9_pack 240 = .ok (.putfield 16, 3) := by decide +kernel
theorem dX9_pack_243 : decode cX9_pack 243 = .ok (.iinc 6 (-8), 3) := by decide +kernel
theorem dX9_pack_246 : decode cX9_pack 246 = .ok (.goto (-33), 3) := by decide +kernel
theorem dX9_pack_249 : decode cX9_pack 249 = .ok (.return_, 1) := by decide +kernel
set_option maxRecDepth 20000 in
theorem ggX9_take_X9_must : GoodIn wsX9_take wsX9_must := goodIn_r _ [10, 11, 12, 13, 14, 15, 16, 17, 18, 19, 20, 21, 22, 23, 24, 25, 26, 27, 28, 29, 30, 31, 32, 33, 34, 35] (by decide +kernel) (by decide +kernel)
set_option maxRecDepth 20000 in
theorem gX9_take_X9_must : GoodIn wsX9_take (wsV RX9 62 RX9 yX9_must wsX9_must) := goodIn_app (goodIn_of _ (by decide +kernel)) ggX9_take_X9_must
theorem dX9_take_0 : decode cX9_take 0 = .ok (.aload_n 0, 1) := by decide +kernel
theorem dX9_take_1 : decode cX9_take 1 = .ok (.getfield 53, 3) := by decide +kernel
theorem dX9_take_4 : decode cX9_take 4 = .ok (.iload_n 1, 1) := by decide +kernel
theorem dX9_take_5 : decode cX9_take 5 = .ok (.if_icmp .ge 74, 3) := by decide +kernel
theorem dX9_take_8 : decode cX9_take 8 = .ok (.aload_n 0, 1) := by decide +kernel
theorem dX9_take_9 : decode cX9_take 9 = .ok (.aload_n 0, 1) := by decide +kernel
theorem dX9_take_10 : decode cX9_take 10 = .ok (.getfield 56, 3) := by decide +kernel
theorem dX9_take_13 : decode cX9_take 13 = .ok (.aload_n 0, 1) := by decide +kernel
theorem dX9_take_14 : decode cX9_take 14 = .ok (.getfield 59, 3) := by decide +kernel
theorem dX9_take_17 : decode cX9_take 17 = .ok (.if_icmp .ge 7, 3) := by decide +kernel
theorem dX9_take_20 : decode cX9_take 20 = .ok (.iconst 1, 1) := by decide +kernel
theorem dX9_take_21 : decode cX9_take 21 = .ok (.goto 4, 3) := by decide +kernel
theorem dX9_take_24 : decode cX9_take 24 = .ok (.iconst 0, 1) := by decide +kernel
theorem dX9_take_25 : decode cX9_take 25 = .ok (.invokevirtual 62, 3) := by decide +kernel
theorem dX9_take_28 : decode cX9_take 28 = .ok (.aload_n 0, 1) := by decide +kernel
theorem dX9_take_29 : decode cX9_take 29 = .ok (.dup, 1) := by decide +kernel
theorem dX9_take_30 : decode cX9_take 30 = .ok (.getfield 66, 3) := by decide +kernel
theorem dX9_take_33 : decode cX9_take 33 = .ok (.aload_n 0, 1) := by decide +kernel
theorem dX9_take_34 : decode cX9_take 34 = .ok (.getfield 69, 3) := by decide +kernel
theorem dX9_take_37 : decode cX9_take 37 = .ok (.aload_n 0, 1) := by decide +kernel
theorem dX9_take_38 : decode cX9_take 38 = .ok (.getfield 56, 3) := by decide +kernel
theorem dX9_take_41 : decode cX9_take 41 = .ok (.baload, 1) := by decide +kernel
theorem dX9_take_42 : decode cX9_take 42 = .ok (.sipush 255, 3) := by decide +kernel
theorem dX9_take_45 : decode cX9_take 45 = .ok (.iand, 1) := by decide +kernel
theorem dX9_take_46 : decode cX9_take 46 = .ok (.aload_n 0, 1) := by decide +kernel
theorem dX9_take_47 : decode cX9_take 47 = .ok (.getfield 53, 3) := by decide +kernel
theorem dX9_take_50 : decode cX9_take 50 = .ok (.ishl, 1) := by decide +kernel
theorem dX9_take_51 : decode cX9_take 51 = .ok (.ior, 1) := by decide +kernel
theorem dX9_take_52 : decode cX9_take 52 = .ok (.putfield 66, 3) := by decide +kernel
theorem dX9_take_55 : decode cX9_take 55 = .ok (.aload_n 0, 1) := by decide +kernel
theorem dX9_take_56 : decode cX9_take 56 = .ok (.dup, 1) := by decide +kernel
theorem dX9_take_57 : decode cX9_take 57 = .ok (.getfield 53, 3) := by decide +kernel
theorem dX9_take_60 : decode cX9_take 60 = .ok (.bipush 8, 2) := by decide +kernel
theorem dX9_take_62 : decode cX9_take 62 = .ok (.iadd, 1) := by decide +kernel
theorem dX9_take_63 : decode cX9_take 63 = .ok (.putfield 53, 3) := by decide +kernel
theorem dX9_take_66 : decode cX9_take 66 = .ok (.aload_n 0, 1) := by decide +kernel
theorem dX9_take_67 : decode cX9_take 67 = .ok (.dup, 1) := by decide +kernel
theorem dX9_take_68 : decode cX9_take 68 = .ok (.getfield 56, 3) := by decide +kernel
theorem dX9_take_71 : decode cX9_take 71 = .ok (.iconst 1, 1) := by decide +kernel
theorem dX9_take_72 : decode cX9_take 72 = .ok (.iadd, 1) := by decide +kernel
theorem dX9_take_73 : decode cX9_take 73 = .ok (.putfield 56, 3) := by decide +kernel
theorem dX9_take_76 : decode cX9_take 76 = .ok (.goto (-76), 3) := by decide +kernel
theorem dX9_take_79 : decode cX9_take 79 = .ok (.aload_n 0, 1) := by decide +kernel
theorem dX9_take_80 : decode cX9_take 80 = .ok (.getfield 66, 3) := by decide +kernel
theorem dX9_take_83 : decode cX9_take 83 = .ok (.iconst 1, 1) := by decide +kernel
theorem dX9_take_84 : decode cX9_take 84 = .ok (.iload_n 1, 1) := by decide +kernel
theorem dX9_take_85 : decode cX9_take 85 = .ok (.ishl, 1) := by decide +kernel
theorem dX9_take_86 : decode cX9_take 86 = .ok (.iconst 1, 1) := by decide +kernel
theorem dX9_take_87 : decode cX9_take 87 = .ok (.isub, 1) := by decide +kernel
theorem dX9_take_88 : decode cX9_take 88 = .ok (.iand, 1) := by decide +kernel
theorem dX9_take_89 : decode cX9_take 89 = .ok (.istore_n 2, 1) := by decide +kernel
theorem dX9_take_90 : decode cX9_take 90 = .ok (.aload_n 0, 1) := by decide +kernel
theorem dX9_take_91 : decode cX9_take 91 = .ok (.dup, 1) := by decide +kernel
theorem dX9_take_92 : decode cX9_take 92 = .ok (.getfield 66, 3) := by decide +kernel
theorem dX9_take_95 : decode cX9_take 95 = .ok (.iload_n 1, 1) := by decide +kernel
theorem dX9_take_96 : decode cX9_take 96 = .ok (.iushr, 1) := by decide +kernel
theorem dX9_take_97 : decode cX9_take 97 = .ok (.putfield 66, 3) := by decide +kernel
theorem dX9_take_100 : decode cX9_take 100 = .ok (.aload_n 0, 1) := by decide +kernel
theorem dX9_take_101 : decode cX9_take 101 = .ok (.dup, 1) := by decide +kernel
theorem dX9_take_102 : decode cX9_take 102 = .ok (.getfield 53, 3) := by decide +kernel
theorem dX9_take_105 : decode cX9_take 105 = .ok (.iload_n 1, 1) := by decide +kernel
theorem dX9_take_106 : decode cX9_take 106 = .ok (.isub, 1) := by decide +kernel
theorem dX9_take_107 : decode cX9_take 107 = .ok (.putfield 53, 3) := by decide +kernel
theorem dX9_take_110 : decode cX9_take 110 = .ok (.iload_n 2, 1) := by decide +kernel
theorem dX9_take_111 : decode cX9_take 111 = .ok (.ireturn, 1) := by decide +kernel
set_option maxRecDepth 20000 in
theorem ggX9_codes_X9_must : GoodIn wsX9_codes wsX9_must := goodIn_r _ [7, 8, 9, 10, 11, 12, 13, 14, 15, 16, 17, 18, 19, 20, 21, 22, 23, 24, 25, 26, 27, 28, 29, 30, 31, 32] (by decide +kernel) (by decide +kernel)
set_option maxRecDepth 20000 in
theorem gX9_codes_X9_must : GoodIn wsX9_codes (wsV RX9 62 RX9 yX9_must wsX9_must) := goodIn_app (goodIn_of _ (by decide +kernel)) ggX9_codes_X9_must
theorem dX9_codes_0 : decode cX9_codes 0 = .ok (.aload_n 0, 1) := by decide +kernel
theorem dX9_codes_1 : decode cX9_codes 1 = .ok (.getfield 72, 3) := by decide +kernel
theorem dX9_codes_4 : decode cX9_codes 4 = .ok (.iload_n 1, 1) := by decide +kernel
theorem dX9_codes_5 : decode cX9_codes 5 = .ok (.aaload, 1) := by decide +kernel
theorem dX9_codes_6 : decode cX9_codes 6 = .ok (.astore 4, 2) := by decide +kernel
theorem dX9_codes_8 : decode cX9_codes 8 = .ok (.iconst 0, 1) := by decide +kernel
theorem dX9_codes_9 : decode cX9_codes 9 = .ok (.istore 5, 2) := by decide +kernel
theorem dX9_codes_11 : decode cX9_codes 11 = .ok (.iload 5, 2) := by decide +kernel
theorem dX9_codes_13 : decode cX9_codes 13 = .ok (.bipush 16, 2) := by decide +kernel
theorem dX9_codes_15 : decode cX9_codes 15 = .ok (.if_icmp .ge 15, 3) := by decide +kernel
theorem dX9_codes_18 : decode cX9_codes 18 = .ok (.aload 4, 2) := by decide +kernel
theorem dX9_codes_20 : decode cX9_codes 20 = .ok (.iload 5, 2) := by decide +kernel
theorem dX9_codes_22 : decode cX9_codes 22 = .ok (.iconst 0, 1) := by decide +kernel
theorem dX9_codes_23 : decode cX9_codes 23 = .ok (.iastore, 1) := by decide +kernel
theorem dX9_codes_24 : decode cX9_codes 24 = .ok (.iinc 5 1, 3) := by decide +kernel
theorem dX9_codes_27 : decode cX9_codes 27 = .ok (.goto (-16), 3) := by decide +kernel
theorem dX9_codes_30 : decode cX9_codes 30 = .ok (.iconst 0, 1) := by decide +kernel
theorem dX9_codes_31 : decode cX9_codes 31 = .ok (.istore 5, 2) := by decide +kernel
theorem dX9_codes_33 : decode cX9_codes 33 = .ok (.iload 5, 2) := by decide +kernel
theorem dX9_codes_35 : decode cX9_codes 35 = .ok (.iload_n 3, 1) := by decide +kernel
theorem dX9_codes_36 : decode cX9_codes 36 = .ok (.if_icmp .ge 20, 3) := by decide +kernel
theorem dX9_codes_39 : decode cX9_codes 39 = .ok (.aload 4, 2) := by decide +kernel
theorem dX9_codes_41 : decode cX9_codes 41 = .ok (.aload_n 2, 1) := by decide +kernel
theorem dX9_codes_42 : decode cX9_codes 42 = .ok (.iload 5, 2) := by decide +kernel
theorem dX9_codes_44 : decode cX9_codes 44 = .ok (.iaload, 1) := by decide +kernel
theorem dX9_codes_45 : decode cX9_codes 45 = .ok (.dup2, 1) := by decide +kernel
theorem dX9_codes_46 : decode cX9_codes 46 = .ok (.iaload, 1) := by decide +kernel
theorem dX9_codes_47 : decode cX9_codes 47 = .ok (.iconst 1, 1) := by decide +kernel
theorem dX9_codes_48 : decode cX9_codes 48 = .ok (.iadd, 1) := by decide +kernel
theorem dX9_codes_49 : decode cX9_codes 49 = .ok (.iastore, 1) := by decide +kernel
theorem dX9_codes_50 : decode cX9_codes 50 = .ok (.iinc 5 1, 3) := by decide +kernel
theorem dX9_codes_53 : decode cX9_codes 53 = .ok (.goto (-20), 3) := by decide +kernel
theorem dX9_codes_56 : decode cX9_codes 56 = .ok (.iload_n 3, 1) := by decide +kernel
theorem dX9_codes_57 : decode cX9_codes 57 = .ok (.aload 4, 2) := by decide +kernel
theorem dX9_codes_59 : decode cX9_codes 59 = .ok (.iconst 0, 1) := by decide +kernel
theorem dX9_codes_60 : decode cX9_codes 60 = .ok (.iaload, 1) := by decide +kernel
theorem dX9_codes_61 : decode cX9_codes 61 = .ok (.isub, 1) := by decide +kernel
theorem dX9_codes_62 : decode cX9_codes 62 = .ok (.istore 5, 2) := by decide +kernel
theorem dX9_codes_64 : decode cX9_codes 64 = .ok (.aload 4, 2) := by decide +kernel
theorem dX9_codes_66 : decode cX9_codes 66 = .ok (.iconst 0, 1) := by decide +kernel
theorem dX9_codes_67 : decode cX9_codes 67 = .ok (.iconst 0, 1) := by decide +kernel
theorem dX9_codes_68 : decode cX9_codes 68 = .ok (.iastore, 1) := by decide +kernel
theorem dX9_codes_69 : decode cX9_codes 69 = .ok (.iconst 1, 1) := by decide +kernel
theorem dX9_codes_70 : decode cX9_codes 70 = .ok (.istore 6, 2) := by decide +kernel
theorem dX9_codes_72 : decode cX9_codes 72 = .ok (.iconst 1, 1) := by decide +kernel
theorem dX9_codes_73 : decode cX9_codes 73 = .ok (.istore 7, 2) := by decide +kernel
theorem dX9_codes_75 : decode cX9_codes 75 = .ok (.iload 7, 2) := by decide +kernel
theorem dX9_codes_77 : decode cX9_codes 77 = .ok (.bipush 16, 2) := by decide +kernel
theorem dX9_codes_79 : decode cX9_codes 79 = .ok (.if_icmp .ge 35, 3) := by decide +kernel
theorem dX9_codes_82 : decode cX9_codes 82 = .ok (.iconst 2, 1) := by decide +kernel
theorem dX9_codes_83 : decode cX9_codes 83 = .ok (.iload 6, 2) := by decide +kernel
theorem dX9_codes_85 : decode cX9_codes 85 = .ok (.imul, 1) := by decide +kernel
theorem dX9_codes_86 : decode cX9_codes 86 = .ok (.aload 4, 2) := by decide +kernel
theorem dX9_codes_88 : decode cX9_codes 88 = .ok (.iload 7, 2) := by decide +kernel
theorem dX9_codes_90 : decode cX9_codes 90 = .ok (.iaload, 1) := by decide +kernel
theorem dX9_codes_91 : decode cX9_codes 91 = .ok (.isub, 1) := by decide +kernel
theorem dX9_codes_92 : decode cX9_codes 92 = .ok (.istore 6, 2) := by decide +kernel
theorem dX9_codes_94 : decode cX9_codes 94 = .ok (.aload_n 0, 1) := by decide +kernel
theorem dX9_codes_95 : decode cX9_codes 95 = .ok (.iload 6, 2) := by decide +kernel
theorem dX9_codes_97 : decode cX9_codes 97 = .ok (.ifCond .lt 7, 3) := by decide +kernel
theorem dX9_codes_100 : decode cX9_codes 100 = .ok (.iconst 1, 1) := by decide +kernel
theorem dX9_codes_101 : decode cX9_codes 101 = .ok (.goto 4, 3) := by decide +kernel
theorem dX9_codes_104 : decode cX9_codes 104 = .ok (.iconst 0, 1) := by decide +kernel
theorem dX9_codes_105 : decode cX9_codes 105 = .ok (.invokevirtual 62, 3) := by decide +kernel
theorem dX9_codes_108 : decode cX9_codes 108 = .ok (.iinc 7 1, 3) := by decide +kernel
theorem dX9_codes_111 : decode cX9_codes 111 = .ok (.goto (-36), 3) := by decide +kernel
theorem dX9_codes_114 : decode cX9_codes 114 = .ok (.aload_n 0, 1) := by decide +kernel
theorem dX9_codes_115 : decode cX9_codes 115 = .ok (.iload 6, 2) := by decide +kernel
theorem dX9_codes_117 : decode cX9_codes 117 = .ok (.ifCond .eq 9, 3) := by decide +kernel
theorem dX9_codes_120 : decode cX9_codes 120 = .ok (.iload 5, 2) := by decide +kernel
theorem dX9_codes_122 : decode cX9_codes 122 = .ok (.iconst 1, 1) := by decide +kernel
theorem dX9_codes_123 : decode cX9_codes 123 = .ok (.if_icmp .gt 7, 3) := by decide +kernel
theorem dX9_codes_126 : decode cX9_codes 126 = .ok (.iconst 1, 1) := by decide +kernel
theorem dX9_codes_127 : decode cX9_codes 127 = .ok (.goto 4, 3) := by decide +kernel
theorem dX9_codes_130 : decode cX9_codes 130 = .ok (.iconst 0, 1) := by decide +kernel
theorem dX9_codes_131 : decode cX9_codes 131 = .ok (.invokevirtual 62, 3) := by decide +kernel
theorem dX9_codes_134 : decode cX9_codes 134 = .ok (.iconst 0, 1) := by decide +kernel
theorem dX9_codes_135 : decode cX9_codes 135 = .ok (.istore 7, 2) := by decide +kernel
theorem dX9_codes_137 : decode cX9_codes 137 = .ok (.iconst 1, 1) := by decide +kernel
theorem dX9_codes_138 : decode cX9_codes 138 = .ok (.istore 8, 2) := by decide +kernel
theorem dX9_codes_140 : decode cX9_codes 140 = .ok (.iload 8, 2) := by decide +kernel
theorem dX9_codes_142 : decode cX9_codes 142 = .ok (.bipush 16, 2) := by decide +kernel
theorem dX9_codes_144 : decode cX9_codes 144 = .ok (.if_icmp .ge 50, 3) := by decide +kernel
theorem dX9_codes_147 : decode cX9_codes 147 = .ok (.iconst 0, 1) := by decide +kernel
theorem dX9_codes_148 : decode cX9_codes 148 = .ok (.istore 9, 2) := by decide +kernel
theorem dX9_codes_150 : decode cX9_codes 150 = .ok (.iload 9, 2) := by decide +kernel
theorem dX9_codes_152 : decode cX9_codes 152 = .ok (.iload_n 3, 1) := by decide +kernel
theorem dX9_codes_153 : decode cX9_codes 153 = .ok (.if_icmp .ge 35, 3) := by decide +kernel
theorem dX9_codes_156 : decode cX9_codes 156 = .ok (.aload_n 2, 1) := by decide +kernel
theorem dX9_codes_157 : decode cX9_codes 157 = .ok (.iload 9, 2) := by decide +kernel
theorem dX9_codes_159 : decode cX9_codes 159 = .ok (.iaload, 1) := by decide +kernel
theorem dX9_codes_160 : decode cX9_codes 160 = .ok (.iload 8, 2) := by decide +kernel
theorem dX9_codes_162 : decode cX9_codes 162 = .ok (.if_icmp .eq 6, 3) := by decide +kernel
theorem dX9_codes_165 : decode cX9_codes 165 = .ok (.goto 17, 3) := by decide +kernel
theorem dX9_codes_168 : decode cX9_codes 168 = .ok (.aload_n 0, 1) := by decide +kernel
theorem dX9_codes_169 : decode cX9_codes 169 = .ok (.getfield 76, 3) := by decide +kernel
theorem dX9_codes_172 : decode cX9_codes 172 = .ok (.iload_n 1, 1) := by decide +kernel
theorem dX9_codes_173 : decode cX9_codes 173 = .ok (.aaload, 1) := by decide +kernel
theorem dX9_codes_174 : decode cX9_codes 174 = .ok (.iload 7, 2) := by decide +kernel
theorem dX9_codes_176 : decode cX9_codes 176 = .ok (.iload 9, 2) := by decide +kernel
theorem dX9_codes_178 : decode cX9_codes 178 = .ok (.iastore, 1) := by decide +kernel
theorem dX9_codes_179 : decode cX9_codes 179 = .ok (.iinc 7 1, 3) := by decide +kernel
theorem dX9_codes_182 : decode cX9_codes 182 = .ok (.iinc 9 1, 3) := by decide +kernel
theorem dX9_codes_185 : decode cX9_codes 185 = .ok (.goto (-35), 3) := by decide +kernel
theorem dX9_codes_188 : decode cX9_codes 188 = .ok (.iinc 8 1, 3) := by decide +kernel
theorem dX9_codes_191 : decode cX9_codes 191 = .ok (.goto (-51), 3) := by decide +kernel
theorem dX9_codes_194 : decode cX9_codes 194 = .ok (.return_, 1) := by decide +kernel
set_option maxRecDepth 20000 in
theorem ggX9_decode_X9_take : GoodIn wsX9_decode wsX9_take := goodIn_r _ [7, 8, 9, 10, 11, 12, 13, 14, 15, 6, 16, 17, 18, 19, 20, 21, 22, 23, 24, 25, 26, 27, 28, 29, 30, 31, 32, 33, 34, 35, 36, 37, 38, 39, 40, 41] (by decide +kernel) (by decide +kernel)
set_option maxRecDepth 20000 in
theorem gX9_decode_X9_take : GoodIn wsX9_decode (wsV RX9 79 RX9 yX9_take wsX9_take) := goodIn_app (goodIn_of _ (by decide +kernel)) ggX9_decode_X9_take
set_option maxRecDepth 20000 in
theorem ggX9_decode_X9_must : GoodIn wsX9_decode wsX9_must := goodIn_r _ [16, 17, 18, 19, 20, 21, 22, 23, 24, 25, 26, 27, 28, 29, 30, 31, 32, 33, 34, 35, 36, 37, 38, 39, 40, 41] (by decide +kernel) (by decide +kernel)
set_option maxRecDepth 20000 in
theorem gX9_decode_X9_must : GoodIn wsX9_decode (wsV RX9 62 RX9 yX9_must wsX9_must) := goodIn_app (goodIn_of _ (by decide +kernel)) ggX9_decode_X9_must
theorem dX9_decode_0 : decode cX9_decode 0 = .ok (.iconst 0, 1) := by decide +kernel
theorem dX9_decode_1 : decode cX9_decode 1 = .ok (.istore_n 2, 1) := by decide +kernel
theorem dX9_decode_2 : decode cX9_decode 2 = .ok (.iconst 0, 1) := by decide +kernel
theorem dX9_decode_3 : decode cX9_decode 3 = .ok (.istore_n 3, 1) := by decide +kernel
theorem dX9_decode_4 : decode cX9_decode 4 = .ok (.iconst 0, 1) := by decide +kernel
theorem dX9_decode_5 : decode cX9_decode 5 = .ok (.istore 4, 2) := by decide +kernel
theorem dX9_decode_7 : decode cX9_decode 7 = .ok (.iconst 1, 1) := by decide +kernel
theorem dX9_decode_8 : decode cX9_decode 8 = .ok (.istore 5, 2) := by decide +kernel
