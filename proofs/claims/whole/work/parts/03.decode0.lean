theorem dX0_init_0 : decode cX0_init 0 = .ok (.aload_n 0, 1) := by decide +kernel
theorem dX0_init_1 : decode cX0_init 1 = .ok (.invokespecial 1, 3) := by decide +kernel
theorem dX0_init_4 : decode cX0_init 4 = .ok (.return_, 1) := by decide +kernel
theorem dX0_begin_0 : decode cX0_begin 0 = .ok (.aload_n 0, 1) := by decide +kernel
theorem dX0_begin_1 : decode cX0_begin 1 = .ok (.aload_n 1, 1) := by decide +kernel
theorem dX0_begin_2 : decode cX0_begin 2 = .ok (.putfield 7, 3) := by decide +kernel
theorem dX0_begin_5 : decode cX0_begin 5 = .ok (.aload_n 0, 1) := by decide +kernel
theorem dX0_begin_6 : decode cX0_begin 6 = .ok (.iconst 0, 1) := by decide +kernel
theorem dX0_begin_7 : decode cX0_begin 7 = .ok (.putfield 13, 3) := by decide +kernel
theorem dX0_begin_10 : decode cX0_begin 10 = .ok (.aload_n 0, 1) := by decide +kernel
theorem dX0_begin_11 : decode cX0_begin 11 = .ok (.iload_n 2, 1) := by decide +kernel
theorem dX0_begin_12 : decode cX0_begin 12 = .ok (.bipush 8, 2) := by decide +kernel
theorem dX0_begin_14 : decode cX0_begin 14 = .ok (.imul, 1) := by decide +kernel
theorem dX0_begin_15 : decode cX0_begin 15 = .ok (.putfield 17, 3) := by decide +kernel
theorem dX0_begin_18 : decode cX0_begin 18 = .ok (.return_, 1) := by decide +kernel
theorem dX0_readBit_0 : decode cX0_readBit 0 = .ok (.aload_n 0, 1) := by decide +kernel
theorem dX0_readBit_1 : decode cX0_readBit 1 = .ok (.getfield 13, 3) := by decide +kernel
theorem dX0_readBit_4 : decode cX0_readBit 4 = .ok (.aload_n 0, 1) := by decide +kernel
theorem dX0_readBit_5 : decode cX0_readBit 5 = .ok (.getfield 17, 3) := by decide +kernel
theorem dX0_readBit_8 : decode cX0_readBit 8 = .ok (.if_icmp .lt 13, 3) := by decide +kernel
theorem dX0_readBit_11 : decode cX0_readBit 11 = .ok (.new 20, 3) := by decide +kernel
theorem dX0_readBit_14 : decode cX0_readBit 14 = .ok (.dup, 1) := by decide +kernel
theorem dX0_readBit_15 : decode cX0_readBit 15 = .ok (.ldc 22, 2) := by decide +kernel
theorem dX0_readBit_17 : decode cX0_readBit 17 = .ok (.invokespecial 24, 3) := by decide +kernel
theorem dX0_readBit_20 : decode cX0_readBit 20 = .ok (.athrow, 1) := by decide +kernel
theorem dX0_readBit_21 : decode cX0_readBit 21 = .ok (.aload_n 0, 1) := by decide +kernel
theorem dX0_readBit_22 : decode cX0_readBit 22 = .ok (.getfield 7, 3) := by decide +kernel
theorem dX0_readBit_25 : decode cX0_readBit 25 = .ok (.aload_n 0, 1) := by decide +kernel
theorem dX0_readBit_26 : decode cX0_readBit 26 = .ok (.getfield 13, 3) := by decide +kernel
theorem dX0_readBit_29 : decode cX0_readBit 29 = .ok (.iconst 3, 1) := by decide +kernel
theorem dX0_readBit_30 : decode cX0_readBit 30 = .ok (.iushr, 1) := by decide +kernel
theorem dX0_readBit_31 : decode cX0_readBit 31 = .ok (.baload, 1) := by decide +kernel
theorem dX0_readBit_32 : decode cX0_readBit 32 = .ok (.aload_n 0, 1) := by decide +kernel
theorem dX0_readBit_33 : decode cX0_readBit 33 = .ok (.getfield 13, 3) := by decide +kernel
theorem dX0_readBit_36 : decode cX0_readBit 36 = .ok (.bipush 7, 2) := by decide +kernel
theorem dX0_readBit_38 : decode cX0_readBit 38 = .ok (.iand, 1) := by decide +kernel
theorem dX0_readBit_39 : decode cX0_readBit 39 = .ok (.iushr, 1) := by decide +kernel
theorem dX0_readBit_40 : decode cX0_readBit 40 = .ok (.iconst 1, 1) := by decide +kernel
theorem dX0_readBit_41 : decode cX0_readBit 41 = .ok (.iand, 1) := by decide +kernel
theorem dX0_readBit_42 : decode cX0_readBit 42 = .ok (.istore_n 1, 1) := by decide +kernel
theorem dX0_readBit_43 : decode cX0_readBit 43 = .ok (.aload_n 0, 1) := by decide +kernel
theorem dX0_readBit_44 : decode cX0_readBit 44 = .ok (.dup, 1) := by decide +kernel
theorem dX0_readBit_45 : decode cX0_readBit 45 = .ok (.getfield 13, 3) := by decide +kernel
theorem dX0_readBit_48 : decode cX0_readBit 48 = .ok (.iconst 1, 1) := by decide +kernel
theorem dX0_readBit_49 : decode cX0_readBit 49 = .ok (.iadd, 1) := by decide +kernel
theorem dX0_readBit_50 : decode cX0_readBit 50 = .ok (.putfield 13, 3) := by decide +kernel
theorem dX0_readBit_53 : decode cX0_readBit 53 = .ok (.iload_n 1, 1) := by decide +kernel
theorem dX0_readBit_54 : decode cX0_readBit 54 = .ok (.ireturn, 1) := by decide +kernel
set_option maxRecDepth 20000 in
theorem ggX0_readBits_X0_readBit : GoodIn wsX0_readBits wsX0_readBit := goodIn_ca (goodIn_r _ [5, 6, 7, 8, 9, 10, 11, 12, 13] (by decide +kernel) (by decide +kernel)) (goodIn_sub (fun _ h => List.mem_cons_of_mem _ (List.mem_append_right _ h)) (by decide +kernel))
set_option maxRecDepth 20000 in
theorem gX0_readBits_X0_readBit : GoodIn wsX0_readBits (wsV RX0 27 RX0 yX0_readBit wsX0_readBit) := goodIn_app (goodIn_of _ (by decide +kernel)) ggX0_readBits_X0_readBit
theorem dX0_readBits_0 : decode cX0_readBits 0 = .ok (.iconst 0, 1) := by decide +kernel
theorem dX0_readBits_1 : decode cX0_readBits 1 = .ok (.istore_n 2, 1) := by decide +kernel
theorem dX0_readBits_2 : decode cX0_readBits 2 = .ok (.iconst 0, 1) := by decide +kernel
theorem dX0_readBits_3 : decode cX0_readBits 3 = .ok (.istore_n 3, 1) := by decide +kernel
theorem dX0_readBits_4 : decode cX0_readBits 4 = .ok (.iload_n 3, 1) := by decide +kernel
theorem dX0_readBits_5 : decode cX0_readBits 5 = .ok (.iload_n 1, 1) := by decide +kernel
theorem dX0_readBits_6 : decode cX0_readBits 6 = .ok (.if_icmp .ge 18, 3) := by decide +kernel
theorem dX0_readBits_9 : decode cX0_readBits 9 = .ok (.iload_n 2, 1) := by decide +kernel
theorem dX0_readBits_10 : decode cX0_readBits 10 = .ok (.aload_n 0, 1) := by decide +kernel
theorem dX0_readBits_11 : decode cX0_readBits 11 = .ok (.invokevirtual 27, 3) := by decide +kernel
theorem dX0_readBits_14 : decode cX0_readBits 14 = .ok (.iload_n 3, 1) := by decide +kernel
theorem dX0_readBits_15 : decode cX0_readBits 15 = .ok (.ishl, 1) := by decide +kernel
theorem dX0_readBits_16 : decode cX0_readBits 16 = .ok (.ior, 1) := by decide +kernel
theorem dX0_readBits_17 : decode cX0_readBits 17 = .ok (.istore_n 2, 1) := by decide +kernel
theorem dX0_readBits_18 : decode cX0_readBits 18 = .ok (.iinc 3 1, 3) := by decide +kernel
theorem dX0_readBits_21 : decode cX0_readBits 21 = .ok (.goto (-17), 3) := by decide +kernel
theorem dX0_readBits_24 : decode cX0_readBits 24 = .ok (.iload_n 2, 1) := by decide +kernel
theorem dX0_readBits_25 : decode cX0_readBits 25 = .ok (.ireturn, 1) := by decide +kernel
theorem dX0_skipToByte_0 : decode cX0_skipToByte 0 = .ok (.aload_n 0, 1) := by decide +kernel
theorem dX0_skipToByte_1 : decode cX0_skipToByte 1 = .ok (.aload_n 0, 1) := by decide +kernel
theorem dX0_skipToByte_2 : decode cX0_skipToByte 2 = .ok (.getfield 13, 3) := by decide +kernel
theorem dX0_skipToByte_5 : decode cX0_skipToByte 5 = .ok (.bipush 7, 2) := by decide +kernel
theorem dX0_skipToByte_7 : decode cX0_skipToByte 7 = .ok (.iadd, 1) := by decide +kernel
theorem dX0_skipToByte_8 : decode cX0_skipToByte 8 = .ok (.bipush (-8), 2) := by decide +kernel
theorem dX0_skipToByte_10 : decode cX0_skipToByte 10 = .ok (.iand, 1) := by decide +kernel
theorem dX0_skipToByte_11 : decode cX0_skipToByte 11 = .ok (.putfield 13, 3) := by decide +kernel
theorem dX0_skipToByte_14 : decode cX0_skipToByte 14 = .ok (.return_, 1) := by decide +kernel
theorem dX0_isAtLimit_0 : decode cX0_isAtLimit 0 = .ok (.aload_n 0, 1) := by decide +kernel
theorem dX0_isAtLimit_1 : decode cX0_isAtLimit 1 = .ok (.getfield 13, 3) := by decide +kernel
theorem dX0_isAtLimit_4 : decode cX0_isAtLimit 4 = .ok (.aload_n 0, 1) := by decide +kernel
theorem dX0_isAtLimit_5 : decode cX0_isAtLimit 5 = .ok (.getfield 17, 3) := by decide +kernel
theorem dX0_isAtLimit_8 : decode cX0_isAtLimit 8 = .ok (.if_icmp .ne 7, 3) := by decide +kernel
theorem dX0_isAtLimit_11 : decode cX0_isAtLimit 11 = .ok (.iconst 1, 1) := by decide +kernel
theorem dX0_isAtLimit_12 : decode cX0_isAtLimit 12 = .ok (.goto 4, 3) := by decide +kernel
theorem dX0_isAtLimit_15 : decode cX0_isAtLimit 15 = .ok (.iconst 0, 1) := by decide +kernel
theorem dX0_isAtLimit_16 : decode cX0_isAtLimit 16 = .ok (.ireturn, 1) := by decide +kernel
theorem dX1_init_0 : decode cX1_init 0 = .ok (.aload_n 0, 1) := by decide +kernel
theorem dX1_init_1 : decode cX1_init 1 = .ok (.invokespecial 1, 3) := by decide +kernel
theorem dX1_init_4 : decode cX1_init 4 = .ok (.return_, 1) := by decide +kernel
theorem dX1_begin_0 : decode cX1_begin 0 = .ok (.aload_n 0, 1) := by decide +kernel
theorem dX1_begin_1 : decode cX1_begin 1 = .ok (.aload_n 1, 1) := by decide +kernel
theorem dX1_begin_2 : decode cX1_begin 2 = .ok (.putfield 7, 3) := by decide +kernel
theorem dX1_begin_5 : decode cX1_begin 5 = .ok (.aload_n 0, 1) := by decide +kernel
theorem dX1_begin_6 : decode cX1_begin 6 = .ok (.iconst 0, 1) := by decide +kernel
theorem dX1_begin_7 : decode cX1_begin 7 = .ok (.putfield 13, 3) := by decide +kernel
theorem dX1_begin_10 : decode cX1_begin 10 = .ok (.aload_n 0, 1) := by decide +kernel
theorem dX1_begin_11 : decode cX1_begin 11 = .ok (.iconst 0, 1) := by decide +kernel
theorem dX1_begin_12 : decode cX1_begin 12 = .ok (.putfield 17, 3) := by decide +kernel
theorem dX1_begin_15 : decode cX1_begin 15 = .ok (.aload_n 0, 1) := by decide +kernel
theorem dX1_begin_16 : decode cX1_begin 16 = .ok (.iconst 0, 1) := by decide +kernel
theorem dX1_begin_17 : decode cX1_begin 17 = .ok (.putfield 20, 3) := by decide +kernel
theorem dX1_begin_20 : decode cX1_begin 20 = .ok (.return_, 1) := by decide +kernel
theorem dX1_writeBits_0 : decode cX1_writeBits 0 = .ok (.aload_n 0, 1) := by decide +kernel
theorem dX1_writeBits_1 : decode cX1_writeBits 1 = .ok (.dup, 1) := by decide +kernel
theorem dX1_writeBits_2 : decode cX1_writeBits 2 = .ok (.getfield 17, 3) := by decide +kernel
theorem dX1_writeBits_5 : decode cX1_writeBits 5 = .ok (.iload_n 1, 1) := by decide +kernel
theorem dX1_writeBits_6 : decode cX1_writeBits 6 = .ok (.aload_n 0, 1) := by decide +kernel
theorem dX1_writeBits_7 : decode cX1_writeBits 7 = .ok (.getfield 20, 3) := by decide +kernel
theorem dX1_writeBits_10 : decode cX1_writeBits 10 = .ok (.ishl, 1) := by decide +kernel
theorem dX1_writeBits_11 : decode cX1_writeBits 11 = .ok (.ior, 1) := by decide +kernel
theorem dX1_writeBits_12 : decode cX1_writeBits 12 = .ok (.putfield 17, 3) := by decide +kernel
theorem dX1_writeBits_15 : decode cX1_writeBits 15 = .ok (.aload_n 0, 1) := by decide +kernel
theorem dX1_writeBits_16 : decode cX1_writeBits 16 = .ok (.dup, 1) := by decide +kernel
theorem dX1_writeBits_17 : decode cX1_writeBits 17 = .ok (.getfield 20, 3) := by decide +kernel
theorem dX1_writeBits_20 : decode cX1_writeBits 20 = .ok (.iload_n 2, 1) := by decide +kernel
theorem dX1_writeBits_21 : decode cX1_writeBits 21 = .ok (.iadd, 1) := by decide +kernel
theorem dX1_writeBits_22 : decode cX1_writeBits 22 = .ok (.putfield 20, 3) := by decide +kernel
theorem dX1_writeBits_25 : decode cX1_writeBits 25 = .ok (.aload_n 0, 1) := by decide +kernel
theorem dX1_writeBits_26 : decode cX1_writeBits 26 = .ok (.getfield 20, 3) := by decide +kernel
theorem dX1_writeBits_29 : decode cX1_writeBits 29 = .ok (.bipush 8, 2) := by decide +kernel
theorem dX1_writeBits_31 : decode cX1_writeBits 31 = .ok (.if_icmp .lt 52, 3) := by decide +kernel
theorem dX1_writeBits_34 : decode cX1_writeBits 34 = .ok (.aload_n 0, 1) := by decide +kernel
theorem dX1_writeBits_35 : decode cX1_writeBits 35 = .ok (.getfield 7, 3) := by decide +kernel
theorem dX1_writeBits_38 : decode cX1_writeBits 38 = .ok (.aload_n 0, 1) := by decide +kernel
theorem dX1_writeBits_39 : decode cX1_writeBits 39 = .ok (.getfield 13, 3) := by decide +kernel
theorem dX1_writeBits_42 : decode cX1_writeBits 42 = .ok (.aload_n 0, 1) := by decide +kernel
theorem dX1_writeBits_43 : decode cX1_writeBits 43 = .ok (.getfield 17, 3) := by decide +kernel
theorem dX1_writeBits_46 : decode cX1_writeBits 46 = .ok (.i2b, 1) := by decide +kernel
theorem dX1_writeBits_47 : decode cX1_writeBits 47 = .ok (.bastore, 1) := by decide +kernel
theorem dX1_writeBits_48 : decode cX1_writeBits 48 = .ok (.aload_n 0, 1) := by decide +kernel
theorem dX1_writeBits_49 : decode cX1_writeBits 49 = .ok (.dup, 1) := by decide +kernel
theorem dX1_writeBits_50 : decode cX1_writeBits 50 = .ok (.getfield 13, 3) := by decide +kernel
theorem dX1_writeBits_53 : decode cX1_writeBits 53 = .ok (.iconst 1, 1) := by decide +kernel
theorem dX1_writeBits_54 : decode cX1_writeBits 54 = .ok (.iadd, 1) := by decide +kernel
theorem dX1_writeBits_55 : decode cX1_writeBits 55 = .ok (.putfield 13, 3) := by decide +kernel
theorem dX1_writeBits_58 : decode cX1_writeBits 58 = .ok (.aload_n 0, 1) := by decide +kernel
theorem dX1_writeBits_59 : decode cX1_writeBits 59 = .ok (.dup, 1) := by decide +kernel
theorem dX1_writeBits_60 : decode cX1_writeBits 60 = .ok (.getfield 17, 3) := by decide +kernel
theorem dX1_writeBits_63 : decode cX1_writeBits 63 = .ok (.bipush 8, 2) := by decide +kernel
theorem dX1_writeBits_65 : decode cX1_writeBits 65 = .ok (.iushr, 1) := by decide +kernel
theorem dX1_writeBits_66 : decode cX1_writeBits 66 = .ok (.putfield 17, 3) := by decide +kernel
theorem dX1_writeBits_69 : decode cX1_writeBits 69 = .ok (.aload_n 0, 1) := by decide +kernel
theorem dX1_writeBits_70 : decode cX1_writeBits 70 = .ok (.dup, 1) := by decide +kernel
theorem dX1_writeBits_71 : decode cX1_writeBits 71 = .ok (.getfield 20, 3) := by decide +kernel
theorem dX1_writeBits_74 : decode cX1_writeBits 74 = .ok (.bipush 8, 2) := by decide +kernel
theorem dX1_writeBits_76 : decode cX1_writeBits 76 = .ok (.isub, 1) := by decide +kernel
theorem dX1_writeBits_77 : decode cX1_writeBits 77 = .ok (.putfield 20, 3) := by decide +kernel
theorem dX1_writeBits_80 : decode cX1_writeBits 80 = .ok (.goto (-55), 3) := by decide +kernel
theorem dX1_writeBits_83 : decode cX1_writeBits 83 = .ok (.return_, 1) := by decide +kernel
set_option maxRecDepth 20000 in
theorem ggX1_writeCode_X1_writeBits : GoodIn wsX1_writeCode wsX1_writeBits := goodIn_r _ [5, 6, 7, 8, 9, 10, 11, 12, 13] (by decide +kernel) (by decide +kernel)
set_option maxRecDepth 20000 in
theorem gX1_writeCode_X1_writeBits : GoodIn wsX1_writeCode (wsV RX1 23 RX1 yX1_writeBits wsX1_writeBits) := goodIn_app (goodIn_of _ (by decide +kernel)) ggX1_writeCode_X1_writeBits
theorem dX1_writeCode_0 : decode cX1_writeCode 0 = .ok (.iload_n 2, 1) := by decide +kernel
theorem dX1_writeCode_1 : decode cX1_writeCode 1 = .ok (.iconst 1, 1) := by decide +kernel
theorem dX1_writeCode_2 : decode cX1_writeCode 2 = .ok (.isub, 1) := by decide +kernel
theorem dX1_writeCode_3 : decode cX1_writeCode 3 = .ok (.istore_n 3, 1) := by decide +kernel
theorem dX1_writeCode_4 : decode cX1_writeCode 4 = .ok (.iload_n 3, 1) := by decide +kernel
theorem dX1_writeCode_5 : decode cX1_writeCode 5 = .ok (.ifCond .lt 19, 3) := by decide +kernel
theorem dX1_writeCode_8 : decode cX1_writeCode 8 = .ok (.aload_n 0, 1) := by decide +kernel
theorem dX1_writeCode_9 : decode cX1_writeCode 9 = .ok (.iload_n 1, 1) := by decide +kernel
theorem dX1_writeCode_10 : decode cX1_writeCode 10 = .ok (.iload_n 3, 1) := by decide +kernel
theorem dX1_writeCode_11 : decode cX1_writeCode 11 = .ok (.iushr, 1) := by decide +kernel
theorem dX1_writeCode_12 : decode cX1_writeCode 12 = .ok (.iconst 1, 1) := by decide +kernel
theorem dX1_writeCode_13 : decode cX1_writeCode 13 = .ok (.iand, 1) := by decide +kernel
theorem dX1_writeCode_14 : decode cX1_writeCode 14 = .ok (.iconst 1, 1) := by decide +kernel
theorem dX1_writeCode_15 : decode cX1_writeCode 15 = .ok (.invokevirtual 23, 3) := by decide +kernel
theorem dX1_writeCode_18 : decode cX1_writeCode 18 = .ok (.iinc 3 (-1), 3) := by decide +kernel
theorem dX1_writeCode_21 : decode cX1_writeCode 21 = .ok (.goto (-17), 3) := by decide +kernel
theorem dX1_writeCode_24 : decode cX1_writeCode 24 = .ok (.return_, 1) := by decide +kernel
set_option maxRecDepth 20000 in
theorem ggX1_endByte_X1_writeBits : GoodIn wsX1_endByte wsX1_writeBits := goodIn_r _ [6, 7, 1, 8, 9, 10, 11, 12, 13] (by decide +kernel) (by decide +kernel)
set_option maxRecDepth 20000 in
theorem gX1_endByte_X1_writeBits : GoodIn wsX1_endByte (wsV RX1 23 RX1 yX1_writeBits wsX1_writeBits) := goodIn_app (goodIn_of _ (by decide +kernel)) ggX1_endByte_X1_writeBits
theorem dX1_endByte_0 : decode cX1_endByte 0 = .ok (.aload_n 0, 1) := by decide +kernel
theorem dX1_endByte_1 : decode cX1_endByte 1 = .ok (.getfield 20, 3) := by decide +kernel
theorem dX1_endByte_4 : decode cX1_endByte 4 = .ok (.ifCond .le 15, 3) := by decide +kernel
theorem dX1_endByte_7 : decode cX1_endByte 7 = .ok (.aload_n 0, 1) := by decide +kernel
theorem dX1_endByte_8 : decode cX1_endByte 8 = .ok (.iconst 0, 1) := by decide +kernel
theorem dX1_endByte_9 : decode cX1_endByte 9 = .ok (.bipush 8, 2) := by decide +kernel
theorem dX1_endByte_11 : decode cX1_endByte 11 = .ok (.aload_n 0, 1) := by decide +kernel
theorem dX1_endByte_12 : decode cX1_endByte 12 = .ok (.getfield 20, 3) := by decide +kernel
theorem dX1_endByte_15 : decode cX1_endByte 15 = .ok (.isub, 1) := by decide +kernel
theorem dX1_endByte_16 : decode cX1_endByte 16 = .ok (.invokevirtual 23, 3) := by decide +kernel
theorem dX1_endByte_19 : decode cX1_endByte 19 = .ok (.return_, 1) := by decide +kernel
theorem dX1_written_0 : decode cX1_written 0 = .ok (.aload_n 0, 1) := by decide +kernel
theorem dX1_written_1 : decode cX1_written 1 = .ok (.getfield 13, 3) := by decide +kernel
theorem dX1_written_4 : decode cX1_written 4 = .ok (.ireturn, 1) := by decide +kernel
theorem dX2_init_0 : decode cX2_init 0 = .ok (.aload_n 0, 1) := by decide +kernel
theorem dX2_init_1 : decode cX2_init 1 = .ok (.invokespecial 1, 3) := by decide +kernel
theorem dX2_init_4 : decode cX2_init 4 = .ok (.aload_n 0, 1) := by decide +kernel
theorem dX2_init_5 : decode cX2_init 5 = .ok (.bipush 16, 2) := by decide +kernel
theorem dX2_init_7 : decode cX2_init 7 = .ok (.newarray .int, 2) := by decide +kernel
theorem dX2_init_9 : decode cX2_init 9 = .ok (.putfield 9, 3) := by decide +kernel
theorem dX2_init_12 : decode cX2_init 12 = .ok (.aload_n 0, 1) := by decide +kernel
theorem dX2_init_13 : decode cX2_init 13 = .ok (.bipush 16, 2) := by decide +kernel
theorem dX2_init_15 : decode cX2_init 15 = .ok (.newarray .int, 2) := by decide +kernel
theorem dX2_init_17 : decode cX2_init 17 = .ok (.putfield 13, 3) := by decide +kernel
theorem dX2_init_20 : decode cX2_init 20 = .ok (.aload_n 0, 1) := by decide +kernel
theorem dX2_init_21 : decode cX2_init 21 = .ok (.iload_n 1, 1) := by decide +kernel
theorem dX2_init_22 : decode cX2_init 22 = .ok (.newarray .int, 2) := by decide +kernel
theorem dX2_init_24 : decode cX2_init 24 = .ok (.putfield 16, 3) := by decide +kernel
theorem dX2_init_27 : decode cX2_init 27 = .ok (.return_, 1) := by decide +kernel
set_option maxRecDepth 20000 in
theorem ggX2_learn_X2_sortSymbols : GoodIn wsX2_learn wsX2_sortSymbols := goodIn_r _ [6, 7, 1, 8, 9, 10, 11] (by decide +kernel) (by decide +kernel)
set_option maxRecDepth 20000 in
theorem gX2_learn_X2_sortSymbols : GoodIn wsX2_learn (wsV RX2 19 RX2 yX2_sortSymbols wsX2_sortSymbols) := goodIn_app (goodIn_of _ (by decide +kernel)) ggX2_learn_X2_sortSymbols
theorem dX2_learn_0 : decode cX2_learn 0 = .ok (.iconst 0, 1) := by decide +kernel
theorem dX2_learn_1 : decode cX2_learn 1 = .ok (.istore 4, 2) := by decide +kernel
theorem dX2_learn_3 : decode cX2_learn 3 = .ok (.iload 4, 2) := by decide +kernel
theorem dX2_learn_5 : decode cX2_learn 5 = .ok (.bipush 15, 2) := by decide +kernel
theorem dX2_learn_7 : decode cX2_learn 7 = .ok (.if_icmp .gt 17, 3) := by decide +kernel
theorem dX2_learn_10 : decode cX2_learn 10 = .ok (.aload_n 0, 1) := by decide +kernel
theorem dX2_learn_11 : decode cX2_learn 11 = .ok (.getfield 9, 3) := by decide +kernel
theorem dX2_learn_14 : decode cX2_learn 14 = .ok (.iload 4, 2) := by decide +kernel
theorem dX2_learn_16 : decode cX2_learn 16 = .ok (.iconst 0, 1) := by decide +kernel
theorem dX2_learn_17 : decode cX2_learn 17 = .ok (.iastore, 1) := by decide +kernel
theorem dX2_learn_18 : decode cX2_learn 18 = .ok (.iinc 4 1, 3) := by decide +kernel
theorem dX2_learn_21 : decode cX2_learn 21 = .ok (.goto (-18), 3) := by decide +kernel
theorem dX2_learn_24 : decode cX2_learn 24 = .ok (.iconst 0, 1) := by decide +kernel
theorem dX2_learn_25 : decode cX2_learn 25 = .ok (.istore 4, 2) := by decide +kernel
theorem dX2_learn_27 : decode cX2_learn 27 = .ok (.iload 4, 2) := by decide +kernel
theorem dX2_learn_29 : decode cX2_learn 29 = .ok (.iload_n 3, 1) := by decide +kernel
theorem dX2_learn_30 : decode cX2_learn 30 = .ok (.if_icmp .ge 24, 3) := by decide +kernel
theorem dX2_learn_33 : decode cX2_learn 33 = .ok (.aload_n 0, 1) := by decide +kernel
theorem dX2_learn_34 : decode cX2_learn 34 = .ok (.getfield 9, 3) := by decide +kernel
theorem dX2_learn_37 : decode cX2_learn 37 = .ok (.aload_n 1, 1) := by decide +kernel
theorem dX2_learn_38 : decode cX2_learn 38 = .ok (.iload_n 2, 1) := by decide +kernel
theorem dX2_learn_39 : decode cX2_learn 39 = .ok (.iload 4, 2) := by decide +kernel
theorem dX2_learn_41 : decode cX2_learn 41 = .ok (.iadd, 1) := by decide +kernel
theorem dX2_learn_42 : decode cX2_learn 42 = .ok (.iaload, 1) := by decide +kernel
theorem dX2_learn_43 : decode cX2_learn 43 = .ok (.dup2, 1) := by decide +kernel
theorem dX2_learn_44 : decode cX2_learn 44 = .ok (.iaload, 1) := by decide +kernel
theorem dX2_learn_45 : decode cX2_learn 45 = .ok (.iconst 1, 1) := by decide +kernel
theorem dX2_learn_46 : decode cX2_learn 46 = .ok (.iadd, 1) := by decide +kernel
theorem dX2_learn_47 : decode cX2_learn 47 = .ok (.iastore, 1) := by decide +kernel
theorem dX2_learn_48 : decode cX2_learn 48 = .ok (.iinc 4 1, 3) := by decide +kernel
theorem dX2_learn_51 : decode cX2_learn 51 = .ok (.goto (-24), 3) := by decide +kernel
theorem dX2_learn_54 : decode cX2_learn 54 = .ok (.aload_n 0, 1) := by decide +kernel
theorem dX2_learn_55 : decode cX2_learn 55 = .ok (.aload_n 1, 1) := by decide +kernel
theorem dX2_learn_56 : decode cX2_learn 56 = .ok (.iload_n 2, 1) := by decide +kernel
theorem dX2_learn_57 : decode cX2_learn 57 = .ok (.iload_n 3, 1) := by decide +kernel
theorem dX2_learn_58 : decode cX2_learn 58 = .ok (.invokevirtual 19, 3) := by decide +kernel
theorem dX2_learn_61 : decode cX2_learn 61 = .ok (.return_, 1) := by decide +kernel
theorem dX2_isAllowed_0 : decode cX2_isAllowed 0 = .ok (.iconst 1, 1) := by decide +kernel
theorem dX2_isAllowed_1 : decode cX2_isAllowed 1 = .ok (.istore_n 1, 1) := by decide +kernel
theorem dX2_isAllowed_2 : decode cX2_isAllowed 2 = .ok (.iconst 0, 1) := by decide +kernel
theorem dX2_isAllowed_3 : decode cX2_isAllowed 3 = .ok (.istore_n 2, 1) := by decide +kernel
theorem dX2_isAllowed_4 : decode cX2_isAllowed 4 = .ok (.iconst 1, 1) := by decide +kernel
theorem dX2_isAllowed_5 : decode cX2_isAllowed 5 = .ok (.istore_n 3, 1) := by decide +kernel
theorem dX2_isAllowed_6 : decode cX2_isAllowed 6 = .ok (.iload_n 3, 1) := by decide +kernel
theorem dX2_isAllowed_7 : decode cX2_isAllowed 7 = .ok (.bipush 15, 2) := by decide +kernel
theorem dX2_isAllowed_9 : decode cX2_isAllowed 9 = .ok (.if_icmp .gt 35, 3) := by decide +kernel
theorem dX2_isAllowed_12 : decode cX2_isAllowed 12 = .ok (.iload_n 1, 1) := by decide +kernel
theorem dX2_isAllowed_13 : decode cX2_isAllowed 13 = .ok (.iconst 2, 1) := by decide +kernel
theorem dX2_isAllowed_14 : decode cX2_isAllowed 14 = .ok (.imul, 1) := by decide +kernel
theorem dX2_isAllowed_15 : decode cX2_isAllowed 15 = .ok (.aload_n 0, 1) := by decide +kernel
theorem dX2_isAllowed_16 : decode cX2_isAllowed 16 = .ok (.getfield 9, 3) := by decide +kernel
theorem dX2_isAllowed_19 : decode cX2_isAllowed 19 = .ok (.iload_n 3, 1) := by decide +kernel
theorem dX2_isAllowed_20 : decode cX2_isAllowed 20 = .ok (.iaload, 1) := by decide +kernel
theorem dX2_isAllowed_21 : decode cX2_isAllowed 21 = .ok (.isub, 1) := by decide +kernel
theorem dX2_isAllowed_22 : decode cX2_isAllowed 22 = .ok (.istore_n 1, 1) := by decide +kernel
theorem dX2_isAllowed_23 : decode cX2_isAllowed 23 = .ok (.iload_n 2, 1) := by decide +kernel
theorem dX2_isAllowed_24 : decode cX2_isAllowed 24 = .ok (.aload_n 0, 1) := by decide +kernel
theorem dX2_isAllowed_25 : decode cX2_isAllowed 25 = .ok (.getfield 9, 3) := by decide +kernel
theorem dX2_isAllowed_28 : decode cX2_isAllowed 28 = .ok (.iload_n 3, 1) := by decide +kernel
theorem dX2_isAllowed_29 : decode cX2_isAllowed 29 = .ok (.iaload, 1) := by decide +kernel
theorem dX2_isAllowed_30 : decode cX2_isAllowed 30 = .ok (.iadd, 1) := by decide +kernel
theorem dX2_isAllowed_31 : decode cX2_isAllowed 31 = .ok (.istore_n 2, 1) := by decide +kernel
theorem dX2_isAllowed_32 : decode cX2_isAllowed 32 = .ok (.iload_n 1, 1) := by decide +kernel
theorem dX2_isAllowed_33 : decode cX2_isAllowed 33 = .ok (.ifCond .ge 5, 3) := by decide +kernel
theorem dX2_isAllowed_36 : decode cX2_isAllowed 36 = .ok (.iconst 0, 1) := by decide +kernel
theorem dX2_isAllowed_37 : decode cX2_isAllowed 37 = .ok (.ireturn, 1) := by decide +kernel
theorem dX2_isAllowed_38 : decode cX2_isAllowed 38 = .ok (.iinc 3 1, 3) := by decide +kernel
theorem dX2_isAllowed_41 : decode cX2_isAllowed 41 = .ok (.goto (-35), 3) := by decide +kernel
theorem dX2_isAllowed_44 : decode cX2_isAllowed 44 = .ok (.iload_n 1, 1) := by decide +kernel
theorem dX2_isAllowed_45 : decode cX2_isAllowed 45 = .ok (.ifCond .eq 8, 3) := by decide +kernel
theorem dX2_isAllowed_48 : decode cX2_isAllowed 48 = .ok (.iload_n 2, 1) := by decide +kernel
theorem dX2_isAllowed_49 : decode cX2_isAllowed 49 = .ok (.iconst 1, 1) := by decide +kernel
theorem dX2_isAllowed_50 : decode cX2_isAllowed 50 = .ok (.if_icmp .gt 7, 3) := by decide +kernel
theorem dX2_isAllowed_53 : decode cX2_isAllowed 53 = .ok (.iconst 1, 1) := by decide +kernel
theorem dX2_isAllowed_54 : decode cX2_isAllowed 54 = .ok (.goto 4, 3) := by decide +kernel
theorem dX2_isAllowed_57 : decode cX2_isAllowed 57 = .ok (.iconst 0, 1) := by decide +kernel
theorem dX2_isAllowed_58 : decode cX2_isAllowed 58 = .ok (.ireturn, 1) := by decide +kernel
theorem dX2_sortSymbols_0 : decode cX2_sortSymbols 0 = .ok (.iconst 0, 1) := by decide +kernel
theorem dX2_sortSymbols_1 : decode cX2_sortSymbols 1 = .ok (.istore 4, 2) := by decide +kernel
theorem dX2_sortSymbols_3 : decode cX2_sortSymbols 3 = .ok (.iconst 1, 1) := by decide +kernel
theorem dX2_sortSymbols_4 : decode cX2_sortSymbols 4 = .ok (.istore 5, 2) := by decide +kernel
theorem dX2_sortSymbols_6 : decode cX2_sortSymbols 6 = .ok (.iload 5, 2) := by decide +kernel
theorem dX2_sortSymbols_8 : decode cX2_sortSymbols 8 = .ok (.bipush 15, 2) := by decide +kernel
theorem dX2_sortSymbols_10 : decode cX2_sortSymbols 10 = .ok (.if_icmp .gt 30, 3) := by decide +kernel
theorem dX2_sortSymbols_13 : decode cX2_sortSymbols 13 = .ok (.aload_n 0, 1) := by decide +kernel
theorem dX2_sortSymbols_14 : decode cX2_sortSymbols 14 = .ok (.getfield 13, 3) := by decide +kernel
theorem dX2_sortSymbols_17 : decode cX2_sortSymbols 17 = .ok (.iload 5, 2) := by decide +kernel
theorem dX2_sortSymbols_19 : decode cX2_sortSymbols 19 = .ok (.iload 4, 2) := by decide +kernel
theorem dX2_sortSymbols_21 : decode cX2_sortSymbols 21 = .ok (.iastore, 1) := by decide +kernel
theorem dX2_sortSymbols_22 : decode cX2_sortSymbols 22 = .ok (.iload 4, 2) := by decide +kernel
theorem dX2_sortSymbols_24 : decode cX2_sortSymbols 24 = .ok (.aload_n 0, 1) := by decide +kernel
theorem dX2_sortSymbols_25 : decode cX2_sortSymbols 25 = .ok (.getfield 9, 3) := by decide +kernel
theorem dX2_sortSymbols_28 : decode cX2_sortSymbols 28 = .ok (.iload 5, 2) := by decide +kernel
theorem dX2_sortSymbols_30 : decode cX2_sortSymbols 30 = .ok (.iaload, 1) := by decide +kernel
theorem dX2_sortSymbols_31 : decode cX2_sortSymbols 31 = .ok (.iadd, 1) := by decide +kernel
theorem dX2_sortSymbols_32 : decode cX2_sortSymbols 32 = .ok (.istore 4, 2) := by decide +kernel
theorem dX2_sortSymbols_34 : decode cX2_sortSymbols 34 = .ok (.iinc 5 1, 3) := by decide +kernel
theorem dX2_sortSymbols_37 : decode cX2_sortSymbols 37 = .ok (.goto (-31), 3) := by decide +kernel
theorem dX2_sortSymbols_40 : decode cX2_sortSymbols 40 = .ok (.iconst 0, 1) := by decide +kernel
theorem dX2_sortSymbols_41 : decode cX2_sortSymbols 41 = .ok (.istore 5, 2) := by decide +kernel
theorem dX2_sortSymbols_43 : decode cX2_sortSymbols 43 = .ok (.iload 5, 2) := by decide +kernel
theorem dX2_sortSymbols_45 : decode cX2_sortSymbols 45 = .ok (.iload_n 3, 1) := by decide +kernel
theorem dX2_sortSymbols_46 : decode cX2_sortSymbols 46 = .ok (.if_icmp .ge 47, 3) := by decide +kernel
theorem dX2_sortSymbols_49 : decode cX2_sortSymbols 49 = .ok (.aload_n 1, 1) := by decide +kernel
theorem dX2_sortSymbols_50 : decode cX2_sortSymbols 50 = .ok (.iload_n 2, 1) := by decide +kernel
theorem dX2_sortSymbols_51 : decode cX2_sortSymbols 51 = .ok (.iload 5, 2) := by decide +kernel
theorem dX2_sortSymbols_53 : decode cX2_sortSymbols 53 = .ok (.iadd, 1) := by decide +kernel
theorem dX2_sortSymbols_54 : decode cX2_sortSymbols 54 = .ok (.iaload, 1) := by decide +kernel
theorem dX2_sortSymbols_55 : decode cX2_sortSymbols 55 = .ok (.istore 6, 2) := by decide +kernel
theorem dX2_sortSymbols_57 : decode cX2_sortSymbols 57 = .ok (.iload 6, 2) := by decide +kernel
theorem dX2_sortSymbols_59 : decode cX2_sortSymbols 59 = .ok (.ifCond .le 28, 3) := by decide +kernel
theorem dX2_sortSymbols_62 : decode cX2_sortSymbols 62 = .ok (.aload_n 0, 1) := by decide +kernel
theorem dX2_sortSymbols_63 : decode cX2_sortSymbols 63 = .ok (.getfield 16, 3) := by decide +kernel
theorem dX2_sortSymbols_66 : decode cX2_sortSymbols 66 = .ok (.aload_n 0, 1) := by decide +kernel
theorem dX2_sortSymbols_67 : decode cX2_sortSymbols 67 = .ok (.getfield 13, 3) := by decide +kernel
theorem dX2_sortSymbols_70 : decode cX2_sortSymbols 70 = .ok (.iload 6, 2) := by decide +kernel
theorem dX2_sortSymbols_72 : decode cX2_sortSymbols 72 = .ok (.iaload, 1) := by decide +kernel
theorem dX2_sortSymbols_73 : decode cX2_sortSymbols 73 = .ok (.iload 5, 2) := by decide +kernel
theorem dX2_sortSymbols_75 : decode cX2_sortSymbols 75 = .ok (.iastore, 1) := by decide +kernel
theorem dX2_sortSymbols_76 : decode cX2_sortSymbols 76 = .ok (.aload_n 0, 1) := by decide +kernel
theorem dX2_sortSymbols_77 : decode cX2_sortSymbols 77 = .ok (.getfield 13, 3) := by decide +kernel
theorem dX2_sortSymbols_80 : decode cX2_sortSymbols 80 = .ok (.iload 6, 2) := by decide +kernel
theorem dX2_sortSymbols_82 : decode cX2_sortSymbols 82 = .ok (.dup2, 1) := by decide +kernel
theorem dX2_sortSymbols_83 : decode cX2_sortSymbols 83 = .ok (.iaload, 1) := by decide +kernel
theorem dX2_sortSymbols_84 : decode cX2_sortSymbols 84 = .ok (.iconst 1, 1) := by decide +kernel
theorem dX2_sortSymbols_85 : decode cX2_sortSymbols 85 = .ok (.iadd, 1) := by decide +kernel
theorem dX2_sortSymbols_86 : decode cX2_sortSymbols 86 = .ok (.iastore, 1) := by decide +kernel
theorem dX2_sortSymbols_87 : decode cX2_sortSymbols 87 = .ok (.iinc 5 1, 3) := by decide +kernel
theorem dX2_sortSymbols_90 : decode cX2_sortSymbols 90 = .ok (.goto (-47), 3) := by decide +kernel
theorem dX2_sortSymbols_93 : decode cX2_sortSymbols 93 = .ok (.return_, 1) := by decide +kernel
set_option maxRecDepth 20000 in
theorem ggX2_readSymbol_X0_readBit : GoodIn wsX2_readSymbol wsX0_readBit := goodIn_ca (goodIn_r _ [9, 10, 2, 11, 12, 13, 17, 18, 19] (by decide +kernel) (by decide +kernel)) (goodIn_sub (fun _ h => List.mem_cons_of_mem _ (List.mem_append_right _ h)) (by decide +kernel))
set_option maxRecDepth 20000 in
theorem gX2_readSymbol_X0_readBit : GoodIn wsX2_readSymbol (wsV RX2 23 RX0 yX0_readBit wsX0_readBit) := goodIn_app (goodIn_of _ (by decide +kernel)) ggX2_readSymbol_X0_readBit
theorem dX2_readSymbol_0 : decode cX2_readSymbol 0 = .ok (.iconst 0, 1) := by decide +kernel
theorem dX2_readSymbol_1 : decode cX2_readSymbol 1 = .ok (.istore_n 2, 1) := by decide +kernel
theorem dX2_readSymbol_2 : decode cX2_readSymbol 2 = .ok (.iconst 0, 1) := by decide +kernel
theorem dX2_readSymbol_3 : decode cX2_readSymbol 3 = .ok (.istore_n 3, 1) := by decide +kernel
theorem dX2_readSymbol_4 : decode cX2_readSymbol 4 = .ok (.iconst 0, 1) := by decide +kernel
theorem dX2_readSymbol_5 : decode cX2_readSymbol 5 = .ok (.istore 4, 2) := by decide +kernel
theorem dX2_readSymbol_7 : decode cX2_readSymbol 7 = .ok (.iconst 1, 1) := by decide +kernel
theorem dX2_readSymbol_8 : decode cX2_readSymbol 8 = .ok (.istore 5, 2) := by decide +kernel
theorem dX2_readSymbol_10 : decode cX2_readSymbol 10 = .ok (.iload 5, 2) := by decide +kernel
theorem dX2_readSymbol_12 : decode cX2_readSymbol 12 = .ok (.bipush 15, 2) := by decide +kernel
theorem dX2_readSymbol_14 : decode cX2_readSymbol 14 = .ok (.if_icmp .gt 63, 3) := by decide +kernel
theorem dX2_readSymbol_17 : decode cX2_readSymbol 17 = .ok (.iload_n 2, 1) := by decide +kernel
theorem dX2_readSymbol_18 : decode cX2_readSymbol 18 = .ok (.iconst 2, 1) := by decide +kernel
theorem dX2_readSymbol_19 : decode cX2_readSymbol 19 = .ok (.imul, 1) := by decide +kernel
theorem dX2_readSymbol_20 : decode cX2_readSymbol 20 = .ok (.aload_n 1, 1) := by decide +kernel
theorem dX2_readSymbol_21 : decode cX2_readSymbol 21 = .ok (.invokevirtual 23, 3) := by decide +kernel
theorem dX2_readSymbol_24 : decode cX2_readSymbol 24 = .ok (.iadd, 1) := by decide +kernel
theorem dX2_readSymbol_25 : decode cX2_readSymbol 25 = .ok (.istore_n 2, 1) := by decide +kernel
theorem dX2_readSymbol_26 : decode cX2_readSymbol 26 = .ok (.iload_n 3, 1) := by decide +kernel
theorem dX2_readSymbol_27 : decode cX2_readSymbol 27 = .ok (.iconst 2, 1) := by decide +kernel
theorem dX2_readSymbol_28 : decode cX2_readSymbol 28 = .ok (.imul, 1) := by decide +kernel
theorem dX2_readSymbol_29 : decode cX2_readSymbol 29 = .ok (.istore_n 3, 1) := by decide +kernel
theorem dX2_readSymbol_30 : decode cX2_readSymbol 30 = .ok (.aload_n 0, 1) := by decide +kernel
theorem dX2_readSymbol_31 : decode cX2_readSymbol 31 = .ok (.getfield 9, 3) := by decide +kernel
theorem dX2_readSymbol_34 : decode cX2_readSymbol 34 = .ok (.iload 5, 2) := by decide +kernel
theorem dX2_readSymbol_36 : decode cX2_readSymbol 36 = .ok (.iaload, 1) := by decide +kernel
theorem dX2_readSymbol_37 : decode cX2_readSymbol 37 = .ok (.istore 6, 2) := by decide +kernel
theorem dX2_readSymbol_39 : decode cX2_readSymbol 39 = .ok (.iload_n 2, 1) := by decide +kernel
theorem dX2_readSymbol_40 : decode cX2_readSymbol 40 = .ok (.iload_n 3, 1) := by decide +kernel
theorem dX2_readSymbol_41 : decode cX2_readSymbol 41 = .ok (.isub, 1) := by decide +kernel
theorem dX2_readSymbol_42 : decode cX2_readSymbol 42 = .ok (.iload 6, 2) := by decide +kernel
theorem dX2_readSymbol_44 : decode cX2_readSymbol 44 = .ok (.if_icmp .ge 15, 3) := by decide +kernel
theorem dX2_readSymbol_47 : decode cX2_readSymbol 47 = .ok (.aload_n 0, 1) := by decide +kernel
theorem dX2_readSymbol_48 : decode cX2_readSymbol 48 = .ok (.getfield 16, 3) := by decide +kernel
theorem dX2_readSymbol_51 : decode cX2_readSymbol 51 = .ok (.iload 4, 2) := by decide +kernel
theorem dX2_readSymbol_53 : decode cX2_readSymbol 53 = .ok (.iload_n 2, 1) := by decide +kernel
theorem dX2_readSymbol_54 : decode cX2_readSymbol 54 = .ok (.iadd, 1) := by decide +kernel
theorem dX2_readSymbol_55 : decode cX2_readSymbol 55 = .ok (.iload_n 3, 1) := by decide +kernel
theorem dX2_readSymbol_56 : decode cX2_readSymbol 56 = .ok (.isub, 1) := by decide +kernel
theorem dX2_readSymbol_57 : decode cX2_readSymbol 57 = .ok (.iaload, 1) := by decide +kernel
theorem dX2_readSymbol_58 : decode cX2_readSymbol 58 = .ok (.ireturn, 1) := by decide +kernel
theorem dX2_readSymbol_59 : decode cX2_readSymbol 59 = .ok (.iload_n 3, 1) := by decide +kernel
theorem dX2_readSymbol_60 : decode cX2_readSymbol 60 = .ok (.iload 6, 2) := by decide +kernel
theorem dX2_readSymbol_62 : decode cX2_readSymbol 62 = .ok (.iadd, 1) := by decide +kernel
theorem dX2_readSymbol_63 : decode cX2_readSymbol 63 = .ok (.istore_n 3, 1) := by decide +kernel
theorem dX2_readSymbol_64 : decode cX2_readSymbol 64 = .ok (.iload 4, 2) := by decide +kernel
theorem dX2_readSymbol_66 : decode cX2_readSymbol 66 = .ok (.iload 6, 2) := by decide +kernel
theorem dX2_readSymbol_68 : decode cX2_readSymbol 68 = .ok (.iadd, 1) := by decide +kernel
theorem dX2_readSymbol_69 : decode cX2_readSymbol 69 = .ok (.istore 4, 2) := by decide +kernel
theorem dX2_readSymbol_71 : decode cX2_readSymbol 71 = .ok (.iinc 5 1, 3) := by decide +kernel
theorem dX2_readSymbol_74 : decode cX2_readSymbol 74 = .ok (.goto (-64), 3) := by decide +kernel
theorem dX2_readSymbol_77 : decode cX2_readSymbol 77 = .ok (.new 29, 3) := by decide +kernel
theorem dX2_readSymbol_80 : decode cX2_readSymbol 80 = .ok (.dup, 1) := by decide +kernel
theorem dX2_readSymbol_81 : decode cX2_readSymbol 81 = .ok (.ldc 31, 2) := by decide +kernel
theorem dX2_readSymbol_83 : decode cX2_readSymbol 83 = .ok (.invokespecial 33, 3) := by decide +kernel
theorem dX2_readSymbol_86 : decode cX2_readSymbol 86 = .ok (.athrow, 1) := by decide +kernel
theorem dX3_init_0 : decode cX3_init 0 = .ok (.aload_n 0, 1) := by decide +kernel
theorem dX3_init_1 : decode cX3_init 1 = .ok (.invokespecial 3, 3) := by decide +kernel
theorem dX3_init_4 : decode cX3_init 4 = .ok (.aload_n 0, 1) := by decide +kernel
theorem dX3_init_5 : decode cX3_init 5 = .ok (.sipush 4096, 3) := by decide +kernel
theorem dX3_init_8 : decode cX3_init 8 = .ok (.newarray .int, 2) := by decide +kernel
theorem dX3_init_10 : decode cX3_init 10 = .ok (.putfield 11, 3) := by decide +kernel
theorem dX3_init_13 : decode cX3_init 13 = .ok (.aload_n 0, 1) := by decide +kernel
theorem dX3_init_14 : decode cX3_init 14 = .ok (.sipush 4000, 3) := by decide +kernel
theorem dX3_init_17 : decode cX3_init 17 = .ok (.newarray .int, 2) := by decide +kernel
theorem dX3_init_19 : decode cX3_init 19 = .ok (.putfield 15, 3) := by decide +kernel
theorem dX3_init_22 : decode cX3_init 22 = .ok (.return_, 1) := by decide +kernel
theorem dX3_begin_0 : decode cX3_begin 0 = .ok (.aload_n 0, 1) := by decide +kernel
theorem dX3_begin_1 : decode cX3_begin 1 = .ok (.aload_n 1, 1) := by decide +kernel
theorem dX3_begin_2 : decode cX3_begin 2 = .ok (.putfield 18, 3) := by decide +kernel
theorem dX3_begin_5 : decode cX3_begin 5 = .ok (.aload_n 0, 1) := by decide +kernel
theorem dX3_begin_6 : decode cX3_begin 6 = .ok (.iload_n 2, 1) := by decide +kernel
theorem dX3_begin_7 : decode cX3_begin 7 = .ok (.putfield 22, 3) := by decide +kernel
theorem dX3_begin_10 : decode cX3_begin 10 = .ok (.iconst 0, 1) := by decide +kernel
theorem dX3_begin_11 : decode cX3_begin 11 = .ok (.istore_n 3, 1) := by decide +kernel
theorem dX3_begin_12 : decode cX3_begin 12 = .ok (.iload_n 3, 1) := by decide +kernel
theorem dX3_begin_13 : decode cX3_begin 13 = .ok (.sipush 4096, 3) := by decide +kernel
theorem dX3_begin_16 : decode cX3_begin 16 = .ok (.if_icmp .ge 16, 3) := by decide +kernel
theorem dX3_begin_19 : decode cX3_begin 19 = .ok (.aload_n 0, 1) := by decide +kernel
theorem dX3_begin_20 : decode cX3_begin 20 = .ok (.getfield 11, 3) := by decide +kernel
theorem dX3_begin_23 : decode cX3_begin 23 = .ok (.iload_n 3, 1) := by decide +kernel
theorem dX3_begin_24 : decode cX3_begin 24 = .ok (.iconst (-1), 1) := by decide +kernel
theorem dX3_begin_25 : decode cX3_begin 25 = .ok (.iastore, 1) := by decide +kernel
theorem dX3_begin_26 : decode cX3_begin 26 = .ok (.iinc 3 1, 3) := by decide +kernel
theorem dX3_begin_29 : decode cX3_begin 29 = .ok (.goto (-17), 3) := by decide +kernel
theorem dX3_begin_32 : decode cX3_begin 32 = .ok (.return_, 1) := by decide +kernel
set_option maxRecDepth 20000 in
theorem ggX3_longest_X3_hash : GoodIn wsX3_longest wsX3_hash := goodIn_r _ [13, 14, 19, 20, 21, 22, 23] (by decide +kernel) (by decide +kernel)
set_option maxRecDepth 20000 in
theorem gX3_longest_X3_hash : GoodIn wsX3_longest (wsV RX3 32 RX3 yX3_hash wsX3_hash) := goodIn_app (goodIn_of _ (by decide +kernel)) ggX3_longest_X3_hash
set_option maxRecDepth 20000 in
theorem ggX3_longest_X3_alike : GoodIn wsX3_longest wsX3_alike := goodIn_r _ [18, 14, 19, 20, 21, 22, 23] (by decide +kernel) (by decide +kernel)
set_option maxRecDepth 20000 in
theorem gX3_longest_X3_alike : GoodIn wsX3_longest (wsV RX3 36 RX3 yX3_alike wsX3_alike) := goodIn_app (goodIn_of _ (by decide +kernel)) ggX3_longest_X3_alike
theorem dX3_longest_0 : decode cX3_longest 0 = .ok (.sipush 258, 3) := by decide +kernel
theorem dX3_longest_3 : decode cX3_longest 3 = .ok (.aload_n 0, 1) := by decide +kernel
theorem dX3_longest_4 : decode cX3_longest 4 = .ok (.getfield 22, 3) := by decide +kernel
theorem dX3_longest_7 : decode cX3_longest 7 = .ok (.iload_n 1, 1) := by decide +kernel
theorem dX3_longest_8 : decode cX3_longest 8 = .ok (.isub, 1) := by decide +kernel
theorem dX3_longest_9 : decode cX3_longest 9 = .ok (.invokestatic 26, 3) := by decide +kernel
theorem dX3_longest_12 : decode cX3_longest 12 = .ok (.istore_n 2, 1) := by decide +kernel
theorem dX3_longest_13 : decode cX3_longest 13 = .ok (.iload_n 2, 1) := by decide +kernel
theorem dX3_longest_14 : decode cX3_longest 14 = .ok (.iconst 3, 1) := by decide +kernel
theorem dX3_longest_15 : decode cX3_longest 15 = .ok (.if_icmp .ge 5, 3) := by decide +kernel
theorem dX3_longest_18 : decode cX3_longest 18 = .ok (.iconst 0, 1) := by decide +kernel
theorem dX3_longest_19 : decode cX3_longest 19 = .ok (.ireturn, 1) := by decide +kernel
theorem dX3_longest_20 : decode cX3_longest 20 = .ok (.iconst 0, 1) := by decide +kernel
theorem dX3_longest_21 : decode cX3_longest 21 = .ok (.istore_n 3, 1) := by decide +kernel
theorem dX3_longest_22 : decode cX3_longest 22 = .ok (.aload_n 0, 1) := by decide +kernel
theorem dX3_longest_23 : decode cX3_longest 23 = .ok (.getfield 11, 3) := by decide +kernel
theorem dX3_longest_26 : decode cX3_longest 26 = .ok (.aload_n 0, 1) := by decide +kernel
theorem dX3_longest_27 : decode cX3_longest 27 = .ok (.iload_n 1, 1) := by decide +kernel
theorem dX3_longest_28 : decode cX3_longest 28 = .ok (.invokevirtual 32, 3) := by decide +kernel
theorem dX3_longest_31 : decode cX3_longest 31 = .ok (.iaload, 1) := by decide +kernel
theorem dX3_longest_32 : decode cX3_longest 32 = .ok (.istore 4, 2) := by decide +kernel
theorem dX3_longest_34 : decode cX3_longest 34 = .ok (.iconst 0, 1) := by decide +kernel
theorem dX3_longest_35 : decode cX3_longest 35 = .ok (.istore 5, 2) := by decide +kernel
theorem dX3_longest_37 : decode cX3_longest 37 = .ok (.iload 5, 2) := by decide +kernel
theorem dX3_longest_39 : decode cX3_longest 39 = .ok (.iload_n 1, 1) := by decide +kernel
theorem dX3_longest_40 : decode cX3_longest 40 = .ok (.if_icmp .ge 57, 3) := by decide +kernel
theorem dX3_longest_43 : decode cX3_longest 43 = .ok (.iload 4, 2) := by decide +kernel
theorem dX3_longest_45 : decode cX3_longest 45 = .ok (.iconst (-1), 1) := by decide +kernel
theorem dX3_longest_46 : decode cX3_longest 46 = .ok (.if_icmp .eq 51, 3) := by decide +kernel
theorem dX3_longest_49 : decode cX3_longest 49 = .ok (.iload_n 3, 1) := by decide +kernel
theorem dX3_longest_50 : decode cX3_longest 50 = .ok (.iload_n 2, 1) := by decide +kernel
theorem dX3_longest_51 : decode cX3_longest 51 = .ok (.if_icmp .ge 46, 3) := by decide +kernel
theorem dX3_longest_54 : decode cX3_longest 54 = .ok (.aload_n 0, 1) := by decide +kernel
theorem dX3_longest_55 : decode cX3_longest 55 = .ok (.iload 4, 2) := by decide +kernel
theorem dX3_longest_57 : decode cX3_longest 57 = .ok (.iload_n 1, 1) := by decide +kernel
theorem dX3_longest_58 : decode cX3_longest 58 = .ok (.iload_n 3, 1) := by decide +kernel
theorem dX3_longest_59 : decode cX3_longest 59 = .ok (.iload_n 2, 1) := by decide +kernel
theorem dX3_longest_60 : decode cX3_longest 60 = .ok (.invokevirtual 36, 3) := by decide +kernel
theorem dX3_longest_63 : decode cX3_longest 63 = .ok (.istore 6, 2) := by decide +kernel
theorem dX3_longest_65 : decode cX3_longest 65 = .ok (.iload 6, 2) := by decide +kernel
theorem dX3_longest_67 : decode cX3_longest 67 = .ok (.iload_n 3, 1) := by decide +kernel
theorem dX3_longest_68 : decode cX3_longest 68 = .ok (.if_icmp .le 14, 3) := by decide +kernel
theorem dX3_longest_71 : decode cX3_longest 71 = .ok (.iload 6, 2) := by decide +kernel
theorem dX3_longest_73 : decode cX3_longest 73 = .ok (.istore_n 3, 1) := by decide +kernel
theorem dX3_longest_74 : decode cX3_longest 74 = .ok (.aload_n 0, 1) := by decide +kernel
theorem dX3_longest_75 : decode cX3_longest 75 = .ok (.iload_n 1, 1) := by decide +kernel
theorem dX3_longest_76 : decode cX3_longest 76 = .ok (.iload 4, 2) := by decide +kernel
theorem dX3_longest_78 : decode cX3_longest 78 = .ok (.isub, 1) := by decide +kernel
theorem dX3_longest_79 : decode cX3_longest 79 = .ok (.putfield 40, 3) := by decide +kernel
theorem dX3_longest_82 : decode cX3_longest 82 = .ok (.aload_n 0, 1) := by decide +kernel
theorem dX3_longest_83 : decode cX3_longest 83 = .ok (.getfield 15, 3) := by decide +kernel
theorem dX3_longest_86 : decode cX3_longest 86 = .ok (.iload 4, 2) := by decide +kernel
theorem dX3_longest_88 : decode cX3_longest 88 = .ok (.iaload, 1) := by decide +kernel
theorem dX3_longest_89 : decode cX3_longest 89 = .ok (.istore 4, 2) := by decide +kernel
theorem dX3_longest_91 : decode cX3_longest 91 = .ok (.iinc 5 1, 3) := by decide +kernel
theorem dX3_longest_94 : decode cX3_longest 94 = .ok (.goto (-57), 3) := by decide +kernel
theorem dX3_longest_97 : decode cX3_longest 97 = .ok (.iload_n 3, 1) := by decide +kernel
theorem dX3_longest_98 : decode cX3_longest 98 = .ok (.iconst 3, 1) := by decide +kernel
theorem dX3_longest_99 : decode cX3_longest 99 = .ok (.if_icmp .ge 7, 3) := by decide +kernel
theorem dX3_longest_102 : decode cX3_longest 102 = .ok (.iconst 0, 1) := by decide +kernel
theorem dX3_longest_103 : decode cX3_longest 103 = .ok (.goto 4, 3) := by decide +kernel
theorem dX3_longest_106 : decode cX3_longest 106 = .ok (.iload_n 3, 1) := by decide +kernel
theorem dX3_longest_107 : decode cX3_longest 107 = .ok (.ireturn, 1) := by decide +kernel
theorem dX3_found_0 : decode cX3_found 0 = .ok (.aload_n 0, 1) := by decide +kernel
theorem dX3_found_1 : decode cX3_found 1 = .ok (.getfield 40, 3) := by decide +kernel
theorem dX3_found_4 : decode cX3_found 4 = .ok (.ireturn, 1) := by decide +kernel
set_option maxRecDepth 20000 in
theorem ggX3_enter_X3_hash : GoodIn wsX3_enter wsX3_hash := goodIn_r _ [8, 9, 10, 11, 12, 13, 14] (by decide +kernel) (by decide +kernel)
set_option maxRecDepth 20000 in
theorem gX3_enter_X3_hash : GoodIn wsX3_enter (wsV RX3 32 RX3 yX3_hash wsX3_hash) := goodIn_app (goodIn_of _ (by decide +kernel)) ggX3_enter_X3_hash
theorem dX3_enter_0 : decode cX3_enter 0 = .ok (.aload_n 0, 1) := by decide +kernel
theorem dX3_enter_1 : decode cX3_enter 1 = .ok (.getfield 22, 3) := by decide +kernel
theorem dX3_enter_4 : decode cX3_enter 4 = .ok (.iload_n 1, 1) := by decide +kernel
theorem dX3_enter_5 : decode cX3_enter 5 = .ok (.isub, 1) := by decide +kernel
theorem dX3_enter_6 : decode cX3_enter 6 = .ok (.iconst 3, 1) := by decide +kernel
theorem dX3_enter_7 : decode cX3_enter 7 = .ok (.if_icmp .lt 28, 3) := by decide +kernel
theorem dX3_enter_10 : decode cX3_enter 10 = .ok (.aload_n 0, 1) := by decide +kernel
theorem dX3_enter_11 : decode cX3_enter 11 = .ok (.iload_n 1, 1) := by decide +kernel
theorem dX3_enter_12 : decode cX3_enter 12 = .ok (.invokevirtual 32, 3) := by decide +kernel
theorem dX3_enter_15 : decode cX3_enter 15 = .ok (.istore_n 2, 1) := by decide +kernel
theorem dX3_enter_16 : decode cX3_enter 16 = .ok (.aload_n 0, 1) := by decide +kernel
theorem dX3_enter_17 : decode cX3_enter 17 = .ok (.getfield 15, 3) := by decide +kernel
theorem dX3_enter_20 : decode cX3_enter 20 = .ok (.iload_n 1, 1) := by decide +kernel
theorem dX3_enter_21 : decode cX3_enter 21 = .ok (.aload_n 0, 1) := by decide +kernel
theorem dX3_enter_22 : decode cX3_enter 22 = .ok (.getfield 11, 3) := by decide +kernel
theorem dX3_enter_25 : decode cX3_enter 25 = .ok (.iload_n 2, 1) := by decide +kernel
theorem dX3_enter_26 : decode cX3_enter 26 = .ok (.iaload, 1) := by decide +kernel
theorem dX3_enter_27 : decode cX3_enter 27 = .ok (.iastore, 1) := by decide +kernel
theorem dX3_enter_28 : decode cX3_enter 28 = .ok (.aload_n 0, 1) := by decide +kernel
theorem dX3_enter_29 : decode cX3_enter 29 = .ok (.getfield 11, 3) := by decide +kernel
theorem dX3_enter_32 : decode cX3_enter 32 = .ok (.iload_n 2, 1) := by decide +kernel
theorem dX3_enter_33 : decode cX3_enter 33 = .ok (.iload_n 1, 1) := by decide +kernel
theorem dX3_enter_34 : decode cX3_enter 34 = .ok (.iastore, 1) := by decide +kernel
theorem dX3_enter_35 : decode cX3_enter 35 = .ok (.return_, 1) := by decide +kernel
theorem dX3_alike_0 : decode cX3_alike 0 = .ok (.aload_n 0, 1) := by decide +kernel
theorem dX3_alike_1 : decode cX3_alike 1 = .ok (.getfield 18, 3) := by decide +kernel
theorem dX3_alike_4 : decode cX3_alike 4 = .ok (.iload_n 1, 1) := by decide +kernel
theorem dX3_alike_5 : decode cX3_alike 5 = .ok (.iload_n 3, 1) := by decide +kernel
theorem dX3_alike_6 : decode cX3_alike 6 = .ok (.iadd, 1) := by decide +kernel
theorem dX3_alike_7 : decode cX3_alike 7 = .ok (.baload, 1) := by decide +kernel
theorem dX3_alike_8 : decode cX3_alike 8 = .ok (.aload_n 0, 1) := by decide +kernel
theorem dX3_alike_9 : decode cX3_alike 9 = .ok (.getfield 18, 3) := by decide +kernel
theorem dX3_alike_12 : decode cX3_alike 12 = .ok (.iload_n 2, 1) := by decide +kernel
theorem dX3_alike_13 : decode cX3_alike 13 = .ok (.iload_n 3, 1) := by decide +kernel
theorem dX3_alike_14 : decode cX3_alike 14 = .ok (.iadd, 1) := by decide +kernel
theorem dX3_alike_15 : decode cX3_alike 15 = .ok (.baload, 1) := by decide +kernel
theorem dX3_alike_16 : decode cX3_alike 16 = .ok (.if_icmp .eq 5, 3) := by decide +kernel
theorem dX3_alike_19 : decode cX3_alike 19 = .ok (.iconst 0, 1) := by decide +kernel
theorem dX3_alike_20 : decode cX3_alike 20 = .ok (.ireturn, 1) := by decide +kernel
theorem dX3_alike_21 : decode cX3_alike 21 = .ok (.iconst 0, 1) := by decide +kernel
theorem dX3_alike_22 : decode cX3_alike 22 = .ok (.istore 5, 2) := by decide +kernel
theorem dX3_alike_24 : decode cX3_alike 24 = .ok (.iload 5, 2) := by decide +kernel
theorem dX3_alike_26 : decode cX3_alike 26 = .ok (.iload 4, 2) := by decide +kernel
theorem dX3_alike_28 : decode cX3_alike 28 = .ok (.if_icmp .ge 30, 3) := by decide +kernel
theorem dX3_alike_31 : decode cX3_alike 31 = .ok (.aload_n 0, 1) := by decide +kernel
theorem dX3_alike_32 : decode cX3_alike 32 = .ok (.getfield 18, 3) := by decide +kernel
theorem dX3_alike_35 : decode cX3_alike 35 = .ok (.iload_n 1, 1) := by decide +kernel
theorem dX3_alike_36 : decode cX3_alike 36 = .ok (.iload 5, 2) := by decide +kernel
theorem dX3_alike_38 : decode cX3_alike 38 = .ok (.iadd, 1) := by decide +kernel
theorem dX3_alike_39 : decode cX3_alike 39 = .ok (.baload, 1) := by decide +kernel
theorem dX3_alike_40 : decode cX3_alike 40 = .ok (.aload_n 0, 1) := by decide +kernel
theorem dX3_alike_41 : decode cX3_alike 41 = .ok (.getfield 18, 3) := by decide +kernel
theorem dX3_alike_44 : decode cX3_alike 44 = .ok (.iload_n 2, 1) := by decide +kernel
theorem dX3_alike_45 : decode cX3_alike 45 = .ok (.iload 5, 2) := by decide +kernel
theorem dX3_alike_47 : decode cX3_alike 47 = .ok (.iadd, 1) := by decide +kernel
theorem dX3_alike_48 : decode cX3_alike 48 = .ok (.baload, 1) := by decide +kernel
theorem dX3_alike_49 : decode cX3_alike 49 = .ok (.if_icmp .ne 9, 3) := by decide +kernel
theorem dX3_alike_52 : decode cX3_alike 52 = .ok (.iinc 5 1, 3) := by decide +kernel
theorem dX3_alike_55 : decode cX3_alike 55 = .ok (.goto (-31), 3) := by decide +kernel
theorem dX3_alike_58 : decode cX3_alike 58 = .ok (.iload 5, 2) := by decide +kernel
theorem dX3_alike_60 : decode cX3_alike 60 = .ok (.ireturn, 1) := by decide +kernel
theorem dX3_hash_0 : decode cX3_hash 0 = .ok (.aload_n 0, 1) := by decide +kernel
theorem dX3_hash_1 : decode cX3_hash 1 = .ok (.getfield 18, 3) := by decide +kernel
theorem dX3_hash_4 : decode cX3_hash 4 = .ok (.iload_n 1, 1) := by decide +kernel
theorem dX3_hash_5 : decode cX3_hash 5 = .ok (.baload, 1) := by decide +kernel
theorem dX3_hash_6 : decode cX3_hash 6 = .ok (.bipush 8, 2) := by decide +kernel
theorem dX3_hash_8 : decode cX3_hash 8 = .ok (.ishl, 1) := by decide +kernel
theorem dX3_hash_9 : decode cX3_hash 9 = .ok (.aload_n 0, 1) := by decide +kernel
theorem dX3_hash_10 : decode cX3_hash 10 = .ok (.getfield 18, 3) := by decide +kernel
theorem dX3_hash_13 : decode cX3_hash 13 = .ok (.iload_n 1, 1) := by decide +kernel
theorem dX3_hash_14 : decode cX3_hash 14 = .ok (.iconst 1, 1) := by decide +kernel
theorem dX3_hash_15 : decode cX3_hash 15 = .ok (.iadd, 1) := by decide +kernel
theorem dX3_hash_16 : decode cX3_hash 16 = .ok (.baload, 1) := by decide +kernel
theorem dX3_hash_17 : decode cX3_hash 17 = .ok (.iconst 4, 1) := by decide +kernel
theorem dX3_hash_18 : decode cX3_hash 18 = .ok (.ishl, 1) := by decide +kernel
theorem dX3_hash_19 : decode cX3_hash 19 = .ok (.ixor, 1) := by decide +kernel
theorem dX3_hash_20 : decode cX3_hash 20 = .ok (.aload_n 0, 1) := by decide +kernel
theorem dX3_hash_21 : decode cX3_hash 21 = .ok (.getfield 18, 3) := by decide +kernel
theorem dX3_hash_24 : decode cX3_hash 24 = .ok (.iload_n 1, 1) := by decide +kernel
theorem dX3_hash_25 : decode cX3_hash 25 = .ok (.iconst 2, 1) := by decide +kernel
theorem dX3_hash_26 : decode cX3_hash 26 = .ok (.iadd, 1) := by decide +kernel
theorem dX3_hash_27 : decode cX3_hash 27 = .ok (.baload, 1) := by decide +kernel
theorem dX3_hash_28 : decode cX3_hash 28 = .ok (.ixor, 1) := by decide +kernel
theorem dX3_hash_29 : decode cX3_hash 29 = .ok (.sipush 4095, 3) := by decide +kernel
theorem dX3_hash_32 : decode cX3_hash 32 = .ok (.iand, 1) := by decide +kernel
theorem dX3_hash_33 : decode cX3_hash 33 = .ok (.ireturn, 1) := by decide +kernel
set_option maxRecDepth 20000 in
theorem ggX4_init_X0_init : GoodIn wsX4_init wsX0_init := goodIn_r _ [19, 20, 2, 3] (by decide +kernel) (by decide +kernel)
set_option maxRecDepth 20000 in
theorem gX4_init_X0_init_n11 : GoodIn wsX4_init (wsX0_init) := ggX4_init_X0_init
set_option maxRecDepth 20000 in
theorem ggX4_init_X2_init : GoodIn wsX4_init wsX2_init := goodIn_r _ [23, 24, 2, 3, 17, 25, 26, 27, 55, 56, 57] (by decide +kernel) (by decide +kernel)
set_option maxRecDepth 20000 in
theorem gX4_init_X2_init : GoodIn wsX4_init (wsX2_init) := ggX4_init_X2_init
set_option maxRecDepth 20000 in
theorem ggX4_init_X6_init : GoodIn wsX4_init wsX6_init := goodIn_r _ [29, 30, 2, 3, 31, 9, 10, 32, 33, 34, 17, 35, 36, 22, 23, 24, 25, 26, 27, 55, 56, 57, 58, 59, 60, 61] (by decide +kernel) (by decide +kernel)
set_option maxRecDepth 20000 in
theorem gX4_init_X6_init_n32 : GoodIn wsX4_init (wsX6_init) := ggX4_init_X6_init
set_option maxRecDepth 20000 in
theorem ggX4_init_X2_learn : GoodIn wsX4_init wsX2_learn := goodIn_r _ [40, 25, 41, 42, 43, 10, 44, 26, 27, 55, 56, 57] (by decide +kernel) (by decide +kernel)
set_option maxRecDepth 20000 in
theorem gX4_init_X2_learn : GoodIn wsX4_init (wsV RX4 37 RX2 yX2_learn wsX2_learn) := goodIn_app (goodIn_of _ (by decide +kernel)) ggX4_init_X2_learn
theorem dX4_init_0 : decode cX4_init 0 = .ok (.aload_n 0, 1) := by decide +kernel
theorem dX4_init_1 : decode cX4_init 1 = .ok (.invokespecial 3, 3) := by decide +kernel
theorem dX4_init_4 : decode cX4_init 4 = .ok (.aload_n 0, 1) := by decide +kernel
theorem dX4_init_5 : decode cX4_init 5 = .ok (.new 9, 3) := by decide +kernel
theorem dX4_init_8 : decode cX4_init 8 = .ok (.dup, 1) := by decide +kernel
theorem dX4_init_9 : decode cX4_init 9 = .ok (.invokespecial 11, 3) := by decide +kernel
theorem dX4_init_12 : decode cX4_init 12 = .ok (.putfield 12, 3) := by decide +kernel
theorem dX4_init_15 : decode cX4_init 15 = .ok (.aload_n 0, 1) := by decide +kernel
theorem dX4_init_16 : decode cX4_init 16 = .ok (.new 18, 3) := by decide +kernel
theorem dX4_init_19 : decode cX4_init 19 = .ok (.dup, 1) := by decide +kernel
theorem dX4_init_20 : decode cX4_init 20 = .ok (.sipush 288, 3) := by decide +kernel
theorem dX4_init_23 : decode cX4_init 23 = .ok (.invokespecial 20, 3) := by decide +kernel
theorem dX4_init_26 : decode cX4_init 26 = .ok (.putfield 23, 3) := by decide +kernel
theorem dX4_init_29 : decode cX4_init 29 = .ok (.aload_n 0, 1) := by decide +kernel
theorem dX4_init_30 : decode cX4_init 30 = .ok (.new 18, 3) := by decide +kernel
theorem dX4_init_33 : decode cX4_init 33 = .ok (.dup, 1) := by decide +kernel
theorem dX4_init_34 : decode cX4_init 34 = .ok (.bipush 32, 2) := by decide +kernel
theorem dX4_init_36 : decode cX4_init 36 = .ok (.invokespecial 20, 3) := by decide +kernel
theorem dX4_init_39 : decode cX4_init 39 = .ok (.putfield 27, 3) := by decide +kernel
theorem dX4_init_42 : decode cX4_init 42 = .ok (.aload_n 0, 1) := by decide +kernel
theorem dX4_init_43 : decode cX4_init 43 = .ok (.new 30, 3) := by decide +kernel
theorem dX4_init_46 : decode cX4_init 46 = .ok (.dup, 1) := by decide +kernel
theorem dX4_init_47 : decode cX4_init 47 = .ok (.invokespecial 32, 3) := by decide +kernel
theorem dX4_init_50 : decode cX4_init 50 = .ok (.putfield 33, 3) := by decide +kernel
theorem dX4_init_53 : decode cX4_init 53 = .ok (.sipush 288, 3) := by decide +kernel
theorem dX4_init_56 : decode cX4_init 56 = .ok (.newarray .int, 2) := by decide +kernel
theorem dX4_init_58 : decode cX4_init 58 = .ok (.astore_n 1, 1) := by decide +kernel
theorem dX4_init_59 : decode cX4_init 59 = .ok (.iconst 0, 1) := by decide +kernel
theorem dX4_init_60 : decode cX4_init 60 = .ok (.istore_n 2, 1) := by decide +kernel
theorem dX4_init_61 : decode cX4_init 61 = .ok (.iload_n 2, 1) := by decide +kernel
theorem dX4_init_62 : decode cX4_init 62 = .ok (.sipush 288, 3) := by decide +kernel
theorem dX4_init_65 : decode cX4_init 65 = .ok (.if_icmp .ge 50, 3) := by decide +kernel
theorem dX4_init_68 : decode cX4_init 68 = .ok (.aload_n 1, 1) := by decide +kernel
theorem dX4_init_69 : decode cX4_init 69 = .ok (.iload_n 2, 1) := by decide +kernel
theorem dX4_init_70 : decode cX4_init 70 = .ok (.iload_n 2, 1) := by decide +kernel
theorem dX4_init_71 : decode cX4_init 71 = .ok (.sipush 144, 3) := by decide +kernel
theorem dX4_init_74 : decode cX4_init 74 = .ok (.if_icmp .ge 8, 3) := by decide +kernel
theorem dX4_init_77 : decode cX4_init 77 = .ok (.bipush 8, 2) := by decide +kernel
theorem dX4_init_79 : decode cX4_init 79 = .ok (.goto 29, 3) := by decide +kernel
theorem dX4_init_82 : decode cX4_init 82 = .ok (.iload_n 2, 1) := by decide +kernel
theorem dX4_init_83 : decode cX4_init 83 = .ok (.sipush 256, 3) := by decide +kernel
theorem dX4_init_86 : decode cX4_init 86 = .ok (.if_icmp .ge 8, 3) := by decide +kernel
theorem dX4_init_89 : decode cX4_init 89 = .ok (.bipush 9, 2) := by decide +kernel
theorem dX4_init_91 : decode cX4_init 91 = .ok (.goto 17, 3) := by decide +kernel
theorem dX4_init_94 : decode cX4_init 94 = .ok (.iload_n 2, 1) := by decide +kernel
theorem dX4_init_95 : decode cX4_init 95 = .ok (.sipush 280, 3) := by decide +kernel
theorem dX4_init_98 : decode cX4_init 98 = .ok (.if_icmp .ge 8, 3) := by decide +kernel
theorem dX4_init_101 : decode cX4_init 101 = .ok (.bipush 7, 2) := by decide +kernel
theorem dX4_init_103 : decode cX4_init 103 = .ok (.goto 5, 3) := by decide +kernel
theorem dX4_init_106 : decode cX4_init 106 = .ok (.bipush 8, 2) := by decide +kernel
theorem dX4_init_108 : decode cX4_init 108 = .ok (.iastore, 1) := by decide +kernel
theorem dX4_init_109 : decode cX4_init 109 = .ok (.iinc 2 1, 3) := by decide +kernel
theorem dX4_init_112 : decode cX4_init 112 = .ok (.goto (-51), 3) := by decide +kernel
theorem dX4_init_115 : decode cX4_init 115 = .ok (.aload_n 0, 1) := by decide +kernel
theorem dX4_init_116 : decode cX4_init 116 = .ok (.getfield 23, 3) := by decide +kernel
theorem dX4_init_119 : decode cX4_init 119 = .ok (.aload_n 1, 1) := by decide +kernel
theorem dX4_init_120 : decode cX4_init 120 = .ok (.iconst 0, 1) := by decide +kernel
theorem dX4_init_121 : decode cX4_init 121 = .ok (.sipush 288, 3) := by decide +kernel
theorem dX4_init_124 : decode cX4_init 124 = .ok (.invokevirtual 37, 3) := by decide +kernel
theorem dX4_init_127 : decode cX4_init 127 = .ok (.iconst 0, 1) := by decide +kernel
theorem dX4_init_128 : decode cX4_init 128 = .ok (.istore_n 2, 1) := by decide +kernel
theorem dX4_init_129 : decode cX4_init 129 = .ok (.iload_n 2, 1) := by decide +kernel
theorem dX4_init_130 : decode cX4_init 130 = .ok (.bipush 32, 2) := by decide +kernel
theorem dX4_init_132 : decode cX4_init 132 = .ok (.if_icmp .ge 13, 3) := by decide +kernel
theorem dX4_init_135 : decode cX4_init 135 = .ok (.aload_n 1, 1) := by decide +kernel
theorem dX4_init_136 : decode cX4_init 136 = .ok (.iload_n 2, 1) := by decide +kernel
theorem dX4_init_137 : decode cX4_init 137 = .ok (.iconst 5, 1) := by decide +kernel
theorem dX4_init_138 : decode cX4_init 138 = .ok (.iastore, 1) := by decide +kernel
theorem dX4_init_139 : decode cX4_init 139 = .ok (.iinc 2 1, 3) := by decide +kernel
theorem dX4_init_142 : decode cX4_init 142 = .ok (.goto (-13), 3) := by decide +kernel
theorem dX4_init_145 : decode cX4_init 145 = .ok (.aload_n 0, 1) := by decide +kernel
theorem dX4_init_146 : decode cX4_init 146 = .ok (.getfield 27, 3) := by decide +kernel
theorem dX4_init_149 : decode cX4_init 149 = .ok (.aload_n 1, 1) := by decide +kernel
theorem dX4_init_150 : decode cX4_init 150 = .ok (.iconst 0, 1) := by decide +kernel
theorem dX4_init_151 : decode cX4_init 151 = .ok (.bipush 32, 2) := by decide +kernel
theorem dX4_init_153 : decode cX4_init 153 = .ok (.invokevirtual 37, 3) := by decide +kernel
theorem dX4_init_156 : decode cX4_init 156 = .ok (.return_, 1) := by decide +kernel
set_option maxRecDepth 20000 in
theorem ggX4_read_X0_begin : GoodIn wsX4_read wsX0_begin := goodIn_r _ [11, 12, 13, 14, 127, 128, 129] (by decide +kernel) (by decide +kernel)
set_option maxRecDepth 20000 in
theorem gX4_read_X0_begin : GoodIn wsX4_read (wsV RX4 41 RX0 yX0_begin wsX0_begin) := goodIn_app (goodIn_of _ (by decide +kernel)) ggX4_read_X0_begin
set_option maxRecDepth 20000 in
theorem ggX4_read_X4_readHead : GoodIn wsX4_read wsX4_readHead := goodIn_ca (goodIn_ca (goodIn_r _ [19, 1, 2, 3, 20, 21, 22, 10, 23, 24, 25, 26, 27, 28, 13, 14, 12, 120, 121, 122, 123, 124, 125, 126, 127, 128, 129] (by decide +kernel) (by decide +kernel)) (goodIn_sub (fun _ h => List.mem_cons_of_mem _ (List.mem_append_left _ (List.mem_append_left _ (List.mem_append_left _ (List.mem_append_right _ h))))) (by decide +kernel))) (goodIn_sub (fun _ h => List.mem_cons_of_mem _ (List.mem_append_left _ (List.mem_append_left _ (List.mem_append_right _ h)))) (by decide +kernel))
set_option maxRecDepth 20000 in
theorem gX4_read_X4_readHead : GoodIn wsX4_read (wsV RX4 56 RX4 yX4_readHead wsX4_readHead) := goodIn_app (goodIn_of _ (by decide +kernel)) ggX4_read_X4_readHead
set_option maxRecDepth 20000 in
theorem ggX4_read_X0_readBit : GoodIn wsX4_read wsX0_readBit := goodIn_ca (goodIn_r _ [27, 28, 2, 13, 14, 12, 127, 128, 129] (by decide +kernel) (by decide +kernel)) (goodIn_sub (fun _ h => List.mem_cons_of_mem _ (List.mem_append_left _ (List.mem_append_left _ (List.mem_append_right _ h)))) (by decide +kernel))
set_option maxRecDepth 20000 in
theorem gX4_read_X0_readBit : GoodIn wsX4_read (wsV RX4 59 RX0 yX0_readBit wsX0_readBit) := goodIn_app (goodIn_of _ (by decide +kernel)) ggX4_read_X0_readBit
set_option maxRecDepth 20000 in
theorem ggX4_read_X0_readBits : GoodIn wsX4_read wsX0_readBits := goodIn_ca (goodIn_r _ [23, 24, 25, 26, 10, 27, 28, 2, 13, 14, 12, 127, 128, 129] (by decide +kernel) (by decide +kernel)) (goodIn_sub (fun _ h => List.mem_cons_of_mem _ (List.mem_append_left _ (List.mem_append_left _ (List.mem_append_right _ h)))) (by decide +kernel))
set_option maxRecDepth 20000 in
theorem gX4_read_X0_readBits : GoodIn wsX4_read (wsV RX4 63 RX0 yX0_readBits wsX0_readBits) := goodIn_app (goodIn_of _ (by decide +kernel)) ggX4_read_X0_readBits
set_option maxRecDepth 20000 in
theorem ggX4_read_X4_readBlock : GoodIn wsX4_read wsX4_readBlock := goodIn_ca (goodIn_ca (goodIn_ca (goodIn_ca (goodIn_r _ [33, 1, 2, 34, 35, 36, 3, 37, 38, 39, 18, 40, 41, 42, 43, 44, 10, 45, 13, 20, 21, 22, 23, 24, 25, 26, 27, 28, 14, 12, 46, 47, 48, 49, 5, 6, 4, 50, 51, 52, 53, 54, 55, 56, 57, 58, 59, 60, 61, 62, 63, 64, 65, 66, 67, 68, 69, 70, 71, 72, 73, 74, 75, 76, 77, 78, 79, 80, 81, 82, 83, 84, 85, 86, 87, 88, 89, 90, 91, 92, 93, 94, 95, 96, 97, 98, 99, 100, 101, 102, 103, 104, 105, 106, 107, 120, 121, 122, 123, 124, 125, 126, 130, 131, 132, 133, 127, 128, 129, 134, 135, 136] (by decide +kernel) (by decide +kernel)) (goodIn_sub (fun _ h => List.mem_cons_of_mem _ (List.mem_append_left _ (List.mem_append_left _ (List.mem_append_left _ (List.mem_append_right _ h))))) (by decide +kernel))) (goodIn_sub (fun _ h => List.mem_cons_of_mem _ (List.mem_append_left _ (List.mem_append_left _ (List.mem_append_right _ h)))) (by decide +kernel))) (goodIn_sub (fun _ h => List.mem_cons_of_mem _ (List.mem_append_left _ (List.mem_append_right _ h))) (by decide +kernel))) (goodIn_sub (fun _ h => List.mem_cons_of_mem _ (List.mem_append_right _ h)) (by decide +kernel))
set_option maxRecDepth 20000 in
theorem gX4_read_X4_readBlock : GoodIn wsX4_read (wsV RX4 67 RX4 yX4_readBlock wsX4_readBlock) := goodIn_app (goodIn_of _ (by decide +kernel)) ggX4_read_X4_readBlock
set_option maxRecDepth 20000 in
theorem ggX4_read_X0_skipToByte : GoodIn wsX4_read wsX0_skipToByte := goodIn_r _ [45, 13, 127, 128, 129] (by decide +kernel) (by decide +kernel)
set_option maxRecDepth 20000 in
theorem gX4_read_X0_skipToByte : GoodIn wsX4_read (wsV RX4 70 RX0 yX0_skipToByte wsX0_skipToByte) := goodIn_app (goodIn_of _ (by decide +kernel)) ggX4_read_X0_skipToByte
set_option maxRecDepth 20000 in
theorem ggX4_read_X0_isAtLimit : GoodIn wsX4_read wsX0_isAtLimit := goodIn_r _ [111, 13, 14, 127, 128, 129] (by decide +kernel) (by decide +kernel)
set_option maxRecDepth 20000 in
theorem gX4_read_X0_isAtLimit : GoodIn wsX4_read (wsV RX4 73 RX0 yX0_isAtLimit wsX0_isAtLimit) := goodIn_app (goodIn_of _ (by decide +kernel)) ggX4_read_X0_isAtLimit
set_option maxRecDepth 20000 in
theorem ggX4_read_X4_checkSum : GoodIn wsX4_read wsX4_checkSum := goodIn_ca (goodIn_r _ [115, 1, 2, 4, 5, 116, 117, 118, 119, 120, 121, 122, 123, 124, 125, 126] (by decide +kernel) (by decide +kernel)) (goodIn_sub (fun _ h => List.mem_cons_of_mem _ (List.mem_append_left _ (List.mem_append_left _ (List.mem_append_left _ (List.mem_append_right _ h))))) (by decide +kernel))
set_option maxRecDepth 20000 in
theorem gX4_read_X4_checkSum : GoodIn wsX4_read (wsV RX4 84 RX4 yX4_checkSum wsX4_checkSum) := goodIn_app (goodIn_of _ (by decide +kernel)) ggX4_read_X4_checkSum
theorem dX4_read_0 : decode cX4_read 0 = .ok (.aload_n 0, 1) := by decide +kernel
theorem dX4_read_1 : decode cX4_read 1 = .ok (.getfield 12, 3) := by decide +kernel
theorem dX4_read_4 : decode cX4_read 4 = .ok (.aload_n 1, 1) := by decide +kernel
theorem dX4_read_5 : decode cX4_read 5 = .ok (.iload_n 2, 1) := by decide +kernel
theorem dX4_read_6 : decode cX4_read 6 = .ok (.iconst 4, 1) := by decide +kernel
theorem dX4_read_7 : decode cX4_read 7 = .ok (.isub, 1) := by decide +kernel
theorem dX4_read_8 : decode cX4_read 8 = .ok (.invokevirtual 41, 3) := by decide +kernel
theorem dX4_read_11 : decode cX4_read 11 = .ok (.aload_n 0, 1) := by decide +kernel
theorem dX4_read_12 : decode cX4_read 12 = .ok (.aload_n 3, 1) := by decide +kernel
theorem dX4_read_13 : decode cX4_read 13 = .ok (.putfield 45, 3) := by decide +kernel
theorem dX4_read_16 : decode cX4_read 16 = .ok (.aload_n 0, 1) := by decide +kernel
theorem dX4_read_17 : decode cX4_read 17 = .ok (.iconst 0, 1) := by decide +kernel
theorem dX4_read_18 : decode cX4_read 18 = .ok (.putfield 49, 3) := by decide +kernel
theorem dX4_read_21 : decode cX4_read 21 = .ok (.aload_n 0, 1) := by decide +kernel
theorem dX4_read_22 : decode cX4_read 22 = .ok (.iload 4, 2) := by decide +kernel
theorem dX4_read_24 : decode cX4_read 24 = .ok (.putfield 53, 3) := by decide +kernel
theorem dX4_read_27 : decode cX4_read 27 = .ok (.aload_n 0, 1) := by decide +kernel
theorem dX4_read_28 : decode cX4_read 28 = .ok (.invokevirtual 56, 3) := by decide +kernel
theorem dX4_read_31 : decode cX4_read 31 = .ok (.iconst 0, 1) := by decide +kernel
theorem dX4_read_32 : decode cX4_read 32 = .ok (.istore 5, 2) := by decide +kernel
theorem dX4_read_34 : decode cX4_read 34 = .ok (.iconst 0, 1) := by decide +kernel
theorem dX4_read_35 : decode cX4_read 35 = .ok (.istore 6, 2) := by decide +kernel
theorem dX4_read_37 : decode cX4_read 37 = .ok (.iload 6, 2) := by decide +kernel
theorem dX4_read_39 : decode cX4_read 39 = .ok (.sipush 32000, 3) := by decide +kernel
theorem dX4_read_42 : decode cX4_read 42 = .ok (.if_icmp .ge 44, 3) := by decide +kernel
theorem dX4_read_45 : decode cX4_read 45 = .ok (.iload 5, 2) := by decide +kernel
theorem dX4_read_47 : decode cX4_read 47 = .ok (.ifCond .ne 39, 3) := by decide +kernel
theorem dX4_read_50 : decode cX4_read 50 = .ok (.aload_n 0, 1) := by decide +kernel
theorem dX4_read_51 : decode cX4_read 51 = .ok (.getfield 12, 3) := by decide +kernel
theorem dX4_read_54 : decode cX4_read 54 = .ok (.invokevirtual 59, 3) := by decide +kernel
theorem dX4_read_57 : decode cX4_read 57 = .ok (.iconst 1, 1) := by decide +kernel
theorem dX4_read_58 : decode cX4_read 58 = .ok (.if_icmp .ne 7, 3) := by decide +kernel
theorem dX4_read_61 : decode cX4_read 61 = .ok (.iconst 1, 1) := by decide +kernel
theorem dX4_read_62 : decode cX4_read 62 = .ok (.goto 4, 3) := by decide +kernel
theorem dX4_read_65 : decode cX4_read 65 = .ok (.iconst 0, 1) := by decide +kernel
theorem dX4_read_66 : decode cX4_read 66 = .ok (.istore 5, 2) := by decide +kernel
theorem dX4_read_68 : decode cX4_read 68 = .ok (.aload_n 0, 1) := by decide +kernel
theorem dX4_read_69 : decode cX4_read 69 = .ok (.aload_n 0, 1) := by decide +kernel
theorem dX4_read_70 : decode cX4_read 70 = .ok (.getfield 12, 3) := by decide +kernel
theorem dX4_read_73 : decode cX4_read 73 = .ok (.iconst 2, 1) := by decide +kernel
theorem dX4_read_74 : decode cX4_read 74 = .ok (.invokevirtual 63, 3) := by decide +kernel
theorem dX4_read_77 : decode cX4_read 77 = .ok (.invokevirtual 67, 3) := by decide +kernel
theorem dX4_read_80 : decode cX4_read 80 = .ok (.iinc 6 1, 3) := by decide +kernel
theorem dX4_read_83 : decode cX4_read 83 = .ok (.goto (-46), 3) := by decide +kernel
theorem dX4_read_86 : decode cX4_read 86 = .ok (.aload_n 0, 1) := by decide +kernel
theorem dX4_read_87 : decode cX4_read 87 = .ok (.getfield 12, 3) := by decide +kernel
theorem dX4_read_90 : decode cX4_read 90 = .ok (.invokevirtual 70, 3) := by decide +kernel
theorem dX4_read_93 : decode cX4_read 93 = .ok (.aload_n 0, 1) := by decide +kernel
theorem dX4_read_94 : decode cX4_read 94 = .ok (.getfield 12, 3) := by decide +kernel
theorem dX4_read_97 : decode cX4_read 97 = .ok (.invokevirtual 73, 3) := by decide +kernel
theorem dX4_read_100 : decode cX4_read 100 = .ok (.ifCond .ne 13, 3) := by decide +kernel
theorem dX4_read_103 : decode cX4_read 103 = .ok (.new 77, 3) := by decide +kernel
theorem dX4_read_106 : decode cX4_read 106 = .ok (.dup, 1) := by decide +kernel
theorem dX4_read_107 : decode cX4_read 107 = .ok (.ldc 79, 2) := by decide +kernel
theorem dX4_read_109 : decode cX4_read 109 = .ok (.invokespecial 81, 3) := by decide +kernel
theorem dX4_read_112 : decode cX4_read 112 = .ok (.athrow, 1) := by decide +kernel
theorem dX4_read_113 : decode cX4_read 113 = .ok (.aload_n 0, 1) := by decide +kernel
theorem dX4_read_114 : decode cX4_read 114 = .ok (.aload_n 1, 1) := by decide +kernel
theorem dX4_read_115 : decode cX4_read 115 = .ok (.iload_n 2, 1) := by decide +kernel
theorem dX4_read_116 : decode cX4_read 116 = .ok (.iconst 4, 1) := by decide +kernel
theorem dX4_read_117 : decode cX4_read 117 = .ok (.isub, 1) := by decide +kernel
theorem dX4_read_118 : decode cX4_read 118 = .ok (.invokevirtual 84, 3) := by decide +kernel
theorem dX4_read_121 : decode cX4_read 121 = .ok (.aload_n 0, 1) := by decide +kernel
theorem dX4_read_122 : decode cX4_read 122 = .ok (.getfield 49, 3) := by decide +kernel
theorem dX4_read_125 : decode cX4_read 125 = .ok (.ireturn, 1) := by decide +kernel
set_option maxRecDepth 20000 in
theorem ggX4_readHead_X0_readBits : GoodIn wsX4_readHead wsX0_readBits := goodIn_ca (goodIn_r _ [8, 9, 10, 11, 7, 12, 13, 2, 14, 15, 16, 24, 25, 26] (by decide +kernel) (by decide +kernel)) (goodIn_sub (fun _ h => List.mem_cons_of_mem _ (List.mem_append_right _ h)) (by decide +kernel))
set_option maxRecDepth 20000 in
theorem gX4_readHead_X0_readBits : GoodIn wsX4_readHead (wsV RX4 63 RX0 yX0_readBits wsX0_readBits) := goodIn_app (goodIn_of _ (by decide +kernel)) ggX4_readHead_X0_readBits
theorem dX4_readHead_0 : decode cX4_readHead 0 = .ok (.aload_n 0, 1) := by decide +kernel
theorem dX4_readHead_1 : decode cX4_readHead 1 = .ok (.getfield 12, 3) := by decide +kernel
theorem dX4_readHead_4 : decode cX4_readHead 4 = .ok (.bipush 8, 2) := by decide +kernel
theorem dX4_readHead_6 : decode cX4_readHead 6 = .ok (.invokevirtual 63, 3) := by decide +kernel
theorem dX4_readHead_9 : decode cX4_readHead 9 = .ok (.istore_n 1, 1) := by decide +kernel
theorem dX4_readHead_10 : decode cX4_readHead 10 = .ok (.aload_n 0, 1) := by decide +kernel
theorem dX4_readHead_11 : decode cX4_readHead 11 = .ok (.getfield 12, 3) := by decide +kernel
theorem dX4_readHead_14 : decode cX4_readHead 14 = .ok (.bipush 8, 2) := by decide +kernel
theorem dX4_readHead_16 : decode cX4_readHead 16 = .ok (.invokevirtual 63, 3) := by decide +kernel
theorem dX4_readHead_19 : decode cX4_readHead 19 = .ok (.istore_n 2, 1) := by decide +kernel
theorem dX4_readHead_20 : decode cX4_readHead 20 = .ok (.iload_n 1, 1) := by decide +kernel
theorem dX4_readHead_21 : decode cX4_readHead 21 = .ok (.bipush 15, 2) := by decide +kernel
theorem dX4_readHead_23 : decode cX4_readHead 23 = .ok (.iand, 1) := by decide +kernel
theorem dX4_readHead_24 : decode cX4_readHead 24 = .ok (.bipush 8, 2) := by decide +kernel
theorem dX4_readHead_26 : decode cX4_readHead 26 = .ok (.if_icmp .ne 15, 3) := by decide +kernel
theorem dX4_readHead_29 : decode cX4_readHead 29 = .ok (.iload_n 1, 1) := by decide +kernel
theorem dX4_readHead_30 : decode cX4_readHead 30 = .ok (.iconst 4, 1) := by decide +kernel
theorem dX4_readHead_31 : decode cX4_readHead 31 = .ok (.iushr, 1) := by decide +kernel
theorem dX4_readHead_32 : decode cX4_readHead 32 = .ok (.bipush 7, 2) := by decide +kernel
theorem dX4_readHead_34 : decode cX4_readHead 34 = .ok (.if_icmp .gt 7, 3) := by decide +kernel
theorem dX4_readHead_37 : decode cX4_readHead 37 = .ok (.iconst 1, 1) := by decide +kernel
theorem dX4_readHead_38 : decode cX4_readHead 38 = .ok (.goto 4, 3) := by decide +kernel
theorem dX4_readHead_41 : decode cX4_readHead 41 = .ok (.iconst 0, 1) := by decide +kernel
theorem dX4_readHead_42 : decode cX4_readHead 42 = .ok (.istore_n 3, 1) := by decide +kernel
theorem dX4_readHead_43 : decode cX4_readHead 43 = .ok (.iload_n 2, 1) := by decide +kernel
theorem dX4_readHead_44 : decode cX4_readHead 44 = .ok (.bipush 32, 2) := by decide +kernel
theorem dX4_readHead_46 : decode cX4_readHead 46 = .ok (.iand, 1) := by decide +kernel
theorem dX4_readHead_47 : decode cX4_readHead 47 = .ok (.ifCond .eq 7, 3) := by decide +kernel
theorem dX4_readHead_50 : decode cX4_readHead 50 = .ok (.iconst 1, 1) := by decide +kernel
theorem dX4_readHead_51 : decode cX4_readHead 51 = .ok (.goto 4, 3) := by decide +kernel
theorem dX4_readHead_54 : decode cX4_readHead 54 = .ok (.iconst 0, 1) := by decide +kernel
theorem dX4_readHead_55 : decode cX4_readHead 55 = .ok (.istore 4, 2) := by decide +kernel
theorem dX4_readHead_57 : decode cX4_readHead 57 = .ok (.iload_n 3, 1) := by decide +kernel
theorem dX4_readHead_58 : decode cX4_readHead 58 = .ok (.ifCond .eq 21, 3) := by decide +kernel
theorem dX4_readHead_61 : decode cX4_readHead 61 = .ok (.iload 4, 2) := by decide +kernel
theorem dX4_readHead_63 : decode cX4_readHead 63 = .ok (.ifCond .ne 16, 3) := by decide +kernel
theorem dX4_readHead_66 : decode cX4_readHead 66 = .ok (.iload_n 1, 1) := by decide +kernel
theorem dX4_readHead_67 : decode cX4_readHead 67 = .ok (.sipush 256, 3) := by decide +kernel
theorem dX4_readHead_70 : decode cX4_readHead 70 = .ok (.imul, 1) := by decide +kernel
theorem dX4_readHead_71 : decode cX4_readHead 71 = .ok (.iload_n 2, 1) := by decide +kernel
theorem dX4_readHead_72 : decode cX4_readHead 72 = .ok (.iadd, 1) := by decide +kernel
theorem dX4_readHead_73 : decode cX4_readHead 73 = .ok (.bipush 31, 2) := by decide +kernel
theorem dX4_readHead_75 : decode cX4_readHead 75 = .ok (.irem, 1) := by decide +kernel
theorem dX4_readHead_76 : decode cX4_readHead 76 = .ok (.ifCond .eq 13, 3) := by decide +kernel
theorem dX4_readHead_79 : decode cX4_readHead 79 = .ok (.new 77, 3) := by decide +kernel
theorem dX4_readHead_82 : decode cX4_readHead 82 = .ok (.dup, 1) := by decide +kernel
theorem dX4_readHead_83 : decode cX4_readHead 83 = .ok (.ldc 87, 2) := by decide +kernel
theorem dX4_readHead_85 : decode cX4_readHead 85 = .ok (.invokespecial 81, 3) := by decide +kernel
theorem dX4_readHead_88 : decode cX4_readHead 88 = .ok (.athrow, 1) := by decide +kernel
theorem dX4_readHead_89 : decode cX4_readHead 89 = .ok (.return_, 1) := by decide +kernel
set_option maxRecDepth 20000 in
theorem ggX4_readBlock_X4_readStored : GoodIn wsX4_readBlock wsX4_readStored := goodIn_ca (goodIn_ca (goodIn_r _ [11, 1, 2, 6, 12, 13, 14, 15, 16, 17, 18, 19, 20, 21, 22, 23, 24, 25, 26, 27, 28, 29, 30, 31, 32, 10, 33, 34, 35, 36, 95, 96, 97, 98, 99, 100, 101, 106, 107, 108] (by decide +kernel) (by decide +kernel)) (goodIn_sub (fun _ h => List.mem_cons_of_mem _ (List.mem_append_left _ (List.mem_append_left _ (List.mem_append_left _ (List.mem_append_right _ h))))) (by decide +kernel))) (goodIn_sub (fun _ h => List.mem_cons_of_mem _ (List.mem_append_left _ (List.mem_append_left _ (List.mem_append_right _ h)))) (by decide +kernel))
set_option maxRecDepth 20000 in
theorem gX4_readBlock_X4_readStored : GoodIn wsX4_readBlock (wsV RX4 89 RX4 yX4_readStored wsX4_readStored) := goodIn_app (goodIn_of _ (by decide +kernel)) ggX4_readBlock_X4_readStored
set_option maxRecDepth 20000 in
theorem ggX4_readBlock_X4_readCoded : GoodIn wsX4_readBlock wsX4_readCoded := goodIn_ca (goodIn_ca (goodIn_ca (goodIn_r _ [40, 6, 41, 42, 43, 44, 45, 46, 2, 47, 48, 49, 24, 25, 16, 26, 27, 18, 28, 29, 30, 31, 32, 10, 33, 1, 34, 35, 36, 50, 51, 52, 53, 19, 20, 21, 22, 23, 95, 96, 97, 98, 99, 100, 101, 109, 110, 111, 106, 107, 108] (by decide +kernel) (by decide +kernel)) (goodIn_sub (fun _ h => List.mem_cons_of_mem _ (List.mem_append_left _ (List.mem_append_right _ h))) (by decide +kernel))) (goodIn_sub (fun _ h => List.mem_cons_of_mem _ (List.mem_append_left _ (List.mem_append_left _ (List.mem_append_right _ h)))) (by decide +kernel))) (goodIn_sub (fun _ h => List.mem_cons_of_mem _ (List.mem_append_left _ (List.mem_append_left _ (List.mem_append_left _ (List.mem_append_right _ h))))) (by decide +kernel))
set_option maxRecDepth 20000 in
theorem gX4_readBlock_X4_readCoded : GoodIn wsX4_readBlock (wsV RX4 92 RX4 yX4_readCoded wsX4_readCoded) := goodIn_app (goodIn_of _ (by decide +kernel)) ggX4_readBlock_X4_readCoded
set_option maxRecDepth 20000 in
theorem ggX4_readBlock_X6_readSets : GoodIn wsX4_readBlock wsX6_readSets := goodIn_ca (goodIn_ca (goodIn_ca (goodIn_r _ [58, 59, 2, 60, 61, 62, 63, 20, 21, 16, 22, 23, 24, 25, 26, 27, 18, 28, 29, 64, 65, 66, 57, 67, 68, 69, 70, 71, 72, 73, 74, 75, 44, 76, 47, 77, 78, 79, 80, 81, 48, 82, 83, 84, 85, 86, 87, 88, 89, 90, 42, 43, 45, 46, 49, 91, 92, 93, 94, 102, 103, 104, 105, 106, 107, 108, 109, 110, 111] (by decide +kernel) (by decide +kernel)) (goodIn_sub (fun _ h => List.mem_cons_of_mem _ (List.mem_append_right _ h)) (by decide +kernel))) (goodIn_sub (fun _ h => List.mem_cons_of_mem _ (List.mem_append_left _ (List.mem_append_left _ (List.mem_append_right _ h)))) (by decide +kernel))) (goodIn_sub (fun _ h => List.mem_cons_of_mem _ (List.mem_append_left _ (List.mem_append_right _ h))) (by decide +kernel))
set_option maxRecDepth 20000 in
theorem gX4_readBlock_X6_readSets : GoodIn wsX4_readBlock (wsV RX4 96 RX6 yX6_readSets wsX6_readSets) := goodIn_app (goodIn_of _ (by decide +kernel)) ggX4_readBlock_X6_readSets
theorem dX4_readBlock_0 : decode cX4_readBlock 0 = .ok (.iload_n 1, 1) := by decide +kernel
theorem dX4_readBlock_1 : decode cX4_readBlock 1 = .ok (.tableswitch 81 0 2 #[27, 34, 49], 27) := by decide +kernel
theorem dX4_readBlock_28 : decode cX4_readBlock 28 = .ok (.aload_n 0, 1) := by decide +kernel
theorem dX4_readBlock_29 : decode cX4_readBlock 29 = .ok (.invokevirtual 89, 3) := by decide +kernel
theorem dX4_readBlock_32 : decode cX4_readBlock 32 = .ok (.goto 60, 3) := by decide +kernel
theorem dX4_readBlock_35 : decode cX4_readBlock 35 = .ok (.aload_n 0, 1) := by decide +kernel
theorem dX4_readBlock_36 : decode cX4_readBlock 36 = .ok (.aload_n 0, 1) := by decide +kernel
theorem dX4_readBlock_37 : decode cX4_readBlock 37 = .ok (.getfield 23, 3) := by decide +kernel
theorem dX4_readBlock_40 : decode cX4_readBlock 40 = .ok (.aload_n 0, 1) := by decide +kernel
theorem dX4_readBlock_41 : decode cX4_readBlock 41 = .ok (.getfield 27, 3) := by decide +kernel
theorem dX4_readBlock_44 : decode cX4_readBlock 44 = .ok (.invokevirtual 92, 3) := by decide +kernel
theorem dX4_readBlock_47 : decode cX4_readBlock 47 = .ok (.goto 45, 3) := by decide +kernel
theorem dX4_readBlock_50 : decode cX4_readBlock 50 = .ok (.aload_n 0, 1) := by decide +kernel
theorem dX4_readBlock_51 : decode cX4_readBlock 51 = .ok (.getfield 33, 3) := by decide +kernel
theorem dX4_readBlock_54 : decode cX4_readBlock 54 = .ok (.aload_n 0, 1) := by decide +kernel
theorem dX4_readBlock_55 : decode cX4_readBlock 55 = .ok (.getfield 12, 3) := by decide +kernel
theorem dX4_readBlock_58 : decode cX4_readBlock 58 = .ok (.invokevirtual 96, 3) := by decide +kernel
theorem dX4_readBlock_61 : decode cX4_readBlock 61 = .ok (.aload_n 0, 1) := by decide +kernel
theorem dX4_readBlock_62 : decode cX4_readBlock 62 = .ok (.aload_n 0, 1) := by decide +kernel
theorem dX4_readBlock_63 : decode cX4_readBlock 63 = .ok (.getfield 33, 3) := by decide +kernel
theorem dX4_readBlock_66 : decode cX4_readBlock 66 = .ok (.getfield 100, 3) := by decide +kernel
theorem dX4_readBlock_69 : decode cX4_readBlock 69 = .ok (.aload_n 0, 1) := by decide +kernel
theorem dX4_readBlock_70 : decode cX4_readBlock 70 = .ok (.getfield 33, 3) := by decide +kernel
theorem dX4_readBlock_73 : decode cX4_readBlock 73 = .ok (.getfield 103, 3) := by decide +kernel
theorem dX4_readBlock_76 : decode cX4_readBlock 76 = .ok (.invokevirtual 92, 3) := by decide +kernel
theorem dX4_readBlock_79 : decode cX4_readBlock 79 = .ok (.goto 13, 3) := by decide +kernel
theorem dX4_readBlock_82 : decode cX4_readBlock 82 = .ok (.new 77, 3) := by decide +kernel
theorem dX4_readBlock_85 : decode cX4_readBlock 85 = .ok (.dup, 1) := by decide +kernel
theorem dX4_readBlock_86 : decode cX4_readBlock 86 = .ok (.ldc 106, 2) := by decide +kernel
theorem dX4_readBlock_88 : decode cX4_readBlock 88 = .ok (.invokespecial 81, 3) := by decide +kernel
theorem dX4_readBlock_91 : decode cX4_readBlock 91 = .ok (.athrow, 1) := by decide +kernel
theorem dX4_readBlock_92 : decode cX4_readBlock 92 = .ok (.return_, 1) := by decide +kernel
set_option maxRecDepth 20000 in
theorem ggX4_readStored_X0_skipToByte : GoodIn wsX4_readStored wsX0_skipToByte := goodIn_r _ [9, 10, 37, 38, 39] (by decide +kernel) (by decide +kernel)
set_option maxRecDepth 20000 in
theorem gX4_readStored_X0_skipToByte : GoodIn wsX4_readStored (wsV RX4 70 RX0 yX0_skipToByte wsX0_skipToByte) := goodIn_app (goodIn_of _ (by decide +kernel)) ggX4_readStored_X0_skipToByte
set_option maxRecDepth 20000 in
theorem ggX4_readStored_X0_readBits : GoodIn wsX4_readStored wsX0_readBits := goodIn_ca (goodIn_r _ [14, 15, 16, 17, 8, 18, 19, 2, 10, 20, 21, 37, 38, 39] (by decide +kernel) (by decide +kernel)) (goodIn_sub (fun _ h => List.mem_cons_of_mem _ (List.mem_append_right _ h)) (by decide +kernel))
set_option maxRecDepth 20000 in
theorem gX4_readStored_X0_readBits : GoodIn wsX4_readStored (wsV RX4 63 RX0 yX0_readBits wsX0_readBits) := goodIn_app (goodIn_of _ (by decide +kernel)) ggX4_readStored_X0_readBits
set_option maxRecDepth 20000 in
theorem ggX4_readStored_X4_put : GoodIn wsX4_readStored wsX4_put := goodIn_ca (goodIn_r _ [26, 1, 2, 27, 28, 29, 30, 31, 32, 33, 34, 35, 36] (by decide +kernel) (by decide +kernel)) (goodIn_sub (fun _ h => List.mem_cons_of_mem _ (List.mem_append_left _ (List.mem_append_right _ h))) (by decide +kernel))
set_option maxRecDepth 20000 in
theorem gX4_readStored_X4_put : GoodIn wsX4_readStored (wsV RX4 111 RX4 yX4_put wsX4_put) := goodIn_app (goodIn_of _ (by decide +kernel)) ggX4_readStored_X4_put
theorem dX4_readStored_0 : decode cX4_readStored 0 = .ok (.aload_n 0, 1) := by decide +kernel
theorem dX4_readStored_1 : decode cX4_readStored 1 = .ok (.getfield 12, 3) := by decide +kernel
theorem dX4_readStored_4 : decode cX4_readStored 4 = .ok (.invokevirtual 70, 3) := by decide +kernel
theorem dX4_readStored_7 : decode cX4_readStored 7 = .ok (.aload_n 0, 1) := by decide +kernel
theorem dX4_readStored_8 : decode cX4_readStored 8 = .ok (.getfield 12, 3) := by decide +kernel
theorem dX4_readStored_11 : decode cX4_readStored 11 = .ok (.bipush 16, 2) := by decide +kernel
theorem dX4_readStored_13 : decode cX4_readStored 13 = .ok (.invokevirtual 63, 3) := by decide +kernel
theorem dX4_readStored_16 : decode cX4_readStored 16 = .ok (.istore_n 1, 1) := by decide +kernel
theorem dX4_readStored_17 : decode cX4_readStored 17 = .ok (.aload_n 0, 1) := by decide +kernel
theorem dX4_readStored_18 : decode cX4_readStored 18 = .ok (.getfield 12, 3) := by decide +kernel
theorem dX4_readStored_21 : decode cX4_readStored 21 = .ok (.bipush 16, 2) := by decide +kernel
theorem dX4_readStored_23 : decode cX4_readStored 23 = .ok (.invokevirtual 63, 3) := by decide +kernel
theorem dX4_readStored_26 : decode cX4_readStored 26 = .ok (.iload_n 1, 1) := by decide +kernel
theorem dX4_readStored_27 : decode cX4_readStored 27 = .ok (.ldc 108, 2) := by decide +kernel
theorem dX4_readStored_29 : decode cX4_readStored 29 = .ok (.ixor, 1) := by decide +kernel
theorem dX4_readStored_30 : decode cX4_readStored 30 = .ok (.if_icmp .eq 13, 3) := by decide +kernel
theorem dX4_readStored_33 : decode cX4_readStored 33 = .ok (.new 77, 3) := by decide +kernel
theorem dX4_readStored_36 : decode cX4_readStored 36 = .ok (.dup, 1) := by decide +kernel
theorem dX4_readStored_37 : decode cX4_readStored 37 = .ok (.ldc 109, 2) := by decide +kernel
theorem dX4_readStored_39 : decode cX4_readStored 39 = .ok (.invokespecial 81, 3) := by decide +kernel
theorem dX4_readStored_42 : decode cX4_readStored 42 = .ok (.athrow, 1) := by decide +kernel
theorem dX4_readStored_43 : decode cX4_readStored 43 = .ok (.iconst 0, 1) := by decide +kernel
theorem dX4_readStored_44 : decode cX4_readStored 44 = .ok (.istore_n 2, 1) := by decide +kernel
theorem dX4_readStored_45 : decode cX4_readStored 45 = .ok (.iload_n 2, 1) := by decide +kernel
theorem dX4_readStored_46 : decode cX4_readStored 46 = .ok (.iload_n 1, 1) := by decide +kernel
theorem dX4_readStored_47 : decode cX4_readStored 47 = .ok (.if_icmp .ge 22, 3) := by decide +kernel
theorem dX4_readStored_50 : decode cX4_readStored 50 = .ok (.aload_n 0, 1) := by decide +kernel
theorem dX4_readStored_51 : decode cX4_readStored 51 = .ok (.aload_n 0, 1) := by decide +kernel
theorem dX4_readStored_52 : decode cX4_readStored 52 = .ok (.getfield 12, 3) := by decide +kernel
theorem dX4_readStored_55 : decode cX4_readStored 55 = .ok (.bipush 8, 2) := by decide +kernel
theorem dX4_readStored_57 : decode cX4_readStored 57 = .ok (.invokevirtual 63, 3) := by decide +kernel
theorem dX4_readStored_60 : decode cX4_readStored 60 = .ok (.invokevirtual 111, 3) := by decide +kernel
theorem dX4_readStored_63 : decode cX4_readStored 63 = .ok (.iinc 2 1, 3) := by decide +kernel
theorem dX4_readStored_66 : decode cX4_readStored 66 = .ok (.goto (-21), 3) := by decide +kernel
theorem dX4_readStored_69 : decode cX4_readStored 69 = .ok (.return_, 1) := by decide +kernel
set_option maxRecDepth 20000 in
theorem ggX4_readCoded_X2_readSymbol : GoodIn wsX4_readCoded wsX2_readSymbol := goodIn_ca (goodIn_ca (goodIn_r _ [6, 7, 8, 9, 10, 11, 12, 13, 14, 15, 16, 17, 18, 19, 45, 46, 47, 48, 49, 50] (by decide +kernel) (by decide +kernel)) (goodIn_sub (fun _ h => List.mem_cons_of_mem _ (List.mem_append_left _ (List.mem_append_left _ (List.mem_append_right _ h)))) (by decide +kernel))) (goodIn_sub (fun _ h => List.mem_cons_of_mem _ (List.mem_append_left _ (List.mem_append_right _ h))) (by decide +kernel))
set_option maxRecDepth 20000 in
theorem gX4_readCoded_X2_readSymbol : GoodIn wsX4_readCoded (wsV RX4 114 RX2 yX2_readSymbol wsX2_readSymbol) := goodIn_app (goodIn_of _ (by decide +kernel)) ggX4_readCoded_X2_readSymbol
set_option maxRecDepth 20000 in
theorem ggX4_readCoded_X4_put : GoodIn wsX4_readCoded wsX4_put := goodIn_ca (goodIn_r _ [24, 25, 8, 26, 27, 28, 38, 39, 40, 41, 42, 43, 44] (by decide +kernel) (by decide +kernel)) (goodIn_sub (fun _ h => List.mem_cons_of_mem _ (List.mem_append_right _ h)) (by decide +kernel))
set_option maxRecDepth 20000 in
theorem gX4_readCoded_X4_put : GoodIn wsX4_readCoded (wsV RX4 111 RX4 yX4_put wsX4_put) := goodIn_app (goodIn_of _ (by decide +kernel)) ggX4_readCoded_X4_put
set_option maxRecDepth 20000 in
theorem ggX4_readCoded_X4_readCopy : GoodIn wsX4_readCoded wsX4_readCopy := goodIn_ca (goodIn_ca (goodIn_ca (goodIn_r _ [32, 25, 8, 1, 26, 28, 33, 34, 35, 14, 36, 37, 12, 13, 15, 16, 17, 18, 19, 2, 3, 4, 5, 6, 7, 9, 10, 11, 20, 21, 22, 23, 24, 27, 38, 39, 40, 41, 42, 43, 44, 48, 49, 50, 45, 46, 47] (by decide +kernel) (by decide +kernel)) (goodIn_sub (fun _ h => List.mem_cons_of_mem _ (List.mem_append_right _ h)) (by decide +kernel))) (goodIn_sub (fun _ h => List.mem_cons_of_mem _ (List.mem_append_left _ (List.mem_append_right _ h))) (by decide +kernel))) (goodIn_sub (fun _ h => List.mem_cons_of_mem _ (List.mem_append_left _ (List.mem_append_left _ (List.mem_append_right _ h)))) (by decide +kernel))
set_option maxRecDepth 20000 in
theorem gX4_readCoded_X4_readCopy : GoodIn wsX4_readCoded (wsV RX4 118 RX4 yX4_readCopy wsX4_readCopy) := goodIn_app (goodIn_of _ (by decide +kernel)) ggX4_readCoded_X4_readCopy
theorem dX4_readCoded_0 : decode cX4_readCoded 0 = .ok (.iconst 0, 1) := by decide +kernel
theorem dX4_readCoded_1 : decode cX4_readCoded 1 = .ok (.istore_n 3, 1) := by decide +kernel
theorem dX4_readCoded_2 : decode cX4_readCoded 2 = .ok (.iconst 0, 1) := by decide +kernel
theorem dX4_readCoded_3 : decode cX4_readCoded 3 = .ok (.istore 4, 2) := by decide +kernel
theorem dX4_readCoded_5 : decode cX4_readCoded 5 = .ok (.iload 4, 2) := by decide +kernel
theorem dX4_readCoded_7 : decode cX4_readCoded 7 = .ok (.sipush 32000, 3) := by decide +kernel
theorem dX4_readCoded_10 : decode cX4_readCoded 10 = .ok (.if_icmp .ge 57, 3) := by decide +kernel
theorem dX4_readCoded_13 : decode cX4_readCoded 13 = .ok (.iload_n 3, 1) := by decide +kernel
theorem dX4_readCoded_14 : decode cX4_readCoded 14 = .ok (.sipush 256, 3) := by decide +kernel
theorem dX4_readCoded_17 : decode cX4_readCoded 17 = .ok (.if_icmp .eq 50, 3) := by decide +kernel
theorem dX4_readCoded_20 : decode cX4_readCoded 20 = .ok (.aload_n 1, 1) := by decide +kernel
theorem dX4_readCoded_21 : decode cX4_readCoded 21 = .ok (.aload_n 0, 1) := by decide +kernel
theorem dX4_readCoded_22 : decode cX4_readCoded 22 = .ok (.getfield 12, 3) := by decide +kernel
theorem dX4_readCoded_25 : decode cX4_readCoded 25 = .ok (.invokevirtual 114, 3) := by decide +kernel
theorem dX4_readCoded_28 : decode cX4_readCoded 28 = .ok (.istore_n 3, 1) := by decide +kernel
theorem dX4_readCoded_29 : decode cX4_readCoded 29 = .ok (.iload_n 3, 1) := by decide +kernel
theorem dX4_readCoded_30 : decode cX4_readCoded 30 = .ok (.sipush 256, 3) := by decide +kernel
theorem dX4_readCoded_33 : decode cX4_readCoded 33 = .ok (.if_icmp .ge 11, 3) := by decide +kernel
theorem dX4_readCoded_36 : decode cX4_readCoded 36 = .ok (.aload_n 0, 1) := by decide +kernel
theorem dX4_readCoded_37 : decode cX4_readCoded 37 = .ok (.iload_n 3, 1) := by decide +kernel
theorem dX4_readCoded_38 : decode cX4_readCoded 38 = .ok (.invokevirtual 111, 3) := by decide +kernel
theorem dX4_readCoded_41 : decode cX4_readCoded 41 = .ok (.goto 20, 3) := by decide +kernel
theorem dX4_readCoded_44 : decode cX4_readCoded 44 = .ok (.iload_n 3, 1) := by decide +kernel
theorem dX4_readCoded_45 : decode cX4_readCoded 45 = .ok (.sipush 256, 3) := by decide +kernel
theorem dX4_readCoded_48 : decode cX4_readCoded 48 = .ok (.if_icmp .le 13, 3) := by decide +kernel
theorem dX4_readCoded_51 : decode cX4_readCoded 51 = .ok (.aload_n 0, 1) := by decide +kernel
theorem dX4_readCoded_52 : decode cX4_readCoded 52 = .ok (.iload_n 3, 1) := by decide +kernel
theorem dX4_readCoded_53 : decode cX4_readCoded 53 = .ok (.sipush 257, 3) := by decide +kernel
theorem dX4_readCoded_56 : decode cX4_readCoded 56 = .ok (.isub, 1) := by decide +kernel
theorem dX4_readCoded_57 : decode cX4_readCoded 57 = .ok (.aload_n 2, 1) := by decide +kernel
theorem dX4_readCoded_58 : decode cX4_readCoded 58 = .ok (.invokevirtual 118, 3) := by decide +kernel
theorem dX4_readCoded_61 : decode cX4_readCoded 61 = .ok (.iinc 4 1, 3) := by decide +kernel
theorem dX4_readCoded_64 : decode cX4_readCoded 64 = .ok (.goto (-59), 3) := by decide +kernel
theorem dX4_readCoded_67 : decode cX4_readCoded 67 = .ok (.return_, 1) := by decide +kernel
set_option maxRecDepth 20000 in
theorem ggX4_readCopy_X0_readBits : GoodIn wsX4_readCopy wsX0_readBits := goodIn_ca (goodIn_r _ [10, 11, 12, 13, 9, 14, 15, 2, 16, 17, 18, 41, 42, 43] (by decide +kernel) (by decide +kernel)) (goodIn_sub (fun _ h => List.mem_cons_of_mem _ (List.mem_append_left _ (List.mem_append_right _ h))) (by decide +kernel))
set_option maxRecDepth 20000 in
theorem gX4_readCopy_X0_readBits : GoodIn wsX4_readCopy (wsV RX4 63 RX0 yX0_readBits wsX0_readBits) := goodIn_app (goodIn_of _ (by decide +kernel)) ggX4_readCopy_X0_readBits
set_option maxRecDepth 20000 in
theorem ggX4_readCopy_X2_readSymbol : GoodIn wsX4_readCopy wsX2_readSymbol := goodIn_ca (goodIn_ca (goodIn_r _ [23, 24, 2, 25, 26, 27, 12, 13, 9, 14, 15, 16, 17, 18, 44, 45, 46, 41, 42, 43] (by decide +kernel) (by decide +kernel)) (goodIn_sub (fun _ h => List.mem_cons_of_mem _ (List.mem_append_right _ h)) (by decide +kernel))) (goodIn_sub (fun _ h => List.mem_cons_of_mem _ (List.mem_append_left _ (List.mem_append_right _ h))) (by decide +kernel))
set_option maxRecDepth 20000 in
theorem gX4_readCopy_X2_readSymbol : GoodIn wsX4_readCopy (wsV RX4 114 RX2 yX2_readSymbol wsX2_readSymbol) := goodIn_app (goodIn_of _ (by decide +kernel)) ggX4_readCopy_X2_readSymbol
set_option maxRecDepth 20000 in
theorem ggX4_readCopy_X4_put : GoodIn wsX4_readCopy wsX4_put := goodIn_ca (goodIn_r _ [32, 1, 2, 4, 33, 5, 34, 35, 36, 37, 38, 39, 40] (by decide +kernel) (by decide +kernel)) (goodIn_sub (fun _ h => List.mem_cons_of_mem _ (List.mem_append_left _ (List.mem_append_left _ (List.mem_append_right _ h)))) (by decide +kernel))
set_option maxRecDepth 20000 in
theorem gX4_readCopy_X4_put : GoodIn wsX4_readCopy (wsV RX4 111 RX4 yX4_put wsX4_put) := goodIn_app (goodIn_of _ (by decide +kernel)) ggX4_readCopy_X4_put
theorem dX4_readCopy_0 : decode cX4_readCopy 0 = .ok (.iload_n 1, 1) := by decide +kernel
theorem dX4_readCopy_1 : decode cX4_readCopy 1 = .ok (.getstatic 122, 3) := by decide +kernel
theorem dX4_readCopy_4 : decode cX4_readCopy 4 = .ok (.arraylength, 1) := by decide +kernel
theorem dX4_readCopy_5 : decode cX4_readCopy 5 = .ok (.if_icmp .lt 13, 3) := by decide +kernel
theorem dX4_readCopy_8 : decode cX4_readCopy 8 = .ok (.new 77, 3) := by decide +kernel
theorem dX4_readCopy_11 : decode cX4_readCopy 11 = .ok (.dup, 1) := by decide +kernel
theorem dX4_readCopy_12 : decode cX4_readCopy 12 = .ok (.ldc 126, 2) := by decide +kernel
theorem dX4_readCopy_14 : decode cX4_readCopy 14 = .ok (.invokespecial 81, 3) := by decide +kernel
theorem dX4_readCopy_17 : decode cX4_readCopy 17 = .ok (.athrow, 1) := by decide +kernel
theorem dX4_readCopy_18 : decode cX4_readCopy 18 = .ok (.getstatic 122, 3) := by decide +kernel
theorem dX4_readCopy_21 : decode cX4_readCopy 21 = .ok (.iload_n 1, 1) := by decide +kernel
theorem dX4_readCopy_22 : decode cX4_readCopy 22 = .ok (.iaload, 1) := by decide +kernel
theorem dX4_readCopy_23 : decode cX4_readCopy 23 = .ok (.aload_n 0, 1) := by decide +kernel
theorem dX4_readCopy_24 : decode cX4_readCopy 24 = .ok (.getfield 12, 3) := by decide +kernel
theorem dX4_readCopy_27 : decode cX4_readCopy 27 = .ok (.getstatic 128, 3) := by decide +kernel
theorem dX4_readCopy_30 : decode cX4_readCopy 30 = .ok (.iload_n 1, 1) := by decide +kernel
theorem dX4_readCopy_31 : decode cX4_readCopy 31 = .ok (.iaload, 1) := by decide +kernel
theorem dX4_readCopy_32 : decode cX4_readCopy 32 = .ok (.invokevirtual 63, 3) := by decide +kernel
theorem dX4_readCopy_35 : decode cX4_readCopy 35 = .ok (.iadd, 1) := by decide +kernel
theorem dX4_readCopy_36 : decode cX4_readCopy 36 = .ok (.istore_n 3, 1) := by decide +kernel
theorem dX4_readCopy_37 : decode cX4_readCopy 37 = .ok (.aload_n 2, 1) := by decide +kernel
theorem dX4_readCopy_38 : decode cX4_readCopy 38 = .ok (.aload_n 0, 1) := by decide +kernel
theorem dX4_readCopy_39 : decode cX4_readCopy 39 = .ok (.getfield 12, 3) := by decide +kernel
theorem dX4_readCopy_42 : decode cX4_readCopy 42 = .ok (.invokevirtual 114, 3) := by decide +kernel
theorem dX4_readCopy_45 : decode cX4_readCopy 45 = .ok (.istore 4, 2) := by decide +kernel
theorem dX4_readCopy_47 : decode cX4_readCopy 47 = .ok (.iload 4, 2) := by decide +kernel
theorem dX4_readCopy_49 : decode cX4_readCopy 49 = .ok (.getstatic 131, 3) := by decide +kernel
theorem dX4_readCopy_52 : decode cX4_readCopy 52 = .ok (.arraylength, 1) := by decide +kernel
theorem dX4_readCopy_53 : decode cX4_readCopy 53 = .ok (.if_icmp .lt 13, 3) := by decide +kernel
theorem dX4_readCopy_56 : decode cX4_readCopy 56 = .ok (.new 77, 3) := by decide +kernel
theorem dX4_readCopy_59 : decode cX4_readCopy 59 = .ok (.dup, 1) := by decide +kernel
theorem dX4_readCopy_60 : decode cX4_readCopy 60 = .ok (.ldc 134, 2) := by decide +kernel
theorem dX4_readCopy_62 : decode cX4_readCopy 62 = .ok (.invokespecial 81, 3) := by decide +kernel
theorem dX4_readCopy_65 : decode cX4_readCopy 65 = .ok (.athrow, 1) := by decide +kernel
theorem dX4_readCopy_66 : decode cX4_readCopy 66 = .ok (.getstatic 131, 3) := by decide +kernel
theorem dX4_readCopy_69 : decode cX4_readCopy 69 = .ok (.iload 4, 2) := by decide +kernel
theorem dX4_readCopy_71 : decode cX4_readCopy 71 = .ok (.iaload, 1) := by decide +kernel
theorem dX4_readCopy_72 : decode cX4_readCopy 72 = .ok (.aload_n 0, 1) := by decide +kernel
theorem dX4_readCopy_73 : decode cX4_readCopy 73 = .ok (.getfield 12, 3) := by decide +kernel
theorem dX4_readCopy_76 : decode cX4_readCopy 76 = .ok (.getstatic 136, 3) := by decide +kernel
theorem dX4_readCopy_79 : decode cX4_readCopy 79 = .ok (.iload 4, 2) := by decide +kernel
theorem dX4_readCopy_81 : decode cX4_readCopy 81 = .ok (.iaload, 1) := by decide +kernel
theorem dX4_readCopy_82 : decode cX4_readCopy 82 = .ok (.invokevirtual 63, 3) := by decide +kernel
theorem dX4_readCopy_85 : decode cX4_readCopy 85 = .ok (.iadd, 1) := by decide +kernel
theorem dX4_readCopy_86 : decode cX4_readCopy 86 = .ok (.istore 5, 2) := by decide +kernel
theorem dX4_readCopy_88 : decode cX4_readCopy 88 = .ok (.iload 5, 2) := by decide +kernel
theorem dX4_readCopy_90 : decode cX4_readCopy 90 = .ok (.aload_n 0, 1) := by decide +kernel
theorem dX4_readCopy_91 : decode cX4_readCopy 91 = .ok (.getfield 49, 3) := by decide +kernel
theorem dX4_readCopy_94 : decode cX4_readCopy 94 = .ok (.if_icmp .le 13, 3) := by decide +kernel
theorem dX4_readCopy_97 : decode cX4_readCopy 97 = .ok (.new 77, 3) := by decide +kernel
theorem dX4_readCopy_100 : decode cX4_readCopy 100 = .ok (.dup, 1) := by decide +kernel
theorem dX4_readCopy_101 : decode cX4_readCopy 101 = .ok (.ldc 139, 2) := by decide +kernel
theorem dX4_readCopy_103 : decode cX4_readCopy 103 = .ok (.invokespecial 81, 3) := by decide +kernel
theorem dX4_readCopy_106 : decode cX4_readCopy 106 = .ok (.athrow, 1) := by decide +kernel
theorem dX4_readCopy_107 : decode cX4_readCopy 107 = .ok (.iconst 0, 1) := by decide +kernel
theorem dX4_readCopy_108 : decode cX4_readCopy 108 = .ok (.istore 6, 2) := by decide +kernel
theorem dX4_readCopy_110 : decode cX4_readCopy 110 = .ok (.iload 6, 2) := by decide +kernel
theorem dX4_readCopy_112 : decode cX4_readCopy 112 = .ok (.iload_n 3, 1) := by decide +kernel
theorem dX4_readCopy_113 : decode cX4_readCopy 113 = .ok (.if_icmp .ge 25, 3) := by decide +kernel
theorem dX4_readCopy_116 : decode cX4_readCopy 116 = .ok (.aload_n 0, 1) := by decide +kernel
theorem dX4_readCopy_117 : decode cX4_readCopy 117 = .ok (.aload_n 0, 1) := by decide +kernel
theorem dX4_readCopy_118 : decode cX4_readCopy 118 = .ok (.getfield 45, 3) := by decide +kernel
theorem dX4_readCopy_121 : decode cX4_readCopy 121 = .ok (.aload_n 0, 1) := by decide +kernel
theorem dX4_readCopy_122 : decode cX4_readCopy 122 = .ok (.getfield 49, 3) := by decide +kernel
theorem dX4_readCopy_125 : decode cX4_readCopy 125 = .ok (.iload 5, 2) := by decide +kernel
theorem dX4_readCopy_127 : decode cX4_readCopy 127 = .ok (.isub, 1) := by decide +kernel
theorem dX4_readCopy_128 : decode cX4_readCopy 128 = .ok (.baload, 1) := by decide +kernel
theorem dX4_readCopy_129 : decode cX4_readCopy 129 = .ok (.invokevirtual 111, 3) := by decide +kernel
theorem dX4_readCopy_132 : decode cX4_readCopy 132 = .ok (.iinc 6 1, 3) := by decide +kernel
theorem dX4_readCopy_135 : decode cX4_readCopy 135 = .ok (.goto (-25), 3) := by decide +kernel
theorem dX4_readCopy_138 : decode cX4_readCopy 138 = .ok (.return_, 1) := by decide +kernel
theorem dX4_put_0 : decode cX4_put 0 = .ok (.aload_n 0, 1) := by decide +kernel
theorem dX4_put_1 : decode cX4_put 1 = .ok (.getfield 49, 3) := by decide +kernel
theorem dX4_put_4 : decode cX4_put 4 = .ok (.aload_n 0, 1) := by decide +kernel
theorem dX4_put_5 : decode cX4_put 5 = .ok (.getfield 53, 3) := by decide +kernel
theorem dX4_put_8 : decode cX4_put 8 = .ok (.if_icmp .lt 13, 3) := by decide +kernel
theorem dX4_put_11 : decode cX4_put 11 = .ok (.new 77, 3) := by decide +kernel
theorem dX4_put_14 : decode cX4_put 14 = .ok (.dup, 1) := by decide +kernel
theorem dX4_put_15 : decode cX4_put 15 = .ok (.ldc 141, 2) := by decide +kernel
theorem dX4_put_17 : decode cX4_put 17 = .ok (.invokespecial 81, 3) := by decide +kernel
theorem dX4_put_20 : decode cX4_put 20 = .ok (.athrow, 1) := by decide +kernel
theorem dX4_put_21 : decode cX4_put 21 = .ok (.aload_n 0, 1) := by decide +kernel
theorem dX4_put_22 : decode cX4_put 22 = .ok (.getfield 45, 3) := by decide +kernel
theorem dX4_put_25 : decode cX4_put 25 = .ok (.aload_n 0, 1) := by decide +kernel
theorem dX4_put_26 : decode cX4_put 26 = .ok (.getfield 49, 3) := by decide +kernel
theorem dX4_put_29 : decode cX4_put 29 = .ok (.iload_n 1, 1) := by decide +kernel
theorem dX4_put_30 : decode cX4_put 30 = .ok (.i2b, 1) := by decide +kernel
theorem dX4_put_31 : decode cX4_put 31 = .ok (.bastore, 1) := by decide +kernel
theorem dX4_put_32 : decode cX4_put 32 = .ok (.aload_n 0, 1) := by decide +kernel
theorem dX4_put_33 : decode cX4_put 33 = .ok (.dup, 1) := by decide +kernel
theorem dX4_put_34 : decode cX4_put 34 = .ok (.getfield 49, 3) := by decide +kernel
theorem dX4_put_37 : decode cX4_put 37 = .ok (.iconst 1, 1) := by decide +kernel
theorem dX4_put_38 : decode cX4_put 38 = .ok (.iadd, 1) := by decide +kernel
theorem dX4_put_39 : decode cX4_put 39 = .ok (.putfield 49, 3) := by decide +kernel
theorem dX4_put_42 : decode cX4_put 42 = .ok (.return_, 1) := by decide +kernel
set_option maxRecDepth 20000 in
theorem ggX4_checkSum_X7_adler : GoodIn wsX4_checkSum wsX7_adler := goodIn_r _ [7, 8] (by decide +kernel) (by decide +kernel)
set_option maxRecDepth 20000 in
theorem gX4_checkSum_X7_adler_n143 : GoodIn wsX4_checkSum (wsX7_adler) := ggX4_checkSum_X7_adler
theorem dX4_checkSum_0 : decode cX4_checkSum 0 = .ok (.iconst 0, 1) := by decide +kernel
theorem dX4_checkSum_1 : decode cX4_checkSum 1 = .ok (.istore_n 3, 1) := by decide +kernel
theorem dX4_checkSum_2 : decode cX4_checkSum 2 = .ok (.iload_n 2, 1) := by decide +kernel
theorem dX4_checkSum_3 : decode cX4_checkSum 3 = .ok (.istore 4, 2) := by decide +kernel
theorem dX4_checkSum_5 : decode cX4_checkSum 5 = .ok (.iload 4, 2) := by decide +kernel
theorem dX4_checkSum_7 : decode cX4_checkSum 7 = .ok (.iload_n 2, 1) := by decide +kernel
theorem dX4_checkSum_8 : decode cX4_checkSum 8 = .ok (.iconst 4, 1) := by decide +kernel
theorem dX4_checkSum_9 : decode cX4_checkSum 9 = .ok (.iadd, 1) := by decide +kernel
theorem dX4_checkSum_10 : decode cX4_checkSum 10 = .ok (.if_icmp .ge 23, 3) := by decide +kernel
theorem dX4_checkSum_13 : decode cX4_checkSum 13 = .ok (.iload_n 3, 1) := by decide +kernel
theorem dX4_checkSum_14 : decode cX4_checkSum 14 = .ok (.bipush 8, 2) := by decide +kernel
theorem dX4_checkSum_16 : decode cX4_checkSum 16 = .ok (.ishl, 1) := by decide +kernel
theorem dX4_checkSum_17 : decode cX4_checkSum 17 = .ok (.aload_n 1, 1) := by decide +kernel
theorem dX4_checkSum_18 : decode cX4_checkSum 18 = .ok (.iload 4, 2) := by decide +kernel
theorem dX4_checkSum_20 : decode cX4_checkSum 20 = .ok (.baload, 1) := by decide +kernel
theorem dX4_checkSum_21 : decode cX4_checkSum 21 = .ok (.sipush 255, 3) := by decide +kernel
theorem dX4_checkSum_24 : decode cX4_checkSum 24 = .ok (.iand, 1) := by decide +kernel
theorem dX4_checkSum_25 : decode cX4_checkSum 25 = .ok (.ior, 1) := by decide +kernel
theorem dX4_checkSum_26 : decode cX4_checkSum 26 = .ok (.istore_n 3, 1) := by decide +kernel
theorem dX4_checkSum_27 : decode cX4_checkSum 27 = .ok (.iinc 4 1, 3) := by decide +kernel
theorem dX4_checkSum_30 : decode cX4_checkSum 30 = .ok (.goto (-25), 3) := by decide +kernel
theorem dX4_checkSum_33 : decode cX4_checkSum 33 = .ok (.iload_n 3, 1) := by decide +kernel
theorem dX4_checkSum_34 : decode cX4_checkSum 34 = .ok (.aload_n 0, 1) := by decide +kernel
theorem dX4_checkSum_35 : decode cX4_checkSum 35 = .ok (.getfield 45, 3) := by decide +kernel
theorem dX4_checkSum_38 : decode cX4_checkSum 38 = .ok (.aload_n 0, 1) := by decide +kernel
theorem dX4_checkSum_39 : decode cX4_checkSum 39 = .ok (.getfield 49, 3) := by decide +kernel
theorem dX4_checkSum_42 : decode cX4_checkSum 42 = .ok (.invokestatic 143, 3) := by decide +kernel
theorem dX4_checkSum_45 : decode cX4_checkSum 45 = .ok (.if_icmp .eq 13, 3) := by decide +kernel
theorem dX4_checkSum_48 : decode cX4_checkSum 48 = .ok (.new 77, 3) := by decide +kernel
theorem dX4_checkSum_51 : decode cX4_checkSum 51 = .ok (.dup, 1) := by decide +kernel
theorem dX4_checkSum_52 : decode cX4_checkSum 52 = .ok (.ldc 147, 2) := by decide +kernel
theorem dX4_checkSum_54 : decode cX4_checkSum 54 = .ok (.invokespecial 81, 3) := by decide +kernel
theorem dX4_checkSum_57 : decode cX4_checkSum 57 = .ok (.athrow, 1) := by decide +kernel
theorem dX4_checkSum_58 : decode cX4_checkSum 58 = .ok (.return_, 1) := by decide +kernel
set_option maxRecDepth 20000 in
theorem ggX5_init_X1_init : GoodIn wsX5_init wsX1_init := goodIn_r _ [13, 14, 2, 3] (by decide +kernel) (by decide +kernel)
set_option maxRecDepth 20000 in
theorem gX5_init_X1_init_n11 : GoodIn wsX5_init (wsX1_init) := ggX5_init_X1_init
set_option maxRecDepth 20000 in
theorem ggX5_init_X3_init : GoodIn wsX5_init wsX3_init := goodIn_r _ [16, 17, 2, 3, 18, 19, 20, 27, 28, 29, 30, 31] (by decide +kernel) (by decide +kernel)
set_option maxRecDepth 20000 in
theorem gX5_init_X3_init_n20 : GoodIn wsX5_init (wsX3_init) := ggX5_init_X3_init
theorem dX5_init_0 : decode cX5_init 0 = .ok (.aload_n 0, 1) := by decide +kernel
theorem dX5_init_1 : decode cX5_init 1 = .ok (.invokespecial 3, 3) := by decide +kernel
theorem dX5_init_4 : decode cX5_init 4 = .ok (.aload_n 0, 1) := by decide +kernel
theorem dX5_init_5 : decode cX5_init 5 = .ok (.new 9, 3) := by decide +kernel
theorem dX5_init_8 : decode cX5_init 8 = .ok (.dup, 1) := by decide +kernel
theorem dX5_init_9 : decode cX5_init 9 = .ok (.invokespecial 11, 3) := by decide +kernel
theorem dX5_init_12 : decode cX5_init 12 = .ok (.putfield 12, 3) := by decide +kernel
theorem dX5_init_15 : decode cX5_init 15 = .ok (.aload_n 0, 1) := by decide +kernel
theorem dX5_init_16 : decode cX5_init 16 = .ok (.new 18, 3) := by decide +kernel
theorem dX5_init_19 : decode cX5_init 19 = .ok (.dup, 1) := by decide +kernel
theorem dX5_init_20 : decode cX5_init 20 = .ok (.invokespecial 20, 3) := by decide +kernel
theorem dX5_init_23 : decode cX5_init 23 = .ok (.putfield 21, 3) := by decide +kernel
theorem dX5_init_26 : decode cX5_init 26 = .ok (.return_, 1) := by decide +kernel
set_option maxRecDepth 20000 in
theorem ggX5_write_X1_begin : GoodIn wsX5_write wsX1_begin := goodIn_r _ [6, 7, 8, 9, 10, 89, 90, 91, 92] (by decide +kernel) (by decide +kernel)
set_option maxRecDepth 20000 in
theorem gX5_write_X1_begin : GoodIn wsX5_write (wsV RX5 25 RX1 yX1_begin wsX1_begin) := goodIn_app (goodIn_of _ (by decide +kernel)) ggX5_write_X1_begin
set_option maxRecDepth 20000 in
theorem ggX5_write_X5_writeHighFirst : GoodIn wsX5_write wsX5_writeHighFirst := goodIn_r _ [15, 1, 16, 17, 18, 5, 19, 9, 10, 7, 8, 87, 88, 89, 90, 91, 92] (by decide +kernel) (by decide +kernel)
set_option maxRecDepth 20000 in
theorem gX5_write_X5_writeHighFirst : GoodIn wsX5_write (wsV RX5 29 RX5 yX5_writeHighFirst wsX5_writeHighFirst) := goodIn_app (goodIn_of _ (by decide +kernel)) ggX5_write_X5_writeHighFirst
set_option maxRecDepth 20000 in
theorem ggX5_write_X1_writeBits : GoodIn wsX5_write wsX1_writeBits := goodIn_r _ [19, 9, 10, 7, 8, 89, 90, 91, 92] (by decide +kernel) (by decide +kernel)
set_option maxRecDepth 20000 in
theorem gX5_write_X1_writeBits : GoodIn wsX5_write (wsV RX5 33 RX1 yX1_writeBits wsX1_writeBits) := goodIn_app (goodIn_of _ (by decide +kernel)) ggX5_write_X1_writeBits
set_option maxRecDepth 20000 in
theorem ggX5_write_X5_writeAll : GoodIn wsX5_write wsX5_writeAll := goodIn_r _ [23, 24, 25, 26, 27, 28, 29, 30, 31, 32, 33, 34, 35, 36, 37, 38, 39, 40, 41, 42, 43, 44, 45, 46, 47, 48, 49, 50, 51, 52, 53, 14, 54, 1, 55, 56, 57, 5, 58, 59, 17, 18, 19, 9, 10, 7, 8, 60, 61, 62, 63, 64, 65, 66, 67, 68, 69, 70, 16, 71, 72, 73, 74, 87, 88, 93, 94, 95, 96, 97, 89, 90, 91, 92] (by decide +kernel) (by decide +kernel)
set_option maxRecDepth 20000 in
theorem gX5_write_X5_writeAll : GoodIn wsX5_write (wsV RX5 36 RX5 yX5_writeAll wsX5_writeAll) := goodIn_app (goodIn_of _ (by decide +kernel)) ggX5_write_X5_writeAll
set_option maxRecDepth 20000 in
theorem ggX5_write_X5_writeSymbol : GoodIn wsX5_write wsX5_writeSymbol := goodIn_r _ [54, 1, 55, 56, 57, 5, 58, 59, 17, 18, 19, 9, 10, 7, 8, 87, 88, 89, 90, 91, 92] (by decide +kernel) (by decide +kernel)
set_option maxRecDepth 20000 in
theorem gX5_write_X5_writeSymbol : GoodIn wsX5_write (wsV RX5 40 RX5 yX5_writeSymbol wsX5_writeSymbol) := goodIn_app (goodIn_of _ (by decide +kernel)) ggX5_write_X5_writeSymbol
set_option maxRecDepth 20000 in
theorem ggX5_write_X1_endByte : GoodIn wsX5_write wsX1_endByte := goodIn_r _ [78, 10, 59, 17, 18, 5, 19, 9, 7, 8, 89, 90, 91, 92] (by decide +kernel) (by decide +kernel)
set_option maxRecDepth 20000 in
theorem gX5_write_X1_endByte : GoodIn wsX5_write (wsV RX5 44 RX1 yX1_endByte wsX1_endByte) := goodIn_app (goodIn_of _ (by decide +kernel)) ggX5_write_X1_endByte
set_option maxRecDepth 20000 in
theorem ggX5_write_X7_adler : GoodIn wsX5_write wsX7_adler := goodIn_r _ [81, 82] (by decide +kernel) (by decide +kernel)
set_option maxRecDepth 20000 in
theorem gX5_write_X7_adler_n47 : GoodIn wsX5_write (wsX7_adler) := ggX5_write_X7_adler
set_option maxRecDepth 20000 in
theorem ggX5_write_X1_written : GoodIn wsX5_write wsX1_written := goodIn_r _ [86, 8, 89, 90, 91, 92] (by decide +kernel) (by decide +kernel)
set_option maxRecDepth 20000 in
theorem gX5_write_X1_written : GoodIn wsX5_write (wsV RX5 51 RX1 yX1_written wsX1_written) := goodIn_app (goodIn_of _ (by decide +kernel)) ggX5_write_X1_written
theorem dX5_write_0 : decode cX5_write 0 = .ok (.aload_n 0, 1) := by decide +kernel
theorem dX5_write_1 : decode cX5_write 1 = .ok (.getfield 12, 3) := by decide +kernel
theorem dX5_write_4 : decode cX5_write 4 = .ok (.aload_n 3, 1) := by decide +kernel
theorem dX5_write_5 : decode cX5_write 5 = .ok (.invokevirtual 25, 3) := by decide +kernel
theorem dX5_write_8 : decode cX5_write 8 = .ok (.aload_n 0, 1) := by decide +kernel
theorem dX5_write_9 : decode cX5_write 9 = .ok (.sipush 30876, 3) := by decide +kernel
theorem dX5_write_12 : decode cX5_write 12 = .ok (.iconst 2, 1) := by decide +kernel
theorem dX5_write_13 : decode cX5_write 13 = .ok (.invokevirtual 29, 3) := by decide +kernel
theorem dX5_write_16 : decode cX5_write 16 = .ok (.aload_n 0, 1) := by decide +kernel
theorem dX5_write_17 : decode cX5_write 17 = .ok (.getfield 12, 3) := by decide +kernel
theorem dX5_write_20 : decode cX5_write 20 = .ok (.iconst 1, 1) := by decide +kernel
theorem dX5_write_21 : decode cX5_write 21 = .ok (.iconst 1, 1) := by decide +kernel
theorem dX5_write_22 : decode cX5_write 22 = .ok (.invokevirtual 33, 3) := by decide +kernel
theorem dX5_write_25 : decode cX5_write 25 = .ok (.aload_n 0, 1) := by decide +kernel
theorem dX5_write_26 : decode cX5_write 26 = .ok (.getfield 12, 3) := by decide +kernel
theorem dX5_write_29 : decode cX5_write 29 = .ok (.iconst 1, 1) := by decide +kernel
theorem dX5_write_30 : decode cX5_write 30 = .ok (.iconst 2, 1) := by decide +kernel
theorem dX5_write_31 : decode cX5_write 31 = .ok (.invokevirtual 33, 3) := by decide +kernel
theorem dX5_write_34 : decode cX5_write 34 = .ok (.aload_n 0, 1) := by decide +kernel
theorem dX5_write_35 : decode cX5_write 35 = .ok (.aload_n 1, 1) := by decide +kernel
theorem dX5_write_36 : decode cX5_write 36 = .ok (.iload_n 2, 1) := by decide +kernel
theorem dX5_write_37 : decode cX5_write 37 = .ok (.invokevirtual 36, 3) := by decide +kernel
theorem dX5_write_40 : decode cX5_write 40 = .ok (.aload_n 0, 1) := by decide +kernel
theorem dX5_write_41 : decode cX5_write 41 = .ok (.sipush 256, 3) := by decide +kernel
theorem dX5_write_44 : decode cX5_write 44 = .ok (.invokevirtual 40, 3) := by decide +kernel
theorem dX5_write_47 : decode cX5_write 47 = .ok (.aload_n 0, 1) := by decide +kernel
theorem dX5_write_48 : decode cX5_write 48 = .ok (.getfield 12, 3) := by decide +kernel
theorem dX5_write_51 : decode cX5_write 51 = .ok (.invokevirtual 44, 3) := by decide +kernel
theorem dX5_write_54 : decode cX5_write 54 = .ok (.aload_n 0, 1) := by decide +kernel
theorem dX5_write_55 : decode cX5_write 55 = .ok (.aload_n 1, 1) := by decide +kernel
theorem dX5_write_56 : decode cX5_write 56 = .ok (.iload_n 2, 1) := by decide +kernel
theorem dX5_write_57 : decode cX5_write 57 = .ok (.invokestatic 47, 3) := by decide +kernel
theorem dX5_write_60 : decode cX5_write 60 = .ok (.iconst 4, 1) := by decide +kernel
theorem dX5_write_61 : decode cX5_write 61 = .ok (.invokevirtual 29, 3) := by decide +kernel
theorem dX5_write_64 : decode cX5_write 64 = .ok (.aload_n 0, 1) := by decide +kernel
theorem dX5_write_65 : decode cX5_write 65 = .ok (.getfield 12, 3) := by decide +kernel
theorem dX5_write_68 : decode cX5_write 68 = .ok (.invokevirtual 51, 3) := by decide +kernel
theorem dX5_write_71 : decode cX5_write 71 = .ok (.ireturn, 1) := by decide +kernel
set_option maxRecDepth 20000 in
theorem ggX5_writeAll_X3_begin : GoodIn wsX5_writeAll wsX3_begin := goodIn_r _ [6, 7, 8, 9, 65, 66, 67, 68, 69] (by decide +kernel) (by decide +kernel)
set_option maxRecDepth 20000 in
theorem gX5_writeAll_X3_begin : GoodIn wsX5_writeAll (wsV RX5 55 RX3 yX3_begin wsX3_begin) := goodIn_app (goodIn_of _ (by decide +kernel)) ggX5_writeAll_X3_begin
set_option maxRecDepth 20000 in
theorem ggX5_writeAll_X3_longest : GoodIn wsX5_writeAll wsX3_longest := goodIn_r _ [13, 8, 14, 15, 16, 17, 9, 18, 19, 20, 21, 22, 5, 23, 7, 24, 25, 26, 27, 65, 66, 67, 68, 69] (by decide +kernel) (by decide +kernel)
set_option maxRecDepth 20000 in
theorem gX5_writeAll_X3_longest : GoodIn wsX5_writeAll (wsV RX5 57 RX3 yX3_longest wsX3_longest) := goodIn_app (goodIn_of _ (by decide +kernel)) ggX5_writeAll_X3_longest
set_option maxRecDepth 20000 in
theorem ggX5_writeAll_X5_writeSymbol : GoodIn wsX5_writeAll wsX5_writeSymbol := goodIn_r _ [32, 33, 34, 35, 36, 37, 38, 39, 40, 41, 42, 43, 44, 45, 46, 63, 64, 70, 71, 72, 73] (by decide +kernel) (by decide +kernel)
set_option maxRecDepth 20000 in
theorem gX5_writeAll_X5_writeSymbol : GoodIn wsX5_writeAll (wsV RX5 40 RX5 yX5_writeSymbol wsX5_writeSymbol) := goodIn_app (goodIn_of _ (by decide +kernel)) ggX5_writeAll_X5_writeSymbol
set_option maxRecDepth 20000 in
theorem ggX5_writeAll_X3_found : GoodIn wsX5_writeAll wsX3_found := goodIn_r _ [50, 18, 65, 66, 67, 68, 69] (by decide +kernel) (by decide +kernel)
set_option maxRecDepth 20000 in
theorem gX5_writeAll_X3_found : GoodIn wsX5_writeAll (wsV RX5 61 RX3 yX3_found wsX3_found) := goodIn_app (goodIn_of _ (by decide +kernel)) ggX5_writeAll_X3_found
set_option maxRecDepth 20000 in
theorem ggX5_writeAll_X5_writeCopy : GoodIn wsX5_writeAll wsX5_writeCopy := goodIn_r _ [54, 33, 55, 56, 31, 57, 28, 29, 30, 32, 34, 35, 36, 37, 38, 39, 40, 41, 42, 43, 44, 45, 46, 58, 63, 64, 70, 71, 72, 73] (by decide +kernel) (by decide +kernel)
set_option maxRecDepth 20000 in
theorem gX5_writeAll_X5_writeCopy : GoodIn wsX5_writeAll (wsV RX5 64 RX5 yX5_writeCopy wsX5_writeCopy) := goodIn_app (goodIn_of _ (by decide +kernel)) ggX5_writeAll_X5_writeCopy
set_option maxRecDepth 20000 in
theorem ggX5_writeAll_X3_enter : GoodIn wsX5_writeAll wsX3_enter := goodIn_r _ [62, 8, 19, 9, 20, 21, 22, 5, 23, 7, 65, 66, 67, 68, 69] (by decide +kernel) (by decide +kernel)
set_option maxRecDepth 20000 in
theorem gX5_writeAll_X3_enter : GoodIn wsX5_writeAll (wsV RX5 67 RX3 yX3_enter wsX3_enter) := goodIn_app (goodIn_of _ (by decide +kernel)) ggX5_writeAll_X3_enter
theorem dX5_writeAll_0 : decode cX5_writeAll 0 = .ok (.aload_n 0, 1) := by decide +kernel
theorem dX5_writeAll_1 : decode cX5_writeAll 1 = .ok (.getfield 21, 3) := by decide +kernel
theorem dX5_writeAll_4 : decode cX5_writeAll 4 = .ok (.aload_n 1, 1) := by decide +kernel
theorem dX5_writeAll_5 : decode cX5_writeAll 5 = .ok (.iload_n 2, 1) := by decide +kernel
theorem dX5_writeAll_6 : decode cX5_writeAll 6 = .ok (.invokevirtual 55, 3) := by decide +kernel
theorem dX5_writeAll_9 : decode cX5_writeAll 9 = .ok (.iconst 0, 1) := by decide +kernel
theorem dX5_writeAll_10 : decode cX5_writeAll 10 = .ok (.istore_n 3, 1) := by decide +kernel
theorem dX5_writeAll_11 : decode cX5_writeAll 11 = .ok (.iconst 0, 1) := by decide +kernel
theorem dX5_writeAll_12 : decode cX5_writeAll 12 = .ok (.istore 4, 2) := by decide +kernel
theorem dX5_writeAll_14 : decode cX5_writeAll 14 = .ok (.iload 4, 2) := by decide +kernel
theorem dX5_writeAll_16 : decode cX5_writeAll 16 = .ok (.iload_n 2, 1) := by decide +kernel
theorem dX5_writeAll_17 : decode cX5_writeAll 17 = .ok (.if_icmp .ge 79, 3) := by decide +kernel
theorem dX5_writeAll_20 : decode cX5_writeAll 20 = .ok (.iload 4, 2) := by decide +kernel
theorem dX5_writeAll_22 : decode cX5_writeAll 22 = .ok (.iload_n 3, 1) := by decide +kernel
theorem dX5_writeAll_23 : decode cX5_writeAll 23 = .ok (.if_icmp .ne 58, 3) := by decide +kernel
theorem dX5_writeAll_26 : decode cX5_writeAll 26 = .ok (.aload_n 0, 1) := by decide +kernel
theorem dX5_writeAll_27 : decode cX5_writeAll 27 = .ok (.getfield 21, 3) := by decide +kernel
theorem dX5_writeAll_30 : decode cX5_writeAll 30 = .ok (.iload 4, 2) := by decide +kernel
theorem dX5_writeAll_32 : decode cX5_writeAll 32 = .ok (.invokevirtual 57, 3) := by decide +kernel
theorem dX5_writeAll_35 : decode cX5_writeAll 35 = .ok (.istore 5, 2) := by decide +kernel
theorem dX5_writeAll_37 : decode cX5_writeAll 37 = .ok (.iload 5, 2) := by decide +kernel
theorem dX5_writeAll_39 : decode cX5_writeAll 39 = .ok (.ifCond .ne 23, 3) := by decide +kernel
theorem dX5_writeAll_42 : decode cX5_writeAll 42 = .ok (.aload_n 0, 1) := by decide +kernel
theorem dX5_writeAll_43 : decode cX5_writeAll 43 = .ok (.aload_n 1, 1) := by decide +kernel
theorem dX5_writeAll_44 : decode cX5_writeAll 44 = .ok (.iload 4, 2) := by decide +kernel
theorem dX5_writeAll_46 : decode cX5_writeAll 46 = .ok (.baload, 1) := by decide +kernel
theorem dX5_writeAll_47 : decode cX5_writeAll 47 = .ok (.sipush 255, 3) := by decide +kernel
theorem dX5_writeAll_50 : decode cX5_writeAll 50 = .ok (.iand, 1) := by decide +kernel
theorem dX5_writeAll_51 : decode cX5_writeAll 51 = .ok (.invokevirtual 40, 3) := by decide +kernel
theorem dX5_writeAll_54 : decode cX5_writeAll 54 = .ok (.iload 4, 2) := by decide +kernel
theorem dX5_writeAll_56 : decode cX5_writeAll 56 = .ok (.iconst 1, 1) := by decide +kernel
theorem dX5_writeAll_57 : decode cX5_writeAll 57 = .ok (.iadd, 1) := by decide +kernel
theorem dX5_writeAll_58 : decode cX5_writeAll 58 = .ok (.istore_n 3, 1) := by decide +kernel
theorem dX5_writeAll_59 : decode cX5_writeAll 59 = .ok (.goto 22, 3) := by decide +kernel
theorem dX5_writeAll_62 : decode cX5_writeAll 62 = .ok (.aload_n 0, 1) := by decide +kernel
theorem dX5_writeAll_63 : decode cX5_writeAll 63 = .ok (.iload 5, 2) := by decide +kernel
theorem dX5_writeAll_65 : decode cX5_writeAll 65 = .ok (.aload_n 0, 1) := by decide +kernel
theorem dX5_writeAll_66 : decode cX5_writeAll 66 = .ok (.getfield 21, 3) := by decide +kernel
theorem dX5_writeAll_69 : decode cX5_writeAll 69 = .ok (.invokevirtual 61, 3) := by decide +kernel
theorem dX5_writeAll_72 : decode cX5_writeAll 72 = .ok (.invokevirtual 64, 3) := by decide +kernel
theorem dX5_writeAll_75 : decode cX5_writeAll 75 = .ok (.iload 4, 2) := by decide +kernel
theorem dX5_writeAll_77 : decode cX5_writeAll 77 = .ok (.iload 5, 2) := by decide +kernel
theorem dX5_writeAll_79 : decode cX5_writeAll 79 = .ok (.iadd, 1) := by decide +kernel
theorem dX5_writeAll_80 : decode cX5_writeAll 80 = .ok (.istore_n 3, 1) := by decide +kernel
theorem dX5_writeAll_81 : decode cX5_writeAll 81 = .ok (.aload_n 0, 1) := by decide +kernel
theorem dX5_writeAll_82 : decode cX5_writeAll 82 = .ok (.getfield 21, 3) := by decide +kernel
theorem dX5_writeAll_85 : decode cX5_writeAll 85 = .ok (.iload 4, 2) := by decide +kernel
theorem dX5_writeAll_87 : decode cX5_writeAll 87 = .ok (.invokevirtual 67, 3) := by decide +kernel
theorem dX5_writeAll_90 : decode cX5_writeAll 90 = .ok (.iinc 4 1, 3) := by decide +kernel
theorem dX5_writeAll_93 : decode cX5_writeAll 93 = .ok (.goto (-79), 3) := by decide +kernel
theorem dX5_writeAll_96 : decode cX5_writeAll 96 = .ok (.return_, 1) := by decide +kernel
set_option maxRecDepth 20000 in
theorem ggX5_writeCopy_X5_lastNotAbove : GoodIn wsX5_writeCopy wsX5_lastNotAbove := goodIn_r _ [5] (by decide +kernel) (by decide +kernel)
set_option maxRecDepth 20000 in
theorem gX5_writeCopy_X5_lastNotAbove : GoodIn wsX5_writeCopy (va_wsS RX5 74 yX5_lastNotAbove wsX5_lastNotAbove) := goodIn_app (goodIn_of _ (by decide +kernel)) ggX5_writeCopy_X5_lastNotAbove
set_option maxRecDepth 20000 in
theorem ggX5_writeCopy_X5_writeSymbol : GoodIn wsX5_writeCopy wsX5_writeSymbol := goodIn_r _ [9, 1, 10, 11, 12, 13, 14, 15, 16, 17, 18, 19, 20, 21, 22, 24, 25, 26, 27, 28, 29] (by decide +kernel) (by decide +kernel)
set_option maxRecDepth 20000 in
theorem gX5_writeCopy_X5_writeSymbol : GoodIn wsX5_writeCopy (wsV RX5 40 RX5 yX5_writeSymbol wsX5_writeSymbol) := goodIn_app (goodIn_of _ (by decide +kernel)) ggX5_writeCopy_X5_writeSymbol
set_option maxRecDepth 20000 in
theorem ggX5_writeCopy_X1_writeBits : GoodIn wsX5_writeCopy wsX1_writeBits := goodIn_r _ [18, 19, 20, 21, 22, 26, 27, 28, 29] (by decide +kernel) (by decide +kernel)
set_option maxRecDepth 20000 in
theorem gX5_writeCopy_X1_writeBits : GoodIn wsX5_writeCopy (wsV RX5 33 RX1 yX1_writeBits wsX1_writeBits) := goodIn_app (goodIn_of _ (by decide +kernel)) ggX5_writeCopy_X1_writeBits
set_option maxRecDepth 20000 in
theorem ggX5_writeCopy_X1_writeCode : GoodIn wsX5_writeCopy wsX1_writeCode := goodIn_r _ [14, 15, 16, 17, 13, 18, 19, 20, 21, 22, 26, 27, 28, 29] (by decide +kernel) (by decide +kernel)
set_option maxRecDepth 20000 in
theorem gX5_writeCopy_X1_writeCode : GoodIn wsX5_writeCopy (wsV RX5 84 RX1 yX1_writeCode wsX1_writeCode) := goodIn_app (goodIn_of _ (by decide +kernel)) ggX5_writeCopy_X1_writeCode
theorem dX5_writeCopy_0 : decode cX5_writeCopy 0 = .ok (.getstatic 70, 3) := by decide +kernel
theorem dX5_writeCopy_3 : decode cX5_writeCopy 3 = .ok (.iload_n 1, 1) := by decide +kernel
theorem dX5_writeCopy_4 : decode cX5_writeCopy 4 = .ok (.invokestatic 74, 3) := by decide +kernel
theorem dX5_writeCopy_7 : decode cX5_writeCopy 7 = .ok (.istore_n 3, 1) := by decide +kernel
theorem dX5_writeCopy_8 : decode cX5_writeCopy 8 = .ok (.aload_n 0, 1) := by decide +kernel
theorem dX5_writeCopy_9 : decode cX5_writeCopy 9 = .ok (.sipush 257, 3) := by decide +kernel
theorem dX5_writeCopy_12 : decode cX5_writeCopy 12 = .ok (.iload_n 3, 1) := by decide +kernel
theorem dX5_writeCopy_13 : decode cX5_writeCopy 13 = .ok (.iadd, 1) := by decide +kernel
theorem dX5_writeCopy_14 : decode cX5_writeCopy 14 = .ok (.invokevirtual 40, 3) := by decide +kernel
theorem dX5_writeCopy_17 : decode cX5_writeCopy 17 = .ok (.aload_n 0, 1) := by decide +kernel
theorem dX5_writeCopy_18 : decode cX5_writeCopy 18 = .ok (.getfield 12, 3) := by decide +kernel
theorem dX5_writeCopy_21 : decode cX5_writeCopy 21 = .ok (.iload_n 1, 1) := by decide +kernel
theorem dX5_writeCopy_22 : decode cX5_writeCopy 22 = .ok (.getstatic 70, 3) := by decide +kernel
theorem dX5_writeCopy_25 : decode cX5_writeCopy 25 = .ok (.iload_n 3, 1) := by decide +kernel
theorem dX5_writeCopy_26 : decode cX5_writeCopy 26 = .ok (.iaload, 1) := by decide +kernel
theorem dX5_writeCopy_27 : decode cX5_writeCopy 27 = .ok (.isub, 1) := by decide +kernel
theorem dX5_writeCopy_28 : decode cX5_writeCopy 28 = .ok (.getstatic 78, 3) := by decide +kernel
theorem dX5_writeCopy_31 : decode cX5_writeCopy 31 = .ok (.iload_n 3, 1) := by decide +kernel
theorem dX5_writeCopy_32 : decode cX5_writeCopy 32 = .ok (.iaload, 1) := by decide +kernel
theorem dX5_writeCopy_33 : decode cX5_writeCopy 33 = .ok (.invokevirtual 33, 3) := by decide +kernel
theorem dX5_writeCopy_36 : decode cX5_writeCopy 36 = .ok (.getstatic 81, 3) := by decide +kernel
theorem dX5_writeCopy_39 : decode cX5_writeCopy 39 = .ok (.iload_n 2, 1) := by decide +kernel
theorem dX5_writeCopy_40 : decode cX5_writeCopy 40 = .ok (.invokestatic 74, 3) := by decide +kernel
theorem dX5_writeCopy_43 : decode cX5_writeCopy 43 = .ok (.istore 4, 2) := by decide +kernel
theorem dX5_writeCopy_45 : decode cX5_writeCopy 45 = .ok (.aload_n 0, 1) := by decide +kernel
theorem dX5_writeCopy_46 : decode cX5_writeCopy 46 = .ok (.getfield 12, 3) := by decide +kernel
theorem dX5_writeCopy_49 : decode cX5_writeCopy 49 = .ok (.iload 4, 2) := by decide +kernel
theorem dX5_writeCopy_51 : decode cX5_writeCopy 51 = .ok (.iconst 5, 1) := by decide +kernel
theorem dX5_writeCopy_52 : decode cX5_writeCopy 52 = .ok (.invokevirtual 84, 3) := by decide +kernel
theorem dX5_writeCopy_55 : decode cX5_writeCopy 55 = .ok (.aload_n 0, 1) := by decide +kernel
theorem dX5_writeCopy_56 : decode cX5_writeCopy 56 = .ok (.getfield 12, 3) := by decide +kernel
theorem dX5_writeCopy_59 : decode cX5_writeCopy 59 = .ok (.iload_n 2, 1) := by decide +kernel
theorem dX5_writeCopy_60 : decode cX5_writeCopy 60 = .ok (.getstatic 81, 3) := by decide +kernel
theorem dX5_writeCopy_63 : decode cX5_writeCopy 63 = .ok (.iload 4, 2) := by decide +kernel
theorem dX5_writeCopy_65 : decode cX5_writeCopy 65 = .ok (.iaload, 1) := by decide +kernel
theorem dX5_writeCopy_66 : decode cX5_writeCopy 66 = .ok (.isub, 1) := by decide +kernel
theorem dX5_writeCopy_67 : decode cX5_writeCopy 67 = .ok (.getstatic 87, 3) := by decide +kernel
theorem dX5_writeCopy_70 : decode cX5_writeCopy 70 = .ok (.iload 4, 2) := by decide +kernel
theorem dX5_writeCopy_72 : decode cX5_writeCopy 72 = .ok (.iaload, 1) := by decide +kernel
theorem dX5_writeCopy_73 : decode cX5_writeCopy 73 = .ok (.invokevirtual 33, 3) := by decide +kernel
theorem dX5_writeCopy_76 : decode cX5_writeCopy 76 = .ok (.return_, 1) := by decide +kernel
set_option maxRecDepth 20000 in
theorem ggX5_writeSymbol_X1_writeCode : GoodIn wsX5_writeSymbol wsX1_writeCode := goodIn_r _ [6, 7, 8, 9, 5, 10, 11, 12, 13, 14, 17, 18, 19, 20] (by decide +kernel) (by decide +kernel)
set_option maxRecDepth 20000 in
theorem gX5_writeSymbol_X1_writeCode : GoodIn wsX5_writeSymbol (wsV RX5 84 RX1 yX1_writeCode wsX1_writeCode) := goodIn_app (goodIn_of _ (by decide +kernel)) ggX5_writeSymbol_X1_writeCode
theorem dX5_writeSymbol_0 : decode cX5_writeSymbol 0 = .ok (.iload_n 1, 1) := by decide +kernel
theorem dX5_writeSymbol_1 : decode cX5_writeSymbol 1 = .ok (.sipush 144, 3) := by decide +kernel
theorem dX5_writeSymbol_4 : decode cX5_writeSymbol 4 = .ok (.if_icmp .ge 19, 3) := by decide +kernel
theorem dX5_writeSymbol_7 : decode cX5_writeSymbol 7 = .ok (.aload_n 0, 1) := by decide +kernel
theorem dX5_writeSymbol_8 : decode cX5_writeSymbol 8 = .ok (.getfield 12, 3) := by decide +kernel
theorem dX5_writeSymbol_11 : decode cX5_writeSymbol 11 = .ok (.bipush 48, 2) := by decide +kernel
theorem dX5_writeSymbol_13 : decode cX5_writeSymbol 13 = .ok (.iload_n 1, 1) := by decide +kernel
theorem dX5_writeSymbol_14 : decode cX5_writeSymbol 14 = .ok (.iadd, 1) := by decide +kernel
theorem dX5_writeSymbol_15 : decode cX5_writeSymbol 15 = .ok (.bipush 8, 2) := by decide +kernel
theorem dX5_writeSymbol_17 : decode cX5_writeSymbol 17 = .ok (.invokevirtual 84, 3) := by decide +kernel
theorem dX5_writeSymbol_20 : decode cX5_writeSymbol 20 = .ok (.goto 73, 3) := by decide +kernel
theorem dX5_writeSymbol_23 : decode cX5_writeSymbol 23 = .ok (.iload_n 1, 1) := by decide +kernel
theorem dX5_writeSymbol_24 : decode cX5_writeSymbol 24 = .ok (.sipush 256, 3) := by decide +kernel
theorem dX5_writeSymbol_27 : decode cX5_writeSymbol 27 = .ok (.if_icmp .ge 24, 3) := by decide +kernel
theorem dX5_writeSymbol_30 : decode cX5_writeSymbol 30 = .ok (.aload_n 0, 1) := by decide +kernel
theorem dX5_writeSymbol_31 : decode cX5_writeSymbol 31 = .ok (.getfield 12, 3) := by decide +kernel
theorem dX5_writeSymbol_34 : decode cX5_writeSymbol 34 = .ok (.sipush 400, 3) := by decide +kernel
theorem dX5_writeSymbol_37 : decode cX5_writeSymbol 37 = .ok (.iload_n 1, 1) := by decide +kernel
theorem dX5_writeSymbol_38 : decode cX5_writeSymbol 38 = .ok (.iadd, 1) := by decide +kernel
theorem dX5_writeSymbol_39 : decode cX5_writeSymbol 39 = .ok (.sipush 144, 3) := by decide +kernel
theorem dX5_writeSymbol_42 : decode cX5_writeSymbol 42 = .ok (.isub, 1) := by decide +kernel
theorem dX5_writeSymbol_43 : decode cX5_writeSymbol 43 = .ok (.bipush 9, 2) := by decide +kernel
theorem dX5_writeSymbol_45 : decode cX5_writeSymbol 45 = .ok (.invokevirtual 84, 3) := by decide +kernel
theorem dX5_writeSymbol_48 : decode cX5_writeSymbol 48 = .ok (.goto 45, 3) := by decide +kernel
theorem dX5_writeSymbol_51 : decode cX5_writeSymbol 51 = .ok (.iload_n 1, 1) := by decide +kernel
theorem dX5_writeSymbol_52 : decode cX5_writeSymbol 52 = .ok (.sipush 280, 3) := by decide +kernel
theorem dX5_writeSymbol_55 : decode cX5_writeSymbol 55 = .ok (.if_icmp .ge 20, 3) := by decide +kernel
theorem dX5_writeSymbol_58 : decode cX5_writeSymbol 58 = .ok (.aload_n 0, 1) := by decide +kernel
theorem dX5_writeSymbol_59 : decode cX5_writeSymbol 59 = .ok (.getfield 12, 3) := by decide +kernel
theorem dX5_writeSymbol_62 : decode cX5_writeSymbol 62 = .ok (.iload_n 1, 1) := by decide +kernel
theorem dX5_writeSymbol_63 : decode cX5_writeSymbol 63 = .ok (.sipush 256, 3) := by decide +kernel
theorem dX5_writeSymbol_66 : decode cX5_writeSymbol 66 = .ok (.isub, 1) := by decide +kernel
theorem dX5_writeSymbol_67 : decode cX5_writeSymbol 67 = .ok (.bipush 7, 2) := by decide +kernel
theorem dX5_writeSymbol_69 : decode cX5_writeSymbol 69 = .ok (.invokevirtual 84, 3) := by decide +kernel
theorem dX5_writeSymbol_72 : decode cX5_writeSymbol 72 = .ok (.goto 21, 3) := by decide +kernel
theorem dX5_writeSymbol_75 : decode cX5_writeSymbol 75 = .ok (.aload_n 0, 1) := by decide +kernel
theorem dX5_writeSymbol_76 : decode cX5_writeSymbol 76 = .ok (.getfield 12, 3) := by decide +kernel
theorem dX5_writeSymbol_79 : decode cX5_writeSymbol 79 = .ok (.sipush 192, 3) := by decide +kernel
theorem dX5_writeSymbol_82 : decode cX5_writeSymbol 82 = .ok (.iload_n 1, 1) := by decide +kernel
theorem dX5_writeSymbol_83 : decode cX5_writeSymbol 83 = .ok (.iadd, 1) := by decide +kernel
theorem dX5_writeSymbol_84 : decode cX5_writeSymbol 84 = .ok (.sipush 280, 3) := by decide +kernel
theorem dX5_writeSymbol_87 : decode cX5_writeSymbol 87 = .ok (.isub, 1) := by decide +kernel
theorem dX5_writeSymbol_88 : decode cX5_writeSymbol 88 = .ok (.bipush 8, 2) := by decide +kernel
theorem dX5_writeSymbol_90 : decode cX5_writeSymbol 90 = .ok (.invokevirtual 84, 3) := by decide +kernel
theorem dX5_writeSymbol_93 : decode cX5_writeSymbol 93 = .ok (.return_, 1) := by decide +kernel
set_option maxRecDepth 20000 in
theorem ggX5_writeHighFirst_X1_writeBits : GoodIn wsX5_writeHighFirst wsX1_writeBits := goodIn_r _ [6, 7, 8, 9, 10, 13, 14, 15, 16] (by decide +kernel) (by decide +kernel)
set_option maxRecDepth 20000 in
theorem gX5_writeHighFirst_X1_writeBits : GoodIn wsX5_writeHighFirst (wsV RX5 33 RX1 yX1_writeBits wsX1_writeBits) := goodIn_app (goodIn_of _ (by decide +kernel)) ggX5_writeHighFirst_X1_writeBits
theorem dX5_writeHighFirst_0 : decode cX5_writeHighFirst 0 = .ok (.iload_n 2, 1) := by decide +kernel
theorem dX5_writeHighFirst_1 : decode cX5_writeHighFirst 1 = .ok (.bipush 8, 2) := by decide +kernel
theorem dX5_writeHighFirst_3 : decode cX5_writeHighFirst 3 = .ok (.imul, 1) := by decide +kernel
theorem dX5_writeHighFirst_4 : decode cX5_writeHighFirst 4 = .ok (.bipush 8, 2) := by decide +kernel
theorem dX5_writeHighFirst_6 : decode cX5_writeHighFirst 6 = .ok (.isub, 1) := by decide +kernel
