theorem dX9_told_375 : decode cX9_told 375 = .ok (.iinc 5 1, 3) := by decide +kernel
theorem dX9_told_378 : decode cX9_told 378 = .ok (.goto (-25), 3) := by decide +kernel
theorem dX9_told_381 : decode cX9_told 381 = .ok (.aload_n 0, 1) := by decide +kernel
theorem dX9_told_382 : decode cX9_told 382 = .ok (.iconst 0, 1) := by decide +kernel
theorem dX9_told_383 : decode cX9_told 383 = .ok (.aload_n 0, 1) := by decide +kernel
theorem dX9_told_384 : decode cX9_told 384 = .ok (.getfield 99, 3) := by decide +kernel
theorem dX9_told_387 : decode cX9_told 387 = .ok (.iload_n 1, 1) := by decide +kernel
theorem dX9_told_388 : decode cX9_told 388 = .ok (.invokevirtual 106, 3) := by decide +kernel
theorem dX9_told_391 : decode cX9_told 391 = .ok (.aload_n 0, 1) := by decide +kernel
theorem dX9_told_392 : decode cX9_told 392 = .ok (.iconst 1, 1) := by decide +kernel
theorem dX9_told_393 : decode cX9_told 393 = .ok (.aload_n 0, 1) := by decide +kernel
theorem dX9_told_394 : decode cX9_told 394 = .ok (.getfield 103, 3) := by decide +kernel
theorem dX9_told_397 : decode cX9_told 397 = .ok (.iload_n 2, 1) := by decide +kernel
theorem dX9_told_398 : decode cX9_told 398 = .ok (.invokevirtual 106, 3) := by decide +kernel
theorem dX9_told_401 : decode cX9_told 401 = .ok (.return_, 1) := by decide +kernel
set_option maxRecDepth 20000 in
theorem ggX9_block_X9_decode : GoodIn wsX9_block wsX9_decode := goodIn_r _ [7, 8, 9, 10, 11, 12, 6, 13, 14, 15, 16, 17, 18, 19, 20, 21, 22, 23, 41, 42, 43, 44, 45, 46, 47, 48, 49, 50, 51, 52, 53, 54, 55, 56, 57, 58, 59, 60, 61, 62, 63, 64] (by decide +kernel) (by decide +kernel)
set_option maxRecDepth 20000 in
theorem gX9_block_X9_decode : GoodIn wsX9_block (wsV RX9 116 RX9 yX9_decode wsX9_decode) := goodIn_app (goodIn_of _ (by decide +kernel)) ggX9_block_X9_decode
set_option maxRecDepth 20000 in
theorem ggX9_block_X9_out : GoodIn wsX9_block wsX9_out := goodIn_r _ [27, 1, 28, 2, 19, 20, 21, 6, 22, 23, 41, 42, 43, 44, 45, 46, 47, 48, 49, 50, 51, 52, 53, 54, 55, 56, 57, 58, 59, 60, 61, 62, 63, 64] (by decide +kernel) (by decide +kernel)
set_option maxRecDepth 20000 in
theorem gX9_block_X9_out : GoodIn wsX9_block (wsV RX9 96 RX9 yX9_out wsX9_out) := goodIn_app (goodIn_of _ (by decide +kernel)) ggX9_block_X9_out
set_option maxRecDepth 20000 in
theorem ggX9_block_X9_must : GoodIn wsX9_block wsX9_must := goodIn_r _ [22, 23, 41, 42, 43, 44, 45, 46, 47, 48, 49, 50, 51, 52, 53, 54, 55, 56, 57, 58, 59, 60, 61, 62, 63, 64] (by decide +kernel) (by decide +kernel)
set_option maxRecDepth 20000 in
theorem gX9_block_X9_must : GoodIn wsX9_block (wsV RX9 62 RX9 yX9_must wsX9_must) := goodIn_app (goodIn_of _ (by decide +kernel)) ggX9_block_X9_must
set_option maxRecDepth 20000 in
theorem ggX9_block_X9_lengthOf : GoodIn wsX9_block wsX9_lengthOf := goodIn_r _ [31] (by decide +kernel) (by decide +kernel)
set_option maxRecDepth 20000 in
theorem gX9_block_X9_lengthOf : GoodIn wsX9_block (va_wsS RX9 27 yX9_lengthOf wsX9_lengthOf) := goodIn_app (goodIn_of _ (by decide +kernel)) ggX9_block_X9_lengthOf
set_option maxRecDepth 20000 in
theorem ggX9_block_X9_lengthBits : GoodIn wsX9_block wsX9_lengthBits := goodIn_r _ [34] (by decide +kernel) (by decide +kernel)
set_option maxRecDepth 20000 in
theorem gX9_block_X9_lengthBits : GoodIn wsX9_block (va_wsS RX9 34 yX9_lengthBits wsX9_lengthBits) := goodIn_app (goodIn_of _ (by decide +kernel)) ggX9_block_X9_lengthBits
set_option maxRecDepth 20000 in
theorem ggX9_block_X9_take : GoodIn wsX9_block wsX9_take := goodIn_r _ [13, 14, 15, 16, 17, 18, 19, 20, 21, 6, 22, 23, 41, 42, 43, 44, 45, 46, 47, 48, 49, 50, 51, 52, 53, 54, 55, 56, 57, 58, 59, 60, 61, 62, 63, 64] (by decide +kernel) (by decide +kernel)
set_option maxRecDepth 20000 in
theorem gX9_block_X9_take : GoodIn wsX9_block (wsV RX9 79 RX9 yX9_take wsX9_take) := goodIn_app (goodIn_of _ (by decide +kernel)) ggX9_block_X9_take
set_option maxRecDepth 20000 in
theorem ggX9_block_X9_wayOf : GoodIn wsX9_block wsX9_wayOf := goodIn_r _ [37] (by decide +kernel) (by decide +kernel)
set_option maxRecDepth 20000 in
theorem gX9_block_X9_wayOf : GoodIn wsX9_block (va_wsS RX9 40 yX9_wayOf wsX9_wayOf) := goodIn_app (goodIn_of _ (by decide +kernel)) ggX9_block_X9_wayOf
set_option maxRecDepth 20000 in
theorem ggX9_block_X9_wayBits : GoodIn wsX9_block wsX9_wayBits := goodIn_r _ [40] (by decide +kernel) (by decide +kernel)
set_option maxRecDepth 20000 in
theorem gX9_block_X9_wayBits : GoodIn wsX9_block (va_wsS RX9 43 yX9_wayBits wsX9_wayBits) := goodIn_app (goodIn_of _ (by decide +kernel)) ggX9_block_X9_wayBits
theorem dX9_block_0 : decode cX9_block 0 = .ok (.aload_n 0, 1) := by decide +kernel
theorem dX9_block_1 : decode cX9_block 1 = .ok (.iconst 0, 1) := by decide +kernel
theorem dX9_block_2 : decode cX9_block 2 = .ok (.invokevirtual 116, 3) := by decide +kernel
theorem dX9_block_5 : decode cX9_block 5 = .ok (.istore_n 1, 1) := by decide +kernel
theorem dX9_block_6 : decode cX9_block 6 = .ok (.iload_n 1, 1) := by decide +kernel
theorem dX9_block_7 : decode cX9_block 7 = .ok (.sipush 256, 3) := by decide +kernel
theorem dX9_block_10 : decode cX9_block 10 = .ok (.if_icmp .ne 4, 3) := by decide +kernel
theorem dX9_block_13 : decode cX9_block 13 = .ok (.return_, 1) := by decide +kernel
theorem dX9_block_14 : decode cX9_block 14 = .ok (.iload_n 1, 1) := by decide +kernel
theorem dX9_block_15 : decode cX9_block 15 = .ok (.sipush 256, 3) := by decide +kernel
theorem dX9_block_18 : decode cX9_block 18 = .ok (.if_icmp .ge 11, 3) := by decide +kernel
theorem dX9_block_21 : decode cX9_block 21 = .ok (.aload_n 0, 1) := by decide +kernel
theorem dX9_block_22 : decode cX9_block 22 = .ok (.iload_n 1, 1) := by decide +kernel
theorem dX9_block_23 : decode cX9_block 23 = .ok (.invokevirtual 96, 3) := by decide +kernel
theorem dX9_block_26 : decode cX9_block 26 = .ok (.goto (-26), 3) := by decide +kernel
theorem dX9_block_29 : decode cX9_block 29 = .ok (.aload_n 0, 1) := by decide +kernel
theorem dX9_block_30 : decode cX9_block 30 = .ok (.iload_n 1, 1) := by decide +kernel
theorem dX9_block_31 : decode cX9_block 31 = .ok (.sipush 286, 3) := by decide +kernel
theorem dX9_block_34 : decode cX9_block 34 = .ok (.if_icmp .ge 7, 3) := by decide +kernel
theorem dX9_block_37 : decode cX9_block 37 = .ok (.iconst 1, 1) := by decide +kernel
theorem dX9_block_38 : decode cX9_block 38 = .ok (.goto 4, 3) := by decide +kernel
theorem dX9_block_41 : decode cX9_block 41 = .ok (.iconst 0, 1) := by decide +kernel
theorem dX9_block_42 : decode cX9_block 42 = .ok (.invokevirtual 62, 3) := by decide +kernel
theorem dX9_block_45 : decode cX9_block 45 = .ok (.iload_n 1, 1) := by decide +kernel
theorem dX9_block_46 : decode cX9_block 46 = .ok (.sipush 257, 3) := by decide +kernel
theorem dX9_block_49 : decode cX9_block 49 = .ok (.isub, 1) := by decide +kernel
theorem dX9_block_50 : decode cX9_block 50 = .ok (.invokestatic 27, 3) := by decide +kernel
theorem dX9_block_53 : decode cX9_block 53 = .ok (.aload_n 0, 1) := by decide +kernel
theorem dX9_block_54 : decode cX9_block 54 = .ok (.iload_n 1, 1) := by decide +kernel
theorem dX9_block_55 : decode cX9_block 55 = .ok (.sipush 257, 3) := by decide +kernel
theorem dX9_block_58 : decode cX9_block 58 = .ok (.isub, 1) := by decide +kernel
theorem dX9_block_59 : decode cX9_block 59 = .ok (.invokestatic 34, 3) := by decide +kernel
theorem dX9_block_62 : decode cX9_block 62 = .ok (.invokevirtual 79, 3) := by decide +kernel
theorem dX9_block_65 : decode cX9_block 65 = .ok (.iadd, 1) := by decide +kernel
theorem dX9_block_66 : decode cX9_block 66 = .ok (.istore_n 2, 1) := by decide +kernel
theorem dX9_block_67 : decode cX9_block 67 = .ok (.aload_n 0, 1) := by decide +kernel
theorem dX9_block_68 : decode cX9_block 68 = .ok (.iconst 1, 1) := by decide +kernel
theorem dX9_block_69 : decode cX9_block 69 = .ok (.invokevirtual 116, 3) := by decide +kernel
theorem dX9_block_72 : decode cX9_block 72 = .ok (.istore_n 3, 1) := by decide +kernel
theorem dX9_block_73 : decode cX9_block 73 = .ok (.aload_n 0, 1) := by decide +kernel
theorem dX9_block_74 : decode cX9_block 74 = .ok (.iload_n 3, 1) := by decide +kernel
theorem dX9_block_75 : decode cX9_block 75 = .ok (.bipush 30, 2) := by decide +kernel
theorem dX9_block_77 : decode cX9_block 77 = .ok (.if_icmp .ge 7, 3) := by decide +kernel
theorem dX9_block_80 : decode cX9_block 80 = .ok (.iconst 1, 1) := by decide +kernel
theorem dX9_block_81 : decode cX9_block 81 = .ok (.goto 4, 3) := by decide +kernel
theorem dX9_block_84 : decode cX9_block 84 = .ok (.iconst 0, 1) := by decide +kernel
theorem dX9_block_85 : decode cX9_block 85 = .ok (.invokevirtual 62, 3) := by decide +kernel
theorem dX9_block_88 : decode cX9_block 88 = .ok (.iload_n 3, 1) := by decide +kernel
theorem dX9_block_89 : decode cX9_block 89 = .ok (.invokestatic 40, 3) := by decide +kernel
theorem dX9_block_92 : decode cX9_block 92 = .ok (.aload_n 0, 1) := by decide +kernel
theorem dX9_block_93 : decode cX9_block 93 = .ok (.iload_n 3, 1) := by decide +kernel
theorem dX9_block_94 : decode cX9_block 94 = .ok (.invokestatic 43, 3) := by decide +kernel
theorem dX9_block_97 : decode cX9_block 97 = .ok (.invokevirtual 79, 3) := by decide +kernel
theorem dX9_block_100 : decode cX9_block 100 = .ok (.iadd, 1) := by decide +kernel
theorem dX9_block_101 : decode cX9_block 101 = .ok (.istore 4, 2) := by decide +kernel
theorem dX9_block_103 : decode cX9_block 103 = .ok (.aload_n 0, 1) := by decide +kernel
theorem dX9_block_104 : decode cX9_block 104 = .ok (.iload 4, 2) := by decide +kernel
theorem dX9_block_106 : decode cX9_block 106 = .ok (.aload_n 0, 1) := by decide +kernel
theorem dX9_block_107 : decode cX9_block 107 = .ok (.getfield 82, 3) := by decide +kernel
theorem dX9_block_110 : decode cX9_block 110 = .ok (.if_icmp .gt 7, 3) := by decide +kernel
theorem dX9_block_113 : decode cX9_block 113 = .ok (.iconst 1, 1) := by decide +kernel
theorem dX9_block_114 : decode cX9_block 114 = .ok (.goto 4, 3) := by decide +kernel
theorem dX9_block_117 : decode cX9_block 117 = .ok (.iconst 0, 1) := by decide +kernel
theorem dX9_block_118 : decode cX9_block 118 = .ok (.invokevirtual 62, 3) := by decide +kernel
theorem dX9_block_121 : decode cX9_block 121 = .ok (.iconst 0, 1) := by decide +kernel
theorem dX9_block_122 : decode cX9_block 122 = .ok (.istore 5, 2) := by decide +kernel
theorem dX9_block_124 : decode cX9_block 124 = .ok (.iload 5, 2) := by decide +kernel
theorem dX9_block_126 : decode cX9_block 126 = .ok (.iload_n 2, 1) := by decide +kernel
theorem dX9_block_127 : decode cX9_block 127 = .ok (.if_icmp .ge 25, 3) := by decide +kernel
theorem dX9_block_130 : decode cX9_block 130 = .ok (.aload_n 0, 1) := by decide +kernel
theorem dX9_block_131 : decode cX9_block 131 = .ok (.aload_n 0, 1) := by decide +kernel
theorem dX9_block_132 : decode cX9_block 132 = .ok (.getfield 88, 3) := by decide +kernel
theorem dX9_block_135 : decode cX9_block 135 = .ok (.aload_n 0, 1) := by decide +kernel
theorem dX9_block_136 : decode cX9_block 136 = .ok (.getfield 82, 3) := by decide +kernel
theorem dX9_block_139 : decode cX9_block 139 = .ok (.iload 4, 2) := by decide +kernel
theorem dX9_block_141 : decode cX9_block 141 = .ok (.isub, 1) := by decide +kernel
theorem dX9_block_142 : decode cX9_block 142 = .ok (.baload, 1) := by decide +kernel
theorem dX9_block_143 : decode cX9_block 143 = .ok (.invokevirtual 96, 3) := by decide +kernel
theorem dX9_block_146 : decode cX9_block 146 = .ok (.iinc 5 1, 3) := by decide +kernel
theorem dX9_block_149 : decode cX9_block 149 = .ok (.goto (-25), 3) := by decide +kernel
theorem dX9_block_152 : decode cX9_block 152 = .ok (.goto (-152), 3) := by decide +kernel
set_option maxRecDepth 20000 in
theorem ggX9_unpack_X9_must : GoodIn wsX9_unpack wsX9_must := goodIn_r _ [13, 14, 74, 75, 76, 77, 78, 79, 80, 81, 82, 83, 84, 85, 86, 87, 88, 89, 90, 91, 92, 93, 94, 95, 96, 97] (by decide +kernel) (by decide +kernel)
set_option maxRecDepth 20000 in
theorem gX9_unpack_X9_must : GoodIn wsX9_unpack (wsV RX9 62 RX9 yX9_must wsX9_must) := goodIn_app (goodIn_of _ (by decide +kernel)) ggX9_unpack_X9_must
set_option maxRecDepth 20000 in
theorem ggX9_unpack_X9_take : GoodIn wsX9_unpack wsX9_take := goodIn_r _ [18, 7, 4, 5, 6, 1, 9, 10, 11, 12, 13, 14, 74, 75, 76, 77, 78, 79, 80, 81, 82, 83, 84, 85, 86, 87, 88, 89, 90, 91, 92, 93, 94, 95, 96, 97] (by decide +kernel) (by decide +kernel)
set_option maxRecDepth 20000 in
theorem gX9_unpack_X9_take : GoodIn wsX9_unpack (wsV RX9 79 RX9 yX9_take wsX9_take) := goodIn_app (goodIn_of _ (by decide +kernel)) ggX9_unpack_X9_take
set_option maxRecDepth 20000 in
theorem ggX9_unpack_X9_stored : GoodIn wsX9_unpack wsX9_stored := goodIn_r _ [22, 6, 7, 5, 4, 1, 23, 9, 10, 11, 12, 13, 14, 24, 25, 26, 27, 28, 29, 30, 2, 3, 8, 74, 75, 76, 77, 78, 79, 80, 81, 82, 83, 84, 85, 86, 87, 88, 89, 90, 91, 92, 93, 94, 95, 96, 97] (by decide +kernel) (by decide +kernel)
set_option maxRecDepth 20000 in
theorem gX9_unpack_X9_stored : GoodIn wsX9_unpack (wsV RX9 122 RX9 yX9_stored wsX9_stored) := goodIn_app (goodIn_of _ (by decide +kernel)) ggX9_unpack_X9_stored
set_option maxRecDepth 20000 in
theorem ggX9_unpack_X9_fixed : GoodIn wsX9_unpack wsX9_fixed := goodIn_r _ [34, 35, 36, 37, 38, 39, 12, 40, 41, 42, 9, 10, 11, 13, 14, 74, 75, 76, 77, 78, 79, 80, 81, 82, 83, 84, 85, 86, 87, 88, 89, 90, 91, 92, 93, 94, 95, 96, 97] (by decide +kernel) (by decide +kernel)
set_option maxRecDepth 20000 in
theorem gX9_unpack_X9_fixed : GoodIn wsX9_unpack (wsV RX9 126 RX9 yX9_fixed wsX9_fixed) := goodIn_app (goodIn_of _ (by decide +kernel)) ggX9_unpack_X9_fixed
set_option maxRecDepth 20000 in
theorem ggX9_unpack_X9_told : GoodIn wsX9_unpack wsX9_told := goodIn_r _ [46, 47, 48, 49, 35, 36, 15, 16, 17, 12, 18, 7, 4, 5, 6, 1, 9, 10, 11, 13, 14, 37, 38, 39, 40, 41, 42, 50, 51, 52, 53, 74, 75, 76, 77, 78, 79, 80, 81, 82, 83, 84, 85, 86, 87, 88, 89, 90, 91, 92, 93, 94, 95, 96, 97] (by decide +kernel) (by decide +kernel)
set_option maxRecDepth 20000 in
theorem gX9_unpack_X9_told : GoodIn wsX9_unpack (wsV RX9 129 RX9 yX9_told wsX9_told) := goodIn_app (goodIn_of _ (by decide +kernel)) ggX9_unpack_X9_told
set_option maxRecDepth 20000 in
theorem ggX9_unpack_X9_block : GoodIn wsX9_unpack wsX9_block := goodIn_r _ [57, 2, 8, 50, 51, 52, 12, 53, 41, 42, 15, 16, 17, 18, 7, 4, 5, 6, 1, 9, 10, 11, 13, 14, 27, 28, 29, 30, 3, 58, 59, 60, 61, 62, 63, 64, 65, 66, 67, 68, 69, 74, 75, 76, 77, 78, 79, 80, 81, 82, 83, 84, 85, 86, 87, 88, 89, 90, 91, 92, 93, 94, 95, 96, 97] (by decide +kernel) (by decide +kernel)
set_option maxRecDepth 20000 in
theorem gX9_unpack_X9_block : GoodIn wsX9_unpack (wsV RX9 132 RX9 yX9_block wsX9_block) := goodIn_app (goodIn_of _ (by decide +kernel)) ggX9_unpack_X9_block
set_option maxRecDepth 20000 in
theorem ggX9_unpack_X9_adler : GoodIn wsX9_unpack wsX9_adler := goodIn_r _ [72, 73] (by decide +kernel) (by decide +kernel)
set_option maxRecDepth 20000 in
theorem gX9_unpack_X9_adler : GoodIn wsX9_unpack (va_wsS RX9 49 yX9_adler wsX9_adler) := goodIn_app (goodIn_of _ (by decide +kernel)) ggX9_unpack_X9_adler
theorem dX9_unpack_0 : decode cX9_unpack 0 = .ok (.aload_n 0, 1) := by decide +kernel
theorem dX9_unpack_1 : decode cX9_unpack 1 = .ok (.aload_n 1, 1) := by decide +kernel
theorem dX9_unpack_2 : decode cX9_unpack 2 = .ok (.putfield 69, 3) := by decide +kernel
theorem dX9_unpack_5 : decode cX9_unpack 5 = .ok (.aload_n 0, 1) := by decide +kernel
theorem dX9_unpack_6 : decode cX9_unpack 6 = .ok (.iconst 0, 1) := by decide +kernel
theorem dX9_unpack_7 : decode cX9_unpack 7 = .ok (.putfield 82, 3) := by decide +kernel
theorem dX9_unpack_10 : decode cX9_unpack 10 = .ok (.aload_n 0, 1) := by decide +kernel
theorem dX9_unpack_11 : decode cX9_unpack 11 = .ok (.iload 4, 2) := by decide +kernel
theorem dX9_unpack_13 : decode cX9_unpack 13 = .ok (.putfield 85, 3) := by decide +kernel
theorem dX9_unpack_16 : decode cX9_unpack 16 = .ok (.aload_n 0, 1) := by decide +kernel
theorem dX9_unpack_17 : decode cX9_unpack 17 = .ok (.iload_n 3, 1) := by decide +kernel
theorem dX9_unpack_18 : decode cX9_unpack 18 = .ok (.bipush 6, 2) := by decide +kernel
theorem dX9_unpack_20 : decode cX9_unpack 20 = .ok (.if_icmp .lt 7, 3) := by decide +kernel
theorem dX9_unpack_23 : decode cX9_unpack 23 = .ok (.iconst 1, 1) := by decide +kernel
theorem dX9_unpack_24 : decode cX9_unpack 24 = .ok (.goto 4, 3) := by decide +kernel
theorem dX9_unpack_27 : decode cX9_unpack 27 = .ok (.iconst 0, 1) := by decide +kernel
theorem dX9_unpack_28 : decode cX9_unpack 28 = .ok (.invokevirtual 62, 3) := by decide +kernel
theorem dX9_unpack_31 : decode cX9_unpack 31 = .ok (.aload_n 1, 1) := by decide +kernel
theorem dX9_unpack_32 : decode cX9_unpack 32 = .ok (.iload_n 2, 1) := by decide +kernel
theorem dX9_unpack_33 : decode cX9_unpack 33 = .ok (.baload, 1) := by decide +kernel
theorem dX9_unpack_34 : decode cX9_unpack 34 = .ok (.sipush 255, 3) := by decide +kernel
theorem dX9_unpack_37 : decode cX9_unpack 37 = .ok (.iand, 1) := by decide +kernel
theorem dX9_unpack_38 : decode cX9_unpack 38 = .ok (.bipush 8, 2) := by decide +kernel
theorem dX9_unpack_40 : decode cX9_unpack 40 = .ok (.ishl, 1) := by decide +kernel
theorem dX9_unpack_41 : decode cX9_unpack 41 = .ok (.aload_n 1, 1) := by decide +kernel
theorem dX9_unpack_42 : decode cX9_unpack 42 = .ok (.iload_n 2, 1) := by decide +kernel
theorem dX9_unpack_43 : decode cX9_unpack 43 = .ok (.iconst 1, 1) := by decide +kernel
theorem dX9_unpack_44 : decode cX9_unpack 44 = .ok (.iadd, 1) := by decide +kernel
theorem dX9_unpack_45 : decode cX9_unpack 45 = .ok (.baload, 1) := by decide +kernel
theorem dX9_unpack_46 : decode cX9_unpack 46 = .ok (.sipush 255, 3) := by decide +kernel
theorem dX9_unpack_49 : decode cX9_unpack 49 = .ok (.iand, 1) := by decide +kernel
theorem dX9_unpack_50 : decode cX9_unpack 50 = .ok (.ior, 1) := by decide +kernel
theorem dX9_unpack_51 : decode cX9_unpack 51 = .ok (.istore 5, 2) := by decide +kernel
theorem dX9_unpack_53 : decode cX9_unpack 53 = .ok (.aload_n 0, 1) := by decide +kernel
theorem dX9_unpack_54 : decode cX9_unpack 54 = .ok (.iload 5, 2) := by decide +kernel
theorem dX9_unpack_56 : decode cX9_unpack 56 = .ok (.bipush 8, 2) := by decide +kernel
theorem dX9_unpack_58 : decode cX9_unpack 58 = .ok (.ishr, 1) := by decide +kernel
theorem dX9_unpack_59 : decode cX9_unpack 59 = .ok (.bipush 15, 2) := by decide +kernel
theorem dX9_unpack_61 : decode cX9_unpack 61 = .ok (.iand, 1) := by decide +kernel
theorem dX9_unpack_62 : decode cX9_unpack 62 = .ok (.bipush 8, 2) := by decide +kernel
theorem dX9_unpack_64 : decode cX9_unpack 64 = .ok (.if_icmp .ne 33, 3) := by decide +kernel
theorem dX9_unpack_67 : decode cX9_unpack 67 = .ok (.iload 5, 2) := by decide +kernel
theorem dX9_unpack_69 : decode cX9_unpack 69 = .ok (.bipush 12, 2) := by decide +kernel
theorem dX9_unpack_71 : decode cX9_unpack 71 = .ok (.ishr, 1) := by decide +kernel
theorem dX9_unpack_72 : decode cX9_unpack 72 = .ok (.bipush 7, 2) := by decide +kernel
theorem dX9_unpack_74 : decode cX9_unpack 74 = .ok (.if_icmp .gt 23, 3) := by decide +kernel
theorem dX9_unpack_77 : decode cX9_unpack 77 = .ok (.iload 5, 2) := by decide +kernel
theorem dX9_unpack_79 : decode cX9_unpack 79 = .ok (.bipush 31, 2) := by decide +kernel
theorem dX9_unpack_81 : decode cX9_unpack 81 = .ok (.irem, 1) := by decide +kernel
theorem dX9_unpack_82 : decode cX9_unpack 82 = .ok (.ifCond .ne 15, 3) := by decide +kernel
theorem dX9_unpack_85 : decode cX9_unpack 85 = .ok (.iload 5, 2) := by decide +kernel
theorem dX9_unpack_87 : decode cX9_unpack 87 = .ok (.bipush 32, 2) := by decide +kernel
theorem dX9_unpack_89 : decode cX9_unpack 89 = .ok (.iand, 1) := by decide +kernel
theorem dX9_unpack_90 : decode cX9_unpack 90 = .ok (.ifCond .ne 7, 3) := by decide +kernel
theorem dX9_unpack_93 : decode cX9_unpack 93 = .ok (.iconst 1, 1) := by decide +kernel
theorem dX9_unpack_94 : decode cX9_unpack 94 = .ok (.goto 4, 3) := by decide +kernel
theorem dX9_unpack_97 : decode cX9_unpack 97 = .ok (.iconst 0, 1) := by decide +kernel
theorem dX9_unpack_98 : decode cX9_unpack 98 = .ok (.invokevirtual 62, 3) := by decide +kernel
theorem dX9_unpack_101 : decode cX9_unpack 101 = .ok (.aload_n 0, 1) := by decide +kernel
theorem dX9_unpack_102 : decode cX9_unpack 102 = .ok (.iload_n 2, 1) := by decide +kernel
theorem dX9_unpack_103 : decode cX9_unpack 103 = .ok (.iconst 2, 1) := by decide +kernel
theorem dX9_unpack_104 : decode cX9_unpack 104 = .ok (.iadd, 1) := by decide +kernel
theorem dX9_unpack_105 : decode cX9_unpack 105 = .ok (.putfield 56, 3) := by decide +kernel
theorem dX9_unpack_108 : decode cX9_unpack 108 = .ok (.aload_n 0, 1) := by decide +kernel
theorem dX9_unpack_109 : decode cX9_unpack 109 = .ok (.iload_n 2, 1) := by decide +kernel
theorem dX9_unpack_110 : decode cX9_unpack 110 = .ok (.iload_n 3, 1) := by decide +kernel
theorem dX9_unpack_111 : decode cX9_unpack 111 = .ok (.iadd, 1) := by decide +kernel
theorem dX9_unpack_112 : decode cX9_unpack 112 = .ok (.iconst 4, 1) := by decide +kernel
theorem dX9_unpack_113 : decode cX9_unpack 113 = .ok (.isub, 1) := by decide +kernel
theorem dX9_unpack_114 : decode cX9_unpack 114 = .ok (.putfield 59, 3) := by decide +kernel
theorem dX9_unpack_117 : decode cX9_unpack 117 = .ok (.aload_n 0, 1) := by decide +kernel
theorem dX9_unpack_118 : decode cX9_unpack 118 = .ok (.iconst 0, 1) := by decide +kernel
theorem dX9_unpack_119 : decode cX9_unpack 119 = .ok (.putfield 66, 3) := by decide +kernel
theorem dX9_unpack_122 : decode cX9_unpack 122 = .ok (.aload_n 0, 1) := by decide +kernel
theorem dX9_unpack_123 : decode cX9_unpack 123 = .ok (.iconst 0, 1) := by decide +kernel
theorem dX9_unpack_124 : decode cX9_unpack 124 = .ok (.putfield 53, 3) := by decide +kernel
theorem dX9_unpack_127 : decode cX9_unpack 127 = .ok (.iconst 0, 1) := by decide +kernel
theorem dX9_unpack_128 : decode cX9_unpack 128 = .ok (.istore 6, 2) := by decide +kernel
theorem dX9_unpack_130 : decode cX9_unpack 130 = .ok (.iload 6, 2) := by decide +kernel
theorem dX9_unpack_132 : decode cX9_unpack 132 = .ok (.ifCond .ne 77, 3) := by decide +kernel
theorem dX9_unpack_135 : decode cX9_unpack 135 = .ok (.aload_n 0, 1) := by decide +kernel
theorem dX9_unpack_136 : decode cX9_unpack 136 = .ok (.iconst 1, 1) := by decide +kernel
theorem dX9_unpack_137 : decode cX9_unpack 137 = .ok (.invokevirtual 79, 3) := by decide +kernel
theorem dX9_unpack_140 : decode cX9_unpack 140 = .ok (.iconst 1, 1) := by decide +kernel
theorem dX9_unpack_141 : decode cX9_unpack 141 = .ok (.if_icmp .ne 7, 3) := by decide +kernel
theorem dX9_unpack_144 : decode cX9_unpack 144 = .ok (.iconst 1, 1) := by decide +kernel
theorem dX9_unpack_145 : decode cX9_unpack 145 = .ok (.goto 4, 3) := by decide +kernel
theorem dX9_unpack_148 : decode cX9_unpack 148 = .ok (.iconst 0, 1) := by decide +kernel
theorem dX9_unpack_149 : decode cX9_unpack 149 = .ok (.istore 6, 2) := by decide +kernel
theorem dX9_unpack_151 : decode cX9_unpack 151 = .ok (.aload_n 0, 1) := by decide +kernel
theorem dX9_unpack_152 : decode cX9_unpack 152 = .ok (.iconst 2, 1) := by decide +kernel
theorem dX9_unpack_153 : decode cX9_unpack 153 = .ok (.invokevirtual 79, 3) := by decide +kernel
theorem dX9_unpack_156 : decode cX9_unpack 156 = .ok (.istore 7, 2) := by decide +kernel
theorem dX9_unpack_158 : decode cX9_unpack 158 = .ok (.aload_n 0, 1) := by decide +kernel
theorem dX9_unpack_159 : decode cX9_unpack 159 = .ok (.iload 7, 2) := by decide +kernel
theorem dX9_unpack_161 : decode cX9_unpack 161 = .ok (.iconst 3, 1) := by decide +kernel
theorem dX9_unpack_162 : decode cX9_unpack 162 = .ok (.if_icmp .ge 7, 3) := by decide +kernel
theorem dX9_unpack_165 : decode cX9_unpack 165 = .ok (.iconst 1, 1) := by decide +kernel
theorem dX9_unpack_166 : decode cX9_unpack 166 = .ok (.goto 4, 3) := by decide +kernel
theorem dX9_unpack_169 : decode cX9_unpack 169 = .ok (.iconst 0, 1) := by decide +kernel
theorem dX9_unpack_170 : decode cX9_unpack 170 = .ok (.invokevirtual 62, 3) := by decide +kernel
theorem dX9_unpack_173 : decode cX9_unpack 173 = .ok (.iload 7, 2) := by decide +kernel
theorem dX9_unpack_175 : decode cX9_unpack 175 = .ok (.ifCond .ne 10, 3) := by decide +kernel
theorem dX9_unpack_178 : decode cX9_unpack 178 = .ok (.aload_n 0, 1) := by decide +kernel
theorem dX9_unpack_179 : decode cX9_unpack 179 = .ok (.invokevirtual 122, 3) := by decide +kernel
theorem dX9_unpack_182 : decode cX9_unpack 182 = .ok (.goto 24, 3) := by decide +kernel
theorem dX9_unpack_185 : decode cX9_unpack 185 = .ok (.iload 7, 2) := by decide +kernel
theorem dX9_unpack_187 : decode cX9_unpack 187 = .ok (.iconst 1, 1) := by decide +kernel
theorem dX9_unpack_188 : decode cX9_unpack 188 = .ok (.if_icmp .ne 10, 3) := by decide +kernel
theorem dX9_unpack_191 : decode cX9_unpack 191 = .ok (.aload_n 0, 1) := by decide +kernel
theorem dX9_unpack_192 : decode cX9_unpack 192 = .ok (.invokevirtual 126, 3) := by decide +kernel
theorem dX9_unpack_195 : decode cX9_unpack 195 = .ok (.goto 7, 3) := by decide +kernel
theorem dX9_unpack_198 : decode cX9_unpack 198 = .ok (.aload_n 0, 1) := by decide +kernel
theorem dX9_unpack_199 : decode cX9_unpack 199 = .ok (.invokevirtual 129, 3) := by decide +kernel
theorem dX9_unpack_202 : decode cX9_unpack 202 = .ok (.aload_n 0, 1) := by decide +kernel
theorem dX9_unpack_203 : decode cX9_unpack 203 = .ok (.invokevirtual 132, 3) := by decide +kernel
theorem dX9_unpack_206 : decode cX9_unpack 206 = .ok (.goto (-76), 3) := by decide +kernel
theorem dX9_unpack_209 : decode cX9_unpack 209 = .ok (.aload_n 0, 1) := by decide +kernel
theorem dX9_unpack_210 : decode cX9_unpack 210 = .ok (.aload_n 0, 1) := by decide +kernel
theorem dX9_unpack_211 : decode cX9_unpack 211 = .ok (.getfield 56, 3) := by decide +kernel
theorem dX9_unpack_214 : decode cX9_unpack 214 = .ok (.aload_n 0, 1) := by decide +kernel
theorem dX9_unpack_215 : decode cX9_unpack 215 = .ok (.getfield 59, 3) := by decide +kernel
theorem dX9_unpack_218 : decode cX9_unpack 218 = .ok (.if_icmp .ne 7, 3) := by decide +kernel
theorem dX9_unpack_221 : decode cX9_unpack 221 = .ok (.iconst 1, 1) := by decide +kernel
theorem dX9_unpack_222 : decode cX9_unpack 222 = .ok (.goto 4, 3) := by decide +kernel
theorem dX9_unpack_225 : decode cX9_unpack 225 = .ok (.iconst 0, 1) := by decide +kernel
theorem dX9_unpack_226 : decode cX9_unpack 226 = .ok (.invokevirtual 62, 3) := by decide +kernel
theorem dX9_unpack_229 : decode cX9_unpack 229 = .ok (.aload_n 0, 1) := by decide +kernel
theorem dX9_unpack_230 : decode cX9_unpack 230 = .ok (.getfield 88, 3) := by decide +kernel
theorem dX9_unpack_233 : decode cX9_unpack 233 = .ok (.iconst 0, 1) := by decide +kernel
theorem dX9_unpack_234 : decode cX9_unpack 234 = .ok (.aload_n 0, 1) := by decide +kernel
theorem dX9_unpack_235 : decode cX9_unpack 235 = .ok (.getfield 82, 3) := by decide +kernel
theorem dX9_unpack_238 : decode cX9_unpack 238 = .ok (.invokestatic 49, 3) := by decide +kernel
theorem dX9_unpack_241 : decode cX9_unpack 241 = .ok (.istore 7, 2) := by decide +kernel
theorem dX9_unpack_243 : decode cX9_unpack 243 = .ok (.iconst 0, 1) := by decide +kernel
theorem dX9_unpack_244 : decode cX9_unpack 244 = .ok (.istore 8, 2) := by decide +kernel
theorem dX9_unpack_246 : decode cX9_unpack 246 = .ok (.iload 8, 2) := by decide +kernel
theorem dX9_unpack_248 : decode cX9_unpack 248 = .ok (.iconst 4, 1) := by decide +kernel
theorem dX9_unpack_249 : decode cX9_unpack 249 = .ok (.if_icmp .ge 42, 3) := by decide +kernel
theorem dX9_unpack_252 : decode cX9_unpack 252 = .ok (.aload_n 0, 1) := by decide +kernel
theorem dX9_unpack_253 : decode cX9_unpack 253 = .ok (.iload 7, 2) := by decide +kernel
theorem dX9_unpack_255 : decode cX9_unpack 255 = .ok (.bipush 24, 2) := by decide +kernel
theorem dX9_unpack_257 : decode cX9_unpack 257 = .ok (.bipush 8, 2) := by decide +kernel
theorem dX9_unpack_259 : decode cX9_unpack 259 = .ok (.iload 8, 2) := by decide +kernel
theorem dX9_unpack_261 : decode cX9_unpack 261 = .ok (.imul, 1) := by decide +kernel
theorem dX9_unpack_262 : decode cX9_unpack 262 = .ok (.isub, 1) := by decide +kernel
theorem dX9_unpack_263 : decode cX9_unpack 263 = .ok (.iushr, 1) := by decide +kernel
theorem dX9_unpack_264 : decode cX9_unpack 264 = .ok (.i2b, 1) := by decide +kernel
theorem dX9_unpack_265 : decode cX9_unpack 265 = .ok (.aload_n 1, 1) := by decide +kernel
theorem dX9_unpack_266 : decode cX9_unpack 266 = .ok (.aload_n 0, 1) := by decide +kernel
theorem dX9_unpack_267 : decode cX9_unpack 267 = .ok (.getfield 59, 3) := by decide +kernel
theorem dX9_unpack_270 : decode cX9_unpack 270 = .ok (.iload 8, 2) := by decide +kernel
theorem dX9_unpack_272 : decode cX9_unpack 272 = .ok (.iadd, 1) := by decide +kernel
theorem dX9_unpack_273 : decode cX9_unpack 273 = .ok (.baload, 1) := by decide +kernel
theorem dX9_unpack_274 : decode cX9_unpack 274 = .ok (.if_icmp .ne 7, 3) := by decide +kernel
theorem dX9_unpack_277 : decode cX9_unpack 277 = .ok (.iconst 1, 1) := by decide +kernel
theorem dX9_unpack_278 : decode cX9_unpack 278 = .ok (.goto 4, 3) := by decide +kernel
theorem dX9_unpack_281 : decode cX9_unpack 281 = .ok (.iconst 0, 1) := by decide +kernel
theorem dX9_unpack_282 : decode cX9_unpack 282 = .ok (.invokevirtual 62, 3) := by decide +kernel
theorem dX9_unpack_285 : decode cX9_unpack 285 = .ok (.iinc 8 1, 3) := by decide +kernel
theorem dX9_unpack_288 : decode cX9_unpack 288 = .ok (.goto (-42), 3) := by decide +kernel
theorem dX9_unpack_291 : decode cX9_unpack 291 = .ok (.return_, 1) := by decide +kernel
set_option maxRecDepth 20000 in
theorem ggX9_init_X8_init : GoodIn wsX9_init wsX8_init := goodIn_r _ [24] (by decide +kernel) (by decide +kernel)
set_option maxRecDepth 20000 in
theorem gX9_init_X8_init : GoodIn wsX9_init (wsX8_init) := ggX9_init_X8_init
theorem dX9_init_0 : decode cX9_init 0 = .ok (.aload_n 0, 1) := by decide +kernel
theorem dX9_init_1 : decode cX9_init 1 = .ok (.invokespecial 135, 3) := by decide +kernel
theorem dX9_init_4 : decode cX9_init 4 = .ok (.aload_n 0, 1) := by decide +kernel
theorem dX9_init_5 : decode cX9_init 5 = .ok (.new 140, 3) := by decide +kernel
theorem dX9_init_8 : decode cX9_init 8 = .ok (.dup, 1) := by decide +kernel
theorem dX9_init_9 : decode cX9_init 9 = .ok (.invokespecial 142, 3) := by decide +kernel
theorem dX9_init_12 : decode cX9_init 12 = .ok (.putfield 1, 3) := by decide +kernel
theorem dX9_init_15 : decode cX9_init 15 = .ok (.aload_n 0, 1) := by decide +kernel
theorem dX9_init_16 : decode cX9_init 16 = .ok (.sipush 16384, 3) := by decide +kernel
theorem dX9_init_19 : decode cX9_init 19 = .ok (.newarray .byte, 2) := by decide +kernel
theorem dX9_init_21 : decode cX9_init 21 = .ok (.putfield 12, 3) := by decide +kernel
theorem dX9_init_24 : decode cX9_init 24 = .ok (.aload_n 0, 1) := by decide +kernel
theorem dX9_init_25 : decode cX9_init 25 = .ok (.sipush 8192, 3) := by decide +kernel
theorem dX9_init_28 : decode cX9_init 28 = .ok (.newarray .byte, 2) := by decide +kernel
theorem dX9_init_30 : decode cX9_init 30 = .ok (.putfield 88, 3) := by decide +kernel
theorem dX9_init_33 : decode cX9_init 33 = .ok (.aload_n 0, 1) := by decide +kernel
theorem dX9_init_34 : decode cX9_init 34 = .ok (.sipush 320, 3) := by decide +kernel
theorem dX9_init_37 : decode cX9_init 37 = .ok (.newarray .int, 2) := by decide +kernel
theorem dX9_init_39 : decode cX9_init 39 = .ok (.putfield 119, 3) := by decide +kernel
theorem dX9_init_42 : decode cX9_init 42 = .ok (.aload_n 0, 1) := by decide +kernel
theorem dX9_init_43 : decode cX9_init 43 = .ok (.sipush 288, 3) := by decide +kernel
theorem dX9_init_46 : decode cX9_init 46 = .ok (.newarray .int, 2) := by decide +kernel
theorem dX9_init_48 : decode cX9_init 48 = .ok (.putfield 99, 3) := by decide +kernel
theorem dX9_init_51 : decode cX9_init 51 = .ok (.aload_n 0, 1) := by decide +kernel
theorem dX9_init_52 : decode cX9_init 52 = .ok (.bipush 32, 2) := by decide +kernel
theorem dX9_init_54 : decode cX9_init 54 = .ok (.newarray .int, 2) := by decide +kernel
theorem dX9_init_56 : decode cX9_init 56 = .ok (.putfield 103, 3) := by decide +kernel
theorem dX9_init_59 : decode cX9_init 59 = .ok (.aload_n 0, 1) := by decide +kernel
theorem dX9_init_60 : decode cX9_init 60 = .ok (.bipush 19, 2) := by decide +kernel
theorem dX9_init_62 : decode cX9_init 62 = .ok (.newarray .int, 2) := by decide +kernel
theorem dX9_init_64 : decode cX9_init 64 = .ok (.putfield 110, 3) := by decide +kernel
theorem dX9_init_67 : decode cX9_init 67 = .ok (.aload_n 0, 1) := by decide +kernel
theorem dX9_init_68 : decode cX9_init 68 = .ok (.iconst 3, 1) := by decide +kernel
theorem dX9_init_69 : decode cX9_init 69 = .ok (.bipush 16, 2) := by decide +kernel
theorem dX9_init_71 : decode cX9_init 71 = .ok (.multianewarray 143 2, 4) := by decide +kernel
theorem dX9_init_75 : decode cX9_init 75 = .ok (.putfield 72, 3) := by decide +kernel
theorem dX9_init_78 : decode cX9_init 78 = .ok (.aload_n 0, 1) := by decide +kernel
theorem dX9_init_79 : decode cX9_init 79 = .ok (.iconst 3, 1) := by decide +kernel
theorem dX9_init_80 : decode cX9_init 80 = .ok (.sipush 288, 3) := by decide +kernel
theorem dX9_init_83 : decode cX9_init 83 = .ok (.multianewarray 143 2, 4) := by decide +kernel
theorem dX9_init_87 : decode cX9_init 87 = .ok (.putfield 76, 3) := by decide +kernel
theorem dX9_init_90 : decode cX9_init 90 = .ok (.aload_n 0, 1) := by decide +kernel
theorem dX9_init_91 : decode cX9_init 91 = .ok (.bipush 19, 2) := by decide +kernel
theorem dX9_init_93 : decode cX9_init 93 = .ok (.newarray .int, 2) := by decide +kernel
theorem dX9_init_95 : decode cX9_init 95 = .ok (.dup, 1) := by decide +kernel
theorem dX9_init_96 : decode cX9_init 96 = .ok (.iconst 0, 1) := by decide +kernel
theorem dX9_init_97 : decode cX9_init 97 = .ok (.bipush 16, 2) := by decide +kernel
theorem dX9_init_99 : decode cX9_init 99 = .ok (.iastore, 1) := by decide +kernel
theorem dX9_init_100 : decode cX9_init 100 = .ok (.dup, 1) := by decide +kernel
theorem dX9_init_101 : decode cX9_init 101 = .ok (.iconst 1, 1) := by decide +kernel
theorem dX9_init_102 : decode cX9_init 102 = .ok (.bipush 17, 2) := by decide +kernel
theorem dX9_init_104 : decode cX9_init 104 = .ok (.iastore, 1) := by decide +kernel
theorem dX9_init_105 : decode cX9_init 105 = .ok (.dup, 1) := by decide +kernel
theorem dX9_init_106 : decode cX9_init 106 = .ok (.iconst 2, 1) := by decide +kernel
theorem dX9_init_107 : decode cX9_init 107 = .ok (.bipush 18, 2) := by decide +kernel
theorem dX9_init_109 : decode cX9_init 109 = .ok (.iastore, 1) := by decide +kernel
theorem dX9_init_110 : decode cX9_init 110 = .ok (.dup, 1) := by decide +kernel
theorem dX9_init_111 : decode cX9_init 111 = .ok (.iconst 3, 1) := by decide +kernel
theorem dX9_init_112 : decode cX9_init 112 = .ok (.iconst 0, 1) := by decide +kernel
theorem dX9_init_113 : decode cX9_init 113 = .ok (.iastore, 1) := by decide +kernel
theorem dX9_init_114 : decode cX9_init 114 = .ok (.dup, 1) := by decide +kernel
theorem dX9_init_115 : decode cX9_init 115 = .ok (.iconst 4, 1) := by decide +kernel
theorem dX9_init_116 : decode cX9_init 116 = .ok (.bipush 8, 2) := by decide +kernel
theorem dX9_init_118 : decode cX9_init 118 = .ok (.iastore, 1) := by decide +kernel
theorem dX9_init_119 : decode cX9_init 119 = .ok (.dup, 1) := by decide +kernel
theorem dX9_init_120 : decode cX9_init 120 = .ok (.iconst 5, 1) := by decide +kernel
theorem dX9_init_121 : decode cX9_init 121 = .ok (.bipush 7, 2) := by decide +kernel
theorem dX9_init_123 : decode cX9_init 123 = .ok (.iastore, 1) := by decide +kernel
theorem dX9_init_124 : decode cX9_init 124 = .ok (.dup, 1) := by decide +kernel
theorem dX9_init_125 : decode cX9_init 125 = .ok (.bipush 6, 2) := by decide +kernel
theorem dX9_init_127 : decode cX9_init 127 = .ok (.bipush 9, 2) := by decide +kernel
theorem dX9_init_129 : decode cX9_init 129 = .ok (.iastore, 1) := by decide +kernel
theorem dX9_init_130 : decode cX9_init 130 = .ok (.dup, 1) := by decide +kernel
theorem dX9_init_131 : decode cX9_init 131 = .ok (.bipush 7, 2) := by decide +kernel
theorem dX9_init_133 : decode cX9_init 133 = .ok (.bipush 6, 2) := by decide +kernel
theorem dX9_init_135 : decode cX9_init 135 = .ok (.iastore, 1) := by decide +kernel
theorem dX9_init_136 : decode cX9_init 136 = .ok (.dup, 1) := by decide +kernel
theorem dX9_init_137 : decode cX9_init 137 = .ok (.bipush 8, 2) := by decide +kernel
theorem dX9_init_139 : decode cX9_init 139 = .ok (.bipush 10, 2) := by decide +kernel
theorem dX9_init_141 : decode cX9_init 141 = .ok (.iastore, 1) := by decide +kernel
theorem dX9_init_142 : decode cX9_init 142 = .ok (.dup, 1) := by decide +kernel
theorem dX9_init_143 : decode cX9_init 143 = .ok (.bipush 9, 2) := by decide +kernel
theorem dX9_init_145 : decode cX9_init 145 = .ok (.iconst 5, 1) := by decide +kernel
theorem dX9_init_146 : decode cX9_init 146 = .ok (.iastore, 1) := by decide +kernel
theorem dX9_init_147 : decode cX9_init 147 = .ok (.dup, 1) := by decide +kernel
theorem dX9_init_148 : decode cX9_init 148 = .ok (.bipush 10, 2) := by decide +kernel
theorem dX9_init_150 : decode cX9_init 150 = .ok (.bipush 11, 2) := by decide +kernel
theorem dX9_init_152 : decode cX9_init 152 = .ok (.iastore, 1) := by decide +kernel
theorem dX9_init_153 : decode cX9_init 153 = .ok (.dup, 1) := by decide +kernel
theorem dX9_init_154 : decode cX9_init 154 = .ok (.bipush 11, 2) := by decide +kernel
theorem dX9_init_156 : decode cX9_init 156 = .ok (.iconst 4, 1) := by decide +kernel
theorem dX9_init_157 : decode cX9_init 157 = .ok (.iastore, 1) := by decide +kernel
theorem dX9_init_158 : decode cX9_init 158 = .ok (.dup, 1) := by decide +kernel
theorem dX9_init_159 : decode cX9_init 159 = .ok (.bipush 12, 2) := by decide +kernel
theorem dX9_init_161 : decode cX9_init 161 = .ok (.bipush 12, 2) := by decide +kernel
theorem dX9_init_163 : decode cX9_init 163 = .ok (.iastore, 1) := by decide +kernel
theorem dX9_init_164 : decode cX9_init 164 = .ok (.dup, 1) := by decide +kernel
theorem dX9_init_165 : decode cX9_init 165 = .ok (.bipush 13, 2) := by decide +kernel
theorem dX9_init_167 : decode cX9_init 167 = .ok (.iconst 3, 1) := by decide +kernel
theorem dX9_init_168 : decode cX9_init 168 = .ok (.iastore, 1) := by decide +kernel
theorem dX9_init_169 : decode cX9_init 169 = .ok (.dup, 1) := by decide +kernel
theorem dX9_init_170 : decode cX9_init 170 = .ok (.bipush 14, 2) := by decide +kernel
theorem dX9_init_172 : decode cX9_init 172 = .ok (.bipush 13, 2) := by decide +kernel
theorem dX9_init_174 : decode cX9_init 174 = .ok (.iastore, 1) := by decide +kernel
theorem dX9_init_175 : decode cX9_init 175 = .ok (.dup, 1) := by decide +kernel
theorem dX9_init_176 : decode cX9_init 176 = .ok (.bipush 15, 2) := by decide +kernel
theorem dX9_init_178 : decode cX9_init 178 = .ok (.iconst 2, 1) := by decide +kernel
theorem dX9_init_179 : decode cX9_init 179 = .ok (.iastore, 1) := by decide +kernel
theorem dX9_init_180 : decode cX9_init 180 = .ok (.dup, 1) := by decide +kernel
theorem dX9_init_181 : decode cX9_init 181 = .ok (.bipush 16, 2) := by decide +kernel
theorem dX9_init_183 : decode cX9_init 183 = .ok (.bipush 14, 2) := by decide +kernel
theorem dX9_init_185 : decode cX9_init 185 = .ok (.iastore, 1) := by decide +kernel
theorem dX9_init_186 : decode cX9_init 186 = .ok (.dup, 1) := by decide +kernel
theorem dX9_init_187 : decode cX9_init 187 = .ok (.bipush 17, 2) := by decide +kernel
theorem dX9_init_189 : decode cX9_init 189 = .ok (.iconst 1, 1) := by decide +kernel
theorem dX9_init_190 : decode cX9_init 190 = .ok (.iastore, 1) := by decide +kernel
theorem dX9_init_191 : decode cX9_init 191 = .ok (.dup, 1) := by decide +kernel
theorem dX9_init_192 : decode cX9_init 192 = .ok (.bipush 18, 2) := by decide +kernel
theorem dX9_init_194 : decode cX9_init 194 = .ok (.bipush 15, 2) := by decide +kernel
theorem dX9_init_196 : decode cX9_init 196 = .ok (.iastore, 1) := by decide +kernel
theorem dX9_init_197 : decode cX9_init 197 = .ok (.putfield 113, 3) := by decide +kernel
theorem dX9_init_200 : decode cX9_init 200 = .ok (.aload_n 0, 1) := by decide +kernel
theorem dX9_init_201 : decode cX9_init 201 = .ok (.sipush 4000, 3) := by decide +kernel
theorem dX9_init_204 : decode cX9_init 204 = .ok (.newarray .byte, 2) := by decide +kernel
theorem dX9_init_206 : decode cX9_init 206 = .ok (.putfield 144, 3) := by decide +kernel
theorem dX9_init_209 : decode cX9_init 209 = .ok (.aload_n 0, 1) := by decide +kernel
theorem dX9_init_210 : decode cX9_init 210 = .ok (.sipush 8192, 3) := by decide +kernel
theorem dX9_init_213 : decode cX9_init 213 = .ok (.newarray .byte, 2) := by decide +kernel
