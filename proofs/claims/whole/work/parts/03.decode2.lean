theorem dX9_decode_10 : decode cX9_decode 10 = .ok (.iload 5, 2) := by decide +kernel
theorem dX9_decode_12 : decode cX9_decode 12 = .ok (.bipush 16, 2) := by decide +kernel
theorem dX9_decode_14 : decode cX9_decode 14 = .ok (.if_icmp .ge 66, 3) := by decide +kernel
theorem dX9_decode_17 : decode cX9_decode 17 = .ok (.iload_n 2, 1) := by decide +kernel
theorem dX9_decode_18 : decode cX9_decode 18 = .ok (.iconst 1, 1) := by decide +kernel
theorem dX9_decode_19 : decode cX9_decode 19 = .ok (.ishl, 1) := by decide +kernel
theorem dX9_decode_20 : decode cX9_decode 20 = .ok (.aload_n 0, 1) := by decide +kernel
theorem dX9_decode_21 : decode cX9_decode 21 = .ok (.iconst 1, 1) := by decide +kernel
theorem dX9_decode_22 : decode cX9_decode 22 = .ok (.invokevirtual 79, 3) := by decide +kernel
theorem dX9_decode_25 : decode cX9_decode 25 = .ok (.ior, 1) := by decide +kernel
theorem dX9_decode_26 : decode cX9_decode 26 = .ok (.istore_n 2, 1) := by decide +kernel
theorem dX9_decode_27 : decode cX9_decode 27 = .ok (.aload_n 0, 1) := by decide +kernel
theorem dX9_decode_28 : decode cX9_decode 28 = .ok (.getfield 72, 3) := by decide +kernel
theorem dX9_decode_31 : decode cX9_decode 31 = .ok (.iload_n 1, 1) := by decide +kernel
theorem dX9_decode_32 : decode cX9_decode 32 = .ok (.aaload, 1) := by decide +kernel
theorem dX9_decode_33 : decode cX9_decode 33 = .ok (.iload 5, 2) := by decide +kernel
theorem dX9_decode_35 : decode cX9_decode 35 = .ok (.iaload, 1) := by decide +kernel
theorem dX9_decode_36 : decode cX9_decode 36 = .ok (.istore 6, 2) := by decide +kernel
theorem dX9_decode_38 : decode cX9_decode 38 = .ok (.iload_n 2, 1) := by decide +kernel
theorem dX9_decode_39 : decode cX9_decode 39 = .ok (.iload_n 3, 1) := by decide +kernel
theorem dX9_decode_40 : decode cX9_decode 40 = .ok (.isub, 1) := by decide +kernel
theorem dX9_decode_41 : decode cX9_decode 41 = .ok (.iload 6, 2) := by decide +kernel
theorem dX9_decode_43 : decode cX9_decode 43 = .ok (.if_icmp .ge 17, 3) := by decide +kernel
theorem dX9_decode_46 : decode cX9_decode 46 = .ok (.aload_n 0, 1) := by decide +kernel
theorem dX9_decode_47 : decode cX9_decode 47 = .ok (.getfield 76, 3) := by decide +kernel
theorem dX9_decode_50 : decode cX9_decode 50 = .ok (.iload_n 1, 1) := by decide +kernel
theorem dX9_decode_51 : decode cX9_decode 51 = .ok (.aaload, 1) := by decide +kernel
theorem dX9_decode_52 : decode cX9_decode 52 = .ok (.iload 4, 2) := by decide +kernel
theorem dX9_decode_54 : decode cX9_decode 54 = .ok (.iload_n 2, 1) := by decide +kernel
theorem dX9_decode_55 : decode cX9_decode 55 = .ok (.iadd, 1) := by decide +kernel
theorem dX9_decode_56 : decode cX9_decode 56 = .ok (.iload_n 3, 1) := by decide +kernel
theorem dX9_decode_57 : decode cX9_decode 57 = .ok (.isub, 1) := by decide +kernel
theorem dX9_decode_58 : decode cX9_decode 58 = .ok (.iaload, 1) := by decide +kernel
theorem dX9_decode_59 : decode cX9_decode 59 = .ok (.ireturn, 1) := by decide +kernel
theorem dX9_decode_60 : decode cX9_decode 60 = .ok (.iload 4, 2) := by decide +kernel
theorem dX9_decode_62 : decode cX9_decode 62 = .ok (.iload 6, 2) := by decide +kernel
theorem dX9_decode_64 : decode cX9_decode 64 = .ok (.iadd, 1) := by decide +kernel
theorem dX9_decode_65 : decode cX9_decode 65 = .ok (.istore 4, 2) := by decide +kernel
theorem dX9_decode_67 : decode cX9_decode 67 = .ok (.iload_n 3, 1) := by decide +kernel
theorem dX9_decode_68 : decode cX9_decode 68 = .ok (.iload 6, 2) := by decide +kernel
theorem dX9_decode_70 : decode cX9_decode 70 = .ok (.iadd, 1) := by decide +kernel
theorem dX9_decode_71 : decode cX9_decode 71 = .ok (.iconst 1, 1) := by decide +kernel
theorem dX9_decode_72 : decode cX9_decode 72 = .ok (.ishl, 1) := by decide +kernel
theorem dX9_decode_73 : decode cX9_decode 73 = .ok (.istore_n 3, 1) := by decide +kernel
theorem dX9_decode_74 : decode cX9_decode 74 = .ok (.iinc 5 1, 3) := by decide +kernel
theorem dX9_decode_77 : decode cX9_decode 77 = .ok (.goto (-67), 3) := by decide +kernel
theorem dX9_decode_80 : decode cX9_decode 80 = .ok (.aload_n 0, 1) := by decide +kernel
theorem dX9_decode_81 : decode cX9_decode 81 = .ok (.iconst 0, 1) := by decide +kernel
theorem dX9_decode_82 : decode cX9_decode 82 = .ok (.invokevirtual 62, 3) := by decide +kernel
theorem dX9_decode_85 : decode cX9_decode 85 = .ok (.iconst 0, 1) := by decide +kernel
theorem dX9_decode_86 : decode cX9_decode 86 = .ok (.ireturn, 1) := by decide +kernel
set_option maxRecDepth 20000 in
theorem ggX9_out_X9_must : GoodIn wsX9_out wsX9_must := goodIn_r _ [8, 9, 10, 11, 12, 13, 14, 15, 16, 17, 18, 19, 20, 21, 22, 23, 24, 25, 26, 27, 28, 29, 30, 31, 32, 33] (by decide +kernel) (by decide +kernel)
set_option maxRecDepth 20000 in
theorem gX9_out_X9_must : GoodIn wsX9_out (wsV RX9 62 RX9 yX9_must wsX9_must) := goodIn_app (goodIn_of _ (by decide +kernel)) ggX9_out_X9_must
theorem dX9_out_0 : decode cX9_out 0 = .ok (.aload_n 0, 1) := by decide +kernel
theorem dX9_out_1 : decode cX9_out 1 = .ok (.aload_n 0, 1) := by decide +kernel
theorem dX9_out_2 : decode cX9_out 2 = .ok (.getfield 82, 3) := by decide +kernel
theorem dX9_out_5 : decode cX9_out 5 = .ok (.aload_n 0, 1) := by decide +kernel
theorem dX9_out_6 : decode cX9_out 6 = .ok (.getfield 85, 3) := by decide +kernel
theorem dX9_out_9 : decode cX9_out 9 = .ok (.if_icmp .ge 7, 3) := by decide +kernel
theorem dX9_out_12 : decode cX9_out 12 = .ok (.iconst 1, 1) := by decide +kernel
theorem dX9_out_13 : decode cX9_out 13 = .ok (.goto 4, 3) := by decide +kernel
theorem dX9_out_16 : decode cX9_out 16 = .ok (.iconst 0, 1) := by decide +kernel
theorem dX9_out_17 : decode cX9_out 17 = .ok (.invokevirtual 62, 3) := by decide +kernel
theorem dX9_out_20 : decode cX9_out 20 = .ok (.aload_n 0, 1) := by decide +kernel
theorem dX9_out_21 : decode cX9_out 21 = .ok (.getfield 88, 3) := by decide +kernel
theorem dX9_out_24 : decode cX9_out 24 = .ok (.aload_n 0, 1) := by decide +kernel
theorem dX9_out_25 : decode cX9_out 25 = .ok (.getfield 82, 3) := by decide +kernel
theorem dX9_out_28 : decode cX9_out 28 = .ok (.iload_n 1, 1) := by decide +kernel
theorem dX9_out_29 : decode cX9_out 29 = .ok (.i2b, 1) := by decide +kernel
theorem dX9_out_30 : decode cX9_out 30 = .ok (.bastore, 1) := by decide +kernel
theorem dX9_out_31 : decode cX9_out 31 = .ok (.aload_n 0, 1) := by decide +kernel
theorem dX9_out_32 : decode cX9_out 32 = .ok (.dup, 1) := by decide +kernel
theorem dX9_out_33 : decode cX9_out 33 = .ok (.getfield 82, 3) := by decide +kernel
theorem dX9_out_36 : decode cX9_out 36 = .ok (.iconst 1, 1) := by decide +kernel
theorem dX9_out_37 : decode cX9_out 37 = .ok (.iadd, 1) := by decide +kernel
theorem dX9_out_38 : decode cX9_out 38 = .ok (.putfield 82, 3) := by decide +kernel
theorem dX9_out_41 : decode cX9_out 41 = .ok (.return_, 1) := by decide +kernel
set_option maxRecDepth 20000 in
theorem ggX9_stored_X9_must : GoodIn wsX9_stored wsX9_must := goodIn_r _ [11, 12, 23, 24, 25, 26, 27, 28, 29, 30, 31, 32, 33, 34, 35, 36, 37, 38, 39, 40, 41, 42, 43, 44, 45, 46] (by decide +kernel) (by decide +kernel)
set_option maxRecDepth 20000 in
theorem gX9_stored_X9_must : GoodIn wsX9_stored (wsV RX9 62 RX9 yX9_must wsX9_must) := goodIn_app (goodIn_of _ (by decide +kernel)) ggX9_stored_X9_must
set_option maxRecDepth 20000 in
theorem ggX9_stored_X9_number : GoodIn wsX9_stored wsX9_number := goodIn_r _ [15] (by decide +kernel) (by decide +kernel)
set_option maxRecDepth 20000 in
theorem gX9_stored_X9_number : GoodIn wsX9_stored (va_wsS RX9 91 yX9_number wsX9_number) := goodIn_app (goodIn_of _ (by decide +kernel)) ggX9_stored_X9_number
set_option maxRecDepth 20000 in
theorem ggX9_stored_X9_out : GoodIn wsX9_stored wsX9_out := goodIn_r _ [19, 20, 21, 22, 7, 8, 9, 10, 11, 12, 23, 24, 25, 26, 27, 28, 29, 30, 31, 32, 33, 34, 35, 36, 37, 38, 39, 40, 41, 42, 43, 44, 45, 46] (by decide +kernel) (by decide +kernel)
set_option maxRecDepth 20000 in
theorem gX9_stored_X9_out : GoodIn wsX9_stored (wsV RX9 96 RX9 yX9_out wsX9_out) := goodIn_app (goodIn_of _ (by decide +kernel)) ggX9_stored_X9_out
theorem dX9_stored_0 : decode cX9_stored 0 = .ok (.aload_n 0, 1) := by decide +kernel
theorem dX9_stored_1 : decode cX9_stored 1 = .ok (.iconst 0, 1) := by decide +kernel
theorem dX9_stored_2 : decode cX9_stored 2 = .ok (.putfield 66, 3) := by decide +kernel
theorem dX9_stored_5 : decode cX9_stored 5 = .ok (.aload_n 0, 1) := by decide +kernel
theorem dX9_stored_6 : decode cX9_stored 6 = .ok (.iconst 0, 1) := by decide +kernel
theorem dX9_stored_7 : decode cX9_stored 7 = .ok (.putfield 53, 3) := by decide +kernel
theorem dX9_stored_10 : decode cX9_stored 10 = .ok (.aload_n 0, 1) := by decide +kernel
theorem dX9_stored_11 : decode cX9_stored 11 = .ok (.aload_n 0, 1) := by decide +kernel
theorem dX9_stored_12 : decode cX9_stored 12 = .ok (.getfield 59, 3) := by decide +kernel
theorem dX9_stored_15 : decode cX9_stored 15 = .ok (.aload_n 0, 1) := by decide +kernel
theorem dX9_stored_16 : decode cX9_stored 16 = .ok (.getfield 56, 3) := by decide +kernel
theorem dX9_stored_19 : decode cX9_stored 19 = .ok (.isub, 1) := by decide +kernel
theorem dX9_stored_20 : decode cX9_stored 20 = .ok (.iconst 4, 1) := by decide +kernel
theorem dX9_stored_21 : decode cX9_stored 21 = .ok (.if_icmp .lt 7, 3) := by decide +kernel
theorem dX9_stored_24 : decode cX9_stored 24 = .ok (.iconst 1, 1) := by decide +kernel
theorem dX9_stored_25 : decode cX9_stored 25 = .ok (.goto 4, 3) := by decide +kernel
theorem dX9_stored_28 : decode cX9_stored 28 = .ok (.iconst 0, 1) := by decide +kernel
theorem dX9_stored_29 : decode cX9_stored 29 = .ok (.invokevirtual 62, 3) := by decide +kernel
theorem dX9_stored_32 : decode cX9_stored 32 = .ok (.aload_n 0, 1) := by decide +kernel
theorem dX9_stored_33 : decode cX9_stored 33 = .ok (.getfield 69, 3) := by decide +kernel
theorem dX9_stored_36 : decode cX9_stored 36 = .ok (.aload_n 0, 1) := by decide +kernel
theorem dX9_stored_37 : decode cX9_stored 37 = .ok (.getfield 56, 3) := by decide +kernel
theorem dX9_stored_40 : decode cX9_stored 40 = .ok (.iconst 2, 1) := by decide +kernel
theorem dX9_stored_41 : decode cX9_stored 41 = .ok (.invokestatic 91, 3) := by decide +kernel
theorem dX9_stored_44 : decode cX9_stored 44 = .ok (.l2i, 1) := by decide +kernel
theorem dX9_stored_45 : decode cX9_stored 45 = .ok (.istore_n 1, 1) := by decide +kernel
theorem dX9_stored_46 : decode cX9_stored 46 = .ok (.aload_n 0, 1) := by decide +kernel
theorem dX9_stored_47 : decode cX9_stored 47 = .ok (.iload_n 1, 1) := by decide +kernel
theorem dX9_stored_48 : decode cX9_stored 48 = .ok (.ldc 95, 2) := by decide +kernel
theorem dX9_stored_50 : decode cX9_stored 50 = .ok (.ixor, 1) := by decide +kernel
theorem dX9_stored_51 : decode cX9_stored 51 = .ok (.aload_n 0, 1) := by decide +kernel
theorem dX9_stored_52 : decode cX9_stored 52 = .ok (.getfield 69, 3) := by decide +kernel
theorem dX9_stored_55 : decode cX9_stored 55 = .ok (.aload_n 0, 1) := by decide +kernel
theorem dX9_stored_56 : decode cX9_stored 56 = .ok (.getfield 56, 3) := by decide +kernel
theorem dX9_stored_59 : decode cX9_stored 59 = .ok (.iconst 2, 1) := by decide +kernel
theorem dX9_stored_60 : decode cX9_stored 60 = .ok (.iadd, 1) := by decide +kernel
theorem dX9_stored_61 : decode cX9_stored 61 = .ok (.iconst 2, 1) := by decide +kernel
theorem dX9_stored_62 : decode cX9_stored 62 = .ok (.invokestatic 91, 3) := by decide +kernel
theorem dX9_stored_65 : decode cX9_stored 65 = .ok (.l2i, 1) := by decide +kernel
theorem dX9_stored_66 : decode cX9_stored 66 = .ok (.if_icmp .ne 7, 3) := by decide +kernel
theorem dX9_stored_69 : decode cX9_stored 69 = .ok (.iconst 1, 1) := by decide +kernel
theorem dX9_stored_70 : decode cX9_stored 70 = .ok (.goto 4, 3) := by decide +kernel
theorem dX9_stored_73 : decode cX9_stored 73 = .ok (.iconst 0, 1) := by decide +kernel
theorem dX9_stored_74 : decode cX9_stored 74 = .ok (.invokevirtual 62, 3) := by decide +kernel
theorem dX9_stored_77 : decode cX9_stored 77 = .ok (.aload_n 0, 1) := by decide +kernel
theorem dX9_stored_78 : decode cX9_stored 78 = .ok (.dup, 1) := by decide +kernel
theorem dX9_stored_79 : decode cX9_stored 79 = .ok (.getfield 56, 3) := by decide +kernel
theorem dX9_stored_82 : decode cX9_stored 82 = .ok (.iconst 4, 1) := by decide +kernel
theorem dX9_stored_83 : decode cX9_stored 83 = .ok (.iadd, 1) := by decide +kernel
theorem dX9_stored_84 : decode cX9_stored 84 = .ok (.putfield 56, 3) := by decide +kernel
theorem dX9_stored_87 : decode cX9_stored 87 = .ok (.aload_n 0, 1) := by decide +kernel
theorem dX9_stored_88 : decode cX9_stored 88 = .ok (.aload_n 0, 1) := by decide +kernel
theorem dX9_stored_89 : decode cX9_stored 89 = .ok (.getfield 59, 3) := by decide +kernel
theorem dX9_stored_92 : decode cX9_stored 92 = .ok (.aload_n 0, 1) := by decide +kernel
theorem dX9_stored_93 : decode cX9_stored 93 = .ok (.getfield 56, 3) := by decide +kernel
theorem dX9_stored_96 : decode cX9_stored 96 = .ok (.isub, 1) := by decide +kernel
theorem dX9_stored_97 : decode cX9_stored 97 = .ok (.iload_n 1, 1) := by decide +kernel
theorem dX9_stored_98 : decode cX9_stored 98 = .ok (.if_icmp .lt 7, 3) := by decide +kernel
theorem dX9_stored_101 : decode cX9_stored 101 = .ok (.iconst 1, 1) := by decide +kernel
theorem dX9_stored_102 : decode cX9_stored 102 = .ok (.goto 4, 3) := by decide +kernel
theorem dX9_stored_105 : decode cX9_stored 105 = .ok (.iconst 0, 1) := by decide +kernel
theorem dX9_stored_106 : decode cX9_stored 106 = .ok (.invokevirtual 62, 3) := by decide +kernel
theorem dX9_stored_109 : decode cX9_stored 109 = .ok (.iconst 0, 1) := by decide +kernel
theorem dX9_stored_110 : decode cX9_stored 110 = .ok (.istore_n 2, 1) := by decide +kernel
theorem dX9_stored_111 : decode cX9_stored 111 = .ok (.iload_n 2, 1) := by decide +kernel
theorem dX9_stored_112 : decode cX9_stored 112 = .ok (.iload_n 1, 1) := by decide +kernel
theorem dX9_stored_113 : decode cX9_stored 113 = .ok (.if_icmp .ge 24, 3) := by decide +kernel
theorem dX9_stored_116 : decode cX9_stored 116 = .ok (.aload_n 0, 1) := by decide +kernel
theorem dX9_stored_117 : decode cX9_stored 117 = .ok (.aload_n 0, 1) := by decide +kernel
theorem dX9_stored_118 : decode cX9_stored 118 = .ok (.getfield 69, 3) := by decide +kernel
theorem dX9_stored_121 : decode cX9_stored 121 = .ok (.aload_n 0, 1) := by decide +kernel
theorem dX9_stored_122 : decode cX9_stored 122 = .ok (.getfield 56, 3) := by decide +kernel
theorem dX9_stored_125 : decode cX9_stored 125 = .ok (.iload_n 2, 1) := by decide +kernel
theorem dX9_stored_126 : decode cX9_stored 126 = .ok (.iadd, 1) := by decide +kernel
theorem dX9_stored_127 : decode cX9_stored 127 = .ok (.baload, 1) := by decide +kernel
theorem dX9_stored_128 : decode cX9_stored 128 = .ok (.invokevirtual 96, 3) := by decide +kernel
theorem dX9_stored_131 : decode cX9_stored 131 = .ok (.iinc 2 1, 3) := by decide +kernel
theorem dX9_stored_134 : decode cX9_stored 134 = .ok (.goto (-23), 3) := by decide +kernel
theorem dX9_stored_137 : decode cX9_stored 137 = .ok (.aload_n 0, 1) := by decide +kernel
theorem dX9_stored_138 : decode cX9_stored 138 = .ok (.dup, 1) := by decide +kernel
theorem dX9_stored_139 : decode cX9_stored 139 = .ok (.getfield 56, 3) := by decide +kernel
theorem dX9_stored_142 : decode cX9_stored 142 = .ok (.iload_n 1, 1) := by decide +kernel
theorem dX9_stored_143 : decode cX9_stored 143 = .ok (.iadd, 1) := by decide +kernel
theorem dX9_stored_144 : decode cX9_stored 144 = .ok (.putfield 56, 3) := by decide +kernel
theorem dX9_stored_147 : decode cX9_stored 147 = .ok (.return_, 1) := by decide +kernel
set_option maxRecDepth 20000 in
theorem ggX9_fixed_X9_codes : GoodIn wsX9_fixed wsX9_codes := goodIn_r _ [7, 8, 9, 10, 11, 12, 6, 13, 14, 15, 16, 17, 18, 19, 20, 21, 22, 23, 24, 25, 26, 27, 28, 29, 30, 31, 32, 33, 34, 35, 36, 37, 38] (by decide +kernel) (by decide +kernel)
set_option maxRecDepth 20000 in
theorem gX9_fixed_X9_codes : GoodIn wsX9_fixed (wsV RX9 106 RX9 yX9_codes wsX9_codes) := goodIn_app (goodIn_of _ (by decide +kernel)) ggX9_fixed_X9_codes
theorem dX9_fixed_0 : decode cX9_fixed 0 = .ok (.iconst 0, 1) := by decide +kernel
theorem dX9_fixed_1 : decode cX9_fixed 1 = .ok (.istore_n 1, 1) := by decide +kernel
theorem dX9_fixed_2 : decode cX9_fixed 2 = .ok (.iload_n 1, 1) := by decide +kernel
theorem dX9_fixed_3 : decode cX9_fixed 3 = .ok (.sipush 288, 3) := by decide +kernel
theorem dX9_fixed_6 : decode cX9_fixed 6 = .ok (.if_icmp .ge 53, 3) := by decide +kernel
theorem dX9_fixed_9 : decode cX9_fixed 9 = .ok (.aload_n 0, 1) := by decide +kernel
theorem dX9_fixed_10 : decode cX9_fixed 10 = .ok (.getfield 99, 3) := by decide +kernel
theorem dX9_fixed_13 : decode cX9_fixed 13 = .ok (.iload_n 1, 1) := by decide +kernel
theorem dX9_fixed_14 : decode cX9_fixed 14 = .ok (.iload_n 1, 1) := by decide +kernel
theorem dX9_fixed_15 : decode cX9_fixed 15 = .ok (.sipush 144, 3) := by decide +kernel
theorem dX9_fixed_18 : decode cX9_fixed 18 = .ok (.if_icmp .ge 8, 3) := by decide +kernel
theorem dX9_fixed_21 : decode cX9_fixed 21 = .ok (.bipush 8, 2) := by decide +kernel
theorem dX9_fixed_23 : decode cX9_fixed 23 = .ok (.goto 29, 3) := by decide +kernel
theorem dX9_fixed_26 : decode cX9_fixed 26 = .ok (.iload_n 1, 1) := by decide +kernel
theorem dX9_fixed_27 : decode cX9_fixed 27 = .ok (.sipush 256, 3) := by decide +kernel
theorem dX9_fixed_30 : decode cX9_fixed 30 = .ok (.if_icmp .ge 8, 3) := by decide +kernel
theorem dX9_fixed_33 : decode cX9_fixed 33 = .ok (.bipush 9, 2) := by decide +kernel
theorem dX9_fixed_35 : decode cX9_fixed 35 = .ok (.goto 17, 3) := by decide +kernel
theorem dX9_fixed_38 : decode cX9_fixed 38 = .ok (.iload_n 1, 1) := by decide +kernel
theorem dX9_fixed_39 : decode cX9_fixed 39 = .ok (.sipush 280, 3) := by decide +kernel
theorem dX9_fixed_42 : decode cX9_fixed 42 = .ok (.if_icmp .ge 8, 3) := by decide +kernel
theorem dX9_fixed_45 : decode cX9_fixed 45 = .ok (.bipush 7, 2) := by decide +kernel
theorem dX9_fixed_47 : decode cX9_fixed 47 = .ok (.goto 5, 3) := by decide +kernel
theorem dX9_fixed_50 : decode cX9_fixed 50 = .ok (.bipush 8, 2) := by decide +kernel
theorem dX9_fixed_52 : decode cX9_fixed 52 = .ok (.iastore, 1) := by decide +kernel
theorem dX9_fixed_53 : decode cX9_fixed 53 = .ok (.iinc 1 1, 3) := by decide +kernel
theorem dX9_fixed_56 : decode cX9_fixed 56 = .ok (.goto (-54), 3) := by decide +kernel
theorem dX9_fixed_59 : decode cX9_fixed 59 = .ok (.iconst 0, 1) := by decide +kernel
theorem dX9_fixed_60 : decode cX9_fixed 60 = .ok (.istore_n 1, 1) := by decide +kernel
theorem dX9_fixed_61 : decode cX9_fixed 61 = .ok (.iload_n 1, 1) := by decide +kernel
theorem dX9_fixed_62 : decode cX9_fixed 62 = .ok (.bipush 32, 2) := by decide +kernel
theorem dX9_fixed_64 : decode cX9_fixed 64 = .ok (.if_icmp .ge 16, 3) := by decide +kernel
theorem dX9_fixed_67 : decode cX9_fixed 67 = .ok (.aload_n 0, 1) := by decide +kernel
theorem dX9_fixed_68 : decode cX9_fixed 68 = .ok (.getfield 103, 3) := by decide +kernel
theorem dX9_fixed_71 : decode cX9_fixed 71 = .ok (.iload_n 1, 1) := by decide +kernel
theorem dX9_fixed_72 : decode cX9_fixed 72 = .ok (.iconst 5, 1) := by decide +kernel
theorem dX9_fixed_73 : decode cX9_fixed 73 = .ok (.iastore, 1) := by decide +kernel
theorem dX9_fixed_74 : decode cX9_fixed 74 = .ok (.iinc 1 1, 3) := by decide +kernel
theorem dX9_fixed_77 : decode cX9_fixed 77 = .ok (.goto (-16), 3) := by decide +kernel
theorem dX9_fixed_80 : decode cX9_fixed 80 = .ok (.aload_n 0, 1) := by decide +kernel
theorem dX9_fixed_81 : decode cX9_fixed 81 = .ok (.iconst 0, 1) := by decide +kernel
theorem dX9_fixed_82 : decode cX9_fixed 82 = .ok (.aload_n 0, 1) := by decide +kernel
theorem dX9_fixed_83 : decode cX9_fixed 83 = .ok (.getfield 99, 3) := by decide +kernel
theorem dX9_fixed_86 : decode cX9_fixed 86 = .ok (.sipush 288, 3) := by decide +kernel
theorem dX9_fixed_89 : decode cX9_fixed 89 = .ok (.invokevirtual 106, 3) := by decide +kernel
theorem dX9_fixed_92 : decode cX9_fixed 92 = .ok (.aload_n 0, 1) := by decide +kernel
theorem dX9_fixed_93 : decode cX9_fixed 93 = .ok (.iconst 1, 1) := by decide +kernel
theorem dX9_fixed_94 : decode cX9_fixed 94 = .ok (.aload_n 0, 1) := by decide +kernel
theorem dX9_fixed_95 : decode cX9_fixed 95 = .ok (.getfield 103, 3) := by decide +kernel
theorem dX9_fixed_98 : decode cX9_fixed 98 = .ok (.bipush 32, 2) := by decide +kernel
theorem dX9_fixed_100 : decode cX9_fixed 100 = .ok (.invokevirtual 106, 3) := by decide +kernel
theorem dX9_fixed_103 : decode cX9_fixed 103 = .ok (.return_, 1) := by decide +kernel
set_option maxRecDepth 20000 in
theorem ggX9_told_X9_take : GoodIn wsX9_told wsX9_take := goodIn_r _ [10, 11, 12, 13, 14, 15, 16, 17, 18, 9, 19, 20, 31, 32, 33, 34, 35, 36, 37, 38, 39, 40, 41, 42, 43, 44, 45, 46, 47, 48, 49, 50, 51, 52, 53, 54] (by decide +kernel) (by decide +kernel)
set_option maxRecDepth 20000 in
theorem gX9_told_X9_take : GoodIn wsX9_told (wsV RX9 79 RX9 yX9_take wsX9_take) := goodIn_app (goodIn_of _ (by decide +kernel)) ggX9_told_X9_take
set_option maxRecDepth 20000 in
theorem ggX9_told_X9_must : GoodIn wsX9_told wsX9_must := goodIn_r _ [19, 20, 31, 32, 33, 34, 35, 36, 37, 38, 39, 40, 41, 42, 43, 44, 45, 46, 47, 48, 49, 50, 51, 52, 53, 54] (by decide +kernel) (by decide +kernel)
set_option maxRecDepth 20000 in
theorem gX9_told_X9_must : GoodIn wsX9_told (wsV RX9 62 RX9 yX9_must wsX9_must) := goodIn_app (goodIn_of _ (by decide +kernel)) ggX9_told_X9_must
set_option maxRecDepth 20000 in
theorem ggX9_told_X9_codes : GoodIn wsX9_told wsX9_codes := goodIn_r _ [24, 25, 26, 16, 17, 18, 9, 19, 20, 31, 32, 33, 34, 35, 36, 37, 38, 39, 40, 41, 42, 43, 44, 45, 46, 47, 48, 49, 50, 51, 52, 53, 54] (by decide +kernel) (by decide +kernel)
set_option maxRecDepth 20000 in
theorem gX9_told_X9_codes : GoodIn wsX9_told (wsV RX9 106 RX9 yX9_codes wsX9_codes) := goodIn_app (goodIn_of _ (by decide +kernel)) ggX9_told_X9_codes
set_option maxRecDepth 20000 in
theorem ggX9_told_X9_decode : GoodIn wsX9_told wsX9_decode := goodIn_r _ [30, 25, 26, 6, 7, 8, 9, 10, 11, 12, 13, 14, 15, 16, 17, 18, 19, 20, 31, 32, 33, 34, 35, 36, 37, 38, 39, 40, 41, 42, 43, 44, 45, 46, 47, 48, 49, 50, 51, 52, 53, 54] (by decide +kernel) (by decide +kernel)
set_option maxRecDepth 20000 in
theorem gX9_told_X9_decode : GoodIn wsX9_told (wsV RX9 116 RX9 yX9_decode wsX9_decode) := goodIn_app (goodIn_of _ (by decide +kernel)) ggX9_told_X9_decode
theorem dX9_told_0 : decode cX9_told 0 = .ok (.sipush 257, 3) := by decide +kernel
theorem dX9_told_3 : decode cX9_told 3 = .ok (.aload_n 0, 1) := by decide +kernel
theorem dX9_told_4 : decode cX9_told 4 = .ok (.iconst 5, 1) := by decide +kernel
theorem dX9_told_5 : decode cX9_told 5 = .ok (.invokevirtual 79, 3) := by decide +kernel
theorem dX9_told_8 : decode cX9_told 8 = .ok (.iadd, 1) := by decide +kernel
theorem dX9_told_9 : decode cX9_told 9 = .ok (.istore_n 1, 1) := by decide +kernel
theorem dX9_told_10 : decode cX9_told 10 = .ok (.iconst 1, 1) := by decide +kernel
theorem dX9_told_11 : decode cX9_told 11 = .ok (.aload_n 0, 1) := by decide +kernel
theorem dX9_told_12 : decode cX9_told 12 = .ok (.iconst 5, 1) := by decide +kernel
theorem dX9_told_13 : decode cX9_told 13 = .ok (.invokevirtual 79, 3) := by decide +kernel
theorem dX9_told_16 : decode cX9_told 16 = .ok (.iadd, 1) := by decide +kernel
theorem dX9_told_17 : decode cX9_told 17 = .ok (.istore_n 2, 1) := by decide +kernel
theorem dX9_told_18 : decode cX9_told 18 = .ok (.iconst 4, 1) := by decide +kernel
theorem dX9_told_19 : decode cX9_told 19 = .ok (.aload_n 0, 1) := by decide +kernel
theorem dX9_told_20 : decode cX9_told 20 = .ok (.iconst 4, 1) := by decide +kernel
theorem dX9_told_21 : decode cX9_told 21 = .ok (.invokevirtual 79, 3) := by decide +kernel
theorem dX9_told_24 : decode cX9_told 24 = .ok (.iadd, 1) := by decide +kernel
theorem dX9_told_25 : decode cX9_told 25 = .ok (.istore_n 3, 1) := by decide +kernel
theorem dX9_told_26 : decode cX9_told 26 = .ok (.aload_n 0, 1) := by decide +kernel
theorem dX9_told_27 : decode cX9_told 27 = .ok (.iload_n 1, 1) := by decide +kernel
theorem dX9_told_28 : decode cX9_told 28 = .ok (.sipush 286, 3) := by decide +kernel
theorem dX9_told_31 : decode cX9_told 31 = .ok (.if_icmp .gt 13, 3) := by decide +kernel
theorem dX9_told_34 : decode cX9_told 34 = .ok (.iload_n 2, 1) := by decide +kernel
theorem dX9_told_35 : decode cX9_told 35 = .ok (.bipush 30, 2) := by decide +kernel
theorem dX9_told_37 : decode cX9_told 37 = .ok (.if_icmp .gt 7, 3) := by decide +kernel
theorem dX9_told_40 : decode cX9_told 40 = .ok (.iconst 1, 1) := by decide +kernel
theorem dX9_told_41 : decode cX9_told 41 = .ok (.goto 4, 3) := by decide +kernel
theorem dX9_told_44 : decode cX9_told 44 = .ok (.iconst 0, 1) := by decide +kernel
theorem dX9_told_45 : decode cX9_told 45 = .ok (.invokevirtual 62, 3) := by decide +kernel
theorem dX9_told_48 : decode cX9_told 48 = .ok (.iconst 0, 1) := by decide +kernel
theorem dX9_told_49 : decode cX9_told 49 = .ok (.istore 4, 2) := by decide +kernel
theorem dX9_told_51 : decode cX9_told 51 = .ok (.iload 4, 2) := by decide +kernel
theorem dX9_told_53 : decode cX9_told 53 = .ok (.bipush 19, 2) := by decide +kernel
theorem dX9_told_55 : decode cX9_told 55 = .ok (.if_icmp .ge 17, 3) := by decide +kernel
theorem dX9_told_58 : decode cX9_told 58 = .ok (.aload_n 0, 1) := by decide +kernel
theorem dX9_told_59 : decode cX9_told 59 = .ok (.getfield 110, 3) := by decide +kernel
theorem dX9_told_62 : decode cX9_told 62 = .ok (.iload 4, 2) := by decide +kernel
theorem dX9_told_64 : decode cX9_told 64 = .ok (.iconst 0, 1) := by decide +kernel
theorem dX9_told_65 : decode cX9_told 65 = .ok (.iastore, 1) := by decide +kernel
theorem dX9_told_66 : decode cX9_told 66 = .ok (.iinc 4 1, 3) := by decide +kernel
theorem dX9_told_69 : decode cX9_told 69 = .ok (.goto (-18), 3) := by decide +kernel
theorem dX9_told_72 : decode cX9_told 72 = .ok (.iconst 0, 1) := by decide +kernel
theorem dX9_told_73 : decode cX9_told 73 = .ok (.istore 4, 2) := by decide +kernel
theorem dX9_told_75 : decode cX9_told 75 = .ok (.iload 4, 2) := by decide +kernel
theorem dX9_told_77 : decode cX9_told 77 = .ok (.iload_n 3, 1) := by decide +kernel
theorem dX9_told_78 : decode cX9_told 78 = .ok (.if_icmp .ge 26, 3) := by decide +kernel
theorem dX9_told_81 : decode cX9_told 81 = .ok (.aload_n 0, 1) := by decide +kernel
theorem dX9_told_82 : decode cX9_told 82 = .ok (.getfield 110, 3) := by decide +kernel
theorem dX9_told_85 : decode cX9_told 85 = .ok (.aload_n 0, 1) := by decide +kernel
theorem dX9_told_86 : decode cX9_told 86 = .ok (.getfield 113, 3) := by decide +kernel
theorem dX9_told_89 : decode cX9_told 89 = .ok (.iload 4, 2) := by decide +kernel
theorem dX9_told_91 : decode cX9_told 91 = .ok (.iaload, 1) := by decide +kernel
theorem dX9_told_92 : decode cX9_told 92 = .ok (.aload_n 0, 1) := by decide +kernel
theorem dX9_told_93 : decode cX9_told 93 = .ok (.iconst 3, 1) := by decide +kernel
theorem dX9_told_94 : decode cX9_told 94 = .ok (.invokevirtual 79, 3) := by decide +kernel
theorem dX9_told_97 : decode cX9_told 97 = .ok (.iastore, 1) := by decide +kernel
theorem dX9_told_98 : decode cX9_told 98 = .ok (.iinc 4 1, 3) := by decide +kernel
theorem dX9_told_101 : decode cX9_told 101 = .ok (.goto (-26), 3) := by decide +kernel
theorem dX9_told_104 : decode cX9_told 104 = .ok (.aload_n 0, 1) := by decide +kernel
theorem dX9_told_105 : decode cX9_told 105 = .ok (.iconst 2, 1) := by decide +kernel
theorem dX9_told_106 : decode cX9_told 106 = .ok (.aload_n 0, 1) := by decide +kernel
theorem dX9_told_107 : decode cX9_told 107 = .ok (.getfield 110, 3) := by decide +kernel
theorem dX9_told_110 : decode cX9_told 110 = .ok (.bipush 19, 2) := by decide +kernel
theorem dX9_told_112 : decode cX9_told 112 = .ok (.invokevirtual 106, 3) := by decide +kernel
theorem dX9_told_115 : decode cX9_told 115 = .ok (.iconst 0, 1) := by decide +kernel
theorem dX9_told_116 : decode cX9_told 116 = .ok (.istore 4, 2) := by decide +kernel
theorem dX9_told_118 : decode cX9_told 118 = .ok (.iload 4, 2) := by decide +kernel
theorem dX9_told_120 : decode cX9_told 120 = .ok (.iload_n 1, 1) := by decide +kernel
theorem dX9_told_121 : decode cX9_told 121 = .ok (.iload_n 2, 1) := by decide +kernel
theorem dX9_told_122 : decode cX9_told 122 = .ok (.iadd, 1) := by decide +kernel
theorem dX9_told_123 : decode cX9_told 123 = .ok (.if_icmp .ge 178, 3) := by decide +kernel
theorem dX9_told_126 : decode cX9_told 126 = .ok (.aload_n 0, 1) := by decide +kernel
theorem dX9_told_127 : decode cX9_told 127 = .ok (.iconst 2, 1) := by decide +kernel
theorem dX9_told_128 : decode cX9_told 128 = .ok (.invokevirtual 116, 3) := by decide +kernel
theorem dX9_told_131 : decode cX9_told 131 = .ok (.istore 5, 2) := by decide +kernel
theorem dX9_told_133 : decode cX9_told 133 = .ok (.iload 5, 2) := by decide +kernel
theorem dX9_told_135 : decode cX9_told 135 = .ok (.bipush 16, 2) := by decide +kernel
theorem dX9_told_137 : decode cX9_told 137 = .ok (.if_icmp .ge 18, 3) := by decide +kernel
theorem dX9_told_140 : decode cX9_told 140 = .ok (.aload_n 0, 1) := by decide +kernel
theorem dX9_told_141 : decode cX9_told 141 = .ok (.getfield 119, 3) := by decide +kernel
theorem dX9_told_144 : decode cX9_told 144 = .ok (.iload 4, 2) := by decide +kernel
theorem dX9_told_146 : decode cX9_told 146 = .ok (.iload 5, 2) := by decide +kernel
theorem dX9_told_148 : decode cX9_told 148 = .ok (.iastore, 1) := by decide +kernel
theorem dX9_told_149 : decode cX9_told 149 = .ok (.iinc 4 1, 3) := by decide +kernel
theorem dX9_told_152 : decode cX9_told 152 = .ok (.goto (-34), 3) := by decide +kernel
theorem dX9_told_155 : decode cX9_told 155 = .ok (.aload_n 0, 1) := by decide +kernel
theorem dX9_told_156 : decode cX9_told 156 = .ok (.iload 5, 2) := by decide +kernel
theorem dX9_told_158 : decode cX9_told 158 = .ok (.bipush 16, 2) := by decide +kernel
theorem dX9_told_160 : decode cX9_told 160 = .ok (.if_icmp .ne 8, 3) := by decide +kernel
theorem dX9_told_163 : decode cX9_told 163 = .ok (.iload 4, 2) := by decide +kernel
theorem dX9_told_165 : decode cX9_told 165 = .ok (.ifCond .le 7, 3) := by decide +kernel
theorem dX9_told_168 : decode cX9_told 168 = .ok (.iconst 1, 1) := by decide +kernel
theorem dX9_told_169 : decode cX9_told 169 = .ok (.goto 4, 3) := by decide +kernel
theorem dX9_told_172 : decode cX9_told 172 = .ok (.iconst 0, 1) := by decide +kernel
theorem dX9_told_173 : decode cX9_told 173 = .ok (.invokevirtual 62, 3) := by decide +kernel
theorem dX9_told_176 : decode cX9_told 176 = .ok (.iload 5, 2) := by decide +kernel
theorem dX9_told_178 : decode cX9_told 178 = .ok (.bipush 16, 2) := by decide +kernel
theorem dX9_told_180 : decode cX9_told 180 = .ok (.if_icmp .ne 15, 3) := by decide +kernel
theorem dX9_told_183 : decode cX9_told 183 = .ok (.aload_n 0, 1) := by decide +kernel
theorem dX9_told_184 : decode cX9_told 184 = .ok (.getfield 119, 3) := by decide +kernel
theorem dX9_told_187 : decode cX9_told 187 = .ok (.iload 4, 2) := by decide +kernel
theorem dX9_told_189 : decode cX9_told 189 = .ok (.iconst 1, 1) := by decide +kernel
theorem dX9_told_190 : decode cX9_told 190 = .ok (.isub, 1) := by decide +kernel
theorem dX9_told_191 : decode cX9_told 191 = .ok (.iaload, 1) := by decide +kernel
theorem dX9_told_192 : decode cX9_told 192 = .ok (.goto 4, 3) := by decide +kernel
theorem dX9_told_195 : decode cX9_told 195 = .ok (.iconst 0, 1) := by decide +kernel
theorem dX9_told_196 : decode cX9_told 196 = .ok (.istore 6, 2) := by decide +kernel
theorem dX9_told_198 : decode cX9_told 198 = .ok (.iload 5, 2) := by decide +kernel
theorem dX9_told_200 : decode cX9_told 200 = .ok (.bipush 16, 2) := by decide +kernel
theorem dX9_told_202 : decode cX9_told 202 = .ok (.if_icmp .ne 13, 3) := by decide +kernel
theorem dX9_told_205 : decode cX9_told 205 = .ok (.iconst 3, 1) := by decide +kernel
theorem dX9_told_206 : decode cX9_told 206 = .ok (.aload_n 0, 1) := by decide +kernel
theorem dX9_told_207 : decode cX9_told 207 = .ok (.iconst 2, 1) := by decide +kernel
theorem dX9_told_208 : decode cX9_told 208 = .ok (.invokevirtual 79, 3) := by decide +kernel
theorem dX9_told_211 : decode cX9_told 211 = .ok (.iadd, 1) := by decide +kernel
theorem dX9_told_212 : decode cX9_told 212 = .ok (.goto 29, 3) := by decide +kernel
theorem dX9_told_215 : decode cX9_told 215 = .ok (.iload 5, 2) := by decide +kernel
theorem dX9_told_217 : decode cX9_told 217 = .ok (.bipush 17, 2) := by decide +kernel
theorem dX9_told_219 : decode cX9_told 219 = .ok (.if_icmp .ne 13, 3) := by decide +kernel
theorem dX9_told_222 : decode cX9_told 222 = .ok (.iconst 3, 1) := by decide +kernel
theorem dX9_told_223 : decode cX9_told 223 = .ok (.aload_n 0, 1) := by decide +kernel
theorem dX9_told_224 : decode cX9_told 224 = .ok (.iconst 3, 1) := by decide +kernel
theorem dX9_told_225 : decode cX9_told 225 = .ok (.invokevirtual 79, 3) := by decide +kernel
theorem dX9_told_228 : decode cX9_told 228 = .ok (.iadd, 1) := by decide +kernel
theorem dX9_told_229 : decode cX9_told 229 = .ok (.goto 12, 3) := by decide +kernel
theorem dX9_told_232 : decode cX9_told 232 = .ok (.bipush 11, 2) := by decide +kernel
theorem dX9_told_234 : decode cX9_told 234 = .ok (.aload_n 0, 1) := by decide +kernel
theorem dX9_told_235 : decode cX9_told 235 = .ok (.bipush 7, 2) := by decide +kernel
theorem dX9_told_237 : decode cX9_told 237 = .ok (.invokevirtual 79, 3) := by decide +kernel
theorem dX9_told_240 : decode cX9_told 240 = .ok (.iadd, 1) := by decide +kernel
theorem dX9_told_241 : decode cX9_told 241 = .ok (.istore 7, 2) := by decide +kernel
theorem dX9_told_243 : decode cX9_told 243 = .ok (.aload_n 0, 1) := by decide +kernel
theorem dX9_told_244 : decode cX9_told 244 = .ok (.iload 4, 2) := by decide +kernel
theorem dX9_told_246 : decode cX9_told 246 = .ok (.iload 7, 2) := by decide +kernel
theorem dX9_told_248 : decode cX9_told 248 = .ok (.iadd, 1) := by decide +kernel
theorem dX9_told_249 : decode cX9_told 249 = .ok (.iload_n 1, 1) := by decide +kernel
theorem dX9_told_250 : decode cX9_told 250 = .ok (.iload_n 2, 1) := by decide +kernel
theorem dX9_told_251 : decode cX9_told 251 = .ok (.iadd, 1) := by decide +kernel
theorem dX9_told_252 : decode cX9_told 252 = .ok (.if_icmp .gt 7, 3) := by decide +kernel
theorem dX9_told_255 : decode cX9_told 255 = .ok (.iconst 1, 1) := by decide +kernel
theorem dX9_told_256 : decode cX9_told 256 = .ok (.goto 4, 3) := by decide +kernel
theorem dX9_told_259 : decode cX9_told 259 = .ok (.iconst 0, 1) := by decide +kernel
theorem dX9_told_260 : decode cX9_told 260 = .ok (.invokevirtual 62, 3) := by decide +kernel
theorem dX9_told_263 : decode cX9_told 263 = .ok (.iconst 0, 1) := by decide +kernel
theorem dX9_told_264 : decode cX9_told 264 = .ok (.istore 8, 2) := by decide +kernel
theorem dX9_told_266 : decode cX9_told 266 = .ok (.iload 8, 2) := by decide +kernel
theorem dX9_told_268 : decode cX9_told 268 = .ok (.iload 7, 2) := by decide +kernel
theorem dX9_told_270 : decode cX9_told 270 = .ok (.if_icmp .ge 21, 3) := by decide +kernel
theorem dX9_told_273 : decode cX9_told 273 = .ok (.aload_n 0, 1) := by decide +kernel
theorem dX9_told_274 : decode cX9_told 274 = .ok (.getfield 119, 3) := by decide +kernel
theorem dX9_told_277 : decode cX9_told 277 = .ok (.iload 4, 2) := by decide +kernel
theorem dX9_told_279 : decode cX9_told 279 = .ok (.iload 8, 2) := by decide +kernel
theorem dX9_told_281 : decode cX9_told 281 = .ok (.iadd, 1) := by decide +kernel
theorem dX9_told_282 : decode cX9_told 282 = .ok (.iload 6, 2) := by decide +kernel
theorem dX9_told_284 : decode cX9_told 284 = .ok (.iastore, 1) := by decide +kernel
theorem dX9_told_285 : decode cX9_told 285 = .ok (.iinc 8 1, 3) := by decide +kernel
theorem dX9_told_288 : decode cX9_told 288 = .ok (.goto (-22), 3) := by decide +kernel
theorem dX9_told_291 : decode cX9_told 291 = .ok (.iload 4, 2) := by decide +kernel
theorem dX9_told_293 : decode cX9_told 293 = .ok (.iload 7, 2) := by decide +kernel
theorem dX9_told_295 : decode cX9_told 295 = .ok (.iadd, 1) := by decide +kernel
theorem dX9_told_296 : decode cX9_told 296 = .ok (.istore 4, 2) := by decide +kernel
theorem dX9_told_298 : decode cX9_told 298 = .ok (.goto (-180), 3) := by decide +kernel
theorem dX9_told_301 : decode cX9_told 301 = .ok (.aload_n 0, 1) := by decide +kernel
theorem dX9_told_302 : decode cX9_told 302 = .ok (.aload_n 0, 1) := by decide +kernel
theorem dX9_told_303 : decode cX9_told 303 = .ok (.getfield 119, 3) := by decide +kernel
theorem dX9_told_306 : decode cX9_told 306 = .ok (.sipush 256, 3) := by decide +kernel
theorem dX9_told_309 : decode cX9_told 309 = .ok (.iaload, 1) := by decide +kernel
theorem dX9_told_310 : decode cX9_told 310 = .ok (.ifCond .le 7, 3) := by decide +kernel
theorem dX9_told_313 : decode cX9_told 313 = .ok (.iconst 1, 1) := by decide +kernel
theorem dX9_told_314 : decode cX9_told 314 = .ok (.goto 4, 3) := by decide +kernel
theorem dX9_told_317 : decode cX9_told 317 = .ok (.iconst 0, 1) := by decide +kernel
theorem dX9_told_318 : decode cX9_told 318 = .ok (.invokevirtual 62, 3) := by decide +kernel
theorem dX9_told_321 : decode cX9_told 321 = .ok (.iconst 0, 1) := by decide +kernel
theorem dX9_told_322 : decode cX9_told 322 = .ok (.istore 5, 2) := by decide +kernel
theorem dX9_told_324 : decode cX9_told 324 = .ok (.iload 5, 2) := by decide +kernel
theorem dX9_told_326 : decode cX9_told 326 = .ok (.iload_n 1, 1) := by decide +kernel
theorem dX9_told_327 : decode cX9_told 327 = .ok (.if_icmp .ge 23, 3) := by decide +kernel
theorem dX9_told_330 : decode cX9_told 330 = .ok (.aload_n 0, 1) := by decide +kernel
theorem dX9_told_331 : decode cX9_told 331 = .ok (.getfield 99, 3) := by decide +kernel
theorem dX9_told_334 : decode cX9_told 334 = .ok (.iload 5, 2) := by decide +kernel
theorem dX9_told_336 : decode cX9_told 336 = .ok (.aload_n 0, 1) := by decide +kernel
theorem dX9_told_337 : decode cX9_told 337 = .ok (.getfield 119, 3) := by decide +kernel
theorem dX9_told_340 : decode cX9_told 340 = .ok (.iload 5, 2) := by decide +kernel
theorem dX9_told_342 : decode cX9_told 342 = .ok (.iaload, 1) := by decide +kernel
theorem dX9_told_343 : decode cX9_told 343 = .ok (.iastore, 1) := by decide +kernel
theorem dX9_told_344 : decode cX9_told 344 = .ok (.iinc 5 1, 3) := by decide +kernel
theorem dX9_told_347 : decode cX9_told 347 = .ok (.goto (-23), 3) := by decide +kernel
theorem dX9_told_350 : decode cX9_told 350 = .ok (.iconst 0, 1) := by decide +kernel
theorem dX9_told_351 : decode cX9_told 351 = .ok (.istore 5, 2) := by decide +kernel
theorem dX9_told_353 : decode cX9_told 353 = .ok (.iload 5, 2) := by decide +kernel
theorem dX9_told_355 : decode cX9_told 355 = .ok (.iload_n 2, 1) := by decide +kernel
theorem dX9_told_356 : decode cX9_told 356 = .ok (.if_icmp .ge 25, 3) := by decide +kernel
theorem dX9_told_359 : decode cX9_told 359 = .ok (.aload_n 0, 1) := by decide +kernel
theorem dX9_told_360 : decode cX9_told 360 = .ok (.getfield 103, 3) := by decide +kernel
theorem dX9_told_363 : decode cX9_told 363 = .ok (.iload 5, 2) := by decide +kernel
theorem dX9_told_365 : decode cX9_told 365 = .ok (.aload_n 0, 1) := by decide +kernel
theorem dX9_told_366 : decode cX9_told 366 = .ok (.getfield 119, 3) := by decide +kernel
theorem dX9_told_369 : decode cX9_told 369 = .ok (.iload_n 1, 1) := by decide +kernel
theorem dX9_told_370 : decode cX9_told 370 = .ok (.iload 5, 2) := by decide +kernel
theorem dX9_told_372 : decode cX9_told 372 = .ok (.iadd, 1) := by decide +kernel
theorem dX9_told_373 : decode cX9_told 373 = .ok (.iaload, 1) := by decide +kernel
theorem dX9_told_374 : decode cX9_told 374 = .ok (.iastore, 1) := by decide +kernel
