theorem dX5_fits_2 : decode cX5_fits 2 = .ok (.invokevirtual 122, 3) := by decide +kernel
theorem dX5_fits_5 : decode cX5_fits 5 = .ok (.iload_n 2, 1) := by decide +kernel
theorem dX5_fits_6 : decode cX5_fits 6 = .ok (.if_icmp .gt 7, 3) := by decide +kernel
theorem dX5_fits_9 : decode cX5_fits 9 = .ok (.iconst 1, 1) := by decide +kernel
theorem dX5_fits_10 : decode cX5_fits 10 = .ok (.goto 4, 3) := by decide +kernel
theorem dX5_fits_13 : decode cX5_fits 13 = .ok (.iconst 0, 1) := by decide +kernel
theorem dX5_fits_14 : decode cX5_fits 14 = .ok (.istore_n 3, 1) := by decide +kernel
theorem dX5_fits_15 : decode cX5_fits 15 = .ok (.iconst 0, 1) := by decide +kernel
theorem dX5_fits_16 : decode cX5_fits 16 = .ok (.istore 4, 2) := by decide +kernel
theorem dX5_fits_18 : decode cX5_fits 18 = .ok (.iload 4, 2) := by decide +kernel
theorem dX5_fits_20 : decode cX5_fits 20 = .ok (.iload_n 1, 1) := by decide +kernel
theorem dX5_fits_21 : decode cX5_fits 21 = .ok (.if_icmp .ge 45, 3) := by decide +kernel
theorem dX5_fits_24 : decode cX5_fits 24 = .ok (.iload_n 3, 1) := by decide +kernel
theorem dX5_fits_25 : decode cX5_fits 25 = .ok (.ifCond .eq 33, 3) := by decide +kernel
theorem dX5_fits_28 : decode cX5_fits 28 = .ok (.aload_n 0, 1) := by decide +kernel
theorem dX5_fits_29 : decode cX5_fits 29 = .ok (.iload_n 1, 1) := by decide +kernel
theorem dX5_fits_30 : decode cX5_fits 30 = .ok (.iload 4, 2) := by decide +kernel
theorem dX5_fits_32 : decode cX5_fits 32 = .ok (.invokevirtual 115, 3) := by decide +kernel
theorem dX5_fits_35 : decode cX5_fits 35 = .ok (.ifCond .eq 19, 3) := by decide +kernel
theorem dX5_fits_38 : decode cX5_fits 38 = .ok (.aload_n 0, 1) := by decide +kernel
theorem dX5_fits_39 : decode cX5_fits 39 = .ok (.getfield 52, 3) := by decide +kernel
theorem dX5_fits_42 : decode cX5_fits 42 = .ok (.iload 4, 2) := by decide +kernel
theorem dX5_fits_44 : decode cX5_fits 44 = .ok (.iaload, 1) := by decide +kernel
theorem dX5_fits_45 : decode cX5_fits 45 = .ok (.aload_n 0, 1) := by decide +kernel
theorem dX5_fits_46 : decode cX5_fits 46 = .ok (.getfield 52, 3) := by decide +kernel
theorem dX5_fits_49 : decode cX5_fits 49 = .ok (.iload_n 1, 1) := by decide +kernel
theorem dX5_fits_50 : decode cX5_fits 50 = .ok (.iaload, 1) := by decide +kernel
theorem dX5_fits_51 : decode cX5_fits 51 = .ok (.if_icmp .eq 7, 3) := by decide +kernel
theorem dX5_fits_54 : decode cX5_fits 54 = .ok (.iconst 1, 1) := by decide +kernel
theorem dX5_fits_55 : decode cX5_fits 55 = .ok (.goto 4, 3) := by decide +kernel
theorem dX5_fits_58 : decode cX5_fits 58 = .ok (.iconst 0, 1) := by decide +kernel
theorem dX5_fits_59 : decode cX5_fits 59 = .ok (.istore_n 3, 1) := by decide +kernel
theorem dX5_fits_60 : decode cX5_fits 60 = .ok (.iinc 4 1, 3) := by decide +kernel
theorem dX5_fits_63 : decode cX5_fits 63 = .ok (.goto (-45), 3) := by decide +kernel
theorem dX5_fits_66 : decode cX5_fits 66 = .ok (.iconst 0, 1) := by decide +kernel
theorem dX5_fits_67 : decode cX5_fits 67 = .ok (.istore 4, 2) := by decide +kernel
theorem dX5_fits_69 : decode cX5_fits 69 = .ok (.iload 4, 2) := by decide +kernel
theorem dX5_fits_71 : decode cX5_fits 71 = .ok (.aload_n 0, 1) := by decide +kernel
theorem dX5_fits_72 : decode cX5_fits 72 = .ok (.getfield 64, 3) := by decide +kernel
theorem dX5_fits_75 : decode cX5_fits 75 = .ok (.if_icmp .ge 86, 3) := by decide +kernel
theorem dX5_fits_78 : decode cX5_fits 78 = .ok (.iconst 0, 1) := by decide +kernel
theorem dX5_fits_79 : decode cX5_fits 79 = .ok (.istore 5, 2) := by decide +kernel
theorem dX5_fits_81 : decode cX5_fits 81 = .ok (.iload 5, 2) := by decide +kernel
theorem dX5_fits_83 : decode cX5_fits 83 = .ok (.aload_n 0, 1) := by decide +kernel
theorem dX5_fits_84 : decode cX5_fits 84 = .ok (.getfield 13, 3) := by decide +kernel
theorem dX5_fits_87 : decode cX5_fits 87 = .ok (.iload 4, 2) := by decide +kernel
theorem dX5_fits_89 : decode cX5_fits 89 = .ok (.iaload, 1) := by decide +kernel
theorem dX5_fits_90 : decode cX5_fits 90 = .ok (.if_icmp .ge 65, 3) := by decide +kernel
theorem dX5_fits_93 : decode cX5_fits 93 = .ok (.iconst 4, 1) := by decide +kernel
theorem dX5_fits_94 : decode cX5_fits 94 = .ok (.iload 4, 2) := by decide +kernel
theorem dX5_fits_96 : decode cX5_fits 96 = .ok (.imul, 1) := by decide +kernel
theorem dX5_fits_97 : decode cX5_fits 97 = .ok (.iload 5, 2) := by decide +kernel
theorem dX5_fits_99 : decode cX5_fits 99 = .ok (.iadd, 1) := by decide +kernel
theorem dX5_fits_100 : decode cX5_fits 100 = .ok (.istore 6, 2) := by decide +kernel
theorem dX5_fits_102 : decode cX5_fits 102 = .ok (.iload_n 3, 1) := by decide +kernel
theorem dX5_fits_103 : decode cX5_fits 103 = .ok (.ifCond .eq 44, 3) := by decide +kernel
theorem dX5_fits_106 : decode cX5_fits 106 = .ok (.aload_n 0, 1) := by decide +kernel
theorem dX5_fits_107 : decode cX5_fits 107 = .ok (.getfield 36, 3) := by decide +kernel
theorem dX5_fits_110 : decode cX5_fits 110 = .ok (.iload 6, 2) := by decide +kernel
theorem dX5_fits_112 : decode cX5_fits 112 = .ok (.iaload, 1) := by decide +kernel
theorem dX5_fits_113 : decode cX5_fits 113 = .ok (.iload_n 1, 1) := by decide +kernel
theorem dX5_fits_114 : decode cX5_fits 114 = .ok (.if_icmp .ne 29, 3) := by decide +kernel
theorem dX5_fits_117 : decode cX5_fits 117 = .ok (.aload_n 0, 1) := by decide +kernel
theorem dX5_fits_118 : decode cX5_fits 118 = .ok (.getfield 33, 3) := by decide +kernel
theorem dX5_fits_121 : decode cX5_fits 121 = .ok (.iload 6, 2) := by decide +kernel
theorem dX5_fits_123 : decode cX5_fits 123 = .ok (.iaload, 1) := by decide +kernel
theorem dX5_fits_124 : decode cX5_fits 124 = .ok (.ifCond .lt 19, 3) := by decide +kernel
theorem dX5_fits_127 : decode cX5_fits 127 = .ok (.aload_n 0, 1) := by decide +kernel
theorem dX5_fits_128 : decode cX5_fits 128 = .ok (.getfield 33, 3) := by decide +kernel
theorem dX5_fits_131 : decode cX5_fits 131 = .ok (.iload 6, 2) := by decide +kernel
theorem dX5_fits_133 : decode cX5_fits 133 = .ok (.iaload, 1) := by decide +kernel
theorem dX5_fits_134 : decode cX5_fits 134 = .ok (.aload_n 0, 1) := by decide +kernel
theorem dX5_fits_135 : decode cX5_fits 135 = .ok (.getfield 52, 3) := by decide +kernel
theorem dX5_fits_138 : decode cX5_fits 138 = .ok (.iload_n 1, 1) := by decide +kernel
theorem dX5_fits_139 : decode cX5_fits 139 = .ok (.iaload, 1) := by decide +kernel
theorem dX5_fits_140 : decode cX5_fits 140 = .ok (.if_icmp .ne 7, 3) := by decide +kernel
theorem dX5_fits_143 : decode cX5_fits 143 = .ok (.iconst 1, 1) := by decide +kernel
theorem dX5_fits_144 : decode cX5_fits 144 = .ok (.goto 4, 3) := by decide +kernel
theorem dX5_fits_147 : decode cX5_fits 147 = .ok (.iconst 0, 1) := by decide +kernel
theorem dX5_fits_148 : decode cX5_fits 148 = .ok (.istore_n 3, 1) := by decide +kernel
theorem dX5_fits_149 : decode cX5_fits 149 = .ok (.iinc 5 1, 3) := by decide +kernel
theorem dX5_fits_152 : decode cX5_fits 152 = .ok (.goto (-71), 3) := by decide +kernel
theorem dX5_fits_155 : decode cX5_fits 155 = .ok (.iinc 4 1, 3) := by decide +kernel
theorem dX5_fits_158 : decode cX5_fits 158 = .ok (.goto (-89), 3) := by decide +kernel
theorem dX5_fits_161 : decode cX5_fits 161 = .ok (.iload_n 3, 1) := by decide +kernel
theorem dX5_fits_162 : decode cX5_fits 162 = .ok (.ireturn, 1) := by decide +kernel
set_option maxRecDepth 20000 in
theorem ggX5_look_X5_fits : GoodIn wsX5_look wsX5_fits := goodIn_r _ [8, 3, 9, 10, 11, 12, 13, 14, 15, 7, 16, 17, 18, 19, 20, 21, 22, 23, 24, 25, 26, 27, 28, 29, 30, 31, 32, 33, 34, 35, 36, 37, 38, 39, 40, 41, 42, 43, 44] (by decide +kernel) (by decide +kernel)
set_option maxRecDepth 20000 in
theorem gX5_look_X5_fits : GoodIn wsX5_look (wsV RX5 126 RX5 yX5_fits wsX5_fits) := goodIn_app (goodIn_of _ (by decide +kernel)) ggX5_look_X5_fits
theorem dX5_look_0 : decode cX5_look 0 = .ok (.iconst 0, 1) := by decide +kernel
theorem dX5_look_1 : decode cX5_look 1 = .ok (.istore 4, 2) := by decide +kernel
theorem dX5_look_3 : decode cX5_look 3 = .ok (.iconst 0, 1) := by decide +kernel
theorem dX5_look_4 : decode cX5_look 4 = .ok (.istore 5, 2) := by decide +kernel
theorem dX5_look_6 : decode cX5_look 6 = .ok (.iload 4, 2) := by decide +kernel
theorem dX5_look_8 : decode cX5_look 8 = .ok (.ifCond .lt 110, 3) := by decide +kernel
theorem dX5_look_11 : decode cX5_look 11 = .ok (.iload 4, 2) := by decide +kernel
theorem dX5_look_13 : decode cX5_look 13 = .ok (.aload_n 0, 1) := by decide +kernel
theorem dX5_look_14 : decode cX5_look 14 = .ok (.getfield 102, 3) := by decide +kernel
theorem dX5_look_17 : decode cX5_look 17 = .ok (.if_icmp .ge 101, 3) := by decide +kernel
theorem dX5_look_20 : decode cX5_look 20 = .ok (.iconst 0, 1) := by decide +kernel
theorem dX5_look_21 : decode cX5_look 21 = .ok (.istore 6, 2) := by decide +kernel
theorem dX5_look_23 : decode cX5_look 23 = .ok (.iload 5, 2) := by decide +kernel
theorem dX5_look_25 : decode cX5_look 25 = .ok (.iload_n 1, 1) := by decide +kernel
theorem dX5_look_26 : decode cX5_look 26 = .ok (.if_icmp .ge 52, 3) := by decide +kernel
theorem dX5_look_29 : decode cX5_look 29 = .ok (.iload 6, 2) := by decide +kernel
theorem dX5_look_31 : decode cX5_look 31 = .ok (.ifCond .ne 47, 3) := by decide +kernel
theorem dX5_look_34 : decode cX5_look 34 = .ok (.aload_n 0, 1) := by decide +kernel
theorem dX5_look_35 : decode cX5_look 35 = .ok (.getfield 75, 3) := by decide +kernel
theorem dX5_look_38 : decode cX5_look 38 = .ok (.iload_n 3, 1) := by decide +kernel
theorem dX5_look_39 : decode cX5_look 39 = .ok (.if_icmp .ne 5, 3) := by decide +kernel
theorem dX5_look_42 : decode cX5_look 42 = .ok (.iconst 2, 1) := by decide +kernel
theorem dX5_look_43 : decode cX5_look 43 = .ok (.ireturn, 1) := by decide +kernel
theorem dX5_look_44 : decode cX5_look 44 = .ok (.aload_n 0, 1) := by decide +kernel
theorem dX5_look_45 : decode cX5_look 45 = .ok (.dup, 1) := by decide +kernel
theorem dX5_look_46 : decode cX5_look 46 = .ok (.getfield 75, 3) := by decide +kernel
theorem dX5_look_49 : decode cX5_look 49 = .ok (.iconst 1, 1) := by decide +kernel
theorem dX5_look_50 : decode cX5_look 50 = .ok (.iadd, 1) := by decide +kernel
theorem dX5_look_51 : decode cX5_look 51 = .ok (.putfield 75, 3) := by decide +kernel
theorem dX5_look_54 : decode cX5_look 54 = .ok (.aload_n 0, 1) := by decide +kernel
theorem dX5_look_55 : decode cX5_look 55 = .ok (.getfield 52, 3) := by decide +kernel
theorem dX5_look_58 : decode cX5_look 58 = .ok (.iload 4, 2) := by decide +kernel
theorem dX5_look_60 : decode cX5_look 60 = .ok (.iload 5, 2) := by decide +kernel
theorem dX5_look_62 : decode cX5_look 62 = .ok (.iastore, 1) := by decide +kernel
theorem dX5_look_63 : decode cX5_look 63 = .ok (.aload_n 0, 1) := by decide +kernel
theorem dX5_look_64 : decode cX5_look 64 = .ok (.iload 4, 2) := by decide +kernel
theorem dX5_look_66 : decode cX5_look 66 = .ok (.iload_n 2, 1) := by decide +kernel
theorem dX5_look_67 : decode cX5_look 67 = .ok (.invokevirtual 126, 3) := by decide +kernel
theorem dX5_look_70 : decode cX5_look 70 = .ok (.istore 6, 2) := by decide +kernel
theorem dX5_look_72 : decode cX5_look 72 = .ok (.iinc 5 1, 3) := by decide +kernel
theorem dX5_look_75 : decode cX5_look 75 = .ok (.goto (-52), 3) := by decide +kernel
theorem dX5_look_78 : decode cX5_look 78 = .ok (.iload 6, 2) := by decide +kernel
theorem dX5_look_80 : decode cX5_look 80 = .ok (.ifCond .eq 12, 3) := by decide +kernel
theorem dX5_look_83 : decode cX5_look 83 = .ok (.iinc 4 1, 3) := by decide +kernel
theorem dX5_look_86 : decode cX5_look 86 = .ok (.iconst 0, 1) := by decide +kernel
theorem dX5_look_87 : decode cX5_look 87 = .ok (.istore 5, 2) := by decide +kernel
theorem dX5_look_89 : decode cX5_look 89 = .ok (.goto 26, 3) := by decide +kernel
theorem dX5_look_92 : decode cX5_look 92 = .ok (.iinc 4 (-1), 3) := by decide +kernel
theorem dX5_look_95 : decode cX5_look 95 = .ok (.iload 4, 2) := by decide +kernel
theorem dX5_look_97 : decode cX5_look 97 = .ok (.ifCond .ge 7, 3) := by decide +kernel
theorem dX5_look_100 : decode cX5_look 100 = .ok (.iconst 0, 1) := by decide +kernel
theorem dX5_look_101 : decode cX5_look 101 = .ok (.goto 12, 3) := by decide +kernel
theorem dX5_look_104 : decode cX5_look 104 = .ok (.aload_n 0, 1) := by decide +kernel
theorem dX5_look_105 : decode cX5_look 105 = .ok (.getfield 52, 3) := by decide +kernel
theorem dX5_look_108 : decode cX5_look 108 = .ok (.iload 4, 2) := by decide +kernel
theorem dX5_look_110 : decode cX5_look 110 = .ok (.iaload, 1) := by decide +kernel
theorem dX5_look_111 : decode cX5_look 111 = .ok (.iconst 1, 1) := by decide +kernel
theorem dX5_look_112 : decode cX5_look 112 = .ok (.iadd, 1) := by decide +kernel
theorem dX5_look_113 : decode cX5_look 113 = .ok (.istore 5, 2) := by decide +kernel
theorem dX5_look_115 : decode cX5_look 115 = .ok (.goto (-109), 3) := by decide +kernel
theorem dX5_look_118 : decode cX5_look 118 = .ok (.iload 4, 2) := by decide +kernel
theorem dX5_look_120 : decode cX5_look 120 = .ok (.ifCond .ge 7, 3) := by decide +kernel
theorem dX5_look_123 : decode cX5_look 123 = .ok (.iconst 1, 1) := by decide +kernel
theorem dX5_look_124 : decode cX5_look 124 = .ok (.goto 4, 3) := by decide +kernel
theorem dX5_look_127 : decode cX5_look 127 = .ok (.iconst 0, 1) := by decide +kernel
theorem dX5_look_128 : decode cX5_look 128 = .ok (.ireturn, 1) := by decide +kernel
set_option maxRecDepth 20000 in
theorem ggX5_run_X5_isIn : GoodIn wsX5_run wsX5_isIn := goodIn_r _ [12] (by decide +kernel) (by decide +kernel)
set_option maxRecDepth 20000 in
theorem gX5_run_X5_isIn : GoodIn wsX5_run (va_wsS RX5 67 yX5_isIn wsX5_isIn) := goodIn_app (goodIn_of _ (by decide +kernel)) ggX5_run_X5_isIn
set_option maxRecDepth 20000 in
theorem ggX5_run_X5_findParts : GoodIn wsX5_run wsX5_findParts := goodIn_r _ [16, 7, 17, 18, 19, 20, 21, 22, 23, 24, 25, 26, 11, 27, 28, 29, 30, 31, 32, 33, 34, 35, 36, 37, 38, 39, 62, 63, 64, 65, 66, 67, 68, 69, 70, 71, 72, 73, 74, 75, 76, 77, 78, 79, 80, 81, 82, 83] (by decide +kernel) (by decide +kernel)
set_option maxRecDepth 20000 in
theorem gX5_run_X5_findParts : GoodIn wsX5_run (wsV RX5 112 RX5 yX5_findParts wsX5_findParts) := goodIn_app (goodIn_of _ (by decide +kernel)) ggX5_run_X5_findParts
set_option maxRecDepth 20000 in
theorem ggX5_run_X5_stitches : GoodIn wsX5_run wsX5_stitches := goodIn_r _ [43, 7, 21, 62, 63, 64, 65, 66, 67, 68, 69, 70, 71, 72, 73, 74, 75, 76, 77, 78, 79, 80, 81, 82, 83] (by decide +kernel) (by decide +kernel)
set_option maxRecDepth 20000 in
theorem gX5_run_X5_stitches : GoodIn wsX5_run (wsV RX5 135 RX5 yX5_stitches wsX5_stitches) := goodIn_app (goodIn_of _ (by decide +kernel)) ggX5_run_X5_stitches
set_option maxRecDepth 20000 in
theorem ggX5_run_X5_look : GoodIn wsX5_run wsX5_look := goodIn_r _ [47, 7, 5, 48, 49, 50, 51, 11, 52, 17, 18, 23, 53, 54, 55, 56, 57, 21, 58, 59, 60, 61, 22, 62, 63, 64, 65, 66, 67, 68, 69, 70, 71, 72, 73, 74, 75, 76, 77, 78, 79, 80, 81, 82, 83] (by decide +kernel) (by decide +kernel)
set_option maxRecDepth 20000 in
theorem gX5_run_X5_look : GoodIn wsX5_run (wsV RX5 138 RX5 yX5_look wsX5_look) := goodIn_app (goodIn_of _ (by decide +kernel)) ggX5_run_X5_look
set_option maxRecDepth 20000 in
theorem ggX5_run_X5_usedUpTo : GoodIn wsX5_run wsX5_usedUpTo := goodIn_r _ [57, 21, 48, 62, 63, 64, 65, 66, 67, 68, 69, 70, 71, 72, 73, 74, 75, 76, 77, 78, 79, 80, 81, 82, 83] (by decide +kernel) (by decide +kernel)
set_option maxRecDepth 20000 in
theorem gX5_run_X5_usedUpTo : GoodIn wsX5_run (wsV RX5 122 RX5 yX5_usedUpTo wsX5_usedUpTo) := goodIn_app (goodIn_of _ (by decide +kernel)) ggX5_run_X5_usedUpTo
theorem dX5_run_0 : decode cX5_run 0 = .ok (.aload_n 0, 1) := by decide +kernel
theorem dX5_run_1 : decode cX5_run 1 = .ok (.iload_n 1, 1) := by decide +kernel
theorem dX5_run_2 : decode cX5_run 2 = .ok (.i2l, 1) := by decide +kernel
theorem dX5_run_3 : decode cX5_run 3 = .ok (.ldc2_w 129, 3) := by decide +kernel
theorem dX5_run_6 : decode cX5_run 6 = .ok (.ldc2_w 131, 3) := by decide +kernel
theorem dX5_run_9 : decode cX5_run 9 = .ok (.invokestatic 67, 3) := by decide +kernel
theorem dX5_run_12 : decode cX5_run 12 = .ok (.ifCond .eq 19, 3) := by decide +kernel
theorem dX5_run_15 : decode cX5_run 15 = .ok (.iload_n 2, 1) := by decide +kernel
theorem dX5_run_16 : decode cX5_run 16 = .ok (.i2l, 1) := by decide +kernel
theorem dX5_run_17 : decode cX5_run 17 = .ok (.lconst 0, 1) := by decide +kernel
theorem dX5_run_18 : decode cX5_run 18 = .ok (.ldc2_w 133, 3) := by decide +kernel
theorem dX5_run_21 : decode cX5_run 21 = .ok (.invokestatic 67, 3) := by decide +kernel
theorem dX5_run_24 : decode cX5_run 24 = .ok (.ifCond .eq 7, 3) := by decide +kernel
theorem dX5_run_27 : decode cX5_run 27 = .ok (.iconst 0, 1) := by decide +kernel
theorem dX5_run_28 : decode cX5_run 28 = .ok (.goto 4, 3) := by decide +kernel
theorem dX5_run_31 : decode cX5_run 31 = .ok (.iconst 1, 1) := by decide +kernel
theorem dX5_run_32 : decode cX5_run 32 = .ok (.putfield 61, 3) := by decide +kernel
theorem dX5_run_35 : decode cX5_run 35 = .ok (.aload_n 0, 1) := by decide +kernel
theorem dX5_run_36 : decode cX5_run 36 = .ok (.getfield 61, 3) := by decide +kernel
theorem dX5_run_39 : decode cX5_run 39 = .ok (.ifCond .le 5, 3) := by decide +kernel
theorem dX5_run_42 : decode cX5_run 42 = .ok (.iconst 0, 1) := by decide +kernel
theorem dX5_run_43 : decode cX5_run 43 = .ok (.ireturn, 1) := by decide +kernel
theorem dX5_run_44 : decode cX5_run 44 = .ok (.aload_n 0, 1) := by decide +kernel
theorem dX5_run_45 : decode cX5_run 45 = .ok (.invokevirtual 112, 3) := by decide +kernel
theorem dX5_run_48 : decode cX5_run 48 = .ok (.aload_n 0, 1) := by decide +kernel
theorem dX5_run_49 : decode cX5_run 49 = .ok (.iconst 0, 1) := by decide +kernel
theorem dX5_run_50 : decode cX5_run 50 = .ok (.putfield 75, 3) := by decide +kernel
theorem dX5_run_53 : decode cX5_run 53 = .ok (.aload_n 0, 1) := by decide +kernel
theorem dX5_run_54 : decode cX5_run 54 = .ok (.iconst 1, 1) := by decide +kernel
theorem dX5_run_55 : decode cX5_run 55 = .ok (.putfield 49, 3) := by decide +kernel
theorem dX5_run_58 : decode cX5_run 58 = .ok (.aload_n 0, 1) := by decide +kernel
theorem dX5_run_59 : decode cX5_run 59 = .ok (.invokevirtual 135, 3) := by decide +kernel
theorem dX5_run_62 : decode cX5_run 62 = .ok (.istore_n 3, 1) := by decide +kernel
theorem dX5_run_63 : decode cX5_run 63 = .ok (.iconst 0, 1) := by decide +kernel
theorem dX5_run_64 : decode cX5_run 64 = .ok (.istore 4, 2) := by decide +kernel
theorem dX5_run_66 : decode cX5_run 66 = .ok (.iload 4, 2) := by decide +kernel
theorem dX5_run_68 : decode cX5_run 68 = .ok (.iload_n 3, 1) := by decide +kernel
theorem dX5_run_69 : decode cX5_run 69 = .ok (.if_icmp .gt 29, 3) := by decide +kernel
theorem dX5_run_72 : decode cX5_run 72 = .ok (.aload_n 0, 1) := by decide +kernel
theorem dX5_run_73 : decode cX5_run 73 = .ok (.getfield 49, 3) := by decide +kernel
theorem dX5_run_76 : decode cX5_run 76 = .ok (.iconst 1, 1) := by decide +kernel
theorem dX5_run_77 : decode cX5_run 77 = .ok (.if_icmp .ne 21, 3) := by decide +kernel
theorem dX5_run_80 : decode cX5_run 80 = .ok (.aload_n 0, 1) := by decide +kernel
theorem dX5_run_81 : decode cX5_run 81 = .ok (.aload_n 0, 1) := by decide +kernel
theorem dX5_run_82 : decode cX5_run 82 = .ok (.iload_n 1, 1) := by decide +kernel
theorem dX5_run_83 : decode cX5_run 83 = .ok (.iload 4, 2) := by decide +kernel
theorem dX5_run_85 : decode cX5_run 85 = .ok (.iload_n 2, 1) := by decide +kernel
theorem dX5_run_86 : decode cX5_run 86 = .ok (.invokevirtual 138, 3) := by decide +kernel
theorem dX5_run_89 : decode cX5_run 89 = .ok (.putfield 49, 3) := by decide +kernel
theorem dX5_run_92 : decode cX5_run 92 = .ok (.iinc 4 1, 3) := by decide +kernel
theorem dX5_run_95 : decode cX5_run 95 = .ok (.goto (-29), 3) := by decide +kernel
theorem dX5_run_98 : decode cX5_run 98 = .ok (.aload_n 0, 1) := by decide +kernel
theorem dX5_run_99 : decode cX5_run 99 = .ok (.aload_n 0, 1) := by decide +kernel
theorem dX5_run_100 : decode cX5_run 100 = .ok (.getfield 49, 3) := by decide +kernel
theorem dX5_run_103 : decode cX5_run 103 = .ok (.ifCond .ne 16, 3) := by decide +kernel
theorem dX5_run_106 : decode cX5_run 106 = .ok (.aload_n 0, 1) := by decide +kernel
theorem dX5_run_107 : decode cX5_run 107 = .ok (.aload_n 0, 1) := by decide +kernel
theorem dX5_run_108 : decode cX5_run 108 = .ok (.getfield 102, 3) := by decide +kernel
theorem dX5_run_111 : decode cX5_run 111 = .ok (.iconst 1, 1) := by decide +kernel
theorem dX5_run_112 : decode cX5_run 112 = .ok (.isub, 1) := by decide +kernel
theorem dX5_run_113 : decode cX5_run 113 = .ok (.invokevirtual 122, 3) := by decide +kernel
theorem dX5_run_116 : decode cX5_run 116 = .ok (.goto 4, 3) := by decide +kernel
theorem dX5_run_119 : decode cX5_run 119 = .ok (.iconst (-1), 1) := by decide +kernel
theorem dX5_run_120 : decode cX5_run 120 = .ok (.putfield 142, 3) := by decide +kernel
theorem dX5_run_123 : decode cX5_run 123 = .ok (.aload_n 0, 1) := by decide +kernel
theorem dX5_run_124 : decode cX5_run 124 = .ok (.getfield 49, 3) := by decide +kernel
theorem dX5_run_127 : decode cX5_run 127 = .ok (.ireturn, 1) := by decide +kernel
set_option maxRecDepth 20000 in
theorem ggX5_colour_X5_isBox : GoodIn wsX5_colour wsX5_isBox := goodIn_r _ [9, 10, 11, 12, 13, 8, 14, 15, 16, 17, 18, 44, 45, 46, 47, 48, 49, 50, 51, 52, 53, 54, 55, 56, 57, 58, 59, 60, 61, 62, 63, 64, 65] (by decide +kernel) (by decide +kernel)
set_option maxRecDepth 20000 in
theorem gX5_colour_X5_isBox : GoodIn wsX5_colour (wsV RX5 90 RX5 yX5_isBox wsX5_isBox) := goodIn_app (goodIn_of _ (by decide +kernel)) ggX5_colour_X5_isBox
set_option maxRecDepth 20000 in
theorem ggX5_colour_X5_findParts : GoodIn wsX5_colour wsX5_findParts := goodIn_r _ [22, 23, 15, 10, 24, 25, 26, 27, 4, 28, 29, 30, 8, 31, 32, 33, 34, 35, 36, 37, 38, 39, 40, 41, 42, 43, 44, 45, 46, 47, 48, 49, 50, 51, 52, 53, 54, 55, 56, 57, 58, 59, 60, 61, 62, 63, 64, 65] (by decide +kernel) (by decide +kernel)
set_option maxRecDepth 20000 in
theorem gX5_colour_X5_findParts : GoodIn wsX5_colour (wsV RX5 112 RX5 yX5_findParts wsX5_findParts) := goodIn_app (goodIn_of _ (by decide +kernel)) ggX5_colour_X5_findParts
theorem dX5_colour_0 : decode cX5_colour 0 = .ok (.aload_n 0, 1) := by decide +kernel
theorem dX5_colour_1 : decode cX5_colour 1 = .ok (.aload_n 0, 1) := by decide +kernel
theorem dX5_colour_2 : decode cX5_colour 2 = .ok (.iload_n 1, 1) := by decide +kernel
theorem dX5_colour_3 : decode cX5_colour 3 = .ok (.iload_n 2, 1) := by decide +kernel
theorem dX5_colour_4 : decode cX5_colour 4 = .ok (.invokevirtual 90, 3) := by decide +kernel
theorem dX5_colour_7 : decode cX5_colour 7 = .ok (.ifCond .eq 7, 3) := by decide +kernel
theorem dX5_colour_10 : decode cX5_colour 10 = .ok (.iconst 0, 1) := by decide +kernel
theorem dX5_colour_11 : decode cX5_colour 11 = .ok (.goto 4, 3) := by decide +kernel
theorem dX5_colour_14 : decode cX5_colour 14 = .ok (.iconst 1, 1) := by decide +kernel
theorem dX5_colour_15 : decode cX5_colour 15 = .ok (.putfield 61, 3) := by decide +kernel
theorem dX5_colour_18 : decode cX5_colour 18 = .ok (.aload_n 0, 1) := by decide +kernel
theorem dX5_colour_19 : decode cX5_colour 19 = .ok (.getfield 61, 3) := by decide +kernel
theorem dX5_colour_22 : decode cX5_colour 22 = .ok (.ifCond .le 5, 3) := by decide +kernel
theorem dX5_colour_25 : decode cX5_colour 25 = .ok (.iconst 0, 1) := by decide +kernel
theorem dX5_colour_26 : decode cX5_colour 26 = .ok (.ireturn, 1) := by decide +kernel
theorem dX5_colour_27 : decode cX5_colour 27 = .ok (.aload_n 0, 1) := by decide +kernel
theorem dX5_colour_28 : decode cX5_colour 28 = .ok (.invokevirtual 112, 3) := by decide +kernel
theorem dX5_colour_31 : decode cX5_colour 31 = .ok (.aload_n 0, 1) := by decide +kernel
theorem dX5_colour_32 : decode cX5_colour 32 = .ok (.getfield 49, 3) := by decide +kernel
theorem dX5_colour_35 : decode cX5_colour 35 = .ok (.ifCond .ne 21, 3) := by decide +kernel
theorem dX5_colour_38 : decode cX5_colour 38 = .ok (.aload_n 0, 1) := by decide +kernel
theorem dX5_colour_39 : decode cX5_colour 39 = .ok (.getfield 52, 3) := by decide +kernel
theorem dX5_colour_42 : decode cX5_colour 42 = .ok (.aload_n 0, 1) := by decide +kernel
theorem dX5_colour_43 : decode cX5_colour 43 = .ok (.getfield 36, 3) := by decide +kernel
theorem dX5_colour_46 : decode cX5_colour 46 = .ok (.iconst 4, 1) := by decide +kernel
theorem dX5_colour_47 : decode cX5_colour 47 = .ok (.iload_n 1, 1) := by decide +kernel
theorem dX5_colour_48 : decode cX5_colour 48 = .ok (.imul, 1) := by decide +kernel
theorem dX5_colour_49 : decode cX5_colour 49 = .ok (.iload_n 2, 1) := by decide +kernel
theorem dX5_colour_50 : decode cX5_colour 50 = .ok (.iadd, 1) := by decide +kernel
theorem dX5_colour_51 : decode cX5_colour 51 = .ok (.iaload, 1) := by decide +kernel
theorem dX5_colour_52 : decode cX5_colour 52 = .ok (.iaload, 1) := by decide +kernel
theorem dX5_colour_53 : decode cX5_colour 53 = .ok (.goto 4, 3) := by decide +kernel
theorem dX5_colour_56 : decode cX5_colour 56 = .ok (.iconst (-1), 1) := by decide +kernel
theorem dX5_colour_57 : decode cX5_colour 57 = .ok (.ireturn, 1) := by decide +kernel
theorem dX5_used_0 : decode cX5_used 0 = .ok (.aload_n 0, 1) := by decide +kernel
theorem dX5_used_1 : decode cX5_used 1 = .ok (.iconst 0, 1) := by decide +kernel
theorem dX5_used_2 : decode cX5_used 2 = .ok (.putfield 61, 3) := by decide +kernel
theorem dX5_used_5 : decode cX5_used 5 = .ok (.aload_n 0, 1) := by decide +kernel
theorem dX5_used_6 : decode cX5_used 6 = .ok (.getfield 49, 3) := by decide +kernel
theorem dX5_used_9 : decode cX5_used 9 = .ok (.ifCond .ne 10, 3) := by decide +kernel
theorem dX5_used_12 : decode cX5_used 12 = .ok (.aload_n 0, 1) := by decide +kernel
theorem dX5_used_13 : decode cX5_used 13 = .ok (.getfield 142, 3) := by decide +kernel
theorem dX5_used_16 : decode cX5_used 16 = .ok (.goto 4, 3) := by decide +kernel
theorem dX5_used_19 : decode cX5_used 19 = .ok (.iconst (-1), 1) := by decide +kernel
theorem dX5_used_20 : decode cX5_used 20 = .ok (.ireturn, 1) := by decide +kernel
theorem dX5_steps_0 : decode cX5_steps 0 = .ok (.aload_n 0, 1) := by decide +kernel
theorem dX5_steps_1 : decode cX5_steps 1 = .ok (.iconst 0, 1) := by decide +kernel
theorem dX5_steps_2 : decode cX5_steps 2 = .ok (.putfield 61, 3) := by decide +kernel
theorem dX5_steps_5 : decode cX5_steps 5 = .ok (.aload_n 0, 1) := by decide +kernel
theorem dX5_steps_6 : decode cX5_steps 6 = .ok (.getfield 75, 3) := by decide +kernel
theorem dX5_steps_9 : decode cX5_steps 9 = .ok (.ireturn, 1) := by decide +kernel
set_option maxRecDepth 20000 in
theorem ggX5_area_X5_isIn : GoodIn wsX5_area wsX5_isIn := goodIn_r _ [15] (by decide +kernel) (by decide +kernel)
set_option maxRecDepth 20000 in
theorem gX5_area_X5_isIn : GoodIn wsX5_area (va_wsS RX5 67 yX5_isIn wsX5_isIn) := goodIn_app (goodIn_of _ (by decide +kernel)) ggX5_area_X5_isIn
set_option maxRecDepth 20000 in
theorem ggX5_area_X5_findParts : GoodIn wsX5_area wsX5_findParts := goodIn_r _ [19, 20, 3, 5, 21, 22, 23, 24, 7, 25, 26, 27, 14, 28, 29, 30, 31, 32, 9, 8, 11, 10, 33, 34, 35, 36, 37, 38, 39, 40, 41, 42, 43, 44, 45, 46, 47, 48, 49, 50, 51, 52, 53, 54, 55, 56, 57, 58] (by decide +kernel) (by decide +kernel)
set_option maxRecDepth 20000 in
theorem gX5_area_X5_findParts : GoodIn wsX5_area (wsV RX5 112 RX5 yX5_findParts wsX5_findParts) := goodIn_app (goodIn_of _ (by decide +kernel)) ggX5_area_X5_findParts
theorem dX5_area_0 : decode cX5_area 0 = .ok (.aload_n 0, 1) := by decide +kernel
theorem dX5_area_1 : decode cX5_area 1 = .ok (.iload_n 1, 1) := by decide +kernel
theorem dX5_area_2 : decode cX5_area 2 = .ok (.i2l, 1) := by decide +kernel
theorem dX5_area_3 : decode cX5_area 3 = .ok (.lconst 0, 1) := by decide +kernel
theorem dX5_area_4 : decode cX5_area 4 = .ok (.ldc2_w 96, 3) := by decide +kernel
theorem dX5_area_7 : decode cX5_area 7 = .ok (.invokestatic 67, 3) := by decide +kernel
theorem dX5_area_10 : decode cX5_area 10 = .ok (.ifCond .eq 7, 3) := by decide +kernel
theorem dX5_area_13 : decode cX5_area 13 = .ok (.iconst 0, 1) := by decide +kernel
theorem dX5_area_14 : decode cX5_area 14 = .ok (.goto 4, 3) := by decide +kernel
theorem dX5_area_17 : decode cX5_area 17 = .ok (.iconst 1, 1) := by decide +kernel
theorem dX5_area_18 : decode cX5_area 18 = .ok (.putfield 61, 3) := by decide +kernel
theorem dX5_area_21 : decode cX5_area 21 = .ok (.lconst 0, 1) := by decide +kernel
theorem dX5_area_22 : decode cX5_area 22 = .ok (.lstore_n 2, 1) := by decide +kernel
theorem dX5_area_23 : decode cX5_area 23 = .ok (.aload_n 0, 1) := by decide +kernel
theorem dX5_area_24 : decode cX5_area 24 = .ok (.invokevirtual 112, 3) := by decide +kernel
theorem dX5_area_27 : decode cX5_area 27 = .ok (.iconst 0, 1) := by decide +kernel
theorem dX5_area_28 : decode cX5_area 28 = .ok (.istore 4, 2) := by decide +kernel
theorem dX5_area_30 : decode cX5_area 30 = .ok (.iload 4, 2) := by decide +kernel
theorem dX5_area_32 : decode cX5_area 32 = .ok (.aload_n 0, 1) := by decide +kernel
theorem dX5_area_33 : decode cX5_area 33 = .ok (.getfield 64, 3) := by decide +kernel
theorem dX5_area_36 : decode cX5_area 36 = .ok (.if_icmp .ge 109, 3) := by decide +kernel
theorem dX5_area_39 : decode cX5_area 39 = .ok (.aload_n 0, 1) := by decide +kernel
theorem dX5_area_40 : decode cX5_area 40 = .ok (.getfield 61, 3) := by decide +kernel
theorem dX5_area_43 : decode cX5_area 43 = .ok (.ifCond .ne 102, 3) := by decide +kernel
theorem dX5_area_46 : decode cX5_area 46 = .ok (.aload_n 0, 1) := by decide +kernel
theorem dX5_area_47 : decode cX5_area 47 = .ok (.getfield 49, 3) := by decide +kernel
theorem dX5_area_50 : decode cX5_area 50 = .ok (.ifCond .ne 95, 3) := by decide +kernel
theorem dX5_area_53 : decode cX5_area 53 = .ok (.iconst 0, 1) := by decide +kernel
theorem dX5_area_54 : decode cX5_area 54 = .ok (.istore 5, 2) := by decide +kernel
theorem dX5_area_56 : decode cX5_area 56 = .ok (.iload 5, 2) := by decide +kernel
theorem dX5_area_58 : decode cX5_area 58 = .ok (.aload_n 0, 1) := by decide +kernel
theorem dX5_area_59 : decode cX5_area 59 = .ok (.getfield 13, 3) := by decide +kernel
theorem dX5_area_62 : decode cX5_area 62 = .ok (.iload 4, 2) := by decide +kernel
theorem dX5_area_64 : decode cX5_area 64 = .ok (.iaload, 1) := by decide +kernel
theorem dX5_area_65 : decode cX5_area 65 = .ok (.if_icmp .ge 74, 3) := by decide +kernel
theorem dX5_area_68 : decode cX5_area 68 = .ok (.iconst 4, 1) := by decide +kernel
theorem dX5_area_69 : decode cX5_area 69 = .ok (.iload 4, 2) := by decide +kernel
theorem dX5_area_71 : decode cX5_area 71 = .ok (.imul, 1) := by decide +kernel
theorem dX5_area_72 : decode cX5_area 72 = .ok (.iload 5, 2) := by decide +kernel
theorem dX5_area_74 : decode cX5_area 74 = .ok (.iadd, 1) := by decide +kernel
theorem dX5_area_75 : decode cX5_area 75 = .ok (.istore 6, 2) := by decide +kernel
theorem dX5_area_77 : decode cX5_area 77 = .ok (.lload_n 2, 1) := by decide +kernel
theorem dX5_area_78 : decode cX5_area 78 = .ok (.aload_n 0, 1) := by decide +kernel
theorem dX5_area_79 : decode cX5_area 79 = .ok (.getfield 52, 3) := by decide +kernel
theorem dX5_area_82 : decode cX5_area 82 = .ok (.aload_n 0, 1) := by decide +kernel
theorem dX5_area_83 : decode cX5_area 83 = .ok (.getfield 36, 3) := by decide +kernel
theorem dX5_area_86 : decode cX5_area 86 = .ok (.iload 6, 2) := by decide +kernel
theorem dX5_area_88 : decode cX5_area 88 = .ok (.iaload, 1) := by decide +kernel
theorem dX5_area_89 : decode cX5_area 89 = .ok (.iaload, 1) := by decide +kernel
theorem dX5_area_90 : decode cX5_area 90 = .ok (.iload_n 1, 1) := by decide +kernel
theorem dX5_area_91 : decode cX5_area 91 = .ok (.if_icmp .ne 39, 3) := by decide +kernel
theorem dX5_area_94 : decode cX5_area 94 = .ok (.aload_n 0, 1) := by decide +kernel
theorem dX5_area_95 : decode cX5_area 95 = .ok (.getfield 23, 3) := by decide +kernel
theorem dX5_area_98 : decode cX5_area 98 = .ok (.iload 6, 2) := by decide +kernel
theorem dX5_area_100 : decode cX5_area 100 = .ok (.iaload, 1) := by decide +kernel
theorem dX5_area_101 : decode cX5_area 101 = .ok (.aload_n 0, 1) := by decide +kernel
theorem dX5_area_102 : decode cX5_area 102 = .ok (.getfield 17, 3) := by decide +kernel
theorem dX5_area_105 : decode cX5_area 105 = .ok (.iload 6, 2) := by decide +kernel
theorem dX5_area_107 : decode cX5_area 107 = .ok (.iaload, 1) := by decide +kernel
theorem dX5_area_108 : decode cX5_area 108 = .ok (.isub, 1) := by decide +kernel
theorem dX5_area_109 : decode cX5_area 109 = .ok (.i2l, 1) := by decide +kernel
theorem dX5_area_110 : decode cX5_area 110 = .ok (.aload_n 0, 1) := by decide +kernel
theorem dX5_area_111 : decode cX5_area 111 = .ok (.getfield 26, 3) := by decide +kernel
theorem dX5_area_114 : decode cX5_area 114 = .ok (.iload 6, 2) := by decide +kernel
theorem dX5_area_116 : decode cX5_area 116 = .ok (.iaload, 1) := by decide +kernel
theorem dX5_area_117 : decode cX5_area 117 = .ok (.aload_n 0, 1) := by decide +kernel
theorem dX5_area_118 : decode cX5_area 118 = .ok (.getfield 20, 3) := by decide +kernel
theorem dX5_area_121 : decode cX5_area 121 = .ok (.iload 6, 2) := by decide +kernel
theorem dX5_area_123 : decode cX5_area 123 = .ok (.iaload, 1) := by decide +kernel
theorem dX5_area_124 : decode cX5_area 124 = .ok (.isub, 1) := by decide +kernel
theorem dX5_area_125 : decode cX5_area 125 = .ok (.i2l, 1) := by decide +kernel
theorem dX5_area_126 : decode cX5_area 126 = .ok (.lmul, 1) := by decide +kernel
theorem dX5_area_127 : decode cX5_area 127 = .ok (.goto 4, 3) := by decide +kernel
theorem dX5_area_130 : decode cX5_area 130 = .ok (.lconst 0, 1) := by decide +kernel
theorem dX5_area_131 : decode cX5_area 131 = .ok (.ladd, 1) := by decide +kernel
theorem dX5_area_132 : decode cX5_area 132 = .ok (.lstore_n 2, 1) := by decide +kernel
theorem dX5_area_133 : decode cX5_area 133 = .ok (.iinc 5 1, 3) := by decide +kernel
theorem dX5_area_136 : decode cX5_area 136 = .ok (.goto (-80), 3) := by decide +kernel
theorem dX5_area_139 : decode cX5_area 139 = .ok (.iinc 4 1, 3) := by decide +kernel
theorem dX5_area_142 : decode cX5_area 142 = .ok (.goto (-112), 3) := by decide +kernel
theorem dX5_area_145 : decode cX5_area 145 = .ok (.lload_n 2, 1) := by decide +kernel
theorem dX5_area_146 : decode cX5_area 146 = .ok (.lreturn, 1) := by decide +kernel
theorem dX5_around_0 : decode cX5_around 0 = .ok (.lconst 0, 1) := by decide +kernel
theorem dX5_around_1 : decode cX5_around 1 = .ok (.lstore_n 3, 1) := by decide +kernel
theorem dX5_around_2 : decode cX5_around 2 = .ok (.iconst 0, 1) := by decide +kernel
theorem dX5_around_3 : decode cX5_around 3 = .ok (.istore 5, 2) := by decide +kernel
theorem dX5_around_5 : decode cX5_around 5 = .ok (.iload 5, 2) := by decide +kernel
theorem dX5_around_7 : decode cX5_around 7 = .ok (.aload_n 0, 1) := by decide +kernel
theorem dX5_around_8 : decode cX5_around 8 = .ok (.getfield 102, 3) := by decide +kernel
theorem dX5_around_11 : decode cX5_around 11 = .ok (.if_icmp .ge 34, 3) := by decide +kernel
theorem dX5_around_14 : decode cX5_around 14 = .ok (.lload_n 3, 1) := by decide +kernel
theorem dX5_around_15 : decode cX5_around 15 = .ok (.lload_n 1, 1) := by decide +kernel
theorem dX5_around_16 : decode cX5_around 16 = .ok (.iload 5, 2) := by decide +kernel
theorem dX5_around_18 : decode cX5_around 18 = .ok (.lshr, 1) := by decide +kernel
theorem dX5_around_19 : decode cX5_around 19 = .ok (.lconst 1, 1) := by decide +kernel
theorem dX5_around_20 : decode cX5_around 20 = .ok (.land, 1) := by decide +kernel
theorem dX5_around_21 : decode cX5_around 21 = .ok (.lconst 1, 1) := by decide +kernel
theorem dX5_around_22 : decode cX5_around 22 = .ok (.lcmp, 1) := by decide +kernel
theorem dX5_around_23 : decode cX5_around 23 = .ok (.ifCond .ne 13, 3) := by decide +kernel
theorem dX5_around_26 : decode cX5_around 26 = .ok (.aload_n 0, 1) := by decide +kernel
theorem dX5_around_27 : decode cX5_around 27 = .ok (.getfield 45, 3) := by decide +kernel
theorem dX5_around_30 : decode cX5_around 30 = .ok (.iload 5, 2) := by decide +kernel
theorem dX5_around_32 : decode cX5_around 32 = .ok (.laload, 1) := by decide +kernel
theorem dX5_around_33 : decode cX5_around 33 = .ok (.goto 4, 3) := by decide +kernel
theorem dX5_around_36 : decode cX5_around 36 = .ok (.lconst 0, 1) := by decide +kernel
theorem dX5_around_37 : decode cX5_around 37 = .ok (.lor, 1) := by decide +kernel
theorem dX5_around_38 : decode cX5_around 38 = .ok (.lstore_n 3, 1) := by decide +kernel
theorem dX5_around_39 : decode cX5_around 39 = .ok (.iinc 5 1, 3) := by decide +kernel
theorem dX5_around_42 : decode cX5_around 42 = .ok (.goto (-37), 3) := by decide +kernel
theorem dX5_around_45 : decode cX5_around 45 = .ok (.lload_n 3, 1) := by decide +kernel
theorem dX5_around_46 : decode cX5_around 46 = .ok (.lreturn, 1) := by decide +kernel
set_option maxRecDepth 20000 in
theorem ggX5_walk_X5_around : GoodIn wsX5_walk wsX5_around := goodIn_r _ [6, 7, 8, 9, 10, 11, 12, 13, 14, 15, 16, 17, 18, 19, 20, 21, 22, 23, 24, 25, 26, 27, 28, 29, 30] (by decide +kernel) (by decide +kernel)
set_option maxRecDepth 20000 in
theorem gX5_walk_X5_around : GoodIn wsX5_walk (wsV RX5 145 RX5 yX5_around wsX5_around) := goodIn_app (goodIn_of _ (by decide +kernel)) ggX5_walk_X5_around
theorem dX5_walk_0 : decode cX5_walk 0 = .ok (.aload_n 0, 1) := by decide +kernel
theorem dX5_walk_1 : decode cX5_walk 1 = .ok (.getfield 58, 3) := by decide +kernel
theorem dX5_walk_4 : decode cX5_walk 4 = .ok (.iconst 0, 1) := by decide +kernel
theorem dX5_walk_5 : decode cX5_walk 5 = .ok (.lconst 1, 1) := by decide +kernel
theorem dX5_walk_6 : decode cX5_walk 6 = .ok (.iload_n 1, 1) := by decide +kernel
theorem dX5_walk_7 : decode cX5_walk 7 = .ok (.lshl, 1) := by decide +kernel
theorem dX5_walk_8 : decode cX5_walk 8 = .ok (.lastore, 1) := by decide +kernel
theorem dX5_walk_9 : decode cX5_walk 9 = .ok (.iconst 1, 1) := by decide +kernel
theorem dX5_walk_10 : decode cX5_walk 10 = .ok (.istore_n 3, 1) := by decide +kernel
theorem dX5_walk_11 : decode cX5_walk 11 = .ok (.iload_n 3, 1) := by decide +kernel
theorem dX5_walk_12 : decode cX5_walk 12 = .ok (.iload_n 2, 1) := by decide +kernel
theorem dX5_walk_13 : decode cX5_walk 13 = .ok (.if_icmp .gt 27, 3) := by decide +kernel
theorem dX5_walk_16 : decode cX5_walk 16 = .ok (.aload_n 0, 1) := by decide +kernel
theorem dX5_walk_17 : decode cX5_walk 17 = .ok (.getfield 58, 3) := by decide +kernel
theorem dX5_walk_20 : decode cX5_walk 20 = .ok (.iload_n 3, 1) := by decide +kernel
theorem dX5_walk_21 : decode cX5_walk 21 = .ok (.aload_n 0, 1) := by decide +kernel
theorem dX5_walk_22 : decode cX5_walk 22 = .ok (.aload_n 0, 1) := by decide +kernel
