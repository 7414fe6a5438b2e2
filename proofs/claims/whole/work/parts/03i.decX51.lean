theorem dX5_isNear_10 : decode cX5_isNear 10 = .ok (.iload_n 1, 1) := by decide +kernel
theorem dX5_isNear_11 : decode cX5_isNear 11 = .ok (.iaload, 1) := by decide +kernel
theorem dX5_isNear_12 : decode cX5_isNear 12 = .ok (.aload_n 0, 1) := by decide +kernel
theorem dX5_isNear_13 : decode cX5_isNear 13 = .ok (.getfield 17, 3) := by decide +kernel
theorem dX5_isNear_16 : decode cX5_isNear 16 = .ok (.iload_n 2, 1) := by decide +kernel
theorem dX5_isNear_17 : decode cX5_isNear 17 = .ok (.iaload, 1) := by decide +kernel
theorem dX5_isNear_18 : decode cX5_isNear 18 = .ok (.aload_n 0, 1) := by decide +kernel
theorem dX5_isNear_19 : decode cX5_isNear 19 = .ok (.getfield 23, 3) := by decide +kernel
theorem dX5_isNear_22 : decode cX5_isNear 22 = .ok (.iload_n 2, 1) := by decide +kernel
theorem dX5_isNear_23 : decode cX5_isNear 23 = .ok (.iaload, 1) := by decide +kernel
theorem dX5_isNear_24 : decode cX5_isNear 24 = .ok (.invokestatic 98, 3) := by decide +kernel
theorem dX5_isNear_27 : decode cX5_isNear 27 = .ok (.i2l, 1) := by decide +kernel
theorem dX5_isNear_28 : decode cX5_isNear 28 = .ok (.lstore_n 3, 1) := by decide +kernel
theorem dX5_isNear_29 : decode cX5_isNear 29 = .ok (.aload_n 0, 1) := by decide +kernel
theorem dX5_isNear_30 : decode cX5_isNear 30 = .ok (.getfield 20, 3) := by decide +kernel
theorem dX5_isNear_33 : decode cX5_isNear 33 = .ok (.iload_n 1, 1) := by decide +kernel
theorem dX5_isNear_34 : decode cX5_isNear 34 = .ok (.iaload, 1) := by decide +kernel
theorem dX5_isNear_35 : decode cX5_isNear 35 = .ok (.aload_n 0, 1) := by decide +kernel
theorem dX5_isNear_36 : decode cX5_isNear 36 = .ok (.getfield 26, 3) := by decide +kernel
theorem dX5_isNear_39 : decode cX5_isNear 39 = .ok (.iload_n 1, 1) := by decide +kernel
theorem dX5_isNear_40 : decode cX5_isNear 40 = .ok (.iaload, 1) := by decide +kernel
theorem dX5_isNear_41 : decode cX5_isNear 41 = .ok (.aload_n 0, 1) := by decide +kernel
theorem dX5_isNear_42 : decode cX5_isNear 42 = .ok (.getfield 20, 3) := by decide +kernel
theorem dX5_isNear_45 : decode cX5_isNear 45 = .ok (.iload_n 2, 1) := by decide +kernel
theorem dX5_isNear_46 : decode cX5_isNear 46 = .ok (.iaload, 1) := by decide +kernel
theorem dX5_isNear_47 : decode cX5_isNear 47 = .ok (.aload_n 0, 1) := by decide +kernel
theorem dX5_isNear_48 : decode cX5_isNear 48 = .ok (.getfield 26, 3) := by decide +kernel
theorem dX5_isNear_51 : decode cX5_isNear 51 = .ok (.iload_n 2, 1) := by decide +kernel
theorem dX5_isNear_52 : decode cX5_isNear 52 = .ok (.iaload, 1) := by decide +kernel
theorem dX5_isNear_53 : decode cX5_isNear 53 = .ok (.invokestatic 98, 3) := by decide +kernel
theorem dX5_isNear_56 : decode cX5_isNear 56 = .ok (.i2l, 1) := by decide +kernel
theorem dX5_isNear_57 : decode cX5_isNear 57 = .ok (.lstore 5, 2) := by decide +kernel
theorem dX5_isNear_59 : decode cX5_isNear 59 = .ok (.lload_n 3, 1) := by decide +kernel
theorem dX5_isNear_60 : decode cX5_isNear 60 = .ok (.lload_n 3, 1) := by decide +kernel
theorem dX5_isNear_61 : decode cX5_isNear 61 = .ok (.lmul, 1) := by decide +kernel
theorem dX5_isNear_62 : decode cX5_isNear 62 = .ok (.lload 5, 2) := by decide +kernel
theorem dX5_isNear_64 : decode cX5_isNear 64 = .ok (.lload 5, 2) := by decide +kernel
theorem dX5_isNear_66 : decode cX5_isNear 66 = .ok (.lmul, 1) := by decide +kernel
theorem dX5_isNear_67 : decode cX5_isNear 67 = .ok (.ladd, 1) := by decide +kernel
theorem dX5_isNear_68 : decode cX5_isNear 68 = .ok (.aload_n 0, 1) := by decide +kernel
theorem dX5_isNear_69 : decode cX5_isNear 69 = .ok (.getfield 7, 3) := by decide +kernel
theorem dX5_isNear_72 : decode cX5_isNear 72 = .ok (.i2l, 1) := by decide +kernel
theorem dX5_isNear_73 : decode cX5_isNear 73 = .ok (.aload_n 0, 1) := by decide +kernel
theorem dX5_isNear_74 : decode cX5_isNear 74 = .ok (.getfield 7, 3) := by decide +kernel
theorem dX5_isNear_77 : decode cX5_isNear 77 = .ok (.i2l, 1) := by decide +kernel
theorem dX5_isNear_78 : decode cX5_isNear 78 = .ok (.lmul, 1) := by decide +kernel
theorem dX5_isNear_79 : decode cX5_isNear 79 = .ok (.lcmp, 1) := by decide +kernel
theorem dX5_isNear_80 : decode cX5_isNear 80 = .ok (.ifCond .ge 7, 3) := by decide +kernel
theorem dX5_isNear_83 : decode cX5_isNear 83 = .ok (.iconst 1, 1) := by decide +kernel
theorem dX5_isNear_84 : decode cX5_isNear 84 = .ok (.goto 4, 3) := by decide +kernel
theorem dX5_isNear_87 : decode cX5_isNear 87 = .ok (.iconst 0, 1) := by decide +kernel
theorem dX5_isNear_88 : decode cX5_isNear 88 = .ok (.ireturn, 1) := by decide +kernel
set_option maxRecDepth 20000 in
theorem ggX5_findParts_X5_findNear : GoodIn wsX5_findParts wsX5_findNear := goodIn_r _ [13, 2, 3, 7, 8, 14, 15, 16, 12, 17, 18, 19, 20, 21, 22, 23, 24, 25, 26, 27, 28, 29, 30, 31, 32, 33, 34, 35, 36, 37, 38, 39, 40, 41, 42, 43, 44, 45, 46, 47] (by decide +kernel) (by decide +kernel)
set_option maxRecDepth 20000 in
theorem gX5_findParts_X5_findNear : GoodIn wsX5_findParts (wsV RX5 105 RX5 yX5_findNear wsX5_findNear) := goodIn_app (goodIn_of _ (by decide +kernel)) ggX5_findParts_X5_findNear
theorem dX5_findParts_0 : decode cX5_findParts 0 = .ok (.aload_n 0, 1) := by decide +kernel
theorem dX5_findParts_1 : decode cX5_findParts 1 = .ok (.iconst 0, 1) := by decide +kernel
theorem dX5_findParts_2 : decode cX5_findParts 2 = .ok (.putfield 102, 3) := by decide +kernel
theorem dX5_findParts_5 : decode cX5_findParts 5 = .ok (.iconst 0, 1) := by decide +kernel
theorem dX5_findParts_6 : decode cX5_findParts 6 = .ok (.istore_n 1, 1) := by decide +kernel
theorem dX5_findParts_7 : decode cX5_findParts 7 = .ok (.iload_n 1, 1) := by decide +kernel
theorem dX5_findParts_8 : decode cX5_findParts 8 = .ok (.aload_n 0, 1) := by decide +kernel
theorem dX5_findParts_9 : decode cX5_findParts 9 = .ok (.getfield 64, 3) := by decide +kernel
theorem dX5_findParts_12 : decode cX5_findParts 12 = .ok (.if_icmp .ge 108, 3) := by decide +kernel
theorem dX5_findParts_15 : decode cX5_findParts 15 = .ok (.iconst 0, 1) := by decide +kernel
theorem dX5_findParts_16 : decode cX5_findParts 16 = .ok (.istore_n 2, 1) := by decide +kernel
theorem dX5_findParts_17 : decode cX5_findParts 17 = .ok (.iload_n 2, 1) := by decide +kernel
theorem dX5_findParts_18 : decode cX5_findParts 18 = .ok (.aload_n 0, 1) := by decide +kernel
theorem dX5_findParts_19 : decode cX5_findParts 19 = .ok (.getfield 13, 3) := by decide +kernel
theorem dX5_findParts_22 : decode cX5_findParts 22 = .ok (.iload_n 1, 1) := by decide +kernel
theorem dX5_findParts_23 : decode cX5_findParts 23 = .ok (.iaload, 1) := by decide +kernel
theorem dX5_findParts_24 : decode cX5_findParts 24 = .ok (.if_icmp .ge 90, 3) := by decide +kernel
theorem dX5_findParts_27 : decode cX5_findParts 27 = .ok (.iconst 4, 1) := by decide +kernel
theorem dX5_findParts_28 : decode cX5_findParts 28 = .ok (.iload_n 1, 1) := by decide +kernel
theorem dX5_findParts_29 : decode cX5_findParts 29 = .ok (.imul, 1) := by decide +kernel
theorem dX5_findParts_30 : decode cX5_findParts 30 = .ok (.iload_n 2, 1) := by decide +kernel
theorem dX5_findParts_31 : decode cX5_findParts 31 = .ok (.iadd, 1) := by decide +kernel
theorem dX5_findParts_32 : decode cX5_findParts 32 = .ok (.istore_n 3, 1) := by decide +kernel
theorem dX5_findParts_33 : decode cX5_findParts 33 = .ok (.iload_n 2, 1) := by decide +kernel
theorem dX5_findParts_34 : decode cX5_findParts 34 = .ok (.ifCond .eq 14, 3) := by decide +kernel
theorem dX5_findParts_37 : decode cX5_findParts 37 = .ok (.aload_n 0, 1) := by decide +kernel
theorem dX5_findParts_38 : decode cX5_findParts 38 = .ok (.getfield 29, 3) := by decide +kernel
theorem dX5_findParts_41 : decode cX5_findParts 41 = .ok (.iload_n 3, 1) := by decide +kernel
theorem dX5_findParts_42 : decode cX5_findParts 42 = .ok (.iconst 1, 1) := by decide +kernel
theorem dX5_findParts_43 : decode cX5_findParts 43 = .ok (.isub, 1) := by decide +kernel
theorem dX5_findParts_44 : decode cX5_findParts 44 = .ok (.baload, 1) := by decide +kernel
theorem dX5_findParts_45 : decode cX5_findParts 45 = .ok (.ifCond .eq 51, 3) := by decide +kernel
theorem dX5_findParts_48 : decode cX5_findParts 48 = .ok (.aload_n 0, 1) := by decide +kernel
theorem dX5_findParts_49 : decode cX5_findParts 49 = .ok (.getfield 39, 3) := by decide +kernel
theorem dX5_findParts_52 : decode cX5_findParts 52 = .ok (.aload_n 0, 1) := by decide +kernel
theorem dX5_findParts_53 : decode cX5_findParts 53 = .ok (.getfield 102, 3) := by decide +kernel
theorem dX5_findParts_56 : decode cX5_findParts 56 = .ok (.iload_n 1, 1) := by decide +kernel
theorem dX5_findParts_57 : decode cX5_findParts 57 = .ok (.iastore, 1) := by decide +kernel
theorem dX5_findParts_58 : decode cX5_findParts 58 = .ok (.aload_n 0, 1) := by decide +kernel
theorem dX5_findParts_59 : decode cX5_findParts 59 = .ok (.getfield 42, 3) := by decide +kernel
theorem dX5_findParts_62 : decode cX5_findParts 62 = .ok (.aload_n 0, 1) := by decide +kernel
theorem dX5_findParts_63 : decode cX5_findParts 63 = .ok (.getfield 102, 3) := by decide +kernel
theorem dX5_findParts_66 : decode cX5_findParts 66 = .ok (.iload_n 2, 1) := by decide +kernel
theorem dX5_findParts_67 : decode cX5_findParts 67 = .ok (.ifCond .le 7, 3) := by decide +kernel
theorem dX5_findParts_70 : decode cX5_findParts 70 = .ok (.iconst 1, 1) := by decide +kernel
theorem dX5_findParts_71 : decode cX5_findParts 71 = .ok (.goto 4, 3) := by decide +kernel
theorem dX5_findParts_74 : decode cX5_findParts 74 = .ok (.iconst 0, 1) := by decide +kernel
theorem dX5_findParts_75 : decode cX5_findParts 75 = .ok (.bastore, 1) := by decide +kernel
theorem dX5_findParts_76 : decode cX5_findParts 76 = .ok (.aload_n 0, 1) := by decide +kernel
theorem dX5_findParts_77 : decode cX5_findParts 77 = .ok (.getfield 45, 3) := by decide +kernel
theorem dX5_findParts_80 : decode cX5_findParts 80 = .ok (.aload_n 0, 1) := by decide +kernel
theorem dX5_findParts_81 : decode cX5_findParts 81 = .ok (.getfield 102, 3) := by decide +kernel
theorem dX5_findParts_84 : decode cX5_findParts 84 = .ok (.lconst 0, 1) := by decide +kernel
theorem dX5_findParts_85 : decode cX5_findParts 85 = .ok (.lastore, 1) := by decide +kernel
theorem dX5_findParts_86 : decode cX5_findParts 86 = .ok (.aload_n 0, 1) := by decide +kernel
theorem dX5_findParts_87 : decode cX5_findParts 87 = .ok (.dup, 1) := by decide +kernel
theorem dX5_findParts_88 : decode cX5_findParts 88 = .ok (.getfield 102, 3) := by decide +kernel
theorem dX5_findParts_91 : decode cX5_findParts 91 = .ok (.iconst 1, 1) := by decide +kernel
theorem dX5_findParts_92 : decode cX5_findParts 92 = .ok (.iadd, 1) := by decide +kernel
theorem dX5_findParts_93 : decode cX5_findParts 93 = .ok (.putfield 102, 3) := by decide +kernel
theorem dX5_findParts_96 : decode cX5_findParts 96 = .ok (.aload_n 0, 1) := by decide +kernel
theorem dX5_findParts_97 : decode cX5_findParts 97 = .ok (.getfield 36, 3) := by decide +kernel
theorem dX5_findParts_100 : decode cX5_findParts 100 = .ok (.iload_n 3, 1) := by decide +kernel
theorem dX5_findParts_101 : decode cX5_findParts 101 = .ok (.aload_n 0, 1) := by decide +kernel
theorem dX5_findParts_102 : decode cX5_findParts 102 = .ok (.getfield 102, 3) := by decide +kernel
theorem dX5_findParts_105 : decode cX5_findParts 105 = .ok (.iconst 1, 1) := by decide +kernel
theorem dX5_findParts_106 : decode cX5_findParts 106 = .ok (.isub, 1) := by decide +kernel
theorem dX5_findParts_107 : decode cX5_findParts 107 = .ok (.iastore, 1) := by decide +kernel
theorem dX5_findParts_108 : decode cX5_findParts 108 = .ok (.iinc 2 1, 3) := by decide +kernel
theorem dX5_findParts_111 : decode cX5_findParts 111 = .ok (.goto (-94), 3) := by decide +kernel
theorem dX5_findParts_114 : decode cX5_findParts 114 = .ok (.iinc 1 1, 3) := by decide +kernel
theorem dX5_findParts_117 : decode cX5_findParts 117 = .ok (.goto (-110), 3) := by decide +kernel
theorem dX5_findParts_120 : decode cX5_findParts 120 = .ok (.iconst 0, 1) := by decide +kernel
theorem dX5_findParts_121 : decode cX5_findParts 121 = .ok (.istore_n 1, 1) := by decide +kernel
theorem dX5_findParts_122 : decode cX5_findParts 122 = .ok (.iload_n 1, 1) := by decide +kernel
theorem dX5_findParts_123 : decode cX5_findParts 123 = .ok (.aload_n 0, 1) := by decide +kernel
theorem dX5_findParts_124 : decode cX5_findParts 124 = .ok (.getfield 64, 3) := by decide +kernel
theorem dX5_findParts_127 : decode cX5_findParts 127 = .ok (.if_icmp .ge 37, 3) := by decide +kernel
theorem dX5_findParts_130 : decode cX5_findParts 130 = .ok (.iconst 0, 1) := by decide +kernel
theorem dX5_findParts_131 : decode cX5_findParts 131 = .ok (.istore_n 2, 1) := by decide +kernel
theorem dX5_findParts_132 : decode cX5_findParts 132 = .ok (.iload_n 2, 1) := by decide +kernel
theorem dX5_findParts_133 : decode cX5_findParts 133 = .ok (.aload_n 0, 1) := by decide +kernel
theorem dX5_findParts_134 : decode cX5_findParts 134 = .ok (.getfield 13, 3) := by decide +kernel
theorem dX5_findParts_137 : decode cX5_findParts 137 = .ok (.iload_n 1, 1) := by decide +kernel
theorem dX5_findParts_138 : decode cX5_findParts 138 = .ok (.iaload, 1) := by decide +kernel
theorem dX5_findParts_139 : decode cX5_findParts 139 = .ok (.if_icmp .ge 19, 3) := by decide +kernel
theorem dX5_findParts_142 : decode cX5_findParts 142 = .ok (.aload_n 0, 1) := by decide +kernel
theorem dX5_findParts_143 : decode cX5_findParts 143 = .ok (.iload_n 1, 1) := by decide +kernel
theorem dX5_findParts_144 : decode cX5_findParts 144 = .ok (.iconst 4, 1) := by decide +kernel
theorem dX5_findParts_145 : decode cX5_findParts 145 = .ok (.iload_n 1, 1) := by decide +kernel
theorem dX5_findParts_146 : decode cX5_findParts 146 = .ok (.imul, 1) := by decide +kernel
theorem dX5_findParts_147 : decode cX5_findParts 147 = .ok (.iload_n 2, 1) := by decide +kernel
theorem dX5_findParts_148 : decode cX5_findParts 148 = .ok (.iadd, 1) := by decide +kernel
theorem dX5_findParts_149 : decode cX5_findParts 149 = .ok (.invokevirtual 105, 3) := by decide +kernel
theorem dX5_findParts_152 : decode cX5_findParts 152 = .ok (.iinc 2 1, 3) := by decide +kernel
theorem dX5_findParts_155 : decode cX5_findParts 155 = .ok (.goto (-23), 3) := by decide +kernel
theorem dX5_findParts_158 : decode cX5_findParts 158 = .ok (.iinc 1 1, 3) := by decide +kernel
theorem dX5_findParts_161 : decode cX5_findParts 161 = .ok (.goto (-39), 3) := by decide +kernel
theorem dX5_findParts_164 : decode cX5_findParts 164 = .ok (.return_, 1) := by decide +kernel
set_option maxRecDepth 20000 in
theorem ggX5_findNear_X5_isNear : GoodIn wsX5_findNear wsX5_isNear := goodIn_r _ [9, 10, 11, 12, 13, 14, 15, 16, 8, 17, 18, 19, 20, 21, 22, 23, 24, 25, 26, 27, 28, 29, 30, 31, 32, 33, 34, 35, 36, 37, 38, 39] (by decide +kernel) (by decide +kernel)
set_option maxRecDepth 20000 in
theorem gX5_findNear_X5_isNear : GoodIn wsX5_findNear (wsV RX5 109 RX5 yX5_isNear wsX5_isNear) := goodIn_app (goodIn_of _ (by decide +kernel)) ggX5_findNear_X5_isNear
theorem dX5_findNear_0 : decode cX5_findNear 0 = .ok (.iconst 0, 1) := by decide +kernel
theorem dX5_findNear_1 : decode cX5_findNear 1 = .ok (.istore_n 3, 1) := by decide +kernel
theorem dX5_findNear_2 : decode cX5_findNear 2 = .ok (.iload_n 3, 1) := by decide +kernel
theorem dX5_findNear_3 : decode cX5_findNear 3 = .ok (.aload_n 0, 1) := by decide +kernel
theorem dX5_findNear_4 : decode cX5_findNear 4 = .ok (.getfield 64, 3) := by decide +kernel
theorem dX5_findNear_7 : decode cX5_findNear 7 = .ok (.if_icmp .ge 79, 3) := by decide +kernel
theorem dX5_findNear_10 : decode cX5_findNear 10 = .ok (.iconst 0, 1) := by decide +kernel
theorem dX5_findNear_11 : decode cX5_findNear 11 = .ok (.istore 4, 2) := by decide +kernel
theorem dX5_findNear_13 : decode cX5_findNear 13 = .ok (.iload 4, 2) := by decide +kernel
theorem dX5_findNear_15 : decode cX5_findNear 15 = .ok (.aload_n 0, 1) := by decide +kernel
theorem dX5_findNear_16 : decode cX5_findNear 16 = .ok (.getfield 13, 3) := by decide +kernel
theorem dX5_findNear_19 : decode cX5_findNear 19 = .ok (.iload_n 3, 1) := by decide +kernel
theorem dX5_findNear_20 : decode cX5_findNear 20 = .ok (.iaload, 1) := by decide +kernel
theorem dX5_findNear_21 : decode cX5_findNear 21 = .ok (.if_icmp .ge 59, 3) := by decide +kernel
theorem dX5_findNear_24 : decode cX5_findNear 24 = .ok (.iload_n 3, 1) := by decide +kernel
theorem dX5_findNear_25 : decode cX5_findNear 25 = .ok (.iload_n 1, 1) := by decide +kernel
theorem dX5_findNear_26 : decode cX5_findNear 26 = .ok (.if_icmp .eq 54, 3) := by decide +kernel
theorem dX5_findNear_29 : decode cX5_findNear 29 = .ok (.iconst 4, 1) := by decide +kernel
theorem dX5_findNear_30 : decode cX5_findNear 30 = .ok (.iload_n 3, 1) := by decide +kernel
theorem dX5_findNear_31 : decode cX5_findNear 31 = .ok (.imul, 1) := by decide +kernel
theorem dX5_findNear_32 : decode cX5_findNear 32 = .ok (.iload 4, 2) := by decide +kernel
theorem dX5_findNear_34 : decode cX5_findNear 34 = .ok (.iadd, 1) := by decide +kernel
theorem dX5_findNear_35 : decode cX5_findNear 35 = .ok (.istore 5, 2) := by decide +kernel
theorem dX5_findNear_37 : decode cX5_findNear 37 = .ok (.aload_n 0, 1) := by decide +kernel
theorem dX5_findNear_38 : decode cX5_findNear 38 = .ok (.getfield 45, 3) := by decide +kernel
theorem dX5_findNear_41 : decode cX5_findNear 41 = .ok (.aload_n 0, 1) := by decide +kernel
theorem dX5_findNear_42 : decode cX5_findNear 42 = .ok (.getfield 36, 3) := by decide +kernel
theorem dX5_findNear_45 : decode cX5_findNear 45 = .ok (.iload_n 2, 1) := by decide +kernel
theorem dX5_findNear_46 : decode cX5_findNear 46 = .ok (.iaload, 1) := by decide +kernel
theorem dX5_findNear_47 : decode cX5_findNear 47 = .ok (.dup2, 1) := by decide +kernel
theorem dX5_findNear_48 : decode cX5_findNear 48 = .ok (.laload, 1) := by decide +kernel
theorem dX5_findNear_49 : decode cX5_findNear 49 = .ok (.aload_n 0, 1) := by decide +kernel
theorem dX5_findNear_50 : decode cX5_findNear 50 = .ok (.iload_n 2, 1) := by decide +kernel
theorem dX5_findNear_51 : decode cX5_findNear 51 = .ok (.iload 5, 2) := by decide +kernel
theorem dX5_findNear_53 : decode cX5_findNear 53 = .ok (.invokevirtual 109, 3) := by decide +kernel
theorem dX5_findNear_56 : decode cX5_findNear 56 = .ok (.ifCond .eq 15, 3) := by decide +kernel
theorem dX5_findNear_59 : decode cX5_findNear 59 = .ok (.lconst 1, 1) := by decide +kernel
theorem dX5_findNear_60 : decode cX5_findNear 60 = .ok (.aload_n 0, 1) := by decide +kernel
theorem dX5_findNear_61 : decode cX5_findNear 61 = .ok (.getfield 36, 3) := by decide +kernel
theorem dX5_findNear_64 : decode cX5_findNear 64 = .ok (.iload 5, 2) := by decide +kernel
theorem dX5_findNear_66 : decode cX5_findNear 66 = .ok (.iaload, 1) := by decide +kernel
theorem dX5_findNear_67 : decode cX5_findNear 67 = .ok (.lshl, 1) := by decide +kernel
theorem dX5_findNear_68 : decode cX5_findNear 68 = .ok (.goto 4, 3) := by decide +kernel
theorem dX5_findNear_71 : decode cX5_findNear 71 = .ok (.lconst 0, 1) := by decide +kernel
theorem dX5_findNear_72 : decode cX5_findNear 72 = .ok (.lor, 1) := by decide +kernel
theorem dX5_findNear_73 : decode cX5_findNear 73 = .ok (.lastore, 1) := by decide +kernel
theorem dX5_findNear_74 : decode cX5_findNear 74 = .ok (.iinc 4 1, 3) := by decide +kernel
theorem dX5_findNear_77 : decode cX5_findNear 77 = .ok (.goto (-64), 3) := by decide +kernel
theorem dX5_findNear_80 : decode cX5_findNear 80 = .ok (.iinc 3 1, 3) := by decide +kernel
theorem dX5_findNear_83 : decode cX5_findNear 83 = .ok (.goto (-81), 3) := by decide +kernel
theorem dX5_findNear_86 : decode cX5_findNear 86 = .ok (.return_, 1) := by decide +kernel
theorem dX5_areNear_0 : decode cX5_areNear 0 = .ok (.aload_n 0, 1) := by decide +kernel
theorem dX5_areNear_1 : decode cX5_areNear 1 = .ok (.getfield 45, 3) := by decide +kernel
theorem dX5_areNear_4 : decode cX5_areNear 4 = .ok (.iload_n 1, 1) := by decide +kernel
theorem dX5_areNear_5 : decode cX5_areNear 5 = .ok (.laload, 1) := by decide +kernel
theorem dX5_areNear_6 : decode cX5_areNear 6 = .ok (.iload_n 2, 1) := by decide +kernel
theorem dX5_areNear_7 : decode cX5_areNear 7 = .ok (.lshr, 1) := by decide +kernel
theorem dX5_areNear_8 : decode cX5_areNear 8 = .ok (.lconst 1, 1) := by decide +kernel
theorem dX5_areNear_9 : decode cX5_areNear 9 = .ok (.land, 1) := by decide +kernel
theorem dX5_areNear_10 : decode cX5_areNear 10 = .ok (.lconst 1, 1) := by decide +kernel
theorem dX5_areNear_11 : decode cX5_areNear 11 = .ok (.lcmp, 1) := by decide +kernel
theorem dX5_areNear_12 : decode cX5_areNear 12 = .ok (.ifCond .ne 7, 3) := by decide +kernel
theorem dX5_areNear_15 : decode cX5_areNear 15 = .ok (.iconst 1, 1) := by decide +kernel
theorem dX5_areNear_16 : decode cX5_areNear 16 = .ok (.goto 4, 3) := by decide +kernel
theorem dX5_areNear_19 : decode cX5_areNear 19 = .ok (.iconst 0, 1) := by decide +kernel
theorem dX5_areNear_20 : decode cX5_areNear 20 = .ok (.ireturn, 1) := by decide +kernel
set_option maxRecDepth 20000 in
theorem ggX5_part_X5_isBox : GoodIn wsX5_part wsX5_isBox := goodIn_r _ [7, 8, 9, 10, 11, 6, 12, 13, 14, 15, 16, 42, 43, 44, 45, 46, 47, 48, 49, 50, 51, 52, 53, 54, 55, 56, 57, 58, 59, 60, 61, 62, 63] (by decide +kernel) (by decide +kernel)
set_option maxRecDepth 20000 in
theorem gX5_part_X5_isBox : GoodIn wsX5_part (wsV RX5 90 RX5 yX5_isBox wsX5_isBox) := goodIn_app (goodIn_of _ (by decide +kernel)) ggX5_part_X5_isBox
set_option maxRecDepth 20000 in
theorem ggX5_part_X5_findParts : GoodIn wsX5_part wsX5_findParts := goodIn_r _ [20, 21, 13, 8, 22, 23, 24, 25, 2, 26, 27, 28, 6, 29, 30, 31, 32, 33, 34, 35, 36, 37, 38, 39, 40, 41, 42, 43, 44, 45, 46, 47, 48, 49, 50, 51, 52, 53, 54, 55, 56, 57, 58, 59, 60, 61, 62, 63] (by decide +kernel) (by decide +kernel)
set_option maxRecDepth 20000 in
theorem gX5_part_X5_findParts : GoodIn wsX5_part (wsV RX5 112 RX5 yX5_findParts wsX5_findParts) := goodIn_app (goodIn_of _ (by decide +kernel)) ggX5_part_X5_findParts
theorem dX5_part_0 : decode cX5_part 0 = .ok (.aload_n 0, 1) := by decide +kernel
theorem dX5_part_1 : decode cX5_part 1 = .ok (.aload_n 0, 1) := by decide +kernel
theorem dX5_part_2 : decode cX5_part 2 = .ok (.iload_n 1, 1) := by decide +kernel
theorem dX5_part_3 : decode cX5_part 3 = .ok (.iload_n 2, 1) := by decide +kernel
theorem dX5_part_4 : decode cX5_part 4 = .ok (.invokevirtual 90, 3) := by decide +kernel
theorem dX5_part_7 : decode cX5_part 7 = .ok (.ifCond .eq 7, 3) := by decide +kernel
theorem dX5_part_10 : decode cX5_part 10 = .ok (.iconst 0, 1) := by decide +kernel
theorem dX5_part_11 : decode cX5_part 11 = .ok (.goto 4, 3) := by decide +kernel
theorem dX5_part_14 : decode cX5_part 14 = .ok (.iconst 1, 1) := by decide +kernel
theorem dX5_part_15 : decode cX5_part 15 = .ok (.putfield 61, 3) := by decide +kernel
theorem dX5_part_18 : decode cX5_part 18 = .ok (.aload_n 0, 1) := by decide +kernel
theorem dX5_part_19 : decode cX5_part 19 = .ok (.getfield 61, 3) := by decide +kernel
theorem dX5_part_22 : decode cX5_part 22 = .ok (.ifCond .le 5, 3) := by decide +kernel
theorem dX5_part_25 : decode cX5_part 25 = .ok (.iconst 0, 1) := by decide +kernel
theorem dX5_part_26 : decode cX5_part 26 = .ok (.ireturn, 1) := by decide +kernel
theorem dX5_part_27 : decode cX5_part 27 = .ok (.aload_n 0, 1) := by decide +kernel
theorem dX5_part_28 : decode cX5_part 28 = .ok (.invokevirtual 112, 3) := by decide +kernel
theorem dX5_part_31 : decode cX5_part 31 = .ok (.aload_n 0, 1) := by decide +kernel
theorem dX5_part_32 : decode cX5_part 32 = .ok (.getfield 36, 3) := by decide +kernel
theorem dX5_part_35 : decode cX5_part 35 = .ok (.iconst 4, 1) := by decide +kernel
theorem dX5_part_36 : decode cX5_part 36 = .ok (.iload_n 1, 1) := by decide +kernel
theorem dX5_part_37 : decode cX5_part 37 = .ok (.imul, 1) := by decide +kernel
theorem dX5_part_38 : decode cX5_part 38 = .ok (.iload_n 2, 1) := by decide +kernel
theorem dX5_part_39 : decode cX5_part 39 = .ok (.iadd, 1) := by decide +kernel
theorem dX5_part_40 : decode cX5_part 40 = .ok (.iaload, 1) := by decide +kernel
theorem dX5_part_41 : decode cX5_part 41 = .ok (.ireturn, 1) := by decide +kernel
set_option maxRecDepth 20000 in
theorem ggX5_pairs_X5_areNear : GoodIn wsX5_pairs wsX5_areNear := goodIn_r _ [6, 7, 8, 9, 10, 11, 12, 13, 14, 15, 16, 17, 18, 19, 20, 21, 22, 23, 24, 25, 26, 27, 28, 29] (by decide +kernel) (by decide +kernel)
set_option maxRecDepth 20000 in
theorem gX5_pairs_X5_areNear : GoodIn wsX5_pairs (wsV RX5 115 RX5 yX5_areNear wsX5_areNear) := goodIn_app (goodIn_of _ (by decide +kernel)) ggX5_pairs_X5_areNear
theorem dX5_pairs_0 : decode cX5_pairs 0 = .ok (.iconst 0, 1) := by decide +kernel
theorem dX5_pairs_1 : decode cX5_pairs 1 = .ok (.istore_n 1, 1) := by decide +kernel
theorem dX5_pairs_2 : decode cX5_pairs 2 = .ok (.iconst 0, 1) := by decide +kernel
theorem dX5_pairs_3 : decode cX5_pairs 3 = .ok (.istore_n 2, 1) := by decide +kernel
theorem dX5_pairs_4 : decode cX5_pairs 4 = .ok (.iload_n 2, 1) := by decide +kernel
theorem dX5_pairs_5 : decode cX5_pairs 5 = .ok (.aload_n 0, 1) := by decide +kernel
theorem dX5_pairs_6 : decode cX5_pairs 6 = .ok (.getfield 102, 3) := by decide +kernel
theorem dX5_pairs_9 : decode cX5_pairs 9 = .ok (.if_icmp .ge 44, 3) := by decide +kernel
theorem dX5_pairs_12 : decode cX5_pairs 12 = .ok (.iload_n 2, 1) := by decide +kernel
theorem dX5_pairs_13 : decode cX5_pairs 13 = .ok (.iconst 1, 1) := by decide +kernel
theorem dX5_pairs_14 : decode cX5_pairs 14 = .ok (.iadd, 1) := by decide +kernel
theorem dX5_pairs_15 : decode cX5_pairs 15 = .ok (.istore_n 3, 1) := by decide +kernel
theorem dX5_pairs_16 : decode cX5_pairs 16 = .ok (.iload_n 3, 1) := by decide +kernel
theorem dX5_pairs_17 : decode cX5_pairs 17 = .ok (.aload_n 0, 1) := by decide +kernel
theorem dX5_pairs_18 : decode cX5_pairs 18 = .ok (.getfield 102, 3) := by decide +kernel
theorem dX5_pairs_21 : decode cX5_pairs 21 = .ok (.if_icmp .ge 26, 3) := by decide +kernel
theorem dX5_pairs_24 : decode cX5_pairs 24 = .ok (.iload_n 1, 1) := by decide +kernel
theorem dX5_pairs_25 : decode cX5_pairs 25 = .ok (.aload_n 0, 1) := by decide +kernel
theorem dX5_pairs_26 : decode cX5_pairs 26 = .ok (.iload_n 2, 1) := by decide +kernel
theorem dX5_pairs_27 : decode cX5_pairs 27 = .ok (.iload_n 3, 1) := by decide +kernel
theorem dX5_pairs_28 : decode cX5_pairs 28 = .ok (.invokevirtual 115, 3) := by decide +kernel
theorem dX5_pairs_31 : decode cX5_pairs 31 = .ok (.ifCond .eq 7, 3) := by decide +kernel
theorem dX5_pairs_34 : decode cX5_pairs 34 = .ok (.iconst 1, 1) := by decide +kernel
theorem dX5_pairs_35 : decode cX5_pairs 35 = .ok (.goto 4, 3) := by decide +kernel
theorem dX5_pairs_38 : decode cX5_pairs 38 = .ok (.iconst 0, 1) := by decide +kernel
theorem dX5_pairs_39 : decode cX5_pairs 39 = .ok (.iadd, 1) := by decide +kernel
theorem dX5_pairs_40 : decode cX5_pairs 40 = .ok (.istore_n 1, 1) := by decide +kernel
theorem dX5_pairs_41 : decode cX5_pairs 41 = .ok (.iinc 3 1, 3) := by decide +kernel
theorem dX5_pairs_44 : decode cX5_pairs 44 = .ok (.goto (-28), 3) := by decide +kernel
theorem dX5_pairs_47 : decode cX5_pairs 47 = .ok (.iinc 2 1, 3) := by decide +kernel
theorem dX5_pairs_50 : decode cX5_pairs 50 = .ok (.goto (-46), 3) := by decide +kernel
theorem dX5_pairs_53 : decode cX5_pairs 53 = .ok (.iload_n 1, 1) := by decide +kernel
theorem dX5_pairs_54 : decode cX5_pairs 54 = .ok (.ireturn, 1) := by decide +kernel
set_option maxRecDepth 20000 in
theorem ggX5_pair_X5_findParts : GoodIn wsX5_pair wsX5_findParts := goodIn_r _ [7, 2, 8, 9, 10, 11, 12, 13, 14, 15, 16, 17, 6, 18, 19, 20, 21, 22, 23, 24, 25, 26, 27, 28, 29, 30, 42, 43, 44, 45, 46, 47, 48, 49, 50, 51, 52, 53, 54, 55, 56, 57, 58, 59, 60, 61, 62, 63] (by decide +kernel) (by decide +kernel)
set_option maxRecDepth 20000 in
theorem gX5_pair_X5_findParts : GoodIn wsX5_pair (wsV RX5 112 RX5 yX5_findParts wsX5_findParts) := goodIn_app (goodIn_of _ (by decide +kernel)) ggX5_pair_X5_findParts
set_option maxRecDepth 20000 in
theorem ggX5_pair_X5_pairs : GoodIn wsX5_pair wsX5_pairs := goodIn_r _ [34, 2, 35, 36, 37, 6, 38, 13, 42, 43, 44, 45, 46, 47, 48, 49, 50, 51, 52, 53, 54, 55, 56, 57, 58, 59, 60, 61, 62, 63] (by decide +kernel) (by decide +kernel)
set_option maxRecDepth 20000 in
theorem gX5_pair_X5_pairs : GoodIn wsX5_pair (wsV RX5 118 RX5 yX5_pairs wsX5_pairs) := goodIn_app (goodIn_of _ (by decide +kernel)) ggX5_pair_X5_pairs
set_option maxRecDepth 20000 in
theorem ggX5_pair_X5_isIn : GoodIn wsX5_pair wsX5_isIn := goodIn_r _ [41] (by decide +kernel) (by decide +kernel)
set_option maxRecDepth 20000 in
theorem gX5_pair_X5_isIn : GoodIn wsX5_pair (va_wsS RX5 67 yX5_isIn wsX5_isIn) := goodIn_app (goodIn_of _ (by decide +kernel)) ggX5_pair_X5_isIn
set_option maxRecDepth 20000 in
theorem ggX5_pair_X5_areNear : GoodIn wsX5_pair wsX5_areNear := goodIn_r _ [38, 13, 42, 43, 44, 45, 46, 47, 48, 49, 50, 51, 52, 53, 54, 55, 56, 57, 58, 59, 60, 61, 62, 63] (by decide +kernel) (by decide +kernel)
set_option maxRecDepth 20000 in
theorem gX5_pair_X5_areNear : GoodIn wsX5_pair (wsV RX5 115 RX5 yX5_areNear wsX5_areNear) := goodIn_app (goodIn_of _ (by decide +kernel)) ggX5_pair_X5_areNear
theorem dX5_pair_0 : decode cX5_pair 0 = .ok (.aload_n 0, 1) := by decide +kernel
theorem dX5_pair_1 : decode cX5_pair 1 = .ok (.invokevirtual 112, 3) := by decide +kernel
theorem dX5_pair_4 : decode cX5_pair 4 = .ok (.aload_n 0, 1) := by decide +kernel
theorem dX5_pair_5 : decode cX5_pair 5 = .ok (.iload_n 1, 1) := by decide +kernel
theorem dX5_pair_6 : decode cX5_pair 6 = .ok (.i2l, 1) := by decide +kernel
theorem dX5_pair_7 : decode cX5_pair 7 = .ok (.lconst 0, 1) := by decide +kernel
theorem dX5_pair_8 : decode cX5_pair 8 = .ok (.aload_n 0, 1) := by decide +kernel
theorem dX5_pair_9 : decode cX5_pair 9 = .ok (.invokevirtual 118, 3) := by decide +kernel
theorem dX5_pair_12 : decode cX5_pair 12 = .ok (.iconst 1, 1) := by decide +kernel
theorem dX5_pair_13 : decode cX5_pair 13 = .ok (.isub, 1) := by decide +kernel
theorem dX5_pair_14 : decode cX5_pair 14 = .ok (.i2l, 1) := by decide +kernel
theorem dX5_pair_15 : decode cX5_pair 15 = .ok (.invokestatic 67, 3) := by decide +kernel
theorem dX5_pair_18 : decode cX5_pair 18 = .ok (.ifCond .ne 7, 3) := by decide +kernel
theorem dX5_pair_21 : decode cX5_pair 21 = .ok (.iconst 1, 1) := by decide +kernel
theorem dX5_pair_22 : decode cX5_pair 22 = .ok (.goto 18, 3) := by decide +kernel
theorem dX5_pair_25 : decode cX5_pair 25 = .ok (.iload_n 2, 1) := by decide +kernel
theorem dX5_pair_26 : decode cX5_pair 26 = .ok (.i2l, 1) := by decide +kernel
theorem dX5_pair_27 : decode cX5_pair 27 = .ok (.lconst 0, 1) := by decide +kernel
theorem dX5_pair_28 : decode cX5_pair 28 = .ok (.lconst 1, 1) := by decide +kernel
theorem dX5_pair_29 : decode cX5_pair 29 = .ok (.invokestatic 67, 3) := by decide +kernel
theorem dX5_pair_32 : decode cX5_pair 32 = .ok (.ifCond .ne 7, 3) := by decide +kernel
theorem dX5_pair_35 : decode cX5_pair 35 = .ok (.iconst 2, 1) := by decide +kernel
theorem dX5_pair_36 : decode cX5_pair 36 = .ok (.goto 4, 3) := by decide +kernel
theorem dX5_pair_39 : decode cX5_pair 39 = .ok (.iconst 0, 1) := by decide +kernel
theorem dX5_pair_40 : decode cX5_pair 40 = .ok (.putfield 61, 3) := by decide +kernel
theorem dX5_pair_43 : decode cX5_pair 43 = .ok (.iload_n 1, 1) := by decide +kernel
theorem dX5_pair_44 : decode cX5_pair 44 = .ok (.istore_n 3, 1) := by decide +kernel
theorem dX5_pair_45 : decode cX5_pair 45 = .ok (.iconst 0, 1) := by decide +kernel
theorem dX5_pair_46 : decode cX5_pair 46 = .ok (.istore 4, 2) := by decide +kernel
theorem dX5_pair_48 : decode cX5_pair 48 = .ok (.iload 4, 2) := by decide +kernel
theorem dX5_pair_50 : decode cX5_pair 50 = .ok (.aload_n 0, 1) := by decide +kernel
theorem dX5_pair_51 : decode cX5_pair 51 = .ok (.getfield 102, 3) := by decide +kernel
theorem dX5_pair_54 : decode cX5_pair 54 = .ok (.if_icmp .ge 67, 3) := by decide +kernel
theorem dX5_pair_57 : decode cX5_pair 57 = .ok (.aload_n 0, 1) := by decide +kernel
theorem dX5_pair_58 : decode cX5_pair 58 = .ok (.getfield 61, 3) := by decide +kernel
theorem dX5_pair_61 : decode cX5_pair 61 = .ok (.ifCond .ne 60, 3) := by decide +kernel
theorem dX5_pair_64 : decode cX5_pair 64 = .ok (.iload 4, 2) := by decide +kernel
theorem dX5_pair_66 : decode cX5_pair 66 = .ok (.iconst 1, 1) := by decide +kernel
theorem dX5_pair_67 : decode cX5_pair 67 = .ok (.iadd, 1) := by decide +kernel
theorem dX5_pair_68 : decode cX5_pair 68 = .ok (.istore 5, 2) := by decide +kernel
theorem dX5_pair_70 : decode cX5_pair 70 = .ok (.iload 5, 2) := by decide +kernel
theorem dX5_pair_72 : decode cX5_pair 72 = .ok (.aload_n 0, 1) := by decide +kernel
theorem dX5_pair_73 : decode cX5_pair 73 = .ok (.getfield 102, 3) := by decide +kernel
theorem dX5_pair_76 : decode cX5_pair 76 = .ok (.if_icmp .ge 39, 3) := by decide +kernel
theorem dX5_pair_79 : decode cX5_pair 79 = .ok (.aload_n 0, 1) := by decide +kernel
theorem dX5_pair_80 : decode cX5_pair 80 = .ok (.iload 4, 2) := by decide +kernel
theorem dX5_pair_82 : decode cX5_pair 82 = .ok (.iload 5, 2) := by decide +kernel
theorem dX5_pair_84 : decode cX5_pair 84 = .ok (.invokevirtual 115, 3) := by decide +kernel
theorem dX5_pair_87 : decode cX5_pair 87 = .ok (.ifCond .eq 22, 3) := by decide +kernel
theorem dX5_pair_90 : decode cX5_pair 90 = .ok (.iload_n 3, 1) := by decide +kernel
theorem dX5_pair_91 : decode cX5_pair 91 = .ok (.ifCond .ne 15, 3) := by decide +kernel
theorem dX5_pair_94 : decode cX5_pair 94 = .ok (.iload_n 2, 1) := by decide +kernel
theorem dX5_pair_95 : decode cX5_pair 95 = .ok (.ifCond .ne 8, 3) := by decide +kernel
theorem dX5_pair_98 : decode cX5_pair 98 = .ok (.iload 4, 2) := by decide +kernel
theorem dX5_pair_100 : decode cX5_pair 100 = .ok (.goto 5, 3) := by decide +kernel
theorem dX5_pair_103 : decode cX5_pair 103 = .ok (.iload 5, 2) := by decide +kernel
theorem dX5_pair_105 : decode cX5_pair 105 = .ok (.ireturn, 1) := by decide +kernel
theorem dX5_pair_106 : decode cX5_pair 106 = .ok (.iinc 3 (-1), 3) := by decide +kernel
theorem dX5_pair_109 : decode cX5_pair 109 = .ok (.iinc 5 1, 3) := by decide +kernel
theorem dX5_pair_112 : decode cX5_pair 112 = .ok (.goto (-42), 3) := by decide +kernel
theorem dX5_pair_115 : decode cX5_pair 115 = .ok (.iinc 4 1, 3) := by decide +kernel
theorem dX5_pair_118 : decode cX5_pair 118 = .ok (.goto (-70), 3) := by decide +kernel
theorem dX5_pair_121 : decode cX5_pair 121 = .ok (.iconst 0, 1) := by decide +kernel
theorem dX5_pair_122 : decode cX5_pair 122 = .ok (.ireturn, 1) := by decide +kernel
theorem dX5_stitches_0 : decode cX5_stitches 0 = .ok (.iconst 0, 1) := by decide +kernel
theorem dX5_stitches_1 : decode cX5_stitches 1 = .ok (.istore_n 1, 1) := by decide +kernel
theorem dX5_stitches_2 : decode cX5_stitches 2 = .ok (.iconst 0, 1) := by decide +kernel
theorem dX5_stitches_3 : decode cX5_stitches 3 = .ok (.istore_n 2, 1) := by decide +kernel
theorem dX5_stitches_4 : decode cX5_stitches 4 = .ok (.iload_n 2, 1) := by decide +kernel
theorem dX5_stitches_5 : decode cX5_stitches 5 = .ok (.aload_n 0, 1) := by decide +kernel
theorem dX5_stitches_6 : decode cX5_stitches 6 = .ok (.getfield 102, 3) := by decide +kernel
theorem dX5_stitches_9 : decode cX5_stitches 9 = .ok (.if_icmp .ge 26, 3) := by decide +kernel
theorem dX5_stitches_12 : decode cX5_stitches 12 = .ok (.iload_n 1, 1) := by decide +kernel
theorem dX5_stitches_13 : decode cX5_stitches 13 = .ok (.aload_n 0, 1) := by decide +kernel
theorem dX5_stitches_14 : decode cX5_stitches 14 = .ok (.getfield 42, 3) := by decide +kernel
theorem dX5_stitches_17 : decode cX5_stitches 17 = .ok (.iload_n 2, 1) := by decide +kernel
theorem dX5_stitches_18 : decode cX5_stitches 18 = .ok (.baload, 1) := by decide +kernel
theorem dX5_stitches_19 : decode cX5_stitches 19 = .ok (.ifCond .eq 7, 3) := by decide +kernel
theorem dX5_stitches_22 : decode cX5_stitches 22 = .ok (.iconst 1, 1) := by decide +kernel
theorem dX5_stitches_23 : decode cX5_stitches 23 = .ok (.goto 4, 3) := by decide +kernel
theorem dX5_stitches_26 : decode cX5_stitches 26 = .ok (.iconst 0, 1) := by decide +kernel
theorem dX5_stitches_27 : decode cX5_stitches 27 = .ok (.iadd, 1) := by decide +kernel
theorem dX5_stitches_28 : decode cX5_stitches 28 = .ok (.istore_n 1, 1) := by decide +kernel
theorem dX5_stitches_29 : decode cX5_stitches 29 = .ok (.iinc 2 1, 3) := by decide +kernel
theorem dX5_stitches_32 : decode cX5_stitches 32 = .ok (.goto (-28), 3) := by decide +kernel
theorem dX5_stitches_35 : decode cX5_stitches 35 = .ok (.iload_n 1, 1) := by decide +kernel
theorem dX5_stitches_36 : decode cX5_stitches 36 = .ok (.ireturn, 1) := by decide +kernel
theorem dX5_usedUpTo_0 : decode cX5_usedUpTo 0 = .ok (.iconst 0, 1) := by decide +kernel
theorem dX5_usedUpTo_1 : decode cX5_usedUpTo 1 = .ok (.istore_n 2, 1) := by decide +kernel
theorem dX5_usedUpTo_2 : decode cX5_usedUpTo 2 = .ok (.iconst 1, 1) := by decide +kernel
theorem dX5_usedUpTo_3 : decode cX5_usedUpTo 3 = .ok (.istore_n 3, 1) := by decide +kernel
theorem dX5_usedUpTo_4 : decode cX5_usedUpTo 4 = .ok (.iload_n 3, 1) := by decide +kernel
theorem dX5_usedUpTo_5 : decode cX5_usedUpTo 5 = .ok (.iload_n 1, 1) := by decide +kernel
theorem dX5_usedUpTo_6 : decode cX5_usedUpTo 6 = .ok (.if_icmp .gt 43, 3) := by decide +kernel
theorem dX5_usedUpTo_9 : decode cX5_usedUpTo 9 = .ok (.iload_n 2, 1) := by decide +kernel
theorem dX5_usedUpTo_10 : decode cX5_usedUpTo 10 = .ok (.aload_n 0, 1) := by decide +kernel
theorem dX5_usedUpTo_11 : decode cX5_usedUpTo 11 = .ok (.getfield 42, 3) := by decide +kernel
theorem dX5_usedUpTo_14 : decode cX5_usedUpTo 14 = .ok (.iload_n 3, 1) := by decide +kernel
theorem dX5_usedUpTo_15 : decode cX5_usedUpTo 15 = .ok (.baload, 1) := by decide +kernel
theorem dX5_usedUpTo_16 : decode cX5_usedUpTo 16 = .ok (.ifCond .eq 24, 3) := by decide +kernel
theorem dX5_usedUpTo_19 : decode cX5_usedUpTo 19 = .ok (.aload_n 0, 1) := by decide +kernel
theorem dX5_usedUpTo_20 : decode cX5_usedUpTo 20 = .ok (.getfield 52, 3) := by decide +kernel
theorem dX5_usedUpTo_23 : decode cX5_usedUpTo 23 = .ok (.iload_n 3, 1) := by decide +kernel
theorem dX5_usedUpTo_24 : decode cX5_usedUpTo 24 = .ok (.iaload, 1) := by decide +kernel
theorem dX5_usedUpTo_25 : decode cX5_usedUpTo 25 = .ok (.aload_n 0, 1) := by decide +kernel
theorem dX5_usedUpTo_26 : decode cX5_usedUpTo 26 = .ok (.getfield 52, 3) := by decide +kernel
theorem dX5_usedUpTo_29 : decode cX5_usedUpTo 29 = .ok (.iload_n 3, 1) := by decide +kernel
theorem dX5_usedUpTo_30 : decode cX5_usedUpTo 30 = .ok (.iconst 1, 1) := by decide +kernel
theorem dX5_usedUpTo_31 : decode cX5_usedUpTo 31 = .ok (.isub, 1) := by decide +kernel
theorem dX5_usedUpTo_32 : decode cX5_usedUpTo 32 = .ok (.iaload, 1) := by decide +kernel
theorem dX5_usedUpTo_33 : decode cX5_usedUpTo 33 = .ok (.if_icmp .eq 7, 3) := by decide +kernel
theorem dX5_usedUpTo_36 : decode cX5_usedUpTo 36 = .ok (.iconst 1, 1) := by decide +kernel
theorem dX5_usedUpTo_37 : decode cX5_usedUpTo 37 = .ok (.goto 4, 3) := by decide +kernel
theorem dX5_usedUpTo_40 : decode cX5_usedUpTo 40 = .ok (.iconst 0, 1) := by decide +kernel
theorem dX5_usedUpTo_41 : decode cX5_usedUpTo 41 = .ok (.iadd, 1) := by decide +kernel
theorem dX5_usedUpTo_42 : decode cX5_usedUpTo 42 = .ok (.istore_n 2, 1) := by decide +kernel
theorem dX5_usedUpTo_43 : decode cX5_usedUpTo 43 = .ok (.iinc 3 1, 3) := by decide +kernel
theorem dX5_usedUpTo_46 : decode cX5_usedUpTo 46 = .ok (.goto (-42), 3) := by decide +kernel
theorem dX5_usedUpTo_49 : decode cX5_usedUpTo 49 = .ok (.iload_n 2, 1) := by decide +kernel
theorem dX5_usedUpTo_50 : decode cX5_usedUpTo 50 = .ok (.ireturn, 1) := by decide +kernel
set_option maxRecDepth 20000 in
theorem ggX5_fits_X5_usedUpTo : GoodIn wsX5_fits wsX5_usedUpTo := goodIn_r _ [10, 11, 1, 17, 18, 19, 20, 21, 22, 23, 24, 25, 26, 27, 28, 29, 30, 31, 32, 33, 34, 35, 36, 37, 38] (by decide +kernel) (by decide +kernel)
set_option maxRecDepth 20000 in
theorem gX5_fits_X5_usedUpTo : GoodIn wsX5_fits (wsV RX5 122 RX5 yX5_usedUpTo wsX5_usedUpTo) := goodIn_app (goodIn_of _ (by decide +kernel)) ggX5_fits_X5_usedUpTo
set_option maxRecDepth 20000 in
theorem ggX5_fits_X5_areNear : GoodIn wsX5_fits wsX5_areNear := goodIn_r _ [15, 16, 17, 18, 19, 20, 21, 22, 23, 24, 25, 26, 27, 28, 29, 30, 31, 32, 33, 34, 35, 36, 37, 38] (by decide +kernel) (by decide +kernel)
set_option maxRecDepth 20000 in
theorem gX5_fits_X5_areNear : GoodIn wsX5_fits (wsV RX5 115 RX5 yX5_areNear wsX5_areNear) := goodIn_app (goodIn_of _ (by decide +kernel)) ggX5_fits_X5_areNear
theorem dX5_fits_0 : decode cX5_fits 0 = .ok (.aload_n 0, 1) := by decide +kernel
theorem dX5_fits_1 : decode cX5_fits 1 = .ok (.iload_n 1, 1) := by decide +kernel
