theorem dX3_init_0 : decode cX3_init 0 = .ok (.aload_n 0, 1) := by decide +kernel
theorem dX3_init_1 : decode cX3_init 1 = .ok (.invokespecial 3, 3) := by decide +kernel
theorem dX3_init_4 : decode cX3_init 4 = .ok (.aload_n 0, 1) := by decide +kernel
theorem dX3_init_5 : decode cX3_init 5 = .ok (.iconst 0, 1) := by decide +kernel
theorem dX3_init_6 : decode cX3_init 6 = .ok (.putfield 9, 3) := by decide +kernel
theorem dX3_init_9 : decode cX3_init 9 = .ok (.aload_n 0, 1) := by decide +kernel
theorem dX3_init_10 : decode cX3_init 10 = .ok (.iconst 0, 1) := by decide +kernel
theorem dX3_init_11 : decode cX3_init 11 = .ok (.putfield 15, 3) := by decide +kernel
theorem dX3_init_14 : decode cX3_init 14 = .ok (.aload_n 0, 1) := by decide +kernel
theorem dX3_init_15 : decode cX3_init 15 = .ok (.bipush 40, 2) := by decide +kernel
theorem dX3_init_17 : decode cX3_init 17 = .ok (.newarray .int, 2) := by decide +kernel
theorem dX3_init_19 : decode cX3_init 19 = .ok (.putfield 19, 3) := by decide +kernel
theorem dX3_init_22 : decode cX3_init 22 = .ok (.aload_n 0, 1) := by decide +kernel
theorem dX3_init_23 : decode cX3_init 23 = .ok (.bipush 81, 2) := by decide +kernel
theorem dX3_init_25 : decode cX3_init 25 = .ok (.newarray .long, 2) := by decide +kernel
theorem dX3_init_27 : decode cX3_init 27 = .ok (.putfield 23, 3) := by decide +kernel
theorem dX3_init_30 : decode cX3_init 30 = .ok (.aload_n 0, 1) := by decide +kernel
theorem dX3_init_31 : decode cX3_init 31 = .ok (.aload_n 1, 1) := by decide +kernel
theorem dX3_init_32 : decode cX3_init 32 = .ok (.putfield 27, 3) := by decide +kernel
theorem dX3_init_35 : decode cX3_init 35 = .ok (.return_, 1) := by decide +kernel
set_option maxRecDepth 20000 in
theorem ggX3_refresh_X3_find : GoodIn wsX3_refresh wsX3_find := goodIn_r _ [6, 7, 8, 9, 10, 11, 12, 13, 5, 14, 15, 16, 17, 18, 19, 20, 21, 22, 23, 24, 25, 26, 27, 28, 29, 30, 31, 32, 33, 34, 35, 36, 37, 38, 39, 40, 41, 42, 43, 44, 45, 46, 47, 48, 49] (by decide +kernel) (by decide +kernel)
set_option maxRecDepth 20000 in
theorem gX3_refresh_X3_find : GoodIn wsX3_refresh (wsV RX3 31 RX3 yX3_find wsX3_find) := goodIn_app (goodIn_of _ (by decide +kernel)) ggX3_refresh_X3_find
theorem dX3_refresh_0 : decode cX3_refresh 0 = .ok (.aload_n 0, 1) := by decide +kernel
theorem dX3_refresh_1 : decode cX3_refresh 1 = .ok (.getfield 9, 3) := by decide +kernel
theorem dX3_refresh_4 : decode cX3_refresh 4 = .ok (.ifCond .ne 12, 3) := by decide +kernel
theorem dX3_refresh_7 : decode cX3_refresh 7 = .ok (.aload_n 0, 1) := by decide +kernel
theorem dX3_refresh_8 : decode cX3_refresh 8 = .ok (.invokevirtual 31, 3) := by decide +kernel
theorem dX3_refresh_11 : decode cX3_refresh 11 = .ok (.aload_n 0, 1) := by decide +kernel
theorem dX3_refresh_12 : decode cX3_refresh 12 = .ok (.iconst 1, 1) := by decide +kernel
theorem dX3_refresh_13 : decode cX3_refresh 13 = .ok (.putfield 9, 3) := by decide +kernel
theorem dX3_refresh_16 : decode cX3_refresh 16 = .ok (.return_, 1) := by decide +kernel
set_option maxRecDepth 20000 in
theorem ggX3_find_X3_oddWalkFrom : GoodIn wsX3_find wsX3_oddWalkFrom := goodIn_r _ [9, 10, 2, 11, 12, 13, 14, 15, 16, 17, 18, 19, 20, 21, 31, 32, 33, 34, 35, 36, 37, 38, 39, 40, 41, 42, 43, 44] (by decide +kernel) (by decide +kernel)
set_option maxRecDepth 20000 in
theorem gX3_find_X3_oddWalkFrom : GoodIn wsX3_find (wsV RX3 39 RX3 yX3_oddWalkFrom wsX3_oddWalkFrom) := goodIn_app (goodIn_of _ (by decide +kernel)) ggX3_find_X3_oddWalkFrom
set_option maxRecDepth 20000 in
theorem ggX3_find_X3_fillRow : GoodIn wsX3_find wsX3_fillRow := goodIn_r _ [25, 4, 1, 2, 26, 10, 5, 6, 7, 8, 9, 11, 12, 13, 14, 15, 16, 17, 18, 19, 20, 21, 27, 28, 29, 30, 3, 31, 32, 33, 34, 35, 36, 37, 38, 39, 40, 41, 42, 43, 44] (by decide +kernel) (by decide +kernel)
set_option maxRecDepth 20000 in
theorem gX3_find_X3_fillRow : GoodIn wsX3_find (wsV RX3 43 RX3 yX3_fillRow wsX3_fillRow) := goodIn_app (goodIn_of _ (by decide +kernel)) ggX3_find_X3_fillRow
theorem dX3_find_0 : decode cX3_find 0 = .ok (.aload_n 0, 1) := by decide +kernel
theorem dX3_find_1 : decode cX3_find 1 = .ok (.iconst 0, 1) := by decide +kernel
theorem dX3_find_2 : decode cX3_find 2 = .ok (.putfield 15, 3) := by decide +kernel
theorem dX3_find_5 : decode cX3_find 5 = .ok (.iconst 0, 1) := by decide +kernel
theorem dX3_find_6 : decode cX3_find 6 = .ok (.istore_n 1, 1) := by decide +kernel
theorem dX3_find_7 : decode cX3_find 7 = .ok (.iload_n 1, 1) := by decide +kernel
theorem dX3_find_8 : decode cX3_find 8 = .ok (.aload_n 0, 1) := by decide +kernel
theorem dX3_find_9 : decode cX3_find 9 = .ok (.getfield 27, 3) := by decide +kernel
theorem dX3_find_12 : decode cX3_find 12 = .ok (.getfield 34, 3) := by decide +kernel
theorem dX3_find_15 : decode cX3_find 15 = .ok (.if_icmp .ge 46, 3) := by decide +kernel
theorem dX3_find_18 : decode cX3_find 18 = .ok (.aload_n 0, 1) := by decide +kernel
theorem dX3_find_19 : decode cX3_find 19 = .ok (.iload_n 1, 1) := by decide +kernel
theorem dX3_find_20 : decode cX3_find 20 = .ok (.invokevirtual 39, 3) := by decide +kernel
theorem dX3_find_23 : decode cX3_find 23 = .ok (.istore_n 2, 1) := by decide +kernel
theorem dX3_find_24 : decode cX3_find 24 = .ok (.iload_n 2, 1) := by decide +kernel
theorem dX3_find_25 : decode cX3_find 25 = .ok (.ifCond .eq 30, 3) := by decide +kernel
theorem dX3_find_28 : decode cX3_find 28 = .ok (.aload_n 0, 1) := by decide +kernel
theorem dX3_find_29 : decode cX3_find 29 = .ok (.getfield 15, 3) := by decide +kernel
theorem dX3_find_32 : decode cX3_find 32 = .ok (.ifCond .eq 11, 3) := by decide +kernel
theorem dX3_find_35 : decode cX3_find 35 = .ok (.iload_n 2, 1) := by decide +kernel
theorem dX3_find_36 : decode cX3_find 36 = .ok (.aload_n 0, 1) := by decide +kernel
theorem dX3_find_37 : decode cX3_find 37 = .ok (.getfield 15, 3) := by decide +kernel
theorem dX3_find_40 : decode cX3_find 40 = .ok (.if_icmp .ge 15, 3) := by decide +kernel
theorem dX3_find_43 : decode cX3_find 43 = .ok (.aload_n 0, 1) := by decide +kernel
theorem dX3_find_44 : decode cX3_find 44 = .ok (.iload_n 2, 1) := by decide +kernel
theorem dX3_find_45 : decode cX3_find 45 = .ok (.putfield 15, 3) := by decide +kernel
theorem dX3_find_48 : decode cX3_find 48 = .ok (.aload_n 0, 1) := by decide +kernel
theorem dX3_find_49 : decode cX3_find 49 = .ok (.getfield 19, 3) := by decide +kernel
theorem dX3_find_52 : decode cX3_find 52 = .ok (.iconst 0, 1) := by decide +kernel
theorem dX3_find_53 : decode cX3_find 53 = .ok (.iload_n 1, 1) := by decide +kernel
theorem dX3_find_54 : decode cX3_find 54 = .ok (.iastore, 1) := by decide +kernel
theorem dX3_find_55 : decode cX3_find 55 = .ok (.iinc 1 1, 3) := by decide +kernel
theorem dX3_find_58 : decode cX3_find 58 = .ok (.goto (-51), 3) := by decide +kernel
theorem dX3_find_61 : decode cX3_find 61 = .ok (.aload_n 0, 1) := by decide +kernel
theorem dX3_find_62 : decode cX3_find 62 = .ok (.getfield 15, 3) := by decide +kernel
theorem dX3_find_65 : decode cX3_find 65 = .ok (.ifCond .eq 7, 3) := by decide +kernel
theorem dX3_find_68 : decode cX3_find 68 = .ok (.aload_n 0, 1) := by decide +kernel
theorem dX3_find_69 : decode cX3_find 69 = .ok (.invokevirtual 43, 3) := by decide +kernel
theorem dX3_find_72 : decode cX3_find 72 = .ok (.return_, 1) := by decide +kernel
set_option maxRecDepth 20000 in
theorem ggX3_oddWalkFrom_X4_bit : GoodIn wsX3_oddWalkFrom wsX4_bit := goodIn_r _ [6] (by decide +kernel) (by decide +kernel)
set_option maxRecDepth 20000 in
theorem gX3_oddWalkFrom_X4_bit_n46 : GoodIn wsX3_oddWalkFrom (wsX4_bit) := ggX3_oddWalkFrom_X4_bit
set_option maxRecDepth 20000 in
theorem ggX3_oddWalkFrom_X0_nearTo : GoodIn wsX3_oddWalkFrom wsX0_nearTo := goodIn_r _ [11, 12, 13, 4, 5, 6, 19, 20, 21, 22, 23, 24, 25, 26, 27] (by decide +kernel) (by decide +kernel)
set_option maxRecDepth 20000 in
theorem gX3_oddWalkFrom_X0_nearTo : GoodIn wsX3_oddWalkFrom (wsV RX3 50 RX0 yX0_nearTo wsX0_nearTo) := goodIn_app (goodIn_of _ (by decide +kernel)) ggX3_oddWalkFrom_X0_nearTo
theorem dX3_oddWalkFrom_0 : decode cX3_oddWalkFrom 0 = .ok (.lconst 0, 1) := by decide +kernel
theorem dX3_oddWalkFrom_1 : decode cX3_oddWalkFrom 1 = .ok (.lstore_n 2, 1) := by decide +kernel
theorem dX3_oddWalkFrom_2 : decode cX3_oddWalkFrom 2 = .ok (.iload_n 1, 1) := by decide +kernel
theorem dX3_oddWalkFrom_3 : decode cX3_oddWalkFrom 3 = .ok (.invokestatic 46, 3) := by decide +kernel
theorem dX3_oddWalkFrom_6 : decode cX3_oddWalkFrom 6 = .ok (.lstore 4, 2) := by decide +kernel
theorem dX3_oddWalkFrom_8 : decode cX3_oddWalkFrom 8 = .ok (.aload_n 0, 1) := by decide +kernel
theorem dX3_oddWalkFrom_9 : decode cX3_oddWalkFrom 9 = .ok (.getfield 23, 3) := by decide +kernel
theorem dX3_oddWalkFrom_12 : decode cX3_oddWalkFrom 12 = .ok (.iconst 0, 1) := by decide +kernel
theorem dX3_oddWalkFrom_13 : decode cX3_oddWalkFrom 13 = .ok (.iload_n 1, 1) := by decide +kernel
theorem dX3_oddWalkFrom_14 : decode cX3_oddWalkFrom 14 = .ok (.invokestatic 46, 3) := by decide +kernel
theorem dX3_oddWalkFrom_17 : decode cX3_oddWalkFrom 17 = .ok (.lastore, 1) := by decide +kernel
theorem dX3_oddWalkFrom_18 : decode cX3_oddWalkFrom 18 = .ok (.iconst 1, 1) := by decide +kernel
theorem dX3_oddWalkFrom_19 : decode cX3_oddWalkFrom 19 = .ok (.istore 6, 2) := by decide +kernel
theorem dX3_oddWalkFrom_21 : decode cX3_oddWalkFrom 21 = .ok (.iload 6, 2) := by decide +kernel
theorem dX3_oddWalkFrom_23 : decode cX3_oddWalkFrom 23 = .ok (.bipush 80, 2) := by decide +kernel
theorem dX3_oddWalkFrom_25 : decode cX3_oddWalkFrom 25 = .ok (.if_icmp .gt 106, 3) := by decide +kernel
theorem dX3_oddWalkFrom_28 : decode cX3_oddWalkFrom 28 = .ok (.aload_n 0, 1) := by decide +kernel
theorem dX3_oddWalkFrom_29 : decode cX3_oddWalkFrom 29 = .ok (.getfield 23, 3) := by decide +kernel
theorem dX3_oddWalkFrom_32 : decode cX3_oddWalkFrom 32 = .ok (.iload 6, 2) := by decide +kernel
theorem dX3_oddWalkFrom_34 : decode cX3_oddWalkFrom 34 = .ok (.iconst 1, 1) := by decide +kernel
theorem dX3_oddWalkFrom_35 : decode cX3_oddWalkFrom 35 = .ok (.isub, 1) := by decide +kernel
theorem dX3_oddWalkFrom_36 : decode cX3_oddWalkFrom 36 = .ok (.laload, 1) := by decide +kernel
theorem dX3_oddWalkFrom_37 : decode cX3_oddWalkFrom 37 = .ok (.lconst 0, 1) := by decide +kernel
theorem dX3_oddWalkFrom_38 : decode cX3_oddWalkFrom 38 = .ok (.lcmp, 1) := by decide +kernel
theorem dX3_oddWalkFrom_39 : decode cX3_oddWalkFrom 39 = .ok (.ifCond .eq 92, 3) := by decide +kernel
theorem dX3_oddWalkFrom_42 : decode cX3_oddWalkFrom 42 = .ok (.aload_n 0, 1) := by decide +kernel
theorem dX3_oddWalkFrom_43 : decode cX3_oddWalkFrom 43 = .ok (.getfield 27, 3) := by decide +kernel
theorem dX3_oddWalkFrom_46 : decode cX3_oddWalkFrom 46 = .ok (.aload_n 0, 1) := by decide +kernel
theorem dX3_oddWalkFrom_47 : decode cX3_oddWalkFrom 47 = .ok (.getfield 23, 3) := by decide +kernel
theorem dX3_oddWalkFrom_50 : decode cX3_oddWalkFrom 50 = .ok (.iload 6, 2) := by decide +kernel
theorem dX3_oddWalkFrom_52 : decode cX3_oddWalkFrom 52 = .ok (.iconst 1, 1) := by decide +kernel
theorem dX3_oddWalkFrom_53 : decode cX3_oddWalkFrom 53 = .ok (.isub, 1) := by decide +kernel
theorem dX3_oddWalkFrom_54 : decode cX3_oddWalkFrom 54 = .ok (.laload, 1) := by decide +kernel
theorem dX3_oddWalkFrom_55 : decode cX3_oddWalkFrom 55 = .ok (.invokevirtual 50, 3) := by decide +kernel
theorem dX3_oddWalkFrom_58 : decode cX3_oddWalkFrom 58 = .ok (.lstore 7, 2) := by decide +kernel
theorem dX3_oddWalkFrom_60 : decode cX3_oddWalkFrom 60 = .ok (.iload 6, 2) := by decide +kernel
theorem dX3_oddWalkFrom_62 : decode cX3_oddWalkFrom 62 = .ok (.iconst 1, 1) := by decide +kernel
theorem dX3_oddWalkFrom_63 : decode cX3_oddWalkFrom 63 = .ok (.iand, 1) := by decide +kernel
theorem dX3_oddWalkFrom_64 : decode cX3_oddWalkFrom 64 = .ok (.ifCond .eq 38, 3) := by decide +kernel
theorem dX3_oddWalkFrom_67 : decode cX3_oddWalkFrom 67 = .ok (.aload_n 0, 1) := by decide +kernel
theorem dX3_oddWalkFrom_68 : decode cX3_oddWalkFrom 68 = .ok (.getfield 23, 3) := by decide +kernel
theorem dX3_oddWalkFrom_71 : decode cX3_oddWalkFrom 71 = .ok (.iload 6, 2) := by decide +kernel
theorem dX3_oddWalkFrom_73 : decode cX3_oddWalkFrom 73 = .ok (.lload 7, 2) := by decide +kernel
theorem dX3_oddWalkFrom_75 : decode cX3_oddWalkFrom 75 = .ok (.lload_n 2, 1) := by decide +kernel
theorem dX3_oddWalkFrom_76 : decode cX3_oddWalkFrom 76 = .ok (.ldc2_w 54, 3) := by decide +kernel
theorem dX3_oddWalkFrom_79 : decode cX3_oddWalkFrom 79 = .ok (.lxor, 1) := by decide +kernel
theorem dX3_oddWalkFrom_80 : decode cX3_oddWalkFrom 80 = .ok (.land, 1) := by decide +kernel
theorem dX3_oddWalkFrom_81 : decode cX3_oddWalkFrom 81 = .ok (.lastore, 1) := by decide +kernel
theorem dX3_oddWalkFrom_82 : decode cX3_oddWalkFrom 82 = .ok (.lload_n 2, 1) := by decide +kernel
theorem dX3_oddWalkFrom_83 : decode cX3_oddWalkFrom 83 = .ok (.lload 7, 2) := by decide +kernel
theorem dX3_oddWalkFrom_85 : decode cX3_oddWalkFrom 85 = .ok (.lor, 1) := by decide +kernel
theorem dX3_oddWalkFrom_86 : decode cX3_oddWalkFrom 86 = .ok (.lstore_n 2, 1) := by decide +kernel
theorem dX3_oddWalkFrom_87 : decode cX3_oddWalkFrom 87 = .ok (.lload 7, 2) := by decide +kernel
theorem dX3_oddWalkFrom_89 : decode cX3_oddWalkFrom 89 = .ok (.iload_n 1, 1) := by decide +kernel
theorem dX3_oddWalkFrom_90 : decode cX3_oddWalkFrom 90 = .ok (.invokestatic 46, 3) := by decide +kernel
theorem dX3_oddWalkFrom_93 : decode cX3_oddWalkFrom 93 = .ok (.land, 1) := by decide +kernel
theorem dX3_oddWalkFrom_94 : decode cX3_oddWalkFrom 94 = .ok (.lconst 0, 1) := by decide +kernel
theorem dX3_oddWalkFrom_95 : decode cX3_oddWalkFrom 95 = .ok (.lcmp, 1) := by decide +kernel
theorem dX3_oddWalkFrom_96 : decode cX3_oddWalkFrom 96 = .ok (.ifCond .eq 29, 3) := by decide +kernel
theorem dX3_oddWalkFrom_99 : decode cX3_oddWalkFrom 99 = .ok (.iload 6, 2) := by decide +kernel
theorem dX3_oddWalkFrom_101 : decode cX3_oddWalkFrom 101 = .ok (.ireturn, 1) := by decide +kernel
theorem dX3_oddWalkFrom_102 : decode cX3_oddWalkFrom 102 = .ok (.aload_n 0, 1) := by decide +kernel
theorem dX3_oddWalkFrom_103 : decode cX3_oddWalkFrom 103 = .ok (.getfield 23, 3) := by decide +kernel
theorem dX3_oddWalkFrom_106 : decode cX3_oddWalkFrom 106 = .ok (.iload 6, 2) := by decide +kernel
theorem dX3_oddWalkFrom_108 : decode cX3_oddWalkFrom 108 = .ok (.lload 7, 2) := by decide +kernel
theorem dX3_oddWalkFrom_110 : decode cX3_oddWalkFrom 110 = .ok (.lload 4, 2) := by decide +kernel
theorem dX3_oddWalkFrom_112 : decode cX3_oddWalkFrom 112 = .ok (.ldc2_w 54, 3) := by decide +kernel
theorem dX3_oddWalkFrom_115 : decode cX3_oddWalkFrom 115 = .ok (.lxor, 1) := by decide +kernel
theorem dX3_oddWalkFrom_116 : decode cX3_oddWalkFrom 116 = .ok (.land, 1) := by decide +kernel
theorem dX3_oddWalkFrom_117 : decode cX3_oddWalkFrom 117 = .ok (.lastore, 1) := by decide +kernel
theorem dX3_oddWalkFrom_118 : decode cX3_oddWalkFrom 118 = .ok (.lload 4, 2) := by decide +kernel
theorem dX3_oddWalkFrom_120 : decode cX3_oddWalkFrom 120 = .ok (.lload 7, 2) := by decide +kernel
theorem dX3_oddWalkFrom_122 : decode cX3_oddWalkFrom 122 = .ok (.lor, 1) := by decide +kernel
theorem dX3_oddWalkFrom_123 : decode cX3_oddWalkFrom 123 = .ok (.lstore 4, 2) := by decide +kernel
theorem dX3_oddWalkFrom_125 : decode cX3_oddWalkFrom 125 = .ok (.iinc 6 1, 3) := by decide +kernel
theorem dX3_oddWalkFrom_128 : decode cX3_oddWalkFrom 128 = .ok (.goto (-107), 3) := by decide +kernel
theorem dX3_oddWalkFrom_131 : decode cX3_oddWalkFrom 131 = .ok (.iconst 0, 1) := by decide +kernel
theorem dX3_oddWalkFrom_132 : decode cX3_oddWalkFrom 132 = .ok (.ireturn, 1) := by decide +kernel
set_option maxRecDepth 20000 in
theorem ggX3_fillRow_X3_oddWalkFrom : GoodIn wsX3_fillRow wsX3_oddWalkFrom := goodIn_r _ [10, 5, 3, 11, 12, 13, 14, 15, 16, 17, 18, 19, 20, 21, 27, 28, 29, 30, 31, 32, 33, 34, 35, 36, 37, 38, 39, 40] (by decide +kernel) (by decide +kernel)
set_option maxRecDepth 20000 in
theorem gX3_fillRow_X3_oddWalkFrom : GoodIn wsX3_fillRow (wsV RX3 39 RX3 yX3_oddWalkFrom wsX3_oddWalkFrom) := goodIn_app (goodIn_of _ (by decide +kernel)) ggX3_fillRow_X3_oddWalkFrom
set_option maxRecDepth 20000 in
theorem ggX3_fillRow_X3_leastOf : GoodIn wsX3_fillRow wsX3_leastOf := goodIn_r _ [25, 3, 26, 12, 13, 14, 27, 28, 29, 30, 31, 32, 33, 34, 35, 36, 37, 38, 39, 40] (by decide +kernel) (by decide +kernel)
set_option maxRecDepth 20000 in
theorem gX3_fillRow_X3_leastOf : GoodIn wsX3_fillRow (wsV RX3 59 RX3 yX3_leastOf wsX3_leastOf) := goodIn_app (goodIn_of _ (by decide +kernel)) ggX3_fillRow_X3_leastOf
theorem dX3_fillRow_0 : decode cX3_fillRow 0 = .ok (.aload_n 0, 1) := by decide +kernel
theorem dX3_fillRow_1 : decode cX3_fillRow 1 = .ok (.aload_n 0, 1) := by decide +kernel
theorem dX3_fillRow_2 : decode cX3_fillRow 2 = .ok (.getfield 19, 3) := by decide +kernel
theorem dX3_fillRow_5 : decode cX3_fillRow 5 = .ok (.iconst 0, 1) := by decide +kernel
theorem dX3_fillRow_6 : decode cX3_fillRow 6 = .ok (.iaload, 1) := by decide +kernel
theorem dX3_fillRow_7 : decode cX3_fillRow 7 = .ok (.invokevirtual 39, 3) := by decide +kernel
theorem dX3_fillRow_10 : decode cX3_fillRow 10 = .ok (.pop, 1) := by decide +kernel
theorem dX3_fillRow_11 : decode cX3_fillRow 11 = .ok (.iconst 1, 1) := by decide +kernel
theorem dX3_fillRow_12 : decode cX3_fillRow 12 = .ok (.istore_n 1, 1) := by decide +kernel
theorem dX3_fillRow_13 : decode cX3_fillRow 13 = .ok (.iload_n 1, 1) := by decide +kernel
theorem dX3_fillRow_14 : decode cX3_fillRow 14 = .ok (.aload_n 0, 1) := by decide +kernel
theorem dX3_fillRow_15 : decode cX3_fillRow 15 = .ok (.getfield 15, 3) := by decide +kernel
theorem dX3_fillRow_18 : decode cX3_fillRow 18 = .ok (.if_icmp .ge 47, 3) := by decide +kernel
theorem dX3_fillRow_21 : decode cX3_fillRow 21 = .ok (.aload_n 0, 1) := by decide +kernel
theorem dX3_fillRow_22 : decode cX3_fillRow 22 = .ok (.getfield 19, 3) := by decide +kernel
theorem dX3_fillRow_25 : decode cX3_fillRow 25 = .ok (.iload_n 1, 1) := by decide +kernel
theorem dX3_fillRow_26 : decode cX3_fillRow 26 = .ok (.aload_n 0, 1) := by decide +kernel
theorem dX3_fillRow_27 : decode cX3_fillRow 27 = .ok (.aload_n 0, 1) := by decide +kernel
theorem dX3_fillRow_28 : decode cX3_fillRow 28 = .ok (.getfield 27, 3) := by decide +kernel
theorem dX3_fillRow_31 : decode cX3_fillRow 31 = .ok (.getfield 56, 3) := by decide +kernel
theorem dX3_fillRow_34 : decode cX3_fillRow 34 = .ok (.aload_n 0, 1) := by decide +kernel
theorem dX3_fillRow_35 : decode cX3_fillRow 35 = .ok (.getfield 19, 3) := by decide +kernel
theorem dX3_fillRow_38 : decode cX3_fillRow 38 = .ok (.iload_n 1, 1) := by decide +kernel
theorem dX3_fillRow_39 : decode cX3_fillRow 39 = .ok (.iconst 1, 1) := by decide +kernel
theorem dX3_fillRow_40 : decode cX3_fillRow 40 = .ok (.isub, 1) := by decide +kernel
theorem dX3_fillRow_41 : decode cX3_fillRow 41 = .ok (.iaload, 1) := by decide +kernel
theorem dX3_fillRow_42 : decode cX3_fillRow 42 = .ok (.laload, 1) := by decide +kernel
theorem dX3_fillRow_43 : decode cX3_fillRow 43 = .ok (.aload_n 0, 1) := by decide +kernel
theorem dX3_fillRow_44 : decode cX3_fillRow 44 = .ok (.getfield 23, 3) := by decide +kernel
theorem dX3_fillRow_47 : decode cX3_fillRow 47 = .ok (.aload_n 0, 1) := by decide +kernel
theorem dX3_fillRow_48 : decode cX3_fillRow 48 = .ok (.getfield 15, 3) := by decide +kernel
theorem dX3_fillRow_51 : decode cX3_fillRow 51 = .ok (.iload_n 1, 1) := by decide +kernel
theorem dX3_fillRow_52 : decode cX3_fillRow 52 = .ok (.isub, 1) := by decide +kernel
theorem dX3_fillRow_53 : decode cX3_fillRow 53 = .ok (.laload, 1) := by decide +kernel
theorem dX3_fillRow_54 : decode cX3_fillRow 54 = .ok (.land, 1) := by decide +kernel
theorem dX3_fillRow_55 : decode cX3_fillRow 55 = .ok (.invokevirtual 59, 3) := by decide +kernel
theorem dX3_fillRow_58 : decode cX3_fillRow 58 = .ok (.iastore, 1) := by decide +kernel
theorem dX3_fillRow_59 : decode cX3_fillRow 59 = .ok (.iinc 1 1, 3) := by decide +kernel
theorem dX3_fillRow_62 : decode cX3_fillRow 62 = .ok (.goto (-49), 3) := by decide +kernel
theorem dX3_fillRow_65 : decode cX3_fillRow 65 = .ok (.return_, 1) := by decide +kernel
set_option maxRecDepth 20000 in
theorem ggX3_leastOf_X4_bit : GoodIn wsX3_leastOf wsX4_bit := goodIn_r _ [5] (by decide +kernel) (by decide +kernel)
set_option maxRecDepth 20000 in
theorem gX3_leastOf_X4_bit_n46 : GoodIn wsX3_leastOf (wsX4_bit) := ggX3_leastOf_X4_bit
theorem dX3_leastOf_0 : decode cX3_leastOf 0 = .ok (.iconst 0, 1) := by decide +kernel
theorem dX3_leastOf_1 : decode cX3_leastOf 1 = .ok (.istore_n 3, 1) := by decide +kernel
theorem dX3_leastOf_2 : decode cX3_leastOf 2 = .ok (.iload_n 3, 1) := by decide +kernel
theorem dX3_leastOf_3 : decode cX3_leastOf 3 = .ok (.aload_n 0, 1) := by decide +kernel
theorem dX3_leastOf_4 : decode cX3_leastOf 4 = .ok (.getfield 27, 3) := by decide +kernel
theorem dX3_leastOf_7 : decode cX3_leastOf 7 = .ok (.getfield 34, 3) := by decide +kernel
theorem dX3_leastOf_10 : decode cX3_leastOf 10 = .ok (.iconst 1, 1) := by decide +kernel
theorem dX3_leastOf_11 : decode cX3_leastOf 11 = .ok (.isub, 1) := by decide +kernel
theorem dX3_leastOf_12 : decode cX3_leastOf 12 = .ok (.if_icmp .ge 20, 3) := by decide +kernel
theorem dX3_leastOf_15 : decode cX3_leastOf 15 = .ok (.lload_n 1, 1) := by decide +kernel
theorem dX3_leastOf_16 : decode cX3_leastOf 16 = .ok (.iload_n 3, 1) := by decide +kernel
theorem dX3_leastOf_17 : decode cX3_leastOf 17 = .ok (.invokestatic 46, 3) := by decide +kernel
theorem dX3_leastOf_20 : decode cX3_leastOf 20 = .ok (.land, 1) := by decide +kernel
theorem dX3_leastOf_21 : decode cX3_leastOf 21 = .ok (.lconst 0, 1) := by decide +kernel
theorem dX3_leastOf_22 : decode cX3_leastOf 22 = .ok (.lcmp, 1) := by decide +kernel
theorem dX3_leastOf_23 : decode cX3_leastOf 23 = .ok (.ifCond .ne 9, 3) := by decide +kernel
theorem dX3_leastOf_26 : decode cX3_leastOf 26 = .ok (.iinc 3 1, 3) := by decide +kernel
theorem dX3_leastOf_29 : decode cX3_leastOf 29 = .ok (.goto (-27), 3) := by decide +kernel
theorem dX3_leastOf_32 : decode cX3_leastOf 32 = .ok (.iload_n 3, 1) := by decide +kernel
theorem dX3_leastOf_33 : decode cX3_leastOf 33 = .ok (.ireturn, 1) := by decide +kernel
