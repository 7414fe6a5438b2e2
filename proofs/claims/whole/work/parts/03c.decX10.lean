theorem dX1_init_0 : decode cX1_init 0 = .ok (.aload_n 0, 1) := by decide +kernel
theorem dX1_init_1 : decode cX1_init 1 = .ok (.invokespecial 3, 3) := by decide +kernel
theorem dX1_init_4 : decode cX1_init 4 = .ok (.aload_n 0, 1) := by decide +kernel
theorem dX1_init_5 : decode cX1_init 5 = .ok (.iconst (-1), 1) := by decide +kernel
theorem dX1_init_6 : decode cX1_init 6 = .ok (.putfield 9, 3) := by decide +kernel
theorem dX1_init_9 : decode cX1_init 9 = .ok (.aload_n 0, 1) := by decide +kernel
theorem dX1_init_10 : decode cX1_init 10 = .ok (.iconst 0, 1) := by decide +kernel
theorem dX1_init_11 : decode cX1_init 11 = .ok (.putfield 15, 3) := by decide +kernel
theorem dX1_init_14 : decode cX1_init 14 = .ok (.aload_n 0, 1) := by decide +kernel
theorem dX1_init_15 : decode cX1_init 15 = .ok (.bipush 40, 2) := by decide +kernel
theorem dX1_init_17 : decode cX1_init 17 = .ok (.newarray .int, 2) := by decide +kernel
theorem dX1_init_19 : decode cX1_init 19 = .ok (.putfield 18, 3) := by decide +kernel
theorem dX1_init_22 : decode cX1_init 22 = .ok (.aload_n 0, 1) := by decide +kernel
theorem dX1_init_23 : decode cX1_init 23 = .ok (.bipush 40, 2) := by decide +kernel
theorem dX1_init_25 : decode cX1_init 25 = .ok (.newarray .int, 2) := by decide +kernel
theorem dX1_init_27 : decode cX1_init 27 = .ok (.putfield 22, 3) := by decide +kernel
theorem dX1_init_30 : decode cX1_init 30 = .ok (.aload_n 0, 1) := by decide +kernel
theorem dX1_init_31 : decode cX1_init 31 = .ok (.iconst 4, 1) := by decide +kernel
theorem dX1_init_32 : decode cX1_init 32 = .ok (.newarray .long, 2) := by decide +kernel
theorem dX1_init_34 : decode cX1_init 34 = .ok (.putfield 25, 3) := by decide +kernel
theorem dX1_init_37 : decode cX1_init 37 = .ok (.aload_n 0, 1) := by decide +kernel
theorem dX1_init_38 : decode cX1_init 38 = .ok (.aload_n 1, 1) := by decide +kernel
theorem dX1_init_39 : decode cX1_init 39 = .ok (.putfield 29, 3) := by decide +kernel
theorem dX1_init_42 : decode cX1_init 42 = .ok (.return_, 1) := by decide +kernel
theorem dX1_clear_0 : decode cX1_clear 0 = .ok (.aload_n 0, 1) := by decide +kernel
theorem dX1_clear_1 : decode cX1_clear 1 = .ok (.iconst (-1), 1) := by decide +kernel
theorem dX1_clear_2 : decode cX1_clear 2 = .ok (.putfield 9, 3) := by decide +kernel
theorem dX1_clear_5 : decode cX1_clear 5 = .ok (.aload_n 0, 1) := by decide +kernel
theorem dX1_clear_6 : decode cX1_clear 6 = .ok (.iconst 0, 1) := by decide +kernel
theorem dX1_clear_7 : decode cX1_clear 7 = .ok (.putfield 15, 3) := by decide +kernel
theorem dX1_clear_10 : decode cX1_clear 10 = .ok (.return_, 1) := by decide +kernel
set_option maxRecDepth 20000 in
theorem ggX1_paint_X1_search : GoodIn wsX1_paint wsX1_search := goodIn_r _ [9, 3, 10, 11, 12, 1, 13, 14, 15, 16, 17, 18, 19, 8, 20, 21, 22, 23, 24, 25, 26, 27, 28, 29, 30, 31, 32, 33, 34, 35, 36, 37, 38, 39, 40, 41, 42, 43, 44, 45, 46, 47, 48, 49, 50, 51] (by decide +kernel) (by decide +kernel)
set_option maxRecDepth 20000 in
theorem gX1_paint_X1_search : GoodIn wsX1_paint (wsV RX1 38 RX1 yX1_search wsX1_search) := goodIn_app (goodIn_of _ (by decide +kernel)) ggX1_paint_X1_search
theorem dX1_paint_0 : decode cX1_paint 0 = .ok (.aload_n 0, 1) := by decide +kernel
theorem dX1_paint_1 : decode cX1_paint 1 = .ok (.iconst 0, 1) := by decide +kernel
theorem dX1_paint_2 : decode cX1_paint 2 = .ok (.putfield 15, 3) := by decide +kernel
theorem dX1_paint_5 : decode cX1_paint 5 = .ok (.aload_n 0, 1) := by decide +kernel
theorem dX1_paint_6 : decode cX1_paint 6 = .ok (.iconst 1, 1) := by decide +kernel
theorem dX1_paint_7 : decode cX1_paint 7 = .ok (.putfield 9, 3) := by decide +kernel
theorem dX1_paint_10 : decode cX1_paint 10 = .ok (.iconst 0, 1) := by decide +kernel
theorem dX1_paint_11 : decode cX1_paint 11 = .ok (.istore_n 3, 1) := by decide +kernel
theorem dX1_paint_12 : decode cX1_paint 12 = .ok (.iload_n 3, 1) := by decide +kernel
theorem dX1_paint_13 : decode cX1_paint 13 = .ok (.aload_n 0, 1) := by decide +kernel
theorem dX1_paint_14 : decode cX1_paint 14 = .ok (.getfield 29, 3) := by decide +kernel
theorem dX1_paint_17 : decode cX1_paint 17 = .ok (.getfield 33, 3) := by decide +kernel
theorem dX1_paint_20 : decode cX1_paint 20 = .ok (.if_icmp .gt 28, 3) := by decide +kernel
theorem dX1_paint_23 : decode cX1_paint 23 = .ok (.aload_n 0, 1) := by decide +kernel
theorem dX1_paint_24 : decode cX1_paint 24 = .ok (.getfield 9, 3) := by decide +kernel
theorem dX1_paint_27 : decode cX1_paint 27 = .ok (.iconst 1, 1) := by decide +kernel
theorem dX1_paint_28 : decode cX1_paint 28 = .ok (.if_icmp .ne 20, 3) := by decide +kernel
theorem dX1_paint_31 : decode cX1_paint 31 = .ok (.aload_n 0, 1) := by decide +kernel
theorem dX1_paint_32 : decode cX1_paint 32 = .ok (.aload_n 0, 1) := by decide +kernel
theorem dX1_paint_33 : decode cX1_paint 33 = .ok (.iload_n 1, 1) := by decide +kernel
theorem dX1_paint_34 : decode cX1_paint 34 = .ok (.iload_n 2, 1) := by decide +kernel
theorem dX1_paint_35 : decode cX1_paint 35 = .ok (.iload_n 3, 1) := by decide +kernel
theorem dX1_paint_36 : decode cX1_paint 36 = .ok (.invokevirtual 38, 3) := by decide +kernel
theorem dX1_paint_39 : decode cX1_paint 39 = .ok (.putfield 9, 3) := by decide +kernel
theorem dX1_paint_42 : decode cX1_paint 42 = .ok (.iinc 3 1, 3) := by decide +kernel
theorem dX1_paint_45 : decode cX1_paint 45 = .ok (.goto (-33), 3) := by decide +kernel
theorem dX1_paint_48 : decode cX1_paint 48 = .ok (.return_, 1) := by decide +kernel
theorem dX1_stitchesUsed_0 : decode cX1_stitchesUsed 0 = .ok (.aload_n 0, 1) := by decide +kernel
theorem dX1_stitchesUsed_1 : decode cX1_stitchesUsed 1 = .ok (.getfield 29, 3) := by decide +kernel
theorem dX1_stitchesUsed_4 : decode cX1_stitchesUsed 4 = .ok (.getfield 42, 3) := by decide +kernel
theorem dX1_stitchesUsed_7 : decode cX1_stitchesUsed 7 = .ok (.ifCond .ne 7, 3) := by decide +kernel
theorem dX1_stitchesUsed_10 : decode cX1_stitchesUsed 10 = .ok (.iconst 0, 1) := by decide +kernel
theorem dX1_stitchesUsed_11 : decode cX1_stitchesUsed 11 = .ok (.goto 17, 3) := by decide +kernel
theorem dX1_stitchesUsed_14 : decode cX1_stitchesUsed 14 = .ok (.aload_n 0, 1) := by decide +kernel
theorem dX1_stitchesUsed_15 : decode cX1_stitchesUsed 15 = .ok (.getfield 22, 3) := by decide +kernel
theorem dX1_stitchesUsed_18 : decode cX1_stitchesUsed 18 = .ok (.aload_n 0, 1) := by decide +kernel
theorem dX1_stitchesUsed_19 : decode cX1_stitchesUsed 19 = .ok (.getfield 29, 3) := by decide +kernel
theorem dX1_stitchesUsed_22 : decode cX1_stitchesUsed 22 = .ok (.getfield 42, 3) := by decide +kernel
theorem dX1_stitchesUsed_25 : decode cX1_stitchesUsed 25 = .ok (.iconst 1, 1) := by decide +kernel
theorem dX1_stitchesUsed_26 : decode cX1_stitchesUsed 26 = .ok (.isub, 1) := by decide +kernel
theorem dX1_stitchesUsed_27 : decode cX1_stitchesUsed 27 = .ok (.iaload, 1) := by decide +kernel
theorem dX1_stitchesUsed_28 : decode cX1_stitchesUsed 28 = .ok (.ireturn, 1) := by decide +kernel
set_option maxRecDepth 20000 in
theorem ggX1_search_J7_fill_d0a16 : GoodIn wsX1_search wsJ7_fill_d0a16 := goodIn_r _ [9] (by decide +kernel) (by decide +kernel)
set_option maxRecDepth 20000 in
theorem gX1_search_J7_fill_d0a16 : GoodIn wsX1_search (va_wsS RX1 45 yJ7_fill_d0a16 wsJ7_fill_d0a16) := goodIn_app (goodIn_of _ (by decide +kernel)) ggX1_search_J7_fill_d0a16
set_option maxRecDepth 20000 in
theorem ggX1_search_X1_fits : GoodIn wsX1_search wsX1_fits := goodIn_r _ [14, 15, 1, 16, 4, 3, 17, 18, 19, 20, 13, 21, 22, 31, 32, 33, 34, 35, 36, 37, 38, 39, 40, 41, 42, 43, 44, 45] (by decide +kernel) (by decide +kernel)
set_option maxRecDepth 20000 in
theorem gX1_search_X1_fits : GoodIn wsX1_search (wsV RX1 51 RX1 yX1_fits wsX1_fits) := goodIn_app (goodIn_of _ (by decide +kernel)) ggX1_search_X1_fits
set_option maxRecDepth 20000 in
theorem ggX1_search_X4_bit : GoodIn wsX1_search wsX4_bit := goodIn_r _ [25] (by decide +kernel) (by decide +kernel)
set_option maxRecDepth 20000 in
theorem gX1_search_X4_bit_n55 : GoodIn wsX1_search (wsX4_bit) := ggX1_search_X4_bit
set_option maxRecDepth 20000 in
theorem ggX1_search_X1_goOn : GoodIn wsX1_search wsX1_goOn := goodIn_r _ [29, 3, 4, 30, 23, 24, 25, 31, 32, 33, 34, 35, 36] (by decide +kernel) (by decide +kernel)
set_option maxRecDepth 20000 in
theorem gX1_search_X1_goOn : GoodIn wsX1_search (wsV RX1 59 RX1 yX1_goOn wsX1_goOn) := goodIn_app (goodIn_of _ (by decide +kernel)) ggX1_search_X1_goOn
theorem dX1_search_0 : decode cX1_search 0 = .ok (.aload_n 0, 1) := by decide +kernel
theorem dX1_search_1 : decode cX1_search 1 = .ok (.getfield 29, 3) := by decide +kernel
theorem dX1_search_4 : decode cX1_search 4 = .ok (.getfield 42, 3) := by decide +kernel
theorem dX1_search_7 : decode cX1_search 7 = .ok (.ifCond .ne 5, 3) := by decide +kernel
theorem dX1_search_10 : decode cX1_search 10 = .ok (.iconst 0, 1) := by decide +kernel
theorem dX1_search_11 : decode cX1_search 11 = .ok (.ireturn, 1) := by decide +kernel
theorem dX1_search_12 : decode cX1_search 12 = .ok (.aload_n 0, 1) := by decide +kernel
theorem dX1_search_13 : decode cX1_search 13 = .ok (.getfield 25, 3) := by decide +kernel
theorem dX1_search_16 : decode cX1_search 16 = .ok (.lconst 0, 1) := by decide +kernel
theorem dX1_search_17 : decode cX1_search 17 = .ok (.invokestatic 45, 3) := by decide +kernel
theorem dX1_search_20 : decode cX1_search 20 = .ok (.iconst 0, 1) := by decide +kernel
theorem dX1_search_21 : decode cX1_search 21 = .ok (.istore 4, 2) := by decide +kernel
theorem dX1_search_23 : decode cX1_search 23 = .ok (.aload_n 0, 1) := by decide +kernel
theorem dX1_search_24 : decode cX1_search 24 = .ok (.getfield 18, 3) := by decide +kernel
theorem dX1_search_27 : decode cX1_search 27 = .ok (.iconst 0, 1) := by decide +kernel
theorem dX1_search_28 : decode cX1_search 28 = .ok (.iconst 0, 1) := by decide +kernel
theorem dX1_search_29 : decode cX1_search 29 = .ok (.iastore, 1) := by decide +kernel
theorem dX1_search_30 : decode cX1_search 30 = .ok (.aload_n 0, 1) := by decide +kernel
theorem dX1_search_31 : decode cX1_search 31 = .ok (.getfield 15, 3) := by decide +kernel
theorem dX1_search_34 : decode cX1_search 34 = .ok (.iload_n 2, 1) := by decide +kernel
theorem dX1_search_35 : decode cX1_search 35 = .ok (.if_icmp .ge 87, 3) := by decide +kernel
theorem dX1_search_38 : decode cX1_search 38 = .ok (.aload_n 0, 1) := by decide +kernel
theorem dX1_search_39 : decode cX1_search 39 = .ok (.dup, 1) := by decide +kernel
theorem dX1_search_40 : decode cX1_search 40 = .ok (.getfield 15, 3) := by decide +kernel
theorem dX1_search_43 : decode cX1_search 43 = .ok (.iconst 1, 1) := by decide +kernel
theorem dX1_search_44 : decode cX1_search 44 = .ok (.iadd, 1) := by decide +kernel
theorem dX1_search_45 : decode cX1_search 45 = .ok (.putfield 15, 3) := by decide +kernel
theorem dX1_search_48 : decode cX1_search 48 = .ok (.aload_n 0, 1) := by decide +kernel
theorem dX1_search_49 : decode cX1_search 49 = .ok (.iload 4, 2) := by decide +kernel
theorem dX1_search_51 : decode cX1_search 51 = .ok (.iload_n 3, 1) := by decide +kernel
theorem dX1_search_52 : decode cX1_search 52 = .ok (.invokevirtual 51, 3) := by decide +kernel
theorem dX1_search_55 : decode cX1_search 55 = .ok (.ifCond .eq 51, 3) := by decide +kernel
theorem dX1_search_58 : decode cX1_search 58 = .ok (.aload_n 0, 1) := by decide +kernel
theorem dX1_search_59 : decode cX1_search 59 = .ok (.getfield 25, 3) := by decide +kernel
theorem dX1_search_62 : decode cX1_search 62 = .ok (.aload_n 0, 1) := by decide +kernel
theorem dX1_search_63 : decode cX1_search 63 = .ok (.getfield 18, 3) := by decide +kernel
theorem dX1_search_66 : decode cX1_search 66 = .ok (.iload 4, 2) := by decide +kernel
theorem dX1_search_68 : decode cX1_search 68 = .ok (.iaload, 1) := by decide +kernel
theorem dX1_search_69 : decode cX1_search 69 = .ok (.dup2, 1) := by decide +kernel
theorem dX1_search_70 : decode cX1_search 70 = .ok (.laload, 1) := by decide +kernel
theorem dX1_search_71 : decode cX1_search 71 = .ok (.iload 4, 2) := by decide +kernel
theorem dX1_search_73 : decode cX1_search 73 = .ok (.invokestatic 55, 3) := by decide +kernel
theorem dX1_search_76 : decode cX1_search 76 = .ok (.lor, 1) := by decide +kernel
theorem dX1_search_77 : decode cX1_search 77 = .ok (.lastore, 1) := by decide +kernel
theorem dX1_search_78 : decode cX1_search 78 = .ok (.iinc 4 1, 3) := by decide +kernel
theorem dX1_search_81 : decode cX1_search 81 = .ok (.iload 4, 2) := by decide +kernel
theorem dX1_search_83 : decode cX1_search 83 = .ok (.aload_n 0, 1) := by decide +kernel
theorem dX1_search_84 : decode cX1_search 84 = .ok (.getfield 29, 3) := by decide +kernel
theorem dX1_search_87 : decode cX1_search 87 = .ok (.getfield 42, 3) := by decide +kernel
theorem dX1_search_90 : decode cX1_search 90 = .ok (.if_icmp .ne 5, 3) := by decide +kernel
theorem dX1_search_93 : decode cX1_search 93 = .ok (.iconst 0, 1) := by decide +kernel
theorem dX1_search_94 : decode cX1_search 94 = .ok (.ireturn, 1) := by decide +kernel
theorem dX1_search_95 : decode cX1_search 95 = .ok (.aload_n 0, 1) := by decide +kernel
theorem dX1_search_96 : decode cX1_search 96 = .ok (.getfield 18, 3) := by decide +kernel
theorem dX1_search_99 : decode cX1_search 99 = .ok (.iload 4, 2) := by decide +kernel
theorem dX1_search_101 : decode cX1_search 101 = .ok (.iconst 0, 1) := by decide +kernel
theorem dX1_search_102 : decode cX1_search 102 = .ok (.iastore, 1) := by decide +kernel
theorem dX1_search_103 : decode cX1_search 103 = .ok (.goto (-73), 3) := by decide +kernel
theorem dX1_search_106 : decode cX1_search 106 = .ok (.aload_n 0, 1) := by decide +kernel
theorem dX1_search_107 : decode cX1_search 107 = .ok (.iload 4, 2) := by decide +kernel
theorem dX1_search_109 : decode cX1_search 109 = .ok (.iload_n 1, 1) := by decide +kernel
theorem dX1_search_110 : decode cX1_search 110 = .ok (.invokevirtual 59, 3) := by decide +kernel
theorem dX1_search_113 : decode cX1_search 113 = .ok (.istore 4, 2) := by decide +kernel
theorem dX1_search_115 : decode cX1_search 115 = .ok (.iload 4, 2) := by decide +kernel
theorem dX1_search_117 : decode cX1_search 117 = .ok (.ifCond .ge (-87), 3) := by decide +kernel
theorem dX1_search_120 : decode cX1_search 120 = .ok (.iconst 1, 1) := by decide +kernel
theorem dX1_search_121 : decode cX1_search 121 = .ok (.ireturn, 1) := by decide +kernel
theorem dX1_search_122 : decode cX1_search 122 = .ok (.iconst 2, 1) := by decide +kernel
theorem dX1_search_123 : decode cX1_search 123 = .ok (.ireturn, 1) := by decide +kernel
set_option maxRecDepth 20000 in
theorem ggX1_fits_X1_usedWith : GoodIn wsX1_fits wsX1_usedWith := goodIn_r _ [11, 2, 12, 4, 1, 13, 14, 15, 16, 17, 18, 19, 20, 21, 22, 23, 24, 25, 26, 27] (by decide +kernel) (by decide +kernel)
set_option maxRecDepth 20000 in
theorem gX1_fits_X1_usedWith : GoodIn wsX1_fits (wsV RX1 63 RX1 yX1_usedWith wsX1_usedWith) := goodIn_app (goodIn_of _ (by decide +kernel)) ggX1_fits_X1_usedWith
theorem dX1_fits_0 : decode cX1_fits 0 = .ok (.aload_n 0, 1) := by decide +kernel
theorem dX1_fits_1 : decode cX1_fits 1 = .ok (.getfield 22, 3) := by decide +kernel
theorem dX1_fits_4 : decode cX1_fits 4 = .ok (.iload_n 1, 1) := by decide +kernel
theorem dX1_fits_5 : decode cX1_fits 5 = .ok (.aload_n 0, 1) := by decide +kernel
theorem dX1_fits_6 : decode cX1_fits 6 = .ok (.iload_n 1, 1) := by decide +kernel
theorem dX1_fits_7 : decode cX1_fits 7 = .ok (.invokevirtual 63, 3) := by decide +kernel
theorem dX1_fits_10 : decode cX1_fits 10 = .ok (.iastore, 1) := by decide +kernel
theorem dX1_fits_11 : decode cX1_fits 11 = .ok (.aload_n 0, 1) := by decide +kernel
theorem dX1_fits_12 : decode cX1_fits 12 = .ok (.getfield 29, 3) := by decide +kernel
theorem dX1_fits_15 : decode cX1_fits 15 = .ok (.getfield 67, 3) := by decide +kernel
theorem dX1_fits_18 : decode cX1_fits 18 = .ok (.iload_n 1, 1) := by decide +kernel
theorem dX1_fits_19 : decode cX1_fits 19 = .ok (.iaload, 1) := by decide +kernel
theorem dX1_fits_20 : decode cX1_fits 20 = .ok (.iconst 1, 1) := by decide +kernel
theorem dX1_fits_21 : decode cX1_fits 21 = .ok (.aload_n 0, 1) := by decide +kernel
theorem dX1_fits_22 : decode cX1_fits 22 = .ok (.getfield 18, 3) := by decide +kernel
theorem dX1_fits_25 : decode cX1_fits 25 = .ok (.iload_n 1, 1) := by decide +kernel
theorem dX1_fits_26 : decode cX1_fits 26 = .ok (.iaload, 1) := by decide +kernel
theorem dX1_fits_27 : decode cX1_fits 27 = .ok (.ishl, 1) := by decide +kernel
theorem dX1_fits_28 : decode cX1_fits 28 = .ok (.iand, 1) := by decide +kernel
theorem dX1_fits_29 : decode cX1_fits 29 = .ok (.ifCond .eq 43, 3) := by decide +kernel
theorem dX1_fits_32 : decode cX1_fits 32 = .ok (.aload_n 0, 1) := by decide +kernel
theorem dX1_fits_33 : decode cX1_fits 33 = .ok (.getfield 25, 3) := by decide +kernel
theorem dX1_fits_36 : decode cX1_fits 36 = .ok (.aload_n 0, 1) := by decide +kernel
theorem dX1_fits_37 : decode cX1_fits 37 = .ok (.getfield 18, 3) := by decide +kernel
theorem dX1_fits_40 : decode cX1_fits 40 = .ok (.iload_n 1, 1) := by decide +kernel
theorem dX1_fits_41 : decode cX1_fits 41 = .ok (.iaload, 1) := by decide +kernel
theorem dX1_fits_42 : decode cX1_fits 42 = .ok (.laload, 1) := by decide +kernel
theorem dX1_fits_43 : decode cX1_fits 43 = .ok (.aload_n 0, 1) := by decide +kernel
theorem dX1_fits_44 : decode cX1_fits 44 = .ok (.getfield 29, 3) := by decide +kernel
theorem dX1_fits_47 : decode cX1_fits 47 = .ok (.getfield 70, 3) := by decide +kernel
theorem dX1_fits_50 : decode cX1_fits 50 = .ok (.iload_n 1, 1) := by decide +kernel
theorem dX1_fits_51 : decode cX1_fits 51 = .ok (.laload, 1) := by decide +kernel
theorem dX1_fits_52 : decode cX1_fits 52 = .ok (.land, 1) := by decide +kernel
theorem dX1_fits_53 : decode cX1_fits 53 = .ok (.lconst 0, 1) := by decide +kernel
theorem dX1_fits_54 : decode cX1_fits 54 = .ok (.lcmp, 1) := by decide +kernel
theorem dX1_fits_55 : decode cX1_fits 55 = .ok (.ifCond .ne 17, 3) := by decide +kernel
theorem dX1_fits_58 : decode cX1_fits 58 = .ok (.aload_n 0, 1) := by decide +kernel
theorem dX1_fits_59 : decode cX1_fits 59 = .ok (.getfield 22, 3) := by decide +kernel
theorem dX1_fits_62 : decode cX1_fits 62 = .ok (.iload_n 1, 1) := by decide +kernel
theorem dX1_fits_63 : decode cX1_fits 63 = .ok (.iaload, 1) := by decide +kernel
theorem dX1_fits_64 : decode cX1_fits 64 = .ok (.iload_n 2, 1) := by decide +kernel
theorem dX1_fits_65 : decode cX1_fits 65 = .ok (.if_icmp .gt 7, 3) := by decide +kernel
theorem dX1_fits_68 : decode cX1_fits 68 = .ok (.iconst 1, 1) := by decide +kernel
theorem dX1_fits_69 : decode cX1_fits 69 = .ok (.goto 4, 3) := by decide +kernel
theorem dX1_fits_72 : decode cX1_fits 72 = .ok (.iconst 0, 1) := by decide +kernel
theorem dX1_fits_73 : decode cX1_fits 73 = .ok (.ireturn, 1) := by decide +kernel
theorem dX1_usedWith_0 : decode cX1_usedWith 0 = .ok (.iload_n 1, 1) := by decide +kernel
theorem dX1_usedWith_1 : decode cX1_usedWith 1 = .ok (.ifCond .ne 5, 3) := by decide +kernel
theorem dX1_usedWith_4 : decode cX1_usedWith 4 = .ok (.iconst 0, 1) := by decide +kernel
theorem dX1_usedWith_5 : decode cX1_usedWith 5 = .ok (.ireturn, 1) := by decide +kernel
theorem dX1_usedWith_6 : decode cX1_usedWith 6 = .ok (.aload_n 0, 1) := by decide +kernel
theorem dX1_usedWith_7 : decode cX1_usedWith 7 = .ok (.getfield 29, 3) := by decide +kernel
theorem dX1_usedWith_10 : decode cX1_usedWith 10 = .ok (.getfield 73, 3) := by decide +kernel
theorem dX1_usedWith_13 : decode cX1_usedWith 13 = .ok (.iload_n 1, 1) := by decide +kernel
theorem dX1_usedWith_14 : decode cX1_usedWith 14 = .ok (.baload, 1) := by decide +kernel
theorem dX1_usedWith_15 : decode cX1_usedWith 15 = .ok (.ifCond .eq 24, 3) := by decide +kernel
theorem dX1_usedWith_18 : decode cX1_usedWith 18 = .ok (.aload_n 0, 1) := by decide +kernel
theorem dX1_usedWith_19 : decode cX1_usedWith 19 = .ok (.getfield 18, 3) := by decide +kernel
theorem dX1_usedWith_22 : decode cX1_usedWith 22 = .ok (.iload_n 1, 1) := by decide +kernel
theorem dX1_usedWith_23 : decode cX1_usedWith 23 = .ok (.iaload, 1) := by decide +kernel
theorem dX1_usedWith_24 : decode cX1_usedWith 24 = .ok (.aload_n 0, 1) := by decide +kernel
theorem dX1_usedWith_25 : decode cX1_usedWith 25 = .ok (.getfield 18, 3) := by decide +kernel
theorem dX1_usedWith_28 : decode cX1_usedWith 28 = .ok (.iload_n 1, 1) := by decide +kernel
theorem dX1_usedWith_29 : decode cX1_usedWith 29 = .ok (.iconst 1, 1) := by decide +kernel
theorem dX1_usedWith_30 : decode cX1_usedWith 30 = .ok (.isub, 1) := by decide +kernel
theorem dX1_usedWith_31 : decode cX1_usedWith 31 = .ok (.iaload, 1) := by decide +kernel
theorem dX1_usedWith_32 : decode cX1_usedWith 32 = .ok (.if_icmp .eq 7, 3) := by decide +kernel
theorem dX1_usedWith_35 : decode cX1_usedWith 35 = .ok (.iconst 1, 1) := by decide +kernel
theorem dX1_usedWith_36 : decode cX1_usedWith 36 = .ok (.goto 4, 3) := by decide +kernel
theorem dX1_usedWith_39 : decode cX1_usedWith 39 = .ok (.iconst 0, 1) := by decide +kernel
theorem dX1_usedWith_40 : decode cX1_usedWith 40 = .ok (.istore_n 2, 1) := by decide +kernel
theorem dX1_usedWith_41 : decode cX1_usedWith 41 = .ok (.aload_n 0, 1) := by decide +kernel
theorem dX1_usedWith_42 : decode cX1_usedWith 42 = .ok (.getfield 22, 3) := by decide +kernel
theorem dX1_usedWith_45 : decode cX1_usedWith 45 = .ok (.iload_n 1, 1) := by decide +kernel
theorem dX1_usedWith_46 : decode cX1_usedWith 46 = .ok (.iconst 1, 1) := by decide +kernel
theorem dX1_usedWith_47 : decode cX1_usedWith 47 = .ok (.isub, 1) := by decide +kernel
theorem dX1_usedWith_48 : decode cX1_usedWith 48 = .ok (.iaload, 1) := by decide +kernel
theorem dX1_usedWith_49 : decode cX1_usedWith 49 = .ok (.iload_n 2, 1) := by decide +kernel
theorem dX1_usedWith_50 : decode cX1_usedWith 50 = .ok (.ifCond .eq 7, 3) := by decide +kernel
theorem dX1_usedWith_53 : decode cX1_usedWith 53 = .ok (.iconst 1, 1) := by decide +kernel
theorem dX1_usedWith_54 : decode cX1_usedWith 54 = .ok (.goto 4, 3) := by decide +kernel
theorem dX1_usedWith_57 : decode cX1_usedWith 57 = .ok (.iconst 0, 1) := by decide +kernel
theorem dX1_usedWith_58 : decode cX1_usedWith 58 = .ok (.iadd, 1) := by decide +kernel
theorem dX1_usedWith_59 : decode cX1_usedWith 59 = .ok (.ireturn, 1) := by decide +kernel
set_option maxRecDepth 20000 in
theorem ggX1_goOn_X4_bit : GoodIn wsX1_goOn wsX4_bit := goodIn_r _ [6] (by decide +kernel) (by decide +kernel)
set_option maxRecDepth 20000 in
theorem gX1_goOn_X4_bit_n55 : GoodIn wsX1_goOn (wsX4_bit) := ggX1_goOn_X4_bit
theorem dX1_goOn_0 : decode cX1_goOn 0 = .ok (.iload_n 1, 1) := by decide +kernel
theorem dX1_goOn_1 : decode cX1_goOn 1 = .ok (.istore_n 3, 1) := by decide +kernel
theorem dX1_goOn_2 : decode cX1_goOn 2 = .ok (.iload_n 3, 1) := by decide +kernel
theorem dX1_goOn_3 : decode cX1_goOn 3 = .ok (.ifCond .lt 55, 3) := by decide +kernel
theorem dX1_goOn_6 : decode cX1_goOn 6 = .ok (.aload_n 0, 1) := by decide +kernel
theorem dX1_goOn_7 : decode cX1_goOn 7 = .ok (.getfield 25, 3) := by decide +kernel
theorem dX1_goOn_10 : decode cX1_goOn 10 = .ok (.aload_n 0, 1) := by decide +kernel
theorem dX1_goOn_11 : decode cX1_goOn 11 = .ok (.getfield 18, 3) := by decide +kernel
theorem dX1_goOn_14 : decode cX1_goOn 14 = .ok (.iload_n 3, 1) := by decide +kernel
theorem dX1_goOn_15 : decode cX1_goOn 15 = .ok (.iaload, 1) := by decide +kernel
theorem dX1_goOn_16 : decode cX1_goOn 16 = .ok (.dup2, 1) := by decide +kernel
theorem dX1_goOn_17 : decode cX1_goOn 17 = .ok (.laload, 1) := by decide +kernel
theorem dX1_goOn_18 : decode cX1_goOn 18 = .ok (.iload_n 3, 1) := by decide +kernel
theorem dX1_goOn_19 : decode cX1_goOn 19 = .ok (.invokestatic 55, 3) := by decide +kernel
theorem dX1_goOn_22 : decode cX1_goOn 22 = .ok (.ldc2_w 77, 3) := by decide +kernel
theorem dX1_goOn_25 : decode cX1_goOn 25 = .ok (.lxor, 1) := by decide +kernel
theorem dX1_goOn_26 : decode cX1_goOn 26 = .ok (.land, 1) := by decide +kernel
theorem dX1_goOn_27 : decode cX1_goOn 27 = .ok (.lastore, 1) := by decide +kernel
theorem dX1_goOn_28 : decode cX1_goOn 28 = .ok (.aload_n 0, 1) := by decide +kernel
theorem dX1_goOn_29 : decode cX1_goOn 29 = .ok (.getfield 18, 3) := by decide +kernel
theorem dX1_goOn_32 : decode cX1_goOn 32 = .ok (.iload_n 3, 1) := by decide +kernel
theorem dX1_goOn_33 : decode cX1_goOn 33 = .ok (.iaload, 1) := by decide +kernel
theorem dX1_goOn_34 : decode cX1_goOn 34 = .ok (.iconst 1, 1) := by decide +kernel
theorem dX1_goOn_35 : decode cX1_goOn 35 = .ok (.iadd, 1) := by decide +kernel
theorem dX1_goOn_36 : decode cX1_goOn 36 = .ok (.iload_n 2, 1) := by decide +kernel
theorem dX1_goOn_37 : decode cX1_goOn 37 = .ok (.if_icmp .ge 15, 3) := by decide +kernel
theorem dX1_goOn_40 : decode cX1_goOn 40 = .ok (.aload_n 0, 1) := by decide +kernel
theorem dX1_goOn_41 : decode cX1_goOn 41 = .ok (.getfield 18, 3) := by decide +kernel
theorem dX1_goOn_44 : decode cX1_goOn 44 = .ok (.iload_n 3, 1) := by decide +kernel
theorem dX1_goOn_45 : decode cX1_goOn 45 = .ok (.dup2, 1) := by decide +kernel
theorem dX1_goOn_46 : decode cX1_goOn 46 = .ok (.iaload, 1) := by decide +kernel
theorem dX1_goOn_47 : decode cX1_goOn 47 = .ok (.iconst 1, 1) := by decide +kernel
theorem dX1_goOn_48 : decode cX1_goOn 48 = .ok (.iadd, 1) := by decide +kernel
theorem dX1_goOn_49 : decode cX1_goOn 49 = .ok (.iastore, 1) := by decide +kernel
theorem dX1_goOn_50 : decode cX1_goOn 50 = .ok (.iload_n 3, 1) := by decide +kernel
theorem dX1_goOn_51 : decode cX1_goOn 51 = .ok (.ireturn, 1) := by decide +kernel
theorem dX1_goOn_52 : decode cX1_goOn 52 = .ok (.iinc 3 (-1), 3) := by decide +kernel
theorem dX1_goOn_55 : decode cX1_goOn 55 = .ok (.goto (-53), 3) := by decide +kernel
theorem dX1_goOn_58 : decode cX1_goOn 58 = .ok (.iconst (-1), 1) := by decide +kernel
theorem dX1_goOn_59 : decode cX1_goOn 59 = .ok (.ireturn, 1) := by decide +kernel
