theorem dX0_init_0 : decode cX0_init 0 = .ok (.aload_n 0, 1) := by decide +kernel
theorem dX0_init_1 : decode cX0_init 1 = .ok (.invokespecial 3, 3) := by decide +kernel
theorem dX0_init_4 : decode cX0_init 4 = .ok (.aload_n 0, 1) := by decide +kernel
theorem dX0_init_5 : decode cX0_init 5 = .ok (.iconst 0, 1) := by decide +kernel
theorem dX0_init_6 : decode cX0_init 6 = .ok (.putfield 9, 3) := by decide +kernel
theorem dX0_init_9 : decode cX0_init 9 = .ok (.aload_n 0, 1) := by decide +kernel
theorem dX0_init_10 : decode cX0_init 10 = .ok (.iconst 0, 1) := by decide +kernel
theorem dX0_init_11 : decode cX0_init 11 = .ok (.putfield 15, 3) := by decide +kernel
theorem dX0_init_14 : decode cX0_init 14 = .ok (.aload_n 0, 1) := by decide +kernel
theorem dX0_init_15 : decode cX0_init 15 = .ok (.iconst 0, 1) := by decide +kernel
theorem dX0_init_16 : decode cX0_init 16 = .ok (.putfield 19, 3) := by decide +kernel
theorem dX0_init_19 : decode cX0_init 19 = .ok (.aload_n 0, 1) := by decide +kernel
theorem dX0_init_20 : decode cX0_init 20 = .ok (.iconst 0, 1) := by decide +kernel
theorem dX0_init_21 : decode cX0_init 21 = .ok (.putfield 22, 3) := by decide +kernel
theorem dX0_init_24 : decode cX0_init 24 = .ok (.aload_n 0, 1) := by decide +kernel
theorem dX0_init_25 : decode cX0_init 25 = .ok (.bipush 40, 2) := by decide +kernel
theorem dX0_init_27 : decode cX0_init 27 = .ok (.newarray .int, 2) := by decide +kernel
theorem dX0_init_29 : decode cX0_init 29 = .ok (.putfield 25, 3) := by decide +kernel
theorem dX0_init_32 : decode cX0_init 32 = .ok (.aload_n 0, 1) := by decide +kernel
theorem dX0_init_33 : decode cX0_init 33 = .ok (.bipush 40, 2) := by decide +kernel
theorem dX0_init_35 : decode cX0_init 35 = .ok (.newarray .long, 2) := by decide +kernel
theorem dX0_init_37 : decode cX0_init 37 = .ok (.putfield 29, 3) := by decide +kernel
theorem dX0_init_40 : decode cX0_init 40 = .ok (.aload_n 0, 1) := by decide +kernel
theorem dX0_init_41 : decode cX0_init 41 = .ok (.bipush 40, 2) := by decide +kernel
theorem dX0_init_43 : decode cX0_init 43 = .ok (.newarray .boolean, 2) := by decide +kernel
theorem dX0_init_45 : decode cX0_init 45 = .ok (.putfield 33, 3) := by decide +kernel
theorem dX0_init_48 : decode cX0_init 48 = .ok (.aload_n 0, 1) := by decide +kernel
theorem dX0_init_49 : decode cX0_init 49 = .ok (.bipush 40, 2) := by decide +kernel
theorem dX0_init_51 : decode cX0_init 51 = .ok (.newarray .int, 2) := by decide +kernel
theorem dX0_init_53 : decode cX0_init 53 = .ok (.putfield 37, 3) := by decide +kernel
theorem dX0_init_56 : decode cX0_init 56 = .ok (.aload_n 0, 1) := by decide +kernel
theorem dX0_init_57 : decode cX0_init 57 = .ok (.aload_n 1, 1) := by decide +kernel
theorem dX0_init_58 : decode cX0_init 58 = .ok (.putfield 40, 3) := by decide +kernel
theorem dX0_init_61 : decode cX0_init 61 = .ok (.return_, 1) := by decide +kernel
set_option maxRecDepth 20000 in
theorem ggX0_refresh_X0_numberParts : GoodIn wsX0_refresh wsX0_numberParts := goodIn_r _ [6, 7, 8, 9, 10, 11, 12, 13, 14, 15, 16, 17, 18, 5, 19, 20, 21, 22, 23, 24, 25, 26, 27, 28, 29, 66, 67, 68, 69, 70, 71, 72, 73, 74, 75, 76, 77, 78, 79, 80, 81, 82, 83] (by decide +kernel) (by decide +kernel)
set_option maxRecDepth 20000 in
theorem gX0_refresh_X0_numberParts : GoodIn wsX0_refresh (wsV RX0 44 RX0 yX0_numberParts wsX0_numberParts) := goodIn_app (goodIn_of _ (by decide +kernel)) ggX0_refresh_X0_numberParts
set_option maxRecDepth 20000 in
theorem ggX0_refresh_X0_findNear : GoodIn wsX0_refresh wsX0_findNear := goodIn_r _ [33, 34, 9, 10, 35, 36, 37, 5, 38, 11, 21, 12, 13, 14, 15, 39, 40, 41, 42, 43, 44, 45, 46, 47, 48, 49, 50, 51, 52, 53, 54, 55, 56, 57, 58, 28, 59, 60, 61, 62, 63, 64, 65, 66, 67, 68, 69, 70, 71, 72, 73, 74, 75, 76, 77, 78, 79, 80, 81, 82, 83] (by decide +kernel) (by decide +kernel)
set_option maxRecDepth 20000 in
theorem gX0_refresh_X0_findNear : GoodIn wsX0_refresh (wsV RX0 47 RX0 yX0_findNear wsX0_findNear) := goodIn_app (goodIn_of _ (by decide +kernel)) ggX0_refresh_X0_findNear
theorem dX0_refresh_0 : decode cX0_refresh 0 = .ok (.aload_n 0, 1) := by decide +kernel
theorem dX0_refresh_1 : decode cX0_refresh 1 = .ok (.getfield 9, 3) := by decide +kernel
theorem dX0_refresh_4 : decode cX0_refresh 4 = .ok (.ifCond .ne 16, 3) := by decide +kernel
theorem dX0_refresh_7 : decode cX0_refresh 7 = .ok (.aload_n 0, 1) := by decide +kernel
theorem dX0_refresh_8 : decode cX0_refresh 8 = .ok (.invokevirtual 44, 3) := by decide +kernel
theorem dX0_refresh_11 : decode cX0_refresh 11 = .ok (.aload_n 0, 1) := by decide +kernel
theorem dX0_refresh_12 : decode cX0_refresh 12 = .ok (.invokevirtual 47, 3) := by decide +kernel
theorem dX0_refresh_15 : decode cX0_refresh 15 = .ok (.aload_n 0, 1) := by decide +kernel
theorem dX0_refresh_16 : decode cX0_refresh 16 = .ok (.iconst 1, 1) := by decide +kernel
theorem dX0_refresh_17 : decode cX0_refresh 17 = .ok (.putfield 9, 3) := by decide +kernel
theorem dX0_refresh_20 : decode cX0_refresh 20 = .ok (.return_, 1) := by decide +kernel
set_option maxRecDepth 20000 in
theorem ggX0_numberParts_X2_slot : GoodIn wsX0_numberParts wsX2_slot := goodIn_r _ [9] (by decide +kernel) (by decide +kernel)
set_option maxRecDepth 20000 in
theorem gX0_numberParts_X2_slot : GoodIn wsX0_numberParts (va_wsS RX0 58 yX2_slot wsX2_slot) := goodIn_app (goodIn_of _ (by decide +kernel)) ggX0_numberParts_X2_slot
set_option maxRecDepth 20000 in
theorem ggX0_numberParts_X0_addToParts : GoodIn wsX0_numberParts wsX0_addToParts := goodIn_r _ [14, 3, 15, 2, 16, 1, 17, 18, 19, 20, 21, 13, 22, 23, 24, 25, 26, 27, 28, 29, 30, 31, 32, 33, 34, 35, 36, 37, 38, 39, 40, 41, 42] (by decide +kernel) (by decide +kernel)
set_option maxRecDepth 20000 in
theorem gX0_numberParts_X0_addToParts : GoodIn wsX0_numberParts (wsV RX0 62 RX0 yX0_addToParts wsX0_addToParts) := goodIn_app (goodIn_of _ (by decide +kernel)) ggX0_numberParts_X0_addToParts
theorem dX0_numberParts_0 : decode cX0_numberParts 0 = .ok (.aload_n 0, 1) := by decide +kernel
theorem dX0_numberParts_1 : decode cX0_numberParts 1 = .ok (.iconst 0, 1) := by decide +kernel
theorem dX0_numberParts_2 : decode cX0_numberParts 2 = .ok (.putfield 15, 3) := by decide +kernel
theorem dX0_numberParts_5 : decode cX0_numberParts 5 = .ok (.aload_n 0, 1) := by decide +kernel
theorem dX0_numberParts_6 : decode cX0_numberParts 6 = .ok (.iconst 0, 1) := by decide +kernel
theorem dX0_numberParts_7 : decode cX0_numberParts 7 = .ok (.putfield 22, 3) := by decide +kernel
theorem dX0_numberParts_10 : decode cX0_numberParts 10 = .ok (.iconst 0, 1) := by decide +kernel
theorem dX0_numberParts_11 : decode cX0_numberParts 11 = .ok (.istore_n 1, 1) := by decide +kernel
theorem dX0_numberParts_12 : decode cX0_numberParts 12 = .ok (.iload_n 1, 1) := by decide +kernel
theorem dX0_numberParts_13 : decode cX0_numberParts 13 = .ok (.aload_n 0, 1) := by decide +kernel
theorem dX0_numberParts_14 : decode cX0_numberParts 14 = .ok (.getfield 40, 3) := by decide +kernel
theorem dX0_numberParts_17 : decode cX0_numberParts 17 = .ok (.getfield 50, 3) := by decide +kernel
theorem dX0_numberParts_20 : decode cX0_numberParts 20 = .ok (.if_icmp .ge 40, 3) := by decide +kernel
theorem dX0_numberParts_23 : decode cX0_numberParts 23 = .ok (.iconst 0, 1) := by decide +kernel
theorem dX0_numberParts_24 : decode cX0_numberParts 24 = .ok (.istore_n 2, 1) := by decide +kernel
theorem dX0_numberParts_25 : decode cX0_numberParts 25 = .ok (.iload_n 2, 1) := by decide +kernel
theorem dX0_numberParts_26 : decode cX0_numberParts 26 = .ok (.aload_n 0, 1) := by decide +kernel
theorem dX0_numberParts_27 : decode cX0_numberParts 27 = .ok (.getfield 40, 3) := by decide +kernel
theorem dX0_numberParts_30 : decode cX0_numberParts 30 = .ok (.getfield 55, 3) := by decide +kernel
theorem dX0_numberParts_33 : decode cX0_numberParts 33 = .ok (.iload_n 1, 1) := by decide +kernel
theorem dX0_numberParts_34 : decode cX0_numberParts 34 = .ok (.iaload, 1) := by decide +kernel
theorem dX0_numberParts_35 : decode cX0_numberParts 35 = .ok (.if_icmp .ge 19, 3) := by decide +kernel
theorem dX0_numberParts_38 : decode cX0_numberParts 38 = .ok (.aload_n 0, 1) := by decide +kernel
theorem dX0_numberParts_39 : decode cX0_numberParts 39 = .ok (.iload_n 2, 1) := by decide +kernel
theorem dX0_numberParts_40 : decode cX0_numberParts 40 = .ok (.iload_n 1, 1) := by decide +kernel
theorem dX0_numberParts_41 : decode cX0_numberParts 41 = .ok (.iload_n 2, 1) := by decide +kernel
theorem dX0_numberParts_42 : decode cX0_numberParts 42 = .ok (.invokestatic 58, 3) := by decide +kernel
theorem dX0_numberParts_45 : decode cX0_numberParts 45 = .ok (.invokevirtual 62, 3) := by decide +kernel
theorem dX0_numberParts_48 : decode cX0_numberParts 48 = .ok (.iinc 2 1, 3) := by decide +kernel
theorem dX0_numberParts_51 : decode cX0_numberParts 51 = .ok (.goto (-26), 3) := by decide +kernel
theorem dX0_numberParts_54 : decode cX0_numberParts 54 = .ok (.iinc 1 1, 3) := by decide +kernel
theorem dX0_numberParts_57 : decode cX0_numberParts 57 = .ok (.goto (-45), 3) := by decide +kernel
theorem dX0_numberParts_60 : decode cX0_numberParts 60 = .ok (.return_, 1) := by decide +kernel
set_option maxRecDepth 20000 in
theorem ggX0_addToParts_X0_openPart : GoodIn wsX0_addToParts wsX0_openPart := goodIn_r _ [12, 13, 5, 14, 7, 15, 16, 17, 18, 19, 20, 21, 22, 23] (by decide +kernel) (by decide +kernel)
set_option maxRecDepth 20000 in
theorem gX0_addToParts_X0_openPart : GoodIn wsX0_addToParts (wsV RX0 66 RX0 yX0_openPart wsX0_openPart) := goodIn_app (goodIn_of _ (by decide +kernel)) ggX0_addToParts_X0_openPart
theorem dX0_addToParts_0 : decode cX0_addToParts 0 = .ok (.iload_n 1, 1) := by decide +kernel
theorem dX0_addToParts_1 : decode cX0_addToParts 1 = .ok (.ifCond .ne 11, 3) := by decide +kernel
theorem dX0_addToParts_4 : decode cX0_addToParts 4 = .ok (.aload_n 0, 1) := by decide +kernel
theorem dX0_addToParts_5 : decode cX0_addToParts 5 = .ok (.iconst 0, 1) := by decide +kernel
theorem dX0_addToParts_6 : decode cX0_addToParts 6 = .ok (.invokevirtual 66, 3) := by decide +kernel
theorem dX0_addToParts_9 : decode cX0_addToParts 9 = .ok (.goto 32, 3) := by decide +kernel
theorem dX0_addToParts_12 : decode cX0_addToParts 12 = .ok (.aload_n 0, 1) := by decide +kernel
theorem dX0_addToParts_13 : decode cX0_addToParts 13 = .ok (.getfield 40, 3) := by decide +kernel
theorem dX0_addToParts_16 : decode cX0_addToParts 16 = .ok (.getfield 70, 3) := by decide +kernel
theorem dX0_addToParts_19 : decode cX0_addToParts 19 = .ok (.iload_n 2, 1) := by decide +kernel
theorem dX0_addToParts_20 : decode cX0_addToParts 20 = .ok (.iconst 1, 1) := by decide +kernel
theorem dX0_addToParts_21 : decode cX0_addToParts 21 = .ok (.isub, 1) := by decide +kernel
theorem dX0_addToParts_22 : decode cX0_addToParts 22 = .ok (.baload, 1) := by decide +kernel
theorem dX0_addToParts_23 : decode cX0_addToParts 23 = .ok (.ifCond .eq 18, 3) := by decide +kernel
theorem dX0_addToParts_26 : decode cX0_addToParts 26 = .ok (.aload_n 0, 1) := by decide +kernel
theorem dX0_addToParts_27 : decode cX0_addToParts 27 = .ok (.iconst 1, 1) := by decide +kernel
theorem dX0_addToParts_28 : decode cX0_addToParts 28 = .ok (.invokevirtual 66, 3) := by decide +kernel
theorem dX0_addToParts_31 : decode cX0_addToParts 31 = .ok (.aload_n 0, 1) := by decide +kernel
theorem dX0_addToParts_32 : decode cX0_addToParts 32 = .ok (.dup, 1) := by decide +kernel
theorem dX0_addToParts_33 : decode cX0_addToParts 33 = .ok (.getfield 22, 3) := by decide +kernel
theorem dX0_addToParts_36 : decode cX0_addToParts 36 = .ok (.iconst 1, 1) := by decide +kernel
theorem dX0_addToParts_37 : decode cX0_addToParts 37 = .ok (.iadd, 1) := by decide +kernel
theorem dX0_addToParts_38 : decode cX0_addToParts 38 = .ok (.putfield 22, 3) := by decide +kernel
theorem dX0_addToParts_41 : decode cX0_addToParts 41 = .ok (.aload_n 0, 1) := by decide +kernel
theorem dX0_addToParts_42 : decode cX0_addToParts 42 = .ok (.getfield 25, 3) := by decide +kernel
theorem dX0_addToParts_45 : decode cX0_addToParts 45 = .ok (.iload_n 2, 1) := by decide +kernel
theorem dX0_addToParts_46 : decode cX0_addToParts 46 = .ok (.aload_n 0, 1) := by decide +kernel
theorem dX0_addToParts_47 : decode cX0_addToParts 47 = .ok (.getfield 15, 3) := by decide +kernel
theorem dX0_addToParts_50 : decode cX0_addToParts 50 = .ok (.iconst 1, 1) := by decide +kernel
theorem dX0_addToParts_51 : decode cX0_addToParts 51 = .ok (.isub, 1) := by decide +kernel
theorem dX0_addToParts_52 : decode cX0_addToParts 52 = .ok (.iastore, 1) := by decide +kernel
theorem dX0_addToParts_53 : decode cX0_addToParts 53 = .ok (.aload_n 0, 1) := by decide +kernel
theorem dX0_addToParts_54 : decode cX0_addToParts 54 = .ok (.getfield 40, 3) := by decide +kernel
theorem dX0_addToParts_57 : decode cX0_addToParts 57 = .ok (.getfield 73, 3) := by decide +kernel
theorem dX0_addToParts_60 : decode cX0_addToParts 60 = .ok (.iload_n 2, 1) := by decide +kernel
theorem dX0_addToParts_61 : decode cX0_addToParts 61 = .ok (.iaload, 1) := by decide +kernel
theorem dX0_addToParts_62 : decode cX0_addToParts 62 = .ok (.iconst (-1), 1) := by decide +kernel
theorem dX0_addToParts_63 : decode cX0_addToParts 63 = .ok (.if_icmp .eq 28, 3) := by decide +kernel
theorem dX0_addToParts_66 : decode cX0_addToParts 66 = .ok (.aload_n 0, 1) := by decide +kernel
theorem dX0_addToParts_67 : decode cX0_addToParts 67 = .ok (.getfield 37, 3) := by decide +kernel
theorem dX0_addToParts_70 : decode cX0_addToParts 70 = .ok (.aload_n 0, 1) := by decide +kernel
theorem dX0_addToParts_71 : decode cX0_addToParts 71 = .ok (.getfield 15, 3) := by decide +kernel
theorem dX0_addToParts_74 : decode cX0_addToParts 74 = .ok (.iconst 1, 1) := by decide +kernel
theorem dX0_addToParts_75 : decode cX0_addToParts 75 = .ok (.isub, 1) := by decide +kernel
theorem dX0_addToParts_76 : decode cX0_addToParts 76 = .ok (.dup2, 1) := by decide +kernel
theorem dX0_addToParts_77 : decode cX0_addToParts 77 = .ok (.iaload, 1) := by decide +kernel
theorem dX0_addToParts_78 : decode cX0_addToParts 78 = .ok (.iconst 1, 1) := by decide +kernel
theorem dX0_addToParts_79 : decode cX0_addToParts 79 = .ok (.aload_n 0, 1) := by decide +kernel
theorem dX0_addToParts_80 : decode cX0_addToParts 80 = .ok (.getfield 40, 3) := by decide +kernel
theorem dX0_addToParts_83 : decode cX0_addToParts 83 = .ok (.getfield 73, 3) := by decide +kernel
theorem dX0_addToParts_86 : decode cX0_addToParts 86 = .ok (.iload_n 2, 1) := by decide +kernel
theorem dX0_addToParts_87 : decode cX0_addToParts 87 = .ok (.iaload, 1) := by decide +kernel
theorem dX0_addToParts_88 : decode cX0_addToParts 88 = .ok (.ishl, 1) := by decide +kernel
theorem dX0_addToParts_89 : decode cX0_addToParts 89 = .ok (.iand, 1) := by decide +kernel
theorem dX0_addToParts_90 : decode cX0_addToParts 90 = .ok (.iastore, 1) := by decide +kernel
theorem dX0_addToParts_91 : decode cX0_addToParts 91 = .ok (.return_, 1) := by decide +kernel
theorem dX0_openPart_0 : decode cX0_openPart 0 = .ok (.aload_n 0, 1) := by decide +kernel
theorem dX0_openPart_1 : decode cX0_openPart 1 = .ok (.getfield 29, 3) := by decide +kernel
theorem dX0_openPart_4 : decode cX0_openPart 4 = .ok (.aload_n 0, 1) := by decide +kernel
theorem dX0_openPart_5 : decode cX0_openPart 5 = .ok (.getfield 15, 3) := by decide +kernel
theorem dX0_openPart_8 : decode cX0_openPart 8 = .ok (.lconst 0, 1) := by decide +kernel
theorem dX0_openPart_9 : decode cX0_openPart 9 = .ok (.lastore, 1) := by decide +kernel
theorem dX0_openPart_10 : decode cX0_openPart 10 = .ok (.aload_n 0, 1) := by decide +kernel
theorem dX0_openPart_11 : decode cX0_openPart 11 = .ok (.getfield 33, 3) := by decide +kernel
theorem dX0_openPart_14 : decode cX0_openPart 14 = .ok (.aload_n 0, 1) := by decide +kernel
theorem dX0_openPart_15 : decode cX0_openPart 15 = .ok (.getfield 15, 3) := by decide +kernel
theorem dX0_openPart_18 : decode cX0_openPart 18 = .ok (.iload_n 1, 1) := by decide +kernel
theorem dX0_openPart_19 : decode cX0_openPart 19 = .ok (.bastore, 1) := by decide +kernel
theorem dX0_openPart_20 : decode cX0_openPart 20 = .ok (.aload_n 0, 1) := by decide +kernel
theorem dX0_openPart_21 : decode cX0_openPart 21 = .ok (.getfield 37, 3) := by decide +kernel
theorem dX0_openPart_24 : decode cX0_openPart 24 = .ok (.aload_n 0, 1) := by decide +kernel
theorem dX0_openPart_25 : decode cX0_openPart 25 = .ok (.getfield 15, 3) := by decide +kernel
theorem dX0_openPart_28 : decode cX0_openPart 28 = .ok (.bipush 15, 2) := by decide +kernel
theorem dX0_openPart_30 : decode cX0_openPart 30 = .ok (.iastore, 1) := by decide +kernel
theorem dX0_openPart_31 : decode cX0_openPart 31 = .ok (.aload_n 0, 1) := by decide +kernel
theorem dX0_openPart_32 : decode cX0_openPart 32 = .ok (.dup, 1) := by decide +kernel
theorem dX0_openPart_33 : decode cX0_openPart 33 = .ok (.getfield 15, 3) := by decide +kernel
theorem dX0_openPart_36 : decode cX0_openPart 36 = .ok (.iconst 1, 1) := by decide +kernel
theorem dX0_openPart_37 : decode cX0_openPart 37 = .ok (.iadd, 1) := by decide +kernel
theorem dX0_openPart_38 : decode cX0_openPart 38 = .ok (.putfield 15, 3) := by decide +kernel
theorem dX0_openPart_41 : decode cX0_openPart 41 = .ok (.return_, 1) := by decide +kernel
set_option maxRecDepth 20000 in
theorem ggX0_findNear_X0_linkNearBoxes : GoodIn wsX0_findNear wsX0_linkNearBoxes := goodIn_r _ [8, 2, 9, 10, 11, 12, 13, 14, 15, 16, 17, 18, 19, 20, 21, 22, 23, 24, 25, 26, 27, 28, 29, 30, 31, 32, 33, 7, 34, 35, 1, 36, 37, 38, 39, 40, 41, 42, 43, 44, 45, 46, 47, 48, 49, 50, 51, 52, 53, 54, 55, 56, 57, 58, 59, 60] (by decide +kernel) (by decide +kernel)
set_option maxRecDepth 20000 in
theorem gX0_findNear_X0_linkNearBoxes : GoodIn wsX0_findNear (wsV RX0 76 RX0 yX0_linkNearBoxes wsX0_linkNearBoxes) := goodIn_app (goodIn_of _ (by decide +kernel)) ggX0_findNear_X0_linkNearBoxes
theorem dX0_findNear_0 : decode cX0_findNear 0 = .ok (.aload_n 0, 1) := by decide +kernel
theorem dX0_findNear_1 : decode cX0_findNear 1 = .ok (.iconst 0, 1) := by decide +kernel
theorem dX0_findNear_2 : decode cX0_findNear 2 = .ok (.putfield 19, 3) := by decide +kernel
theorem dX0_findNear_5 : decode cX0_findNear 5 = .ok (.iconst 0, 1) := by decide +kernel
theorem dX0_findNear_6 : decode cX0_findNear 6 = .ok (.istore_n 1, 1) := by decide +kernel
theorem dX0_findNear_7 : decode cX0_findNear 7 = .ok (.iload_n 1, 1) := by decide +kernel
theorem dX0_findNear_8 : decode cX0_findNear 8 = .ok (.aload_n 0, 1) := by decide +kernel
theorem dX0_findNear_9 : decode cX0_findNear 9 = .ok (.getfield 40, 3) := by decide +kernel
theorem dX0_findNear_12 : decode cX0_findNear 12 = .ok (.getfield 50, 3) := by decide +kernel
theorem dX0_findNear_15 : decode cX0_findNear 15 = .ok (.if_icmp .ge 36, 3) := by decide +kernel
theorem dX0_findNear_18 : decode cX0_findNear 18 = .ok (.iload_n 1, 1) := by decide +kernel
theorem dX0_findNear_19 : decode cX0_findNear 19 = .ok (.iconst 1, 1) := by decide +kernel
theorem dX0_findNear_20 : decode cX0_findNear 20 = .ok (.iadd, 1) := by decide +kernel
theorem dX0_findNear_21 : decode cX0_findNear 21 = .ok (.istore_n 2, 1) := by decide +kernel
theorem dX0_findNear_22 : decode cX0_findNear 22 = .ok (.iload_n 2, 1) := by decide +kernel
theorem dX0_findNear_23 : decode cX0_findNear 23 = .ok (.aload_n 0, 1) := by decide +kernel
theorem dX0_findNear_24 : decode cX0_findNear 24 = .ok (.getfield 40, 3) := by decide +kernel
theorem dX0_findNear_27 : decode cX0_findNear 27 = .ok (.getfield 50, 3) := by decide +kernel
theorem dX0_findNear_30 : decode cX0_findNear 30 = .ok (.if_icmp .ge 15, 3) := by decide +kernel
theorem dX0_findNear_33 : decode cX0_findNear 33 = .ok (.aload_n 0, 1) := by decide +kernel
theorem dX0_findNear_34 : decode cX0_findNear 34 = .ok (.iload_n 1, 1) := by decide +kernel
theorem dX0_findNear_35 : decode cX0_findNear 35 = .ok (.iload_n 2, 1) := by decide +kernel
theorem dX0_findNear_36 : decode cX0_findNear 36 = .ok (.invokevirtual 76, 3) := by decide +kernel
theorem dX0_findNear_39 : decode cX0_findNear 39 = .ok (.iinc 2 1, 3) := by decide +kernel
theorem dX0_findNear_42 : decode cX0_findNear 42 = .ok (.goto (-20), 3) := by decide +kernel
theorem dX0_findNear_45 : decode cX0_findNear 45 = .ok (.iinc 1 1, 3) := by decide +kernel
theorem dX0_findNear_48 : decode cX0_findNear 48 = .ok (.goto (-41), 3) := by decide +kernel
theorem dX0_findNear_51 : decode cX0_findNear 51 = .ok (.return_, 1) := by decide +kernel
set_option maxRecDepth 20000 in
theorem ggX0_linkNearBoxes_X2_slot : GoodIn wsX0_linkNearBoxes wsX2_slot := goodIn_r _ [7] (by decide +kernel) (by decide +kernel)
set_option maxRecDepth 20000 in
theorem gX0_linkNearBoxes_X2_slot : GoodIn wsX0_linkNearBoxes (va_wsS RX0 58 yX2_slot wsX2_slot) := goodIn_app (goodIn_of _ (by decide +kernel)) ggX0_linkNearBoxes_X2_slot
set_option maxRecDepth 20000 in
theorem ggX0_linkNearBoxes_X2_tooNear : GoodIn wsX0_linkNearBoxes wsX2_tooNear := goodIn_r _ [11, 12, 13, 14, 15, 16, 17, 18, 6, 19, 20, 21, 22, 23, 47, 48, 49, 50, 51, 52, 53, 54, 55] (by decide +kernel) (by decide +kernel)
set_option maxRecDepth 20000 in
theorem gX0_linkNearBoxes_X2_tooNear : GoodIn wsX0_linkNearBoxes (wsV RX0 79 RX2 yX2_tooNear wsX2_tooNear) := goodIn_app (goodIn_of _ (by decide +kernel)) ggX0_linkNearBoxes_X2_tooNear
set_option maxRecDepth 20000 in
theorem ggX0_linkNearBoxes_X0_link : GoodIn wsX0_linkNearBoxes wsX0_link := goodIn_r _ [28, 29, 30, 31, 32, 33, 27, 34, 35, 36, 37, 38, 39, 40, 41, 42, 43, 44, 45, 46] (by decide +kernel) (by decide +kernel)
set_option maxRecDepth 20000 in
theorem gX0_linkNearBoxes_X0_link : GoodIn wsX0_linkNearBoxes (wsV RX0 83 RX0 yX0_link wsX0_link) := goodIn_app (goodIn_of _ (by decide +kernel)) ggX0_linkNearBoxes_X0_link
theorem dX0_linkNearBoxes_0 : decode cX0_linkNearBoxes 0 = .ok (.iconst 0, 1) := by decide +kernel
theorem dX0_linkNearBoxes_1 : decode cX0_linkNearBoxes 1 = .ok (.istore_n 3, 1) := by decide +kernel
theorem dX0_linkNearBoxes_2 : decode cX0_linkNearBoxes 2 = .ok (.iload_n 3, 1) := by decide +kernel
theorem dX0_linkNearBoxes_3 : decode cX0_linkNearBoxes 3 = .ok (.aload_n 0, 1) := by decide +kernel
theorem dX0_linkNearBoxes_4 : decode cX0_linkNearBoxes 4 = .ok (.getfield 40, 3) := by decide +kernel
theorem dX0_linkNearBoxes_7 : decode cX0_linkNearBoxes 7 = .ok (.getfield 55, 3) := by decide +kernel
theorem dX0_linkNearBoxes_10 : decode cX0_linkNearBoxes 10 = .ok (.iload_n 1, 1) := by decide +kernel
theorem dX0_linkNearBoxes_11 : decode cX0_linkNearBoxes 11 = .ok (.iaload, 1) := by decide +kernel
theorem dX0_linkNearBoxes_12 : decode cX0_linkNearBoxes 12 = .ok (.if_icmp .ge 79, 3) := by decide +kernel
theorem dX0_linkNearBoxes_15 : decode cX0_linkNearBoxes 15 = .ok (.iload_n 1, 1) := by decide +kernel
theorem dX0_linkNearBoxes_16 : decode cX0_linkNearBoxes 16 = .ok (.iload_n 3, 1) := by decide +kernel
theorem dX0_linkNearBoxes_17 : decode cX0_linkNearBoxes 17 = .ok (.invokestatic 58, 3) := by decide +kernel
theorem dX0_linkNearBoxes_20 : decode cX0_linkNearBoxes 20 = .ok (.istore 4, 2) := by decide +kernel
theorem dX0_linkNearBoxes_22 : decode cX0_linkNearBoxes 22 = .ok (.iconst 0, 1) := by decide +kernel
theorem dX0_linkNearBoxes_23 : decode cX0_linkNearBoxes 23 = .ok (.istore 5, 2) := by decide +kernel
theorem dX0_linkNearBoxes_25 : decode cX0_linkNearBoxes 25 = .ok (.iload 5, 2) := by decide +kernel
theorem dX0_linkNearBoxes_27 : decode cX0_linkNearBoxes 27 = .ok (.aload_n 0, 1) := by decide +kernel
theorem dX0_linkNearBoxes_28 : decode cX0_linkNearBoxes 28 = .ok (.getfield 40, 3) := by decide +kernel
theorem dX0_linkNearBoxes_31 : decode cX0_linkNearBoxes 31 = .ok (.getfield 55, 3) := by decide +kernel
theorem dX0_linkNearBoxes_34 : decode cX0_linkNearBoxes 34 = .ok (.iload_n 2, 1) := by decide +kernel
theorem dX0_linkNearBoxes_35 : decode cX0_linkNearBoxes 35 = .ok (.iaload, 1) := by decide +kernel
theorem dX0_linkNearBoxes_36 : decode cX0_linkNearBoxes 36 = .ok (.if_icmp .ge 49, 3) := by decide +kernel
theorem dX0_linkNearBoxes_39 : decode cX0_linkNearBoxes 39 = .ok (.iload_n 2, 1) := by decide +kernel
theorem dX0_linkNearBoxes_40 : decode cX0_linkNearBoxes 40 = .ok (.iload 5, 2) := by decide +kernel
theorem dX0_linkNearBoxes_42 : decode cX0_linkNearBoxes 42 = .ok (.invokestatic 58, 3) := by decide +kernel
theorem dX0_linkNearBoxes_45 : decode cX0_linkNearBoxes 45 = .ok (.istore 6, 2) := by decide +kernel
theorem dX0_linkNearBoxes_47 : decode cX0_linkNearBoxes 47 = .ok (.aload_n 0, 1) := by decide +kernel
theorem dX0_linkNearBoxes_48 : decode cX0_linkNearBoxes 48 = .ok (.getfield 40, 3) := by decide +kernel
theorem dX0_linkNearBoxes_51 : decode cX0_linkNearBoxes 51 = .ok (.iload 4, 2) := by decide +kernel
theorem dX0_linkNearBoxes_53 : decode cX0_linkNearBoxes 53 = .ok (.iload 6, 2) := by decide +kernel
theorem dX0_linkNearBoxes_55 : decode cX0_linkNearBoxes 55 = .ok (.invokevirtual 79, 3) := by decide +kernel
theorem dX0_linkNearBoxes_58 : decode cX0_linkNearBoxes 58 = .ok (.ifCond .eq 21, 3) := by decide +kernel
theorem dX0_linkNearBoxes_61 : decode cX0_linkNearBoxes 61 = .ok (.aload_n 0, 1) := by decide +kernel
theorem dX0_linkNearBoxes_62 : decode cX0_linkNearBoxes 62 = .ok (.aload_n 0, 1) := by decide +kernel
theorem dX0_linkNearBoxes_63 : decode cX0_linkNearBoxes 63 = .ok (.getfield 25, 3) := by decide +kernel
theorem dX0_linkNearBoxes_66 : decode cX0_linkNearBoxes 66 = .ok (.iload 4, 2) := by decide +kernel
theorem dX0_linkNearBoxes_68 : decode cX0_linkNearBoxes 68 = .ok (.iaload, 1) := by decide +kernel
theorem dX0_linkNearBoxes_69 : decode cX0_linkNearBoxes 69 = .ok (.aload_n 0, 1) := by decide +kernel
theorem dX0_linkNearBoxes_70 : decode cX0_linkNearBoxes 70 = .ok (.getfield 25, 3) := by decide +kernel
theorem dX0_linkNearBoxes_73 : decode cX0_linkNearBoxes 73 = .ok (.iload 6, 2) := by decide +kernel
theorem dX0_linkNearBoxes_75 : decode cX0_linkNearBoxes 75 = .ok (.iaload, 1) := by decide +kernel
theorem dX0_linkNearBoxes_76 : decode cX0_linkNearBoxes 76 = .ok (.invokevirtual 83, 3) := by decide +kernel
theorem dX0_linkNearBoxes_79 : decode cX0_linkNearBoxes 79 = .ok (.iinc 5 1, 3) := by decide +kernel
theorem dX0_linkNearBoxes_82 : decode cX0_linkNearBoxes 82 = .ok (.goto (-57), 3) := by decide +kernel
theorem dX0_linkNearBoxes_85 : decode cX0_linkNearBoxes 85 = .ok (.iinc 3 1, 3) := by decide +kernel
theorem dX0_linkNearBoxes_88 : decode cX0_linkNearBoxes 88 = .ok (.goto (-86), 3) := by decide +kernel
theorem dX0_linkNearBoxes_91 : decode cX0_linkNearBoxes 91 = .ok (.return_, 1) := by decide +kernel
set_option maxRecDepth 20000 in
theorem ggX0_link_X0_areNear : GoodIn wsX0_link wsX0_areNear := goodIn_r _ [7, 1, 8, 9, 10, 11, 12, 13, 14, 15, 16, 17, 18, 19] (by decide +kernel) (by decide +kernel)
set_option maxRecDepth 20000 in
theorem gX0_link_X0_areNear : GoodIn wsX0_link (wsV RX0 86 RX0 yX0_areNear wsX0_areNear) := goodIn_app (goodIn_of _ (by decide +kernel)) ggX0_link_X0_areNear
set_option maxRecDepth 20000 in
theorem ggX0_link_X4_bit : GoodIn wsX0_link wsX4_bit := goodIn_r _ [10] (by decide +kernel) (by decide +kernel)
set_option maxRecDepth 20000 in
theorem gX0_link_X4_bit_n89 : GoodIn wsX0_link (wsX4_bit) := ggX0_link_X4_bit
theorem dX0_link_0 : decode cX0_link 0 = .ok (.aload_n 0, 1) := by decide +kernel
theorem dX0_link_1 : decode cX0_link 1 = .ok (.iload_n 1, 1) := by decide +kernel
theorem dX0_link_2 : decode cX0_link 2 = .ok (.iload_n 2, 1) := by decide +kernel
theorem dX0_link_3 : decode cX0_link 3 = .ok (.invokevirtual 86, 3) := by decide +kernel
theorem dX0_link_6 : decode cX0_link 6 = .ok (.ifCond .ne 39, 3) := by decide +kernel
theorem dX0_link_9 : decode cX0_link 9 = .ok (.aload_n 0, 1) := by decide +kernel
theorem dX0_link_10 : decode cX0_link 10 = .ok (.getfield 29, 3) := by decide +kernel
theorem dX0_link_13 : decode cX0_link 13 = .ok (.iload_n 1, 1) := by decide +kernel
theorem dX0_link_14 : decode cX0_link 14 = .ok (.dup2, 1) := by decide +kernel
theorem dX0_link_15 : decode cX0_link 15 = .ok (.laload, 1) := by decide +kernel
theorem dX0_link_16 : decode cX0_link 16 = .ok (.iload_n 2, 1) := by decide +kernel
theorem dX0_link_17 : decode cX0_link 17 = .ok (.invokestatic 89, 3) := by decide +kernel
theorem dX0_link_20 : decode cX0_link 20 = .ok (.lor, 1) := by decide +kernel
theorem dX0_link_21 : decode cX0_link 21 = .ok (.lastore, 1) := by decide +kernel
theorem dX0_link_22 : decode cX0_link 22 = .ok (.aload_n 0, 1) := by decide +kernel
theorem dX0_link_23 : decode cX0_link 23 = .ok (.getfield 29, 3) := by decide +kernel
theorem dX0_link_26 : decode cX0_link 26 = .ok (.iload_n 2, 1) := by decide +kernel
theorem dX0_link_27 : decode cX0_link 27 = .ok (.dup2, 1) := by decide +kernel
theorem dX0_link_28 : decode cX0_link 28 = .ok (.laload, 1) := by decide +kernel
theorem dX0_link_29 : decode cX0_link 29 = .ok (.iload_n 1, 1) := by decide +kernel
theorem dX0_link_30 : decode cX0_link 30 = .ok (.invokestatic 89, 3) := by decide +kernel
theorem dX0_link_33 : decode cX0_link 33 = .ok (.lor, 1) := by decide +kernel
theorem dX0_link_34 : decode cX0_link 34 = .ok (.lastore, 1) := by decide +kernel
theorem dX0_link_35 : decode cX0_link 35 = .ok (.aload_n 0, 1) := by decide +kernel
theorem dX0_link_36 : decode cX0_link 36 = .ok (.dup, 1) := by decide +kernel
theorem dX0_link_37 : decode cX0_link 37 = .ok (.getfield 19, 3) := by decide +kernel
theorem dX0_link_40 : decode cX0_link 40 = .ok (.iconst 1, 1) := by decide +kernel
theorem dX0_link_41 : decode cX0_link 41 = .ok (.iadd, 1) := by decide +kernel
theorem dX0_link_42 : decode cX0_link 42 = .ok (.putfield 19, 3) := by decide +kernel
theorem dX0_link_45 : decode cX0_link 45 = .ok (.return_, 1) := by decide +kernel
set_option maxRecDepth 20000 in
theorem ggX0_areNear_X4_bit : GoodIn wsX0_areNear wsX4_bit := goodIn_r _ [4] (by decide +kernel) (by decide +kernel)
set_option maxRecDepth 20000 in
theorem gX0_areNear_X4_bit_n89 : GoodIn wsX0_areNear (wsX4_bit) := ggX0_areNear_X4_bit
theorem dX0_areNear_0 : decode cX0_areNear 0 = .ok (.aload_n 0, 1) := by decide +kernel
theorem dX0_areNear_1 : decode cX0_areNear 1 = .ok (.getfield 29, 3) := by decide +kernel
theorem dX0_areNear_4 : decode cX0_areNear 4 = .ok (.iload_n 1, 1) := by decide +kernel
theorem dX0_areNear_5 : decode cX0_areNear 5 = .ok (.laload, 1) := by decide +kernel
theorem dX0_areNear_6 : decode cX0_areNear 6 = .ok (.iload_n 2, 1) := by decide +kernel
theorem dX0_areNear_7 : decode cX0_areNear 7 = .ok (.invokestatic 89, 3) := by decide +kernel
theorem dX0_areNear_10 : decode cX0_areNear 10 = .ok (.land, 1) := by decide +kernel
theorem dX0_areNear_11 : decode cX0_areNear 11 = .ok (.lconst 0, 1) := by decide +kernel
theorem dX0_areNear_12 : decode cX0_areNear 12 = .ok (.lcmp, 1) := by decide +kernel
theorem dX0_areNear_13 : decode cX0_areNear 13 = .ok (.ifCond .eq 7, 3) := by decide +kernel
theorem dX0_areNear_16 : decode cX0_areNear 16 = .ok (.iconst 1, 1) := by decide +kernel
theorem dX0_areNear_17 : decode cX0_areNear 17 = .ok (.goto 4, 3) := by decide +kernel
theorem dX0_areNear_20 : decode cX0_areNear 20 = .ok (.iconst 0, 1) := by decide +kernel
theorem dX0_areNear_21 : decode cX0_areNear 21 = .ok (.ireturn, 1) := by decide +kernel
set_option maxRecDepth 20000 in
theorem ggX0_partOfPair_X0_areNear : GoodIn wsX0_partOfPair wsX0_areNear := goodIn_r _ [6, 7, 8, 9, 10, 11, 12, 13, 14, 15, 16, 17, 18, 19] (by decide +kernel) (by decide +kernel)
set_option maxRecDepth 20000 in
theorem gX0_partOfPair_X0_areNear : GoodIn wsX0_partOfPair (wsV RX0 86 RX0 yX0_areNear wsX0_areNear) := goodIn_app (goodIn_of _ (by decide +kernel)) ggX0_partOfPair_X0_areNear
theorem dX0_partOfPair_0 : decode cX0_partOfPair 0 = .ok (.iload_n 1, 1) := by decide +kernel
theorem dX0_partOfPair_1 : decode cX0_partOfPair 1 = .ok (.istore_n 3, 1) := by decide +kernel
theorem dX0_partOfPair_2 : decode cX0_partOfPair 2 = .ok (.iconst 0, 1) := by decide +kernel
theorem dX0_partOfPair_3 : decode cX0_partOfPair 3 = .ok (.istore 4, 2) := by decide +kernel
theorem dX0_partOfPair_5 : decode cX0_partOfPair 5 = .ok (.iload 4, 2) := by decide +kernel
theorem dX0_partOfPair_7 : decode cX0_partOfPair 7 = .ok (.aload_n 0, 1) := by decide +kernel
theorem dX0_partOfPair_8 : decode cX0_partOfPair 8 = .ok (.getfield 15, 3) := by decide +kernel
theorem dX0_partOfPair_11 : decode cX0_partOfPair 11 = .ok (.if_icmp .ge 60, 3) := by decide +kernel
theorem dX0_partOfPair_14 : decode cX0_partOfPair 14 = .ok (.iload 4, 2) := by decide +kernel
theorem dX0_partOfPair_16 : decode cX0_partOfPair 16 = .ok (.iconst 1, 1) := by decide +kernel
theorem dX0_partOfPair_17 : decode cX0_partOfPair 17 = .ok (.iadd, 1) := by decide +kernel
theorem dX0_partOfPair_18 : decode cX0_partOfPair 18 = .ok (.istore 5, 2) := by decide +kernel
theorem dX0_partOfPair_20 : decode cX0_partOfPair 20 = .ok (.iload 5, 2) := by decide +kernel
theorem dX0_partOfPair_22 : decode cX0_partOfPair 22 = .ok (.aload_n 0, 1) := by decide +kernel
theorem dX0_partOfPair_23 : decode cX0_partOfPair 23 = .ok (.getfield 15, 3) := by decide +kernel
theorem dX0_partOfPair_26 : decode cX0_partOfPair 26 = .ok (.if_icmp .ge 39, 3) := by decide +kernel
theorem dX0_partOfPair_29 : decode cX0_partOfPair 29 = .ok (.aload_n 0, 1) := by decide +kernel
theorem dX0_partOfPair_30 : decode cX0_partOfPair 30 = .ok (.iload 4, 2) := by decide +kernel
theorem dX0_partOfPair_32 : decode cX0_partOfPair 32 = .ok (.iload 5, 2) := by decide +kernel
theorem dX0_partOfPair_34 : decode cX0_partOfPair 34 = .ok (.invokevirtual 86, 3) := by decide +kernel
theorem dX0_partOfPair_37 : decode cX0_partOfPair 37 = .ok (.ifCond .eq 22, 3) := by decide +kernel
theorem dX0_partOfPair_40 : decode cX0_partOfPair 40 = .ok (.iload_n 3, 1) := by decide +kernel
theorem dX0_partOfPair_41 : decode cX0_partOfPair 41 = .ok (.ifCond .ne 15, 3) := by decide +kernel
theorem dX0_partOfPair_44 : decode cX0_partOfPair 44 = .ok (.iload_n 2, 1) := by decide +kernel
theorem dX0_partOfPair_45 : decode cX0_partOfPair 45 = .ok (.ifCond .ne 8, 3) := by decide +kernel
theorem dX0_partOfPair_48 : decode cX0_partOfPair 48 = .ok (.iload 4, 2) := by decide +kernel
theorem dX0_partOfPair_50 : decode cX0_partOfPair 50 = .ok (.goto 5, 3) := by decide +kernel
theorem dX0_partOfPair_53 : decode cX0_partOfPair 53 = .ok (.iload 5, 2) := by decide +kernel
theorem dX0_partOfPair_55 : decode cX0_partOfPair 55 = .ok (.ireturn, 1) := by decide +kernel
theorem dX0_partOfPair_56 : decode cX0_partOfPair 56 = .ok (.iinc 3 (-1), 3) := by decide +kernel
theorem dX0_partOfPair_59 : decode cX0_partOfPair 59 = .ok (.iinc 5 1, 3) := by decide +kernel
theorem dX0_partOfPair_62 : decode cX0_partOfPair 62 = .ok (.goto (-42), 3) := by decide +kernel
theorem dX0_partOfPair_65 : decode cX0_partOfPair 65 = .ok (.iinc 4 1, 3) := by decide +kernel
theorem dX0_partOfPair_68 : decode cX0_partOfPair 68 = .ok (.goto (-63), 3) := by decide +kernel
theorem dX0_partOfPair_71 : decode cX0_partOfPair 71 = .ok (.iconst (-1), 1) := by decide +kernel
theorem dX0_partOfPair_72 : decode cX0_partOfPair 72 = .ok (.ireturn, 1) := by decide +kernel
set_option maxRecDepth 20000 in
theorem ggX0_nearTo_X4_bit : GoodIn wsX0_nearTo wsX4_bit := goodIn_r _ [5] (by decide +kernel) (by decide +kernel)
set_option maxRecDepth 20000 in
theorem gX0_nearTo_X4_bit_n89 : GoodIn wsX0_nearTo (wsX4_bit) := ggX0_nearTo_X4_bit
theorem dX0_nearTo_0 : decode cX0_nearTo 0 = .ok (.lconst 0, 1) := by decide +kernel
theorem dX0_nearTo_1 : decode cX0_nearTo 1 = .ok (.lstore_n 3, 1) := by decide +kernel
theorem dX0_nearTo_2 : decode cX0_nearTo 2 = .ok (.iconst 0, 1) := by decide +kernel
theorem dX0_nearTo_3 : decode cX0_nearTo 3 = .ok (.istore 5, 2) := by decide +kernel
theorem dX0_nearTo_5 : decode cX0_nearTo 5 = .ok (.iload 5, 2) := by decide +kernel
theorem dX0_nearTo_7 : decode cX0_nearTo 7 = .ok (.aload_n 0, 1) := by decide +kernel
theorem dX0_nearTo_8 : decode cX0_nearTo 8 = .ok (.getfield 15, 3) := by decide +kernel
theorem dX0_nearTo_11 : decode cX0_nearTo 11 = .ok (.if_icmp .ge 31, 3) := by decide +kernel
theorem dX0_nearTo_14 : decode cX0_nearTo 14 = .ok (.lload_n 1, 1) := by decide +kernel
theorem dX0_nearTo_15 : decode cX0_nearTo 15 = .ok (.iload 5, 2) := by decide +kernel
theorem dX0_nearTo_17 : decode cX0_nearTo 17 = .ok (.invokestatic 89, 3) := by decide +kernel
theorem dX0_nearTo_20 : decode cX0_nearTo 20 = .ok (.land, 1) := by decide +kernel
theorem dX0_nearTo_21 : decode cX0_nearTo 21 = .ok (.lconst 0, 1) := by decide +kernel
theorem dX0_nearTo_22 : decode cX0_nearTo 22 = .ok (.lcmp, 1) := by decide +kernel
theorem dX0_nearTo_23 : decode cX0_nearTo 23 = .ok (.ifCond .eq 13, 3) := by decide +kernel
theorem dX0_nearTo_26 : decode cX0_nearTo 26 = .ok (.lload_n 3, 1) := by decide +kernel
theorem dX0_nearTo_27 : decode cX0_nearTo 27 = .ok (.aload_n 0, 1) := by decide +kernel
theorem dX0_nearTo_28 : decode cX0_nearTo 28 = .ok (.getfield 29, 3) := by decide +kernel
theorem dX0_nearTo_31 : decode cX0_nearTo 31 = .ok (.iload 5, 2) := by decide +kernel
theorem dX0_nearTo_33 : decode cX0_nearTo 33 = .ok (.laload, 1) := by decide +kernel
theorem dX0_nearTo_34 : decode cX0_nearTo 34 = .ok (.lor, 1) := by decide +kernel
theorem dX0_nearTo_35 : decode cX0_nearTo 35 = .ok (.lstore_n 3, 1) := by decide +kernel
theorem dX0_nearTo_36 : decode cX0_nearTo 36 = .ok (.iinc 5 1, 3) := by decide +kernel
theorem dX0_nearTo_39 : decode cX0_nearTo 39 = .ok (.goto (-34), 3) := by decide +kernel
theorem dX0_nearTo_42 : decode cX0_nearTo 42 = .ok (.lload_n 3, 1) := by decide +kernel
theorem dX0_nearTo_43 : decode cX0_nearTo 43 = .ok (.lreturn, 1) := by decide +kernel
set_option maxRecDepth 20000 in
theorem ggX0_countGroups_X4_bit : GoodIn wsX0_countGroups wsX4_bit := goodIn_r _ [4] (by decide +kernel) (by decide +kernel)
set_option maxRecDepth 20000 in
theorem gX0_countGroups_X4_bit_n89 : GoodIn wsX0_countGroups (wsX4_bit) := ggX0_countGroups_X4_bit
set_option maxRecDepth 20000 in
theorem ggX0_countGroups_X0_groupOf : GoodIn wsX0_countGroups wsX0_groupOf := goodIn_r _ [9, 1, 2, 3, 4, 10, 11, 12, 8, 13, 14, 15, 16, 17, 18, 19, 20, 21, 22, 23, 24, 25, 26, 27, 28] (by decide +kernel) (by decide +kernel)
set_option maxRecDepth 20000 in
theorem gX0_countGroups_X0_groupOf : GoodIn wsX0_countGroups (wsV RX0 93 RX0 yX0_groupOf wsX0_groupOf) := goodIn_app (goodIn_of _ (by decide +kernel)) ggX0_countGroups_X0_groupOf
theorem dX0_countGroups_0 : decode cX0_countGroups 0 = .ok (.iconst 0, 1) := by decide +kernel
theorem dX0_countGroups_1 : decode cX0_countGroups 1 = .ok (.istore_n 1, 1) := by decide +kernel
theorem dX0_countGroups_2 : decode cX0_countGroups 2 = .ok (.lconst 0, 1) := by decide +kernel
theorem dX0_countGroups_3 : decode cX0_countGroups 3 = .ok (.lstore_n 2, 1) := by decide +kernel
theorem dX0_countGroups_4 : decode cX0_countGroups 4 = .ok (.iconst 0, 1) := by decide +kernel
theorem dX0_countGroups_5 : decode cX0_countGroups 5 = .ok (.istore 4, 2) := by decide +kernel
theorem dX0_countGroups_7 : decode cX0_countGroups 7 = .ok (.iload 4, 2) := by decide +kernel
theorem dX0_countGroups_9 : decode cX0_countGroups 9 = .ok (.aload_n 0, 1) := by decide +kernel
theorem dX0_countGroups_10 : decode cX0_countGroups 10 = .ok (.getfield 15, 3) := by decide +kernel
theorem dX0_countGroups_13 : decode cX0_countGroups 13 = .ok (.if_icmp .ge 33, 3) := by decide +kernel
theorem dX0_countGroups_16 : decode cX0_countGroups 16 = .ok (.lload_n 2, 1) := by decide +kernel
theorem dX0_countGroups_17 : decode cX0_countGroups 17 = .ok (.iload 4, 2) := by decide +kernel
theorem dX0_countGroups_19 : decode cX0_countGroups 19 = .ok (.invokestatic 89, 3) := by decide +kernel
theorem dX0_countGroups_22 : decode cX0_countGroups 22 = .ok (.land, 1) := by decide +kernel
theorem dX0_countGroups_23 : decode cX0_countGroups 23 = .ok (.lconst 0, 1) := by decide +kernel
theorem dX0_countGroups_24 : decode cX0_countGroups 24 = .ok (.lcmp, 1) := by decide +kernel
theorem dX0_countGroups_25 : decode cX0_countGroups 25 = .ok (.ifCond .ne 15, 3) := by decide +kernel
theorem dX0_countGroups_28 : decode cX0_countGroups 28 = .ok (.lload_n 2, 1) := by decide +kernel
theorem dX0_countGroups_29 : decode cX0_countGroups 29 = .ok (.aload_n 0, 1) := by decide +kernel
theorem dX0_countGroups_30 : decode cX0_countGroups 30 = .ok (.iload 4, 2) := by decide +kernel
theorem dX0_countGroups_32 : decode cX0_countGroups 32 = .ok (.invokevirtual 93, 3) := by decide +kernel
theorem dX0_countGroups_35 : decode cX0_countGroups 35 = .ok (.lor, 1) := by decide +kernel
theorem dX0_countGroups_36 : decode cX0_countGroups 36 = .ok (.lstore_n 2, 1) := by decide +kernel
theorem dX0_countGroups_37 : decode cX0_countGroups 37 = .ok (.iinc 1 1, 3) := by decide +kernel
theorem dX0_countGroups_40 : decode cX0_countGroups 40 = .ok (.iinc 4 1, 3) := by decide +kernel
theorem dX0_countGroups_43 : decode cX0_countGroups 43 = .ok (.goto (-36), 3) := by decide +kernel
theorem dX0_countGroups_46 : decode cX0_countGroups 46 = .ok (.iload_n 1, 1) := by decide +kernel
theorem dX0_countGroups_47 : decode cX0_countGroups 47 = .ok (.ireturn, 1) := by decide +kernel
set_option maxRecDepth 20000 in
theorem ggX0_groupOf_X4_bit : GoodIn wsX0_groupOf wsX4_bit := goodIn_r _ [4] (by decide +kernel) (by decide +kernel)
set_option maxRecDepth 20000 in
theorem gX0_groupOf_X4_bit_n89 : GoodIn wsX0_groupOf (wsX4_bit) := ggX0_groupOf_X4_bit
set_option maxRecDepth 20000 in
theorem ggX0_groupOf_X0_nearTo : GoodIn wsX0_groupOf wsX0_nearTo := goodIn_r _ [9, 1, 10, 2, 3, 4, 16, 17, 18, 19, 20, 21, 22, 23, 24] (by decide +kernel) (by decide +kernel)
set_option maxRecDepth 20000 in
theorem gX0_groupOf_X0_nearTo : GoodIn wsX0_groupOf (wsV RX0 96 RX0 yX0_nearTo wsX0_nearTo) := goodIn_app (goodIn_of _ (by decide +kernel)) ggX0_groupOf_X0_nearTo
set_option maxRecDepth 20000 in
theorem ggX0_groupOf_X0_stitchedTo : GoodIn wsX0_groupOf wsX0_stitchedTo := goodIn_r _ [14, 1, 15, 2, 3, 4, 16, 17, 18, 19, 20, 21, 22, 23, 24] (by decide +kernel) (by decide +kernel)
set_option maxRecDepth 20000 in
theorem gX0_groupOf_X0_stitchedTo : GoodIn wsX0_groupOf (wsV RX0 100 RX0 yX0_stitchedTo wsX0_stitchedTo) := goodIn_app (goodIn_of _ (by decide +kernel)) ggX0_groupOf_X0_stitchedTo
theorem dX0_groupOf_0 : decode cX0_groupOf 0 = .ok (.iload_n 1, 1) := by decide +kernel
theorem dX0_groupOf_1 : decode cX0_groupOf 1 = .ok (.invokestatic 89, 3) := by decide +kernel
theorem dX0_groupOf_4 : decode cX0_groupOf 4 = .ok (.lstore_n 2, 1) := by decide +kernel
theorem dX0_groupOf_5 : decode cX0_groupOf 5 = .ok (.lconst 0, 1) := by decide +kernel
theorem dX0_groupOf_6 : decode cX0_groupOf 6 = .ok (.lstore 4, 2) := by decide +kernel
theorem dX0_groupOf_8 : decode cX0_groupOf 8 = .ok (.iconst 0, 1) := by decide +kernel
theorem dX0_groupOf_9 : decode cX0_groupOf 9 = .ok (.istore 6, 2) := by decide +kernel
theorem dX0_groupOf_11 : decode cX0_groupOf 11 = .ok (.iload 6, 2) := by decide +kernel
theorem dX0_groupOf_13 : decode cX0_groupOf 13 = .ok (.aload_n 0, 1) := by decide +kernel
theorem dX0_groupOf_14 : decode cX0_groupOf 14 = .ok (.getfield 15, 3) := by decide +kernel
theorem dX0_groupOf_17 : decode cX0_groupOf 17 = .ok (.if_icmp .ge 33, 3) := by decide +kernel
theorem dX0_groupOf_20 : decode cX0_groupOf 20 = .ok (.lload_n 2, 1) := by decide +kernel
theorem dX0_groupOf_21 : decode cX0_groupOf 21 = .ok (.lload 4, 2) := by decide +kernel
theorem dX0_groupOf_23 : decode cX0_groupOf 23 = .ok (.lcmp, 1) := by decide +kernel
