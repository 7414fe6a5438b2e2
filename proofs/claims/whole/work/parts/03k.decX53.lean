theorem dX5_walk_23 : decode cX5_walk 23 = .ok (.getfield 58, 3) := by decide +kernel
theorem dX5_walk_26 : decode cX5_walk 26 = .ok (.iload_n 3, 1) := by decide +kernel
theorem dX5_walk_27 : decode cX5_walk 27 = .ok (.iconst 1, 1) := by decide +kernel
theorem dX5_walk_28 : decode cX5_walk 28 = .ok (.isub, 1) := by decide +kernel
theorem dX5_walk_29 : decode cX5_walk 29 = .ok (.laload, 1) := by decide +kernel
theorem dX5_walk_30 : decode cX5_walk 30 = .ok (.invokevirtual 145, 3) := by decide +kernel
theorem dX5_walk_33 : decode cX5_walk 33 = .ok (.lastore, 1) := by decide +kernel
theorem dX5_walk_34 : decode cX5_walk 34 = .ok (.iinc 3 1, 3) := by decide +kernel
theorem dX5_walk_37 : decode cX5_walk 37 = .ok (.goto (-26), 3) := by decide +kernel
theorem dX5_walk_40 : decode cX5_walk 40 = .ok (.return_, 1) := by decide +kernel
set_option maxRecDepth 20000 in
theorem ggX5_takeRing_X5_areNear : GoodIn wsX5_takeRing wsX5_areNear := goodIn_r _ [8, 9, 10, 11, 12, 13, 14, 15, 16, 17, 18, 19, 20, 21, 22, 23, 24, 25, 26, 27, 28, 29, 30, 31] (by decide +kernel) (by decide +kernel)
set_option maxRecDepth 20000 in
theorem gX5_takeRing_X5_areNear : GoodIn wsX5_takeRing (wsV RX5 115 RX5 yX5_areNear wsX5_areNear) := goodIn_app (goodIn_of _ (by decide +kernel)) ggX5_takeRing_X5_areNear
theorem dX5_takeRing_0 : decode cX5_takeRing 0 = .ok (.aload_n 0, 1) := by decide +kernel
theorem dX5_takeRing_1 : decode cX5_takeRing 1 = .ok (.iload_n 2, 1) := by decide +kernel
theorem dX5_takeRing_2 : decode cX5_takeRing 2 = .ok (.putfield 149, 3) := by decide +kernel
theorem dX5_takeRing_5 : decode cX5_takeRing 5 = .ok (.aload_n 0, 1) := by decide +kernel
theorem dX5_takeRing_6 : decode cX5_takeRing 6 = .ok (.getfield 55, 3) := by decide +kernel
theorem dX5_takeRing_9 : decode cX5_takeRing 9 = .ok (.iconst 0, 1) := by decide +kernel
theorem dX5_takeRing_10 : decode cX5_takeRing 10 = .ok (.iload_n 1, 1) := by decide +kernel
theorem dX5_takeRing_11 : decode cX5_takeRing 11 = .ok (.iastore, 1) := by decide +kernel
theorem dX5_takeRing_12 : decode cX5_takeRing 12 = .ok (.iconst 1, 1) := by decide +kernel
theorem dX5_takeRing_13 : decode cX5_takeRing 13 = .ok (.istore_n 3, 1) := by decide +kernel
theorem dX5_takeRing_14 : decode cX5_takeRing 14 = .ok (.iload_n 3, 1) := by decide +kernel
theorem dX5_takeRing_15 : decode cX5_takeRing 15 = .ok (.iload_n 2, 1) := by decide +kernel
theorem dX5_takeRing_16 : decode cX5_takeRing 16 = .ok (.if_icmp .ge 61, 3) := by decide +kernel
theorem dX5_takeRing_19 : decode cX5_takeRing 19 = .ok (.iconst 0, 1) := by decide +kernel
theorem dX5_takeRing_20 : decode cX5_takeRing 20 = .ok (.istore 4, 2) := by decide +kernel
theorem dX5_takeRing_22 : decode cX5_takeRing 22 = .ok (.aload_n 0, 1) := by decide +kernel
theorem dX5_takeRing_23 : decode cX5_takeRing 23 = .ok (.aload_n 0, 1) := by decide +kernel
theorem dX5_takeRing_24 : decode cX5_takeRing 24 = .ok (.getfield 55, 3) := by decide +kernel
theorem dX5_takeRing_27 : decode cX5_takeRing 27 = .ok (.iload_n 3, 1) := by decide +kernel
theorem dX5_takeRing_28 : decode cX5_takeRing 28 = .ok (.iconst 1, 1) := by decide +kernel
theorem dX5_takeRing_29 : decode cX5_takeRing 29 = .ok (.isub, 1) := by decide +kernel
theorem dX5_takeRing_30 : decode cX5_takeRing 30 = .ok (.iaload, 1) := by decide +kernel
theorem dX5_takeRing_31 : decode cX5_takeRing 31 = .ok (.iload 4, 2) := by decide +kernel
theorem dX5_takeRing_33 : decode cX5_takeRing 33 = .ok (.invokevirtual 115, 3) := by decide +kernel
theorem dX5_takeRing_36 : decode cX5_takeRing 36 = .ok (.ifCond .eq 21, 3) := by decide +kernel
theorem dX5_takeRing_39 : decode cX5_takeRing 39 = .ok (.aload_n 0, 1) := by decide +kernel
theorem dX5_takeRing_40 : decode cX5_takeRing 40 = .ok (.getfield 58, 3) := by decide +kernel
theorem dX5_takeRing_43 : decode cX5_takeRing 43 = .ok (.iload_n 2, 1) := by decide +kernel
theorem dX5_takeRing_44 : decode cX5_takeRing 44 = .ok (.iload_n 3, 1) := by decide +kernel
theorem dX5_takeRing_45 : decode cX5_takeRing 45 = .ok (.isub, 1) := by decide +kernel
theorem dX5_takeRing_46 : decode cX5_takeRing 46 = .ok (.laload, 1) := by decide +kernel
theorem dX5_takeRing_47 : decode cX5_takeRing 47 = .ok (.iload 4, 2) := by decide +kernel
theorem dX5_takeRing_49 : decode cX5_takeRing 49 = .ok (.lshr, 1) := by decide +kernel
theorem dX5_takeRing_50 : decode cX5_takeRing 50 = .ok (.lconst 1, 1) := by decide +kernel
theorem dX5_takeRing_51 : decode cX5_takeRing 51 = .ok (.land, 1) := by decide +kernel
theorem dX5_takeRing_52 : decode cX5_takeRing 52 = .ok (.lconst 0, 1) := by decide +kernel
theorem dX5_takeRing_53 : decode cX5_takeRing 53 = .ok (.lcmp, 1) := by decide +kernel
theorem dX5_takeRing_54 : decode cX5_takeRing 54 = .ok (.ifCond .ne 9, 3) := by decide +kernel
theorem dX5_takeRing_57 : decode cX5_takeRing 57 = .ok (.iinc 4 1, 3) := by decide +kernel
theorem dX5_takeRing_60 : decode cX5_takeRing 60 = .ok (.goto (-38), 3) := by decide +kernel
theorem dX5_takeRing_63 : decode cX5_takeRing 63 = .ok (.aload_n 0, 1) := by decide +kernel
theorem dX5_takeRing_64 : decode cX5_takeRing 64 = .ok (.getfield 55, 3) := by decide +kernel
theorem dX5_takeRing_67 : decode cX5_takeRing 67 = .ok (.iload_n 3, 1) := by decide +kernel
theorem dX5_takeRing_68 : decode cX5_takeRing 68 = .ok (.iload 4, 2) := by decide +kernel
theorem dX5_takeRing_70 : decode cX5_takeRing 70 = .ok (.iastore, 1) := by decide +kernel
theorem dX5_takeRing_71 : decode cX5_takeRing 71 = .ok (.iinc 3 1, 3) := by decide +kernel
theorem dX5_takeRing_74 : decode cX5_takeRing 74 = .ok (.goto (-60), 3) := by decide +kernel
theorem dX5_takeRing_77 : decode cX5_takeRing 77 = .ok (.return_, 1) := by decide +kernel
set_option maxRecDepth 20000 in
theorem ggX5_findRing_X5_findParts : GoodIn wsX5_findRing wsX5_findParts := goodIn_r _ [8, 2, 9, 10, 11, 12, 13, 14, 15, 16, 17, 18, 7, 19, 20, 21, 22, 23, 24, 25, 26, 27, 28, 29, 30, 31, 49, 50, 51, 52, 53, 54, 55, 56, 57, 58, 59, 60, 61, 62, 63, 64, 65, 66, 67, 68, 69, 70] (by decide +kernel) (by decide +kernel)
set_option maxRecDepth 20000 in
theorem gX5_findRing_X5_findParts : GoodIn wsX5_findRing (wsV RX5 112 RX5 yX5_findParts wsX5_findParts) := goodIn_app (goodIn_of _ (by decide +kernel)) ggX5_findRing_X5_findParts
set_option maxRecDepth 20000 in
theorem ggX5_findRing_X5_walk : GoodIn wsX5_findRing wsX5_walk := goodIn_r _ [35, 3, 36, 37, 38, 7, 39, 2, 14, 49, 50, 51, 52, 53, 54, 55, 56, 57, 58, 59, 60, 61, 62, 63, 64, 65, 66, 67, 68, 69, 70] (by decide +kernel) (by decide +kernel)
set_option maxRecDepth 20000 in
theorem gX5_findRing_X5_walk : GoodIn wsX5_findRing (wsV RX5 152 RX5 yX5_walk wsX5_walk) := goodIn_app (goodIn_of _ (by decide +kernel)) ggX5_findRing_X5_walk
set_option maxRecDepth 20000 in
theorem ggX5_findRing_X5_takeRing : GoodIn wsX5_findRing wsX5_takeRing := goodIn_r _ [43, 1, 44, 3, 45, 46, 47, 7, 48, 14, 49, 50, 51, 52, 53, 54, 55, 56, 57, 58, 59, 60, 61, 62, 63, 64, 65, 66, 67, 68, 69, 70] (by decide +kernel) (by decide +kernel)
set_option maxRecDepth 20000 in
theorem gX5_findRing_X5_takeRing : GoodIn wsX5_findRing (wsV RX5 155 RX5 yX5_takeRing wsX5_takeRing) := goodIn_app (goodIn_of _ (by decide +kernel)) ggX5_findRing_X5_takeRing
theorem dX5_findRing_0 : decode cX5_findRing 0 = .ok (.aload_n 0, 1) := by decide +kernel
theorem dX5_findRing_1 : decode cX5_findRing 1 = .ok (.invokevirtual 112, 3) := by decide +kernel
theorem dX5_findRing_4 : decode cX5_findRing 4 = .ok (.aload_n 0, 1) := by decide +kernel
theorem dX5_findRing_5 : decode cX5_findRing 5 = .ok (.iconst 0, 1) := by decide +kernel
theorem dX5_findRing_6 : decode cX5_findRing 6 = .ok (.putfield 149, 3) := by decide +kernel
theorem dX5_findRing_9 : decode cX5_findRing 9 = .ok (.iconst 3, 1) := by decide +kernel
theorem dX5_findRing_10 : decode cX5_findRing 10 = .ok (.istore_n 1, 1) := by decide +kernel
theorem dX5_findRing_11 : decode cX5_findRing 11 = .ok (.iload_n 1, 1) := by decide +kernel
theorem dX5_findRing_12 : decode cX5_findRing 12 = .ok (.aload_n 0, 1) := by decide +kernel
theorem dX5_findRing_13 : decode cX5_findRing 13 = .ok (.getfield 102, 3) := by decide +kernel
theorem dX5_findRing_16 : decode cX5_findRing 16 = .ok (.if_icmp .gt 66, 3) := by decide +kernel
theorem dX5_findRing_19 : decode cX5_findRing 19 = .ok (.aload_n 0, 1) := by decide +kernel
theorem dX5_findRing_20 : decode cX5_findRing 20 = .ok (.getfield 149, 3) := by decide +kernel
theorem dX5_findRing_23 : decode cX5_findRing 23 = .ok (.ifCond .ne 59, 3) := by decide +kernel
theorem dX5_findRing_26 : decode cX5_findRing 26 = .ok (.iconst 0, 1) := by decide +kernel
theorem dX5_findRing_27 : decode cX5_findRing 27 = .ok (.istore_n 2, 1) := by decide +kernel
theorem dX5_findRing_28 : decode cX5_findRing 28 = .ok (.iload_n 2, 1) := by decide +kernel
theorem dX5_findRing_29 : decode cX5_findRing 29 = .ok (.aload_n 0, 1) := by decide +kernel
theorem dX5_findRing_30 : decode cX5_findRing 30 = .ok (.getfield 102, 3) := by decide +kernel
theorem dX5_findRing_33 : decode cX5_findRing 33 = .ok (.if_icmp .ge 43, 3) := by decide +kernel
theorem dX5_findRing_36 : decode cX5_findRing 36 = .ok (.aload_n 0, 1) := by decide +kernel
theorem dX5_findRing_37 : decode cX5_findRing 37 = .ok (.getfield 149, 3) := by decide +kernel
theorem dX5_findRing_40 : decode cX5_findRing 40 = .ok (.ifCond .ne 36, 3) := by decide +kernel
theorem dX5_findRing_43 : decode cX5_findRing 43 = .ok (.aload_n 0, 1) := by decide +kernel
theorem dX5_findRing_44 : decode cX5_findRing 44 = .ok (.iload_n 2, 1) := by decide +kernel
theorem dX5_findRing_45 : decode cX5_findRing 45 = .ok (.iload_n 1, 1) := by decide +kernel
theorem dX5_findRing_46 : decode cX5_findRing 46 = .ok (.invokevirtual 152, 3) := by decide +kernel
theorem dX5_findRing_49 : decode cX5_findRing 49 = .ok (.aload_n 0, 1) := by decide +kernel
theorem dX5_findRing_50 : decode cX5_findRing 50 = .ok (.getfield 58, 3) := by decide +kernel
theorem dX5_findRing_53 : decode cX5_findRing 53 = .ok (.iload_n 1, 1) := by decide +kernel
theorem dX5_findRing_54 : decode cX5_findRing 54 = .ok (.laload, 1) := by decide +kernel
theorem dX5_findRing_55 : decode cX5_findRing 55 = .ok (.iload_n 2, 1) := by decide +kernel
theorem dX5_findRing_56 : decode cX5_findRing 56 = .ok (.lshr, 1) := by decide +kernel
theorem dX5_findRing_57 : decode cX5_findRing 57 = .ok (.lconst 1, 1) := by decide +kernel
theorem dX5_findRing_58 : decode cX5_findRing 58 = .ok (.land, 1) := by decide +kernel
theorem dX5_findRing_59 : decode cX5_findRing 59 = .ok (.lconst 1, 1) := by decide +kernel
theorem dX5_findRing_60 : decode cX5_findRing 60 = .ok (.lcmp, 1) := by decide +kernel
theorem dX5_findRing_61 : decode cX5_findRing 61 = .ok (.ifCond .ne 9, 3) := by decide +kernel
theorem dX5_findRing_64 : decode cX5_findRing 64 = .ok (.aload_n 0, 1) := by decide +kernel
theorem dX5_findRing_65 : decode cX5_findRing 65 = .ok (.iload_n 2, 1) := by decide +kernel
theorem dX5_findRing_66 : decode cX5_findRing 66 = .ok (.iload_n 1, 1) := by decide +kernel
theorem dX5_findRing_67 : decode cX5_findRing 67 = .ok (.invokevirtual 155, 3) := by decide +kernel
theorem dX5_findRing_70 : decode cX5_findRing 70 = .ok (.iinc 2 1, 3) := by decide +kernel
theorem dX5_findRing_73 : decode cX5_findRing 73 = .ok (.goto (-45), 3) := by decide +kernel
theorem dX5_findRing_76 : decode cX5_findRing 76 = .ok (.iinc 1 2, 3) := by decide +kernel
theorem dX5_findRing_79 : decode cX5_findRing 79 = .ok (.goto (-68), 3) := by decide +kernel
theorem dX5_findRing_82 : decode cX5_findRing 82 = .ok (.return_, 1) := by decide +kernel
set_option maxRecDepth 20000 in
theorem ggX5_ring_X5_findRing : GoodIn wsX5_ring wsX5_findRing := goodIn_r _ [7, 2, 8, 9, 10, 11, 12, 6, 13, 14, 15, 16, 17, 18, 19, 20, 21, 22, 23, 24, 25, 26, 27, 28, 29, 30, 31, 32, 33, 34, 35, 36, 37, 38, 39, 40, 41, 42, 43, 44, 45, 46, 47, 48, 49, 50, 51, 52, 53, 54, 55, 56, 57, 58, 59, 60, 61, 62, 63, 64, 65, 66, 67, 68, 69, 70, 71, 72, 73, 74, 75] (by decide +kernel) (by decide +kernel)
set_option maxRecDepth 20000 in
theorem gX5_ring_X5_findRing : GoodIn wsX5_ring (wsV RX5 158 RX5 yX5_findRing wsX5_findRing) := goodIn_app (goodIn_of _ (by decide +kernel)) ggX5_ring_X5_findRing
theorem dX5_ring_0 : decode cX5_ring 0 = .ok (.aload_n 0, 1) := by decide +kernel
theorem dX5_ring_1 : decode cX5_ring 1 = .ok (.iconst 0, 1) := by decide +kernel
theorem dX5_ring_2 : decode cX5_ring 2 = .ok (.putfield 61, 3) := by decide +kernel
theorem dX5_ring_5 : decode cX5_ring 5 = .ok (.aload_n 0, 1) := by decide +kernel
theorem dX5_ring_6 : decode cX5_ring 6 = .ok (.invokevirtual 158, 3) := by decide +kernel
theorem dX5_ring_9 : decode cX5_ring 9 = .ok (.aload_n 0, 1) := by decide +kernel
theorem dX5_ring_10 : decode cX5_ring 10 = .ok (.getfield 149, 3) := by decide +kernel
theorem dX5_ring_13 : decode cX5_ring 13 = .ok (.ireturn, 1) := by decide +kernel
set_option maxRecDepth 20000 in
theorem ggX5_ringAt_X5_findRing : GoodIn wsX5_ringAt wsX5_findRing := goodIn_r _ [8, 1, 9, 10, 11, 12, 13, 7, 14, 15, 16, 17, 18, 19, 20, 21, 22, 23, 24, 25, 26, 27, 28, 29, 30, 31, 32, 33, 34, 35, 36, 37, 38, 39, 40, 41, 42, 43, 44, 45, 46, 47, 48, 49, 3, 50, 51, 52, 53, 57, 58, 59, 60, 61, 62, 63, 64, 65, 66, 67, 68, 69, 70, 71, 72, 73, 74, 75, 76, 77, 78] (by decide +kernel) (by decide +kernel)
set_option maxRecDepth 20000 in
theorem gX5_ringAt_X5_findRing : GoodIn wsX5_ringAt (wsV RX5 158 RX5 yX5_findRing wsX5_findRing) := goodIn_app (goodIn_of _ (by decide +kernel)) ggX5_ringAt_X5_findRing
set_option maxRecDepth 20000 in
theorem ggX5_ringAt_X5_isIn : GoodIn wsX5_ringAt wsX5_isIn := goodIn_r _ [56] (by decide +kernel) (by decide +kernel)
set_option maxRecDepth 20000 in
theorem gX5_ringAt_X5_isIn : GoodIn wsX5_ringAt (va_wsS RX5 67 yX5_isIn wsX5_isIn) := goodIn_app (goodIn_of _ (by decide +kernel)) ggX5_ringAt_X5_isIn
theorem dX5_ringAt_0 : decode cX5_ringAt 0 = .ok (.aload_n 0, 1) := by decide +kernel
theorem dX5_ringAt_1 : decode cX5_ringAt 1 = .ok (.invokevirtual 158, 3) := by decide +kernel
theorem dX5_ringAt_4 : decode cX5_ringAt 4 = .ok (.aload_n 0, 1) := by decide +kernel
theorem dX5_ringAt_5 : decode cX5_ringAt 5 = .ok (.iload_n 1, 1) := by decide +kernel
theorem dX5_ringAt_6 : decode cX5_ringAt 6 = .ok (.i2l, 1) := by decide +kernel
theorem dX5_ringAt_7 : decode cX5_ringAt 7 = .ok (.lconst 0, 1) := by decide +kernel
theorem dX5_ringAt_8 : decode cX5_ringAt 8 = .ok (.aload_n 0, 1) := by decide +kernel
theorem dX5_ringAt_9 : decode cX5_ringAt 9 = .ok (.getfield 149, 3) := by decide +kernel
theorem dX5_ringAt_12 : decode cX5_ringAt 12 = .ok (.iconst 1, 1) := by decide +kernel
theorem dX5_ringAt_13 : decode cX5_ringAt 13 = .ok (.isub, 1) := by decide +kernel
theorem dX5_ringAt_14 : decode cX5_ringAt 14 = .ok (.i2l, 1) := by decide +kernel
theorem dX5_ringAt_15 : decode cX5_ringAt 15 = .ok (.invokestatic 67, 3) := by decide +kernel
theorem dX5_ringAt_18 : decode cX5_ringAt 18 = .ok (.ifCond .eq 7, 3) := by decide +kernel
theorem dX5_ringAt_21 : decode cX5_ringAt 21 = .ok (.iconst 0, 1) := by decide +kernel
theorem dX5_ringAt_22 : decode cX5_ringAt 22 = .ok (.goto 4, 3) := by decide +kernel
theorem dX5_ringAt_25 : decode cX5_ringAt 25 = .ok (.iconst 1, 1) := by decide +kernel
theorem dX5_ringAt_26 : decode cX5_ringAt 26 = .ok (.putfield 61, 3) := by decide +kernel
theorem dX5_ringAt_29 : decode cX5_ringAt 29 = .ok (.aload_n 0, 1) := by decide +kernel
theorem dX5_ringAt_30 : decode cX5_ringAt 30 = .ok (.getfield 61, 3) := by decide +kernel
theorem dX5_ringAt_33 : decode cX5_ringAt 33 = .ok (.ifCond .le 7, 3) := by decide +kernel
theorem dX5_ringAt_36 : decode cX5_ringAt 36 = .ok (.iconst 0, 1) := by decide +kernel
theorem dX5_ringAt_37 : decode cX5_ringAt 37 = .ok (.goto 9, 3) := by decide +kernel
theorem dX5_ringAt_40 : decode cX5_ringAt 40 = .ok (.aload_n 0, 1) := by decide +kernel
theorem dX5_ringAt_41 : decode cX5_ringAt 41 = .ok (.getfield 55, 3) := by decide +kernel
theorem dX5_ringAt_44 : decode cX5_ringAt 44 = .ok (.iload_n 1, 1) := by decide +kernel
theorem dX5_ringAt_45 : decode cX5_ringAt 45 = .ok (.iaload, 1) := by decide +kernel
theorem dX5_ringAt_46 : decode cX5_ringAt 46 = .ok (.ireturn, 1) := by decide +kernel
set_option maxRecDepth 20000 in
theorem ggX5_groups_X5_findParts : GoodIn wsX5_groups wsX5_findParts := goodIn_r _ [7, 2, 8, 9, 10, 11, 12, 13, 14, 15, 16, 17, 6, 18, 19, 20, 21, 22, 23, 24, 25, 26, 27, 28, 29, 30, 40, 41, 42, 43, 44, 45, 46, 47, 48, 49, 50, 51, 52, 53, 54, 55, 56, 57, 58, 59, 60, 61] (by decide +kernel) (by decide +kernel)
set_option maxRecDepth 20000 in
theorem gX5_groups_X5_findParts : GoodIn wsX5_groups (wsV RX5 112 RX5 yX5_findParts wsX5_findParts) := goodIn_app (goodIn_of _ (by decide +kernel)) ggX5_groups_X5_findParts
set_option maxRecDepth 20000 in
theorem ggX5_groups_X5_groupOf : GoodIn wsX5_groups wsX5_groupOf := goodIn_r _ [34, 2, 12, 35, 36, 37, 38, 6, 39, 13, 40, 41, 42, 43, 44, 45, 46, 47, 48, 49, 50, 51, 52, 53, 54, 55, 56, 57, 58, 59, 60, 61] (by decide +kernel) (by decide +kernel)
set_option maxRecDepth 20000 in
theorem gX5_groups_X5_groupOf : GoodIn wsX5_groups (wsV RX5 161 RX5 yX5_groupOf wsX5_groupOf) := goodIn_app (goodIn_of _ (by decide +kernel)) ggX5_groups_X5_groupOf
theorem dX5_groups_0 : decode cX5_groups 0 = .ok (.aload_n 0, 1) := by decide +kernel
theorem dX5_groups_1 : decode cX5_groups 1 = .ok (.iconst 0, 1) := by decide +kernel
theorem dX5_groups_2 : decode cX5_groups 2 = .ok (.putfield 61, 3) := by decide +kernel
theorem dX5_groups_5 : decode cX5_groups 5 = .ok (.aload_n 0, 1) := by decide +kernel
theorem dX5_groups_6 : decode cX5_groups 6 = .ok (.invokevirtual 112, 3) := by decide +kernel
theorem dX5_groups_9 : decode cX5_groups 9 = .ok (.lconst 0, 1) := by decide +kernel
theorem dX5_groups_10 : decode cX5_groups 10 = .ok (.lstore_n 1, 1) := by decide +kernel
theorem dX5_groups_11 : decode cX5_groups 11 = .ok (.iconst 0, 1) := by decide +kernel
theorem dX5_groups_12 : decode cX5_groups 12 = .ok (.istore_n 3, 1) := by decide +kernel
theorem dX5_groups_13 : decode cX5_groups 13 = .ok (.iconst 0, 1) := by decide +kernel
theorem dX5_groups_14 : decode cX5_groups 14 = .ok (.istore 4, 2) := by decide +kernel
theorem dX5_groups_16 : decode cX5_groups 16 = .ok (.iload 4, 2) := by decide +kernel
theorem dX5_groups_18 : decode cX5_groups 18 = .ok (.aload_n 0, 1) := by decide +kernel
theorem dX5_groups_19 : decode cX5_groups 19 = .ok (.getfield 102, 3) := by decide +kernel
theorem dX5_groups_22 : decode cX5_groups 22 = .ok (.if_icmp .ge 32, 3) := by decide +kernel
theorem dX5_groups_25 : decode cX5_groups 25 = .ok (.lload_n 1, 1) := by decide +kernel
theorem dX5_groups_26 : decode cX5_groups 26 = .ok (.iload 4, 2) := by decide +kernel
theorem dX5_groups_28 : decode cX5_groups 28 = .ok (.lshr, 1) := by decide +kernel
theorem dX5_groups_29 : decode cX5_groups 29 = .ok (.lconst 1, 1) := by decide +kernel
theorem dX5_groups_30 : decode cX5_groups 30 = .ok (.land, 1) := by decide +kernel
theorem dX5_groups_31 : decode cX5_groups 31 = .ok (.lconst 0, 1) := by decide +kernel
theorem dX5_groups_32 : decode cX5_groups 32 = .ok (.lcmp, 1) := by decide +kernel
theorem dX5_groups_33 : decode cX5_groups 33 = .ok (.ifCond .ne 15, 3) := by decide +kernel
theorem dX5_groups_36 : decode cX5_groups 36 = .ok (.iinc 3 1, 3) := by decide +kernel
theorem dX5_groups_39 : decode cX5_groups 39 = .ok (.lload_n 1, 1) := by decide +kernel
theorem dX5_groups_40 : decode cX5_groups 40 = .ok (.aload_n 0, 1) := by decide +kernel
theorem dX5_groups_41 : decode cX5_groups 41 = .ok (.iload 4, 2) := by decide +kernel
theorem dX5_groups_43 : decode cX5_groups 43 = .ok (.invokevirtual 161, 3) := by decide +kernel
theorem dX5_groups_46 : decode cX5_groups 46 = .ok (.lor, 1) := by decide +kernel
theorem dX5_groups_47 : decode cX5_groups 47 = .ok (.lstore_n 1, 1) := by decide +kernel
theorem dX5_groups_48 : decode cX5_groups 48 = .ok (.iinc 4 1, 3) := by decide +kernel
theorem dX5_groups_51 : decode cX5_groups 51 = .ok (.goto (-35), 3) := by decide +kernel
theorem dX5_groups_54 : decode cX5_groups 54 = .ok (.iload_n 3, 1) := by decide +kernel
theorem dX5_groups_55 : decode cX5_groups 55 = .ok (.ireturn, 1) := by decide +kernel
set_option maxRecDepth 20000 in
theorem ggX5_groupOf_X5_around : GoodIn wsX5_groupOf wsX5_around := goodIn_r _ [8, 1, 9, 10, 11, 12, 13, 14, 15, 16, 17, 18, 19, 20, 21, 22, 23, 24, 25, 26, 27, 28, 29, 30, 31] (by decide +kernel) (by decide +kernel)
set_option maxRecDepth 20000 in
theorem gX5_groupOf_X5_around : GoodIn wsX5_groupOf (wsV RX5 145 RX5 yX5_around wsX5_around) := goodIn_app (goodIn_of _ (by decide +kernel)) ggX5_groupOf_X5_around
theorem dX5_groupOf_0 : decode cX5_groupOf 0 = .ok (.lconst 1, 1) := by decide +kernel
theorem dX5_groupOf_1 : decode cX5_groupOf 1 = .ok (.iload_n 1, 1) := by decide +kernel
theorem dX5_groupOf_2 : decode cX5_groupOf 2 = .ok (.lshl, 1) := by decide +kernel
theorem dX5_groupOf_3 : decode cX5_groupOf 3 = .ok (.lstore_n 2, 1) := by decide +kernel
theorem dX5_groupOf_4 : decode cX5_groupOf 4 = .ok (.iconst 0, 1) := by decide +kernel
theorem dX5_groupOf_5 : decode cX5_groupOf 5 = .ok (.istore 4, 2) := by decide +kernel
theorem dX5_groupOf_7 : decode cX5_groupOf 7 = .ok (.iload 4, 2) := by decide +kernel
theorem dX5_groupOf_9 : decode cX5_groupOf 9 = .ok (.aload_n 0, 1) := by decide +kernel
theorem dX5_groupOf_10 : decode cX5_groupOf 10 = .ok (.getfield 102, 3) := by decide +kernel
theorem dX5_groupOf_13 : decode cX5_groupOf 13 = .ok (.if_icmp .ge 96, 3) := by decide +kernel
theorem dX5_groupOf_16 : decode cX5_groupOf 16 = .ok (.lload_n 2, 1) := by decide +kernel
theorem dX5_groupOf_17 : decode cX5_groupOf 17 = .ok (.aload_n 0, 1) := by decide +kernel
theorem dX5_groupOf_18 : decode cX5_groupOf 18 = .ok (.lload_n 2, 1) := by decide +kernel
theorem dX5_groupOf_19 : decode cX5_groupOf 19 = .ok (.invokevirtual 145, 3) := by decide +kernel
theorem dX5_groupOf_22 : decode cX5_groupOf 22 = .ok (.lor, 1) := by decide +kernel
theorem dX5_groupOf_23 : decode cX5_groupOf 23 = .ok (.lstore_n 2, 1) := by decide +kernel
theorem dX5_groupOf_24 : decode cX5_groupOf 24 = .ok (.iconst 1, 1) := by decide +kernel
theorem dX5_groupOf_25 : decode cX5_groupOf 25 = .ok (.istore 5, 2) := by decide +kernel
theorem dX5_groupOf_27 : decode cX5_groupOf 27 = .ok (.iload 5, 2) := by decide +kernel
theorem dX5_groupOf_29 : decode cX5_groupOf 29 = .ok (.aload_n 0, 1) := by decide +kernel
theorem dX5_groupOf_30 : decode cX5_groupOf 30 = .ok (.getfield 102, 3) := by decide +kernel
theorem dX5_groupOf_33 : decode cX5_groupOf 33 = .ok (.if_icmp .ge 70, 3) := by decide +kernel
theorem dX5_groupOf_36 : decode cX5_groupOf 36 = .ok (.lload_n 2, 1) := by decide +kernel
theorem dX5_groupOf_37 : decode cX5_groupOf 37 = .ok (.iload 5, 2) := by decide +kernel
theorem dX5_groupOf_39 : decode cX5_groupOf 39 = .ok (.lshr, 1) := by decide +kernel
theorem dX5_groupOf_40 : decode cX5_groupOf 40 = .ok (.lconst 1, 1) := by decide +kernel
theorem dX5_groupOf_41 : decode cX5_groupOf 41 = .ok (.land, 1) := by decide +kernel
theorem dX5_groupOf_42 : decode cX5_groupOf 42 = .ok (.lconst 1, 1) := by decide +kernel
theorem dX5_groupOf_43 : decode cX5_groupOf 43 = .ok (.lcmp, 1) := by decide +kernel
theorem dX5_groupOf_44 : decode cX5_groupOf 44 = .ok (.ifCond .eq 16, 3) := by decide +kernel
theorem dX5_groupOf_47 : decode cX5_groupOf 47 = .ok (.lload_n 2, 1) := by decide +kernel
theorem dX5_groupOf_48 : decode cX5_groupOf 48 = .ok (.iload 5, 2) := by decide +kernel
theorem dX5_groupOf_50 : decode cX5_groupOf 50 = .ok (.iconst 1, 1) := by decide +kernel
theorem dX5_groupOf_51 : decode cX5_groupOf 51 = .ok (.isub, 1) := by decide +kernel
theorem dX5_groupOf_52 : decode cX5_groupOf 52 = .ok (.lshr, 1) := by decide +kernel
theorem dX5_groupOf_53 : decode cX5_groupOf 53 = .ok (.lconst 1, 1) := by decide +kernel
theorem dX5_groupOf_54 : decode cX5_groupOf 54 = .ok (.land, 1) := by decide +kernel
theorem dX5_groupOf_55 : decode cX5_groupOf 55 = .ok (.lconst 1, 1) := by decide +kernel
theorem dX5_groupOf_56 : decode cX5_groupOf 56 = .ok (.lcmp, 1) := by decide +kernel
theorem dX5_groupOf_57 : decode cX5_groupOf 57 = .ok (.ifCond .ne 7, 3) := by decide +kernel
theorem dX5_groupOf_60 : decode cX5_groupOf 60 = .ok (.iconst 1, 1) := by decide +kernel
theorem dX5_groupOf_61 : decode cX5_groupOf 61 = .ok (.goto 4, 3) := by decide +kernel
theorem dX5_groupOf_64 : decode cX5_groupOf 64 = .ok (.iconst 0, 1) := by decide +kernel
theorem dX5_groupOf_65 : decode cX5_groupOf 65 = .ok (.istore 6, 2) := by decide +kernel
theorem dX5_groupOf_67 : decode cX5_groupOf 67 = .ok (.lload_n 2, 1) := by decide +kernel
theorem dX5_groupOf_68 : decode cX5_groupOf 68 = .ok (.aload_n 0, 1) := by decide +kernel
theorem dX5_groupOf_69 : decode cX5_groupOf 69 = .ok (.getfield 42, 3) := by decide +kernel
theorem dX5_groupOf_72 : decode cX5_groupOf 72 = .ok (.iload 5, 2) := by decide +kernel
theorem dX5_groupOf_74 : decode cX5_groupOf 74 = .ok (.baload, 1) := by decide +kernel
theorem dX5_groupOf_75 : decode cX5_groupOf 75 = .ok (.ifCond .eq 19, 3) := by decide +kernel
theorem dX5_groupOf_78 : decode cX5_groupOf 78 = .ok (.iload 6, 2) := by decide +kernel
theorem dX5_groupOf_80 : decode cX5_groupOf 80 = .ok (.ifCond .eq 14, 3) := by decide +kernel
theorem dX5_groupOf_83 : decode cX5_groupOf 83 = .ok (.ldc2_w 96, 3) := by decide +kernel
theorem dX5_groupOf_86 : decode cX5_groupOf 86 = .ok (.iload 5, 2) := by decide +kernel
theorem dX5_groupOf_88 : decode cX5_groupOf 88 = .ok (.iconst 1, 1) := by decide +kernel
theorem dX5_groupOf_89 : decode cX5_groupOf 89 = .ok (.isub, 1) := by decide +kernel
theorem dX5_groupOf_90 : decode cX5_groupOf 90 = .ok (.lshl, 1) := by decide +kernel
theorem dX5_groupOf_91 : decode cX5_groupOf 91 = .ok (.goto 4, 3) := by decide +kernel
theorem dX5_groupOf_94 : decode cX5_groupOf 94 = .ok (.lconst 0, 1) := by decide +kernel
theorem dX5_groupOf_95 : decode cX5_groupOf 95 = .ok (.lor, 1) := by decide +kernel
theorem dX5_groupOf_96 : decode cX5_groupOf 96 = .ok (.lstore_n 2, 1) := by decide +kernel
theorem dX5_groupOf_97 : decode cX5_groupOf 97 = .ok (.iinc 5 1, 3) := by decide +kernel
theorem dX5_groupOf_100 : decode cX5_groupOf 100 = .ok (.goto (-73), 3) := by decide +kernel
theorem dX5_groupOf_103 : decode cX5_groupOf 103 = .ok (.iinc 4 1, 3) := by decide +kernel
theorem dX5_groupOf_106 : decode cX5_groupOf 106 = .ok (.goto (-99), 3) := by decide +kernel
theorem dX5_groupOf_109 : decode cX5_groupOf 109 = .ok (.lload_n 2, 1) := by decide +kernel
theorem dX5_groupOf_110 : decode cX5_groupOf 110 = .ok (.lreturn, 1) := by decide +kernel
set_option maxRecDepth 20000 in
theorem ggX5_told_X5_isIn : GoodIn wsX5_told wsX5_isIn := goodIn_r _ [10] (by decide +kernel) (by decide +kernel)
set_option maxRecDepth 20000 in
theorem gX5_told_X5_isIn : GoodIn wsX5_told (va_wsS RX5 67 yX5_isIn wsX5_isIn) := goodIn_app (goodIn_of _ (by decide +kernel)) ggX5_told_X5_isIn
set_option maxRecDepth 20000 in
theorem ggX5_told_X5_findParts : GoodIn wsX5_told wsX5_findParts := goodIn_r _ [14, 5, 3, 4, 15, 16, 17, 18, 19, 20, 21, 22, 9, 23, 24, 25, 26, 27, 28, 29, 30, 31, 6, 32, 33, 34, 47, 48, 49, 50, 51, 52, 53, 54, 55, 56, 57, 58, 59, 60, 61, 62, 63, 64, 65, 66, 67, 68] (by decide +kernel) (by decide +kernel)
set_option maxRecDepth 20000 in
theorem gX5_told_X5_findParts : GoodIn wsX5_told (wsV RX5 112 RX5 yX5_findParts wsX5_findParts) := goodIn_app (goodIn_of _ (by decide +kernel)) ggX5_told_X5_findParts
set_option maxRecDepth 20000 in
theorem ggX5_told_X5_pairs : GoodIn wsX5_told wsX5_pairs := goodIn_r _ [38, 5, 39, 40, 41, 9, 42, 18, 47, 48, 49, 50, 51, 52, 53, 54, 55, 56, 57, 58, 59, 60, 61, 62, 63, 64, 65, 66, 67, 68] (by decide +kernel) (by decide +kernel)
set_option maxRecDepth 20000 in
theorem gX5_told_X5_pairs : GoodIn wsX5_told (wsV RX5 118 RX5 yX5_pairs wsX5_pairs) := goodIn_app (goodIn_of _ (by decide +kernel)) ggX5_told_X5_pairs
set_option maxRecDepth 20000 in
theorem ggX5_told_X5_stitches : GoodIn wsX5_told wsX5_stitches := goodIn_r _ [46, 5, 17, 47, 48, 49, 50, 51, 52, 53, 54, 55, 56, 57, 58, 59, 60, 61, 62, 63, 64, 65, 66, 67, 68] (by decide +kernel) (by decide +kernel)
set_option maxRecDepth 20000 in
theorem gX5_told_X5_stitches : GoodIn wsX5_told (wsV RX5 135 RX5 yX5_stitches wsX5_stitches) := goodIn_app (goodIn_of _ (by decide +kernel)) ggX5_told_X5_stitches
theorem dX5_told_0 : decode cX5_told 0 = .ok (.aload_n 0, 1) := by decide +kernel
theorem dX5_told_1 : decode cX5_told 1 = .ok (.iload_n 1, 1) := by decide +kernel
theorem dX5_told_2 : decode cX5_told 2 = .ok (.i2l, 1) := by decide +kernel
theorem dX5_told_3 : decode cX5_told 3 = .ok (.lconst 0, 1) := by decide +kernel
theorem dX5_told_4 : decode cX5_told 4 = .ok (.ldc2_w 165, 3) := by decide +kernel
theorem dX5_told_7 : decode cX5_told 7 = .ok (.invokestatic 67, 3) := by decide +kernel
theorem dX5_told_10 : decode cX5_told 10 = .ok (.ifCond .eq 7, 3) := by decide +kernel
theorem dX5_told_13 : decode cX5_told 13 = .ok (.iconst 0, 1) := by decide +kernel
theorem dX5_told_14 : decode cX5_told 14 = .ok (.goto 4, 3) := by decide +kernel
theorem dX5_told_17 : decode cX5_told 17 = .ok (.iconst 1, 1) := by decide +kernel
theorem dX5_told_18 : decode cX5_told 18 = .ok (.putfield 61, 3) := by decide +kernel
theorem dX5_told_21 : decode cX5_told 21 = .ok (.aload_n 0, 1) := by decide +kernel
theorem dX5_told_22 : decode cX5_told 22 = .ok (.invokevirtual 112, 3) := by decide +kernel
theorem dX5_told_25 : decode cX5_told 25 = .ok (.iconst 0, 1) := by decide +kernel
theorem dX5_told_26 : decode cX5_told 26 = .ok (.istore_n 2, 1) := by decide +kernel
theorem dX5_told_27 : decode cX5_told 27 = .ok (.iconst 0, 1) := by decide +kernel
theorem dX5_told_28 : decode cX5_told 28 = .ok (.istore_n 3, 1) := by decide +kernel
theorem dX5_told_29 : decode cX5_told 29 = .ok (.iload_n 3, 1) := by decide +kernel
theorem dX5_told_30 : decode cX5_told 30 = .ok (.aload_n 0, 1) := by decide +kernel
theorem dX5_told_31 : decode cX5_told 31 = .ok (.getfield 64, 3) := by decide +kernel
theorem dX5_told_34 : decode cX5_told 34 = .ok (.if_icmp .ge 18, 3) := by decide +kernel
theorem dX5_told_37 : decode cX5_told 37 = .ok (.iload_n 2, 1) := by decide +kernel
theorem dX5_told_38 : decode cX5_told 38 = .ok (.aload_n 0, 1) := by decide +kernel
theorem dX5_told_39 : decode cX5_told 39 = .ok (.getfield 13, 3) := by decide +kernel
theorem dX5_told_42 : decode cX5_told 42 = .ok (.iload_n 3, 1) := by decide +kernel
theorem dX5_told_43 : decode cX5_told 43 = .ok (.iaload, 1) := by decide +kernel
theorem dX5_told_44 : decode cX5_told 44 = .ok (.iadd, 1) := by decide +kernel
theorem dX5_told_45 : decode cX5_told 45 = .ok (.istore_n 2, 1) := by decide +kernel
theorem dX5_told_46 : decode cX5_told 46 = .ok (.iinc 3 1, 3) := by decide +kernel
theorem dX5_told_49 : decode cX5_told 49 = .ok (.goto (-20), 3) := by decide +kernel
theorem dX5_told_52 : decode cX5_told 52 = .ok (.iload_n 1, 1) := by decide +kernel
theorem dX5_told_53 : decode cX5_told 53 = .ok (.tableswitch 57 0 4 #[35, 40, 42, 47, 52], 35) := by decide +kernel
theorem dX5_told_88 : decode cX5_told 88 = .ok (.aload_n 0, 1) := by decide +kernel
theorem dX5_told_89 : decode cX5_told 89 = .ok (.getfield 64, 3) := by decide +kernel
theorem dX5_told_92 : decode cX5_told 92 = .ok (.ireturn, 1) := by decide +kernel
theorem dX5_told_93 : decode cX5_told 93 = .ok (.iload_n 2, 1) := by decide +kernel
theorem dX5_told_94 : decode cX5_told 94 = .ok (.ireturn, 1) := by decide +kernel
theorem dX5_told_95 : decode cX5_told 95 = .ok (.aload_n 0, 1) := by decide +kernel
theorem dX5_told_96 : decode cX5_told 96 = .ok (.getfield 102, 3) := by decide +kernel
theorem dX5_told_99 : decode cX5_told 99 = .ok (.ireturn, 1) := by decide +kernel
theorem dX5_told_100 : decode cX5_told 100 = .ok (.aload_n 0, 1) := by decide +kernel
theorem dX5_told_101 : decode cX5_told 101 = .ok (.invokevirtual 118, 3) := by decide +kernel
theorem dX5_told_104 : decode cX5_told 104 = .ok (.ireturn, 1) := by decide +kernel
theorem dX5_told_105 : decode cX5_told 105 = .ok (.aload_n 0, 1) := by decide +kernel
theorem dX5_told_106 : decode cX5_told 106 = .ok (.invokevirtual 135, 3) := by decide +kernel
theorem dX5_told_109 : decode cX5_told 109 = .ok (.ireturn, 1) := by decide +kernel
theorem dX5_told_110 : decode cX5_told 110 = .ok (.aload_n 0, 1) := by decide +kernel
theorem dX5_told_111 : decode cX5_told 111 = .ok (.getfield 61, 3) := by decide +kernel
theorem dX5_told_114 : decode cX5_told 114 = .ok (.ifCond .le 7, 3) := by decide +kernel
theorem dX5_told_117 : decode cX5_told 117 = .ok (.iconst 0, 1) := by decide +kernel
theorem dX5_told_118 : decode cX5_told 118 = .ok (.goto 7, 3) := by decide +kernel
theorem dX5_told_121 : decode cX5_told 121 = .ok (.aload_n 0, 1) := by decide +kernel
theorem dX5_told_122 : decode cX5_told 122 = .ok (.getfield 7, 3) := by decide +kernel
theorem dX5_told_125 : decode cX5_told 125 = .ok (.ireturn, 1) := by decide +kernel
