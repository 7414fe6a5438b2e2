set_option maxRecDepth 20000 in
theorem ggX2_init_J7_fill_53178 : GoodIn wsX2_init wsJ7_fill_53178 := goodIn_r _ [18] (by decide +kernel) (by decide +kernel)
set_option maxRecDepth 20000 in
theorem gX2_init_J7_fill_53178 : GoodIn wsX2_init (va_wsS RX2 41 yJ7_fill_53178 wsJ7_fill_53178) := goodIn_app (goodIn_of _ (by decide +kernel)) ggX2_init_J7_fill_53178
theorem dX2_init_0 : decode cX2_init 0 = .ok (.aload_n 0, 1) := by decide +kernel
theorem dX2_init_1 : decode cX2_init 1 = .ok (.invokespecial 3, 3) := by decide +kernel
theorem dX2_init_4 : decode cX2_init 4 = .ok (.aload_n 0, 1) := by decide +kernel
theorem dX2_init_5 : decode cX2_init 5 = .ok (.bipush 10, 2) := by decide +kernel
theorem dX2_init_7 : decode cX2_init 7 = .ok (.putfield 9, 3) := by decide +kernel
theorem dX2_init_10 : decode cX2_init 10 = .ok (.aload_n 0, 1) := by decide +kernel
theorem dX2_init_11 : decode cX2_init 11 = .ok (.iconst 0, 1) := by decide +kernel
theorem dX2_init_12 : decode cX2_init 12 = .ok (.putfield 15, 3) := by decide +kernel
theorem dX2_init_15 : decode cX2_init 15 = .ok (.aload_n 0, 1) := by decide +kernel
theorem dX2_init_16 : decode cX2_init 16 = .ok (.bipush 10, 2) := by decide +kernel
theorem dX2_init_18 : decode cX2_init 18 = .ok (.newarray .int, 2) := by decide +kernel
theorem dX2_init_20 : decode cX2_init 20 = .ok (.putfield 18, 3) := by decide +kernel
theorem dX2_init_23 : decode cX2_init 23 = .ok (.aload_n 0, 1) := by decide +kernel
theorem dX2_init_24 : decode cX2_init 24 = .ok (.bipush 40, 2) := by decide +kernel
theorem dX2_init_26 : decode cX2_init 26 = .ok (.newarray .int, 2) := by decide +kernel
theorem dX2_init_28 : decode cX2_init 28 = .ok (.putfield 22, 3) := by decide +kernel
theorem dX2_init_31 : decode cX2_init 31 = .ok (.aload_n 0, 1) := by decide +kernel
theorem dX2_init_32 : decode cX2_init 32 = .ok (.bipush 40, 2) := by decide +kernel
theorem dX2_init_34 : decode cX2_init 34 = .ok (.newarray .int, 2) := by decide +kernel
theorem dX2_init_36 : decode cX2_init 36 = .ok (.putfield 25, 3) := by decide +kernel
theorem dX2_init_39 : decode cX2_init 39 = .ok (.aload_n 0, 1) := by decide +kernel
theorem dX2_init_40 : decode cX2_init 40 = .ok (.bipush 40, 2) := by decide +kernel
theorem dX2_init_42 : decode cX2_init 42 = .ok (.newarray .int, 2) := by decide +kernel
theorem dX2_init_44 : decode cX2_init 44 = .ok (.putfield 28, 3) := by decide +kernel
theorem dX2_init_47 : decode cX2_init 47 = .ok (.aload_n 0, 1) := by decide +kernel
theorem dX2_init_48 : decode cX2_init 48 = .ok (.bipush 40, 2) := by decide +kernel
theorem dX2_init_50 : decode cX2_init 50 = .ok (.newarray .int, 2) := by decide +kernel
theorem dX2_init_52 : decode cX2_init 52 = .ok (.putfield 31, 3) := by decide +kernel
theorem dX2_init_55 : decode cX2_init 55 = .ok (.aload_n 0, 1) := by decide +kernel
theorem dX2_init_56 : decode cX2_init 56 = .ok (.bipush 40, 2) := by decide +kernel
theorem dX2_init_58 : decode cX2_init 58 = .ok (.newarray .boolean, 2) := by decide +kernel
theorem dX2_init_60 : decode cX2_init 60 = .ok (.putfield 34, 3) := by decide +kernel
theorem dX2_init_63 : decode cX2_init 63 = .ok (.aload_n 0, 1) := by decide +kernel
theorem dX2_init_64 : decode cX2_init 64 = .ok (.bipush 40, 2) := by decide +kernel
theorem dX2_init_66 : decode cX2_init 66 = .ok (.newarray .int, 2) := by decide +kernel
theorem dX2_init_68 : decode cX2_init 68 = .ok (.putfield 38, 3) := by decide +kernel
theorem dX2_init_71 : decode cX2_init 71 = .ok (.aload_n 0, 1) := by decide +kernel
theorem dX2_init_72 : decode cX2_init 72 = .ok (.getfield 38, 3) := by decide +kernel
theorem dX2_init_75 : decode cX2_init 75 = .ok (.iconst (-1), 1) := by decide +kernel
theorem dX2_init_76 : decode cX2_init 76 = .ok (.invokestatic 41, 3) := by decide +kernel
theorem dX2_init_79 : decode cX2_init 79 = .ok (.return_, 1) := by decide +kernel
theorem dX2_slot_0 : decode cX2_slot 0 = .ok (.iload_n 0, 1) := by decide +kernel
theorem dX2_slot_1 : decode cX2_slot 1 = .ok (.iconst 4, 1) := by decide +kernel
theorem dX2_slot_2 : decode cX2_slot 2 = .ok (.imul, 1) := by decide +kernel
theorem dX2_slot_3 : decode cX2_slot 3 = .ok (.iload_n 1, 1) := by decide +kernel
theorem dX2_slot_4 : decode cX2_slot 4 = .ok (.iadd, 1) := by decide +kernel
theorem dX2_slot_5 : decode cX2_slot 5 = .ok (.ireturn, 1) := by decide +kernel
theorem dX2_hasShape_0 : decode cX2_hasShape 0 = .ok (.iload_n 1, 1) := by decide +kernel
theorem dX2_hasShape_1 : decode cX2_hasShape 1 = .ok (.ifCond .lt 15, 3) := by decide +kernel
theorem dX2_hasShape_4 : decode cX2_hasShape 4 = .ok (.iload_n 1, 1) := by decide +kernel
theorem dX2_hasShape_5 : decode cX2_hasShape 5 = .ok (.aload_n 0, 1) := by decide +kernel
theorem dX2_hasShape_6 : decode cX2_hasShape 6 = .ok (.getfield 15, 3) := by decide +kernel
theorem dX2_hasShape_9 : decode cX2_hasShape 9 = .ok (.if_icmp .ge 7, 3) := by decide +kernel
theorem dX2_hasShape_12 : decode cX2_hasShape 12 = .ok (.iconst 1, 1) := by decide +kernel
theorem dX2_hasShape_13 : decode cX2_hasShape 13 = .ok (.goto 4, 3) := by decide +kernel
theorem dX2_hasShape_16 : decode cX2_hasShape 16 = .ok (.iconst 0, 1) := by decide +kernel
theorem dX2_hasShape_17 : decode cX2_hasShape 17 = .ok (.ireturn, 1) := by decide +kernel
set_option maxRecDepth 20000 in
theorem ggX2_addBox_X2_slot : GoodIn wsX2_addBox wsX2_slot := goodIn_r _ [9] (by decide +kernel) (by decide +kernel)
set_option maxRecDepth 20000 in
theorem gX2_addBox_X2_slot : GoodIn wsX2_addBox (va_wsS RX2 47 yX2_slot wsX2_slot) := goodIn_app (goodIn_of _ (by decide +kernel)) ggX2_addBox_X2_slot
theorem dX2_addBox_0 : decode cX2_addBox 0 = .ok (.iload_n 1, 1) := by decide +kernel
theorem dX2_addBox_1 : decode cX2_addBox 1 = .ok (.aload_n 0, 1) := by decide +kernel
theorem dX2_addBox_2 : decode cX2_addBox 2 = .ok (.getfield 18, 3) := by decide +kernel
theorem dX2_addBox_5 : decode cX2_addBox 5 = .ok (.iload_n 1, 1) := by decide +kernel
theorem dX2_addBox_6 : decode cX2_addBox 6 = .ok (.iaload, 1) := by decide +kernel
theorem dX2_addBox_7 : decode cX2_addBox 7 = .ok (.invokestatic 47, 3) := by decide +kernel
theorem dX2_addBox_10 : decode cX2_addBox 10 = .ok (.istore 6, 2) := by decide +kernel
theorem dX2_addBox_12 : decode cX2_addBox 12 = .ok (.aload_n 0, 1) := by decide +kernel
theorem dX2_addBox_13 : decode cX2_addBox 13 = .ok (.getfield 22, 3) := by decide +kernel
theorem dX2_addBox_16 : decode cX2_addBox 16 = .ok (.iload 6, 2) := by decide +kernel
theorem dX2_addBox_18 : decode cX2_addBox 18 = .ok (.iload_n 2, 1) := by decide +kernel
theorem dX2_addBox_19 : decode cX2_addBox 19 = .ok (.iastore, 1) := by decide +kernel
theorem dX2_addBox_20 : decode cX2_addBox 20 = .ok (.aload_n 0, 1) := by decide +kernel
theorem dX2_addBox_21 : decode cX2_addBox 21 = .ok (.getfield 28, 3) := by decide +kernel
theorem dX2_addBox_24 : decode cX2_addBox 24 = .ok (.iload 6, 2) := by decide +kernel
theorem dX2_addBox_26 : decode cX2_addBox 26 = .ok (.iload_n 3, 1) := by decide +kernel
theorem dX2_addBox_27 : decode cX2_addBox 27 = .ok (.iastore, 1) := by decide +kernel
theorem dX2_addBox_28 : decode cX2_addBox 28 = .ok (.aload_n 0, 1) := by decide +kernel
theorem dX2_addBox_29 : decode cX2_addBox 29 = .ok (.getfield 25, 3) := by decide +kernel
theorem dX2_addBox_32 : decode cX2_addBox 32 = .ok (.iload 6, 2) := by decide +kernel
theorem dX2_addBox_34 : decode cX2_addBox 34 = .ok (.iload 4, 2) := by decide +kernel
theorem dX2_addBox_36 : decode cX2_addBox 36 = .ok (.iastore, 1) := by decide +kernel
theorem dX2_addBox_37 : decode cX2_addBox 37 = .ok (.aload_n 0, 1) := by decide +kernel
theorem dX2_addBox_38 : decode cX2_addBox 38 = .ok (.getfield 31, 3) := by decide +kernel
theorem dX2_addBox_41 : decode cX2_addBox 41 = .ok (.iload 6, 2) := by decide +kernel
theorem dX2_addBox_43 : decode cX2_addBox 43 = .ok (.iload 5, 2) := by decide +kernel
theorem dX2_addBox_45 : decode cX2_addBox 45 = .ok (.iastore, 1) := by decide +kernel
theorem dX2_addBox_46 : decode cX2_addBox 46 = .ok (.aload_n 0, 1) := by decide +kernel
theorem dX2_addBox_47 : decode cX2_addBox 47 = .ok (.getfield 18, 3) := by decide +kernel
theorem dX2_addBox_50 : decode cX2_addBox 50 = .ok (.iload_n 1, 1) := by decide +kernel
theorem dX2_addBox_51 : decode cX2_addBox 51 = .ok (.dup2, 1) := by decide +kernel
theorem dX2_addBox_52 : decode cX2_addBox 52 = .ok (.iaload, 1) := by decide +kernel
theorem dX2_addBox_53 : decode cX2_addBox 53 = .ok (.iconst 1, 1) := by decide +kernel
theorem dX2_addBox_54 : decode cX2_addBox 54 = .ok (.iadd, 1) := by decide +kernel
theorem dX2_addBox_55 : decode cX2_addBox 55 = .ok (.iastore, 1) := by decide +kernel
theorem dX2_addBox_56 : decode cX2_addBox 56 = .ok (.return_, 1) := by decide +kernel
theorem dX2_countBoxes_0 : decode cX2_countBoxes 0 = .ok (.iconst 0, 1) := by decide +kernel
theorem dX2_countBoxes_1 : decode cX2_countBoxes 1 = .ok (.istore_n 1, 1) := by decide +kernel
theorem dX2_countBoxes_2 : decode cX2_countBoxes 2 = .ok (.iconst 0, 1) := by decide +kernel
theorem dX2_countBoxes_3 : decode cX2_countBoxes 3 = .ok (.istore_n 2, 1) := by decide +kernel
theorem dX2_countBoxes_4 : decode cX2_countBoxes 4 = .ok (.iload_n 2, 1) := by decide +kernel
theorem dX2_countBoxes_5 : decode cX2_countBoxes 5 = .ok (.aload_n 0, 1) := by decide +kernel
theorem dX2_countBoxes_6 : decode cX2_countBoxes 6 = .ok (.getfield 15, 3) := by decide +kernel
theorem dX2_countBoxes_9 : decode cX2_countBoxes 9 = .ok (.if_icmp .ge 18, 3) := by decide +kernel
theorem dX2_countBoxes_12 : decode cX2_countBoxes 12 = .ok (.iload_n 1, 1) := by decide +kernel
theorem dX2_countBoxes_13 : decode cX2_countBoxes 13 = .ok (.aload_n 0, 1) := by decide +kernel
theorem dX2_countBoxes_14 : decode cX2_countBoxes 14 = .ok (.getfield 18, 3) := by decide +kernel
theorem dX2_countBoxes_17 : decode cX2_countBoxes 17 = .ok (.iload_n 2, 1) := by decide +kernel
theorem dX2_countBoxes_18 : decode cX2_countBoxes 18 = .ok (.iaload, 1) := by decide +kernel
theorem dX2_countBoxes_19 : decode cX2_countBoxes 19 = .ok (.iadd, 1) := by decide +kernel
theorem dX2_countBoxes_20 : decode cX2_countBoxes 20 = .ok (.istore_n 1, 1) := by decide +kernel
theorem dX2_countBoxes_21 : decode cX2_countBoxes 21 = .ok (.iinc 2 1, 3) := by decide +kernel
theorem dX2_countBoxes_24 : decode cX2_countBoxes 24 = .ok (.goto (-20), 3) := by decide +kernel
theorem dX2_countBoxes_27 : decode cX2_countBoxes 27 = .ok (.iload_n 1, 1) := by decide +kernel
theorem dX2_countBoxes_28 : decode cX2_countBoxes 28 = .ok (.ireturn, 1) := by decide +kernel
theorem dX2_size_0 : decode cX2_size 0 = .ok (.aload_n 0, 1) := by decide +kernel
theorem dX2_size_1 : decode cX2_size 1 = .ok (.getfield 25, 3) := by decide +kernel
theorem dX2_size_4 : decode cX2_size 4 = .ok (.iload_n 1, 1) := by decide +kernel
theorem dX2_size_5 : decode cX2_size 5 = .ok (.iaload, 1) := by decide +kernel
theorem dX2_size_6 : decode cX2_size 6 = .ok (.aload_n 0, 1) := by decide +kernel
theorem dX2_size_7 : decode cX2_size 7 = .ok (.getfield 22, 3) := by decide +kernel
theorem dX2_size_10 : decode cX2_size 10 = .ok (.iload_n 1, 1) := by decide +kernel
theorem dX2_size_11 : decode cX2_size 11 = .ok (.iaload, 1) := by decide +kernel
theorem dX2_size_12 : decode cX2_size 12 = .ok (.isub, 1) := by decide +kernel
theorem dX2_size_13 : decode cX2_size 13 = .ok (.i2l, 1) := by decide +kernel
theorem dX2_size_14 : decode cX2_size 14 = .ok (.aload_n 0, 1) := by decide +kernel
theorem dX2_size_15 : decode cX2_size 15 = .ok (.getfield 31, 3) := by decide +kernel
theorem dX2_size_18 : decode cX2_size 18 = .ok (.iload_n 1, 1) := by decide +kernel
theorem dX2_size_19 : decode cX2_size 19 = .ok (.iaload, 1) := by decide +kernel
theorem dX2_size_20 : decode cX2_size 20 = .ok (.aload_n 0, 1) := by decide +kernel
theorem dX2_size_21 : decode cX2_size 21 = .ok (.getfield 28, 3) := by decide +kernel
theorem dX2_size_24 : decode cX2_size 24 = .ok (.iload_n 1, 1) := by decide +kernel
theorem dX2_size_25 : decode cX2_size 25 = .ok (.iaload, 1) := by decide +kernel
theorem dX2_size_26 : decode cX2_size 26 = .ok (.isub, 1) := by decide +kernel
theorem dX2_size_27 : decode cX2_size 27 = .ok (.i2l, 1) := by decide +kernel
theorem dX2_size_28 : decode cX2_size 28 = .ok (.lmul, 1) := by decide +kernel
theorem dX2_size_29 : decode cX2_size 29 = .ok (.lreturn, 1) := by decide +kernel
set_option maxRecDepth 20000 in
theorem ggX2_tooNear_X2_gap : GoodIn wsX2_tooNear wsX2_gap := goodIn_r _ [9, 10, 11, 12, 13] (by decide +kernel) (by decide +kernel)
set_option maxRecDepth 20000 in
theorem gX2_tooNear_X2_gap : GoodIn wsX2_tooNear (va_wsS RX2 51 yX2_gap wsX2_gap) := goodIn_app (goodIn_of _ (by decide +kernel)) ggX2_tooNear_X2_gap
theorem dX2_tooNear_0 : decode cX2_tooNear 0 = .ok (.aload_n 0, 1) := by decide +kernel
theorem dX2_tooNear_1 : decode cX2_tooNear 1 = .ok (.getfield 22, 3) := by decide +kernel
theorem dX2_tooNear_4 : decode cX2_tooNear 4 = .ok (.iload_n 1, 1) := by decide +kernel
theorem dX2_tooNear_5 : decode cX2_tooNear 5 = .ok (.iaload, 1) := by decide +kernel
theorem dX2_tooNear_6 : decode cX2_tooNear 6 = .ok (.aload_n 0, 1) := by decide +kernel
theorem dX2_tooNear_7 : decode cX2_tooNear 7 = .ok (.getfield 25, 3) := by decide +kernel
theorem dX2_tooNear_10 : decode cX2_tooNear 10 = .ok (.iload_n 1, 1) := by decide +kernel
theorem dX2_tooNear_11 : decode cX2_tooNear 11 = .ok (.iaload, 1) := by decide +kernel
theorem dX2_tooNear_12 : decode cX2_tooNear 12 = .ok (.aload_n 0, 1) := by decide +kernel
theorem dX2_tooNear_13 : decode cX2_tooNear 13 = .ok (.getfield 22, 3) := by decide +kernel
theorem dX2_tooNear_16 : decode cX2_tooNear 16 = .ok (.iload_n 2, 1) := by decide +kernel
theorem dX2_tooNear_17 : decode cX2_tooNear 17 = .ok (.iaload, 1) := by decide +kernel
theorem dX2_tooNear_18 : decode cX2_tooNear 18 = .ok (.aload_n 0, 1) := by decide +kernel
theorem dX2_tooNear_19 : decode cX2_tooNear 19 = .ok (.getfield 25, 3) := by decide +kernel
theorem dX2_tooNear_22 : decode cX2_tooNear 22 = .ok (.iload_n 2, 1) := by decide +kernel
theorem dX2_tooNear_23 : decode cX2_tooNear 23 = .ok (.iaload, 1) := by decide +kernel
theorem dX2_tooNear_24 : decode cX2_tooNear 24 = .ok (.invokestatic 51, 3) := by decide +kernel
theorem dX2_tooNear_27 : decode cX2_tooNear 27 = .ok (.lstore_n 3, 1) := by decide +kernel
theorem dX2_tooNear_28 : decode cX2_tooNear 28 = .ok (.aload_n 0, 1) := by decide +kernel
theorem dX2_tooNear_29 : decode cX2_tooNear 29 = .ok (.getfield 28, 3) := by decide +kernel
theorem dX2_tooNear_32 : decode cX2_tooNear 32 = .ok (.iload_n 1, 1) := by decide +kernel
theorem dX2_tooNear_33 : decode cX2_tooNear 33 = .ok (.iaload, 1) := by decide +kernel
theorem dX2_tooNear_34 : decode cX2_tooNear 34 = .ok (.aload_n 0, 1) := by decide +kernel
theorem dX2_tooNear_35 : decode cX2_tooNear 35 = .ok (.getfield 31, 3) := by decide +kernel
theorem dX2_tooNear_38 : decode cX2_tooNear 38 = .ok (.iload_n 1, 1) := by decide +kernel
theorem dX2_tooNear_39 : decode cX2_tooNear 39 = .ok (.iaload, 1) := by decide +kernel
theorem dX2_tooNear_40 : decode cX2_tooNear 40 = .ok (.aload_n 0, 1) := by decide +kernel
theorem dX2_tooNear_41 : decode cX2_tooNear 41 = .ok (.getfield 28, 3) := by decide +kernel
theorem dX2_tooNear_44 : decode cX2_tooNear 44 = .ok (.iload_n 2, 1) := by decide +kernel
theorem dX2_tooNear_45 : decode cX2_tooNear 45 = .ok (.iaload, 1) := by decide +kernel
theorem dX2_tooNear_46 : decode cX2_tooNear 46 = .ok (.aload_n 0, 1) := by decide +kernel
theorem dX2_tooNear_47 : decode cX2_tooNear 47 = .ok (.getfield 31, 3) := by decide +kernel
theorem dX2_tooNear_50 : decode cX2_tooNear 50 = .ok (.iload_n 2, 1) := by decide +kernel
theorem dX2_tooNear_51 : decode cX2_tooNear 51 = .ok (.iaload, 1) := by decide +kernel
theorem dX2_tooNear_52 : decode cX2_tooNear 52 = .ok (.invokestatic 51, 3) := by decide +kernel
theorem dX2_tooNear_55 : decode cX2_tooNear 55 = .ok (.lstore 5, 2) := by decide +kernel
theorem dX2_tooNear_57 : decode cX2_tooNear 57 = .ok (.lload_n 3, 1) := by decide +kernel
theorem dX2_tooNear_58 : decode cX2_tooNear 58 = .ok (.lload_n 3, 1) := by decide +kernel
theorem dX2_tooNear_59 : decode cX2_tooNear 59 = .ok (.lmul, 1) := by decide +kernel
theorem dX2_tooNear_60 : decode cX2_tooNear 60 = .ok (.lload 5, 2) := by decide +kernel
theorem dX2_tooNear_62 : decode cX2_tooNear 62 = .ok (.lload 5, 2) := by decide +kernel
theorem dX2_tooNear_64 : decode cX2_tooNear 64 = .ok (.lmul, 1) := by decide +kernel
theorem dX2_tooNear_65 : decode cX2_tooNear 65 = .ok (.ladd, 1) := by decide +kernel
theorem dX2_tooNear_66 : decode cX2_tooNear 66 = .ok (.aload_n 0, 1) := by decide +kernel
theorem dX2_tooNear_67 : decode cX2_tooNear 67 = .ok (.getfield 9, 3) := by decide +kernel
theorem dX2_tooNear_70 : decode cX2_tooNear 70 = .ok (.i2l, 1) := by decide +kernel
theorem dX2_tooNear_71 : decode cX2_tooNear 71 = .ok (.aload_n 0, 1) := by decide +kernel
theorem dX2_tooNear_72 : decode cX2_tooNear 72 = .ok (.getfield 9, 3) := by decide +kernel
theorem dX2_tooNear_75 : decode cX2_tooNear 75 = .ok (.i2l, 1) := by decide +kernel
theorem dX2_tooNear_76 : decode cX2_tooNear 76 = .ok (.lmul, 1) := by decide +kernel
theorem dX2_tooNear_77 : decode cX2_tooNear 77 = .ok (.lcmp, 1) := by decide +kernel
theorem dX2_tooNear_78 : decode cX2_tooNear 78 = .ok (.ifCond .ge 7, 3) := by decide +kernel
theorem dX2_tooNear_81 : decode cX2_tooNear 81 = .ok (.iconst 1, 1) := by decide +kernel
theorem dX2_tooNear_82 : decode cX2_tooNear 82 = .ok (.goto 4, 3) := by decide +kernel
theorem dX2_tooNear_85 : decode cX2_tooNear 85 = .ok (.iconst 0, 1) := by decide +kernel
theorem dX2_tooNear_86 : decode cX2_tooNear 86 = .ok (.ireturn, 1) := by decide +kernel
theorem dX2_gap_0 : decode cX2_gap 0 = .ok (.iconst 0, 1) := by decide +kernel
theorem dX2_gap_1 : decode cX2_gap 1 = .ok (.iload_n 2, 1) := by decide +kernel
theorem dX2_gap_2 : decode cX2_gap 2 = .ok (.iload_n 1, 1) := by decide +kernel
theorem dX2_gap_3 : decode cX2_gap 3 = .ok (.isub, 1) := by decide +kernel
theorem dX2_gap_4 : decode cX2_gap 4 = .ok (.iload_n 0, 1) := by decide +kernel
theorem dX2_gap_5 : decode cX2_gap 5 = .ok (.iload_n 3, 1) := by decide +kernel
theorem dX2_gap_6 : decode cX2_gap 6 = .ok (.isub, 1) := by decide +kernel
theorem dX2_gap_7 : decode cX2_gap 7 = .ok (.invokestatic 55, 3) := by decide +kernel
theorem dX2_gap_10 : decode cX2_gap 10 = .ok (.invokestatic 55, 3) := by decide +kernel
theorem dX2_gap_13 : decode cX2_gap 13 = .ok (.i2l, 1) := by decide +kernel
theorem dX2_gap_14 : decode cX2_gap 14 = .ok (.lreturn, 1) := by decide +kernel
theorem dJ9_max_7cf53_0 : decode cJ9_max_7cf53 0 = .ok (.iload_n 0, 1) := by decide +kernel
theorem dJ9_max_7cf53_1 : decode cJ9_max_7cf53 1 = .ok (.iload_n 1, 1) := by decide +kernel
theorem dJ9_max_7cf53_2 : decode cJ9_max_7cf53 2 = .ok (.if_icmp .lt 7, 3) := by decide +kernel
theorem dJ9_max_7cf53_5 : decode cJ9_max_7cf53 5 = .ok (.iload_n 0, 1) := by decide +kernel
theorem dJ9_max_7cf53_6 : decode cJ9_max_7cf53 6 = .ok (.goto 4, 3) := by decide +kernel
theorem dJ9_max_7cf53_9 : decode cJ9_max_7cf53 9 = .ok (.iload_n 1, 1) := by decide +kernel
theorem dJ9_max_7cf53_10 : decode cJ9_max_7cf53 10 = .ok (.ireturn, 1) := by decide +kernel
theorem dJ7_fill_d0a16_0 : decode cJ7_fill_d0a16 0 = .ok (.iconst 0, 1) := by decide +kernel
theorem dJ7_fill_d0a16_1 : decode cJ7_fill_d0a16 1 = .ok (.istore_n 3, 1) := by decide +kernel
theorem dJ7_fill_d0a16_2 : decode cJ7_fill_d0a16 2 = .ok (.aload_n 0, 1) := by decide +kernel
theorem dJ7_fill_d0a16_3 : decode cJ7_fill_d0a16 3 = .ok (.arraylength, 1) := by decide +kernel
theorem dJ7_fill_d0a16_4 : decode cJ7_fill_d0a16 4 = .ok (.istore 4, 2) := by decide +kernel
theorem dJ7_fill_d0a16_6 : decode cJ7_fill_d0a16 6 = .ok (.iload_n 3, 1) := by decide +kernel
theorem dJ7_fill_d0a16_7 : decode cJ7_fill_d0a16 7 = .ok (.iload 4, 2) := by decide +kernel
theorem dJ7_fill_d0a16_9 : decode cJ7_fill_d0a16 9 = .ok (.if_icmp .ge 13, 3) := by decide +kernel
theorem dJ7_fill_d0a16_12 : decode cJ7_fill_d0a16 12 = .ok (.aload_n 0, 1) := by decide +kernel
theorem dJ7_fill_d0a16_13 : decode cJ7_fill_d0a16 13 = .ok (.iload_n 3, 1) := by decide +kernel
theorem dJ7_fill_d0a16_14 : decode cJ7_fill_d0a16 14 = .ok (.lload_n 1, 1) := by decide +kernel
theorem dJ7_fill_d0a16_15 : decode cJ7_fill_d0a16 15 = .ok (.lastore, 1) := by decide +kernel
theorem dJ7_fill_d0a16_16 : decode cJ7_fill_d0a16 16 = .ok (.iinc 3 1, 3) := by decide +kernel
theorem dJ7_fill_d0a16_19 : decode cJ7_fill_d0a16 19 = .ok (.goto (-13), 3) := by decide +kernel
theorem dJ7_fill_d0a16_22 : decode cJ7_fill_d0a16 22 = .ok (.return_, 1) := by decide +kernel
theorem dJ7_fill_53178_0 : decode cJ7_fill_53178 0 = .ok (.iconst 0, 1) := by decide +kernel
theorem dJ7_fill_53178_1 : decode cJ7_fill_53178 1 = .ok (.istore_n 2, 1) := by decide +kernel
theorem dJ7_fill_53178_2 : decode cJ7_fill_53178 2 = .ok (.aload_n 0, 1) := by decide +kernel
theorem dJ7_fill_53178_3 : decode cJ7_fill_53178 3 = .ok (.arraylength, 1) := by decide +kernel
theorem dJ7_fill_53178_4 : decode cJ7_fill_53178 4 = .ok (.istore_n 3, 1) := by decide +kernel
theorem dJ7_fill_53178_5 : decode cJ7_fill_53178 5 = .ok (.iload_n 2, 1) := by decide +kernel
theorem dJ7_fill_53178_6 : decode cJ7_fill_53178 6 = .ok (.iload_n 3, 1) := by decide +kernel
theorem dJ7_fill_53178_7 : decode cJ7_fill_53178 7 = .ok (.if_icmp .ge 13, 3) := by decide +kernel
theorem dJ7_fill_53178_10 : decode cJ7_fill_53178 10 = .ok (.aload_n 0, 1) := by decide +kernel
theorem dJ7_fill_53178_11 : decode cJ7_fill_53178 11 = .ok (.iload_n 2, 1) := by decide +kernel
theorem dJ7_fill_53178_12 : decode cJ7_fill_53178 12 = .ok (.iload_n 1, 1) := by decide +kernel
theorem dJ7_fill_53178_13 : decode cJ7_fill_53178 13 = .ok (.iastore, 1) := by decide +kernel
theorem dJ7_fill_53178_14 : decode cJ7_fill_53178 14 = .ok (.iinc 2 1, 3) := by decide +kernel
theorem dJ7_fill_53178_17 : decode cJ7_fill_53178 17 = .ok (.goto (-12), 3) := by decide +kernel
theorem dJ7_fill_53178_20 : decode cJ7_fill_53178 20 = .ok (.return_, 1) := by decide +kernel
