theorem dX5_init_0 : decode cX5_init 0 = .ok (.aload_n 0, 1) := by decide +kernel
theorem dX5_init_1 : decode cX5_init 1 = .ok (.invokespecial 1, 3) := by decide +kernel
theorem dX5_init_4 : decode cX5_init 4 = .ok (.aload_n 0, 1) := by decide +kernel
theorem dX5_init_5 : decode cX5_init 5 = .ok (.bipush 10, 2) := by decide +kernel
theorem dX5_init_7 : decode cX5_init 7 = .ok (.putfield 7, 3) := by decide +kernel
theorem dX5_init_10 : decode cX5_init 10 = .ok (.aload_n 0, 1) := by decide +kernel
theorem dX5_init_11 : decode cX5_init 11 = .ok (.bipush 10, 2) := by decide +kernel
theorem dX5_init_13 : decode cX5_init 13 = .ok (.newarray .int, 2) := by decide +kernel
theorem dX5_init_15 : decode cX5_init 15 = .ok (.putfield 13, 3) := by decide +kernel
theorem dX5_init_18 : decode cX5_init 18 = .ok (.aload_n 0, 1) := by decide +kernel
theorem dX5_init_19 : decode cX5_init 19 = .ok (.bipush 40, 2) := by decide +kernel
theorem dX5_init_21 : decode cX5_init 21 = .ok (.newarray .int, 2) := by decide +kernel
theorem dX5_init_23 : decode cX5_init 23 = .ok (.putfield 17, 3) := by decide +kernel
theorem dX5_init_26 : decode cX5_init 26 = .ok (.aload_n 0, 1) := by decide +kernel
theorem dX5_init_27 : decode cX5_init 27 = .ok (.bipush 40, 2) := by decide +kernel
theorem dX5_init_29 : decode cX5_init 29 = .ok (.newarray .int, 2) := by decide +kernel
theorem dX5_init_31 : decode cX5_init 31 = .ok (.putfield 20, 3) := by decide +kernel
theorem dX5_init_34 : decode cX5_init 34 = .ok (.aload_n 0, 1) := by decide +kernel
theorem dX5_init_35 : decode cX5_init 35 = .ok (.bipush 40, 2) := by decide +kernel
theorem dX5_init_37 : decode cX5_init 37 = .ok (.newarray .int, 2) := by decide +kernel
theorem dX5_init_39 : decode cX5_init 39 = .ok (.putfield 23, 3) := by decide +kernel
theorem dX5_init_42 : decode cX5_init 42 = .ok (.aload_n 0, 1) := by decide +kernel
theorem dX5_init_43 : decode cX5_init 43 = .ok (.bipush 40, 2) := by decide +kernel
theorem dX5_init_45 : decode cX5_init 45 = .ok (.newarray .int, 2) := by decide +kernel
theorem dX5_init_47 : decode cX5_init 47 = .ok (.putfield 26, 3) := by decide +kernel
theorem dX5_init_50 : decode cX5_init 50 = .ok (.aload_n 0, 1) := by decide +kernel
theorem dX5_init_51 : decode cX5_init 51 = .ok (.bipush 40, 2) := by decide +kernel
theorem dX5_init_53 : decode cX5_init 53 = .ok (.newarray .boolean, 2) := by decide +kernel
theorem dX5_init_55 : decode cX5_init 55 = .ok (.putfield 29, 3) := by decide +kernel
theorem dX5_init_58 : decode cX5_init 58 = .ok (.aload_n 0, 1) := by decide +kernel
theorem dX5_init_59 : decode cX5_init 59 = .ok (.bipush 40, 2) := by decide +kernel
theorem dX5_init_61 : decode cX5_init 61 = .ok (.newarray .int, 2) := by decide +kernel
theorem dX5_init_63 : decode cX5_init 63 = .ok (.putfield 33, 3) := by decide +kernel
theorem dX5_init_66 : decode cX5_init 66 = .ok (.aload_n 0, 1) := by decide +kernel
theorem dX5_init_67 : decode cX5_init 67 = .ok (.bipush 40, 2) := by decide +kernel
theorem dX5_init_69 : decode cX5_init 69 = .ok (.newarray .int, 2) := by decide +kernel
theorem dX5_init_71 : decode cX5_init 71 = .ok (.putfield 36, 3) := by decide +kernel
theorem dX5_init_74 : decode cX5_init 74 = .ok (.aload_n 0, 1) := by decide +kernel
theorem dX5_init_75 : decode cX5_init 75 = .ok (.bipush 40, 2) := by decide +kernel
theorem dX5_init_77 : decode cX5_init 77 = .ok (.newarray .int, 2) := by decide +kernel
theorem dX5_init_79 : decode cX5_init 79 = .ok (.putfield 39, 3) := by decide +kernel
theorem dX5_init_82 : decode cX5_init 82 = .ok (.aload_n 0, 1) := by decide +kernel
theorem dX5_init_83 : decode cX5_init 83 = .ok (.bipush 40, 2) := by decide +kernel
theorem dX5_init_85 : decode cX5_init 85 = .ok (.newarray .boolean, 2) := by decide +kernel
theorem dX5_init_87 : decode cX5_init 87 = .ok (.putfield 42, 3) := by decide +kernel
theorem dX5_init_90 : decode cX5_init 90 = .ok (.aload_n 0, 1) := by decide +kernel
theorem dX5_init_91 : decode cX5_init 91 = .ok (.bipush 40, 2) := by decide +kernel
theorem dX5_init_93 : decode cX5_init 93 = .ok (.newarray .long, 2) := by decide +kernel
theorem dX5_init_95 : decode cX5_init 95 = .ok (.putfield 45, 3) := by decide +kernel
theorem dX5_init_98 : decode cX5_init 98 = .ok (.aload_n 0, 1) := by decide +kernel
theorem dX5_init_99 : decode cX5_init 99 = .ok (.iconst (-1), 1) := by decide +kernel
theorem dX5_init_100 : decode cX5_init 100 = .ok (.putfield 49, 3) := by decide +kernel
theorem dX5_init_103 : decode cX5_init 103 = .ok (.aload_n 0, 1) := by decide +kernel
theorem dX5_init_104 : decode cX5_init 104 = .ok (.bipush 40, 2) := by decide +kernel
theorem dX5_init_106 : decode cX5_init 106 = .ok (.newarray .int, 2) := by decide +kernel
theorem dX5_init_108 : decode cX5_init 108 = .ok (.putfield 52, 3) := by decide +kernel
theorem dX5_init_111 : decode cX5_init 111 = .ok (.aload_n 0, 1) := by decide +kernel
theorem dX5_init_112 : decode cX5_init 112 = .ok (.bipush 41, 2) := by decide +kernel
theorem dX5_init_114 : decode cX5_init 114 = .ok (.newarray .int, 2) := by decide +kernel
theorem dX5_init_116 : decode cX5_init 116 = .ok (.putfield 55, 3) := by decide +kernel
theorem dX5_init_119 : decode cX5_init 119 = .ok (.aload_n 0, 1) := by decide +kernel
theorem dX5_init_120 : decode cX5_init 120 = .ok (.bipush 42, 2) := by decide +kernel
theorem dX5_init_122 : decode cX5_init 122 = .ok (.newarray .long, 2) := by decide +kernel
theorem dX5_init_124 : decode cX5_init 124 = .ok (.putfield 58, 3) := by decide +kernel
theorem dX5_init_127 : decode cX5_init 127 = .ok (.return_, 1) := by decide +kernel
theorem dX5_thrown_0 : decode cX5_thrown 0 = .ok (.aload_n 0, 1) := by decide +kernel
theorem dX5_thrown_1 : decode cX5_thrown 1 = .ok (.getfield 61, 3) := by decide +kernel
theorem dX5_thrown_4 : decode cX5_thrown 4 = .ok (.ireturn, 1) := by decide +kernel
theorem dX5_isIn_0 : decode cX5_isIn 0 = .ok (.lload_n 0, 1) := by decide +kernel
theorem dX5_isIn_1 : decode cX5_isIn 1 = .ok (.lload_n 2, 1) := by decide +kernel
theorem dX5_isIn_2 : decode cX5_isIn 2 = .ok (.lcmp, 1) := by decide +kernel
theorem dX5_isIn_3 : decode cX5_isIn 3 = .ok (.ifCond .lt 14, 3) := by decide +kernel
theorem dX5_isIn_6 : decode cX5_isIn 6 = .ok (.lload_n 0, 1) := by decide +kernel
theorem dX5_isIn_7 : decode cX5_isIn 7 = .ok (.lload 4, 2) := by decide +kernel
theorem dX5_isIn_9 : decode cX5_isIn 9 = .ok (.lcmp, 1) := by decide +kernel
theorem dX5_isIn_10 : decode cX5_isIn 10 = .ok (.ifCond .gt 7, 3) := by decide +kernel
theorem dX5_isIn_13 : decode cX5_isIn 13 = .ok (.iconst 1, 1) := by decide +kernel
theorem dX5_isIn_14 : decode cX5_isIn 14 = .ok (.goto 4, 3) := by decide +kernel
theorem dX5_isIn_17 : decode cX5_isIn 17 = .ok (.iconst 0, 1) := by decide +kernel
theorem dX5_isIn_18 : decode cX5_isIn 18 = .ok (.ireturn, 1) := by decide +kernel
set_option maxRecDepth 20000 in
theorem ggX5_isShape_X5_isIn : GoodIn wsX5_isShape wsX5_isIn := goodIn_r _ [5] (by decide +kernel) (by decide +kernel)
set_option maxRecDepth 20000 in
theorem gX5_isShape_X5_isIn : GoodIn wsX5_isShape (va_wsS RX5 67 yX5_isIn wsX5_isIn) := goodIn_app (goodIn_of _ (by decide +kernel)) ggX5_isShape_X5_isIn
theorem dX5_isShape_0 : decode cX5_isShape 0 = .ok (.iload_n 1, 1) := by decide +kernel
theorem dX5_isShape_1 : decode cX5_isShape 1 = .ok (.i2l, 1) := by decide +kernel
theorem dX5_isShape_2 : decode cX5_isShape 2 = .ok (.lconst 0, 1) := by decide +kernel
theorem dX5_isShape_3 : decode cX5_isShape 3 = .ok (.aload_n 0, 1) := by decide +kernel
theorem dX5_isShape_4 : decode cX5_isShape 4 = .ok (.getfield 64, 3) := by decide +kernel
theorem dX5_isShape_7 : decode cX5_isShape 7 = .ok (.iconst 1, 1) := by decide +kernel
theorem dX5_isShape_8 : decode cX5_isShape 8 = .ok (.isub, 1) := by decide +kernel
theorem dX5_isShape_9 : decode cX5_isShape 9 = .ok (.i2l, 1) := by decide +kernel
theorem dX5_isShape_10 : decode cX5_isShape 10 = .ok (.invokestatic 67, 3) := by decide +kernel
theorem dX5_isShape_13 : decode cX5_isShape 13 = .ok (.ireturn, 1) := by decide +kernel
set_option maxRecDepth 20000 in
theorem ggX5_isBox_X5_isShape : GoodIn wsX5_isBox wsX5_isShape := goodIn_r _ [6, 7, 8, 9, 5, 10, 11, 12, 13, 14, 15, 16, 17, 18, 19, 20, 21, 22, 23, 24, 25, 26, 27, 28, 29, 30, 31, 32] (by decide +kernel) (by decide +kernel)
set_option maxRecDepth 20000 in
theorem gX5_isBox_X5_isShape : GoodIn wsX5_isBox (wsV RX5 71 RX5 yX5_isShape wsX5_isShape) := goodIn_app (goodIn_of _ (by decide +kernel)) ggX5_isBox_X5_isShape
set_option maxRecDepth 20000 in
theorem ggX5_isBox_X5_isIn : GoodIn wsX5_isBox wsX5_isIn := goodIn_r _ [10] (by decide +kernel) (by decide +kernel)
set_option maxRecDepth 20000 in
theorem gX5_isBox_X5_isIn : GoodIn wsX5_isBox (va_wsS RX5 67 yX5_isIn wsX5_isIn) := goodIn_app (goodIn_of _ (by decide +kernel)) ggX5_isBox_X5_isIn
theorem dX5_isBox_0 : decode cX5_isBox 0 = .ok (.aload_n 0, 1) := by decide +kernel
theorem dX5_isBox_1 : decode cX5_isBox 1 = .ok (.iload_n 1, 1) := by decide +kernel
theorem dX5_isBox_2 : decode cX5_isBox 2 = .ok (.invokevirtual 71, 3) := by decide +kernel
theorem dX5_isBox_5 : decode cX5_isBox 5 = .ok (.ifCond .eq 25, 3) := by decide +kernel
theorem dX5_isBox_8 : decode cX5_isBox 8 = .ok (.iload_n 2, 1) := by decide +kernel
theorem dX5_isBox_9 : decode cX5_isBox 9 = .ok (.i2l, 1) := by decide +kernel
theorem dX5_isBox_10 : decode cX5_isBox 10 = .ok (.lconst 0, 1) := by decide +kernel
theorem dX5_isBox_11 : decode cX5_isBox 11 = .ok (.aload_n 0, 1) := by decide +kernel
theorem dX5_isBox_12 : decode cX5_isBox 12 = .ok (.getfield 13, 3) := by decide +kernel
theorem dX5_isBox_15 : decode cX5_isBox 15 = .ok (.iload_n 1, 1) := by decide +kernel
theorem dX5_isBox_16 : decode cX5_isBox 16 = .ok (.iaload, 1) := by decide +kernel
theorem dX5_isBox_17 : decode cX5_isBox 17 = .ok (.iconst 1, 1) := by decide +kernel
theorem dX5_isBox_18 : decode cX5_isBox 18 = .ok (.isub, 1) := by decide +kernel
theorem dX5_isBox_19 : decode cX5_isBox 19 = .ok (.i2l, 1) := by decide +kernel
theorem dX5_isBox_20 : decode cX5_isBox 20 = .ok (.invokestatic 67, 3) := by decide +kernel
theorem dX5_isBox_23 : decode cX5_isBox 23 = .ok (.ifCond .eq 7, 3) := by decide +kernel
theorem dX5_isBox_26 : decode cX5_isBox 26 = .ok (.iconst 1, 1) := by decide +kernel
theorem dX5_isBox_27 : decode cX5_isBox 27 = .ok (.goto 4, 3) := by decide +kernel
theorem dX5_isBox_30 : decode cX5_isBox 30 = .ok (.iconst 0, 1) := by decide +kernel
theorem dX5_isBox_31 : decode cX5_isBox 31 = .ok (.ireturn, 1) := by decide +kernel
theorem dX5_forget_0 : decode cX5_forget 0 = .ok (.aload_n 0, 1) := by decide +kernel
theorem dX5_forget_1 : decode cX5_forget 1 = .ok (.iconst (-1), 1) := by decide +kernel
theorem dX5_forget_2 : decode cX5_forget 2 = .ok (.putfield 49, 3) := by decide +kernel
theorem dX5_forget_5 : decode cX5_forget 5 = .ok (.aload_n 0, 1) := by decide +kernel
theorem dX5_forget_6 : decode cX5_forget 6 = .ok (.iconst 0, 1) := by decide +kernel
theorem dX5_forget_7 : decode cX5_forget 7 = .ok (.putfield 75, 3) := by decide +kernel
theorem dX5_forget_10 : decode cX5_forget 10 = .ok (.return_, 1) := by decide +kernel
set_option maxRecDepth 20000 in
theorem ggX5_distance_X5_isIn : GoodIn wsX5_distance wsX5_isIn := goodIn_r _ [7] (by decide +kernel) (by decide +kernel)
set_option maxRecDepth 20000 in
theorem gX5_distance_X5_isIn : GoodIn wsX5_distance (va_wsS RX5 67 yX5_isIn wsX5_isIn) := goodIn_app (goodIn_of _ (by decide +kernel)) ggX5_distance_X5_isIn
set_option maxRecDepth 20000 in
theorem ggX5_distance_X5_forget : GoodIn wsX5_distance wsX5_forget := goodIn_r _ [11, 12, 13, 14, 15, 16, 17, 18, 19, 20, 21, 22, 23, 24, 25, 26, 27, 28, 29, 30, 31, 32, 33, 34, 35] (by decide +kernel) (by decide +kernel)
set_option maxRecDepth 20000 in
theorem gX5_distance_X5_forget : GoodIn wsX5_distance (wsV RX5 80 RX5 yX5_forget wsX5_forget) := goodIn_app (goodIn_of _ (by decide +kernel)) ggX5_distance_X5_forget
theorem dX5_distance_0 : decode cX5_distance 0 = .ok (.aload_n 0, 1) := by decide +kernel
theorem dX5_distance_1 : decode cX5_distance 1 = .ok (.iload_n 1, 1) := by decide +kernel
theorem dX5_distance_2 : decode cX5_distance 2 = .ok (.i2l, 1) := by decide +kernel
theorem dX5_distance_3 : decode cX5_distance 3 = .ok (.lconst 1, 1) := by decide +kernel
theorem dX5_distance_4 : decode cX5_distance 4 = .ok (.ldc2_w 78, 3) := by decide +kernel
theorem dX5_distance_7 : decode cX5_distance 7 = .ok (.invokestatic 67, 3) := by decide +kernel
theorem dX5_distance_10 : decode cX5_distance 10 = .ok (.ifCond .eq 7, 3) := by decide +kernel
theorem dX5_distance_13 : decode cX5_distance 13 = .ok (.iconst 0, 1) := by decide +kernel
theorem dX5_distance_14 : decode cX5_distance 14 = .ok (.goto 4, 3) := by decide +kernel
theorem dX5_distance_17 : decode cX5_distance 17 = .ok (.iconst 1, 1) := by decide +kernel
theorem dX5_distance_18 : decode cX5_distance 18 = .ok (.putfield 61, 3) := by decide +kernel
theorem dX5_distance_21 : decode cX5_distance 21 = .ok (.aload_n 0, 1) := by decide +kernel
theorem dX5_distance_22 : decode cX5_distance 22 = .ok (.getfield 61, 3) := by decide +kernel
theorem dX5_distance_25 : decode cX5_distance 25 = .ok (.ifCond .le 5, 3) := by decide +kernel
theorem dX5_distance_28 : decode cX5_distance 28 = .ok (.iconst 0, 1) := by decide +kernel
theorem dX5_distance_29 : decode cX5_distance 29 = .ok (.ireturn, 1) := by decide +kernel
theorem dX5_distance_30 : decode cX5_distance 30 = .ok (.aload_n 0, 1) := by decide +kernel
theorem dX5_distance_31 : decode cX5_distance 31 = .ok (.getfield 7, 3) := by decide +kernel
theorem dX5_distance_34 : decode cX5_distance 34 = .ok (.istore_n 2, 1) := by decide +kernel
theorem dX5_distance_35 : decode cX5_distance 35 = .ok (.aload_n 0, 1) := by decide +kernel
theorem dX5_distance_36 : decode cX5_distance 36 = .ok (.iload_n 1, 1) := by decide +kernel
theorem dX5_distance_37 : decode cX5_distance 37 = .ok (.putfield 7, 3) := by decide +kernel
theorem dX5_distance_40 : decode cX5_distance 40 = .ok (.aload_n 0, 1) := by decide +kernel
theorem dX5_distance_41 : decode cX5_distance 41 = .ok (.invokevirtual 80, 3) := by decide +kernel
theorem dX5_distance_44 : decode cX5_distance 44 = .ok (.iload_n 2, 1) := by decide +kernel
theorem dX5_distance_45 : decode cX5_distance 45 = .ok (.ireturn, 1) := by decide +kernel
set_option maxRecDepth 20000 in
theorem ggX5_shape_X5_forget : GoodIn wsX5_shape wsX5_forget := goodIn_r _ [8, 9, 10, 11, 12, 13, 14, 15, 16, 17, 18, 19, 20, 21, 22, 23, 24, 25, 26, 27, 28, 29, 30, 31, 32] (by decide +kernel) (by decide +kernel)
set_option maxRecDepth 20000 in
theorem gX5_shape_X5_forget : GoodIn wsX5_shape (wsV RX5 80 RX5 yX5_forget wsX5_forget) := goodIn_app (goodIn_of _ (by decide +kernel)) ggX5_shape_X5_forget
theorem dX5_shape_0 : decode cX5_shape 0 = .ok (.aload_n 0, 1) := by decide +kernel
theorem dX5_shape_1 : decode cX5_shape 1 = .ok (.aload_n 0, 1) := by decide +kernel
theorem dX5_shape_2 : decode cX5_shape 2 = .ok (.getfield 64, 3) := by decide +kernel
theorem dX5_shape_5 : decode cX5_shape 5 = .ok (.bipush 10, 2) := by decide +kernel
theorem dX5_shape_7 : decode cX5_shape 7 = .ok (.if_icmp .ne 7, 3) := by decide +kernel
theorem dX5_shape_10 : decode cX5_shape 10 = .ok (.iconst 1, 1) := by decide +kernel
theorem dX5_shape_11 : decode cX5_shape 11 = .ok (.goto 4, 3) := by decide +kernel
theorem dX5_shape_14 : decode cX5_shape 14 = .ok (.iconst 0, 1) := by decide +kernel
theorem dX5_shape_15 : decode cX5_shape 15 = .ok (.putfield 61, 3) := by decide +kernel
theorem dX5_shape_18 : decode cX5_shape 18 = .ok (.aload_n 0, 1) := by decide +kernel
theorem dX5_shape_19 : decode cX5_shape 19 = .ok (.getfield 61, 3) := by decide +kernel
theorem dX5_shape_22 : decode cX5_shape 22 = .ok (.ifCond .le 5, 3) := by decide +kernel
theorem dX5_shape_25 : decode cX5_shape 25 = .ok (.iconst 0, 1) := by decide +kernel
theorem dX5_shape_26 : decode cX5_shape 26 = .ok (.ireturn, 1) := by decide +kernel
theorem dX5_shape_27 : decode cX5_shape 27 = .ok (.aload_n 0, 1) := by decide +kernel
theorem dX5_shape_28 : decode cX5_shape 28 = .ok (.getfield 13, 3) := by decide +kernel
theorem dX5_shape_31 : decode cX5_shape 31 = .ok (.aload_n 0, 1) := by decide +kernel
theorem dX5_shape_32 : decode cX5_shape 32 = .ok (.getfield 64, 3) := by decide +kernel
theorem dX5_shape_35 : decode cX5_shape 35 = .ok (.iconst 0, 1) := by decide +kernel
theorem dX5_shape_36 : decode cX5_shape 36 = .ok (.iastore, 1) := by decide +kernel
theorem dX5_shape_37 : decode cX5_shape 37 = .ok (.aload_n 0, 1) := by decide +kernel
theorem dX5_shape_38 : decode cX5_shape 38 = .ok (.dup, 1) := by decide +kernel
theorem dX5_shape_39 : decode cX5_shape 39 = .ok (.getfield 64, 3) := by decide +kernel
theorem dX5_shape_42 : decode cX5_shape 42 = .ok (.iconst 1, 1) := by decide +kernel
theorem dX5_shape_43 : decode cX5_shape 43 = .ok (.iadd, 1) := by decide +kernel
theorem dX5_shape_44 : decode cX5_shape 44 = .ok (.putfield 64, 3) := by decide +kernel
theorem dX5_shape_47 : decode cX5_shape 47 = .ok (.aload_n 0, 1) := by decide +kernel
theorem dX5_shape_48 : decode cX5_shape 48 = .ok (.invokevirtual 80, 3) := by decide +kernel
theorem dX5_shape_51 : decode cX5_shape 51 = .ok (.aload_n 0, 1) := by decide +kernel
theorem dX5_shape_52 : decode cX5_shape 52 = .ok (.getfield 64, 3) := by decide +kernel
theorem dX5_shape_55 : decode cX5_shape 55 = .ok (.iconst 1, 1) := by decide +kernel
theorem dX5_shape_56 : decode cX5_shape 56 = .ok (.isub, 1) := by decide +kernel
theorem dX5_shape_57 : decode cX5_shape 57 = .ok (.ireturn, 1) := by decide +kernel
set_option maxRecDepth 20000 in
theorem ggX5_isPlace_X5_isIn : GoodIn wsX5_isPlace wsX5_isIn := goodIn_r _ [6] (by decide +kernel) (by decide +kernel)
set_option maxRecDepth 20000 in
theorem gX5_isPlace_X5_isIn : GoodIn wsX5_isPlace (va_wsS RX5 67 yX5_isIn wsX5_isIn) := goodIn_app (goodIn_of _ (by decide +kernel)) ggX5_isPlace_X5_isIn
theorem dX5_isPlace_0 : decode cX5_isPlace 0 = .ok (.iload_n 0, 1) := by decide +kernel
theorem dX5_isPlace_1 : decode cX5_isPlace 1 = .ok (.i2l, 1) := by decide +kernel
theorem dX5_isPlace_2 : decode cX5_isPlace 2 = .ok (.ldc2_w 83, 3) := by decide +kernel
theorem dX5_isPlace_5 : decode cX5_isPlace 5 = .ok (.ldc2_w 85, 3) := by decide +kernel
theorem dX5_isPlace_8 : decode cX5_isPlace 8 = .ok (.invokestatic 67, 3) := by decide +kernel
theorem dX5_isPlace_11 : decode cX5_isPlace 11 = .ok (.ireturn, 1) := by decide +kernel
set_option maxRecDepth 20000 in
theorem ggX5_box_X5_isPlace : GoodIn wsX5_box wsX5_isPlace := goodIn_r _ [12, 13, 14, 15, 16, 11, 17] (by decide +kernel) (by decide +kernel)
set_option maxRecDepth 20000 in
theorem gX5_box_X5_isPlace : GoodIn wsX5_box (va_wsS RX5 87 yX5_isPlace wsX5_isPlace) := goodIn_app (goodIn_of _ (by decide +kernel)) ggX5_box_X5_isPlace
set_option maxRecDepth 20000 in
theorem ggX5_box_X5_isShape : GoodIn wsX5_box wsX5_isShape := goodIn_r _ [21, 22, 15, 16, 11, 17, 29, 30, 31, 32, 33, 34, 35, 36, 37, 38, 39, 40, 41, 42, 43, 44, 45, 46, 47, 48, 49, 50] (by decide +kernel) (by decide +kernel)
set_option maxRecDepth 20000 in
theorem gX5_box_X5_isShape : GoodIn wsX5_box (wsV RX5 71 RX5 yX5_isShape wsX5_isShape) := goodIn_app (goodIn_of _ (by decide +kernel)) ggX5_box_X5_isShape
set_option maxRecDepth 20000 in
theorem ggX5_box_X5_forget : GoodIn wsX5_box wsX5_forget := goodIn_r _ [26, 27, 28, 29, 30, 31, 32, 33, 34, 35, 36, 37, 38, 39, 40, 41, 42, 43, 44, 45, 46, 47, 48, 49, 50] (by decide +kernel) (by decide +kernel)
set_option maxRecDepth 20000 in
theorem gX5_box_X5_forget : GoodIn wsX5_box (wsV RX5 80 RX5 yX5_forget wsX5_forget) := goodIn_app (goodIn_of _ (by decide +kernel)) ggX5_box_X5_forget
theorem dX5_box_0 : decode cX5_box 0 = .ok (.iload_n 2, 1) := by decide +kernel
theorem dX5_box_1 : decode cX5_box 1 = .ok (.invokestatic 87, 3) := by decide +kernel
theorem dX5_box_4 : decode cX5_box 4 = .ok (.ifCond .eq 42, 3) := by decide +kernel
theorem dX5_box_7 : decode cX5_box 7 = .ok (.iload_n 3, 1) := by decide +kernel
theorem dX5_box_8 : decode cX5_box 8 = .ok (.invokestatic 87, 3) := by decide +kernel
theorem dX5_box_11 : decode cX5_box 11 = .ok (.ifCond .eq 35, 3) := by decide +kernel
theorem dX5_box_14 : decode cX5_box 14 = .ok (.iload 4, 2) := by decide +kernel
theorem dX5_box_16 : decode cX5_box 16 = .ok (.invokestatic 87, 3) := by decide +kernel
theorem dX5_box_19 : decode cX5_box 19 = .ok (.ifCond .eq 27, 3) := by decide +kernel
theorem dX5_box_22 : decode cX5_box 22 = .ok (.iload 5, 2) := by decide +kernel
theorem dX5_box_24 : decode cX5_box 24 = .ok (.invokestatic 87, 3) := by decide +kernel
theorem dX5_box_27 : decode cX5_box 27 = .ok (.ifCond .eq 19, 3) := by decide +kernel
theorem dX5_box_30 : decode cX5_box 30 = .ok (.iload_n 2, 1) := by decide +kernel
theorem dX5_box_31 : decode cX5_box 31 = .ok (.iload 4, 2) := by decide +kernel
theorem dX5_box_33 : decode cX5_box 33 = .ok (.if_icmp .ge 13, 3) := by decide +kernel
theorem dX5_box_36 : decode cX5_box 36 = .ok (.iload_n 3, 1) := by decide +kernel
theorem dX5_box_37 : decode cX5_box 37 = .ok (.iload 5, 2) := by decide +kernel
theorem dX5_box_39 : decode cX5_box 39 = .ok (.if_icmp .ge 7, 3) := by decide +kernel
theorem dX5_box_42 : decode cX5_box 42 = .ok (.iconst 1, 1) := by decide +kernel
theorem dX5_box_43 : decode cX5_box 43 = .ok (.goto 4, 3) := by decide +kernel
theorem dX5_box_46 : decode cX5_box 46 = .ok (.iconst 0, 1) := by decide +kernel
theorem dX5_box_47 : decode cX5_box 47 = .ok (.istore 6, 2) := by decide +kernel
theorem dX5_box_49 : decode cX5_box 49 = .ok (.aload_n 0, 1) := by decide +kernel
theorem dX5_box_50 : decode cX5_box 50 = .ok (.aload_n 0, 1) := by decide +kernel
theorem dX5_box_51 : decode cX5_box 51 = .ok (.iload_n 1, 1) := by decide +kernel
theorem dX5_box_52 : decode cX5_box 52 = .ok (.invokevirtual 71, 3) := by decide +kernel
theorem dX5_box_55 : decode cX5_box 55 = .ok (.ifCond .ne 7, 3) := by decide +kernel
theorem dX5_box_58 : decode cX5_box 58 = .ok (.iconst 1, 1) := by decide +kernel
theorem dX5_box_59 : decode cX5_box 59 = .ok (.goto 27, 3) := by decide +kernel
theorem dX5_box_62 : decode cX5_box 62 = .ok (.iload 6, 2) := by decide +kernel
theorem dX5_box_64 : decode cX5_box 64 = .ok (.ifCond .ne 7, 3) := by decide +kernel
theorem dX5_box_67 : decode cX5_box 67 = .ok (.iconst 2, 1) := by decide +kernel
theorem dX5_box_68 : decode cX5_box 68 = .ok (.goto 18, 3) := by decide +kernel
theorem dX5_box_71 : decode cX5_box 71 = .ok (.aload_n 0, 1) := by decide +kernel
theorem dX5_box_72 : decode cX5_box 72 = .ok (.getfield 13, 3) := by decide +kernel
theorem dX5_box_75 : decode cX5_box 75 = .ok (.iload_n 1, 1) := by decide +kernel
theorem dX5_box_76 : decode cX5_box 76 = .ok (.iaload, 1) := by decide +kernel
theorem dX5_box_77 : decode cX5_box 77 = .ok (.iconst 4, 1) := by decide +kernel
theorem dX5_box_78 : decode cX5_box 78 = .ok (.if_icmp .ne 7, 3) := by decide +kernel
theorem dX5_box_81 : decode cX5_box 81 = .ok (.iconst 3, 1) := by decide +kernel
theorem dX5_box_82 : decode cX5_box 82 = .ok (.goto 4, 3) := by decide +kernel
theorem dX5_box_85 : decode cX5_box 85 = .ok (.iconst 0, 1) := by decide +kernel
theorem dX5_box_86 : decode cX5_box 86 = .ok (.putfield 61, 3) := by decide +kernel
theorem dX5_box_89 : decode cX5_box 89 = .ok (.aload_n 0, 1) := by decide +kernel
theorem dX5_box_90 : decode cX5_box 90 = .ok (.getfield 61, 3) := by decide +kernel
theorem dX5_box_93 : decode cX5_box 93 = .ok (.ifCond .le 5, 3) := by decide +kernel
theorem dX5_box_96 : decode cX5_box 96 = .ok (.iconst 0, 1) := by decide +kernel
theorem dX5_box_97 : decode cX5_box 97 = .ok (.ireturn, 1) := by decide +kernel
theorem dX5_box_98 : decode cX5_box 98 = .ok (.iconst 4, 1) := by decide +kernel
theorem dX5_box_99 : decode cX5_box 99 = .ok (.iload_n 1, 1) := by decide +kernel
theorem dX5_box_100 : decode cX5_box 100 = .ok (.imul, 1) := by decide +kernel
theorem dX5_box_101 : decode cX5_box 101 = .ok (.aload_n 0, 1) := by decide +kernel
theorem dX5_box_102 : decode cX5_box 102 = .ok (.getfield 13, 3) := by decide +kernel
theorem dX5_box_105 : decode cX5_box 105 = .ok (.iload_n 1, 1) := by decide +kernel
theorem dX5_box_106 : decode cX5_box 106 = .ok (.iaload, 1) := by decide +kernel
theorem dX5_box_107 : decode cX5_box 107 = .ok (.iadd, 1) := by decide +kernel
theorem dX5_box_108 : decode cX5_box 108 = .ok (.istore 7, 2) := by decide +kernel
theorem dX5_box_110 : decode cX5_box 110 = .ok (.aload_n 0, 1) := by decide +kernel
theorem dX5_box_111 : decode cX5_box 111 = .ok (.getfield 17, 3) := by decide +kernel
theorem dX5_box_114 : decode cX5_box 114 = .ok (.iload 7, 2) := by decide +kernel
theorem dX5_box_116 : decode cX5_box 116 = .ok (.iload_n 2, 1) := by decide +kernel
theorem dX5_box_117 : decode cX5_box 117 = .ok (.iastore, 1) := by decide +kernel
theorem dX5_box_118 : decode cX5_box 118 = .ok (.aload_n 0, 1) := by decide +kernel
theorem dX5_box_119 : decode cX5_box 119 = .ok (.getfield 20, 3) := by decide +kernel
theorem dX5_box_122 : decode cX5_box 122 = .ok (.iload 7, 2) := by decide +kernel
theorem dX5_box_124 : decode cX5_box 124 = .ok (.iload_n 3, 1) := by decide +kernel
theorem dX5_box_125 : decode cX5_box 125 = .ok (.iastore, 1) := by decide +kernel
theorem dX5_box_126 : decode cX5_box 126 = .ok (.aload_n 0, 1) := by decide +kernel
theorem dX5_box_127 : decode cX5_box 127 = .ok (.getfield 23, 3) := by decide +kernel
theorem dX5_box_130 : decode cX5_box 130 = .ok (.iload 7, 2) := by decide +kernel
theorem dX5_box_132 : decode cX5_box 132 = .ok (.iload 4, 2) := by decide +kernel
theorem dX5_box_134 : decode cX5_box 134 = .ok (.iastore, 1) := by decide +kernel
theorem dX5_box_135 : decode cX5_box 135 = .ok (.aload_n 0, 1) := by decide +kernel
theorem dX5_box_136 : decode cX5_box 136 = .ok (.getfield 26, 3) := by decide +kernel
theorem dX5_box_139 : decode cX5_box 139 = .ok (.iload 7, 2) := by decide +kernel
theorem dX5_box_141 : decode cX5_box 141 = .ok (.iload 5, 2) := by decide +kernel
theorem dX5_box_143 : decode cX5_box 143 = .ok (.iastore, 1) := by decide +kernel
theorem dX5_box_144 : decode cX5_box 144 = .ok (.aload_n 0, 1) := by decide +kernel
theorem dX5_box_145 : decode cX5_box 145 = .ok (.getfield 29, 3) := by decide +kernel
theorem dX5_box_148 : decode cX5_box 148 = .ok (.iload 7, 2) := by decide +kernel
theorem dX5_box_150 : decode cX5_box 150 = .ok (.iconst 0, 1) := by decide +kernel
theorem dX5_box_151 : decode cX5_box 151 = .ok (.bastore, 1) := by decide +kernel
theorem dX5_box_152 : decode cX5_box 152 = .ok (.aload_n 0, 1) := by decide +kernel
theorem dX5_box_153 : decode cX5_box 153 = .ok (.getfield 33, 3) := by decide +kernel
theorem dX5_box_156 : decode cX5_box 156 = .ok (.iload 7, 2) := by decide +kernel
theorem dX5_box_158 : decode cX5_box 158 = .ok (.iconst (-1), 1) := by decide +kernel
theorem dX5_box_159 : decode cX5_box 159 = .ok (.iastore, 1) := by decide +kernel
theorem dX5_box_160 : decode cX5_box 160 = .ok (.aload_n 0, 1) := by decide +kernel
theorem dX5_box_161 : decode cX5_box 161 = .ok (.getfield 13, 3) := by decide +kernel
theorem dX5_box_164 : decode cX5_box 164 = .ok (.iload_n 1, 1) := by decide +kernel
theorem dX5_box_165 : decode cX5_box 165 = .ok (.dup2, 1) := by decide +kernel
theorem dX5_box_166 : decode cX5_box 166 = .ok (.iaload, 1) := by decide +kernel
theorem dX5_box_167 : decode cX5_box 167 = .ok (.iconst 1, 1) := by decide +kernel
theorem dX5_box_168 : decode cX5_box 168 = .ok (.iadd, 1) := by decide +kernel
theorem dX5_box_169 : decode cX5_box 169 = .ok (.iastore, 1) := by decide +kernel
theorem dX5_box_170 : decode cX5_box 170 = .ok (.aload_n 0, 1) := by decide +kernel
theorem dX5_box_171 : decode cX5_box 171 = .ok (.invokevirtual 80, 3) := by decide +kernel
theorem dX5_box_174 : decode cX5_box 174 = .ok (.aload_n 0, 1) := by decide +kernel
theorem dX5_box_175 : decode cX5_box 175 = .ok (.getfield 13, 3) := by decide +kernel
theorem dX5_box_178 : decode cX5_box 178 = .ok (.iload_n 1, 1) := by decide +kernel
theorem dX5_box_179 : decode cX5_box 179 = .ok (.iaload, 1) := by decide +kernel
theorem dX5_box_180 : decode cX5_box 180 = .ok (.ireturn, 1) := by decide +kernel
set_option maxRecDepth 20000 in
theorem ggX5_stitch_X5_isBox : GoodIn wsX5_stitch wsX5_isBox := goodIn_r _ [7, 8, 9, 10, 11, 6, 12, 13, 14, 15, 16, 23, 24, 25, 26, 27, 28, 29, 30, 31, 32, 33, 34, 35, 36, 37, 38, 39, 40, 41, 42, 43, 44] (by decide +kernel) (by decide +kernel)
set_option maxRecDepth 20000 in
theorem gX5_stitch_X5_isBox : GoodIn wsX5_stitch (wsV RX5 90 RX5 yX5_isBox wsX5_isBox) := goodIn_app (goodIn_of _ (by decide +kernel)) ggX5_stitch_X5_isBox
set_option maxRecDepth 20000 in
theorem ggX5_stitch_X5_forget : GoodIn wsX5_stitch wsX5_forget := goodIn_r _ [20, 21, 22, 23, 24, 25, 26, 27, 28, 29, 30, 31, 32, 33, 34, 35, 36, 37, 38, 39, 40, 41, 42, 43, 44] (by decide +kernel) (by decide +kernel)
set_option maxRecDepth 20000 in
theorem gX5_stitch_X5_forget : GoodIn wsX5_stitch (wsV RX5 80 RX5 yX5_forget wsX5_forget) := goodIn_app (goodIn_of _ (by decide +kernel)) ggX5_stitch_X5_forget
theorem dX5_stitch_0 : decode cX5_stitch 0 = .ok (.aload_n 0, 1) := by decide +kernel
theorem dX5_stitch_1 : decode cX5_stitch 1 = .ok (.aload_n 0, 1) := by decide +kernel
theorem dX5_stitch_2 : decode cX5_stitch 2 = .ok (.iload_n 1, 1) := by decide +kernel
theorem dX5_stitch_3 : decode cX5_stitch 3 = .ok (.iload_n 2, 1) := by decide +kernel
theorem dX5_stitch_4 : decode cX5_stitch 4 = .ok (.invokevirtual 90, 3) := by decide +kernel
theorem dX5_stitch_7 : decode cX5_stitch 7 = .ok (.ifCond .eq 7, 3) := by decide +kernel
theorem dX5_stitch_10 : decode cX5_stitch 10 = .ok (.iconst 0, 1) := by decide +kernel
theorem dX5_stitch_11 : decode cX5_stitch 11 = .ok (.goto 4, 3) := by decide +kernel
theorem dX5_stitch_14 : decode cX5_stitch 14 = .ok (.iconst 1, 1) := by decide +kernel
theorem dX5_stitch_15 : decode cX5_stitch 15 = .ok (.putfield 61, 3) := by decide +kernel
theorem dX5_stitch_18 : decode cX5_stitch 18 = .ok (.aload_n 0, 1) := by decide +kernel
theorem dX5_stitch_19 : decode cX5_stitch 19 = .ok (.getfield 61, 3) := by decide +kernel
theorem dX5_stitch_22 : decode cX5_stitch 22 = .ok (.ifCond .le 5, 3) := by decide +kernel
theorem dX5_stitch_25 : decode cX5_stitch 25 = .ok (.iconst 0, 1) := by decide +kernel
theorem dX5_stitch_26 : decode cX5_stitch 26 = .ok (.ireturn, 1) := by decide +kernel
theorem dX5_stitch_27 : decode cX5_stitch 27 = .ok (.aload_n 0, 1) := by decide +kernel
theorem dX5_stitch_28 : decode cX5_stitch 28 = .ok (.getfield 29, 3) := by decide +kernel
theorem dX5_stitch_31 : decode cX5_stitch 31 = .ok (.iconst 4, 1) := by decide +kernel
theorem dX5_stitch_32 : decode cX5_stitch 32 = .ok (.iload_n 1, 1) := by decide +kernel
theorem dX5_stitch_33 : decode cX5_stitch 33 = .ok (.imul, 1) := by decide +kernel
theorem dX5_stitch_34 : decode cX5_stitch 34 = .ok (.iload_n 2, 1) := by decide +kernel
theorem dX5_stitch_35 : decode cX5_stitch 35 = .ok (.iadd, 1) := by decide +kernel
theorem dX5_stitch_36 : decode cX5_stitch 36 = .ok (.baload, 1) := by decide +kernel
theorem dX5_stitch_37 : decode cX5_stitch 37 = .ok (.istore 4, 2) := by decide +kernel
theorem dX5_stitch_39 : decode cX5_stitch 39 = .ok (.aload_n 0, 1) := by decide +kernel
theorem dX5_stitch_40 : decode cX5_stitch 40 = .ok (.getfield 29, 3) := by decide +kernel
theorem dX5_stitch_43 : decode cX5_stitch 43 = .ok (.iconst 4, 1) := by decide +kernel
theorem dX5_stitch_44 : decode cX5_stitch 44 = .ok (.iload_n 1, 1) := by decide +kernel
theorem dX5_stitch_45 : decode cX5_stitch 45 = .ok (.imul, 1) := by decide +kernel
theorem dX5_stitch_46 : decode cX5_stitch 46 = .ok (.iload_n 2, 1) := by decide +kernel
theorem dX5_stitch_47 : decode cX5_stitch 47 = .ok (.iadd, 1) := by decide +kernel
theorem dX5_stitch_48 : decode cX5_stitch 48 = .ok (.iload_n 3, 1) := by decide +kernel
theorem dX5_stitch_49 : decode cX5_stitch 49 = .ok (.bastore, 1) := by decide +kernel
theorem dX5_stitch_50 : decode cX5_stitch 50 = .ok (.aload_n 0, 1) := by decide +kernel
theorem dX5_stitch_51 : decode cX5_stitch 51 = .ok (.invokevirtual 80, 3) := by decide +kernel
theorem dX5_stitch_54 : decode cX5_stitch 54 = .ok (.iload 4, 2) := by decide +kernel
theorem dX5_stitch_56 : decode cX5_stitch 56 = .ok (.ireturn, 1) := by decide +kernel
set_option maxRecDepth 20000 in
theorem ggX5_pre_X5_isBox : GoodIn wsX5_pre wsX5_isBox := goodIn_r _ [9, 10, 11, 12, 13, 8, 14, 15, 16, 17, 18, 25, 26, 27, 28, 29, 30, 31, 32, 33, 34, 35, 36, 37, 38, 39, 40, 41, 42, 43, 44, 45, 46] (by decide +kernel) (by decide +kernel)
set_option maxRecDepth 20000 in
theorem gX5_pre_X5_isBox : GoodIn wsX5_pre (wsV RX5 90 RX5 yX5_isBox wsX5_isBox) := goodIn_app (goodIn_of _ (by decide +kernel)) ggX5_pre_X5_isBox
set_option maxRecDepth 20000 in
theorem ggX5_pre_X5_isIn : GoodIn wsX5_pre wsX5_isIn := goodIn_r _ [18] (by decide +kernel) (by decide +kernel)
set_option maxRecDepth 20000 in
theorem gX5_pre_X5_isIn : GoodIn wsX5_pre (va_wsS RX5 67 yX5_isIn wsX5_isIn) := goodIn_app (goodIn_of _ (by decide +kernel)) ggX5_pre_X5_isIn
set_option maxRecDepth 20000 in
theorem ggX5_pre_X5_forget : GoodIn wsX5_pre wsX5_forget := goodIn_r _ [22, 23, 24, 25, 26, 27, 28, 29, 30, 31, 32, 33, 34, 35, 36, 37, 38, 39, 40, 41, 42, 43, 44, 45, 46] (by decide +kernel) (by decide +kernel)
set_option maxRecDepth 20000 in
theorem gX5_pre_X5_forget : GoodIn wsX5_pre (wsV RX5 80 RX5 yX5_forget wsX5_forget) := goodIn_app (goodIn_of _ (by decide +kernel)) ggX5_pre_X5_forget
theorem dX5_pre_0 : decode cX5_pre 0 = .ok (.aload_n 0, 1) := by decide +kernel
theorem dX5_pre_1 : decode cX5_pre 1 = .ok (.aload_n 0, 1) := by decide +kernel
theorem dX5_pre_2 : decode cX5_pre 2 = .ok (.iload_n 1, 1) := by decide +kernel
theorem dX5_pre_3 : decode cX5_pre 3 = .ok (.iload_n 2, 1) := by decide +kernel
theorem dX5_pre_4 : decode cX5_pre 4 = .ok (.invokevirtual 90, 3) := by decide +kernel
theorem dX5_pre_7 : decode cX5_pre 7 = .ok (.ifCond .ne 7, 3) := by decide +kernel
theorem dX5_pre_10 : decode cX5_pre 10 = .ok (.iconst 1, 1) := by decide +kernel
theorem dX5_pre_11 : decode cX5_pre 11 = .ok (.goto 22, 3) := by decide +kernel
theorem dX5_pre_14 : decode cX5_pre 14 = .ok (.iload_n 3, 1) := by decide +kernel
theorem dX5_pre_15 : decode cX5_pre 15 = .ok (.i2l, 1) := by decide +kernel
theorem dX5_pre_16 : decode cX5_pre 16 = .ok (.ldc2_w 94, 3) := by decide +kernel
theorem dX5_pre_19 : decode cX5_pre 19 = .ok (.ldc2_w 96, 3) := by decide +kernel
theorem dX5_pre_22 : decode cX5_pre 22 = .ok (.invokestatic 67, 3) := by decide +kernel
theorem dX5_pre_25 : decode cX5_pre 25 = .ok (.ifCond .ne 7, 3) := by decide +kernel
theorem dX5_pre_28 : decode cX5_pre 28 = .ok (.iconst 2, 1) := by decide +kernel
theorem dX5_pre_29 : decode cX5_pre 29 = .ok (.goto 4, 3) := by decide +kernel
theorem dX5_pre_32 : decode cX5_pre 32 = .ok (.iconst 0, 1) := by decide +kernel
theorem dX5_pre_33 : decode cX5_pre 33 = .ok (.putfield 61, 3) := by decide +kernel
theorem dX5_pre_36 : decode cX5_pre 36 = .ok (.aload_n 0, 1) := by decide +kernel
theorem dX5_pre_37 : decode cX5_pre 37 = .ok (.getfield 61, 3) := by decide +kernel
theorem dX5_pre_40 : decode cX5_pre 40 = .ok (.ifCond .le 5, 3) := by decide +kernel
theorem dX5_pre_43 : decode cX5_pre 43 = .ok (.iconst 0, 1) := by decide +kernel
theorem dX5_pre_44 : decode cX5_pre 44 = .ok (.ireturn, 1) := by decide +kernel
theorem dX5_pre_45 : decode cX5_pre 45 = .ok (.aload_n 0, 1) := by decide +kernel
theorem dX5_pre_46 : decode cX5_pre 46 = .ok (.getfield 33, 3) := by decide +kernel
theorem dX5_pre_49 : decode cX5_pre 49 = .ok (.iconst 4, 1) := by decide +kernel
theorem dX5_pre_50 : decode cX5_pre 50 = .ok (.iload_n 1, 1) := by decide +kernel
theorem dX5_pre_51 : decode cX5_pre 51 = .ok (.imul, 1) := by decide +kernel
theorem dX5_pre_52 : decode cX5_pre 52 = .ok (.iload_n 2, 1) := by decide +kernel
theorem dX5_pre_53 : decode cX5_pre 53 = .ok (.iadd, 1) := by decide +kernel
theorem dX5_pre_54 : decode cX5_pre 54 = .ok (.iaload, 1) := by decide +kernel
theorem dX5_pre_55 : decode cX5_pre 55 = .ok (.istore 4, 2) := by decide +kernel
theorem dX5_pre_57 : decode cX5_pre 57 = .ok (.aload_n 0, 1) := by decide +kernel
theorem dX5_pre_58 : decode cX5_pre 58 = .ok (.getfield 33, 3) := by decide +kernel
theorem dX5_pre_61 : decode cX5_pre 61 = .ok (.iconst 4, 1) := by decide +kernel
theorem dX5_pre_62 : decode cX5_pre 62 = .ok (.iload_n 1, 1) := by decide +kernel
theorem dX5_pre_63 : decode cX5_pre 63 = .ok (.imul, 1) := by decide +kernel
theorem dX5_pre_64 : decode cX5_pre 64 = .ok (.iload_n 2, 1) := by decide +kernel
theorem dX5_pre_65 : decode cX5_pre 65 = .ok (.iadd, 1) := by decide +kernel
theorem dX5_pre_66 : decode cX5_pre 66 = .ok (.iload_n 3, 1) := by decide +kernel
theorem dX5_pre_67 : decode cX5_pre 67 = .ok (.iastore, 1) := by decide +kernel
theorem dX5_pre_68 : decode cX5_pre 68 = .ok (.aload_n 0, 1) := by decide +kernel
theorem dX5_pre_69 : decode cX5_pre 69 = .ok (.invokevirtual 80, 3) := by decide +kernel
theorem dX5_pre_72 : decode cX5_pre 72 = .ok (.iload 4, 2) := by decide +kernel
theorem dX5_pre_74 : decode cX5_pre 74 = .ok (.ireturn, 1) := by decide +kernel
theorem dX5_gap_0 : decode cX5_gap 0 = .ok (.iload_n 0, 1) := by decide +kernel
theorem dX5_gap_1 : decode cX5_gap 1 = .ok (.iload_n 3, 1) := by decide +kernel
theorem dX5_gap_2 : decode cX5_gap 2 = .ok (.if_icmp .le 9, 3) := by decide +kernel
theorem dX5_gap_5 : decode cX5_gap 5 = .ok (.iload_n 0, 1) := by decide +kernel
theorem dX5_gap_6 : decode cX5_gap 6 = .ok (.iload_n 3, 1) := by decide +kernel
theorem dX5_gap_7 : decode cX5_gap 7 = .ok (.isub, 1) := by decide +kernel
theorem dX5_gap_8 : decode cX5_gap 8 = .ok (.goto 15, 3) := by decide +kernel
theorem dX5_gap_11 : decode cX5_gap 11 = .ok (.iload_n 2, 1) := by decide +kernel
theorem dX5_gap_12 : decode cX5_gap 12 = .ok (.iload_n 1, 1) := by decide +kernel
theorem dX5_gap_13 : decode cX5_gap 13 = .ok (.if_icmp .le 9, 3) := by decide +kernel
theorem dX5_gap_16 : decode cX5_gap 16 = .ok (.iload_n 2, 1) := by decide +kernel
theorem dX5_gap_17 : decode cX5_gap 17 = .ok (.iload_n 1, 1) := by decide +kernel
theorem dX5_gap_18 : decode cX5_gap 18 = .ok (.isub, 1) := by decide +kernel
theorem dX5_gap_19 : decode cX5_gap 19 = .ok (.goto 4, 3) := by decide +kernel
theorem dX5_gap_22 : decode cX5_gap 22 = .ok (.iconst 0, 1) := by decide +kernel
theorem dX5_gap_23 : decode cX5_gap 23 = .ok (.ireturn, 1) := by decide +kernel
set_option maxRecDepth 20000 in
theorem ggX5_isNear_X5_gap : GoodIn wsX5_isNear wsX5_gap := goodIn_r _ [9] (by decide +kernel) (by decide +kernel)
set_option maxRecDepth 20000 in
theorem gX5_isNear_X5_gap : GoodIn wsX5_isNear (va_wsS RX5 98 yX5_gap wsX5_gap) := goodIn_app (goodIn_of _ (by decide +kernel)) ggX5_isNear_X5_gap
theorem dX5_isNear_0 : decode cX5_isNear 0 = .ok (.aload_n 0, 1) := by decide +kernel
theorem dX5_isNear_1 : decode cX5_isNear 1 = .ok (.getfield 17, 3) := by decide +kernel
theorem dX5_isNear_4 : decode cX5_isNear 4 = .ok (.iload_n 1, 1) := by decide +kernel
theorem dX5_isNear_5 : decode cX5_isNear 5 = .ok (.iaload, 1) := by decide +kernel
theorem dX5_isNear_6 : decode cX5_isNear 6 = .ok (.aload_n 0, 1) := by decide +kernel
theorem dX5_isNear_7 : decode cX5_isNear 7 = .ok (.getfield 23, 3) := by decide +kernel
