set_option maxRecDepth 20000 in
theorem ggX4_init_X2_init : GoodIn wsX4_init wsX2_init := goodIn_r _ [22, 23, 2, 3, 24, 25, 26, 27, 28, 29, 30, 31, 32, 33, 34, 35, 36, 37, 38, 72, 73, 74, 75, 76, 77, 78, 79, 80] (by decide +kernel) (by decide +kernel)
set_option maxRecDepth 20000 in
theorem gX4_init_X2_init : GoodIn wsX4_init (wsX2_init) := ggX4_init_X2_init
set_option maxRecDepth 20000 in
theorem ggX4_init_X0_init : GoodIn wsX4_init wsX0_init := goodIn_r _ [41, 42, 2, 3, 43, 44, 45, 46, 26, 47, 48, 49, 32, 50, 51, 52, 85, 86, 87, 88, 89, 90, 91, 92, 93] (by decide +kernel) (by decide +kernel)
set_option maxRecDepth 20000 in
theorem gX4_init_X0_init : GoodIn wsX4_init (wsX0_init) := ggX4_init_X0_init
set_option maxRecDepth 20000 in
theorem ggX4_init_X1_init : GoodIn wsX4_init wsX1_init := goodIn_r _ [55, 56, 2, 3, 57, 58, 26, 59, 60, 48, 61, 62, 94, 95, 96, 97, 98, 99] (by decide +kernel) (by decide +kernel)
set_option maxRecDepth 20000 in
theorem gX4_init_X1_init : GoodIn wsX4_init (wsX1_init) := ggX4_init_X1_init
set_option maxRecDepth 20000 in
theorem ggX4_init_X3_init : GoodIn wsX4_init wsX3_init := goodIn_r _ [65, 66, 2, 3, 67, 68, 26, 69, 48, 70, 71, 100, 101, 102, 103, 104] (by decide +kernel) (by decide +kernel)
set_option maxRecDepth 20000 in
theorem gX4_init_X3_init : GoodIn wsX4_init (wsX3_init) := ggX4_init_X3_init
theorem dX4_init_0 : decode cX4_init 0 = .ok (.aload_n 0, 1) := by decide +kernel
theorem dX4_init_1 : decode cX4_init 1 = .ok (.invokespecial 3, 3) := by decide +kernel
theorem dX4_init_4 : decode cX4_init 4 = .ok (.aload_n 0, 1) := by decide +kernel
theorem dX4_init_5 : decode cX4_init 5 = .ok (.new 9, 3) := by decide +kernel
theorem dX4_init_8 : decode cX4_init 8 = .ok (.dup, 1) := by decide +kernel
theorem dX4_init_9 : decode cX4_init 9 = .ok (.invokespecial 11, 3) := by decide +kernel
theorem dX4_init_12 : decode cX4_init 12 = .ok (.putfield 12, 3) := by decide +kernel
theorem dX4_init_15 : decode cX4_init 15 = .ok (.aload_n 0, 1) := by decide +kernel
theorem dX4_init_16 : decode cX4_init 16 = .ok (.new 16, 3) := by decide +kernel
theorem dX4_init_19 : decode cX4_init 19 = .ok (.dup, 1) := by decide +kernel
theorem dX4_init_20 : decode cX4_init 20 = .ok (.aload_n 0, 1) := by decide +kernel
theorem dX4_init_21 : decode cX4_init 21 = .ok (.getfield 12, 3) := by decide +kernel
theorem dX4_init_24 : decode cX4_init 24 = .ok (.invokespecial 18, 3) := by decide +kernel
theorem dX4_init_27 : decode cX4_init 27 = .ok (.putfield 21, 3) := by decide +kernel
theorem dX4_init_30 : decode cX4_init 30 = .ok (.aload_n 0, 1) := by decide +kernel
theorem dX4_init_31 : decode cX4_init 31 = .ok (.new 25, 3) := by decide +kernel
theorem dX4_init_34 : decode cX4_init 34 = .ok (.dup, 1) := by decide +kernel
theorem dX4_init_35 : decode cX4_init 35 = .ok (.aload_n 0, 1) := by decide +kernel
theorem dX4_init_36 : decode cX4_init 36 = .ok (.getfield 21, 3) := by decide +kernel
theorem dX4_init_39 : decode cX4_init 39 = .ok (.invokespecial 27, 3) := by decide +kernel
theorem dX4_init_42 : decode cX4_init 42 = .ok (.putfield 30, 3) := by decide +kernel
theorem dX4_init_45 : decode cX4_init 45 = .ok (.aload_n 0, 1) := by decide +kernel
theorem dX4_init_46 : decode cX4_init 46 = .ok (.new 34, 3) := by decide +kernel
theorem dX4_init_49 : decode cX4_init 49 = .ok (.dup, 1) := by decide +kernel
theorem dX4_init_50 : decode cX4_init 50 = .ok (.aload_n 0, 1) := by decide +kernel
theorem dX4_init_51 : decode cX4_init 51 = .ok (.getfield 21, 3) := by decide +kernel
theorem dX4_init_54 : decode cX4_init 54 = .ok (.invokespecial 36, 3) := by decide +kernel
theorem dX4_init_57 : decode cX4_init 57 = .ok (.putfield 37, 3) := by decide +kernel
theorem dX4_init_60 : decode cX4_init 60 = .ok (.return_, 1) := by decide +kernel
set_option maxRecDepth 20000 in
theorem ggX4_distance_X4_forgetFindings : GoodIn wsX4_distance wsX4_forgetFindings := goodIn_r _ [9, 10, 11, 12, 13, 14, 15, 16, 17, 18, 19, 20, 21, 22, 23, 24, 25, 35, 36, 37, 38, 39, 40, 41, 42, 43, 44, 45, 46, 47, 48, 49, 50, 51, 52, 53, 54] (by decide +kernel) (by decide +kernel)
set_option maxRecDepth 20000 in
theorem gX4_distance_X4_forgetFindings : GoodIn wsX4_distance (wsV RX4 52 RX4 yX4_forgetFindings wsX4_forgetFindings) := goodIn_app (goodIn_of _ (by decide +kernel)) ggX4_distance_X4_forgetFindings
theorem dX4_distance_0 : decode cX4_distance 0 = .ok (.iload_n 1, 1) := by decide +kernel
theorem dX4_distance_1 : decode cX4_distance 1 = .ok (.iconst 1, 1) := by decide +kernel
theorem dX4_distance_2 : decode cX4_distance 2 = .ok (.if_icmp .lt 10, 3) := by decide +kernel
theorem dX4_distance_5 : decode cX4_distance 5 = .ok (.iload_n 1, 1) := by decide +kernel
theorem dX4_distance_6 : decode cX4_distance 6 = .ok (.sipush 1000, 3) := by decide +kernel
theorem dX4_distance_9 : decode cX4_distance 9 = .ok (.if_icmp .le 13, 3) := by decide +kernel
theorem dX4_distance_12 : decode cX4_distance 12 = .ok (.new 41, 3) := by decide +kernel
theorem dX4_distance_15 : decode cX4_distance 15 = .ok (.dup, 1) := by decide +kernel
theorem dX4_distance_16 : decode cX4_distance 16 = .ok (.ldc 43, 2) := by decide +kernel
theorem dX4_distance_18 : decode cX4_distance 18 = .ok (.invokespecial 45, 3) := by decide +kernel
theorem dX4_distance_21 : decode cX4_distance 21 = .ok (.athrow, 1) := by decide +kernel
theorem dX4_distance_22 : decode cX4_distance 22 = .ok (.aload_n 0, 1) := by decide +kernel
theorem dX4_distance_23 : decode cX4_distance 23 = .ok (.getfield 12, 3) := by decide +kernel
theorem dX4_distance_26 : decode cX4_distance 26 = .ok (.getfield 48, 3) := by decide +kernel
theorem dX4_distance_29 : decode cX4_distance 29 = .ok (.istore_n 2, 1) := by decide +kernel
theorem dX4_distance_30 : decode cX4_distance 30 = .ok (.aload_n 0, 1) := by decide +kernel
theorem dX4_distance_31 : decode cX4_distance 31 = .ok (.getfield 12, 3) := by decide +kernel
theorem dX4_distance_34 : decode cX4_distance 34 = .ok (.iload_n 1, 1) := by decide +kernel
theorem dX4_distance_35 : decode cX4_distance 35 = .ok (.putfield 48, 3) := by decide +kernel
theorem dX4_distance_38 : decode cX4_distance 38 = .ok (.aload_n 0, 1) := by decide +kernel
theorem dX4_distance_39 : decode cX4_distance 39 = .ok (.invokevirtual 52, 3) := by decide +kernel
theorem dX4_distance_42 : decode cX4_distance 42 = .ok (.iload_n 2, 1) := by decide +kernel
theorem dX4_distance_43 : decode cX4_distance 43 = .ok (.ireturn, 1) := by decide +kernel
set_option maxRecDepth 20000 in
theorem ggX4_shape_X4_forgetFindings : GoodIn wsX4_shape wsX4_forgetFindings := goodIn_r _ [9, 10, 11, 12, 13, 14, 15, 16, 17, 18, 19, 20, 21, 22, 23, 24, 25, 35, 36, 37, 38, 39, 40, 41, 42, 43, 44, 45, 46, 47, 48, 49, 50, 51, 52, 53, 54] (by decide +kernel) (by decide +kernel)
set_option maxRecDepth 20000 in
theorem gX4_shape_X4_forgetFindings : GoodIn wsX4_shape (wsV RX4 52 RX4 yX4_forgetFindings wsX4_forgetFindings) := goodIn_app (goodIn_of _ (by decide +kernel)) ggX4_shape_X4_forgetFindings
theorem dX4_shape_0 : decode cX4_shape 0 = .ok (.aload_n 0, 1) := by decide +kernel
theorem dX4_shape_1 : decode cX4_shape 1 = .ok (.getfield 12, 3) := by decide +kernel
theorem dX4_shape_4 : decode cX4_shape 4 = .ok (.getfield 55, 3) := by decide +kernel
theorem dX4_shape_7 : decode cX4_shape 7 = .ok (.bipush 10, 2) := by decide +kernel
theorem dX4_shape_9 : decode cX4_shape 9 = .ok (.if_icmp .lt 13, 3) := by decide +kernel
theorem dX4_shape_12 : decode cX4_shape 12 = .ok (.new 58, 3) := by decide +kernel
theorem dX4_shape_15 : decode cX4_shape 15 = .ok (.dup, 1) := by decide +kernel
theorem dX4_shape_16 : decode cX4_shape 16 = .ok (.ldc 60, 2) := by decide +kernel
theorem dX4_shape_18 : decode cX4_shape 18 = .ok (.invokespecial 62, 3) := by decide +kernel
theorem dX4_shape_21 : decode cX4_shape 21 = .ok (.athrow, 1) := by decide +kernel
theorem dX4_shape_22 : decode cX4_shape 22 = .ok (.aload_n 0, 1) := by decide +kernel
theorem dX4_shape_23 : decode cX4_shape 23 = .ok (.getfield 12, 3) := by decide +kernel
theorem dX4_shape_26 : decode cX4_shape 26 = .ok (.dup, 1) := by decide +kernel
theorem dX4_shape_27 : decode cX4_shape 27 = .ok (.getfield 55, 3) := by decide +kernel
theorem dX4_shape_30 : decode cX4_shape 30 = .ok (.iconst 1, 1) := by decide +kernel
theorem dX4_shape_31 : decode cX4_shape 31 = .ok (.iadd, 1) := by decide +kernel
theorem dX4_shape_32 : decode cX4_shape 32 = .ok (.putfield 55, 3) := by decide +kernel
theorem dX4_shape_35 : decode cX4_shape 35 = .ok (.aload_n 0, 1) := by decide +kernel
theorem dX4_shape_36 : decode cX4_shape 36 = .ok (.invokevirtual 52, 3) := by decide +kernel
theorem dX4_shape_39 : decode cX4_shape 39 = .ok (.aload_n 0, 1) := by decide +kernel
theorem dX4_shape_40 : decode cX4_shape 40 = .ok (.getfield 12, 3) := by decide +kernel
theorem dX4_shape_43 : decode cX4_shape 43 = .ok (.getfield 55, 3) := by decide +kernel
theorem dX4_shape_46 : decode cX4_shape 46 = .ok (.iconst 1, 1) := by decide +kernel
theorem dX4_shape_47 : decode cX4_shape 47 = .ok (.isub, 1) := by decide +kernel
theorem dX4_shape_48 : decode cX4_shape 48 = .ok (.ireturn, 1) := by decide +kernel
set_option maxRecDepth 20000 in
theorem ggX4_box_X2_hasShape : GoodIn wsX4_box wsX2_hasShape := goodIn_r _ [13, 14, 51, 52, 53, 54, 55, 56, 57, 58, 59] (by decide +kernel) (by decide +kernel)
set_option maxRecDepth 20000 in
theorem gX4_box_X2_hasShape : GoodIn wsX4_box (wsV RX4 63 RX2 yX2_hasShape wsX2_hasShape) := goodIn_app (goodIn_of _ (by decide +kernel)) ggX4_box_X2_hasShape
set_option maxRecDepth 20000 in
theorem ggX4_box_X4_isSpan : GoodIn wsX4_box wsX4_isSpan := goodIn_r _ [18] (by decide +kernel) (by decide +kernel)
set_option maxRecDepth 20000 in
theorem gX4_box_X4_isSpan : GoodIn wsX4_box (va_wsS RX4 72 yX4_isSpan wsX4_isSpan) := goodIn_app (goodIn_of _ (by decide +kernel)) ggX4_box_X4_isSpan
set_option maxRecDepth 20000 in
theorem ggX4_box_X2_addBox : GoodIn wsX4_box wsX2_addBox := goodIn_r _ [22, 23, 24, 25, 26, 27, 28, 29, 12, 30, 51, 52, 53, 54, 55, 56, 57, 58, 59] (by decide +kernel) (by decide +kernel)
set_option maxRecDepth 20000 in
theorem gX4_box_X2_addBox : GoodIn wsX4_box (wsV RX4 84 RX2 yX2_addBox wsX2_addBox) := goodIn_app (goodIn_of _ (by decide +kernel)) ggX4_box_X2_addBox
set_option maxRecDepth 20000 in
theorem ggX4_box_X4_forgetFindings : GoodIn wsX4_box wsX4_forgetFindings := goodIn_r _ [34, 35, 36, 37, 38, 39, 40, 41, 42, 43, 44, 45, 46, 47, 48, 49, 50, 60, 61, 62, 63, 64, 65, 66, 67, 68, 69, 70, 71, 72, 73, 74, 75, 76, 77, 78, 79] (by decide +kernel) (by decide +kernel)
set_option maxRecDepth 20000 in
theorem gX4_box_X4_forgetFindings : GoodIn wsX4_box (wsV RX4 52 RX4 yX4_forgetFindings wsX4_forgetFindings) := goodIn_app (goodIn_of _ (by decide +kernel)) ggX4_box_X4_forgetFindings
theorem dX4_box_0 : decode cX4_box 0 = .ok (.aload_n 0, 1) := by decide +kernel
theorem dX4_box_1 : decode cX4_box 1 = .ok (.getfield 12, 3) := by decide +kernel
theorem dX4_box_4 : decode cX4_box 4 = .ok (.iload_n 1, 1) := by decide +kernel
theorem dX4_box_5 : decode cX4_box 5 = .ok (.invokevirtual 63, 3) := by decide +kernel
theorem dX4_box_8 : decode cX4_box 8 = .ok (.ifCond .ne 13, 3) := by decide +kernel
theorem dX4_box_11 : decode cX4_box 11 = .ok (.new 67, 3) := by decide +kernel
theorem dX4_box_14 : decode cX4_box 14 = .ok (.dup, 1) := by decide +kernel
theorem dX4_box_15 : decode cX4_box 15 = .ok (.ldc 69, 2) := by decide +kernel
theorem dX4_box_17 : decode cX4_box 17 = .ok (.invokespecial 71, 3) := by decide +kernel
theorem dX4_box_20 : decode cX4_box 20 = .ok (.athrow, 1) := by decide +kernel
theorem dX4_box_21 : decode cX4_box 21 = .ok (.iload_n 2, 1) := by decide +kernel
theorem dX4_box_22 : decode cX4_box 22 = .ok (.iload 4, 2) := by decide +kernel
theorem dX4_box_24 : decode cX4_box 24 = .ok (.invokestatic 72, 3) := by decide +kernel
theorem dX4_box_27 : decode cX4_box 27 = .ok (.ifCond .eq 12, 3) := by decide +kernel
theorem dX4_box_30 : decode cX4_box 30 = .ok (.iload_n 3, 1) := by decide +kernel
theorem dX4_box_31 : decode cX4_box 31 = .ok (.iload 5, 2) := by decide +kernel
theorem dX4_box_33 : decode cX4_box 33 = .ok (.invokestatic 72, 3) := by decide +kernel
theorem dX4_box_36 : decode cX4_box 36 = .ok (.ifCond .ne 13, 3) := by decide +kernel
theorem dX4_box_39 : decode cX4_box 39 = .ok (.new 41, 3) := by decide +kernel
theorem dX4_box_42 : decode cX4_box 42 = .ok (.dup, 1) := by decide +kernel
theorem dX4_box_43 : decode cX4_box 43 = .ok (.ldc 76, 2) := by decide +kernel
theorem dX4_box_45 : decode cX4_box 45 = .ok (.invokespecial 45, 3) := by decide +kernel
theorem dX4_box_48 : decode cX4_box 48 = .ok (.athrow, 1) := by decide +kernel
theorem dX4_box_49 : decode cX4_box 49 = .ok (.aload_n 0, 1) := by decide +kernel
theorem dX4_box_50 : decode cX4_box 50 = .ok (.getfield 12, 3) := by decide +kernel
theorem dX4_box_53 : decode cX4_box 53 = .ok (.getfield 78, 3) := by decide +kernel
theorem dX4_box_56 : decode cX4_box 56 = .ok (.iload_n 1, 1) := by decide +kernel
theorem dX4_box_57 : decode cX4_box 57 = .ok (.iaload, 1) := by decide +kernel
theorem dX4_box_58 : decode cX4_box 58 = .ok (.iconst 4, 1) := by decide +kernel
theorem dX4_box_59 : decode cX4_box 59 = .ok (.if_icmp .lt 13, 3) := by decide +kernel
theorem dX4_box_62 : decode cX4_box 62 = .ok (.new 58, 3) := by decide +kernel
theorem dX4_box_65 : decode cX4_box 65 = .ok (.dup, 1) := by decide +kernel
theorem dX4_box_66 : decode cX4_box 66 = .ok (.ldc 82, 2) := by decide +kernel
theorem dX4_box_68 : decode cX4_box 68 = .ok (.invokespecial 62, 3) := by decide +kernel
theorem dX4_box_71 : decode cX4_box 71 = .ok (.athrow, 1) := by decide +kernel
theorem dX4_box_72 : decode cX4_box 72 = .ok (.aload_n 0, 1) := by decide +kernel
theorem dX4_box_73 : decode cX4_box 73 = .ok (.getfield 12, 3) := by decide +kernel
theorem dX4_box_76 : decode cX4_box 76 = .ok (.iload_n 1, 1) := by decide +kernel
theorem dX4_box_77 : decode cX4_box 77 = .ok (.iload_n 2, 1) := by decide +kernel
theorem dX4_box_78 : decode cX4_box 78 = .ok (.iload_n 3, 1) := by decide +kernel
theorem dX4_box_79 : decode cX4_box 79 = .ok (.iload 4, 2) := by decide +kernel
theorem dX4_box_81 : decode cX4_box 81 = .ok (.iload 5, 2) := by decide +kernel
theorem dX4_box_83 : decode cX4_box 83 = .ok (.invokevirtual 84, 3) := by decide +kernel
theorem dX4_box_86 : decode cX4_box 86 = .ok (.aload_n 0, 1) := by decide +kernel
theorem dX4_box_87 : decode cX4_box 87 = .ok (.invokevirtual 52, 3) := by decide +kernel
theorem dX4_box_90 : decode cX4_box 90 = .ok (.aload_n 0, 1) := by decide +kernel
theorem dX4_box_91 : decode cX4_box 91 = .ok (.getfield 12, 3) := by decide +kernel
theorem dX4_box_94 : decode cX4_box 94 = .ok (.getfield 78, 3) := by decide +kernel
theorem dX4_box_97 : decode cX4_box 97 = .ok (.iload_n 1, 1) := by decide +kernel
theorem dX4_box_98 : decode cX4_box 98 = .ok (.iaload, 1) := by decide +kernel
theorem dX4_box_99 : decode cX4_box 99 = .ok (.ireturn, 1) := by decide +kernel
set_option maxRecDepth 20000 in
theorem ggX4_stitch_X4_needSlot : GoodIn wsX4_stitch wsX4_needSlot := goodIn_ca (goodIn_r _ [7, 8, 9, 1, 10, 11, 12, 13, 14, 15, 16, 17, 18, 19, 36, 37, 38, 39, 40, 41, 42, 43, 44, 45, 46, 47, 48] (by decide +kernel) (by decide +kernel)) (goodIn_sub (fun _ h => List.mem_cons_of_mem _ (List.mem_append_right _ h)) (by decide +kernel))
set_option maxRecDepth 20000 in
theorem gX4_stitch_X4_needSlot : GoodIn wsX4_stitch (wsV RX4 88 RX4 yX4_needSlot wsX4_needSlot) := goodIn_app (goodIn_of _ (by decide +kernel)) ggX4_stitch_X4_needSlot
set_option maxRecDepth 20000 in
theorem ggX4_stitch_X4_forgetFindings : GoodIn wsX4_stitch wsX4_forgetFindings := goodIn_r _ [23, 24, 25, 26, 27, 28, 29, 30, 31, 32, 33, 34, 35, 36, 37, 38, 39, 49, 50, 51, 52, 53, 54, 55, 56, 57, 58, 59, 60, 61, 62, 63, 64, 65, 66, 67, 68] (by decide +kernel) (by decide +kernel)
set_option maxRecDepth 20000 in
theorem gX4_stitch_X4_forgetFindings : GoodIn wsX4_stitch (wsV RX4 52 RX4 yX4_forgetFindings wsX4_forgetFindings) := goodIn_app (goodIn_of _ (by decide +kernel)) ggX4_stitch_X4_forgetFindings
theorem dX4_stitch_0 : decode cX4_stitch 0 = .ok (.aload_n 0, 1) := by decide +kernel
theorem dX4_stitch_1 : decode cX4_stitch 1 = .ok (.iload_n 1, 1) := by decide +kernel
theorem dX4_stitch_2 : decode cX4_stitch 2 = .ok (.iload_n 2, 1) := by decide +kernel
theorem dX4_stitch_3 : decode cX4_stitch 3 = .ok (.invokevirtual 88, 3) := by decide +kernel
theorem dX4_stitch_6 : decode cX4_stitch 6 = .ok (.istore 4, 2) := by decide +kernel
theorem dX4_stitch_8 : decode cX4_stitch 8 = .ok (.aload_n 0, 1) := by decide +kernel
theorem dX4_stitch_9 : decode cX4_stitch 9 = .ok (.getfield 12, 3) := by decide +kernel
theorem dX4_stitch_12 : decode cX4_stitch 12 = .ok (.getfield 92, 3) := by decide +kernel
theorem dX4_stitch_15 : decode cX4_stitch 15 = .ok (.iload 4, 2) := by decide +kernel
theorem dX4_stitch_17 : decode cX4_stitch 17 = .ok (.baload, 1) := by decide +kernel
theorem dX4_stitch_18 : decode cX4_stitch 18 = .ok (.istore 5, 2) := by decide +kernel
theorem dX4_stitch_20 : decode cX4_stitch 20 = .ok (.aload_n 0, 1) := by decide +kernel
theorem dX4_stitch_21 : decode cX4_stitch 21 = .ok (.getfield 12, 3) := by decide +kernel
theorem dX4_stitch_24 : decode cX4_stitch 24 = .ok (.getfield 92, 3) := by decide +kernel
theorem dX4_stitch_27 : decode cX4_stitch 27 = .ok (.iload 4, 2) := by decide +kernel
theorem dX4_stitch_29 : decode cX4_stitch 29 = .ok (.iload_n 3, 1) := by decide +kernel
theorem dX4_stitch_30 : decode cX4_stitch 30 = .ok (.bastore, 1) := by decide +kernel
theorem dX4_stitch_31 : decode cX4_stitch 31 = .ok (.aload_n 0, 1) := by decide +kernel
theorem dX4_stitch_32 : decode cX4_stitch 32 = .ok (.invokevirtual 52, 3) := by decide +kernel
theorem dX4_stitch_35 : decode cX4_stitch 35 = .ok (.iload 5, 2) := by decide +kernel
theorem dX4_stitch_37 : decode cX4_stitch 37 = .ok (.ireturn, 1) := by decide +kernel
set_option maxRecDepth 20000 in
theorem ggX4_pre_X4_needSlot : GoodIn wsX4_pre wsX4_needSlot := goodIn_ca (goodIn_r _ [9, 10, 11, 3, 12, 13, 14, 15, 16, 17, 18, 19, 20, 21, 41, 42, 43, 44, 45, 46, 47, 48, 49, 50, 51, 52, 53] (by decide +kernel) (by decide +kernel)) (goodIn_sub (fun _ h => List.mem_cons_of_mem _ (List.mem_append_right _ h)) (by decide +kernel))
set_option maxRecDepth 20000 in
theorem gX4_pre_X4_needSlot : GoodIn wsX4_pre (wsV RX4 88 RX4 yX4_needSlot wsX4_needSlot) := goodIn_app (goodIn_of _ (by decide +kernel)) ggX4_pre_X4_needSlot
set_option maxRecDepth 20000 in
theorem ggX4_pre_X4_isColour : GoodIn wsX4_pre wsX4_isColour := goodIn_r _ [24] (by decide +kernel) (by decide +kernel)
set_option maxRecDepth 20000 in
theorem gX4_pre_X4_isColour : GoodIn wsX4_pre (va_wsS RX4 96 yX4_isColour wsX4_isColour) := goodIn_app (goodIn_of _ (by decide +kernel)) ggX4_pre_X4_isColour
set_option maxRecDepth 20000 in
theorem ggX4_pre_X4_forgetFindings : GoodIn wsX4_pre wsX4_forgetFindings := goodIn_r _ [28, 29, 30, 31, 32, 33, 34, 35, 36, 37, 38, 39, 40, 41, 42, 43, 44, 54, 55, 56, 57, 58, 59, 60, 61, 62, 63, 64, 65, 66, 67, 68, 69, 70, 71, 72, 73] (by decide +kernel) (by decide +kernel)
set_option maxRecDepth 20000 in
theorem gX4_pre_X4_forgetFindings : GoodIn wsX4_pre (wsV RX4 52 RX4 yX4_forgetFindings wsX4_forgetFindings) := goodIn_app (goodIn_of _ (by decide +kernel)) ggX4_pre_X4_forgetFindings
theorem dX4_pre_0 : decode cX4_pre 0 = .ok (.aload_n 0, 1) := by decide +kernel
theorem dX4_pre_1 : decode cX4_pre 1 = .ok (.iload_n 1, 1) := by decide +kernel
theorem dX4_pre_2 : decode cX4_pre 2 = .ok (.iload_n 2, 1) := by decide +kernel
theorem dX4_pre_3 : decode cX4_pre 3 = .ok (.invokevirtual 88, 3) := by decide +kernel
theorem dX4_pre_6 : decode cX4_pre 6 = .ok (.istore 4, 2) := by decide +kernel
theorem dX4_pre_8 : decode cX4_pre 8 = .ok (.iload_n 3, 1) := by decide +kernel
theorem dX4_pre_9 : decode cX4_pre 9 = .ok (.iconst (-1), 1) := by decide +kernel
theorem dX4_pre_10 : decode cX4_pre 10 = .ok (.if_icmp .eq 20, 3) := by decide +kernel
theorem dX4_pre_13 : decode cX4_pre 13 = .ok (.iload_n 3, 1) := by decide +kernel
theorem dX4_pre_14 : decode cX4_pre 14 = .ok (.invokestatic 96, 3) := by decide +kernel
theorem dX4_pre_17 : decode cX4_pre 17 = .ok (.ifCond .ne 13, 3) := by decide +kernel
theorem dX4_pre_20 : decode cX4_pre 20 = .ok (.new 41, 3) := by decide +kernel
theorem dX4_pre_23 : decode cX4_pre 23 = .ok (.dup, 1) := by decide +kernel
theorem dX4_pre_24 : decode cX4_pre 24 = .ok (.ldc 99, 2) := by decide +kernel
theorem dX4_pre_26 : decode cX4_pre 26 = .ok (.invokespecial 45, 3) := by decide +kernel
theorem dX4_pre_29 : decode cX4_pre 29 = .ok (.athrow, 1) := by decide +kernel
theorem dX4_pre_30 : decode cX4_pre 30 = .ok (.aload_n 0, 1) := by decide +kernel
theorem dX4_pre_31 : decode cX4_pre 31 = .ok (.getfield 12, 3) := by decide +kernel
theorem dX4_pre_34 : decode cX4_pre 34 = .ok (.getfield 101, 3) := by decide +kernel
theorem dX4_pre_37 : decode cX4_pre 37 = .ok (.iload 4, 2) := by decide +kernel
theorem dX4_pre_39 : decode cX4_pre 39 = .ok (.iaload, 1) := by decide +kernel
theorem dX4_pre_40 : decode cX4_pre 40 = .ok (.istore 5, 2) := by decide +kernel
theorem dX4_pre_42 : decode cX4_pre 42 = .ok (.aload_n 0, 1) := by decide +kernel
theorem dX4_pre_43 : decode cX4_pre 43 = .ok (.getfield 12, 3) := by decide +kernel
theorem dX4_pre_46 : decode cX4_pre 46 = .ok (.getfield 101, 3) := by decide +kernel
theorem dX4_pre_49 : decode cX4_pre 49 = .ok (.iload 4, 2) := by decide +kernel
theorem dX4_pre_51 : decode cX4_pre 51 = .ok (.iload_n 3, 1) := by decide +kernel
theorem dX4_pre_52 : decode cX4_pre 52 = .ok (.iastore, 1) := by decide +kernel
theorem dX4_pre_53 : decode cX4_pre 53 = .ok (.aload_n 0, 1) := by decide +kernel
theorem dX4_pre_54 : decode cX4_pre 54 = .ok (.invokevirtual 52, 3) := by decide +kernel
theorem dX4_pre_57 : decode cX4_pre 57 = .ok (.iload 5, 2) := by decide +kernel
theorem dX4_pre_59 : decode cX4_pre 59 = .ok (.ireturn, 1) := by decide +kernel
set_option maxRecDepth 20000 in
theorem ggX4_part_X4_needSlot : GoodIn wsX4_part wsX4_needSlot := goodIn_ca (goodIn_r _ [7, 8, 9, 10, 11, 12, 13, 14, 15, 16, 17, 18, 19, 20, 86, 87, 88, 89, 99, 100, 101, 102, 103, 104, 105, 106, 107] (by decide +kernel) (by decide +kernel)) (goodIn_sub (fun _ h => List.mem_cons_of_mem _ (List.mem_append_right _ h)) (by decide +kernel))
set_option maxRecDepth 20000 in
theorem gX4_part_X4_needSlot : GoodIn wsX4_part (wsV RX4 88 RX4 yX4_needSlot wsX4_needSlot) := goodIn_app (goodIn_of _ (by decide +kernel)) ggX4_part_X4_needSlot
set_option maxRecDepth 20000 in
theorem ggX4_part_X0_refresh : GoodIn wsX4_part wsX0_refresh := goodIn_r _ [25, 26, 27, 28, 29, 24, 30, 31, 32, 33, 34, 35, 36, 19, 15, 20, 37, 38, 39, 40, 41, 42, 43, 44, 45, 46, 47, 48, 49, 50, 51, 52, 53, 54, 55, 56, 57, 58, 59, 60, 61, 62, 63, 64, 65, 66, 67, 68, 69, 70, 71, 72, 73, 74, 75, 76, 77, 78, 79, 80, 81, 82, 83, 84, 6, 85, 90, 91, 92, 93, 94, 95, 96, 97, 98, 99, 100, 101, 102, 103, 104, 105, 106, 107] (by decide +kernel) (by decide +kernel)
set_option maxRecDepth 20000 in
theorem gX4_part_X0_refresh : GoodIn wsX4_part (wsV RX4 104 RX0 yX0_refresh wsX0_refresh) := goodIn_app (goodIn_of _ (by decide +kernel)) ggX4_part_X0_refresh
theorem dX4_part_0 : decode cX4_part 0 = .ok (.aload_n 0, 1) := by decide +kernel
theorem dX4_part_1 : decode cX4_part 1 = .ok (.iload_n 1, 1) := by decide +kernel
theorem dX4_part_2 : decode cX4_part 2 = .ok (.iload_n 2, 1) := by decide +kernel
theorem dX4_part_3 : decode cX4_part 3 = .ok (.invokevirtual 88, 3) := by decide +kernel
theorem dX4_part_6 : decode cX4_part 6 = .ok (.istore_n 3, 1) := by decide +kernel
theorem dX4_part_7 : decode cX4_part 7 = .ok (.aload_n 0, 1) := by decide +kernel
theorem dX4_part_8 : decode cX4_part 8 = .ok (.getfield 21, 3) := by decide +kernel
theorem dX4_part_11 : decode cX4_part 11 = .ok (.invokevirtual 104, 3) := by decide +kernel
theorem dX4_part_14 : decode cX4_part 14 = .ok (.aload_n 0, 1) := by decide +kernel
theorem dX4_part_15 : decode cX4_part 15 = .ok (.getfield 21, 3) := by decide +kernel
theorem dX4_part_18 : decode cX4_part 18 = .ok (.getfield 107, 3) := by decide +kernel
theorem dX4_part_21 : decode cX4_part 21 = .ok (.iload_n 3, 1) := by decide +kernel
theorem dX4_part_22 : decode cX4_part 22 = .ok (.iaload, 1) := by decide +kernel
theorem dX4_part_23 : decode cX4_part 23 = .ok (.ireturn, 1) := by decide +kernel
set_option maxRecDepth 20000 in
theorem ggX4_pair_X0_refresh : GoodIn wsX4_pair wsX0_refresh := goodIn_r _ [11, 12, 13, 14, 15, 10, 16, 17, 18, 19, 20, 21, 22, 23, 24, 25, 26, 27, 28, 29, 30, 31, 32, 33, 34, 35, 36, 37, 38, 39, 40, 41, 42, 43, 44, 45, 46, 47, 48, 49, 50, 51, 52, 53, 54, 55, 56, 57, 58, 59, 60, 61, 62, 63, 64, 65, 66, 67, 68, 69, 70, 71, 72, 73, 74, 75, 84, 85, 86, 87, 88, 89, 90, 91, 92, 93, 94, 95, 96, 97, 98, 99, 100, 101] (by decide +kernel) (by decide +kernel)
set_option maxRecDepth 20000 in
theorem gX4_pair_X0_refresh : GoodIn wsX4_pair (wsV RX4 104 RX0 yX0_refresh wsX0_refresh) := goodIn_app (goodIn_of _ (by decide +kernel)) ggX4_pair_X0_refresh
set_option maxRecDepth 20000 in
theorem ggX4_pair_X0_partOfPair : GoodIn wsX4_pair wsX0_partOfPair := goodIn_r _ [79, 17, 69, 70, 71, 10, 72, 38, 73, 74, 75, 84, 85, 86, 87, 88, 89, 90, 91, 92] (by decide +kernel) (by decide +kernel)
set_option maxRecDepth 20000 in
theorem gX4_pair_X0_partOfPair : GoodIn wsX4_pair (wsV RX4 117 RX0 yX0_partOfPair wsX0_partOfPair) := goodIn_app (goodIn_of _ (by decide +kernel)) ggX4_pair_X0_partOfPair
theorem dX4_pair_0 : decode cX4_pair 0 = .ok (.aload_n 0, 1) := by decide +kernel
theorem dX4_pair_1 : decode cX4_pair 1 = .ok (.getfield 21, 3) := by decide +kernel
theorem dX4_pair_4 : decode cX4_pair 4 = .ok (.invokevirtual 104, 3) := by decide +kernel
theorem dX4_pair_7 : decode cX4_pair 7 = .ok (.iload_n 1, 1) := by decide +kernel
theorem dX4_pair_8 : decode cX4_pair 8 = .ok (.ifCond .lt 14, 3) := by decide +kernel
theorem dX4_pair_11 : decode cX4_pair 11 = .ok (.iload_n 1, 1) := by decide +kernel
theorem dX4_pair_12 : decode cX4_pair 12 = .ok (.aload_n 0, 1) := by decide +kernel
theorem dX4_pair_13 : decode cX4_pair 13 = .ok (.getfield 21, 3) := by decide +kernel
theorem dX4_pair_16 : decode cX4_pair 16 = .ok (.getfield 110, 3) := by decide +kernel
theorem dX4_pair_19 : decode cX4_pair 19 = .ok (.if_icmp .lt 13, 3) := by decide +kernel
theorem dX4_pair_22 : decode cX4_pair 22 = .ok (.new 67, 3) := by decide +kernel
theorem dX4_pair_25 : decode cX4_pair 25 = .ok (.dup, 1) := by decide +kernel
theorem dX4_pair_26 : decode cX4_pair 26 = .ok (.ldc 113, 2) := by decide +kernel
theorem dX4_pair_28 : decode cX4_pair 28 = .ok (.invokespecial 71, 3) := by decide +kernel
theorem dX4_pair_31 : decode cX4_pair 31 = .ok (.athrow, 1) := by decide +kernel
theorem dX4_pair_32 : decode cX4_pair 32 = .ok (.iload_n 2, 1) := by decide +kernel
theorem dX4_pair_33 : decode cX4_pair 33 = .ok (.ifCond .eq 18, 3) := by decide +kernel
theorem dX4_pair_36 : decode cX4_pair 36 = .ok (.iload_n 2, 1) := by decide +kernel
theorem dX4_pair_37 : decode cX4_pair 37 = .ok (.iconst 1, 1) := by decide +kernel
theorem dX4_pair_38 : decode cX4_pair 38 = .ok (.if_icmp .eq 13, 3) := by decide +kernel
theorem dX4_pair_41 : decode cX4_pair 41 = .ok (.new 41, 3) := by decide +kernel
theorem dX4_pair_44 : decode cX4_pair 44 = .ok (.dup, 1) := by decide +kernel
theorem dX4_pair_45 : decode cX4_pair 45 = .ok (.ldc 115, 2) := by decide +kernel
theorem dX4_pair_47 : decode cX4_pair 47 = .ok (.invokespecial 45, 3) := by decide +kernel
theorem dX4_pair_50 : decode cX4_pair 50 = .ok (.athrow, 1) := by decide +kernel
theorem dX4_pair_51 : decode cX4_pair 51 = .ok (.aload_n 0, 1) := by decide +kernel
theorem dX4_pair_52 : decode cX4_pair 52 = .ok (.getfield 21, 3) := by decide +kernel
theorem dX4_pair_55 : decode cX4_pair 55 = .ok (.iload_n 1, 1) := by decide +kernel
theorem dX4_pair_56 : decode cX4_pair 56 = .ok (.iload_n 2, 1) := by decide +kernel
theorem dX4_pair_57 : decode cX4_pair 57 = .ok (.invokevirtual 117, 3) := by decide +kernel
theorem dX4_pair_60 : decode cX4_pair 60 = .ok (.ireturn, 1) := by decide +kernel
set_option maxRecDepth 20000 in
theorem ggX4_run_X0_refresh : GoodIn wsX4_run wsX0_refresh := goodIn_r _ [10, 11, 12, 13, 14, 9, 15, 16, 17, 18, 19, 20, 21, 22, 23, 24, 25, 26, 27, 28, 29, 30, 31, 32, 33, 34, 35, 36, 37, 38, 39, 40, 41, 42, 43, 44, 45, 46, 47, 48, 49, 50, 51, 52, 53, 54, 55, 56, 57, 58, 59, 60, 61, 62, 63, 64, 65, 66, 67, 68, 69, 70, 71, 72, 73, 74, 122, 123, 124, 125, 126, 127, 128, 129, 130, 131, 132, 133, 134, 135, 136, 137, 138, 139] (by decide +kernel) (by decide +kernel)
set_option maxRecDepth 20000 in
theorem gX4_run_X0_refresh : GoodIn wsX4_run (wsV RX4 104 RX0 yX0_refresh wsX0_refresh) := goodIn_app (goodIn_of _ (by decide +kernel)) ggX4_run_X0_refresh
set_option maxRecDepth 20000 in
theorem ggX4_run_X1_paint : GoodIn wsX4_run wsX1_paint := goodIn_r _ [79, 80, 81, 82, 83, 84, 85, 86, 78, 87, 88, 89, 90, 91, 92, 93, 94, 95, 96, 97, 98, 99, 100, 101, 102, 103, 104, 105, 106, 72, 73, 74, 107, 108, 109, 110, 111, 116, 117, 118, 119, 120, 121, 122, 123, 124, 125, 126, 127, 128, 129, 130] (by decide +kernel) (by decide +kernel)
set_option maxRecDepth 20000 in
theorem gX4_run_X1_paint : GoodIn wsX4_run (wsV RX4 124 RX1 yX1_paint wsX1_paint) := goodIn_app (goodIn_of _ (by decide +kernel)) ggX4_run_X1_paint
theorem dX4_run_0 : decode cX4_run 0 = .ok (.iload_n 1, 1) := by decide +kernel
theorem dX4_run_1 : decode cX4_run 1 = .ok (.iconst 2, 1) := by decide +kernel
theorem dX4_run_2 : decode cX4_run 2 = .ok (.if_icmp .lt 8, 3) := by decide +kernel
theorem dX4_run_5 : decode cX4_run 5 = .ok (.iload_n 1, 1) := by decide +kernel
theorem dX4_run_6 : decode cX4_run 6 = .ok (.iconst 4, 1) := by decide +kernel
theorem dX4_run_7 : decode cX4_run 7 = .ok (.if_icmp .le 13, 3) := by decide +kernel
theorem dX4_run_10 : decode cX4_run 10 = .ok (.new 41, 3) := by decide +kernel
theorem dX4_run_13 : decode cX4_run 13 = .ok (.dup, 1) := by decide +kernel
theorem dX4_run_14 : decode cX4_run 14 = .ok (.ldc 120, 2) := by decide +kernel
theorem dX4_run_16 : decode cX4_run 16 = .ok (.invokespecial 45, 3) := by decide +kernel
theorem dX4_run_19 : decode cX4_run 19 = .ok (.athrow, 1) := by decide +kernel
theorem dX4_run_20 : decode cX4_run 20 = .ok (.iload_n 2, 1) := by decide +kernel
theorem dX4_run_21 : decode cX4_run 21 = .ok (.ifCond .lt 10, 3) := by decide +kernel
theorem dX4_run_24 : decode cX4_run 24 = .ok (.iload_n 2, 1) := by decide +kernel
theorem dX4_run_25 : decode cX4_run 25 = .ok (.sipush 20000, 3) := by decide +kernel
theorem dX4_run_28 : decode cX4_run 28 = .ok (.if_icmp .le 13, 3) := by decide +kernel
theorem dX4_run_31 : decode cX4_run 31 = .ok (.new 41, 3) := by decide +kernel
theorem dX4_run_34 : decode cX4_run 34 = .ok (.dup, 1) := by decide +kernel
theorem dX4_run_35 : decode cX4_run 35 = .ok (.ldc 122, 2) := by decide +kernel
theorem dX4_run_37 : decode cX4_run 37 = .ok (.invokespecial 45, 3) := by decide +kernel
theorem dX4_run_40 : decode cX4_run 40 = .ok (.athrow, 1) := by decide +kernel
theorem dX4_run_41 : decode cX4_run 41 = .ok (.aload_n 0, 1) := by decide +kernel
theorem dX4_run_42 : decode cX4_run 42 = .ok (.getfield 21, 3) := by decide +kernel
theorem dX4_run_45 : decode cX4_run 45 = .ok (.invokevirtual 104, 3) := by decide +kernel
theorem dX4_run_48 : decode cX4_run 48 = .ok (.aload_n 0, 1) := by decide +kernel
theorem dX4_run_49 : decode cX4_run 49 = .ok (.getfield 30, 3) := by decide +kernel
theorem dX4_run_52 : decode cX4_run 52 = .ok (.iload_n 1, 1) := by decide +kernel
theorem dX4_run_53 : decode cX4_run 53 = .ok (.iload_n 2, 1) := by decide +kernel
theorem dX4_run_54 : decode cX4_run 54 = .ok (.invokevirtual 124, 3) := by decide +kernel
theorem dX4_run_57 : decode cX4_run 57 = .ok (.aload_n 0, 1) := by decide +kernel
theorem dX4_run_58 : decode cX4_run 58 = .ok (.getfield 30, 3) := by decide +kernel
theorem dX4_run_61 : decode cX4_run 61 = .ok (.getfield 128, 3) := by decide +kernel
theorem dX4_run_64 : decode cX4_run 64 = .ok (.ireturn, 1) := by decide +kernel
set_option maxRecDepth 20000 in
theorem ggX4_colour_X4_needSlot : GoodIn wsX4_colour wsX4_needSlot := goodIn_ca (goodIn_r _ [10, 11, 12, 13, 14, 15, 16, 17, 18, 19, 20, 21, 22, 23, 24, 25, 26, 27, 43, 44, 45, 46, 47, 48, 49, 50, 51] (by decide +kernel) (by decide +kernel)) (goodIn_sub (fun _ h => List.mem_cons_of_mem _ (List.mem_append_right _ h)) (by decide +kernel))
set_option maxRecDepth 20000 in
theorem gX4_colour_X4_needSlot : GoodIn wsX4_colour (wsV RX4 88 RX4 yX4_needSlot wsX4_needSlot) := goodIn_app (goodIn_of _ (by decide +kernel)) ggX4_colour_X4_needSlot
theorem dX4_colour_0 : decode cX4_colour 0 = .ok (.aload_n 0, 1) := by decide +kernel
theorem dX4_colour_1 : decode cX4_colour 1 = .ok (.iload_n 1, 1) := by decide +kernel
theorem dX4_colour_2 : decode cX4_colour 2 = .ok (.iload_n 2, 1) := by decide +kernel
theorem dX4_colour_3 : decode cX4_colour 3 = .ok (.invokevirtual 88, 3) := by decide +kernel
theorem dX4_colour_6 : decode cX4_colour 6 = .ok (.istore_n 3, 1) := by decide +kernel
theorem dX4_colour_7 : decode cX4_colour 7 = .ok (.aload_n 0, 1) := by decide +kernel
theorem dX4_colour_8 : decode cX4_colour 8 = .ok (.getfield 30, 3) := by decide +kernel
theorem dX4_colour_11 : decode cX4_colour 11 = .ok (.getfield 128, 3) := by decide +kernel
theorem dX4_colour_14 : decode cX4_colour 14 = .ok (.ifCond .ne 23, 3) := by decide +kernel
theorem dX4_colour_17 : decode cX4_colour 17 = .ok (.aload_n 0, 1) := by decide +kernel
theorem dX4_colour_18 : decode cX4_colour 18 = .ok (.getfield 30, 3) := by decide +kernel
theorem dX4_colour_21 : decode cX4_colour 21 = .ok (.getfield 131, 3) := by decide +kernel
theorem dX4_colour_24 : decode cX4_colour 24 = .ok (.aload_n 0, 1) := by decide +kernel
theorem dX4_colour_25 : decode cX4_colour 25 = .ok (.getfield 21, 3) := by decide +kernel
theorem dX4_colour_28 : decode cX4_colour 28 = .ok (.getfield 107, 3) := by decide +kernel
theorem dX4_colour_31 : decode cX4_colour 31 = .ok (.iload_n 3, 1) := by decide +kernel
theorem dX4_colour_32 : decode cX4_colour 32 = .ok (.iaload, 1) := by decide +kernel
theorem dX4_colour_33 : decode cX4_colour 33 = .ok (.iaload, 1) := by decide +kernel
theorem dX4_colour_34 : decode cX4_colour 34 = .ok (.goto 4, 3) := by decide +kernel
theorem dX4_colour_37 : decode cX4_colour 37 = .ok (.iconst (-1), 1) := by decide +kernel
theorem dX4_colour_38 : decode cX4_colour 38 = .ok (.ireturn, 1) := by decide +kernel
set_option maxRecDepth 20000 in
theorem ggX4_used_X1_stitchesUsed : GoodIn wsX4_used wsX1_stitchesUsed := goodIn_r _ [7, 8, 9, 10, 15, 16, 17, 18, 19, 20, 21, 22, 23, 24, 25, 26, 27, 28, 29] (by decide +kernel) (by decide +kernel)
set_option maxRecDepth 20000 in
theorem gX4_used_X1_stitchesUsed : GoodIn wsX4_used (wsV RX4 134 RX1 yX1_stitchesUsed wsX1_stitchesUsed) := goodIn_app (goodIn_of _ (by decide +kernel)) ggX4_used_X1_stitchesUsed
theorem dX4_used_0 : decode cX4_used 0 = .ok (.aload_n 0, 1) := by decide +kernel
theorem dX4_used_1 : decode cX4_used 1 = .ok (.getfield 30, 3) := by decide +kernel
theorem dX4_used_4 : decode cX4_used 4 = .ok (.getfield 128, 3) := by decide +kernel
theorem dX4_used_7 : decode cX4_used 7 = .ok (.ifCond .ne 13, 3) := by decide +kernel
theorem dX4_used_10 : decode cX4_used 10 = .ok (.aload_n 0, 1) := by decide +kernel
theorem dX4_used_11 : decode cX4_used 11 = .ok (.getfield 30, 3) := by decide +kernel
theorem dX4_used_14 : decode cX4_used 14 = .ok (.invokevirtual 134, 3) := by decide +kernel
theorem dX4_used_17 : decode cX4_used 17 = .ok (.goto 4, 3) := by decide +kernel
theorem dX4_used_20 : decode cX4_used 20 = .ok (.iconst (-1), 1) := by decide +kernel
theorem dX4_used_21 : decode cX4_used 21 = .ok (.ireturn, 1) := by decide +kernel
theorem dX4_steps_0 : decode cX4_steps 0 = .ok (.aload_n 0, 1) := by decide +kernel
theorem dX4_steps_1 : decode cX4_steps 1 = .ok (.getfield 30, 3) := by decide +kernel
theorem dX4_steps_4 : decode cX4_steps 4 = .ok (.getfield 138, 3) := by decide +kernel
theorem dX4_steps_7 : decode cX4_steps 7 = .ok (.ireturn, 1) := by decide +kernel
set_option maxRecDepth 20000 in
theorem ggX4_area_X4_isColour : GoodIn wsX4_area wsX4_isColour := goodIn_r _ [8] (by decide +kernel) (by decide +kernel)
set_option maxRecDepth 20000 in
theorem gX4_area_X4_isColour : GoodIn wsX4_area (va_wsS RX4 96 yX4_isColour wsX4_isColour) := goodIn_app (goodIn_of _ (by decide +kernel)) ggX4_area_X4_isColour
set_option maxRecDepth 20000 in
theorem ggX4_area_X4_sizeOf : GoodIn wsX4_area wsX4_sizeOf := goodIn_r _ [12, 13, 14, 15, 3, 16, 17, 18, 19, 20, 21, 22, 23, 24, 25, 26, 27, 28, 29, 30, 31, 32, 33, 34, 41, 42, 43, 44, 45, 46, 47, 48, 49, 35, 36, 37, 38, 39, 40, 50, 51, 52, 53, 54, 55, 56, 57, 58] (by decide +kernel) (by decide +kernel)
set_option maxRecDepth 20000 in
theorem gX4_area_X4_sizeOf : GoodIn wsX4_area (wsV RX4 141 RX4 yX4_sizeOf wsX4_sizeOf) := goodIn_app (goodIn_of _ (by decide +kernel)) ggX4_area_X4_sizeOf
theorem dX4_area_0 : decode cX4_area 0 = .ok (.iload_n 1, 1) := by decide +kernel
theorem dX4_area_1 : decode cX4_area 1 = .ok (.invokestatic 96, 3) := by decide +kernel
theorem dX4_area_4 : decode cX4_area 4 = .ok (.ifCond .ne 13, 3) := by decide +kernel
theorem dX4_area_7 : decode cX4_area 7 = .ok (.new 41, 3) := by decide +kernel
theorem dX4_area_10 : decode cX4_area 10 = .ok (.dup, 1) := by decide +kernel
theorem dX4_area_11 : decode cX4_area 11 = .ok (.ldc 99, 2) := by decide +kernel
theorem dX4_area_13 : decode cX4_area 13 = .ok (.invokespecial 45, 3) := by decide +kernel
theorem dX4_area_16 : decode cX4_area 16 = .ok (.athrow, 1) := by decide +kernel
theorem dX4_area_17 : decode cX4_area 17 = .ok (.aload_n 0, 1) := by decide +kernel
theorem dX4_area_18 : decode cX4_area 18 = .ok (.getfield 30, 3) := by decide +kernel
theorem dX4_area_21 : decode cX4_area 21 = .ok (.getfield 128, 3) := by decide +kernel
theorem dX4_area_24 : decode cX4_area 24 = .ok (.ifCond .ne 11, 3) := by decide +kernel
theorem dX4_area_27 : decode cX4_area 27 = .ok (.aload_n 0, 1) := by decide +kernel
theorem dX4_area_28 : decode cX4_area 28 = .ok (.iload_n 1, 1) := by decide +kernel
theorem dX4_area_29 : decode cX4_area 29 = .ok (.invokevirtual 141, 3) := by decide +kernel
theorem dX4_area_32 : decode cX4_area 32 = .ok (.goto 4, 3) := by decide +kernel
theorem dX4_area_35 : decode cX4_area 35 = .ok (.lconst 0, 1) := by decide +kernel
theorem dX4_area_36 : decode cX4_area 36 = .ok (.lreturn, 1) := by decide +kernel
set_option maxRecDepth 20000 in
theorem ggX4_ring_X0_refresh : GoodIn wsX4_ring wsX0_refresh := goodIn_r _ [8, 9, 10, 11, 12, 7, 13, 14, 15, 16, 17, 18, 19, 20, 21, 22, 23, 24, 25, 26, 27, 28, 29, 30, 31, 32, 33, 34, 35, 36, 37, 38, 39, 40, 41, 42, 43, 44, 45, 46, 47, 48, 49, 50, 51, 52, 53, 54, 55, 56, 57, 58, 59, 60, 61, 62, 63, 64, 65, 66, 67, 68, 69, 70, 71, 72, 115, 116, 117, 118, 119, 120, 121, 122, 123, 124, 125, 126, 127, 128, 129, 130, 131, 132] (by decide +kernel) (by decide +kernel)
set_option maxRecDepth 20000 in
theorem gX4_ring_X0_refresh : GoodIn wsX4_ring (wsV RX4 104 RX0 yX0_refresh wsX0_refresh) := goodIn_app (goodIn_of _ (by decide +kernel)) ggX4_ring_X0_refresh
set_option maxRecDepth 20000 in
theorem ggX4_ring_X3_refresh : GoodIn wsX4_ring wsX3_refresh := goodIn_r _ [77, 78, 79, 80, 81, 76, 82, 83, 84, 85, 86, 87, 88, 89, 90, 91, 92, 70, 71, 72, 93, 94, 95, 7, 96, 14, 35, 97, 98, 99, 100, 101, 102, 103, 104, 105, 110, 111, 112, 113, 114, 115, 116, 117, 118, 119, 120, 121, 122, 123] (by decide +kernel) (by decide +kernel)
set_option maxRecDepth 20000 in
theorem gX4_ring_X3_refresh : GoodIn wsX4_ring (wsV RX4 145 RX3 yX3_refresh wsX3_refresh) := goodIn_app (goodIn_of _ (by decide +kernel)) ggX4_ring_X3_refresh
theorem dX4_ring_0 : decode cX4_ring 0 = .ok (.aload_n 0, 1) := by decide +kernel
theorem dX4_ring_1 : decode cX4_ring 1 = .ok (.getfield 21, 3) := by decide +kernel
theorem dX4_ring_4 : decode cX4_ring 4 = .ok (.invokevirtual 104, 3) := by decide +kernel
theorem dX4_ring_7 : decode cX4_ring 7 = .ok (.aload_n 0, 1) := by decide +kernel
theorem dX4_ring_8 : decode cX4_ring 8 = .ok (.getfield 37, 3) := by decide +kernel
theorem dX4_ring_11 : decode cX4_ring 11 = .ok (.invokevirtual 145, 3) := by decide +kernel
theorem dX4_ring_14 : decode cX4_ring 14 = .ok (.aload_n 0, 1) := by decide +kernel
theorem dX4_ring_15 : decode cX4_ring 15 = .ok (.getfield 37, 3) := by decide +kernel
theorem dX4_ring_18 : decode cX4_ring 18 = .ok (.getfield 146, 3) := by decide +kernel
theorem dX4_ring_21 : decode cX4_ring 21 = .ok (.ireturn, 1) := by decide +kernel
set_option maxRecDepth 20000 in
theorem ggX4_ringAt_X0_refresh : GoodIn wsX4_ringAt wsX0_refresh := goodIn_r _ [11, 12, 13, 14, 15, 10, 16, 17, 18, 19, 20, 21, 22, 23, 24, 25, 26, 27, 28, 29, 30, 31, 32, 33, 34, 35, 36, 37, 38, 39, 40, 41, 42, 43, 44, 45, 46, 47, 48, 49, 50, 51, 52, 53, 54, 55, 56, 57, 58, 59, 60, 61, 62, 63, 64, 65, 66, 67, 68, 69, 70, 71, 72, 73, 74, 75, 118, 119, 120, 121, 122, 123, 124, 125, 126, 127, 128, 129, 130, 131, 132, 133, 134, 135] (by decide +kernel) (by decide +kernel)
set_option maxRecDepth 20000 in
theorem gX4_ringAt_X0_refresh : GoodIn wsX4_ringAt (wsV RX4 104 RX0 yX0_refresh wsX0_refresh) := goodIn_app (goodIn_of _ (by decide +kernel)) ggX4_ringAt_X0_refresh
set_option maxRecDepth 20000 in
theorem ggX4_ringAt_X3_refresh : GoodIn wsX4_ringAt wsX3_refresh := goodIn_r _ [80, 81, 82, 83, 84, 79, 85, 86, 87, 88, 89, 90, 91, 92, 93, 94, 95, 73, 74, 75, 96, 97, 98, 10, 99, 17, 38, 100, 101, 102, 103, 104, 105, 106, 107, 108, 113, 114, 115, 116, 117, 118, 119, 120, 121, 122, 123, 124, 125, 126] (by decide +kernel) (by decide +kernel)
set_option maxRecDepth 20000 in
theorem gX4_ringAt_X3_refresh : GoodIn wsX4_ringAt (wsV RX4 145 RX3 yX3_refresh wsX3_refresh) := goodIn_app (goodIn_of _ (by decide +kernel)) ggX4_ringAt_X3_refresh
theorem dX4_ringAt_0 : decode cX4_ringAt 0 = .ok (.aload_n 0, 1) := by decide +kernel
theorem dX4_ringAt_1 : decode cX4_ringAt 1 = .ok (.getfield 21, 3) := by decide +kernel
theorem dX4_ringAt_4 : decode cX4_ringAt 4 = .ok (.invokevirtual 104, 3) := by decide +kernel
theorem dX4_ringAt_7 : decode cX4_ringAt 7 = .ok (.aload_n 0, 1) := by decide +kernel
theorem dX4_ringAt_8 : decode cX4_ringAt 8 = .ok (.getfield 37, 3) := by decide +kernel
theorem dX4_ringAt_11 : decode cX4_ringAt 11 = .ok (.invokevirtual 145, 3) := by decide +kernel
theorem dX4_ringAt_14 : decode cX4_ringAt 14 = .ok (.iload_n 1, 1) := by decide +kernel
theorem dX4_ringAt_15 : decode cX4_ringAt 15 = .ok (.ifCond .lt 14, 3) := by decide +kernel
theorem dX4_ringAt_18 : decode cX4_ringAt 18 = .ok (.iload_n 1, 1) := by decide +kernel
theorem dX4_ringAt_19 : decode cX4_ringAt 19 = .ok (.aload_n 0, 1) := by decide +kernel
theorem dX4_ringAt_20 : decode cX4_ringAt 20 = .ok (.getfield 37, 3) := by decide +kernel
theorem dX4_ringAt_23 : decode cX4_ringAt 23 = .ok (.getfield 146, 3) := by decide +kernel
theorem dX4_ringAt_26 : decode cX4_ringAt 26 = .ok (.if_icmp .lt 13, 3) := by decide +kernel
theorem dX4_ringAt_29 : decode cX4_ringAt 29 = .ok (.new 67, 3) := by decide +kernel
theorem dX4_ringAt_32 : decode cX4_ringAt 32 = .ok (.dup, 1) := by decide +kernel
theorem dX4_ringAt_33 : decode cX4_ringAt 33 = .ok (.ldc 149, 2) := by decide +kernel
theorem dX4_ringAt_35 : decode cX4_ringAt 35 = .ok (.invokespecial 71, 3) := by decide +kernel
theorem dX4_ringAt_38 : decode cX4_ringAt 38 = .ok (.athrow, 1) := by decide +kernel
theorem dX4_ringAt_39 : decode cX4_ringAt 39 = .ok (.aload_n 0, 1) := by decide +kernel
theorem dX4_ringAt_40 : decode cX4_ringAt 40 = .ok (.getfield 37, 3) := by decide +kernel
theorem dX4_ringAt_43 : decode cX4_ringAt 43 = .ok (.getfield 151, 3) := by decide +kernel
theorem dX4_ringAt_46 : decode cX4_ringAt 46 = .ok (.iload_n 1, 1) := by decide +kernel
theorem dX4_ringAt_47 : decode cX4_ringAt 47 = .ok (.iaload, 1) := by decide +kernel
theorem dX4_ringAt_48 : decode cX4_ringAt 48 = .ok (.ireturn, 1) := by decide +kernel
set_option maxRecDepth 20000 in
theorem ggX4_groups_X0_refresh : GoodIn wsX4_groups wsX0_refresh := goodIn_r _ [6, 7, 8, 9, 10, 5, 11, 12, 13, 14, 15, 16, 17, 18, 19, 20, 21, 22, 23, 24, 25, 26, 27, 28, 29, 30, 31, 32, 33, 34, 35, 36, 37, 38, 39, 40, 41, 42, 43, 44, 45, 46, 47, 48, 49, 50, 51, 52, 53, 54, 55, 56, 57, 58, 59, 60, 61, 62, 63, 64, 65, 66, 67, 68, 69, 70, 91, 92, 93, 94, 95, 96, 97, 98, 99, 100, 101, 102, 103, 104, 105, 106, 107, 108] (by decide +kernel) (by decide +kernel)
set_option maxRecDepth 20000 in
theorem gX4_groups_X0_refresh : GoodIn wsX4_groups (wsV RX4 104 RX0 yX0_refresh wsX0_refresh) := goodIn_app (goodIn_of _ (by decide +kernel)) ggX4_groups_X0_refresh
set_option maxRecDepth 20000 in
theorem ggX4_groups_X0_countGroups : GoodIn wsX4_groups wsX0_countGroups := goodIn_r _ [74, 12, 68, 69, 70, 75, 76, 77, 5, 78, 79, 80, 81, 82, 33, 83, 84, 85, 86, 34, 91, 92, 93, 94, 95, 96, 97, 98, 99] (by decide +kernel) (by decide +kernel)
set_option maxRecDepth 20000 in
theorem gX4_groups_X0_countGroups : GoodIn wsX4_groups (wsV RX4 154 RX0 yX0_countGroups wsX0_countGroups) := goodIn_app (goodIn_of _ (by decide +kernel)) ggX4_groups_X0_countGroups
theorem dX4_groups_0 : decode cX4_groups 0 = .ok (.aload_n 0, 1) := by decide +kernel
theorem dX4_groups_1 : decode cX4_groups 1 = .ok (.getfield 21, 3) := by decide +kernel
theorem dX4_groups_4 : decode cX4_groups 4 = .ok (.invokevirtual 104, 3) := by decide +kernel
theorem dX4_groups_7 : decode cX4_groups 7 = .ok (.aload_n 0, 1) := by decide +kernel
theorem dX4_groups_8 : decode cX4_groups 8 = .ok (.getfield 21, 3) := by decide +kernel
theorem dX4_groups_11 : decode cX4_groups 11 = .ok (.invokevirtual 154, 3) := by decide +kernel
theorem dX4_groups_14 : decode cX4_groups 14 = .ok (.ireturn, 1) := by decide +kernel
set_option maxRecDepth 20000 in
theorem ggX4_told_X0_refresh : GoodIn wsX4_told wsX0_refresh := goodIn_r _ [14, 15, 16, 17, 18, 13, 19, 20, 21, 22, 23, 24, 25, 26, 27, 28, 29, 30, 31, 32, 33, 34, 35, 36, 37, 38, 39, 40, 41, 42, 43, 44, 45, 46, 47, 48, 49, 50, 51, 52, 53, 54, 55, 56, 57, 58, 59, 60, 61, 62, 63, 64, 65, 66, 67, 68, 69, 70, 71, 72, 73, 74, 75, 76, 77, 78, 98, 99, 100, 101, 102, 103, 104, 105, 106, 89, 90, 91, 92, 93, 94, 95, 96, 97] (by decide +kernel) (by decide +kernel)
set_option maxRecDepth 20000 in
theorem gX4_told_X0_refresh : GoodIn wsX4_told (wsV RX4 104 RX0 yX0_refresh wsX0_refresh) := goodIn_app (goodIn_of _ (by decide +kernel)) ggX4_told_X0_refresh
set_option maxRecDepth 20000 in
theorem ggX4_told_X2_countBoxes : GoodIn wsX4_told wsX2_countBoxes := goodIn_r _ [82, 83, 84, 89, 90, 91, 92, 93, 94, 95, 96, 97] (by decide +kernel) (by decide +kernel)
set_option maxRecDepth 20000 in
theorem gX4_told_X2_countBoxes : GoodIn wsX4_told (wsV RX4 157 RX2 yX2_countBoxes wsX2_countBoxes) := goodIn_app (goodIn_of _ (by decide +kernel)) ggX4_told_X2_countBoxes
theorem dX4_told_0 : decode cX4_told 0 = .ok (.aload_n 0, 1) := by decide +kernel
