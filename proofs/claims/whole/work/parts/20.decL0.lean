set_option maxRecDepth 20000 in
theorem ggL_distance_X4_distance : GoodIn wsL_distance wsX4_distance := goodIn_ca (goodIn_r _ [6, 7, 8, 9, 10, 11, 12, 13, 5, 14, 15, 16, 17, 18, 19, 20, 21, 22, 23, 24, 25, 26, 27, 28, 29, 30, 31, 32, 33, 34, 35, 36, 37, 38, 39, 40, 41, 42, 43, 44, 45, 46, 47, 48, 49, 50, 51, 52, 53, 54, 55, 56, 57, 58, 59] (by decide +kernel) (by decide +kernel)) (goodIn_sub (fun _ h => List.mem_cons_of_mem _ (List.mem_append_right _ h)) (by decide +kernel))
set_option maxRecDepth 20000 in
theorem gL_distance_X4_distance : GoodIn wsL_distance (wsV RL 7 RX4 yX4_distance wsX4_distance) := goodIn_app (goodIn_of _ (by decide +kernel)) ggL_distance_X4_distance
theorem dL_distance_0 : decode cL_distance 0 = .ok (.aload_n 2, 1) := by decide +kernel
theorem dL_distance_1 : decode cL_distance 1 = .ok (.iconst 0, 1) := by decide +kernel
theorem dL_distance_2 : decode cL_distance 2 = .ok (.aload_n 0, 1) := by decide +kernel
theorem dL_distance_3 : decode cL_distance 3 = .ok (.iload_n 1, 1) := by decide +kernel
theorem dL_distance_4 : decode cL_distance 4 = .ok (.invokevirtual 7, 3) := by decide +kernel
theorem dL_distance_7 : decode cL_distance 7 = .ok (.i2l, 1) := by decide +kernel
theorem dL_distance_8 : decode cL_distance 8 = .ok (.lastore, 1) := by decide +kernel
theorem dL_distance_9 : decode cL_distance 9 = .ok (.goto 6, 3) := by decide +kernel
theorem dL_distance_12 : decode cL_distance 12 = .ok (.astore_n 3, 1) := by decide +kernel
theorem dL_distance_13 : decode cL_distance 13 = .ok (.iconst 1, 1) := by decide +kernel
theorem dL_distance_14 : decode cL_distance 14 = .ok (.ireturn, 1) := by decide +kernel
theorem dL_distance_15 : decode cL_distance 15 = .ok (.iconst 0, 1) := by decide +kernel
theorem dL_distance_16 : decode cL_distance 16 = .ok (.ireturn, 1) := by decide +kernel
set_option maxRecDepth 20000 in
theorem ggL_shape_X4_shape : GoodIn wsL_shape wsX4_shape := goodIn_ca (goodIn_r _ [6, 7, 8, 9, 10, 11, 12, 13, 5, 14, 15, 16, 17, 18, 19, 20, 21, 22, 23, 24, 25, 26, 27, 28, 29, 30, 31, 32, 33, 34, 35, 36, 37, 38, 39, 40, 41, 42, 43, 44, 45, 46, 47, 48, 49, 50, 51, 52, 53, 54, 55, 56, 57, 58, 59] (by decide +kernel) (by decide +kernel)) (goodIn_sub (fun _ h => List.mem_cons_of_mem _ (List.mem_append_right _ h)) (by decide +kernel))
set_option maxRecDepth 20000 in
theorem gL_shape_X4_shape : GoodIn wsL_shape (wsV RL 15 RX4 yX4_shape wsX4_shape) := goodIn_app (goodIn_of _ (by decide +kernel)) ggL_shape_X4_shape
theorem dL_shape_0 : decode cL_shape 0 = .ok (.aload_n 1, 1) := by decide +kernel
theorem dL_shape_1 : decode cL_shape 1 = .ok (.iconst 0, 1) := by decide +kernel
theorem dL_shape_2 : decode cL_shape 2 = .ok (.aload_n 0, 1) := by decide +kernel
theorem dL_shape_3 : decode cL_shape 3 = .ok (.invokevirtual 15, 3) := by decide +kernel
theorem dL_shape_6 : decode cL_shape 6 = .ok (.i2l, 1) := by decide +kernel
theorem dL_shape_7 : decode cL_shape 7 = .ok (.lastore, 1) := by decide +kernel
theorem dL_shape_8 : decode cL_shape 8 = .ok (.goto 6, 3) := by decide +kernel
theorem dL_shape_11 : decode cL_shape 11 = .ok (.astore_n 2, 1) := by decide +kernel
theorem dL_shape_12 : decode cL_shape 12 = .ok (.iconst 1, 1) := by decide +kernel
theorem dL_shape_13 : decode cL_shape 13 = .ok (.ireturn, 1) := by decide +kernel
theorem dL_shape_14 : decode cL_shape 14 = .ok (.iconst 0, 1) := by decide +kernel
theorem dL_shape_15 : decode cL_shape 15 = .ok (.ireturn, 1) := by decide +kernel
set_option maxRecDepth 20000 in
theorem ggL_box_X4_box : GoodIn wsL_box wsX4_box := goodIn_ca (goodIn_ca (goodIn_ca (goodIn_r _ [8, 9, 10, 11, 12, 13, 14, 15, 16, 17, 18, 19, 20, 21, 22, 23, 24, 7, 25, 26, 27, 28, 29, 30, 31, 32, 33, 34, 35, 36, 37, 38, 39, 40, 41, 42, 43, 44, 45, 46, 47, 48, 49, 50, 51, 52, 53, 54, 55, 56, 57, 58, 59, 60, 61, 62, 63, 64, 65, 66, 67, 68, 69, 70, 71, 72, 73, 74, 75, 76, 77, 78, 79, 80, 81, 82, 83, 84, 85, 86] (by decide +kernel) (by decide +kernel)) (goodIn_sub (fun _ h => List.mem_cons_of_mem _ (List.mem_append_left _ (List.mem_append_left _ (List.mem_append_right _ h)))) (by decide +kernel))) (goodIn_sub (fun _ h => List.mem_cons_of_mem _ (List.mem_append_left _ (List.mem_append_right _ h))) (by decide +kernel))) (goodIn_sub (fun _ h => List.mem_cons_of_mem _ (List.mem_append_right _ h)) (by decide +kernel))
set_option maxRecDepth 20000 in
theorem gL_box_X4_box : GoodIn wsL_box (wsV RL 21 RX4 yX4_box wsX4_box) := goodIn_app (goodIn_of _ (by decide +kernel)) ggL_box_X4_box
theorem dL_box_0 : decode cL_box 0 = .ok (.aload 6, 2) := by decide +kernel
theorem dL_box_2 : decode cL_box 2 = .ok (.iconst 0, 1) := by decide +kernel
theorem dL_box_3 : decode cL_box 3 = .ok (.aload_n 0, 1) := by decide +kernel
theorem dL_box_4 : decode cL_box 4 = .ok (.iload_n 1, 1) := by decide +kernel
theorem dL_box_5 : decode cL_box 5 = .ok (.iload_n 2, 1) := by decide +kernel
theorem dL_box_6 : decode cL_box 6 = .ok (.iload_n 3, 1) := by decide +kernel
theorem dL_box_7 : decode cL_box 7 = .ok (.iload 4, 2) := by decide +kernel
theorem dL_box_9 : decode cL_box 9 = .ok (.iload 5, 2) := by decide +kernel
theorem dL_box_11 : decode cL_box 11 = .ok (.invokevirtual 21, 3) := by decide +kernel
theorem dL_box_14 : decode cL_box 14 = .ok (.i2l, 1) := by decide +kernel
theorem dL_box_15 : decode cL_box 15 = .ok (.lastore, 1) := by decide +kernel
theorem dL_box_16 : decode cL_box 16 = .ok (.goto 15, 3) := by decide +kernel
theorem dL_box_19 : decode cL_box 19 = .ok (.astore 7, 2) := by decide +kernel
theorem dL_box_21 : decode cL_box 21 = .ok (.iconst 1, 1) := by decide +kernel
theorem dL_box_22 : decode cL_box 22 = .ok (.ireturn, 1) := by decide +kernel
theorem dL_box_23 : decode cL_box 23 = .ok (.astore 7, 2) := by decide +kernel
theorem dL_box_25 : decode cL_box 25 = .ok (.iconst 2, 1) := by decide +kernel
theorem dL_box_26 : decode cL_box 26 = .ok (.ireturn, 1) := by decide +kernel
theorem dL_box_27 : decode cL_box 27 = .ok (.astore 7, 2) := by decide +kernel
theorem dL_box_29 : decode cL_box 29 = .ok (.iconst 3, 1) := by decide +kernel
theorem dL_box_30 : decode cL_box 30 = .ok (.ireturn, 1) := by decide +kernel
theorem dL_box_31 : decode cL_box 31 = .ok (.iconst 0, 1) := by decide +kernel
theorem dL_box_32 : decode cL_box 32 = .ok (.ireturn, 1) := by decide +kernel
set_option maxRecDepth 20000 in
theorem ggL_stitch_X4_stitch : GoodIn wsL_stitch wsX4_stitch := goodIn_ca (goodIn_r _ [6, 7, 8, 9, 10, 11, 5, 12, 13, 14, 15, 16, 17, 18, 19, 20, 21, 22, 23, 24, 25, 26, 27, 28, 29, 30, 31, 32, 33, 34, 35, 36, 37, 38, 39, 40, 41, 42, 43, 44, 45, 46, 47, 48, 49, 50, 51, 52, 53, 54, 55, 56, 57, 58, 59, 60, 61, 62, 63, 64, 65, 66, 67, 68, 69, 70, 71, 72, 73] (by decide +kernel) (by decide +kernel)) (goodIn_sub (fun _ h => List.mem_cons_of_mem _ (List.mem_append_right _ h)) (by decide +kernel))
set_option maxRecDepth 20000 in
theorem gL_stitch_X4_stitch : GoodIn wsL_stitch (wsV RL 27 RX4 yX4_stitch wsX4_stitch) := goodIn_app (goodIn_of _ (by decide +kernel)) ggL_stitch_X4_stitch
theorem dL_stitch_0 : decode cL_stitch 0 = .ok (.aload 4, 2) := by decide +kernel
theorem dL_stitch_2 : decode cL_stitch 2 = .ok (.iconst 0, 1) := by decide +kernel
theorem dL_stitch_3 : decode cL_stitch 3 = .ok (.aload_n 0, 1) := by decide +kernel
theorem dL_stitch_4 : decode cL_stitch 4 = .ok (.iload_n 1, 1) := by decide +kernel
theorem dL_stitch_5 : decode cL_stitch 5 = .ok (.iload_n 2, 1) := by decide +kernel
theorem dL_stitch_6 : decode cL_stitch 6 = .ok (.iload_n 3, 1) := by decide +kernel
theorem dL_stitch_7 : decode cL_stitch 7 = .ok (.invokevirtual 27, 3) := by decide +kernel
theorem dL_stitch_10 : decode cL_stitch 10 = .ok (.ifCond .eq 7, 3) := by decide +kernel
theorem dL_stitch_13 : decode cL_stitch 13 = .ok (.lconst 1, 1) := by decide +kernel
theorem dL_stitch_14 : decode cL_stitch 14 = .ok (.goto 4, 3) := by decide +kernel
theorem dL_stitch_17 : decode cL_stitch 17 = .ok (.lconst 0, 1) := by decide +kernel
theorem dL_stitch_18 : decode cL_stitch 18 = .ok (.lastore, 1) := by decide +kernel
theorem dL_stitch_19 : decode cL_stitch 19 = .ok (.goto 7, 3) := by decide +kernel
theorem dL_stitch_22 : decode cL_stitch 22 = .ok (.astore 5, 2) := by decide +kernel
theorem dL_stitch_24 : decode cL_stitch 24 = .ok (.iconst 1, 1) := by decide +kernel
theorem dL_stitch_25 : decode cL_stitch 25 = .ok (.ireturn, 1) := by decide +kernel
theorem dL_stitch_26 : decode cL_stitch 26 = .ok (.iconst 0, 1) := by decide +kernel
theorem dL_stitch_27 : decode cL_stitch 27 = .ok (.ireturn, 1) := by decide +kernel
set_option maxRecDepth 20000 in
theorem ggL_pre_X4_pre : GoodIn wsL_pre wsX4_pre := goodIn_ca (goodIn_ca (goodIn_r _ [7, 8, 9, 10, 11, 12, 13, 14, 6, 15, 16, 17, 18, 19, 20, 21, 22, 23, 24, 25, 26, 27, 28, 29, 30, 31, 32, 33, 34, 35, 36, 37, 38, 39, 40, 41, 42, 43, 44, 45, 46, 47, 48, 49, 50, 51, 52, 53, 54, 55, 56, 57, 58, 59, 60, 61, 62, 63, 64, 65, 66, 67, 68, 69, 70, 71, 72, 73, 74, 75, 76, 77, 78, 79] (by decide +kernel) (by decide +kernel)) (goodIn_sub (fun _ h => List.mem_cons_of_mem _ (List.mem_append_left _ (List.mem_append_right _ h))) (by decide +kernel))) (goodIn_sub (fun _ h => List.mem_cons_of_mem _ (List.mem_append_right _ h)) (by decide +kernel))
set_option maxRecDepth 20000 in
theorem gL_pre_X4_pre : GoodIn wsL_pre (wsV RL 31 RX4 yX4_pre wsX4_pre) := goodIn_app (goodIn_of _ (by decide +kernel)) ggL_pre_X4_pre
theorem dL_pre_0 : decode cL_pre 0 = .ok (.aload 4, 2) := by decide +kernel
theorem dL_pre_2 : decode cL_pre 2 = .ok (.iconst 0, 1) := by decide +kernel
theorem dL_pre_3 : decode cL_pre 3 = .ok (.aload_n 0, 1) := by decide +kernel
theorem dL_pre_4 : decode cL_pre 4 = .ok (.iload_n 1, 1) := by decide +kernel
theorem dL_pre_5 : decode cL_pre 5 = .ok (.iload_n 2, 1) := by decide +kernel
theorem dL_pre_6 : decode cL_pre 6 = .ok (.iload_n 3, 1) := by decide +kernel
theorem dL_pre_7 : decode cL_pre 7 = .ok (.invokevirtual 31, 3) := by decide +kernel
theorem dL_pre_10 : decode cL_pre 10 = .ok (.i2l, 1) := by decide +kernel
theorem dL_pre_11 : decode cL_pre 11 = .ok (.lastore, 1) := by decide +kernel
theorem dL_pre_12 : decode cL_pre 12 = .ok (.goto 11, 3) := by decide +kernel
theorem dL_pre_15 : decode cL_pre 15 = .ok (.astore 5, 2) := by decide +kernel
theorem dL_pre_17 : decode cL_pre 17 = .ok (.iconst 1, 1) := by decide +kernel
theorem dL_pre_18 : decode cL_pre 18 = .ok (.ireturn, 1) := by decide +kernel
theorem dL_pre_19 : decode cL_pre 19 = .ok (.astore 5, 2) := by decide +kernel
theorem dL_pre_21 : decode cL_pre 21 = .ok (.iconst 2, 1) := by decide +kernel
theorem dL_pre_22 : decode cL_pre 22 = .ok (.ireturn, 1) := by decide +kernel
theorem dL_pre_23 : decode cL_pre 23 = .ok (.iconst 0, 1) := by decide +kernel
theorem dL_pre_24 : decode cL_pre 24 = .ok (.ireturn, 1) := by decide +kernel
set_option maxRecDepth 20000 in
theorem ggL_part_X4_part : GoodIn wsL_part wsX4_part := goodIn_ca (goodIn_r _ [6, 7, 8, 9, 10, 11, 5, 12, 13, 14, 15, 16, 17, 18, 19, 20, 21, 22, 23, 24, 25, 26, 27, 28, 29, 30, 31, 32, 33, 34, 35, 36, 37, 38, 39, 40, 41, 42, 43, 44, 45, 46, 47, 48, 49, 50, 51, 52, 53, 54, 55, 56, 57, 58, 59, 60, 61, 62, 63, 64, 65, 66, 67, 68, 69, 70, 71, 72, 73, 74, 75, 76, 77, 78, 79, 80, 81, 82, 83, 84, 85, 86, 87, 88, 89, 90, 91, 92, 93, 94, 95, 96, 97, 98, 99, 100, 101, 102, 103, 104, 105, 106, 107, 108, 109, 110, 111, 112] (by decide +kernel) (by decide +kernel)) (goodIn_sub (fun _ h => List.mem_cons_of_mem _ (List.mem_append_right _ h)) (by decide +kernel))
set_option maxRecDepth 20000 in
theorem gL_part_X4_part : GoodIn wsL_part (wsV RL 35 RX4 yX4_part wsX4_part) := goodIn_app (goodIn_of _ (by decide +kernel)) ggL_part_X4_part
theorem dL_part_0 : decode cL_part 0 = .ok (.aload_n 3, 1) := by decide +kernel
theorem dL_part_1 : decode cL_part 1 = .ok (.iconst 0, 1) := by decide +kernel
theorem dL_part_2 : decode cL_part 2 = .ok (.aload_n 0, 1) := by decide +kernel
theorem dL_part_3 : decode cL_part 3 = .ok (.iload_n 1, 1) := by decide +kernel
theorem dL_part_4 : decode cL_part 4 = .ok (.iload_n 2, 1) := by decide +kernel
theorem dL_part_5 : decode cL_part 5 = .ok (.invokevirtual 35, 3) := by decide +kernel
theorem dL_part_8 : decode cL_part 8 = .ok (.i2l, 1) := by decide +kernel
theorem dL_part_9 : decode cL_part 9 = .ok (.lastore, 1) := by decide +kernel
theorem dL_part_10 : decode cL_part 10 = .ok (.goto 7, 3) := by decide +kernel
theorem dL_part_13 : decode cL_part 13 = .ok (.astore 4, 2) := by decide +kernel
theorem dL_part_15 : decode cL_part 15 = .ok (.iconst 1, 1) := by decide +kernel
theorem dL_part_16 : decode cL_part 16 = .ok (.ireturn, 1) := by decide +kernel
theorem dL_part_17 : decode cL_part 17 = .ok (.iconst 0, 1) := by decide +kernel
theorem dL_part_18 : decode cL_part 18 = .ok (.ireturn, 1) := by decide +kernel
set_option maxRecDepth 20000 in
theorem ggL_pair_X4_pair : GoodIn wsL_pair wsX4_pair := goodIn_ca (goodIn_ca (goodIn_r _ [7, 8, 9, 10, 11, 12, 13, 14, 15, 16, 17, 18, 19, 20, 21, 22, 23, 24, 25, 26, 27, 28, 29, 30, 31, 32, 33, 34, 35, 36, 37, 38, 39, 40, 41, 42, 43, 44, 45, 46, 47, 48, 49, 50, 51, 52, 53, 54, 55, 56, 57, 58, 59, 60, 61, 62, 63, 64, 65, 66, 67, 68, 69, 70, 71, 72, 73, 74, 75, 76, 77, 78, 79, 80, 6, 81, 82, 83, 84, 85, 86, 87, 88, 89, 90, 91, 92, 93, 94, 95, 96, 97, 98, 99, 100, 101, 102, 103, 104, 105, 106, 107] (by decide +kernel) (by decide +kernel)) (goodIn_sub (fun _ h => List.mem_cons_of_mem _ (List.mem_append_left _ (List.mem_append_right _ h))) (by decide +kernel))) (goodIn_sub (fun _ h => List.mem_cons_of_mem _ (List.mem_append_right _ h)) (by decide +kernel))
set_option maxRecDepth 20000 in
theorem gL_pair_X4_pair : GoodIn wsL_pair (wsV RL 39 RX4 yX4_pair wsX4_pair) := goodIn_app (goodIn_of _ (by decide +kernel)) ggL_pair_X4_pair
theorem dL_pair_0 : decode cL_pair 0 = .ok (.aload_n 3, 1) := by decide +kernel
theorem dL_pair_1 : decode cL_pair 1 = .ok (.iconst 0, 1) := by decide +kernel
theorem dL_pair_2 : decode cL_pair 2 = .ok (.aload_n 0, 1) := by decide +kernel
theorem dL_pair_3 : decode cL_pair 3 = .ok (.iload_n 1, 1) := by decide +kernel
theorem dL_pair_4 : decode cL_pair 4 = .ok (.iload_n 2, 1) := by decide +kernel
theorem dL_pair_5 : decode cL_pair 5 = .ok (.invokevirtual 39, 3) := by decide +kernel
theorem dL_pair_8 : decode cL_pair 8 = .ok (.i2l, 1) := by decide +kernel
theorem dL_pair_9 : decode cL_pair 9 = .ok (.lastore, 1) := by decide +kernel
theorem dL_pair_10 : decode cL_pair 10 = .ok (.goto 11, 3) := by decide +kernel
theorem dL_pair_13 : decode cL_pair 13 = .ok (.astore 4, 2) := by decide +kernel
theorem dL_pair_15 : decode cL_pair 15 = .ok (.iconst 1, 1) := by decide +kernel
theorem dL_pair_16 : decode cL_pair 16 = .ok (.ireturn, 1) := by decide +kernel
theorem dL_pair_17 : decode cL_pair 17 = .ok (.astore 4, 2) := by decide +kernel
theorem dL_pair_19 : decode cL_pair 19 = .ok (.iconst 2, 1) := by decide +kernel
theorem dL_pair_20 : decode cL_pair 20 = .ok (.ireturn, 1) := by decide +kernel
theorem dL_pair_21 : decode cL_pair 21 = .ok (.iconst 0, 1) := by decide +kernel
theorem dL_pair_22 : decode cL_pair 22 = .ok (.ireturn, 1) := by decide +kernel
set_option maxRecDepth 20000 in
theorem ggL_run_X4_run : GoodIn wsL_run wsX4_run := goodIn_ca (goodIn_r _ [6, 7, 8, 9, 10, 11, 12, 13, 14, 15, 16, 17, 18, 19, 20, 21, 22, 23, 24, 25, 26, 27, 28, 29, 30, 31, 32, 33, 34, 35, 36, 37, 38, 39, 40, 41, 42, 43, 44, 45, 46, 47, 48, 49, 50, 51, 52, 53, 54, 55, 56, 57, 58, 59, 60, 61, 62, 63, 64, 65, 66, 67, 68, 69, 70, 71, 72, 73, 74, 75, 76, 77, 78, 5, 79, 80, 81, 82, 83, 84, 85, 86, 87, 88, 89, 90, 91, 92, 93, 94, 95, 96, 97, 98, 99, 100, 101, 102, 103, 104, 105, 106, 107, 108, 109, 110, 111, 112, 113, 114, 115, 116, 117, 118, 119, 120, 121, 122, 123, 124, 125, 126, 127, 128, 129, 130, 131, 132, 133, 134, 135, 136, 137, 138, 139, 140, 141, 142, 143, 144] (by decide +kernel) (by decide +kernel)) (goodIn_sub (fun _ h => List.mem_cons_of_mem _ (List.mem_append_right _ h)) (by decide +kernel))
set_option maxRecDepth 20000 in
theorem gL_run_X4_run : GoodIn wsL_run (wsV RL 42 RX4 yX4_run wsX4_run) := goodIn_app (goodIn_of _ (by decide +kernel)) ggL_run_X4_run
theorem dL_run_0 : decode cL_run 0 = .ok (.aload_n 3, 1) := by decide +kernel
theorem dL_run_1 : decode cL_run 1 = .ok (.iconst 0, 1) := by decide +kernel
theorem dL_run_2 : decode cL_run 2 = .ok (.aload_n 0, 1) := by decide +kernel
theorem dL_run_3 : decode cL_run 3 = .ok (.iload_n 1, 1) := by decide +kernel
theorem dL_run_4 : decode cL_run 4 = .ok (.iload_n 2, 1) := by decide +kernel
theorem dL_run_5 : decode cL_run 5 = .ok (.invokevirtual 42, 3) := by decide +kernel
theorem dL_run_8 : decode cL_run 8 = .ok (.i2l, 1) := by decide +kernel
theorem dL_run_9 : decode cL_run 9 = .ok (.lastore, 1) := by decide +kernel
theorem dL_run_10 : decode cL_run 10 = .ok (.goto 7, 3) := by decide +kernel
theorem dL_run_13 : decode cL_run 13 = .ok (.astore 4, 2) := by decide +kernel
theorem dL_run_15 : decode cL_run 15 = .ok (.iconst 1, 1) := by decide +kernel
theorem dL_run_16 : decode cL_run 16 = .ok (.ireturn, 1) := by decide +kernel
theorem dL_run_17 : decode cL_run 17 = .ok (.iconst 0, 1) := by decide +kernel
theorem dL_run_18 : decode cL_run 18 = .ok (.ireturn, 1) := by decide +kernel
set_option maxRecDepth 20000 in
theorem ggL_colour_X4_colour : GoodIn wsL_colour wsX4_colour := goodIn_ca (goodIn_r _ [6, 7, 8, 9, 10, 11, 12, 13, 14, 5, 15, 16, 17, 18, 19, 20, 21, 22, 23, 24, 25, 26, 27, 28, 29, 30, 31, 32, 33, 34, 35, 36, 37, 38, 39, 40, 41, 42, 43, 44, 45, 46, 47, 48, 49, 50, 51, 52, 53, 54, 55, 56] (by decide +kernel) (by decide +kernel)) (goodIn_sub (fun _ h => List.mem_cons_of_mem _ (List.mem_append_right _ h)) (by decide +kernel))
set_option maxRecDepth 20000 in
theorem gL_colour_X4_colour : GoodIn wsL_colour (wsV RL 45 RX4 yX4_colour wsX4_colour) := goodIn_app (goodIn_of _ (by decide +kernel)) ggL_colour_X4_colour
theorem dL_colour_0 : decode cL_colour 0 = .ok (.aload_n 3, 1) := by decide +kernel
theorem dL_colour_1 : decode cL_colour 1 = .ok (.iconst 0, 1) := by decide +kernel
theorem dL_colour_2 : decode cL_colour 2 = .ok (.aload_n 0, 1) := by decide +kernel
theorem dL_colour_3 : decode cL_colour 3 = .ok (.iload_n 1, 1) := by decide +kernel
theorem dL_colour_4 : decode cL_colour 4 = .ok (.iload_n 2, 1) := by decide +kernel
theorem dL_colour_5 : decode cL_colour 5 = .ok (.invokevirtual 45, 3) := by decide +kernel
theorem dL_colour_8 : decode cL_colour 8 = .ok (.i2l, 1) := by decide +kernel
theorem dL_colour_9 : decode cL_colour 9 = .ok (.lastore, 1) := by decide +kernel
theorem dL_colour_10 : decode cL_colour 10 = .ok (.goto 7, 3) := by decide +kernel
theorem dL_colour_13 : decode cL_colour 13 = .ok (.astore 4, 2) := by decide +kernel
theorem dL_colour_15 : decode cL_colour 15 = .ok (.iconst 1, 1) := by decide +kernel
theorem dL_colour_16 : decode cL_colour 16 = .ok (.ireturn, 1) := by decide +kernel
theorem dL_colour_17 : decode cL_colour 17 = .ok (.iconst 0, 1) := by decide +kernel
theorem dL_colour_18 : decode cL_colour 18 = .ok (.ireturn, 1) := by decide +kernel
set_option maxRecDepth 20000 in
theorem ggL_area_X4_area : GoodIn wsL_area wsX4_area := goodIn_ca (goodIn_r _ [6, 7, 8, 9, 10, 11, 12, 5, 13, 14, 15, 16, 17, 18, 19, 20, 21, 22, 23, 24, 25, 26, 27, 28, 29, 30, 31, 32, 33, 34, 35, 36, 37, 38, 39, 40, 41, 42, 43, 44, 45, 46, 47, 48, 49, 50, 51, 52, 53, 54, 55, 56, 57, 58, 59, 60, 61, 62, 63] (by decide +kernel) (by decide +kernel)) (goodIn_sub (fun _ h => List.mem_cons_of_mem _ (List.mem_append_right _ h)) (by decide +kernel))
set_option maxRecDepth 20000 in
theorem gL_area_X4_area : GoodIn wsL_area (wsV RL 48 RX4 yX4_area wsX4_area) := goodIn_app (goodIn_of _ (by decide +kernel)) ggL_area_X4_area
theorem dL_area_0 : decode cL_area 0 = .ok (.aload_n 2, 1) := by decide +kernel
theorem dL_area_1 : decode cL_area 1 = .ok (.iconst 0, 1) := by decide +kernel
theorem dL_area_2 : decode cL_area 2 = .ok (.aload_n 0, 1) := by decide +kernel
theorem dL_area_3 : decode cL_area 3 = .ok (.iload_n 1, 1) := by decide +kernel
theorem dL_area_4 : decode cL_area 4 = .ok (.invokevirtual 48, 3) := by decide +kernel
theorem dL_area_7 : decode cL_area 7 = .ok (.lastore, 1) := by decide +kernel
theorem dL_area_8 : decode cL_area 8 = .ok (.goto 6, 3) := by decide +kernel
theorem dL_area_11 : decode cL_area 11 = .ok (.astore_n 3, 1) := by decide +kernel
theorem dL_area_12 : decode cL_area 12 = .ok (.iconst 1, 1) := by decide +kernel
theorem dL_area_13 : decode cL_area 13 = .ok (.ireturn, 1) := by decide +kernel
theorem dL_area_14 : decode cL_area 14 = .ok (.iconst 0, 1) := by decide +kernel
theorem dL_area_15 : decode cL_area 15 = .ok (.ireturn, 1) := by decide +kernel
set_option maxRecDepth 20000 in
theorem ggL_ringAt_X4_ringAt : GoodIn wsL_ringAt wsX4_ringAt := goodIn_ca (goodIn_r _ [6, 7, 8, 9, 10, 11, 12, 13, 14, 15, 16, 17, 18, 19, 20, 21, 22, 23, 24, 25, 26, 27, 28, 29, 30, 31, 32, 33, 34, 35, 36, 37, 38, 39, 40, 41, 42, 43, 44, 45, 46, 47, 48, 49, 50, 51, 52, 53, 54, 55, 56, 57, 58, 59, 60, 61, 62, 63, 64, 65, 66, 67, 68, 69, 70, 71, 72, 73, 74, 75, 76, 77, 78, 79, 5, 80, 81, 82, 83, 84, 85, 86, 87, 88, 89, 90, 91, 92, 93, 94, 95, 96, 97, 98, 99, 100, 101, 102, 103, 104, 105, 106, 107, 108, 109, 110, 111, 112, 113, 114, 115, 116, 117, 118, 119, 120, 121, 122, 123, 124, 125, 126, 127, 128, 129, 130, 131, 132, 133, 134, 135, 136, 137, 138, 139, 140] (by decide +kernel) (by decide +kernel)) (goodIn_sub (fun _ h => List.mem_cons_of_mem _ (List.mem_append_right _ h)) (by decide +kernel))
set_option maxRecDepth 20000 in
theorem gL_ringAt_X4_ringAt : GoodIn wsL_ringAt (wsV RL 52 RX4 yX4_ringAt wsX4_ringAt) := goodIn_app (goodIn_of _ (by decide +kernel)) ggL_ringAt_X4_ringAt
theorem dL_ringAt_0 : decode cL_ringAt 0 = .ok (.aload_n 2, 1) := by decide +kernel
theorem dL_ringAt_1 : decode cL_ringAt 1 = .ok (.iconst 0, 1) := by decide +kernel
theorem dL_ringAt_2 : decode cL_ringAt 2 = .ok (.aload_n 0, 1) := by decide +kernel
theorem dL_ringAt_3 : decode cL_ringAt 3 = .ok (.iload_n 1, 1) := by decide +kernel
theorem dL_ringAt_4 : decode cL_ringAt 4 = .ok (.invokevirtual 52, 3) := by decide +kernel
theorem dL_ringAt_7 : decode cL_ringAt 7 = .ok (.i2l, 1) := by decide +kernel
theorem dL_ringAt_8 : decode cL_ringAt 8 = .ok (.lastore, 1) := by decide +kernel
theorem dL_ringAt_9 : decode cL_ringAt 9 = .ok (.goto 6, 3) := by decide +kernel
theorem dL_ringAt_12 : decode cL_ringAt 12 = .ok (.astore_n 3, 1) := by decide +kernel
theorem dL_ringAt_13 : decode cL_ringAt 13 = .ok (.iconst 1, 1) := by decide +kernel
theorem dL_ringAt_14 : decode cL_ringAt 14 = .ok (.ireturn, 1) := by decide +kernel
theorem dL_ringAt_15 : decode cL_ringAt 15 = .ok (.iconst 0, 1) := by decide +kernel
theorem dL_ringAt_16 : decode cL_ringAt 16 = .ok (.ireturn, 1) := by decide +kernel
set_option maxRecDepth 20000 in
theorem ggL_told_X4_told : GoodIn wsL_told wsX4_told := goodIn_ca (goodIn_r _ [6, 7, 8, 9, 10, 11, 12, 13, 14, 15, 16, 17, 18, 19, 20, 21, 22, 23, 24, 25, 26, 27, 28, 29, 30, 31, 32, 33, 34, 35, 36, 37, 38, 39, 40, 41, 42, 43, 44, 45, 46, 47, 48, 49, 50, 51, 52, 53, 54, 55, 56, 57, 58, 59, 60, 61, 62, 63, 64, 65, 66, 67, 68, 69, 70, 71, 72, 73, 74, 75, 76, 77, 78, 79, 80, 81, 82, 5, 83, 84, 85, 86, 87, 88, 89, 90, 91, 92, 93, 94, 95, 96, 97, 98, 99, 100, 101, 102, 103, 104, 105, 106, 107, 108, 109, 110, 111] (by decide +kernel) (by decide +kernel)) (goodIn_sub (fun _ h => List.mem_cons_of_mem _ (List.mem_append_right _ h)) (by decide +kernel))
set_option maxRecDepth 20000 in
theorem gL_told_X4_told : GoodIn wsL_told (wsV RL 55 RX4 yX4_told wsX4_told) := goodIn_app (goodIn_of _ (by decide +kernel)) ggL_told_X4_told
theorem dL_told_0 : decode cL_told 0 = .ok (.aload_n 2, 1) := by decide +kernel
theorem dL_told_1 : decode cL_told 1 = .ok (.iconst 0, 1) := by decide +kernel
theorem dL_told_2 : decode cL_told 2 = .ok (.aload_n 0, 1) := by decide +kernel
theorem dL_told_3 : decode cL_told 3 = .ok (.iload_n 1, 1) := by decide +kernel
theorem dL_told_4 : decode cL_told 4 = .ok (.invokevirtual 55, 3) := by decide +kernel
theorem dL_told_7 : decode cL_told 7 = .ok (.i2l, 1) := by decide +kernel
theorem dL_told_8 : decode cL_told 8 = .ok (.lastore, 1) := by decide +kernel
theorem dL_told_9 : decode cL_told 9 = .ok (.goto 6, 3) := by decide +kernel
theorem dL_told_12 : decode cL_told 12 = .ok (.astore_n 3, 1) := by decide +kernel
theorem dL_told_13 : decode cL_told 13 = .ok (.iconst 1, 1) := by decide +kernel
theorem dL_told_14 : decode cL_told 14 = .ok (.ireturn, 1) := by decide +kernel
theorem dL_told_15 : decode cL_told 15 = .ok (.iconst 0, 1) := by decide +kernel
theorem dL_told_16 : decode cL_told 16 = .ok (.ireturn, 1) := by decide +kernel
