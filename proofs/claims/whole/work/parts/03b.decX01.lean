theorem dX0_groupOf_24 : decode cX0_groupOf 24 = .ok (.ifCond .eq 26, 3) := by decide +kernel
theorem dX0_groupOf_27 : decode cX0_groupOf 27 = .ok (.lload_n 2, 1) := by decide +kernel
theorem dX0_groupOf_28 : decode cX0_groupOf 28 = .ok (.lstore 4, 2) := by decide +kernel
theorem dX0_groupOf_30 : decode cX0_groupOf 30 = .ok (.lload_n 2, 1) := by decide +kernel
theorem dX0_groupOf_31 : decode cX0_groupOf 31 = .ok (.aload_n 0, 1) := by decide +kernel
theorem dX0_groupOf_32 : decode cX0_groupOf 32 = .ok (.lload_n 2, 1) := by decide +kernel
theorem dX0_groupOf_33 : decode cX0_groupOf 33 = .ok (.invokevirtual 96, 3) := by decide +kernel
theorem dX0_groupOf_36 : decode cX0_groupOf 36 = .ok (.aload_n 0, 1) := by decide +kernel
theorem dX0_groupOf_37 : decode cX0_groupOf 37 = .ok (.lload_n 2, 1) := by decide +kernel
theorem dX0_groupOf_38 : decode cX0_groupOf 38 = .ok (.invokevirtual 100, 3) := by decide +kernel
theorem dX0_groupOf_41 : decode cX0_groupOf 41 = .ok (.lor, 1) := by decide +kernel
theorem dX0_groupOf_42 : decode cX0_groupOf 42 = .ok (.lor, 1) := by decide +kernel
theorem dX0_groupOf_43 : decode cX0_groupOf 43 = .ok (.lstore_n 2, 1) := by decide +kernel
theorem dX0_groupOf_44 : decode cX0_groupOf 44 = .ok (.iinc 6 1, 3) := by decide +kernel
theorem dX0_groupOf_47 : decode cX0_groupOf 47 = .ok (.goto (-36), 3) := by decide +kernel
theorem dX0_groupOf_50 : decode cX0_groupOf 50 = .ok (.lload_n 2, 1) := by decide +kernel
theorem dX0_groupOf_51 : decode cX0_groupOf 51 = .ok (.lreturn, 1) := by decide +kernel
set_option maxRecDepth 20000 in
theorem ggX0_stitchedTo_X4_bit : GoodIn wsX0_stitchedTo wsX4_bit := goodIn_r _ [5] (by decide +kernel) (by decide +kernel)
set_option maxRecDepth 20000 in
theorem gX0_stitchedTo_X4_bit_n89 : GoodIn wsX0_stitchedTo (wsX4_bit) := ggX0_stitchedTo_X4_bit
theorem dX0_stitchedTo_0 : decode cX0_stitchedTo 0 = .ok (.lconst 0, 1) := by decide +kernel
theorem dX0_stitchedTo_1 : decode cX0_stitchedTo 1 = .ok (.lstore_n 3, 1) := by decide +kernel
theorem dX0_stitchedTo_2 : decode cX0_stitchedTo 2 = .ok (.iconst 1, 1) := by decide +kernel
theorem dX0_stitchedTo_3 : decode cX0_stitchedTo 3 = .ok (.istore 5, 2) := by decide +kernel
theorem dX0_stitchedTo_5 : decode cX0_stitchedTo 5 = .ok (.iload 5, 2) := by decide +kernel
theorem dX0_stitchedTo_7 : decode cX0_stitchedTo 7 = .ok (.aload_n 0, 1) := by decide +kernel
theorem dX0_stitchedTo_8 : decode cX0_stitchedTo 8 = .ok (.getfield 15, 3) := by decide +kernel
theorem dX0_stitchedTo_11 : decode cX0_stitchedTo 11 = .ok (.if_icmp .ge 48, 3) := by decide +kernel
theorem dX0_stitchedTo_14 : decode cX0_stitchedTo 14 = .ok (.iload 5, 2) := by decide +kernel
theorem dX0_stitchedTo_16 : decode cX0_stitchedTo 16 = .ok (.iconst 1, 1) := by decide +kernel
theorem dX0_stitchedTo_17 : decode cX0_stitchedTo 17 = .ok (.isub, 1) := by decide +kernel
theorem dX0_stitchedTo_18 : decode cX0_stitchedTo 18 = .ok (.invokestatic 89, 3) := by decide +kernel
theorem dX0_stitchedTo_21 : decode cX0_stitchedTo 21 = .ok (.iload 5, 2) := by decide +kernel
theorem dX0_stitchedTo_23 : decode cX0_stitchedTo 23 = .ok (.invokestatic 89, 3) := by decide +kernel
theorem dX0_stitchedTo_26 : decode cX0_stitchedTo 26 = .ok (.lor, 1) := by decide +kernel
theorem dX0_stitchedTo_27 : decode cX0_stitchedTo 27 = .ok (.lstore 6, 2) := by decide +kernel
theorem dX0_stitchedTo_29 : decode cX0_stitchedTo 29 = .ok (.aload_n 0, 1) := by decide +kernel
theorem dX0_stitchedTo_30 : decode cX0_stitchedTo 30 = .ok (.getfield 33, 3) := by decide +kernel
theorem dX0_stitchedTo_33 : decode cX0_stitchedTo 33 = .ok (.iload 5, 2) := by decide +kernel
theorem dX0_stitchedTo_35 : decode cX0_stitchedTo 35 = .ok (.baload, 1) := by decide +kernel
theorem dX0_stitchedTo_36 : decode cX0_stitchedTo 36 = .ok (.ifCond .eq 17, 3) := by decide +kernel
theorem dX0_stitchedTo_39 : decode cX0_stitchedTo 39 = .ok (.lload_n 1, 1) := by decide +kernel
theorem dX0_stitchedTo_40 : decode cX0_stitchedTo 40 = .ok (.lload 6, 2) := by decide +kernel
theorem dX0_stitchedTo_42 : decode cX0_stitchedTo 42 = .ok (.land, 1) := by decide +kernel
theorem dX0_stitchedTo_43 : decode cX0_stitchedTo 43 = .ok (.lconst 0, 1) := by decide +kernel
theorem dX0_stitchedTo_44 : decode cX0_stitchedTo 44 = .ok (.lcmp, 1) := by decide +kernel
theorem dX0_stitchedTo_45 : decode cX0_stitchedTo 45 = .ok (.ifCond .eq 8, 3) := by decide +kernel
theorem dX0_stitchedTo_48 : decode cX0_stitchedTo 48 = .ok (.lload_n 3, 1) := by decide +kernel
theorem dX0_stitchedTo_49 : decode cX0_stitchedTo 49 = .ok (.lload 6, 2) := by decide +kernel
theorem dX0_stitchedTo_51 : decode cX0_stitchedTo 51 = .ok (.lor, 1) := by decide +kernel
theorem dX0_stitchedTo_52 : decode cX0_stitchedTo 52 = .ok (.lstore_n 3, 1) := by decide +kernel
theorem dX0_stitchedTo_53 : decode cX0_stitchedTo 53 = .ok (.iinc 5 1, 3) := by decide +kernel
theorem dX0_stitchedTo_56 : decode cX0_stitchedTo 56 = .ok (.goto (-51), 3) := by decide +kernel
theorem dX0_stitchedTo_59 : decode cX0_stitchedTo 59 = .ok (.lload_n 3, 1) := by decide +kernel
theorem dX0_stitchedTo_60 : decode cX0_stitchedTo 60 = .ok (.lreturn, 1) := by decide +kernel
