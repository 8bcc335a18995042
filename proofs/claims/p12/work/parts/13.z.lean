theorem md_L_row_0 : decode mb_L_row 0 = .ok (.aload_n 3, 1) := by decide +kernel
theorem md_L_row_1 : decode mb_L_row 1 = .ok (.iconst 0, 1) := by decide +kernel
theorem md_L_row_2 : decode mb_L_row 2 = .ok (.aload_n 0, 1) := by decide +kernel
theorem md_L_row_3 : decode mb_L_row 3 = .ok (.iload_n 1, 1) := by decide +kernel
theorem md_L_row_4 : decode mb_L_row 4 = .ok (.iload_n 2, 1) := by decide +kernel
theorem md_L_row_5 : decode mb_L_row 5 = .ok (.invokevirtual 7, 3) := by decide +kernel
theorem md_L_row_8 : decode mb_L_row 8 = .ok (.i2l, 1) := by decide +kernel
theorem md_L_row_9 : decode mb_L_row 9 = .ok (.lastore, 1) := by decide +kernel
theorem md_L_row_10 : decode mb_L_row 10 = .ok (.goto 11, 3) := by decide +kernel
theorem md_L_row_13 : decode mb_L_row 13 = .ok (.astore 4, 2) := by decide +kernel
theorem md_L_row_15 : decode mb_L_row 15 = .ok (.iconst 1, 1) := by decide +kernel
theorem md_L_row_16 : decode mb_L_row 16 = .ok (.ireturn, 1) := by decide +kernel
theorem md_L_row_17 : decode mb_L_row 17 = .ok (.astore 4, 2) := by decide +kernel
theorem md_L_row_19 : decode mb_L_row 19 = .ok (.iconst 2, 1) := by decide +kernel
theorem md_L_row_20 : decode mb_L_row 20 = .ok (.ireturn, 1) := by decide +kernel
theorem md_L_row_21 : decode mb_L_row 21 = .ok (.iconst 0, 1) := by decide +kernel
theorem md_L_row_22 : decode mb_L_row 22 = .ok (.ireturn, 1) := by decide +kernel
theorem md_L_stock_0 : decode mb_L_stock 0 = .ok (.aload_n 3, 1) := by decide +kernel
theorem md_L_stock_1 : decode mb_L_stock 1 = .ok (.iconst 0, 1) := by decide +kernel
theorem md_L_stock_2 : decode mb_L_stock 2 = .ok (.aload_n 0, 1) := by decide +kernel
theorem md_L_stock_3 : decode mb_L_stock 3 = .ok (.iload_n 1, 1) := by decide +kernel
theorem md_L_stock_4 : decode mb_L_stock 4 = .ok (.iload_n 2, 1) := by decide +kernel
theorem md_L_stock_5 : decode mb_L_stock 5 = .ok (.invokevirtual 17, 3) := by decide +kernel
theorem md_L_stock_8 : decode mb_L_stock 8 = .ok (.ifCond .eq 7, 3) := by decide +kernel
theorem md_L_stock_11 : decode mb_L_stock 11 = .ok (.lconst 1, 1) := by decide +kernel
theorem md_L_stock_12 : decode mb_L_stock 12 = .ok (.goto 4, 3) := by decide +kernel
theorem md_L_stock_15 : decode mb_L_stock 15 = .ok (.lconst 0, 1) := by decide +kernel
theorem md_L_stock_16 : decode mb_L_stock 16 = .ok (.lastore, 1) := by decide +kernel
theorem md_L_stock_17 : decode mb_L_stock 17 = .ok (.goto 15, 3) := by decide +kernel
theorem md_L_stock_20 : decode mb_L_stock 20 = .ok (.astore 4, 2) := by decide +kernel
theorem md_L_stock_22 : decode mb_L_stock 22 = .ok (.iconst 1, 1) := by decide +kernel
theorem md_L_stock_23 : decode mb_L_stock 23 = .ok (.ireturn, 1) := by decide +kernel
theorem md_L_stock_24 : decode mb_L_stock 24 = .ok (.astore 4, 2) := by decide +kernel
theorem md_L_stock_26 : decode mb_L_stock 26 = .ok (.iconst 2, 1) := by decide +kernel
theorem md_L_stock_27 : decode mb_L_stock 27 = .ok (.ireturn, 1) := by decide +kernel
theorem md_L_stock_28 : decode mb_L_stock 28 = .ok (.astore 4, 2) := by decide +kernel
theorem md_L_stock_30 : decode mb_L_stock 30 = .ok (.iconst 3, 1) := by decide +kernel
theorem md_L_stock_31 : decode mb_L_stock 31 = .ok (.ireturn, 1) := by decide +kernel
theorem md_L_stock_32 : decode mb_L_stock 32 = .ok (.iconst 0, 1) := by decide +kernel
theorem md_L_stock_33 : decode mb_L_stock 33 = .ok (.ireturn, 1) := by decide +kernel
theorem md_L_hinge_0 : decode mb_L_hinge 0 = .ok (.aload 6, 2) := by decide +kernel
theorem md_L_hinge_2 : decode mb_L_hinge 2 = .ok (.iconst 0, 1) := by decide +kernel
theorem md_L_hinge_3 : decode mb_L_hinge 3 = .ok (.aload_n 0, 1) := by decide +kernel
theorem md_L_hinge_4 : decode mb_L_hinge 4 = .ok (.lload_n 1, 1) := by decide +kernel
theorem md_L_hinge_5 : decode mb_L_hinge 5 = .ok (.lload_n 3, 1) := by decide +kernel
theorem md_L_hinge_6 : decode mb_L_hinge 6 = .ok (.iload 5, 2) := by decide +kernel
theorem md_L_hinge_8 : decode mb_L_hinge 8 = .ok (.invokevirtual 23, 3) := by decide +kernel
theorem md_L_hinge_11 : decode mb_L_hinge 11 = .ok (.i2l, 1) := by decide +kernel
theorem md_L_hinge_12 : decode mb_L_hinge 12 = .ok (.lastore, 1) := by decide +kernel
theorem md_L_hinge_13 : decode mb_L_hinge 13 = .ok (.goto 7, 3) := by decide +kernel
theorem md_L_hinge_16 : decode mb_L_hinge 16 = .ok (.astore 7, 2) := by decide +kernel
theorem md_L_hinge_18 : decode mb_L_hinge 18 = .ok (.iconst 1, 1) := by decide +kernel
theorem md_L_hinge_19 : decode mb_L_hinge 19 = .ok (.ireturn, 1) := by decide +kernel
theorem md_L_hinge_20 : decode mb_L_hinge 20 = .ok (.iconst 0, 1) := by decide +kernel
theorem md_L_hinge_21 : decode mb_L_hinge 21 = .ok (.ireturn, 1) := by decide +kernel
theorem md_L_other_0 : decode mb_L_other 0 = .ok (.aload_n 3, 1) := by decide +kernel
theorem md_L_other_1 : decode mb_L_other 1 = .ok (.iconst 0, 1) := by decide +kernel
theorem md_L_other_2 : decode mb_L_other 2 = .ok (.aload_n 0, 1) := by decide +kernel
theorem md_L_other_3 : decode mb_L_other 3 = .ok (.iload_n 1, 1) := by decide +kernel
theorem md_L_other_4 : decode mb_L_other 4 = .ok (.iload_n 2, 1) := by decide +kernel
theorem md_L_other_5 : decode mb_L_other 5 = .ok (.invokevirtual 27, 3) := by decide +kernel
theorem md_L_other_8 : decode mb_L_other 8 = .ok (.i2l, 1) := by decide +kernel
theorem md_L_other_9 : decode mb_L_other 9 = .ok (.lastore, 1) := by decide +kernel
theorem md_L_other_10 : decode mb_L_other 10 = .ok (.goto 15, 3) := by decide +kernel
theorem md_L_other_13 : decode mb_L_other 13 = .ok (.astore 4, 2) := by decide +kernel
theorem md_L_other_15 : decode mb_L_other 15 = .ok (.iconst 1, 1) := by decide +kernel
theorem md_L_other_16 : decode mb_L_other 16 = .ok (.ireturn, 1) := by decide +kernel
theorem md_L_other_17 : decode mb_L_other 17 = .ok (.astore 4, 2) := by decide +kernel
theorem md_L_other_19 : decode mb_L_other 19 = .ok (.iconst 2, 1) := by decide +kernel
theorem md_L_other_20 : decode mb_L_other 20 = .ok (.ireturn, 1) := by decide +kernel
theorem md_L_other_21 : decode mb_L_other 21 = .ok (.astore 4, 2) := by decide +kernel
theorem md_L_other_23 : decode mb_L_other 23 = .ok (.iconst 3, 1) := by decide +kernel
theorem md_L_other_24 : decode mb_L_other 24 = .ok (.ireturn, 1) := by decide +kernel
theorem md_L_other_25 : decode mb_L_other 25 = .ok (.iconst 0, 1) := by decide +kernel
theorem md_L_other_26 : decode mb_L_other 26 = .ok (.ireturn, 1) := by decide +kernel
theorem md_L_slide_0 : decode mb_L_slide 0 = .ok (.aload_n 3, 1) := by decide +kernel
theorem md_L_slide_1 : decode mb_L_slide 1 = .ok (.iconst 0, 1) := by decide +kernel
theorem md_L_slide_2 : decode mb_L_slide 2 = .ok (.aload_n 0, 1) := by decide +kernel
theorem md_L_slide_3 : decode mb_L_slide 3 = .ok (.lload_n 1, 1) := by decide +kernel
theorem md_L_slide_4 : decode mb_L_slide 4 = .ok (.invokevirtual 30, 3) := by decide +kernel
theorem md_L_slide_7 : decode mb_L_slide 7 = .ok (.i2l, 1) := by decide +kernel
theorem md_L_slide_8 : decode mb_L_slide 8 = .ok (.lastore, 1) := by decide +kernel
theorem md_L_slide_9 : decode mb_L_slide 9 = .ok (.goto 7, 3) := by decide +kernel
theorem md_L_slide_12 : decode mb_L_slide 12 = .ok (.astore 4, 2) := by decide +kernel
theorem md_L_slide_14 : decode mb_L_slide 14 = .ok (.iconst 1, 1) := by decide +kernel
theorem md_L_slide_15 : decode mb_L_slide 15 = .ok (.ireturn, 1) := by decide +kernel
theorem md_L_slide_16 : decode mb_L_slide 16 = .ok (.iconst 0, 1) := by decide +kernel
theorem md_L_slide_17 : decode mb_L_slide 17 = .ok (.ireturn, 1) := by decide +kernel
theorem md_L_door_0 : decode mb_L_door 0 = .ok (.aload 9, 2) := by decide +kernel
theorem md_L_door_2 : decode mb_L_door 2 = .ok (.iconst 0, 1) := by decide +kernel
theorem md_L_door_3 : decode mb_L_door 3 = .ok (.aload_n 0, 1) := by decide +kernel
theorem md_L_door_4 : decode mb_L_door 4 = .ok (.lload_n 1, 1) := by decide +kernel
theorem md_L_door_5 : decode mb_L_door 5 = .ok (.lload_n 3, 1) := by decide +kernel
theorem md_L_door_6 : decode mb_L_door 6 = .ok (.lload 5, 2) := by decide +kernel
theorem md_L_door_8 : decode mb_L_door 8 = .ok (.lload 7, 2) := by decide +kernel
theorem md_L_door_10 : decode mb_L_door 10 = .ok (.invokevirtual 34, 3) := by decide +kernel
theorem md_L_door_13 : decode mb_L_door 13 = .ok (.ifCond .eq 7, 3) := by decide +kernel
theorem md_L_door_16 : decode mb_L_door 16 = .ok (.lconst 1, 1) := by decide +kernel
theorem md_L_door_17 : decode mb_L_door 17 = .ok (.goto 4, 3) := by decide +kernel
theorem md_L_door_20 : decode mb_L_door 20 = .ok (.lconst 0, 1) := by decide +kernel
theorem md_L_door_21 : decode mb_L_door 21 = .ok (.lastore, 1) := by decide +kernel
theorem md_L_door_22 : decode mb_L_door 22 = .ok (.goto 7, 3) := by decide +kernel
theorem md_L_door_25 : decode mb_L_door 25 = .ok (.astore 10, 2) := by decide +kernel
theorem md_L_door_27 : decode mb_L_door 27 = .ok (.iconst 1, 1) := by decide +kernel
theorem md_L_door_28 : decode mb_L_door 28 = .ok (.ireturn, 1) := by decide +kernel
theorem md_L_door_29 : decode mb_L_door 29 = .ok (.iconst 0, 1) := by decide +kernel
theorem md_L_door_30 : decode mb_L_door 30 = .ok (.ireturn, 1) := by decide +kernel
theorem md_L_weight_0 : decode mb_L_weight 0 = .ok (.aload_n 2, 1) := by decide +kernel
theorem md_L_weight_1 : decode mb_L_weight 1 = .ok (.iconst 0, 1) := by decide +kernel
theorem md_L_weight_2 : decode mb_L_weight 2 = .ok (.aload_n 0, 1) := by decide +kernel
theorem md_L_weight_3 : decode mb_L_weight 3 = .ok (.iload_n 1, 1) := by decide +kernel
theorem md_L_weight_4 : decode mb_L_weight 4 = .ok (.invokevirtual 38, 3) := by decide +kernel
theorem md_L_weight_7 : decode mb_L_weight 7 = .ok (.lastore, 1) := by decide +kernel
theorem md_L_weight_8 : decode mb_L_weight 8 = .ok (.goto 6, 3) := by decide +kernel
theorem md_L_weight_11 : decode mb_L_weight 11 = .ok (.astore_n 3, 1) := by decide +kernel
theorem md_L_weight_12 : decode mb_L_weight 12 = .ok (.iconst 1, 1) := by decide +kernel
theorem md_L_weight_13 : decode mb_L_weight 13 = .ok (.ireturn, 1) := by decide +kernel
theorem md_L_weight_14 : decode mb_L_weight 14 = .ok (.iconst 0, 1) := by decide +kernel
theorem md_L_weight_15 : decode mb_L_weight 15 = .ok (.ireturn, 1) := by decide +kernel
theorem md_L_count_0 : decode mb_L_count 0 = .ok (.aload_n 1, 1) := by decide +kernel
theorem md_L_count_1 : decode mb_L_count 1 = .ok (.iconst 0, 1) := by decide +kernel
theorem md_L_count_2 : decode mb_L_count 2 = .ok (.aload_n 0, 1) := by decide +kernel
theorem md_L_count_3 : decode mb_L_count 3 = .ok (.invokevirtual 42, 3) := by decide +kernel
theorem md_L_count_6 : decode mb_L_count 6 = .ok (.i2l, 1) := by decide +kernel
theorem md_L_count_7 : decode mb_L_count 7 = .ok (.lastore, 1) := by decide +kernel
theorem md_L_count_8 : decode mb_L_count 8 = .ok (.goto 6, 3) := by decide +kernel
theorem md_L_count_11 : decode mb_L_count 11 = .ok (.astore_n 2, 1) := by decide +kernel
theorem md_L_count_12 : decode mb_L_count 12 = .ok (.iconst 1, 1) := by decide +kernel
theorem md_L_count_13 : decode mb_L_count 13 = .ok (.ireturn, 1) := by decide +kernel
theorem md_L_count_14 : decode mb_L_count 14 = .ok (.iconst 0, 1) := by decide +kernel
theorem md_L_count_15 : decode mb_L_count 15 = .ok (.ireturn, 1) := by decide +kernel
theorem md_L_place_0 : decode mb_L_place 0 = .ok (.aload_n 3, 1) := by decide +kernel
theorem md_L_place_1 : decode mb_L_place 1 = .ok (.iconst 0, 1) := by decide +kernel
theorem md_L_place_2 : decode mb_L_place 2 = .ok (.aload_n 0, 1) := by decide +kernel
theorem md_L_place_3 : decode mb_L_place 3 = .ok (.iload_n 1, 1) := by decide +kernel
theorem md_L_place_4 : decode mb_L_place 4 = .ok (.iload_n 2, 1) := by decide +kernel
theorem md_L_place_5 : decode mb_L_place 5 = .ok (.invokevirtual 46, 3) := by decide +kernel
theorem md_L_place_8 : decode mb_L_place 8 = .ok (.lastore, 1) := by decide +kernel
theorem md_L_place_9 : decode mb_L_place 9 = .ok (.goto 11, 3) := by decide +kernel
theorem md_L_place_12 : decode mb_L_place 12 = .ok (.astore 4, 2) := by decide +kernel
theorem md_L_place_14 : decode mb_L_place 14 = .ok (.iconst 1, 1) := by decide +kernel
theorem md_L_place_15 : decode mb_L_place 15 = .ok (.ireturn, 1) := by decide +kernel
theorem md_L_place_16 : decode mb_L_place 16 = .ok (.astore 4, 2) := by decide +kernel
theorem md_L_place_18 : decode mb_L_place 18 = .ok (.iconst 2, 1) := by decide +kernel
theorem md_L_place_19 : decode mb_L_place 19 = .ok (.ireturn, 1) := by decide +kernel
theorem md_L_place_20 : decode mb_L_place 20 = .ok (.iconst 0, 1) := by decide +kernel
theorem md_L_place_21 : decode mb_L_place 21 = .ok (.ireturn, 1) := by decide +kernel
theorem md_L_hole_0 : decode mb_L_hole 0 = .ok (.aload 8, 2) := by decide +kernel
theorem md_L_hole_2 : decode mb_L_hole 2 = .ok (.iconst 0, 1) := by decide +kernel
theorem md_L_hole_3 : decode mb_L_hole 3 = .ok (.aload_n 0, 1) := by decide +kernel
theorem md_L_hole_4 : decode mb_L_hole 4 = .ok (.iload_n 1, 1) := by decide +kernel
theorem md_L_hole_5 : decode mb_L_hole 5 = .ok (.lload_n 2, 1) := by decide +kernel
theorem md_L_hole_6 : decode mb_L_hole 6 = .ok (.lload 4, 2) := by decide +kernel
theorem md_L_hole_8 : decode mb_L_hole 8 = .ok (.lload 6, 2) := by decide +kernel
theorem md_L_hole_10 : decode mb_L_hole 10 = .ok (.invokevirtual 50, 3) := by decide +kernel
theorem md_L_hole_13 : decode mb_L_hole 13 = .ok (.ifCond .eq 7, 3) := by decide +kernel
theorem md_L_hole_16 : decode mb_L_hole 16 = .ok (.lconst 1, 1) := by decide +kernel
theorem md_L_hole_17 : decode mb_L_hole 17 = .ok (.goto 4, 3) := by decide +kernel
theorem md_L_hole_20 : decode mb_L_hole 20 = .ok (.lconst 0, 1) := by decide +kernel
theorem md_L_hole_21 : decode mb_L_hole 21 = .ok (.lastore, 1) := by decide +kernel
theorem md_L_hole_22 : decode mb_L_hole 22 = .ok (.goto 11, 3) := by decide +kernel
theorem md_L_hole_25 : decode mb_L_hole 25 = .ok (.astore 9, 2) := by decide +kernel
theorem md_L_hole_27 : decode mb_L_hole 27 = .ok (.iconst 1, 1) := by decide +kernel
theorem md_L_hole_28 : decode mb_L_hole 28 = .ok (.ireturn, 1) := by decide +kernel
theorem md_L_hole_29 : decode mb_L_hole 29 = .ok (.astore 9, 2) := by decide +kernel
theorem md_L_hole_31 : decode mb_L_hole 31 = .ok (.iconst 2, 1) := by decide +kernel
theorem md_L_hole_32 : decode mb_L_hole 32 = .ok (.ireturn, 1) := by decide +kernel
theorem md_L_hole_33 : decode mb_L_hole 33 = .ok (.iconst 0, 1) := by decide +kernel
theorem md_L_hole_34 : decode mb_L_hole 34 = .ok (.ireturn, 1) := by decide +kernel
theorem md_L_meet_0 : decode mb_L_meet 0 = .ok (.aload_n 3, 1) := by decide +kernel
theorem md_L_meet_1 : decode mb_L_meet 1 = .ok (.iconst 0, 1) := by decide +kernel
theorem md_L_meet_2 : decode mb_L_meet 2 = .ok (.aload_n 0, 1) := by decide +kernel
theorem md_L_meet_3 : decode mb_L_meet 3 = .ok (.iload_n 1, 1) := by decide +kernel
theorem md_L_meet_4 : decode mb_L_meet 4 = .ok (.iload_n 2, 1) := by decide +kernel
theorem md_L_meet_5 : decode mb_L_meet 5 = .ok (.invokevirtual 54, 3) := by decide +kernel
theorem md_L_meet_8 : decode mb_L_meet 8 = .ok (.ifCond .eq 7, 3) := by decide +kernel
theorem md_L_meet_11 : decode mb_L_meet 11 = .ok (.lconst 1, 1) := by decide +kernel
theorem md_L_meet_12 : decode mb_L_meet 12 = .ok (.goto 4, 3) := by decide +kernel
theorem md_L_meet_15 : decode mb_L_meet 15 = .ok (.lconst 0, 1) := by decide +kernel
theorem md_L_meet_16 : decode mb_L_meet 16 = .ok (.lastore, 1) := by decide +kernel
theorem md_L_meet_17 : decode mb_L_meet 17 = .ok (.goto 7, 3) := by decide +kernel
theorem md_L_meet_20 : decode mb_L_meet 20 = .ok (.astore 4, 2) := by decide +kernel
theorem md_L_meet_22 : decode mb_L_meet 22 = .ok (.iconst 1, 1) := by decide +kernel
theorem md_L_meet_23 : decode mb_L_meet 23 = .ok (.ireturn, 1) := by decide +kernel
theorem md_L_meet_24 : decode mb_L_meet 24 = .ok (.iconst 0, 1) := by decide +kernel
theorem md_L_meet_25 : decode mb_L_meet 25 = .ok (.ireturn, 1) := by decide +kernel
theorem md_L_pair_0 : decode mb_L_pair 0 = .ok (.aload_n 2, 1) := by decide +kernel
theorem md_L_pair_1 : decode mb_L_pair 1 = .ok (.iconst 0, 1) := by decide +kernel
theorem md_L_pair_2 : decode mb_L_pair 2 = .ok (.aload_n 0, 1) := by decide +kernel
theorem md_L_pair_3 : decode mb_L_pair 3 = .ok (.iload_n 1, 1) := by decide +kernel
theorem md_L_pair_4 : decode mb_L_pair 4 = .ok (.invokevirtual 57, 3) := by decide +kernel
theorem md_L_pair_7 : decode mb_L_pair 7 = .ok (.i2l, 1) := by decide +kernel
theorem md_L_pair_8 : decode mb_L_pair 8 = .ok (.lastore, 1) := by decide +kernel
theorem md_L_pair_9 : decode mb_L_pair 9 = .ok (.goto 6, 3) := by decide +kernel
theorem md_L_pair_12 : decode mb_L_pair 12 = .ok (.astore_n 3, 1) := by decide +kernel
theorem md_L_pair_13 : decode mb_L_pair 13 = .ok (.iconst 1, 1) := by decide +kernel
theorem md_L_pair_14 : decode mb_L_pair 14 = .ok (.ireturn, 1) := by decide +kernel
theorem md_L_pair_15 : decode mb_L_pair 15 = .ok (.iconst 0, 1) := by decide +kernel
theorem md_L_pair_16 : decode mb_L_pair 16 = .ok (.ireturn, 1) := by decide +kernel
theorem md_L_wall_0 : decode mb_L_wall 0 = .ok (.aload_n 3, 1) := by decide +kernel
theorem md_L_wall_1 : decode mb_L_wall 1 = .ok (.iconst 0, 1) := by decide +kernel
theorem md_L_wall_2 : decode mb_L_wall 2 = .ok (.aload_n 0, 1) := by decide +kernel
theorem md_L_wall_3 : decode mb_L_wall 3 = .ok (.lload_n 1, 1) := by decide +kernel
theorem md_L_wall_4 : decode mb_L_wall 4 = .ok (.invokevirtual 61, 3) := by decide +kernel
theorem md_L_wall_7 : decode mb_L_wall 7 = .ok (.i2l, 1) := by decide +kernel
theorem md_L_wall_8 : decode mb_L_wall 8 = .ok (.lastore, 1) := by decide +kernel
theorem md_L_wall_9 : decode mb_L_wall 9 = .ok (.goto 7, 3) := by decide +kernel
theorem md_L_wall_12 : decode mb_L_wall 12 = .ok (.astore 4, 2) := by decide +kernel
theorem md_L_wall_14 : decode mb_L_wall 14 = .ok (.iconst 1, 1) := by decide +kernel
theorem md_L_wall_15 : decode mb_L_wall 15 = .ok (.ireturn, 1) := by decide +kernel
theorem md_L_wall_16 : decode mb_L_wall 16 = .ok (.iconst 0, 1) := by decide +kernel
theorem md_L_wall_17 : decode mb_L_wall 17 = .ok (.ireturn, 1) := by decide +kernel
theorem md_L_corner_0 : decode mb_L_corner 0 = .ok (.aload 4, 2) := by decide +kernel
theorem md_L_corner_2 : decode mb_L_corner 2 = .ok (.iconst 0, 1) := by decide +kernel
theorem md_L_corner_3 : decode mb_L_corner 3 = .ok (.aload_n 0, 1) := by decide +kernel
theorem md_L_corner_4 : decode mb_L_corner 4 = .ok (.iload_n 1, 1) := by decide +kernel
theorem md_L_corner_5 : decode mb_L_corner 5 = .ok (.iload_n 2, 1) := by decide +kernel
theorem md_L_corner_6 : decode mb_L_corner 6 = .ok (.iload_n 3, 1) := by decide +kernel
theorem md_L_corner_7 : decode mb_L_corner 7 = .ok (.invokevirtual 64, 3) := by decide +kernel
theorem md_L_corner_10 : decode mb_L_corner 10 = .ok (.lastore, 1) := by decide +kernel
theorem md_L_corner_11 : decode mb_L_corner 11 = .ok (.goto 7, 3) := by decide +kernel
theorem md_L_corner_14 : decode mb_L_corner 14 = .ok (.astore 5, 2) := by decide +kernel
theorem md_L_corner_16 : decode mb_L_corner 16 = .ok (.iconst 1, 1) := by decide +kernel
theorem md_L_corner_17 : decode mb_L_corner 17 = .ok (.ireturn, 1) := by decide +kernel
theorem md_L_corner_18 : decode mb_L_corner 18 = .ok (.iconst 0, 1) := by decide +kernel
theorem md_L_corner_19 : decode mb_L_corner 19 = .ok (.ireturn, 1) := by decide +kernel
theorem md_L_rows32_0 : decode mb_L_rows32 0 = .ok (.aload 4, 2) := by decide +kernel
theorem md_L_rows32_2 : decode mb_L_rows32 2 = .ok (.iconst 0, 1) := by decide +kernel
theorem md_L_rows32_3 : decode mb_L_rows32 3 = .ok (.aload_n 0, 1) := by decide +kernel
theorem md_L_rows32_4 : decode mb_L_rows32 4 = .ok (.lload_n 1, 1) := by decide +kernel
theorem md_L_rows32_5 : decode mb_L_rows32 5 = .ok (.iload_n 3, 1) := by decide +kernel
theorem md_L_rows32_6 : decode mb_L_rows32 6 = .ok (.invokevirtual 68, 3) := by decide +kernel
theorem md_L_rows32_9 : decode mb_L_rows32 9 = .ok (.i2l, 1) := by decide +kernel
theorem md_L_rows32_10 : decode mb_L_rows32 10 = .ok (.lastore, 1) := by decide +kernel
theorem md_L_rows32_11 : decode mb_L_rows32 11 = .ok (.goto 7, 3) := by decide +kernel
theorem md_L_rows32_14 : decode mb_L_rows32 14 = .ok (.astore 5, 2) := by decide +kernel
theorem md_L_rows32_16 : decode mb_L_rows32 16 = .ok (.iconst 1, 1) := by decide +kernel
theorem md_L_rows32_17 : decode mb_L_rows32 17 = .ok (.ireturn, 1) := by decide +kernel
theorem md_L_rows32_18 : decode mb_L_rows32 18 = .ok (.iconst 0, 1) := by decide +kernel
theorem md_L_rows32_19 : decode mb_L_rows32 19 = .ok (.ireturn, 1) := by decide +kernel
