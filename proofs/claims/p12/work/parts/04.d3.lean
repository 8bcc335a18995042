theorem md_K_init_0 : decode mb_K_init 0 = .ok (.aload_n 0, 1) := by decide +kernel
theorem md_K_init_1 : decode mb_K_init 1 = .ok (.invokespecial 1, 3) := by decide +kernel
theorem md_K_init_4 : decode mb_K_init 4 = .ok (.aload_n 0, 1) := by decide +kernel
theorem md_K_init_5 : decode mb_K_init 5 = .ok (.new 7, 3) := by decide +kernel
theorem md_K_init_8 : decode mb_K_init 8 = .ok (.dup, 1) := by decide +kernel
theorem md_K_init_9 : decode mb_K_init 9 = .ok (.invokespecial 9, 3) := by decide +kernel
theorem md_K_init_12 : decode mb_K_init 12 = .ok (.putfield 10, 3) := by decide +kernel
theorem md_K_init_15 : decode mb_K_init 15 = .ok (.aload_n 0, 1) := by decide +kernel
theorem md_K_init_16 : decode mb_K_init 16 = .ok (.new 16, 3) := by decide +kernel
theorem md_K_init_19 : decode mb_K_init 19 = .ok (.dup, 1) := by decide +kernel
theorem md_K_init_20 : decode mb_K_init 20 = .ok (.invokespecial 18, 3) := by decide +kernel
theorem md_K_init_23 : decode mb_K_init 23 = .ok (.putfield 19, 3) := by decide +kernel
theorem md_K_init_26 : decode mb_K_init 26 = .ok (.aload_n 0, 1) := by decide +kernel
theorem md_K_init_27 : decode mb_K_init 27 = .ok (.new 23, 3) := by decide +kernel
theorem md_K_init_30 : decode mb_K_init 30 = .ok (.dup, 1) := by decide +kernel
theorem md_K_init_31 : decode mb_K_init 31 = .ok (.invokespecial 25, 3) := by decide +kernel
theorem md_K_init_34 : decode mb_K_init 34 = .ok (.putfield 26, 3) := by decide +kernel
theorem md_K_init_37 : decode mb_K_init 37 = .ok (.aload_n 0, 1) := by decide +kernel
theorem md_K_init_38 : decode mb_K_init 38 = .ok (.new 30, 3) := by decide +kernel
theorem md_K_init_41 : decode mb_K_init 41 = .ok (.dup, 1) := by decide +kernel
theorem md_K_init_42 : decode mb_K_init 42 = .ok (.invokespecial 32, 3) := by decide +kernel
theorem md_K_init_45 : decode mb_K_init 45 = .ok (.putfield 33, 3) := by decide +kernel
theorem md_K_init_48 : decode mb_K_init 48 = .ok (.aload_n 0, 1) := by decide +kernel
theorem md_K_init_49 : decode mb_K_init 49 = .ok (.new 30, 3) := by decide +kernel
theorem md_K_init_52 : decode mb_K_init 52 = .ok (.dup, 1) := by decide +kernel
theorem md_K_init_53 : decode mb_K_init 53 = .ok (.invokespecial 32, 3) := by decide +kernel
theorem md_K_init_56 : decode mb_K_init 56 = .ok (.putfield 37, 3) := by decide +kernel
theorem md_K_init_59 : decode mb_K_init 59 = .ok (.return_, 1) := by decide +kernel
theorem md_K_unit_0 : decode mb_K_unit 0 = .ok (.aload_n 0, 1) := by decide +kernel
theorem md_K_unit_1 : decode mb_K_unit 1 = .ok (.getfield 10, 3) := by decide +kernel
theorem md_K_unit_4 : decode mb_K_unit 4 = .ok (.iload_n 1, 1) := by decide +kernel
theorem md_K_unit_5 : decode mb_K_unit 5 = .ok (.invokevirtual 40, 3) := by decide +kernel
theorem md_K_unit_8 : decode mb_K_unit 8 = .ok (.ireturn, 1) := by decide +kernel
theorem md_K_read_0 : decode mb_K_read 0 = .ok (.aload_n 0, 1) := by decide +kernel
theorem md_K_read_1 : decode mb_K_read 1 = .ok (.getfield 37, 3) := by decide +kernel
theorem md_K_read_4 : decode mb_K_read 4 = .ok (.aload_n 0, 1) := by decide +kernel
theorem md_K_read_5 : decode mb_K_read 5 = .ok (.getfield 10, 3) := by decide +kernel
theorem md_K_read_8 : decode mb_K_read 8 = .ok (.invokevirtual 44, 3) := by decide +kernel
theorem md_K_read_11 : decode mb_K_read 11 = .ok (.istore_n 1, 1) := by decide +kernel
theorem md_K_read_12 : decode mb_K_read 12 = .ok (.aload_n 0, 1) := by decide +kernel
theorem md_K_read_13 : decode mb_K_read 13 = .ok (.getfield 10, 3) := by decide +kernel
theorem md_K_read_16 : decode mb_K_read 16 = .ok (.invokevirtual 48, 3) := by decide +kernel
theorem md_K_read_19 : decode mb_K_read 19 = .ok (.iload_n 1, 1) := by decide +kernel
theorem md_K_read_20 : decode mb_K_read 20 = .ok (.ifCond .le 21, 3) := by decide +kernel
theorem md_K_read_23 : decode mb_K_read 23 = .ok (.aload_n 0, 1) := by decide +kernel
theorem md_K_read_24 : decode mb_K_read 24 = .ok (.getfield 37, 3) := by decide +kernel
theorem md_K_read_27 : decode mb_K_read 27 = .ok (.astore_n 2, 1) := by decide +kernel
theorem md_K_read_28 : decode mb_K_read 28 = .ok (.aload_n 0, 1) := by decide +kernel
theorem md_K_read_29 : decode mb_K_read 29 = .ok (.aload_n 0, 1) := by decide +kernel
theorem md_K_read_30 : decode mb_K_read 30 = .ok (.getfield 33, 3) := by decide +kernel
theorem md_K_read_33 : decode mb_K_read 33 = .ok (.putfield 37, 3) := by decide +kernel
theorem md_K_read_36 : decode mb_K_read 36 = .ok (.aload_n 0, 1) := by decide +kernel
theorem md_K_read_37 : decode mb_K_read 37 = .ok (.aload_n 2, 1) := by decide +kernel
theorem md_K_read_38 : decode mb_K_read 38 = .ok (.putfield 33, 3) := by decide +kernel
theorem md_K_read_41 : decode mb_K_read 41 = .ok (.iload_n 1, 1) := by decide +kernel
theorem md_K_read_42 : decode mb_K_read 42 = .ok (.ireturn, 1) := by decide +kernel
theorem md_K_numbersBehind_0 : decode mb_K_numbersBehind 0 = .ok (.iload_n 0, 1) := by decide +kernel
theorem md_K_numbersBehind_1 : decode mb_K_numbersBehind 1 = .ok (.bipush 104, 2) := by decide +kernel
theorem md_K_numbersBehind_3 : decode mb_K_numbersBehind 3 = .ok (.if_icmp .ne 6, 3) := by decide +kernel
theorem md_K_numbersBehind_6 : decode mb_K_numbersBehind 6 = .ok (.bipush 6, 2) := by decide +kernel
theorem md_K_numbersBehind_8 : decode mb_K_numbersBehind 8 = .ok (.ireturn, 1) := by decide +kernel
theorem md_K_numbersBehind_9 : decode mb_K_numbersBehind 9 = .ok (.iload_n 0, 1) := by decide +kernel
theorem md_K_numbersBehind_10 : decode mb_K_numbersBehind 10 = .ok (.bipush 115, 2) := by decide +kernel
theorem md_K_numbersBehind_12 : decode mb_K_numbersBehind 12 = .ok (.if_icmp .ne 5, 3) := by decide +kernel
theorem md_K_numbersBehind_15 : decode mb_K_numbersBehind 15 = .ok (.iconst 2, 1) := by decide +kernel
theorem md_K_numbersBehind_16 : decode mb_K_numbersBehind 16 = .ok (.ireturn, 1) := by decide +kernel
theorem md_K_numbersBehind_17 : decode mb_K_numbersBehind 17 = .ok (.iload_n 0, 1) := by decide +kernel
theorem md_K_numbersBehind_18 : decode mb_K_numbersBehind 18 = .ok (.bipush 99, 2) := by decide +kernel
theorem md_K_numbersBehind_20 : decode mb_K_numbersBehind 20 = .ok (.if_icmp .ne 7, 3) := by decide +kernel
theorem md_K_numbersBehind_23 : decode mb_K_numbersBehind 23 = .ok (.iconst 3, 1) := by decide +kernel
theorem md_K_numbersBehind_24 : decode mb_K_numbersBehind 24 = .ok (.goto 4, 3) := by decide +kernel
theorem md_K_numbersBehind_27 : decode mb_K_numbersBehind 27 = .ok (.iconst 0, 1) := by decide +kernel
theorem md_K_numbersBehind_28 : decode mb_K_numbersBehind 28 = .ok (.ireturn, 1) := by decide +kernel
theorem md_K_row_0 : decode mb_K_row 0 = .ok (.aload_n 0, 1) := by decide +kernel
theorem md_K_row_1 : decode mb_K_row 1 = .ok (.invokevirtual 51, 3) := by decide +kernel
theorem md_K_row_4 : decode mb_K_row 4 = .ok (.aload_n 0, 1) := by decide +kernel
theorem md_K_row_5 : decode mb_K_row 5 = .ok (.iload_n 1, 1) := by decide +kernel
theorem md_K_row_6 : decode mb_K_row 6 = .ok (.invokevirtual 54, 3) := by decide +kernel
theorem md_K_row_9 : decode mb_K_row 9 = .ok (.iload_n 2, 1) := by decide +kernel
theorem md_K_row_10 : decode mb_K_row 10 = .ok (.iconst (-1), 1) := by decide +kernel
theorem md_K_row_11 : decode mb_K_row 11 = .ok (.if_icmp .ne 12, 3) := by decide +kernel
theorem md_K_row_14 : decode mb_K_row 14 = .ok (.aload_n 0, 1) := by decide +kernel
theorem md_K_row_15 : decode mb_K_row 15 = .ok (.getfield 33, 3) := by decide +kernel
theorem md_K_row_18 : decode mb_K_row 18 = .ok (.iload_n 1, 1) := by decide +kernel
theorem md_K_row_19 : decode mb_K_row 19 = .ok (.invokevirtual 58, 3) := by decide +kernel
theorem md_K_row_22 : decode mb_K_row 22 = .ok (.ireturn, 1) := by decide +kernel
theorem md_K_row_23 : decode mb_K_row 23 = .ok (.iload_n 2, 1) := by decide +kernel
theorem md_K_row_24 : decode mb_K_row 24 = .ok (.ifCond .lt 18, 3) := by decide +kernel
theorem md_K_row_27 : decode mb_K_row 27 = .ok (.iload_n 2, 1) := by decide +kernel
theorem md_K_row_28 : decode mb_K_row 28 = .ok (.aload_n 0, 1) := by decide +kernel
theorem md_K_row_29 : decode mb_K_row 29 = .ok (.getfield 33, 3) := by decide +kernel
theorem md_K_row_32 : decode mb_K_row 32 = .ok (.iload_n 1, 1) := by decide +kernel
theorem md_K_row_33 : decode mb_K_row 33 = .ok (.invokevirtual 58, 3) := by decide +kernel
theorem md_K_row_36 : decode mb_K_row 36 = .ok (.invokestatic 62, 3) := by decide +kernel
theorem md_K_row_39 : decode mb_K_row 39 = .ok (.if_icmp .lt 13, 3) := by decide +kernel
theorem md_K_row_42 : decode mb_K_row 42 = .ok (.new 66, 3) := by decide +kernel
theorem md_K_row_45 : decode mb_K_row 45 = .ok (.dup, 1) := by decide +kernel
theorem md_K_row_46 : decode mb_K_row 46 = .ok (.ldc 68, 2) := by decide +kernel
theorem md_K_row_48 : decode mb_K_row 48 = .ok (.invokespecial 70, 3) := by decide +kernel
theorem md_K_row_51 : decode mb_K_row 51 = .ok (.athrow, 1) := by decide +kernel
theorem md_K_row_52 : decode mb_K_row 52 = .ok (.aload_n 0, 1) := by decide +kernel
theorem md_K_row_53 : decode mb_K_row 53 = .ok (.getfield 33, 3) := by decide +kernel
theorem md_K_row_56 : decode mb_K_row 56 = .ok (.iload_n 1, 1) := by decide +kernel
theorem md_K_row_57 : decode mb_K_row 57 = .ok (.iload_n 2, 1) := by decide +kernel
theorem md_K_row_58 : decode mb_K_row 58 = .ok (.invokevirtual 73, 3) := by decide +kernel
theorem md_K_row_61 : decode mb_K_row 61 = .ok (.ireturn, 1) := by decide +kernel
theorem md_K_needTable_0 : decode mb_K_needTable 0 = .ok (.aload_n 0, 1) := by decide +kernel
theorem md_K_needTable_1 : decode mb_K_needTable 1 = .ok (.getfield 33, 3) := by decide +kernel
theorem md_K_needTable_4 : decode mb_K_needTable 4 = .ok (.getfield 186, 3) := by decide +kernel
theorem md_K_needTable_7 : decode mb_K_needTable 7 = .ok (.ifCond .ne 13, 3) := by decide +kernel
theorem md_K_needTable_10 : decode mb_K_needTable 10 = .ok (.new 128, 3) := by decide +kernel
theorem md_K_needTable_13 : decode mb_K_needTable 13 = .ok (.dup, 1) := by decide +kernel
theorem md_K_needTable_14 : decode mb_K_needTable 14 = .ok (.ldc 190, 2) := by decide +kernel
theorem md_K_needTable_16 : decode mb_K_needTable 16 = .ok (.invokespecial 132, 3) := by decide +kernel
theorem md_K_needTable_19 : decode mb_K_needTable 19 = .ok (.athrow, 1) := by decide +kernel
theorem md_K_needTable_20 : decode mb_K_needTable 20 = .ok (.return_, 1) := by decide +kernel
theorem md_K_needRow_0 : decode mb_K_needRow 0 = .ok (.iload_n 1, 1) := by decide +kernel
theorem md_K_needRow_1 : decode mb_K_needRow 1 = .ok (.ifCond .lt 14, 3) := by decide +kernel
theorem md_K_needRow_4 : decode mb_K_needRow 4 = .ok (.iload_n 1, 1) := by decide +kernel
theorem md_K_needRow_5 : decode mb_K_needRow 5 = .ok (.aload_n 0, 1) := by decide +kernel
theorem md_K_needRow_6 : decode mb_K_needRow 6 = .ok (.getfield 33, 3) := by decide +kernel
theorem md_K_needRow_9 : decode mb_K_needRow 9 = .ok (.getfield 186, 3) := by decide +kernel
theorem md_K_needRow_12 : decode mb_K_needRow 12 = .ok (.if_icmp .lt 13, 3) := by decide +kernel
theorem md_K_needRow_15 : decode mb_K_needRow 15 = .ok (.new 66, 3) := by decide +kernel
theorem md_K_needRow_18 : decode mb_K_needRow 18 = .ok (.dup, 1) := by decide +kernel
theorem md_K_needRow_19 : decode mb_K_needRow 19 = .ok (.ldc 192, 2) := by decide +kernel
theorem md_K_needRow_21 : decode mb_K_needRow 21 = .ok (.invokespecial 70, 3) := by decide +kernel
theorem md_K_needRow_24 : decode mb_K_needRow 24 = .ok (.athrow, 1) := by decide +kernel
theorem md_K_needRow_25 : decode mb_K_needRow 25 = .ok (.return_, 1) := by decide +kernel
theorem md_K_stock_0 : decode mb_K_stock 0 = .ok (.aload_n 0, 1) := by decide +kernel
theorem md_K_stock_1 : decode mb_K_stock 1 = .ok (.invokevirtual 51, 3) := by decide +kernel
theorem md_K_stock_4 : decode mb_K_stock 4 = .ok (.aload_n 0, 1) := by decide +kernel
theorem md_K_stock_5 : decode mb_K_stock 5 = .ok (.iload_n 1, 1) := by decide +kernel
theorem md_K_stock_6 : decode mb_K_stock 6 = .ok (.invokevirtual 54, 3) := by decide +kernel
theorem md_K_stock_9 : decode mb_K_stock 9 = .ok (.iload_n 2, 1) := by decide +kernel
theorem md_K_stock_10 : decode mb_K_stock 10 = .ok (.ifCond .lt 10, 3) := by decide +kernel
theorem md_K_stock_13 : decode mb_K_stock 13 = .ok (.iload_n 2, 1) := by decide +kernel
theorem md_K_stock_14 : decode mb_K_stock 14 = .ok (.sipush 1000, 3) := by decide +kernel
theorem md_K_stock_17 : decode mb_K_stock 17 = .ok (.if_icmp .le 13, 3) := by decide +kernel
theorem md_K_stock_20 : decode mb_K_stock 20 = .ok (.new 77, 3) := by decide +kernel
theorem md_K_stock_23 : decode mb_K_stock 23 = .ok (.dup, 1) := by decide +kernel
theorem md_K_stock_24 : decode mb_K_stock 24 = .ok (.ldc 79, 2) := by decide +kernel
theorem md_K_stock_26 : decode mb_K_stock 26 = .ok (.invokespecial 81, 3) := by decide +kernel
theorem md_K_stock_29 : decode mb_K_stock 29 = .ok (.athrow, 1) := by decide +kernel
theorem md_K_stock_30 : decode mb_K_stock 30 = .ok (.aload_n 0, 1) := by decide +kernel
theorem md_K_stock_31 : decode mb_K_stock 31 = .ok (.getfield 33, 3) := by decide +kernel
theorem md_K_stock_34 : decode mb_K_stock 34 = .ok (.iload_n 1, 1) := by decide +kernel
theorem md_K_stock_35 : decode mb_K_stock 35 = .ok (.iload_n 2, 1) := by decide +kernel
theorem md_K_stock_36 : decode mb_K_stock 36 = .ok (.invokevirtual 82, 3) := by decide +kernel
theorem md_K_stock_39 : decode mb_K_stock 39 = .ok (.ireturn, 1) := by decide +kernel
theorem md_K_hinge_0 : decode mb_K_hinge 0 = .ok (.aload_n 0, 1) := by decide +kernel
theorem md_K_hinge_1 : decode mb_K_hinge 1 = .ok (.invokevirtual 51, 3) := by decide +kernel
theorem md_K_hinge_4 : decode mb_K_hinge 4 = .ok (.aload_n 0, 1) := by decide +kernel
theorem md_K_hinge_5 : decode mb_K_hinge 5 = .ok (.getfield 33, 3) := by decide +kernel
theorem md_K_hinge_8 : decode mb_K_hinge 8 = .ok (.lload_n 1, 1) := by decide +kernel
theorem md_K_hinge_9 : decode mb_K_hinge 9 = .ok (.lload_n 3, 1) := by decide +kernel
theorem md_K_hinge_10 : decode mb_K_hinge 10 = .ok (.iload 5, 2) := by decide +kernel
theorem md_K_hinge_12 : decode mb_K_hinge 12 = .ok (.invokevirtual 86, 3) := by decide +kernel
theorem md_K_hinge_15 : decode mb_K_hinge 15 = .ok (.ireturn, 1) := by decide +kernel
theorem md_K_other_0 : decode mb_K_other 0 = .ok (.aload_n 0, 1) := by decide +kernel
theorem md_K_other_1 : decode mb_K_other 1 = .ok (.invokevirtual 51, 3) := by decide +kernel
theorem md_K_other_4 : decode mb_K_other 4 = .ok (.aload_n 0, 1) := by decide +kernel
theorem md_K_other_5 : decode mb_K_other 5 = .ok (.iload_n 1, 1) := by decide +kernel
theorem md_K_other_6 : decode mb_K_other 6 = .ok (.invokevirtual 54, 3) := by decide +kernel
theorem md_K_other_9 : decode mb_K_other 9 = .ok (.iload_n 2, 1) := by decide +kernel
theorem md_K_other_10 : decode mb_K_other 10 = .ok (.ifCond .ge 13, 3) := by decide +kernel
theorem md_K_other_13 : decode mb_K_other 13 = .ok (.new 66, 3) := by decide +kernel
theorem md_K_other_16 : decode mb_K_other 16 = .ok (.dup, 1) := by decide +kernel
theorem md_K_other_17 : decode mb_K_other 17 = .ok (.ldc 90, 2) := by decide +kernel
theorem md_K_other_19 : decode mb_K_other 19 = .ok (.invokespecial 70, 3) := by decide +kernel
theorem md_K_other_22 : decode mb_K_other 22 = .ok (.athrow, 1) := by decide +kernel
theorem md_K_other_23 : decode mb_K_other 23 = .ok (.aload_n 0, 1) := by decide +kernel
theorem md_K_other_24 : decode mb_K_other 24 = .ok (.getfield 33, 3) := by decide +kernel
theorem md_K_other_27 : decode mb_K_other 27 = .ok (.iload_n 1, 1) := by decide +kernel
theorem md_K_other_28 : decode mb_K_other 28 = .ok (.invokevirtual 58, 3) := by decide +kernel
theorem md_K_other_31 : decode mb_K_other 31 = .ok (.bipush 104, 2) := by decide +kernel
theorem md_K_other_33 : decode mb_K_other 33 = .ok (.if_icmp .eq 13, 3) := by decide +kernel
theorem md_K_other_36 : decode mb_K_other 36 = .ok (.new 77, 3) := by decide +kernel
theorem md_K_other_39 : decode mb_K_other 39 = .ok (.dup, 1) := by decide +kernel
theorem md_K_other_40 : decode mb_K_other 40 = .ok (.ldc 92, 2) := by decide +kernel
theorem md_K_other_42 : decode mb_K_other 42 = .ok (.invokespecial 81, 3) := by decide +kernel
theorem md_K_other_45 : decode mb_K_other 45 = .ok (.athrow, 1) := by decide +kernel
theorem md_K_other_46 : decode mb_K_other 46 = .ok (.aload_n 0, 1) := by decide +kernel
theorem md_K_other_47 : decode mb_K_other 47 = .ok (.getfield 33, 3) := by decide +kernel
theorem md_K_other_50 : decode mb_K_other 50 = .ok (.iload_n 1, 1) := by decide +kernel
theorem md_K_other_51 : decode mb_K_other 51 = .ok (.iload_n 2, 1) := by decide +kernel
theorem md_K_other_52 : decode mb_K_other 52 = .ok (.invokevirtual 94, 3) := by decide +kernel
theorem md_K_other_55 : decode mb_K_other 55 = .ok (.ireturn, 1) := by decide +kernel
theorem md_K_slide_0 : decode mb_K_slide 0 = .ok (.aload_n 0, 1) := by decide +kernel
theorem md_K_slide_1 : decode mb_K_slide 1 = .ok (.invokevirtual 51, 3) := by decide +kernel
theorem md_K_slide_4 : decode mb_K_slide 4 = .ok (.aload_n 0, 1) := by decide +kernel
theorem md_K_slide_5 : decode mb_K_slide 5 = .ok (.getfield 33, 3) := by decide +kernel
theorem md_K_slide_8 : decode mb_K_slide 8 = .ok (.lload_n 1, 1) := by decide +kernel
theorem md_K_slide_9 : decode mb_K_slide 9 = .ok (.invokevirtual 97, 3) := by decide +kernel
theorem md_K_slide_12 : decode mb_K_slide 12 = .ok (.ireturn, 1) := by decide +kernel
theorem md_K_door_0 : decode mb_K_door 0 = .ok (.lload_n 1, 1) := by decide +kernel
theorem md_K_door_1 : decode mb_K_door 1 = .ok (.invokestatic 101, 3) := by decide +kernel
theorem md_K_door_4 : decode mb_K_door 4 = .ok (.ifCond .eq 26, 3) := by decide +kernel
theorem md_K_door_7 : decode mb_K_door 7 = .ok (.lload_n 3, 1) := by decide +kernel
theorem md_K_door_8 : decode mb_K_door 8 = .ok (.invokestatic 101, 3) := by decide +kernel
theorem md_K_door_11 : decode mb_K_door 11 = .ok (.ifCond .eq 19, 3) := by decide +kernel
theorem md_K_door_14 : decode mb_K_door 14 = .ok (.lload 5, 2) := by decide +kernel
theorem md_K_door_16 : decode mb_K_door 16 = .ok (.invokestatic 101, 3) := by decide +kernel
theorem md_K_door_19 : decode mb_K_door 19 = .ok (.ifCond .eq 11, 3) := by decide +kernel
theorem md_K_door_22 : decode mb_K_door 22 = .ok (.lload 7, 2) := by decide +kernel
theorem md_K_door_24 : decode mb_K_door 24 = .ok (.invokestatic 101, 3) := by decide +kernel
theorem md_K_door_27 : decode mb_K_door 27 = .ok (.ifCond .ne 13, 3) := by decide +kernel
theorem md_K_door_30 : decode mb_K_door 30 = .ok (.new 77, 3) := by decide +kernel
theorem md_K_door_33 : decode mb_K_door 33 = .ok (.dup, 1) := by decide +kernel
theorem md_K_door_34 : decode mb_K_door 34 = .ok (.ldc 105, 2) := by decide +kernel
theorem md_K_door_36 : decode mb_K_door 36 = .ok (.invokespecial 81, 3) := by decide +kernel
theorem md_K_door_39 : decode mb_K_door 39 = .ok (.athrow, 1) := by decide +kernel
theorem md_K_door_40 : decode mb_K_door 40 = .ok (.aload_n 0, 1) := by decide +kernel
theorem md_K_door_41 : decode mb_K_door 41 = .ok (.getfield 19, 3) := by decide +kernel
theorem md_K_door_44 : decode mb_K_door 44 = .ok (.lload_n 1, 1) := by decide +kernel
theorem md_K_door_45 : decode mb_K_door 45 = .ok (.lload_n 3, 1) := by decide +kernel
theorem md_K_door_46 : decode mb_K_door 46 = .ok (.lload 5, 2) := by decide +kernel
theorem md_K_door_48 : decode mb_K_door 48 = .ok (.lload 7, 2) := by decide +kernel
theorem md_K_door_50 : decode mb_K_door 50 = .ok (.invokevirtual 107, 3) := by decide +kernel
theorem md_K_door_53 : decode mb_K_door 53 = .ok (.ireturn, 1) := by decide +kernel
theorem md_K_isOfDoor_0 : decode mb_K_isOfDoor 0 = .ok (.lload_n 0, 1) := by decide +kernel
theorem md_K_isOfDoor_1 : decode mb_K_isOfDoor 1 = .ok (.iconst 1, 1) := by decide +kernel
theorem md_K_isOfDoor_2 : decode mb_K_isOfDoor 2 = .ok (.sipush 10000, 3) := by decide +kernel
theorem md_K_isOfDoor_5 : decode mb_K_isOfDoor 5 = .ok (.invokestatic 152, 3) := by decide +kernel
theorem md_K_isOfDoor_8 : decode mb_K_isOfDoor 8 = .ok (.ireturn, 1) := by decide +kernel
theorem md_K_isWithin_0 : decode mb_K_isWithin 0 = .ok (.lload_n 0, 1) := by decide +kernel
theorem md_K_isWithin_1 : decode mb_K_isWithin 1 = .ok (.iload_n 2, 1) := by decide +kernel
theorem md_K_isWithin_2 : decode mb_K_isWithin 2 = .ok (.i2l, 1) := by decide +kernel
theorem md_K_isWithin_3 : decode mb_K_isWithin 3 = .ok (.lcmp, 1) := by decide +kernel
theorem md_K_isWithin_4 : decode mb_K_isWithin 4 = .ok (.ifCond .lt 14, 3) := by decide +kernel
theorem md_K_isWithin_7 : decode mb_K_isWithin 7 = .ok (.lload_n 0, 1) := by decide +kernel
theorem md_K_isWithin_8 : decode mb_K_isWithin 8 = .ok (.iload_n 3, 1) := by decide +kernel
theorem md_K_isWithin_9 : decode mb_K_isWithin 9 = .ok (.i2l, 1) := by decide +kernel
theorem md_K_isWithin_10 : decode mb_K_isWithin 10 = .ok (.lcmp, 1) := by decide +kernel
theorem md_K_isWithin_11 : decode mb_K_isWithin 11 = .ok (.ifCond .gt 7, 3) := by decide +kernel
theorem md_K_isWithin_14 : decode mb_K_isWithin 14 = .ok (.iconst 1, 1) := by decide +kernel
theorem md_K_isWithin_15 : decode mb_K_isWithin 15 = .ok (.goto 4, 3) := by decide +kernel
theorem md_K_isWithin_18 : decode mb_K_isWithin 18 = .ok (.iconst 0, 1) := by decide +kernel
theorem md_K_isWithin_19 : decode mb_K_isWithin 19 = .ok (.ireturn, 1) := by decide +kernel
theorem md_K_weight_0 : decode mb_K_weight 0 = .ok (.iload_n 1, 1) := by decide +kernel
theorem md_K_weight_1 : decode mb_K_weight 1 = .ok (.invokestatic 111, 3) := by decide +kernel
theorem md_K_weight_4 : decode mb_K_weight 4 = .ok (.aload_n 0, 1) := by decide +kernel
theorem md_K_weight_5 : decode mb_K_weight 5 = .ok (.getfield 19, 3) := by decide +kernel
theorem md_K_weight_8 : decode mb_K_weight 8 = .ok (.invokevirtual 114, 3) := by decide +kernel
theorem md_K_weight_11 : decode mb_K_weight 11 = .ok (.ldc2_w 118, 3) := by decide +kernel
theorem md_K_weight_14 : decode mb_K_weight 14 = .ok (.iload_n 1, 1) := by decide +kernel
theorem md_K_weight_15 : decode mb_K_weight 15 = .ok (.invokestatic 120, 3) := by decide +kernel
theorem md_K_weight_18 : decode mb_K_weight 18 = .ok (.lreturn, 1) := by decide +kernel
theorem md_K_needPart_0 : decode mb_K_needPart 0 = .ok (.iload_n 0, 1) := by decide +kernel
theorem md_K_needPart_1 : decode mb_K_needPart 1 = .ok (.ifCond .lt 8, 3) := by decide +kernel
theorem md_K_needPart_4 : decode mb_K_needPart 4 = .ok (.iload_n 0, 1) := by decide +kernel
theorem md_K_needPart_5 : decode mb_K_needPart 5 = .ok (.iconst 1, 1) := by decide +kernel
theorem md_K_needPart_6 : decode mb_K_needPart 6 = .ok (.if_icmp .le 13, 3) := by decide +kernel
theorem md_K_needPart_9 : decode mb_K_needPart 9 = .ok (.new 66, 3) := by decide +kernel
theorem md_K_needPart_12 : decode mb_K_needPart 12 = .ok (.dup, 1) := by decide +kernel
theorem md_K_needPart_13 : decode mb_K_needPart 13 = .ok (.ldc 196, 2) := by decide +kernel
theorem md_K_needPart_15 : decode mb_K_needPart 15 = .ok (.invokespecial 70, 3) := by decide +kernel
theorem md_K_needPart_18 : decode mb_K_needPart 18 = .ok (.athrow, 1) := by decide +kernel
theorem md_K_needPart_19 : decode mb_K_needPart 19 = .ok (.return_, 1) := by decide +kernel
theorem md_K_partOfFraction_0 : decode mb_K_partOfFraction 0 = .ok (.lload_n 0, 1) := by decide +kernel
theorem md_K_partOfFraction_1 : decode mb_K_partOfFraction 1 = .ok (.lload_n 2, 1) := by decide +kernel
theorem md_K_partOfFraction_2 : decode mb_K_partOfFraction 2 = .ok (.invokestatic 198, 3) := by decide +kernel
theorem md_K_partOfFraction_5 : decode mb_K_partOfFraction 5 = .ok (.lstore 5, 2) := by decide +kernel
theorem md_K_partOfFraction_7 : decode mb_K_partOfFraction 7 = .ok (.iload 4, 2) := by decide +kernel
theorem md_K_partOfFraction_9 : decode mb_K_partOfFraction 9 = .ok (.ifCond .ne 7, 3) := by decide +kernel
theorem md_K_partOfFraction_12 : decode mb_K_partOfFraction 12 = .ok (.lload_n 0, 1) := by decide +kernel
theorem md_K_partOfFraction_13 : decode mb_K_partOfFraction 13 = .ok (.goto 4, 3) := by decide +kernel
theorem md_K_partOfFraction_16 : decode mb_K_partOfFraction 16 = .ok (.lload_n 2, 1) := by decide +kernel
theorem md_K_partOfFraction_17 : decode mb_K_partOfFraction 17 = .ok (.lstore 7, 2) := by decide +kernel
theorem md_K_partOfFraction_19 : decode mb_K_partOfFraction 19 = .ok (.lload 5, 2) := by decide +kernel
theorem md_K_partOfFraction_21 : decode mb_K_partOfFraction 21 = .ok (.lconst 1, 1) := by decide +kernel
theorem md_K_partOfFraction_22 : decode mb_K_partOfFraction 22 = .ok (.lcmp, 1) := by decide +kernel
theorem md_K_partOfFraction_23 : decode mb_K_partOfFraction 23 = .ok (.ifCond .le 11, 3) := by decide +kernel
theorem md_K_partOfFraction_26 : decode mb_K_partOfFraction 26 = .ok (.lload 7, 2) := by decide +kernel
theorem md_K_partOfFraction_28 : decode mb_K_partOfFraction 28 = .ok (.lload 5, 2) := by decide +kernel
theorem md_K_partOfFraction_30 : decode mb_K_partOfFraction 30 = .ok (.ldiv, 1) := by decide +kernel
theorem md_K_partOfFraction_31 : decode mb_K_partOfFraction 31 = .ok (.goto 5, 3) := by decide +kernel
theorem md_K_partOfFraction_34 : decode mb_K_partOfFraction 34 = .ok (.lload 7, 2) := by decide +kernel
theorem md_K_partOfFraction_36 : decode mb_K_partOfFraction 36 = .ok (.lreturn, 1) := by decide +kernel
theorem md_K_commonDivisor_0 : decode mb_K_commonDivisor 0 = .ok (.lload_n 0, 1) := by decide +kernel
theorem md_K_commonDivisor_1 : decode mb_K_commonDivisor 1 = .ok (.lstore 4, 2) := by decide +kernel
theorem md_K_commonDivisor_3 : decode mb_K_commonDivisor 3 = .ok (.lload_n 2, 1) := by decide +kernel
theorem md_K_commonDivisor_4 : decode mb_K_commonDivisor 4 = .ok (.lstore 6, 2) := by decide +kernel
theorem md_K_commonDivisor_6 : decode mb_K_commonDivisor 6 = .ok (.iconst 0, 1) := by decide +kernel
theorem md_K_commonDivisor_7 : decode mb_K_commonDivisor 7 = .ok (.istore 8, 2) := by decide +kernel
theorem md_K_commonDivisor_9 : decode mb_K_commonDivisor 9 = .ok (.iload 8, 2) := by decide +kernel
theorem md_K_commonDivisor_11 : decode mb_K_commonDivisor 11 = .ok (.bipush 100, 2) := by decide +kernel
theorem md_K_commonDivisor_13 : decode mb_K_commonDivisor 13 = .ok (.if_icmp .ge 31, 3) := by decide +kernel
theorem md_K_commonDivisor_16 : decode mb_K_commonDivisor 16 = .ok (.lload 6, 2) := by decide +kernel
theorem md_K_commonDivisor_18 : decode mb_K_commonDivisor 18 = .ok (.lconst 0, 1) := by decide +kernel
theorem md_K_commonDivisor_19 : decode mb_K_commonDivisor 19 = .ok (.lcmp, 1) := by decide +kernel
theorem md_K_commonDivisor_20 : decode mb_K_commonDivisor 20 = .ok (.ifCond .le 24, 3) := by decide +kernel
theorem md_K_commonDivisor_23 : decode mb_K_commonDivisor 23 = .ok (.lload 4, 2) := by decide +kernel
theorem md_K_commonDivisor_25 : decode mb_K_commonDivisor 25 = .ok (.lload 6, 2) := by decide +kernel
theorem md_K_commonDivisor_27 : decode mb_K_commonDivisor 27 = .ok (.lrem, 1) := by decide +kernel
theorem md_K_commonDivisor_28 : decode mb_K_commonDivisor 28 = .ok (.lstore 9, 2) := by decide +kernel
theorem md_K_commonDivisor_30 : decode mb_K_commonDivisor 30 = .ok (.lload 6, 2) := by decide +kernel
theorem md_K_commonDivisor_32 : decode mb_K_commonDivisor 32 = .ok (.lstore 4, 2) := by decide +kernel
theorem md_K_commonDivisor_34 : decode mb_K_commonDivisor 34 = .ok (.lload 9, 2) := by decide +kernel
theorem md_K_commonDivisor_36 : decode mb_K_commonDivisor 36 = .ok (.lstore 6, 2) := by decide +kernel
theorem md_K_commonDivisor_38 : decode mb_K_commonDivisor 38 = .ok (.iinc 8 1, 3) := by decide +kernel
theorem md_K_commonDivisor_41 : decode mb_K_commonDivisor 41 = .ok (.goto (-32), 3) := by decide +kernel
theorem md_K_commonDivisor_44 : decode mb_K_commonDivisor 44 = .ok (.lload 4, 2) := by decide +kernel
theorem md_K_commonDivisor_46 : decode mb_K_commonDivisor 46 = .ok (.lreturn, 1) := by decide +kernel
theorem md_K_count_0 : decode mb_K_count 0 = .ok (.aload_n 0, 1) := by decide +kernel
theorem md_K_count_1 : decode mb_K_count 1 = .ok (.invokevirtual 51, 3) := by decide +kernel
theorem md_K_count_4 : decode mb_K_count 4 = .ok (.aload_n 0, 1) := by decide +kernel
theorem md_K_count_5 : decode mb_K_count 5 = .ok (.getfield 33, 3) := by decide +kernel
theorem md_K_count_8 : decode mb_K_count 8 = .ok (.aload_n 0, 1) := by decide +kernel
theorem md_K_count_9 : decode mb_K_count 9 = .ok (.getfield 19, 3) := by decide +kernel
theorem md_K_count_12 : decode mb_K_count 12 = .ok (.invokevirtual 124, 3) := by decide +kernel
theorem md_K_count_15 : decode mb_K_count 15 = .ok (.ireturn, 1) := by decide +kernel
theorem md_K_place_0 : decode mb_K_place 0 = .ok (.aload_n 0, 1) := by decide +kernel
theorem md_K_place_1 : decode mb_K_place 1 = .ok (.invokevirtual 51, 3) := by decide +kernel
theorem md_K_place_4 : decode mb_K_place 4 = .ok (.aload_n 0, 1) := by decide +kernel
theorem md_K_place_5 : decode mb_K_place 5 = .ok (.getfield 33, 3) := by decide +kernel
theorem md_K_place_8 : decode mb_K_place 8 = .ok (.aload_n 0, 1) := by decide +kernel
theorem md_K_place_9 : decode mb_K_place 9 = .ok (.getfield 19, 3) := by decide +kernel
theorem md_K_place_12 : decode mb_K_place 12 = .ok (.invokevirtual 124, 3) := by decide +kernel
theorem md_K_place_15 : decode mb_K_place 15 = .ok (.istore_n 3, 1) := by decide +kernel
theorem md_K_place_16 : decode mb_K_place 16 = .ok (.iload_n 3, 1) := by decide +kernel
theorem md_K_place_17 : decode mb_K_place 17 = .ok (.iconst (-1), 1) := by decide +kernel
theorem md_K_place_18 : decode mb_K_place 18 = .ok (.if_icmp .ne 13, 3) := by decide +kernel
theorem md_K_place_21 : decode mb_K_place 21 = .ok (.new 128, 3) := by decide +kernel
theorem md_K_place_24 : decode mb_K_place 24 = .ok (.dup, 1) := by decide +kernel
theorem md_K_place_25 : decode mb_K_place 25 = .ok (.ldc 130, 2) := by decide +kernel
theorem md_K_place_27 : decode mb_K_place 27 = .ok (.invokespecial 132, 3) := by decide +kernel
theorem md_K_place_30 : decode mb_K_place 30 = .ok (.athrow, 1) := by decide +kernel
theorem md_K_place_31 : decode mb_K_place 31 = .ok (.iload_n 1, 1) := by decide +kernel
theorem md_K_place_32 : decode mb_K_place 32 = .ok (.ifCond .lt 8, 3) := by decide +kernel
theorem md_K_place_35 : decode mb_K_place 35 = .ok (.iload_n 1, 1) := by decide +kernel
theorem md_K_place_36 : decode mb_K_place 36 = .ok (.iload_n 3, 1) := by decide +kernel
theorem md_K_place_37 : decode mb_K_place 37 = .ok (.if_icmp .lt 13, 3) := by decide +kernel
theorem md_K_place_40 : decode mb_K_place 40 = .ok (.new 66, 3) := by decide +kernel
theorem md_K_place_43 : decode mb_K_place 43 = .ok (.dup, 1) := by decide +kernel
theorem md_K_place_44 : decode mb_K_place 44 = .ok (.ldc 133, 2) := by decide +kernel
theorem md_K_place_46 : decode mb_K_place 46 = .ok (.invokespecial 70, 3) := by decide +kernel
theorem md_K_place_49 : decode mb_K_place 49 = .ok (.athrow, 1) := by decide +kernel
theorem md_K_place_50 : decode mb_K_place 50 = .ok (.iload_n 2, 1) := by decide +kernel
theorem md_K_place_51 : decode mb_K_place 51 = .ok (.invokestatic 111, 3) := by decide +kernel
theorem md_K_place_54 : decode mb_K_place 54 = .ok (.iload_n 3, 1) := by decide +kernel
theorem md_K_place_55 : decode mb_K_place 55 = .ok (.iconst 1, 1) := by decide +kernel
theorem md_K_place_56 : decode mb_K_place 56 = .ok (.if_icmp .ne 18, 3) := by decide +kernel
theorem md_K_place_59 : decode mb_K_place 59 = .ok (.aload_n 0, 1) := by decide +kernel
theorem md_K_place_60 : decode mb_K_place 60 = .ok (.getfield 19, 3) := by decide +kernel
theorem md_K_place_63 : decode mb_K_place 63 = .ok (.getfield 135, 3) := by decide +kernel
theorem md_K_place_66 : decode mb_K_place 66 = .ok (.ldc2_w 139, 3) := by decide +kernel
theorem md_K_place_69 : decode mb_K_place 69 = .ok (.iload_n 2, 1) := by decide +kernel
theorem md_K_place_70 : decode mb_K_place 70 = .ok (.invokestatic 120, 3) := by decide +kernel
theorem md_K_place_73 : decode mb_K_place 73 = .ok (.lreturn, 1) := by decide +kernel
theorem md_K_place_74 : decode mb_K_place 74 = .ok (.aload_n 0, 1) := by decide +kernel
theorem md_K_place_75 : decode mb_K_place 75 = .ok (.getfield 19, 3) := by decide +kernel
theorem md_K_place_78 : decode mb_K_place 78 = .ok (.iload_n 1, 1) := by decide +kernel
theorem md_K_place_79 : decode mb_K_place 79 = .ok (.iload_n 3, 1) := by decide +kernel
theorem md_K_place_80 : decode mb_K_place 80 = .ok (.invokevirtual 141, 3) := by decide +kernel
theorem md_K_place_83 : decode mb_K_place 83 = .ok (.ldc2_w 145, 3) := by decide +kernel
theorem md_K_place_86 : decode mb_K_place 86 = .ok (.iload_n 3, 1) := by decide +kernel
theorem md_K_place_87 : decode mb_K_place 87 = .ok (.iconst 1, 1) := by decide +kernel
theorem md_K_place_88 : decode mb_K_place 88 = .ok (.isub, 1) := by decide +kernel
theorem md_K_place_89 : decode mb_K_place 89 = .ok (.i2l, 1) := by decide +kernel
theorem md_K_place_90 : decode mb_K_place 90 = .ok (.lmul, 1) := by decide +kernel
theorem md_K_place_91 : decode mb_K_place 91 = .ok (.iload_n 2, 1) := by decide +kernel
theorem md_K_place_92 : decode mb_K_place 92 = .ok (.invokestatic 120, 3) := by decide +kernel
theorem md_K_place_95 : decode mb_K_place 95 = .ok (.lreturn, 1) := by decide +kernel
theorem md_K_hole_0 : decode mb_K_hole 0 = .ok (.iload_n 1, 1) := by decide +kernel
theorem md_K_hole_1 : decode mb_K_hole 1 = .ok (.invokestatic 147, 3) := by decide +kernel
theorem md_K_hole_4 : decode mb_K_hole 4 = .ok (.lload_n 2, 1) := by decide +kernel
theorem md_K_hole_5 : decode mb_K_hole 5 = .ok (.ldc 150, 2) := by decide +kernel
theorem md_K_hole_7 : decode mb_K_hole 7 = .ok (.ldc 151, 2) := by decide +kernel
theorem md_K_hole_9 : decode mb_K_hole 9 = .ok (.invokestatic 152, 3) := by decide +kernel
theorem md_K_hole_12 : decode mb_K_hole 12 = .ok (.ifCond .eq 27, 3) := by decide +kernel
theorem md_K_hole_15 : decode mb_K_hole 15 = .ok (.lload 4, 2) := by decide +kernel
theorem md_K_hole_17 : decode mb_K_hole 17 = .ok (.ldc 150, 2) := by decide +kernel
theorem md_K_hole_19 : decode mb_K_hole 19 = .ok (.ldc 151, 2) := by decide +kernel
theorem md_K_hole_21 : decode mb_K_hole 21 = .ok (.invokestatic 152, 3) := by decide +kernel
theorem md_K_hole_24 : decode mb_K_hole 24 = .ok (.ifCond .eq 15, 3) := by decide +kernel
theorem md_K_hole_27 : decode mb_K_hole 27 = .ok (.lload 6, 2) := by decide +kernel
theorem md_K_hole_29 : decode mb_K_hole 29 = .ok (.iconst 0, 1) := by decide +kernel
theorem md_K_hole_30 : decode mb_K_hole 30 = .ok (.sipush 1000, 3) := by decide +kernel
theorem md_K_hole_33 : decode mb_K_hole 33 = .ok (.invokestatic 152, 3) := by decide +kernel
theorem md_K_hole_36 : decode mb_K_hole 36 = .ok (.ifCond .ne 13, 3) := by decide +kernel
theorem md_K_hole_39 : decode mb_K_hole 39 = .ok (.new 77, 3) := by decide +kernel
theorem md_K_hole_42 : decode mb_K_hole 42 = .ok (.dup, 1) := by decide +kernel
theorem md_K_hole_43 : decode mb_K_hole 43 = .ok (.ldc 156, 2) := by decide +kernel
theorem md_K_hole_45 : decode mb_K_hole 45 = .ok (.invokespecial 81, 3) := by decide +kernel
theorem md_K_hole_48 : decode mb_K_hole 48 = .ok (.athrow, 1) := by decide +kernel
theorem md_K_hole_49 : decode mb_K_hole 49 = .ok (.aload_n 0, 1) := by decide +kernel
theorem md_K_hole_50 : decode mb_K_hole 50 = .ok (.getfield 26, 3) := by decide +kernel
theorem md_K_hole_53 : decode mb_K_hole 53 = .ok (.iload_n 1, 1) := by decide +kernel
theorem md_K_hole_54 : decode mb_K_hole 54 = .ok (.lload_n 2, 1) := by decide +kernel
theorem md_K_hole_55 : decode mb_K_hole 55 = .ok (.lload 4, 2) := by decide +kernel
theorem md_K_hole_57 : decode mb_K_hole 57 = .ok (.lload 6, 2) := by decide +kernel
theorem md_K_hole_59 : decode mb_K_hole 59 = .ok (.invokevirtual 158, 3) := by decide +kernel
theorem md_K_hole_62 : decode mb_K_hole 62 = .ok (.ireturn, 1) := by decide +kernel
theorem md_K_needHole_0 : decode mb_K_needHole 0 = .ok (.iload_n 0, 1) := by decide +kernel
theorem md_K_needHole_1 : decode mb_K_needHole 1 = .ok (.ifCond .lt 9, 3) := by decide +kernel
theorem md_K_needHole_4 : decode mb_K_needHole 4 = .ok (.iload_n 0, 1) := by decide +kernel
theorem md_K_needHole_5 : decode mb_K_needHole 5 = .ok (.bipush 16, 2) := by decide +kernel
theorem md_K_needHole_7 : decode mb_K_needHole 7 = .ok (.if_icmp .lt 13, 3) := by decide +kernel
theorem md_K_needHole_10 : decode mb_K_needHole 10 = .ok (.new 66, 3) := by decide +kernel
theorem md_K_needHole_13 : decode mb_K_needHole 13 = .ok (.dup, 1) := by decide +kernel
theorem md_K_needHole_14 : decode mb_K_needHole 14 = .ok (.ldc 194, 2) := by decide +kernel
theorem md_K_needHole_16 : decode mb_K_needHole 16 = .ok (.invokespecial 70, 3) := by decide +kernel
theorem md_K_needHole_19 : decode mb_K_needHole 19 = .ok (.athrow, 1) := by decide +kernel
theorem md_K_needHole_20 : decode mb_K_needHole 20 = .ok (.return_, 1) := by decide +kernel
theorem md_K_meet_0 : decode mb_K_meet 0 = .ok (.iload_n 1, 1) := by decide +kernel
theorem md_K_meet_1 : decode mb_K_meet 1 = .ok (.invokestatic 147, 3) := by decide +kernel
theorem md_K_meet_4 : decode mb_K_meet 4 = .ok (.iload_n 2, 1) := by decide +kernel
theorem md_K_meet_5 : decode mb_K_meet 5 = .ok (.invokestatic 147, 3) := by decide +kernel
theorem md_K_meet_8 : decode mb_K_meet 8 = .ok (.aload_n 0, 1) := by decide +kernel
theorem md_K_meet_9 : decode mb_K_meet 9 = .ok (.getfield 26, 3) := by decide +kernel
theorem md_K_meet_12 : decode mb_K_meet 12 = .ok (.iload_n 1, 1) := by decide +kernel
theorem md_K_meet_13 : decode mb_K_meet 13 = .ok (.iload_n 2, 1) := by decide +kernel
theorem md_K_meet_14 : decode mb_K_meet 14 = .ok (.invokevirtual 161, 3) := by decide +kernel
theorem md_K_meet_17 : decode mb_K_meet 17 = .ok (.ireturn, 1) := by decide +kernel
theorem md_K_pair_0 : decode mb_K_pair 0 = .ok (.iload_n 1, 1) := by decide +kernel
theorem md_K_pair_1 : decode mb_K_pair 1 = .ok (.ifCond .ge 13, 3) := by decide +kernel
theorem md_K_pair_4 : decode mb_K_pair 4 = .ok (.new 66, 3) := by decide +kernel
theorem md_K_pair_7 : decode mb_K_pair 7 = .ok (.dup, 1) := by decide +kernel
theorem md_K_pair_8 : decode mb_K_pair 8 = .ok (.ldc 90, 2) := by decide +kernel
theorem md_K_pair_10 : decode mb_K_pair 10 = .ok (.invokespecial 70, 3) := by decide +kernel
theorem md_K_pair_13 : decode mb_K_pair 13 = .ok (.athrow, 1) := by decide +kernel
theorem md_K_pair_14 : decode mb_K_pair 14 = .ok (.aload_n 0, 1) := by decide +kernel
theorem md_K_pair_15 : decode mb_K_pair 15 = .ok (.getfield 26, 3) := by decide +kernel
theorem md_K_pair_18 : decode mb_K_pair 18 = .ok (.iload_n 1, 1) := by decide +kernel
theorem md_K_pair_19 : decode mb_K_pair 19 = .ok (.invokevirtual 164, 3) := by decide +kernel
theorem md_K_pair_22 : decode mb_K_pair 22 = .ok (.ireturn, 1) := by decide +kernel
theorem md_K_wall_0 : decode mb_K_wall 0 = .ok (.lload_n 1, 1) := by decide +kernel
theorem md_K_wall_1 : decode mb_K_wall 1 = .ok (.sipush (-10000), 3) := by decide +kernel
theorem md_K_wall_4 : decode mb_K_wall 4 = .ok (.sipush 10000, 3) := by decide +kernel
theorem md_K_wall_7 : decode mb_K_wall 7 = .ok (.invokestatic 152, 3) := by decide +kernel
theorem md_K_wall_10 : decode mb_K_wall 10 = .ok (.ifCond .ne 13, 3) := by decide +kernel
theorem md_K_wall_13 : decode mb_K_wall 13 = .ok (.new 77, 3) := by decide +kernel
theorem md_K_wall_16 : decode mb_K_wall 16 = .ok (.dup, 1) := by decide +kernel
theorem md_K_wall_17 : decode mb_K_wall 17 = .ok (.ldc 168, 2) := by decide +kernel
theorem md_K_wall_19 : decode mb_K_wall 19 = .ok (.invokespecial 81, 3) := by decide +kernel
theorem md_K_wall_22 : decode mb_K_wall 22 = .ok (.athrow, 1) := by decide +kernel
theorem md_K_wall_23 : decode mb_K_wall 23 = .ok (.iconst 0, 1) := by decide +kernel
theorem md_K_wall_24 : decode mb_K_wall 24 = .ok (.istore_n 3, 1) := by decide +kernel
theorem md_K_wall_25 : decode mb_K_wall 25 = .ok (.iload_n 3, 1) := by decide +kernel
theorem md_K_wall_26 : decode mb_K_wall 26 = .ok (.bipush 9, 2) := by decide +kernel
theorem md_K_wall_28 : decode mb_K_wall 28 = .ok (.if_icmp .ge 39, 3) := by decide +kernel
theorem md_K_wall_31 : decode mb_K_wall 31 = .ok (.aload_n 0, 1) := by decide +kernel
theorem md_K_wall_32 : decode mb_K_wall 32 = .ok (.getfield 19, 3) := by decide +kernel
theorem md_K_wall_35 : decode mb_K_wall 35 = .ok (.iload_n 3, 1) := by decide +kernel
theorem md_K_wall_36 : decode mb_K_wall 36 = .ok (.invokevirtual 170, 3) := by decide +kernel
theorem md_K_wall_39 : decode mb_K_wall 39 = .ok (.lload_n 1, 1) := by decide +kernel
theorem md_K_wall_40 : decode mb_K_wall 40 = .ok (.lneg, 1) := by decide +kernel
theorem md_K_wall_41 : decode mb_K_wall 41 = .ok (.ldc2_w 174, 3) := by decide +kernel
theorem md_K_wall_44 : decode mb_K_wall 44 = .ok (.lmul, 1) := by decide +kernel
theorem md_K_wall_45 : decode mb_K_wall 45 = .ok (.lcmp, 1) := by decide +kernel
theorem md_K_wall_46 : decode mb_K_wall 46 = .ok (.ifCond .ge 15, 3) := by decide +kernel
theorem md_K_wall_49 : decode mb_K_wall 49 = .ok (.iload_n 3, 1) := by decide +kernel
theorem md_K_wall_50 : decode mb_K_wall 50 = .ok (.ifCond .ne 7, 3) := by decide +kernel
theorem md_K_wall_53 : decode mb_K_wall 53 = .ok (.iconst (-1), 1) := by decide +kernel
theorem md_K_wall_54 : decode mb_K_wall 54 = .ok (.goto 6, 3) := by decide +kernel
theorem md_K_wall_57 : decode mb_K_wall 57 = .ok (.iload_n 3, 1) := by decide +kernel
theorem md_K_wall_58 : decode mb_K_wall 58 = .ok (.iconst 1, 1) := by decide +kernel
theorem md_K_wall_59 : decode mb_K_wall 59 = .ok (.isub, 1) := by decide +kernel
theorem md_K_wall_60 : decode mb_K_wall 60 = .ok (.ireturn, 1) := by decide +kernel
theorem md_K_wall_61 : decode mb_K_wall 61 = .ok (.iinc 3 1, 3) := by decide +kernel
theorem md_K_wall_64 : decode mb_K_wall 64 = .ok (.goto (-39), 3) := by decide +kernel
theorem md_K_wall_67 : decode mb_K_wall 67 = .ok (.bipush 8, 2) := by decide +kernel
theorem md_K_wall_69 : decode mb_K_wall 69 = .ok (.ireturn, 1) := by decide +kernel
theorem md_K_corner_0 : decode mb_K_corner 0 = .ok (.iload_n 1, 1) := by decide +kernel
theorem md_K_corner_1 : decode mb_K_corner 1 = .ok (.ifCond .lt 27, 3) := by decide +kernel
theorem md_K_corner_4 : decode mb_K_corner 4 = .ok (.iload_n 1, 1) := by decide +kernel
theorem md_K_corner_5 : decode mb_K_corner 5 = .ok (.iconst 4, 1) := by decide +kernel
theorem md_K_corner_6 : decode mb_K_corner 6 = .ok (.if_icmp .ge 22, 3) := by decide +kernel
theorem md_K_corner_9 : decode mb_K_corner 9 = .ok (.iload_n 2, 1) := by decide +kernel
theorem md_K_corner_10 : decode mb_K_corner 10 = .ok (.ifCond .lt 18, 3) := by decide +kernel
theorem md_K_corner_13 : decode mb_K_corner 13 = .ok (.iload_n 2, 1) := by decide +kernel
theorem md_K_corner_14 : decode mb_K_corner 14 = .ok (.bipush 9, 2) := by decide +kernel
theorem md_K_corner_16 : decode mb_K_corner 16 = .ok (.if_icmp .ge 12, 3) := by decide +kernel
theorem md_K_corner_19 : decode mb_K_corner 19 = .ok (.iload_n 3, 1) := by decide +kernel
theorem md_K_corner_20 : decode mb_K_corner 20 = .ok (.ifCond .lt 8, 3) := by decide +kernel
theorem md_K_corner_23 : decode mb_K_corner 23 = .ok (.iload_n 3, 1) := by decide +kernel
theorem md_K_corner_24 : decode mb_K_corner 24 = .ok (.iconst 1, 1) := by decide +kernel
theorem md_K_corner_25 : decode mb_K_corner 25 = .ok (.if_icmp .le 13, 3) := by decide +kernel
theorem md_K_corner_28 : decode mb_K_corner 28 = .ok (.new 66, 3) := by decide +kernel
theorem md_K_corner_31 : decode mb_K_corner 31 = .ok (.dup, 1) := by decide +kernel
theorem md_K_corner_32 : decode mb_K_corner 32 = .ok (.ldc 176, 2) := by decide +kernel
theorem md_K_corner_34 : decode mb_K_corner 34 = .ok (.invokespecial 70, 3) := by decide +kernel
theorem md_K_corner_37 : decode mb_K_corner 37 = .ok (.athrow, 1) := by decide +kernel
theorem md_K_corner_38 : decode mb_K_corner 38 = .ok (.iload_n 3, 1) := by decide +kernel
theorem md_K_corner_39 : decode mb_K_corner 39 = .ok (.ifCond .ne 15, 3) := by decide +kernel
theorem md_K_corner_42 : decode mb_K_corner 42 = .ok (.aload_n 0, 1) := by decide +kernel
theorem md_K_corner_43 : decode mb_K_corner 43 = .ok (.getfield 19, 3) := by decide +kernel
theorem md_K_corner_46 : decode mb_K_corner 46 = .ok (.iload_n 1, 1) := by decide +kernel
theorem md_K_corner_47 : decode mb_K_corner 47 = .ok (.iload_n 2, 1) := by decide +kernel
theorem md_K_corner_48 : decode mb_K_corner 48 = .ok (.invokevirtual 178, 3) := by decide +kernel
theorem md_K_corner_51 : decode mb_K_corner 51 = .ok (.goto 12, 3) := by decide +kernel
theorem md_K_corner_54 : decode mb_K_corner 54 = .ok (.aload_n 0, 1) := by decide +kernel
theorem md_K_corner_55 : decode mb_K_corner 55 = .ok (.getfield 19, 3) := by decide +kernel
theorem md_K_corner_58 : decode mb_K_corner 58 = .ok (.iload_n 1, 1) := by decide +kernel
theorem md_K_corner_59 : decode mb_K_corner 59 = .ok (.iload_n 2, 1) := by decide +kernel
theorem md_K_corner_60 : decode mb_K_corner 60 = .ok (.invokevirtual 181, 3) := by decide +kernel
theorem md_K_corner_63 : decode mb_K_corner 63 = .ok (.lreturn, 1) := by decide +kernel
theorem md_K_rows32_0 : decode mb_K_rows32 0 = .ok (.lload_n 1, 1) := by decide +kernel
theorem md_K_rows32_1 : decode mb_K_rows32 1 = .ok (.iconst 1, 1) := by decide +kernel
theorem md_K_rows32_2 : decode mb_K_rows32 2 = .ok (.ldc 151, 2) := by decide +kernel
theorem md_K_rows32_4 : decode mb_K_rows32 4 = .ok (.invokestatic 152, 3) := by decide +kernel
theorem md_K_rows32_7 : decode mb_K_rows32 7 = .ok (.ifCond .eq 8, 3) := by decide +kernel
theorem md_K_rows32_10 : decode mb_K_rows32 10 = .ok (.iload_n 3, 1) := by decide +kernel
theorem md_K_rows32_11 : decode mb_K_rows32 11 = .ok (.iconst (-1), 1) := by decide +kernel
theorem md_K_rows32_12 : decode mb_K_rows32 12 = .ok (.if_icmp .ge 13, 3) := by decide +kernel
theorem md_K_rows32_15 : decode mb_K_rows32 15 = .ok (.new 77, 3) := by decide +kernel
theorem md_K_rows32_18 : decode mb_K_rows32 18 = .ok (.dup, 1) := by decide +kernel
theorem md_K_rows32_19 : decode mb_K_rows32 19 = .ok (.ldc 184, 2) := by decide +kernel
theorem md_K_rows32_21 : decode mb_K_rows32 21 = .ok (.invokespecial 81, 3) := by decide +kernel
theorem md_K_rows32_24 : decode mb_K_rows32 24 = .ok (.athrow, 1) := by decide +kernel
theorem md_K_rows32_25 : decode mb_K_rows32 25 = .ok (.lload_n 1, 1) := by decide +kernel
theorem md_K_rows32_26 : decode mb_K_rows32 26 = .ok (.l2i, 1) := by decide +kernel
theorem md_K_rows32_27 : decode mb_K_rows32 27 = .ok (.bipush 74, 2) := by decide +kernel
theorem md_K_rows32_29 : decode mb_K_rows32 29 = .ok (.isub, 1) := by decide +kernel
theorem md_K_rows32_30 : decode mb_K_rows32 30 = .ok (.istore 4, 2) := by decide +kernel
theorem md_K_rows32_32 : decode mb_K_rows32 32 = .ok (.iload 4, 2) := by decide +kernel
theorem md_K_rows32_34 : decode mb_K_rows32 34 = .ok (.ifCond .ge 7, 3) := by decide +kernel
theorem md_K_rows32_37 : decode mb_K_rows32 37 = .ok (.iconst 0, 1) := by decide +kernel
theorem md_K_rows32_38 : decode mb_K_rows32 38 = .ok (.goto 10, 3) := by decide +kernel
theorem md_K_rows32_41 : decode mb_K_rows32 41 = .ok (.iload 4, 2) := by decide +kernel
theorem md_K_rows32_43 : decode mb_K_rows32 43 = .ok (.bipush 32, 2) := by decide +kernel
theorem md_K_rows32_45 : decode mb_K_rows32 45 = .ok (.idiv, 1) := by decide +kernel
theorem md_K_rows32_46 : decode mb_K_rows32 46 = .ok (.iconst 1, 1) := by decide +kernel
theorem md_K_rows32_47 : decode mb_K_rows32 47 = .ok (.iadd, 1) := by decide +kernel
theorem md_K_rows32_48 : decode mb_K_rows32 48 = .ok (.istore 5, 2) := by decide +kernel
theorem md_K_rows32_50 : decode mb_K_rows32 50 = .ok (.iload_n 3, 1) := by decide +kernel
theorem md_K_rows32_51 : decode mb_K_rows32 51 = .ok (.iconst (-1), 1) := by decide +kernel
theorem md_K_rows32_52 : decode mb_K_rows32 52 = .ok (.if_icmp .ne 6, 3) := by decide +kernel
theorem md_K_rows32_55 : decode mb_K_rows32 55 = .ok (.iload 5, 2) := by decide +kernel
theorem md_K_rows32_57 : decode mb_K_rows32 57 = .ok (.ireturn, 1) := by decide +kernel
theorem md_K_rows32_58 : decode mb_K_rows32 58 = .ok (.iload_n 3, 1) := by decide +kernel
theorem md_K_rows32_59 : decode mb_K_rows32 59 = .ok (.iload 5, 2) := by decide +kernel
theorem md_K_rows32_61 : decode mb_K_rows32 61 = .ok (.if_icmp .ge 13, 3) := by decide +kernel
theorem md_K_rows32_64 : decode mb_K_rows32 64 = .ok (.bipush 37, 2) := by decide +kernel
theorem md_K_rows32_66 : decode mb_K_rows32 66 = .ok (.bipush 32, 2) := by decide +kernel
theorem md_K_rows32_68 : decode mb_K_rows32 68 = .ok (.iload_n 3, 1) := by decide +kernel
theorem md_K_rows32_69 : decode mb_K_rows32 69 = .ok (.imul, 1) := by decide +kernel
theorem md_K_rows32_70 : decode mb_K_rows32 70 = .ok (.iadd, 1) := by decide +kernel
theorem md_K_rows32_71 : decode mb_K_rows32 71 = .ok (.goto 4, 3) := by decide +kernel
theorem md_K_rows32_74 : decode mb_K_rows32 74 = .ok (.iconst (-1), 1) := by decide +kernel
theorem md_K_rows32_75 : decode mb_K_rows32 75 = .ok (.ireturn, 1) := by decide +kernel
