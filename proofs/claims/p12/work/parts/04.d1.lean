theorem md_S_init_0 : decode mb_S_init 0 = .ok (.aload_n 0, 1) := by decide +kernel
theorem md_S_init_1 : decode mb_S_init 1 = .ok (.invokespecial 3, 3) := by decide +kernel
theorem md_S_init_4 : decode mb_S_init 4 = .ok (.aload_n 0, 1) := by decide +kernel
theorem md_S_init_5 : decode mb_S_init 5 = .ok (.sipush 300, 3) := by decide +kernel
theorem md_S_init_8 : decode mb_S_init 8 = .ok (.newarray .char, 2) := by decide +kernel
theorem md_S_init_10 : decode mb_S_init 10 = .ok (.putfield 9, 3) := by decide +kernel
theorem md_S_init_13 : decode mb_S_init 13 = .ok (.return_, 1) := by decide +kernel
theorem md_D_init_0 : decode mb_D_init 0 = .ok (.aload_n 0, 1) := by decide +kernel
theorem md_D_init_1 : decode mb_D_init 1 = .ok (.invokespecial 3, 3) := by decide +kernel
theorem md_D_init_4 : decode mb_D_init 4 = .ok (.aload_n 0, 1) := by decide +kernel
theorem md_D_init_5 : decode mb_D_init 5 = .ok (.ldc2_w 9, 3) := by decide +kernel
theorem md_D_init_8 : decode mb_D_init 8 = .ok (.putfield 11, 3) := by decide +kernel
theorem md_D_init_11 : decode mb_D_init 11 = .ok (.aload_n 0, 1) := by decide +kernel
theorem md_D_init_12 : decode mb_D_init 12 = .ok (.ldc2_w 17, 3) := by decide +kernel
theorem md_D_init_15 : decode mb_D_init 15 = .ok (.putfield 19, 3) := by decide +kernel
theorem md_D_init_18 : decode mb_D_init 18 = .ok (.aload_n 0, 1) := by decide +kernel
theorem md_D_init_19 : decode mb_D_init 19 = .ok (.ldc2_w 22, 3) := by decide +kernel
theorem md_D_init_22 : decode mb_D_init 22 = .ok (.putfield 24, 3) := by decide +kernel
theorem md_D_init_25 : decode mb_D_init 25 = .ok (.aload_n 0, 1) := by decide +kernel
theorem md_D_init_26 : decode mb_D_init 26 = .ok (.ldc2_w 17, 3) := by decide +kernel
theorem md_D_init_29 : decode mb_D_init 29 = .ok (.putfield 27, 3) := by decide +kernel
theorem md_D_init_32 : decode mb_D_init 32 = .ok (.return_, 1) := by decide +kernel
theorem md_H_init_0 : decode mb_H_init 0 = .ok (.aload_n 0, 1) := by decide +kernel
theorem md_H_init_1 : decode mb_H_init 1 = .ok (.invokespecial 3, 3) := by decide +kernel
theorem md_H_init_4 : decode mb_H_init 4 = .ok (.aload_n 0, 1) := by decide +kernel
theorem md_H_init_5 : decode mb_H_init 5 = .ok (.bipush 16, 2) := by decide +kernel
theorem md_H_init_7 : decode mb_H_init 7 = .ok (.newarray .int, 2) := by decide +kernel
theorem md_H_init_9 : decode mb_H_init 9 = .ok (.putfield 9, 3) := by decide +kernel
theorem md_H_init_12 : decode mb_H_init 12 = .ok (.aload_n 0, 1) := by decide +kernel
theorem md_H_init_13 : decode mb_H_init 13 = .ok (.bipush 16, 2) := by decide +kernel
theorem md_H_init_15 : decode mb_H_init 15 = .ok (.newarray .int, 2) := by decide +kernel
theorem md_H_init_17 : decode mb_H_init 17 = .ok (.putfield 15, 3) := by decide +kernel
theorem md_H_init_20 : decode mb_H_init 20 = .ok (.aload_n 0, 1) := by decide +kernel
theorem md_H_init_21 : decode mb_H_init 21 = .ok (.bipush 16, 2) := by decide +kernel
theorem md_H_init_23 : decode mb_H_init 23 = .ok (.newarray .int, 2) := by decide +kernel
theorem md_H_init_25 : decode mb_H_init 25 = .ok (.putfield 18, 3) := by decide +kernel
theorem md_H_init_28 : decode mb_H_init 28 = .ok (.return_, 1) := by decide +kernel
theorem md_S_add_0 : decode mb_S_add 0 = .ok (.iload_n 1, 1) := by decide +kernel
theorem md_S_add_1 : decode mb_S_add 1 = .ok (.bipush 33, 2) := by decide +kernel
theorem md_S_add_3 : decode mb_S_add 3 = .ok (.if_icmp .lt 19, 3) := by decide +kernel
theorem md_S_add_6 : decode mb_S_add 6 = .ok (.iload_n 1, 1) := by decide +kernel
theorem md_S_add_7 : decode mb_S_add 7 = .ok (.bipush 126, 2) := by decide +kernel
theorem md_S_add_9 : decode mb_S_add 9 = .ok (.if_icmp .gt 13, 3) := by decide +kernel
theorem md_S_add_12 : decode mb_S_add 12 = .ok (.aload_n 0, 1) := by decide +kernel
theorem md_S_add_13 : decode mb_S_add 13 = .ok (.getfield 15, 3) := by decide +kernel
theorem md_S_add_16 : decode mb_S_add 16 = .ok (.sipush 300, 3) := by decide +kernel
theorem md_S_add_19 : decode mb_S_add 19 = .ok (.if_icmp .lt 5, 3) := by decide +kernel
theorem md_S_add_22 : decode mb_S_add 22 = .ok (.iconst 0, 1) := by decide +kernel
theorem md_S_add_23 : decode mb_S_add 23 = .ok (.ireturn, 1) := by decide +kernel
theorem md_S_add_24 : decode mb_S_add 24 = .ok (.aload_n 0, 1) := by decide +kernel
theorem md_S_add_25 : decode mb_S_add 25 = .ok (.getfield 9, 3) := by decide +kernel
theorem md_S_add_28 : decode mb_S_add 28 = .ok (.aload_n 0, 1) := by decide +kernel
theorem md_S_add_29 : decode mb_S_add 29 = .ok (.getfield 15, 3) := by decide +kernel
theorem md_S_add_32 : decode mb_S_add 32 = .ok (.iload_n 1, 1) := by decide +kernel
theorem md_S_add_33 : decode mb_S_add 33 = .ok (.i2c, 1) := by decide +kernel
theorem md_S_add_34 : decode mb_S_add 34 = .ok (.castore, 1) := by decide +kernel
theorem md_S_add_35 : decode mb_S_add 35 = .ok (.aload_n 0, 1) := by decide +kernel
theorem md_S_add_36 : decode mb_S_add 36 = .ok (.dup, 1) := by decide +kernel
theorem md_S_add_37 : decode mb_S_add 37 = .ok (.getfield 15, 3) := by decide +kernel
theorem md_S_add_40 : decode mb_S_add 40 = .ok (.iconst 1, 1) := by decide +kernel
theorem md_S_add_41 : decode mb_S_add 41 = .ok (.iadd, 1) := by decide +kernel
theorem md_S_add_42 : decode mb_S_add 42 = .ok (.putfield 15, 3) := by decide +kernel
theorem md_S_add_45 : decode mb_S_add 45 = .ok (.iconst 1, 1) := by decide +kernel
theorem md_S_add_46 : decode mb_S_add 46 = .ok (.ireturn, 1) := by decide +kernel
theorem md_S_endsAt_0 : decode mb_S_endsAt 0 = .ok (.iload_n 1, 1) := by decide +kernel
theorem md_S_endsAt_1 : decode mb_S_endsAt 1 = .ok (.aload_n 0, 1) := by decide +kernel
theorem md_S_endsAt_2 : decode mb_S_endsAt 2 = .ok (.getfield 15, 3) := by decide +kernel
theorem md_S_endsAt_5 : decode mb_S_endsAt 5 = .ok (.if_icmp .ne 7, 3) := by decide +kernel
theorem md_S_endsAt_8 : decode mb_S_endsAt 8 = .ok (.iconst 1, 1) := by decide +kernel
theorem md_S_endsAt_9 : decode mb_S_endsAt 9 = .ok (.goto 4, 3) := by decide +kernel
theorem md_S_endsAt_12 : decode mb_S_endsAt 12 = .ok (.iconst 0, 1) := by decide +kernel
theorem md_S_endsAt_13 : decode mb_S_endsAt 13 = .ok (.ireturn, 1) := by decide +kernel
theorem md_S_at_0 : decode mb_S_at 0 = .ok (.iload_n 1, 1) := by decide +kernel
theorem md_S_at_1 : decode mb_S_at 1 = .ok (.ifCond .lt 20, 3) := by decide +kernel
theorem md_S_at_4 : decode mb_S_at 4 = .ok (.iload_n 1, 1) := by decide +kernel
theorem md_S_at_5 : decode mb_S_at 5 = .ok (.aload_n 0, 1) := by decide +kernel
theorem md_S_at_6 : decode mb_S_at 6 = .ok (.getfield 15, 3) := by decide +kernel
theorem md_S_at_9 : decode mb_S_at 9 = .ok (.if_icmp .ge 12, 3) := by decide +kernel
theorem md_S_at_12 : decode mb_S_at 12 = .ok (.aload_n 0, 1) := by decide +kernel
theorem md_S_at_13 : decode mb_S_at 13 = .ok (.getfield 9, 3) := by decide +kernel
theorem md_S_at_16 : decode mb_S_at 16 = .ok (.iload_n 1, 1) := by decide +kernel
theorem md_S_at_17 : decode mb_S_at 17 = .ok (.caload, 1) := by decide +kernel
theorem md_S_at_18 : decode mb_S_at 18 = .ok (.goto 4, 3) := by decide +kernel
theorem md_S_at_21 : decode mb_S_at 21 = .ok (.iconst 0, 1) := by decide +kernel
theorem md_S_at_22 : decode mb_S_at 22 = .ok (.ireturn, 1) := by decide +kernel
theorem md_S_clear_0 : decode mb_S_clear 0 = .ok (.aload_n 0, 1) := by decide +kernel
theorem md_S_clear_1 : decode mb_S_clear 1 = .ok (.iconst 0, 1) := by decide +kernel
theorem md_S_clear_2 : decode mb_S_clear 2 = .ok (.putfield 15, 3) := by decide +kernel
theorem md_S_clear_5 : decode mb_S_clear 5 = .ok (.return_, 1) := by decide +kernel
theorem md_D_change_0 : decode mb_D_change 0 = .ok (.aload_n 0, 1) := by decide +kernel
theorem md_D_change_1 : decode mb_D_change 1 = .ok (.getfield 11, 3) := by decide +kernel
theorem md_D_change_4 : decode mb_D_change 4 = .ok (.lload_n 1, 1) := by decide +kernel
theorem md_D_change_5 : decode mb_D_change 5 = .ok (.lcmp, 1) := by decide +kernel
theorem md_D_change_6 : decode mb_D_change 6 = .ok (.ifCond .ne 32, 3) := by decide +kernel
theorem md_D_change_9 : decode mb_D_change 9 = .ok (.aload_n 0, 1) := by decide +kernel
theorem md_D_change_10 : decode mb_D_change 10 = .ok (.getfield 19, 3) := by decide +kernel
theorem md_D_change_13 : decode mb_D_change 13 = .ok (.lload_n 3, 1) := by decide +kernel
theorem md_D_change_14 : decode mb_D_change 14 = .ok (.lcmp, 1) := by decide +kernel
theorem md_D_change_15 : decode mb_D_change 15 = .ok (.ifCond .ne 23, 3) := by decide +kernel
theorem md_D_change_18 : decode mb_D_change 18 = .ok (.aload_n 0, 1) := by decide +kernel
theorem md_D_change_19 : decode mb_D_change 19 = .ok (.getfield 24, 3) := by decide +kernel
theorem md_D_change_22 : decode mb_D_change 22 = .ok (.lload 5, 2) := by decide +kernel
theorem md_D_change_24 : decode mb_D_change 24 = .ok (.lcmp, 1) := by decide +kernel
theorem md_D_change_25 : decode mb_D_change 25 = .ok (.ifCond .ne 13, 3) := by decide +kernel
theorem md_D_change_28 : decode mb_D_change 28 = .ok (.aload_n 0, 1) := by decide +kernel
theorem md_D_change_29 : decode mb_D_change 29 = .ok (.getfield 27, 3) := by decide +kernel
theorem md_D_change_32 : decode mb_D_change 32 = .ok (.lload 7, 2) := by decide +kernel
theorem md_D_change_34 : decode mb_D_change 34 = .ok (.lcmp, 1) := by decide +kernel
theorem md_D_change_35 : decode mb_D_change 35 = .ok (.ifCond .eq 7, 3) := by decide +kernel
theorem md_D_change_38 : decode mb_D_change 38 = .ok (.iconst 1, 1) := by decide +kernel
theorem md_D_change_39 : decode mb_D_change 39 = .ok (.goto 4, 3) := by decide +kernel
theorem md_D_change_42 : decode mb_D_change 42 = .ok (.iconst 0, 1) := by decide +kernel
theorem md_D_change_43 : decode mb_D_change 43 = .ok (.istore 9, 2) := by decide +kernel
theorem md_D_change_45 : decode mb_D_change 45 = .ok (.aload_n 0, 1) := by decide +kernel
theorem md_D_change_46 : decode mb_D_change 46 = .ok (.lload_n 1, 1) := by decide +kernel
theorem md_D_change_47 : decode mb_D_change 47 = .ok (.putfield 11, 3) := by decide +kernel
theorem md_D_change_50 : decode mb_D_change 50 = .ok (.aload_n 0, 1) := by decide +kernel
theorem md_D_change_51 : decode mb_D_change 51 = .ok (.lload_n 3, 1) := by decide +kernel
theorem md_D_change_52 : decode mb_D_change 52 = .ok (.putfield 19, 3) := by decide +kernel
theorem md_D_change_55 : decode mb_D_change 55 = .ok (.aload_n 0, 1) := by decide +kernel
theorem md_D_change_56 : decode mb_D_change 56 = .ok (.lload 5, 2) := by decide +kernel
theorem md_D_change_58 : decode mb_D_change 58 = .ok (.putfield 24, 3) := by decide +kernel
theorem md_D_change_61 : decode mb_D_change 61 = .ok (.aload_n 0, 1) := by decide +kernel
theorem md_D_change_62 : decode mb_D_change 62 = .ok (.lload 7, 2) := by decide +kernel
theorem md_D_change_64 : decode mb_D_change 64 = .ok (.putfield 27, 3) := by decide +kernel
theorem md_D_change_67 : decode mb_D_change 67 = .ok (.iload 9, 2) := by decide +kernel
theorem md_D_change_69 : decode mb_D_change 69 = .ok (.ireturn, 1) := by decide +kernel
theorem md_D_millionWeights_0 : decode mb_D_millionWeights 0 = .ok (.aload_n 0, 1) := by decide +kernel
theorem md_D_millionWeights_1 : decode mb_D_millionWeights 1 = .ok (.getfield 11, 3) := by decide +kernel
theorem md_D_millionWeights_4 : decode mb_D_millionWeights 4 = .ok (.aload_n 0, 1) := by decide +kernel
theorem md_D_millionWeights_5 : decode mb_D_millionWeights 5 = .ok (.getfield 19, 3) := by decide +kernel
theorem md_D_millionWeights_8 : decode mb_D_millionWeights 8 = .ok (.lmul, 1) := by decide +kernel
theorem md_D_millionWeights_9 : decode mb_D_millionWeights 9 = .ok (.aload_n 0, 1) := by decide +kernel
theorem md_D_millionWeights_10 : decode mb_D_millionWeights 10 = .ok (.getfield 24, 3) := by decide +kernel
theorem md_D_millionWeights_13 : decode mb_D_millionWeights 13 = .ok (.lmul, 1) := by decide +kernel
theorem md_D_millionWeights_14 : decode mb_D_millionWeights 14 = .ok (.aload_n 0, 1) := by decide +kernel
theorem md_D_millionWeights_15 : decode mb_D_millionWeights 15 = .ok (.getfield 27, 3) := by decide +kernel
theorem md_D_millionWeights_18 : decode mb_D_millionWeights 18 = .ok (.lmul, 1) := by decide +kernel
theorem md_D_millionWeights_19 : decode mb_D_millionWeights 19 = .ok (.lreturn, 1) := by decide +kernel
theorem md_D_placeNumerator_0 : decode mb_D_placeNumerator 0 = .ok (.aload_n 0, 1) := by decide +kernel
theorem md_D_placeNumerator_1 : decode mb_D_placeNumerator 1 = .ok (.getfield 19, 3) := by decide +kernel
theorem md_D_placeNumerator_4 : decode mb_D_placeNumerator 4 = .ok (.ldc2_w 30, 3) := by decide +kernel
theorem md_D_placeNumerator_7 : decode mb_D_placeNumerator 7 = .ok (.invokestatic 32, 3) := by decide +kernel
theorem md_D_placeNumerator_10 : decode mb_D_placeNumerator 10 = .ok (.lstore_n 3, 1) := by decide +kernel
theorem md_D_placeNumerator_11 : decode mb_D_placeNumerator 11 = .ok (.lload_n 3, 1) := by decide +kernel
theorem md_D_placeNumerator_12 : decode mb_D_placeNumerator 12 = .ok (.iload_n 2, 1) := by decide +kernel
theorem md_D_placeNumerator_13 : decode mb_D_placeNumerator 13 = .ok (.iconst 1, 1) := by decide +kernel
theorem md_D_placeNumerator_14 : decode mb_D_placeNumerator 14 = .ok (.isub, 1) := by decide +kernel
theorem md_D_placeNumerator_15 : decode mb_D_placeNumerator 15 = .ok (.i2l, 1) := by decide +kernel
theorem md_D_placeNumerator_16 : decode mb_D_placeNumerator 16 = .ok (.lmul, 1) := by decide +kernel
theorem md_D_placeNumerator_17 : decode mb_D_placeNumerator 17 = .ok (.iload_n 1, 1) := by decide +kernel
theorem md_D_placeNumerator_18 : decode mb_D_placeNumerator 18 = .ok (.i2l, 1) := by decide +kernel
theorem md_D_placeNumerator_19 : decode mb_D_placeNumerator 19 = .ok (.ldc2_w 38, 3) := by decide +kernel
theorem md_D_placeNumerator_22 : decode mb_D_placeNumerator 22 = .ok (.aload_n 0, 1) := by decide +kernel
theorem md_D_placeNumerator_23 : decode mb_D_placeNumerator 23 = .ok (.getfield 19, 3) := by decide +kernel
theorem md_D_placeNumerator_26 : decode mb_D_placeNumerator 26 = .ok (.lmul, 1) := by decide +kernel
theorem md_D_placeNumerator_27 : decode mb_D_placeNumerator 27 = .ok (.ldc2_w 40, 3) := by decide +kernel
theorem md_D_placeNumerator_30 : decode mb_D_placeNumerator 30 = .ok (.lload_n 3, 1) := by decide +kernel
theorem md_D_placeNumerator_31 : decode mb_D_placeNumerator 31 = .ok (.lmul, 1) := by decide +kernel
theorem md_D_placeNumerator_32 : decode mb_D_placeNumerator 32 = .ok (.lsub, 1) := by decide +kernel
theorem md_D_placeNumerator_33 : decode mb_D_placeNumerator 33 = .ok (.lmul, 1) := by decide +kernel
theorem md_D_placeNumerator_34 : decode mb_D_placeNumerator 34 = .ok (.ladd, 1) := by decide +kernel
theorem md_D_placeNumerator_35 : decode mb_D_placeNumerator 35 = .ok (.lreturn, 1) := by decide +kernel
theorem md_H_change_0 : decode mb_H_change 0 = .ok (.lload 6, 2) := by decide +kernel
theorem md_H_change_2 : decode mb_H_change 2 = .ok (.lconst 0, 1) := by decide +kernel
theorem md_H_change_3 : decode mb_H_change 3 = .ok (.lcmp, 1) := by decide +kernel
theorem md_H_change_4 : decode mb_H_change 4 = .ok (.ifCond .ne 7, 3) := by decide +kernel
theorem md_H_change_7 : decode mb_H_change 7 = .ok (.iconst 0, 1) := by decide +kernel
theorem md_H_change_8 : decode mb_H_change 8 = .ok (.goto 5, 3) := by decide +kernel
theorem md_H_change_11 : decode mb_H_change 11 = .ok (.lload_n 2, 1) := by decide +kernel
theorem md_H_change_12 : decode mb_H_change 12 = .ok (.l2i, 1) := by decide +kernel
theorem md_H_change_13 : decode mb_H_change 13 = .ok (.istore 8, 2) := by decide +kernel
theorem md_H_change_15 : decode mb_H_change 15 = .ok (.lload 6, 2) := by decide +kernel
theorem md_H_change_17 : decode mb_H_change 17 = .ok (.lconst 0, 1) := by decide +kernel
theorem md_H_change_18 : decode mb_H_change 18 = .ok (.lcmp, 1) := by decide +kernel
theorem md_H_change_19 : decode mb_H_change 19 = .ok (.ifCond .ne 7, 3) := by decide +kernel
theorem md_H_change_22 : decode mb_H_change 22 = .ok (.iconst 0, 1) := by decide +kernel
theorem md_H_change_23 : decode mb_H_change 23 = .ok (.goto 6, 3) := by decide +kernel
theorem md_H_change_26 : decode mb_H_change 26 = .ok (.lload 4, 2) := by decide +kernel
theorem md_H_change_28 : decode mb_H_change 28 = .ok (.l2i, 1) := by decide +kernel
theorem md_H_change_29 : decode mb_H_change 29 = .ok (.istore 9, 2) := by decide +kernel
theorem md_H_change_31 : decode mb_H_change 31 = .ok (.aload_n 0, 1) := by decide +kernel
theorem md_H_change_32 : decode mb_H_change 32 = .ok (.getfield 9, 3) := by decide +kernel
theorem md_H_change_35 : decode mb_H_change 35 = .ok (.iload_n 1, 1) := by decide +kernel
theorem md_H_change_36 : decode mb_H_change 36 = .ok (.iaload, 1) := by decide +kernel
theorem md_H_change_37 : decode mb_H_change 37 = .ok (.iload 8, 2) := by decide +kernel
theorem md_H_change_39 : decode mb_H_change 39 = .ok (.if_icmp .ne 27, 3) := by decide +kernel
theorem md_H_change_42 : decode mb_H_change 42 = .ok (.aload_n 0, 1) := by decide +kernel
theorem md_H_change_43 : decode mb_H_change 43 = .ok (.getfield 15, 3) := by decide +kernel
theorem md_H_change_46 : decode mb_H_change 46 = .ok (.iload_n 1, 1) := by decide +kernel
theorem md_H_change_47 : decode mb_H_change 47 = .ok (.iaload, 1) := by decide +kernel
theorem md_H_change_48 : decode mb_H_change 48 = .ok (.iload 9, 2) := by decide +kernel
theorem md_H_change_50 : decode mb_H_change 50 = .ok (.if_icmp .ne 16, 3) := by decide +kernel
theorem md_H_change_53 : decode mb_H_change 53 = .ok (.aload_n 0, 1) := by decide +kernel
theorem md_H_change_54 : decode mb_H_change 54 = .ok (.getfield 18, 3) := by decide +kernel
theorem md_H_change_57 : decode mb_H_change 57 = .ok (.iload_n 1, 1) := by decide +kernel
theorem md_H_change_58 : decode mb_H_change 58 = .ok (.iaload, 1) := by decide +kernel
theorem md_H_change_59 : decode mb_H_change 59 = .ok (.i2l, 1) := by decide +kernel
theorem md_H_change_60 : decode mb_H_change 60 = .ok (.lload 6, 2) := by decide +kernel
theorem md_H_change_62 : decode mb_H_change 62 = .ok (.lcmp, 1) := by decide +kernel
theorem md_H_change_63 : decode mb_H_change 63 = .ok (.ifCond .eq 7, 3) := by decide +kernel
theorem md_H_change_66 : decode mb_H_change 66 = .ok (.iconst 1, 1) := by decide +kernel
theorem md_H_change_67 : decode mb_H_change 67 = .ok (.goto 4, 3) := by decide +kernel
theorem md_H_change_70 : decode mb_H_change 70 = .ok (.iconst 0, 1) := by decide +kernel
theorem md_H_change_71 : decode mb_H_change 71 = .ok (.istore 10, 2) := by decide +kernel
theorem md_H_change_73 : decode mb_H_change 73 = .ok (.aload_n 0, 1) := by decide +kernel
theorem md_H_change_74 : decode mb_H_change 74 = .ok (.getfield 9, 3) := by decide +kernel
theorem md_H_change_77 : decode mb_H_change 77 = .ok (.iload_n 1, 1) := by decide +kernel
theorem md_H_change_78 : decode mb_H_change 78 = .ok (.iload 8, 2) := by decide +kernel
theorem md_H_change_80 : decode mb_H_change 80 = .ok (.iastore, 1) := by decide +kernel
theorem md_H_change_81 : decode mb_H_change 81 = .ok (.aload_n 0, 1) := by decide +kernel
theorem md_H_change_82 : decode mb_H_change 82 = .ok (.getfield 15, 3) := by decide +kernel
theorem md_H_change_85 : decode mb_H_change 85 = .ok (.iload_n 1, 1) := by decide +kernel
theorem md_H_change_86 : decode mb_H_change 86 = .ok (.iload 9, 2) := by decide +kernel
theorem md_H_change_88 : decode mb_H_change 88 = .ok (.iastore, 1) := by decide +kernel
theorem md_H_change_89 : decode mb_H_change 89 = .ok (.aload_n 0, 1) := by decide +kernel
theorem md_H_change_90 : decode mb_H_change 90 = .ok (.getfield 18, 3) := by decide +kernel
theorem md_H_change_93 : decode mb_H_change 93 = .ok (.iload_n 1, 1) := by decide +kernel
theorem md_H_change_94 : decode mb_H_change 94 = .ok (.lload 6, 2) := by decide +kernel
theorem md_H_change_96 : decode mb_H_change 96 = .ok (.l2i, 1) := by decide +kernel
theorem md_H_change_97 : decode mb_H_change 97 = .ok (.iastore, 1) := by decide +kernel
theorem md_H_change_98 : decode mb_H_change 98 = .ok (.iload 10, 2) := by decide +kernel
theorem md_H_change_100 : decode mb_H_change 100 = .ok (.ireturn, 1) := by decide +kernel
theorem md_H_overlap_0 : decode mb_H_overlap 0 = .ok (.iload_n 1, 1) := by decide +kernel
theorem md_H_overlap_1 : decode mb_H_overlap 1 = .ok (.iload_n 2, 1) := by decide +kernel
theorem md_H_overlap_2 : decode mb_H_overlap 2 = .ok (.if_icmp .eq 21, 3) := by decide +kernel
theorem md_H_overlap_5 : decode mb_H_overlap 5 = .ok (.aload_n 0, 1) := by decide +kernel
theorem md_H_overlap_6 : decode mb_H_overlap 6 = .ok (.getfield 18, 3) := by decide +kernel
theorem md_H_overlap_9 : decode mb_H_overlap 9 = .ok (.iload_n 1, 1) := by decide +kernel
theorem md_H_overlap_10 : decode mb_H_overlap 10 = .ok (.iaload, 1) := by decide +kernel
theorem md_H_overlap_11 : decode mb_H_overlap 11 = .ok (.ifCond .eq 12, 3) := by decide +kernel
theorem md_H_overlap_14 : decode mb_H_overlap 14 = .ok (.aload_n 0, 1) := by decide +kernel
theorem md_H_overlap_15 : decode mb_H_overlap 15 = .ok (.getfield 18, 3) := by decide +kernel
theorem md_H_overlap_18 : decode mb_H_overlap 18 = .ok (.iload_n 2, 1) := by decide +kernel
theorem md_H_overlap_19 : decode mb_H_overlap 19 = .ok (.iaload, 1) := by decide +kernel
theorem md_H_overlap_20 : decode mb_H_overlap 20 = .ok (.ifCond .ne 5, 3) := by decide +kernel
theorem md_H_overlap_23 : decode mb_H_overlap 23 = .ok (.iconst 0, 1) := by decide +kernel
theorem md_H_overlap_24 : decode mb_H_overlap 24 = .ok (.ireturn, 1) := by decide +kernel
theorem md_H_overlap_25 : decode mb_H_overlap 25 = .ok (.aload_n 0, 1) := by decide +kernel
theorem md_H_overlap_26 : decode mb_H_overlap 26 = .ok (.getfield 9, 3) := by decide +kernel
theorem md_H_overlap_29 : decode mb_H_overlap 29 = .ok (.iload_n 1, 1) := by decide +kernel
theorem md_H_overlap_30 : decode mb_H_overlap 30 = .ok (.iaload, 1) := by decide +kernel
theorem md_H_overlap_31 : decode mb_H_overlap 31 = .ok (.i2l, 1) := by decide +kernel
theorem md_H_overlap_32 : decode mb_H_overlap 32 = .ok (.aload_n 0, 1) := by decide +kernel
theorem md_H_overlap_33 : decode mb_H_overlap 33 = .ok (.getfield 9, 3) := by decide +kernel
theorem md_H_overlap_36 : decode mb_H_overlap 36 = .ok (.iload_n 2, 1) := by decide +kernel
theorem md_H_overlap_37 : decode mb_H_overlap 37 = .ok (.iaload, 1) := by decide +kernel
theorem md_H_overlap_38 : decode mb_H_overlap 38 = .ok (.i2l, 1) := by decide +kernel
theorem md_H_overlap_39 : decode mb_H_overlap 39 = .ok (.lsub, 1) := by decide +kernel
theorem md_H_overlap_40 : decode mb_H_overlap 40 = .ok (.lstore_n 3, 1) := by decide +kernel
theorem md_H_overlap_41 : decode mb_H_overlap 41 = .ok (.aload_n 0, 1) := by decide +kernel
theorem md_H_overlap_42 : decode mb_H_overlap 42 = .ok (.getfield 15, 3) := by decide +kernel
theorem md_H_overlap_45 : decode mb_H_overlap 45 = .ok (.iload_n 1, 1) := by decide +kernel
theorem md_H_overlap_46 : decode mb_H_overlap 46 = .ok (.iaload, 1) := by decide +kernel
theorem md_H_overlap_47 : decode mb_H_overlap 47 = .ok (.i2l, 1) := by decide +kernel
theorem md_H_overlap_48 : decode mb_H_overlap 48 = .ok (.aload_n 0, 1) := by decide +kernel
theorem md_H_overlap_49 : decode mb_H_overlap 49 = .ok (.getfield 15, 3) := by decide +kernel
theorem md_H_overlap_52 : decode mb_H_overlap 52 = .ok (.iload_n 2, 1) := by decide +kernel
theorem md_H_overlap_53 : decode mb_H_overlap 53 = .ok (.iaload, 1) := by decide +kernel
theorem md_H_overlap_54 : decode mb_H_overlap 54 = .ok (.i2l, 1) := by decide +kernel
theorem md_H_overlap_55 : decode mb_H_overlap 55 = .ok (.lsub, 1) := by decide +kernel
theorem md_H_overlap_56 : decode mb_H_overlap 56 = .ok (.lstore 5, 2) := by decide +kernel
theorem md_H_overlap_58 : decode mb_H_overlap 58 = .ok (.aload_n 0, 1) := by decide +kernel
theorem md_H_overlap_59 : decode mb_H_overlap 59 = .ok (.getfield 18, 3) := by decide +kernel
theorem md_H_overlap_62 : decode mb_H_overlap 62 = .ok (.iload_n 1, 1) := by decide +kernel
theorem md_H_overlap_63 : decode mb_H_overlap 63 = .ok (.iaload, 1) := by decide +kernel
theorem md_H_overlap_64 : decode mb_H_overlap 64 = .ok (.i2l, 1) := by decide +kernel
theorem md_H_overlap_65 : decode mb_H_overlap 65 = .ok (.aload_n 0, 1) := by decide +kernel
theorem md_H_overlap_66 : decode mb_H_overlap 66 = .ok (.getfield 18, 3) := by decide +kernel
theorem md_H_overlap_69 : decode mb_H_overlap 69 = .ok (.iload_n 2, 1) := by decide +kernel
theorem md_H_overlap_70 : decode mb_H_overlap 70 = .ok (.iaload, 1) := by decide +kernel
theorem md_H_overlap_71 : decode mb_H_overlap 71 = .ok (.i2l, 1) := by decide +kernel
theorem md_H_overlap_72 : decode mb_H_overlap 72 = .ok (.ladd, 1) := by decide +kernel
theorem md_H_overlap_73 : decode mb_H_overlap 73 = .ok (.lstore 7, 2) := by decide +kernel
theorem md_H_overlap_75 : decode mb_H_overlap 75 = .ok (.lload_n 3, 1) := by decide +kernel
theorem md_H_overlap_76 : decode mb_H_overlap 76 = .ok (.lload_n 3, 1) := by decide +kernel
theorem md_H_overlap_77 : decode mb_H_overlap 77 = .ok (.lmul, 1) := by decide +kernel
theorem md_H_overlap_78 : decode mb_H_overlap 78 = .ok (.lload 5, 2) := by decide +kernel
theorem md_H_overlap_80 : decode mb_H_overlap 80 = .ok (.lload 5, 2) := by decide +kernel
theorem md_H_overlap_82 : decode mb_H_overlap 82 = .ok (.lmul, 1) := by decide +kernel
theorem md_H_overlap_83 : decode mb_H_overlap 83 = .ok (.ladd, 1) := by decide +kernel
theorem md_H_overlap_84 : decode mb_H_overlap 84 = .ok (.lload 7, 2) := by decide +kernel
theorem md_H_overlap_86 : decode mb_H_overlap 86 = .ok (.lload 7, 2) := by decide +kernel
theorem md_H_overlap_88 : decode mb_H_overlap 88 = .ok (.lmul, 1) := by decide +kernel
theorem md_H_overlap_89 : decode mb_H_overlap 89 = .ok (.lcmp, 1) := by decide +kernel
theorem md_H_overlap_90 : decode mb_H_overlap 90 = .ok (.ifCond .ge 7, 3) := by decide +kernel
theorem md_H_overlap_93 : decode mb_H_overlap 93 = .ok (.iconst 1, 1) := by decide +kernel
theorem md_H_overlap_94 : decode mb_H_overlap 94 = .ok (.goto 4, 3) := by decide +kernel
theorem md_H_overlap_97 : decode mb_H_overlap 97 = .ok (.iconst 0, 1) := by decide +kernel
theorem md_H_overlap_98 : decode mb_H_overlap 98 = .ok (.ireturn, 1) := by decide +kernel
theorem md_H_overlappingPair_0 : decode mb_H_overlappingPair 0 = .ok (.iload_n 1, 1) := by decide +kernel
theorem md_H_overlappingPair_1 : decode mb_H_overlappingPair 1 = .ok (.istore_n 2, 1) := by decide +kernel
theorem md_H_overlappingPair_2 : decode mb_H_overlappingPair 2 = .ok (.iconst 0, 1) := by decide +kernel
theorem md_H_overlappingPair_3 : decode mb_H_overlappingPair 3 = .ok (.istore_n 3, 1) := by decide +kernel
theorem md_H_overlappingPair_4 : decode mb_H_overlappingPair 4 = .ok (.iload_n 3, 1) := by decide +kernel
theorem md_H_overlappingPair_5 : decode mb_H_overlappingPair 5 = .ok (.bipush 16, 2) := by decide +kernel
theorem md_H_overlappingPair_7 : decode mb_H_overlappingPair 7 = .ok (.if_icmp .ge 52, 3) := by decide +kernel
theorem md_H_overlappingPair_10 : decode mb_H_overlappingPair 10 = .ok (.iload_n 3, 1) := by decide +kernel
theorem md_H_overlappingPair_11 : decode mb_H_overlappingPair 11 = .ok (.iconst 1, 1) := by decide +kernel
theorem md_H_overlappingPair_12 : decode mb_H_overlappingPair 12 = .ok (.iadd, 1) := by decide +kernel
theorem md_H_overlappingPair_13 : decode mb_H_overlappingPair 13 = .ok (.istore 4, 2) := by decide +kernel
theorem md_H_overlappingPair_15 : decode mb_H_overlappingPair 15 = .ok (.iload 4, 2) := by decide +kernel
theorem md_H_overlappingPair_17 : decode mb_H_overlappingPair 17 = .ok (.bipush 16, 2) := by decide +kernel
theorem md_H_overlappingPair_19 : decode mb_H_overlappingPair 19 = .ok (.if_icmp .ge 34, 3) := by decide +kernel
theorem md_H_overlappingPair_22 : decode mb_H_overlappingPair 22 = .ok (.aload_n 0, 1) := by decide +kernel
theorem md_H_overlappingPair_23 : decode mb_H_overlappingPair 23 = .ok (.iload_n 3, 1) := by decide +kernel
theorem md_H_overlappingPair_24 : decode mb_H_overlappingPair 24 = .ok (.iload 4, 2) := by decide +kernel
theorem md_H_overlappingPair_26 : decode mb_H_overlappingPair 26 = .ok (.invokevirtual 21, 3) := by decide +kernel
theorem md_H_overlappingPair_29 : decode mb_H_overlappingPair 29 = .ok (.ifCond .eq 18, 3) := by decide +kernel
theorem md_H_overlappingPair_32 : decode mb_H_overlappingPair 32 = .ok (.iload_n 2, 1) := by decide +kernel
theorem md_H_overlappingPair_33 : decode mb_H_overlappingPair 33 = .ok (.ifCond .ne 11, 3) := by decide +kernel
theorem md_H_overlappingPair_36 : decode mb_H_overlappingPair 36 = .ok (.bipush 16, 2) := by decide +kernel
theorem md_H_overlappingPair_38 : decode mb_H_overlappingPair 38 = .ok (.iload_n 3, 1) := by decide +kernel
theorem md_H_overlappingPair_39 : decode mb_H_overlappingPair 39 = .ok (.imul, 1) := by decide +kernel
theorem md_H_overlappingPair_40 : decode mb_H_overlappingPair 40 = .ok (.iload 4, 2) := by decide +kernel
theorem md_H_overlappingPair_42 : decode mb_H_overlappingPair 42 = .ok (.iadd, 1) := by decide +kernel
theorem md_H_overlappingPair_43 : decode mb_H_overlappingPair 43 = .ok (.ireturn, 1) := by decide +kernel
theorem md_H_overlappingPair_44 : decode mb_H_overlappingPair 44 = .ok (.iinc 2 (-1), 3) := by decide +kernel
theorem md_H_overlappingPair_47 : decode mb_H_overlappingPair 47 = .ok (.iinc 4 1, 3) := by decide +kernel
theorem md_H_overlappingPair_50 : decode mb_H_overlappingPair 50 = .ok (.goto (-35), 3) := by decide +kernel
theorem md_H_overlappingPair_53 : decode mb_H_overlappingPair 53 = .ok (.iinc 3 1, 3) := by decide +kernel
theorem md_H_overlappingPair_56 : decode mb_H_overlappingPair 56 = .ok (.goto (-52), 3) := by decide +kernel
theorem md_H_overlappingPair_59 : decode mb_H_overlappingPair 59 = .ok (.iconst (-1), 1) := by decide +kernel
theorem md_H_overlappingPair_60 : decode mb_H_overlappingPair 60 = .ok (.ireturn, 1) := by decide +kernel
theorem md_D_leastX_0 : decode mb_D_leastX 0 = .ok (.aload_n 0, 1) := by decide +kernel
theorem md_D_leastX_1 : decode mb_D_leastX 1 = .ok (.iconst 0, 1) := by decide +kernel
theorem md_D_leastX_2 : decode mb_D_leastX 2 = .ok (.iload_n 1, 1) := by decide +kernel
theorem md_D_leastX_3 : decode mb_D_leastX 3 = .ok (.invokevirtual 56, 3) := by decide +kernel
theorem md_D_leastX_6 : decode mb_D_leastX 6 = .ok (.lstore_n 2, 1) := by decide +kernel
theorem md_D_leastX_7 : decode mb_D_leastX 7 = .ok (.iconst 1, 1) := by decide +kernel
theorem md_D_leastX_8 : decode mb_D_leastX 8 = .ok (.istore 4, 2) := by decide +kernel
theorem md_D_leastX_10 : decode mb_D_leastX 10 = .ok (.iload 4, 2) := by decide +kernel
theorem md_D_leastX_12 : decode mb_D_leastX 12 = .ok (.iconst 4, 1) := by decide +kernel
theorem md_D_leastX_13 : decode mb_D_leastX 13 = .ok (.if_icmp .ge 21, 3) := by decide +kernel
theorem md_D_leastX_16 : decode mb_D_leastX 16 = .ok (.lload_n 2, 1) := by decide +kernel
theorem md_D_leastX_17 : decode mb_D_leastX 17 = .ok (.aload_n 0, 1) := by decide +kernel
theorem md_D_leastX_18 : decode mb_D_leastX 18 = .ok (.iload 4, 2) := by decide +kernel
theorem md_D_leastX_20 : decode mb_D_leastX 20 = .ok (.iload_n 1, 1) := by decide +kernel
theorem md_D_leastX_21 : decode mb_D_leastX 21 = .ok (.invokevirtual 56, 3) := by decide +kernel
theorem md_D_leastX_24 : decode mb_D_leastX 24 = .ok (.invokestatic 32, 3) := by decide +kernel
theorem md_D_leastX_27 : decode mb_D_leastX 27 = .ok (.lstore_n 2, 1) := by decide +kernel
theorem md_D_leastX_28 : decode mb_D_leastX 28 = .ok (.iinc 4 1, 3) := by decide +kernel
theorem md_D_leastX_31 : decode mb_D_leastX 31 = .ok (.goto (-21), 3) := by decide +kernel
theorem md_D_leastX_34 : decode mb_D_leastX 34 = .ok (.lload_n 2, 1) := by decide +kernel
theorem md_D_leastX_35 : decode mb_D_leastX 35 = .ok (.lreturn, 1) := by decide +kernel
theorem md_D_turnedX_0 : decode mb_D_turnedX 0 = .ok (.aload_n 0, 1) := by decide +kernel
theorem md_D_turnedX_1 : decode mb_D_turnedX 1 = .ok (.iload_n 1, 1) := by decide +kernel
theorem md_D_turnedX_2 : decode mb_D_turnedX 2 = .ok (.invokevirtual 42, 3) := by decide +kernel
theorem md_D_turnedX_5 : decode mb_D_turnedX 5 = .ok (.getstatic 46, 3) := by decide +kernel
theorem md_D_turnedX_8 : decode mb_D_turnedX 8 = .ok (.iload_n 2, 1) := by decide +kernel
theorem md_D_turnedX_9 : decode mb_D_turnedX 9 = .ok (.iaload, 1) := by decide +kernel
theorem md_D_turnedX_10 : decode mb_D_turnedX 10 = .ok (.i2l, 1) := by decide +kernel
theorem md_D_turnedX_11 : decode mb_D_turnedX 11 = .ok (.lmul, 1) := by decide +kernel
theorem md_D_turnedX_12 : decode mb_D_turnedX 12 = .ok (.aload_n 0, 1) := by decide +kernel
theorem md_D_turnedX_13 : decode mb_D_turnedX 13 = .ok (.iload_n 1, 1) := by decide +kernel
theorem md_D_turnedX_14 : decode mb_D_turnedX 14 = .ok (.invokevirtual 50, 3) := by decide +kernel
theorem md_D_turnedX_17 : decode mb_D_turnedX 17 = .ok (.getstatic 53, 3) := by decide +kernel
theorem md_D_turnedX_20 : decode mb_D_turnedX 20 = .ok (.iload_n 2, 1) := by decide +kernel
theorem md_D_turnedX_21 : decode mb_D_turnedX 21 = .ok (.iaload, 1) := by decide +kernel
theorem md_D_turnedX_22 : decode mb_D_turnedX 22 = .ok (.i2l, 1) := by decide +kernel
theorem md_D_turnedX_23 : decode mb_D_turnedX 23 = .ok (.lmul, 1) := by decide +kernel
theorem md_D_turnedX_24 : decode mb_D_turnedX 24 = .ok (.lsub, 1) := by decide +kernel
theorem md_D_turnedX_25 : decode mb_D_turnedX 25 = .ok (.lreturn, 1) := by decide +kernel
theorem md_D_shutX_0 : decode mb_D_shutX 0 = .ok (.iload_n 1, 1) := by decide +kernel
theorem md_D_shutX_1 : decode mb_D_shutX 1 = .ok (.iconst 1, 1) := by decide +kernel
theorem md_D_shutX_2 : decode mb_D_shutX 2 = .ok (.if_icmp .eq 8, 3) := by decide +kernel
theorem md_D_shutX_5 : decode mb_D_shutX 5 = .ok (.iload_n 1, 1) := by decide +kernel
theorem md_D_shutX_6 : decode mb_D_shutX 6 = .ok (.iconst 2, 1) := by decide +kernel
theorem md_D_shutX_7 : decode mb_D_shutX 7 = .ok (.if_icmp .ne 10, 3) := by decide +kernel
theorem md_D_shutX_10 : decode mb_D_shutX 10 = .ok (.aload_n 0, 1) := by decide +kernel
theorem md_D_shutX_11 : decode mb_D_shutX 11 = .ok (.getfield 11, 3) := by decide +kernel
theorem md_D_shutX_14 : decode mb_D_shutX 14 = .ok (.goto 4, 3) := by decide +kernel
theorem md_D_shutX_17 : decode mb_D_shutX 17 = .ok (.lconst 0, 1) := by decide +kernel
theorem md_D_shutX_18 : decode mb_D_shutX 18 = .ok (.lreturn, 1) := by decide +kernel
theorem md_D_shutY_0 : decode mb_D_shutY 0 = .ok (.iload_n 1, 1) := by decide +kernel
theorem md_D_shutY_1 : decode mb_D_shutY 1 = .ok (.iconst 2, 1) := by decide +kernel
theorem md_D_shutY_2 : decode mb_D_shutY 2 = .ok (.if_icmp .lt 10, 3) := by decide +kernel
theorem md_D_shutY_5 : decode mb_D_shutY 5 = .ok (.aload_n 0, 1) := by decide +kernel
theorem md_D_shutY_6 : decode mb_D_shutY 6 = .ok (.getfield 24, 3) := by decide +kernel
theorem md_D_shutY_9 : decode mb_D_shutY 9 = .ok (.goto 4, 3) := by decide +kernel
theorem md_D_shutY_12 : decode mb_D_shutY 12 = .ok (.lconst 0, 1) := by decide +kernel
theorem md_D_shutY_13 : decode mb_D_shutY 13 = .ok (.lreturn, 1) := by decide +kernel
theorem md_D_turnedY_0 : decode mb_D_turnedY 0 = .ok (.aload_n 0, 1) := by decide +kernel
theorem md_D_turnedY_1 : decode mb_D_turnedY 1 = .ok (.iload_n 1, 1) := by decide +kernel
theorem md_D_turnedY_2 : decode mb_D_turnedY 2 = .ok (.invokevirtual 42, 3) := by decide +kernel
theorem md_D_turnedY_5 : decode mb_D_turnedY 5 = .ok (.getstatic 53, 3) := by decide +kernel
theorem md_D_turnedY_8 : decode mb_D_turnedY 8 = .ok (.iload_n 2, 1) := by decide +kernel
theorem md_D_turnedY_9 : decode mb_D_turnedY 9 = .ok (.iaload, 1) := by decide +kernel
theorem md_D_turnedY_10 : decode mb_D_turnedY 10 = .ok (.i2l, 1) := by decide +kernel
theorem md_D_turnedY_11 : decode mb_D_turnedY 11 = .ok (.lmul, 1) := by decide +kernel
theorem md_D_turnedY_12 : decode mb_D_turnedY 12 = .ok (.aload_n 0, 1) := by decide +kernel
theorem md_D_turnedY_13 : decode mb_D_turnedY 13 = .ok (.iload_n 1, 1) := by decide +kernel
theorem md_D_turnedY_14 : decode mb_D_turnedY 14 = .ok (.invokevirtual 50, 3) := by decide +kernel
theorem md_D_turnedY_17 : decode mb_D_turnedY 17 = .ok (.getstatic 46, 3) := by decide +kernel
theorem md_D_turnedY_20 : decode mb_D_turnedY 20 = .ok (.iload_n 2, 1) := by decide +kernel
theorem md_D_turnedY_21 : decode mb_D_turnedY 21 = .ok (.iaload, 1) := by decide +kernel
theorem md_D_turnedY_22 : decode mb_D_turnedY 22 = .ok (.i2l, 1) := by decide +kernel
theorem md_D_turnedY_23 : decode mb_D_turnedY 23 = .ok (.lmul, 1) := by decide +kernel
theorem md_D_turnedY_24 : decode mb_D_turnedY 24 = .ok (.ladd, 1) := by decide +kernel
theorem md_D_turnedY_25 : decode mb_D_turnedY 25 = .ok (.lreturn, 1) := by decide +kernel
