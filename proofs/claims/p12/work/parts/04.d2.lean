theorem md_T_init_0 : decode mb_T_init 0 = .ok (.aload_n 0, 1) := by decide +kernel
theorem md_T_init_1 : decode mb_T_init 1 = .ok (.invokespecial 3, 3) := by decide +kernel
theorem md_T_init_4 : decode mb_T_init 4 = .ok (.aload_n 0, 1) := by decide +kernel
theorem md_T_init_5 : decode mb_T_init 5 = .ok (.bipush 16, 2) := by decide +kernel
theorem md_T_init_7 : decode mb_T_init 7 = .ok (.newarray .char, 2) := by decide +kernel
theorem md_T_init_9 : decode mb_T_init 9 = .ok (.putfield 9, 3) := by decide +kernel
theorem md_T_init_12 : decode mb_T_init 12 = .ok (.aload_n 0, 1) := by decide +kernel
theorem md_T_init_13 : decode mb_T_init 13 = .ok (.bipush 96, 2) := by decide +kernel
theorem md_T_init_15 : decode mb_T_init 15 = .ok (.newarray .int, 2) := by decide +kernel
theorem md_T_init_17 : decode mb_T_init 17 = .ok (.putfield 15, 3) := by decide +kernel
theorem md_T_init_20 : decode mb_T_init 20 = .ok (.aload_n 0, 1) := by decide +kernel
theorem md_T_init_21 : decode mb_T_init 21 = .ok (.bipush 16, 2) := by decide +kernel
theorem md_T_init_23 : decode mb_T_init 23 = .ok (.newarray .int, 2) := by decide +kernel
theorem md_T_init_25 : decode mb_T_init 25 = .ok (.putfield 19, 3) := by decide +kernel
theorem md_T_init_28 : decode mb_T_init 28 = .ok (.return_, 1) := by decide +kernel
theorem md_T_fill_0 : decode mb_T_fill 0 = .ok (.aload_n 0, 1) := by decide +kernel
theorem md_T_fill_1 : decode mb_T_fill 1 = .ok (.iconst 0, 1) := by decide +kernel
theorem md_T_fill_2 : decode mb_T_fill 2 = .ok (.putfield 22, 3) := by decide +kernel
theorem md_T_fill_5 : decode mb_T_fill 5 = .ok (.iconst 0, 1) := by decide +kernel
theorem md_T_fill_6 : decode mb_T_fill 6 = .ok (.istore_n 2, 1) := by decide +kernel
theorem md_T_fill_7 : decode mb_T_fill 7 = .ok (.iconst 0, 1) := by decide +kernel
theorem md_T_fill_8 : decode mb_T_fill 8 = .ok (.istore_n 3, 1) := by decide +kernel
theorem md_T_fill_9 : decode mb_T_fill 9 = .ok (.iload_n 3, 1) := by decide +kernel
theorem md_T_fill_10 : decode mb_T_fill 10 = .ok (.bipush 16, 2) := by decide +kernel
theorem md_T_fill_12 : decode mb_T_fill 12 = .ok (.if_icmp .ge 59, 3) := by decide +kernel
theorem md_T_fill_15 : decode mb_T_fill 15 = .ok (.iload_n 3, 1) := by decide +kernel
theorem md_T_fill_16 : decode mb_T_fill 16 = .ok (.ifCond .le 35, 3) := by decide +kernel
theorem md_T_fill_19 : decode mb_T_fill 19 = .ok (.aload_n 1, 1) := by decide +kernel
theorem md_T_fill_20 : decode mb_T_fill 20 = .ok (.iload_n 2, 1) := by decide +kernel
theorem md_T_fill_21 : decode mb_T_fill 21 = .ok (.invokevirtual 26, 3) := by decide +kernel
theorem md_T_fill_24 : decode mb_T_fill 24 = .ok (.ifCond .eq 9, 3) := by decide +kernel
theorem md_T_fill_27 : decode mb_T_fill 27 = .ok (.aload_n 0, 1) := by decide +kernel
theorem md_T_fill_28 : decode mb_T_fill 28 = .ok (.iload_n 3, 1) := by decide +kernel
theorem md_T_fill_29 : decode mb_T_fill 29 = .ok (.invokevirtual 32, 3) := by decide +kernel
theorem md_T_fill_32 : decode mb_T_fill 32 = .ok (.ireturn, 1) := by decide +kernel
theorem md_T_fill_33 : decode mb_T_fill 33 = .ok (.aload_n 1, 1) := by decide +kernel
theorem md_T_fill_34 : decode mb_T_fill 34 = .ok (.iload_n 2, 1) := by decide +kernel
theorem md_T_fill_35 : decode mb_T_fill 35 = .ok (.invokevirtual 36, 3) := by decide +kernel
theorem md_T_fill_38 : decode mb_T_fill 38 = .ok (.bipush 59, 2) := by decide +kernel
theorem md_T_fill_40 : decode mb_T_fill 40 = .ok (.if_icmp .eq 8, 3) := by decide +kernel
theorem md_T_fill_43 : decode mb_T_fill 43 = .ok (.iload_n 2, 1) := by decide +kernel
theorem md_T_fill_44 : decode mb_T_fill 44 = .ok (.invokestatic 40, 3) := by decide +kernel
theorem md_T_fill_47 : decode mb_T_fill 47 = .ok (.ireturn, 1) := by decide +kernel
theorem md_T_fill_48 : decode mb_T_fill 48 = .ok (.iinc 2 1, 3) := by decide +kernel
theorem md_T_fill_51 : decode mb_T_fill 51 = .ok (.aload_n 0, 1) := by decide +kernel
theorem md_T_fill_52 : decode mb_T_fill 52 = .ok (.aload_n 1, 1) := by decide +kernel
theorem md_T_fill_53 : decode mb_T_fill 53 = .ok (.iload_n 3, 1) := by decide +kernel
theorem md_T_fill_54 : decode mb_T_fill 54 = .ok (.iload_n 2, 1) := by decide +kernel
theorem md_T_fill_55 : decode mb_T_fill 55 = .ok (.invokevirtual 43, 3) := by decide +kernel
theorem md_T_fill_58 : decode mb_T_fill 58 = .ok (.istore_n 2, 1) := by decide +kernel
theorem md_T_fill_59 : decode mb_T_fill 59 = .ok (.iload_n 2, 1) := by decide +kernel
theorem md_T_fill_60 : decode mb_T_fill 60 = .ok (.ifCond .ge 5, 3) := by decide +kernel
theorem md_T_fill_63 : decode mb_T_fill 63 = .ok (.iload_n 2, 1) := by decide +kernel
theorem md_T_fill_64 : decode mb_T_fill 64 = .ok (.ireturn, 1) := by decide +kernel
theorem md_T_fill_65 : decode mb_T_fill 65 = .ok (.iinc 3 1, 3) := by decide +kernel
theorem md_T_fill_68 : decode mb_T_fill 68 = .ok (.goto (-59), 3) := by decide +kernel
theorem md_T_fill_71 : decode mb_T_fill 71 = .ok (.aload_n 1, 1) := by decide +kernel
theorem md_T_fill_72 : decode mb_T_fill 72 = .ok (.iload_n 2, 1) := by decide +kernel
theorem md_T_fill_73 : decode mb_T_fill 73 = .ok (.invokevirtual 26, 3) := by decide +kernel
theorem md_T_fill_76 : decode mb_T_fill 76 = .ok (.ifCond .eq 12, 3) := by decide +kernel
theorem md_T_fill_79 : decode mb_T_fill 79 = .ok (.aload_n 0, 1) := by decide +kernel
theorem md_T_fill_80 : decode mb_T_fill 80 = .ok (.bipush 16, 2) := by decide +kernel
theorem md_T_fill_82 : decode mb_T_fill 82 = .ok (.invokevirtual 32, 3) := by decide +kernel
theorem md_T_fill_85 : decode mb_T_fill 85 = .ok (.goto 7, 3) := by decide +kernel
theorem md_T_fill_88 : decode mb_T_fill 88 = .ok (.iload_n 2, 1) := by decide +kernel
theorem md_T_fill_89 : decode mb_T_fill 89 = .ok (.invokestatic 40, 3) := by decide +kernel
theorem md_T_fill_92 : decode mb_T_fill 92 = .ok (.ireturn, 1) := by decide +kernel
theorem md_T_finish_0 : decode mb_T_finish 0 = .ok (.aload_n 0, 1) := by decide +kernel
theorem md_T_finish_1 : decode mb_T_finish 1 = .ok (.iload_n 1, 1) := by decide +kernel
theorem md_T_finish_2 : decode mb_T_finish 2 = .ok (.putfield 22, 3) := by decide +kernel
theorem md_T_finish_5 : decode mb_T_finish 5 = .ok (.iconst 0, 1) := by decide +kernel
theorem md_T_finish_6 : decode mb_T_finish 6 = .ok (.istore_n 2, 1) := by decide +kernel
theorem md_T_finish_7 : decode mb_T_finish 7 = .ok (.iload_n 2, 1) := by decide +kernel
theorem md_T_finish_8 : decode mb_T_finish 8 = .ok (.bipush 16, 2) := by decide +kernel
theorem md_T_finish_10 : decode mb_T_finish 10 = .ok (.if_icmp .ge 17, 3) := by decide +kernel
theorem md_T_finish_13 : decode mb_T_finish 13 = .ok (.aload_n 0, 1) := by decide +kernel
theorem md_T_finish_14 : decode mb_T_finish 14 = .ok (.getfield 19, 3) := by decide +kernel
theorem md_T_finish_17 : decode mb_T_finish 17 = .ok (.iload_n 2, 1) := by decide +kernel
theorem md_T_finish_18 : decode mb_T_finish 18 = .ok (.bipush 9, 2) := by decide +kernel
theorem md_T_finish_20 : decode mb_T_finish 20 = .ok (.iastore, 1) := by decide +kernel
theorem md_T_finish_21 : decode mb_T_finish 21 = .ok (.iinc 2 1, 3) := by decide +kernel
theorem md_T_finish_24 : decode mb_T_finish 24 = .ok (.goto (-17), 3) := by decide +kernel
theorem md_T_finish_27 : decode mb_T_finish 27 = .ok (.iload_n 1, 1) := by decide +kernel
theorem md_T_finish_28 : decode mb_T_finish 28 = .ok (.ireturn, 1) := by decide +kernel
theorem md_T_fault_0 : decode mb_T_fault 0 = .ok (.iconst (-1), 1) := by decide +kernel
theorem md_T_fault_1 : decode mb_T_fault 1 = .ok (.iload_n 0, 1) := by decide +kernel
theorem md_T_fault_2 : decode mb_T_fault 2 = .ok (.isub, 1) := by decide +kernel
theorem md_T_fault_3 : decode mb_T_fault 3 = .ok (.ireturn, 1) := by decide +kernel
theorem md_T_fillRow_0 : decode mb_T_fillRow 0 = .ok (.aload_n 1, 1) := by decide +kernel
theorem md_T_fillRow_1 : decode mb_T_fillRow 1 = .ok (.iload_n 3, 1) := by decide +kernel
theorem md_T_fillRow_2 : decode mb_T_fillRow 2 = .ok (.invokevirtual 36, 3) := by decide +kernel
theorem md_T_fillRow_5 : decode mb_T_fillRow 5 = .ok (.istore 4, 2) := by decide +kernel
theorem md_T_fillRow_7 : decode mb_T_fillRow 7 = .ok (.iload 4, 2) := by decide +kernel
theorem md_T_fillRow_9 : decode mb_T_fillRow 9 = .ok (.invokestatic 47, 3) := by decide +kernel
theorem md_T_fillRow_12 : decode mb_T_fillRow 12 = .ok (.istore 5, 2) := by decide +kernel
theorem md_T_fillRow_14 : decode mb_T_fillRow 14 = .ok (.iload 5, 2) := by decide +kernel
theorem md_T_fillRow_16 : decode mb_T_fillRow 16 = .ok (.ifCond .ne 8, 3) := by decide +kernel
theorem md_T_fillRow_19 : decode mb_T_fillRow 19 = .ok (.iload_n 3, 1) := by decide +kernel
theorem md_T_fillRow_20 : decode mb_T_fillRow 20 = .ok (.invokestatic 40, 3) := by decide +kernel
theorem md_T_fillRow_23 : decode mb_T_fillRow 23 = .ok (.ireturn, 1) := by decide +kernel
theorem md_T_fillRow_24 : decode mb_T_fillRow 24 = .ok (.aload_n 0, 1) := by decide +kernel
theorem md_T_fillRow_25 : decode mb_T_fillRow 25 = .ok (.getfield 9, 3) := by decide +kernel
theorem md_T_fillRow_28 : decode mb_T_fillRow 28 = .ok (.iload_n 2, 1) := by decide +kernel
theorem md_T_fillRow_29 : decode mb_T_fillRow 29 = .ok (.iload 4, 2) := by decide +kernel
theorem md_T_fillRow_31 : decode mb_T_fillRow 31 = .ok (.castore, 1) := by decide +kernel
theorem md_T_fillRow_32 : decode mb_T_fillRow 32 = .ok (.iload_n 3, 1) := by decide +kernel
theorem md_T_fillRow_33 : decode mb_T_fillRow 33 = .ok (.iconst 1, 1) := by decide +kernel
theorem md_T_fillRow_34 : decode mb_T_fillRow 34 = .ok (.iadd, 1) := by decide +kernel
theorem md_T_fillRow_35 : decode mb_T_fillRow 35 = .ok (.istore 6, 2) := by decide +kernel
theorem md_T_fillRow_37 : decode mb_T_fillRow 37 = .ok (.iconst 0, 1) := by decide +kernel
theorem md_T_fillRow_38 : decode mb_T_fillRow 38 = .ok (.istore 7, 2) := by decide +kernel
theorem md_T_fillRow_40 : decode mb_T_fillRow 40 = .ok (.iload 7, 2) := by decide +kernel
theorem md_T_fillRow_42 : decode mb_T_fillRow 42 = .ok (.iload 5, 2) := by decide +kernel
theorem md_T_fillRow_44 : decode mb_T_fillRow 44 = .ok (.if_icmp .ge 54, 3) := by decide +kernel
theorem md_T_fillRow_47 : decode mb_T_fillRow 47 = .ok (.iload 7, 2) := by decide +kernel
theorem md_T_fillRow_49 : decode mb_T_fillRow 49 = .ok (.ifCond .le 23, 3) := by decide +kernel
theorem md_T_fillRow_52 : decode mb_T_fillRow 52 = .ok (.aload_n 1, 1) := by decide +kernel
theorem md_T_fillRow_53 : decode mb_T_fillRow 53 = .ok (.iload 6, 2) := by decide +kernel
theorem md_T_fillRow_55 : decode mb_T_fillRow 55 = .ok (.invokevirtual 36, 3) := by decide +kernel
theorem md_T_fillRow_58 : decode mb_T_fillRow 58 = .ok (.bipush 44, 2) := by decide +kernel
theorem md_T_fillRow_60 : decode mb_T_fillRow 60 = .ok (.if_icmp .eq 9, 3) := by decide +kernel
theorem md_T_fillRow_63 : decode mb_T_fillRow 63 = .ok (.iload 6, 2) := by decide +kernel
theorem md_T_fillRow_65 : decode mb_T_fillRow 65 = .ok (.invokestatic 40, 3) := by decide +kernel
theorem md_T_fillRow_68 : decode mb_T_fillRow 68 = .ok (.ireturn, 1) := by decide +kernel
theorem md_T_fillRow_69 : decode mb_T_fillRow 69 = .ok (.iinc 6 1, 3) := by decide +kernel
theorem md_T_fillRow_72 : decode mb_T_fillRow 72 = .ok (.aload_n 0, 1) := by decide +kernel
theorem md_T_fillRow_73 : decode mb_T_fillRow 73 = .ok (.aload_n 1, 1) := by decide +kernel
theorem md_T_fillRow_74 : decode mb_T_fillRow 74 = .ok (.iload_n 2, 1) := by decide +kernel
theorem md_T_fillRow_75 : decode mb_T_fillRow 75 = .ok (.iload 7, 2) := by decide +kernel
theorem md_T_fillRow_77 : decode mb_T_fillRow 77 = .ok (.iload 6, 2) := by decide +kernel
theorem md_T_fillRow_79 : decode mb_T_fillRow 79 = .ok (.invokevirtual 51, 3) := by decide +kernel
theorem md_T_fillRow_82 : decode mb_T_fillRow 82 = .ok (.istore 6, 2) := by decide +kernel
theorem md_T_fillRow_84 : decode mb_T_fillRow 84 = .ok (.iload 6, 2) := by decide +kernel
theorem md_T_fillRow_86 : decode mb_T_fillRow 86 = .ok (.ifCond .ge 6, 3) := by decide +kernel
theorem md_T_fillRow_89 : decode mb_T_fillRow 89 = .ok (.iload 6, 2) := by decide +kernel
theorem md_T_fillRow_91 : decode mb_T_fillRow 91 = .ok (.ireturn, 1) := by decide +kernel
theorem md_T_fillRow_92 : decode mb_T_fillRow 92 = .ok (.iinc 7 1, 3) := by decide +kernel
theorem md_T_fillRow_95 : decode mb_T_fillRow 95 = .ok (.goto (-55), 3) := by decide +kernel
theorem md_T_fillRow_98 : decode mb_T_fillRow 98 = .ok (.iload 6, 2) := by decide +kernel
theorem md_T_fillRow_100 : decode mb_T_fillRow 100 = .ok (.ireturn, 1) := by decide +kernel
theorem md_T_fillNumber_0 : decode mb_T_fillNumber 0 = .ok (.iconst 0, 1) := by decide +kernel
theorem md_T_fillNumber_1 : decode mb_T_fillNumber 1 = .ok (.istore 5, 2) := by decide +kernel
theorem md_T_fillNumber_3 : decode mb_T_fillNumber 3 = .ok (.iload 4, 2) := by decide +kernel
theorem md_T_fillNumber_5 : decode mb_T_fillNumber 5 = .ok (.istore 6, 2) := by decide +kernel
theorem md_T_fillNumber_7 : decode mb_T_fillNumber 7 = .ok (.iconst 0, 1) := by decide +kernel
theorem md_T_fillNumber_8 : decode mb_T_fillNumber 8 = .ok (.istore 7, 2) := by decide +kernel
theorem md_T_fillNumber_10 : decode mb_T_fillNumber 10 = .ok (.iload 7, 2) := by decide +kernel
theorem md_T_fillNumber_12 : decode mb_T_fillNumber 12 = .ok (.iconst 5, 1) := by decide +kernel
theorem md_T_fillNumber_13 : decode mb_T_fillNumber 13 = .ok (.if_icmp .ge 41, 3) := by decide +kernel
theorem md_T_fillNumber_16 : decode mb_T_fillNumber 16 = .ok (.aload_n 1, 1) := by decide +kernel
theorem md_T_fillNumber_17 : decode mb_T_fillNumber 17 = .ok (.iload 6, 2) := by decide +kernel
theorem md_T_fillNumber_19 : decode mb_T_fillNumber 19 = .ok (.invokevirtual 36, 3) := by decide +kernel
theorem md_T_fillNumber_22 : decode mb_T_fillNumber 22 = .ok (.invokestatic 55, 3) := by decide +kernel
theorem md_T_fillNumber_25 : decode mb_T_fillNumber 25 = .ok (.ifCond .eq 29, 3) := by decide +kernel
theorem md_T_fillNumber_28 : decode mb_T_fillNumber 28 = .ok (.bipush 10, 2) := by decide +kernel
theorem md_T_fillNumber_30 : decode mb_T_fillNumber 30 = .ok (.iload 5, 2) := by decide +kernel
theorem md_T_fillNumber_32 : decode mb_T_fillNumber 32 = .ok (.imul, 1) := by decide +kernel
theorem md_T_fillNumber_33 : decode mb_T_fillNumber 33 = .ok (.aload_n 1, 1) := by decide +kernel
theorem md_T_fillNumber_34 : decode mb_T_fillNumber 34 = .ok (.iload 6, 2) := by decide +kernel
theorem md_T_fillNumber_36 : decode mb_T_fillNumber 36 = .ok (.invokevirtual 36, 3) := by decide +kernel
theorem md_T_fillNumber_39 : decode mb_T_fillNumber 39 = .ok (.bipush 48, 2) := by decide +kernel
theorem md_T_fillNumber_41 : decode mb_T_fillNumber 41 = .ok (.isub, 1) := by decide +kernel
theorem md_T_fillNumber_42 : decode mb_T_fillNumber 42 = .ok (.iadd, 1) := by decide +kernel
theorem md_T_fillNumber_43 : decode mb_T_fillNumber 43 = .ok (.istore 5, 2) := by decide +kernel
theorem md_T_fillNumber_45 : decode mb_T_fillNumber 45 = .ok (.iinc 6 1, 3) := by decide +kernel
theorem md_T_fillNumber_48 : decode mb_T_fillNumber 48 = .ok (.iinc 7 1, 3) := by decide +kernel
theorem md_T_fillNumber_51 : decode mb_T_fillNumber 51 = .ok (.goto (-41), 3) := by decide +kernel
theorem md_T_fillNumber_54 : decode mb_T_fillNumber 54 = .ok (.iload 6, 2) := by decide +kernel
theorem md_T_fillNumber_56 : decode mb_T_fillNumber 56 = .ok (.iload 4, 2) := by decide +kernel
theorem md_T_fillNumber_58 : decode mb_T_fillNumber 58 = .ok (.if_icmp .eq 14, 3) := by decide +kernel
theorem md_T_fillNumber_61 : decode mb_T_fillNumber 61 = .ok (.aload_n 0, 1) := by decide +kernel
theorem md_T_fillNumber_62 : decode mb_T_fillNumber 62 = .ok (.iload_n 2, 1) := by decide +kernel
theorem md_T_fillNumber_63 : decode mb_T_fillNumber 63 = .ok (.iload_n 3, 1) := by decide +kernel
theorem md_T_fillNumber_64 : decode mb_T_fillNumber 64 = .ok (.iload 5, 2) := by decide +kernel
theorem md_T_fillNumber_66 : decode mb_T_fillNumber 66 = .ok (.invokevirtual 59, 3) := by decide +kernel
theorem md_T_fillNumber_69 : decode mb_T_fillNumber 69 = .ok (.ifCond .ne 9, 3) := by decide +kernel
theorem md_T_fillNumber_72 : decode mb_T_fillNumber 72 = .ok (.iload 4, 2) := by decide +kernel
theorem md_T_fillNumber_74 : decode mb_T_fillNumber 74 = .ok (.invokestatic 40, 3) := by decide +kernel
theorem md_T_fillNumber_77 : decode mb_T_fillNumber 77 = .ok (.ireturn, 1) := by decide +kernel
theorem md_T_fillNumber_78 : decode mb_T_fillNumber 78 = .ok (.aload_n 0, 1) := by decide +kernel
theorem md_T_fillNumber_79 : decode mb_T_fillNumber 79 = .ok (.getfield 15, 3) := by decide +kernel
theorem md_T_fillNumber_82 : decode mb_T_fillNumber 82 = .ok (.iload_n 2, 1) := by decide +kernel
theorem md_T_fillNumber_83 : decode mb_T_fillNumber 83 = .ok (.bipush 6, 2) := by decide +kernel
theorem md_T_fillNumber_85 : decode mb_T_fillNumber 85 = .ok (.imul, 1) := by decide +kernel
theorem md_T_fillNumber_86 : decode mb_T_fillNumber 86 = .ok (.iload_n 3, 1) := by decide +kernel
theorem md_T_fillNumber_87 : decode mb_T_fillNumber 87 = .ok (.iadd, 1) := by decide +kernel
theorem md_T_fillNumber_88 : decode mb_T_fillNumber 88 = .ok (.iload 5, 2) := by decide +kernel
theorem md_T_fillNumber_90 : decode mb_T_fillNumber 90 = .ok (.iastore, 1) := by decide +kernel
theorem md_T_fillNumber_91 : decode mb_T_fillNumber 91 = .ok (.iload 6, 2) := by decide +kernel
theorem md_T_fillNumber_93 : decode mb_T_fillNumber 93 = .ok (.ireturn, 1) := by decide +kernel
theorem md_T_isDigit_0 : decode mb_T_isDigit 0 = .ok (.iload_n 0, 1) := by decide +kernel
theorem md_T_isDigit_1 : decode mb_T_isDigit 1 = .ok (.bipush 48, 2) := by decide +kernel
theorem md_T_isDigit_3 : decode mb_T_isDigit 3 = .ok (.if_icmp .lt 13, 3) := by decide +kernel
theorem md_T_isDigit_6 : decode mb_T_isDigit 6 = .ok (.iload_n 0, 1) := by decide +kernel
theorem md_T_isDigit_7 : decode mb_T_isDigit 7 = .ok (.bipush 57, 2) := by decide +kernel
theorem md_T_isDigit_9 : decode mb_T_isDigit 9 = .ok (.if_icmp .gt 7, 3) := by decide +kernel
theorem md_T_isDigit_12 : decode mb_T_isDigit 12 = .ok (.iconst 1, 1) := by decide +kernel
theorem md_T_isDigit_13 : decode mb_T_isDigit 13 = .ok (.goto 4, 3) := by decide +kernel
theorem md_T_isDigit_16 : decode mb_T_isDigit 16 = .ok (.iconst 0, 1) := by decide +kernel
theorem md_T_isDigit_17 : decode mb_T_isDigit 17 = .ok (.ireturn, 1) := by decide +kernel
theorem md_T_mayStand_0 : decode mb_T_mayStand 0 = .ok (.aload_n 0, 1) := by decide +kernel
theorem md_T_mayStand_1 : decode mb_T_mayStand 1 = .ok (.getfield 9, 3) := by decide +kernel
theorem md_T_mayStand_4 : decode mb_T_mayStand 4 = .ok (.iload_n 1, 1) := by decide +kernel
theorem md_T_mayStand_5 : decode mb_T_mayStand 5 = .ok (.caload, 1) := by decide +kernel
theorem md_T_mayStand_6 : decode mb_T_mayStand 6 = .ok (.bipush 104, 2) := by decide +kernel
theorem md_T_mayStand_8 : decode mb_T_mayStand 8 = .ok (.if_icmp .ne 31, 3) := by decide +kernel
theorem md_T_mayStand_11 : decode mb_T_mayStand 11 = .ok (.iload_n 2, 1) := by decide +kernel
theorem md_T_mayStand_12 : decode mb_T_mayStand 12 = .ok (.iconst 1, 1) := by decide +kernel
theorem md_T_mayStand_13 : decode mb_T_mayStand 13 = .ok (.if_icmp .eq 8, 3) := by decide +kernel
theorem md_T_mayStand_16 : decode mb_T_mayStand 16 = .ok (.iload_n 2, 1) := by decide +kernel
theorem md_T_mayStand_17 : decode mb_T_mayStand 17 = .ok (.iconst 3, 1) := by decide +kernel
theorem md_T_mayStand_18 : decode mb_T_mayStand 18 = .ok (.if_icmp .ne 21, 3) := by decide +kernel
theorem md_T_mayStand_21 : decode mb_T_mayStand 21 = .ok (.iload_n 3, 1) := by decide +kernel
theorem md_T_mayStand_22 : decode mb_T_mayStand 22 = .ok (.aload_n 0, 1) := by decide +kernel
theorem md_T_mayStand_23 : decode mb_T_mayStand 23 = .ok (.iload_n 1, 1) := by decide +kernel
theorem md_T_mayStand_24 : decode mb_T_mayStand 24 = .ok (.iload_n 2, 1) := by decide +kernel
theorem md_T_mayStand_25 : decode mb_T_mayStand 25 = .ok (.iconst 1, 1) := by decide +kernel
theorem md_T_mayStand_26 : decode mb_T_mayStand 26 = .ok (.isub, 1) := by decide +kernel
theorem md_T_mayStand_27 : decode mb_T_mayStand 27 = .ok (.invokevirtual 63, 3) := by decide +kernel
theorem md_T_mayStand_30 : decode mb_T_mayStand 30 = .ok (.if_icmp .lt 7, 3) := by decide +kernel
theorem md_T_mayStand_33 : decode mb_T_mayStand 33 = .ok (.iconst 1, 1) := by decide +kernel
theorem md_T_mayStand_34 : decode mb_T_mayStand 34 = .ok (.goto 4, 3) := by decide +kernel
theorem md_T_mayStand_37 : decode mb_T_mayStand 37 = .ok (.iconst 0, 1) := by decide +kernel
theorem md_T_mayStand_38 : decode mb_T_mayStand 38 = .ok (.ireturn, 1) := by decide +kernel
theorem md_T_mayStand_39 : decode mb_T_mayStand 39 = .ok (.aload_n 0, 1) := by decide +kernel
theorem md_T_mayStand_40 : decode mb_T_mayStand 40 = .ok (.getfield 9, 3) := by decide +kernel
theorem md_T_mayStand_43 : decode mb_T_mayStand 43 = .ok (.iload_n 1, 1) := by decide +kernel
theorem md_T_mayStand_44 : decode mb_T_mayStand 44 = .ok (.caload, 1) := by decide +kernel
theorem md_T_mayStand_45 : decode mb_T_mayStand 45 = .ok (.bipush 99, 2) := by decide +kernel
theorem md_T_mayStand_47 : decode mb_T_mayStand 47 = .ok (.if_icmp .ne 25, 3) := by decide +kernel
theorem md_T_mayStand_50 : decode mb_T_mayStand 50 = .ok (.iload_n 2, 1) := by decide +kernel
theorem md_T_mayStand_51 : decode mb_T_mayStand 51 = .ok (.iconst 2, 1) := by decide +kernel
theorem md_T_mayStand_52 : decode mb_T_mayStand 52 = .ok (.if_icmp .ne 20, 3) := by decide +kernel
theorem md_T_mayStand_55 : decode mb_T_mayStand 55 = .ok (.iload_n 3, 1) := by decide +kernel
theorem md_T_mayStand_56 : decode mb_T_mayStand 56 = .ok (.iconst 1, 1) := by decide +kernel
theorem md_T_mayStand_57 : decode mb_T_mayStand 57 = .ok (.if_icmp .lt 13, 3) := by decide +kernel
theorem md_T_mayStand_60 : decode mb_T_mayStand 60 = .ok (.iload_n 3, 1) := by decide +kernel
theorem md_T_mayStand_61 : decode mb_T_mayStand 61 = .ok (.bipush 9, 2) := by decide +kernel
theorem md_T_mayStand_63 : decode mb_T_mayStand 63 = .ok (.if_icmp .gt 7, 3) := by decide +kernel
theorem md_T_mayStand_66 : decode mb_T_mayStand 66 = .ok (.iconst 1, 1) := by decide +kernel
theorem md_T_mayStand_67 : decode mb_T_mayStand 67 = .ok (.goto 4, 3) := by decide +kernel
theorem md_T_mayStand_70 : decode mb_T_mayStand 70 = .ok (.iconst 0, 1) := by decide +kernel
theorem md_T_mayStand_71 : decode mb_T_mayStand 71 = .ok (.ireturn, 1) := by decide +kernel
theorem md_T_mayStand_72 : decode mb_T_mayStand 72 = .ok (.iconst 1, 1) := by decide +kernel
theorem md_T_mayStand_73 : decode mb_T_mayStand 73 = .ok (.ireturn, 1) := by decide +kernel
theorem md_T_number_0 : decode mb_T_number 0 = .ok (.aload_n 0, 1) := by decide +kernel
theorem md_T_number_1 : decode mb_T_number 1 = .ok (.getfield 15, 3) := by decide +kernel
theorem md_T_number_4 : decode mb_T_number 4 = .ok (.iload_n 1, 1) := by decide +kernel
theorem md_T_number_5 : decode mb_T_number 5 = .ok (.bipush 6, 2) := by decide +kernel
theorem md_T_number_7 : decode mb_T_number 7 = .ok (.imul, 1) := by decide +kernel
theorem md_T_number_8 : decode mb_T_number 8 = .ok (.iload_n 2, 1) := by decide +kernel
theorem md_T_number_9 : decode mb_T_number 9 = .ok (.iadd, 1) := by decide +kernel
theorem md_T_number_10 : decode mb_T_number 10 = .ok (.iaload, 1) := by decide +kernel
theorem md_T_number_11 : decode mb_T_number 11 = .ok (.ireturn, 1) := by decide +kernel
theorem md_T_letter_0 : decode mb_T_letter 0 = .ok (.aload_n 0, 1) := by decide +kernel
theorem md_T_letter_1 : decode mb_T_letter 1 = .ok (.getfield 9, 3) := by decide +kernel
theorem md_T_letter_4 : decode mb_T_letter 4 = .ok (.iload_n 1, 1) := by decide +kernel
theorem md_T_letter_5 : decode mb_T_letter 5 = .ok (.caload, 1) := by decide +kernel
theorem md_T_letter_6 : decode mb_T_letter 6 = .ok (.ireturn, 1) := by decide +kernel
theorem md_T_changeStock_0 : decode mb_T_changeStock 0 = .ok (.aload_n 0, 1) := by decide +kernel
theorem md_T_changeStock_1 : decode mb_T_changeStock 1 = .ok (.getfield 19, 3) := by decide +kernel
theorem md_T_changeStock_4 : decode mb_T_changeStock 4 = .ok (.iload_n 1, 1) := by decide +kernel
theorem md_T_changeStock_5 : decode mb_T_changeStock 5 = .ok (.iaload, 1) := by decide +kernel
theorem md_T_changeStock_6 : decode mb_T_changeStock 6 = .ok (.iload_n 2, 1) := by decide +kernel
theorem md_T_changeStock_7 : decode mb_T_changeStock 7 = .ok (.if_icmp .eq 7, 3) := by decide +kernel
theorem md_T_changeStock_10 : decode mb_T_changeStock 10 = .ok (.iconst 1, 1) := by decide +kernel
theorem md_T_changeStock_11 : decode mb_T_changeStock 11 = .ok (.goto 4, 3) := by decide +kernel
theorem md_T_changeStock_14 : decode mb_T_changeStock 14 = .ok (.iconst 0, 1) := by decide +kernel
theorem md_T_changeStock_15 : decode mb_T_changeStock 15 = .ok (.istore_n 3, 1) := by decide +kernel
theorem md_T_changeStock_16 : decode mb_T_changeStock 16 = .ok (.aload_n 0, 1) := by decide +kernel
theorem md_T_changeStock_17 : decode mb_T_changeStock 17 = .ok (.getfield 19, 3) := by decide +kernel
theorem md_T_changeStock_20 : decode mb_T_changeStock 20 = .ok (.iload_n 1, 1) := by decide +kernel
theorem md_T_changeStock_21 : decode mb_T_changeStock 21 = .ok (.iload_n 2, 1) := by decide +kernel
theorem md_T_changeStock_22 : decode mb_T_changeStock 22 = .ok (.iastore, 1) := by decide +kernel
theorem md_T_changeStock_23 : decode mb_T_changeStock 23 = .ok (.iload_n 3, 1) := by decide +kernel
theorem md_T_changeStock_24 : decode mb_T_changeStock 24 = .ok (.ireturn, 1) := by decide +kernel
theorem md_T_firstHinge_0 : decode mb_T_firstHinge 0 = .ok (.iconst 0, 1) := by decide +kernel
theorem md_T_firstHinge_1 : decode mb_T_firstHinge 1 = .ok (.istore 6, 2) := by decide +kernel
theorem md_T_firstHinge_3 : decode mb_T_firstHinge 3 = .ok (.iload 6, 2) := by decide +kernel
theorem md_T_firstHinge_5 : decode mb_T_firstHinge 5 = .ok (.aload_n 0, 1) := by decide +kernel
theorem md_T_firstHinge_6 : decode mb_T_firstHinge 6 = .ok (.getfield 22, 3) := by decide +kernel
theorem md_T_firstHinge_9 : decode mb_T_firstHinge 9 = .ok (.if_icmp .ge 59, 3) := by decide +kernel
theorem md_T_firstHinge_12 : decode mb_T_firstHinge 12 = .ok (.aload_n 0, 1) := by decide +kernel
theorem md_T_firstHinge_13 : decode mb_T_firstHinge 13 = .ok (.iload 6, 2) := by decide +kernel
theorem md_T_firstHinge_15 : decode mb_T_firstHinge 15 = .ok (.bipush 104, 2) := by decide +kernel
theorem md_T_firstHinge_17 : decode mb_T_firstHinge 17 = .ok (.invokevirtual 67, 3) := by decide +kernel
theorem md_T_firstHinge_20 : decode mb_T_firstHinge 20 = .ok (.ifCond .eq 42, 3) := by decide +kernel
theorem md_T_firstHinge_23 : decode mb_T_firstHinge 23 = .ok (.aload_n 0, 1) := by decide +kernel
theorem md_T_firstHinge_24 : decode mb_T_firstHinge 24 = .ok (.iload 6, 2) := by decide +kernel
theorem md_T_firstHinge_26 : decode mb_T_firstHinge 26 = .ok (.iconst 0, 1) := by decide +kernel
theorem md_T_firstHinge_27 : decode mb_T_firstHinge 27 = .ok (.lload_n 1, 1) := by decide +kernel
theorem md_T_firstHinge_28 : decode mb_T_firstHinge 28 = .ok (.lload_n 1, 1) := by decide +kernel
theorem md_T_firstHinge_29 : decode mb_T_firstHinge 29 = .ok (.invokevirtual 71, 3) := by decide +kernel
theorem md_T_firstHinge_32 : decode mb_T_firstHinge 32 = .ok (.ifCond .eq 30, 3) := by decide +kernel
theorem md_T_firstHinge_35 : decode mb_T_firstHinge 35 = .ok (.aload_n 0, 1) := by decide +kernel
theorem md_T_firstHinge_36 : decode mb_T_firstHinge 36 = .ok (.iload 6, 2) := by decide +kernel
theorem md_T_firstHinge_38 : decode mb_T_firstHinge 38 = .ok (.iconst 2, 1) := by decide +kernel
theorem md_T_firstHinge_39 : decode mb_T_firstHinge 39 = .ok (.lload_n 3, 1) := by decide +kernel
theorem md_T_firstHinge_40 : decode mb_T_firstHinge 40 = .ok (.lload_n 3, 1) := by decide +kernel
theorem md_T_firstHinge_41 : decode mb_T_firstHinge 41 = .ok (.invokevirtual 71, 3) := by decide +kernel
theorem md_T_firstHinge_44 : decode mb_T_firstHinge 44 = .ok (.ifCond .eq 18, 3) := by decide +kernel
theorem md_T_firstHinge_47 : decode mb_T_firstHinge 47 = .ok (.aload_n 0, 1) := by decide +kernel
theorem md_T_firstHinge_48 : decode mb_T_firstHinge 48 = .ok (.iload 6, 2) := by decide +kernel
theorem md_T_firstHinge_50 : decode mb_T_firstHinge 50 = .ok (.iconst 4, 1) := by decide +kernel
theorem md_T_firstHinge_51 : decode mb_T_firstHinge 51 = .ok (.invokevirtual 63, 3) := by decide +kernel
theorem md_T_firstHinge_54 : decode mb_T_firstHinge 54 = .ok (.iload 5, 2) := by decide +kernel
theorem md_T_firstHinge_56 : decode mb_T_firstHinge 56 = .ok (.if_icmp .lt 6, 3) := by decide +kernel
theorem md_T_firstHinge_59 : decode mb_T_firstHinge 59 = .ok (.iload 6, 2) := by decide +kernel
theorem md_T_firstHinge_61 : decode mb_T_firstHinge 61 = .ok (.ireturn, 1) := by decide +kernel
theorem md_T_firstHinge_62 : decode mb_T_firstHinge 62 = .ok (.iinc 6 1, 3) := by decide +kernel
theorem md_T_firstHinge_65 : decode mb_T_firstHinge 65 = .ok (.goto (-62), 3) := by decide +kernel
theorem md_T_firstHinge_68 : decode mb_T_firstHinge 68 = .ok (.iconst (-1), 1) := by decide +kernel
theorem md_T_firstHinge_69 : decode mb_T_firstHinge 69 = .ok (.ireturn, 1) := by decide +kernel
theorem md_T_isStocked_0 : decode mb_T_isStocked 0 = .ok (.aload_n 0, 1) := by decide +kernel
theorem md_T_isStocked_1 : decode mb_T_isStocked 1 = .ok (.getfield 9, 3) := by decide +kernel
theorem md_T_isStocked_4 : decode mb_T_isStocked 4 = .ok (.iload_n 1, 1) := by decide +kernel
theorem md_T_isStocked_5 : decode mb_T_isStocked 5 = .ok (.caload, 1) := by decide +kernel
theorem md_T_isStocked_6 : decode mb_T_isStocked 6 = .ok (.iload_n 2, 1) := by decide +kernel
theorem md_T_isStocked_7 : decode mb_T_isStocked 7 = .ok (.if_icmp .ne 16, 3) := by decide +kernel
theorem md_T_isStocked_10 : decode mb_T_isStocked 10 = .ok (.aload_n 0, 1) := by decide +kernel
theorem md_T_isStocked_11 : decode mb_T_isStocked 11 = .ok (.getfield 19, 3) := by decide +kernel
theorem md_T_isStocked_14 : decode mb_T_isStocked 14 = .ok (.iload_n 1, 1) := by decide +kernel
theorem md_T_isStocked_15 : decode mb_T_isStocked 15 = .ok (.iaload, 1) := by decide +kernel
theorem md_T_isStocked_16 : decode mb_T_isStocked 16 = .ok (.ifCond .le 7, 3) := by decide +kernel
theorem md_T_isStocked_19 : decode mb_T_isStocked 19 = .ok (.iconst 1, 1) := by decide +kernel
theorem md_T_isStocked_20 : decode mb_T_isStocked 20 = .ok (.goto 4, 3) := by decide +kernel
theorem md_T_isStocked_23 : decode mb_T_isStocked 23 = .ok (.iconst 0, 1) := by decide +kernel
theorem md_T_isStocked_24 : decode mb_T_isStocked 24 = .ok (.ireturn, 1) := by decide +kernel
theorem md_T_holds_0 : decode mb_T_holds 0 = .ok (.aload_n 0, 1) := by decide +kernel
theorem md_T_holds_1 : decode mb_T_holds 1 = .ok (.iload_n 1, 1) := by decide +kernel
theorem md_T_holds_2 : decode mb_T_holds 2 = .ok (.iload_n 2, 1) := by decide +kernel
theorem md_T_holds_3 : decode mb_T_holds 3 = .ok (.invokevirtual 63, 3) := by decide +kernel
theorem md_T_holds_6 : decode mb_T_holds 6 = .ok (.i2l, 1) := by decide +kernel
theorem md_T_holds_7 : decode mb_T_holds 7 = .ok (.lload_n 3, 1) := by decide +kernel
theorem md_T_holds_8 : decode mb_T_holds 8 = .ok (.lcmp, 1) := by decide +kernel
theorem md_T_holds_9 : decode mb_T_holds 9 = .ok (.ifCond .gt 22, 3) := by decide +kernel
theorem md_T_holds_12 : decode mb_T_holds 12 = .ok (.lload 5, 2) := by decide +kernel
theorem md_T_holds_14 : decode mb_T_holds 14 = .ok (.aload_n 0, 1) := by decide +kernel
theorem md_T_holds_15 : decode mb_T_holds 15 = .ok (.iload_n 1, 1) := by decide +kernel
theorem md_T_holds_16 : decode mb_T_holds 16 = .ok (.iload_n 2, 1) := by decide +kernel
theorem md_T_holds_17 : decode mb_T_holds 17 = .ok (.iconst 1, 1) := by decide +kernel
theorem md_T_holds_18 : decode mb_T_holds 18 = .ok (.iadd, 1) := by decide +kernel
theorem md_T_holds_19 : decode mb_T_holds 19 = .ok (.invokevirtual 63, 3) := by decide +kernel
theorem md_T_holds_22 : decode mb_T_holds 22 = .ok (.i2l, 1) := by decide +kernel
theorem md_T_holds_23 : decode mb_T_holds 23 = .ok (.lcmp, 1) := by decide +kernel
theorem md_T_holds_24 : decode mb_T_holds 24 = .ok (.ifCond .gt 7, 3) := by decide +kernel
theorem md_T_holds_27 : decode mb_T_holds 27 = .ok (.iconst 1, 1) := by decide +kernel
theorem md_T_holds_28 : decode mb_T_holds 28 = .ok (.goto 4, 3) := by decide +kernel
theorem md_T_holds_31 : decode mb_T_holds 31 = .ok (.iconst 0, 1) := by decide +kernel
theorem md_T_holds_32 : decode mb_T_holds 32 = .ok (.ireturn, 1) := by decide +kernel
theorem md_T_otherHinge_0 : decode mb_T_otherHinge 0 = .ok (.iload_n 2, 1) := by decide +kernel
theorem md_T_otherHinge_1 : decode mb_T_otherHinge 1 = .ok (.istore_n 3, 1) := by decide +kernel
theorem md_T_otherHinge_2 : decode mb_T_otherHinge 2 = .ok (.iconst 0, 1) := by decide +kernel
theorem md_T_otherHinge_3 : decode mb_T_otherHinge 3 = .ok (.istore 4, 2) := by decide +kernel
theorem md_T_otherHinge_5 : decode mb_T_otherHinge 5 = .ok (.iload 4, 2) := by decide +kernel
theorem md_T_otherHinge_7 : decode mb_T_otherHinge 7 = .ok (.aload_n 0, 1) := by decide +kernel
theorem md_T_otherHinge_8 : decode mb_T_otherHinge 8 = .ok (.getfield 22, 3) := by decide +kernel
theorem md_T_otherHinge_11 : decode mb_T_otherHinge 11 = .ok (.if_icmp .ge 35, 3) := by decide +kernel
theorem md_T_otherHinge_14 : decode mb_T_otherHinge 14 = .ok (.iload 4, 2) := by decide +kernel
theorem md_T_otherHinge_16 : decode mb_T_otherHinge 16 = .ok (.iload_n 1, 1) := by decide +kernel
theorem md_T_otherHinge_17 : decode mb_T_otherHinge 17 = .ok (.if_icmp .eq 23, 3) := by decide +kernel
theorem md_T_otherHinge_20 : decode mb_T_otherHinge 20 = .ok (.aload_n 0, 1) := by decide +kernel
theorem md_T_otherHinge_21 : decode mb_T_otherHinge 21 = .ok (.iload 4, 2) := by decide +kernel
theorem md_T_otherHinge_23 : decode mb_T_otherHinge 23 = .ok (.iload_n 1, 1) := by decide +kernel
theorem md_T_otherHinge_24 : decode mb_T_otherHinge 24 = .ok (.invokevirtual 75, 3) := by decide +kernel
theorem md_T_otherHinge_27 : decode mb_T_otherHinge 27 = .ok (.ifCond .eq 13, 3) := by decide +kernel
theorem md_T_otherHinge_30 : decode mb_T_otherHinge 30 = .ok (.iload_n 3, 1) := by decide +kernel
theorem md_T_otherHinge_31 : decode mb_T_otherHinge 31 = .ok (.ifCond .ne 6, 3) := by decide +kernel
theorem md_T_otherHinge_34 : decode mb_T_otherHinge 34 = .ok (.iload 4, 2) := by decide +kernel
theorem md_T_otherHinge_36 : decode mb_T_otherHinge 36 = .ok (.ireturn, 1) := by decide +kernel
theorem md_T_otherHinge_37 : decode mb_T_otherHinge 37 = .ok (.iinc 3 (-1), 3) := by decide +kernel
theorem md_T_otherHinge_40 : decode mb_T_otherHinge 40 = .ok (.iinc 4 1, 3) := by decide +kernel
theorem md_T_otherHinge_43 : decode mb_T_otherHinge 43 = .ok (.goto (-38), 3) := by decide +kernel
theorem md_T_otherHinge_46 : decode mb_T_otherHinge 46 = .ok (.iconst (-1), 1) := by decide +kernel
theorem md_T_otherHinge_47 : decode mb_T_otherHinge 47 = .ok (.ireturn, 1) := by decide +kernel
theorem md_T_canReplace_0 : decode mb_T_canReplace 0 = .ok (.aload_n 0, 1) := by decide +kernel
theorem md_T_canReplace_1 : decode mb_T_canReplace 1 = .ok (.iload_n 1, 1) := by decide +kernel
theorem md_T_canReplace_2 : decode mb_T_canReplace 2 = .ok (.bipush 104, 2) := by decide +kernel
theorem md_T_canReplace_4 : decode mb_T_canReplace 4 = .ok (.invokevirtual 67, 3) := by decide +kernel
theorem md_T_canReplace_7 : decode mb_T_canReplace 7 = .ok (.ifCond .eq 68, 3) := by decide +kernel
theorem md_T_canReplace_10 : decode mb_T_canReplace 10 = .ok (.aload_n 0, 1) := by decide +kernel
theorem md_T_canReplace_11 : decode mb_T_canReplace 11 = .ok (.iload_n 1, 1) := by decide +kernel
theorem md_T_canReplace_12 : decode mb_T_canReplace 12 = .ok (.iconst 0, 1) := by decide +kernel
theorem md_T_canReplace_13 : decode mb_T_canReplace 13 = .ok (.aload_n 0, 1) := by decide +kernel
theorem md_T_canReplace_14 : decode mb_T_canReplace 14 = .ok (.iload_n 2, 1) := by decide +kernel
theorem md_T_canReplace_15 : decode mb_T_canReplace 15 = .ok (.iconst 0, 1) := by decide +kernel
theorem md_T_canReplace_16 : decode mb_T_canReplace 16 = .ok (.invokevirtual 63, 3) := by decide +kernel
theorem md_T_canReplace_19 : decode mb_T_canReplace 19 = .ok (.i2l, 1) := by decide +kernel
theorem md_T_canReplace_20 : decode mb_T_canReplace 20 = .ok (.aload_n 0, 1) := by decide +kernel
theorem md_T_canReplace_21 : decode mb_T_canReplace 21 = .ok (.iload_n 2, 1) := by decide +kernel
theorem md_T_canReplace_22 : decode mb_T_canReplace 22 = .ok (.iconst 1, 1) := by decide +kernel
theorem md_T_canReplace_23 : decode mb_T_canReplace 23 = .ok (.invokevirtual 63, 3) := by decide +kernel
theorem md_T_canReplace_26 : decode mb_T_canReplace 26 = .ok (.i2l, 1) := by decide +kernel
theorem md_T_canReplace_27 : decode mb_T_canReplace 27 = .ok (.invokevirtual 71, 3) := by decide +kernel
theorem md_T_canReplace_30 : decode mb_T_canReplace 30 = .ok (.ifCond .eq 45, 3) := by decide +kernel
theorem md_T_canReplace_33 : decode mb_T_canReplace 33 = .ok (.aload_n 0, 1) := by decide +kernel
theorem md_T_canReplace_34 : decode mb_T_canReplace 34 = .ok (.iload_n 1, 1) := by decide +kernel
theorem md_T_canReplace_35 : decode mb_T_canReplace 35 = .ok (.iconst 2, 1) := by decide +kernel
theorem md_T_canReplace_36 : decode mb_T_canReplace 36 = .ok (.aload_n 0, 1) := by decide +kernel
theorem md_T_canReplace_37 : decode mb_T_canReplace 37 = .ok (.iload_n 2, 1) := by decide +kernel
theorem md_T_canReplace_38 : decode mb_T_canReplace 38 = .ok (.iconst 2, 1) := by decide +kernel
theorem md_T_canReplace_39 : decode mb_T_canReplace 39 = .ok (.invokevirtual 63, 3) := by decide +kernel
theorem md_T_canReplace_42 : decode mb_T_canReplace 42 = .ok (.i2l, 1) := by decide +kernel
theorem md_T_canReplace_43 : decode mb_T_canReplace 43 = .ok (.aload_n 0, 1) := by decide +kernel
theorem md_T_canReplace_44 : decode mb_T_canReplace 44 = .ok (.iload_n 2, 1) := by decide +kernel
theorem md_T_canReplace_45 : decode mb_T_canReplace 45 = .ok (.iconst 3, 1) := by decide +kernel
theorem md_T_canReplace_46 : decode mb_T_canReplace 46 = .ok (.invokevirtual 63, 3) := by decide +kernel
theorem md_T_canReplace_49 : decode mb_T_canReplace 49 = .ok (.i2l, 1) := by decide +kernel
theorem md_T_canReplace_50 : decode mb_T_canReplace 50 = .ok (.invokevirtual 71, 3) := by decide +kernel
theorem md_T_canReplace_53 : decode mb_T_canReplace 53 = .ok (.ifCond .eq 22, 3) := by decide +kernel
theorem md_T_canReplace_56 : decode mb_T_canReplace 56 = .ok (.aload_n 0, 1) := by decide +kernel
theorem md_T_canReplace_57 : decode mb_T_canReplace 57 = .ok (.iload_n 1, 1) := by decide +kernel
theorem md_T_canReplace_58 : decode mb_T_canReplace 58 = .ok (.iconst 4, 1) := by decide +kernel
theorem md_T_canReplace_59 : decode mb_T_canReplace 59 = .ok (.invokevirtual 63, 3) := by decide +kernel
theorem md_T_canReplace_62 : decode mb_T_canReplace 62 = .ok (.aload_n 0, 1) := by decide +kernel
theorem md_T_canReplace_63 : decode mb_T_canReplace 63 = .ok (.iload_n 2, 1) := by decide +kernel
theorem md_T_canReplace_64 : decode mb_T_canReplace 64 = .ok (.iconst 4, 1) := by decide +kernel
theorem md_T_canReplace_65 : decode mb_T_canReplace 65 = .ok (.invokevirtual 63, 3) := by decide +kernel
theorem md_T_canReplace_68 : decode mb_T_canReplace 68 = .ok (.if_icmp .lt 7, 3) := by decide +kernel
theorem md_T_canReplace_71 : decode mb_T_canReplace 71 = .ok (.iconst 1, 1) := by decide +kernel
theorem md_T_canReplace_72 : decode mb_T_canReplace 72 = .ok (.goto 4, 3) := by decide +kernel
theorem md_T_canReplace_75 : decode mb_T_canReplace 75 = .ok (.iconst 0, 1) := by decide +kernel
theorem md_T_canReplace_76 : decode mb_T_canReplace 76 = .ok (.ireturn, 1) := by decide +kernel
theorem md_T_longestSlide_0 : decode mb_T_longestSlide 0 = .ok (.iconst (-1), 1) := by decide +kernel
theorem md_T_longestSlide_1 : decode mb_T_longestSlide 1 = .ok (.istore_n 3, 1) := by decide +kernel
theorem md_T_longestSlide_2 : decode mb_T_longestSlide 2 = .ok (.iconst 0, 1) := by decide +kernel
theorem md_T_longestSlide_3 : decode mb_T_longestSlide 3 = .ok (.istore 4, 2) := by decide +kernel
theorem md_T_longestSlide_5 : decode mb_T_longestSlide 5 = .ok (.iload 4, 2) := by decide +kernel
theorem md_T_longestSlide_7 : decode mb_T_longestSlide 7 = .ok (.aload_n 0, 1) := by decide +kernel
theorem md_T_longestSlide_8 : decode mb_T_longestSlide 8 = .ok (.getfield 22, 3) := by decide +kernel
theorem md_T_longestSlide_11 : decode mb_T_longestSlide 11 = .ok (.if_icmp .ge 56, 3) := by decide +kernel
theorem md_T_longestSlide_14 : decode mb_T_longestSlide 14 = .ok (.aload_n 0, 1) := by decide +kernel
theorem md_T_longestSlide_15 : decode mb_T_longestSlide 15 = .ok (.iload 4, 2) := by decide +kernel
theorem md_T_longestSlide_17 : decode mb_T_longestSlide 17 = .ok (.bipush 115, 2) := by decide +kernel
theorem md_T_longestSlide_19 : decode mb_T_longestSlide 19 = .ok (.invokevirtual 67, 3) := by decide +kernel
theorem md_T_longestSlide_22 : decode mb_T_longestSlide 22 = .ok (.ifCond .eq 39, 3) := by decide +kernel
theorem md_T_longestSlide_25 : decode mb_T_longestSlide 25 = .ok (.aload_n 0, 1) := by decide +kernel
theorem md_T_longestSlide_26 : decode mb_T_longestSlide 26 = .ok (.iload 4, 2) := by decide +kernel
theorem md_T_longestSlide_28 : decode mb_T_longestSlide 28 = .ok (.iconst 0, 1) := by decide +kernel
theorem md_T_longestSlide_29 : decode mb_T_longestSlide 29 = .ok (.invokevirtual 63, 3) := by decide +kernel
theorem md_T_longestSlide_32 : decode mb_T_longestSlide 32 = .ok (.i2l, 1) := by decide +kernel
theorem md_T_longestSlide_33 : decode mb_T_longestSlide 33 = .ok (.lload_n 1, 1) := by decide +kernel
theorem md_T_longestSlide_34 : decode mb_T_longestSlide 34 = .ok (.lcmp, 1) := by decide +kernel
theorem md_T_longestSlide_35 : decode mb_T_longestSlide 35 = .ok (.ifCond .gt 26, 3) := by decide +kernel
theorem md_T_longestSlide_38 : decode mb_T_longestSlide 38 = .ok (.iload_n 3, 1) := by decide +kernel
theorem md_T_longestSlide_39 : decode mb_T_longestSlide 39 = .ok (.ifCond .lt 19, 3) := by decide +kernel
theorem md_T_longestSlide_42 : decode mb_T_longestSlide 42 = .ok (.aload_n 0, 1) := by decide +kernel
theorem md_T_longestSlide_43 : decode mb_T_longestSlide 43 = .ok (.iload 4, 2) := by decide +kernel
theorem md_T_longestSlide_45 : decode mb_T_longestSlide 45 = .ok (.iconst 0, 1) := by decide +kernel
theorem md_T_longestSlide_46 : decode mb_T_longestSlide 46 = .ok (.invokevirtual 63, 3) := by decide +kernel
theorem md_T_longestSlide_49 : decode mb_T_longestSlide 49 = .ok (.aload_n 0, 1) := by decide +kernel
theorem md_T_longestSlide_50 : decode mb_T_longestSlide 50 = .ok (.iload_n 3, 1) := by decide +kernel
theorem md_T_longestSlide_51 : decode mb_T_longestSlide 51 = .ok (.iconst 0, 1) := by decide +kernel
theorem md_T_longestSlide_52 : decode mb_T_longestSlide 52 = .ok (.invokevirtual 63, 3) := by decide +kernel
theorem md_T_longestSlide_55 : decode mb_T_longestSlide 55 = .ok (.if_icmp .le 6, 3) := by decide +kernel
theorem md_T_longestSlide_58 : decode mb_T_longestSlide 58 = .ok (.iload 4, 2) := by decide +kernel
theorem md_T_longestSlide_60 : decode mb_T_longestSlide 60 = .ok (.istore_n 3, 1) := by decide +kernel
theorem md_T_longestSlide_61 : decode mb_T_longestSlide 61 = .ok (.iinc 4 1, 3) := by decide +kernel
theorem md_T_longestSlide_64 : decode mb_T_longestSlide 64 = .ok (.goto (-59), 3) := by decide +kernel
theorem md_T_longestSlide_67 : decode mb_T_longestSlide 67 = .ok (.iload_n 3, 1) := by decide +kernel
theorem md_T_longestSlide_68 : decode mb_T_longestSlide 68 = .ok (.ireturn, 1) := by decide +kernel
theorem md_T_hingesOf_0 : decode mb_T_hingesOf 0 = .ok (.iconst 0, 1) := by decide +kernel
theorem md_T_hingesOf_1 : decode mb_T_hingesOf 1 = .ok (.istore_n 2, 1) := by decide +kernel
theorem md_T_hingesOf_2 : decode mb_T_hingesOf 2 = .ok (.iload_n 2, 1) := by decide +kernel
theorem md_T_hingesOf_3 : decode mb_T_hingesOf 3 = .ok (.aload_n 0, 1) := by decide +kernel
theorem md_T_hingesOf_4 : decode mb_T_hingesOf 4 = .ok (.getfield 22, 3) := by decide +kernel
theorem md_T_hingesOf_7 : decode mb_T_hingesOf 7 = .ok (.if_icmp .ge 65, 3) := by decide +kernel
theorem md_T_hingesOf_10 : decode mb_T_hingesOf 10 = .ok (.aload_n 0, 1) := by decide +kernel
theorem md_T_hingesOf_11 : decode mb_T_hingesOf 11 = .ok (.getfield 9, 3) := by decide +kernel
theorem md_T_hingesOf_14 : decode mb_T_hingesOf 14 = .ok (.iload_n 2, 1) := by decide +kernel
theorem md_T_hingesOf_15 : decode mb_T_hingesOf 15 = .ok (.caload, 1) := by decide +kernel
theorem md_T_hingesOf_16 : decode mb_T_hingesOf 16 = .ok (.bipush 99, 2) := by decide +kernel
theorem md_T_hingesOf_18 : decode mb_T_hingesOf 18 = .ok (.if_icmp .ne 48, 3) := by decide +kernel
theorem md_T_hingesOf_21 : decode mb_T_hingesOf 21 = .ok (.aload_n 0, 1) := by decide +kernel
theorem md_T_hingesOf_22 : decode mb_T_hingesOf 22 = .ok (.iload_n 2, 1) := by decide +kernel
theorem md_T_hingesOf_23 : decode mb_T_hingesOf 23 = .ok (.iconst 0, 1) := by decide +kernel
theorem md_T_hingesOf_24 : decode mb_T_hingesOf 24 = .ok (.invokevirtual 63, 3) := by decide +kernel
theorem md_T_hingesOf_27 : decode mb_T_hingesOf 27 = .ok (.i2l, 1) := by decide +kernel
theorem md_T_hingesOf_28 : decode mb_T_hingesOf 28 = .ok (.aload_n 1, 1) := by decide +kernel
theorem md_T_hingesOf_29 : decode mb_T_hingesOf 29 = .ok (.getfield 79, 3) := by decide +kernel
theorem md_T_hingesOf_32 : decode mb_T_hingesOf 32 = .ok (.lcmp, 1) := by decide +kernel
theorem md_T_hingesOf_33 : decode mb_T_hingesOf 33 = .ok (.ifCond .lt 33, 3) := by decide +kernel
theorem md_T_hingesOf_36 : decode mb_T_hingesOf 36 = .ok (.aload_n 0, 1) := by decide +kernel
theorem md_T_hingesOf_37 : decode mb_T_hingesOf 37 = .ok (.iload_n 2, 1) := by decide +kernel
theorem md_T_hingesOf_38 : decode mb_T_hingesOf 38 = .ok (.iconst 1, 1) := by decide +kernel
theorem md_T_hingesOf_39 : decode mb_T_hingesOf 39 = .ok (.invokevirtual 63, 3) := by decide +kernel
theorem md_T_hingesOf_42 : decode mb_T_hingesOf 42 = .ok (.i2l, 1) := by decide +kernel
theorem md_T_hingesOf_43 : decode mb_T_hingesOf 43 = .ok (.ldc2_w 85, 3) := by decide +kernel
theorem md_T_hingesOf_46 : decode mb_T_hingesOf 46 = .ok (.lmul, 1) := by decide +kernel
theorem md_T_hingesOf_47 : decode mb_T_hingesOf 47 = .ok (.ldc2_w 87, 3) := by decide +kernel
theorem md_T_hingesOf_50 : decode mb_T_hingesOf 50 = .ok (.lmul, 1) := by decide +kernel
theorem md_T_hingesOf_51 : decode mb_T_hingesOf 51 = .ok (.aload_n 1, 1) := by decide +kernel
theorem md_T_hingesOf_52 : decode mb_T_hingesOf 52 = .ok (.invokevirtual 89, 3) := by decide +kernel
theorem md_T_hingesOf_55 : decode mb_T_hingesOf 55 = .ok (.lcmp, 1) := by decide +kernel
theorem md_T_hingesOf_56 : decode mb_T_hingesOf 56 = .ok (.ifCond .lt 10, 3) := by decide +kernel
theorem md_T_hingesOf_59 : decode mb_T_hingesOf 59 = .ok (.aload_n 0, 1) := by decide +kernel
theorem md_T_hingesOf_60 : decode mb_T_hingesOf 60 = .ok (.iload_n 2, 1) := by decide +kernel
theorem md_T_hingesOf_61 : decode mb_T_hingesOf 61 = .ok (.iconst 2, 1) := by decide +kernel
theorem md_T_hingesOf_62 : decode mb_T_hingesOf 62 = .ok (.invokevirtual 63, 3) := by decide +kernel
theorem md_T_hingesOf_65 : decode mb_T_hingesOf 65 = .ok (.ireturn, 1) := by decide +kernel
theorem md_T_hingesOf_66 : decode mb_T_hingesOf 66 = .ok (.iinc 2 1, 3) := by decide +kernel
theorem md_T_hingesOf_69 : decode mb_T_hingesOf 69 = .ok (.goto (-67), 3) := by decide +kernel
theorem md_T_hingesOf_72 : decode mb_T_hingesOf 72 = .ok (.iconst (-1), 1) := by decide +kernel
theorem md_T_hingesOf_73 : decode mb_T_hingesOf 73 = .ok (.ireturn, 1) := by decide +kernel
