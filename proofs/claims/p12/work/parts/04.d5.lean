theorem md_M_turn_0 : decode mb_M_turn 0 = .ok (.aload_n 0, 1) := by decide +kernel
theorem md_M_turn_1 : decode mb_M_turn 1 = .ok (.getfield 51, 3) := by decide +kernel
theorem md_M_turn_4 : decode mb_M_turn 4 = .ok (.iload_n 1, 1) := by decide +kernel
theorem md_M_turn_5 : decode mb_M_turn 5 = .ok (.iload_n 2, 1) := by decide +kernel
theorem md_M_turn_6 : decode mb_M_turn 6 = .ok (.iastore, 1) := by decide +kernel
theorem md_M_turn_7 : decode mb_M_turn 7 = .ok (.aload_n 0, 1) := by decide +kernel
theorem md_M_turn_8 : decode mb_M_turn 8 = .ok (.getfield 54, 3) := by decide +kernel
theorem md_M_turn_11 : decode mb_M_turn 11 = .ok (.iload_n 1, 1) := by decide +kernel
theorem md_M_turn_12 : decode mb_M_turn 12 = .ok (.iload_n 3, 1) := by decide +kernel
theorem md_M_turn_13 : decode mb_M_turn 13 = .ok (.iastore, 1) := by decide +kernel
theorem md_M_turn_14 : decode mb_M_turn 14 = .ok (.return_, 1) := by decide +kernel
theorem md_M_thrown_0 : decode mb_M_thrown 0 = .ok (.aload_n 0, 1) := by decide +kernel
theorem md_M_thrown_1 : decode mb_M_thrown 1 = .ok (.getfield 61, 3) := by decide +kernel
theorem md_M_thrown_4 : decode mb_M_thrown 4 = .ok (.ireturn, 1) := by decide +kernel
theorem md_M_unit_0 : decode mb_M_unit 0 = .ok (.aload_n 0, 1) := by decide +kernel
theorem md_M_unit_1 : decode mb_M_unit 1 = .ok (.iconst 0, 1) := by decide +kernel
theorem md_M_unit_2 : decode mb_M_unit 2 = .ok (.putfield 61, 3) := by decide +kernel
theorem md_M_unit_5 : decode mb_M_unit 5 = .ok (.aload_n 0, 1) := by decide +kernel
theorem md_M_unit_6 : decode mb_M_unit 6 = .ok (.getfield 65, 3) := by decide +kernel
theorem md_M_unit_9 : decode mb_M_unit 9 = .ok (.sipush 300, 3) := by decide +kernel
theorem md_M_unit_12 : decode mb_M_unit 12 = .ok (.if_icmp .ge 19, 3) := by decide +kernel
theorem md_M_unit_15 : decode mb_M_unit 15 = .ok (.iload_n 1, 1) := by decide +kernel
theorem md_M_unit_16 : decode mb_M_unit 16 = .ok (.bipush 33, 2) := by decide +kernel
theorem md_M_unit_18 : decode mb_M_unit 18 = .ok (.if_icmp .lt 13, 3) := by decide +kernel
theorem md_M_unit_21 : decode mb_M_unit 21 = .ok (.iload_n 1, 1) := by decide +kernel
theorem md_M_unit_22 : decode mb_M_unit 22 = .ok (.bipush 126, 2) := by decide +kernel
theorem md_M_unit_24 : decode mb_M_unit 24 = .ok (.if_icmp .gt 7, 3) := by decide +kernel
theorem md_M_unit_27 : decode mb_M_unit 27 = .ok (.iconst 1, 1) := by decide +kernel
theorem md_M_unit_28 : decode mb_M_unit 28 = .ok (.goto 4, 3) := by decide +kernel
theorem md_M_unit_31 : decode mb_M_unit 31 = .ok (.iconst 0, 1) := by decide +kernel
theorem md_M_unit_32 : decode mb_M_unit 32 = .ok (.istore_n 2, 1) := by decide +kernel
theorem md_M_unit_33 : decode mb_M_unit 33 = .ok (.iload_n 2, 1) := by decide +kernel
theorem md_M_unit_34 : decode mb_M_unit 34 = .ok (.ifCond .eq 23, 3) := by decide +kernel
theorem md_M_unit_37 : decode mb_M_unit 37 = .ok (.aload_n 0, 1) := by decide +kernel
theorem md_M_unit_38 : decode mb_M_unit 38 = .ok (.getfield 7, 3) := by decide +kernel
theorem md_M_unit_41 : decode mb_M_unit 41 = .ok (.aload_n 0, 1) := by decide +kernel
theorem md_M_unit_42 : decode mb_M_unit 42 = .ok (.getfield 65, 3) := by decide +kernel
theorem md_M_unit_45 : decode mb_M_unit 45 = .ok (.iload_n 1, 1) := by decide +kernel
theorem md_M_unit_46 : decode mb_M_unit 46 = .ok (.iastore, 1) := by decide +kernel
theorem md_M_unit_47 : decode mb_M_unit 47 = .ok (.aload_n 0, 1) := by decide +kernel
theorem md_M_unit_48 : decode mb_M_unit 48 = .ok (.dup, 1) := by decide +kernel
theorem md_M_unit_49 : decode mb_M_unit 49 = .ok (.getfield 65, 3) := by decide +kernel
theorem md_M_unit_52 : decode mb_M_unit 52 = .ok (.iconst 1, 1) := by decide +kernel
theorem md_M_unit_53 : decode mb_M_unit 53 = .ok (.iadd, 1) := by decide +kernel
theorem md_M_unit_54 : decode mb_M_unit 54 = .ok (.putfield 65, 3) := by decide +kernel
theorem md_M_unit_57 : decode mb_M_unit 57 = .ok (.iload_n 2, 1) := by decide +kernel
theorem md_M_unit_58 : decode mb_M_unit 58 = .ok (.ireturn, 1) := by decide +kernel
theorem md_M_read_0 : decode mb_M_read 0 = .ok (.aload_n 0, 1) := by decide +kernel
theorem md_M_read_1 : decode mb_M_read 1 = .ok (.iconst 0, 1) := by decide +kernel
theorem md_M_read_2 : decode mb_M_read 2 = .ok (.putfield 61, 3) := by decide +kernel
theorem md_M_read_5 : decode mb_M_read 5 = .ok (.aload_n 0, 1) := by decide +kernel
theorem md_M_read_6 : decode mb_M_read 6 = .ok (.iconst 0, 1) := by decide +kernel
theorem md_M_read_7 : decode mb_M_read 7 = .ok (.putfield 68, 3) := by decide +kernel
theorem md_M_read_10 : decode mb_M_read 10 = .ok (.aload_n 0, 1) := by decide +kernel
theorem md_M_read_11 : decode mb_M_read 11 = .ok (.iconst (-1), 1) := by decide +kernel
theorem md_M_read_12 : decode mb_M_read 12 = .ok (.putfield 71, 3) := by decide +kernel
theorem md_M_read_15 : decode mb_M_read 15 = .ok (.aload_n 0, 1) := by decide +kernel
theorem md_M_read_16 : decode mb_M_read 16 = .ok (.iconst 0, 1) := by decide +kernel
theorem md_M_read_17 : decode mb_M_read 17 = .ok (.invokevirtual 95, 3) := by decide +kernel
theorem md_M_read_20 : decode mb_M_read 20 = .ok (.iconst 1, 1) := by decide +kernel
theorem md_M_read_21 : decode mb_M_read 21 = .ok (.istore_n 1, 1) := by decide +kernel
theorem md_M_read_22 : decode mb_M_read 22 = .ok (.aload_n 0, 1) := by decide +kernel
theorem md_M_read_23 : decode mb_M_read 23 = .ok (.getfield 71, 3) := by decide +kernel
theorem md_M_read_26 : decode mb_M_read 26 = .ok (.ifCond .ge 65, 3) := by decide +kernel
theorem md_M_read_29 : decode mb_M_read 29 = .ok (.aload_n 0, 1) := by decide +kernel
theorem md_M_read_30 : decode mb_M_read 30 = .ok (.getfield 68, 3) := by decide +kernel
theorem md_M_read_33 : decode mb_M_read 33 = .ok (.aload_n 0, 1) := by decide +kernel
theorem md_M_read_34 : decode mb_M_read 34 = .ok (.getfield 65, 3) := by decide +kernel
theorem md_M_read_37 : decode mb_M_read 37 = .ok (.if_icmp .ge 54, 3) := by decide +kernel
theorem md_M_read_40 : decode mb_M_read 40 = .ok (.aload_n 0, 1) := by decide +kernel
theorem md_M_read_41 : decode mb_M_read 41 = .ok (.invokevirtual 74, 3) := by decide +kernel
theorem md_M_read_44 : decode mb_M_read 44 = .ok (.bipush 59, 2) := by decide +kernel
theorem md_M_read_46 : decode mb_M_read 46 = .ok (.if_icmp .ne 9, 3) := by decide +kernel
theorem md_M_read_49 : decode mb_M_read 49 = .ok (.iload_n 1, 1) := by decide +kernel
theorem md_M_read_50 : decode mb_M_read 50 = .ok (.bipush 16, 2) := by decide +kernel
theorem md_M_read_52 : decode mb_M_read 52 = .ok (.if_icmp .ne 11, 3) := by decide +kernel
theorem md_M_read_55 : decode mb_M_read 55 = .ok (.aload_n 0, 1) := by decide +kernel
theorem md_M_read_56 : decode mb_M_read 56 = .ok (.aload_n 0, 1) := by decide +kernel
theorem md_M_read_57 : decode mb_M_read 57 = .ok (.getfield 68, 3) := by decide +kernel
theorem md_M_read_60 : decode mb_M_read 60 = .ok (.invokevirtual 78, 3) := by decide +kernel
theorem md_M_read_63 : decode mb_M_read 63 = .ok (.aload_n 0, 1) := by decide +kernel
theorem md_M_read_64 : decode mb_M_read 64 = .ok (.dup, 1) := by decide +kernel
theorem md_M_read_65 : decode mb_M_read 65 = .ok (.getfield 68, 3) := by decide +kernel
theorem md_M_read_68 : decode mb_M_read 68 = .ok (.iconst 1, 1) := by decide +kernel
theorem md_M_read_69 : decode mb_M_read 69 = .ok (.iadd, 1) := by decide +kernel
theorem md_M_read_70 : decode mb_M_read 70 = .ok (.putfield 68, 3) := by decide +kernel
theorem md_M_read_73 : decode mb_M_read 73 = .ok (.aload_n 0, 1) := by decide +kernel
theorem md_M_read_74 : decode mb_M_read 74 = .ok (.getfield 71, 3) := by decide +kernel
theorem md_M_read_77 : decode mb_M_read 77 = .ok (.ifCond .ge (-55), 3) := by decide +kernel
theorem md_M_read_80 : decode mb_M_read 80 = .ok (.aload_n 0, 1) := by decide +kernel
theorem md_M_read_81 : decode mb_M_read 81 = .ok (.iload_n 1, 1) := by decide +kernel
theorem md_M_read_82 : decode mb_M_read 82 = .ok (.invokevirtual 95, 3) := by decide +kernel
theorem md_M_read_85 : decode mb_M_read 85 = .ok (.iinc 1 1, 3) := by decide +kernel
theorem md_M_read_88 : decode mb_M_read 88 = .ok (.goto (-66), 3) := by decide +kernel
theorem md_M_read_91 : decode mb_M_read 91 = .ok (.aload_n 0, 1) := by decide +kernel
theorem md_M_read_92 : decode mb_M_read 92 = .ok (.iconst 0, 1) := by decide +kernel
theorem md_M_read_93 : decode mb_M_read 93 = .ok (.putfield 65, 3) := by decide +kernel
theorem md_M_read_96 : decode mb_M_read 96 = .ok (.aload_n 0, 1) := by decide +kernel
theorem md_M_read_97 : decode mb_M_read 97 = .ok (.getfield 71, 3) := by decide +kernel
theorem md_M_read_100 : decode mb_M_read 100 = .ok (.ifCond .lt 10, 3) := by decide +kernel
theorem md_M_read_103 : decode mb_M_read 103 = .ok (.iconst (-1), 1) := by decide +kernel
theorem md_M_read_104 : decode mb_M_read 104 = .ok (.aload_n 0, 1) := by decide +kernel
theorem md_M_read_105 : decode mb_M_read 105 = .ok (.getfield 71, 3) := by decide +kernel
theorem md_M_read_108 : decode mb_M_read 108 = .ok (.isub, 1) := by decide +kernel
theorem md_M_read_109 : decode mb_M_read 109 = .ok (.ireturn, 1) := by decide +kernel
theorem md_M_read_110 : decode mb_M_read 110 = .ok (.aload_n 0, 1) := by decide +kernel
theorem md_M_read_111 : decode mb_M_read 111 = .ok (.iload_n 1, 1) := by decide +kernel
theorem md_M_read_112 : decode mb_M_read 112 = .ok (.putfield 98, 3) := by decide +kernel
theorem md_M_read_115 : decode mb_M_read 115 = .ok (.iconst 0, 1) := by decide +kernel
theorem md_M_read_116 : decode mb_M_read 116 = .ok (.istore_n 2, 1) := by decide +kernel
theorem md_M_read_117 : decode mb_M_read 117 = .ok (.iload_n 2, 1) := by decide +kernel
theorem md_M_read_118 : decode mb_M_read 118 = .ok (.bipush 8, 2) := by decide +kernel
theorem md_M_read_120 : decode mb_M_read 120 = .ok (.iload_n 1, 1) := by decide +kernel
theorem md_M_read_121 : decode mb_M_read 121 = .ok (.imul, 1) := by decide +kernel
theorem md_M_read_122 : decode mb_M_read 122 = .ok (.if_icmp .ge 21, 3) := by decide +kernel
theorem md_M_read_125 : decode mb_M_read 125 = .ok (.aload_n 0, 1) := by decide +kernel
theorem md_M_read_126 : decode mb_M_read 126 = .ok (.getfield 13, 3) := by decide +kernel
theorem md_M_read_129 : decode mb_M_read 129 = .ok (.iload_n 2, 1) := by decide +kernel
theorem md_M_read_130 : decode mb_M_read 130 = .ok (.aload_n 0, 1) := by decide +kernel
theorem md_M_read_131 : decode mb_M_read 131 = .ok (.getfield 16, 3) := by decide +kernel
theorem md_M_read_134 : decode mb_M_read 134 = .ok (.iload_n 2, 1) := by decide +kernel
theorem md_M_read_135 : decode mb_M_read 135 = .ok (.iaload, 1) := by decide +kernel
theorem md_M_read_136 : decode mb_M_read 136 = .ok (.iastore, 1) := by decide +kernel
theorem md_M_read_137 : decode mb_M_read 137 = .ok (.iinc 2 1, 3) := by decide +kernel
theorem md_M_read_140 : decode mb_M_read 140 = .ok (.goto (-23), 3) := by decide +kernel
theorem md_M_read_143 : decode mb_M_read 143 = .ok (.iconst 0, 1) := by decide +kernel
theorem md_M_read_144 : decode mb_M_read 144 = .ok (.istore_n 2, 1) := by decide +kernel
theorem md_M_read_145 : decode mb_M_read 145 = .ok (.iload_n 2, 1) := by decide +kernel
theorem md_M_read_146 : decode mb_M_read 146 = .ok (.iload_n 1, 1) := by decide +kernel
theorem md_M_read_147 : decode mb_M_read 147 = .ok (.if_icmp .ge 17, 3) := by decide +kernel
theorem md_M_read_150 : decode mb_M_read 150 = .ok (.aload_n 0, 1) := by decide +kernel
theorem md_M_read_151 : decode mb_M_read 151 = .ok (.getfield 19, 3) := by decide +kernel
theorem md_M_read_154 : decode mb_M_read 154 = .ok (.iload_n 2, 1) := by decide +kernel
theorem md_M_read_155 : decode mb_M_read 155 = .ok (.bipush 9, 2) := by decide +kernel
theorem md_M_read_157 : decode mb_M_read 157 = .ok (.iastore, 1) := by decide +kernel
theorem md_M_read_158 : decode mb_M_read 158 = .ok (.iinc 2 1, 3) := by decide +kernel
theorem md_M_read_161 : decode mb_M_read 161 = .ok (.goto (-16), 3) := by decide +kernel
theorem md_M_read_164 : decode mb_M_read 164 = .ok (.iload_n 1, 1) := by decide +kernel
theorem md_M_read_165 : decode mb_M_read 165 = .ok (.ireturn, 1) := by decide +kernel
theorem md_M_readRow_0 : decode mb_M_readRow 0 = .ok (.aload_n 0, 1) := by decide +kernel
theorem md_M_readRow_1 : decode mb_M_readRow 1 = .ok (.invokevirtual 74, 3) := by decide +kernel
theorem md_M_readRow_4 : decode mb_M_readRow 4 = .ok (.istore_n 2, 1) := by decide +kernel
theorem md_M_readRow_5 : decode mb_M_readRow 5 = .ok (.iload_n 2, 1) := by decide +kernel
theorem md_M_readRow_6 : decode mb_M_readRow 6 = .ok (.invokestatic 82, 3) := by decide +kernel
theorem md_M_readRow_9 : decode mb_M_readRow 9 = .ok (.istore_n 3, 1) := by decide +kernel
theorem md_M_readRow_10 : decode mb_M_readRow 10 = .ok (.iload_n 3, 1) := by decide +kernel
theorem md_M_readRow_11 : decode mb_M_readRow 11 = .ok (.ifCond .ne 11, 3) := by decide +kernel
theorem md_M_readRow_14 : decode mb_M_readRow 14 = .ok (.aload_n 0, 1) := by decide +kernel
theorem md_M_readRow_15 : decode mb_M_readRow 15 = .ok (.aload_n 0, 1) := by decide +kernel
theorem md_M_readRow_16 : decode mb_M_readRow 16 = .ok (.getfield 68, 3) := by decide +kernel
theorem md_M_readRow_19 : decode mb_M_readRow 19 = .ok (.invokevirtual 78, 3) := by decide +kernel
theorem md_M_readRow_22 : decode mb_M_readRow 22 = .ok (.aload_n 0, 1) := by decide +kernel
theorem md_M_readRow_23 : decode mb_M_readRow 23 = .ok (.getfield 16, 3) := by decide +kernel
theorem md_M_readRow_26 : decode mb_M_readRow 26 = .ok (.bipush 8, 2) := by decide +kernel
theorem md_M_readRow_28 : decode mb_M_readRow 28 = .ok (.iload_n 1, 1) := by decide +kernel
theorem md_M_readRow_29 : decode mb_M_readRow 29 = .ok (.imul, 1) := by decide +kernel
theorem md_M_readRow_30 : decode mb_M_readRow 30 = .ok (.iload_n 2, 1) := by decide +kernel
theorem md_M_readRow_31 : decode mb_M_readRow 31 = .ok (.iastore, 1) := by decide +kernel
theorem md_M_readRow_32 : decode mb_M_readRow 32 = .ok (.aload_n 0, 1) := by decide +kernel
theorem md_M_readRow_33 : decode mb_M_readRow 33 = .ok (.getfield 16, 3) := by decide +kernel
theorem md_M_readRow_36 : decode mb_M_readRow 36 = .ok (.bipush 8, 2) := by decide +kernel
theorem md_M_readRow_38 : decode mb_M_readRow 38 = .ok (.iload_n 1, 1) := by decide +kernel
theorem md_M_readRow_39 : decode mb_M_readRow 39 = .ok (.imul, 1) := by decide +kernel
theorem md_M_readRow_40 : decode mb_M_readRow 40 = .ok (.iconst 1, 1) := by decide +kernel
theorem md_M_readRow_41 : decode mb_M_readRow 41 = .ok (.iadd, 1) := by decide +kernel
theorem md_M_readRow_42 : decode mb_M_readRow 42 = .ok (.iload_n 3, 1) := by decide +kernel
theorem md_M_readRow_43 : decode mb_M_readRow 43 = .ok (.iastore, 1) := by decide +kernel
theorem md_M_readRow_44 : decode mb_M_readRow 44 = .ok (.aload_n 0, 1) := by decide +kernel
theorem md_M_readRow_45 : decode mb_M_readRow 45 = .ok (.dup, 1) := by decide +kernel
theorem md_M_readRow_46 : decode mb_M_readRow 46 = .ok (.getfield 68, 3) := by decide +kernel
theorem md_M_readRow_49 : decode mb_M_readRow 49 = .ok (.iconst 1, 1) := by decide +kernel
theorem md_M_readRow_50 : decode mb_M_readRow 50 = .ok (.iadd, 1) := by decide +kernel
theorem md_M_readRow_51 : decode mb_M_readRow 51 = .ok (.putfield 68, 3) := by decide +kernel
theorem md_M_readRow_54 : decode mb_M_readRow 54 = .ok (.iconst 0, 1) := by decide +kernel
theorem md_M_readRow_55 : decode mb_M_readRow 55 = .ok (.istore 4, 2) := by decide +kernel
theorem md_M_readRow_57 : decode mb_M_readRow 57 = .ok (.iload 4, 2) := by decide +kernel
theorem md_M_readRow_59 : decode mb_M_readRow 59 = .ok (.iload_n 3, 1) := by decide +kernel
theorem md_M_readRow_60 : decode mb_M_readRow 60 = .ok (.if_icmp .ge 167, 3) := by decide +kernel
theorem md_M_readRow_63 : decode mb_M_readRow 63 = .ok (.aload_n 0, 1) := by decide +kernel
theorem md_M_readRow_64 : decode mb_M_readRow 64 = .ok (.getfield 71, 3) := by decide +kernel
theorem md_M_readRow_67 : decode mb_M_readRow 67 = .ok (.ifCond .ge 160, 3) := by decide +kernel
theorem md_M_readRow_70 : decode mb_M_readRow 70 = .ok (.iload 4, 2) := by decide +kernel
theorem md_M_readRow_72 : decode mb_M_readRow 72 = .ok (.ifCond .le 30, 3) := by decide +kernel
theorem md_M_readRow_75 : decode mb_M_readRow 75 = .ok (.aload_n 0, 1) := by decide +kernel
theorem md_M_readRow_76 : decode mb_M_readRow 76 = .ok (.invokevirtual 74, 3) := by decide +kernel
theorem md_M_readRow_79 : decode mb_M_readRow 79 = .ok (.bipush 44, 2) := by decide +kernel
theorem md_M_readRow_81 : decode mb_M_readRow 81 = .ok (.if_icmp .eq 11, 3) := by decide +kernel
theorem md_M_readRow_84 : decode mb_M_readRow 84 = .ok (.aload_n 0, 1) := by decide +kernel
theorem md_M_readRow_85 : decode mb_M_readRow 85 = .ok (.aload_n 0, 1) := by decide +kernel
theorem md_M_readRow_86 : decode mb_M_readRow 86 = .ok (.getfield 68, 3) := by decide +kernel
theorem md_M_readRow_89 : decode mb_M_readRow 89 = .ok (.invokevirtual 78, 3) := by decide +kernel
theorem md_M_readRow_92 : decode mb_M_readRow 92 = .ok (.aload_n 0, 1) := by decide +kernel
theorem md_M_readRow_93 : decode mb_M_readRow 93 = .ok (.dup, 1) := by decide +kernel
theorem md_M_readRow_94 : decode mb_M_readRow 94 = .ok (.getfield 68, 3) := by decide +kernel
theorem md_M_readRow_97 : decode mb_M_readRow 97 = .ok (.iconst 1, 1) := by decide +kernel
theorem md_M_readRow_98 : decode mb_M_readRow 98 = .ok (.iadd, 1) := by decide +kernel
theorem md_M_readRow_99 : decode mb_M_readRow 99 = .ok (.putfield 68, 3) := by decide +kernel
theorem md_M_readRow_102 : decode mb_M_readRow 102 = .ok (.aload_n 0, 1) := by decide +kernel
theorem md_M_readRow_103 : decode mb_M_readRow 103 = .ok (.getfield 68, 3) := by decide +kernel
theorem md_M_readRow_106 : decode mb_M_readRow 106 = .ok (.istore 5, 2) := by decide +kernel
theorem md_M_readRow_108 : decode mb_M_readRow 108 = .ok (.aload_n 0, 1) := by decide +kernel
theorem md_M_readRow_109 : decode mb_M_readRow 109 = .ok (.getfield 71, 3) := by decide +kernel
theorem md_M_readRow_112 : decode mb_M_readRow 112 = .ok (.ifCond .ge 10, 3) := by decide +kernel
theorem md_M_readRow_115 : decode mb_M_readRow 115 = .ok (.aload_n 0, 1) := by decide +kernel
theorem md_M_readRow_116 : decode mb_M_readRow 116 = .ok (.invokevirtual 86, 3) := by decide +kernel
theorem md_M_readRow_119 : decode mb_M_readRow 119 = .ok (.goto 4, 3) := by decide +kernel
theorem md_M_readRow_122 : decode mb_M_readRow 122 = .ok (.iconst 0, 1) := by decide +kernel
theorem md_M_readRow_123 : decode mb_M_readRow 123 = .ok (.istore 6, 2) := by decide +kernel
theorem md_M_readRow_125 : decode mb_M_readRow 125 = .ok (.iload_n 2, 1) := by decide +kernel
theorem md_M_readRow_126 : decode mb_M_readRow 126 = .ok (.bipush 104, 2) := by decide +kernel
theorem md_M_readRow_128 : decode mb_M_readRow 128 = .ok (.if_icmp .ne 38, 3) := by decide +kernel
theorem md_M_readRow_131 : decode mb_M_readRow 131 = .ok (.iload 4, 2) := by decide +kernel
theorem md_M_readRow_133 : decode mb_M_readRow 133 = .ok (.iconst 1, 1) := by decide +kernel
theorem md_M_readRow_134 : decode mb_M_readRow 134 = .ok (.if_icmp .eq 9, 3) := by decide +kernel
theorem md_M_readRow_137 : decode mb_M_readRow 137 = .ok (.iload 4, 2) := by decide +kernel
theorem md_M_readRow_139 : decode mb_M_readRow 139 = .ok (.iconst 3, 1) := by decide +kernel
theorem md_M_readRow_140 : decode mb_M_readRow 140 = .ok (.if_icmp .ne 26, 3) := by decide +kernel
theorem md_M_readRow_143 : decode mb_M_readRow 143 = .ok (.iload 6, 2) := by decide +kernel
theorem md_M_readRow_145 : decode mb_M_readRow 145 = .ok (.aload_n 0, 1) := by decide +kernel
theorem md_M_readRow_146 : decode mb_M_readRow 146 = .ok (.getfield 16, 3) := by decide +kernel
theorem md_M_readRow_149 : decode mb_M_readRow 149 = .ok (.bipush 8, 2) := by decide +kernel
theorem md_M_readRow_151 : decode mb_M_readRow 151 = .ok (.iload_n 1, 1) := by decide +kernel
theorem md_M_readRow_152 : decode mb_M_readRow 152 = .ok (.imul, 1) := by decide +kernel
theorem md_M_readRow_153 : decode mb_M_readRow 153 = .ok (.iconst 1, 1) := by decide +kernel
theorem md_M_readRow_154 : decode mb_M_readRow 154 = .ok (.iadd, 1) := by decide +kernel
theorem md_M_readRow_155 : decode mb_M_readRow 155 = .ok (.iload 4, 2) := by decide +kernel
theorem md_M_readRow_157 : decode mb_M_readRow 157 = .ok (.iadd, 1) := by decide +kernel
theorem md_M_readRow_158 : decode mb_M_readRow 158 = .ok (.iaload, 1) := by decide +kernel
theorem md_M_readRow_159 : decode mb_M_readRow 159 = .ok (.if_icmp .ge 7, 3) := by decide +kernel
theorem md_M_readRow_162 : decode mb_M_readRow 162 = .ok (.iconst 1, 1) := by decide +kernel
theorem md_M_readRow_163 : decode mb_M_readRow 163 = .ok (.goto 4, 3) := by decide +kernel
theorem md_M_readRow_166 : decode mb_M_readRow 166 = .ok (.iconst 0, 1) := by decide +kernel
theorem md_M_readRow_167 : decode mb_M_readRow 167 = .ok (.istore 7, 2) := by decide +kernel
theorem md_M_readRow_169 : decode mb_M_readRow 169 = .ok (.iload 7, 2) := by decide +kernel
theorem md_M_readRow_171 : decode mb_M_readRow 171 = .ok (.ifCond .ne 28, 3) := by decide +kernel
theorem md_M_readRow_174 : decode mb_M_readRow 174 = .ok (.iload_n 2, 1) := by decide +kernel
theorem md_M_readRow_175 : decode mb_M_readRow 175 = .ok (.bipush 99, 2) := by decide +kernel
theorem md_M_readRow_177 : decode mb_M_readRow 177 = .ok (.if_icmp .ne 28, 3) := by decide +kernel
theorem md_M_readRow_180 : decode mb_M_readRow 180 = .ok (.iload 4, 2) := by decide +kernel
theorem md_M_readRow_182 : decode mb_M_readRow 182 = .ok (.iconst 2, 1) := by decide +kernel
theorem md_M_readRow_183 : decode mb_M_readRow 183 = .ok (.if_icmp .ne 22, 3) := by decide +kernel
theorem md_M_readRow_186 : decode mb_M_readRow 186 = .ok (.iload 6, 2) := by decide +kernel
theorem md_M_readRow_188 : decode mb_M_readRow 188 = .ok (.i2l, 1) := by decide +kernel
theorem md_M_readRow_189 : decode mb_M_readRow 189 = .ok (.lconst 1, 1) := by decide +kernel
theorem md_M_readRow_190 : decode mb_M_readRow 190 = .ok (.ldc2_w 89, 3) := by decide +kernel
theorem md_M_readRow_193 : decode mb_M_readRow 193 = .ok (.invokestatic 91, 3) := by decide +kernel
theorem md_M_readRow_196 : decode mb_M_readRow 196 = .ok (.ifCond .ne 9, 3) := by decide +kernel
theorem md_M_readRow_199 : decode mb_M_readRow 199 = .ok (.aload_n 0, 1) := by decide +kernel
theorem md_M_readRow_200 : decode mb_M_readRow 200 = .ok (.iload 5, 2) := by decide +kernel
theorem md_M_readRow_202 : decode mb_M_readRow 202 = .ok (.invokevirtual 78, 3) := by decide +kernel
theorem md_M_readRow_205 : decode mb_M_readRow 205 = .ok (.aload_n 0, 1) := by decide +kernel
theorem md_M_readRow_206 : decode mb_M_readRow 206 = .ok (.getfield 16, 3) := by decide +kernel
theorem md_M_readRow_209 : decode mb_M_readRow 209 = .ok (.bipush 8, 2) := by decide +kernel
theorem md_M_readRow_211 : decode mb_M_readRow 211 = .ok (.iload_n 1, 1) := by decide +kernel
theorem md_M_readRow_212 : decode mb_M_readRow 212 = .ok (.imul, 1) := by decide +kernel
theorem md_M_readRow_213 : decode mb_M_readRow 213 = .ok (.iconst 2, 1) := by decide +kernel
theorem md_M_readRow_214 : decode mb_M_readRow 214 = .ok (.iadd, 1) := by decide +kernel
theorem md_M_readRow_215 : decode mb_M_readRow 215 = .ok (.iload 4, 2) := by decide +kernel
theorem md_M_readRow_217 : decode mb_M_readRow 217 = .ok (.iadd, 1) := by decide +kernel
theorem md_M_readRow_218 : decode mb_M_readRow 218 = .ok (.iload 6, 2) := by decide +kernel
theorem md_M_readRow_220 : decode mb_M_readRow 220 = .ok (.iastore, 1) := by decide +kernel
theorem md_M_readRow_221 : decode mb_M_readRow 221 = .ok (.iinc 4 1, 3) := by decide +kernel
theorem md_M_readRow_224 : decode mb_M_readRow 224 = .ok (.goto (-167), 3) := by decide +kernel
theorem md_M_readRow_227 : decode mb_M_readRow 227 = .ok (.return_, 1) := by decide +kernel
theorem md_M_sizeOf_0 : decode mb_M_sizeOf 0 = .ok (.iload_n 0, 1) := by decide +kernel
theorem md_M_sizeOf_1 : decode mb_M_sizeOf 1 = .ok (.bipush 104, 2) := by decide +kernel
theorem md_M_sizeOf_3 : decode mb_M_sizeOf 3 = .ok (.if_icmp .ne 8, 3) := by decide +kernel
theorem md_M_sizeOf_6 : decode mb_M_sizeOf 6 = .ok (.bipush 6, 2) := by decide +kernel
theorem md_M_sizeOf_8 : decode mb_M_sizeOf 8 = .ok (.goto 24, 3) := by decide +kernel
theorem md_M_sizeOf_11 : decode mb_M_sizeOf 11 = .ok (.iload_n 0, 1) := by decide +kernel
theorem md_M_sizeOf_12 : decode mb_M_sizeOf 12 = .ok (.bipush 115, 2) := by decide +kernel
theorem md_M_sizeOf_14 : decode mb_M_sizeOf 14 = .ok (.if_icmp .ne 7, 3) := by decide +kernel
theorem md_M_sizeOf_17 : decode mb_M_sizeOf 17 = .ok (.iconst 2, 1) := by decide +kernel
theorem md_M_sizeOf_18 : decode mb_M_sizeOf 18 = .ok (.goto 14, 3) := by decide +kernel
theorem md_M_sizeOf_21 : decode mb_M_sizeOf 21 = .ok (.iload_n 0, 1) := by decide +kernel
theorem md_M_sizeOf_22 : decode mb_M_sizeOf 22 = .ok (.bipush 99, 2) := by decide +kernel
theorem md_M_sizeOf_24 : decode mb_M_sizeOf 24 = .ok (.if_icmp .ne 7, 3) := by decide +kernel
theorem md_M_sizeOf_27 : decode mb_M_sizeOf 27 = .ok (.iconst 3, 1) := by decide +kernel
theorem md_M_sizeOf_28 : decode mb_M_sizeOf 28 = .ok (.goto 4, 3) := by decide +kernel
theorem md_M_sizeOf_31 : decode mb_M_sizeOf 31 = .ok (.iconst 0, 1) := by decide +kernel
theorem md_M_sizeOf_32 : decode mb_M_sizeOf 32 = .ok (.ireturn, 1) := by decide +kernel
theorem md_M_readNumber_0 : decode mb_M_readNumber 0 = .ok (.iconst 0, 1) := by decide +kernel
theorem md_M_readNumber_1 : decode mb_M_readNumber 1 = .ok (.istore_n 1, 1) := by decide +kernel
theorem md_M_readNumber_2 : decode mb_M_readNumber 2 = .ok (.iconst 0, 1) := by decide +kernel
theorem md_M_readNumber_3 : decode mb_M_readNumber 3 = .ok (.istore_n 2, 1) := by decide +kernel
theorem md_M_readNumber_4 : decode mb_M_readNumber 4 = .ok (.iload_n 2, 1) := by decide +kernel
theorem md_M_readNumber_5 : decode mb_M_readNumber 5 = .ok (.iconst 5, 1) := by decide +kernel
theorem md_M_readNumber_6 : decode mb_M_readNumber 6 = .ok (.if_icmp .ge 50, 3) := by decide +kernel
theorem md_M_readNumber_9 : decode mb_M_readNumber 9 = .ok (.aload_n 0, 1) := by decide +kernel
theorem md_M_readNumber_10 : decode mb_M_readNumber 10 = .ok (.invokevirtual 74, 3) := by decide +kernel
theorem md_M_readNumber_13 : decode mb_M_readNumber 13 = .ok (.bipush 48, 2) := by decide +kernel
theorem md_M_readNumber_15 : decode mb_M_readNumber 15 = .ok (.if_icmp .lt 41, 3) := by decide +kernel
theorem md_M_readNumber_18 : decode mb_M_readNumber 18 = .ok (.aload_n 0, 1) := by decide +kernel
theorem md_M_readNumber_19 : decode mb_M_readNumber 19 = .ok (.invokevirtual 74, 3) := by decide +kernel
theorem md_M_readNumber_22 : decode mb_M_readNumber 22 = .ok (.bipush 57, 2) := by decide +kernel
theorem md_M_readNumber_24 : decode mb_M_readNumber 24 = .ok (.if_icmp .gt 32, 3) := by decide +kernel
theorem md_M_readNumber_27 : decode mb_M_readNumber 27 = .ok (.bipush 10, 2) := by decide +kernel
theorem md_M_readNumber_29 : decode mb_M_readNumber 29 = .ok (.iload_n 1, 1) := by decide +kernel
theorem md_M_readNumber_30 : decode mb_M_readNumber 30 = .ok (.imul, 1) := by decide +kernel
theorem md_M_readNumber_31 : decode mb_M_readNumber 31 = .ok (.aload_n 0, 1) := by decide +kernel
theorem md_M_readNumber_32 : decode mb_M_readNumber 32 = .ok (.invokevirtual 74, 3) := by decide +kernel
theorem md_M_readNumber_35 : decode mb_M_readNumber 35 = .ok (.iadd, 1) := by decide +kernel
theorem md_M_readNumber_36 : decode mb_M_readNumber 36 = .ok (.bipush 48, 2) := by decide +kernel
theorem md_M_readNumber_38 : decode mb_M_readNumber 38 = .ok (.isub, 1) := by decide +kernel
theorem md_M_readNumber_39 : decode mb_M_readNumber 39 = .ok (.istore_n 1, 1) := by decide +kernel
theorem md_M_readNumber_40 : decode mb_M_readNumber 40 = .ok (.iinc 2 1, 3) := by decide +kernel
theorem md_M_readNumber_43 : decode mb_M_readNumber 43 = .ok (.aload_n 0, 1) := by decide +kernel
theorem md_M_readNumber_44 : decode mb_M_readNumber 44 = .ok (.dup, 1) := by decide +kernel
theorem md_M_readNumber_45 : decode mb_M_readNumber 45 = .ok (.getfield 68, 3) := by decide +kernel
theorem md_M_readNumber_48 : decode mb_M_readNumber 48 = .ok (.iconst 1, 1) := by decide +kernel
theorem md_M_readNumber_49 : decode mb_M_readNumber 49 = .ok (.iadd, 1) := by decide +kernel
theorem md_M_readNumber_50 : decode mb_M_readNumber 50 = .ok (.putfield 68, 3) := by decide +kernel
theorem md_M_readNumber_53 : decode mb_M_readNumber 53 = .ok (.goto (-49), 3) := by decide +kernel
theorem md_M_readNumber_56 : decode mb_M_readNumber 56 = .ok (.iload_n 2, 1) := by decide +kernel
theorem md_M_readNumber_57 : decode mb_M_readNumber 57 = .ok (.ifCond .ne 11, 3) := by decide +kernel
theorem md_M_readNumber_60 : decode mb_M_readNumber 60 = .ok (.aload_n 0, 1) := by decide +kernel
theorem md_M_readNumber_61 : decode mb_M_readNumber 61 = .ok (.aload_n 0, 1) := by decide +kernel
theorem md_M_readNumber_62 : decode mb_M_readNumber 62 = .ok (.getfield 68, 3) := by decide +kernel
theorem md_M_readNumber_65 : decode mb_M_readNumber 65 = .ok (.invokevirtual 78, 3) := by decide +kernel
theorem md_M_readNumber_68 : decode mb_M_readNumber 68 = .ok (.iload_n 1, 1) := by decide +kernel
theorem md_M_readNumber_69 : decode mb_M_readNumber 69 = .ok (.ireturn, 1) := by decide +kernel
theorem md_M_row_0 : decode mb_M_row 0 = .ok (.aload_n 0, 1) := by decide +kernel
theorem md_M_row_1 : decode mb_M_row 1 = .ok (.aload_n 0, 1) := by decide +kernel
theorem md_M_row_2 : decode mb_M_row 2 = .ok (.iload_n 1, 1) := by decide +kernel
theorem md_M_row_3 : decode mb_M_row 3 = .ok (.invokevirtual 101, 3) := by decide +kernel
theorem md_M_row_6 : decode mb_M_row 6 = .ok (.putfield 61, 3) := by decide +kernel
theorem md_M_row_9 : decode mb_M_row 9 = .ok (.aload_n 0, 1) := by decide +kernel
theorem md_M_row_10 : decode mb_M_row 10 = .ok (.getfield 61, 3) := by decide +kernel
theorem md_M_row_13 : decode mb_M_row 13 = .ok (.ifCond .le 5, 3) := by decide +kernel
theorem md_M_row_16 : decode mb_M_row 16 = .ok (.iconst 0, 1) := by decide +kernel
theorem md_M_row_17 : decode mb_M_row 17 = .ok (.ireturn, 1) := by decide +kernel
theorem md_M_row_18 : decode mb_M_row 18 = .ok (.aload_n 0, 1) := by decide +kernel
theorem md_M_row_19 : decode mb_M_row 19 = .ok (.iload_n 2, 1) := by decide +kernel
theorem md_M_row_20 : decode mb_M_row 20 = .ok (.iconst (-1), 1) := by decide +kernel
theorem md_M_row_21 : decode mb_M_row 21 = .ok (.if_icmp .lt 18, 3) := by decide +kernel
theorem md_M_row_24 : decode mb_M_row 24 = .ok (.iload_n 2, 1) := by decide +kernel
theorem md_M_row_25 : decode mb_M_row 25 = .ok (.aload_n 0, 1) := by decide +kernel
theorem md_M_row_26 : decode mb_M_row 26 = .ok (.getfield 13, 3) := by decide +kernel
theorem md_M_row_29 : decode mb_M_row 29 = .ok (.bipush 8, 2) := by decide +kernel
theorem md_M_row_31 : decode mb_M_row 31 = .ok (.iload_n 1, 1) := by decide +kernel
theorem md_M_row_32 : decode mb_M_row 32 = .ok (.imul, 1) := by decide +kernel
theorem md_M_row_33 : decode mb_M_row 33 = .ok (.iconst 1, 1) := by decide +kernel
theorem md_M_row_34 : decode mb_M_row 34 = .ok (.iadd, 1) := by decide +kernel
theorem md_M_row_35 : decode mb_M_row 35 = .ok (.iaload, 1) := by decide +kernel
theorem md_M_row_36 : decode mb_M_row 36 = .ok (.if_icmp .lt 7, 3) := by decide +kernel
theorem md_M_row_39 : decode mb_M_row 39 = .ok (.iconst 2, 1) := by decide +kernel
theorem md_M_row_40 : decode mb_M_row 40 = .ok (.goto 4, 3) := by decide +kernel
theorem md_M_row_43 : decode mb_M_row 43 = .ok (.iconst 0, 1) := by decide +kernel
theorem md_M_row_44 : decode mb_M_row 44 = .ok (.putfield 61, 3) := by decide +kernel
theorem md_M_row_47 : decode mb_M_row 47 = .ok (.aload_n 0, 1) := by decide +kernel
theorem md_M_row_48 : decode mb_M_row 48 = .ok (.getfield 61, 3) := by decide +kernel
theorem md_M_row_51 : decode mb_M_row 51 = .ok (.ifCond .le 7, 3) := by decide +kernel
theorem md_M_row_54 : decode mb_M_row 54 = .ok (.iconst 0, 1) := by decide +kernel
theorem md_M_row_55 : decode mb_M_row 55 = .ok (.goto 33, 3) := by decide +kernel
theorem md_M_row_58 : decode mb_M_row 58 = .ok (.iload_n 2, 1) := by decide +kernel
theorem md_M_row_59 : decode mb_M_row 59 = .ok (.iconst (-1), 1) := by decide +kernel
theorem md_M_row_60 : decode mb_M_row 60 = .ok (.if_icmp .ne 15, 3) := by decide +kernel
theorem md_M_row_63 : decode mb_M_row 63 = .ok (.aload_n 0, 1) := by decide +kernel
theorem md_M_row_64 : decode mb_M_row 64 = .ok (.getfield 13, 3) := by decide +kernel
theorem md_M_row_67 : decode mb_M_row 67 = .ok (.bipush 8, 2) := by decide +kernel
theorem md_M_row_69 : decode mb_M_row 69 = .ok (.iload_n 1, 1) := by decide +kernel
theorem md_M_row_70 : decode mb_M_row 70 = .ok (.imul, 1) := by decide +kernel
theorem md_M_row_71 : decode mb_M_row 71 = .ok (.iaload, 1) := by decide +kernel
theorem md_M_row_72 : decode mb_M_row 72 = .ok (.goto 16, 3) := by decide +kernel
theorem md_M_row_75 : decode mb_M_row 75 = .ok (.aload_n 0, 1) := by decide +kernel
theorem md_M_row_76 : decode mb_M_row 76 = .ok (.getfield 13, 3) := by decide +kernel
theorem md_M_row_79 : decode mb_M_row 79 = .ok (.bipush 8, 2) := by decide +kernel
theorem md_M_row_81 : decode mb_M_row 81 = .ok (.iload_n 1, 1) := by decide +kernel
theorem md_M_row_82 : decode mb_M_row 82 = .ok (.imul, 1) := by decide +kernel
theorem md_M_row_83 : decode mb_M_row 83 = .ok (.iconst 2, 1) := by decide +kernel
theorem md_M_row_84 : decode mb_M_row 84 = .ok (.iadd, 1) := by decide +kernel
theorem md_M_row_85 : decode mb_M_row 85 = .ok (.iload_n 2, 1) := by decide +kernel
theorem md_M_row_86 : decode mb_M_row 86 = .ok (.iadd, 1) := by decide +kernel
theorem md_M_row_87 : decode mb_M_row 87 = .ok (.iaload, 1) := by decide +kernel
theorem md_M_row_88 : decode mb_M_row 88 = .ok (.ireturn, 1) := by decide +kernel
theorem md_M_rowCode_0 : decode mb_M_rowCode 0 = .ok (.aload_n 0, 1) := by decide +kernel
theorem md_M_rowCode_1 : decode mb_M_rowCode 1 = .ok (.getfield 98, 3) := by decide +kernel
theorem md_M_rowCode_4 : decode mb_M_rowCode 4 = .ok (.ifCond .ne 7, 3) := by decide +kernel
theorem md_M_rowCode_7 : decode mb_M_rowCode 7 = .ok (.iconst 1, 1) := by decide +kernel
theorem md_M_rowCode_8 : decode mb_M_rowCode 8 = .ok (.goto 20, 3) := by decide +kernel
theorem md_M_rowCode_11 : decode mb_M_rowCode 11 = .ok (.iload_n 1, 1) := by decide +kernel
theorem md_M_rowCode_12 : decode mb_M_rowCode 12 = .ok (.ifCond .lt 11, 3) := by decide +kernel
theorem md_M_rowCode_15 : decode mb_M_rowCode 15 = .ok (.iload_n 1, 1) := by decide +kernel
theorem md_M_rowCode_16 : decode mb_M_rowCode 16 = .ok (.aload_n 0, 1) := by decide +kernel
theorem md_M_rowCode_17 : decode mb_M_rowCode 17 = .ok (.getfield 98, 3) := by decide +kernel
theorem md_M_rowCode_20 : decode mb_M_rowCode 20 = .ok (.if_icmp .lt 7, 3) := by decide +kernel
theorem md_M_rowCode_23 : decode mb_M_rowCode 23 = .ok (.iconst 2, 1) := by decide +kernel
theorem md_M_rowCode_24 : decode mb_M_rowCode 24 = .ok (.goto 4, 3) := by decide +kernel
theorem md_M_rowCode_27 : decode mb_M_rowCode 27 = .ok (.iconst 0, 1) := by decide +kernel
theorem md_M_rowCode_28 : decode mb_M_rowCode 28 = .ok (.ireturn, 1) := by decide +kernel
theorem md_M_stock_0 : decode mb_M_stock 0 = .ok (.aload_n 0, 1) := by decide +kernel
theorem md_M_stock_1 : decode mb_M_stock 1 = .ok (.aload_n 0, 1) := by decide +kernel
theorem md_M_stock_2 : decode mb_M_stock 2 = .ok (.iload_n 1, 1) := by decide +kernel
theorem md_M_stock_3 : decode mb_M_stock 3 = .ok (.invokevirtual 101, 3) := by decide +kernel
theorem md_M_stock_6 : decode mb_M_stock 6 = .ok (.putfield 61, 3) := by decide +kernel
theorem md_M_stock_9 : decode mb_M_stock 9 = .ok (.aload_n 0, 1) := by decide +kernel
theorem md_M_stock_10 : decode mb_M_stock 10 = .ok (.getfield 61, 3) := by decide +kernel
theorem md_M_stock_13 : decode mb_M_stock 13 = .ok (.ifCond .le 5, 3) := by decide +kernel
theorem md_M_stock_16 : decode mb_M_stock 16 = .ok (.iconst 0, 1) := by decide +kernel
theorem md_M_stock_17 : decode mb_M_stock 17 = .ok (.ireturn, 1) := by decide +kernel
theorem md_M_stock_18 : decode mb_M_stock 18 = .ok (.aload_n 0, 1) := by decide +kernel
theorem md_M_stock_19 : decode mb_M_stock 19 = .ok (.iload_n 2, 1) := by decide +kernel
theorem md_M_stock_20 : decode mb_M_stock 20 = .ok (.i2l, 1) := by decide +kernel
theorem md_M_stock_21 : decode mb_M_stock 21 = .ok (.lconst 0, 1) := by decide +kernel
theorem md_M_stock_22 : decode mb_M_stock 22 = .ok (.ldc2_w 104, 3) := by decide +kernel
theorem md_M_stock_25 : decode mb_M_stock 25 = .ok (.invokestatic 91, 3) := by decide +kernel
theorem md_M_stock_28 : decode mb_M_stock 28 = .ok (.ifCond .eq 7, 3) := by decide +kernel
theorem md_M_stock_31 : decode mb_M_stock 31 = .ok (.iconst 0, 1) := by decide +kernel
theorem md_M_stock_32 : decode mb_M_stock 32 = .ok (.goto 4, 3) := by decide +kernel
theorem md_M_stock_35 : decode mb_M_stock 35 = .ok (.iconst 3, 1) := by decide +kernel
theorem md_M_stock_36 : decode mb_M_stock 36 = .ok (.putfield 61, 3) := by decide +kernel
theorem md_M_stock_39 : decode mb_M_stock 39 = .ok (.aload_n 0, 1) := by decide +kernel
theorem md_M_stock_40 : decode mb_M_stock 40 = .ok (.getfield 61, 3) := by decide +kernel
theorem md_M_stock_43 : decode mb_M_stock 43 = .ok (.ifCond .gt 13, 3) := by decide +kernel
theorem md_M_stock_46 : decode mb_M_stock 46 = .ok (.aload_n 0, 1) := by decide +kernel
theorem md_M_stock_47 : decode mb_M_stock 47 = .ok (.getfield 19, 3) := by decide +kernel
theorem md_M_stock_50 : decode mb_M_stock 50 = .ok (.iload_n 1, 1) := by decide +kernel
theorem md_M_stock_51 : decode mb_M_stock 51 = .ok (.iaload, 1) := by decide +kernel
theorem md_M_stock_52 : decode mb_M_stock 52 = .ok (.iload_n 2, 1) := by decide +kernel
theorem md_M_stock_53 : decode mb_M_stock 53 = .ok (.if_icmp .ne 5, 3) := by decide +kernel
theorem md_M_stock_56 : decode mb_M_stock 56 = .ok (.iconst 0, 1) := by decide +kernel
theorem md_M_stock_57 : decode mb_M_stock 57 = .ok (.ireturn, 1) := by decide +kernel
theorem md_M_stock_58 : decode mb_M_stock 58 = .ok (.aload_n 0, 1) := by decide +kernel
theorem md_M_stock_59 : decode mb_M_stock 59 = .ok (.getfield 19, 3) := by decide +kernel
theorem md_M_stock_62 : decode mb_M_stock 62 = .ok (.iload_n 1, 1) := by decide +kernel
theorem md_M_stock_63 : decode mb_M_stock 63 = .ok (.iload_n 2, 1) := by decide +kernel
theorem md_M_stock_64 : decode mb_M_stock 64 = .ok (.iastore, 1) := by decide +kernel
theorem md_M_stock_65 : decode mb_M_stock 65 = .ok (.iconst 1, 1) := by decide +kernel
theorem md_M_stock_66 : decode mb_M_stock 66 = .ok (.ireturn, 1) := by decide +kernel
theorem md_M_number_0 : decode mb_M_number 0 = .ok (.aload_n 0, 1) := by decide +kernel
theorem md_M_number_1 : decode mb_M_number 1 = .ok (.getfield 13, 3) := by decide +kernel
theorem md_M_number_4 : decode mb_M_number 4 = .ok (.bipush 8, 2) := by decide +kernel
theorem md_M_number_6 : decode mb_M_number 6 = .ok (.iload_n 1, 1) := by decide +kernel
theorem md_M_number_7 : decode mb_M_number 7 = .ok (.imul, 1) := by decide +kernel
theorem md_M_number_8 : decode mb_M_number 8 = .ok (.iconst 2, 1) := by decide +kernel
theorem md_M_number_9 : decode mb_M_number 9 = .ok (.iadd, 1) := by decide +kernel
theorem md_M_number_10 : decode mb_M_number 10 = .ok (.iload_n 2, 1) := by decide +kernel
theorem md_M_number_11 : decode mb_M_number 11 = .ok (.iadd, 1) := by decide +kernel
theorem md_M_number_12 : decode mb_M_number 12 = .ok (.iaload, 1) := by decide +kernel
theorem md_M_number_13 : decode mb_M_number 13 = .ok (.i2l, 1) := by decide +kernel
theorem md_M_number_14 : decode mb_M_number 14 = .ok (.lreturn, 1) := by decide +kernel
theorem md_M_other_0 : decode mb_M_other 0 = .ok (.aload_n 0, 1) := by decide +kernel
theorem md_M_other_1 : decode mb_M_other 1 = .ok (.aload_n 0, 1) := by decide +kernel
theorem md_M_other_2 : decode mb_M_other 2 = .ok (.iload_n 1, 1) := by decide +kernel
theorem md_M_other_3 : decode mb_M_other 3 = .ok (.invokevirtual 101, 3) := by decide +kernel
theorem md_M_other_6 : decode mb_M_other 6 = .ok (.putfield 61, 3) := by decide +kernel
theorem md_M_other_9 : decode mb_M_other 9 = .ok (.aload_n 0, 1) := by decide +kernel
theorem md_M_other_10 : decode mb_M_other 10 = .ok (.getfield 61, 3) := by decide +kernel
theorem md_M_other_13 : decode mb_M_other 13 = .ok (.ifCond .le 5, 3) := by decide +kernel
theorem md_M_other_16 : decode mb_M_other 16 = .ok (.iconst 0, 1) := by decide +kernel
theorem md_M_other_17 : decode mb_M_other 17 = .ok (.ireturn, 1) := by decide +kernel
theorem md_M_other_18 : decode mb_M_other 18 = .ok (.aload_n 0, 1) := by decide +kernel
theorem md_M_other_19 : decode mb_M_other 19 = .ok (.iload_n 2, 1) := by decide +kernel
theorem md_M_other_20 : decode mb_M_other 20 = .ok (.ifCond .ge 7, 3) := by decide +kernel
theorem md_M_other_23 : decode mb_M_other 23 = .ok (.iconst 2, 1) := by decide +kernel
theorem md_M_other_24 : decode mb_M_other 24 = .ok (.goto 22, 3) := by decide +kernel
theorem md_M_other_27 : decode mb_M_other 27 = .ok (.aload_n 0, 1) := by decide +kernel
theorem md_M_other_28 : decode mb_M_other 28 = .ok (.getfield 13, 3) := by decide +kernel
theorem md_M_other_31 : decode mb_M_other 31 = .ok (.bipush 8, 2) := by decide +kernel
theorem md_M_other_33 : decode mb_M_other 33 = .ok (.iload_n 1, 1) := by decide +kernel
theorem md_M_other_34 : decode mb_M_other 34 = .ok (.imul, 1) := by decide +kernel
theorem md_M_other_35 : decode mb_M_other 35 = .ok (.iaload, 1) := by decide +kernel
theorem md_M_other_36 : decode mb_M_other 36 = .ok (.bipush 104, 2) := by decide +kernel
theorem md_M_other_38 : decode mb_M_other 38 = .ok (.if_icmp .eq 7, 3) := by decide +kernel
theorem md_M_other_41 : decode mb_M_other 41 = .ok (.iconst 3, 1) := by decide +kernel
theorem md_M_other_42 : decode mb_M_other 42 = .ok (.goto 4, 3) := by decide +kernel
theorem md_M_other_45 : decode mb_M_other 45 = .ok (.iconst 0, 1) := by decide +kernel
theorem md_M_other_46 : decode mb_M_other 46 = .ok (.putfield 61, 3) := by decide +kernel
theorem md_M_other_49 : decode mb_M_other 49 = .ok (.aload_n 0, 1) := by decide +kernel
theorem md_M_other_50 : decode mb_M_other 50 = .ok (.getfield 61, 3) := by decide +kernel
theorem md_M_other_53 : decode mb_M_other 53 = .ok (.ifCond .le 5, 3) := by decide +kernel
theorem md_M_other_56 : decode mb_M_other 56 = .ok (.iconst 0, 1) := by decide +kernel
theorem md_M_other_57 : decode mb_M_other 57 = .ok (.ireturn, 1) := by decide +kernel
theorem md_M_other_58 : decode mb_M_other 58 = .ok (.iload_n 2, 1) := by decide +kernel
theorem md_M_other_59 : decode mb_M_other 59 = .ok (.istore_n 3, 1) := by decide +kernel
theorem md_M_other_60 : decode mb_M_other 60 = .ok (.iconst 0, 1) := by decide +kernel
theorem md_M_other_61 : decode mb_M_other 61 = .ok (.istore 4, 2) := by decide +kernel
theorem md_M_other_63 : decode mb_M_other 63 = .ok (.iload 4, 2) := by decide +kernel
theorem md_M_other_65 : decode mb_M_other 65 = .ok (.aload_n 0, 1) := by decide +kernel
theorem md_M_other_66 : decode mb_M_other 66 = .ok (.getfield 98, 3) := by decide +kernel
theorem md_M_other_69 : decode mb_M_other 69 = .ok (.if_icmp .ge 29, 3) := by decide +kernel
theorem md_M_other_72 : decode mb_M_other 72 = .ok (.aload_n 0, 1) := by decide +kernel
theorem md_M_other_73 : decode mb_M_other 73 = .ok (.iload 4, 2) := by decide +kernel
theorem md_M_other_75 : decode mb_M_other 75 = .ok (.iload_n 1, 1) := by decide +kernel
theorem md_M_other_76 : decode mb_M_other 76 = .ok (.invokevirtual 114, 3) := by decide +kernel
theorem md_M_other_79 : decode mb_M_other 79 = .ok (.ifCond .eq 13, 3) := by decide +kernel
theorem md_M_other_82 : decode mb_M_other 82 = .ok (.iload_n 3, 1) := by decide +kernel
theorem md_M_other_83 : decode mb_M_other 83 = .ok (.ifCond .ne 6, 3) := by decide +kernel
theorem md_M_other_86 : decode mb_M_other 86 = .ok (.iload 4, 2) := by decide +kernel
theorem md_M_other_88 : decode mb_M_other 88 = .ok (.ireturn, 1) := by decide +kernel
theorem md_M_other_89 : decode mb_M_other 89 = .ok (.iinc 3 (-1), 3) := by decide +kernel
theorem md_M_other_92 : decode mb_M_other 92 = .ok (.iinc 4 1, 3) := by decide +kernel
theorem md_M_other_95 : decode mb_M_other 95 = .ok (.goto (-32), 3) := by decide +kernel
theorem md_M_other_98 : decode mb_M_other 98 = .ok (.iconst (-1), 1) := by decide +kernel
theorem md_M_other_99 : decode mb_M_other 99 = .ok (.ireturn, 1) := by decide +kernel
theorem md_M_replaces_0 : decode mb_M_replaces 0 = .ok (.aload_n 0, 1) := by decide +kernel
theorem md_M_replaces_1 : decode mb_M_replaces 1 = .ok (.iload_n 1, 1) := by decide +kernel
theorem md_M_replaces_2 : decode mb_M_replaces 2 = .ok (.iconst 0, 1) := by decide +kernel
theorem md_M_replaces_3 : decode mb_M_replaces 3 = .ok (.invokevirtual 106, 3) := by decide +kernel
theorem md_M_replaces_6 : decode mb_M_replaces 6 = .ok (.aload_n 0, 1) := by decide +kernel
theorem md_M_replaces_7 : decode mb_M_replaces 7 = .ok (.iload_n 2, 1) := by decide +kernel
theorem md_M_replaces_8 : decode mb_M_replaces 8 = .ok (.iconst 0, 1) := by decide +kernel
theorem md_M_replaces_9 : decode mb_M_replaces 9 = .ok (.invokevirtual 106, 3) := by decide +kernel
theorem md_M_replaces_12 : decode mb_M_replaces 12 = .ok (.lcmp, 1) := by decide +kernel
theorem md_M_replaces_13 : decode mb_M_replaces 13 = .ok (.ifCond .gt 55, 3) := by decide +kernel
theorem md_M_replaces_16 : decode mb_M_replaces 16 = .ok (.aload_n 0, 1) := by decide +kernel
theorem md_M_replaces_17 : decode mb_M_replaces 17 = .ok (.iload_n 1, 1) := by decide +kernel
theorem md_M_replaces_18 : decode mb_M_replaces 18 = .ok (.iconst 1, 1) := by decide +kernel
theorem md_M_replaces_19 : decode mb_M_replaces 19 = .ok (.invokevirtual 106, 3) := by decide +kernel
theorem md_M_replaces_22 : decode mb_M_replaces 22 = .ok (.aload_n 0, 1) := by decide +kernel
theorem md_M_replaces_23 : decode mb_M_replaces 23 = .ok (.iload_n 2, 1) := by decide +kernel
theorem md_M_replaces_24 : decode mb_M_replaces 24 = .ok (.iconst 1, 1) := by decide +kernel
theorem md_M_replaces_25 : decode mb_M_replaces 25 = .ok (.invokevirtual 106, 3) := by decide +kernel
theorem md_M_replaces_28 : decode mb_M_replaces 28 = .ok (.lcmp, 1) := by decide +kernel
theorem md_M_replaces_29 : decode mb_M_replaces 29 = .ok (.ifCond .lt 39, 3) := by decide +kernel
theorem md_M_replaces_32 : decode mb_M_replaces 32 = .ok (.aload_n 0, 1) := by decide +kernel
theorem md_M_replaces_33 : decode mb_M_replaces 33 = .ok (.iload_n 1, 1) := by decide +kernel
theorem md_M_replaces_34 : decode mb_M_replaces 34 = .ok (.iconst 2, 1) := by decide +kernel
theorem md_M_replaces_35 : decode mb_M_replaces 35 = .ok (.invokevirtual 106, 3) := by decide +kernel
theorem md_M_replaces_38 : decode mb_M_replaces 38 = .ok (.aload_n 0, 1) := by decide +kernel
theorem md_M_replaces_39 : decode mb_M_replaces 39 = .ok (.iload_n 2, 1) := by decide +kernel
theorem md_M_replaces_40 : decode mb_M_replaces 40 = .ok (.iconst 2, 1) := by decide +kernel
theorem md_M_replaces_41 : decode mb_M_replaces 41 = .ok (.invokevirtual 106, 3) := by decide +kernel
theorem md_M_replaces_44 : decode mb_M_replaces 44 = .ok (.lcmp, 1) := by decide +kernel
theorem md_M_replaces_45 : decode mb_M_replaces 45 = .ok (.ifCond .gt 23, 3) := by decide +kernel
theorem md_M_replaces_48 : decode mb_M_replaces 48 = .ok (.aload_n 0, 1) := by decide +kernel
theorem md_M_replaces_49 : decode mb_M_replaces 49 = .ok (.iload_n 1, 1) := by decide +kernel
theorem md_M_replaces_50 : decode mb_M_replaces 50 = .ok (.iconst 3, 1) := by decide +kernel
theorem md_M_replaces_51 : decode mb_M_replaces 51 = .ok (.invokevirtual 106, 3) := by decide +kernel
theorem md_M_replaces_54 : decode mb_M_replaces 54 = .ok (.aload_n 0, 1) := by decide +kernel
theorem md_M_replaces_55 : decode mb_M_replaces 55 = .ok (.iload_n 2, 1) := by decide +kernel
theorem md_M_replaces_56 : decode mb_M_replaces 56 = .ok (.iconst 3, 1) := by decide +kernel
theorem md_M_replaces_57 : decode mb_M_replaces 57 = .ok (.invokevirtual 106, 3) := by decide +kernel
theorem md_M_replaces_60 : decode mb_M_replaces 60 = .ok (.lcmp, 1) := by decide +kernel
theorem md_M_replaces_61 : decode mb_M_replaces 61 = .ok (.ifCond .lt 7, 3) := by decide +kernel
theorem md_M_replaces_64 : decode mb_M_replaces 64 = .ok (.iconst 1, 1) := by decide +kernel
theorem md_M_replaces_65 : decode mb_M_replaces 65 = .ok (.goto 4, 3) := by decide +kernel
theorem md_M_replaces_68 : decode mb_M_replaces 68 = .ok (.iconst 0, 1) := by decide +kernel
theorem md_M_replaces_69 : decode mb_M_replaces 69 = .ok (.istore_n 3, 1) := by decide +kernel
theorem md_M_replaces_70 : decode mb_M_replaces 70 = .ok (.iload_n 1, 1) := by decide +kernel
theorem md_M_replaces_71 : decode mb_M_replaces 71 = .ok (.iload_n 2, 1) := by decide +kernel
theorem md_M_replaces_72 : decode mb_M_replaces 72 = .ok (.if_icmp .eq 37, 3) := by decide +kernel
theorem md_M_replaces_75 : decode mb_M_replaces 75 = .ok (.aload_n 0, 1) := by decide +kernel
theorem md_M_replaces_76 : decode mb_M_replaces 76 = .ok (.iload_n 1, 1) := by decide +kernel
theorem md_M_replaces_77 : decode mb_M_replaces 77 = .ok (.bipush 104, 2) := by decide +kernel
theorem md_M_replaces_79 : decode mb_M_replaces 79 = .ok (.invokevirtual 110, 3) := by decide +kernel
theorem md_M_replaces_82 : decode mb_M_replaces 82 = .ok (.ifCond .eq 27, 3) := by decide +kernel
theorem md_M_replaces_85 : decode mb_M_replaces 85 = .ok (.iload_n 3, 1) := by decide +kernel
theorem md_M_replaces_86 : decode mb_M_replaces 86 = .ok (.ifCond .eq 23, 3) := by decide +kernel
theorem md_M_replaces_89 : decode mb_M_replaces 89 = .ok (.aload_n 0, 1) := by decide +kernel
theorem md_M_replaces_90 : decode mb_M_replaces 90 = .ok (.iload_n 1, 1) := by decide +kernel
theorem md_M_replaces_91 : decode mb_M_replaces 91 = .ok (.iconst 4, 1) := by decide +kernel
theorem md_M_replaces_92 : decode mb_M_replaces 92 = .ok (.invokevirtual 106, 3) := by decide +kernel
theorem md_M_replaces_95 : decode mb_M_replaces 95 = .ok (.aload_n 0, 1) := by decide +kernel
theorem md_M_replaces_96 : decode mb_M_replaces 96 = .ok (.iload_n 2, 1) := by decide +kernel
theorem md_M_replaces_97 : decode mb_M_replaces 97 = .ok (.iconst 4, 1) := by decide +kernel
theorem md_M_replaces_98 : decode mb_M_replaces 98 = .ok (.invokevirtual 106, 3) := by decide +kernel
theorem md_M_replaces_101 : decode mb_M_replaces 101 = .ok (.lcmp, 1) := by decide +kernel
theorem md_M_replaces_102 : decode mb_M_replaces 102 = .ok (.ifCond .lt 7, 3) := by decide +kernel
theorem md_M_replaces_105 : decode mb_M_replaces 105 = .ok (.iconst 1, 1) := by decide +kernel
theorem md_M_replaces_106 : decode mb_M_replaces 106 = .ok (.goto 4, 3) := by decide +kernel
theorem md_M_replaces_109 : decode mb_M_replaces 109 = .ok (.iconst 0, 1) := by decide +kernel
theorem md_M_replaces_110 : decode mb_M_replaces 110 = .ok (.ireturn, 1) := by decide +kernel
theorem md_M_slide_0 : decode mb_M_slide 0 = .ok (.aload_n 0, 1) := by decide +kernel
theorem md_M_slide_1 : decode mb_M_slide 1 = .ok (.aload_n 0, 1) := by decide +kernel
theorem md_M_slide_2 : decode mb_M_slide 2 = .ok (.getfield 98, 3) := by decide +kernel
theorem md_M_slide_5 : decode mb_M_slide 5 = .ok (.ifCond .ne 7, 3) := by decide +kernel
theorem md_M_slide_8 : decode mb_M_slide 8 = .ok (.iconst 1, 1) := by decide +kernel
theorem md_M_slide_9 : decode mb_M_slide 9 = .ok (.goto 4, 3) := by decide +kernel
theorem md_M_slide_12 : decode mb_M_slide 12 = .ok (.iconst 0, 1) := by decide +kernel
theorem md_M_slide_13 : decode mb_M_slide 13 = .ok (.putfield 61, 3) := by decide +kernel
theorem md_M_slide_16 : decode mb_M_slide 16 = .ok (.iconst (-1), 1) := by decide +kernel
theorem md_M_slide_17 : decode mb_M_slide 17 = .ok (.istore_n 3, 1) := by decide +kernel
theorem md_M_slide_18 : decode mb_M_slide 18 = .ok (.aload_n 0, 1) := by decide +kernel
theorem md_M_slide_19 : decode mb_M_slide 19 = .ok (.getfield 98, 3) := by decide +kernel
theorem md_M_slide_22 : decode mb_M_slide 22 = .ok (.iconst 1, 1) := by decide +kernel
theorem md_M_slide_23 : decode mb_M_slide 23 = .ok (.isub, 1) := by decide +kernel
theorem md_M_slide_24 : decode mb_M_slide 24 = .ok (.istore 4, 2) := by decide +kernel
theorem md_M_slide_26 : decode mb_M_slide 26 = .ok (.iload 4, 2) := by decide +kernel
theorem md_M_slide_28 : decode mb_M_slide 28 = .ok (.ifCond .lt 79, 3) := by decide +kernel
theorem md_M_slide_31 : decode mb_M_slide 31 = .ok (.aload_n 0, 1) := by decide +kernel
theorem md_M_slide_32 : decode mb_M_slide 32 = .ok (.getfield 61, 3) := by decide +kernel
theorem md_M_slide_35 : decode mb_M_slide 35 = .ok (.ifCond .ne 72, 3) := by decide +kernel
theorem md_M_slide_38 : decode mb_M_slide 38 = .ok (.aload_n 0, 1) := by decide +kernel
theorem md_M_slide_39 : decode mb_M_slide 39 = .ok (.iload 4, 2) := by decide +kernel
theorem md_M_slide_41 : decode mb_M_slide 41 = .ok (.bipush 115, 2) := by decide +kernel
theorem md_M_slide_43 : decode mb_M_slide 43 = .ok (.invokevirtual 110, 3) := by decide +kernel
theorem md_M_slide_46 : decode mb_M_slide 46 = .ok (.ifCond .eq 19, 3) := by decide +kernel
theorem md_M_slide_49 : decode mb_M_slide 49 = .ok (.aload_n 0, 1) := by decide +kernel
theorem md_M_slide_50 : decode mb_M_slide 50 = .ok (.iload 4, 2) := by decide +kernel
theorem md_M_slide_52 : decode mb_M_slide 52 = .ok (.iconst 0, 1) := by decide +kernel
theorem md_M_slide_53 : decode mb_M_slide 53 = .ok (.invokevirtual 106, 3) := by decide +kernel
theorem md_M_slide_56 : decode mb_M_slide 56 = .ok (.lload_n 1, 1) := by decide +kernel
theorem md_M_slide_57 : decode mb_M_slide 57 = .ok (.lcmp, 1) := by decide +kernel
theorem md_M_slide_58 : decode mb_M_slide 58 = .ok (.ifCond .gt 7, 3) := by decide +kernel
theorem md_M_slide_61 : decode mb_M_slide 61 = .ok (.iconst 1, 1) := by decide +kernel
theorem md_M_slide_62 : decode mb_M_slide 62 = .ok (.goto 4, 3) := by decide +kernel
theorem md_M_slide_65 : decode mb_M_slide 65 = .ok (.iconst 0, 1) := by decide +kernel
theorem md_M_slide_66 : decode mb_M_slide 66 = .ok (.istore 5, 2) := by decide +kernel
theorem md_M_slide_68 : decode mb_M_slide 68 = .ok (.iload 5, 2) := by decide +kernel
theorem md_M_slide_70 : decode mb_M_slide 70 = .ok (.ifCond .eq 29, 3) := by decide +kernel
theorem md_M_slide_73 : decode mb_M_slide 73 = .ok (.iload_n 3, 1) := by decide +kernel
theorem md_M_slide_74 : decode mb_M_slide 74 = .ok (.ifCond .lt 20, 3) := by decide +kernel
theorem md_M_slide_77 : decode mb_M_slide 77 = .ok (.aload_n 0, 1) := by decide +kernel
theorem md_M_slide_78 : decode mb_M_slide 78 = .ok (.iload 4, 2) := by decide +kernel
theorem md_M_slide_80 : decode mb_M_slide 80 = .ok (.iconst 0, 1) := by decide +kernel
theorem md_M_slide_81 : decode mb_M_slide 81 = .ok (.invokevirtual 106, 3) := by decide +kernel
theorem md_M_slide_84 : decode mb_M_slide 84 = .ok (.aload_n 0, 1) := by decide +kernel
theorem md_M_slide_85 : decode mb_M_slide 85 = .ok (.iload_n 3, 1) := by decide +kernel
theorem md_M_slide_86 : decode mb_M_slide 86 = .ok (.iconst 0, 1) := by decide +kernel
theorem md_M_slide_87 : decode mb_M_slide 87 = .ok (.invokevirtual 106, 3) := by decide +kernel
theorem md_M_slide_90 : decode mb_M_slide 90 = .ok (.lcmp, 1) := by decide +kernel
theorem md_M_slide_91 : decode mb_M_slide 91 = .ok (.ifCond .lt 8, 3) := by decide +kernel
theorem md_M_slide_94 : decode mb_M_slide 94 = .ok (.iload 4, 2) := by decide +kernel
theorem md_M_slide_96 : decode mb_M_slide 96 = .ok (.goto 4, 3) := by decide +kernel
theorem md_M_slide_99 : decode mb_M_slide 99 = .ok (.iload_n 3, 1) := by decide +kernel
theorem md_M_slide_100 : decode mb_M_slide 100 = .ok (.istore_n 3, 1) := by decide +kernel
theorem md_M_slide_101 : decode mb_M_slide 101 = .ok (.iinc 4 (-1), 3) := by decide +kernel
theorem md_M_slide_104 : decode mb_M_slide 104 = .ok (.goto (-78), 3) := by decide +kernel
theorem md_M_slide_107 : decode mb_M_slide 107 = .ok (.aload_n 0, 1) := by decide +kernel
theorem md_M_slide_108 : decode mb_M_slide 108 = .ok (.getfield 61, 3) := by decide +kernel
theorem md_M_slide_111 : decode mb_M_slide 111 = .ok (.ifCond .le 7, 3) := by decide +kernel
theorem md_M_slide_114 : decode mb_M_slide 114 = .ok (.iconst 0, 1) := by decide +kernel
theorem md_M_slide_115 : decode mb_M_slide 115 = .ok (.goto 4, 3) := by decide +kernel
theorem md_M_slide_118 : decode mb_M_slide 118 = .ok (.iload_n 3, 1) := by decide +kernel
theorem md_M_slide_119 : decode mb_M_slide 119 = .ok (.ireturn, 1) := by decide +kernel
theorem md_M_weight_0 : decode mb_M_weight 0 = .ok (.aload_n 0, 1) := by decide +kernel
theorem md_M_weight_1 : decode mb_M_weight 1 = .ok (.iload_n 1, 1) := by decide +kernel
theorem md_M_weight_2 : decode mb_M_weight 2 = .ok (.ifCond .lt 8, 3) := by decide +kernel
theorem md_M_weight_5 : decode mb_M_weight 5 = .ok (.iload_n 1, 1) := by decide +kernel
theorem md_M_weight_6 : decode mb_M_weight 6 = .ok (.iconst 1, 1) := by decide +kernel
theorem md_M_weight_7 : decode mb_M_weight 7 = .ok (.if_icmp .le 7, 3) := by decide +kernel
theorem md_M_weight_10 : decode mb_M_weight 10 = .ok (.iconst 1, 1) := by decide +kernel
theorem md_M_weight_11 : decode mb_M_weight 11 = .ok (.goto 4, 3) := by decide +kernel
theorem md_M_weight_14 : decode mb_M_weight 14 = .ok (.iconst 0, 1) := by decide +kernel
theorem md_M_weight_15 : decode mb_M_weight 15 = .ok (.putfield 61, 3) := by decide +kernel
theorem md_M_weight_18 : decode mb_M_weight 18 = .ok (.aload_n 0, 1) := by decide +kernel
theorem md_M_weight_19 : decode mb_M_weight 19 = .ok (.getfield 61, 3) := by decide +kernel
theorem md_M_weight_22 : decode mb_M_weight 22 = .ok (.ifCond .le 7, 3) := by decide +kernel
theorem md_M_weight_25 : decode mb_M_weight 25 = .ok (.lconst 0, 1) := by decide +kernel
theorem md_M_weight_26 : decode mb_M_weight 26 = .ok (.goto 28, 3) := by decide +kernel
theorem md_M_weight_29 : decode mb_M_weight 29 = .ok (.iload_n 1, 1) := by decide +kernel
theorem md_M_weight_30 : decode mb_M_weight 30 = .ok (.ifCond .ne 10, 3) := by decide +kernel
theorem md_M_weight_33 : decode mb_M_weight 33 = .ok (.aload_n 0, 1) := by decide +kernel
theorem md_M_weight_34 : decode mb_M_weight 34 = .ok (.invokevirtual 123, 3) := by decide +kernel
theorem md_M_weight_37 : decode mb_M_weight 37 = .ok (.goto 6, 3) := by decide +kernel
theorem md_M_weight_40 : decode mb_M_weight 40 = .ok (.ldc2_w 127, 3) := by decide +kernel
theorem md_M_weight_43 : decode mb_M_weight 43 = .ok (.aload_n 0, 1) := by decide +kernel
theorem md_M_weight_44 : decode mb_M_weight 44 = .ok (.invokevirtual 123, 3) := by decide +kernel
theorem md_M_weight_47 : decode mb_M_weight 47 = .ok (.ldc2_w 127, 3) := by decide +kernel
theorem md_M_weight_50 : decode mb_M_weight 50 = .ok (.invokestatic 129, 3) := by decide +kernel
theorem md_M_weight_53 : decode mb_M_weight 53 = .ok (.ldiv, 1) := by decide +kernel
theorem md_M_weight_54 : decode mb_M_weight 54 = .ok (.lreturn, 1) := by decide +kernel
theorem md_M_place_0 : decode mb_M_place 0 = .ok (.aload_n 0, 1) := by decide +kernel
theorem md_M_place_1 : decode mb_M_place 1 = .ok (.invokevirtual 133, 3) := by decide +kernel
theorem md_M_place_4 : decode mb_M_place 4 = .ok (.istore_n 3, 1) := by decide +kernel
theorem md_M_place_5 : decode mb_M_place 5 = .ok (.aload_n 0, 1) := by decide +kernel
theorem md_M_place_6 : decode mb_M_place 6 = .ok (.aload_n 0, 1) := by decide +kernel
theorem md_M_place_7 : decode mb_M_place 7 = .ok (.getfield 98, 3) := by decide +kernel
theorem md_M_place_10 : decode mb_M_place 10 = .ok (.ifCond .eq 7, 3) := by decide +kernel
theorem md_M_place_13 : decode mb_M_place 13 = .ok (.iload_n 3, 1) := by decide +kernel
theorem md_M_place_14 : decode mb_M_place 14 = .ok (.ifCond .ge 7, 3) := by decide +kernel
theorem md_M_place_17 : decode mb_M_place 17 = .ok (.iconst 1, 1) := by decide +kernel
theorem md_M_place_18 : decode mb_M_place 18 = .ok (.goto 26, 3) := by decide +kernel
theorem md_M_place_21 : decode mb_M_place 21 = .ok (.iload_n 1, 1) := by decide +kernel
theorem md_M_place_22 : decode mb_M_place 22 = .ok (.ifCond .lt 17, 3) := by decide +kernel
theorem md_M_place_25 : decode mb_M_place 25 = .ok (.iload_n 1, 1) := by decide +kernel
theorem md_M_place_26 : decode mb_M_place 26 = .ok (.iload_n 3, 1) := by decide +kernel
theorem md_M_place_27 : decode mb_M_place 27 = .ok (.if_icmp .ge 12, 3) := by decide +kernel
theorem md_M_place_30 : decode mb_M_place 30 = .ok (.iload_n 2, 1) := by decide +kernel
theorem md_M_place_31 : decode mb_M_place 31 = .ok (.ifCond .lt 8, 3) := by decide +kernel
theorem md_M_place_34 : decode mb_M_place 34 = .ok (.iload_n 2, 1) := by decide +kernel
theorem md_M_place_35 : decode mb_M_place 35 = .ok (.iconst 1, 1) := by decide +kernel
theorem md_M_place_36 : decode mb_M_place 36 = .ok (.if_icmp .le 7, 3) := by decide +kernel
theorem md_M_place_39 : decode mb_M_place 39 = .ok (.iconst 2, 1) := by decide +kernel
theorem md_M_place_40 : decode mb_M_place 40 = .ok (.goto 4, 3) := by decide +kernel
theorem md_M_place_43 : decode mb_M_place 43 = .ok (.iconst 0, 1) := by decide +kernel
theorem md_M_place_44 : decode mb_M_place 44 = .ok (.putfield 61, 3) := by decide +kernel
theorem md_M_place_47 : decode mb_M_place 47 = .ok (.aload_n 0, 1) := by decide +kernel
theorem md_M_place_48 : decode mb_M_place 48 = .ok (.getfield 61, 3) := by decide +kernel
theorem md_M_place_51 : decode mb_M_place 51 = .ok (.ifCond .le 5, 3) := by decide +kernel
theorem md_M_place_54 : decode mb_M_place 54 = .ok (.lconst 0, 1) := by decide +kernel
theorem md_M_place_55 : decode mb_M_place 55 = .ok (.lreturn, 1) := by decide +kernel
theorem md_M_place_56 : decode mb_M_place 56 = .ok (.aload_n 0, 1) := by decide +kernel
theorem md_M_place_57 : decode mb_M_place 57 = .ok (.getfield 30, 3) := by decide +kernel
theorem md_M_place_60 : decode mb_M_place 60 = .ok (.ldc2_w 136, 3) := by decide +kernel
theorem md_M_place_63 : decode mb_M_place 63 = .ok (.lcmp, 1) := by decide +kernel
theorem md_M_place_64 : decode mb_M_place 64 = .ok (.ifCond .ge 10, 3) := by decide +kernel
theorem md_M_place_67 : decode mb_M_place 67 = .ok (.aload_n 0, 1) := by decide +kernel
theorem md_M_place_68 : decode mb_M_place 68 = .ok (.getfield 30, 3) := by decide +kernel
theorem md_M_place_71 : decode mb_M_place 71 = .ok (.goto 6, 3) := by decide +kernel
theorem md_M_place_74 : decode mb_M_place 74 = .ok (.ldc2_w 136, 3) := by decide +kernel
theorem md_M_place_77 : decode mb_M_place 77 = .ok (.lstore 4, 2) := by decide +kernel
theorem md_M_place_79 : decode mb_M_place 79 = .ok (.iload_n 3, 1) := by decide +kernel
theorem md_M_place_80 : decode mb_M_place 80 = .ok (.iconst 1, 1) := by decide +kernel
theorem md_M_place_81 : decode mb_M_place 81 = .ok (.if_icmp .ne 14, 3) := by decide +kernel
theorem md_M_place_84 : decode mb_M_place 84 = .ok (.ldc2_w 138, 3) := by decide +kernel
theorem md_M_place_87 : decode mb_M_place 87 = .ok (.aload_n 0, 1) := by decide +kernel
theorem md_M_place_88 : decode mb_M_place 88 = .ok (.getfield 30, 3) := by decide +kernel
theorem md_M_place_91 : decode mb_M_place 91 = .ok (.lmul, 1) := by decide +kernel
theorem md_M_place_92 : decode mb_M_place 92 = .ok (.goto 29, 3) := by decide +kernel
theorem md_M_place_95 : decode mb_M_place 95 = .ok (.lload 4, 2) := by decide +kernel
theorem md_M_place_97 : decode mb_M_place 97 = .ok (.iload_n 3, 1) := by decide +kernel
theorem md_M_place_98 : decode mb_M_place 98 = .ok (.iconst 1, 1) := by decide +kernel
theorem md_M_place_99 : decode mb_M_place 99 = .ok (.isub, 1) := by decide +kernel
theorem md_M_place_100 : decode mb_M_place 100 = .ok (.i2l, 1) := by decide +kernel
theorem md_M_place_101 : decode mb_M_place 101 = .ok (.lmul, 1) := by decide +kernel
theorem md_M_place_102 : decode mb_M_place 102 = .ok (.iload_n 1, 1) := by decide +kernel
theorem md_M_place_103 : decode mb_M_place 103 = .ok (.i2l, 1) := by decide +kernel
theorem md_M_place_104 : decode mb_M_place 104 = .ok (.ldc2_w 140, 3) := by decide +kernel
theorem md_M_place_107 : decode mb_M_place 107 = .ok (.aload_n 0, 1) := by decide +kernel
theorem md_M_place_108 : decode mb_M_place 108 = .ok (.getfield 30, 3) := by decide +kernel
theorem md_M_place_111 : decode mb_M_place 111 = .ok (.lmul, 1) := by decide +kernel
theorem md_M_place_112 : decode mb_M_place 112 = .ok (.ldc2_w 138, 3) := by decide +kernel
theorem md_M_place_115 : decode mb_M_place 115 = .ok (.lload 4, 2) := by decide +kernel
theorem md_M_place_117 : decode mb_M_place 117 = .ok (.lmul, 1) := by decide +kernel
theorem md_M_place_118 : decode mb_M_place 118 = .ok (.lsub, 1) := by decide +kernel
theorem md_M_place_119 : decode mb_M_place 119 = .ok (.lmul, 1) := by decide +kernel
theorem md_M_place_120 : decode mb_M_place 120 = .ok (.ladd, 1) := by decide +kernel
theorem md_M_place_121 : decode mb_M_place 121 = .ok (.lstore 6, 2) := by decide +kernel
theorem md_M_place_123 : decode mb_M_place 123 = .ok (.iload_n 3, 1) := by decide +kernel
theorem md_M_place_124 : decode mb_M_place 124 = .ok (.iconst 1, 1) := by decide +kernel
theorem md_M_place_125 : decode mb_M_place 125 = .ok (.if_icmp .ne 9, 3) := by decide +kernel
theorem md_M_place_128 : decode mb_M_place 128 = .ok (.ldc2_w 140, 3) := by decide +kernel
theorem md_M_place_131 : decode mb_M_place 131 = .ok (.goto 11, 3) := by decide +kernel
theorem md_M_place_134 : decode mb_M_place 134 = .ok (.ldc2_w 140, 3) := by decide +kernel
theorem md_M_place_137 : decode mb_M_place 137 = .ok (.iload_n 3, 1) := by decide +kernel
theorem md_M_place_138 : decode mb_M_place 138 = .ok (.iconst 1, 1) := by decide +kernel
theorem md_M_place_139 : decode mb_M_place 139 = .ok (.isub, 1) := by decide +kernel
theorem md_M_place_140 : decode mb_M_place 140 = .ok (.i2l, 1) := by decide +kernel
theorem md_M_place_141 : decode mb_M_place 141 = .ok (.lmul, 1) := by decide +kernel
theorem md_M_place_142 : decode mb_M_place 142 = .ok (.lstore 8, 2) := by decide +kernel
theorem md_M_place_144 : decode mb_M_place 144 = .ok (.lload 6, 2) := by decide +kernel
theorem md_M_place_146 : decode mb_M_place 146 = .ok (.lload 8, 2) := by decide +kernel
theorem md_M_place_148 : decode mb_M_place 148 = .ok (.invokestatic 129, 3) := by decide +kernel
theorem md_M_place_151 : decode mb_M_place 151 = .ok (.lstore 10, 2) := by decide +kernel
theorem md_M_place_153 : decode mb_M_place 153 = .ok (.iload_n 2, 1) := by decide +kernel
theorem md_M_place_154 : decode mb_M_place 154 = .ok (.ifCond .ne 11, 3) := by decide +kernel
theorem md_M_place_157 : decode mb_M_place 157 = .ok (.lload 6, 2) := by decide +kernel
theorem md_M_place_159 : decode mb_M_place 159 = .ok (.lload 10, 2) := by decide +kernel
theorem md_M_place_161 : decode mb_M_place 161 = .ok (.ldiv, 1) := by decide +kernel
theorem md_M_place_162 : decode mb_M_place 162 = .ok (.goto 8, 3) := by decide +kernel
theorem md_M_place_165 : decode mb_M_place 165 = .ok (.lload 8, 2) := by decide +kernel
theorem md_M_place_167 : decode mb_M_place 167 = .ok (.lload 10, 2) := by decide +kernel
theorem md_M_place_169 : decode mb_M_place 169 = .ok (.ldiv, 1) := by decide +kernel
theorem md_M_place_170 : decode mb_M_place 170 = .ok (.lreturn, 1) := by decide +kernel
theorem md_M_meet_0 : decode mb_M_meet 0 = .ok (.aload_n 0, 1) := by decide +kernel
theorem md_M_meet_1 : decode mb_M_meet 1 = .ok (.iload_n 1, 1) := by decide +kernel
theorem md_M_meet_2 : decode mb_M_meet 2 = .ok (.ifCond .lt 19, 3) := by decide +kernel
theorem md_M_meet_5 : decode mb_M_meet 5 = .ok (.iload_n 1, 1) := by decide +kernel
theorem md_M_meet_6 : decode mb_M_meet 6 = .ok (.bipush 16, 2) := by decide +kernel
theorem md_M_meet_8 : decode mb_M_meet 8 = .ok (.if_icmp .ge 13, 3) := by decide +kernel
theorem md_M_meet_11 : decode mb_M_meet 11 = .ok (.iload_n 2, 1) := by decide +kernel
theorem md_M_meet_12 : decode mb_M_meet 12 = .ok (.ifCond .lt 9, 3) := by decide +kernel
theorem md_M_meet_15 : decode mb_M_meet 15 = .ok (.iload_n 2, 1) := by decide +kernel
theorem md_M_meet_16 : decode mb_M_meet 16 = .ok (.bipush 16, 2) := by decide +kernel
theorem md_M_meet_18 : decode mb_M_meet 18 = .ok (.if_icmp .lt 7, 3) := by decide +kernel
theorem md_M_meet_21 : decode mb_M_meet 21 = .ok (.iconst 1, 1) := by decide +kernel
theorem md_M_meet_22 : decode mb_M_meet 22 = .ok (.goto 4, 3) := by decide +kernel
theorem md_M_meet_25 : decode mb_M_meet 25 = .ok (.iconst 0, 1) := by decide +kernel
theorem md_M_meet_26 : decode mb_M_meet 26 = .ok (.putfield 61, 3) := by decide +kernel
theorem md_M_meet_29 : decode mb_M_meet 29 = .ok (.aload_n 0, 1) := by decide +kernel
theorem md_M_meet_30 : decode mb_M_meet 30 = .ok (.getfield 61, 3) := by decide +kernel
theorem md_M_meet_33 : decode mb_M_meet 33 = .ok (.ifCond .ne 16, 3) := by decide +kernel
theorem md_M_meet_36 : decode mb_M_meet 36 = .ok (.aload_n 0, 1) := by decide +kernel
theorem md_M_meet_37 : decode mb_M_meet 37 = .ok (.iload_n 1, 1) := by decide +kernel
theorem md_M_meet_38 : decode mb_M_meet 38 = .ok (.iload_n 2, 1) := by decide +kernel
theorem md_M_meet_39 : decode mb_M_meet 39 = .ok (.invokevirtual 146, 3) := by decide +kernel
theorem md_M_meet_42 : decode mb_M_meet 42 = .ok (.ifCond .eq 7, 3) := by decide +kernel
theorem md_M_meet_45 : decode mb_M_meet 45 = .ok (.iconst 1, 1) := by decide +kernel
theorem md_M_meet_46 : decode mb_M_meet 46 = .ok (.goto 4, 3) := by decide +kernel
theorem md_M_meet_49 : decode mb_M_meet 49 = .ok (.iconst 0, 1) := by decide +kernel
theorem md_M_meet_50 : decode mb_M_meet 50 = .ok (.ireturn, 1) := by decide +kernel
theorem md_M_meets_0 : decode mb_M_meets 0 = .ok (.aload_n 0, 1) := by decide +kernel
theorem md_M_meets_1 : decode mb_M_meets 1 = .ok (.getfield 41, 3) := by decide +kernel
theorem md_M_meets_4 : decode mb_M_meets 4 = .ok (.iload_n 1, 1) := by decide +kernel
theorem md_M_meets_5 : decode mb_M_meets 5 = .ok (.laload, 1) := by decide +kernel
theorem md_M_meets_6 : decode mb_M_meets 6 = .ok (.aload_n 0, 1) := by decide +kernel
theorem md_M_meets_7 : decode mb_M_meets 7 = .ok (.getfield 41, 3) := by decide +kernel
theorem md_M_meets_10 : decode mb_M_meets 10 = .ok (.iload_n 2, 1) := by decide +kernel
theorem md_M_meets_11 : decode mb_M_meets 11 = .ok (.laload, 1) := by decide +kernel
theorem md_M_meets_12 : decode mb_M_meets 12 = .ok (.lsub, 1) := by decide +kernel
theorem md_M_meets_13 : decode mb_M_meets 13 = .ok (.lstore_n 3, 1) := by decide +kernel
theorem md_M_meets_14 : decode mb_M_meets 14 = .ok (.aload_n 0, 1) := by decide +kernel
theorem md_M_meets_15 : decode mb_M_meets 15 = .ok (.getfield 45, 3) := by decide +kernel
theorem md_M_meets_18 : decode mb_M_meets 18 = .ok (.iload_n 1, 1) := by decide +kernel
theorem md_M_meets_19 : decode mb_M_meets 19 = .ok (.laload, 1) := by decide +kernel
theorem md_M_meets_20 : decode mb_M_meets 20 = .ok (.aload_n 0, 1) := by decide +kernel
theorem md_M_meets_21 : decode mb_M_meets 21 = .ok (.getfield 45, 3) := by decide +kernel
theorem md_M_meets_24 : decode mb_M_meets 24 = .ok (.iload_n 2, 1) := by decide +kernel
theorem md_M_meets_25 : decode mb_M_meets 25 = .ok (.laload, 1) := by decide +kernel
theorem md_M_meets_26 : decode mb_M_meets 26 = .ok (.lsub, 1) := by decide +kernel
theorem md_M_meets_27 : decode mb_M_meets 27 = .ok (.lstore 5, 2) := by decide +kernel
theorem md_M_meets_29 : decode mb_M_meets 29 = .ok (.aload_n 0, 1) := by decide +kernel
theorem md_M_meets_30 : decode mb_M_meets 30 = .ok (.getfield 48, 3) := by decide +kernel
theorem md_M_meets_33 : decode mb_M_meets 33 = .ok (.iload_n 1, 1) := by decide +kernel
theorem md_M_meets_34 : decode mb_M_meets 34 = .ok (.laload, 1) := by decide +kernel
theorem md_M_meets_35 : decode mb_M_meets 35 = .ok (.aload_n 0, 1) := by decide +kernel
theorem md_M_meets_36 : decode mb_M_meets 36 = .ok (.getfield 48, 3) := by decide +kernel
theorem md_M_meets_39 : decode mb_M_meets 39 = .ok (.iload_n 2, 1) := by decide +kernel
theorem md_M_meets_40 : decode mb_M_meets 40 = .ok (.laload, 1) := by decide +kernel
theorem md_M_meets_41 : decode mb_M_meets 41 = .ok (.ladd, 1) := by decide +kernel
theorem md_M_meets_42 : decode mb_M_meets 42 = .ok (.lstore 7, 2) := by decide +kernel
theorem md_M_meets_44 : decode mb_M_meets 44 = .ok (.iload_n 1, 1) := by decide +kernel
theorem md_M_meets_45 : decode mb_M_meets 45 = .ok (.iload_n 2, 1) := by decide +kernel
theorem md_M_meets_46 : decode mb_M_meets 46 = .ok (.if_icmp .eq 47, 3) := by decide +kernel
theorem md_M_meets_49 : decode mb_M_meets 49 = .ok (.aload_n 0, 1) := by decide +kernel
theorem md_M_meets_50 : decode mb_M_meets 50 = .ok (.getfield 48, 3) := by decide +kernel
theorem md_M_meets_53 : decode mb_M_meets 53 = .ok (.iload_n 1, 1) := by decide +kernel
theorem md_M_meets_54 : decode mb_M_meets 54 = .ok (.laload, 1) := by decide +kernel
theorem md_M_meets_55 : decode mb_M_meets 55 = .ok (.lconst 0, 1) := by decide +kernel
theorem md_M_meets_56 : decode mb_M_meets 56 = .ok (.lcmp, 1) := by decide +kernel
theorem md_M_meets_57 : decode mb_M_meets 57 = .ok (.ifCond .le 36, 3) := by decide +kernel
theorem md_M_meets_60 : decode mb_M_meets 60 = .ok (.aload_n 0, 1) := by decide +kernel
theorem md_M_meets_61 : decode mb_M_meets 61 = .ok (.getfield 48, 3) := by decide +kernel
theorem md_M_meets_64 : decode mb_M_meets 64 = .ok (.iload_n 2, 1) := by decide +kernel
theorem md_M_meets_65 : decode mb_M_meets 65 = .ok (.laload, 1) := by decide +kernel
theorem md_M_meets_66 : decode mb_M_meets 66 = .ok (.lconst 0, 1) := by decide +kernel
theorem md_M_meets_67 : decode mb_M_meets 67 = .ok (.lcmp, 1) := by decide +kernel
theorem md_M_meets_68 : decode mb_M_meets 68 = .ok (.ifCond .le 25, 3) := by decide +kernel
theorem md_M_meets_71 : decode mb_M_meets 71 = .ok (.lload_n 3, 1) := by decide +kernel
theorem md_M_meets_72 : decode mb_M_meets 72 = .ok (.lload_n 3, 1) := by decide +kernel
theorem md_M_meets_73 : decode mb_M_meets 73 = .ok (.lmul, 1) := by decide +kernel
theorem md_M_meets_74 : decode mb_M_meets 74 = .ok (.lload 5, 2) := by decide +kernel
theorem md_M_meets_76 : decode mb_M_meets 76 = .ok (.lload 5, 2) := by decide +kernel
theorem md_M_meets_78 : decode mb_M_meets 78 = .ok (.lmul, 1) := by decide +kernel
theorem md_M_meets_79 : decode mb_M_meets 79 = .ok (.ladd, 1) := by decide +kernel
theorem md_M_meets_80 : decode mb_M_meets 80 = .ok (.lload 7, 2) := by decide +kernel
theorem md_M_meets_82 : decode mb_M_meets 82 = .ok (.lload 7, 2) := by decide +kernel
theorem md_M_meets_84 : decode mb_M_meets 84 = .ok (.lmul, 1) := by decide +kernel
theorem md_M_meets_85 : decode mb_M_meets 85 = .ok (.lcmp, 1) := by decide +kernel
theorem md_M_meets_86 : decode mb_M_meets 86 = .ok (.ifCond .ge 7, 3) := by decide +kernel
theorem md_M_meets_89 : decode mb_M_meets 89 = .ok (.iconst 1, 1) := by decide +kernel
theorem md_M_meets_90 : decode mb_M_meets 90 = .ok (.goto 4, 3) := by decide +kernel
theorem md_M_meets_93 : decode mb_M_meets 93 = .ok (.iconst 0, 1) := by decide +kernel
theorem md_M_meets_94 : decode mb_M_meets 94 = .ok (.ireturn, 1) := by decide +kernel
theorem md_M_pair_0 : decode mb_M_pair 0 = .ok (.aload_n 0, 1) := by decide +kernel
theorem md_M_pair_1 : decode mb_M_pair 1 = .ok (.iload_n 1, 1) := by decide +kernel
theorem md_M_pair_2 : decode mb_M_pair 2 = .ok (.ifCond .ge 7, 3) := by decide +kernel
theorem md_M_pair_5 : decode mb_M_pair 5 = .ok (.iconst 1, 1) := by decide +kernel
theorem md_M_pair_6 : decode mb_M_pair 6 = .ok (.goto 4, 3) := by decide +kernel
theorem md_M_pair_9 : decode mb_M_pair 9 = .ok (.iconst 0, 1) := by decide +kernel
theorem md_M_pair_10 : decode mb_M_pair 10 = .ok (.putfield 61, 3) := by decide +kernel
theorem md_M_pair_13 : decode mb_M_pair 13 = .ok (.iload_n 1, 1) := by decide +kernel
theorem md_M_pair_14 : decode mb_M_pair 14 = .ok (.istore_n 2, 1) := by decide +kernel
theorem md_M_pair_15 : decode mb_M_pair 15 = .ok (.iconst 0, 1) := by decide +kernel
theorem md_M_pair_16 : decode mb_M_pair 16 = .ok (.istore_n 3, 1) := by decide +kernel
theorem md_M_pair_17 : decode mb_M_pair 17 = .ok (.iload_n 3, 1) := by decide +kernel
theorem md_M_pair_18 : decode mb_M_pair 18 = .ok (.bipush 16, 2) := by decide +kernel
theorem md_M_pair_20 : decode mb_M_pair 20 = .ok (.if_icmp .ge 59, 3) := by decide +kernel
theorem md_M_pair_23 : decode mb_M_pair 23 = .ok (.aload_n 0, 1) := by decide +kernel
theorem md_M_pair_24 : decode mb_M_pair 24 = .ok (.getfield 61, 3) := by decide +kernel
theorem md_M_pair_27 : decode mb_M_pair 27 = .ok (.ifCond .ne 52, 3) := by decide +kernel
theorem md_M_pair_30 : decode mb_M_pair 30 = .ok (.iload_n 3, 1) := by decide +kernel
theorem md_M_pair_31 : decode mb_M_pair 31 = .ok (.iconst 1, 1) := by decide +kernel
theorem md_M_pair_32 : decode mb_M_pair 32 = .ok (.iadd, 1) := by decide +kernel
theorem md_M_pair_33 : decode mb_M_pair 33 = .ok (.istore 4, 2) := by decide +kernel
theorem md_M_pair_35 : decode mb_M_pair 35 = .ok (.iload 4, 2) := by decide +kernel
theorem md_M_pair_37 : decode mb_M_pair 37 = .ok (.bipush 16, 2) := by decide +kernel
theorem md_M_pair_39 : decode mb_M_pair 39 = .ok (.if_icmp .ge 34, 3) := by decide +kernel
theorem md_M_pair_42 : decode mb_M_pair 42 = .ok (.aload_n 0, 1) := by decide +kernel
theorem md_M_pair_43 : decode mb_M_pair 43 = .ok (.iload_n 3, 1) := by decide +kernel
theorem md_M_pair_44 : decode mb_M_pair 44 = .ok (.iload 4, 2) := by decide +kernel
theorem md_M_pair_46 : decode mb_M_pair 46 = .ok (.invokevirtual 146, 3) := by decide +kernel
theorem md_M_pair_49 : decode mb_M_pair 49 = .ok (.ifCond .eq 18, 3) := by decide +kernel
theorem md_M_pair_52 : decode mb_M_pair 52 = .ok (.iload_n 2, 1) := by decide +kernel
theorem md_M_pair_53 : decode mb_M_pair 53 = .ok (.ifCond .ne 11, 3) := by decide +kernel
theorem md_M_pair_56 : decode mb_M_pair 56 = .ok (.bipush 16, 2) := by decide +kernel
theorem md_M_pair_58 : decode mb_M_pair 58 = .ok (.iload_n 3, 1) := by decide +kernel
theorem md_M_pair_59 : decode mb_M_pair 59 = .ok (.imul, 1) := by decide +kernel
theorem md_M_pair_60 : decode mb_M_pair 60 = .ok (.iload 4, 2) := by decide +kernel
theorem md_M_pair_62 : decode mb_M_pair 62 = .ok (.iadd, 1) := by decide +kernel
theorem md_M_pair_63 : decode mb_M_pair 63 = .ok (.ireturn, 1) := by decide +kernel
theorem md_M_pair_64 : decode mb_M_pair 64 = .ok (.iinc 2 (-1), 3) := by decide +kernel
theorem md_M_pair_67 : decode mb_M_pair 67 = .ok (.iinc 4 1, 3) := by decide +kernel
theorem md_M_pair_70 : decode mb_M_pair 70 = .ok (.goto (-35), 3) := by decide +kernel
theorem md_M_pair_73 : decode mb_M_pair 73 = .ok (.iinc 3 1, 3) := by decide +kernel
theorem md_M_pair_76 : decode mb_M_pair 76 = .ok (.goto (-59), 3) := by decide +kernel
theorem md_M_pair_79 : decode mb_M_pair 79 = .ok (.aload_n 0, 1) := by decide +kernel
theorem md_M_pair_80 : decode mb_M_pair 80 = .ok (.getfield 61, 3) := by decide +kernel
theorem md_M_pair_83 : decode mb_M_pair 83 = .ok (.ifCond .le 7, 3) := by decide +kernel
theorem md_M_pair_86 : decode mb_M_pair 86 = .ok (.iconst 0, 1) := by decide +kernel
theorem md_M_pair_87 : decode mb_M_pair 87 = .ok (.goto 4, 3) := by decide +kernel
theorem md_M_pair_90 : decode mb_M_pair 90 = .ok (.iconst (-1), 1) := by decide +kernel
theorem md_M_pair_91 : decode mb_M_pair 91 = .ok (.ireturn, 1) := by decide +kernel
theorem md_M_placeOf_0 : decode mb_M_placeOf 0 = .ok (.iload_n 1, 1) := by decide +kernel
theorem md_M_placeOf_1 : decode mb_M_placeOf 1 = .ok (.iconst 1, 1) := by decide +kernel
theorem md_M_placeOf_2 : decode mb_M_placeOf 2 = .ok (.if_icmp .eq 8, 3) := by decide +kernel
theorem md_M_placeOf_5 : decode mb_M_placeOf 5 = .ok (.iload_n 1, 1) := by decide +kernel
theorem md_M_placeOf_6 : decode mb_M_placeOf 6 = .ok (.iconst 2, 1) := by decide +kernel
theorem md_M_placeOf_7 : decode mb_M_placeOf 7 = .ok (.if_icmp .ne 10, 3) := by decide +kernel
theorem md_M_placeOf_10 : decode mb_M_placeOf 10 = .ok (.aload_n 0, 1) := by decide +kernel
theorem md_M_placeOf_11 : decode mb_M_placeOf 11 = .ok (.getfield 24, 3) := by decide +kernel
theorem md_M_placeOf_14 : decode mb_M_placeOf 14 = .ok (.goto 4, 3) := by decide +kernel
theorem md_M_placeOf_17 : decode mb_M_placeOf 17 = .ok (.lconst 0, 1) := by decide +kernel
theorem md_M_placeOf_18 : decode mb_M_placeOf 18 = .ok (.lstore 4, 2) := by decide +kernel
theorem md_M_placeOf_20 : decode mb_M_placeOf 20 = .ok (.iload_n 1, 1) := by decide +kernel
theorem md_M_placeOf_21 : decode mb_M_placeOf 21 = .ok (.iconst 2, 1) := by decide +kernel
theorem md_M_placeOf_22 : decode mb_M_placeOf 22 = .ok (.if_icmp .lt 10, 3) := by decide +kernel
theorem md_M_placeOf_25 : decode mb_M_placeOf 25 = .ok (.aload_n 0, 1) := by decide +kernel
theorem md_M_placeOf_26 : decode mb_M_placeOf 26 = .ok (.getfield 35, 3) := by decide +kernel
theorem md_M_placeOf_29 : decode mb_M_placeOf 29 = .ok (.goto 4, 3) := by decide +kernel
theorem md_M_placeOf_32 : decode mb_M_placeOf 32 = .ok (.lconst 0, 1) := by decide +kernel
theorem md_M_placeOf_33 : decode mb_M_placeOf 33 = .ok (.lstore 6, 2) := by decide +kernel
theorem md_M_placeOf_35 : decode mb_M_placeOf 35 = .ok (.iload_n 3, 1) := by decide +kernel
theorem md_M_placeOf_36 : decode mb_M_placeOf 36 = .ok (.ifCond .ne 27, 3) := by decide +kernel
theorem md_M_placeOf_39 : decode mb_M_placeOf 39 = .ok (.lload 4, 2) := by decide +kernel
theorem md_M_placeOf_41 : decode mb_M_placeOf 41 = .ok (.aload_n 0, 1) := by decide +kernel
theorem md_M_placeOf_42 : decode mb_M_placeOf 42 = .ok (.getfield 51, 3) := by decide +kernel
theorem md_M_placeOf_45 : decode mb_M_placeOf 45 = .ok (.iload_n 2, 1) := by decide +kernel
theorem md_M_placeOf_46 : decode mb_M_placeOf 46 = .ok (.iaload, 1) := by decide +kernel
theorem md_M_placeOf_47 : decode mb_M_placeOf 47 = .ok (.i2l, 1) := by decide +kernel
theorem md_M_placeOf_48 : decode mb_M_placeOf 48 = .ok (.lmul, 1) := by decide +kernel
theorem md_M_placeOf_49 : decode mb_M_placeOf 49 = .ok (.lload 6, 2) := by decide +kernel
theorem md_M_placeOf_51 : decode mb_M_placeOf 51 = .ok (.aload_n 0, 1) := by decide +kernel
theorem md_M_placeOf_52 : decode mb_M_placeOf 52 = .ok (.getfield 54, 3) := by decide +kernel
theorem md_M_placeOf_55 : decode mb_M_placeOf 55 = .ok (.iload_n 2, 1) := by decide +kernel
theorem md_M_placeOf_56 : decode mb_M_placeOf 56 = .ok (.iaload, 1) := by decide +kernel
theorem md_M_placeOf_57 : decode mb_M_placeOf 57 = .ok (.i2l, 1) := by decide +kernel
theorem md_M_placeOf_58 : decode mb_M_placeOf 58 = .ok (.lmul, 1) := by decide +kernel
theorem md_M_placeOf_59 : decode mb_M_placeOf 59 = .ok (.lsub, 1) := by decide +kernel
theorem md_M_placeOf_60 : decode mb_M_placeOf 60 = .ok (.goto 24, 3) := by decide +kernel
theorem md_M_placeOf_63 : decode mb_M_placeOf 63 = .ok (.lload 4, 2) := by decide +kernel
theorem md_M_placeOf_65 : decode mb_M_placeOf 65 = .ok (.aload_n 0, 1) := by decide +kernel
theorem md_M_placeOf_66 : decode mb_M_placeOf 66 = .ok (.getfield 54, 3) := by decide +kernel
theorem md_M_placeOf_69 : decode mb_M_placeOf 69 = .ok (.iload_n 2, 1) := by decide +kernel
theorem md_M_placeOf_70 : decode mb_M_placeOf 70 = .ok (.iaload, 1) := by decide +kernel
theorem md_M_placeOf_71 : decode mb_M_placeOf 71 = .ok (.i2l, 1) := by decide +kernel
theorem md_M_placeOf_72 : decode mb_M_placeOf 72 = .ok (.lmul, 1) := by decide +kernel
theorem md_M_placeOf_73 : decode mb_M_placeOf 73 = .ok (.lload 6, 2) := by decide +kernel
theorem md_M_placeOf_75 : decode mb_M_placeOf 75 = .ok (.aload_n 0, 1) := by decide +kernel
theorem md_M_placeOf_76 : decode mb_M_placeOf 76 = .ok (.getfield 51, 3) := by decide +kernel
theorem md_M_placeOf_79 : decode mb_M_placeOf 79 = .ok (.iload_n 2, 1) := by decide +kernel
theorem md_M_placeOf_80 : decode mb_M_placeOf 80 = .ok (.iaload, 1) := by decide +kernel
theorem md_M_placeOf_81 : decode mb_M_placeOf 81 = .ok (.i2l, 1) := by decide +kernel
theorem md_M_placeOf_82 : decode mb_M_placeOf 82 = .ok (.lmul, 1) := by decide +kernel
theorem md_M_placeOf_83 : decode mb_M_placeOf 83 = .ok (.ladd, 1) := by decide +kernel
theorem md_M_placeOf_84 : decode mb_M_placeOf 84 = .ok (.lreturn, 1) := by decide +kernel
theorem md_M_wall_0 : decode mb_M_wall 0 = .ok (.aload_n 0, 1) := by decide +kernel
theorem md_M_wall_1 : decode mb_M_wall 1 = .ok (.lload_n 1, 1) := by decide +kernel
theorem md_M_wall_2 : decode mb_M_wall 2 = .ok (.ldc2_w 153, 3) := by decide +kernel
theorem md_M_wall_5 : decode mb_M_wall 5 = .ok (.ldc2_w 117, 3) := by decide +kernel
theorem md_M_wall_8 : decode mb_M_wall 8 = .ok (.invokestatic 91, 3) := by decide +kernel
theorem md_M_wall_11 : decode mb_M_wall 11 = .ok (.ifCond .eq 7, 3) := by decide +kernel
theorem md_M_wall_14 : decode mb_M_wall 14 = .ok (.iconst 0, 1) := by decide +kernel
theorem md_M_wall_15 : decode mb_M_wall 15 = .ok (.goto 4, 3) := by decide +kernel
theorem md_M_wall_18 : decode mb_M_wall 18 = .ok (.iconst 1, 1) := by decide +kernel
theorem md_M_wall_19 : decode mb_M_wall 19 = .ok (.putfield 61, 3) := by decide +kernel
theorem md_M_wall_22 : decode mb_M_wall 22 = .ok (.aload_n 0, 1) := by decide +kernel
theorem md_M_wall_23 : decode mb_M_wall 23 = .ok (.getfield 61, 3) := by decide +kernel
theorem md_M_wall_26 : decode mb_M_wall 26 = .ok (.ifCond .le 5, 3) := by decide +kernel
theorem md_M_wall_29 : decode mb_M_wall 29 = .ok (.iconst 0, 1) := by decide +kernel
theorem md_M_wall_30 : decode mb_M_wall 30 = .ok (.ireturn, 1) := by decide +kernel
theorem md_M_wall_31 : decode mb_M_wall 31 = .ok (.iconst 0, 1) := by decide +kernel
theorem md_M_wall_32 : decode mb_M_wall 32 = .ok (.istore_n 3, 1) := by decide +kernel
theorem md_M_wall_33 : decode mb_M_wall 33 = .ok (.iload_n 3, 1) := by decide +kernel
theorem md_M_wall_34 : decode mb_M_wall 34 = .ok (.bipush 9, 2) := by decide +kernel
theorem md_M_wall_36 : decode mb_M_wall 36 = .ok (.if_icmp .ge 45, 3) := by decide +kernel
theorem md_M_wall_39 : decode mb_M_wall 39 = .ok (.iconst 0, 1) := by decide +kernel
theorem md_M_wall_40 : decode mb_M_wall 40 = .ok (.istore 4, 2) := by decide +kernel
theorem md_M_wall_42 : decode mb_M_wall 42 = .ok (.iload 4, 2) := by decide +kernel
theorem md_M_wall_44 : decode mb_M_wall 44 = .ok (.iconst 4, 1) := by decide +kernel
theorem md_M_wall_45 : decode mb_M_wall 45 = .ok (.if_icmp .ge 30, 3) := by decide +kernel
theorem md_M_wall_48 : decode mb_M_wall 48 = .ok (.aload_n 0, 1) := by decide +kernel
theorem md_M_wall_49 : decode mb_M_wall 49 = .ok (.iload 4, 2) := by decide +kernel
theorem md_M_wall_51 : decode mb_M_wall 51 = .ok (.iload_n 3, 1) := by decide +kernel
theorem md_M_wall_52 : decode mb_M_wall 52 = .ok (.iconst 0, 1) := by decide +kernel
theorem md_M_wall_53 : decode mb_M_wall 53 = .ok (.invokevirtual 149, 3) := by decide +kernel
theorem md_M_wall_56 : decode mb_M_wall 56 = .ok (.ldc2_w 155, 3) := by decide +kernel
theorem md_M_wall_59 : decode mb_M_wall 59 = .ok (.lload_n 1, 1) := by decide +kernel
theorem md_M_wall_60 : decode mb_M_wall 60 = .ok (.lmul, 1) := by decide +kernel
theorem md_M_wall_61 : decode mb_M_wall 61 = .ok (.lcmp, 1) := by decide +kernel
theorem md_M_wall_62 : decode mb_M_wall 62 = .ok (.ifCond .ge 7, 3) := by decide +kernel
theorem md_M_wall_65 : decode mb_M_wall 65 = .ok (.iload_n 3, 1) := by decide +kernel
theorem md_M_wall_66 : decode mb_M_wall 66 = .ok (.iconst 1, 1) := by decide +kernel
theorem md_M_wall_67 : decode mb_M_wall 67 = .ok (.isub, 1) := by decide +kernel
theorem md_M_wall_68 : decode mb_M_wall 68 = .ok (.ireturn, 1) := by decide +kernel
theorem md_M_wall_69 : decode mb_M_wall 69 = .ok (.iinc 4 1, 3) := by decide +kernel
theorem md_M_wall_72 : decode mb_M_wall 72 = .ok (.goto (-30), 3) := by decide +kernel
theorem md_M_wall_75 : decode mb_M_wall 75 = .ok (.iinc 3 1, 3) := by decide +kernel
theorem md_M_wall_78 : decode mb_M_wall 78 = .ok (.goto (-45), 3) := by decide +kernel
theorem md_M_wall_81 : decode mb_M_wall 81 = .ok (.bipush 8, 2) := by decide +kernel
theorem md_M_wall_83 : decode mb_M_wall 83 = .ok (.ireturn, 1) := by decide +kernel
theorem md_M_rows32_0 : decode mb_M_rows32 0 = .ok (.aload_n 0, 1) := by decide +kernel
theorem md_M_rows32_1 : decode mb_M_rows32 1 = .ok (.lload_n 1, 1) := by decide +kernel
theorem md_M_rows32_2 : decode mb_M_rows32 2 = .ok (.lconst 1, 1) := by decide +kernel
theorem md_M_rows32_3 : decode mb_M_rows32 3 = .ok (.ldc2_w 144, 3) := by decide +kernel
theorem md_M_rows32_6 : decode mb_M_rows32 6 = .ok (.invokestatic 91, 3) := by decide +kernel
theorem md_M_rows32_9 : decode mb_M_rows32 9 = .ok (.ifCond .eq 12, 3) := by decide +kernel
theorem md_M_rows32_12 : decode mb_M_rows32 12 = .ok (.iload_n 3, 1) := by decide +kernel
theorem md_M_rows32_13 : decode mb_M_rows32 13 = .ok (.iconst (-1), 1) := by decide +kernel
theorem md_M_rows32_14 : decode mb_M_rows32 14 = .ok (.if_icmp .lt 7, 3) := by decide +kernel
theorem md_M_rows32_17 : decode mb_M_rows32 17 = .ok (.iconst 0, 1) := by decide +kernel
theorem md_M_rows32_18 : decode mb_M_rows32 18 = .ok (.goto 4, 3) := by decide +kernel
theorem md_M_rows32_21 : decode mb_M_rows32 21 = .ok (.iconst 1, 1) := by decide +kernel
theorem md_M_rows32_22 : decode mb_M_rows32 22 = .ok (.putfield 61, 3) := by decide +kernel
theorem md_M_rows32_25 : decode mb_M_rows32 25 = .ok (.aload_n 0, 1) := by decide +kernel
theorem md_M_rows32_26 : decode mb_M_rows32 26 = .ok (.getfield 61, 3) := by decide +kernel
theorem md_M_rows32_29 : decode mb_M_rows32 29 = .ok (.ifCond .le 5, 3) := by decide +kernel
theorem md_M_rows32_32 : decode mb_M_rows32 32 = .ok (.iconst 0, 1) := by decide +kernel
theorem md_M_rows32_33 : decode mb_M_rows32 33 = .ok (.ireturn, 1) := by decide +kernel
theorem md_M_rows32_34 : decode mb_M_rows32 34 = .ok (.iconst 0, 1) := by decide +kernel
theorem md_M_rows32_35 : decode mb_M_rows32 35 = .ok (.istore 4, 2) := by decide +kernel
theorem md_M_rows32_37 : decode mb_M_rows32 37 = .ok (.ldc2_w 157, 3) := by decide +kernel
theorem md_M_rows32_40 : decode mb_M_rows32 40 = .ok (.ldc2_w 159, 3) := by decide +kernel
theorem md_M_rows32_43 : decode mb_M_rows32 43 = .ok (.iload 4, 2) := by decide +kernel
theorem md_M_rows32_45 : decode mb_M_rows32 45 = .ok (.i2l, 1) := by decide +kernel
theorem md_M_rows32_46 : decode mb_M_rows32 46 = .ok (.lmul, 1) := by decide +kernel
theorem md_M_rows32_47 : decode mb_M_rows32 47 = .ok (.ladd, 1) := by decide +kernel
theorem md_M_rows32_48 : decode mb_M_rows32 48 = .ok (.lload_n 1, 1) := by decide +kernel
theorem md_M_rows32_49 : decode mb_M_rows32 49 = .ok (.ldc2_w 157, 3) := by decide +kernel
theorem md_M_rows32_52 : decode mb_M_rows32 52 = .ok (.lsub, 1) := by decide +kernel
theorem md_M_rows32_53 : decode mb_M_rows32 53 = .ok (.lcmp, 1) := by decide +kernel
theorem md_M_rows32_54 : decode mb_M_rows32 54 = .ok (.ifCond .gt 9, 3) := by decide +kernel
theorem md_M_rows32_57 : decode mb_M_rows32 57 = .ok (.iinc 4 1, 3) := by decide +kernel
theorem md_M_rows32_60 : decode mb_M_rows32 60 = .ok (.goto (-23), 3) := by decide +kernel
theorem md_M_rows32_63 : decode mb_M_rows32 63 = .ok (.iload_n 3, 1) := by decide +kernel
theorem md_M_rows32_64 : decode mb_M_rows32 64 = .ok (.iconst (-1), 1) := by decide +kernel
theorem md_M_rows32_65 : decode mb_M_rows32 65 = .ok (.if_icmp .ne 8, 3) := by decide +kernel
theorem md_M_rows32_68 : decode mb_M_rows32 68 = .ok (.iload 4, 2) := by decide +kernel
theorem md_M_rows32_70 : decode mb_M_rows32 70 = .ok (.goto 20, 3) := by decide +kernel
theorem md_M_rows32_73 : decode mb_M_rows32 73 = .ok (.iload_n 3, 1) := by decide +kernel
theorem md_M_rows32_74 : decode mb_M_rows32 74 = .ok (.iload 4, 2) := by decide +kernel
theorem md_M_rows32_76 : decode mb_M_rows32 76 = .ok (.if_icmp .ge 13, 3) := by decide +kernel
theorem md_M_rows32_79 : decode mb_M_rows32 79 = .ok (.bipush 37, 2) := by decide +kernel
theorem md_M_rows32_81 : decode mb_M_rows32 81 = .ok (.bipush 32, 2) := by decide +kernel
theorem md_M_rows32_83 : decode mb_M_rows32 83 = .ok (.iload_n 3, 1) := by decide +kernel
theorem md_M_rows32_84 : decode mb_M_rows32 84 = .ok (.imul, 1) := by decide +kernel
theorem md_M_rows32_85 : decode mb_M_rows32 85 = .ok (.iadd, 1) := by decide +kernel
theorem md_M_rows32_86 : decode mb_M_rows32 86 = .ok (.goto 4, 3) := by decide +kernel
theorem md_M_rows32_89 : decode mb_M_rows32 89 = .ok (.iconst (-1), 1) := by decide +kernel
theorem md_M_rows32_90 : decode mb_M_rows32 90 = .ok (.ireturn, 1) := by decide +kernel
