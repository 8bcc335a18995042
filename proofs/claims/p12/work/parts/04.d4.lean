theorem md_M_init_0 : decode mb_M_init 0 = .ok (.aload_n 0, 1) := by decide +kernel
theorem md_M_init_1 : decode mb_M_init 1 = .ok (.invokespecial 1, 3) := by decide +kernel
theorem md_M_init_4 : decode mb_M_init 4 = .ok (.aload_n 0, 1) := by decide +kernel
theorem md_M_init_5 : decode mb_M_init 5 = .ok (.sipush 300, 3) := by decide +kernel
theorem md_M_init_8 : decode mb_M_init 8 = .ok (.newarray .int, 2) := by decide +kernel
theorem md_M_init_10 : decode mb_M_init 10 = .ok (.putfield 7, 3) := by decide +kernel
theorem md_M_init_13 : decode mb_M_init 13 = .ok (.aload_n 0, 1) := by decide +kernel
theorem md_M_init_14 : decode mb_M_init 14 = .ok (.sipush 128, 3) := by decide +kernel
theorem md_M_init_17 : decode mb_M_init 17 = .ok (.newarray .int, 2) := by decide +kernel
theorem md_M_init_19 : decode mb_M_init 19 = .ok (.putfield 13, 3) := by decide +kernel
theorem md_M_init_22 : decode mb_M_init 22 = .ok (.aload_n 0, 1) := by decide +kernel
theorem md_M_init_23 : decode mb_M_init 23 = .ok (.sipush 128, 3) := by decide +kernel
theorem md_M_init_26 : decode mb_M_init 26 = .ok (.newarray .int, 2) := by decide +kernel
theorem md_M_init_28 : decode mb_M_init 28 = .ok (.putfield 16, 3) := by decide +kernel
theorem md_M_init_31 : decode mb_M_init 31 = .ok (.aload_n 0, 1) := by decide +kernel
theorem md_M_init_32 : decode mb_M_init 32 = .ok (.bipush 16, 2) := by decide +kernel
theorem md_M_init_34 : decode mb_M_init 34 = .ok (.newarray .int, 2) := by decide +kernel
theorem md_M_init_36 : decode mb_M_init 36 = .ok (.putfield 19, 3) := by decide +kernel
theorem md_M_init_39 : decode mb_M_init 39 = .ok (.aload_n 0, 1) := by decide +kernel
theorem md_M_init_40 : decode mb_M_init 40 = .ok (.ldc2_w 22, 3) := by decide +kernel
theorem md_M_init_43 : decode mb_M_init 43 = .ok (.putfield 24, 3) := by decide +kernel
theorem md_M_init_46 : decode mb_M_init 46 = .ok (.aload_n 0, 1) := by decide +kernel
theorem md_M_init_47 : decode mb_M_init 47 = .ok (.ldc2_w 28, 3) := by decide +kernel
theorem md_M_init_50 : decode mb_M_init 50 = .ok (.putfield 30, 3) := by decide +kernel
theorem md_M_init_53 : decode mb_M_init 53 = .ok (.aload_n 0, 1) := by decide +kernel
theorem md_M_init_54 : decode mb_M_init 54 = .ok (.ldc2_w 33, 3) := by decide +kernel
theorem md_M_init_57 : decode mb_M_init 57 = .ok (.putfield 35, 3) := by decide +kernel
theorem md_M_init_60 : decode mb_M_init 60 = .ok (.aload_n 0, 1) := by decide +kernel
theorem md_M_init_61 : decode mb_M_init 61 = .ok (.ldc2_w 28, 3) := by decide +kernel
theorem md_M_init_64 : decode mb_M_init 64 = .ok (.putfield 38, 3) := by decide +kernel
theorem md_M_init_67 : decode mb_M_init 67 = .ok (.aload_n 0, 1) := by decide +kernel
theorem md_M_init_68 : decode mb_M_init 68 = .ok (.bipush 16, 2) := by decide +kernel
theorem md_M_init_70 : decode mb_M_init 70 = .ok (.newarray .long, 2) := by decide +kernel
theorem md_M_init_72 : decode mb_M_init 72 = .ok (.putfield 41, 3) := by decide +kernel
theorem md_M_init_75 : decode mb_M_init 75 = .ok (.aload_n 0, 1) := by decide +kernel
theorem md_M_init_76 : decode mb_M_init 76 = .ok (.bipush 16, 2) := by decide +kernel
theorem md_M_init_78 : decode mb_M_init 78 = .ok (.newarray .long, 2) := by decide +kernel
theorem md_M_init_80 : decode mb_M_init 80 = .ok (.putfield 45, 3) := by decide +kernel
theorem md_M_init_83 : decode mb_M_init 83 = .ok (.aload_n 0, 1) := by decide +kernel
theorem md_M_init_84 : decode mb_M_init 84 = .ok (.bipush 16, 2) := by decide +kernel
theorem md_M_init_86 : decode mb_M_init 86 = .ok (.newarray .long, 2) := by decide +kernel
theorem md_M_init_88 : decode mb_M_init 88 = .ok (.putfield 48, 3) := by decide +kernel
theorem md_M_init_91 : decode mb_M_init 91 = .ok (.aload_n 0, 1) := by decide +kernel
theorem md_M_init_92 : decode mb_M_init 92 = .ok (.bipush 9, 2) := by decide +kernel
theorem md_M_init_94 : decode mb_M_init 94 = .ok (.newarray .int, 2) := by decide +kernel
theorem md_M_init_96 : decode mb_M_init 96 = .ok (.putfield 51, 3) := by decide +kernel
theorem md_M_init_99 : decode mb_M_init 99 = .ok (.aload_n 0, 1) := by decide +kernel
theorem md_M_init_100 : decode mb_M_init 100 = .ok (.bipush 9, 2) := by decide +kernel
theorem md_M_init_102 : decode mb_M_init 102 = .ok (.newarray .int, 2) := by decide +kernel
theorem md_M_init_104 : decode mb_M_init 104 = .ok (.putfield 54, 3) := by decide +kernel
theorem md_M_init_107 : decode mb_M_init 107 = .ok (.aload_n 0, 1) := by decide +kernel
theorem md_M_init_108 : decode mb_M_init 108 = .ok (.iconst 0, 1) := by decide +kernel
theorem md_M_init_109 : decode mb_M_init 109 = .ok (.bipush 65, 2) := by decide +kernel
theorem md_M_init_111 : decode mb_M_init 111 = .ok (.iconst 0, 1) := by decide +kernel
theorem md_M_init_112 : decode mb_M_init 112 = .ok (.invokevirtual 57, 3) := by decide +kernel
theorem md_M_init_115 : decode mb_M_init 115 = .ok (.aload_n 0, 1) := by decide +kernel
theorem md_M_init_116 : decode mb_M_init 116 = .ok (.iconst 1, 1) := by decide +kernel
theorem md_M_init_117 : decode mb_M_init 117 = .ok (.bipush 60, 2) := by decide +kernel
theorem md_M_init_119 : decode mb_M_init 119 = .ok (.bipush 25, 2) := by decide +kernel
theorem md_M_init_121 : decode mb_M_init 121 = .ok (.invokevirtual 57, 3) := by decide +kernel
theorem md_M_init_124 : decode mb_M_init 124 = .ok (.aload_n 0, 1) := by decide +kernel
theorem md_M_init_125 : decode mb_M_init 125 = .ok (.iconst 2, 1) := by decide +kernel
theorem md_M_init_126 : decode mb_M_init 126 = .ok (.bipush 52, 2) := by decide +kernel
theorem md_M_init_128 : decode mb_M_init 128 = .ok (.bipush 39, 2) := by decide +kernel
theorem md_M_init_130 : decode mb_M_init 130 = .ok (.invokevirtual 57, 3) := by decide +kernel
theorem md_M_init_133 : decode mb_M_init 133 = .ok (.aload_n 0, 1) := by decide +kernel
theorem md_M_init_134 : decode mb_M_init 134 = .ok (.iconst 3, 1) := by decide +kernel
theorem md_M_init_135 : decode mb_M_init 135 = .ok (.bipush 39, 2) := by decide +kernel
theorem md_M_init_137 : decode mb_M_init 137 = .ok (.bipush 52, 2) := by decide +kernel
theorem md_M_init_139 : decode mb_M_init 139 = .ok (.invokevirtual 57, 3) := by decide +kernel
theorem md_M_init_142 : decode mb_M_init 142 = .ok (.aload_n 0, 1) := by decide +kernel
theorem md_M_init_143 : decode mb_M_init 143 = .ok (.iconst 4, 1) := by decide +kernel
theorem md_M_init_144 : decode mb_M_init 144 = .ok (.bipush 25, 2) := by decide +kernel
theorem md_M_init_146 : decode mb_M_init 146 = .ok (.bipush 60, 2) := by decide +kernel
theorem md_M_init_148 : decode mb_M_init 148 = .ok (.invokevirtual 57, 3) := by decide +kernel
theorem md_M_init_151 : decode mb_M_init 151 = .ok (.aload_n 0, 1) := by decide +kernel
theorem md_M_init_152 : decode mb_M_init 152 = .ok (.iconst 5, 1) := by decide +kernel
theorem md_M_init_153 : decode mb_M_init 153 = .ok (.iconst 0, 1) := by decide +kernel
theorem md_M_init_154 : decode mb_M_init 154 = .ok (.bipush 65, 2) := by decide +kernel
theorem md_M_init_156 : decode mb_M_init 156 = .ok (.invokevirtual 57, 3) := by decide +kernel
theorem md_M_init_159 : decode mb_M_init 159 = .ok (.bipush 6, 2) := by decide +kernel
theorem md_M_init_161 : decode mb_M_init 161 = .ok (.istore_n 1, 1) := by decide +kernel
theorem md_M_init_162 : decode mb_M_init 162 = .ok (.iload_n 1, 1) := by decide +kernel
theorem md_M_init_163 : decode mb_M_init 163 = .ok (.bipush 9, 2) := by decide +kernel
theorem md_M_init_165 : decode mb_M_init 165 = .ok (.if_icmp .ge 33, 3) := by decide +kernel
theorem md_M_init_168 : decode mb_M_init 168 = .ok (.aload_n 0, 1) := by decide +kernel
theorem md_M_init_169 : decode mb_M_init 169 = .ok (.iload_n 1, 1) := by decide +kernel
theorem md_M_init_170 : decode mb_M_init 170 = .ok (.aload_n 0, 1) := by decide +kernel
theorem md_M_init_171 : decode mb_M_init 171 = .ok (.getfield 51, 3) := by decide +kernel
theorem md_M_init_174 : decode mb_M_init 174 = .ok (.bipush 10, 2) := by decide +kernel
theorem md_M_init_176 : decode mb_M_init 176 = .ok (.iload_n 1, 1) := by decide +kernel
theorem md_M_init_177 : decode mb_M_init 177 = .ok (.isub, 1) := by decide +kernel
theorem md_M_init_178 : decode mb_M_init 178 = .ok (.iaload, 1) := by decide +kernel
theorem md_M_init_179 : decode mb_M_init 179 = .ok (.ineg, 1) := by decide +kernel
theorem md_M_init_180 : decode mb_M_init 180 = .ok (.aload_n 0, 1) := by decide +kernel
theorem md_M_init_181 : decode mb_M_init 181 = .ok (.getfield 54, 3) := by decide +kernel
theorem md_M_init_184 : decode mb_M_init 184 = .ok (.bipush 10, 2) := by decide +kernel
theorem md_M_init_186 : decode mb_M_init 186 = .ok (.iload_n 1, 1) := by decide +kernel
theorem md_M_init_187 : decode mb_M_init 187 = .ok (.isub, 1) := by decide +kernel
theorem md_M_init_188 : decode mb_M_init 188 = .ok (.iaload, 1) := by decide +kernel
theorem md_M_init_189 : decode mb_M_init 189 = .ok (.invokevirtual 57, 3) := by decide +kernel
theorem md_M_init_192 : decode mb_M_init 192 = .ok (.iinc 1 1, 3) := by decide +kernel
theorem md_M_init_195 : decode mb_M_init 195 = .ok (.goto (-33), 3) := by decide +kernel
theorem md_M_init_198 : decode mb_M_init 198 = .ok (.return_, 1) := by decide +kernel
theorem md_M_here_0 : decode mb_M_here 0 = .ok (.aload_n 0, 1) := by decide +kernel
theorem md_M_here_1 : decode mb_M_here 1 = .ok (.getfield 68, 3) := by decide +kernel
theorem md_M_here_4 : decode mb_M_here 4 = .ok (.aload_n 0, 1) := by decide +kernel
theorem md_M_here_5 : decode mb_M_here 5 = .ok (.getfield 65, 3) := by decide +kernel
theorem md_M_here_8 : decode mb_M_here 8 = .ok (.if_icmp .ge 15, 3) := by decide +kernel
theorem md_M_here_11 : decode mb_M_here 11 = .ok (.aload_n 0, 1) := by decide +kernel
theorem md_M_here_12 : decode mb_M_here 12 = .ok (.getfield 7, 3) := by decide +kernel
theorem md_M_here_15 : decode mb_M_here 15 = .ok (.aload_n 0, 1) := by decide +kernel
theorem md_M_here_16 : decode mb_M_here 16 = .ok (.getfield 68, 3) := by decide +kernel
theorem md_M_here_19 : decode mb_M_here 19 = .ok (.iaload, 1) := by decide +kernel
theorem md_M_here_20 : decode mb_M_here 20 = .ok (.goto 4, 3) := by decide +kernel
theorem md_M_here_23 : decode mb_M_here 23 = .ok (.iconst (-1), 1) := by decide +kernel
theorem md_M_here_24 : decode mb_M_here 24 = .ok (.ireturn, 1) := by decide +kernel
theorem md_M_failAt_0 : decode mb_M_failAt 0 = .ok (.aload_n 0, 1) := by decide +kernel
theorem md_M_failAt_1 : decode mb_M_failAt 1 = .ok (.aload_n 0, 1) := by decide +kernel
theorem md_M_failAt_2 : decode mb_M_failAt 2 = .ok (.getfield 71, 3) := by decide +kernel
theorem md_M_failAt_5 : decode mb_M_failAt 5 = .ok (.ifCond .ge 7, 3) := by decide +kernel
theorem md_M_failAt_8 : decode mb_M_failAt 8 = .ok (.iload_n 1, 1) := by decide +kernel
theorem md_M_failAt_9 : decode mb_M_failAt 9 = .ok (.goto 7, 3) := by decide +kernel
theorem md_M_failAt_12 : decode mb_M_failAt 12 = .ok (.aload_n 0, 1) := by decide +kernel
theorem md_M_failAt_13 : decode mb_M_failAt 13 = .ok (.getfield 71, 3) := by decide +kernel
theorem md_M_failAt_16 : decode mb_M_failAt 16 = .ok (.putfield 71, 3) := by decide +kernel
theorem md_M_failAt_19 : decode mb_M_failAt 19 = .ok (.return_, 1) := by decide +kernel
theorem md_M_isIn_0 : decode mb_M_isIn 0 = .ok (.lload_n 0, 1) := by decide +kernel
theorem md_M_isIn_1 : decode mb_M_isIn 1 = .ok (.lload_n 2, 1) := by decide +kernel
theorem md_M_isIn_2 : decode mb_M_isIn 2 = .ok (.lcmp, 1) := by decide +kernel
theorem md_M_isIn_3 : decode mb_M_isIn 3 = .ok (.ifCond .lt 14, 3) := by decide +kernel
theorem md_M_isIn_6 : decode mb_M_isIn 6 = .ok (.lload_n 0, 1) := by decide +kernel
theorem md_M_isIn_7 : decode mb_M_isIn 7 = .ok (.lload 4, 2) := by decide +kernel
theorem md_M_isIn_9 : decode mb_M_isIn 9 = .ok (.lcmp, 1) := by decide +kernel
theorem md_M_isIn_10 : decode mb_M_isIn 10 = .ok (.ifCond .gt 7, 3) := by decide +kernel
theorem md_M_isIn_13 : decode mb_M_isIn 13 = .ok (.iconst 1, 1) := by decide +kernel
theorem md_M_isIn_14 : decode mb_M_isIn 14 = .ok (.goto 4, 3) := by decide +kernel
theorem md_M_isIn_17 : decode mb_M_isIn 17 = .ok (.iconst 0, 1) := by decide +kernel
theorem md_M_isIn_18 : decode mb_M_isIn 18 = .ok (.ireturn, 1) := by decide +kernel
theorem md_M_hinge_0 : decode mb_M_hinge 0 = .ok (.aload_n 0, 1) := by decide +kernel
theorem md_M_hinge_1 : decode mb_M_hinge 1 = .ok (.aload_n 0, 1) := by decide +kernel
theorem md_M_hinge_2 : decode mb_M_hinge 2 = .ok (.getfield 98, 3) := by decide +kernel
theorem md_M_hinge_5 : decode mb_M_hinge 5 = .ok (.ifCond .ne 7, 3) := by decide +kernel
theorem md_M_hinge_8 : decode mb_M_hinge 8 = .ok (.iconst 1, 1) := by decide +kernel
theorem md_M_hinge_9 : decode mb_M_hinge 9 = .ok (.goto 4, 3) := by decide +kernel
theorem md_M_hinge_12 : decode mb_M_hinge 12 = .ok (.iconst 0, 1) := by decide +kernel
theorem md_M_hinge_13 : decode mb_M_hinge 13 = .ok (.putfield 61, 3) := by decide +kernel
theorem md_M_hinge_16 : decode mb_M_hinge 16 = .ok (.iconst (-1), 1) := by decide +kernel
theorem md_M_hinge_17 : decode mb_M_hinge 17 = .ok (.istore 6, 2) := by decide +kernel
theorem md_M_hinge_19 : decode mb_M_hinge 19 = .ok (.aload_n 0, 1) := by decide +kernel
theorem md_M_hinge_20 : decode mb_M_hinge 20 = .ok (.getfield 98, 3) := by decide +kernel
theorem md_M_hinge_23 : decode mb_M_hinge 23 = .ok (.iconst 1, 1) := by decide +kernel
theorem md_M_hinge_24 : decode mb_M_hinge 24 = .ok (.isub, 1) := by decide +kernel
theorem md_M_hinge_25 : decode mb_M_hinge 25 = .ok (.istore 7, 2) := by decide +kernel
theorem md_M_hinge_27 : decode mb_M_hinge 27 = .ok (.iload 7, 2) := by decide +kernel
theorem md_M_hinge_29 : decode mb_M_hinge 29 = .ok (.ifCond .lt 104, 3) := by decide +kernel
theorem md_M_hinge_32 : decode mb_M_hinge 32 = .ok (.aload_n 0, 1) := by decide +kernel
theorem md_M_hinge_33 : decode mb_M_hinge 33 = .ok (.getfield 61, 3) := by decide +kernel
theorem md_M_hinge_36 : decode mb_M_hinge 36 = .ok (.ifCond .ne 97, 3) := by decide +kernel
theorem md_M_hinge_39 : decode mb_M_hinge 39 = .ok (.lload_n 1, 1) := by decide +kernel
theorem md_M_hinge_40 : decode mb_M_hinge 40 = .ok (.aload_n 0, 1) := by decide +kernel
theorem md_M_hinge_41 : decode mb_M_hinge 41 = .ok (.iload 7, 2) := by decide +kernel
theorem md_M_hinge_43 : decode mb_M_hinge 43 = .ok (.iconst 0, 1) := by decide +kernel
theorem md_M_hinge_44 : decode mb_M_hinge 44 = .ok (.invokevirtual 106, 3) := by decide +kernel
theorem md_M_hinge_47 : decode mb_M_hinge 47 = .ok (.aload_n 0, 1) := by decide +kernel
theorem md_M_hinge_48 : decode mb_M_hinge 48 = .ok (.iload 7, 2) := by decide +kernel
theorem md_M_hinge_50 : decode mb_M_hinge 50 = .ok (.iconst 1, 1) := by decide +kernel
theorem md_M_hinge_51 : decode mb_M_hinge 51 = .ok (.invokevirtual 106, 3) := by decide +kernel
theorem md_M_hinge_54 : decode mb_M_hinge 54 = .ok (.invokestatic 91, 3) := by decide +kernel
theorem md_M_hinge_57 : decode mb_M_hinge 57 = .ok (.ifCond .eq 42, 3) := by decide +kernel
theorem md_M_hinge_60 : decode mb_M_hinge 60 = .ok (.lload_n 3, 1) := by decide +kernel
theorem md_M_hinge_61 : decode mb_M_hinge 61 = .ok (.aload_n 0, 1) := by decide +kernel
theorem md_M_hinge_62 : decode mb_M_hinge 62 = .ok (.iload 7, 2) := by decide +kernel
theorem md_M_hinge_64 : decode mb_M_hinge 64 = .ok (.iconst 2, 1) := by decide +kernel
theorem md_M_hinge_65 : decode mb_M_hinge 65 = .ok (.invokevirtual 106, 3) := by decide +kernel
theorem md_M_hinge_68 : decode mb_M_hinge 68 = .ok (.aload_n 0, 1) := by decide +kernel
theorem md_M_hinge_69 : decode mb_M_hinge 69 = .ok (.iload 7, 2) := by decide +kernel
theorem md_M_hinge_71 : decode mb_M_hinge 71 = .ok (.iconst 3, 1) := by decide +kernel
theorem md_M_hinge_72 : decode mb_M_hinge 72 = .ok (.invokevirtual 106, 3) := by decide +kernel
theorem md_M_hinge_75 : decode mb_M_hinge 75 = .ok (.invokestatic 91, 3) := by decide +kernel
theorem md_M_hinge_78 : decode mb_M_hinge 78 = .ok (.ifCond .eq 21, 3) := by decide +kernel
theorem md_M_hinge_81 : decode mb_M_hinge 81 = .ok (.aload_n 0, 1) := by decide +kernel
theorem md_M_hinge_82 : decode mb_M_hinge 82 = .ok (.iload 7, 2) := by decide +kernel
theorem md_M_hinge_84 : decode mb_M_hinge 84 = .ok (.iconst 4, 1) := by decide +kernel
theorem md_M_hinge_85 : decode mb_M_hinge 85 = .ok (.invokevirtual 106, 3) := by decide +kernel
theorem md_M_hinge_88 : decode mb_M_hinge 88 = .ok (.iload 5, 2) := by decide +kernel
theorem md_M_hinge_90 : decode mb_M_hinge 90 = .ok (.i2l, 1) := by decide +kernel
theorem md_M_hinge_91 : decode mb_M_hinge 91 = .ok (.lcmp, 1) := by decide +kernel
theorem md_M_hinge_92 : decode mb_M_hinge 92 = .ok (.ifCond .lt 7, 3) := by decide +kernel
theorem md_M_hinge_95 : decode mb_M_hinge 95 = .ok (.iconst 1, 1) := by decide +kernel
theorem md_M_hinge_96 : decode mb_M_hinge 96 = .ok (.goto 4, 3) := by decide +kernel
theorem md_M_hinge_99 : decode mb_M_hinge 99 = .ok (.iconst 0, 1) := by decide +kernel
theorem md_M_hinge_100 : decode mb_M_hinge 100 = .ok (.istore 8, 2) := by decide +kernel
theorem md_M_hinge_102 : decode mb_M_hinge 102 = .ok (.iload 8, 2) := by decide +kernel
theorem md_M_hinge_104 : decode mb_M_hinge 104 = .ok (.ifCond .eq 19, 3) := by decide +kernel
theorem md_M_hinge_107 : decode mb_M_hinge 107 = .ok (.aload_n 0, 1) := by decide +kernel
theorem md_M_hinge_108 : decode mb_M_hinge 108 = .ok (.iload 7, 2) := by decide +kernel
theorem md_M_hinge_110 : decode mb_M_hinge 110 = .ok (.bipush 104, 2) := by decide +kernel
theorem md_M_hinge_112 : decode mb_M_hinge 112 = .ok (.invokevirtual 110, 3) := by decide +kernel
theorem md_M_hinge_115 : decode mb_M_hinge 115 = .ok (.ifCond .eq 8, 3) := by decide +kernel
theorem md_M_hinge_118 : decode mb_M_hinge 118 = .ok (.iload 7, 2) := by decide +kernel
theorem md_M_hinge_120 : decode mb_M_hinge 120 = .ok (.goto 5, 3) := by decide +kernel
theorem md_M_hinge_123 : decode mb_M_hinge 123 = .ok (.iload 6, 2) := by decide +kernel
theorem md_M_hinge_125 : decode mb_M_hinge 125 = .ok (.istore 6, 2) := by decide +kernel
theorem md_M_hinge_127 : decode mb_M_hinge 127 = .ok (.iinc 7 (-1), 3) := by decide +kernel
theorem md_M_hinge_130 : decode mb_M_hinge 130 = .ok (.goto (-103), 3) := by decide +kernel
theorem md_M_hinge_133 : decode mb_M_hinge 133 = .ok (.aload_n 0, 1) := by decide +kernel
theorem md_M_hinge_134 : decode mb_M_hinge 134 = .ok (.getfield 61, 3) := by decide +kernel
theorem md_M_hinge_137 : decode mb_M_hinge 137 = .ok (.ifCond .le 7, 3) := by decide +kernel
theorem md_M_hinge_140 : decode mb_M_hinge 140 = .ok (.iconst 0, 1) := by decide +kernel
theorem md_M_hinge_141 : decode mb_M_hinge 141 = .ok (.goto 5, 3) := by decide +kernel
theorem md_M_hinge_144 : decode mb_M_hinge 144 = .ok (.iload 6, 2) := by decide +kernel
theorem md_M_hinge_146 : decode mb_M_hinge 146 = .ok (.ireturn, 1) := by decide +kernel
theorem md_M_isThere_0 : decode mb_M_isThere 0 = .ok (.aload_n 0, 1) := by decide +kernel
theorem md_M_isThere_1 : decode mb_M_isThere 1 = .ok (.getfield 13, 3) := by decide +kernel
theorem md_M_isThere_4 : decode mb_M_isThere 4 = .ok (.bipush 8, 2) := by decide +kernel
theorem md_M_isThere_6 : decode mb_M_isThere 6 = .ok (.iload_n 1, 1) := by decide +kernel
theorem md_M_isThere_7 : decode mb_M_isThere 7 = .ok (.imul, 1) := by decide +kernel
theorem md_M_isThere_8 : decode mb_M_isThere 8 = .ok (.iaload, 1) := by decide +kernel
theorem md_M_isThere_9 : decode mb_M_isThere 9 = .ok (.iload_n 2, 1) := by decide +kernel
theorem md_M_isThere_10 : decode mb_M_isThere 10 = .ok (.if_icmp .ne 16, 3) := by decide +kernel
theorem md_M_isThere_13 : decode mb_M_isThere 13 = .ok (.aload_n 0, 1) := by decide +kernel
theorem md_M_isThere_14 : decode mb_M_isThere 14 = .ok (.getfield 19, 3) := by decide +kernel
theorem md_M_isThere_17 : decode mb_M_isThere 17 = .ok (.iload_n 1, 1) := by decide +kernel
theorem md_M_isThere_18 : decode mb_M_isThere 18 = .ok (.iaload, 1) := by decide +kernel
theorem md_M_isThere_19 : decode mb_M_isThere 19 = .ok (.ifCond .le 7, 3) := by decide +kernel
theorem md_M_isThere_22 : decode mb_M_isThere 22 = .ok (.iconst 1, 1) := by decide +kernel
theorem md_M_isThere_23 : decode mb_M_isThere 23 = .ok (.goto 4, 3) := by decide +kernel
theorem md_M_isThere_26 : decode mb_M_isThere 26 = .ok (.iconst 0, 1) := by decide +kernel
theorem md_M_isThere_27 : decode mb_M_isThere 27 = .ok (.ireturn, 1) := by decide +kernel
theorem md_M_door_0 : decode mb_M_door 0 = .ok (.aload_n 0, 1) := by decide +kernel
theorem md_M_door_1 : decode mb_M_door 1 = .ok (.lload_n 1, 1) := by decide +kernel
theorem md_M_door_2 : decode mb_M_door 2 = .ok (.invokestatic 119, 3) := by decide +kernel
theorem md_M_door_5 : decode mb_M_door 5 = .ok (.ifCond .eq 30, 3) := by decide +kernel
theorem md_M_door_8 : decode mb_M_door 8 = .ok (.lload_n 3, 1) := by decide +kernel
theorem md_M_door_9 : decode mb_M_door 9 = .ok (.invokestatic 119, 3) := by decide +kernel
theorem md_M_door_12 : decode mb_M_door 12 = .ok (.ifCond .eq 23, 3) := by decide +kernel
theorem md_M_door_15 : decode mb_M_door 15 = .ok (.lload 5, 2) := by decide +kernel
theorem md_M_door_17 : decode mb_M_door 17 = .ok (.invokestatic 119, 3) := by decide +kernel
theorem md_M_door_20 : decode mb_M_door 20 = .ok (.ifCond .eq 15, 3) := by decide +kernel
theorem md_M_door_23 : decode mb_M_door 23 = .ok (.lload 7, 2) := by decide +kernel
theorem md_M_door_25 : decode mb_M_door 25 = .ok (.invokestatic 119, 3) := by decide +kernel
theorem md_M_door_28 : decode mb_M_door 28 = .ok (.ifCond .eq 7, 3) := by decide +kernel
theorem md_M_door_31 : decode mb_M_door 31 = .ok (.iconst 0, 1) := by decide +kernel
theorem md_M_door_32 : decode mb_M_door 32 = .ok (.goto 4, 3) := by decide +kernel
theorem md_M_door_35 : decode mb_M_door 35 = .ok (.iconst 1, 1) := by decide +kernel
theorem md_M_door_36 : decode mb_M_door 36 = .ok (.putfield 61, 3) := by decide +kernel
theorem md_M_door_39 : decode mb_M_door 39 = .ok (.aload_n 0, 1) := by decide +kernel
theorem md_M_door_40 : decode mb_M_door 40 = .ok (.getfield 61, 3) := by decide +kernel
theorem md_M_door_43 : decode mb_M_door 43 = .ok (.ifCond .gt 41, 3) := by decide +kernel
theorem md_M_door_46 : decode mb_M_door 46 = .ok (.lload_n 1, 1) := by decide +kernel
theorem md_M_door_47 : decode mb_M_door 47 = .ok (.aload_n 0, 1) := by decide +kernel
theorem md_M_door_48 : decode mb_M_door 48 = .ok (.getfield 24, 3) := by decide +kernel
theorem md_M_door_51 : decode mb_M_door 51 = .ok (.lcmp, 1) := by decide +kernel
theorem md_M_door_52 : decode mb_M_door 52 = .ok (.ifCond .ne 34, 3) := by decide +kernel
theorem md_M_door_55 : decode mb_M_door 55 = .ok (.lload_n 3, 1) := by decide +kernel
theorem md_M_door_56 : decode mb_M_door 56 = .ok (.aload_n 0, 1) := by decide +kernel
theorem md_M_door_57 : decode mb_M_door 57 = .ok (.getfield 30, 3) := by decide +kernel
theorem md_M_door_60 : decode mb_M_door 60 = .ok (.lcmp, 1) := by decide +kernel
theorem md_M_door_61 : decode mb_M_door 61 = .ok (.ifCond .ne 25, 3) := by decide +kernel
theorem md_M_door_64 : decode mb_M_door 64 = .ok (.lload 5, 2) := by decide +kernel
theorem md_M_door_66 : decode mb_M_door 66 = .ok (.aload_n 0, 1) := by decide +kernel
theorem md_M_door_67 : decode mb_M_door 67 = .ok (.getfield 35, 3) := by decide +kernel
theorem md_M_door_70 : decode mb_M_door 70 = .ok (.lcmp, 1) := by decide +kernel
theorem md_M_door_71 : decode mb_M_door 71 = .ok (.ifCond .ne 15, 3) := by decide +kernel
theorem md_M_door_74 : decode mb_M_door 74 = .ok (.lload 7, 2) := by decide +kernel
theorem md_M_door_76 : decode mb_M_door 76 = .ok (.aload_n 0, 1) := by decide +kernel
theorem md_M_door_77 : decode mb_M_door 77 = .ok (.getfield 38, 3) := by decide +kernel
theorem md_M_door_80 : decode mb_M_door 80 = .ok (.lcmp, 1) := by decide +kernel
theorem md_M_door_81 : decode mb_M_door 81 = .ok (.ifCond .ne 5, 3) := by decide +kernel
theorem md_M_door_84 : decode mb_M_door 84 = .ok (.iconst 0, 1) := by decide +kernel
theorem md_M_door_85 : decode mb_M_door 85 = .ok (.ireturn, 1) := by decide +kernel
theorem md_M_door_86 : decode mb_M_door 86 = .ok (.aload_n 0, 1) := by decide +kernel
theorem md_M_door_87 : decode mb_M_door 87 = .ok (.lload_n 1, 1) := by decide +kernel
theorem md_M_door_88 : decode mb_M_door 88 = .ok (.putfield 24, 3) := by decide +kernel
theorem md_M_door_91 : decode mb_M_door 91 = .ok (.aload_n 0, 1) := by decide +kernel
theorem md_M_door_92 : decode mb_M_door 92 = .ok (.lload_n 3, 1) := by decide +kernel
theorem md_M_door_93 : decode mb_M_door 93 = .ok (.putfield 30, 3) := by decide +kernel
theorem md_M_door_96 : decode mb_M_door 96 = .ok (.aload_n 0, 1) := by decide +kernel
theorem md_M_door_97 : decode mb_M_door 97 = .ok (.lload 5, 2) := by decide +kernel
theorem md_M_door_99 : decode mb_M_door 99 = .ok (.putfield 35, 3) := by decide +kernel
theorem md_M_door_102 : decode mb_M_door 102 = .ok (.aload_n 0, 1) := by decide +kernel
theorem md_M_door_103 : decode mb_M_door 103 = .ok (.lload 7, 2) := by decide +kernel
theorem md_M_door_105 : decode mb_M_door 105 = .ok (.putfield 38, 3) := by decide +kernel
theorem md_M_door_108 : decode mb_M_door 108 = .ok (.iconst 1, 1) := by decide +kernel
theorem md_M_door_109 : decode mb_M_door 109 = .ok (.ireturn, 1) := by decide +kernel
theorem md_M_isSize_0 : decode mb_M_isSize 0 = .ok (.lload_n 0, 1) := by decide +kernel
theorem md_M_isSize_1 : decode mb_M_isSize 1 = .ok (.lconst 1, 1) := by decide +kernel
theorem md_M_isSize_2 : decode mb_M_isSize 2 = .ok (.lcmp, 1) := by decide +kernel
theorem md_M_isSize_3 : decode mb_M_isSize 3 = .ok (.ifCond .lt 15, 3) := by decide +kernel
theorem md_M_isSize_6 : decode mb_M_isSize 6 = .ok (.lload_n 0, 1) := by decide +kernel
theorem md_M_isSize_7 : decode mb_M_isSize 7 = .ok (.ldc2_w 117, 3) := by decide +kernel
theorem md_M_isSize_10 : decode mb_M_isSize 10 = .ok (.lcmp, 1) := by decide +kernel
theorem md_M_isSize_11 : decode mb_M_isSize 11 = .ok (.ifCond .gt 7, 3) := by decide +kernel
theorem md_M_isSize_14 : decode mb_M_isSize 14 = .ok (.iconst 1, 1) := by decide +kernel
theorem md_M_isSize_15 : decode mb_M_isSize 15 = .ok (.goto 4, 3) := by decide +kernel
theorem md_M_isSize_18 : decode mb_M_isSize 18 = .ok (.iconst 0, 1) := by decide +kernel
theorem md_M_isSize_19 : decode mb_M_isSize 19 = .ok (.ireturn, 1) := by decide +kernel
theorem md_M_grams_0 : decode mb_M_grams 0 = .ok (.aload_n 0, 1) := by decide +kernel
theorem md_M_grams_1 : decode mb_M_grams 1 = .ok (.getfield 24, 3) := by decide +kernel
theorem md_M_grams_4 : decode mb_M_grams 4 = .ok (.aload_n 0, 1) := by decide +kernel
theorem md_M_grams_5 : decode mb_M_grams 5 = .ok (.getfield 30, 3) := by decide +kernel
theorem md_M_grams_8 : decode mb_M_grams 8 = .ok (.lmul, 1) := by decide +kernel
theorem md_M_grams_9 : decode mb_M_grams 9 = .ok (.aload_n 0, 1) := by decide +kernel
theorem md_M_grams_10 : decode mb_M_grams 10 = .ok (.getfield 35, 3) := by decide +kernel
theorem md_M_grams_13 : decode mb_M_grams 13 = .ok (.lmul, 1) := by decide +kernel
theorem md_M_grams_14 : decode mb_M_grams 14 = .ok (.aload_n 0, 1) := by decide +kernel
theorem md_M_grams_15 : decode mb_M_grams 15 = .ok (.getfield 38, 3) := by decide +kernel
theorem md_M_grams_18 : decode mb_M_grams 18 = .ok (.lmul, 1) := by decide +kernel
theorem md_M_grams_19 : decode mb_M_grams 19 = .ok (.lreturn, 1) := by decide +kernel
theorem md_M_common_0 : decode mb_M_common 0 = .ok (.lload_n 0, 1) := by decide +kernel
theorem md_M_common_1 : decode mb_M_common 1 = .ok (.lstore 4, 2) := by decide +kernel
theorem md_M_common_3 : decode mb_M_common 3 = .ok (.lload_n 2, 1) := by decide +kernel
theorem md_M_common_4 : decode mb_M_common 4 = .ok (.lstore 6, 2) := by decide +kernel
theorem md_M_common_6 : decode mb_M_common 6 = .ok (.lload 6, 2) := by decide +kernel
theorem md_M_common_8 : decode mb_M_common 8 = .ok (.lconst 0, 1) := by decide +kernel
theorem md_M_common_9 : decode mb_M_common 9 = .ok (.lcmp, 1) := by decide +kernel
theorem md_M_common_10 : decode mb_M_common 10 = .ok (.ifCond .eq 21, 3) := by decide +kernel
theorem md_M_common_13 : decode mb_M_common 13 = .ok (.lload 4, 2) := by decide +kernel
theorem md_M_common_15 : decode mb_M_common 15 = .ok (.lload 6, 2) := by decide +kernel
theorem md_M_common_17 : decode mb_M_common 17 = .ok (.lrem, 1) := by decide +kernel
theorem md_M_common_18 : decode mb_M_common 18 = .ok (.lstore 8, 2) := by decide +kernel
theorem md_M_common_20 : decode mb_M_common 20 = .ok (.lload 6, 2) := by decide +kernel
theorem md_M_common_22 : decode mb_M_common 22 = .ok (.lstore 4, 2) := by decide +kernel
theorem md_M_common_24 : decode mb_M_common 24 = .ok (.lload 8, 2) := by decide +kernel
theorem md_M_common_26 : decode mb_M_common 26 = .ok (.lstore 6, 2) := by decide +kernel
theorem md_M_common_28 : decode mb_M_common 28 = .ok (.goto (-22), 3) := by decide +kernel
theorem md_M_common_31 : decode mb_M_common 31 = .ok (.lload 4, 2) := by decide +kernel
theorem md_M_common_33 : decode mb_M_common 33 = .ok (.lreturn, 1) := by decide +kernel
theorem md_M_count_0 : decode mb_M_count 0 = .ok (.aload_n 0, 1) := by decide +kernel
theorem md_M_count_1 : decode mb_M_count 1 = .ok (.aload_n 0, 1) := by decide +kernel
theorem md_M_count_2 : decode mb_M_count 2 = .ok (.getfield 98, 3) := by decide +kernel
theorem md_M_count_5 : decode mb_M_count 5 = .ok (.ifCond .ne 7, 3) := by decide +kernel
theorem md_M_count_8 : decode mb_M_count 8 = .ok (.iconst 1, 1) := by decide +kernel
theorem md_M_count_9 : decode mb_M_count 9 = .ok (.goto 4, 3) := by decide +kernel
theorem md_M_count_12 : decode mb_M_count 12 = .ok (.iconst 0, 1) := by decide +kernel
theorem md_M_count_13 : decode mb_M_count 13 = .ok (.putfield 61, 3) := by decide +kernel
theorem md_M_count_16 : decode mb_M_count 16 = .ok (.aload_n 0, 1) := by decide +kernel
theorem md_M_count_17 : decode mb_M_count 17 = .ok (.getfield 61, 3) := by decide +kernel
theorem md_M_count_20 : decode mb_M_count 20 = .ok (.ifCond .le 7, 3) := by decide +kernel
theorem md_M_count_23 : decode mb_M_count 23 = .ok (.iconst 0, 1) := by decide +kernel
theorem md_M_count_24 : decode mb_M_count 24 = .ok (.goto 7, 3) := by decide +kernel
theorem md_M_count_27 : decode mb_M_count 27 = .ok (.aload_n 0, 1) := by decide +kernel
theorem md_M_count_28 : decode mb_M_count 28 = .ok (.invokevirtual 133, 3) := by decide +kernel
theorem md_M_count_31 : decode mb_M_count 31 = .ok (.ireturn, 1) := by decide +kernel
theorem md_M_hinges_0 : decode mb_M_hinges 0 = .ok (.iconst (-1), 1) := by decide +kernel
theorem md_M_hinges_1 : decode mb_M_hinges 1 = .ok (.istore_n 1, 1) := by decide +kernel
theorem md_M_hinges_2 : decode mb_M_hinges 2 = .ok (.aload_n 0, 1) := by decide +kernel
theorem md_M_hinges_3 : decode mb_M_hinges 3 = .ok (.getfield 98, 3) := by decide +kernel
theorem md_M_hinges_6 : decode mb_M_hinges 6 = .ok (.iconst 1, 1) := by decide +kernel
theorem md_M_hinges_7 : decode mb_M_hinges 7 = .ok (.isub, 1) := by decide +kernel
theorem md_M_hinges_8 : decode mb_M_hinges 8 = .ok (.istore_n 2, 1) := by decide +kernel
theorem md_M_hinges_9 : decode mb_M_hinges 9 = .ok (.iload_n 2, 1) := by decide +kernel
theorem md_M_hinges_10 : decode mb_M_hinges 10 = .ok (.ifCond .lt 81, 3) := by decide +kernel
theorem md_M_hinges_13 : decode mb_M_hinges 13 = .ok (.aload_n 0, 1) := by decide +kernel
theorem md_M_hinges_14 : decode mb_M_hinges 14 = .ok (.getfield 13, 3) := by decide +kernel
theorem md_M_hinges_17 : decode mb_M_hinges 17 = .ok (.bipush 8, 2) := by decide +kernel
theorem md_M_hinges_19 : decode mb_M_hinges 19 = .ok (.iload_n 2, 1) := by decide +kernel
theorem md_M_hinges_20 : decode mb_M_hinges 20 = .ok (.imul, 1) := by decide +kernel
theorem md_M_hinges_21 : decode mb_M_hinges 21 = .ok (.iaload, 1) := by decide +kernel
theorem md_M_hinges_22 : decode mb_M_hinges 22 = .ok (.bipush 99, 2) := by decide +kernel
theorem md_M_hinges_24 : decode mb_M_hinges 24 = .ok (.if_icmp .ne 43, 3) := by decide +kernel
theorem md_M_hinges_27 : decode mb_M_hinges 27 = .ok (.aload_n 0, 1) := by decide +kernel
theorem md_M_hinges_28 : decode mb_M_hinges 28 = .ok (.iload_n 2, 1) := by decide +kernel
theorem md_M_hinges_29 : decode mb_M_hinges 29 = .ok (.iconst 0, 1) := by decide +kernel
theorem md_M_hinges_30 : decode mb_M_hinges 30 = .ok (.invokevirtual 106, 3) := by decide +kernel
theorem md_M_hinges_33 : decode mb_M_hinges 33 = .ok (.aload_n 0, 1) := by decide +kernel
theorem md_M_hinges_34 : decode mb_M_hinges 34 = .ok (.getfield 30, 3) := by decide +kernel
theorem md_M_hinges_37 : decode mb_M_hinges 37 = .ok (.lcmp, 1) := by decide +kernel
theorem md_M_hinges_38 : decode mb_M_hinges 38 = .ok (.ifCond .lt 29, 3) := by decide +kernel
theorem md_M_hinges_41 : decode mb_M_hinges 41 = .ok (.aload_n 0, 1) := by decide +kernel
theorem md_M_hinges_42 : decode mb_M_hinges 42 = .ok (.iload_n 2, 1) := by decide +kernel
theorem md_M_hinges_43 : decode mb_M_hinges 43 = .ok (.iconst 1, 1) := by decide +kernel
theorem md_M_hinges_44 : decode mb_M_hinges 44 = .ok (.invokevirtual 106, 3) := by decide +kernel
theorem md_M_hinges_47 : decode mb_M_hinges 47 = .ok (.ldc2_w 104, 3) := by decide +kernel
theorem md_M_hinges_50 : decode mb_M_hinges 50 = .ok (.lmul, 1) := by decide +kernel
theorem md_M_hinges_51 : decode mb_M_hinges 51 = .ok (.ldc2_w 127, 3) := by decide +kernel
theorem md_M_hinges_54 : decode mb_M_hinges 54 = .ok (.lmul, 1) := by decide +kernel
theorem md_M_hinges_55 : decode mb_M_hinges 55 = .ok (.aload_n 0, 1) := by decide +kernel
theorem md_M_hinges_56 : decode mb_M_hinges 56 = .ok (.invokevirtual 123, 3) := by decide +kernel
theorem md_M_hinges_59 : decode mb_M_hinges 59 = .ok (.lcmp, 1) := by decide +kernel
theorem md_M_hinges_60 : decode mb_M_hinges 60 = .ok (.ifCond .lt 7, 3) := by decide +kernel
theorem md_M_hinges_63 : decode mb_M_hinges 63 = .ok (.iconst 1, 1) := by decide +kernel
theorem md_M_hinges_64 : decode mb_M_hinges 64 = .ok (.goto 4, 3) := by decide +kernel
theorem md_M_hinges_67 : decode mb_M_hinges 67 = .ok (.iconst 0, 1) := by decide +kernel
theorem md_M_hinges_68 : decode mb_M_hinges 68 = .ok (.istore_n 3, 1) := by decide +kernel
theorem md_M_hinges_69 : decode mb_M_hinges 69 = .ok (.iload_n 3, 1) := by decide +kernel
theorem md_M_hinges_70 : decode mb_M_hinges 70 = .ok (.ifCond .eq 13, 3) := by decide +kernel
theorem md_M_hinges_73 : decode mb_M_hinges 73 = .ok (.aload_n 0, 1) := by decide +kernel
theorem md_M_hinges_74 : decode mb_M_hinges 74 = .ok (.iload_n 2, 1) := by decide +kernel
theorem md_M_hinges_75 : decode mb_M_hinges 75 = .ok (.iconst 2, 1) := by decide +kernel
theorem md_M_hinges_76 : decode mb_M_hinges 76 = .ok (.invokevirtual 106, 3) := by decide +kernel
theorem md_M_hinges_79 : decode mb_M_hinges 79 = .ok (.l2i, 1) := by decide +kernel
theorem md_M_hinges_80 : decode mb_M_hinges 80 = .ok (.goto 4, 3) := by decide +kernel
theorem md_M_hinges_83 : decode mb_M_hinges 83 = .ok (.iload_n 1, 1) := by decide +kernel
theorem md_M_hinges_84 : decode mb_M_hinges 84 = .ok (.istore_n 1, 1) := by decide +kernel
theorem md_M_hinges_85 : decode mb_M_hinges 85 = .ok (.iinc 2 (-1), 3) := by decide +kernel
theorem md_M_hinges_88 : decode mb_M_hinges 88 = .ok (.goto (-79), 3) := by decide +kernel
theorem md_M_hinges_91 : decode mb_M_hinges 91 = .ok (.iload_n 1, 1) := by decide +kernel
theorem md_M_hinges_92 : decode mb_M_hinges 92 = .ok (.ireturn, 1) := by decide +kernel
theorem md_M_hole_0 : decode mb_M_hole 0 = .ok (.lload_n 2, 1) := by decide +kernel
theorem md_M_hole_1 : decode mb_M_hole 1 = .ok (.ldc2_w 142, 3) := by decide +kernel
theorem md_M_hole_4 : decode mb_M_hole 4 = .ok (.ldc2_w 144, 3) := by decide +kernel
theorem md_M_hole_7 : decode mb_M_hole 7 = .ok (.invokestatic 91, 3) := by decide +kernel
theorem md_M_hole_10 : decode mb_M_hole 10 = .ok (.ifCond .eq 33, 3) := by decide +kernel
theorem md_M_hole_13 : decode mb_M_hole 13 = .ok (.lload 4, 2) := by decide +kernel
theorem md_M_hole_15 : decode mb_M_hole 15 = .ok (.ldc2_w 142, 3) := by decide +kernel
theorem md_M_hole_18 : decode mb_M_hole 18 = .ok (.ldc2_w 144, 3) := by decide +kernel
theorem md_M_hole_21 : decode mb_M_hole 21 = .ok (.invokestatic 91, 3) := by decide +kernel
theorem md_M_hole_24 : decode mb_M_hole 24 = .ok (.ifCond .eq 19, 3) := by decide +kernel
theorem md_M_hole_27 : decode mb_M_hole 27 = .ok (.lload 6, 2) := by decide +kernel
theorem md_M_hole_29 : decode mb_M_hole 29 = .ok (.lconst 0, 1) := by decide +kernel
theorem md_M_hole_30 : decode mb_M_hole 30 = .ok (.ldc2_w 104, 3) := by decide +kernel
theorem md_M_hole_33 : decode mb_M_hole 33 = .ok (.invokestatic 91, 3) := by decide +kernel
theorem md_M_hole_36 : decode mb_M_hole 36 = .ok (.ifCond .eq 7, 3) := by decide +kernel
theorem md_M_hole_39 : decode mb_M_hole 39 = .ok (.iconst 1, 1) := by decide +kernel
theorem md_M_hole_40 : decode mb_M_hole 40 = .ok (.goto 4, 3) := by decide +kernel
theorem md_M_hole_43 : decode mb_M_hole 43 = .ok (.iconst 0, 1) := by decide +kernel
theorem md_M_hole_44 : decode mb_M_hole 44 = .ok (.istore 8, 2) := by decide +kernel
theorem md_M_hole_46 : decode mb_M_hole 46 = .ok (.aload_n 0, 1) := by decide +kernel
theorem md_M_hole_47 : decode mb_M_hole 47 = .ok (.iload_n 1, 1) := by decide +kernel
theorem md_M_hole_48 : decode mb_M_hole 48 = .ok (.ifCond .lt 9, 3) := by decide +kernel
theorem md_M_hole_51 : decode mb_M_hole 51 = .ok (.iload_n 1, 1) := by decide +kernel
theorem md_M_hole_52 : decode mb_M_hole 52 = .ok (.bipush 16, 2) := by decide +kernel
theorem md_M_hole_54 : decode mb_M_hole 54 = .ok (.if_icmp .lt 7, 3) := by decide +kernel
theorem md_M_hole_57 : decode mb_M_hole 57 = .ok (.iconst 1, 1) := by decide +kernel
theorem md_M_hole_58 : decode mb_M_hole 58 = .ok (.goto 13, 3) := by decide +kernel
theorem md_M_hole_61 : decode mb_M_hole 61 = .ok (.iload 8, 2) := by decide +kernel
theorem md_M_hole_63 : decode mb_M_hole 63 = .ok (.ifCond .eq 7, 3) := by decide +kernel
theorem md_M_hole_66 : decode mb_M_hole 66 = .ok (.iconst 0, 1) := by decide +kernel
theorem md_M_hole_67 : decode mb_M_hole 67 = .ok (.goto 4, 3) := by decide +kernel
theorem md_M_hole_70 : decode mb_M_hole 70 = .ok (.iconst 2, 1) := by decide +kernel
theorem md_M_hole_71 : decode mb_M_hole 71 = .ok (.putfield 61, 3) := by decide +kernel
theorem md_M_hole_74 : decode mb_M_hole 74 = .ok (.aload_n 0, 1) := by decide +kernel
theorem md_M_hole_75 : decode mb_M_hole 75 = .ok (.getfield 61, 3) := by decide +kernel
theorem md_M_hole_78 : decode mb_M_hole 78 = .ok (.ifCond .gt 38, 3) := by decide +kernel
theorem md_M_hole_81 : decode mb_M_hole 81 = .ok (.aload_n 0, 1) := by decide +kernel
theorem md_M_hole_82 : decode mb_M_hole 82 = .ok (.getfield 41, 3) := by decide +kernel
theorem md_M_hole_85 : decode mb_M_hole 85 = .ok (.iload_n 1, 1) := by decide +kernel
theorem md_M_hole_86 : decode mb_M_hole 86 = .ok (.laload, 1) := by decide +kernel
theorem md_M_hole_87 : decode mb_M_hole 87 = .ok (.lload_n 2, 1) := by decide +kernel
theorem md_M_hole_88 : decode mb_M_hole 88 = .ok (.lcmp, 1) := by decide +kernel
theorem md_M_hole_89 : decode mb_M_hole 89 = .ok (.ifCond .ne 29, 3) := by decide +kernel
theorem md_M_hole_92 : decode mb_M_hole 92 = .ok (.aload_n 0, 1) := by decide +kernel
theorem md_M_hole_93 : decode mb_M_hole 93 = .ok (.getfield 45, 3) := by decide +kernel
theorem md_M_hole_96 : decode mb_M_hole 96 = .ok (.iload_n 1, 1) := by decide +kernel
theorem md_M_hole_97 : decode mb_M_hole 97 = .ok (.laload, 1) := by decide +kernel
theorem md_M_hole_98 : decode mb_M_hole 98 = .ok (.lload 4, 2) := by decide +kernel
theorem md_M_hole_100 : decode mb_M_hole 100 = .ok (.lcmp, 1) := by decide +kernel
theorem md_M_hole_101 : decode mb_M_hole 101 = .ok (.ifCond .ne 17, 3) := by decide +kernel
theorem md_M_hole_104 : decode mb_M_hole 104 = .ok (.aload_n 0, 1) := by decide +kernel
theorem md_M_hole_105 : decode mb_M_hole 105 = .ok (.getfield 48, 3) := by decide +kernel
theorem md_M_hole_108 : decode mb_M_hole 108 = .ok (.iload_n 1, 1) := by decide +kernel
theorem md_M_hole_109 : decode mb_M_hole 109 = .ok (.laload, 1) := by decide +kernel
theorem md_M_hole_110 : decode mb_M_hole 110 = .ok (.lload 6, 2) := by decide +kernel
theorem md_M_hole_112 : decode mb_M_hole 112 = .ok (.lcmp, 1) := by decide +kernel
theorem md_M_hole_113 : decode mb_M_hole 113 = .ok (.ifCond .ne 5, 3) := by decide +kernel
theorem md_M_hole_116 : decode mb_M_hole 116 = .ok (.iconst 0, 1) := by decide +kernel
theorem md_M_hole_117 : decode mb_M_hole 117 = .ok (.ireturn, 1) := by decide +kernel
theorem md_M_hole_118 : decode mb_M_hole 118 = .ok (.aload_n 0, 1) := by decide +kernel
theorem md_M_hole_119 : decode mb_M_hole 119 = .ok (.getfield 41, 3) := by decide +kernel
theorem md_M_hole_122 : decode mb_M_hole 122 = .ok (.iload_n 1, 1) := by decide +kernel
theorem md_M_hole_123 : decode mb_M_hole 123 = .ok (.lload_n 2, 1) := by decide +kernel
theorem md_M_hole_124 : decode mb_M_hole 124 = .ok (.lastore, 1) := by decide +kernel
theorem md_M_hole_125 : decode mb_M_hole 125 = .ok (.aload_n 0, 1) := by decide +kernel
theorem md_M_hole_126 : decode mb_M_hole 126 = .ok (.getfield 45, 3) := by decide +kernel
theorem md_M_hole_129 : decode mb_M_hole 129 = .ok (.iload_n 1, 1) := by decide +kernel
theorem md_M_hole_130 : decode mb_M_hole 130 = .ok (.lload 4, 2) := by decide +kernel
theorem md_M_hole_132 : decode mb_M_hole 132 = .ok (.lastore, 1) := by decide +kernel
theorem md_M_hole_133 : decode mb_M_hole 133 = .ok (.aload_n 0, 1) := by decide +kernel
theorem md_M_hole_134 : decode mb_M_hole 134 = .ok (.getfield 48, 3) := by decide +kernel
theorem md_M_hole_137 : decode mb_M_hole 137 = .ok (.iload_n 1, 1) := by decide +kernel
theorem md_M_hole_138 : decode mb_M_hole 138 = .ok (.lload 6, 2) := by decide +kernel
theorem md_M_hole_140 : decode mb_M_hole 140 = .ok (.lastore, 1) := by decide +kernel
theorem md_M_hole_141 : decode mb_M_hole 141 = .ok (.iconst 1, 1) := by decide +kernel
theorem md_M_hole_142 : decode mb_M_hole 142 = .ok (.ireturn, 1) := by decide +kernel
theorem md_M_corner_0 : decode mb_M_corner 0 = .ok (.aload_n 0, 1) := by decide +kernel
theorem md_M_corner_1 : decode mb_M_corner 1 = .ok (.iload_n 1, 1) := by decide +kernel
theorem md_M_corner_2 : decode mb_M_corner 2 = .ok (.ifCond .lt 27, 3) := by decide +kernel
theorem md_M_corner_5 : decode mb_M_corner 5 = .ok (.iload_n 1, 1) := by decide +kernel
theorem md_M_corner_6 : decode mb_M_corner 6 = .ok (.iconst 3, 1) := by decide +kernel
theorem md_M_corner_7 : decode mb_M_corner 7 = .ok (.if_icmp .gt 22, 3) := by decide +kernel
theorem md_M_corner_10 : decode mb_M_corner 10 = .ok (.iload_n 2, 1) := by decide +kernel
theorem md_M_corner_11 : decode mb_M_corner 11 = .ok (.ifCond .lt 18, 3) := by decide +kernel
theorem md_M_corner_14 : decode mb_M_corner 14 = .ok (.iload_n 2, 1) := by decide +kernel
theorem md_M_corner_15 : decode mb_M_corner 15 = .ok (.bipush 8, 2) := by decide +kernel
theorem md_M_corner_17 : decode mb_M_corner 17 = .ok (.if_icmp .gt 12, 3) := by decide +kernel
theorem md_M_corner_20 : decode mb_M_corner 20 = .ok (.iload_n 3, 1) := by decide +kernel
theorem md_M_corner_21 : decode mb_M_corner 21 = .ok (.ifCond .lt 8, 3) := by decide +kernel
theorem md_M_corner_24 : decode mb_M_corner 24 = .ok (.iload_n 3, 1) := by decide +kernel
theorem md_M_corner_25 : decode mb_M_corner 25 = .ok (.iconst 1, 1) := by decide +kernel
theorem md_M_corner_26 : decode mb_M_corner 26 = .ok (.if_icmp .le 7, 3) := by decide +kernel
theorem md_M_corner_29 : decode mb_M_corner 29 = .ok (.iconst 1, 1) := by decide +kernel
theorem md_M_corner_30 : decode mb_M_corner 30 = .ok (.goto 4, 3) := by decide +kernel
theorem md_M_corner_33 : decode mb_M_corner 33 = .ok (.iconst 0, 1) := by decide +kernel
theorem md_M_corner_34 : decode mb_M_corner 34 = .ok (.putfield 61, 3) := by decide +kernel
theorem md_M_corner_37 : decode mb_M_corner 37 = .ok (.aload_n 0, 1) := by decide +kernel
theorem md_M_corner_38 : decode mb_M_corner 38 = .ok (.getfield 61, 3) := by decide +kernel
theorem md_M_corner_41 : decode mb_M_corner 41 = .ok (.ifCond .le 7, 3) := by decide +kernel
theorem md_M_corner_44 : decode mb_M_corner 44 = .ok (.lconst 0, 1) := by decide +kernel
theorem md_M_corner_45 : decode mb_M_corner 45 = .ok (.goto 10, 3) := by decide +kernel
theorem md_M_corner_48 : decode mb_M_corner 48 = .ok (.aload_n 0, 1) := by decide +kernel
theorem md_M_corner_49 : decode mb_M_corner 49 = .ok (.iload_n 1, 1) := by decide +kernel
theorem md_M_corner_50 : decode mb_M_corner 50 = .ok (.iload_n 2, 1) := by decide +kernel
theorem md_M_corner_51 : decode mb_M_corner 51 = .ok (.iload_n 3, 1) := by decide +kernel
theorem md_M_corner_52 : decode mb_M_corner 52 = .ok (.invokevirtual 149, 3) := by decide +kernel
theorem md_M_corner_55 : decode mb_M_corner 55 = .ok (.lreturn, 1) := by decide +kernel
