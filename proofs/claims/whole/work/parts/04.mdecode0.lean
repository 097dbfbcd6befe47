theorem dXM_init_0 : decode cXM_init 0 = .ok (.aload_n 0, 1) := by decide +kernel
theorem dXM_init_1 : decode cXM_init 1 = .ok (.invokespecial 1, 3) := by decide +kernel
theorem dXM_init_4 : decode cXM_init 4 = .ok (.aload_n 0, 1) := by decide +kernel
theorem dXM_init_5 : decode cXM_init 5 = .ok (.bipush 10, 2) := by decide +kernel
theorem dXM_init_7 : decode cXM_init 7 = .ok (.newarray .int, 2) := by decide +kernel
theorem dXM_init_9 : decode cXM_init 9 = .ok (.putfield 7, 3) := by decide +kernel
theorem dXM_init_12 : decode cXM_init 12 = .ok (.aload_n 0, 1) := by decide +kernel
theorem dXM_init_13 : decode cXM_init 13 = .ok (.bipush 6, 2) := by decide +kernel
theorem dXM_init_15 : decode cXM_init 15 = .ok (.newarray .int, 2) := by decide +kernel
theorem dXM_init_17 : decode cXM_init 17 = .ok (.putfield 13, 3) := by decide +kernel
theorem dXM_init_20 : decode cXM_init 20 = .ok (.aload_n 0, 1) := by decide +kernel
theorem dXM_init_21 : decode cXM_init 21 = .ok (.bipush 6, 2) := by decide +kernel
theorem dXM_init_23 : decode cXM_init 23 = .ok (.newarray .int, 2) := by decide +kernel
theorem dXM_init_25 : decode cXM_init 25 = .ok (.putfield 16, 3) := by decide +kernel
theorem dXM_init_28 : decode cXM_init 28 = .ok (.aload_n 0, 1) := by decide +kernel
theorem dXM_init_29 : decode cXM_init 29 = .ok (.iconst (-1), 1) := by decide +kernel
theorem dXM_init_30 : decode cXM_init 30 = .ok (.putfield 19, 3) := by decide +kernel
theorem dXM_init_33 : decode cXM_init 33 = .ok (.aload_n 0, 1) := by decide +kernel
theorem dXM_init_34 : decode cXM_init 34 = .ok (.bipush 6, 2) := by decide +kernel
theorem dXM_init_36 : decode cXM_init 36 = .ok (.newarray .int, 2) := by decide +kernel
theorem dXM_init_38 : decode cXM_init 38 = .ok (.putfield 23, 3) := by decide +kernel
theorem dXM_init_41 : decode cXM_init 41 = .ok (.iconst 0, 1) := by decide +kernel
theorem dXM_init_42 : decode cXM_init 42 = .ok (.istore_n 1, 1) := by decide +kernel
theorem dXM_init_43 : decode cXM_init 43 = .ok (.iload_n 1, 1) := by decide +kernel
theorem dXM_init_44 : decode cXM_init 44 = .ok (.bipush 10, 2) := by decide +kernel
theorem dXM_init_46 : decode cXM_init 46 = .ok (.if_icmp .ge 116, 3) := by decide +kernel
theorem dXM_init_49 : decode cXM_init 49 = .ok (.aload_n 0, 1) := by decide +kernel
theorem dXM_init_50 : decode cXM_init 50 = .ok (.getfield 7, 3) := by decide +kernel
theorem dXM_init_53 : decode cXM_init 53 = .ok (.iload_n 1, 1) := by decide +kernel
theorem dXM_init_54 : decode cXM_init 54 = .ok (.iload_n 1, 1) := by decide +kernel
theorem dXM_init_55 : decode cXM_init 55 = .ok (.ifCond .ne 9, 3) := by decide +kernel
theorem dXM_init_58 : decode cXM_init 58 = .ok (.sipush 300, 3) := by decide +kernel
theorem dXM_init_61 : decode cXM_init 61 = .ok (.goto 94, 3) := by decide +kernel
theorem dXM_init_64 : decode cXM_init 64 = .ok (.iload_n 1, 1) := by decide +kernel
theorem dXM_init_65 : decode cXM_init 65 = .ok (.iconst 2, 1) := by decide +kernel
theorem dXM_init_66 : decode cXM_init 66 = .ok (.if_icmp .ne 9, 3) := by decide +kernel
theorem dXM_init_69 : decode cXM_init 69 = .ok (.sipush 1000, 3) := by decide +kernel
theorem dXM_init_72 : decode cXM_init 72 = .ok (.goto 83, 3) := by decide +kernel
theorem dXM_init_75 : decode cXM_init 75 = .ok (.iload_n 1, 1) := by decide +kernel
theorem dXM_init_76 : decode cXM_init 76 = .ok (.iconst 3, 1) := by decide +kernel
theorem dXM_init_77 : decode cXM_init 77 = .ok (.if_icmp .ne 9, 3) := by decide +kernel
theorem dXM_init_80 : decode cXM_init 80 = .ok (.sipush 240, 3) := by decide +kernel
theorem dXM_init_83 : decode cXM_init 83 = .ok (.goto 72, 3) := by decide +kernel
theorem dXM_init_86 : decode cXM_init 86 = .ok (.iload_n 1, 1) := by decide +kernel
theorem dXM_init_87 : decode cXM_init 87 = .ok (.iconst 4, 1) := by decide +kernel
theorem dXM_init_88 : decode cXM_init 88 = .ok (.if_icmp .ne 9, 3) := by decide +kernel
theorem dXM_init_91 : decode cXM_init 91 = .ok (.sipush 370, 3) := by decide +kernel
theorem dXM_init_94 : decode cXM_init 94 = .ok (.goto 61, 3) := by decide +kernel
theorem dXM_init_97 : decode cXM_init 97 = .ok (.iload_n 1, 1) := by decide +kernel
theorem dXM_init_98 : decode cXM_init 98 = .ok (.iconst 5, 1) := by decide +kernel
theorem dXM_init_99 : decode cXM_init 99 = .ok (.if_icmp .ne 9, 3) := by decide +kernel
theorem dXM_init_102 : decode cXM_init 102 = .ok (.sipush 1400, 3) := by decide +kernel
theorem dXM_init_105 : decode cXM_init 105 = .ok (.goto 50, 3) := by decide +kernel
theorem dXM_init_108 : decode cXM_init 108 = .ok (.iload_n 1, 1) := by decide +kernel
theorem dXM_init_109 : decode cXM_init 109 = .ok (.bipush 6, 2) := by decide +kernel
theorem dXM_init_111 : decode cXM_init 111 = .ok (.if_icmp .ne 9, 3) := by decide +kernel
theorem dXM_init_114 : decode cXM_init 114 = .ok (.sipush (-200), 3) := by decide +kernel
theorem dXM_init_117 : decode cXM_init 117 = .ok (.goto 38, 3) := by decide +kernel
theorem dXM_init_120 : decode cXM_init 120 = .ok (.iload_n 1, 1) := by decide +kernel
theorem dXM_init_121 : decode cXM_init 121 = .ok (.bipush 7, 2) := by decide +kernel
theorem dXM_init_123 : decode cXM_init 123 = .ok (.if_icmp .ne 8, 3) := by decide +kernel
theorem dXM_init_126 : decode cXM_init 126 = .ok (.bipush 100, 2) := by decide +kernel
theorem dXM_init_128 : decode cXM_init 128 = .ok (.goto 27, 3) := by decide +kernel
theorem dXM_init_131 : decode cXM_init 131 = .ok (.iload_n 1, 1) := by decide +kernel
theorem dXM_init_132 : decode cXM_init 132 = .ok (.bipush 8, 2) := by decide +kernel
theorem dXM_init_134 : decode cXM_init 134 = .ok (.if_icmp .ne 8, 3) := by decide +kernel
theorem dXM_init_137 : decode cXM_init 137 = .ok (.bipush 50, 2) := by decide +kernel
theorem dXM_init_139 : decode cXM_init 139 = .ok (.goto 16, 3) := by decide +kernel
theorem dXM_init_142 : decode cXM_init 142 = .ok (.iload_n 1, 1) := by decide +kernel
theorem dXM_init_143 : decode cXM_init 143 = .ok (.bipush 9, 2) := by decide +kernel
theorem dXM_init_145 : decode cXM_init 145 = .ok (.if_icmp .ne 9, 3) := by decide +kernel
theorem dXM_init_148 : decode cXM_init 148 = .ok (.sipush 300, 3) := by decide +kernel
theorem dXM_init_151 : decode cXM_init 151 = .ok (.goto 4, 3) := by decide +kernel
theorem dXM_init_154 : decode cXM_init 154 = .ok (.iconst 0, 1) := by decide +kernel
theorem dXM_init_155 : decode cXM_init 155 = .ok (.iastore, 1) := by decide +kernel
theorem dXM_init_156 : decode cXM_init 156 = .ok (.iinc 1 1, 3) := by decide +kernel
theorem dXM_init_159 : decode cXM_init 159 = .ok (.goto (-116), 3) := by decide +kernel
theorem dXM_init_162 : decode cXM_init 162 = .ok (.iconst 0, 1) := by decide +kernel
theorem dXM_init_163 : decode cXM_init 163 = .ok (.istore_n 1, 1) := by decide +kernel
theorem dXM_init_164 : decode cXM_init 164 = .ok (.iload_n 1, 1) := by decide +kernel
theorem dXM_init_165 : decode cXM_init 165 = .ok (.bipush 6, 2) := by decide +kernel
theorem dXM_init_167 : decode cXM_init 167 = .ok (.if_icmp .ge 60, 3) := by decide +kernel
theorem dXM_init_170 : decode cXM_init 170 = .ok (.aload_n 0, 1) := by decide +kernel
theorem dXM_init_171 : decode cXM_init 171 = .ok (.getfield 13, 3) := by decide +kernel
theorem dXM_init_174 : decode cXM_init 174 = .ok (.iload_n 1, 1) := by decide +kernel
theorem dXM_init_175 : decode cXM_init 175 = .ok (.iload_n 1, 1) := by decide +kernel
theorem dXM_init_176 : decode cXM_init 176 = .ok (.iconst 1, 1) := by decide +kernel
theorem dXM_init_177 : decode cXM_init 177 = .ok (.if_icmp .ne 8, 3) := by decide +kernel
theorem dXM_init_180 : decode cXM_init 180 = .ok (.bipush 100, 2) := by decide +kernel
theorem dXM_init_182 : decode cXM_init 182 = .ok (.goto 26, 3) := by decide +kernel
theorem dXM_init_185 : decode cXM_init 185 = .ok (.iload_n 1, 1) := by decide +kernel
theorem dXM_init_186 : decode cXM_init 186 = .ok (.iconst 2, 1) := by decide +kernel
theorem dXM_init_187 : decode cXM_init 187 = .ok (.if_icmp .ne 9, 3) := by decide +kernel
theorem dXM_init_190 : decode cXM_init 190 = .ok (.sipush 370, 3) := by decide +kernel
theorem dXM_init_193 : decode cXM_init 193 = .ok (.goto 15, 3) := by decide +kernel
theorem dXM_init_196 : decode cXM_init 196 = .ok (.iload_n 1, 1) := by decide +kernel
theorem dXM_init_197 : decode cXM_init 197 = .ok (.iconst 3, 1) := by decide +kernel
theorem dXM_init_198 : decode cXM_init 198 = .ok (.if_icmp .ne 9, 3) := by decide +kernel
theorem dXM_init_201 : decode cXM_init 201 = .ok (.sipush 1400, 3) := by decide +kernel
theorem dXM_init_204 : decode cXM_init 204 = .ok (.goto 4, 3) := by decide +kernel
theorem dXM_init_207 : decode cXM_init 207 = .ok (.iconst 0, 1) := by decide +kernel
theorem dXM_init_208 : decode cXM_init 208 = .ok (.iastore, 1) := by decide +kernel
theorem dXM_init_209 : decode cXM_init 209 = .ok (.aload_n 0, 1) := by decide +kernel
theorem dXM_init_210 : decode cXM_init 210 = .ok (.getfield 16, 3) := by decide +kernel
theorem dXM_init_213 : decode cXM_init 213 = .ok (.iload_n 1, 1) := by decide +kernel
theorem dXM_init_214 : decode cXM_init 214 = .ok (.aload_n 0, 1) := by decide +kernel
theorem dXM_init_215 : decode cXM_init 215 = .ok (.getfield 13, 3) := by decide +kernel
theorem dXM_init_218 : decode cXM_init 218 = .ok (.iload_n 1, 1) := by decide +kernel
theorem dXM_init_219 : decode cXM_init 219 = .ok (.iaload, 1) := by decide +kernel
theorem dXM_init_220 : decode cXM_init 220 = .ok (.iastore, 1) := by decide +kernel
theorem dXM_init_221 : decode cXM_init 221 = .ok (.iinc 1 1, 3) := by decide +kernel
theorem dXM_init_224 : decode cXM_init 224 = .ok (.goto (-60), 3) := by decide +kernel
theorem dXM_init_227 : decode cXM_init 227 = .ok (.return_, 1) := by decide +kernel
theorem dXM_least_0 : decode cXM_least 0 = .ok (.iload_n 0, 1) := by decide +kernel
theorem dXM_least_1 : decode cXM_least 1 = .ok (.ifCond .eq 9, 3) := by decide +kernel
theorem dXM_least_4 : decode cXM_least 4 = .ok (.iload_n 0, 1) := by decide +kernel
theorem dXM_least_5 : decode cXM_least 5 = .ok (.bipush 9, 2) := by decide +kernel
theorem dXM_least_7 : decode cXM_least 7 = .ok (.if_icmp .ne 8, 3) := by decide +kernel
theorem dXM_least_10 : decode cXM_least 10 = .ok (.bipush 50, 2) := by decide +kernel
theorem dXM_least_12 : decode cXM_least 12 = .ok (.goto 59, 3) := by decide +kernel
theorem dXM_least_15 : decode cXM_least 15 = .ok (.iload_n 0, 1) := by decide +kernel
theorem dXM_least_16 : decode cXM_least 16 = .ok (.iconst 3, 1) := by decide +kernel
theorem dXM_least_17 : decode cXM_least 17 = .ok (.if_icmp .ne 7, 3) := by decide +kernel
theorem dXM_least_20 : decode cXM_least 20 = .ok (.iconst 1, 1) := by decide +kernel
theorem dXM_least_21 : decode cXM_least 21 = .ok (.goto 50, 3) := by decide +kernel
theorem dXM_least_24 : decode cXM_least 24 = .ok (.iload_n 0, 1) := by decide +kernel
theorem dXM_least_25 : decode cXM_least 25 = .ok (.iconst 4, 1) := by decide +kernel
theorem dXM_least_26 : decode cXM_least 26 = .ok (.if_icmp .ne 9, 3) := by decide +kernel
theorem dXM_least_29 : decode cXM_least 29 = .ok (.sipush 340, 3) := by decide +kernel
theorem dXM_least_32 : decode cXM_least 32 = .ok (.goto 39, 3) := by decide +kernel
theorem dXM_least_35 : decode cXM_least 35 = .ok (.iload_n 0, 1) := by decide +kernel
theorem dXM_least_36 : decode cXM_least 36 = .ok (.iconst 5, 1) := by decide +kernel
theorem dXM_least_37 : decode cXM_least 37 = .ok (.if_icmp .ne 9, 3) := by decide +kernel
theorem dXM_least_40 : decode cXM_least 40 = .ok (.sipush 1250, 3) := by decide +kernel
theorem dXM_least_43 : decode cXM_least 43 = .ok (.goto 28, 3) := by decide +kernel
theorem dXM_least_46 : decode cXM_least 46 = .ok (.iload_n 0, 1) := by decide +kernel
theorem dXM_least_47 : decode cXM_least 47 = .ok (.bipush 6, 2) := by decide +kernel
theorem dXM_least_49 : decode cXM_least 49 = .ok (.if_icmp .ne 9, 3) := by decide +kernel
theorem dXM_least_52 : decode cXM_least 52 = .ok (.sipush (-400), 3) := by decide +kernel
theorem dXM_least_55 : decode cXM_least 55 = .ok (.goto 16, 3) := by decide +kernel
theorem dXM_least_58 : decode cXM_least 58 = .ok (.iload_n 0, 1) := by decide +kernel
theorem dXM_least_59 : decode cXM_least 59 = .ok (.bipush 7, 2) := by decide +kernel
theorem dXM_least_61 : decode cXM_least 61 = .ok (.if_icmp .ne 9, 3) := by decide +kernel
theorem dXM_least_64 : decode cXM_least 64 = .ok (.sipush (-300), 3) := by decide +kernel
theorem dXM_least_67 : decode cXM_least 67 = .ok (.goto 4, 3) := by decide +kernel
theorem dXM_least_70 : decode cXM_least 70 = .ok (.iconst 0, 1) := by decide +kernel
theorem dXM_least_71 : decode cXM_least 71 = .ok (.ireturn, 1) := by decide +kernel
theorem dXM_most_0 : decode cXM_most 0 = .ok (.iload_n 0, 1) := by decide +kernel
theorem dXM_most_1 : decode cXM_most 1 = .ok (.ifCond .eq 8, 3) := by decide +kernel
theorem dXM_most_4 : decode cXM_most 4 = .ok (.iload_n 0, 1) := by decide +kernel
theorem dXM_most_5 : decode cXM_most 5 = .ok (.iconst 3, 1) := by decide +kernel
theorem dXM_most_6 : decode cXM_most 6 = .ok (.if_icmp .ne 9, 3) := by decide +kernel
theorem dXM_most_9 : decode cXM_most 9 = .ok (.sipush 600, 3) := by decide +kernel
theorem dXM_most_12 : decode cXM_most 12 = .ok (.goto 39, 3) := by decide +kernel
theorem dXM_most_15 : decode cXM_most 15 = .ok (.iload_n 0, 1) := by decide +kernel
theorem dXM_most_16 : decode cXM_most 16 = .ok (.iconst 1, 1) := by decide +kernel
theorem dXM_most_17 : decode cXM_most 17 = .ok (.if_icmp .ne 9, 3) := by decide +kernel
theorem dXM_most_20 : decode cXM_most 20 = .ok (.sipush 6000, 3) := by decide +kernel
theorem dXM_most_23 : decode cXM_most 23 = .ok (.goto 28, 3) := by decide +kernel
theorem dXM_most_26 : decode cXM_most 26 = .ok (.iload_n 0, 1) := by decide +kernel
theorem dXM_most_27 : decode cXM_most 27 = .ok (.iconst 2, 1) := by decide +kernel
theorem dXM_most_28 : decode cXM_most 28 = .ok (.if_icmp .ne 9, 3) := by decide +kernel
theorem dXM_most_31 : decode cXM_most 31 = .ok (.sipush 2000, 3) := by decide +kernel
theorem dXM_most_34 : decode cXM_most 34 = .ok (.goto 17, 3) := by decide +kernel
theorem dXM_most_37 : decode cXM_most 37 = .ok (.iload_n 0, 1) := by decide +kernel
theorem dXM_most_38 : decode cXM_most 38 = .ok (.iconst 4, 1) := by decide +kernel
theorem dXM_most_39 : decode cXM_most 39 = .ok (.if_icmp .ne 9, 3) := by decide +kernel
theorem dXM_most_42 : decode cXM_most 42 = .ok (.sipush 390, 3) := by decide +kernel
theorem dXM_most_45 : decode cXM_most 45 = .ok (.goto 6, 3) := by decide +kernel
theorem dXM_most_48 : decode cXM_most 48 = .ok (.sipush 1600, 3) := by decide +kernel
theorem dXM_most_51 : decode cXM_most 51 = .ok (.istore_n 1, 1) := by decide +kernel
theorem dXM_most_52 : decode cXM_most 52 = .ok (.iload_n 0, 1) := by decide +kernel
theorem dXM_most_53 : decode cXM_most 53 = .ok (.iconst 5, 1) := by decide +kernel
theorem dXM_most_54 : decode cXM_most 54 = .ok (.if_icmp .gt 7, 3) := by decide +kernel
theorem dXM_most_57 : decode cXM_most 57 = .ok (.iload_n 1, 1) := by decide +kernel
theorem dXM_most_58 : decode cXM_most 58 = .ok (.goto 28, 3) := by decide +kernel
theorem dXM_most_61 : decode cXM_most 61 = .ok (.iload_n 0, 1) := by decide +kernel
theorem dXM_most_62 : decode cXM_most 62 = .ok (.bipush 6, 2) := by decide +kernel
theorem dXM_most_64 : decode cXM_most 64 = .ok (.if_icmp .ne 7, 3) := by decide +kernel
theorem dXM_most_67 : decode cXM_most 67 = .ok (.iconst 0, 1) := by decide +kernel
theorem dXM_most_68 : decode cXM_most 68 = .ok (.goto 18, 3) := by decide +kernel
theorem dXM_most_71 : decode cXM_most 71 = .ok (.iload_n 0, 1) := by decide +kernel
theorem dXM_most_72 : decode cXM_most 72 = .ok (.bipush 9, 2) := by decide +kernel
theorem dXM_most_74 : decode cXM_most 74 = .ok (.if_icmp .ne 9, 3) := by decide +kernel
theorem dXM_most_77 : decode cXM_most 77 = .ok (.sipush 500, 3) := by decide +kernel
theorem dXM_most_80 : decode cXM_most 80 = .ok (.goto 6, 3) := by decide +kernel
theorem dXM_most_83 : decode cXM_most 83 = .ok (.sipush 200, 3) := by decide +kernel
theorem dXM_most_86 : decode cXM_most 86 = .ok (.ireturn, 1) := by decide +kernel
theorem dXM_consistent_0 : decode cXM_consistent 0 = .ok (.aload_n 0, 1) := by decide +kernel
theorem dXM_consistent_1 : decode cXM_consistent 1 = .ok (.getfield 7, 3) := by decide +kernel
theorem dXM_consistent_4 : decode cXM_consistent 4 = .ok (.bipush 6, 2) := by decide +kernel
theorem dXM_consistent_6 : decode cXM_consistent 6 = .ok (.iaload, 1) := by decide +kernel
theorem dXM_consistent_7 : decode cXM_consistent 7 = .ok (.bipush 20, 2) := by decide +kernel
theorem dXM_consistent_9 : decode cXM_consistent 9 = .ok (.iadd, 1) := by decide +kernel
theorem dXM_consistent_10 : decode cXM_consistent 10 = .ok (.aload_n 0, 1) := by decide +kernel
theorem dXM_consistent_11 : decode cXM_consistent 11 = .ok (.getfield 7, 3) := by decide +kernel
theorem dXM_consistent_14 : decode cXM_consistent 14 = .ok (.bipush 7, 2) := by decide +kernel
theorem dXM_consistent_16 : decode cXM_consistent 16 = .ok (.iaload, 1) := by decide +kernel
theorem dXM_consistent_17 : decode cXM_consistent 17 = .ok (.if_icmp .gt 52, 3) := by decide +kernel
theorem dXM_consistent_20 : decode cXM_consistent 20 = .ok (.aload_n 0, 1) := by decide +kernel
theorem dXM_consistent_21 : decode cXM_consistent 21 = .ok (.getfield 7, 3) := by decide +kernel
theorem dXM_consistent_24 : decode cXM_consistent 24 = .ok (.bipush 8, 2) := by decide +kernel
theorem dXM_consistent_26 : decode cXM_consistent 26 = .ok (.iaload, 1) := by decide +kernel
theorem dXM_consistent_27 : decode cXM_consistent 27 = .ok (.bipush 20, 2) := by decide +kernel
theorem dXM_consistent_29 : decode cXM_consistent 29 = .ok (.iadd, 1) := by decide +kernel
theorem dXM_consistent_30 : decode cXM_consistent 30 = .ok (.aload_n 0, 1) := by decide +kernel
theorem dXM_consistent_31 : decode cXM_consistent 31 = .ok (.getfield 7, 3) := by decide +kernel
theorem dXM_consistent_34 : decode cXM_consistent 34 = .ok (.bipush 9, 2) := by decide +kernel
theorem dXM_consistent_36 : decode cXM_consistent 36 = .ok (.iaload, 1) := by decide +kernel
theorem dXM_consistent_37 : decode cXM_consistent 37 = .ok (.if_icmp .gt 32, 3) := by decide +kernel
theorem dXM_consistent_40 : decode cXM_consistent 40 = .ok (.bipush 60, 2) := by decide +kernel
theorem dXM_consistent_42 : decode cXM_consistent 42 = .ok (.aload_n 0, 1) := by decide +kernel
theorem dXM_consistent_43 : decode cXM_consistent 43 = .ok (.getfield 7, 3) := by decide +kernel
theorem dXM_consistent_46 : decode cXM_consistent 46 = .ok (.iconst 1, 1) := by decide +kernel
theorem dXM_consistent_47 : decode cXM_consistent 47 = .ok (.iaload, 1) := by decide +kernel
theorem dXM_consistent_48 : decode cXM_consistent 48 = .ok (.imul, 1) := by decide +kernel
theorem dXM_consistent_49 : decode cXM_consistent 49 = .ok (.aload_n 0, 1) := by decide +kernel
theorem dXM_consistent_50 : decode cXM_consistent 50 = .ok (.getfield 7, 3) := by decide +kernel
theorem dXM_consistent_53 : decode cXM_consistent 53 = .ok (.iconst 2, 1) := by decide +kernel
theorem dXM_consistent_54 : decode cXM_consistent 54 = .ok (.iaload, 1) := by decide +kernel
theorem dXM_consistent_55 : decode cXM_consistent 55 = .ok (.aload_n 0, 1) := by decide +kernel
theorem dXM_consistent_56 : decode cXM_consistent 56 = .ok (.getfield 7, 3) := by decide +kernel
theorem dXM_consistent_59 : decode cXM_consistent 59 = .ok (.iconst 3, 1) := by decide +kernel
theorem dXM_consistent_60 : decode cXM_consistent 60 = .ok (.iaload, 1) := by decide +kernel
theorem dXM_consistent_61 : decode cXM_consistent 61 = .ok (.imul, 1) := by decide +kernel
theorem dXM_consistent_62 : decode cXM_consistent 62 = .ok (.if_icmp .gt 7, 3) := by decide +kernel
theorem dXM_consistent_65 : decode cXM_consistent 65 = .ok (.iconst 1, 1) := by decide +kernel
theorem dXM_consistent_66 : decode cXM_consistent 66 = .ok (.goto 4, 3) := by decide +kernel
theorem dXM_consistent_69 : decode cXM_consistent 69 = .ok (.iconst 0, 1) := by decide +kernel
theorem dXM_consistent_70 : decode cXM_consistent 70 = .ok (.ireturn, 1) := by decide +kernel
theorem dXM_isPlausible_0 : decode cXM_isPlausible 0 = .ok (.iload_n 1, 1) := by decide +kernel
theorem dXM_isPlausible_1 : decode cXM_isPlausible 1 = .ok (.ifCond .ne 9, 3) := by decide +kernel
theorem dXM_isPlausible_4 : decode cXM_isPlausible 4 = .ok (.sipush (-700), 3) := by decide +kernel
theorem dXM_isPlausible_7 : decode cXM_isPlausible 7 = .ok (.goto 15, 3) := by decide +kernel
theorem dXM_isPlausible_10 : decode cXM_isPlausible 10 = .ok (.iload_n 1, 1) := by decide +kernel
theorem dXM_isPlausible_11 : decode cXM_isPlausible 11 = .ok (.iconst 1, 1) := by decide +kernel
theorem dXM_isPlausible_12 : decode cXM_isPlausible 12 = .ok (.if_icmp .ne 9, 3) := by decide +kernel
theorem dXM_isPlausible_15 : decode cXM_isPlausible 15 = .ok (.sipush (-200), 3) := by decide +kernel
theorem dXM_isPlausible_18 : decode cXM_isPlausible 18 = .ok (.goto 4, 3) := by decide +kernel
theorem dXM_isPlausible_21 : decode cXM_isPlausible 21 = .ok (.iconst 0, 1) := by decide +kernel
theorem dXM_isPlausible_22 : decode cXM_isPlausible 22 = .ok (.istore_n 2, 1) := by decide +kernel
theorem dXM_isPlausible_23 : decode cXM_isPlausible 23 = .ok (.iload_n 1, 1) := by decide +kernel
theorem dXM_isPlausible_24 : decode cXM_isPlausible 24 = .ok (.ifCond .ne 9, 3) := by decide +kernel
theorem dXM_isPlausible_27 : decode cXM_isPlausible 27 = .ok (.sipush 500, 3) := by decide +kernel
theorem dXM_isPlausible_30 : decode cXM_isPlausible 30 = .ok (.goto 37, 3) := by decide +kernel
theorem dXM_isPlausible_33 : decode cXM_isPlausible 33 = .ok (.iload_n 1, 1) := by decide +kernel
theorem dXM_isPlausible_34 : decode cXM_isPlausible 34 = .ok (.iconst 1, 1) := by decide +kernel
theorem dXM_isPlausible_35 : decode cXM_isPlausible 35 = .ok (.if_icmp .ne 9, 3) := by decide +kernel
theorem dXM_isPlausible_38 : decode cXM_isPlausible 38 = .ok (.sipush 800, 3) := by decide +kernel
theorem dXM_isPlausible_41 : decode cXM_isPlausible 41 = .ok (.goto 26, 3) := by decide +kernel
theorem dXM_isPlausible_44 : decode cXM_isPlausible 44 = .ok (.iload_n 1, 1) := by decide +kernel
theorem dXM_isPlausible_45 : decode cXM_isPlausible 45 = .ok (.iconst 2, 1) := by decide +kernel
theorem dXM_isPlausible_46 : decode cXM_isPlausible 46 = .ok (.if_icmp .ne 9, 3) := by decide +kernel
theorem dXM_isPlausible_49 : decode cXM_isPlausible 49 = .ok (.sipush 600, 3) := by decide +kernel
theorem dXM_isPlausible_52 : decode cXM_isPlausible 52 = .ok (.goto 15, 3) := by decide +kernel
theorem dXM_isPlausible_55 : decode cXM_isPlausible 55 = .ok (.iload_n 1, 1) := by decide +kernel
theorem dXM_isPlausible_56 : decode cXM_isPlausible 56 = .ok (.iconst 3, 1) := by decide +kernel
theorem dXM_isPlausible_57 : decode cXM_isPlausible 57 = .ok (.if_icmp .ne 9, 3) := by decide +kernel
theorem dXM_isPlausible_60 : decode cXM_isPlausible 60 = .ok (.sipush 3000, 3) := by decide +kernel
theorem dXM_isPlausible_63 : decode cXM_isPlausible 63 = .ok (.goto 4, 3) := by decide +kernel
theorem dXM_isPlausible_66 : decode cXM_isPlausible 66 = .ok (.iconst 1, 1) := by decide +kernel
theorem dXM_isPlausible_67 : decode cXM_isPlausible 67 = .ok (.istore_n 3, 1) := by decide +kernel
theorem dXM_isPlausible_68 : decode cXM_isPlausible 68 = .ok (.aload_n 0, 1) := by decide +kernel
theorem dXM_isPlausible_69 : decode cXM_isPlausible 69 = .ok (.getfield 13, 3) := by decide +kernel
theorem dXM_isPlausible_72 : decode cXM_isPlausible 72 = .ok (.iload_n 1, 1) := by decide +kernel
theorem dXM_isPlausible_73 : decode cXM_isPlausible 73 = .ok (.iaload, 1) := by decide +kernel
theorem dXM_isPlausible_74 : decode cXM_isPlausible 74 = .ok (.iload_n 2, 1) := by decide +kernel
theorem dXM_isPlausible_75 : decode cXM_isPlausible 75 = .ok (.if_icmp .lt 17, 3) := by decide +kernel
theorem dXM_isPlausible_78 : decode cXM_isPlausible 78 = .ok (.aload_n 0, 1) := by decide +kernel
theorem dXM_isPlausible_79 : decode cXM_isPlausible 79 = .ok (.getfield 13, 3) := by decide +kernel
theorem dXM_isPlausible_82 : decode cXM_isPlausible 82 = .ok (.iload_n 1, 1) := by decide +kernel
theorem dXM_isPlausible_83 : decode cXM_isPlausible 83 = .ok (.iaload, 1) := by decide +kernel
theorem dXM_isPlausible_84 : decode cXM_isPlausible 84 = .ok (.iload_n 3, 1) := by decide +kernel
theorem dXM_isPlausible_85 : decode cXM_isPlausible 85 = .ok (.if_icmp .gt 7, 3) := by decide +kernel
theorem dXM_isPlausible_88 : decode cXM_isPlausible 88 = .ok (.iconst 1, 1) := by decide +kernel
theorem dXM_isPlausible_89 : decode cXM_isPlausible 89 = .ok (.goto 4, 3) := by decide +kernel
theorem dXM_isPlausible_92 : decode cXM_isPlausible 92 = .ok (.iconst 0, 1) := by decide +kernel
theorem dXM_isPlausible_93 : decode cXM_isPlausible 93 = .ok (.ireturn, 1) := by decide +kernel
theorem dXM_set_0 : decode cXM_set 0 = .ok (.iload_n 1, 1) := by decide +kernel
theorem dXM_set_1 : decode cXM_set 1 = .ok (.ifCond .lt 32, 3) := by decide +kernel
theorem dXM_set_4 : decode cXM_set 4 = .ok (.iload_n 1, 1) := by decide +kernel
theorem dXM_set_5 : decode cXM_set 5 = .ok (.bipush 9, 2) := by decide +kernel
theorem dXM_set_7 : decode cXM_set 7 = .ok (.if_icmp .gt 26, 3) := by decide +kernel
theorem dXM_set_10 : decode cXM_set 10 = .ok (.aload_n 0, 1) := by decide +kernel
theorem dXM_set_11 : decode cXM_set 11 = .ok (.getfield 26, 3) := by decide +kernel
theorem dXM_set_14 : decode cXM_set 14 = .ok (.ifCond .ne 19, 3) := by decide +kernel
theorem dXM_set_17 : decode cXM_set 17 = .ok (.iload_n 2, 1) := by decide +kernel
theorem dXM_set_18 : decode cXM_set 18 = .ok (.iload_n 1, 1) := by decide +kernel
theorem dXM_set_19 : decode cXM_set 19 = .ok (.invokestatic 29, 3) := by decide +kernel
theorem dXM_set_22 : decode cXM_set 22 = .ok (.if_icmp .lt 11, 3) := by decide +kernel
theorem dXM_set_25 : decode cXM_set 25 = .ok (.iload_n 2, 1) := by decide +kernel
theorem dXM_set_26 : decode cXM_set 26 = .ok (.iload_n 1, 1) := by decide +kernel
theorem dXM_set_27 : decode cXM_set 27 = .ok (.invokestatic 33, 3) := by decide +kernel
theorem dXM_set_30 : decode cXM_set 30 = .ok (.if_icmp .le 5, 3) := by decide +kernel
theorem dXM_set_33 : decode cXM_set 33 = .ok (.iconst 0, 1) := by decide +kernel
theorem dXM_set_34 : decode cXM_set 34 = .ok (.ireturn, 1) := by decide +kernel
theorem dXM_set_35 : decode cXM_set 35 = .ok (.aload_n 0, 1) := by decide +kernel
theorem dXM_set_36 : decode cXM_set 36 = .ok (.getfield 7, 3) := by decide +kernel
theorem dXM_set_39 : decode cXM_set 39 = .ok (.iload_n 1, 1) := by decide +kernel
theorem dXM_set_40 : decode cXM_set 40 = .ok (.iload_n 2, 1) := by decide +kernel
theorem dXM_set_41 : decode cXM_set 41 = .ok (.iastore, 1) := by decide +kernel
theorem dXM_set_42 : decode cXM_set 42 = .ok (.iconst 1, 1) := by decide +kernel
theorem dXM_set_43 : decode cXM_set 43 = .ok (.ireturn, 1) := by decide +kernel
theorem dXM_parameter_0 : decode cXM_parameter 0 = .ok (.iload_n 1, 1) := by decide +kernel
theorem dXM_parameter_1 : decode cXM_parameter 1 = .ok (.ifCond .lt 9, 3) := by decide +kernel
theorem dXM_parameter_4 : decode cXM_parameter 4 = .ok (.iload_n 1, 1) := by decide +kernel
theorem dXM_parameter_5 : decode cXM_parameter 5 = .ok (.bipush 9, 2) := by decide +kernel
theorem dXM_parameter_7 : decode cXM_parameter 7 = .ok (.if_icmp .le 7, 3) := by decide +kernel
theorem dXM_parameter_10 : decode cXM_parameter 10 = .ok (.iconst 0, 1) := by decide +kernel
theorem dXM_parameter_11 : decode cXM_parameter 11 = .ok (.goto 9, 3) := by decide +kernel
theorem dXM_parameter_14 : decode cXM_parameter 14 = .ok (.aload_n 0, 1) := by decide +kernel
theorem dXM_parameter_15 : decode cXM_parameter 15 = .ok (.getfield 7, 3) := by decide +kernel
theorem dXM_parameter_18 : decode cXM_parameter 18 = .ok (.iload_n 1, 1) := by decide +kernel
theorem dXM_parameter_19 : decode cXM_parameter 19 = .ok (.iaload, 1) := by decide +kernel
theorem dXM_parameter_20 : decode cXM_parameter 20 = .ok (.ireturn, 1) := by decide +kernel
theorem dXM_sense_0 : decode cXM_sense 0 = .ok (.iload_n 1, 1) := by decide +kernel
theorem dXM_sense_1 : decode cXM_sense 1 = .ok (.ifCond .lt 8, 3) := by decide +kernel
theorem dXM_sense_4 : decode cXM_sense 4 = .ok (.iload_n 1, 1) := by decide +kernel
theorem dXM_sense_5 : decode cXM_sense 5 = .ok (.iconst 5, 1) := by decide +kernel
theorem dXM_sense_6 : decode cXM_sense 6 = .ok (.if_icmp .le 5, 3) := by decide +kernel
theorem dXM_sense_9 : decode cXM_sense 9 = .ok (.iconst 0, 1) := by decide +kernel
theorem dXM_sense_10 : decode cXM_sense 10 = .ok (.ireturn, 1) := by decide +kernel
theorem dXM_sense_11 : decode cXM_sense 11 = .ok (.aload_n 0, 1) := by decide +kernel
theorem dXM_sense_12 : decode cXM_sense 12 = .ok (.getfield 13, 3) := by decide +kernel
theorem dXM_sense_15 : decode cXM_sense 15 = .ok (.iload_n 1, 1) := by decide +kernel
theorem dXM_sense_16 : decode cXM_sense 16 = .ok (.iload_n 2, 1) := by decide +kernel
theorem dXM_sense_17 : decode cXM_sense 17 = .ok (.iastore, 1) := by decide +kernel
theorem dXM_sense_18 : decode cXM_sense 18 = .ok (.iconst 1, 1) := by decide +kernel
theorem dXM_sense_19 : decode cXM_sense 19 = .ok (.ireturn, 1) := by decide +kernel
theorem dXM_conditioned_0 : decode cXM_conditioned 0 = .ok (.iload_n 1, 1) := by decide +kernel
theorem dXM_conditioned_1 : decode cXM_conditioned 1 = .ok (.ifCond .lt 8, 3) := by decide +kernel
theorem dXM_conditioned_4 : decode cXM_conditioned 4 = .ok (.iload_n 1, 1) := by decide +kernel
theorem dXM_conditioned_5 : decode cXM_conditioned 5 = .ok (.iconst 5, 1) := by decide +kernel
theorem dXM_conditioned_6 : decode cXM_conditioned 6 = .ok (.if_icmp .le 7, 3) := by decide +kernel
theorem dXM_conditioned_9 : decode cXM_conditioned 9 = .ok (.iconst 0, 1) := by decide +kernel
theorem dXM_conditioned_10 : decode cXM_conditioned 10 = .ok (.goto 9, 3) := by decide +kernel
theorem dXM_conditioned_13 : decode cXM_conditioned 13 = .ok (.aload_n 0, 1) := by decide +kernel
theorem dXM_conditioned_14 : decode cXM_conditioned 14 = .ok (.getfield 16, 3) := by decide +kernel
theorem dXM_conditioned_17 : decode cXM_conditioned 17 = .ok (.iload_n 1, 1) := by decide +kernel
theorem dXM_conditioned_18 : decode cXM_conditioned 18 = .ok (.iaload, 1) := by decide +kernel
theorem dXM_conditioned_19 : decode cXM_conditioned 19 = .ok (.ireturn, 1) := by decide +kernel
theorem dXM_faulty_0 : decode cXM_faulty 0 = .ok (.iload_n 1, 1) := by decide +kernel
theorem dXM_faulty_1 : decode cXM_faulty 1 = .ok (.ifCond .lt 27, 3) := by decide +kernel
theorem dXM_faulty_4 : decode cXM_faulty 4 = .ok (.iload_n 1, 1) := by decide +kernel
theorem dXM_faulty_5 : decode cXM_faulty 5 = .ok (.iconst 5, 1) := by decide +kernel
theorem dXM_faulty_6 : decode cXM_faulty 6 = .ok (.if_icmp .gt 22, 3) := by decide +kernel
theorem dXM_faulty_9 : decode cXM_faulty 9 = .ok (.aload_n 0, 1) := by decide +kernel
theorem dXM_faulty_10 : decode cXM_faulty 10 = .ok (.getfield 36, 3) := by decide +kernel
theorem dXM_faulty_13 : decode cXM_faulty 13 = .ok (.aload_n 0, 1) := by decide +kernel
theorem dXM_faulty_14 : decode cXM_faulty 14 = .ok (.getfield 23, 3) := by decide +kernel
theorem dXM_faulty_17 : decode cXM_faulty 17 = .ok (.iload_n 1, 1) := by decide +kernel
theorem dXM_faulty_18 : decode cXM_faulty 18 = .ok (.iaload, 1) := by decide +kernel
theorem dXM_faulty_19 : decode cXM_faulty 19 = .ok (.isub, 1) := by decide +kernel
theorem dXM_faulty_20 : decode cXM_faulty 20 = .ok (.iconst 3, 1) := by decide +kernel
theorem dXM_faulty_21 : decode cXM_faulty 21 = .ok (.if_icmp .lt 7, 3) := by decide +kernel
theorem dXM_faulty_24 : decode cXM_faulty 24 = .ok (.iconst 1, 1) := by decide +kernel
theorem dXM_faulty_25 : decode cXM_faulty 25 = .ok (.goto 4, 3) := by decide +kernel
theorem dXM_faulty_28 : decode cXM_faulty 28 = .ok (.iconst 0, 1) := by decide +kernel
theorem dXM_faulty_29 : decode cXM_faulty 29 = .ok (.ireturn, 1) := by decide +kernel
theorem dXM_enter_0 : decode cXM_enter 0 = .ok (.aload_n 0, 1) := by decide +kernel
theorem dXM_enter_1 : decode cXM_enter 1 = .ok (.iload_n 1, 1) := by decide +kernel
theorem dXM_enter_2 : decode cXM_enter 2 = .ok (.putfield 26, 3) := by decide +kernel
theorem dXM_enter_5 : decode cXM_enter 5 = .ok (.aload_n 0, 1) := by decide +kernel
theorem dXM_enter_6 : decode cXM_enter 6 = .ok (.iconst 0, 1) := by decide +kernel
theorem dXM_enter_7 : decode cXM_enter 7 = .ok (.putfield 39, 3) := by decide +kernel
theorem dXM_enter_10 : decode cXM_enter 10 = .ok (.iload_n 1, 1) := by decide +kernel
theorem dXM_enter_11 : decode cXM_enter 11 = .ok (.iconst 3, 1) := by decide +kernel
theorem dXM_enter_12 : decode cXM_enter 12 = .ok (.if_icmp .ne 18, 3) := by decide +kernel
theorem dXM_enter_15 : decode cXM_enter 15 = .ok (.aload_n 0, 1) := by decide +kernel
theorem dXM_enter_16 : decode cXM_enter 16 = .ok (.iconst 0, 1) := by decide +kernel
theorem dXM_enter_17 : decode cXM_enter 17 = .ok (.putfield 42, 3) := by decide +kernel
theorem dXM_enter_20 : decode cXM_enter 20 = .ok (.aload_n 0, 1) := by decide +kernel
theorem dXM_enter_21 : decode cXM_enter 21 = .ok (.iconst 0, 1) := by decide +kernel
theorem dXM_enter_22 : decode cXM_enter 22 = .ok (.putfield 45, 3) := by decide +kernel
theorem dXM_enter_25 : decode cXM_enter 25 = .ok (.aload_n 0, 1) := by decide +kernel
theorem dXM_enter_26 : decode cXM_enter 26 = .ok (.iconst 0, 1) := by decide +kernel
theorem dXM_enter_27 : decode cXM_enter 27 = .ok (.putfield 48, 3) := by decide +kernel
theorem dXM_enter_30 : decode cXM_enter 30 = .ok (.return_, 1) := by decide +kernel
theorem dXM_next_0 : decode cXM_next 0 = .ok (.aload_n 0, 1) := by decide +kernel
theorem dXM_next_1 : decode cXM_next 1 = .ok (.getfield 26, 3) := by decide +kernel
