theorem dXM_commands_47 : decode cXM_commands 47 = .ok (.getfield 58, 3) := by decide +kernel
theorem dXM_commands_50 : decode cXM_commands 50 = .ok (.bipush 38, 2) := by decide +kernel
theorem dXM_commands_52 : decode cXM_commands 52 = .ok (.iand, 1) := by decide +kernel
theorem dXM_commands_53 : decode cXM_commands 53 = .ok (.ifCond .ne 9, 3) := by decide +kernel
theorem dXM_commands_56 : decode cXM_commands 56 = .ok (.iload_n 2, 1) := by decide +kernel
theorem dXM_commands_57 : decode cXM_commands 57 = .ok (.iconst 2, 1) := by decide +kernel
theorem dXM_commands_58 : decode cXM_commands 58 = .ok (.iadd, 1) := by decide +kernel
theorem dXM_commands_59 : decode cXM_commands 59 = .ok (.goto 4, 3) := by decide +kernel
theorem dXM_commands_62 : decode cXM_commands 62 = .ok (.iload_n 2, 1) := by decide +kernel
theorem dXM_commands_63 : decode cXM_commands 63 = .ok (.istore_n 2, 1) := by decide +kernel
theorem dXM_commands_64 : decode cXM_commands 64 = .ok (.aload_n 0, 1) := by decide +kernel
theorem dXM_commands_65 : decode cXM_commands 65 = .ok (.getfield 26, 3) := by decide +kernel
theorem dXM_commands_68 : decode cXM_commands 68 = .ok (.iconst 3, 1) := by decide +kernel
theorem dXM_commands_69 : decode cXM_commands 69 = .ok (.if_icmp .ne 24, 3) := by decide +kernel
theorem dXM_commands_72 : decode cXM_commands 72 = .ok (.aload_n 0, 1) := by decide +kernel
theorem dXM_commands_73 : decode cXM_commands 73 = .ok (.getfield 55, 3) := by decide +kernel
theorem dXM_commands_76 : decode cXM_commands 76 = .ok (.aload_n 0, 1) := by decide +kernel
theorem dXM_commands_77 : decode cXM_commands 77 = .ok (.getfield 36, 3) := by decide +kernel
theorem dXM_commands_80 : decode cXM_commands 80 = .ok (.if_icmp .eq 13, 3) := by decide +kernel
theorem dXM_commands_83 : decode cXM_commands 83 = .ok (.aload_n 0, 1) := by decide +kernel
theorem dXM_commands_84 : decode cXM_commands 84 = .ok (.getfield 58, 3) := by decide +kernel
theorem dXM_commands_87 : decode cXM_commands 87 = .ok (.bipush 8, 2) := by decide +kernel
theorem dXM_commands_89 : decode cXM_commands 89 = .ok (.iand, 1) := by decide +kernel
theorem dXM_commands_90 : decode cXM_commands 90 = .ok (.ifCond .eq 9, 3) := by decide +kernel
theorem dXM_commands_93 : decode cXM_commands 93 = .ok (.iload_n 2, 1) := by decide +kernel
theorem dXM_commands_94 : decode cXM_commands 94 = .ok (.iconst 4, 1) := by decide +kernel
theorem dXM_commands_95 : decode cXM_commands 95 = .ok (.iadd, 1) := by decide +kernel
theorem dXM_commands_96 : decode cXM_commands 96 = .ok (.goto 4, 3) := by decide +kernel
theorem dXM_commands_99 : decode cXM_commands 99 = .ok (.iload_n 2, 1) := by decide +kernel
theorem dXM_commands_100 : decode cXM_commands 100 = .ok (.istore_n 2, 1) := by decide +kernel
theorem dXM_commands_101 : decode cXM_commands 101 = .ok (.aload_n 0, 1) := by decide +kernel
theorem dXM_commands_102 : decode cXM_commands 102 = .ok (.getfield 26, 3) := by decide +kernel
theorem dXM_commands_105 : decode cXM_commands 105 = .ok (.iconst 3, 1) := by decide +kernel
theorem dXM_commands_106 : decode cXM_commands 106 = .ok (.if_icmp .ne 15, 3) := by decide +kernel
theorem dXM_commands_109 : decode cXM_commands 109 = .ok (.iload_n 2, 1) := by decide +kernel
theorem dXM_commands_110 : decode cXM_commands 110 = .ok (.iconst 1, 1) := by decide +kernel
theorem dXM_commands_111 : decode cXM_commands 111 = .ok (.iand, 1) := by decide +kernel
theorem dXM_commands_112 : decode cXM_commands 112 = .ok (.ifCond .eq 9, 3) := by decide +kernel
theorem dXM_commands_115 : decode cXM_commands 115 = .ok (.iload_n 2, 1) := by decide +kernel
theorem dXM_commands_116 : decode cXM_commands 116 = .ok (.iconst 4, 1) := by decide +kernel
theorem dXM_commands_117 : decode cXM_commands 117 = .ok (.iand, 1) := by decide +kernel
theorem dXM_commands_118 : decode cXM_commands 118 = .ok (.ifCond .eq 5, 3) := by decide +kernel
theorem dXM_commands_121 : decode cXM_commands 121 = .ok (.iload_n 2, 1) := by decide +kernel
theorem dXM_commands_122 : decode cXM_commands 122 = .ok (.ireturn, 1) := by decide +kernel
theorem dXM_commands_123 : decode cXM_commands 123 = .ok (.aload_n 0, 1) := by decide +kernel
theorem dXM_commands_124 : decode cXM_commands 124 = .ok (.dup, 1) := by decide +kernel
theorem dXM_commands_125 : decode cXM_commands 125 = .ok (.getfield 42, 3) := by decide +kernel
theorem dXM_commands_128 : decode cXM_commands 128 = .ok (.iconst 1, 1) := by decide +kernel
theorem dXM_commands_129 : decode cXM_commands 129 = .ok (.iadd, 1) := by decide +kernel
theorem dXM_commands_130 : decode cXM_commands 130 = .ok (.putfield 42, 3) := by decide +kernel
theorem dXM_commands_133 : decode cXM_commands 133 = .ok (.aload_n 0, 1) := by decide +kernel
theorem dXM_commands_134 : decode cXM_commands 134 = .ok (.getfield 7, 3) := by decide +kernel
theorem dXM_commands_137 : decode cXM_commands 137 = .ok (.iconst 1, 1) := by decide +kernel
theorem dXM_commands_138 : decode cXM_commands 138 = .ok (.iaload, 1) := by decide +kernel
theorem dXM_commands_139 : decode cXM_commands 139 = .ok (.i2l, 1) := by decide +kernel
theorem dXM_commands_140 : decode cXM_commands 140 = .ok (.ldc2_w 94, 3) := by decide +kernel
theorem dXM_commands_143 : decode cXM_commands 143 = .ok (.lmul, 1) := by decide +kernel
theorem dXM_commands_144 : decode cXM_commands 144 = .ok (.aload_n 0, 1) := by decide +kernel
theorem dXM_commands_145 : decode cXM_commands 145 = .ok (.getfield 42, 3) := by decide +kernel
theorem dXM_commands_148 : decode cXM_commands 148 = .ok (.i2l, 1) := by decide +kernel
theorem dXM_commands_149 : decode cXM_commands 149 = .ok (.lmul, 1) := by decide +kernel
theorem dXM_commands_150 : decode cXM_commands 150 = .ok (.ldc2_w 96, 3) := by decide +kernel
theorem dXM_commands_153 : decode cXM_commands 153 = .ok (.aload_n 0, 1) := by decide +kernel
theorem dXM_commands_154 : decode cXM_commands 154 = .ok (.getfield 7, 3) := by decide +kernel
theorem dXM_commands_157 : decode cXM_commands 157 = .ok (.iconst 3, 1) := by decide +kernel
theorem dXM_commands_158 : decode cXM_commands 158 = .ok (.iaload, 1) := by decide +kernel
theorem dXM_commands_159 : decode cXM_commands 159 = .ok (.i2l, 1) := by decide +kernel
theorem dXM_commands_160 : decode cXM_commands 160 = .ok (.lmul, 1) := by decide +kernel
theorem dXM_commands_161 : decode cXM_commands 161 = .ok (.ldiv, 1) := by decide +kernel
theorem dXM_commands_162 : decode cXM_commands 162 = .ok (.lstore_n 3, 1) := by decide +kernel
theorem dXM_commands_163 : decode cXM_commands 163 = .ok (.lload_n 3, 1) := by decide +kernel
theorem dXM_commands_164 : decode cXM_commands 164 = .ok (.ldc2_w 98, 3) := by decide +kernel
theorem dXM_commands_167 : decode cXM_commands 167 = .ok (.aload_n 0, 1) := by decide +kernel
theorem dXM_commands_168 : decode cXM_commands 168 = .ok (.getfield 45, 3) := by decide +kernel
theorem dXM_commands_171 : decode cXM_commands 171 = .ok (.i2l, 1) := by decide +kernel
theorem dXM_commands_172 : decode cXM_commands 172 = .ok (.lmul, 1) := by decide +kernel
theorem dXM_commands_173 : decode cXM_commands 173 = .ok (.ldc2_w 98, 3) := by decide +kernel
theorem dXM_commands_176 : decode cXM_commands 176 = .ok (.ladd, 1) := by decide +kernel
theorem dXM_commands_177 : decode cXM_commands 177 = .ok (.lcmp, 1) := by decide +kernel
theorem dXM_commands_178 : decode cXM_commands 178 = .ok (.ifCond .ge 5, 3) := by decide +kernel
theorem dXM_commands_181 : decode cXM_commands 181 = .ok (.iload_n 2, 1) := by decide +kernel
theorem dXM_commands_182 : decode cXM_commands 182 = .ok (.ireturn, 1) := by decide +kernel
theorem dXM_commands_183 : decode cXM_commands 183 = .ok (.aload_n 0, 1) := by decide +kernel
theorem dXM_commands_184 : decode cXM_commands 184 = .ok (.dup, 1) := by decide +kernel
theorem dXM_commands_185 : decode cXM_commands 185 = .ok (.getfield 45, 3) := by decide +kernel
theorem dXM_commands_188 : decode cXM_commands 188 = .ok (.iconst 1, 1) := by decide +kernel
theorem dXM_commands_189 : decode cXM_commands 189 = .ok (.iadd, 1) := by decide +kernel
theorem dXM_commands_190 : decode cXM_commands 190 = .ok (.putfield 45, 3) := by decide +kernel
theorem dXM_commands_193 : decode cXM_commands 193 = .ok (.iload_n 2, 1) := by decide +kernel
theorem dXM_commands_194 : decode cXM_commands 194 = .ok (.bipush 8, 2) := by decide +kernel
theorem dXM_commands_196 : decode cXM_commands 196 = .ok (.iadd, 1) := by decide +kernel
theorem dXM_commands_197 : decode cXM_commands 197 = .ok (.ireturn, 1) := by decide +kernel
theorem dXM_guarded_0 : decode cXM_guarded 0 = .ok (.aload_n 0, 1) := by decide +kernel
theorem dXM_guarded_1 : decode cXM_guarded 1 = .ok (.invokevirtual 72, 3) := by decide +kernel
theorem dXM_guarded_4 : decode cXM_guarded 4 = .ok (.ifCond .eq 53, 3) := by decide +kernel
theorem dXM_guarded_7 : decode cXM_guarded 7 = .ok (.aload_n 0, 1) := by decide +kernel
theorem dXM_guarded_8 : decode cXM_guarded 8 = .ok (.getfield 13, 3) := by decide +kernel
theorem dXM_guarded_11 : decode cXM_guarded 11 = .ok (.iconst 4, 1) := by decide +kernel
theorem dXM_guarded_12 : decode cXM_guarded 12 = .ok (.iaload, 1) := by decide +kernel
theorem dXM_guarded_13 : decode cXM_guarded 13 = .ok (.ifCond .ne 40, 3) := by decide +kernel
theorem dXM_guarded_16 : decode cXM_guarded 16 = .ok (.aload_n 0, 1) := by decide +kernel
theorem dXM_guarded_17 : decode cXM_guarded 17 = .ok (.aload_n 0, 1) := by decide +kernel
theorem dXM_guarded_18 : decode cXM_guarded 18 = .ok (.getfield 13, 3) := by decide +kernel
theorem dXM_guarded_21 : decode cXM_guarded 21 = .ok (.iconst 0, 1) := by decide +kernel
theorem dXM_guarded_22 : decode cXM_guarded 22 = .ok (.iaload, 1) := by decide +kernel
theorem dXM_guarded_23 : decode cXM_guarded 23 = .ok (.sipush (-350), 3) := by decide +kernel
theorem dXM_guarded_26 : decode cXM_guarded 26 = .ok (.sipush 250, 3) := by decide +kernel
theorem dXM_guarded_29 : decode cXM_guarded 29 = .ok (.invokevirtual 75, 3) := by decide +kernel
theorem dXM_guarded_32 : decode cXM_guarded 32 = .ok (.ifCond .ne 21, 3) := by decide +kernel
theorem dXM_guarded_35 : decode cXM_guarded 35 = .ok (.aload_n 0, 1) := by decide +kernel
theorem dXM_guarded_36 : decode cXM_guarded 36 = .ok (.aload_n 0, 1) := by decide +kernel
theorem dXM_guarded_37 : decode cXM_guarded 37 = .ok (.getfield 13, 3) := by decide +kernel
theorem dXM_guarded_40 : decode cXM_guarded 40 = .ok (.iconst 1, 1) := by decide +kernel
theorem dXM_guarded_41 : decode cXM_guarded 41 = .ok (.iaload, 1) := by decide +kernel
theorem dXM_guarded_42 : decode cXM_guarded 42 = .ok (.bipush (-50), 2) := by decide +kernel
theorem dXM_guarded_44 : decode cXM_guarded 44 = .ok (.sipush 450, 3) := by decide +kernel
theorem dXM_guarded_47 : decode cXM_guarded 47 = .ok (.invokevirtual 75, 3) := by decide +kernel
theorem dXM_guarded_50 : decode cXM_guarded 50 = .ok (.ifCond .eq 7, 3) := by decide +kernel
theorem dXM_guarded_53 : decode cXM_guarded 53 = .ok (.iconst 1, 1) := by decide +kernel
theorem dXM_guarded_54 : decode cXM_guarded 54 = .ok (.goto 4, 3) := by decide +kernel
theorem dXM_guarded_57 : decode cXM_guarded 57 = .ok (.iconst 0, 1) := by decide +kernel
theorem dXM_guarded_58 : decode cXM_guarded 58 = .ok (.istore_n 2, 1) := by decide +kernel
theorem dXM_guarded_59 : decode cXM_guarded 59 = .ok (.iload_n 1, 1) := by decide +kernel
theorem dXM_guarded_60 : decode cXM_guarded 60 = .ok (.istore_n 3, 1) := by decide +kernel
theorem dXM_guarded_61 : decode cXM_guarded 61 = .ok (.iload_n 2, 1) := by decide +kernel
theorem dXM_guarded_62 : decode cXM_guarded 62 = .ok (.ifCond .eq 17, 3) := by decide +kernel
theorem dXM_guarded_65 : decode cXM_guarded 65 = .ok (.aload_n 0, 1) := by decide +kernel
theorem dXM_guarded_66 : decode cXM_guarded 66 = .ok (.dup, 1) := by decide +kernel
theorem dXM_guarded_67 : decode cXM_guarded 67 = .ok (.getfield 100, 3) := by decide +kernel
theorem dXM_guarded_70 : decode cXM_guarded 70 = .ok (.iconst 1, 1) := by decide +kernel
theorem dXM_guarded_71 : decode cXM_guarded 71 = .ok (.iadd, 1) := by decide +kernel
theorem dXM_guarded_72 : decode cXM_guarded 72 = .ok (.putfield 100, 3) := by decide +kernel
theorem dXM_guarded_75 : decode cXM_guarded 75 = .ok (.iload_n 3, 1) := by decide +kernel
theorem dXM_guarded_76 : decode cXM_guarded 76 = .ok (.iconst 4, 1) := by decide +kernel
theorem dXM_guarded_77 : decode cXM_guarded 77 = .ok (.iand, 1) := by decide +kernel
theorem dXM_guarded_78 : decode cXM_guarded 78 = .ok (.istore_n 3, 1) := by decide +kernel
theorem dXM_guarded_79 : decode cXM_guarded 79 = .ok (.aload_n 0, 1) := by decide +kernel
theorem dXM_guarded_80 : decode cXM_guarded 80 = .ok (.getfield 26, 3) := by decide +kernel
theorem dXM_guarded_83 : decode cXM_guarded 83 = .ok (.iconst 3, 1) := by decide +kernel
theorem dXM_guarded_84 : decode cXM_guarded 84 = .ok (.if_icmp .ne 19, 3) := by decide +kernel
theorem dXM_guarded_87 : decode cXM_guarded 87 = .ok (.aload_n 0, 1) := by decide +kernel
theorem dXM_guarded_88 : decode cXM_guarded 88 = .ok (.getfield 13, 3) := by decide +kernel
theorem dXM_guarded_91 : decode cXM_guarded 91 = .ok (.iconst 2, 1) := by decide +kernel
theorem dXM_guarded_92 : decode cXM_guarded 92 = .ok (.iaload, 1) := by decide +kernel
theorem dXM_guarded_93 : decode cXM_guarded 93 = .ok (.sipush 410, 3) := by decide +kernel
theorem dXM_guarded_96 : decode cXM_guarded 96 = .ok (.if_icmp .le 7, 3) := by decide +kernel
theorem dXM_guarded_99 : decode cXM_guarded 99 = .ok (.iload_n 3, 1) := by decide +kernel
theorem dXM_guarded_100 : decode cXM_guarded 100 = .ok (.iconst 4, 1) := by decide +kernel
theorem dXM_guarded_101 : decode cXM_guarded 101 = .ok (.ior, 1) := by decide +kernel
theorem dXM_guarded_102 : decode cXM_guarded 102 = .ok (.istore_n 3, 1) := by decide +kernel
theorem dXM_guarded_103 : decode cXM_guarded 103 = .ok (.aload_n 0, 1) := by decide +kernel
theorem dXM_guarded_104 : decode cXM_guarded 104 = .ok (.getfield 26, 3) := by decide +kernel
theorem dXM_guarded_107 : decode cXM_guarded 107 = .ok (.iconst 3, 1) := by decide +kernel
theorem dXM_guarded_108 : decode cXM_guarded 108 = .ok (.if_icmp .ne 30, 3) := by decide +kernel
theorem dXM_guarded_111 : decode cXM_guarded 111 = .ok (.sipush 500, 3) := by decide +kernel
theorem dXM_guarded_114 : decode cXM_guarded 114 = .ok (.aload_n 0, 1) := by decide +kernel
theorem dXM_guarded_115 : decode cXM_guarded 115 = .ok (.getfield 48, 3) := by decide +kernel
theorem dXM_guarded_118 : decode cXM_guarded 118 = .ok (.iconst 1, 1) := by decide +kernel
theorem dXM_guarded_119 : decode cXM_guarded 119 = .ok (.iadd, 1) := by decide +kernel
theorem dXM_guarded_120 : decode cXM_guarded 120 = .ok (.imul, 1) := by decide +kernel
theorem dXM_guarded_121 : decode cXM_guarded 121 = .ok (.aload_n 0, 1) := by decide +kernel
theorem dXM_guarded_122 : decode cXM_guarded 122 = .ok (.getfield 7, 3) := by decide +kernel
theorem dXM_guarded_125 : decode cXM_guarded 125 = .ok (.iconst 1, 1) := by decide +kernel
theorem dXM_guarded_126 : decode cXM_guarded 126 = .ok (.iaload, 1) := by decide +kernel
theorem dXM_guarded_127 : decode cXM_guarded 127 = .ok (.sipush 1000, 3) := by decide +kernel
theorem dXM_guarded_130 : decode cXM_guarded 130 = .ok (.imul, 1) := by decide +kernel
theorem dXM_guarded_131 : decode cXM_guarded 131 = .ok (.sipush 500, 3) := by decide +kernel
theorem dXM_guarded_134 : decode cXM_guarded 134 = .ok (.iadd, 1) := by decide +kernel
theorem dXM_guarded_135 : decode cXM_guarded 135 = .ok (.if_icmp .le 8, 3) := by decide +kernel
theorem dXM_guarded_138 : decode cXM_guarded 138 = .ok (.iload_n 3, 1) := by decide +kernel
theorem dXM_guarded_139 : decode cXM_guarded 139 = .ok (.bipush (-9), 2) := by decide +kernel
theorem dXM_guarded_141 : decode cXM_guarded 141 = .ok (.iand, 1) := by decide +kernel
theorem dXM_guarded_142 : decode cXM_guarded 142 = .ok (.istore_n 3, 1) := by decide +kernel
theorem dXM_guarded_143 : decode cXM_guarded 143 = .ok (.iload_n 3, 1) := by decide +kernel
theorem dXM_guarded_144 : decode cXM_guarded 144 = .ok (.ireturn, 1) := by decide +kernel
theorem dXM_one_0 : decode cXM_one 0 = .ok (.aload_n 0, 1) := by decide +kernel
theorem dXM_one_1 : decode cXM_one 1 = .ok (.getfield 58, 3) := by decide +kernel
theorem dXM_one_4 : decode cXM_one 4 = .ok (.istore_n 1, 1) := by decide +kernel
theorem dXM_one_5 : decode cXM_one 5 = .ok (.aload_n 0, 1) := by decide +kernel
theorem dXM_one_6 : decode cXM_one 6 = .ok (.dup, 1) := by decide +kernel
theorem dXM_one_7 : decode cXM_one 7 = .ok (.getfield 36, 3) := by decide +kernel
theorem dXM_one_10 : decode cXM_one 10 = .ok (.iconst 1, 1) := by decide +kernel
theorem dXM_one_11 : decode cXM_one 11 = .ok (.iadd, 1) := by decide +kernel
theorem dXM_one_12 : decode cXM_one 12 = .ok (.putfield 36, 3) := by decide +kernel
theorem dXM_one_15 : decode cXM_one 15 = .ok (.aload_n 0, 1) := by decide +kernel
theorem dXM_one_16 : decode cXM_one 16 = .ok (.invokevirtual 103, 3) := by decide +kernel
theorem dXM_one_19 : decode cXM_one 19 = .ok (.aload_n 0, 1) := by decide +kernel
theorem dXM_one_20 : decode cXM_one 20 = .ok (.aload_n 0, 1) := by decide +kernel
theorem dXM_one_21 : decode cXM_one 21 = .ok (.invokevirtual 106, 3) := by decide +kernel
theorem dXM_one_24 : decode cXM_one 24 = .ok (.putfield 65, 3) := by decide +kernel
theorem dXM_one_27 : decode cXM_one 27 = .ok (.aload_n 0, 1) := by decide +kernel
theorem dXM_one_28 : decode cXM_one 28 = .ok (.aload_n 0, 1) := by decide +kernel
theorem dXM_one_29 : decode cXM_one 29 = .ok (.getfield 58, 3) := by decide +kernel
theorem dXM_one_32 : decode cXM_one 32 = .ok (.aload_n 0, 1) := by decide +kernel
theorem dXM_one_33 : decode cXM_one 33 = .ok (.getfield 65, 3) := by decide +kernel
theorem dXM_one_36 : decode cXM_one 36 = .ok (.ior, 1) := by decide +kernel
theorem dXM_one_37 : decode cXM_one 37 = .ok (.putfield 58, 3) := by decide +kernel
theorem dXM_one_40 : decode cXM_one 40 = .ok (.aload_n 0, 1) := by decide +kernel
theorem dXM_one_41 : decode cXM_one 41 = .ok (.invokevirtual 110, 3) := by decide +kernel
theorem dXM_one_44 : decode cXM_one 44 = .ok (.istore_n 2, 1) := by decide +kernel
theorem dXM_one_45 : decode cXM_one 45 = .ok (.aload_n 0, 1) := by decide +kernel
theorem dXM_one_46 : decode cXM_one 46 = .ok (.aload_n 0, 1) := by decide +kernel
theorem dXM_one_47 : decode cXM_one 47 = .ok (.aload_n 0, 1) := by decide +kernel
theorem dXM_one_48 : decode cXM_one 48 = .ok (.getfield 19, 3) := by decide +kernel
theorem dXM_one_51 : decode cXM_one 51 = .ok (.ifCond .ge 7, 3) := by decide +kernel
theorem dXM_one_54 : decode cXM_one 54 = .ok (.iload_n 2, 1) := by decide +kernel
theorem dXM_one_55 : decode cXM_one 55 = .ok (.goto 7, 3) := by decide +kernel
theorem dXM_one_58 : decode cXM_one 58 = .ok (.aload_n 0, 1) := by decide +kernel
theorem dXM_one_59 : decode cXM_one 59 = .ok (.getfield 19, 3) := by decide +kernel
theorem dXM_one_62 : decode cXM_one 62 = .ok (.invokevirtual 113, 3) := by decide +kernel
theorem dXM_one_65 : decode cXM_one 65 = .ok (.putfield 116, 3) := by decide +kernel
theorem dXM_one_68 : decode cXM_one 68 = .ok (.aload_n 0, 1) := by decide +kernel
theorem dXM_one_69 : decode cXM_one 69 = .ok (.aload_n 0, 1) := by decide +kernel
theorem dXM_one_70 : decode cXM_one 70 = .ok (.getfield 116, 3) := by decide +kernel
theorem dXM_one_73 : decode cXM_one 73 = .ok (.bipush 8, 2) := by decide +kernel
theorem dXM_one_75 : decode cXM_one 75 = .ok (.iand, 1) := by decide +kernel
theorem dXM_one_76 : decode cXM_one 76 = .ok (.ifCond .eq 12, 3) := by decide +kernel
theorem dXM_one_79 : decode cXM_one 79 = .ok (.aload_n 0, 1) := by decide +kernel
theorem dXM_one_80 : decode cXM_one 80 = .ok (.getfield 48, 3) := by decide +kernel
theorem dXM_one_83 : decode cXM_one 83 = .ok (.iconst 1, 1) := by decide +kernel
theorem dXM_one_84 : decode cXM_one 84 = .ok (.iadd, 1) := by decide +kernel
theorem dXM_one_85 : decode cXM_one 85 = .ok (.goto 7, 3) := by decide +kernel
theorem dXM_one_88 : decode cXM_one 88 = .ok (.aload_n 0, 1) := by decide +kernel
theorem dXM_one_89 : decode cXM_one 89 = .ok (.getfield 48, 3) := by decide +kernel
theorem dXM_one_92 : decode cXM_one 92 = .ok (.putfield 48, 3) := by decide +kernel
theorem dXM_one_95 : decode cXM_one 95 = .ok (.aload_n 0, 1) := by decide +kernel
theorem dXM_one_96 : decode cXM_one 96 = .ok (.getfield 26, 3) := by decide +kernel
theorem dXM_one_99 : decode cXM_one 99 = .ok (.iconst 1, 1) := by decide +kernel
theorem dXM_one_100 : decode cXM_one 100 = .ok (.if_icmp .eq 11, 3) := by decide +kernel
theorem dXM_one_103 : decode cXM_one 103 = .ok (.aload_n 0, 1) := by decide +kernel
theorem dXM_one_104 : decode cXM_one 104 = .ok (.getfield 26, 3) := by decide +kernel
theorem dXM_one_107 : decode cXM_one 107 = .ok (.iconst 4, 1) := by decide +kernel
theorem dXM_one_108 : decode cXM_one 108 = .ok (.if_icmp .ne 12, 3) := by decide +kernel
theorem dXM_one_111 : decode cXM_one 111 = .ok (.aload_n 0, 1) := by decide +kernel
theorem dXM_one_112 : decode cXM_one 112 = .ok (.getfield 116, 3) := by decide +kernel
theorem dXM_one_115 : decode cXM_one 115 = .ok (.iconst 1, 1) := by decide +kernel
theorem dXM_one_116 : decode cXM_one 116 = .ok (.iand, 1) := by decide +kernel
theorem dXM_one_117 : decode cXM_one 117 = .ok (.ifCond .ne 11, 3) := by decide +kernel
theorem dXM_one_120 : decode cXM_one 120 = .ok (.aload_n 0, 1) := by decide +kernel
theorem dXM_one_121 : decode cXM_one 121 = .ok (.getfield 26, 3) := by decide +kernel
theorem dXM_one_124 : decode cXM_one 124 = .ok (.iconst 5, 1) := by decide +kernel
theorem dXM_one_125 : decode cXM_one 125 = .ok (.if_icmp .ne 13, 3) := by decide +kernel
theorem dXM_one_128 : decode cXM_one 128 = .ok (.aload_n 0, 1) := by decide +kernel
theorem dXM_one_129 : decode cXM_one 129 = .ok (.dup, 1) := by decide +kernel
theorem dXM_one_130 : decode cXM_one 130 = .ok (.getfield 39, 3) := by decide +kernel
theorem dXM_one_133 : decode cXM_one 133 = .ok (.iconst 1, 1) := by decide +kernel
theorem dXM_one_134 : decode cXM_one 134 = .ok (.iadd, 1) := by decide +kernel
theorem dXM_one_135 : decode cXM_one 135 = .ok (.putfield 39, 3) := by decide +kernel
theorem dXM_one_138 : decode cXM_one 138 = .ok (.aload_n 0, 1) := by decide +kernel
theorem dXM_one_139 : decode cXM_one 139 = .ok (.getfield 26, 3) := by decide +kernel
theorem dXM_one_142 : decode cXM_one 142 = .ok (.iconst 3, 1) := by decide +kernel
theorem dXM_one_143 : decode cXM_one 143 = .ok (.if_icmp .ne 24, 3) := by decide +kernel
theorem dXM_one_146 : decode cXM_one 146 = .ok (.aload_n 0, 1) := by decide +kernel
theorem dXM_one_147 : decode cXM_one 147 = .ok (.getfield 42, 3) := by decide +kernel
theorem dXM_one_150 : decode cXM_one 150 = .ok (.sipush 600, 3) := by decide +kernel
theorem dXM_one_153 : decode cXM_one 153 = .ok (.aload_n 0, 1) := by decide +kernel
theorem dXM_one_154 : decode cXM_one 154 = .ok (.getfield 7, 3) := by decide +kernel
theorem dXM_one_157 : decode cXM_one 157 = .ok (.iconst 3, 1) := by decide +kernel
theorem dXM_one_158 : decode cXM_one 158 = .ok (.iaload, 1) := by decide +kernel
theorem dXM_one_159 : decode cXM_one 159 = .ok (.imul, 1) := by decide +kernel
theorem dXM_one_160 : decode cXM_one 160 = .ok (.if_icmp .ne 7, 3) := by decide +kernel
theorem dXM_one_163 : decode cXM_one 163 = .ok (.iconst 1, 1) := by decide +kernel
theorem dXM_one_164 : decode cXM_one 164 = .ok (.goto 4, 3) := by decide +kernel
theorem dXM_one_167 : decode cXM_one 167 = .ok (.iconst 0, 1) := by decide +kernel
theorem dXM_one_168 : decode cXM_one 168 = .ok (.istore_n 3, 1) := by decide +kernel
theorem dXM_one_169 : decode cXM_one 169 = .ok (.iload_n 3, 1) := by decide +kernel
theorem dXM_one_170 : decode cXM_one 170 = .ok (.ifCond .eq 8, 3) := by decide +kernel
theorem dXM_one_173 : decode cXM_one 173 = .ok (.aload_n 0, 1) := by decide +kernel
theorem dXM_one_174 : decode cXM_one 174 = .ok (.iconst 4, 1) := by decide +kernel
theorem dXM_one_175 : decode cXM_one 175 = .ok (.invokevirtual 61, 3) := by decide +kernel
theorem dXM_one_178 : decode cXM_one 178 = .ok (.iload_n 3, 1) := by decide +kernel
theorem dXM_one_179 : decode cXM_one 179 = .ok (.ifCond .ne 11, 3) := by decide +kernel
theorem dXM_one_182 : decode cXM_one 182 = .ok (.aload_n 0, 1) := by decide +kernel
theorem dXM_one_183 : decode cXM_one 183 = .ok (.getfield 58, 3) := by decide +kernel
theorem dXM_one_186 : decode cXM_one 186 = .ok (.iload_n 1, 1) := by decide +kernel
theorem dXM_one_187 : decode cXM_one 187 = .ok (.if_icmp .eq 7, 3) := by decide +kernel
theorem dXM_one_190 : decode cXM_one 190 = .ok (.iconst 1, 1) := by decide +kernel
theorem dXM_one_191 : decode cXM_one 191 = .ok (.goto 4, 3) := by decide +kernel
theorem dXM_one_194 : decode cXM_one 194 = .ok (.iconst 0, 1) := by decide +kernel
theorem dXM_one_195 : decode cXM_one 195 = .ok (.ireturn, 1) := by decide +kernel
theorem dXM_tick_0 : decode cXM_tick 0 = .ok (.iload_n 1, 1) := by decide +kernel
theorem dXM_tick_1 : decode cXM_tick 1 = .ok (.iconst 1, 1) := by decide +kernel
theorem dXM_tick_2 : decode cXM_tick 2 = .ok (.if_icmp .lt 10, 3) := by decide +kernel
theorem dXM_tick_5 : decode cXM_tick 5 = .ok (.iload_n 1, 1) := by decide +kernel
theorem dXM_tick_6 : decode cXM_tick 6 = .ok (.sipush 600, 3) := by decide +kernel
theorem dXM_tick_9 : decode cXM_tick 9 = .ok (.if_icmp .le 5, 3) := by decide +kernel
theorem dXM_tick_12 : decode cXM_tick 12 = .ok (.iconst (-1), 1) := by decide +kernel
theorem dXM_tick_13 : decode cXM_tick 13 = .ok (.ireturn, 1) := by decide +kernel
theorem dXM_tick_14 : decode cXM_tick 14 = .ok (.iconst 0, 1) := by decide +kernel
theorem dXM_tick_15 : decode cXM_tick 15 = .ok (.istore_n 2, 1) := by decide +kernel
theorem dXM_tick_16 : decode cXM_tick 16 = .ok (.iconst 1, 1) := by decide +kernel
theorem dXM_tick_17 : decode cXM_tick 17 = .ok (.istore_n 3, 1) := by decide +kernel
theorem dXM_tick_18 : decode cXM_tick 18 = .ok (.iload_n 2, 1) := by decide +kernel
theorem dXM_tick_19 : decode cXM_tick 19 = .ok (.iload_n 1, 1) := by decide +kernel
theorem dXM_tick_20 : decode cXM_tick 20 = .ok (.if_icmp .ge 26, 3) := by decide +kernel
theorem dXM_tick_23 : decode cXM_tick 23 = .ok (.iload_n 3, 1) := by decide +kernel
theorem dXM_tick_24 : decode cXM_tick 24 = .ok (.ifCond .eq 22, 3) := by decide +kernel
theorem dXM_tick_27 : decode cXM_tick 27 = .ok (.aload_n 0, 1) := by decide +kernel
theorem dXM_tick_28 : decode cXM_tick 28 = .ok (.invokevirtual 119, 3) := by decide +kernel
theorem dXM_tick_31 : decode cXM_tick 31 = .ok (.ifCond .ne 7, 3) := by decide +kernel
theorem dXM_tick_34 : decode cXM_tick 34 = .ok (.iconst 1, 1) := by decide +kernel
theorem dXM_tick_35 : decode cXM_tick 35 = .ok (.goto 4, 3) := by decide +kernel
theorem dXM_tick_38 : decode cXM_tick 38 = .ok (.iconst 0, 1) := by decide +kernel
theorem dXM_tick_39 : decode cXM_tick 39 = .ok (.istore_n 3, 1) := by decide +kernel
theorem dXM_tick_40 : decode cXM_tick 40 = .ok (.iinc 2 1, 3) := by decide +kernel
theorem dXM_tick_43 : decode cXM_tick 43 = .ok (.goto (-25), 3) := by decide +kernel
theorem dXM_tick_46 : decode cXM_tick 46 = .ok (.iload_n 2, 1) := by decide +kernel
theorem dXM_tick_47 : decode cXM_tick 47 = .ok (.ireturn, 1) := by decide +kernel
theorem dXM_phase_0 : decode cXM_phase 0 = .ok (.aload_n 0, 1) := by decide +kernel
theorem dXM_phase_1 : decode cXM_phase 1 = .ok (.getfield 26, 3) := by decide +kernel
theorem dXM_phase_4 : decode cXM_phase 4 = .ok (.ireturn, 1) := by decide +kernel
theorem dXM_alarms_0 : decode cXM_alarms 0 = .ok (.aload_n 0, 1) := by decide +kernel
theorem dXM_alarms_1 : decode cXM_alarms 1 = .ok (.getfield 58, 3) := by decide +kernel
theorem dXM_alarms_4 : decode cXM_alarms 4 = .ok (.ireturn, 1) := by decide +kernel
theorem dXM_conditions_0 : decode cXM_conditions 0 = .ok (.aload_n 0, 1) := by decide +kernel
theorem dXM_conditions_1 : decode cXM_conditions 1 = .ok (.getfield 65, 3) := by decide +kernel
theorem dXM_conditions_4 : decode cXM_conditions 4 = .ok (.ireturn, 1) := by decide +kernel
theorem dXM_outputs_0 : decode cXM_outputs 0 = .ok (.aload_n 0, 1) := by decide +kernel
theorem dXM_outputs_1 : decode cXM_outputs 1 = .ok (.getfield 116, 3) := by decide +kernel
theorem dXM_outputs_4 : decode cXM_outputs 4 = .ok (.ireturn, 1) := by decide +kernel
theorem dXM_effective_0 : decode cXM_effective 0 = .ok (.aload_n 0, 1) := by decide +kernel
theorem dXM_effective_1 : decode cXM_effective 1 = .ok (.getfield 42, 3) := by decide +kernel
theorem dXM_effective_4 : decode cXM_effective 4 = .ok (.ireturn, 1) := by decide +kernel
theorem dXM_accounted_0 : decode cXM_accounted 0 = .ok (.sipush 500, 3) := by decide +kernel
theorem dXM_accounted_3 : decode cXM_accounted 3 = .ok (.aload_n 0, 1) := by decide +kernel
theorem dXM_accounted_4 : decode cXM_accounted 4 = .ok (.getfield 45, 3) := by decide +kernel
theorem dXM_accounted_7 : decode cXM_accounted 7 = .ok (.imul, 1) := by decide +kernel
theorem dXM_accounted_8 : decode cXM_accounted 8 = .ok (.ireturn, 1) := by decide +kernel
theorem dXM_strokes_0 : decode cXM_strokes 0 = .ok (.aload_n 0, 1) := by decide +kernel
theorem dXM_strokes_1 : decode cXM_strokes 1 = .ok (.getfield 48, 3) := by decide +kernel
theorem dXM_strokes_4 : decode cXM_strokes 4 = .ok (.ireturn, 1) := by decide +kernel
theorem dXM_trips_0 : decode cXM_trips 0 = .ok (.aload_n 0, 1) := by decide +kernel
theorem dXM_trips_1 : decode cXM_trips 1 = .ok (.getfield 100, 3) := by decide +kernel
theorem dXM_trips_4 : decode cXM_trips 4 = .ok (.ireturn, 1) := by decide +kernel
theorem dXM_counted_0 : decode cXM_counted 0 = .ok (.aload_n 0, 1) := by decide +kernel
theorem dXM_counted_1 : decode cXM_counted 1 = .ok (.getfield 39, 3) := by decide +kernel
theorem dXM_counted_4 : decode cXM_counted 4 = .ok (.ireturn, 1) := by decide +kernel
theorem dXM_steady_0 : decode cXM_steady 0 = .ok (.aload_n 0, 1) := by decide +kernel
theorem dXM_steady_1 : decode cXM_steady 1 = .ok (.getfield 36, 3) := by decide +kernel
theorem dXM_steady_4 : decode cXM_steady 4 = .ok (.aload_n 0, 1) := by decide +kernel
theorem dXM_steady_5 : decode cXM_steady 5 = .ok (.getfield 55, 3) := by decide +kernel
theorem dXM_steady_8 : decode cXM_steady 8 = .ok (.isub, 1) := by decide +kernel
theorem dXM_steady_9 : decode cXM_steady 9 = .ok (.ireturn, 1) := by decide +kernel
