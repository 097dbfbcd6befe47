theorem dXM_next_4 : decode cXM_next 4 = .ok (.iconst 3, 1) := by decide +kernel
theorem dXM_next_5 : decode cXM_next 5 = .ok (.if_icmp .eq 12, 3) := by decide +kernel
theorem dXM_next_8 : decode cXM_next 8 = .ok (.aload_n 0, 1) := by decide +kernel
theorem dXM_next_9 : decode cXM_next 9 = .ok (.getfield 26, 3) := by decide +kernel
theorem dXM_next_12 : decode cXM_next 12 = .ok (.bipush 6, 2) := by decide +kernel
theorem dXM_next_14 : decode cXM_next 14 = .ok (.if_icmp .ne 7, 3) := by decide +kernel
theorem dXM_next_17 : decode cXM_next 17 = .ok (.iconst 1, 1) := by decide +kernel
theorem dXM_next_18 : decode cXM_next 18 = .ok (.goto 4, 3) := by decide +kernel
theorem dXM_next_21 : decode cXM_next 21 = .ok (.iconst 0, 1) := by decide +kernel
theorem dXM_next_22 : decode cXM_next 22 = .ok (.istore_n 1, 1) := by decide +kernel
theorem dXM_next_23 : decode cXM_next 23 = .ok (.aload_n 0, 1) := by decide +kernel
theorem dXM_next_24 : decode cXM_next 24 = .ok (.getfield 26, 3) := by decide +kernel
theorem dXM_next_27 : decode cXM_next 27 = .ok (.ifCond .ne 37, 3) := by decide +kernel
theorem dXM_next_30 : decode cXM_next 30 = .ok (.aload_n 0, 1) := by decide +kernel
theorem dXM_next_31 : decode cXM_next 31 = .ok (.invokevirtual 51, 3) := by decide +kernel
theorem dXM_next_34 : decode cXM_next 34 = .ok (.ifCond .eq 28, 3) := by decide +kernel
theorem dXM_next_37 : decode cXM_next 37 = .ok (.aload_n 0, 1) := by decide +kernel
theorem dXM_next_38 : decode cXM_next 38 = .ok (.getfield 36, 3) := by decide +kernel
theorem dXM_next_41 : decode cXM_next 41 = .ok (.aload_n 0, 1) := by decide +kernel
theorem dXM_next_42 : decode cXM_next 42 = .ok (.getfield 55, 3) := by decide +kernel
theorem dXM_next_45 : decode cXM_next 45 = .ok (.isub, 1) := by decide +kernel
theorem dXM_next_46 : decode cXM_next 46 = .ok (.bipush 20, 2) := by decide +kernel
theorem dXM_next_48 : decode cXM_next 48 = .ok (.if_icmp .lt 14, 3) := by decide +kernel
theorem dXM_next_51 : decode cXM_next 51 = .ok (.aload_n 0, 1) := by decide +kernel
theorem dXM_next_52 : decode cXM_next 52 = .ok (.getfield 58, 3) := by decide +kernel
theorem dXM_next_55 : decode cXM_next 55 = .ok (.ifCond .ne 7, 3) := by decide +kernel
theorem dXM_next_58 : decode cXM_next 58 = .ok (.iconst 1, 1) := by decide +kernel
theorem dXM_next_59 : decode cXM_next 59 = .ok (.goto 4, 3) := by decide +kernel
theorem dXM_next_62 : decode cXM_next 62 = .ok (.iconst 0, 1) := by decide +kernel
theorem dXM_next_63 : decode cXM_next 63 = .ok (.istore_n 1, 1) := by decide +kernel
theorem dXM_next_64 : decode cXM_next 64 = .ok (.aload_n 0, 1) := by decide +kernel
theorem dXM_next_65 : decode cXM_next 65 = .ok (.getfield 26, 3) := by decide +kernel
theorem dXM_next_68 : decode cXM_next 68 = .ok (.iconst 1, 1) := by decide +kernel
theorem dXM_next_69 : decode cXM_next 69 = .ok (.if_icmp .ne 18, 3) := by decide +kernel
theorem dXM_next_72 : decode cXM_next 72 = .ok (.aload_n 0, 1) := by decide +kernel
theorem dXM_next_73 : decode cXM_next 73 = .ok (.getfield 39, 3) := by decide +kernel
theorem dXM_next_76 : decode cXM_next 76 = .ok (.bipush 100, 2) := by decide +kernel
theorem dXM_next_78 : decode cXM_next 78 = .ok (.if_icmp .lt 7, 3) := by decide +kernel
theorem dXM_next_81 : decode cXM_next 81 = .ok (.iconst 1, 1) := by decide +kernel
theorem dXM_next_82 : decode cXM_next 82 = .ok (.goto 4, 3) := by decide +kernel
theorem dXM_next_85 : decode cXM_next 85 = .ok (.iconst 0, 1) := by decide +kernel
theorem dXM_next_86 : decode cXM_next 86 = .ok (.istore_n 1, 1) := by decide +kernel
theorem dXM_next_87 : decode cXM_next 87 = .ok (.aload_n 0, 1) := by decide +kernel
theorem dXM_next_88 : decode cXM_next 88 = .ok (.getfield 26, 3) := by decide +kernel
theorem dXM_next_91 : decode cXM_next 91 = .ok (.iconst 2, 1) := by decide +kernel
theorem dXM_next_92 : decode cXM_next 92 = .ok (.if_icmp .ne 16, 3) := by decide +kernel
theorem dXM_next_95 : decode cXM_next 95 = .ok (.aload_n 0, 1) := by decide +kernel
theorem dXM_next_96 : decode cXM_next 96 = .ok (.getfield 58, 3) := by decide +kernel
theorem dXM_next_99 : decode cXM_next 99 = .ok (.ifCond .ne 7, 3) := by decide +kernel
theorem dXM_next_102 : decode cXM_next 102 = .ok (.iconst 1, 1) := by decide +kernel
theorem dXM_next_103 : decode cXM_next 103 = .ok (.goto 4, 3) := by decide +kernel
theorem dXM_next_106 : decode cXM_next 106 = .ok (.iconst 0, 1) := by decide +kernel
theorem dXM_next_107 : decode cXM_next 107 = .ok (.istore_n 1, 1) := by decide +kernel
theorem dXM_next_108 : decode cXM_next 108 = .ok (.aload_n 0, 1) := by decide +kernel
theorem dXM_next_109 : decode cXM_next 109 = .ok (.getfield 26, 3) := by decide +kernel
theorem dXM_next_112 : decode cXM_next 112 = .ok (.iconst 4, 1) := by decide +kernel
theorem dXM_next_113 : decode cXM_next 113 = .ok (.if_icmp .ne 18, 3) := by decide +kernel
theorem dXM_next_116 : decode cXM_next 116 = .ok (.aload_n 0, 1) := by decide +kernel
theorem dXM_next_117 : decode cXM_next 117 = .ok (.getfield 39, 3) := by decide +kernel
theorem dXM_next_120 : decode cXM_next 120 = .ok (.bipush 50, 2) := by decide +kernel
theorem dXM_next_122 : decode cXM_next 122 = .ok (.if_icmp .lt 7, 3) := by decide +kernel
theorem dXM_next_125 : decode cXM_next 125 = .ok (.iconst 1, 1) := by decide +kernel
theorem dXM_next_126 : decode cXM_next 126 = .ok (.goto 4, 3) := by decide +kernel
theorem dXM_next_129 : decode cXM_next 129 = .ok (.iconst 0, 1) := by decide +kernel
theorem dXM_next_130 : decode cXM_next 130 = .ok (.istore_n 1, 1) := by decide +kernel
theorem dXM_next_131 : decode cXM_next 131 = .ok (.aload_n 0, 1) := by decide +kernel
theorem dXM_next_132 : decode cXM_next 132 = .ok (.getfield 26, 3) := by decide +kernel
theorem dXM_next_135 : decode cXM_next 135 = .ok (.iconst 5, 1) := by decide +kernel
theorem dXM_next_136 : decode cXM_next 136 = .ok (.if_icmp .ne 18, 3) := by decide +kernel
theorem dXM_next_139 : decode cXM_next 139 = .ok (.aload_n 0, 1) := by decide +kernel
theorem dXM_next_140 : decode cXM_next 140 = .ok (.getfield 39, 3) := by decide +kernel
theorem dXM_next_143 : decode cXM_next 143 = .ok (.bipush 30, 2) := by decide +kernel
theorem dXM_next_145 : decode cXM_next 145 = .ok (.if_icmp .lt 7, 3) := by decide +kernel
theorem dXM_next_148 : decode cXM_next 148 = .ok (.iconst 1, 1) := by decide +kernel
theorem dXM_next_149 : decode cXM_next 149 = .ok (.goto 4, 3) := by decide +kernel
theorem dXM_next_152 : decode cXM_next 152 = .ok (.iconst 0, 1) := by decide +kernel
theorem dXM_next_153 : decode cXM_next 153 = .ok (.istore_n 1, 1) := by decide +kernel
theorem dXM_next_154 : decode cXM_next 154 = .ok (.iload_n 1, 1) := by decide +kernel
theorem dXM_next_155 : decode cXM_next 155 = .ok (.ifCond .ne 5, 3) := by decide +kernel
theorem dXM_next_158 : decode cXM_next 158 = .ok (.iconst (-1), 1) := by decide +kernel
theorem dXM_next_159 : decode cXM_next 159 = .ok (.ireturn, 1) := by decide +kernel
theorem dXM_next_160 : decode cXM_next 160 = .ok (.aload_n 0, 1) := by decide +kernel
theorem dXM_next_161 : decode cXM_next 161 = .ok (.aload_n 0, 1) := by decide +kernel
theorem dXM_next_162 : decode cXM_next 162 = .ok (.getfield 26, 3) := by decide +kernel
theorem dXM_next_165 : decode cXM_next 165 = .ok (.bipush 6, 2) := by decide +kernel
theorem dXM_next_167 : decode cXM_next 167 = .ok (.if_icmp .ne 7, 3) := by decide +kernel
theorem dXM_next_170 : decode cXM_next 170 = .ok (.iconst 0, 1) := by decide +kernel
theorem dXM_next_171 : decode cXM_next 171 = .ok (.goto 9, 3) := by decide +kernel
theorem dXM_next_174 : decode cXM_next 174 = .ok (.aload_n 0, 1) := by decide +kernel
theorem dXM_next_175 : decode cXM_next 175 = .ok (.getfield 26, 3) := by decide +kernel
theorem dXM_next_178 : decode cXM_next 178 = .ok (.iconst 1, 1) := by decide +kernel
theorem dXM_next_179 : decode cXM_next 179 = .ok (.iadd, 1) := by decide +kernel
theorem dXM_next_180 : decode cXM_next 180 = .ok (.invokevirtual 61, 3) := by decide +kernel
theorem dXM_next_183 : decode cXM_next 183 = .ok (.aload_n 0, 1) := by decide +kernel
theorem dXM_next_184 : decode cXM_next 184 = .ok (.getfield 26, 3) := by decide +kernel
theorem dXM_next_187 : decode cXM_next 187 = .ok (.ireturn, 1) := by decide +kernel
theorem dXM_acknowledge_0 : decode cXM_acknowledge 0 = .ok (.aload_n 0, 1) := by decide +kernel
theorem dXM_acknowledge_1 : decode cXM_acknowledge 1 = .ok (.aload_n 0, 1) := by decide +kernel
theorem dXM_acknowledge_2 : decode cXM_acknowledge 2 = .ok (.getfield 58, 3) := by decide +kernel
theorem dXM_acknowledge_5 : decode cXM_acknowledge 5 = .ok (.aload_n 0, 1) := by decide +kernel
theorem dXM_acknowledge_6 : decode cXM_acknowledge 6 = .ok (.getfield 65, 3) := by decide +kernel
theorem dXM_acknowledge_9 : decode cXM_acknowledge 9 = .ok (.iand, 1) := by decide +kernel
theorem dXM_acknowledge_10 : decode cXM_acknowledge 10 = .ok (.putfield 58, 3) := by decide +kernel
theorem dXM_acknowledge_13 : decode cXM_acknowledge 13 = .ok (.aload_n 0, 1) := by decide +kernel
theorem dXM_acknowledge_14 : decode cXM_acknowledge 14 = .ok (.getfield 58, 3) := by decide +kernel
theorem dXM_acknowledge_17 : decode cXM_acknowledge 17 = .ok (.ireturn, 1) := by decide +kernel
theorem dXM_substitute_0 : decode cXM_substitute 0 = .ok (.iload_n 1, 1) := by decide +kernel
theorem dXM_substitute_1 : decode cXM_substitute 1 = .ok (.iconst (-1), 1) := by decide +kernel
theorem dXM_substitute_2 : decode cXM_substitute 2 = .ok (.if_icmp .lt 9, 3) := by decide +kernel
theorem dXM_substitute_5 : decode cXM_substitute 5 = .ok (.iload_n 1, 1) := by decide +kernel
theorem dXM_substitute_6 : decode cXM_substitute 6 = .ok (.bipush 15, 2) := by decide +kernel
theorem dXM_substitute_8 : decode cXM_substitute 8 = .ok (.if_icmp .le 5, 3) := by decide +kernel
theorem dXM_substitute_11 : decode cXM_substitute 11 = .ok (.iconst 0, 1) := by decide +kernel
theorem dXM_substitute_12 : decode cXM_substitute 12 = .ok (.ireturn, 1) := by decide +kernel
theorem dXM_substitute_13 : decode cXM_substitute 13 = .ok (.aload_n 0, 1) := by decide +kernel
theorem dXM_substitute_14 : decode cXM_substitute 14 = .ok (.iload_n 1, 1) := by decide +kernel
theorem dXM_substitute_15 : decode cXM_substitute 15 = .ok (.putfield 19, 3) := by decide +kernel
theorem dXM_substitute_18 : decode cXM_substitute 18 = .ok (.iconst 1, 1) := by decide +kernel
theorem dXM_substitute_19 : decode cXM_substitute 19 = .ok (.ireturn, 1) := by decide +kernel
theorem dXM_onPatient_0 : decode cXM_onPatient 0 = .ok (.aload_n 0, 1) := by decide +kernel
theorem dXM_onPatient_1 : decode cXM_onPatient 1 = .ok (.getfield 26, 3) := by decide +kernel
theorem dXM_onPatient_4 : decode cXM_onPatient 4 = .ok (.iconst 2, 1) := by decide +kernel
theorem dXM_onPatient_5 : decode cXM_onPatient 5 = .ok (.if_icmp .lt 15, 3) := by decide +kernel
theorem dXM_onPatient_8 : decode cXM_onPatient 8 = .ok (.aload_n 0, 1) := by decide +kernel
theorem dXM_onPatient_9 : decode cXM_onPatient 9 = .ok (.getfield 26, 3) := by decide +kernel
theorem dXM_onPatient_12 : decode cXM_onPatient 12 = .ok (.iconst 4, 1) := by decide +kernel
theorem dXM_onPatient_13 : decode cXM_onPatient 13 = .ok (.if_icmp .gt 7, 3) := by decide +kernel
theorem dXM_onPatient_16 : decode cXM_onPatient 16 = .ok (.iconst 1, 1) := by decide +kernel
theorem dXM_onPatient_17 : decode cXM_onPatient 17 = .ok (.goto 4, 3) := by decide +kernel
theorem dXM_onPatient_20 : decode cXM_onPatient 20 = .ok (.iconst 0, 1) := by decide +kernel
theorem dXM_onPatient_21 : decode cXM_onPatient 21 = .ok (.ireturn, 1) := by decide +kernel
theorem dXM_off_0 : decode cXM_off 0 = .ok (.aload_n 0, 1) := by decide +kernel
theorem dXM_off_1 : decode cXM_off 1 = .ok (.getfield 16, 3) := by decide +kernel
theorem dXM_off_4 : decode cXM_off 4 = .ok (.iconst 2, 1) := by decide +kernel
theorem dXM_off_5 : decode cXM_off 5 = .ok (.iaload, 1) := by decide +kernel
theorem dXM_off_6 : decode cXM_off 6 = .ok (.aload_n 0, 1) := by decide +kernel
theorem dXM_off_7 : decode cXM_off 7 = .ok (.getfield 7, 3) := by decide +kernel
theorem dXM_off_10 : decode cXM_off 10 = .ok (.iconst 4, 1) := by decide +kernel
theorem dXM_off_11 : decode cXM_off 11 = .ok (.iaload, 1) := by decide +kernel
theorem dXM_off_12 : decode cXM_off 12 = .ok (.isub, 1) := by decide +kernel
theorem dXM_off_13 : decode cXM_off 13 = .ok (.istore_n 1, 1) := by decide +kernel
theorem dXM_off_14 : decode cXM_off 14 = .ok (.aload_n 0, 1) := by decide +kernel
theorem dXM_off_15 : decode cXM_off 15 = .ok (.getfield 16, 3) := by decide +kernel
theorem dXM_off_18 : decode cXM_off 18 = .ok (.iconst 3, 1) := by decide +kernel
theorem dXM_off_19 : decode cXM_off 19 = .ok (.iaload, 1) := by decide +kernel
theorem dXM_off_20 : decode cXM_off 20 = .ok (.aload_n 0, 1) := by decide +kernel
theorem dXM_off_21 : decode cXM_off 21 = .ok (.getfield 7, 3) := by decide +kernel
theorem dXM_off_24 : decode cXM_off 24 = .ok (.iconst 5, 1) := by decide +kernel
theorem dXM_off_25 : decode cXM_off 25 = .ok (.iaload, 1) := by decide +kernel
theorem dXM_off_26 : decode cXM_off 26 = .ok (.isub, 1) := by decide +kernel
theorem dXM_off_27 : decode cXM_off 27 = .ok (.istore_n 2, 1) := by decide +kernel
theorem dXM_off_28 : decode cXM_off 28 = .ok (.iload_n 1, 1) := by decide +kernel
theorem dXM_off_29 : decode cXM_off 29 = .ok (.iconst 5, 1) := by decide +kernel
theorem dXM_off_30 : decode cXM_off 30 = .ok (.if_icmp .gt 21, 3) := by decide +kernel
theorem dXM_off_33 : decode cXM_off 33 = .ok (.iload_n 1, 1) := by decide +kernel
theorem dXM_off_34 : decode cXM_off 34 = .ok (.bipush (-5), 2) := by decide +kernel
theorem dXM_off_36 : decode cXM_off 36 = .ok (.if_icmp .lt 15, 3) := by decide +kernel
theorem dXM_off_39 : decode cXM_off 39 = .ok (.iload_n 2, 1) := by decide +kernel
theorem dXM_off_40 : decode cXM_off 40 = .ok (.bipush 40, 2) := by decide +kernel
theorem dXM_off_42 : decode cXM_off 42 = .ok (.if_icmp .gt 9, 3) := by decide +kernel
theorem dXM_off_45 : decode cXM_off 45 = .ok (.iload_n 2, 1) := by decide +kernel
theorem dXM_off_46 : decode cXM_off 46 = .ok (.bipush (-40), 2) := by decide +kernel
theorem dXM_off_48 : decode cXM_off 48 = .ok (.if_icmp .ge 7, 3) := by decide +kernel
theorem dXM_off_51 : decode cXM_off 51 = .ok (.iconst 1, 1) := by decide +kernel
theorem dXM_off_52 : decode cXM_off 52 = .ok (.goto 4, 3) := by decide +kernel
theorem dXM_off_55 : decode cXM_off 55 = .ok (.iconst 0, 1) := by decide +kernel
theorem dXM_off_56 : decode cXM_off 56 = .ok (.ireturn, 1) := by decide +kernel
theorem dXM_outside_0 : decode cXM_outside 0 = .ok (.iload_n 1, 1) := by decide +kernel
theorem dXM_outside_1 : decode cXM_outside 1 = .ok (.iload_n 2, 1) := by decide +kernel
theorem dXM_outside_2 : decode cXM_outside 2 = .ok (.if_icmp .lt 8, 3) := by decide +kernel
theorem dXM_outside_5 : decode cXM_outside 5 = .ok (.iload_n 1, 1) := by decide +kernel
theorem dXM_outside_6 : decode cXM_outside 6 = .ok (.iload_n 3, 1) := by decide +kernel
theorem dXM_outside_7 : decode cXM_outside 7 = .ok (.if_icmp .le 7, 3) := by decide +kernel
theorem dXM_outside_10 : decode cXM_outside 10 = .ok (.iconst 1, 1) := by decide +kernel
theorem dXM_outside_11 : decode cXM_outside 11 = .ok (.goto 4, 3) := by decide +kernel
theorem dXM_outside_14 : decode cXM_outside 14 = .ok (.iconst 0, 1) := by decide +kernel
theorem dXM_outside_15 : decode cXM_outside 15 = .ok (.ireturn, 1) := by decide +kernel
theorem dXM_condition_0 : decode cXM_condition 0 = .ok (.iconst 0, 1) := by decide +kernel
theorem dXM_condition_1 : decode cXM_condition 1 = .ok (.istore_n 1, 1) := by decide +kernel
theorem dXM_condition_2 : decode cXM_condition 2 = .ok (.iload_n 1, 1) := by decide +kernel
theorem dXM_condition_3 : decode cXM_condition 3 = .ok (.bipush 6, 2) := by decide +kernel
theorem dXM_condition_5 : decode cXM_condition 5 = .ok (.if_icmp .ge 39, 3) := by decide +kernel
theorem dXM_condition_8 : decode cXM_condition 8 = .ok (.aload_n 0, 1) := by decide +kernel
theorem dXM_condition_9 : decode cXM_condition 9 = .ok (.iload_n 1, 1) := by decide +kernel
theorem dXM_condition_10 : decode cXM_condition 10 = .ok (.invokevirtual 68, 3) := by decide +kernel
theorem dXM_condition_13 : decode cXM_condition 13 = .ok (.ifCond .eq 25, 3) := by decide +kernel
theorem dXM_condition_16 : decode cXM_condition 16 = .ok (.aload_n 0, 1) := by decide +kernel
theorem dXM_condition_17 : decode cXM_condition 17 = .ok (.getfield 16, 3) := by decide +kernel
theorem dXM_condition_20 : decode cXM_condition 20 = .ok (.iload_n 1, 1) := by decide +kernel
theorem dXM_condition_21 : decode cXM_condition 21 = .ok (.aload_n 0, 1) := by decide +kernel
theorem dXM_condition_22 : decode cXM_condition 22 = .ok (.getfield 13, 3) := by decide +kernel
theorem dXM_condition_25 : decode cXM_condition 25 = .ok (.iload_n 1, 1) := by decide +kernel
theorem dXM_condition_26 : decode cXM_condition 26 = .ok (.iaload, 1) := by decide +kernel
theorem dXM_condition_27 : decode cXM_condition 27 = .ok (.iastore, 1) := by decide +kernel
theorem dXM_condition_28 : decode cXM_condition 28 = .ok (.aload_n 0, 1) := by decide +kernel
theorem dXM_condition_29 : decode cXM_condition 29 = .ok (.getfield 23, 3) := by decide +kernel
theorem dXM_condition_32 : decode cXM_condition 32 = .ok (.iload_n 1, 1) := by decide +kernel
theorem dXM_condition_33 : decode cXM_condition 33 = .ok (.aload_n 0, 1) := by decide +kernel
theorem dXM_condition_34 : decode cXM_condition 34 = .ok (.getfield 36, 3) := by decide +kernel
theorem dXM_condition_37 : decode cXM_condition 37 = .ok (.iastore, 1) := by decide +kernel
theorem dXM_condition_38 : decode cXM_condition 38 = .ok (.iinc 1 1, 3) := by decide +kernel
theorem dXM_condition_41 : decode cXM_condition 41 = .ok (.goto (-39), 3) := by decide +kernel
theorem dXM_condition_44 : decode cXM_condition 44 = .ok (.aload_n 0, 1) := by decide +kernel
theorem dXM_condition_45 : decode cXM_condition 45 = .ok (.invokevirtual 72, 3) := by decide +kernel
theorem dXM_condition_48 : decode cXM_condition 48 = .ok (.ifCond .eq 30, 3) := by decide +kernel
theorem dXM_condition_51 : decode cXM_condition 51 = .ok (.aload_n 0, 1) := by decide +kernel
theorem dXM_condition_52 : decode cXM_condition 52 = .ok (.aload_n 0, 1) := by decide +kernel
theorem dXM_condition_53 : decode cXM_condition 53 = .ok (.getfield 16, 3) := by decide +kernel
theorem dXM_condition_56 : decode cXM_condition 56 = .ok (.iconst 0, 1) := by decide +kernel
theorem dXM_condition_57 : decode cXM_condition 57 = .ok (.iaload, 1) := by decide +kernel
theorem dXM_condition_58 : decode cXM_condition 58 = .ok (.aload_n 0, 1) := by decide +kernel
theorem dXM_condition_59 : decode cXM_condition 59 = .ok (.getfield 7, 3) := by decide +kernel
theorem dXM_condition_62 : decode cXM_condition 62 = .ok (.bipush 6, 2) := by decide +kernel
theorem dXM_condition_64 : decode cXM_condition 64 = .ok (.iaload, 1) := by decide +kernel
theorem dXM_condition_65 : decode cXM_condition 65 = .ok (.aload_n 0, 1) := by decide +kernel
theorem dXM_condition_66 : decode cXM_condition 66 = .ok (.getfield 7, 3) := by decide +kernel
theorem dXM_condition_69 : decode cXM_condition 69 = .ok (.bipush 7, 2) := by decide +kernel
theorem dXM_condition_71 : decode cXM_condition 71 = .ok (.iaload, 1) := by decide +kernel
theorem dXM_condition_72 : decode cXM_condition 72 = .ok (.invokevirtual 75, 3) := by decide +kernel
theorem dXM_condition_75 : decode cXM_condition 75 = .ok (.ifCond .ne 11, 3) := by decide +kernel
theorem dXM_condition_78 : decode cXM_condition 78 = .ok (.aload_n 0, 1) := by decide +kernel
theorem dXM_condition_79 : decode cXM_condition 79 = .ok (.aload_n 0, 1) := by decide +kernel
theorem dXM_condition_80 : decode cXM_condition 80 = .ok (.getfield 36, 3) := by decide +kernel
theorem dXM_condition_83 : decode cXM_condition 83 = .ok (.putfield 79, 3) := by decide +kernel
theorem dXM_condition_86 : decode cXM_condition 86 = .ok (.aload_n 0, 1) := by decide +kernel
theorem dXM_condition_87 : decode cXM_condition 87 = .ok (.invokevirtual 72, 3) := by decide +kernel
theorem dXM_condition_90 : decode cXM_condition 90 = .ok (.ifCond .eq 30, 3) := by decide +kernel
theorem dXM_condition_93 : decode cXM_condition 93 = .ok (.aload_n 0, 1) := by decide +kernel
theorem dXM_condition_94 : decode cXM_condition 94 = .ok (.aload_n 0, 1) := by decide +kernel
theorem dXM_condition_95 : decode cXM_condition 95 = .ok (.getfield 16, 3) := by decide +kernel
theorem dXM_condition_98 : decode cXM_condition 98 = .ok (.iconst 1, 1) := by decide +kernel
theorem dXM_condition_99 : decode cXM_condition 99 = .ok (.iaload, 1) := by decide +kernel
theorem dXM_condition_100 : decode cXM_condition 100 = .ok (.aload_n 0, 1) := by decide +kernel
theorem dXM_condition_101 : decode cXM_condition 101 = .ok (.getfield 7, 3) := by decide +kernel
theorem dXM_condition_104 : decode cXM_condition 104 = .ok (.bipush 8, 2) := by decide +kernel
theorem dXM_condition_106 : decode cXM_condition 106 = .ok (.iaload, 1) := by decide +kernel
theorem dXM_condition_107 : decode cXM_condition 107 = .ok (.aload_n 0, 1) := by decide +kernel
theorem dXM_condition_108 : decode cXM_condition 108 = .ok (.getfield 7, 3) := by decide +kernel
theorem dXM_condition_111 : decode cXM_condition 111 = .ok (.bipush 9, 2) := by decide +kernel
theorem dXM_condition_113 : decode cXM_condition 113 = .ok (.iaload, 1) := by decide +kernel
theorem dXM_condition_114 : decode cXM_condition 114 = .ok (.invokevirtual 75, 3) := by decide +kernel
theorem dXM_condition_117 : decode cXM_condition 117 = .ok (.ifCond .ne 11, 3) := by decide +kernel
theorem dXM_condition_120 : decode cXM_condition 120 = .ok (.aload_n 0, 1) := by decide +kernel
theorem dXM_condition_121 : decode cXM_condition 121 = .ok (.aload_n 0, 1) := by decide +kernel
theorem dXM_condition_122 : decode cXM_condition 122 = .ok (.getfield 36, 3) := by decide +kernel
theorem dXM_condition_125 : decode cXM_condition 125 = .ok (.putfield 82, 3) := by decide +kernel
theorem dXM_condition_128 : decode cXM_condition 128 = .ok (.aload_n 0, 1) := by decide +kernel
theorem dXM_condition_129 : decode cXM_condition 129 = .ok (.invokevirtual 85, 3) := by decide +kernel
theorem dXM_condition_132 : decode cXM_condition 132 = .ok (.ifCond .eq 14, 3) := by decide +kernel
theorem dXM_condition_135 : decode cXM_condition 135 = .ok (.aload_n 0, 1) := by decide +kernel
theorem dXM_condition_136 : decode cXM_condition 136 = .ok (.aload_n 0, 1) := by decide +kernel
theorem dXM_condition_137 : decode cXM_condition 137 = .ok (.getfield 36, 3) := by decide +kernel
theorem dXM_condition_140 : decode cXM_condition 140 = .ok (.putfield 55, 3) := by decide +kernel
theorem dXM_condition_143 : decode cXM_condition 143 = .ok (.goto 11, 3) := by decide +kernel
theorem dXM_condition_146 : decode cXM_condition 146 = .ok (.aload_n 0, 1) := by decide +kernel
theorem dXM_condition_147 : decode cXM_condition 147 = .ok (.aload_n 0, 1) := by decide +kernel
theorem dXM_condition_148 : decode cXM_condition 148 = .ok (.getfield 36, 3) := by decide +kernel
theorem dXM_condition_151 : decode cXM_condition 151 = .ok (.putfield 88, 3) := by decide +kernel
theorem dXM_condition_154 : decode cXM_condition 154 = .ok (.return_, 1) := by decide +kernel
theorem dXM_conditionsNow_0 : decode cXM_conditionsNow 0 = .ok (.aload_n 0, 1) := by decide +kernel
theorem dXM_conditionsNow_1 : decode cXM_conditionsNow 1 = .ok (.getfield 36, 3) := by decide +kernel
theorem dXM_conditionsNow_4 : decode cXM_conditionsNow 4 = .ok (.aload_n 0, 1) := by decide +kernel
theorem dXM_conditionsNow_5 : decode cXM_conditionsNow 5 = .ok (.getfield 79, 3) := by decide +kernel
theorem dXM_conditionsNow_8 : decode cXM_conditionsNow 8 = .ok (.isub, 1) := by decide +kernel
theorem dXM_conditionsNow_9 : decode cXM_conditionsNow 9 = .ok (.bipush 30, 2) := by decide +kernel
theorem dXM_conditionsNow_11 : decode cXM_conditionsNow 11 = .ok (.if_icmp .lt 7, 3) := by decide +kernel
theorem dXM_conditionsNow_14 : decode cXM_conditionsNow 14 = .ok (.iconst 1, 1) := by decide +kernel
theorem dXM_conditionsNow_15 : decode cXM_conditionsNow 15 = .ok (.goto 4, 3) := by decide +kernel
theorem dXM_conditionsNow_18 : decode cXM_conditionsNow 18 = .ok (.iconst 0, 1) := by decide +kernel
theorem dXM_conditionsNow_19 : decode cXM_conditionsNow 19 = .ok (.istore_n 1, 1) := by decide +kernel
theorem dXM_conditionsNow_20 : decode cXM_conditionsNow 20 = .ok (.aload_n 0, 1) := by decide +kernel
theorem dXM_conditionsNow_21 : decode cXM_conditionsNow 21 = .ok (.getfield 36, 3) := by decide +kernel
theorem dXM_conditionsNow_24 : decode cXM_conditionsNow 24 = .ok (.aload_n 0, 1) := by decide +kernel
theorem dXM_conditionsNow_25 : decode cXM_conditionsNow 25 = .ok (.getfield 82, 3) := by decide +kernel
theorem dXM_conditionsNow_28 : decode cXM_conditionsNow 28 = .ok (.isub, 1) := by decide +kernel
theorem dXM_conditionsNow_29 : decode cXM_conditionsNow 29 = .ok (.bipush 30, 2) := by decide +kernel
theorem dXM_conditionsNow_31 : decode cXM_conditionsNow 31 = .ok (.if_icmp .lt 9, 3) := by decide +kernel
theorem dXM_conditionsNow_34 : decode cXM_conditionsNow 34 = .ok (.iload_n 1, 1) := by decide +kernel
theorem dXM_conditionsNow_35 : decode cXM_conditionsNow 35 = .ok (.iconst 2, 1) := by decide +kernel
theorem dXM_conditionsNow_36 : decode cXM_conditionsNow 36 = .ok (.iadd, 1) := by decide +kernel
theorem dXM_conditionsNow_37 : decode cXM_conditionsNow 37 = .ok (.goto 4, 3) := by decide +kernel
theorem dXM_conditionsNow_40 : decode cXM_conditionsNow 40 = .ok (.iload_n 1, 1) := by decide +kernel
theorem dXM_conditionsNow_41 : decode cXM_conditionsNow 41 = .ok (.istore_n 1, 1) := by decide +kernel
theorem dXM_conditionsNow_42 : decode cXM_conditionsNow 42 = .ok (.aload_n 0, 1) := by decide +kernel
theorem dXM_conditionsNow_43 : decode cXM_conditionsNow 43 = .ok (.invokevirtual 72, 3) := by decide +kernel
theorem dXM_conditionsNow_46 : decode cXM_conditionsNow 46 = .ok (.ifCond .eq 19, 3) := by decide +kernel
theorem dXM_conditionsNow_49 : decode cXM_conditionsNow 49 = .ok (.aload_n 0, 1) := by decide +kernel
theorem dXM_conditionsNow_50 : decode cXM_conditionsNow 50 = .ok (.getfield 16, 3) := by decide +kernel
theorem dXM_conditionsNow_53 : decode cXM_conditionsNow 53 = .ok (.iconst 4, 1) := by decide +kernel
theorem dXM_conditionsNow_54 : decode cXM_conditionsNow 54 = .ok (.iaload, 1) := by decide +kernel
theorem dXM_conditionsNow_55 : decode cXM_conditionsNow 55 = .ok (.iconst 1, 1) := by decide +kernel
theorem dXM_conditionsNow_56 : decode cXM_conditionsNow 56 = .ok (.if_icmp .ne 9, 3) := by decide +kernel
theorem dXM_conditionsNow_59 : decode cXM_conditionsNow 59 = .ok (.iload_n 1, 1) := by decide +kernel
theorem dXM_conditionsNow_60 : decode cXM_conditionsNow 60 = .ok (.iconst 4, 1) := by decide +kernel
theorem dXM_conditionsNow_61 : decode cXM_conditionsNow 61 = .ok (.iadd, 1) := by decide +kernel
theorem dXM_conditionsNow_62 : decode cXM_conditionsNow 62 = .ok (.goto 4, 3) := by decide +kernel
theorem dXM_conditionsNow_65 : decode cXM_conditionsNow 65 = .ok (.iload_n 1, 1) := by decide +kernel
theorem dXM_conditionsNow_66 : decode cXM_conditionsNow 66 = .ok (.istore_n 1, 1) := by decide +kernel
theorem dXM_conditionsNow_67 : decode cXM_conditionsNow 67 = .ok (.aload_n 0, 1) := by decide +kernel
theorem dXM_conditionsNow_68 : decode cXM_conditionsNow 68 = .ok (.getfield 26, 3) := by decide +kernel
theorem dXM_conditionsNow_71 : decode cXM_conditionsNow 71 = .ok (.iconst 3, 1) := by decide +kernel
theorem dXM_conditionsNow_72 : decode cXM_conditionsNow 72 = .ok (.if_icmp .ne 20, 3) := by decide +kernel
theorem dXM_conditionsNow_75 : decode cXM_conditionsNow 75 = .ok (.aload_n 0, 1) := by decide +kernel
theorem dXM_conditionsNow_76 : decode cXM_conditionsNow 76 = .ok (.getfield 16, 3) := by decide +kernel
theorem dXM_conditionsNow_79 : decode cXM_conditionsNow 79 = .ok (.iconst 5, 1) := by decide +kernel
theorem dXM_conditionsNow_80 : decode cXM_conditionsNow 80 = .ok (.iaload, 1) := by decide +kernel
theorem dXM_conditionsNow_81 : decode cXM_conditionsNow 81 = .ok (.iconst 1, 1) := by decide +kernel
theorem dXM_conditionsNow_82 : decode cXM_conditionsNow 82 = .ok (.if_icmp .ne 10, 3) := by decide +kernel
theorem dXM_conditionsNow_85 : decode cXM_conditionsNow 85 = .ok (.iload_n 1, 1) := by decide +kernel
theorem dXM_conditionsNow_86 : decode cXM_conditionsNow 86 = .ok (.bipush 8, 2) := by decide +kernel
theorem dXM_conditionsNow_88 : decode cXM_conditionsNow 88 = .ok (.iadd, 1) := by decide +kernel
theorem dXM_conditionsNow_89 : decode cXM_conditionsNow 89 = .ok (.goto 4, 3) := by decide +kernel
theorem dXM_conditionsNow_92 : decode cXM_conditionsNow 92 = .ok (.iload_n 1, 1) := by decide +kernel
theorem dXM_conditionsNow_93 : decode cXM_conditionsNow 93 = .ok (.istore_n 1, 1) := by decide +kernel
theorem dXM_conditionsNow_94 : decode cXM_conditionsNow 94 = .ok (.aload_n 0, 1) := by decide +kernel
theorem dXM_conditionsNow_95 : decode cXM_conditionsNow 95 = .ok (.getfield 36, 3) := by decide +kernel
theorem dXM_conditionsNow_98 : decode cXM_conditionsNow 98 = .ok (.aload_n 0, 1) := by decide +kernel
theorem dXM_conditionsNow_99 : decode cXM_conditionsNow 99 = .ok (.getfield 88, 3) := by decide +kernel
theorem dXM_conditionsNow_102 : decode cXM_conditionsNow 102 = .ok (.isub, 1) := by decide +kernel
theorem dXM_conditionsNow_103 : decode cXM_conditionsNow 103 = .ok (.sipush 600, 3) := by decide +kernel
theorem dXM_conditionsNow_106 : decode cXM_conditionsNow 106 = .ok (.if_icmp .lt 10, 3) := by decide +kernel
theorem dXM_conditionsNow_109 : decode cXM_conditionsNow 109 = .ok (.iload_n 1, 1) := by decide +kernel
theorem dXM_conditionsNow_110 : decode cXM_conditionsNow 110 = .ok (.bipush 16, 2) := by decide +kernel
theorem dXM_conditionsNow_112 : decode cXM_conditionsNow 112 = .ok (.iadd, 1) := by decide +kernel
theorem dXM_conditionsNow_113 : decode cXM_conditionsNow 113 = .ok (.goto 4, 3) := by decide +kernel
theorem dXM_conditionsNow_116 : decode cXM_conditionsNow 116 = .ok (.iload_n 1, 1) := by decide +kernel
theorem dXM_conditionsNow_117 : decode cXM_conditionsNow 117 = .ok (.istore_n 1, 1) := by decide +kernel
theorem dXM_conditionsNow_118 : decode cXM_conditionsNow 118 = .ok (.iconst 0, 1) := by decide +kernel
theorem dXM_conditionsNow_119 : decode cXM_conditionsNow 119 = .ok (.istore_n 2, 1) := by decide +kernel
theorem dXM_conditionsNow_120 : decode cXM_conditionsNow 120 = .ok (.iconst 0, 1) := by decide +kernel
theorem dXM_conditionsNow_121 : decode cXM_conditionsNow 121 = .ok (.istore_n 3, 1) := by decide +kernel
theorem dXM_conditionsNow_122 : decode cXM_conditionsNow 122 = .ok (.iload_n 3, 1) := by decide +kernel
theorem dXM_conditionsNow_123 : decode cXM_conditionsNow 123 = .ok (.bipush 6, 2) := by decide +kernel
theorem dXM_conditionsNow_125 : decode cXM_conditionsNow 125 = .ok (.if_icmp .ge 27, 3) := by decide +kernel
theorem dXM_conditionsNow_128 : decode cXM_conditionsNow 128 = .ok (.iload_n 2, 1) := by decide +kernel
theorem dXM_conditionsNow_129 : decode cXM_conditionsNow 129 = .ok (.ifCond .ne 11, 3) := by decide +kernel
theorem dXM_conditionsNow_132 : decode cXM_conditionsNow 132 = .ok (.aload_n 0, 1) := by decide +kernel
theorem dXM_conditionsNow_133 : decode cXM_conditionsNow 133 = .ok (.iload_n 3, 1) := by decide +kernel
theorem dXM_conditionsNow_134 : decode cXM_conditionsNow 134 = .ok (.invokevirtual 91, 3) := by decide +kernel
theorem dXM_conditionsNow_137 : decode cXM_conditionsNow 137 = .ok (.ifCond .eq 7, 3) := by decide +kernel
theorem dXM_conditionsNow_140 : decode cXM_conditionsNow 140 = .ok (.iconst 1, 1) := by decide +kernel
theorem dXM_conditionsNow_141 : decode cXM_conditionsNow 141 = .ok (.goto 4, 3) := by decide +kernel
theorem dXM_conditionsNow_144 : decode cXM_conditionsNow 144 = .ok (.iconst 0, 1) := by decide +kernel
theorem dXM_conditionsNow_145 : decode cXM_conditionsNow 145 = .ok (.istore_n 2, 1) := by decide +kernel
theorem dXM_conditionsNow_146 : decode cXM_conditionsNow 146 = .ok (.iinc 3 1, 3) := by decide +kernel
theorem dXM_conditionsNow_149 : decode cXM_conditionsNow 149 = .ok (.goto (-27), 3) := by decide +kernel
theorem dXM_conditionsNow_152 : decode cXM_conditionsNow 152 = .ok (.iload_n 2, 1) := by decide +kernel
theorem dXM_conditionsNow_153 : decode cXM_conditionsNow 153 = .ok (.ifCond .eq 10, 3) := by decide +kernel
theorem dXM_conditionsNow_156 : decode cXM_conditionsNow 156 = .ok (.iload_n 1, 1) := by decide +kernel
theorem dXM_conditionsNow_157 : decode cXM_conditionsNow 157 = .ok (.bipush 32, 2) := by decide +kernel
theorem dXM_conditionsNow_159 : decode cXM_conditionsNow 159 = .ok (.iadd, 1) := by decide +kernel
theorem dXM_conditionsNow_160 : decode cXM_conditionsNow 160 = .ok (.goto 4, 3) := by decide +kernel
theorem dXM_conditionsNow_163 : decode cXM_conditionsNow 163 = .ok (.iload_n 1, 1) := by decide +kernel
theorem dXM_conditionsNow_164 : decode cXM_conditionsNow 164 = .ok (.ireturn, 1) := by decide +kernel
theorem dXM_commands_0 : decode cXM_commands 0 = .ok (.aload_n 0, 1) := by decide +kernel
theorem dXM_commands_1 : decode cXM_commands 1 = .ok (.getfield 26, 3) := by decide +kernel
theorem dXM_commands_4 : decode cXM_commands 4 = .ok (.iconst 1, 1) := by decide +kernel
theorem dXM_commands_5 : decode cXM_commands 5 = .ok (.if_icmp .lt 15, 3) := by decide +kernel
theorem dXM_commands_8 : decode cXM_commands 8 = .ok (.aload_n 0, 1) := by decide +kernel
theorem dXM_commands_9 : decode cXM_commands 9 = .ok (.getfield 26, 3) := by decide +kernel
theorem dXM_commands_12 : decode cXM_commands 12 = .ok (.iconst 4, 1) := by decide +kernel
theorem dXM_commands_13 : decode cXM_commands 13 = .ok (.if_icmp .gt 7, 3) := by decide +kernel
theorem dXM_commands_16 : decode cXM_commands 16 = .ok (.iconst 1, 1) := by decide +kernel
theorem dXM_commands_17 : decode cXM_commands 17 = .ok (.goto 4, 3) := by decide +kernel
theorem dXM_commands_20 : decode cXM_commands 20 = .ok (.iconst 0, 1) := by decide +kernel
theorem dXM_commands_21 : decode cXM_commands 21 = .ok (.istore_n 1, 1) := by decide +kernel
theorem dXM_commands_22 : decode cXM_commands 22 = .ok (.iload_n 1, 1) := by decide +kernel
theorem dXM_commands_23 : decode cXM_commands 23 = .ok (.ifCond .eq 17, 3) := by decide +kernel
theorem dXM_commands_26 : decode cXM_commands 26 = .ok (.aload_n 0, 1) := by decide +kernel
theorem dXM_commands_27 : decode cXM_commands 27 = .ok (.getfield 58, 3) := by decide +kernel
theorem dXM_commands_30 : decode cXM_commands 30 = .ok (.bipush (-17), 2) := by decide +kernel
theorem dXM_commands_32 : decode cXM_commands 32 = .ok (.iand, 1) := by decide +kernel
theorem dXM_commands_33 : decode cXM_commands 33 = .ok (.ifCond .ne 7, 3) := by decide +kernel
theorem dXM_commands_36 : decode cXM_commands 36 = .ok (.iconst 1, 1) := by decide +kernel
theorem dXM_commands_37 : decode cXM_commands 37 = .ok (.goto 4, 3) := by decide +kernel
theorem dXM_commands_40 : decode cXM_commands 40 = .ok (.iconst 0, 1) := by decide +kernel
theorem dXM_commands_41 : decode cXM_commands 41 = .ok (.istore_n 2, 1) := by decide +kernel
theorem dXM_commands_42 : decode cXM_commands 42 = .ok (.iload_n 1, 1) := by decide +kernel
theorem dXM_commands_43 : decode cXM_commands 43 = .ok (.ifCond .eq 19, 3) := by decide +kernel
theorem dXM_commands_46 : decode cXM_commands 46 = .ok (.aload_n 0, 1) := by decide +kernel
