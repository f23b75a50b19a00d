theorem d_T_hullOf_70 : decode b_T_hullOf 70 = .ok (.aload_n 0, 1) := by decide +kernel
theorem d_T_hullOf_71 : decode b_T_hullOf 71 = .ok (.iload_n 2, 1) := by decide +kernel
theorem d_T_hullOf_72 : decode b_T_hullOf 72 = .ok (.ifCond .eq 24, 3) := by decide +kernel
theorem d_T_hullOf_75 : decode b_T_hullOf 75 = .ok (.aload_n 0, 1) := by decide +kernel
theorem d_T_hullOf_76 : decode b_T_hullOf 76 = .ok (.getfield 138, 3) := by decide +kernel
theorem d_T_hullOf_79 : decode b_T_hullOf 79 = .ok (.aload_n 0, 1) := by decide +kernel
theorem d_T_hullOf_80 : decode b_T_hullOf 80 = .ok (.getfield 51, 3) := by decide +kernel
theorem d_T_hullOf_83 : decode b_T_hullOf 83 = .ok (.iload_n 3, 1) := by decide +kernel
theorem d_T_hullOf_84 : decode b_T_hullOf 84 = .ok (.laload, 1) := by decide +kernel
theorem d_T_hullOf_85 : decode b_T_hullOf 85 = .ok (.lcmp, 1) := by decide +kernel
theorem d_T_hullOf_86 : decode b_T_hullOf 86 = .ok (.ifCond .le 10, 3) := by decide +kernel
theorem d_T_hullOf_89 : decode b_T_hullOf 89 = .ok (.aload_n 0, 1) := by decide +kernel
theorem d_T_hullOf_90 : decode b_T_hullOf 90 = .ok (.getfield 138, 3) := by decide +kernel
theorem d_T_hullOf_93 : decode b_T_hullOf 93 = .ok (.goto 9, 3) := by decide +kernel
theorem d_T_hullOf_96 : decode b_T_hullOf 96 = .ok (.aload_n 0, 1) := by decide +kernel
theorem d_T_hullOf_97 : decode b_T_hullOf 97 = .ok (.getfield 51, 3) := by decide +kernel
theorem d_T_hullOf_100 : decode b_T_hullOf 100 = .ok (.iload_n 3, 1) := by decide +kernel
theorem d_T_hullOf_101 : decode b_T_hullOf 101 = .ok (.laload, 1) := by decide +kernel
theorem d_T_hullOf_102 : decode b_T_hullOf 102 = .ok (.putfield 138, 3) := by decide +kernel
theorem d_T_hullOf_105 : decode b_T_hullOf 105 = .ok (.iconst 1, 1) := by decide +kernel
theorem d_T_hullOf_106 : decode b_T_hullOf 106 = .ok (.istore_n 2, 1) := by decide +kernel
theorem d_T_hullOf_107 : decode b_T_hullOf 107 = .ok (.aload_n 0, 1) := by decide +kernel
theorem d_T_hullOf_108 : decode b_T_hullOf 108 = .ok (.getfield 57, 3) := by decide +kernel
theorem d_T_hullOf_111 : decode b_T_hullOf 111 = .ok (.iload_n 3, 1) := by decide +kernel
theorem d_T_hullOf_112 : decode b_T_hullOf 112 = .ok (.baload, 1) := by decide +kernel
theorem d_T_hullOf_113 : decode b_T_hullOf 113 = .ok (.ifCond .eq 89, 3) := by decide +kernel
theorem d_T_hullOf_116 : decode b_T_hullOf 116 = .ok (.aload_n 0, 1) := by decide +kernel
theorem d_T_hullOf_117 : decode b_T_hullOf 117 = .ok (.aload_n 0, 1) := by decide +kernel
theorem d_T_hullOf_118 : decode b_T_hullOf 118 = .ok (.getfield 54, 3) := by decide +kernel
theorem d_T_hullOf_121 : decode b_T_hullOf 121 = .ok (.iload_n 3, 1) := by decide +kernel
theorem d_T_hullOf_122 : decode b_T_hullOf 122 = .ok (.laload, 1) := by decide +kernel
theorem d_T_hullOf_123 : decode b_T_hullOf 123 = .ok (.invokevirtual 131, 3) := by decide +kernel
theorem d_T_hullOf_126 : decode b_T_hullOf 126 = .ok (.iload_n 1, 1) := by decide +kernel
theorem d_T_hullOf_127 : decode b_T_hullOf 127 = .ok (.if_icmp .lt 75, 3) := by decide +kernel
theorem d_T_hullOf_130 : decode b_T_hullOf 130 = .ok (.aload_n 0, 1) := by decide +kernel
theorem d_T_hullOf_131 : decode b_T_hullOf 131 = .ok (.iload_n 2, 1) := by decide +kernel
theorem d_T_hullOf_132 : decode b_T_hullOf 132 = .ok (.ifCond .eq 24, 3) := by decide +kernel
theorem d_T_hullOf_135 : decode b_T_hullOf 135 = .ok (.aload_n 0, 1) := by decide +kernel
theorem d_T_hullOf_136 : decode b_T_hullOf 136 = .ok (.getfield 135, 3) := by decide +kernel
theorem d_T_hullOf_139 : decode b_T_hullOf 139 = .ok (.aload_n 0, 1) := by decide +kernel
theorem d_T_hullOf_140 : decode b_T_hullOf 140 = .ok (.getfield 54, 3) := by decide +kernel
theorem d_T_hullOf_143 : decode b_T_hullOf 143 = .ok (.iload_n 3, 1) := by decide +kernel
theorem d_T_hullOf_144 : decode b_T_hullOf 144 = .ok (.laload, 1) := by decide +kernel
theorem d_T_hullOf_145 : decode b_T_hullOf 145 = .ok (.lcmp, 1) := by decide +kernel
theorem d_T_hullOf_146 : decode b_T_hullOf 146 = .ok (.ifCond .ge 10, 3) := by decide +kernel
theorem d_T_hullOf_149 : decode b_T_hullOf 149 = .ok (.aload_n 0, 1) := by decide +kernel
theorem d_T_hullOf_150 : decode b_T_hullOf 150 = .ok (.getfield 135, 3) := by decide +kernel
theorem d_T_hullOf_153 : decode b_T_hullOf 153 = .ok (.goto 9, 3) := by decide +kernel
theorem d_T_hullOf_156 : decode b_T_hullOf 156 = .ok (.aload_n 0, 1) := by decide +kernel
theorem d_T_hullOf_157 : decode b_T_hullOf 157 = .ok (.getfield 54, 3) := by decide +kernel
theorem d_T_hullOf_160 : decode b_T_hullOf 160 = .ok (.iload_n 3, 1) := by decide +kernel
theorem d_T_hullOf_161 : decode b_T_hullOf 161 = .ok (.laload, 1) := by decide +kernel
theorem d_T_hullOf_162 : decode b_T_hullOf 162 = .ok (.putfield 135, 3) := by decide +kernel
theorem d_T_hullOf_165 : decode b_T_hullOf 165 = .ok (.aload_n 0, 1) := by decide +kernel
theorem d_T_hullOf_166 : decode b_T_hullOf 166 = .ok (.iload_n 2, 1) := by decide +kernel
theorem d_T_hullOf_167 : decode b_T_hullOf 167 = .ok (.ifCond .eq 24, 3) := by decide +kernel
theorem d_T_hullOf_170 : decode b_T_hullOf 170 = .ok (.aload_n 0, 1) := by decide +kernel
theorem d_T_hullOf_171 : decode b_T_hullOf 171 = .ok (.getfield 138, 3) := by decide +kernel
theorem d_T_hullOf_174 : decode b_T_hullOf 174 = .ok (.aload_n 0, 1) := by decide +kernel
theorem d_T_hullOf_175 : decode b_T_hullOf 175 = .ok (.getfield 54, 3) := by decide +kernel
theorem d_T_hullOf_178 : decode b_T_hullOf 178 = .ok (.iload_n 3, 1) := by decide +kernel
theorem d_T_hullOf_179 : decode b_T_hullOf 179 = .ok (.laload, 1) := by decide +kernel
theorem d_T_hullOf_180 : decode b_T_hullOf 180 = .ok (.lcmp, 1) := by decide +kernel
theorem d_T_hullOf_181 : decode b_T_hullOf 181 = .ok (.ifCond .le 10, 3) := by decide +kernel
theorem d_T_hullOf_184 : decode b_T_hullOf 184 = .ok (.aload_n 0, 1) := by decide +kernel
theorem d_T_hullOf_185 : decode b_T_hullOf 185 = .ok (.getfield 138, 3) := by decide +kernel
theorem d_T_hullOf_188 : decode b_T_hullOf 188 = .ok (.goto 9, 3) := by decide +kernel
theorem d_T_hullOf_191 : decode b_T_hullOf 191 = .ok (.aload_n 0, 1) := by decide +kernel
theorem d_T_hullOf_192 : decode b_T_hullOf 192 = .ok (.getfield 54, 3) := by decide +kernel
theorem d_T_hullOf_195 : decode b_T_hullOf 195 = .ok (.iload_n 3, 1) := by decide +kernel
theorem d_T_hullOf_196 : decode b_T_hullOf 196 = .ok (.laload, 1) := by decide +kernel
theorem d_T_hullOf_197 : decode b_T_hullOf 197 = .ok (.putfield 138, 3) := by decide +kernel
theorem d_T_hullOf_200 : decode b_T_hullOf 200 = .ok (.iconst 1, 1) := by decide +kernel
theorem d_T_hullOf_201 : decode b_T_hullOf 201 = .ok (.istore_n 2, 1) := by decide +kernel
theorem d_T_hullOf_202 : decode b_T_hullOf 202 = .ok (.iinc 3 1, 3) := by decide +kernel
theorem d_T_hullOf_205 : decode b_T_hullOf 205 = .ok (.goto (-201), 3) := by decide +kernel
theorem d_T_hullOf_208 : decode b_T_hullOf 208 = .ok (.iload_n 2, 1) := by decide +kernel
theorem d_T_hullOf_209 : decode b_T_hullOf 209 = .ok (.ireturn, 1) := by decide +kernel
theorem d_T_middle_0 : decode b_T_middle 0 = .ok (.aload_n 0, 1) := by decide +kernel
theorem d_T_middle_1 : decode b_T_middle 1 = .ok (.getfield 51, 3) := by decide +kernel
theorem d_T_middle_4 : decode b_T_middle 4 = .ok (.iload_n 1, 1) := by decide +kernel
theorem d_T_middle_5 : decode b_T_middle 5 = .ok (.laload, 1) := by decide +kernel
theorem d_T_middle_6 : decode b_T_middle 6 = .ok (.aload_n 0, 1) := by decide +kernel
theorem d_T_middle_7 : decode b_T_middle 7 = .ok (.getfield 54, 3) := by decide +kernel
theorem d_T_middle_10 : decode b_T_middle 10 = .ok (.iload_n 1, 1) := by decide +kernel
theorem d_T_middle_11 : decode b_T_middle 11 = .ok (.laload, 1) := by decide +kernel
theorem d_T_middle_12 : decode b_T_middle 12 = .ok (.ladd, 1) := by decide +kernel
theorem d_T_middle_13 : decode b_T_middle 13 = .ok (.ldc2_w 141, 3) := by decide +kernel
theorem d_T_middle_16 : decode b_T_middle 16 = .ok (.invokestatic 143, 3) := by decide +kernel
theorem d_T_middle_19 : decode b_T_middle 19 = .ok (.lreturn, 1) := by decide +kernel
theorem d_T_far_0 : decode b_T_far 0 = .ok (.lconst 0, 1) := by decide +kernel
theorem d_T_far_1 : decode b_T_far 1 = .ok (.lstore_n 2, 1) := by decide +kernel
theorem d_T_far_2 : decode b_T_far 2 = .ok (.iconst 0, 1) := by decide +kernel
theorem d_T_far_3 : decode b_T_far 3 = .ok (.istore 4, 2) := by decide +kernel
theorem d_T_far_5 : decode b_T_far 5 = .ok (.iload 4, 2) := by decide +kernel
theorem d_T_far_7 : decode b_T_far 7 = .ok (.aload_n 0, 1) := by decide +kernel
theorem d_T_far_8 : decode b_T_far 8 = .ok (.getfield 73, 3) := by decide +kernel
theorem d_T_far_11 : decode b_T_far 11 = .ok (.if_icmp .ge 51, 3) := by decide +kernel
theorem d_T_far_14 : decode b_T_far 14 = .ok (.aload_n 0, 1) := by decide +kernel
theorem d_T_far_15 : decode b_T_far 15 = .ok (.getfield 57, 3) := by decide +kernel
theorem d_T_far_18 : decode b_T_far 18 = .ok (.iload 4, 2) := by decide +kernel
theorem d_T_far_20 : decode b_T_far 20 = .ok (.baload, 1) := by decide +kernel
theorem d_T_far_21 : decode b_T_far 21 = .ok (.ifCond .eq 35, 3) := by decide +kernel
theorem d_T_far_24 : decode b_T_far 24 = .ok (.aload_n 0, 1) := by decide +kernel
theorem d_T_far_25 : decode b_T_far 25 = .ok (.iload 4, 2) := by decide +kernel
theorem d_T_far_27 : decode b_T_far 27 = .ok (.invokevirtual 146, 3) := by decide +kernel
theorem d_T_far_30 : decode b_T_far 30 = .ok (.aload_n 0, 1) := by decide +kernel
theorem d_T_far_31 : decode b_T_far 31 = .ok (.iload_n 1, 1) := by decide +kernel
theorem d_T_far_32 : decode b_T_far 32 = .ok (.invokevirtual 146, 3) := by decide +kernel
theorem d_T_far_35 : decode b_T_far 35 = .ok (.lsub, 1) := by decide +kernel
theorem d_T_far_36 : decode b_T_far 36 = .ok (.lstore 5, 2) := by decide +kernel
theorem d_T_far_38 : decode b_T_far 38 = .ok (.lload_n 2, 1) := by decide +kernel
theorem d_T_far_39 : decode b_T_far 39 = .ok (.lload 5, 2) := by decide +kernel
theorem d_T_far_41 : decode b_T_far 41 = .ok (.lconst 0, 1) := by decide +kernel
theorem d_T_far_42 : decode b_T_far 42 = .ok (.lcmp, 1) := by decide +kernel
theorem d_T_far_43 : decode b_T_far 43 = .ok (.ifCond .ge 9, 3) := by decide +kernel
theorem d_T_far_46 : decode b_T_far 46 = .ok (.lload 5, 2) := by decide +kernel
theorem d_T_far_48 : decode b_T_far 48 = .ok (.lneg, 1) := by decide +kernel
theorem d_T_far_49 : decode b_T_far 49 = .ok (.goto 5, 3) := by decide +kernel
theorem d_T_far_52 : decode b_T_far 52 = .ok (.lload 5, 2) := by decide +kernel
theorem d_T_far_54 : decode b_T_far 54 = .ok (.ladd, 1) := by decide +kernel
theorem d_T_far_55 : decode b_T_far 55 = .ok (.lstore_n 2, 1) := by decide +kernel
theorem d_T_far_56 : decode b_T_far 56 = .ok (.iinc 4 1, 3) := by decide +kernel
theorem d_T_far_59 : decode b_T_far 59 = .ok (.goto (-54), 3) := by decide +kernel
theorem d_T_far_62 : decode b_T_far 62 = .ok (.lload_n 2, 1) := by decide +kernel
theorem d_T_far_63 : decode b_T_far 63 = .ok (.lreturn, 1) := by decide +kernel
theorem d_T_leave_0 : decode b_T_leave 0 = .ok (.iconst (-1), 1) := by decide +kernel
theorem d_T_leave_1 : decode b_T_leave 1 = .ok (.istore_n 1, 1) := by decide +kernel
theorem d_T_leave_2 : decode b_T_leave 2 = .ok (.ldc2_w 150, 3) := by decide +kernel
theorem d_T_leave_5 : decode b_T_leave 5 = .ok (.lstore_n 2, 1) := by decide +kernel
theorem d_T_leave_6 : decode b_T_leave 6 = .ok (.iconst 0, 1) := by decide +kernel
theorem d_T_leave_7 : decode b_T_leave 7 = .ok (.istore 4, 2) := by decide +kernel
theorem d_T_leave_9 : decode b_T_leave 9 = .ok (.iload 4, 2) := by decide +kernel
theorem d_T_leave_11 : decode b_T_leave 11 = .ok (.aload_n 0, 1) := by decide +kernel
theorem d_T_leave_12 : decode b_T_leave 12 = .ok (.getfield 73, 3) := by decide +kernel
theorem d_T_leave_15 : decode b_T_leave 15 = .ok (.if_icmp .ge 56, 3) := by decide +kernel
theorem d_T_leave_18 : decode b_T_leave 18 = .ok (.aload_n 0, 1) := by decide +kernel
theorem d_T_leave_19 : decode b_T_leave 19 = .ok (.getfield 57, 3) := by decide +kernel
theorem d_T_leave_22 : decode b_T_leave 22 = .ok (.iload 4, 2) := by decide +kernel
theorem d_T_leave_24 : decode b_T_leave 24 = .ok (.baload, 1) := by decide +kernel
theorem d_T_leave_25 : decode b_T_leave 25 = .ok (.ifCond .eq 12, 3) := by decide +kernel
theorem d_T_leave_28 : decode b_T_leave 28 = .ok (.aload_n 0, 1) := by decide +kernel
theorem d_T_leave_29 : decode b_T_leave 29 = .ok (.iload 4, 2) := by decide +kernel
theorem d_T_leave_31 : decode b_T_leave 31 = .ok (.invokevirtual 152, 3) := by decide +kernel
theorem d_T_leave_34 : decode b_T_leave 34 = .ok (.goto 6, 3) := by decide +kernel
theorem d_T_leave_37 : decode b_T_leave 37 = .ok (.ldc2_w 150, 3) := by decide +kernel
theorem d_T_leave_40 : decode b_T_leave 40 = .ok (.lstore 5, 2) := by decide +kernel
theorem d_T_leave_42 : decode b_T_leave 42 = .ok (.aload_n 0, 1) := by decide +kernel
theorem d_T_leave_43 : decode b_T_leave 43 = .ok (.getfield 57, 3) := by decide +kernel
theorem d_T_leave_46 : decode b_T_leave 46 = .ok (.iload 4, 2) := by decide +kernel
theorem d_T_leave_48 : decode b_T_leave 48 = .ok (.baload, 1) := by decide +kernel
theorem d_T_leave_49 : decode b_T_leave 49 = .ok (.ifCond .eq 16, 3) := by decide +kernel
theorem d_T_leave_52 : decode b_T_leave 52 = .ok (.lload 5, 2) := by decide +kernel
theorem d_T_leave_54 : decode b_T_leave 54 = .ok (.lload_n 2, 1) := by decide +kernel
theorem d_T_leave_55 : decode b_T_leave 55 = .ok (.lcmp, 1) := by decide +kernel
theorem d_T_leave_56 : decode b_T_leave 56 = .ok (.ifCond .lt 9, 3) := by decide +kernel
theorem d_T_leave_59 : decode b_T_leave 59 = .ok (.lload 5, 2) := by decide +kernel
theorem d_T_leave_61 : decode b_T_leave 61 = .ok (.lstore_n 2, 1) := by decide +kernel
theorem d_T_leave_62 : decode b_T_leave 62 = .ok (.iload 4, 2) := by decide +kernel
theorem d_T_leave_64 : decode b_T_leave 64 = .ok (.istore_n 1, 1) := by decide +kernel
