theorem d_T_reply_123 : decode b_T_reply 123 = .ok (.aload_n 0, 1) := by decide +kernel
theorem d_T_reply_124 : decode b_T_reply 124 = .ok (.getfield 36, 3) := by decide +kernel
theorem d_T_reply_127 : decode b_T_reply 127 = .ok (.iload 10, 2) := by decide +kernel
theorem d_T_reply_129 : decode b_T_reply 129 = .ok (.aload_n 0, 1) := by decide +kernel
theorem d_T_reply_130 : decode b_T_reply 130 = .ok (.getfield 36, 3) := by decide +kernel
theorem d_T_reply_133 : decode b_T_reply 133 = .ok (.iload 10, 2) := by decide +kernel
theorem d_T_reply_135 : decode b_T_reply 135 = .ok (.iconst 1, 1) := by decide +kernel
theorem d_T_reply_136 : decode b_T_reply 136 = .ok (.isub, 1) := by decide +kernel
theorem d_T_reply_137 : decode b_T_reply 137 = .ok (.laload, 1) := by decide +kernel
theorem d_T_reply_138 : decode b_T_reply 138 = .ok (.lastore, 1) := by decide +kernel
theorem d_T_reply_139 : decode b_T_reply 139 = .ok (.aload_n 0, 1) := by decide +kernel
theorem d_T_reply_140 : decode b_T_reply 140 = .ok (.getfield 39, 3) := by decide +kernel
theorem d_T_reply_143 : decode b_T_reply 143 = .ok (.iload 10, 2) := by decide +kernel
theorem d_T_reply_145 : decode b_T_reply 145 = .ok (.aload_n 0, 1) := by decide +kernel
theorem d_T_reply_146 : decode b_T_reply 146 = .ok (.getfield 39, 3) := by decide +kernel
theorem d_T_reply_149 : decode b_T_reply 149 = .ok (.iload 10, 2) := by decide +kernel
theorem d_T_reply_151 : decode b_T_reply 151 = .ok (.iconst 1, 1) := by decide +kernel
theorem d_T_reply_152 : decode b_T_reply 152 = .ok (.isub, 1) := by decide +kernel
theorem d_T_reply_153 : decode b_T_reply 153 = .ok (.laload, 1) := by decide +kernel
theorem d_T_reply_154 : decode b_T_reply 154 = .ok (.lastore, 1) := by decide +kernel
theorem d_T_reply_155 : decode b_T_reply 155 = .ok (.iinc 10 (-1), 3) := by decide +kernel
theorem d_T_reply_158 : decode b_T_reply 158 = .ok (.goto (-60), 3) := by decide +kernel
theorem d_T_reply_161 : decode b_T_reply 161 = .ok (.aload_n 0, 1) := by decide +kernel
theorem d_T_reply_162 : decode b_T_reply 162 = .ok (.getfield 33, 3) := by decide +kernel
theorem d_T_reply_165 : decode b_T_reply 165 = .ok (.bipush 8, 2) := by decide +kernel
theorem d_T_reply_167 : decode b_T_reply 167 = .ok (.iload_n 1, 1) := by decide +kernel
theorem d_T_reply_168 : decode b_T_reply 168 = .ok (.imul, 1) := by decide +kernel
theorem d_T_reply_169 : decode b_T_reply 169 = .ok (.lload 6, 2) := by decide +kernel
theorem d_T_reply_171 : decode b_T_reply 171 = .ok (.aload_n 0, 1) := by decide +kernel
theorem d_T_reply_172 : decode b_T_reply 172 = .ok (.getfield 86, 3) := by decide +kernel
theorem d_T_reply_175 : decode b_T_reply 175 = .ok (.lsub, 1) := by decide +kernel
theorem d_T_reply_176 : decode b_T_reply 176 = .ok (.lastore, 1) := by decide +kernel
theorem d_T_reply_177 : decode b_T_reply 177 = .ok (.aload_n 0, 1) := by decide +kernel
theorem d_T_reply_178 : decode b_T_reply 178 = .ok (.getfield 36, 3) := by decide +kernel
theorem d_T_reply_181 : decode b_T_reply 181 = .ok (.bipush 8, 2) := by decide +kernel
theorem d_T_reply_183 : decode b_T_reply 183 = .ok (.iload_n 1, 1) := by decide +kernel
theorem d_T_reply_184 : decode b_T_reply 184 = .ok (.imul, 1) := by decide +kernel
theorem d_T_reply_185 : decode b_T_reply 185 = .ok (.lload 4, 2) := by decide +kernel
theorem d_T_reply_187 : decode b_T_reply 187 = .ok (.aload_n 0, 1) := by decide +kernel
theorem d_T_reply_188 : decode b_T_reply 188 = .ok (.getfield 17, 3) := by decide +kernel
theorem d_T_reply_191 : decode b_T_reply 191 = .ok (.iload_n 1, 1) := by decide +kernel
theorem d_T_reply_192 : decode b_T_reply 192 = .ok (.laload, 1) := by decide +kernel
theorem d_T_reply_193 : decode b_T_reply 193 = .ok (.lsub, 1) := by decide +kernel
theorem d_T_reply_194 : decode b_T_reply 194 = .ok (.lastore, 1) := by decide +kernel
theorem d_T_reply_195 : decode b_T_reply 195 = .ok (.aload_n 0, 1) := by decide +kernel
theorem d_T_reply_196 : decode b_T_reply 196 = .ok (.getfield 39, 3) := by decide +kernel
theorem d_T_reply_199 : decode b_T_reply 199 = .ok (.bipush 8, 2) := by decide +kernel
theorem d_T_reply_201 : decode b_T_reply 201 = .ok (.iload_n 1, 1) := by decide +kernel
theorem d_T_reply_202 : decode b_T_reply 202 = .ok (.imul, 1) := by decide +kernel
theorem d_T_reply_203 : decode b_T_reply 203 = .ok (.aload_n 0, 1) := by decide +kernel
theorem d_T_reply_204 : decode b_T_reply 204 = .ok (.getfield 86, 3) := by decide +kernel
theorem d_T_reply_207 : decode b_T_reply 207 = .ok (.lastore, 1) := by decide +kernel
theorem d_T_reply_208 : decode b_T_reply 208 = .ok (.aload_n 0, 1) := by decide +kernel
theorem d_T_reply_209 : decode b_T_reply 209 = .ok (.getfield 29, 3) := by decide +kernel
theorem d_T_reply_212 : decode b_T_reply 212 = .ok (.iload_n 1, 1) := by decide +kernel
theorem d_T_reply_213 : decode b_T_reply 213 = .ok (.iaload, 1) := by decide +kernel
theorem d_T_reply_214 : decode b_T_reply 214 = .ok (.ireturn, 1) := by decide +kernel
theorem d_T_measure_0 : decode b_T_measure 0 = .ok (.bipush 8, 2) := by decide +kernel
theorem d_T_measure_2 : decode b_T_measure 2 = .ok (.iload_n 1, 1) := by decide +kernel
theorem d_T_measure_3 : decode b_T_measure 3 = .ok (.imul, 1) := by decide +kernel
theorem d_T_measure_4 : decode b_T_measure 4 = .ok (.istore_n 2, 1) := by decide +kernel
theorem d_T_measure_5 : decode b_T_measure 5 = .ok (.iload_n 2, 1) := by decide +kernel
theorem d_T_measure_6 : decode b_T_measure 6 = .ok (.bipush 8, 2) := by decide +kernel
theorem d_T_measure_8 : decode b_T_measure 8 = .ok (.iload_n 1, 1) := by decide +kernel
theorem d_T_measure_9 : decode b_T_measure 9 = .ok (.imul, 1) := by decide +kernel
theorem d_T_measure_10 : decode b_T_measure 10 = .ok (.aload_n 0, 1) := by decide +kernel
theorem d_T_measure_11 : decode b_T_measure 11 = .ok (.getfield 29, 3) := by decide +kernel
theorem d_T_measure_14 : decode b_T_measure 14 = .ok (.iload_n 1, 1) := by decide +kernel
theorem d_T_measure_15 : decode b_T_measure 15 = .ok (.iaload, 1) := by decide +kernel
theorem d_T_measure_16 : decode b_T_measure 16 = .ok (.iadd, 1) := by decide +kernel
theorem d_T_measure_17 : decode b_T_measure 17 = .ok (.if_icmp .ge 107, 3) := by decide +kernel
theorem d_T_measure_20 : decode b_T_measure 20 = .ok (.aload_n 0, 1) := by decide +kernel
theorem d_T_measure_21 : decode b_T_measure 21 = .ok (.aload_n 0, 1) := by decide +kernel
theorem d_T_measure_22 : decode b_T_measure 22 = .ok (.getfield 86, 3) := by decide +kernel
theorem d_T_measure_25 : decode b_T_measure 25 = .ok (.aload_n 0, 1) := by decide +kernel
theorem d_T_measure_26 : decode b_T_measure 26 = .ok (.getfield 39, 3) := by decide +kernel
theorem d_T_measure_29 : decode b_T_measure 29 = .ok (.iload_n 2, 1) := by decide +kernel
theorem d_T_measure_30 : decode b_T_measure 30 = .ok (.laload, 1) := by decide +kernel
theorem d_T_measure_31 : decode b_T_measure 31 = .ok (.lsub, 1) := by decide +kernel
theorem d_T_measure_32 : decode b_T_measure 32 = .ok (.invokevirtual 123, 3) := by decide +kernel
theorem d_T_measure_35 : decode b_T_measure 35 = .ok (.lstore_n 3, 1) := by decide +kernel
theorem d_T_measure_36 : decode b_T_measure 36 = .ok (.aload_n 0, 1) := by decide +kernel
theorem d_T_measure_37 : decode b_T_measure 37 = .ok (.getfield 33, 3) := by decide +kernel
theorem d_T_measure_40 : decode b_T_measure 40 = .ok (.iload_n 2, 1) := by decide +kernel
theorem d_T_measure_41 : decode b_T_measure 41 = .ok (.laload, 1) := by decide +kernel
theorem d_T_measure_42 : decode b_T_measure 42 = .ok (.aload_n 0, 1) := by decide +kernel
theorem d_T_measure_43 : decode b_T_measure 43 = .ok (.getfield 48, 3) := by decide +kernel
theorem d_T_measure_46 : decode b_T_measure 46 = .ok (.iload_n 1, 1) := by decide +kernel
theorem d_T_measure_47 : decode b_T_measure 47 = .ok (.iaload, 1) := by decide +kernel
theorem d_T_measure_48 : decode b_T_measure 48 = .ok (.i2l, 1) := by decide +kernel
theorem d_T_measure_49 : decode b_T_measure 49 = .ok (.lsub, 1) := by decide +kernel
theorem d_T_measure_50 : decode b_T_measure 50 = .ok (.lload_n 3, 1) := by decide +kernel
theorem d_T_measure_51 : decode b_T_measure 51 = .ok (.lsub, 1) := by decide +kernel
theorem d_T_measure_52 : decode b_T_measure 52 = .ok (.lstore 5, 2) := by decide +kernel
theorem d_T_measure_54 : decode b_T_measure 54 = .ok (.aload_n 0, 1) := by decide +kernel
theorem d_T_measure_55 : decode b_T_measure 55 = .ok (.getfield 36, 3) := by decide +kernel
theorem d_T_measure_58 : decode b_T_measure 58 = .ok (.iload_n 2, 1) := by decide +kernel
theorem d_T_measure_59 : decode b_T_measure 59 = .ok (.laload, 1) := by decide +kernel
theorem d_T_measure_60 : decode b_T_measure 60 = .ok (.aload_n 0, 1) := by decide +kernel
theorem d_T_measure_61 : decode b_T_measure 61 = .ok (.getfield 48, 3) := by decide +kernel
theorem d_T_measure_64 : decode b_T_measure 64 = .ok (.iload_n 1, 1) := by decide +kernel
theorem d_T_measure_65 : decode b_T_measure 65 = .ok (.iaload, 1) := by decide +kernel
theorem d_T_measure_66 : decode b_T_measure 66 = .ok (.i2l, 1) := by decide +kernel
theorem d_T_measure_67 : decode b_T_measure 67 = .ok (.ladd, 1) := by decide +kernel
theorem d_T_measure_68 : decode b_T_measure 68 = .ok (.lload_n 3, 1) := by decide +kernel
theorem d_T_measure_69 : decode b_T_measure 69 = .ok (.ladd, 1) := by decide +kernel
theorem d_T_measure_70 : decode b_T_measure 70 = .ok (.lstore 7, 2) := by decide +kernel
theorem d_T_measure_72 : decode b_T_measure 72 = .ok (.iload_n 2, 1) := by decide +kernel
theorem d_T_measure_73 : decode b_T_measure 73 = .ok (.bipush 8, 2) := by decide +kernel
theorem d_T_measure_75 : decode b_T_measure 75 = .ok (.iload_n 1, 1) := by decide +kernel
theorem d_T_measure_76 : decode b_T_measure 76 = .ok (.imul, 1) := by decide +kernel
theorem d_T_measure_77 : decode b_T_measure 77 = .ok (.if_icmp .eq 25, 3) := by decide +kernel
theorem d_T_measure_80 : decode b_T_measure 80 = .ok (.lload 7, 2) := by decide +kernel
theorem d_T_measure_82 : decode b_T_measure 82 = .ok (.lload 5, 2) := by decide +kernel
theorem d_T_measure_84 : decode b_T_measure 84 = .ok (.lsub, 1) := by decide +kernel
theorem d_T_measure_85 : decode b_T_measure 85 = .ok (.aload_n 0, 1) := by decide +kernel
theorem d_T_measure_86 : decode b_T_measure 86 = .ok (.getfield 54, 3) := by decide +kernel
theorem d_T_measure_89 : decode b_T_measure 89 = .ok (.iload_n 1, 1) := by decide +kernel
theorem d_T_measure_90 : decode b_T_measure 90 = .ok (.laload, 1) := by decide +kernel
theorem d_T_measure_91 : decode b_T_measure 91 = .ok (.aload_n 0, 1) := by decide +kernel
theorem d_T_measure_92 : decode b_T_measure 92 = .ok (.getfield 51, 3) := by decide +kernel
theorem d_T_measure_95 : decode b_T_measure 95 = .ok (.iload_n 1, 1) := by decide +kernel
theorem d_T_measure_96 : decode b_T_measure 96 = .ok (.laload, 1) := by decide +kernel
theorem d_T_measure_97 : decode b_T_measure 97 = .ok (.lsub, 1) := by decide +kernel
theorem d_T_measure_98 : decode b_T_measure 98 = .ok (.lcmp, 1) := by decide +kernel
theorem d_T_measure_99 : decode b_T_measure 99 = .ok (.ifCond .ge 19, 3) := by decide +kernel
theorem d_T_measure_102 : decode b_T_measure 102 = .ok (.aload_n 0, 1) := by decide +kernel
theorem d_T_measure_103 : decode b_T_measure 103 = .ok (.getfield 51, 3) := by decide +kernel
theorem d_T_measure_106 : decode b_T_measure 106 = .ok (.iload_n 1, 1) := by decide +kernel
theorem d_T_measure_107 : decode b_T_measure 107 = .ok (.lload 5, 2) := by decide +kernel
theorem d_T_measure_109 : decode b_T_measure 109 = .ok (.lastore, 1) := by decide +kernel
theorem d_T_measure_110 : decode b_T_measure 110 = .ok (.aload_n 0, 1) := by decide +kernel
theorem d_T_measure_111 : decode b_T_measure 111 = .ok (.getfield 54, 3) := by decide +kernel
theorem d_T_measure_114 : decode b_T_measure 114 = .ok (.iload_n 1, 1) := by decide +kernel
theorem d_T_measure_115 : decode b_T_measure 115 = .ok (.lload 7, 2) := by decide +kernel
theorem d_T_measure_117 : decode b_T_measure 117 = .ok (.lastore, 1) := by decide +kernel
theorem d_T_measure_118 : decode b_T_measure 118 = .ok (.iinc 2 1, 3) := by decide +kernel
theorem d_T_measure_121 : decode b_T_measure 121 = .ok (.goto (-116), 3) := by decide +kernel
theorem d_T_measure_124 : decode b_T_measure 124 = .ok (.return_, 1) := by decide +kernel
theorem d_T_low_0 : decode b_T_low 0 = .ok (.aload_n 0, 1) := by decide +kernel
theorem d_T_low_1 : decode b_T_low 1 = .ok (.iload_n 1, 1) := by decide +kernel
theorem d_T_low_2 : decode b_T_low 2 = .ok (.invokevirtual 90, 3) := by decide +kernel
theorem d_T_low_5 : decode b_T_low 5 = .ok (.ifCond .eq 12, 3) := by decide +kernel
theorem d_T_low_8 : decode b_T_low 8 = .ok (.aload_n 0, 1) := by decide +kernel
theorem d_T_low_9 : decode b_T_low 9 = .ok (.getfield 29, 3) := by decide +kernel
theorem d_T_low_12 : decode b_T_low 12 = .ok (.iload_n 1, 1) := by decide +kernel
theorem d_T_low_13 : decode b_T_low 13 = .ok (.iaload, 1) := by decide +kernel
theorem d_T_low_14 : decode b_T_low 14 = .ok (.ifCond .ne 7, 3) := by decide +kernel
theorem d_T_low_17 : decode b_T_low 17 = .ok (.ldc2_w 100, 3) := by decide +kernel
theorem d_T_low_20 : decode b_T_low 20 = .ok (.lreturn, 1) := by decide +kernel
theorem d_T_low_21 : decode b_T_low 21 = .ok (.aload_n 0, 1) := by decide +kernel
theorem d_T_low_22 : decode b_T_low 22 = .ok (.iload_n 1, 1) := by decide +kernel
theorem d_T_low_23 : decode b_T_low 23 = .ok (.invokevirtual 127, 3) := by decide +kernel
theorem d_T_low_26 : decode b_T_low 26 = .ok (.aload_n 0, 1) := by decide +kernel
theorem d_T_low_27 : decode b_T_low 27 = .ok (.getfield 51, 3) := by decide +kernel
theorem d_T_low_30 : decode b_T_low 30 = .ok (.iload_n 1, 1) := by decide +kernel
theorem d_T_low_31 : decode b_T_low 31 = .ok (.laload, 1) := by decide +kernel
theorem d_T_low_32 : decode b_T_low 32 = .ok (.lreturn, 1) := by decide +kernel
theorem d_T_high_0 : decode b_T_high 0 = .ok (.aload_n 0, 1) := by decide +kernel
theorem d_T_high_1 : decode b_T_high 1 = .ok (.iload_n 1, 1) := by decide +kernel
