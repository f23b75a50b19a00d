theorem d_T_leave_65 : decode b_T_leave 65 = .ok (.iinc 4 1, 3) := by decide +kernel
theorem d_T_leave_68 : decode b_T_leave 68 = .ok (.goto (-59), 3) := by decide +kernel
theorem d_T_leave_71 : decode b_T_leave 71 = .ok (.iload_n 1, 1) := by decide +kernel
theorem d_T_leave_72 : decode b_T_leave 72 = .ok (.ifCond .lt 10, 3) := by decide +kernel
theorem d_T_leave_75 : decode b_T_leave 75 = .ok (.aload_n 0, 1) := by decide +kernel
theorem d_T_leave_76 : decode b_T_leave 76 = .ok (.getfield 57, 3) := by decide +kernel
theorem d_T_leave_79 : decode b_T_leave 79 = .ok (.iload_n 1, 1) := by decide +kernel
theorem d_T_leave_80 : decode b_T_leave 80 = .ok (.iconst 0, 1) := by decide +kernel
theorem d_T_leave_81 : decode b_T_leave 81 = .ok (.bastore, 1) := by decide +kernel
theorem d_T_leave_82 : decode b_T_leave 82 = .ok (.return_, 1) := by decide +kernel
theorem d_T_offset_0 : decode b_T_offset 0 = .ok (.aload_n 0, 1) := by decide +kernel
theorem d_T_offset_1 : decode b_T_offset 1 = .ok (.getfield 86, 3) := by decide +kernel
theorem d_T_offset_4 : decode b_T_offset 4 = .ok (.aload_n 0, 1) := by decide +kernel
theorem d_T_offset_5 : decode b_T_offset 5 = .ok (.getfield 193, 3) := by decide +kernel
theorem d_T_offset_8 : decode b_T_offset 8 = .ok (.lsub, 1) := by decide +kernel
theorem d_T_offset_9 : decode b_T_offset 9 = .ok (.ldc2_w 202, 3) := by decide +kernel
theorem d_T_offset_12 : decode b_T_offset 12 = .ok (.ldiv, 1) := by decide +kernel
theorem d_T_offset_13 : decode b_T_offset 13 = .ok (.lstore_n 1, 1) := by decide +kernel
theorem d_T_offset_14 : decode b_T_offset 14 = .ok (.aload_n 0, 1) := by decide +kernel
theorem d_T_offset_15 : decode b_T_offset 15 = .ok (.getfield 181, 3) := by decide +kernel
theorem d_T_offset_18 : decode b_T_offset 18 = .ok (.aload_n 0, 1) := by decide +kernel
theorem d_T_offset_19 : decode b_T_offset 19 = .ok (.getfield 178, 3) := by decide +kernel
theorem d_T_offset_22 : decode b_T_offset 22 = .ok (.lsub, 1) := by decide +kernel
theorem d_T_offset_23 : decode b_T_offset 23 = .ok (.lstore_n 3, 1) := by decide +kernel
theorem d_T_offset_24 : decode b_T_offset 24 = .ok (.lload_n 3, 1) := by decide +kernel
theorem d_T_offset_25 : decode b_T_offset 25 = .ok (.lload_n 1, 1) := by decide +kernel
theorem d_T_offset_26 : decode b_T_offset 26 = .ok (.lcmp, 1) := by decide +kernel
theorem d_T_offset_27 : decode b_T_offset 27 = .ok (.ifCond .gt 15, 3) := by decide +kernel
theorem d_T_offset_30 : decode b_T_offset 30 = .ok (.lload_n 3, 1) := by decide +kernel
theorem d_T_offset_31 : decode b_T_offset 31 = .ok (.lneg, 1) := by decide +kernel
theorem d_T_offset_32 : decode b_T_offset 32 = .ok (.lload_n 1, 1) := by decide +kernel
theorem d_T_offset_33 : decode b_T_offset 33 = .ok (.lcmp, 1) := by decide +kernel
theorem d_T_offset_34 : decode b_T_offset 34 = .ok (.ifCond .gt 8, 3) := by decide +kernel
theorem d_T_offset_37 : decode b_T_offset 37 = .ok (.aload_n 0, 1) := by decide +kernel
theorem d_T_offset_38 : decode b_T_offset 38 = .ok (.getfield 181, 3) := by decide +kernel
theorem d_T_offset_41 : decode b_T_offset 41 = .ok (.lreturn, 1) := by decide +kernel
theorem d_T_offset_42 : decode b_T_offset 42 = .ok (.lload_n 3, 1) := by decide +kernel
theorem d_T_offset_43 : decode b_T_offset 43 = .ok (.lconst 0, 1) := by decide +kernel
theorem d_T_offset_44 : decode b_T_offset 44 = .ok (.lcmp, 1) := by decide +kernel
theorem d_T_offset_45 : decode b_T_offset 45 = .ok (.ifCond .le 12, 3) := by decide +kernel
theorem d_T_offset_48 : decode b_T_offset 48 = .ok (.aload_n 0, 1) := by decide +kernel
theorem d_T_offset_49 : decode b_T_offset 49 = .ok (.getfield 178, 3) := by decide +kernel
theorem d_T_offset_52 : decode b_T_offset 52 = .ok (.lload_n 1, 1) := by decide +kernel
theorem d_T_offset_53 : decode b_T_offset 53 = .ok (.ladd, 1) := by decide +kernel
theorem d_T_offset_54 : decode b_T_offset 54 = .ok (.goto 9, 3) := by decide +kernel
theorem d_T_offset_57 : decode b_T_offset 57 = .ok (.aload_n 0, 1) := by decide +kernel
theorem d_T_offset_58 : decode b_T_offset 58 = .ok (.getfield 178, 3) := by decide +kernel
theorem d_T_offset_61 : decode b_T_offset 61 = .ok (.lload_n 1, 1) := by decide +kernel
theorem d_T_offset_62 : decode b_T_offset 62 = .ok (.lsub, 1) := by decide +kernel
theorem d_T_offset_63 : decode b_T_offset 63 = .ok (.lreturn, 1) := by decide +kernel
theorem d_T_keep_0 : decode b_T_keep 0 = .ok (.lconst 0, 1) := by decide +kernel
theorem d_T_keep_1 : decode b_T_keep 1 = .ok (.lstore_n 2, 1) := by decide +kernel
theorem d_T_keep_2 : decode b_T_keep 2 = .ok (.iconst 0, 1) := by decide +kernel
theorem d_T_keep_3 : decode b_T_keep 3 = .ok (.istore 4, 2) := by decide +kernel
theorem d_T_keep_5 : decode b_T_keep 5 = .ok (.bipush 16, 2) := by decide +kernel
theorem d_T_keep_7 : decode b_T_keep 7 = .ok (.istore 5, 2) := by decide +kernel
theorem d_T_keep_9 : decode b_T_keep 9 = .ok (.iconst 0, 1) := by decide +kernel
theorem d_T_keep_10 : decode b_T_keep 10 = .ok (.istore 6, 2) := by decide +kernel
theorem d_T_keep_12 : decode b_T_keep 12 = .ok (.iload 6, 2) := by decide +kernel
theorem d_T_keep_14 : decode b_T_keep 14 = .ok (.aload_n 0, 1) := by decide +kernel
theorem d_T_keep_15 : decode b_T_keep 15 = .ok (.getfield 73, 3) := by decide +kernel
theorem d_T_keep_18 : decode b_T_keep 18 = .ok (.if_icmp .ge 63, 3) := by decide +kernel
theorem d_T_keep_21 : decode b_T_keep 21 = .ok (.aload_n 0, 1) := by decide +kernel
theorem d_T_keep_22 : decode b_T_keep 22 = .ok (.getfield 57, 3) := by decide +kernel
theorem d_T_keep_25 : decode b_T_keep 25 = .ok (.iload 6, 2) := by decide +kernel
theorem d_T_keep_27 : decode b_T_keep 27 = .ok (.baload, 1) := by decide +kernel
theorem d_T_keep_28 : decode b_T_keep 28 = .ok (.ifCond .eq 47, 3) := by decide +kernel
theorem d_T_keep_31 : decode b_T_keep 31 = .ok (.lload_n 2, 1) := by decide +kernel
theorem d_T_keep_32 : decode b_T_keep 32 = .ok (.aload_n 0, 1) := by decide +kernel
theorem d_T_keep_33 : decode b_T_keep 33 = .ok (.iload 6, 2) := by decide +kernel
theorem d_T_keep_35 : decode b_T_keep 35 = .ok (.invokevirtual 146, 3) := by decide +kernel
theorem d_T_keep_38 : decode b_T_keep 38 = .ok (.ladd, 1) := by decide +kernel
theorem d_T_keep_39 : decode b_T_keep 39 = .ok (.lstore_n 2, 1) := by decide +kernel
theorem d_T_keep_40 : decode b_T_keep 40 = .ok (.iload 4, 2) := by decide +kernel
theorem d_T_keep_42 : decode b_T_keep 42 = .ok (.iconst 1, 1) := by decide +kernel
theorem d_T_keep_43 : decode b_T_keep 43 = .ok (.iload 6, 2) := by decide +kernel
theorem d_T_keep_45 : decode b_T_keep 45 = .ok (.ishl, 1) := by decide +kernel
theorem d_T_keep_46 : decode b_T_keep 46 = .ok (.ior, 1) := by decide +kernel
theorem d_T_keep_47 : decode b_T_keep 47 = .ok (.istore 4, 2) := by decide +kernel
theorem d_T_keep_49 : decode b_T_keep 49 = .ok (.aload_n 0, 1) := by decide +kernel
theorem d_T_keep_50 : decode b_T_keep 50 = .ok (.getfield 42, 3) := by decide +kernel
theorem d_T_keep_53 : decode b_T_keep 53 = .ok (.iload 6, 2) := by decide +kernel
theorem d_T_keep_55 : decode b_T_keep 55 = .ok (.iaload, 1) := by decide +kernel
theorem d_T_keep_56 : decode b_T_keep 56 = .ok (.iload 5, 2) := by decide +kernel
theorem d_T_keep_58 : decode b_T_keep 58 = .ok (.if_icmp .ge 13, 3) := by decide +kernel
theorem d_T_keep_61 : decode b_T_keep 61 = .ok (.aload_n 0, 1) := by decide +kernel
theorem d_T_keep_62 : decode b_T_keep 62 = .ok (.getfield 42, 3) := by decide +kernel
theorem d_T_keep_65 : decode b_T_keep 65 = .ok (.iload 6, 2) := by decide +kernel
theorem d_T_keep_67 : decode b_T_keep 67 = .ok (.iaload, 1) := by decide +kernel
theorem d_T_keep_68 : decode b_T_keep 68 = .ok (.goto 5, 3) := by decide +kernel
theorem d_T_keep_71 : decode b_T_keep 71 = .ok (.iload 5, 2) := by decide +kernel
theorem d_T_keep_73 : decode b_T_keep 73 = .ok (.istore 5, 2) := by decide +kernel
theorem d_T_keep_75 : decode b_T_keep 75 = .ok (.iinc 6 1, 3) := by decide +kernel
theorem d_T_keep_78 : decode b_T_keep 78 = .ok (.goto (-66), 3) := by decide +kernel
theorem d_T_keep_81 : decode b_T_keep 81 = .ok (.lload_n 2, 1) := by decide +kernel
theorem d_T_keep_82 : decode b_T_keep 82 = .ok (.iload_n 1, 1) := by decide +kernel
theorem d_T_keep_83 : decode b_T_keep 83 = .ok (.i2l, 1) := by decide +kernel
theorem d_T_keep_84 : decode b_T_keep 84 = .ok (.invokestatic 143, 3) := by decide +kernel
theorem d_T_keep_87 : decode b_T_keep 87 = .ok (.lstore 6, 2) := by decide +kernel
theorem d_T_keep_89 : decode b_T_keep 89 = .ok (.lload 6, 2) := by decide +kernel
theorem d_T_keep_91 : decode b_T_keep 91 = .ok (.aload_n 0, 1) := by decide +kernel
theorem d_T_keep_92 : decode b_T_keep 92 = .ok (.getfield 135, 3) := by decide +kernel
theorem d_T_keep_95 : decode b_T_keep 95 = .ok (.lcmp, 1) := by decide +kernel
theorem d_T_keep_96 : decode b_T_keep 96 = .ok (.ifCond .ge 10, 3) := by decide +kernel
theorem d_T_keep_99 : decode b_T_keep 99 = .ok (.aload_n 0, 1) := by decide +kernel
theorem d_T_keep_100 : decode b_T_keep 100 = .ok (.getfield 135, 3) := by decide +kernel
theorem d_T_keep_103 : decode b_T_keep 103 = .ok (.goto 22, 3) := by decide +kernel
theorem d_T_keep_106 : decode b_T_keep 106 = .ok (.lload 6, 2) := by decide +kernel
theorem d_T_keep_108 : decode b_T_keep 108 = .ok (.aload_n 0, 1) := by decide +kernel
theorem d_T_keep_109 : decode b_T_keep 109 = .ok (.getfield 138, 3) := by decide +kernel
theorem d_T_keep_112 : decode b_T_keep 112 = .ok (.lcmp, 1) := by decide +kernel
theorem d_T_keep_113 : decode b_T_keep 113 = .ok (.ifCond .le 10, 3) := by decide +kernel
theorem d_T_keep_116 : decode b_T_keep 116 = .ok (.aload_n 0, 1) := by decide +kernel
theorem d_T_keep_117 : decode b_T_keep 117 = .ok (.getfield 138, 3) := by decide +kernel
theorem d_T_keep_120 : decode b_T_keep 120 = .ok (.goto 5, 3) := by decide +kernel
theorem d_T_keep_123 : decode b_T_keep 123 = .ok (.lload 6, 2) := by decide +kernel
theorem d_T_keep_125 : decode b_T_keep 125 = .ok (.lstore 6, 2) := by decide +kernel
theorem d_T_keep_127 : decode b_T_keep 127 = .ok (.aload_n 0, 1) := by decide +kernel
theorem d_T_keep_128 : decode b_T_keep 128 = .ok (.aload_n 0, 1) := by decide +kernel
theorem d_T_keep_129 : decode b_T_keep 129 = .ok (.getfield 171, 3) := by decide +kernel
theorem d_T_keep_132 : decode b_T_keep 132 = .ok (.ifCond .eq 10, 3) := by decide +kernel
theorem d_T_keep_135 : decode b_T_keep 135 = .ok (.aload_n 0, 1) := by decide +kernel
theorem d_T_keep_136 : decode b_T_keep 136 = .ok (.invokevirtual 174, 3) := by decide +kernel
theorem d_T_keep_139 : decode b_T_keep 139 = .ok (.goto 5, 3) := by decide +kernel
theorem d_T_keep_142 : decode b_T_keep 142 = .ok (.lload 6, 2) := by decide +kernel
theorem d_T_keep_144 : decode b_T_keep 144 = .ok (.putfield 178, 3) := by decide +kernel
theorem d_T_keep_147 : decode b_T_keep 147 = .ok (.aload_n 0, 1) := by decide +kernel
theorem d_T_keep_148 : decode b_T_keep 148 = .ok (.iconst 1, 1) := by decide +kernel
theorem d_T_keep_149 : decode b_T_keep 149 = .ok (.putfield 171, 3) := by decide +kernel
theorem d_T_keep_152 : decode b_T_keep 152 = .ok (.aload_n 0, 1) := by decide +kernel
theorem d_T_keep_153 : decode b_T_keep 153 = .ok (.lload 6, 2) := by decide +kernel
theorem d_T_keep_155 : decode b_T_keep 155 = .ok (.putfield 181, 3) := by decide +kernel
theorem d_T_keep_158 : decode b_T_keep 158 = .ok (.aload_n 0, 1) := by decide +kernel
theorem d_T_keep_159 : decode b_T_keep 159 = .ok (.aload_n 0, 1) := by decide +kernel
theorem d_T_keep_160 : decode b_T_keep 160 = .ok (.getfield 135, 3) := by decide +kernel
theorem d_T_keep_163 : decode b_T_keep 163 = .ok (.putfield 184, 3) := by decide +kernel
theorem d_T_keep_166 : decode b_T_keep 166 = .ok (.aload_n 0, 1) := by decide +kernel
theorem d_T_keep_167 : decode b_T_keep 167 = .ok (.aload_n 0, 1) := by decide +kernel
theorem d_T_keep_168 : decode b_T_keep 168 = .ok (.getfield 138, 3) := by decide +kernel
theorem d_T_keep_171 : decode b_T_keep 171 = .ok (.putfield 187, 3) := by decide +kernel
theorem d_T_keep_174 : decode b_T_keep 174 = .ok (.aload_n 0, 1) := by decide +kernel
theorem d_T_keep_175 : decode b_T_keep 175 = .ok (.lload 6, 2) := by decide +kernel
theorem d_T_keep_177 : decode b_T_keep 177 = .ok (.aload_n 0, 1) := by decide +kernel
theorem d_T_keep_178 : decode b_T_keep 178 = .ok (.getfield 135, 3) := by decide +kernel
theorem d_T_keep_181 : decode b_T_keep 181 = .ok (.lsub, 1) := by decide +kernel
theorem d_T_keep_182 : decode b_T_keep 182 = .ok (.aload_n 0, 1) := by decide +kernel
theorem d_T_keep_183 : decode b_T_keep 183 = .ok (.getfield 138, 3) := by decide +kernel
theorem d_T_keep_186 : decode b_T_keep 186 = .ok (.lload 6, 2) := by decide +kernel
theorem d_T_keep_188 : decode b_T_keep 188 = .ok (.lsub, 1) := by decide +kernel
theorem d_T_keep_189 : decode b_T_keep 189 = .ok (.lcmp, 1) := by decide +kernel
theorem d_T_keep_190 : decode b_T_keep 190 = .ok (.ifCond .le 13, 3) := by decide +kernel
theorem d_T_keep_193 : decode b_T_keep 193 = .ok (.lload 6, 2) := by decide +kernel
theorem d_T_keep_195 : decode b_T_keep 195 = .ok (.aload_n 0, 1) := by decide +kernel
theorem d_T_keep_196 : decode b_T_keep 196 = .ok (.getfield 135, 3) := by decide +kernel
theorem d_T_keep_199 : decode b_T_keep 199 = .ok (.lsub, 1) := by decide +kernel
theorem d_T_keep_200 : decode b_T_keep 200 = .ok (.goto 10, 3) := by decide +kernel
theorem d_T_keep_203 : decode b_T_keep 203 = .ok (.aload_n 0, 1) := by decide +kernel
theorem d_T_keep_204 : decode b_T_keep 204 = .ok (.getfield 138, 3) := by decide +kernel
theorem d_T_keep_207 : decode b_T_keep 207 = .ok (.lload 6, 2) := by decide +kernel
theorem d_T_keep_209 : decode b_T_keep 209 = .ok (.lsub, 1) := by decide +kernel
