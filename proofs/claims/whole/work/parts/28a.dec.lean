theorem d_L_law_0 : decode b_L_law 0 = .ok (.new 7, 3) := by decide +kernel
theorem d_L_law_3 : decode b_L_law 3 = .ok (.dup, 1) := by decide +kernel
theorem d_L_law_4 : decode b_L_law 4 = .ok (.aload_n 0, 1) := by decide +kernel
theorem d_L_law_5 : decode b_L_law 5 = .ok (.iconst 0, 1) := by decide +kernel
theorem d_L_law_6 : decode b_L_law 6 = .ok (.invokestatic 9, 3) := by decide +kernel
theorem d_L_law_9 : decode b_L_law 9 = .ok (.aload_n 0, 1) := by decide +kernel
theorem d_L_law_10 : decode b_L_law 10 = .ok (.iconst 1, 1) := by decide +kernel
theorem d_L_law_11 : decode b_L_law 11 = .ok (.invokestatic 9, 3) := by decide +kernel
theorem d_L_law_14 : decode b_L_law 14 = .ok (.aload_n 0, 1) := by decide +kernel
theorem d_L_law_15 : decode b_L_law 15 = .ok (.iconst 2, 1) := by decide +kernel
theorem d_L_law_16 : decode b_L_law 16 = .ok (.invokestatic 9, 3) := by decide +kernel
theorem d_L_law_19 : decode b_L_law 19 = .ok (.invokespecial 15, 3) := by decide +kernel
theorem d_L_law_22 : decode b_L_law 22 = .ok (.astore_n 1, 1) := by decide +kernel
theorem d_L_law_23 : decode b_L_law 23 = .ok (.new 18, 3) := by decide +kernel
theorem d_L_law_26 : decode b_L_law 26 = .ok (.dup, 1) := by decide +kernel
theorem d_L_law_27 : decode b_L_law 27 = .ok (.aload_n 0, 1) := by decide +kernel
theorem d_L_law_28 : decode b_L_law 28 = .ok (.iconst 0, 1) := by decide +kernel
theorem d_L_law_29 : decode b_L_law 29 = .ok (.invokestatic 9, 3) := by decide +kernel
theorem d_L_law_32 : decode b_L_law 32 = .ok (.aload_n 0, 1) := by decide +kernel
theorem d_L_law_33 : decode b_L_law 33 = .ok (.iconst 1, 1) := by decide +kernel
theorem d_L_law_34 : decode b_L_law 34 = .ok (.invokestatic 9, 3) := by decide +kernel
theorem d_L_law_37 : decode b_L_law 37 = .ok (.aload_n 0, 1) := by decide +kernel
theorem d_L_law_38 : decode b_L_law 38 = .ok (.iconst 2, 1) := by decide +kernel
theorem d_L_law_39 : decode b_L_law 39 = .ok (.invokestatic 9, 3) := by decide +kernel
theorem d_L_law_42 : decode b_L_law 42 = .ok (.invokespecial 20, 3) := by decide +kernel
theorem d_L_law_45 : decode b_L_law 45 = .ok (.astore_n 2, 1) := by decide +kernel
theorem d_L_law_46 : decode b_L_law 46 = .ok (.iconst 3, 1) := by decide +kernel
theorem d_L_law_47 : decode b_L_law 47 = .ok (.istore_n 3, 1) := by decide +kernel
theorem d_L_law_48 : decode b_L_law 48 = .ok (.iload_n 3, 1) := by decide +kernel
theorem d_L_law_49 : decode b_L_law 49 = .ok (.aload_n 0, 1) := by decide +kernel
theorem d_L_law_50 : decode b_L_law 50 = .ok (.arraylength, 1) := by decide +kernel
theorem d_L_law_51 : decode b_L_law 51 = .ok (.bipush 9, 2) := by decide +kernel
theorem d_L_law_53 : decode b_L_law 53 = .ok (.isub, 1) := by decide +kernel
theorem d_L_law_54 : decode b_L_law 54 = .ok (.if_icmp .gt 948, 3) := by decide +kernel
theorem d_L_law_57 : decode b_L_law 57 = .ok (.aload_n 0, 1) := by decide +kernel
theorem d_L_law_58 : decode b_L_law 58 = .ok (.iload_n 3, 1) := by decide +kernel
theorem d_L_law_59 : decode b_L_law 59 = .ok (.iaload, 1) := by decide +kernel
theorem d_L_law_60 : decode b_L_law 60 = .ok (.bipush 31, 2) := by decide +kernel
theorem d_L_law_62 : decode b_L_law 62 = .ok (.iand, 1) := by decide +kernel
theorem d_L_law_63 : decode b_L_law 63 = .ok (.tableswitch 933 0 18 #[89, 112, 126, 189, 336, 360, 519, 572, 596, 620, 633, 646, 686, 699, 713, 727, 771, 886, 910], 89) := by decide +kernel
theorem d_L_law_152 : decode b_L_law 152 = .ok (.aload_n 1, 1) := by decide +kernel
theorem d_L_law_153 : decode b_L_law 153 = .ok (.aload_n 0, 1) := by decide +kernel
theorem d_L_law_154 : decode b_L_law 154 = .ok (.iload_n 3, 1) := by decide +kernel
theorem d_L_law_155 : decode b_L_law 155 = .ok (.iconst 1, 1) := by decide +kernel
theorem d_L_law_156 : decode b_L_law 156 = .ok (.iadd, 1) := by decide +kernel
theorem d_L_law_157 : decode b_L_law 157 = .ok (.iaload, 1) := by decide +kernel
theorem d_L_law_158 : decode b_L_law 158 = .ok (.invokevirtual 21, 3) := by decide +kernel
theorem d_L_law_161 : decode b_L_law 161 = .ok (.aload_n 2, 1) := by decide +kernel
theorem d_L_law_162 : decode b_L_law 162 = .ok (.aload_n 0, 1) := by decide +kernel
theorem d_L_law_163 : decode b_L_law 163 = .ok (.iload_n 3, 1) := by decide +kernel
theorem d_L_law_164 : decode b_L_law 164 = .ok (.iconst 1, 1) := by decide +kernel
theorem d_L_law_165 : decode b_L_law 165 = .ok (.iadd, 1) := by decide +kernel
theorem d_L_law_166 : decode b_L_law 166 = .ok (.iaload, 1) := by decide +kernel
theorem d_L_law_167 : decode b_L_law 167 = .ok (.invokevirtual 25, 3) := by decide +kernel
theorem d_L_law_170 : decode b_L_law 170 = .ok (.if_icmp .eq 826, 3) := by decide +kernel
theorem d_L_law_173 : decode b_L_law 173 = .ok (.iconst 0, 1) := by decide +kernel
theorem d_L_law_174 : decode b_L_law 174 = .ok (.ireturn, 1) := by decide +kernel
theorem d_L_law_175 : decode b_L_law 175 = .ok (.aload_n 1, 1) := by decide +kernel
theorem d_L_law_176 : decode b_L_law 176 = .ok (.invokevirtual 26, 3) := by decide +kernel
theorem d_L_law_179 : decode b_L_law 179 = .ok (.aload_n 2, 1) := by decide +kernel
theorem d_L_law_180 : decode b_L_law 180 = .ok (.invokevirtual 30, 3) := by decide +kernel
theorem d_L_law_183 : decode b_L_law 183 = .ok (.lcmp, 1) := by decide +kernel
theorem d_L_law_184 : decode b_L_law 184 = .ok (.ifCond .eq 812, 3) := by decide +kernel
theorem d_L_law_187 : decode b_L_law 187 = .ok (.iconst 0, 1) := by decide +kernel
theorem d_L_law_188 : decode b_L_law 188 = .ok (.ireturn, 1) := by decide +kernel
theorem d_L_law_189 : decode b_L_law 189 = .ok (.aload_n 1, 1) := by decide +kernel
theorem d_L_law_190 : decode b_L_law 190 = .ok (.aload_n 0, 1) := by decide +kernel
theorem d_L_law_191 : decode b_L_law 191 = .ok (.iload_n 3, 1) := by decide +kernel
theorem d_L_law_192 : decode b_L_law 192 = .ok (.iconst 1, 1) := by decide +kernel
theorem d_L_law_193 : decode b_L_law 193 = .ok (.iadd, 1) := by decide +kernel
theorem d_L_law_194 : decode b_L_law 194 = .ok (.iaload, 1) := by decide +kernel
theorem d_L_law_195 : decode b_L_law 195 = .ok (.aload_n 0, 1) := by decide +kernel
theorem d_L_law_196 : decode b_L_law 196 = .ok (.iload_n 3, 1) := by decide +kernel
theorem d_L_law_197 : decode b_L_law 197 = .ok (.iconst 2, 1) := by decide +kernel
theorem d_L_law_198 : decode b_L_law 198 = .ok (.iadd, 1) := by decide +kernel
theorem d_L_law_199 : decode b_L_law 199 = .ok (.iaload, 1) := by decide +kernel
theorem d_L_law_200 : decode b_L_law 200 = .ok (.i2l, 1) := by decide +kernel
theorem d_L_law_201 : decode b_L_law 201 = .ok (.bipush 32, 2) := by decide +kernel
theorem d_L_law_203 : decode b_L_law 203 = .ok (.lshl, 1) := by decide +kernel
theorem d_L_law_204 : decode b_L_law 204 = .ok (.aload_n 0, 1) := by decide +kernel
theorem d_L_law_205 : decode b_L_law 205 = .ok (.iload_n 3, 1) := by decide +kernel
theorem d_L_law_206 : decode b_L_law 206 = .ok (.iconst 3, 1) := by decide +kernel
theorem d_L_law_207 : decode b_L_law 207 = .ok (.iadd, 1) := by decide +kernel
theorem d_L_law_208 : decode b_L_law 208 = .ok (.iaload, 1) := by decide +kernel
theorem d_L_law_209 : decode b_L_law 209 = .ok (.i2l, 1) := by decide +kernel
theorem d_L_law_210 : decode b_L_law 210 = .ok (.ldc2_w 31, 3) := by decide +kernel
theorem d_L_law_213 : decode b_L_law 213 = .ok (.land, 1) := by decide +kernel
theorem d_L_law_214 : decode b_L_law 214 = .ok (.lor, 1) := by decide +kernel
theorem d_L_law_215 : decode b_L_law 215 = .ok (.invokevirtual 33, 3) := by decide +kernel
theorem d_L_law_218 : decode b_L_law 218 = .ok (.aload_n 2, 1) := by decide +kernel
theorem d_L_law_219 : decode b_L_law 219 = .ok (.aload_n 0, 1) := by decide +kernel
theorem d_L_law_220 : decode b_L_law 220 = .ok (.iload_n 3, 1) := by decide +kernel
theorem d_L_law_221 : decode b_L_law 221 = .ok (.iconst 1, 1) := by decide +kernel
theorem d_L_law_222 : decode b_L_law 222 = .ok (.iadd, 1) := by decide +kernel
theorem d_L_law_223 : decode b_L_law 223 = .ok (.iaload, 1) := by decide +kernel
theorem d_L_law_224 : decode b_L_law 224 = .ok (.aload_n 0, 1) := by decide +kernel
theorem d_L_law_225 : decode b_L_law 225 = .ok (.iload_n 3, 1) := by decide +kernel
theorem d_L_law_226 : decode b_L_law 226 = .ok (.iconst 2, 1) := by decide +kernel
theorem d_L_law_227 : decode b_L_law 227 = .ok (.iadd, 1) := by decide +kernel
theorem d_L_law_228 : decode b_L_law 228 = .ok (.iaload, 1) := by decide +kernel
theorem d_L_law_229 : decode b_L_law 229 = .ok (.i2l, 1) := by decide +kernel
theorem d_L_law_230 : decode b_L_law 230 = .ok (.bipush 32, 2) := by decide +kernel
theorem d_L_law_232 : decode b_L_law 232 = .ok (.lshl, 1) := by decide +kernel
theorem d_L_law_233 : decode b_L_law 233 = .ok (.aload_n 0, 1) := by decide +kernel
theorem d_L_law_234 : decode b_L_law 234 = .ok (.iload_n 3, 1) := by decide +kernel
theorem d_L_law_235 : decode b_L_law 235 = .ok (.iconst 3, 1) := by decide +kernel
theorem d_L_law_236 : decode b_L_law 236 = .ok (.iadd, 1) := by decide +kernel
theorem d_L_law_237 : decode b_L_law 237 = .ok (.iaload, 1) := by decide +kernel
theorem d_L_law_238 : decode b_L_law 238 = .ok (.i2l, 1) := by decide +kernel
theorem d_L_law_239 : decode b_L_law 239 = .ok (.ldc2_w 31, 3) := by decide +kernel
theorem d_L_law_242 : decode b_L_law 242 = .ok (.land, 1) := by decide +kernel
theorem d_L_law_243 : decode b_L_law 243 = .ok (.lor, 1) := by decide +kernel
theorem d_L_law_244 : decode b_L_law 244 = .ok (.invokevirtual 37, 3) := by decide +kernel
theorem d_L_law_247 : decode b_L_law 247 = .ok (.if_icmp .eq 749, 3) := by decide +kernel
theorem d_L_law_250 : decode b_L_law 250 = .ok (.iconst 0, 1) := by decide +kernel
theorem d_L_law_251 : decode b_L_law 251 = .ok (.ireturn, 1) := by decide +kernel
theorem d_L_law_252 : decode b_L_law 252 = .ok (.aload_n 1, 1) := by decide +kernel
theorem d_L_law_253 : decode b_L_law 253 = .ok (.aload_n 0, 1) := by decide +kernel
theorem d_L_law_254 : decode b_L_law 254 = .ok (.iload_n 3, 1) := by decide +kernel
theorem d_L_law_255 : decode b_L_law 255 = .ok (.iconst 1, 1) := by decide +kernel
