/-! ===== by program (wip/p29/lawdec.py): the law's instructions ===== -/
theorem dL_alike_75 : decode cL_alike 75 = .ok (.iload 4, 2) := by decide +kernel
theorem dL_alike_77 : decode cL_alike 77 = .ok (.invokestatic 133, 3) := by decide +kernel
theorem dL_alike_80 : decode cL_alike 80 = .ok (.aload_n 1, 1) := by decide +kernel
theorem dL_alike_81 : decode cL_alike 81 = .ok (.iload 4, 2) := by decide +kernel
theorem dL_alike_83 : decode cL_alike 83 = .ok (.invokestatic 133, 3) := by decide +kernel
theorem dL_alike_86 : decode cL_alike 86 = .ok (.if_icmp .ne 95, 3) := by decide +kernel
theorem dL_alike_89 : decode cL_alike 89 = .ok (.aload_n 0, 1) := by decide +kernel
theorem dL_alike_90 : decode cL_alike 90 = .ok (.iload 4, 2) := by decide +kernel
theorem dL_alike_92 : decode cL_alike 92 = .ok (.iconst 1, 1) := by decide +kernel
theorem dL_alike_93 : decode cL_alike 93 = .ok (.invokestatic 127, 3) := by decide +kernel
theorem dL_alike_96 : decode cL_alike 96 = .ok (.aload_n 1, 1) := by decide +kernel
theorem dL_alike_97 : decode cL_alike 97 = .ok (.iload 4, 2) := by decide +kernel
theorem dL_alike_99 : decode cL_alike 99 = .ok (.iconst 1, 1) := by decide +kernel
theorem dL_alike_100 : decode cL_alike 100 = .ok (.invokestatic 127, 3) := by decide +kernel
theorem dL_alike_103 : decode cL_alike 103 = .ok (.if_icmp .ne 78, 3) := by decide +kernel
theorem dL_alike_106 : decode cL_alike 106 = .ok (.iload 4, 2) := by decide +kernel
theorem dL_alike_108 : decode cL_alike 108 = .ok (.iconst 3, 1) := by decide +kernel
theorem dL_alike_109 : decode cL_alike 109 = .ok (.if_icmp .eq 68, 3) := by decide +kernel
theorem dL_alike_112 : decode cL_alike 112 = .ok (.aload_n 0, 1) := by decide +kernel
theorem dL_alike_113 : decode cL_alike 113 = .ok (.iload 4, 2) := by decide +kernel
theorem dL_alike_115 : decode cL_alike 115 = .ok (.invokestatic 120, 3) := by decide +kernel
theorem dL_alike_118 : decode cL_alike 118 = .ok (.aload_n 1, 1) := by decide +kernel
theorem dL_alike_119 : decode cL_alike 119 = .ok (.iload 4, 2) := by decide +kernel
theorem dL_alike_121 : decode cL_alike 121 = .ok (.invokestatic 120, 3) := by decide +kernel
theorem dL_alike_124 : decode cL_alike 124 = .ok (.if_icmp .ne 57, 3) := by decide +kernel
theorem dL_alike_127 : decode cL_alike 127 = .ok (.aload_n 0, 1) := by decide +kernel
theorem dL_alike_128 : decode cL_alike 128 = .ok (.iload 4, 2) := by decide +kernel
theorem dL_alike_130 : decode cL_alike 130 = .ok (.iconst 0, 1) := by decide +kernel
theorem dL_alike_131 : decode cL_alike 131 = .ok (.iload_n 2, 1) := by decide +kernel
theorem dL_alike_132 : decode cL_alike 132 = .ok (.bipush 40, 2) := by decide +kernel
theorem dL_alike_134 : decode cL_alike 134 = .ok (.irem, 1) := by decide +kernel
theorem dL_alike_135 : decode cL_alike 135 = .ok (.invokestatic 115, 3) := by decide +kernel
theorem dL_alike_138 : decode cL_alike 138 = .ok (.aload_n 1, 1) := by decide +kernel
theorem dL_alike_139 : decode cL_alike 139 = .ok (.iload 4, 2) := by decide +kernel
theorem dL_alike_141 : decode cL_alike 141 = .ok (.iconst 0, 1) := by decide +kernel
theorem dL_alike_142 : decode cL_alike 142 = .ok (.iload_n 2, 1) := by decide +kernel
theorem dL_alike_143 : decode cL_alike 143 = .ok (.bipush 40, 2) := by decide +kernel
theorem dL_alike_145 : decode cL_alike 145 = .ok (.irem, 1) := by decide +kernel
theorem dL_alike_146 : decode cL_alike 146 = .ok (.invokestatic 115, 3) := by decide +kernel
theorem dL_alike_149 : decode cL_alike 149 = .ok (.if_icmp .ne 32, 3) := by decide +kernel
theorem dL_alike_152 : decode cL_alike 152 = .ok (.aload_n 0, 1) := by decide +kernel
theorem dL_alike_153 : decode cL_alike 153 = .ok (.iload 4, 2) := by decide +kernel
theorem dL_alike_155 : decode cL_alike 155 = .ok (.iconst 1, 1) := by decide +kernel
theorem dL_alike_156 : decode cL_alike 156 = .ok (.iload_n 2, 1) := by decide +kernel
theorem dL_alike_157 : decode cL_alike 157 = .ok (.bipush 7, 2) := by decide +kernel
theorem dL_alike_159 : decode cL_alike 159 = .ok (.irem, 1) := by decide +kernel
theorem dL_alike_160 : decode cL_alike 160 = .ok (.invokestatic 115, 3) := by decide +kernel
theorem dL_alike_163 : decode cL_alike 163 = .ok (.aload_n 1, 1) := by decide +kernel
theorem dL_alike_164 : decode cL_alike 164 = .ok (.iload 4, 2) := by decide +kernel
theorem dL_alike_166 : decode cL_alike 166 = .ok (.iconst 1, 1) := by decide +kernel
theorem dL_alike_167 : decode cL_alike 167 = .ok (.iload_n 2, 1) := by decide +kernel
theorem dL_alike_168 : decode cL_alike 168 = .ok (.bipush 7, 2) := by decide +kernel
theorem dL_alike_170 : decode cL_alike 170 = .ok (.irem, 1) := by decide +kernel
theorem dL_alike_171 : decode cL_alike 171 = .ok (.invokestatic 115, 3) := by decide +kernel
theorem dL_alike_174 : decode cL_alike 174 = .ok (.if_icmp .ne 7, 3) := by decide +kernel
theorem dL_alike_177 : decode cL_alike 177 = .ok (.iconst 1, 1) := by decide +kernel
theorem dL_alike_178 : decode cL_alike 178 = .ok (.goto 4, 3) := by decide +kernel
theorem dL_alike_181 : decode cL_alike 181 = .ok (.iconst 0, 1) := by decide +kernel
theorem dL_alike_182 : decode cL_alike 182 = .ok (.istore_n 3, 1) := by decide +kernel
theorem dL_alike_183 : decode cL_alike 183 = .ok (.iinc 4 1, 3) := by decide +kernel
theorem dL_alike_186 : decode cL_alike 186 = .ok (.goto (-122), 3) := by decide +kernel
theorem dL_alike_189 : decode cL_alike 189 = .ok (.iconst 0, 1) := by decide +kernel
theorem dL_alike_190 : decode cL_alike 190 = .ok (.istore 4, 2) := by decide +kernel
theorem dL_alike_192 : decode cL_alike 192 = .ok (.iload 4, 2) := by decide +kernel
theorem dL_alike_194 : decode cL_alike 194 = .ok (.bipush 48, 2) := by decide +kernel
theorem dL_alike_196 : decode cL_alike 196 = .ok (.if_icmp .ge 83, 3) := by decide +kernel
theorem dL_alike_199 : decode cL_alike 199 = .ok (.iload_n 3, 1) := by decide +kernel
theorem dL_alike_200 : decode cL_alike 200 = .ok (.ifCond .eq 79, 3) := by decide +kernel
theorem dL_alike_203 : decode cL_alike 203 = .ok (.aload_n 0, 1) := by decide +kernel
theorem dL_alike_204 : decode cL_alike 204 = .ok (.iload 4, 2) := by decide +kernel
theorem dL_alike_206 : decode cL_alike 206 = .ok (.bipush 12, 2) := by decide +kernel
theorem dL_alike_208 : decode cL_alike 208 = .ok (.idiv, 1) := by decide +kernel
theorem dL_alike_209 : decode cL_alike 209 = .ok (.iload 4, 2) := by decide +kernel
theorem dL_alike_211 : decode cL_alike 211 = .ok (.bipush 12, 2) := by decide +kernel
theorem dL_alike_213 : decode cL_alike 213 = .ok (.irem, 1) := by decide +kernel
theorem dL_alike_214 : decode cL_alike 214 = .ok (.iconst 0, 1) := by decide +kernel
theorem dL_alike_215 : decode cL_alike 215 = .ok (.invokestatic 125, 3) := by decide +kernel
theorem dL_alike_218 : decode cL_alike 218 = .ok (.aload_n 1, 1) := by decide +kernel
theorem dL_alike_219 : decode cL_alike 219 = .ok (.iload 4, 2) := by decide +kernel
theorem dL_alike_221 : decode cL_alike 221 = .ok (.bipush 12, 2) := by decide +kernel
theorem dL_alike_223 : decode cL_alike 223 = .ok (.idiv, 1) := by decide +kernel
theorem dL_alike_224 : decode cL_alike 224 = .ok (.iload 4, 2) := by decide +kernel
theorem dL_alike_226 : decode cL_alike 226 = .ok (.bipush 12, 2) := by decide +kernel
theorem dL_alike_228 : decode cL_alike 228 = .ok (.irem, 1) := by decide +kernel
theorem dL_alike_229 : decode cL_alike 229 = .ok (.iconst 0, 1) := by decide +kernel
theorem dL_alike_230 : decode cL_alike 230 = .ok (.invokestatic 125, 3) := by decide +kernel
theorem dL_alike_233 : decode cL_alike 233 = .ok (.if_icmp .ne 38, 3) := by decide +kernel
theorem dL_alike_236 : decode cL_alike 236 = .ok (.aload_n 0, 1) := by decide +kernel
theorem dL_alike_237 : decode cL_alike 237 = .ok (.iload 4, 2) := by decide +kernel
theorem dL_alike_239 : decode cL_alike 239 = .ok (.bipush 12, 2) := by decide +kernel
theorem dL_alike_241 : decode cL_alike 241 = .ok (.idiv, 1) := by decide +kernel
theorem dL_alike_242 : decode cL_alike 242 = .ok (.iload 4, 2) := by decide +kernel
theorem dL_alike_244 : decode cL_alike 244 = .ok (.bipush 12, 2) := by decide +kernel
theorem dL_alike_246 : decode cL_alike 246 = .ok (.irem, 1) := by decide +kernel
theorem dL_alike_247 : decode cL_alike 247 = .ok (.invokestatic 131, 3) := by decide +kernel
theorem dL_alike_250 : decode cL_alike 250 = .ok (.aload_n 1, 1) := by decide +kernel
theorem dL_alike_251 : decode cL_alike 251 = .ok (.iload 4, 2) := by decide +kernel
theorem dL_alike_253 : decode cL_alike 253 = .ok (.bipush 12, 2) := by decide +kernel
theorem dL_alike_255 : decode cL_alike 255 = .ok (.idiv, 1) := by decide +kernel
theorem dL_alike_256 : decode cL_alike 256 = .ok (.iload 4, 2) := by decide +kernel
theorem dL_alike_258 : decode cL_alike 258 = .ok (.bipush 12, 2) := by decide +kernel
theorem dL_alike_260 : decode cL_alike 260 = .ok (.irem, 1) := by decide +kernel
theorem dL_alike_261 : decode cL_alike 261 = .ok (.invokestatic 131, 3) := by decide +kernel
theorem dL_alike_264 : decode cL_alike 264 = .ok (.if_icmp .ne 7, 3) := by decide +kernel
theorem dL_alike_267 : decode cL_alike 267 = .ok (.iconst 1, 1) := by decide +kernel
theorem dL_alike_268 : decode cL_alike 268 = .ok (.goto 4, 3) := by decide +kernel
theorem dL_alike_271 : decode cL_alike 271 = .ok (.iconst 0, 1) := by decide +kernel
theorem dL_alike_272 : decode cL_alike 272 = .ok (.istore_n 3, 1) := by decide +kernel
theorem dL_alike_273 : decode cL_alike 273 = .ok (.iinc 4 1, 3) := by decide +kernel
theorem dL_alike_276 : decode cL_alike 276 = .ok (.goto (-84), 3) := by decide +kernel
theorem dL_alike_279 : decode cL_alike 279 = .ok (.iload_n 3, 1) := by decide +kernel
theorem dL_alike_280 : decode cL_alike 280 = .ok (.ireturn, 1) := by decide +kernel
theorem dL_isOwn_0 : decode cL_isOwn 0 = .ok (.iload_n 2, 1) := by decide +kernel
theorem dL_isOwn_1 : decode cL_isOwn 1 = .ok (.ldc 34, 2) := by decide +kernel
theorem dL_isOwn_3 : decode cL_isOwn 3 = .ok (.if_icmp .ne 5, 3) := by decide +kernel
theorem dL_isOwn_6 : decode cL_isOwn 6 = .ok (.iconst 1, 1) := by decide +kernel
theorem dL_isOwn_7 : decode cL_isOwn 7 = .ok (.ireturn, 1) := by decide +kernel
theorem dL_isOwn_8 : decode cL_isOwn 8 = .ok (.iload_n 2, 1) := by decide +kernel
theorem dL_isOwn_9 : decode cL_isOwn 9 = .ok (.ifCond .lt 49, 3) := by decide +kernel
theorem dL_isOwn_12 : decode cL_isOwn 12 = .ok (.iload_n 2, 1) := by decide +kernel
theorem dL_isOwn_13 : decode cL_isOwn 13 = .ok (.bipush 100, 2) := by decide +kernel
theorem dL_isOwn_15 : decode cL_isOwn 15 = .ok (.irem, 1) := by decide +kernel
theorem dL_isOwn_16 : decode cL_isOwn 16 = .ok (.bipush 40, 2) := by decide +kernel
theorem dL_isOwn_18 : decode cL_isOwn 18 = .ok (.if_icmp .ge 40, 3) := by decide +kernel
theorem dL_isOwn_21 : decode cL_isOwn 21 = .ok (.aload_n 0, 1) := by decide +kernel
theorem dL_isOwn_22 : decode cL_isOwn 22 = .ok (.iload_n 2, 1) := by decide +kernel
theorem dL_isOwn_23 : decode cL_isOwn 23 = .ok (.bipush 100, 2) := by decide +kernel
theorem dL_isOwn_25 : decode cL_isOwn 25 = .ok (.idiv, 1) := by decide +kernel
theorem dL_isOwn_26 : decode cL_isOwn 26 = .ok (.iload_n 2, 1) := by decide +kernel
theorem dL_isOwn_27 : decode cL_isOwn 27 = .ok (.bipush 100, 2) := by decide +kernel
theorem dL_isOwn_29 : decode cL_isOwn 29 = .ok (.irem, 1) := by decide +kernel
theorem dL_isOwn_30 : decode cL_isOwn 30 = .ok (.invokestatic 118, 3) := by decide +kernel
theorem dL_isOwn_33 : decode cL_isOwn 33 = .ok (.ifCond .ne 25, 3) := by decide +kernel
theorem dL_isOwn_36 : decode cL_isOwn 36 = .ok (.aload_n 1, 1) := by decide +kernel
theorem dL_isOwn_37 : decode cL_isOwn 37 = .ok (.iload_n 2, 1) := by decide +kernel
theorem dL_isOwn_38 : decode cL_isOwn 38 = .ok (.bipush 100, 2) := by decide +kernel
theorem dL_isOwn_40 : decode cL_isOwn 40 = .ok (.idiv, 1) := by decide +kernel
theorem dL_isOwn_41 : decode cL_isOwn 41 = .ok (.laload, 1) := by decide +kernel
theorem dL_isOwn_42 : decode cL_isOwn 42 = .ok (.iload_n 2, 1) := by decide +kernel
theorem dL_isOwn_43 : decode cL_isOwn 43 = .ok (.bipush 100, 2) := by decide +kernel
theorem dL_isOwn_45 : decode cL_isOwn 45 = .ok (.irem, 1) := by decide +kernel
theorem dL_isOwn_46 : decode cL_isOwn 46 = .ok (.lushr, 1) := by decide +kernel
theorem dL_isOwn_47 : decode cL_isOwn 47 = .ok (.lconst 1, 1) := by decide +kernel
theorem dL_isOwn_48 : decode cL_isOwn 48 = .ok (.land, 1) := by decide +kernel
theorem dL_isOwn_49 : decode cL_isOwn 49 = .ok (.lconst 0, 1) := by decide +kernel
theorem dL_isOwn_50 : decode cL_isOwn 50 = .ok (.lcmp, 1) := by decide +kernel
theorem dL_isOwn_51 : decode cL_isOwn 51 = .ok (.ifCond .ne 7, 3) := by decide +kernel
theorem dL_isOwn_54 : decode cL_isOwn 54 = .ok (.iconst 1, 1) := by decide +kernel
theorem dL_isOwn_55 : decode cL_isOwn 55 = .ok (.goto 4, 3) := by decide +kernel
theorem dL_isOwn_58 : decode cL_isOwn 58 = .ok (.iconst 0, 1) := by decide +kernel
theorem dL_isOwn_59 : decode cL_isOwn 59 = .ok (.istore_n 3, 1) := by decide +kernel
theorem dL_isOwn_60 : decode cL_isOwn 60 = .ok (.aload_n 1, 1) := by decide +kernel
theorem dL_isOwn_61 : decode cL_isOwn 61 = .ok (.iload_n 2, 1) := by decide +kernel
theorem dL_isOwn_62 : decode cL_isOwn 62 = .ok (.bipush 100, 2) := by decide +kernel
theorem dL_isOwn_64 : decode cL_isOwn 64 = .ok (.idiv, 1) := by decide +kernel
