/-! ===== by program (wip/p29/lawdec.py): the law's instructions ===== -/
theorem dL_isTrue_80 : decode cL_isTrue 80 = .ok (.aload_n 0, 1) := by decide +kernel
theorem dL_isTrue_81 : decode cL_isTrue 81 = .ok (.invokevirtual 155, 3) := by decide +kernel
theorem dL_isTrue_84 : decode cL_isTrue 84 = .ok (.iload_n 3, 1) := by decide +kernel
theorem dL_isTrue_85 : decode cL_isTrue 85 = .ok (.if_icmp .ne 7, 3) := by decide +kernel
theorem dL_isTrue_88 : decode cL_isTrue 88 = .ok (.iconst 1, 1) := by decide +kernel
theorem dL_isTrue_89 : decode cL_isTrue 89 = .ok (.goto 4, 3) := by decide +kernel
theorem dL_isTrue_92 : decode cL_isTrue 92 = .ok (.iconst 0, 1) := by decide +kernel
theorem dL_isTrue_93 : decode cL_isTrue 93 = .ok (.ireturn, 1) := by decide +kernel
theorem dL_sides_0 : decode cL_sides 0 = .ok (.new 8, 3) := by decide +kernel
theorem dL_sides_3 : decode cL_sides 3 = .ok (.dup, 1) := by decide +kernel
theorem dL_sides_4 : decode cL_sides 4 = .ok (.invokespecial 165, 3) := by decide +kernel
theorem dL_sides_7 : decode cL_sides 7 = .ok (.astore_n 1, 1) := by decide +kernel
theorem dL_sides_8 : decode cL_sides 8 = .ok (.iconst 1, 1) := by decide +kernel
theorem dL_sides_9 : decode cL_sides 9 = .ok (.istore_n 2, 1) := by decide +kernel
theorem dL_sides_10 : decode cL_sides 10 = .ok (.iconst 0, 1) := by decide +kernel
theorem dL_sides_11 : decode cL_sides 11 = .ok (.istore_n 3, 1) := by decide +kernel
theorem dL_sides_12 : decode cL_sides 12 = .ok (.iload_n 3, 1) := by decide +kernel
theorem dL_sides_13 : decode cL_sides 13 = .ok (.bipush 20, 2) := by decide +kernel
theorem dL_sides_15 : decode cL_sides 15 = .ok (.if_icmp .ge 36, 3) := by decide +kernel
theorem dL_sides_18 : decode cL_sides 18 = .ok (.iload_n 2, 1) := by decide +kernel
theorem dL_sides_19 : decode cL_sides 19 = .ok (.ifCond .eq 32, 3) := by decide +kernel
theorem dL_sides_22 : decode cL_sides 22 = .ok (.aload_n 1, 1) := by decide +kernel
theorem dL_sides_23 : decode cL_sides 23 = .ok (.iload_n 3, 1) := by decide +kernel
theorem dL_sides_24 : decode cL_sides 24 = .ok (.iconst 4, 1) := by decide +kernel
theorem dL_sides_25 : decode cL_sides 25 = .ok (.irem, 1) := by decide +kernel
theorem dL_sides_26 : decode cL_sides 26 = .ok (.iload_n 3, 1) := by decide +kernel
theorem dL_sides_27 : decode cL_sides 27 = .ok (.iconst 4, 1) := by decide +kernel
theorem dL_sides_28 : decode cL_sides 28 = .ok (.idiv, 1) := by decide +kernel
theorem dL_sides_29 : decode cL_sides 29 = .ok (.bipush 100, 2) := by decide +kernel
theorem dL_sides_31 : decode cL_sides 31 = .ok (.iload_n 3, 1) := by decide +kernel
theorem dL_sides_32 : decode cL_sides 32 = .ok (.iadd, 1) := by decide +kernel
theorem dL_sides_33 : decode cL_sides 33 = .ok (.invokestatic 84, 3) := by decide +kernel
theorem dL_sides_36 : decode cL_sides 36 = .ok (.ifCond .ne 7, 3) := by decide +kernel
theorem dL_sides_39 : decode cL_sides 39 = .ok (.iconst 1, 1) := by decide +kernel
theorem dL_sides_40 : decode cL_sides 40 = .ok (.goto 4, 3) := by decide +kernel
theorem dL_sides_43 : decode cL_sides 43 = .ok (.iconst 0, 1) := by decide +kernel
theorem dL_sides_44 : decode cL_sides 44 = .ok (.istore_n 2, 1) := by decide +kernel
theorem dL_sides_45 : decode cL_sides 45 = .ok (.iinc 3 1, 3) := by decide +kernel
theorem dL_sides_48 : decode cL_sides 48 = .ok (.goto (-36), 3) := by decide +kernel
theorem dL_sides_51 : decode cL_sides 51 = .ok (.iload_n 2, 1) := by decide +kernel
theorem dL_sides_52 : decode cL_sides 52 = .ok (.ifCond .eq 16, 3) := by decide +kernel
theorem dL_sides_55 : decode cL_sides 55 = .ok (.aload_n 1, 1) := by decide +kernel
theorem dL_sides_56 : decode cL_sides 56 = .ok (.invokestatic 136, 3) := by decide +kernel
theorem dL_sides_59 : decode cL_sides 59 = .ok (.bipush 30, 2) := by decide +kernel
theorem dL_sides_61 : decode cL_sides 61 = .ok (.if_icmp .ne 7, 3) := by decide +kernel
theorem dL_sides_64 : decode cL_sides 64 = .ok (.iconst 1, 1) := by decide +kernel
theorem dL_sides_65 : decode cL_sides 65 = .ok (.goto 4, 3) := by decide +kernel
theorem dL_sides_68 : decode cL_sides 68 = .ok (.iconst 0, 1) := by decide +kernel
theorem dL_sides_69 : decode cL_sides 69 = .ok (.istore_n 2, 1) := by decide +kernel
theorem dL_sides_70 : decode cL_sides 70 = .ok (.iconst 0, 1) := by decide +kernel
theorem dL_sides_71 : decode cL_sides 71 = .ok (.istore_n 3, 1) := by decide +kernel
theorem dL_sides_72 : decode cL_sides 72 = .ok (.iconst 0, 1) := by decide +kernel
theorem dL_sides_73 : decode cL_sides 73 = .ok (.istore 4, 2) := by decide +kernel
theorem dL_sides_75 : decode cL_sides 75 = .ok (.iload 4, 2) := by decide +kernel
theorem dL_sides_77 : decode cL_sides 77 = .ok (.iconst 3, 1) := by decide +kernel
theorem dL_sides_78 : decode cL_sides 78 = .ok (.if_icmp .ge 92, 3) := by decide +kernel
theorem dL_sides_81 : decode cL_sides 81 = .ok (.iload_n 2, 1) := by decide +kernel
theorem dL_sides_82 : decode cL_sides 82 = .ok (.ifCond .eq 88, 3) := by decide +kernel
theorem dL_sides_85 : decode cL_sides 85 = .ok (.iconst 0, 1) := by decide +kernel
theorem dL_sides_86 : decode cL_sides 86 = .ok (.istore 5, 2) := by decide +kernel
theorem dL_sides_88 : decode cL_sides 88 = .ok (.iload 5, 2) := by decide +kernel
theorem dL_sides_90 : decode cL_sides 90 = .ok (.bipush 40, 2) := by decide +kernel
theorem dL_sides_92 : decode cL_sides 92 = .ok (.if_icmp .ge 72, 3) := by decide +kernel
theorem dL_sides_95 : decode cL_sides 95 = .ok (.iload_n 2, 1) := by decide +kernel
theorem dL_sides_96 : decode cL_sides 96 = .ok (.ifCond .eq 68, 3) := by decide +kernel
theorem dL_sides_99 : decode cL_sides 99 = .ok (.aload_n 1, 1) := by decide +kernel
theorem dL_sides_100 : decode cL_sides 100 = .ok (.iload 4, 2) := by decide +kernel
theorem dL_sides_102 : decode cL_sides 102 = .ok (.iload_n 0, 1) := by decide +kernel
theorem dL_sides_103 : decode cL_sides 103 = .ok (.iload 4, 2) := by decide +kernel
theorem dL_sides_105 : decode cL_sides 105 = .ok (.ishr, 1) := by decide +kernel
theorem dL_sides_106 : decode cL_sides 106 = .ok (.iconst 1, 1) := by decide +kernel
theorem dL_sides_107 : decode cL_sides 107 = .ok (.iand, 1) := by decide +kernel
theorem dL_sides_108 : decode cL_sides 108 = .ok (.iload 5, 2) := by decide +kernel
theorem dL_sides_110 : decode cL_sides 110 = .ok (.invokestatic 112, 3) := by decide +kernel
theorem dL_sides_113 : decode cL_sides 113 = .ok (.istore 6, 2) := by decide +kernel
theorem dL_sides_115 : decode cL_sides 115 = .ok (.iload_n 3, 1) := by decide +kernel
theorem dL_sides_116 : decode cL_sides 116 = .ok (.iload 6, 2) := by decide +kernel
theorem dL_sides_118 : decode cL_sides 118 = .ok (.iconst 1, 1) := by decide +kernel
theorem dL_sides_119 : decode cL_sides 119 = .ok (.if_icmp .ne 7, 3) := by decide +kernel
theorem dL_sides_122 : decode cL_sides 122 = .ok (.iconst 1, 1) := by decide +kernel
theorem dL_sides_123 : decode cL_sides 123 = .ok (.goto 4, 3) := by decide +kernel
theorem dL_sides_126 : decode cL_sides 126 = .ok (.iconst 0, 1) := by decide +kernel
theorem dL_sides_127 : decode cL_sides 127 = .ok (.iadd, 1) := by decide +kernel
theorem dL_sides_128 : decode cL_sides 128 = .ok (.istore_n 3, 1) := by decide +kernel
theorem dL_sides_129 : decode cL_sides 129 = .ok (.iload 6, 2) := by decide +kernel
theorem dL_sides_131 : decode cL_sides 131 = .ok (.aload_n 1, 1) := by decide +kernel
theorem dL_sides_132 : decode cL_sides 132 = .ok (.iload 4, 2) := by decide +kernel
theorem dL_sides_134 : decode cL_sides 134 = .ok (.iload 5, 2) := by decide +kernel
theorem dL_sides_136 : decode cL_sides 136 = .ok (.invokestatic 118, 3) := by decide +kernel
theorem dL_sides_139 : decode cL_sides 139 = .ok (.iconst 1, 1) := by decide +kernel
theorem dL_sides_140 : decode cL_sides 140 = .ok (.if_icmp .ne 8, 3) := by decide +kernel
theorem dL_sides_143 : decode cL_sides 143 = .ok (.ldc 28, 2) := by decide +kernel
theorem dL_sides_145 : decode cL_sides 145 = .ok (.goto 4, 3) := by decide +kernel
theorem dL_sides_148 : decode cL_sides 148 = .ok (.iconst 1, 1) := by decide +kernel
theorem dL_sides_149 : decode cL_sides 149 = .ok (.if_icmp .ne 7, 3) := by decide +kernel
theorem dL_sides_152 : decode cL_sides 152 = .ok (.iconst 1, 1) := by decide +kernel
theorem dL_sides_153 : decode cL_sides 153 = .ok (.goto 4, 3) := by decide +kernel
theorem dL_sides_156 : decode cL_sides 156 = .ok (.iconst 0, 1) := by decide +kernel
theorem dL_sides_157 : decode cL_sides 157 = .ok (.istore_n 2, 1) := by decide +kernel
theorem dL_sides_158 : decode cL_sides 158 = .ok (.iinc 5 1, 3) := by decide +kernel
theorem dL_sides_161 : decode cL_sides 161 = .ok (.goto (-73), 3) := by decide +kernel
theorem dL_sides_164 : decode cL_sides 164 = .ok (.iinc 4 1, 3) := by decide +kernel
theorem dL_sides_167 : decode cL_sides 167 = .ok (.goto (-92), 3) := by decide +kernel
theorem dL_sides_170 : decode cL_sides 170 = .ok (.iload_n 2, 1) := by decide +kernel
theorem dL_sides_171 : decode cL_sides 171 = .ok (.ifCond .eq 20, 3) := by decide +kernel
theorem dL_sides_174 : decode cL_sides 174 = .ok (.iload_n 3, 1) := by decide +kernel
theorem dL_sides_175 : decode cL_sides 175 = .ok (.bipush 30, 2) := by decide +kernel
theorem dL_sides_177 : decode cL_sides 177 = .ok (.if_icmp .ne 14, 3) := by decide +kernel
theorem dL_sides_180 : decode cL_sides 180 = .ok (.aload_n 1, 1) := by decide +kernel
theorem dL_sides_181 : decode cL_sides 181 = .ok (.invokevirtual 155, 3) := by decide +kernel
theorem dL_sides_184 : decode cL_sides 184 = .ok (.ifCond .ne 7, 3) := by decide +kernel
theorem dL_sides_187 : decode cL_sides 187 = .ok (.iconst 1, 1) := by decide +kernel
theorem dL_sides_188 : decode cL_sides 188 = .ok (.goto 4, 3) := by decide +kernel
theorem dL_sides_191 : decode cL_sides 191 = .ok (.iconst 0, 1) := by decide +kernel
theorem dL_sides_192 : decode cL_sides 192 = .ok (.istore_n 2, 1) := by decide +kernel
theorem dL_sides_193 : decode cL_sides 193 = .ok (.iconst 0, 1) := by decide +kernel
theorem dL_sides_194 : decode cL_sides 194 = .ok (.istore 4, 2) := by decide +kernel
theorem dL_sides_196 : decode cL_sides 196 = .ok (.iload 4, 2) := by decide +kernel
theorem dL_sides_198 : decode cL_sides 198 = .ok (.bipush 20, 2) := by decide +kernel
theorem dL_sides_200 : decode cL_sides 200 = .ok (.if_icmp .ge 39, 3) := by decide +kernel
theorem dL_sides_203 : decode cL_sides 203 = .ok (.iload_n 2, 1) := by decide +kernel
theorem dL_sides_204 : decode cL_sides 204 = .ok (.ifCond .eq 35, 3) := by decide +kernel
theorem dL_sides_207 : decode cL_sides 207 = .ok (.aload_n 1, 1) := by decide +kernel
theorem dL_sides_208 : decode cL_sides 208 = .ok (.iload 4, 2) := by decide +kernel
theorem dL_sides_210 : decode cL_sides 210 = .ok (.iconst 4, 1) := by decide +kernel
theorem dL_sides_211 : decode cL_sides 211 = .ok (.irem, 1) := by decide +kernel
theorem dL_sides_212 : decode cL_sides 212 = .ok (.iload 4, 2) := by decide +kernel
theorem dL_sides_214 : decode cL_sides 214 = .ok (.iconst 4, 1) := by decide +kernel
theorem dL_sides_215 : decode cL_sides 215 = .ok (.idiv, 1) := by decide +kernel
theorem dL_sides_216 : decode cL_sides 216 = .ok (.invokestatic 97, 3) := by decide +kernel
theorem dL_sides_219 : decode cL_sides 219 = .ok (.bipush 100, 2) := by decide +kernel
theorem dL_sides_221 : decode cL_sides 221 = .ok (.iload 4, 2) := by decide +kernel
theorem dL_sides_223 : decode cL_sides 223 = .ok (.iadd, 1) := by decide +kernel
theorem dL_sides_224 : decode cL_sides 224 = .ok (.if_icmp .ne 7, 3) := by decide +kernel
theorem dL_sides_227 : decode cL_sides 227 = .ok (.iconst 1, 1) := by decide +kernel
theorem dL_sides_228 : decode cL_sides 228 = .ok (.goto 4, 3) := by decide +kernel
theorem dL_sides_231 : decode cL_sides 231 = .ok (.iconst 0, 1) := by decide +kernel
theorem dL_sides_232 : decode cL_sides 232 = .ok (.istore_n 2, 1) := by decide +kernel
theorem dL_sides_233 : decode cL_sides 233 = .ok (.iinc 4 1, 3) := by decide +kernel
theorem dL_sides_236 : decode cL_sides 236 = .ok (.goto (-40), 3) := by decide +kernel
theorem dL_sides_239 : decode cL_sides 239 = .ok (.aload_n 1, 1) := by decide +kernel
theorem dL_sides_240 : decode cL_sides 240 = .ok (.invokevirtual 152, 3) := by decide +kernel
theorem dL_sides_243 : decode cL_sides 243 = .ok (.istore 4, 2) := by decide +kernel
theorem dL_sides_245 : decode cL_sides 245 = .ok (.iload_n 2, 1) := by decide +kernel
theorem dL_sides_246 : decode cL_sides 246 = .ok (.ifCond .eq 35, 3) := by decide +kernel
theorem dL_sides_249 : decode cL_sides 249 = .ok (.aload_n 1, 1) := by decide +kernel
theorem dL_sides_250 : decode cL_sides 250 = .ok (.invokevirtual 143, 3) := by decide +kernel
theorem dL_sides_253 : decode cL_sides 253 = .ok (.bipush 30, 2) := by decide +kernel
theorem dL_sides_255 : decode cL_sides 255 = .ok (.iload 4, 2) := by decide +kernel
theorem dL_sides_257 : decode cL_sides 257 = .ok (.isub, 1) := by decide +kernel
theorem dL_sides_258 : decode cL_sides 258 = .ok (.if_icmp .ne 23, 3) := by decide +kernel
theorem dL_sides_261 : decode cL_sides 261 = .ok (.aload_n 1, 1) := by decide +kernel
theorem dL_sides_262 : decode cL_sides 262 = .ok (.invokevirtual 152, 3) := by decide +kernel
theorem dL_sides_265 : decode cL_sides 265 = .ok (.bipush 30, 2) := by decide +kernel
theorem dL_sides_267 : decode cL_sides 267 = .ok (.if_icmp .ne 14, 3) := by decide +kernel
