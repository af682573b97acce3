/-! ===== by program (wip/p29/lawdec.py): the law's instructions ===== -/
theorem dL_isOwn_65 : decode cL_isOwn 65 = .ok (.dup2, 1) := by decide +kernel
theorem dL_isOwn_66 : decode cL_isOwn 66 = .ok (.laload, 1) := by decide +kernel
theorem dL_isOwn_67 : decode cL_isOwn 67 = .ok (.iload_n 3, 1) := by decide +kernel
theorem dL_isOwn_68 : decode cL_isOwn 68 = .ok (.ifCond .eq 12, 3) := by decide +kernel
theorem dL_isOwn_71 : decode cL_isOwn 71 = .ok (.lconst 1, 1) := by decide +kernel
theorem dL_isOwn_72 : decode cL_isOwn 72 = .ok (.iload_n 2, 1) := by decide +kernel
theorem dL_isOwn_73 : decode cL_isOwn 73 = .ok (.bipush 100, 2) := by decide +kernel
theorem dL_isOwn_75 : decode cL_isOwn 75 = .ok (.irem, 1) := by decide +kernel
theorem dL_isOwn_76 : decode cL_isOwn 76 = .ok (.lshl, 1) := by decide +kernel
theorem dL_isOwn_77 : decode cL_isOwn 77 = .ok (.goto 4, 3) := by decide +kernel
theorem dL_isOwn_80 : decode cL_isOwn 80 = .ok (.lconst 0, 1) := by decide +kernel
theorem dL_isOwn_81 : decode cL_isOwn 81 = .ok (.lor, 1) := by decide +kernel
theorem dL_isOwn_82 : decode cL_isOwn 82 = .ok (.lastore, 1) := by decide +kernel
theorem dL_isOwn_83 : decode cL_isOwn 83 = .ok (.iload_n 3, 1) := by decide +kernel
theorem dL_isOwn_84 : decode cL_isOwn 84 = .ok (.ireturn, 1) := by decide +kernel
theorem dL_holds_0 : decode cL_holds 0 = .ok (.iconst 0, 1) := by decide +kernel
theorem dL_holds_1 : decode cL_holds 1 = .ok (.istore 4, 2) := by decide +kernel
theorem dL_holds_3 : decode cL_holds 3 = .ok (.iload 4, 2) := by decide +kernel
theorem dL_holds_5 : decode cL_holds 5 = .ok (.iconst 3, 1) := by decide +kernel
theorem dL_holds_6 : decode cL_holds 6 = .ok (.if_icmp .ge 14, 3) := by decide +kernel
theorem dL_holds_9 : decode cL_holds 9 = .ok (.aload_n 3, 1) := by decide +kernel
theorem dL_holds_10 : decode cL_holds 10 = .ok (.iload 4, 2) := by decide +kernel
theorem dL_holds_12 : decode cL_holds 12 = .ok (.lconst 0, 1) := by decide +kernel
theorem dL_holds_13 : decode cL_holds 13 = .ok (.lastore, 1) := by decide +kernel
theorem dL_holds_14 : decode cL_holds 14 = .ok (.iinc 4 1, 3) := by decide +kernel
theorem dL_holds_17 : decode cL_holds 17 = .ok (.goto (-14), 3) := by decide +kernel
theorem dL_holds_20 : decode cL_holds 20 = .ok (.iconst 0, 1) := by decide +kernel
theorem dL_holds_21 : decode cL_holds 21 = .ok (.istore 4, 2) := by decide +kernel
theorem dL_holds_23 : decode cL_holds 23 = .ok (.aload_n 0, 1) := by decide +kernel
theorem dL_holds_24 : decode cL_holds 24 = .ok (.aload_n 3, 1) := by decide +kernel
theorem dL_holds_25 : decode cL_holds 25 = .ok (.aload_n 0, 1) := by decide +kernel
theorem dL_holds_26 : decode cL_holds 26 = .ok (.iconst 0, 1) := by decide +kernel
theorem dL_holds_27 : decode cL_holds 27 = .ok (.invokestatic 129, 3) := by decide +kernel
theorem dL_holds_30 : decode cL_holds 30 = .ok (.invokestatic 161, 3) := by decide +kernel
theorem dL_holds_33 : decode cL_holds 33 = .ok (.ifCond .eq 20, 3) := by decide +kernel
theorem dL_holds_36 : decode cL_holds 36 = .ok (.aload_n 0, 1) := by decide +kernel
theorem dL_holds_37 : decode cL_holds 37 = .ok (.aload_n 3, 1) := by decide +kernel
theorem dL_holds_38 : decode cL_holds 38 = .ok (.aload_n 0, 1) := by decide +kernel
theorem dL_holds_39 : decode cL_holds 39 = .ok (.iconst 1, 1) := by decide +kernel
theorem dL_holds_40 : decode cL_holds 40 = .ok (.invokestatic 129, 3) := by decide +kernel
theorem dL_holds_43 : decode cL_holds 43 = .ok (.invokestatic 161, 3) := by decide +kernel
theorem dL_holds_46 : decode cL_holds 46 = .ok (.ifCond .eq 7, 3) := by decide +kernel
theorem dL_holds_49 : decode cL_holds 49 = .ok (.iconst 1, 1) := by decide +kernel
theorem dL_holds_50 : decode cL_holds 50 = .ok (.goto 4, 3) := by decide +kernel
theorem dL_holds_53 : decode cL_holds 53 = .ok (.iconst 0, 1) := by decide +kernel
theorem dL_holds_54 : decode cL_holds 54 = .ok (.istore 5, 2) := by decide +kernel
theorem dL_holds_56 : decode cL_holds 56 = .ok (.iconst 0, 1) := by decide +kernel
theorem dL_holds_57 : decode cL_holds 57 = .ok (.istore 6, 2) := by decide +kernel
theorem dL_holds_59 : decode cL_holds 59 = .ok (.iconst 0, 1) := by decide +kernel
theorem dL_holds_60 : decode cL_holds 60 = .ok (.istore 7, 2) := by decide +kernel
theorem dL_holds_62 : decode cL_holds 62 = .ok (.iload 7, 2) := by decide +kernel
theorem dL_holds_64 : decode cL_holds 64 = .ok (.iconst 4, 1) := by decide +kernel
theorem dL_holds_65 : decode cL_holds 65 = .ok (.if_icmp .ge 354, 3) := by decide +kernel
theorem dL_holds_68 : decode cL_holds 68 = .ok (.iload 5, 2) := by decide +kernel
theorem dL_holds_70 : decode cL_holds 70 = .ok (.ifCond .eq 349, 3) := by decide +kernel
theorem dL_holds_73 : decode cL_holds 73 = .ok (.iconst 0, 1) := by decide +kernel
theorem dL_holds_74 : decode cL_holds 74 = .ok (.istore 8, 2) := by decide +kernel
theorem dL_holds_76 : decode cL_holds 76 = .ok (.iconst 0, 1) := by decide +kernel
theorem dL_holds_77 : decode cL_holds 77 = .ok (.istore 9, 2) := by decide +kernel
theorem dL_holds_79 : decode cL_holds 79 = .ok (.iload 9, 2) := by decide +kernel
theorem dL_holds_81 : decode cL_holds 81 = .ok (.bipush 12, 2) := by decide +kernel
theorem dL_holds_83 : decode cL_holds 83 = .ok (.if_icmp .ge 236, 3) := by decide +kernel
theorem dL_holds_86 : decode cL_holds 86 = .ok (.iload 5, 2) := by decide +kernel
theorem dL_holds_88 : decode cL_holds 88 = .ok (.ifCond .eq 231, 3) := by decide +kernel
theorem dL_holds_91 : decode cL_holds 91 = .ok (.bipush 12, 2) := by decide +kernel
theorem dL_holds_93 : decode cL_holds 93 = .ok (.iload 7, 2) := by decide +kernel
theorem dL_holds_95 : decode cL_holds 95 = .ok (.imul, 1) := by decide +kernel
theorem dL_holds_96 : decode cL_holds 96 = .ok (.iload 9, 2) := by decide +kernel
theorem dL_holds_98 : decode cL_holds 98 = .ok (.iadd, 1) := by decide +kernel
theorem dL_holds_99 : decode cL_holds 99 = .ok (.istore 10, 2) := by decide +kernel
theorem dL_holds_101 : decode cL_holds 101 = .ok (.iload 8, 2) := by decide +kernel
theorem dL_holds_103 : decode cL_holds 103 = .ok (.ifCond .ne 10, 3) := by decide +kernel
theorem dL_holds_106 : decode cL_holds 106 = .ok (.aload_n 2, 1) := by decide +kernel
theorem dL_holds_107 : decode cL_holds 107 = .ok (.iload 10, 2) := by decide +kernel
theorem dL_holds_109 : decode cL_holds 109 = .ok (.iaload, 1) := by decide +kernel
theorem dL_holds_110 : decode cL_holds 110 = .ok (.ifCond .le 7, 3) := by decide +kernel
theorem dL_holds_113 : decode cL_holds 113 = .ok (.iconst 1, 1) := by decide +kernel
theorem dL_holds_114 : decode cL_holds 114 = .ok (.goto 4, 3) := by decide +kernel
theorem dL_holds_117 : decode cL_holds 117 = .ok (.iconst 0, 1) := by decide +kernel
theorem dL_holds_118 : decode cL_holds 118 = .ok (.istore 8, 2) := by decide +kernel
theorem dL_holds_120 : decode cL_holds 120 = .ok (.iload 4, 2) := by decide +kernel
theorem dL_holds_122 : decode cL_holds 122 = .ok (.aload_n 0, 1) := by decide +kernel
theorem dL_holds_123 : decode cL_holds 123 = .ok (.iload 7, 2) := by decide +kernel
theorem dL_holds_125 : decode cL_holds 125 = .ok (.iload 9, 2) := by decide +kernel
theorem dL_holds_127 : decode cL_holds 127 = .ok (.invokestatic 123, 3) := by decide +kernel
theorem dL_holds_130 : decode cL_holds 130 = .ok (.iadd, 1) := by decide +kernel
theorem dL_holds_131 : decode cL_holds 131 = .ok (.istore 4, 2) := by decide +kernel
theorem dL_holds_133 : decode cL_holds 133 = .ok (.aload_n 2, 1) := by decide +kernel
theorem dL_holds_134 : decode cL_holds 134 = .ok (.iload 10, 2) := by decide +kernel
theorem dL_holds_136 : decode cL_holds 136 = .ok (.iaload, 1) := by decide +kernel
theorem dL_holds_137 : decode cL_holds 137 = .ok (.ifCond .le 7, 3) := by decide +kernel
theorem dL_holds_140 : decode cL_holds 140 = .ok (.iconst 1, 1) := by decide +kernel
theorem dL_holds_141 : decode cL_holds 141 = .ok (.goto 4, 3) := by decide +kernel
theorem dL_holds_144 : decode cL_holds 144 = .ok (.iconst 0, 1) := by decide +kernel
theorem dL_holds_145 : decode cL_holds 145 = .ok (.aload_n 0, 1) := by decide +kernel
theorem dL_holds_146 : decode cL_holds 146 = .ok (.iload 7, 2) := by decide +kernel
theorem dL_holds_148 : decode cL_holds 148 = .ok (.iload 9, 2) := by decide +kernel
theorem dL_holds_150 : decode cL_holds 150 = .ok (.invokestatic 123, 3) := by decide +kernel
theorem dL_holds_153 : decode cL_holds 153 = .ok (.ifCond .le 7, 3) := by decide +kernel
theorem dL_holds_156 : decode cL_holds 156 = .ok (.iconst 1, 1) := by decide +kernel
theorem dL_holds_157 : decode cL_holds 157 = .ok (.goto 4, 3) := by decide +kernel
theorem dL_holds_160 : decode cL_holds 160 = .ok (.iconst 0, 1) := by decide +kernel
theorem dL_holds_161 : decode cL_holds 161 = .ok (.if_icmp .ne 149, 3) := by decide +kernel
theorem dL_holds_164 : decode cL_holds 164 = .ok (.aload_n 2, 1) := by decide +kernel
theorem dL_holds_165 : decode cL_holds 165 = .ok (.iload 10, 2) := by decide +kernel
theorem dL_holds_167 : decode cL_holds 167 = .ok (.iaload, 1) := by decide +kernel
theorem dL_holds_168 : decode cL_holds 168 = .ok (.ifCond .le 7, 3) := by decide +kernel
theorem dL_holds_171 : decode cL_holds 171 = .ok (.iconst 1, 1) := by decide +kernel
theorem dL_holds_172 : decode cL_holds 172 = .ok (.goto 4, 3) := by decide +kernel
theorem dL_holds_175 : decode cL_holds 175 = .ok (.iconst 0, 1) := by decide +kernel
theorem dL_holds_176 : decode cL_holds 176 = .ok (.aload_n 0, 1) := by decide +kernel
theorem dL_holds_177 : decode cL_holds 177 = .ok (.iload 7, 2) := by decide +kernel
theorem dL_holds_179 : decode cL_holds 179 = .ok (.iload 9, 2) := by decide +kernel
theorem dL_holds_181 : decode cL_holds 181 = .ok (.invokestatic 131, 3) := by decide +kernel
theorem dL_holds_184 : decode cL_holds 184 = .ok (.ifCond .le 7, 3) := by decide +kernel
theorem dL_holds_187 : decode cL_holds 187 = .ok (.iconst 1, 1) := by decide +kernel
theorem dL_holds_188 : decode cL_holds 188 = .ok (.goto 4, 3) := by decide +kernel
theorem dL_holds_191 : decode cL_holds 191 = .ok (.iconst 0, 1) := by decide +kernel
theorem dL_holds_192 : decode cL_holds 192 = .ok (.if_icmp .ne 118, 3) := by decide +kernel
theorem dL_holds_195 : decode cL_holds 195 = .ok (.aload_n 0, 1) := by decide +kernel
theorem dL_holds_196 : decode cL_holds 196 = .ok (.iload 7, 2) := by decide +kernel
theorem dL_holds_198 : decode cL_holds 198 = .ok (.iload 9, 2) := by decide +kernel
theorem dL_holds_200 : decode cL_holds 200 = .ok (.invokestatic 131, 3) := by decide +kernel
theorem dL_holds_203 : decode cL_holds 203 = .ok (.aload_n 0, 1) := by decide +kernel
theorem dL_holds_204 : decode cL_holds 204 = .ok (.invokevirtual 146, 3) := by decide +kernel
theorem dL_holds_207 : decode cL_holds 207 = .ok (.if_icmp .ge 103, 3) := by decide +kernel
theorem dL_holds_210 : decode cL_holds 210 = .ok (.aload_n 0, 1) := by decide +kernel
theorem dL_holds_211 : decode cL_holds 211 = .ok (.aload_n 3, 1) := by decide +kernel
theorem dL_holds_212 : decode cL_holds 212 = .ok (.aload_n 0, 1) := by decide +kernel
theorem dL_holds_213 : decode cL_holds 213 = .ok (.iload 7, 2) := by decide +kernel
theorem dL_holds_215 : decode cL_holds 215 = .ok (.iload 9, 2) := by decide +kernel
theorem dL_holds_217 : decode cL_holds 217 = .ok (.iconst 0, 1) := by decide +kernel
theorem dL_holds_218 : decode cL_holds 218 = .ok (.invokestatic 125, 3) := by decide +kernel
theorem dL_holds_221 : decode cL_holds 221 = .ok (.invokestatic 161, 3) := by decide +kernel
theorem dL_holds_224 : decode cL_holds 224 = .ok (.ifCond .eq 86, 3) := by decide +kernel
theorem dL_holds_227 : decode cL_holds 227 = .ok (.aload_n 0, 1) := by decide +kernel
theorem dL_holds_228 : decode cL_holds 228 = .ok (.aload_n 3, 1) := by decide +kernel
theorem dL_holds_229 : decode cL_holds 229 = .ok (.aload_n 0, 1) := by decide +kernel
theorem dL_holds_230 : decode cL_holds 230 = .ok (.iload 7, 2) := by decide +kernel
theorem dL_holds_232 : decode cL_holds 232 = .ok (.iload 9, 2) := by decide +kernel
theorem dL_holds_234 : decode cL_holds 234 = .ok (.iconst 1, 1) := by decide +kernel
theorem dL_holds_235 : decode cL_holds 235 = .ok (.invokestatic 125, 3) := by decide +kernel
theorem dL_holds_238 : decode cL_holds 238 = .ok (.invokestatic 161, 3) := by decide +kernel
theorem dL_holds_241 : decode cL_holds 241 = .ok (.ifCond .eq 69, 3) := by decide +kernel
theorem dL_holds_244 : decode cL_holds 244 = .ok (.aload_n 1, 1) := by decide +kernel
theorem dL_holds_245 : decode cL_holds 245 = .ok (.iload 10, 2) := by decide +kernel
theorem dL_holds_247 : decode cL_holds 247 = .ok (.iaload, 1) := by decide +kernel
theorem dL_holds_248 : decode cL_holds 248 = .ok (.ifCond .le 32, 3) := by decide +kernel
theorem dL_holds_251 : decode cL_holds 251 = .ok (.aload_n 0, 1) := by decide +kernel
theorem dL_holds_252 : decode cL_holds 252 = .ok (.iload 7, 2) := by decide +kernel
theorem dL_holds_254 : decode cL_holds 254 = .ok (.iload 9, 2) := by decide +kernel
theorem dL_holds_256 : decode cL_holds 256 = .ok (.invokestatic 100, 3) := by decide +kernel
theorem dL_holds_259 : decode cL_holds 259 = .ok (.iload 9, 2) := by decide +kernel
theorem dL_holds_261 : decode cL_holds 261 = .ok (.if_icmp .ne 49, 3) := by decide +kernel
theorem dL_holds_264 : decode cL_holds 264 = .ok (.aload_n 0, 1) := by decide +kernel
