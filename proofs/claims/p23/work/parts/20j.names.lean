theorem dL_isSecond_0 : decode cL_isSecond 0 = .ok (.iconst 4, 1) := by decide +kernel
theorem dL_isSecond_1 : decode cL_isSecond 1 = .ok (.newarray .int, 2) := by decide +kernel
theorem dL_isSecond_3 : decode cL_isSecond 3 = .ok (.astore_n 2, 1) := by decide +kernel
theorem dL_isSecond_4 : decode cL_isSecond 4 = .ok (.iconst 4, 1) := by decide +kernel
theorem dL_isSecond_5 : decode cL_isSecond 5 = .ok (.newarray .int, 2) := by decide +kernel
theorem dL_isSecond_7 : decode cL_isSecond 7 = .ok (.astore_n 3, 1) := by decide +kernel
theorem dL_isSecond_8 : decode cL_isSecond 8 = .ok (.iconst 4, 1) := by decide +kernel
theorem dL_isSecond_9 : decode cL_isSecond 9 = .ok (.newarray .int, 2) := by decide +kernel
theorem dL_isSecond_11 : decode cL_isSecond 11 = .ok (.astore 4, 2) := by decide +kernel
theorem dL_isSecond_13 : decode cL_isSecond 13 = .ok (.iconst 4, 1) := by decide +kernel
theorem dL_isSecond_14 : decode cL_isSecond 14 = .ok (.newarray .int, 2) := by decide +kernel
theorem dL_isSecond_16 : decode cL_isSecond 16 = .ok (.astore 5, 2) := by decide +kernel
theorem dL_isSecond_18 : decode cL_isSecond 18 = .ok (.iconst 0, 1) := by decide +kernel
theorem dL_isSecond_19 : decode cL_isSecond 19 = .ok (.istore 6, 2) := by decide +kernel
theorem dL_isSecond_21 : decode cL_isSecond 21 = .ok (.iload 6, 2) := by decide +kernel
theorem dL_isSecond_23 : decode cL_isSecond 23 = .ok (.iload_n 1, 1) := by decide +kernel
theorem dL_isSecond_24 : decode cL_isSecond 24 = .ok (.if_icmp .ge 110, 3) := by decide +kernel
theorem dL_isSecond_27 : decode cL_isSecond 27 = .ok (.aload_n 2, 1) := by decide +kernel
theorem dL_isSecond_28 : decode cL_isSecond 28 = .ok (.iload 6, 2) := by decide +kernel
theorem dL_isSecond_30 : decode cL_isSecond 30 = .ok (.aload_n 0, 1) := by decide +kernel
theorem dL_isSecond_31 : decode cL_isSecond 31 = .ok (.iload 6, 2) := by decide +kernel
theorem dL_isSecond_33 : decode cL_isSecond 33 = .ok (.iconst 0, 1) := by decide +kernel
theorem dL_isSecond_34 : decode cL_isSecond 34 = .ok (.invokevirtual 29, 3) := by decide +kernel
theorem dL_isSecond_37 : decode cL_isSecond 37 = .ok (.iastore, 1) := by decide +kernel
theorem dL_isSecond_38 : decode cL_isSecond 38 = .ok (.aload_n 3, 1) := by decide +kernel
theorem dL_isSecond_39 : decode cL_isSecond 39 = .ok (.iload 6, 2) := by decide +kernel
theorem dL_isSecond_41 : decode cL_isSecond 41 = .ok (.aload_n 0, 1) := by decide +kernel
theorem dL_isSecond_42 : decode cL_isSecond 42 = .ok (.iload 6, 2) := by decide +kernel
theorem dL_isSecond_44 : decode cL_isSecond 44 = .ok (.iconst 2, 1) := by decide +kernel
theorem dL_isSecond_45 : decode cL_isSecond 45 = .ok (.invokevirtual 29, 3) := by decide +kernel
theorem dL_isSecond_48 : decode cL_isSecond 48 = .ok (.iastore, 1) := by decide +kernel
theorem dL_isSecond_49 : decode cL_isSecond 49 = .ok (.aload 4, 2) := by decide +kernel
theorem dL_isSecond_51 : decode cL_isSecond 51 = .ok (.iload 6, 2) := by decide +kernel
theorem dL_isSecond_53 : decode cL_isSecond 53 = .ok (.aload_n 0, 1) := by decide +kernel
theorem dL_isSecond_54 : decode cL_isSecond 54 = .ok (.iload 6, 2) := by decide +kernel
theorem dL_isSecond_56 : decode cL_isSecond 56 = .ok (.bipush 7, 2) := by decide +kernel
theorem dL_isSecond_58 : decode cL_isSecond 58 = .ok (.invokevirtual 29, 3) := by decide +kernel
theorem dL_isSecond_61 : decode cL_isSecond 61 = .ok (.iastore, 1) := by decide +kernel
theorem dL_isSecond_62 : decode cL_isSecond 62 = .ok (.aload_n 0, 1) := by decide +kernel
theorem dL_isSecond_63 : decode cL_isSecond 63 = .ok (.bipush 19, 2) := by decide +kernel
theorem dL_isSecond_65 : decode cL_isSecond 65 = .ok (.aload_n 2, 1) := by decide +kernel
theorem dL_isSecond_66 : decode cL_isSecond 66 = .ok (.iload 6, 2) := by decide +kernel
theorem dL_isSecond_68 : decode cL_isSecond 68 = .ok (.iaload, 1) := by decide +kernel
theorem dL_isSecond_69 : decode cL_isSecond 69 = .ok (.sipush 150, 3) := by decide +kernel
theorem dL_isSecond_72 : decode cL_isSecond 72 = .ok (.idiv, 1) := by decide +kernel
theorem dL_isSecond_73 : decode cL_isSecond 73 = .ok (.invokestatic 46, 3) := by decide +kernel
theorem dL_isSecond_76 : decode cL_isSecond 76 = .ok (.iconst 2, 1) := by decide +kernel
theorem dL_isSecond_77 : decode cL_isSecond 77 = .ok (.invokevirtual 54, 3) := by decide +kernel
theorem dL_isSecond_80 : decode cL_isSecond 80 = .ok (.iconst 1, 1) := by decide +kernel
theorem dL_isSecond_81 : decode cL_isSecond 81 = .ok (.if_icmp .ne 16, 3) := by decide +kernel
theorem dL_isSecond_84 : decode cL_isSecond 84 = .ok (.aload 4, 2) := by decide +kernel
theorem dL_isSecond_86 : decode cL_isSecond 86 = .ok (.iload 6, 2) := by decide +kernel
theorem dL_isSecond_88 : decode cL_isSecond 88 = .ok (.iaload, 1) := by decide +kernel
theorem dL_isSecond_89 : decode cL_isSecond 89 = .ok (.iconst 1, 1) := by decide +kernel
theorem dL_isSecond_90 : decode cL_isSecond 90 = .ok (.if_icmp .eq 7, 3) := by decide +kernel
theorem dL_isSecond_93 : decode cL_isSecond 93 = .ok (.iconst 1, 1) := by decide +kernel
theorem dL_isSecond_94 : decode cL_isSecond 94 = .ok (.goto 4, 3) := by decide +kernel
theorem dL_isSecond_97 : decode cL_isSecond 97 = .ok (.iconst 0, 1) := by decide +kernel
theorem dL_isSecond_98 : decode cL_isSecond 98 = .ok (.istore 7, 2) := by decide +kernel
theorem dL_isSecond_100 : decode cL_isSecond 100 = .ok (.aload 5, 2) := by decide +kernel
theorem dL_isSecond_102 : decode cL_isSecond 102 = .ok (.iload 6, 2) := by decide +kernel
theorem dL_isSecond_104 : decode cL_isSecond 104 = .ok (.iload 7, 2) := by decide +kernel
theorem dL_isSecond_106 : decode cL_isSecond 106 = .ok (.ifCond .eq 13, 3) := by decide +kernel
theorem dL_isSecond_109 : decode cL_isSecond 109 = .ok (.aload_n 0, 1) := by decide +kernel
theorem dL_isSecond_110 : decode cL_isSecond 110 = .ok (.iconst 0, 1) := by decide +kernel
theorem dL_isSecond_111 : decode cL_isSecond 111 = .ok (.invokevirtual 35, 3) := by decide +kernel
theorem dL_isSecond_114 : decode cL_isSecond 114 = .ok (.iconst 1, 1) := by decide +kernel
theorem dL_isSecond_115 : decode cL_isSecond 115 = .ok (.iadd, 1) := by decide +kernel
theorem dL_isSecond_116 : decode cL_isSecond 116 = .ok (.goto 11, 3) := by decide +kernel
theorem dL_isSecond_119 : decode cL_isSecond 119 = .ok (.aload_n 0, 1) := by decide +kernel
theorem dL_isSecond_120 : decode cL_isSecond 120 = .ok (.iload 6, 2) := by decide +kernel
theorem dL_isSecond_122 : decode cL_isSecond 122 = .ok (.bipush 10, 2) := by decide +kernel
theorem dL_isSecond_124 : decode cL_isSecond 124 = .ok (.invokevirtual 29, 3) := by decide +kernel
theorem dL_isSecond_127 : decode cL_isSecond 127 = .ok (.iastore, 1) := by decide +kernel
theorem dL_isSecond_128 : decode cL_isSecond 128 = .ok (.iinc 6 1, 3) := by decide +kernel
theorem dL_isSecond_131 : decode cL_isSecond 131 = .ok (.goto (-110), 3) := by decide +kernel
theorem dL_isSecond_134 : decode cL_isSecond 134 = .ok (.aload_n 0, 1) := by decide +kernel
theorem dL_isSecond_135 : decode cL_isSecond 135 = .ok (.bipush 9, 2) := by decide +kernel
theorem dL_isSecond_137 : decode cL_isSecond 137 = .ok (.invokevirtual 35, 3) := by decide +kernel
theorem dL_isSecond_140 : decode cL_isSecond 140 = .ok (.istore 6, 2) := by decide +kernel
theorem dL_isSecond_142 : decode cL_isSecond 142 = .ok (.aload_n 0, 1) := by decide +kernel
theorem dL_isSecond_143 : decode cL_isSecond 143 = .ok (.iconst 2, 1) := by decide +kernel
theorem dL_isSecond_144 : decode cL_isSecond 144 = .ok (.invokevirtual 35, 3) := by decide +kernel
theorem dL_isSecond_147 : decode cL_isSecond 147 = .ok (.istore 7, 2) := by decide +kernel
theorem dL_isSecond_149 : decode cL_isSecond 149 = .ok (.aload_n 0, 1) := by decide +kernel
theorem dL_isSecond_150 : decode cL_isSecond 150 = .ok (.iconst 1, 1) := by decide +kernel
theorem dL_isSecond_151 : decode cL_isSecond 151 = .ok (.invokevirtual 72, 3) := by decide +kernel
theorem dL_isSecond_154 : decode cL_isSecond 154 = .ok (.istore 8, 2) := by decide +kernel
theorem dL_isSecond_156 : decode cL_isSecond 156 = .ok (.iconst 0, 1) := by decide +kernel
theorem dL_isSecond_157 : decode cL_isSecond 157 = .ok (.istore 9, 2) := by decide +kernel
theorem dL_isSecond_159 : decode cL_isSecond 159 = .ok (.iconst 0, 1) := by decide +kernel
theorem dL_isSecond_160 : decode cL_isSecond 160 = .ok (.istore 10, 2) := by decide +kernel
theorem dL_isSecond_162 : decode cL_isSecond 162 = .ok (.iload 10, 2) := by decide +kernel
theorem dL_isSecond_164 : decode cL_isSecond 164 = .ok (.iload_n 1, 1) := by decide +kernel
theorem dL_isSecond_165 : decode cL_isSecond 165 = .ok (.if_icmp .ge 201, 3) := by decide +kernel
theorem dL_isSecond_168 : decode cL_isSecond 168 = .ok (.aload_n 0, 1) := by decide +kernel
theorem dL_isSecond_169 : decode cL_isSecond 169 = .ok (.iload 10, 2) := by decide +kernel
theorem dL_isSecond_171 : decode cL_isSecond 171 = .ok (.iconst 0, 1) := by decide +kernel
theorem dL_isSecond_172 : decode cL_isSecond 172 = .ok (.invokevirtual 29, 3) := by decide +kernel
theorem dL_isSecond_175 : decode cL_isSecond 175 = .ok (.aload_n 2, 1) := by decide +kernel
theorem dL_isSecond_176 : decode cL_isSecond 176 = .ok (.iload 10, 2) := by decide +kernel
theorem dL_isSecond_178 : decode cL_isSecond 178 = .ok (.iaload, 1) := by decide +kernel
theorem dL_isSecond_179 : decode cL_isSecond 179 = .ok (.isub, 1) := by decide +kernel
theorem dL_isSecond_180 : decode cL_isSecond 180 = .ok (.istore 11, 2) := by decide +kernel
theorem dL_isSecond_182 : decode cL_isSecond 182 = .ok (.aload_n 0, 1) := by decide +kernel
theorem dL_isSecond_183 : decode cL_isSecond 183 = .ok (.iload 10, 2) := by decide +kernel
theorem dL_isSecond_185 : decode cL_isSecond 185 = .ok (.bipush 7, 2) := by decide +kernel
theorem dL_isSecond_187 : decode cL_isSecond 187 = .ok (.invokevirtual 29, 3) := by decide +kernel
theorem dL_isSecond_190 : decode cL_isSecond 190 = .ok (.istore 12, 2) := by decide +kernel
theorem dL_isSecond_192 : decode cL_isSecond 192 = .ok (.iload 9, 2) := by decide +kernel
theorem dL_isSecond_194 : decode cL_isSecond 194 = .ok (.iload 11, 2) := by decide +kernel
theorem dL_isSecond_196 : decode cL_isSecond 196 = .ok (.iadd, 1) := by decide +kernel
theorem dL_isSecond_197 : decode cL_isSecond 197 = .ok (.istore 9, 2) := by decide +kernel
theorem dL_isSecond_199 : decode cL_isSecond 199 = .ok (.iload 11, 2) := by decide +kernel
theorem dL_isSecond_201 : decode cL_isSecond 201 = .ok (.ifCond .lt 82, 3) := by decide +kernel
theorem dL_isSecond_204 : decode cL_isSecond 204 = .ok (.iload 11, 2) := by decide +kernel
theorem dL_isSecond_206 : decode cL_isSecond 206 = .ok (.bipush 40, 2) := by decide +kernel
theorem dL_isSecond_208 : decode cL_isSecond 208 = .ok (.if_icmp .gt 75, 3) := by decide +kernel
theorem dL_isSecond_211 : decode cL_isSecond 211 = .ok (.iload 11, 2) := by decide +kernel
theorem dL_isSecond_213 : decode cL_isSecond 213 = .ok (.aload_n 3, 1) := by decide +kernel
theorem dL_isSecond_214 : decode cL_isSecond 214 = .ok (.iload 10, 2) := by decide +kernel
theorem dL_isSecond_216 : decode cL_isSecond 216 = .ok (.iaload, 1) := by decide +kernel
theorem dL_isSecond_217 : decode cL_isSecond 217 = .ok (.iconst 3, 1) := by decide +kernel
theorem dL_isSecond_218 : decode cL_isSecond 218 = .ok (.iadd, 1) := by decide +kernel
theorem dL_isSecond_219 : decode cL_isSecond 219 = .ok (.if_icmp .gt 64, 3) := by decide +kernel
theorem dL_isSecond_222 : decode cL_isSecond 222 = .ok (.aload 4, 2) := by decide +kernel
theorem dL_isSecond_224 : decode cL_isSecond 224 = .ok (.iload 10, 2) := by decide +kernel
theorem dL_isSecond_226 : decode cL_isSecond 226 = .ok (.iaload, 1) := by decide +kernel
theorem dL_isSecond_227 : decode cL_isSecond 227 = .ok (.ifCond .eq 24, 3) := by decide +kernel
theorem dL_isSecond_230 : decode cL_isSecond 230 = .ok (.iload 11, 2) := by decide +kernel
theorem dL_isSecond_232 : decode cL_isSecond 232 = .ok (.ifCond .ne 51, 3) := by decide +kernel
theorem dL_isSecond_235 : decode cL_isSecond 235 = .ok (.iload 12, 2) := by decide +kernel
theorem dL_isSecond_237 : decode cL_isSecond 237 = .ok (.aload 4, 2) := by decide +kernel
theorem dL_isSecond_239 : decode cL_isSecond 239 = .ok (.iload 10, 2) := by decide +kernel
theorem dL_isSecond_241 : decode cL_isSecond 241 = .ok (.iaload, 1) := by decide +kernel
theorem dL_isSecond_242 : decode cL_isSecond 242 = .ok (.if_icmp .eq 9, 3) := by decide +kernel
theorem dL_isSecond_245 : decode cL_isSecond 245 = .ok (.iload 12, 2) := by decide +kernel
theorem dL_isSecond_247 : decode cL_isSecond 247 = .ok (.iconst 1, 1) := by decide +kernel
theorem dL_isSecond_248 : decode cL_isSecond 248 = .ok (.if_icmp .ne 35, 3) := by decide +kernel
theorem dL_isSecond_251 : decode cL_isSecond 251 = .ok (.iload 12, 2) := by decide +kernel
theorem dL_isSecond_253 : decode cL_isSecond 253 = .ok (.ifCond .ne 15, 3) := by decide +kernel
theorem dL_isSecond_256 : decode cL_isSecond 256 = .ok (.aload_n 0, 1) := by decide +kernel
theorem dL_isSecond_257 : decode cL_isSecond 257 = .ok (.iload 10, 2) := by decide +kernel
theorem dL_isSecond_259 : decode cL_isSecond 259 = .ok (.iconst 2, 1) := by decide +kernel
theorem dL_isSecond_260 : decode cL_isSecond 260 = .ok (.invokevirtual 29, 3) := by decide +kernel
theorem dL_isSecond_263 : decode cL_isSecond 263 = .ok (.iload 11, 2) := by decide +kernel
theorem dL_isSecond_265 : decode cL_isSecond 265 = .ok (.if_icmp .ne 18, 3) := by decide +kernel
theorem dL_isSecond_268 : decode cL_isSecond 268 = .ok (.iload 12, 2) := by decide +kernel
theorem dL_isSecond_270 : decode cL_isSecond 270 = .ok (.ifCond .eq 15, 3) := by decide +kernel
theorem dL_isSecond_273 : decode cL_isSecond 273 = .ok (.aload_n 0, 1) := by decide +kernel
theorem dL_isSecond_274 : decode cL_isSecond 274 = .ok (.iload 10, 2) := by decide +kernel
theorem dL_isSecond_276 : decode cL_isSecond 276 = .ok (.iconst 2, 1) := by decide +kernel
theorem dL_isSecond_277 : decode cL_isSecond 277 = .ok (.invokevirtual 29, 3) := by decide +kernel
theorem dL_isSecond_280 : decode cL_isSecond 280 = .ok (.ifCond .eq 5, 3) := by decide +kernel
theorem dL_isSecond_283 : decode cL_isSecond 283 = .ok (.iconst 0, 1) := by decide +kernel
theorem dL_isSecond_284 : decode cL_isSecond 284 = .ok (.ireturn, 1) := by decide +kernel
theorem dL_isSecond_285 : decode cL_isSecond 285 = .ok (.aload_n 0, 1) := by decide +kernel
theorem dL_isSecond_286 : decode cL_isSecond 286 = .ok (.iload 10, 2) := by decide +kernel
theorem dL_isSecond_288 : decode cL_isSecond 288 = .ok (.bipush 10, 2) := by decide +kernel
theorem dL_isSecond_290 : decode cL_isSecond 290 = .ok (.invokevirtual 29, 3) := by decide +kernel
theorem dL_isSecond_293 : decode cL_isSecond 293 = .ok (.aload 5, 2) := by decide +kernel
theorem dL_isSecond_295 : decode cL_isSecond 295 = .ok (.iload 10, 2) := by decide +kernel
theorem dL_isSecond_297 : decode cL_isSecond 297 = .ok (.iaload, 1) := by decide +kernel
theorem dL_isSecond_298 : decode cL_isSecond 298 = .ok (.if_icmp .ne 31, 3) := by decide +kernel
theorem dL_isSecond_301 : decode cL_isSecond 301 = .ok (.aload 5, 2) := by decide +kernel
theorem dL_isSecond_303 : decode cL_isSecond 303 = .ok (.iload 10, 2) := by decide +kernel
theorem dL_isSecond_305 : decode cL_isSecond 305 = .ok (.iaload, 1) := by decide +kernel
theorem dL_isSecond_306 : decode cL_isSecond 306 = .ok (.aload_n 0, 1) := by decide +kernel
theorem dL_isSecond_307 : decode cL_isSecond 307 = .ok (.iconst 0, 1) := by decide +kernel
theorem dL_isSecond_308 : decode cL_isSecond 308 = .ok (.invokevirtual 35, 3) := by decide +kernel
