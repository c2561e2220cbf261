theorem dL_isSo_0 : decode cL_isSo 0 = .ok (.iconst 5, 1) := by decide +kernel
theorem dL_isSo_1 : decode cL_isSo 1 = .ok (.newarray .int, 2) := by decide +kernel
theorem dL_isSo_3 : decode cL_isSo 3 = .ok (.astore 5, 2) := by decide +kernel
theorem dL_isSo_5 : decode cL_isSo 5 = .ok (.iconst 0, 1) := by decide +kernel
theorem dL_isSo_6 : decode cL_isSo 6 = .ok (.istore 6, 2) := by decide +kernel
theorem dL_isSo_8 : decode cL_isSo 8 = .ok (.iconst 0, 1) := by decide +kernel
theorem dL_isSo_9 : decode cL_isSo 9 = .ok (.istore 7, 2) := by decide +kernel
theorem dL_isSo_11 : decode cL_isSo 11 = .ok (.iconst 0, 1) := by decide +kernel
theorem dL_isSo_12 : decode cL_isSo 12 = .ok (.istore 8, 2) := by decide +kernel
theorem dL_isSo_14 : decode cL_isSo 14 = .ok (.iload 8, 2) := by decide +kernel
theorem dL_isSo_16 : decode cL_isSo 16 = .ok (.iload_n 1, 1) := by decide +kernel
theorem dL_isSo_17 : decode cL_isSo 17 = .ok (.if_icmp .ge 451, 3) := by decide +kernel
theorem dL_isSo_20 : decode cL_isSo 20 = .ok (.aload_n 0, 1) := by decide +kernel
theorem dL_isSo_21 : decode cL_isSo 21 = .ok (.iload 8, 2) := by decide +kernel
theorem dL_isSo_23 : decode cL_isSo 23 = .ok (.bipush 7, 2) := by decide +kernel
theorem dL_isSo_25 : decode cL_isSo 25 = .ok (.invokevirtual 29, 3) := by decide +kernel
theorem dL_isSo_28 : decode cL_isSo 28 = .ok (.istore 9, 2) := by decide +kernel
theorem dL_isSo_30 : decode cL_isSo 30 = .ok (.aload_n 0, 1) := by decide +kernel
theorem dL_isSo_31 : decode cL_isSo 31 = .ok (.iload 8, 2) := by decide +kernel
theorem dL_isSo_33 : decode cL_isSo 33 = .ok (.iconst 0, 1) := by decide +kernel
theorem dL_isSo_34 : decode cL_isSo 34 = .ok (.invokevirtual 29, 3) := by decide +kernel
theorem dL_isSo_37 : decode cL_isSo 37 = .ok (.istore 10, 2) := by decide +kernel
theorem dL_isSo_39 : decode cL_isSo 39 = .ok (.aload_n 0, 1) := by decide +kernel
theorem dL_isSo_40 : decode cL_isSo 40 = .ok (.iload 8, 2) := by decide +kernel
theorem dL_isSo_42 : decode cL_isSo 42 = .ok (.iconst 1, 1) := by decide +kernel
theorem dL_isSo_43 : decode cL_isSo 43 = .ok (.invokevirtual 29, 3) := by decide +kernel
theorem dL_isSo_46 : decode cL_isSo 46 = .ok (.istore 11, 2) := by decide +kernel
theorem dL_isSo_48 : decode cL_isSo 48 = .ok (.aload 5, 2) := by decide +kernel
theorem dL_isSo_50 : decode cL_isSo 50 = .ok (.iconst 0, 1) := by decide +kernel
theorem dL_isSo_51 : decode cL_isSo 51 = .ok (.dup2, 1) := by decide +kernel
theorem dL_isSo_52 : decode cL_isSo 52 = .ok (.iaload, 1) := by decide +kernel
theorem dL_isSo_53 : decode cL_isSo 53 = .ok (.iload 9, 2) := by decide +kernel
theorem dL_isSo_55 : decode cL_isSo 55 = .ok (.iconst 1, 1) := by decide +kernel
theorem dL_isSo_56 : decode cL_isSo 56 = .ok (.if_icmp .ne 7, 3) := by decide +kernel
theorem dL_isSo_59 : decode cL_isSo 59 = .ok (.iconst 1, 1) := by decide +kernel
theorem dL_isSo_60 : decode cL_isSo 60 = .ok (.goto 4, 3) := by decide +kernel
theorem dL_isSo_63 : decode cL_isSo 63 = .ok (.iconst 0, 1) := by decide +kernel
theorem dL_isSo_64 : decode cL_isSo 64 = .ok (.iadd, 1) := by decide +kernel
theorem dL_isSo_65 : decode cL_isSo 65 = .ok (.iastore, 1) := by decide +kernel
theorem dL_isSo_66 : decode cL_isSo 66 = .ok (.aload 5, 2) := by decide +kernel
theorem dL_isSo_68 : decode cL_isSo 68 = .ok (.iconst 1, 1) := by decide +kernel
theorem dL_isSo_69 : decode cL_isSo 69 = .ok (.dup2, 1) := by decide +kernel
theorem dL_isSo_70 : decode cL_isSo 70 = .ok (.iaload, 1) := by decide +kernel
theorem dL_isSo_71 : decode cL_isSo 71 = .ok (.aload_n 0, 1) := by decide +kernel
theorem dL_isSo_72 : decode cL_isSo 72 = .ok (.iload 8, 2) := by decide +kernel
theorem dL_isSo_74 : decode cL_isSo 74 = .ok (.bipush 11, 2) := by decide +kernel
theorem dL_isSo_76 : decode cL_isSo 76 = .ok (.invokevirtual 29, 3) := by decide +kernel
theorem dL_isSo_79 : decode cL_isSo 79 = .ok (.iadd, 1) := by decide +kernel
theorem dL_isSo_80 : decode cL_isSo 80 = .ok (.iastore, 1) := by decide +kernel
theorem dL_isSo_81 : decode cL_isSo 81 = .ok (.aload 5, 2) := by decide +kernel
theorem dL_isSo_83 : decode cL_isSo 83 = .ok (.iconst 2, 1) := by decide +kernel
theorem dL_isSo_84 : decode cL_isSo 84 = .ok (.dup2, 1) := by decide +kernel
theorem dL_isSo_85 : decode cL_isSo 85 = .ok (.iaload, 1) := by decide +kernel
theorem dL_isSo_86 : decode cL_isSo 86 = .ok (.aload_n 0, 1) := by decide +kernel
theorem dL_isSo_87 : decode cL_isSo 87 = .ok (.iload 8, 2) := by decide +kernel
theorem dL_isSo_89 : decode cL_isSo 89 = .ok (.bipush 12, 2) := by decide +kernel
theorem dL_isSo_91 : decode cL_isSo 91 = .ok (.invokevirtual 29, 3) := by decide +kernel
theorem dL_isSo_94 : decode cL_isSo 94 = .ok (.iadd, 1) := by decide +kernel
theorem dL_isSo_95 : decode cL_isSo 95 = .ok (.iastore, 1) := by decide +kernel
theorem dL_isSo_96 : decode cL_isSo 96 = .ok (.aload 5, 2) := by decide +kernel
theorem dL_isSo_98 : decode cL_isSo 98 = .ok (.iconst 3, 1) := by decide +kernel
theorem dL_isSo_99 : decode cL_isSo 99 = .ok (.dup2, 1) := by decide +kernel
theorem dL_isSo_100 : decode cL_isSo 100 = .ok (.iaload, 1) := by decide +kernel
theorem dL_isSo_101 : decode cL_isSo 101 = .ok (.aload_n 0, 1) := by decide +kernel
theorem dL_isSo_102 : decode cL_isSo 102 = .ok (.iload 8, 2) := by decide +kernel
theorem dL_isSo_104 : decode cL_isSo 104 = .ok (.bipush 13, 2) := by decide +kernel
theorem dL_isSo_106 : decode cL_isSo 106 = .ok (.invokevirtual 29, 3) := by decide +kernel
theorem dL_isSo_109 : decode cL_isSo 109 = .ok (.iadd, 1) := by decide +kernel
theorem dL_isSo_110 : decode cL_isSo 110 = .ok (.iastore, 1) := by decide +kernel
theorem dL_isSo_111 : decode cL_isSo 111 = .ok (.iload 6, 2) := by decide +kernel
theorem dL_isSo_113 : decode cL_isSo 113 = .ok (.iload 9, 2) := by decide +kernel
theorem dL_isSo_115 : decode cL_isSo 115 = .ok (.iconst 1, 1) := by decide +kernel
theorem dL_isSo_116 : decode cL_isSo 116 = .ok (.if_icmp .ne 7, 3) := by decide +kernel
theorem dL_isSo_119 : decode cL_isSo 119 = .ok (.iconst 0, 1) := by decide +kernel
theorem dL_isSo_120 : decode cL_isSo 120 = .ok (.goto 4, 3) := by decide +kernel
theorem dL_isSo_123 : decode cL_isSo 123 = .ok (.iconst 1, 1) := by decide +kernel
theorem dL_isSo_124 : decode cL_isSo 124 = .ok (.iadd, 1) := by decide +kernel
theorem dL_isSo_125 : decode cL_isSo 125 = .ok (.istore 6, 2) := by decide +kernel
theorem dL_isSo_127 : decode cL_isSo 127 = .ok (.iload 7, 2) := by decide +kernel
theorem dL_isSo_129 : decode cL_isSo 129 = .ok (.aload_n 0, 1) := by decide +kernel
theorem dL_isSo_130 : decode cL_isSo 130 = .ok (.iload 8, 2) := by decide +kernel
theorem dL_isSo_132 : decode cL_isSo 132 = .ok (.iconst 2, 1) := by decide +kernel
theorem dL_isSo_133 : decode cL_isSo 133 = .ok (.invokevirtual 29, 3) := by decide +kernel
theorem dL_isSo_136 : decode cL_isSo 136 = .ok (.iadd, 1) := by decide +kernel
theorem dL_isSo_137 : decode cL_isSo 137 = .ok (.istore 7, 2) := by decide +kernel
theorem dL_isSo_139 : decode cL_isSo 139 = .ok (.aload_n 0, 1) := by decide +kernel
theorem dL_isSo_140 : decode cL_isSo 140 = .ok (.iload 8, 2) := by decide +kernel
theorem dL_isSo_142 : decode cL_isSo 142 = .ok (.bipush 8, 2) := by decide +kernel
theorem dL_isSo_144 : decode cL_isSo 144 = .ok (.invokevirtual 29, 3) := by decide +kernel
theorem dL_isSo_147 : decode cL_isSo 147 = .ok (.iload 10, 2) := by decide +kernel
theorem dL_isSo_149 : decode cL_isSo 149 = .ok (.if_icmp .gt 80, 3) := by decide +kernel
theorem dL_isSo_152 : decode cL_isSo 152 = .ok (.aload_n 0, 1) := by decide +kernel
theorem dL_isSo_153 : decode cL_isSo 153 = .ok (.iload 8, 2) := by decide +kernel
theorem dL_isSo_155 : decode cL_isSo 155 = .ok (.bipush 9, 2) := by decide +kernel
theorem dL_isSo_157 : decode cL_isSo 157 = .ok (.invokevirtual 29, 3) := by decide +kernel
theorem dL_isSo_160 : decode cL_isSo 160 = .ok (.iload 11, 2) := by decide +kernel
theorem dL_isSo_162 : decode cL_isSo 162 = .ok (.if_icmp .gt 67, 3) := by decide +kernel
theorem dL_isSo_165 : decode cL_isSo 165 = .ok (.iload 11, 2) := by decide +kernel
theorem dL_isSo_167 : decode cL_isSo 167 = .ok (.ifCond .lt 62, 3) := by decide +kernel
theorem dL_isSo_170 : decode cL_isSo 170 = .ok (.iload 11, 2) := by decide +kernel
theorem dL_isSo_172 : decode cL_isSo 172 = .ok (.iload 10, 2) := by decide +kernel
theorem dL_isSo_174 : decode cL_isSo 174 = .ok (.if_icmp .gt 55, 3) := by decide +kernel
theorem dL_isSo_177 : decode cL_isSo 177 = .ok (.aload_n 0, 1) := by decide +kernel
theorem dL_isSo_178 : decode cL_isSo 178 = .ok (.iload 8, 2) := by decide +kernel
theorem dL_isSo_180 : decode cL_isSo 180 = .ok (.iconst 2, 1) := by decide +kernel
theorem dL_isSo_181 : decode cL_isSo 181 = .ok (.invokevirtual 29, 3) := by decide +kernel
theorem dL_isSo_184 : decode cL_isSo 184 = .ok (.ifCond .lt 45, 3) := by decide +kernel
theorem dL_isSo_187 : decode cL_isSo 187 = .ok (.aload_n 0, 1) := by decide +kernel
theorem dL_isSo_188 : decode cL_isSo 188 = .ok (.iload 8, 2) := by decide +kernel
theorem dL_isSo_190 : decode cL_isSo 190 = .ok (.iconst 2, 1) := by decide +kernel
theorem dL_isSo_191 : decode cL_isSo 191 = .ok (.invokevirtual 29, 3) := by decide +kernel
theorem dL_isSo_194 : decode cL_isSo 194 = .ok (.bipush 40, 2) := by decide +kernel
theorem dL_isSo_196 : decode cL_isSo 196 = .ok (.if_icmp .gt 33, 3) := by decide +kernel
theorem dL_isSo_199 : decode cL_isSo 199 = .ok (.aload_n 0, 1) := by decide +kernel
theorem dL_isSo_200 : decode cL_isSo 200 = .ok (.iload 8, 2) := by decide +kernel
theorem dL_isSo_202 : decode cL_isSo 202 = .ok (.iconst 5, 1) := by decide +kernel
theorem dL_isSo_203 : decode cL_isSo 203 = .ok (.invokevirtual 29, 3) := by decide +kernel
theorem dL_isSo_206 : decode cL_isSo 206 = .ok (.ifCond .lt 23, 3) := by decide +kernel
theorem dL_isSo_209 : decode cL_isSo 209 = .ok (.aload_n 0, 1) := by decide +kernel
theorem dL_isSo_210 : decode cL_isSo 210 = .ok (.iload 8, 2) := by decide +kernel
theorem dL_isSo_212 : decode cL_isSo 212 = .ok (.iconst 5, 1) := by decide +kernel
theorem dL_isSo_213 : decode cL_isSo 213 = .ok (.invokevirtual 29, 3) := by decide +kernel
theorem dL_isSo_216 : decode cL_isSo 216 = .ok (.ifCond .le 15, 3) := by decide +kernel
theorem dL_isSo_219 : decode cL_isSo 219 = .ok (.aload_n 0, 1) := by decide +kernel
theorem dL_isSo_220 : decode cL_isSo 220 = .ok (.iload 8, 2) := by decide +kernel
theorem dL_isSo_222 : decode cL_isSo 222 = .ok (.iconst 2, 1) := by decide +kernel
theorem dL_isSo_223 : decode cL_isSo 223 = .ok (.invokevirtual 29, 3) := by decide +kernel
theorem dL_isSo_226 : decode cL_isSo 226 = .ok (.ifCond .eq 5, 3) := by decide +kernel
theorem dL_isSo_229 : decode cL_isSo 229 = .ok (.iconst 0, 1) := by decide +kernel
theorem dL_isSo_230 : decode cL_isSo 230 = .ok (.ireturn, 1) := by decide +kernel
theorem dL_isSo_231 : decode cL_isSo 231 = .ok (.iload 9, 2) := by decide +kernel
theorem dL_isSo_233 : decode cL_isSo 233 = .ok (.iconst 1, 1) := by decide +kernel
theorem dL_isSo_234 : decode cL_isSo 234 = .ok (.if_icmp .ne 7, 3) := by decide +kernel
theorem dL_isSo_237 : decode cL_isSo 237 = .ok (.iconst 1, 1) := by decide +kernel
theorem dL_isSo_238 : decode cL_isSo 238 = .ok (.goto 4, 3) := by decide +kernel
theorem dL_isSo_241 : decode cL_isSo 241 = .ok (.iconst 0, 1) := by decide +kernel
theorem dL_isSo_242 : decode cL_isSo 242 = .ok (.iload 11, 2) := by decide +kernel
theorem dL_isSo_244 : decode cL_isSo 244 = .ok (.sipush 2999, 3) := by decide +kernel
theorem dL_isSo_247 : decode cL_isSo 247 = .ok (.if_icmp .le 7, 3) := by decide +kernel
theorem dL_isSo_250 : decode cL_isSo 250 = .ok (.iconst 1, 1) := by decide +kernel
theorem dL_isSo_251 : decode cL_isSo 251 = .ok (.goto 4, 3) := by decide +kernel
theorem dL_isSo_254 : decode cL_isSo 254 = .ok (.iconst 0, 1) := by decide +kernel
theorem dL_isSo_255 : decode cL_isSo 255 = .ok (.if_icmp .ne 75, 3) := by decide +kernel
theorem dL_isSo_258 : decode cL_isSo 258 = .ok (.aload_n 0, 1) := by decide +kernel
theorem dL_isSo_259 : decode cL_isSo 259 = .ok (.iload 8, 2) := by decide +kernel
theorem dL_isSo_261 : decode cL_isSo 261 = .ok (.bipush 12, 2) := by decide +kernel
theorem dL_isSo_263 : decode cL_isSo 263 = .ok (.invokevirtual 29, 3) := by decide +kernel
theorem dL_isSo_266 : decode cL_isSo 266 = .ok (.ifCond .ne 15, 3) := by decide +kernel
theorem dL_isSo_269 : decode cL_isSo 269 = .ok (.iload 10, 2) := by decide +kernel
theorem dL_isSo_271 : decode cL_isSo 271 = .ok (.aload_n 0, 1) := by decide +kernel
theorem dL_isSo_272 : decode cL_isSo 272 = .ok (.iload 8, 2) := by decide +kernel
theorem dL_isSo_274 : decode cL_isSo 274 = .ok (.iconst 3, 1) := by decide +kernel
theorem dL_isSo_275 : decode cL_isSo 275 = .ok (.invokevirtual 29, 3) := by decide +kernel
theorem dL_isSo_278 : decode cL_isSo 278 = .ok (.if_icmp .gt 52, 3) := by decide +kernel
theorem dL_isSo_281 : decode cL_isSo 281 = .ok (.aload_n 0, 1) := by decide +kernel
theorem dL_isSo_282 : decode cL_isSo 282 = .ok (.iload 8, 2) := by decide +kernel
theorem dL_isSo_284 : decode cL_isSo 284 = .ok (.invokevirtual 75, 3) := by decide +kernel
theorem dL_isSo_287 : decode cL_isSo 287 = .ok (.ifCond .lt 43, 3) := by decide +kernel
theorem dL_isSo_290 : decode cL_isSo 290 = .ok (.aload_n 0, 1) := by decide +kernel
theorem dL_isSo_291 : decode cL_isSo 291 = .ok (.iload 8, 2) := by decide +kernel
theorem dL_isSo_293 : decode cL_isSo 293 = .ok (.invokevirtual 75, 3) := by decide +kernel
theorem dL_isSo_296 : decode cL_isSo 296 = .ok (.bipush 40, 2) := by decide +kernel
theorem dL_isSo_298 : decode cL_isSo 298 = .ok (.if_icmp .gt 32, 3) := by decide +kernel
theorem dL_isSo_301 : decode cL_isSo 301 = .ok (.aload_n 0, 1) := by decide +kernel
theorem dL_isSo_302 : decode cL_isSo 302 = .ok (.iload 8, 2) := by decide +kernel
theorem dL_isSo_304 : decode cL_isSo 304 = .ok (.aload_n 0, 1) := by decide +kernel
theorem dL_isSo_305 : decode cL_isSo 305 = .ok (.iload 8, 2) := by decide +kernel
theorem dL_isSo_307 : decode cL_isSo 307 = .ok (.invokevirtual 75, 3) := by decide +kernel
theorem dL_isSo_310 : decode cL_isSo 310 = .ok (.invokevirtual 78, 3) := by decide +kernel
theorem dL_isSo_313 : decode cL_isSo 313 = .ok (.iconst 0, 1) := by decide +kernel
