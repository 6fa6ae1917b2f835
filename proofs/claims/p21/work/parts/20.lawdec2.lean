theorem dL_worths_211 : decode cL_worths 211 = .ok (.iload 7, 2) := by decide +kernel
theorem dL_worths_213 : decode cL_worths 213 = .ok (.i2d, 1) := by decide +kernel
theorem dL_worths_214 : decode cL_worths 214 = .ok (.ldc2_w 75, 3) := by decide +kernel
theorem dL_worths_217 : decode cL_worths 217 = .ok (.ddiv, 1) := by decide +kernel
theorem dL_worths_218 : decode cL_worths 218 = .ok (.dcmp .l, 1) := by decide +kernel
theorem dL_worths_219 : decode cL_worths 219 = .ok (.ifCond .ne 7, 3) := by decide +kernel
theorem dL_worths_222 : decode cL_worths 222 = .ok (.iconst 1, 1) := by decide +kernel
theorem dL_worths_223 : decode cL_worths 223 = .ok (.goto 4, 3) := by decide +kernel
theorem dL_worths_226 : decode cL_worths 226 = .ok (.iconst 0, 1) := by decide +kernel
theorem dL_worths_227 : decode cL_worths 227 = .ok (.istore 9, 2) := by decide +kernel
theorem dL_worths_229 : decode cL_worths 229 = .ok (.iconst 0, 1) := by decide +kernel
theorem dL_worths_230 : decode cL_worths 230 = .ok (.istore 10, 2) := by decide +kernel
theorem dL_worths_232 : decode cL_worths 232 = .ok (.iload 10, 2) := by decide +kernel
theorem dL_worths_234 : decode cL_worths 234 = .ok (.iload 8, 2) := by decide +kernel
theorem dL_worths_236 : decode cL_worths 236 = .ok (.if_icmp .ge 80, 3) := by decide +kernel
theorem dL_worths_239 : decode cL_worths 239 = .ok (.iload 9, 2) := by decide +kernel
theorem dL_worths_241 : decode cL_worths 241 = .ok (.ifCond .eq 75, 3) := by decide +kernel
theorem dL_worths_244 : decode cL_worths 244 = .ok (.iconst 0, 1) := by decide +kernel
theorem dL_worths_245 : decode cL_worths 245 = .ok (.istore 11, 2) := by decide +kernel
theorem dL_worths_247 : decode cL_worths 247 = .ok (.iconst 1, 1) := by decide +kernel
theorem dL_worths_248 : decode cL_worths 248 = .ok (.istore 12, 2) := by decide +kernel
theorem dL_worths_250 : decode cL_worths 250 = .ok (.iload 12, 2) := by decide +kernel
theorem dL_worths_252 : decode cL_worths 252 = .ok (.bipush 15, 2) := by decide +kernel
theorem dL_worths_254 : decode cL_worths 254 = .ok (.if_icmp .ge 31, 3) := by decide +kernel
theorem dL_worths_257 : decode cL_worths 257 = .ok (.aload 6, 2) := by decide +kernel
theorem dL_worths_259 : decode cL_worths 259 = .ok (.iload 12, 2) := by decide +kernel
theorem dL_worths_261 : decode cL_worths 261 = .ok (.iaload, 1) := by decide +kernel
theorem dL_worths_262 : decode cL_worths 262 = .ok (.aload 6, 2) := by decide +kernel
theorem dL_worths_264 : decode cL_worths 264 = .ok (.iload 11, 2) := by decide +kernel
theorem dL_worths_266 : decode cL_worths 266 = .ok (.iaload, 1) := by decide +kernel
theorem dL_worths_267 : decode cL_worths 267 = .ok (.if_icmp .le 8, 3) := by decide +kernel
theorem dL_worths_270 : decode cL_worths 270 = .ok (.iload 12, 2) := by decide +kernel
theorem dL_worths_272 : decode cL_worths 272 = .ok (.goto 5, 3) := by decide +kernel
theorem dL_worths_275 : decode cL_worths 275 = .ok (.iload 11, 2) := by decide +kernel
theorem dL_worths_277 : decode cL_worths 277 = .ok (.istore 11, 2) := by decide +kernel
theorem dL_worths_279 : decode cL_worths 279 = .ok (.iinc 12 1, 3) := by decide +kernel
theorem dL_worths_282 : decode cL_worths 282 = .ok (.goto (-32), 3) := by decide +kernel
theorem dL_worths_285 : decode cL_worths 285 = .ok (.aload 6, 2) := by decide +kernel
theorem dL_worths_287 : decode cL_worths 287 = .ok (.iload 11, 2) := by decide +kernel
theorem dL_worths_289 : decode cL_worths 289 = .ok (.iconst (-1), 1) := by decide +kernel
theorem dL_worths_290 : decode cL_worths 290 = .ok (.iastore, 1) := by decide +kernel
theorem dL_worths_291 : decode cL_worths 291 = .ok (.aload_n 0, 1) := by decide +kernel
theorem dL_worths_292 : decode cL_worths 292 = .ok (.iload_n 1, 1) := by decide +kernel
theorem dL_worths_293 : decode cL_worths 293 = .ok (.iload 10, 2) := by decide +kernel
theorem dL_worths_295 : decode cL_worths 295 = .ok (.invokevirtual 77, 3) := by decide +kernel
theorem dL_worths_298 : decode cL_worths 298 = .ok (.iload 11, 2) := by decide +kernel
theorem dL_worths_300 : decode cL_worths 300 = .ok (.if_icmp .ne 7, 3) := by decide +kernel
theorem dL_worths_303 : decode cL_worths 303 = .ok (.iconst 1, 1) := by decide +kernel
theorem dL_worths_304 : decode cL_worths 304 = .ok (.goto 4, 3) := by decide +kernel
theorem dL_worths_307 : decode cL_worths 307 = .ok (.iconst 0, 1) := by decide +kernel
theorem dL_worths_308 : decode cL_worths 308 = .ok (.istore 9, 2) := by decide +kernel
theorem dL_worths_310 : decode cL_worths 310 = .ok (.iinc 10 1, 3) := by decide +kernel
theorem dL_worths_313 : decode cL_worths 313 = .ok (.goto (-81), 3) := by decide +kernel
theorem dL_worths_316 : decode cL_worths 316 = .ok (.iload 9, 2) := by decide +kernel
theorem dL_worths_318 : decode cL_worths 318 = .ok (.ifCond .eq 18, 3) := by decide +kernel
theorem dL_worths_321 : decode cL_worths 321 = .ok (.aload_n 0, 1) := by decide +kernel
theorem dL_worths_322 : decode cL_worths 322 = .ok (.iload_n 1, 1) := by decide +kernel
theorem dL_worths_323 : decode cL_worths 323 = .ok (.iload 8, 2) := by decide +kernel
theorem dL_worths_325 : decode cL_worths 325 = .ok (.invokevirtual 77, 3) := by decide +kernel
theorem dL_worths_328 : decode cL_worths 328 = .ok (.iconst (-1), 1) := by decide +kernel
theorem dL_worths_329 : decode cL_worths 329 = .ok (.if_icmp .ne 7, 3) := by decide +kernel
theorem dL_worths_332 : decode cL_worths 332 = .ok (.iconst 1, 1) := by decide +kernel
theorem dL_worths_333 : decode cL_worths 333 = .ok (.goto 4, 3) := by decide +kernel
theorem dL_worths_336 : decode cL_worths 336 = .ok (.iconst 0, 1) := by decide +kernel
theorem dL_worths_337 : decode cL_worths 337 = .ok (.ireturn, 1) := by decide +kernel
theorem dL_isSo_0 : decode cL_isSo 0 = .ok (.aload_n 0, 1) := by decide +kernel
theorem dL_isSo_1 : decode cL_isSo 1 = .ok (.invokevirtual 80, 3) := by decide +kernel
theorem dL_isSo_4 : decode cL_isSo 4 = .ok (.aload_n 2, 1) := by decide +kernel
theorem dL_isSo_5 : decode cL_isSo 5 = .ok (.iconst 1, 1) := by decide +kernel
theorem dL_isSo_6 : decode cL_isSo 6 = .ok (.iaload, 1) := by decide +kernel
theorem dL_isSo_7 : decode cL_isSo 7 = .ok (.if_icmp .ne 37, 3) := by decide +kernel
theorem dL_isSo_10 : decode cL_isSo 10 = .ok (.aload_n 0, 1) := by decide +kernel
theorem dL_isSo_11 : decode cL_isSo 11 = .ok (.invokevirtual 84, 3) := by decide +kernel
theorem dL_isSo_14 : decode cL_isSo 14 = .ok (.aload_n 2, 1) := by decide +kernel
theorem dL_isSo_15 : decode cL_isSo 15 = .ok (.iconst 2, 1) := by decide +kernel
theorem dL_isSo_16 : decode cL_isSo 16 = .ok (.iaload, 1) := by decide +kernel
theorem dL_isSo_17 : decode cL_isSo 17 = .ok (.if_icmp .ne 27, 3) := by decide +kernel
theorem dL_isSo_20 : decode cL_isSo 20 = .ok (.aload_n 0, 1) := by decide +kernel
theorem dL_isSo_21 : decode cL_isSo 21 = .ok (.invokevirtual 87, 3) := by decide +kernel
theorem dL_isSo_24 : decode cL_isSo 24 = .ok (.aload_n 2, 1) := by decide +kernel
theorem dL_isSo_25 : decode cL_isSo 25 = .ok (.iconst 3, 1) := by decide +kernel
theorem dL_isSo_26 : decode cL_isSo 26 = .ok (.iaload, 1) := by decide +kernel
theorem dL_isSo_27 : decode cL_isSo 27 = .ok (.if_icmp .ne 17, 3) := by decide +kernel
theorem dL_isSo_30 : decode cL_isSo 30 = .ok (.aload_n 0, 1) := by decide +kernel
theorem dL_isSo_31 : decode cL_isSo 31 = .ok (.invokevirtual 90, 3) := by decide +kernel
theorem dL_isSo_34 : decode cL_isSo 34 = .ok (.aload_n 2, 1) := by decide +kernel
theorem dL_isSo_35 : decode cL_isSo 35 = .ok (.iconst 4, 1) := by decide +kernel
theorem dL_isSo_36 : decode cL_isSo 36 = .ok (.iaload, 1) := by decide +kernel
theorem dL_isSo_37 : decode cL_isSo 37 = .ok (.if_icmp .ne 7, 3) := by decide +kernel
theorem dL_isSo_40 : decode cL_isSo 40 = .ok (.iconst 1, 1) := by decide +kernel
theorem dL_isSo_41 : decode cL_isSo 41 = .ok (.goto 4, 3) := by decide +kernel
theorem dL_isSo_44 : decode cL_isSo 44 = .ok (.iconst 0, 1) := by decide +kernel
theorem dL_isSo_45 : decode cL_isSo 45 = .ok (.istore_n 3, 1) := by decide +kernel
theorem dL_isSo_46 : decode cL_isSo 46 = .ok (.iconst 0, 1) := by decide +kernel
theorem dL_isSo_47 : decode cL_isSo 47 = .ok (.istore 4, 2) := by decide +kernel
theorem dL_isSo_49 : decode cL_isSo 49 = .ok (.iconst 0, 1) := by decide +kernel
theorem dL_isSo_50 : decode cL_isSo 50 = .ok (.istore 5, 2) := by decide +kernel
theorem dL_isSo_52 : decode cL_isSo 52 = .ok (.iload 5, 2) := by decide +kernel
theorem dL_isSo_54 : decode cL_isSo 54 = .ok (.bipush 16, 2) := by decide +kernel
theorem dL_isSo_56 : decode cL_isSo 56 = .ok (.if_icmp .ge 158, 3) := by decide +kernel
theorem dL_isSo_59 : decode cL_isSo 59 = .ok (.iload_n 3, 1) := by decide +kernel
theorem dL_isSo_60 : decode cL_isSo 60 = .ok (.ifCond .eq 154, 3) := by decide +kernel
theorem dL_isSo_63 : decode cL_isSo 63 = .ok (.iload 5, 2) := by decide +kernel
theorem dL_isSo_65 : decode cL_isSo 65 = .ok (.bipush 15, 2) := by decide +kernel
theorem dL_isSo_67 : decode cL_isSo 67 = .ok (.if_icmp .ge 28, 3) := by decide +kernel
theorem dL_isSo_70 : decode cL_isSo 70 = .ok (.aload_n 2, 1) := by decide +kernel
theorem dL_isSo_71 : decode cL_isSo 71 = .ok (.iconst 2, 1) := by decide +kernel
theorem dL_isSo_72 : decode cL_isSo 72 = .ok (.iaload, 1) := by decide +kernel
theorem dL_isSo_73 : decode cL_isSo 73 = .ok (.ifCond .lt 22, 3) := by decide +kernel
theorem dL_isSo_76 : decode cL_isSo 76 = .ok (.aload_n 1, 1) := by decide +kernel
theorem dL_isSo_77 : decode cL_isSo 77 = .ok (.aload_n 2, 1) := by decide +kernel
theorem dL_isSo_78 : decode cL_isSo 78 = .ok (.iconst 1, 1) := by decide +kernel
theorem dL_isSo_79 : decode cL_isSo 79 = .ok (.iaload, 1) := by decide +kernel
theorem dL_isSo_80 : decode cL_isSo 80 = .ok (.iload 5, 2) := by decide +kernel
theorem dL_isSo_82 : decode cL_isSo 82 = .ok (.aload_n 2, 1) := by decide +kernel
theorem dL_isSo_83 : decode cL_isSo 83 = .ok (.iconst 2, 1) := by decide +kernel
theorem dL_isSo_84 : decode cL_isSo 84 = .ok (.iaload, 1) := by decide +kernel
theorem dL_isSo_85 : decode cL_isSo 85 = .ok (.invokestatic 37, 3) := by decide +kernel
theorem dL_isSo_88 : decode cL_isSo 88 = .ok (.ifCond .eq 7, 3) := by decide +kernel
theorem dL_isSo_91 : decode cL_isSo 91 = .ok (.iconst 1, 1) := by decide +kernel
theorem dL_isSo_92 : decode cL_isSo 92 = .ok (.goto 4, 3) := by decide +kernel
theorem dL_isSo_95 : decode cL_isSo 95 = .ok (.iconst 0, 1) := by decide +kernel
theorem dL_isSo_96 : decode cL_isSo 96 = .ok (.istore 6, 2) := by decide +kernel
theorem dL_isSo_98 : decode cL_isSo 98 = .ok (.aload_n 0, 1) := by decide +kernel
theorem dL_isSo_99 : decode cL_isSo 99 = .ok (.iconst 0, 1) := by decide +kernel
theorem dL_isSo_100 : decode cL_isSo 100 = .ok (.iload 5, 2) := by decide +kernel
theorem dL_isSo_102 : decode cL_isSo 102 = .ok (.invokevirtual 93, 3) := by decide +kernel
theorem dL_isSo_105 : decode cL_isSo 105 = .ok (.aload_n 1, 1) := by decide +kernel
theorem dL_isSo_106 : decode cL_isSo 106 = .ok (.iload 5, 2) := by decide +kernel
theorem dL_isSo_108 : decode cL_isSo 108 = .ok (.iaload, 1) := by decide +kernel
theorem dL_isSo_109 : decode cL_isSo 109 = .ok (.if_icmp .ne 82, 3) := by decide +kernel
theorem dL_isSo_112 : decode cL_isSo 112 = .ok (.aload_n 0, 1) := by decide +kernel
theorem dL_isSo_113 : decode cL_isSo 113 = .ok (.iconst 1, 1) := by decide +kernel
theorem dL_isSo_114 : decode cL_isSo 114 = .ok (.iload 5, 2) := by decide +kernel
theorem dL_isSo_116 : decode cL_isSo 116 = .ok (.invokevirtual 93, 3) := by decide +kernel
theorem dL_isSo_119 : decode cL_isSo 119 = .ok (.aload_n 1, 1) := by decide +kernel
theorem dL_isSo_120 : decode cL_isSo 120 = .ok (.bipush 16, 2) := by decide +kernel
theorem dL_isSo_122 : decode cL_isSo 122 = .ok (.iload 5, 2) := by decide +kernel
theorem dL_isSo_124 : decode cL_isSo 124 = .ok (.iadd, 1) := by decide +kernel
theorem dL_isSo_125 : decode cL_isSo 125 = .ok (.iaload, 1) := by decide +kernel
theorem dL_isSo_126 : decode cL_isSo 126 = .ok (.if_icmp .ne 65, 3) := by decide +kernel
theorem dL_isSo_129 : decode cL_isSo 129 = .ok (.iload 5, 2) := by decide +kernel
theorem dL_isSo_131 : decode cL_isSo 131 = .ok (.bipush 15, 2) := by decide +kernel
theorem dL_isSo_133 : decode cL_isSo 133 = .ok (.if_icmp .eq 38, 3) := by decide +kernel
theorem dL_isSo_136 : decode cL_isSo 136 = .ok (.aload_n 0, 1) := by decide +kernel
theorem dL_isSo_137 : decode cL_isSo 137 = .ok (.iload 5, 2) := by decide +kernel
theorem dL_isSo_139 : decode cL_isSo 139 = .ok (.invokevirtual 96, 3) := by decide +kernel
theorem dL_isSo_142 : decode cL_isSo 142 = .ok (.iload 6, 2) := by decide +kernel
theorem dL_isSo_144 : decode cL_isSo 144 = .ok (.ifCond .eq 23, 3) := by decide +kernel
theorem dL_isSo_147 : decode cL_isSo 147 = .ok (.aload_n 1, 1) := by decide +kernel
theorem dL_isSo_148 : decode cL_isSo 148 = .ok (.aload_n 2, 1) := by decide +kernel
theorem dL_isSo_149 : decode cL_isSo 149 = .ok (.iconst 1, 1) := by decide +kernel
theorem dL_isSo_150 : decode cL_isSo 150 = .ok (.iaload, 1) := by decide +kernel
theorem dL_isSo_151 : decode cL_isSo 151 = .ok (.iload 5, 2) := by decide +kernel
theorem dL_isSo_153 : decode cL_isSo 153 = .ok (.aload_n 2, 1) := by decide +kernel
theorem dL_isSo_154 : decode cL_isSo 154 = .ok (.iconst 2, 1) := by decide +kernel
theorem dL_isSo_155 : decode cL_isSo 155 = .ok (.iaload, 1) := by decide +kernel
theorem dL_isSo_156 : decode cL_isSo 156 = .ok (.iadd, 1) := by decide +kernel
theorem dL_isSo_157 : decode cL_isSo 157 = .ok (.invokestatic 21, 3) := by decide +kernel
theorem dL_isSo_160 : decode cL_isSo 160 = .ok (.ifCond .eq 7, 3) := by decide +kernel
theorem dL_isSo_163 : decode cL_isSo 163 = .ok (.iconst 1, 1) := by decide +kernel
theorem dL_isSo_164 : decode cL_isSo 164 = .ok (.goto 4, 3) := by decide +kernel
theorem dL_isSo_167 : decode cL_isSo 167 = .ok (.iconst 0, 1) := by decide +kernel
theorem dL_isSo_168 : decode cL_isSo 168 = .ok (.if_icmp .ne 23, 3) := by decide +kernel
theorem dL_isSo_171 : decode cL_isSo 171 = .ok (.iload 6, 2) := by decide +kernel
theorem dL_isSo_173 : decode cL_isSo 173 = .ok (.ifCond .eq 14, 3) := by decide +kernel
theorem dL_isSo_176 : decode cL_isSo 176 = .ok (.aload_n 0, 1) := by decide +kernel
theorem dL_isSo_177 : decode cL_isSo 177 = .ok (.iload 4, 2) := by decide +kernel
theorem dL_isSo_179 : decode cL_isSo 179 = .ok (.invokevirtual 100, 3) := by decide +kernel
theorem dL_isSo_182 : decode cL_isSo 182 = .ok (.iload 5, 2) := by decide +kernel
theorem dL_isSo_184 : decode cL_isSo 184 = .ok (.if_icmp .ne 7, 3) := by decide +kernel
theorem dL_isSo_187 : decode cL_isSo 187 = .ok (.iconst 1, 1) := by decide +kernel
theorem dL_isSo_188 : decode cL_isSo 188 = .ok (.goto 4, 3) := by decide +kernel
theorem dL_isSo_191 : decode cL_isSo 191 = .ok (.iconst 0, 1) := by decide +kernel
theorem dL_isSo_192 : decode cL_isSo 192 = .ok (.istore_n 3, 1) := by decide +kernel
theorem dL_isSo_193 : decode cL_isSo 193 = .ok (.iload 4, 2) := by decide +kernel
theorem dL_isSo_195 : decode cL_isSo 195 = .ok (.iload 6, 2) := by decide +kernel
theorem dL_isSo_197 : decode cL_isSo 197 = .ok (.ifCond .eq 7, 3) := by decide +kernel
theorem dL_isSo_200 : decode cL_isSo 200 = .ok (.iconst 1, 1) := by decide +kernel
theorem dL_isSo_201 : decode cL_isSo 201 = .ok (.goto 4, 3) := by decide +kernel
theorem dL_isSo_204 : decode cL_isSo 204 = .ok (.iconst 0, 1) := by decide +kernel
theorem dL_isSo_205 : decode cL_isSo 205 = .ok (.iadd, 1) := by decide +kernel
theorem dL_isSo_206 : decode cL_isSo 206 = .ok (.istore 4, 2) := by decide +kernel
theorem dL_isSo_208 : decode cL_isSo 208 = .ok (.iinc 5 1, 3) := by decide +kernel
theorem dL_isSo_211 : decode cL_isSo 211 = .ok (.goto (-159), 3) := by decide +kernel
theorem dL_isSo_214 : decode cL_isSo 214 = .ok (.iload_n 3, 1) := by decide +kernel
theorem dL_isSo_215 : decode cL_isSo 215 = .ok (.ifCond .eq 84, 3) := by decide +kernel
theorem dL_isSo_218 : decode cL_isSo 218 = .ok (.aload_n 0, 1) := by decide +kernel
theorem dL_isSo_219 : decode cL_isSo 219 = .ok (.invokevirtual 103, 3) := by decide +kernel
theorem dL_isSo_222 : decode cL_isSo 222 = .ok (.iload 4, 2) := by decide +kernel
theorem dL_isSo_224 : decode cL_isSo 224 = .ok (.if_icmp .ne 75, 3) := by decide +kernel
theorem dL_isSo_227 : decode cL_isSo 227 = .ok (.aload_n 0, 1) := by decide +kernel
theorem dL_isSo_228 : decode cL_isSo 228 = .ok (.iload 4, 2) := by decide +kernel
theorem dL_isSo_230 : decode cL_isSo 230 = .ok (.invokevirtual 100, 3) := by decide +kernel
theorem dL_isSo_233 : decode cL_isSo 233 = .ok (.iconst (-1), 1) := by decide +kernel
theorem dL_isSo_234 : decode cL_isSo 234 = .ok (.if_icmp .ne 65, 3) := by decide +kernel
theorem dL_isSo_237 : decode cL_isSo 237 = .ok (.aload_n 0, 1) := by decide +kernel
theorem dL_isSo_238 : decode cL_isSo 238 = .ok (.iconst (-1), 1) := by decide +kernel
theorem dL_isSo_239 : decode cL_isSo 239 = .ok (.invokevirtual 100, 3) := by decide +kernel
theorem dL_isSo_242 : decode cL_isSo 242 = .ok (.iconst (-1), 1) := by decide +kernel
theorem dL_isSo_243 : decode cL_isSo 243 = .ok (.if_icmp .ne 56, 3) := by decide +kernel
theorem dL_isSo_246 : decode cL_isSo 246 = .ok (.aload_n 0, 1) := by decide +kernel
theorem dL_isSo_247 : decode cL_isSo 247 = .ok (.iconst 0, 1) := by decide +kernel
theorem dL_isSo_248 : decode cL_isSo 248 = .ok (.invokevirtual 106, 3) := by decide +kernel
theorem dL_isSo_251 : decode cL_isSo 251 = .ok (.aload_n 1, 1) := by decide +kernel
theorem dL_isSo_252 : decode cL_isSo 252 = .ok (.iconst 0, 1) := by decide +kernel
theorem dL_isSo_253 : decode cL_isSo 253 = .ok (.invokestatic 33, 3) := by decide +kernel
theorem dL_isSo_256 : decode cL_isSo 256 = .ok (.if_icmp .ne 43, 3) := by decide +kernel
theorem dL_isSo_259 : decode cL_isSo 259 = .ok (.aload_n 0, 1) := by decide +kernel
theorem dL_isSo_260 : decode cL_isSo 260 = .ok (.iconst 1, 1) := by decide +kernel
theorem dL_isSo_261 : decode cL_isSo 261 = .ok (.invokevirtual 106, 3) := by decide +kernel
theorem dL_isSo_264 : decode cL_isSo 264 = .ok (.aload_n 1, 1) := by decide +kernel
theorem dL_isSo_265 : decode cL_isSo 265 = .ok (.iconst 1, 1) := by decide +kernel
theorem dL_isSo_266 : decode cL_isSo 266 = .ok (.invokestatic 33, 3) := by decide +kernel
theorem dL_isSo_269 : decode cL_isSo 269 = .ok (.if_icmp .ne 30, 3) := by decide +kernel
theorem dL_isSo_272 : decode cL_isSo 272 = .ok (.aload_n 0, 1) := by decide +kernel
theorem dL_isSo_273 : decode cL_isSo 273 = .ok (.iconst 0, 1) := by decide +kernel
theorem dL_isSo_274 : decode cL_isSo 274 = .ok (.invokevirtual 108, 3) := by decide +kernel
theorem dL_isSo_277 : decode cL_isSo 277 = .ok (.aload_n 2, 1) := by decide +kernel
theorem dL_isSo_278 : decode cL_isSo 278 = .ok (.iconst 5, 1) := by decide +kernel
theorem dL_isSo_279 : decode cL_isSo 279 = .ok (.iaload, 1) := by decide +kernel
theorem dL_isSo_280 : decode cL_isSo 280 = .ok (.if_icmp .ne 19, 3) := by decide +kernel
theorem dL_isSo_283 : decode cL_isSo 283 = .ok (.aload_n 0, 1) := by decide +kernel
theorem dL_isSo_284 : decode cL_isSo 284 = .ok (.iconst 1, 1) := by decide +kernel
theorem dL_isSo_285 : decode cL_isSo 285 = .ok (.invokevirtual 108, 3) := by decide +kernel
theorem dL_isSo_288 : decode cL_isSo 288 = .ok (.aload_n 2, 1) := by decide +kernel
theorem dL_isSo_289 : decode cL_isSo 289 = .ok (.bipush 6, 2) := by decide +kernel
theorem dL_isSo_291 : decode cL_isSo 291 = .ok (.iaload, 1) := by decide +kernel
theorem dL_isSo_292 : decode cL_isSo 292 = .ok (.if_icmp .ne 7, 3) := by decide +kernel
theorem dL_isSo_295 : decode cL_isSo 295 = .ok (.iconst 1, 1) := by decide +kernel
theorem dL_isSo_296 : decode cL_isSo 296 = .ok (.goto 4, 3) := by decide +kernel
theorem dL_isSo_299 : decode cL_isSo 299 = .ok (.iconst 0, 1) := by decide +kernel
theorem dL_isSo_300 : decode cL_isSo 300 = .ok (.ireturn, 1) := by decide +kernel
theorem dL_begin_0 : decode cL_begin 0 = .ok (.iconst 0, 1) := by decide +kernel
theorem dL_begin_1 : decode cL_begin 1 = .ok (.istore_n 3, 1) := by decide +kernel
theorem dL_begin_2 : decode cL_begin 2 = .ok (.iload_n 3, 1) := by decide +kernel
theorem dL_begin_3 : decode cL_begin 3 = .ok (.bipush 32, 2) := by decide +kernel
theorem dL_begin_5 : decode cL_begin 5 = .ok (.if_icmp .ge 24, 3) := by decide +kernel
theorem dL_begin_8 : decode cL_begin 8 = .ok (.aload_n 1, 1) := by decide +kernel
theorem dL_begin_9 : decode cL_begin 9 = .ok (.iload_n 3, 1) := by decide +kernel
theorem dL_begin_10 : decode cL_begin 10 = .ok (.iload_n 3, 1) := by decide +kernel
theorem dL_begin_11 : decode cL_begin 11 = .ok (.bipush 16, 2) := by decide +kernel
theorem dL_begin_13 : decode cL_begin 13 = .ok (.irem, 1) := by decide +kernel
theorem dL_begin_14 : decode cL_begin 14 = .ok (.ifCond .ne 7, 3) := by decide +kernel
theorem dL_begin_17 : decode cL_begin 17 = .ok (.iload_n 0, 1) := by decide +kernel
theorem dL_begin_18 : decode cL_begin 18 = .ok (.goto 4, 3) := by decide +kernel
theorem dL_begin_21 : decode cL_begin 21 = .ok (.iconst 0, 1) := by decide +kernel
theorem dL_begin_22 : decode cL_begin 22 = .ok (.iastore, 1) := by decide +kernel
theorem dL_begin_23 : decode cL_begin 23 = .ok (.iinc 3 1, 3) := by decide +kernel
theorem dL_begin_26 : decode cL_begin 26 = .ok (.goto (-24), 3) := by decide +kernel
theorem dL_begin_29 : decode cL_begin 29 = .ok (.aload_n 2, 1) := by decide +kernel
theorem dL_begin_30 : decode cL_begin 30 = .ok (.iconst 0, 1) := by decide +kernel
theorem dL_begin_31 : decode cL_begin 31 = .ok (.iload_n 0, 1) := by decide +kernel
theorem dL_begin_32 : decode cL_begin 32 = .ok (.iastore, 1) := by decide +kernel
theorem dL_begin_33 : decode cL_begin 33 = .ok (.aload_n 2, 1) := by decide +kernel
theorem dL_begin_34 : decode cL_begin 34 = .ok (.iconst 1, 1) := by decide +kernel
theorem dL_begin_35 : decode cL_begin 35 = .ok (.iconst 0, 1) := by decide +kernel
theorem dL_begin_36 : decode cL_begin 36 = .ok (.iastore, 1) := by decide +kernel
theorem dL_begin_37 : decode cL_begin 37 = .ok (.aload_n 2, 1) := by decide +kernel
theorem dL_begin_38 : decode cL_begin 38 = .ok (.iconst 2, 1) := by decide +kernel
theorem dL_begin_39 : decode cL_begin 39 = .ok (.iconst (-1), 1) := by decide +kernel
theorem dL_begin_40 : decode cL_begin 40 = .ok (.iastore, 1) := by decide +kernel
theorem dL_begin_41 : decode cL_begin 41 = .ok (.aload_n 2, 1) := by decide +kernel
theorem dL_begin_42 : decode cL_begin 42 = .ok (.iconst 3, 1) := by decide +kernel
theorem dL_begin_43 : decode cL_begin 43 = .ok (.iconst (-1), 1) := by decide +kernel
theorem dL_begin_44 : decode cL_begin 44 = .ok (.iastore, 1) := by decide +kernel
theorem dL_begin_45 : decode cL_begin 45 = .ok (.aload_n 2, 1) := by decide +kernel
theorem dL_begin_46 : decode cL_begin 46 = .ok (.iconst 4, 1) := by decide +kernel
theorem dL_begin_47 : decode cL_begin 47 = .ok (.iconst 0, 1) := by decide +kernel
theorem dL_begin_48 : decode cL_begin 48 = .ok (.iastore, 1) := by decide +kernel
theorem dL_begin_49 : decode cL_begin 49 = .ok (.aload_n 2, 1) := by decide +kernel
theorem dL_begin_50 : decode cL_begin 50 = .ok (.iconst 5, 1) := by decide +kernel
theorem dL_begin_51 : decode cL_begin 51 = .ok (.iconst 0, 1) := by decide +kernel
theorem dL_begin_52 : decode cL_begin 52 = .ok (.iastore, 1) := by decide +kernel
theorem dL_begin_53 : decode cL_begin 53 = .ok (.aload_n 2, 1) := by decide +kernel
theorem dL_begin_54 : decode cL_begin 54 = .ok (.bipush 6, 2) := by decide +kernel
theorem dL_begin_56 : decode cL_begin 56 = .ok (.iconst 0, 1) := by decide +kernel
theorem dL_begin_57 : decode cL_begin 57 = .ok (.iastore, 1) := by decide +kernel
theorem dL_begin_58 : decode cL_begin 58 = .ok (.return_, 1) := by decide +kernel
theorem dL_turn_0 : decode cL_turn 0 = .ok (.iload_n 1, 1) := by decide +kernel
theorem dL_turn_1 : decode cL_turn 1 = .ok (.bipush 16, 2) := by decide +kernel
theorem dL_turn_3 : decode cL_turn 3 = .ok (.invokestatic 111, 3) := by decide +kernel
theorem dL_turn_6 : decode cL_turn 6 = .ok (.istore 4, 2) := by decide +kernel
theorem dL_turn_8 : decode cL_turn 8 = .ok (.iload 4, 2) := by decide +kernel
theorem dL_turn_10 : decode cL_turn 10 = .ok (.ifCond .ne 7, 3) := by decide +kernel
theorem dL_turn_13 : decode cL_turn 13 = .ok (.iconst 0, 1) := by decide +kernel
theorem dL_turn_14 : decode cL_turn 14 = .ok (.goto 36, 3) := by decide +kernel
theorem dL_turn_17 : decode cL_turn 17 = .ok (.iload 4, 2) := by decide +kernel
theorem dL_turn_19 : decode cL_turn 19 = .ok (.iconst 5, 1) := by decide +kernel
theorem dL_turn_20 : decode cL_turn 20 = .ok (.if_icmp .ge 7, 3) := by decide +kernel
theorem dL_turn_23 : decode cL_turn 23 = .ok (.iconst 1, 1) := by decide +kernel
theorem dL_turn_24 : decode cL_turn 24 = .ok (.goto 26, 3) := by decide +kernel
theorem dL_turn_27 : decode cL_turn 27 = .ok (.iload 4, 2) := by decide +kernel
theorem dL_turn_29 : decode cL_turn 29 = .ok (.bipush 11, 2) := by decide +kernel
theorem dL_turn_31 : decode cL_turn 31 = .ok (.if_icmp .ge 7, 3) := by decide +kernel
theorem dL_turn_34 : decode cL_turn 34 = .ok (.iconst 2, 1) := by decide +kernel
theorem dL_turn_35 : decode cL_turn 35 = .ok (.goto 15, 3) := by decide +kernel
theorem dL_turn_38 : decode cL_turn 38 = .ok (.iload 4, 2) := by decide +kernel
theorem dL_turn_40 : decode cL_turn 40 = .ok (.bipush 15, 2) := by decide +kernel
theorem dL_turn_42 : decode cL_turn 42 = .ok (.if_icmp .ge 7, 3) := by decide +kernel
theorem dL_turn_45 : decode cL_turn 45 = .ok (.iconst 3, 1) := by decide +kernel
theorem dL_turn_46 : decode cL_turn 46 = .ok (.goto 4, 3) := by decide +kernel
theorem dL_turn_49 : decode cL_turn 49 = .ok (.iconst 4, 1) := by decide +kernel
theorem dL_turn_50 : decode cL_turn 50 = .ok (.istore 4, 2) := by decide +kernel
theorem dL_turn_52 : decode cL_turn 52 = .ok (.iconst 0, 1) := by decide +kernel
theorem dL_turn_53 : decode cL_turn 53 = .ok (.istore 5, 2) := by decide +kernel
theorem dL_turn_55 : decode cL_turn 55 = .ok (.iconst 0, 1) := by decide +kernel
theorem dL_turn_56 : decode cL_turn 56 = .ok (.istore 6, 2) := by decide +kernel
theorem dL_turn_58 : decode cL_turn 58 = .ok (.iload 6, 2) := by decide +kernel
theorem dL_turn_60 : decode cL_turn 60 = .ok (.bipush 15, 2) := by decide +kernel
theorem dL_turn_62 : decode cL_turn 62 = .ok (.if_icmp .ge 45, 3) := by decide +kernel
theorem dL_turn_65 : decode cL_turn 65 = .ok (.iload 5, 2) := by decide +kernel
theorem dL_turn_67 : decode cL_turn 67 = .ok (.aload_n 2, 1) := by decide +kernel
theorem dL_turn_68 : decode cL_turn 68 = .ok (.aload_n 3, 1) := by decide +kernel
theorem dL_turn_69 : decode cL_turn 69 = .ok (.iconst 1, 1) := by decide +kernel
theorem dL_turn_70 : decode cL_turn 70 = .ok (.iaload, 1) := by decide +kernel
theorem dL_turn_71 : decode cL_turn 71 = .ok (.iload 6, 2) := by decide +kernel
theorem dL_turn_73 : decode cL_turn 73 = .ok (.aload_n 3, 1) := by decide +kernel
theorem dL_turn_74 : decode cL_turn 74 = .ok (.iconst 2, 1) := by decide +kernel
theorem dL_turn_75 : decode cL_turn 75 = .ok (.iaload, 1) := by decide +kernel
theorem dL_turn_76 : decode cL_turn 76 = .ok (.ifCond .ge 8, 3) := by decide +kernel
theorem dL_turn_79 : decode cL_turn 79 = .ok (.iload 4, 2) := by decide +kernel
theorem dL_turn_81 : decode cL_turn 81 = .ok (.goto 6, 3) := by decide +kernel
theorem dL_turn_84 : decode cL_turn 84 = .ok (.aload_n 3, 1) := by decide +kernel
theorem dL_turn_85 : decode cL_turn 85 = .ok (.iconst 2, 1) := by decide +kernel
theorem dL_turn_86 : decode cL_turn 86 = .ok (.iaload, 1) := by decide +kernel
theorem dL_turn_87 : decode cL_turn 87 = .ok (.invokestatic 37, 3) := by decide +kernel
theorem dL_turn_90 : decode cL_turn 90 = .ok (.ifCond .eq 7, 3) := by decide +kernel
theorem dL_turn_93 : decode cL_turn 93 = .ok (.iconst 1, 1) := by decide +kernel
theorem dL_turn_94 : decode cL_turn 94 = .ok (.goto 4, 3) := by decide +kernel
theorem dL_turn_97 : decode cL_turn 97 = .ok (.iconst 0, 1) := by decide +kernel
theorem dL_turn_98 : decode cL_turn 98 = .ok (.iadd, 1) := by decide +kernel
theorem dL_turn_99 : decode cL_turn 99 = .ok (.istore 5, 2) := by decide +kernel
theorem dL_turn_101 : decode cL_turn 101 = .ok (.iinc 6 1, 3) := by decide +kernel
theorem dL_turn_104 : decode cL_turn 104 = .ok (.goto (-46), 3) := by decide +kernel
theorem dL_turn_107 : decode cL_turn 107 = .ok (.aload_n 3, 1) := by decide +kernel
theorem dL_turn_108 : decode cL_turn 108 = .ok (.iconst 2, 1) := by decide +kernel
theorem dL_turn_109 : decode cL_turn 109 = .ok (.iaload, 1) := by decide +kernel
theorem dL_turn_110 : decode cL_turn 110 = .ok (.ifCond .ge 100, 3) := by decide +kernel
theorem dL_turn_113 : decode cL_turn 113 = .ok (.aload_n 3, 1) := by decide +kernel
theorem dL_turn_114 : decode cL_turn 114 = .ok (.iconst 3, 1) := by decide +kernel
theorem dL_turn_115 : decode cL_turn 115 = .ok (.iaload, 1) := by decide +kernel
theorem dL_turn_116 : decode cL_turn 116 = .ok (.ifCond .ge 7, 3) := by decide +kernel
theorem dL_turn_119 : decode cL_turn 119 = .ok (.iconst 1, 1) := by decide +kernel
theorem dL_turn_120 : decode cL_turn 120 = .ok (.goto 4, 3) := by decide +kernel
theorem dL_turn_123 : decode cL_turn 123 = .ok (.iconst 0, 1) := by decide +kernel
theorem dL_turn_124 : decode cL_turn 124 = .ok (.istore 6, 2) := by decide +kernel
theorem dL_turn_126 : decode cL_turn 126 = .ok (.aload_n 0, 1) := by decide +kernel
theorem dL_turn_127 : decode cL_turn 127 = .ok (.iload 4, 2) := by decide +kernel
theorem dL_turn_129 : decode cL_turn 129 = .ok (.invokestatic 114, 3) := by decide +kernel
theorem dL_turn_132 : decode cL_turn 132 = .ok (.iload 6, 2) := by decide +kernel
theorem dL_turn_134 : decode cL_turn 134 = .ok (.ifCond .eq 8, 3) := by decide +kernel
theorem dL_turn_137 : decode cL_turn 137 = .ok (.iload 5, 2) := by decide +kernel
theorem dL_turn_139 : decode cL_turn 139 = .ok (.goto 5, 3) := by decide +kernel
theorem dL_turn_142 : decode cL_turn 142 = .ok (.bipush (-3), 2) := by decide +kernel
theorem dL_turn_144 : decode cL_turn 144 = .ok (.if_icmp .eq 5, 3) := by decide +kernel
theorem dL_turn_147 : decode cL_turn 147 = .ok (.iconst 0, 1) := by decide +kernel
theorem dL_turn_148 : decode cL_turn 148 = .ok (.ireturn, 1) := by decide +kernel
theorem dL_turn_149 : decode cL_turn 149 = .ok (.aload_n 3, 1) := by decide +kernel
theorem dL_turn_150 : decode cL_turn 150 = .ok (.iconst 4, 1) := by decide +kernel
theorem dL_turn_151 : decode cL_turn 151 = .ok (.dup2, 1) := by decide +kernel
theorem dL_turn_152 : decode cL_turn 152 = .ok (.iaload, 1) := by decide +kernel
theorem dL_turn_153 : decode cL_turn 153 = .ok (.iload 6, 2) := by decide +kernel
theorem dL_turn_155 : decode cL_turn 155 = .ok (.ifCond .eq 7, 3) := by decide +kernel
theorem dL_turn_158 : decode cL_turn 158 = .ok (.iconst 1, 1) := by decide +kernel
theorem dL_turn_159 : decode cL_turn 159 = .ok (.goto 4, 3) := by decide +kernel
theorem dL_turn_162 : decode cL_turn 162 = .ok (.iconst 0, 1) := by decide +kernel
theorem dL_turn_163 : decode cL_turn 163 = .ok (.iadd, 1) := by decide +kernel
theorem dL_turn_164 : decode cL_turn 164 = .ok (.iastore, 1) := by decide +kernel
theorem dL_turn_165 : decode cL_turn 165 = .ok (.aload_n 3, 1) := by decide +kernel
theorem dL_turn_166 : decode cL_turn 166 = .ok (.iconst 2, 1) := by decide +kernel
theorem dL_turn_167 : decode cL_turn 167 = .ok (.iload 6, 2) := by decide +kernel
theorem dL_turn_169 : decode cL_turn 169 = .ok (.ifCond .eq 13, 3) := by decide +kernel
theorem dL_turn_172 : decode cL_turn 172 = .ok (.iload 5, 2) := by decide +kernel
theorem dL_turn_174 : decode cL_turn 174 = .ok (.ifCond .le 8, 3) := by decide +kernel
theorem dL_turn_177 : decode cL_turn 177 = .ok (.iload 4, 2) := by decide +kernel
theorem dL_turn_179 : decode cL_turn 179 = .ok (.goto 4, 3) := by decide +kernel
theorem dL_turn_182 : decode cL_turn 182 = .ok (.iconst (-1), 1) := by decide +kernel
theorem dL_turn_183 : decode cL_turn 183 = .ok (.iastore, 1) := by decide +kernel
theorem dL_turn_184 : decode cL_turn 184 = .ok (.aload_n 3, 1) := by decide +kernel
theorem dL_turn_185 : decode cL_turn 185 = .ok (.iconst 1, 1) := by decide +kernel
theorem dL_turn_186 : decode cL_turn 186 = .ok (.iload 6, 2) := by decide +kernel
theorem dL_turn_188 : decode cL_turn 188 = .ok (.ifCond .eq 16, 3) := by decide +kernel
theorem dL_turn_191 : decode cL_turn 191 = .ok (.iload 5, 2) := by decide +kernel
theorem dL_turn_193 : decode cL_turn 193 = .ok (.ifCond .ne 11, 3) := by decide +kernel
theorem dL_turn_196 : decode cL_turn 196 = .ok (.iconst 1, 1) := by decide +kernel
theorem dL_turn_197 : decode cL_turn 197 = .ok (.aload_n 3, 1) := by decide +kernel
theorem dL_turn_198 : decode cL_turn 198 = .ok (.iconst 1, 1) := by decide +kernel
theorem dL_turn_199 : decode cL_turn 199 = .ok (.iaload, 1) := by decide +kernel
theorem dL_turn_200 : decode cL_turn 200 = .ok (.isub, 1) := by decide +kernel
theorem dL_turn_201 : decode cL_turn 201 = .ok (.goto 6, 3) := by decide +kernel
theorem dL_turn_204 : decode cL_turn 204 = .ok (.aload_n 3, 1) := by decide +kernel
theorem dL_turn_205 : decode cL_turn 205 = .ok (.iconst 1, 1) := by decide +kernel
theorem dL_turn_206 : decode cL_turn 206 = .ok (.iaload, 1) := by decide +kernel
theorem dL_turn_207 : decode cL_turn 207 = .ok (.iastore, 1) := by decide +kernel
theorem dL_turn_208 : decode cL_turn 208 = .ok (.iconst 1, 1) := by decide +kernel
theorem dL_turn_209 : decode cL_turn 209 = .ok (.ireturn, 1) := by decide +kernel
theorem dL_turn_210 : decode cL_turn 210 = .ok (.iload_n 1, 1) := by decide +kernel
theorem dL_turn_211 : decode cL_turn 211 = .ok (.iconst 4, 1) := by decide +kernel
theorem dL_turn_212 : decode cL_turn 212 = .ok (.ishr, 1) := by decide +kernel
theorem dL_turn_213 : decode cL_turn 213 = .ok (.bipush 15, 2) := by decide +kernel
theorem dL_turn_215 : decode cL_turn 215 = .ok (.invokestatic 111, 3) := by decide +kernel
theorem dL_turn_218 : decode cL_turn 218 = .ok (.istore 6, 2) := by decide +kernel
theorem dL_turn_220 : decode cL_turn 220 = .ok (.iconst 0, 1) := by decide +kernel
theorem dL_turn_221 : decode cL_turn 221 = .ok (.istore 7, 2) := by decide +kernel
theorem dL_turn_223 : decode cL_turn 223 = .ok (.iload 7, 2) := by decide +kernel
theorem dL_turn_225 : decode cL_turn 225 = .ok (.bipush 15, 2) := by decide +kernel
theorem dL_turn_227 : decode cL_turn 227 = .ok (.if_icmp .ge 44, 3) := by decide +kernel
theorem dL_turn_230 : decode cL_turn 230 = .ok (.iload_n 1, 1) := by decide +kernel
theorem dL_turn_231 : decode cL_turn 231 = .ok (.bipush 9, 2) := by decide +kernel
theorem dL_turn_233 : decode cL_turn 233 = .ok (.ishr, 1) := by decide +kernel
theorem dL_turn_234 : decode cL_turn 234 = .ok (.iconst 4, 1) := by decide +kernel
theorem dL_turn_235 : decode cL_turn 235 = .ok (.invokestatic 111, 3) := by decide +kernel
theorem dL_turn_238 : decode cL_turn 238 = .ok (.ifCond .le 33, 3) := by decide +kernel
theorem dL_turn_241 : decode cL_turn 241 = .ok (.aload_n 2, 1) := by decide +kernel
theorem dL_turn_242 : decode cL_turn 242 = .ok (.aload_n 3, 1) := by decide +kernel
theorem dL_turn_243 : decode cL_turn 243 = .ok (.iconst 1, 1) := by decide +kernel
theorem dL_turn_244 : decode cL_turn 244 = .ok (.iaload, 1) := by decide +kernel
theorem dL_turn_245 : decode cL_turn 245 = .ok (.iload 6, 2) := by decide +kernel
theorem dL_turn_247 : decode cL_turn 247 = .ok (.aload_n 3, 1) := by decide +kernel
theorem dL_turn_248 : decode cL_turn 248 = .ok (.iconst 2, 1) := by decide +kernel
theorem dL_turn_249 : decode cL_turn 249 = .ok (.iaload, 1) := by decide +kernel
theorem dL_turn_250 : decode cL_turn 250 = .ok (.invokestatic 37, 3) := by decide +kernel
theorem dL_turn_253 : decode cL_turn 253 = .ok (.ifCond .ne 18, 3) := by decide +kernel
theorem dL_turn_256 : decode cL_turn 256 = .ok (.iload 6, 2) := by decide +kernel
theorem dL_turn_258 : decode cL_turn 258 = .ok (.iconst 1, 1) := by decide +kernel
theorem dL_turn_259 : decode cL_turn 259 = .ok (.iadd, 1) := by decide +kernel
theorem dL_turn_260 : decode cL_turn 260 = .ok (.bipush 15, 2) := by decide +kernel
theorem dL_turn_262 : decode cL_turn 262 = .ok (.irem, 1) := by decide +kernel
theorem dL_turn_263 : decode cL_turn 263 = .ok (.istore 6, 2) := by decide +kernel
theorem dL_turn_265 : decode cL_turn 265 = .ok (.iinc 7 1, 3) := by decide +kernel
theorem dL_turn_268 : decode cL_turn 268 = .ok (.goto (-45), 3) := by decide +kernel
theorem dL_turn_271 : decode cL_turn 271 = .ok (.aload_n 2, 1) := by decide +kernel
theorem dL_turn_272 : decode cL_turn 272 = .ok (.aload_n 3, 1) := by decide +kernel
theorem dL_turn_273 : decode cL_turn 273 = .ok (.iconst 1, 1) := by decide +kernel
theorem dL_turn_274 : decode cL_turn 274 = .ok (.iaload, 1) := by decide +kernel
theorem dL_turn_275 : decode cL_turn 275 = .ok (.iload 6, 2) := by decide +kernel
theorem dL_turn_277 : decode cL_turn 277 = .ok (.aload_n 3, 1) := by decide +kernel
theorem dL_turn_278 : decode cL_turn 278 = .ok (.iconst 2, 1) := by decide +kernel
theorem dL_turn_279 : decode cL_turn 279 = .ok (.iaload, 1) := by decide +kernel
theorem dL_turn_280 : decode cL_turn 280 = .ok (.invokestatic 37, 3) := by decide +kernel
theorem dL_turn_283 : decode cL_turn 283 = .ok (.istore 7, 2) := by decide +kernel
theorem dL_turn_285 : decode cL_turn 285 = .ok (.iload 6, 2) := by decide +kernel
theorem dL_turn_287 : decode cL_turn 287 = .ok (.aload_n 3, 1) := by decide +kernel
theorem dL_turn_288 : decode cL_turn 288 = .ok (.iconst 2, 1) := by decide +kernel
theorem dL_turn_289 : decode cL_turn 289 = .ok (.iaload, 1) := by decide +kernel
theorem dL_turn_290 : decode cL_turn 290 = .ok (.iadd, 1) := by decide +kernel
theorem dL_turn_291 : decode cL_turn 291 = .ok (.istore 8, 2) := by decide +kernel
theorem dL_turn_293 : decode cL_turn 293 = .ok (.aload_n 0, 1) := by decide +kernel
theorem dL_turn_294 : decode cL_turn 294 = .ok (.iload 4, 2) := by decide +kernel
theorem dL_turn_296 : decode cL_turn 296 = .ok (.invokestatic 114, 3) := by decide +kernel
theorem dL_turn_299 : decode cL_turn 299 = .ok (.bipush (-3), 2) := by decide +kernel
theorem dL_turn_301 : decode cL_turn 301 = .ok (.if_icmp .ne 24, 3) := by decide +kernel
theorem dL_turn_304 : decode cL_turn 304 = .ok (.aload_n 0, 1) := by decide +kernel
theorem dL_turn_305 : decode cL_turn 305 = .ok (.iload 6, 2) := by decide +kernel
theorem dL_turn_307 : decode cL_turn 307 = .ok (.invokestatic 118, 3) := by decide +kernel
theorem dL_turn_310 : decode cL_turn 310 = .ok (.iload 7, 2) := by decide +kernel
theorem dL_turn_312 : decode cL_turn 312 = .ok (.ifCond .eq 8, 3) := by decide +kernel
theorem dL_turn_315 : decode cL_turn 315 = .ok (.iload 8, 2) := by decide +kernel
theorem dL_turn_317 : decode cL_turn 317 = .ok (.goto 5, 3) := by decide +kernel
theorem dL_turn_320 : decode cL_turn 320 = .ok (.bipush (-3), 2) := by decide +kernel
theorem dL_turn_322 : decode cL_turn 322 = .ok (.if_icmp .eq 5, 3) := by decide +kernel
theorem dL_turn_325 : decode cL_turn 325 = .ok (.iconst 0, 1) := by decide +kernel
theorem dL_turn_326 : decode cL_turn 326 = .ok (.ireturn, 1) := by decide +kernel
theorem dL_turn_327 : decode cL_turn 327 = .ok (.iload 7, 2) := by decide +kernel
theorem dL_turn_329 : decode cL_turn 329 = .ok (.ifCond .eq 85, 3) := by decide +kernel
theorem dL_turn_332 : decode cL_turn 332 = .ok (.aload_n 3, 1) := by decide +kernel
theorem dL_turn_333 : decode cL_turn 333 = .ok (.bipush 6, 2) := by decide +kernel
theorem dL_turn_335 : decode cL_turn 335 = .ok (.aload_n 3, 1) := by decide +kernel
theorem dL_turn_336 : decode cL_turn 336 = .ok (.iconst 1, 1) := by decide +kernel
theorem dL_turn_337 : decode cL_turn 337 = .ok (.iaload, 1) := by decide +kernel
theorem dL_turn_338 : decode cL_turn 338 = .ok (.isub, 1) := by decide +kernel
theorem dL_turn_339 : decode cL_turn 339 = .ok (.dup2, 1) := by decide +kernel
theorem dL_turn_340 : decode cL_turn 340 = .ok (.iaload, 1) := by decide +kernel
theorem dL_turn_341 : decode cL_turn 341 = .ok (.aload_n 2, 1) := by decide +kernel
theorem dL_turn_342 : decode cL_turn 342 = .ok (.aload_n 3, 1) := by decide +kernel
theorem dL_turn_343 : decode cL_turn 343 = .ok (.iconst 1, 1) := by decide +kernel
theorem dL_turn_344 : decode cL_turn 344 = .ok (.iaload, 1) := by decide +kernel
theorem dL_turn_345 : decode cL_turn 345 = .ok (.iload 8, 2) := by decide +kernel
theorem dL_turn_347 : decode cL_turn 347 = .ok (.invokestatic 21, 3) := by decide +kernel
theorem dL_turn_350 : decode cL_turn 350 = .ok (.ifCond .eq 7, 3) := by decide +kernel
theorem dL_turn_353 : decode cL_turn 353 = .ok (.iconst 1, 1) := by decide +kernel
theorem dL_turn_354 : decode cL_turn 354 = .ok (.goto 4, 3) := by decide +kernel
theorem dL_turn_357 : decode cL_turn 357 = .ok (.iconst 0, 1) := by decide +kernel
theorem dL_turn_358 : decode cL_turn 358 = .ok (.iadd, 1) := by decide +kernel
theorem dL_turn_359 : decode cL_turn 359 = .ok (.iastore, 1) := by decide +kernel
theorem dL_turn_360 : decode cL_turn 360 = .ok (.aload_n 2, 1) := by decide +kernel
theorem dL_turn_361 : decode cL_turn 361 = .ok (.aload_n 3, 1) := by decide +kernel
theorem dL_turn_362 : decode cL_turn 362 = .ok (.iconst 1, 1) := by decide +kernel
theorem dL_turn_363 : decode cL_turn 363 = .ok (.iaload, 1) := by decide +kernel
theorem dL_turn_364 : decode cL_turn 364 = .ok (.iload 6, 2) := by decide +kernel
theorem dL_turn_366 : decode cL_turn 366 = .ok (.aload_n 3, 1) := by decide +kernel
theorem dL_turn_367 : decode cL_turn 367 = .ok (.iconst 2, 1) := by decide +kernel
theorem dL_turn_368 : decode cL_turn 368 = .ok (.iaload, 1) := by decide +kernel
theorem dL_turn_369 : decode cL_turn 369 = .ok (.invokestatic 45, 3) := by decide +kernel
theorem dL_turn_372 : decode cL_turn 372 = .ok (.aload_n 3, 1) := by decide +kernel
theorem dL_turn_373 : decode cL_turn 373 = .ok (.iconst 3, 1) := by decide +kernel
theorem dL_turn_374 : decode cL_turn 374 = .ok (.aload_n 2, 1) := by decide +kernel
theorem dL_turn_375 : decode cL_turn 375 = .ok (.bipush 16, 2) := by decide +kernel
theorem dL_turn_377 : decode cL_turn 377 = .ok (.aload_n 3, 1) := by decide +kernel
theorem dL_turn_378 : decode cL_turn 378 = .ok (.iconst 1, 1) := by decide +kernel
theorem dL_turn_379 : decode cL_turn 379 = .ok (.iaload, 1) := by decide +kernel
theorem dL_turn_380 : decode cL_turn 380 = .ok (.imul, 1) := by decide +kernel
theorem dL_turn_381 : decode cL_turn 381 = .ok (.bipush 15, 2) := by decide +kernel
theorem dL_turn_383 : decode cL_turn 383 = .ok (.iadd, 1) := by decide +kernel
theorem dL_turn_384 : decode cL_turn 384 = .ok (.iaload, 1) := by decide +kernel
theorem dL_turn_385 : decode cL_turn 385 = .ok (.aload_n 3, 1) := by decide +kernel
theorem dL_turn_386 : decode cL_turn 386 = .ok (.iconst 0, 1) := by decide +kernel
theorem dL_turn_387 : decode cL_turn 387 = .ok (.iaload, 1) := by decide +kernel
theorem dL_turn_388 : decode cL_turn 388 = .ok (.if_icmp .ne 9, 3) := by decide +kernel
theorem dL_turn_391 : decode cL_turn 391 = .ok (.aload_n 3, 1) := by decide +kernel
theorem dL_turn_392 : decode cL_turn 392 = .ok (.iconst 1, 1) := by decide +kernel
theorem dL_turn_393 : decode cL_turn 393 = .ok (.iaload, 1) := by decide +kernel
theorem dL_turn_394 : decode cL_turn 394 = .ok (.goto 4, 3) := by decide +kernel
theorem dL_turn_397 : decode cL_turn 397 = .ok (.iconst (-1), 1) := by decide +kernel
theorem dL_turn_398 : decode cL_turn 398 = .ok (.iastore, 1) := by decide +kernel
theorem dL_turn_399 : decode cL_turn 399 = .ok (.aload_n 3, 1) := by decide +kernel
theorem dL_turn_400 : decode cL_turn 400 = .ok (.iconst 1, 1) := by decide +kernel
theorem dL_turn_401 : decode cL_turn 401 = .ok (.aload_n 3, 1) := by decide +kernel
theorem dL_turn_402 : decode cL_turn 402 = .ok (.iconst 1, 1) := by decide +kernel
theorem dL_turn_403 : decode cL_turn 403 = .ok (.iaload, 1) := by decide +kernel
theorem dL_turn_404 : decode cL_turn 404 = .ok (.iload 8, 2) := by decide +kernel
theorem dL_turn_406 : decode cL_turn 406 = .ok (.invokestatic 49, 3) := by decide +kernel
theorem dL_turn_409 : decode cL_turn 409 = .ok (.iastore, 1) := by decide +kernel
theorem dL_turn_410 : decode cL_turn 410 = .ok (.aload_n 3, 1) := by decide +kernel
theorem dL_turn_411 : decode cL_turn 411 = .ok (.iconst 2, 1) := by decide +kernel
theorem dL_turn_412 : decode cL_turn 412 = .ok (.iconst (-1), 1) := by decide +kernel
theorem dL_turn_413 : decode cL_turn 413 = .ok (.iastore, 1) := by decide +kernel
theorem dL_turn_414 : decode cL_turn 414 = .ok (.iconst 1, 1) := by decide +kernel
theorem dL_turn_415 : decode cL_turn 415 = .ok (.ireturn, 1) := by decide +kernel
theorem dL_law_0 : decode cL_law 0 = .ok (.new 11, 3) := by decide +kernel
theorem dL_law_3 : decode cL_law 3 = .ok (.dup, 1) := by decide +kernel
theorem dL_law_4 : decode cL_law 4 = .ok (.invokespecial 120, 3) := by decide +kernel
theorem dL_law_7 : decode cL_law 7 = .ok (.astore_n 1, 1) := by decide +kernel
theorem dL_law_8 : decode cL_law 8 = .ok (.bipush 32, 2) := by decide +kernel
theorem dL_law_10 : decode cL_law 10 = .ok (.newarray .int, 2) := by decide +kernel
theorem dL_law_12 : decode cL_law 12 = .ok (.astore_n 2, 1) := by decide +kernel
theorem dL_law_13 : decode cL_law 13 = .ok (.bipush 32, 2) := by decide +kernel
theorem dL_law_15 : decode cL_law 15 = .ok (.newarray .int, 2) := by decide +kernel
theorem dL_law_17 : decode cL_law 17 = .ok (.astore_n 3, 1) := by decide +kernel
theorem dL_law_18 : decode cL_law 18 = .ok (.bipush 32, 2) := by decide +kernel
theorem dL_law_20 : decode cL_law 20 = .ok (.newarray .int, 2) := by decide +kernel
theorem dL_law_22 : decode cL_law 22 = .ok (.astore 4, 2) := by decide +kernel
theorem dL_law_24 : decode cL_law 24 = .ok (.bipush 7, 2) := by decide +kernel
theorem dL_law_26 : decode cL_law 26 = .ok (.newarray .int, 2) := by decide +kernel
theorem dL_law_28 : decode cL_law 28 = .ok (.astore 5, 2) := by decide +kernel
theorem dL_law_30 : decode cL_law 30 = .ok (.bipush 15, 2) := by decide +kernel
theorem dL_law_32 : decode cL_law 32 = .ok (.newarray .int, 2) := by decide +kernel
theorem dL_law_34 : decode cL_law 34 = .ok (.astore 6, 2) := by decide +kernel
theorem dL_law_36 : decode cL_law 36 = .ok (.iconst 2, 1) := by decide +kernel
theorem dL_law_37 : decode cL_law 37 = .ok (.aload_n 2, 1) := by decide +kernel
theorem dL_law_38 : decode cL_law 38 = .ok (.aload 5, 2) := by decide +kernel
theorem dL_law_40 : decode cL_law 40 = .ok (.invokestatic 121, 3) := by decide +kernel
theorem dL_law_43 : decode cL_law 43 = .ok (.iconst 0, 1) := by decide +kernel
theorem dL_law_44 : decode cL_law 44 = .ok (.istore 7, 2) := by decide +kernel
theorem dL_law_46 : decode cL_law 46 = .ok (.iload 7, 2) := by decide +kernel
theorem dL_law_48 : decode cL_law 48 = .ok (.sipush 160, 3) := by decide +kernel
theorem dL_law_51 : decode cL_law 51 = .ok (.if_icmp .ge 150, 3) := by decide +kernel
theorem dL_law_54 : decode cL_law 54 = .ok (.aload_n 0, 1) := by decide +kernel
theorem dL_law_55 : decode cL_law 55 = .ok (.iload 7, 2) := by decide +kernel
theorem dL_law_57 : decode cL_law 57 = .ok (.invokestatic 125, 3) := by decide +kernel
theorem dL_law_60 : decode cL_law 60 = .ok (.istore 8, 2) := by decide +kernel
theorem dL_law_62 : decode cL_law 62 = .ok (.iload 8, 2) := by decide +kernel
theorem dL_law_64 : decode cL_law 64 = .ok (.bipush 12, 2) := by decide +kernel
theorem dL_law_66 : decode cL_law 66 = .ok (.ishr, 1) := by decide +kernel
theorem dL_law_67 : decode cL_law 67 = .ok (.bipush 40, 2) := by decide +kernel
theorem dL_law_69 : decode cL_law 69 = .ok (.invokestatic 111, 3) := by decide +kernel
theorem dL_law_72 : decode cL_law 72 = .ok (.ifCond .eq 22, 3) := by decide +kernel
theorem dL_law_75 : decode cL_law 75 = .ok (.aload 5, 2) := by decide +kernel
theorem dL_law_77 : decode cL_law 77 = .ok (.iconst 3, 1) := by decide +kernel
theorem dL_law_78 : decode cL_law 78 = .ok (.iaload, 1) := by decide +kernel
theorem dL_law_79 : decode cL_law 79 = .ok (.ifCond .lt 42, 3) := by decide +kernel
theorem dL_law_82 : decode cL_law 82 = .ok (.iload 8, 2) := by decide +kernel
theorem dL_law_84 : decode cL_law 84 = .ok (.bipush 12, 2) := by decide +kernel
theorem dL_law_86 : decode cL_law 86 = .ok (.ishr, 1) := by decide +kernel
theorem dL_law_87 : decode cL_law 87 = .ok (.iconst 3, 1) := by decide +kernel
theorem dL_law_88 : decode cL_law 88 = .ok (.invokestatic 111, 3) := by decide +kernel
theorem dL_law_91 : decode cL_law 91 = .ok (.ifCond .ne 30, 3) := by decide +kernel
theorem dL_law_94 : decode cL_law 94 = .ok (.iconst 1, 1) := by decide +kernel
theorem dL_law_95 : decode cL_law 95 = .ok (.iload 8, 2) := by decide +kernel
theorem dL_law_97 : decode cL_law 97 = .ok (.iconst 3, 1) := by decide +kernel
theorem dL_law_98 : decode cL_law 98 = .ok (.ishr, 1) := by decide +kernel
theorem dL_law_99 : decode cL_law 99 = .ok (.iconst 4, 1) := by decide +kernel
theorem dL_law_100 : decode cL_law 100 = .ok (.invokestatic 111, 3) := by decide +kernel
theorem dL_law_103 : decode cL_law 103 = .ok (.iadd, 1) := by decide +kernel
theorem dL_law_104 : decode cL_law 104 = .ok (.aload_n 2, 1) := by decide +kernel
theorem dL_law_105 : decode cL_law 105 = .ok (.aload 5, 2) := by decide +kernel
theorem dL_law_107 : decode cL_law 107 = .ok (.invokestatic 121, 3) := by decide +kernel
theorem dL_law_110 : decode cL_law 110 = .ok (.aload_n 1, 1) := by decide +kernel
theorem dL_law_111 : decode cL_law 111 = .ok (.aload 5, 2) := by decide +kernel
theorem dL_law_113 : decode cL_law 113 = .ok (.iconst 0, 1) := by decide +kernel
theorem dL_law_114 : decode cL_law 114 = .ok (.iaload, 1) := by decide +kernel
theorem dL_law_115 : decode cL_law 115 = .ok (.invokevirtual 128, 3) := by decide +kernel
theorem dL_law_118 : decode cL_law 118 = .ok (.goto 17, 3) := by decide +kernel
theorem dL_law_121 : decode cL_law 121 = .ok (.aload_n 1, 1) := by decide +kernel
theorem dL_law_122 : decode cL_law 122 = .ok (.iload 8, 2) := by decide +kernel
theorem dL_law_124 : decode cL_law 124 = .ok (.aload_n 2, 1) := by decide +kernel
theorem dL_law_125 : decode cL_law 125 = .ok (.aload 5, 2) := by decide +kernel
theorem dL_law_127 : decode cL_law 127 = .ok (.invokestatic 131, 3) := by decide +kernel
theorem dL_law_130 : decode cL_law 130 = .ok (.ifCond .ne 5, 3) := by decide +kernel
theorem dL_law_133 : decode cL_law 133 = .ok (.iconst 0, 1) := by decide +kernel
theorem dL_law_134 : decode cL_law 134 = .ok (.ireturn, 1) := by decide +kernel
theorem dL_law_135 : decode cL_law 135 = .ok (.aload_n 1, 1) := by decide +kernel
theorem dL_law_136 : decode cL_law 136 = .ok (.aload_n 2, 1) := by decide +kernel
theorem dL_law_137 : decode cL_law 137 = .ok (.aload 5, 2) := by decide +kernel
theorem dL_law_139 : decode cL_law 139 = .ok (.invokestatic 134, 3) := by decide +kernel
theorem dL_law_142 : decode cL_law 142 = .ok (.ifCond .eq 51, 3) := by decide +kernel
theorem dL_law_145 : decode cL_law 145 = .ok (.iload 7, 2) := by decide +kernel
theorem dL_law_147 : decode cL_law 147 = .ok (.bipush 8, 2) := by decide +kernel
theorem dL_law_149 : decode cL_law 149 = .ok (.irem, 1) := by decide +kernel
theorem dL_law_150 : decode cL_law 150 = .ok (.ifCond .ne 45, 3) := by decide +kernel
theorem dL_law_153 : decode cL_law 153 = .ok (.aload_n 1, 1) := by decide +kernel
theorem dL_law_154 : decode cL_law 154 = .ok (.iconst 0, 1) := by decide +kernel
theorem dL_law_155 : decode cL_law 155 = .ok (.aload_n 2, 1) := by decide +kernel
theorem dL_law_156 : decode cL_law 156 = .ok (.aload_n 3, 1) := by decide +kernel
theorem dL_law_157 : decode cL_law 157 = .ok (.aload 4, 2) := by decide +kernel
theorem dL_law_159 : decode cL_law 159 = .ok (.aload 5, 2) := by decide +kernel
theorem dL_law_161 : decode cL_law 161 = .ok (.aload 6, 2) := by decide +kernel
theorem dL_law_163 : decode cL_law 163 = .ok (.invokestatic 138, 3) := by decide +kernel
theorem dL_law_166 : decode cL_law 166 = .ok (.ifCond .eq 27, 3) := by decide +kernel
theorem dL_law_169 : decode cL_law 169 = .ok (.iload 7, 2) := by decide +kernel
theorem dL_law_171 : decode cL_law 171 = .ok (.bipush 16, 2) := by decide +kernel
theorem dL_law_173 : decode cL_law 173 = .ok (.irem, 1) := by decide +kernel
theorem dL_law_174 : decode cL_law 174 = .ok (.ifCond .ne 21, 3) := by decide +kernel
theorem dL_law_177 : decode cL_law 177 = .ok (.aload_n 1, 1) := by decide +kernel
theorem dL_law_178 : decode cL_law 178 = .ok (.iconst 1, 1) := by decide +kernel
theorem dL_law_179 : decode cL_law 179 = .ok (.aload_n 2, 1) := by decide +kernel
theorem dL_law_180 : decode cL_law 180 = .ok (.aload_n 3, 1) := by decide +kernel
theorem dL_law_181 : decode cL_law 181 = .ok (.aload 4, 2) := by decide +kernel
theorem dL_law_183 : decode cL_law 183 = .ok (.aload 5, 2) := by decide +kernel
theorem dL_law_185 : decode cL_law 185 = .ok (.aload 6, 2) := by decide +kernel
theorem dL_law_187 : decode cL_law 187 = .ok (.invokestatic 138, 3) := by decide +kernel
theorem dL_law_190 : decode cL_law 190 = .ok (.ifCond .ne 5, 3) := by decide +kernel
theorem dL_law_193 : decode cL_law 193 = .ok (.iconst 0, 1) := by decide +kernel
theorem dL_law_194 : decode cL_law 194 = .ok (.ireturn, 1) := by decide +kernel
theorem dL_law_195 : decode cL_law 195 = .ok (.iinc 7 1, 3) := by decide +kernel
theorem dL_law_198 : decode cL_law 198 = .ok (.goto (-152), 3) := by decide +kernel
theorem dL_law_201 : decode cL_law 201 = .ok (.iconst 1, 1) := by decide +kernel
theorem dL_law_202 : decode cL_law 202 = .ok (.ireturn, 1) := by decide +kernel
