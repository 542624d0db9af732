theorem dX5_tick_54 : decode cX5_tick 54 = .ok (.getfield 44, 3) := by decide +kernel
theorem dX5_tick_57 : decode cX5_tick 57 = .ok (.iload_n 1, 1) := by decide +kernel
theorem dX5_tick_58 : decode cX5_tick 58 = .ok (.daload, 1) := by decide +kernel
theorem dX5_tick_59 : decode cX5_tick 59 = .ok (.invokestatic 90, 3) := by decide +kernel
theorem dX5_tick_62 : decode cX5_tick 62 = .ok (.ifCond .ne 32, 3) := by decide +kernel
theorem dX5_tick_65 : decode cX5_tick 65 = .ok (.aload_n 0, 1) := by decide +kernel
theorem dX5_tick_66 : decode cX5_tick 66 = .ok (.getfield 47, 3) := by decide +kernel
theorem dX5_tick_69 : decode cX5_tick 69 = .ok (.iload_n 1, 1) := by decide +kernel
theorem dX5_tick_70 : decode cX5_tick 70 = .ok (.aload_n 0, 1) := by decide +kernel
theorem dX5_tick_71 : decode cX5_tick 71 = .ok (.getfield 28, 3) := by decide +kernel
theorem dX5_tick_74 : decode cX5_tick 74 = .ok (.iload_n 1, 1) := by decide +kernel
theorem dX5_tick_75 : decode cX5_tick 75 = .ok (.daload, 1) := by decide +kernel
theorem dX5_tick_76 : decode cX5_tick 76 = .ok (.dastore, 1) := by decide +kernel
theorem dX5_tick_77 : decode cX5_tick 77 = .ok (.aload_n 0, 1) := by decide +kernel
theorem dX5_tick_78 : decode cX5_tick 78 = .ok (.getfield 66, 3) := by decide +kernel
theorem dX5_tick_81 : decode cX5_tick 81 = .ok (.iload_n 1, 1) := by decide +kernel
theorem dX5_tick_82 : decode cX5_tick 82 = .ok (.dup2, 1) := by decide +kernel
theorem dX5_tick_83 : decode cX5_tick 83 = .ok (.iaload, 1) := by decide +kernel
theorem dX5_tick_84 : decode cX5_tick 84 = .ok (.iconst 1, 1) := by decide +kernel
theorem dX5_tick_85 : decode cX5_tick 85 = .ok (.iadd, 1) := by decide +kernel
theorem dX5_tick_86 : decode cX5_tick 86 = .ok (.iastore, 1) := by decide +kernel
theorem dX5_tick_87 : decode cX5_tick 87 = .ok (.aload_n 0, 1) := by decide +kernel
theorem dX5_tick_88 : decode cX5_tick 88 = .ok (.getfield 47, 3) := by decide +kernel
theorem dX5_tick_91 : decode cX5_tick 91 = .ok (.iload_n 1, 1) := by decide +kernel
theorem dX5_tick_92 : decode cX5_tick 92 = .ok (.daload, 1) := by decide +kernel
theorem dX5_tick_93 : decode cX5_tick 93 = .ok (.dreturn, 1) := by decide +kernel
theorem dX5_tick_94 : decode cX5_tick 94 = .ok (.aload_n 0, 1) := by decide +kernel
theorem dX5_tick_95 : decode cX5_tick 95 = .ok (.getfield 63, 3) := by decide +kernel
theorem dX5_tick_98 : decode cX5_tick 98 = .ok (.iload_n 1, 1) := by decide +kernel
theorem dX5_tick_99 : decode cX5_tick 99 = .ok (.iaload, 1) := by decide +kernel
theorem dX5_tick_100 : decode cX5_tick 100 = .ok (.ifCond .lt 17, 3) := by decide +kernel
theorem dX5_tick_103 : decode cX5_tick 103 = .ok (.aload_n 0, 1) := by decide +kernel
theorem dX5_tick_104 : decode cX5_tick 104 = .ok (.getfield 47, 3) := by decide +kernel
theorem dX5_tick_107 : decode cX5_tick 107 = .ok (.aload_n 0, 1) := by decide +kernel
theorem dX5_tick_108 : decode cX5_tick 108 = .ok (.getfield 63, 3) := by decide +kernel
theorem dX5_tick_111 : decode cX5_tick 111 = .ok (.iload_n 1, 1) := by decide +kernel
theorem dX5_tick_112 : decode cX5_tick 112 = .ok (.iaload, 1) := by decide +kernel
theorem dX5_tick_113 : decode cX5_tick 113 = .ok (.daload, 1) := by decide +kernel
theorem dX5_tick_114 : decode cX5_tick 114 = .ok (.goto 5, 3) := by decide +kernel
theorem dX5_tick_117 : decode cX5_tick 117 = .ok (.dload 4, 2) := by decide +kernel
theorem dX5_tick_119 : decode cX5_tick 119 = .ok (.dload_n 2, 1) := by decide +kernel
theorem dX5_tick_120 : decode cX5_tick 120 = .ok (.dsub, 1) := by decide +kernel
theorem dX5_tick_121 : decode cX5_tick 121 = .ok (.dstore 6, 2) := by decide +kernel
theorem dX5_tick_123 : decode cX5_tick 123 = .ok (.aload_n 0, 1) := by decide +kernel
theorem dX5_tick_124 : decode cX5_tick 124 = .ok (.getfield 59, 3) := by decide +kernel
theorem dX5_tick_127 : decode cX5_tick 127 = .ok (.iload_n 1, 1) := by decide +kernel
theorem dX5_tick_128 : decode cX5_tick 128 = .ok (.iaload, 1) := by decide +kernel
theorem dX5_tick_129 : decode cX5_tick 129 = .ok (.ifCond .ne 17, 3) := by decide +kernel
theorem dX5_tick_132 : decode cX5_tick 132 = .ok (.aload_n 0, 1) := by decide +kernel
theorem dX5_tick_133 : decode cX5_tick 133 = .ok (.iload_n 1, 1) := by decide +kernel
theorem dX5_tick_134 : decode cX5_tick 134 = .ok (.aload_n 0, 1) := by decide +kernel
theorem dX5_tick_135 : decode cX5_tick 135 = .ok (.getfield 56, 3) := by decide +kernel
theorem dX5_tick_138 : decode cX5_tick 138 = .ok (.iload_n 1, 1) := by decide +kernel
theorem dX5_tick_139 : decode cX5_tick 139 = .ok (.daload, 1) := by decide +kernel
theorem dX5_tick_140 : decode cX5_tick 140 = .ok (.invokevirtual 110, 3) := by decide +kernel
theorem dX5_tick_143 : decode cX5_tick 143 = .ok (.goto 219, 3) := by decide +kernel
theorem dX5_tick_146 : decode cX5_tick 146 = .ok (.aload_n 0, 1) := by decide +kernel
theorem dX5_tick_147 : decode cX5_tick 147 = .ok (.getfield 59, 3) := by decide +kernel
theorem dX5_tick_150 : decode cX5_tick 150 = .ok (.iload_n 1, 1) := by decide +kernel
theorem dX5_tick_151 : decode cX5_tick 151 = .ok (.iaload, 1) := by decide +kernel
theorem dX5_tick_152 : decode cX5_tick 152 = .ok (.iconst 1, 1) := by decide +kernel
theorem dX5_tick_153 : decode cX5_tick 153 = .ok (.if_icmp .ne 160, 3) := by decide +kernel
theorem dX5_tick_156 : decode cX5_tick 156 = .ok (.aload_n 0, 1) := by decide +kernel
theorem dX5_tick_157 : decode cX5_tick 157 = .ok (.getfield 50, 3) := by decide +kernel
theorem dX5_tick_160 : decode cX5_tick 160 = .ok (.iload_n 1, 1) := by decide +kernel
theorem dX5_tick_161 : decode cX5_tick 161 = .ok (.daload, 1) := by decide +kernel
theorem dX5_tick_162 : decode cX5_tick 162 = .ok (.aload_n 0, 1) := by decide +kernel
theorem dX5_tick_163 : decode cX5_tick 163 = .ok (.getfield 13, 3) := by decide +kernel
theorem dX5_tick_166 : decode cX5_tick 166 = .ok (.iload_n 1, 1) := by decide +kernel
theorem dX5_tick_167 : decode cX5_tick 167 = .ok (.daload, 1) := by decide +kernel
theorem dX5_tick_168 : decode cX5_tick 168 = .ok (.dload 6, 2) := by decide +kernel
theorem dX5_tick_170 : decode cX5_tick 170 = .ok (.dmul, 1) := by decide +kernel
theorem dX5_tick_171 : decode cX5_tick 171 = .ok (.dadd, 1) := by decide +kernel
theorem dX5_tick_172 : decode cX5_tick 172 = .ok (.dstore 8, 2) := by decide +kernel
theorem dX5_tick_174 : decode cX5_tick 174 = .ok (.aload_n 0, 1) := by decide +kernel
theorem dX5_tick_175 : decode cX5_tick 175 = .ok (.getfield 9, 3) := by decide +kernel
theorem dX5_tick_178 : decode cX5_tick 178 = .ok (.iload_n 1, 1) := by decide +kernel
theorem dX5_tick_179 : decode cX5_tick 179 = .ok (.daload, 1) := by decide +kernel
theorem dX5_tick_180 : decode cX5_tick 180 = .ok (.dload 6, 2) := by decide +kernel
theorem dX5_tick_182 : decode cX5_tick 182 = .ok (.dmul, 1) := by decide +kernel
theorem dX5_tick_183 : decode cX5_tick 183 = .ok (.dload 8, 2) := by decide +kernel
theorem dX5_tick_185 : decode cX5_tick 185 = .ok (.dadd, 1) := by decide +kernel
theorem dX5_tick_186 : decode cX5_tick 186 = .ok (.aload_n 0, 1) := by decide +kernel
theorem dX5_tick_187 : decode cX5_tick 187 = .ok (.getfield 16, 3) := by decide +kernel
theorem dX5_tick_190 : decode cX5_tick 190 = .ok (.iload_n 1, 1) := by decide +kernel
theorem dX5_tick_191 : decode cX5_tick 191 = .ok (.daload, 1) := by decide +kernel
theorem dX5_tick_192 : decode cX5_tick 192 = .ok (.dload 6, 2) := by decide +kernel
theorem dX5_tick_194 : decode cX5_tick 194 = .ok (.aload_n 0, 1) := by decide +kernel
theorem dX5_tick_195 : decode cX5_tick 195 = .ok (.getfield 53, 3) := by decide +kernel
theorem dX5_tick_198 : decode cX5_tick 198 = .ok (.iload_n 1, 1) := by decide +kernel
theorem dX5_tick_199 : decode cX5_tick 199 = .ok (.daload, 1) := by decide +kernel
theorem dX5_tick_200 : decode cX5_tick 200 = .ok (.dsub, 1) := by decide +kernel
theorem dX5_tick_201 : decode cX5_tick 201 = .ok (.dmul, 1) := by decide +kernel
theorem dX5_tick_202 : decode cX5_tick 202 = .ok (.dadd, 1) := by decide +kernel
theorem dX5_tick_203 : decode cX5_tick 203 = .ok (.dstore 10, 2) := by decide +kernel
theorem dX5_tick_205 : decode cX5_tick 205 = .ok (.dload 10, 2) := by decide +kernel
theorem dX5_tick_207 : decode cX5_tick 207 = .ok (.aload_n 0, 1) := by decide +kernel
theorem dX5_tick_208 : decode cX5_tick 208 = .ok (.getfield 22, 3) := by decide +kernel
theorem dX5_tick_211 : decode cX5_tick 211 = .ok (.iload_n 1, 1) := by decide +kernel
theorem dX5_tick_212 : decode cX5_tick 212 = .ok (.daload, 1) := by decide +kernel
theorem dX5_tick_213 : decode cX5_tick 213 = .ok (.dcmp .l, 1) := by decide +kernel
theorem dX5_tick_214 : decode cX5_tick 214 = .ok (.ifCond .le 7, 3) := by decide +kernel
theorem dX5_tick_217 : decode cX5_tick 217 = .ok (.iconst 1, 1) := by decide +kernel
theorem dX5_tick_218 : decode cX5_tick 218 = .ok (.goto 4, 3) := by decide +kernel
theorem dX5_tick_221 : decode cX5_tick 221 = .ok (.iconst 0, 1) := by decide +kernel
theorem dX5_tick_222 : decode cX5_tick 222 = .ok (.istore 12, 2) := by decide +kernel
theorem dX5_tick_224 : decode cX5_tick 224 = .ok (.dload 10, 2) := by decide +kernel
theorem dX5_tick_226 : decode cX5_tick 226 = .ok (.aload_n 0, 1) := by decide +kernel
theorem dX5_tick_227 : decode cX5_tick 227 = .ok (.getfield 19, 3) := by decide +kernel
theorem dX5_tick_230 : decode cX5_tick 230 = .ok (.iload_n 1, 1) := by decide +kernel
theorem dX5_tick_231 : decode cX5_tick 231 = .ok (.daload, 1) := by decide +kernel
theorem dX5_tick_232 : decode cX5_tick 232 = .ok (.dcmp .g, 1) := by decide +kernel
theorem dX5_tick_233 : decode cX5_tick 233 = .ok (.ifCond .ge 7, 3) := by decide +kernel
theorem dX5_tick_236 : decode cX5_tick 236 = .ok (.iconst 1, 1) := by decide +kernel
theorem dX5_tick_237 : decode cX5_tick 237 = .ok (.goto 4, 3) := by decide +kernel
theorem dX5_tick_240 : decode cX5_tick 240 = .ok (.iconst 0, 1) := by decide +kernel
theorem dX5_tick_241 : decode cX5_tick 241 = .ok (.istore 13, 2) := by decide +kernel
theorem dX5_tick_243 : decode cX5_tick 243 = .ok (.iload 12, 2) := by decide +kernel
theorem dX5_tick_245 : decode cX5_tick 245 = .ok (.ifCond .eq 10, 3) := by decide +kernel
theorem dX5_tick_248 : decode cX5_tick 248 = .ok (.dload 6, 2) := by decide +kernel
theorem dX5_tick_250 : decode cX5_tick 250 = .ok (.dconst 0, 1) := by decide +kernel
theorem dX5_tick_251 : decode cX5_tick 251 = .ok (.dcmp .l, 1) := by decide +kernel
theorem dX5_tick_252 : decode cX5_tick 252 = .ok (.ifCond .gt 23, 3) := by decide +kernel
theorem dX5_tick_255 : decode cX5_tick 255 = .ok (.iload 13, 2) := by decide +kernel
theorem dX5_tick_257 : decode cX5_tick 257 = .ok (.ifCond .eq 10, 3) := by decide +kernel
theorem dX5_tick_260 : decode cX5_tick 260 = .ok (.dload 6, 2) := by decide +kernel
theorem dX5_tick_262 : decode cX5_tick 262 = .ok (.dconst 0, 1) := by decide +kernel
theorem dX5_tick_263 : decode cX5_tick 263 = .ok (.dcmp .g, 1) := by decide +kernel
theorem dX5_tick_264 : decode cX5_tick 264 = .ok (.ifCond .lt 11, 3) := by decide +kernel
theorem dX5_tick_267 : decode cX5_tick 267 = .ok (.aload_n 0, 1) := by decide +kernel
theorem dX5_tick_268 : decode cX5_tick 268 = .ok (.getfield 50, 3) := by decide +kernel
theorem dX5_tick_271 : decode cX5_tick 271 = .ok (.iload_n 1, 1) := by decide +kernel
theorem dX5_tick_272 : decode cX5_tick 272 = .ok (.dload 8, 2) := by decide +kernel
theorem dX5_tick_274 : decode cX5_tick 274 = .ok (.dastore, 1) := by decide +kernel
theorem dX5_tick_275 : decode cX5_tick 275 = .ok (.aload_n 0, 1) := by decide +kernel
theorem dX5_tick_276 : decode cX5_tick 276 = .ok (.iload_n 1, 1) := by decide +kernel
theorem dX5_tick_277 : decode cX5_tick 277 = .ok (.iload 13, 2) := by decide +kernel
theorem dX5_tick_279 : decode cX5_tick 279 = .ok (.ifCond .eq 12, 3) := by decide +kernel
theorem dX5_tick_282 : decode cX5_tick 282 = .ok (.aload_n 0, 1) := by decide +kernel
theorem dX5_tick_283 : decode cX5_tick 283 = .ok (.getfield 19, 3) := by decide +kernel
theorem dX5_tick_286 : decode cX5_tick 286 = .ok (.iload_n 1, 1) := by decide +kernel
theorem dX5_tick_287 : decode cX5_tick 287 = .ok (.daload, 1) := by decide +kernel
theorem dX5_tick_288 : decode cX5_tick 288 = .ok (.goto 19, 3) := by decide +kernel
theorem dX5_tick_291 : decode cX5_tick 291 = .ok (.iload 12, 2) := by decide +kernel
theorem dX5_tick_293 : decode cX5_tick 293 = .ok (.ifCond .eq 12, 3) := by decide +kernel
theorem dX5_tick_296 : decode cX5_tick 296 = .ok (.aload_n 0, 1) := by decide +kernel
theorem dX5_tick_297 : decode cX5_tick 297 = .ok (.getfield 22, 3) := by decide +kernel
theorem dX5_tick_300 : decode cX5_tick 300 = .ok (.iload_n 1, 1) := by decide +kernel
theorem dX5_tick_301 : decode cX5_tick 301 = .ok (.daload, 1) := by decide +kernel
theorem dX5_tick_302 : decode cX5_tick 302 = .ok (.goto 5, 3) := by decide +kernel
theorem dX5_tick_305 : decode cX5_tick 305 = .ok (.dload 10, 2) := by decide +kernel
theorem dX5_tick_307 : decode cX5_tick 307 = .ok (.invokevirtual 110, 3) := by decide +kernel
theorem dX5_tick_310 : decode cX5_tick 310 = .ok (.goto 52, 3) := by decide +kernel
theorem dX5_tick_313 : decode cX5_tick 313 = .ok (.dload 6, 2) := by decide +kernel
theorem dX5_tick_315 : decode cX5_tick 315 = .ok (.aload_n 0, 1) := by decide +kernel
theorem dX5_tick_316 : decode cX5_tick 316 = .ok (.getfield 34, 3) := by decide +kernel
theorem dX5_tick_319 : decode cX5_tick 319 = .ok (.iload_n 1, 1) := by decide +kernel
theorem dX5_tick_320 : decode cX5_tick 320 = .ok (.daload, 1) := by decide +kernel
theorem dX5_tick_321 : decode cX5_tick 321 = .ok (.dcmp .l, 1) := by decide +kernel
theorem dX5_tick_322 : decode cX5_tick 322 = .ok (.ifCond .le 17, 3) := by decide +kernel
theorem dX5_tick_325 : decode cX5_tick 325 = .ok (.aload_n 0, 1) := by decide +kernel
theorem dX5_tick_326 : decode cX5_tick 326 = .ok (.iload_n 1, 1) := by decide +kernel
theorem dX5_tick_327 : decode cX5_tick 327 = .ok (.aload_n 0, 1) := by decide +kernel
theorem dX5_tick_328 : decode cX5_tick 328 = .ok (.getfield 22, 3) := by decide +kernel
theorem dX5_tick_331 : decode cX5_tick 331 = .ok (.iload_n 1, 1) := by decide +kernel
theorem dX5_tick_332 : decode cX5_tick 332 = .ok (.daload, 1) := by decide +kernel
theorem dX5_tick_333 : decode cX5_tick 333 = .ok (.invokevirtual 110, 3) := by decide +kernel
theorem dX5_tick_336 : decode cX5_tick 336 = .ok (.goto 26, 3) := by decide +kernel
theorem dX5_tick_339 : decode cX5_tick 339 = .ok (.dload 6, 2) := by decide +kernel
theorem dX5_tick_341 : decode cX5_tick 341 = .ok (.aload_n 0, 1) := by decide +kernel
theorem dX5_tick_342 : decode cX5_tick 342 = .ok (.getfield 31, 3) := by decide +kernel
theorem dX5_tick_345 : decode cX5_tick 345 = .ok (.iload_n 1, 1) := by decide +kernel
theorem dX5_tick_346 : decode cX5_tick 346 = .ok (.daload, 1) := by decide +kernel
theorem dX5_tick_347 : decode cX5_tick 347 = .ok (.dcmp .g, 1) := by decide +kernel
theorem dX5_tick_348 : decode cX5_tick 348 = .ok (.ifCond .ge 14, 3) := by decide +kernel
theorem dX5_tick_351 : decode cX5_tick 351 = .ok (.aload_n 0, 1) := by decide +kernel
theorem dX5_tick_352 : decode cX5_tick 352 = .ok (.iload_n 1, 1) := by decide +kernel
theorem dX5_tick_353 : decode cX5_tick 353 = .ok (.aload_n 0, 1) := by decide +kernel
theorem dX5_tick_354 : decode cX5_tick 354 = .ok (.getfield 19, 3) := by decide +kernel
theorem dX5_tick_357 : decode cX5_tick 357 = .ok (.iload_n 1, 1) := by decide +kernel
theorem dX5_tick_358 : decode cX5_tick 358 = .ok (.daload, 1) := by decide +kernel
theorem dX5_tick_359 : decode cX5_tick 359 = .ok (.invokevirtual 110, 3) := by decide +kernel
theorem dX5_tick_362 : decode cX5_tick 362 = .ok (.aload_n 0, 1) := by decide +kernel
theorem dX5_tick_363 : decode cX5_tick 363 = .ok (.getfield 53, 3) := by decide +kernel
theorem dX5_tick_366 : decode cX5_tick 366 = .ok (.iload_n 1, 1) := by decide +kernel
theorem dX5_tick_367 : decode cX5_tick 367 = .ok (.dload 6, 2) := by decide +kernel
theorem dX5_tick_369 : decode cX5_tick 369 = .ok (.dastore, 1) := by decide +kernel
theorem dX5_tick_370 : decode cX5_tick 370 = .ok (.aload_n 0, 1) := by decide +kernel
theorem dX5_tick_371 : decode cX5_tick 371 = .ok (.getfield 47, 3) := by decide +kernel
theorem dX5_tick_374 : decode cX5_tick 374 = .ok (.iload_n 1, 1) := by decide +kernel
theorem dX5_tick_375 : decode cX5_tick 375 = .ok (.daload, 1) := by decide +kernel
theorem dX5_tick_376 : decode cX5_tick 376 = .ok (.dreturn, 1) := by decide +kernel
theorem dX5_mode_0 : decode cX5_mode 0 = .ok (.aload_n 0, 1) := by decide +kernel
theorem dX5_mode_1 : decode cX5_mode 1 = .ok (.iload_n 1, 1) := by decide +kernel
theorem dX5_mode_2 : decode cX5_mode 2 = .ok (.invokevirtual 98, 3) := by decide +kernel
theorem dX5_mode_5 : decode cX5_mode 5 = .ok (.ifCond .eq 12, 3) := by decide +kernel
theorem dX5_mode_8 : decode cX5_mode 8 = .ok (.iload_n 2, 1) := by decide +kernel
theorem dX5_mode_9 : decode cX5_mode 9 = .ok (.ifCond .lt 8, 3) := by decide +kernel
theorem dX5_mode_12 : decode cX5_mode 12 = .ok (.iload_n 2, 1) := by decide +kernel
theorem dX5_mode_13 : decode cX5_mode 13 = .ok (.iconst 2, 1) := by decide +kernel
theorem dX5_mode_14 : decode cX5_mode 14 = .ok (.if_icmp .le 5, 3) := by decide +kernel
theorem dX5_mode_17 : decode cX5_mode 17 = .ok (.iconst 0, 1) := by decide +kernel
theorem dX5_mode_18 : decode cX5_mode 18 = .ok (.ireturn, 1) := by decide +kernel
theorem dX5_mode_19 : decode cX5_mode 19 = .ok (.aload_n 0, 1) := by decide +kernel
theorem dX5_mode_20 : decode cX5_mode 20 = .ok (.getfield 59, 3) := by decide +kernel
theorem dX5_mode_23 : decode cX5_mode 23 = .ok (.iload_n 1, 1) := by decide +kernel
theorem dX5_mode_24 : decode cX5_mode 24 = .ok (.iaload, 1) := by decide +kernel
theorem dX5_mode_25 : decode cX5_mode 25 = .ok (.iload_n 2, 1) := by decide +kernel
theorem dX5_mode_26 : decode cX5_mode 26 = .ok (.if_icmp .eq 75, 3) := by decide +kernel
theorem dX5_mode_29 : decode cX5_mode 29 = .ok (.aload_n 0, 1) := by decide +kernel
theorem dX5_mode_30 : decode cX5_mode 30 = .ok (.getfield 56, 3) := by decide +kernel
theorem dX5_mode_33 : decode cX5_mode 33 = .ok (.iload_n 1, 1) := by decide +kernel
theorem dX5_mode_34 : decode cX5_mode 34 = .ok (.iload_n 2, 1) := by decide +kernel
theorem dX5_mode_35 : decode cX5_mode 35 = .ok (.ifCond .ne 12, 3) := by decide +kernel
theorem dX5_mode_38 : decode cX5_mode 38 = .ok (.aload_n 0, 1) := by decide +kernel
theorem dX5_mode_39 : decode cX5_mode 39 = .ok (.getfield 47, 3) := by decide +kernel
theorem dX5_mode_42 : decode cX5_mode 42 = .ok (.iload_n 1, 1) := by decide +kernel
theorem dX5_mode_43 : decode cX5_mode 43 = .ok (.daload, 1) := by decide +kernel
theorem dX5_mode_44 : decode cX5_mode 44 = .ok (.goto 9, 3) := by decide +kernel
theorem dX5_mode_47 : decode cX5_mode 47 = .ok (.aload_n 0, 1) := by decide +kernel
theorem dX5_mode_48 : decode cX5_mode 48 = .ok (.getfield 56, 3) := by decide +kernel
theorem dX5_mode_51 : decode cX5_mode 51 = .ok (.iload_n 1, 1) := by decide +kernel
theorem dX5_mode_52 : decode cX5_mode 52 = .ok (.daload, 1) := by decide +kernel
theorem dX5_mode_53 : decode cX5_mode 53 = .ok (.dastore, 1) := by decide +kernel
theorem dX5_mode_54 : decode cX5_mode 54 = .ok (.aload_n 0, 1) := by decide +kernel
theorem dX5_mode_55 : decode cX5_mode 55 = .ok (.getfield 50, 3) := by decide +kernel
theorem dX5_mode_58 : decode cX5_mode 58 = .ok (.iload_n 1, 1) := by decide +kernel
theorem dX5_mode_59 : decode cX5_mode 59 = .ok (.iload_n 2, 1) := by decide +kernel
theorem dX5_mode_60 : decode cX5_mode 60 = .ok (.iconst 1, 1) := by decide +kernel
theorem dX5_mode_61 : decode cX5_mode 61 = .ok (.if_icmp .ne 26, 3) := by decide +kernel
theorem dX5_mode_64 : decode cX5_mode 64 = .ok (.aload_n 0, 1) := by decide +kernel
theorem dX5_mode_65 : decode cX5_mode 65 = .ok (.getfield 47, 3) := by decide +kernel
theorem dX5_mode_68 : decode cX5_mode 68 = .ok (.iload_n 1, 1) := by decide +kernel
theorem dX5_mode_69 : decode cX5_mode 69 = .ok (.daload, 1) := by decide +kernel
theorem dX5_mode_70 : decode cX5_mode 70 = .ok (.aload_n 0, 1) := by decide +kernel
theorem dX5_mode_71 : decode cX5_mode 71 = .ok (.getfield 9, 3) := by decide +kernel
theorem dX5_mode_74 : decode cX5_mode 74 = .ok (.iload_n 1, 1) := by decide +kernel
theorem dX5_mode_75 : decode cX5_mode 75 = .ok (.daload, 1) := by decide +kernel
theorem dX5_mode_76 : decode cX5_mode 76 = .ok (.aload_n 0, 1) := by decide +kernel
theorem dX5_mode_77 : decode cX5_mode 77 = .ok (.getfield 53, 3) := by decide +kernel
theorem dX5_mode_80 : decode cX5_mode 80 = .ok (.iload_n 1, 1) := by decide +kernel
theorem dX5_mode_81 : decode cX5_mode 81 = .ok (.daload, 1) := by decide +kernel
theorem dX5_mode_82 : decode cX5_mode 82 = .ok (.dmul, 1) := by decide +kernel
theorem dX5_mode_83 : decode cX5_mode 83 = .ok (.dsub, 1) := by decide +kernel
theorem dX5_mode_84 : decode cX5_mode 84 = .ok (.goto 9, 3) := by decide +kernel
theorem dX5_mode_87 : decode cX5_mode 87 = .ok (.aload_n 0, 1) := by decide +kernel
theorem dX5_mode_88 : decode cX5_mode 88 = .ok (.getfield 50, 3) := by decide +kernel
theorem dX5_mode_91 : decode cX5_mode 91 = .ok (.iload_n 1, 1) := by decide +kernel
theorem dX5_mode_92 : decode cX5_mode 92 = .ok (.daload, 1) := by decide +kernel
theorem dX5_mode_93 : decode cX5_mode 93 = .ok (.dastore, 1) := by decide +kernel
theorem dX5_mode_94 : decode cX5_mode 94 = .ok (.aload_n 0, 1) := by decide +kernel
theorem dX5_mode_95 : decode cX5_mode 95 = .ok (.getfield 59, 3) := by decide +kernel
theorem dX5_mode_98 : decode cX5_mode 98 = .ok (.iload_n 1, 1) := by decide +kernel
theorem dX5_mode_99 : decode cX5_mode 99 = .ok (.iload_n 2, 1) := by decide +kernel
theorem dX5_mode_100 : decode cX5_mode 100 = .ok (.iastore, 1) := by decide +kernel
theorem dX5_mode_101 : decode cX5_mode 101 = .ok (.iconst 1, 1) := by decide +kernel
theorem dX5_mode_102 : decode cX5_mode 102 = .ok (.ireturn, 1) := by decide +kernel
theorem dX5_hand_0 : decode cX5_hand 0 = .ok (.aload_n 0, 1) := by decide +kernel
theorem dX5_hand_1 : decode cX5_hand 1 = .ok (.iload_n 1, 1) := by decide +kernel
theorem dX5_hand_2 : decode cX5_hand 2 = .ok (.invokevirtual 98, 3) := by decide +kernel
theorem dX5_hand_5 : decode cX5_hand 5 = .ok (.ifCond .eq 31, 3) := by decide +kernel
theorem dX5_hand_8 : decode cX5_hand 8 = .ok (.aload_n 0, 1) := by decide +kernel
theorem dX5_hand_9 : decode cX5_hand 9 = .ok (.getfield 59, 3) := by decide +kernel
theorem dX5_hand_12 : decode cX5_hand 12 = .ok (.iload_n 1, 1) := by decide +kernel
theorem dX5_hand_13 : decode cX5_hand 13 = .ok (.iaload, 1) := by decide +kernel
theorem dX5_hand_14 : decode cX5_hand 14 = .ok (.ifCond .ne 22, 3) := by decide +kernel
theorem dX5_hand_17 : decode cX5_hand 17 = .ok (.dload_n 2, 1) := by decide +kernel
theorem dX5_hand_18 : decode cX5_hand 18 = .ok (.aload_n 0, 1) := by decide +kernel
theorem dX5_hand_19 : decode cX5_hand 19 = .ok (.getfield 19, 3) := by decide +kernel
theorem dX5_hand_22 : decode cX5_hand 22 = .ok (.iload_n 1, 1) := by decide +kernel
theorem dX5_hand_23 : decode cX5_hand 23 = .ok (.daload, 1) := by decide +kernel
theorem dX5_hand_24 : decode cX5_hand 24 = .ok (.aload_n 0, 1) := by decide +kernel
theorem dX5_hand_25 : decode cX5_hand 25 = .ok (.getfield 22, 3) := by decide +kernel
theorem dX5_hand_28 : decode cX5_hand 28 = .ok (.iload_n 1, 1) := by decide +kernel
theorem dX5_hand_29 : decode cX5_hand 29 = .ok (.daload, 1) := by decide +kernel
theorem dX5_hand_30 : decode cX5_hand 30 = .ok (.invokestatic 90, 3) := by decide +kernel
theorem dX5_hand_33 : decode cX5_hand 33 = .ok (.ifCond .ne 5, 3) := by decide +kernel
theorem dX5_hand_36 : decode cX5_hand 36 = .ok (.iconst 0, 1) := by decide +kernel
theorem dX5_hand_37 : decode cX5_hand 37 = .ok (.ireturn, 1) := by decide +kernel
theorem dX5_hand_38 : decode cX5_hand 38 = .ok (.aload_n 0, 1) := by decide +kernel
theorem dX5_hand_39 : decode cX5_hand 39 = .ok (.getfield 56, 3) := by decide +kernel
theorem dX5_hand_42 : decode cX5_hand 42 = .ok (.iload_n 1, 1) := by decide +kernel
theorem dX5_hand_43 : decode cX5_hand 43 = .ok (.dload_n 2, 1) := by decide +kernel
theorem dX5_hand_44 : decode cX5_hand 44 = .ok (.dastore, 1) := by decide +kernel
theorem dX5_hand_45 : decode cX5_hand 45 = .ok (.iconst 1, 1) := by decide +kernel
theorem dX5_hand_46 : decode cX5_hand 46 = .ok (.ireturn, 1) := by decide +kernel
theorem dX5_cascade_0 : decode cX5_cascade 0 = .ok (.aload_n 0, 1) := by decide +kernel
theorem dX5_cascade_1 : decode cX5_cascade 1 = .ok (.iload_n 1, 1) := by decide +kernel
theorem dX5_cascade_2 : decode cX5_cascade 2 = .ok (.invokevirtual 98, 3) := by decide +kernel
theorem dX5_cascade_5 : decode cX5_cascade 5 = .ok (.ifCond .eq 11, 3) := by decide +kernel
theorem dX5_cascade_8 : decode cX5_cascade 8 = .ok (.aload_n 0, 1) := by decide +kernel
theorem dX5_cascade_9 : decode cX5_cascade 9 = .ok (.iload_n 2, 1) := by decide +kernel
theorem dX5_cascade_10 : decode cX5_cascade 10 = .ok (.invokevirtual 98, 3) := by decide +kernel
theorem dX5_cascade_13 : decode cX5_cascade 13 = .ok (.ifCond .ne 5, 3) := by decide +kernel
theorem dX5_cascade_16 : decode cX5_cascade 16 = .ok (.iconst 0, 1) := by decide +kernel
theorem dX5_cascade_17 : decode cX5_cascade 17 = .ok (.ireturn, 1) := by decide +kernel
theorem dX5_cascade_18 : decode cX5_cascade 18 = .ok (.iload_n 1, 1) := by decide +kernel
theorem dX5_cascade_19 : decode cX5_cascade 19 = .ok (.istore_n 3, 1) := by decide +kernel
theorem dX5_cascade_20 : decode cX5_cascade 20 = .ok (.iload_n 3, 1) := by decide +kernel
theorem dX5_cascade_21 : decode cX5_cascade 21 = .ok (.ifCond .lt 20, 3) := by decide +kernel
theorem dX5_cascade_24 : decode cX5_cascade 24 = .ok (.iload_n 3, 1) := by decide +kernel
theorem dX5_cascade_25 : decode cX5_cascade 25 = .ok (.iload_n 2, 1) := by decide +kernel
theorem dX5_cascade_26 : decode cX5_cascade 26 = .ok (.if_icmp .ne 5, 3) := by decide +kernel
theorem dX5_cascade_29 : decode cX5_cascade 29 = .ok (.iconst 0, 1) := by decide +kernel
theorem dX5_cascade_30 : decode cX5_cascade 30 = .ok (.ireturn, 1) := by decide +kernel
theorem dX5_cascade_31 : decode cX5_cascade 31 = .ok (.aload_n 0, 1) := by decide +kernel
theorem dX5_cascade_32 : decode cX5_cascade 32 = .ok (.getfield 63, 3) := by decide +kernel
theorem dX5_cascade_35 : decode cX5_cascade 35 = .ok (.iload_n 3, 1) := by decide +kernel
theorem dX5_cascade_36 : decode cX5_cascade 36 = .ok (.iaload, 1) := by decide +kernel
theorem dX5_cascade_37 : decode cX5_cascade 37 = .ok (.istore_n 3, 1) := by decide +kernel
theorem dX5_cascade_38 : decode cX5_cascade 38 = .ok (.goto (-18), 3) := by decide +kernel
theorem dX5_cascade_41 : decode cX5_cascade 41 = .ok (.aload_n 0, 1) := by decide +kernel
theorem dX5_cascade_42 : decode cX5_cascade 42 = .ok (.getfield 63, 3) := by decide +kernel
theorem dX5_cascade_45 : decode cX5_cascade 45 = .ok (.iload_n 2, 1) := by decide +kernel
theorem dX5_cascade_46 : decode cX5_cascade 46 = .ok (.iload_n 1, 1) := by decide +kernel
theorem dX5_cascade_47 : decode cX5_cascade 47 = .ok (.iastore, 1) := by decide +kernel
theorem dX5_cascade_48 : decode cX5_cascade 48 = .ok (.iconst 1, 1) := by decide +kernel
theorem dX5_cascade_49 : decode cX5_cascade 49 = .ok (.ireturn, 1) := by decide +kernel
theorem dX5_split_0 : decode cX5_split 0 = .ok (.aload_n 0, 1) := by decide +kernel
theorem dX5_split_1 : decode cX5_split 1 = .ok (.iload_n 1, 1) := by decide +kernel
theorem dX5_split_2 : decode cX5_split 2 = .ok (.invokevirtual 98, 3) := by decide +kernel
theorem dX5_split_5 : decode cX5_split 5 = .ok (.ifCond .eq 25, 3) := by decide +kernel
theorem dX5_split_8 : decode cX5_split 8 = .ok (.dload_n 2, 1) := by decide +kernel
theorem dX5_split_9 : decode cX5_split 9 = .ok (.aload_n 0, 1) := by decide +kernel
theorem dX5_split_10 : decode cX5_split 10 = .ok (.getfield 19, 3) := by decide +kernel
theorem dX5_split_13 : decode cX5_split 13 = .ok (.iload_n 1, 1) := by decide +kernel
theorem dX5_split_14 : decode cX5_split 14 = .ok (.daload, 1) := by decide +kernel
theorem dX5_split_15 : decode cX5_split 15 = .ok (.dcmp .l, 1) := by decide +kernel
theorem dX5_split_16 : decode cX5_split 16 = .ok (.ifCond .le 14, 3) := by decide +kernel
theorem dX5_split_19 : decode cX5_split 19 = .ok (.dload_n 2, 1) := by decide +kernel
theorem dX5_split_20 : decode cX5_split 20 = .ok (.aload_n 0, 1) := by decide +kernel
theorem dX5_split_21 : decode cX5_split 21 = .ok (.getfield 22, 3) := by decide +kernel
theorem dX5_split_24 : decode cX5_split 24 = .ok (.iload_n 1, 1) := by decide +kernel
theorem dX5_split_25 : decode cX5_split 25 = .ok (.daload, 1) := by decide +kernel
theorem dX5_split_26 : decode cX5_split 26 = .ok (.dcmp .g, 1) := by decide +kernel
theorem dX5_split_27 : decode cX5_split 27 = .ok (.ifCond .lt 5, 3) := by decide +kernel
theorem dX5_split_30 : decode cX5_split 30 = .ok (.iconst (-1), 1) := by decide +kernel
theorem dX5_split_31 : decode cX5_split 31 = .ok (.ireturn, 1) := by decide +kernel
theorem dX5_split_32 : decode cX5_split 32 = .ok (.aload_n 0, 1) := by decide +kernel
theorem dX5_split_33 : decode cX5_split 33 = .ok (.getfield 114, 3) := by decide +kernel
theorem dX5_split_36 : decode cX5_split 36 = .ok (.bipush 16, 2) := by decide +kernel
theorem dX5_split_38 : decode cX5_split 38 = .ok (.if_icmp .ne 6, 3) := by decide +kernel
theorem dX5_split_41 : decode cX5_split 41 = .ok (.bipush (-2), 2) := by decide +kernel
theorem dX5_split_43 : decode cX5_split 43 = .ok (.ireturn, 1) := by decide +kernel
theorem dX5_split_44 : decode cX5_split 44 = .ok (.aload_n 0, 1) := by decide +kernel
theorem dX5_split_45 : decode cX5_split 45 = .ok (.getfield 78, 3) := by decide +kernel
theorem dX5_split_48 : decode cX5_split 48 = .ok (.aload_n 0, 1) := by decide +kernel
theorem dX5_split_49 : decode cX5_split 49 = .ok (.getfield 114, 3) := by decide +kernel
theorem dX5_split_52 : decode cX5_split 52 = .ok (.iload_n 1, 1) := by decide +kernel
theorem dX5_split_53 : decode cX5_split 53 = .ok (.iastore, 1) := by decide +kernel
theorem dX5_split_54 : decode cX5_split 54 = .ok (.aload_n 0, 1) := by decide +kernel
theorem dX5_split_55 : decode cX5_split 55 = .ok (.getfield 81, 3) := by decide +kernel
theorem dX5_split_58 : decode cX5_split 58 = .ok (.aload_n 0, 1) := by decide +kernel
theorem dX5_split_59 : decode cX5_split 59 = .ok (.getfield 114, 3) := by decide +kernel
theorem dX5_split_62 : decode cX5_split 62 = .ok (.dload_n 2, 1) := by decide +kernel
theorem dX5_split_63 : decode cX5_split 63 = .ok (.dastore, 1) := by decide +kernel
theorem dX5_split_64 : decode cX5_split 64 = .ok (.aload_n 0, 1) := by decide +kernel
theorem dX5_split_65 : decode cX5_split 65 = .ok (.dup, 1) := by decide +kernel
theorem dX5_split_66 : decode cX5_split 66 = .ok (.getfield 114, 3) := by decide +kernel
theorem dX5_split_69 : decode cX5_split 69 = .ok (.iconst 1, 1) := by decide +kernel
theorem dX5_split_70 : decode cX5_split 70 = .ok (.iadd, 1) := by decide +kernel
theorem dX5_split_71 : decode cX5_split 71 = .ok (.putfield 114, 3) := by decide +kernel
theorem dX5_split_74 : decode cX5_split 74 = .ok (.aload_n 0, 1) := by decide +kernel
theorem dX5_split_75 : decode cX5_split 75 = .ok (.getfield 114, 3) := by decide +kernel
theorem dX5_split_78 : decode cX5_split 78 = .ok (.iconst 1, 1) := by decide +kernel
theorem dX5_split_79 : decode cX5_split 79 = .ok (.isub, 1) := by decide +kernel
theorem dX5_split_80 : decode cX5_split 80 = .ok (.ireturn, 1) := by decide +kernel
theorem dX5_part_0 : decode cX5_part 0 = .ok (.iload_n 1, 1) := by decide +kernel
theorem dX5_part_1 : decode cX5_part 1 = .ok (.ifCond .lt 20, 3) := by decide +kernel
theorem dX5_part_4 : decode cX5_part 4 = .ok (.iload_n 1, 1) := by decide +kernel
theorem dX5_part_5 : decode cX5_part 5 = .ok (.aload_n 0, 1) := by decide +kernel
theorem dX5_part_6 : decode cX5_part 6 = .ok (.getfield 114, 3) := by decide +kernel
theorem dX5_part_9 : decode cX5_part 9 = .ok (.if_icmp .ge 12, 3) := by decide +kernel
theorem dX5_part_12 : decode cX5_part 12 = .ok (.iload_n 2, 1) := by decide +kernel
theorem dX5_part_13 : decode cX5_part 13 = .ok (.ifCond .lt 8, 3) := by decide +kernel
theorem dX5_part_16 : decode cX5_part 16 = .ok (.iload_n 2, 1) := by decide +kernel
theorem dX5_part_17 : decode cX5_part 17 = .ok (.iconst 1, 1) := by decide +kernel
theorem dX5_part_18 : decode cX5_part 18 = .ok (.if_icmp .le 7, 3) := by decide +kernel
theorem dX5_part_21 : decode cX5_part 21 = .ok (.ldc2_w 96, 3) := by decide +kernel
theorem dX5_part_24 : decode cX5_part 24 = .ok (.dreturn, 1) := by decide +kernel
theorem dX5_part_25 : decode cX5_part 25 = .ok (.aload_n 0, 1) := by decide +kernel
theorem dX5_part_26 : decode cX5_part 26 = .ok (.getfield 78, 3) := by decide +kernel
theorem dX5_part_29 : decode cX5_part 29 = .ok (.iload_n 1, 1) := by decide +kernel
theorem dX5_part_30 : decode cX5_part 30 = .ok (.iaload, 1) := by decide +kernel
theorem dX5_part_31 : decode cX5_part 31 = .ok (.istore_n 3, 1) := by decide +kernel
theorem dX5_part_32 : decode cX5_part 32 = .ok (.aload_n 0, 1) := by decide +kernel
theorem dX5_part_33 : decode cX5_part 33 = .ok (.getfield 81, 3) := by decide +kernel
theorem dX5_part_36 : decode cX5_part 36 = .ok (.iload_n 1, 1) := by decide +kernel
theorem dX5_part_37 : decode cX5_part 37 = .ok (.daload, 1) := by decide +kernel
theorem dX5_part_38 : decode cX5_part 38 = .ok (.dstore 4, 2) := by decide +kernel
theorem dX5_part_40 : decode cX5_part 40 = .ok (.dload 4, 2) := by decide +kernel
theorem dX5_part_42 : decode cX5_part 42 = .ok (.aload_n 0, 1) := by decide +kernel
theorem dX5_part_43 : decode cX5_part 43 = .ok (.getfield 19, 3) := by decide +kernel
theorem dX5_part_46 : decode cX5_part 46 = .ok (.iload_n 3, 1) := by decide +kernel
theorem dX5_part_47 : decode cX5_part 47 = .ok (.daload, 1) := by decide +kernel
theorem dX5_part_48 : decode cX5_part 48 = .ok (.dcmp .l, 1) := by decide +kernel
theorem dX5_part_49 : decode cX5_part 49 = .ok (.ifCond .le 15, 3) := by decide +kernel
theorem dX5_part_52 : decode cX5_part 52 = .ok (.dload 4, 2) := by decide +kernel
theorem dX5_part_54 : decode cX5_part 54 = .ok (.aload_n 0, 1) := by decide +kernel
theorem dX5_part_55 : decode cX5_part 55 = .ok (.getfield 22, 3) := by decide +kernel
theorem dX5_part_58 : decode cX5_part 58 = .ok (.iload_n 3, 1) := by decide +kernel
theorem dX5_part_59 : decode cX5_part 59 = .ok (.daload, 1) := by decide +kernel
theorem dX5_part_60 : decode cX5_part 60 = .ok (.dcmp .g, 1) := by decide +kernel
theorem dX5_part_61 : decode cX5_part 61 = .ok (.ifCond .lt 5, 3) := by decide +kernel
theorem dX5_part_64 : decode cX5_part 64 = .ok (.dconst 0, 1) := by decide +kernel
theorem dX5_part_65 : decode cX5_part 65 = .ok (.dreturn, 1) := by decide +kernel
theorem dX5_part_66 : decode cX5_part 66 = .ok (.iload_n 2, 1) := by decide +kernel
theorem dX5_part_67 : decode cX5_part 67 = .ok (.ifCond .ne 33, 3) := by decide +kernel
theorem dX5_part_70 : decode cX5_part 70 = .ok (.aload_n 0, 1) := by decide +kernel
theorem dX5_part_71 : decode cX5_part 71 = .ok (.getfield 47, 3) := by decide +kernel
theorem dX5_part_74 : decode cX5_part 74 = .ok (.iload_n 3, 1) := by decide +kernel
theorem dX5_part_75 : decode cX5_part 75 = .ok (.daload, 1) := by decide +kernel
theorem dX5_part_76 : decode cX5_part 76 = .ok (.aload_n 0, 1) := by decide +kernel
theorem dX5_part_77 : decode cX5_part 77 = .ok (.getfield 19, 3) := by decide +kernel
theorem dX5_part_80 : decode cX5_part 80 = .ok (.iload_n 3, 1) := by decide +kernel
theorem dX5_part_81 : decode cX5_part 81 = .ok (.daload, 1) := by decide +kernel
theorem dX5_part_82 : decode cX5_part 82 = .ok (.dsub, 1) := by decide +kernel
theorem dX5_part_83 : decode cX5_part 83 = .ok (.dload 4, 2) := by decide +kernel
theorem dX5_part_85 : decode cX5_part 85 = .ok (.aload_n 0, 1) := by decide +kernel
theorem dX5_part_86 : decode cX5_part 86 = .ok (.getfield 19, 3) := by decide +kernel
theorem dX5_part_89 : decode cX5_part 89 = .ok (.iload_n 3, 1) := by decide +kernel
theorem dX5_part_90 : decode cX5_part 90 = .ok (.daload, 1) := by decide +kernel
theorem dX5_part_91 : decode cX5_part 91 = .ok (.dsub, 1) := by decide +kernel
theorem dX5_part_92 : decode cX5_part 92 = .ok (.ddiv, 1) := by decide +kernel
theorem dX5_part_93 : decode cX5_part 93 = .ok (.ldc2_w 94, 3) := by decide +kernel
theorem dX5_part_96 : decode cX5_part 96 = .ok (.dmul, 1) := by decide +kernel
theorem dX5_part_97 : decode cX5_part 97 = .ok (.goto 26, 3) := by decide +kernel
theorem dX5_part_100 : decode cX5_part 100 = .ok (.aload_n 0, 1) := by decide +kernel
theorem dX5_part_101 : decode cX5_part 101 = .ok (.getfield 47, 3) := by decide +kernel
theorem dX5_part_104 : decode cX5_part 104 = .ok (.iload_n 3, 1) := by decide +kernel
theorem dX5_part_105 : decode cX5_part 105 = .ok (.daload, 1) := by decide +kernel
theorem dX5_part_106 : decode cX5_part 106 = .ok (.dload 4, 2) := by decide +kernel
theorem dX5_part_108 : decode cX5_part 108 = .ok (.dsub, 1) := by decide +kernel
theorem dX5_part_109 : decode cX5_part 109 = .ok (.aload_n 0, 1) := by decide +kernel
theorem dX5_part_110 : decode cX5_part 110 = .ok (.getfield 22, 3) := by decide +kernel
theorem dX5_part_113 : decode cX5_part 113 = .ok (.iload_n 3, 1) := by decide +kernel
theorem dX5_part_114 : decode cX5_part 114 = .ok (.daload, 1) := by decide +kernel
theorem dX5_part_115 : decode cX5_part 115 = .ok (.dload 4, 2) := by decide +kernel
theorem dX5_part_117 : decode cX5_part 117 = .ok (.dsub, 1) := by decide +kernel
theorem dX5_part_118 : decode cX5_part 118 = .ok (.ddiv, 1) := by decide +kernel
theorem dX5_part_119 : decode cX5_part 119 = .ok (.ldc2_w 94, 3) := by decide +kernel
theorem dX5_part_122 : decode cX5_part 122 = .ok (.dmul, 1) := by decide +kernel
theorem dX5_part_123 : decode cX5_part 123 = .ok (.dstore 6, 2) := by decide +kernel
theorem dX5_part_125 : decode cX5_part 125 = .ok (.dload 6, 2) := by decide +kernel
theorem dX5_part_127 : decode cX5_part 127 = .ok (.dconst 0, 1) := by decide +kernel
theorem dX5_part_128 : decode cX5_part 128 = .ok (.dcmp .g, 1) := by decide +kernel
theorem dX5_part_129 : decode cX5_part 129 = .ok (.ifCond .ge 7, 3) := by decide +kernel
theorem dX5_part_132 : decode cX5_part 132 = .ok (.dconst 0, 1) := by decide +kernel
theorem dX5_part_133 : decode cX5_part 133 = .ok (.goto 20, 3) := by decide +kernel
theorem dX5_part_136 : decode cX5_part 136 = .ok (.dload 6, 2) := by decide +kernel
theorem dX5_part_138 : decode cX5_part 138 = .ok (.ldc2_w 94, 3) := by decide +kernel
theorem dX5_part_141 : decode cX5_part 141 = .ok (.dcmp .l, 1) := by decide +kernel
theorem dX5_part_142 : decode cX5_part 142 = .ok (.ifCond .le 9, 3) := by decide +kernel
theorem dX5_part_145 : decode cX5_part 145 = .ok (.ldc2_w 94, 3) := by decide +kernel
theorem dX5_part_148 : decode cX5_part 148 = .ok (.goto 5, 3) := by decide +kernel
theorem dX5_part_151 : decode cX5_part 151 = .ok (.dload 6, 2) := by decide +kernel
theorem dX5_part_153 : decode cX5_part 153 = .ok (.dreturn, 1) := by decide +kernel
theorem dX5_band_0 : decode cX5_band 0 = .ok (.aload_n 0, 1) := by decide +kernel
theorem dX5_band_1 : decode cX5_band 1 = .ok (.iload_n 1, 1) := by decide +kernel
theorem dX5_band_2 : decode cX5_band 2 = .ok (.invokevirtual 98, 3) := by decide +kernel
theorem dX5_band_5 : decode cX5_band 5 = .ok (.ifCond .eq 28, 3) := by decide +kernel
theorem dX5_band_8 : decode cX5_band 8 = .ok (.dload_n 2, 1) := by decide +kernel
theorem dX5_band_9 : decode cX5_band 9 = .ok (.ldc2_w 102, 3) := by decide +kernel
theorem dX5_band_12 : decode cX5_band 12 = .ok (.ldc2_w 104, 3) := by decide +kernel
theorem dX5_band_15 : decode cX5_band 15 = .ok (.invokestatic 90, 3) := by decide +kernel
theorem dX5_band_18 : decode cX5_band 18 = .ok (.ifCond .eq 15, 3) := by decide +kernel
theorem dX5_band_21 : decode cX5_band 21 = .ok (.dload 4, 2) := by decide +kernel
theorem dX5_band_23 : decode cX5_band 23 = .ok (.dload_n 2, 1) := by decide +kernel
theorem dX5_band_24 : decode cX5_band 24 = .ok (.ldc2_w 104, 3) := by decide +kernel
theorem dX5_band_27 : decode cX5_band 27 = .ok (.invokestatic 90, 3) := by decide +kernel
theorem dX5_band_30 : decode cX5_band 30 = .ok (.ifCond .ne 5, 3) := by decide +kernel
theorem dX5_band_33 : decode cX5_band 33 = .ok (.iconst 0, 1) := by decide +kernel
theorem dX5_band_34 : decode cX5_band 34 = .ok (.ireturn, 1) := by decide +kernel
theorem dX5_band_35 : decode cX5_band 35 = .ok (.aload_n 0, 1) := by decide +kernel
theorem dX5_band_36 : decode cX5_band 36 = .ok (.getfield 31, 3) := by decide +kernel
theorem dX5_band_39 : decode cX5_band 39 = .ok (.iload_n 1, 1) := by decide +kernel
theorem dX5_band_40 : decode cX5_band 40 = .ok (.dload_n 2, 1) := by decide +kernel
theorem dX5_band_41 : decode cX5_band 41 = .ok (.dastore, 1) := by decide +kernel
theorem dX5_band_42 : decode cX5_band 42 = .ok (.aload_n 0, 1) := by decide +kernel
theorem dX5_band_43 : decode cX5_band 43 = .ok (.getfield 34, 3) := by decide +kernel
theorem dX5_band_46 : decode cX5_band 46 = .ok (.iload_n 1, 1) := by decide +kernel
theorem dX5_band_47 : decode cX5_band 47 = .ok (.dload 4, 2) := by decide +kernel
theorem dX5_band_49 : decode cX5_band 49 = .ok (.dastore, 1) := by decide +kernel
theorem dX5_band_50 : decode cX5_band 50 = .ok (.iconst 1, 1) := by decide +kernel
theorem dX5_band_51 : decode cX5_band 51 = .ok (.ireturn, 1) := by decide +kernel
theorem dX5_tune_0 : decode cX5_tune 0 = .ok (.aload_n 0, 1) := by decide +kernel
theorem dX5_tune_1 : decode cX5_tune 1 = .ok (.iload_n 1, 1) := by decide +kernel
theorem dX5_tune_2 : decode cX5_tune 2 = .ok (.invokevirtual 98, 3) := by decide +kernel
theorem dX5_tune_5 : decode cX5_tune 5 = .ok (.ifCond .eq 15, 3) := by decide +kernel
theorem dX5_tune_8 : decode cX5_tune 8 = .ok (.iload_n 2, 1) := by decide +kernel
theorem dX5_tune_9 : decode cX5_tune 9 = .ok (.iconst 1, 1) := by decide +kernel
theorem dX5_tune_10 : decode cX5_tune 10 = .ok (.if_icmp .lt 10, 3) := by decide +kernel
theorem dX5_tune_13 : decode cX5_tune 13 = .ok (.iload_n 2, 1) := by decide +kernel
theorem dX5_tune_14 : decode cX5_tune 14 = .ok (.sipush 10000, 3) := by decide +kernel
theorem dX5_tune_17 : decode cX5_tune 17 = .ok (.if_icmp .le 5, 3) := by decide +kernel
theorem dX5_tune_20 : decode cX5_tune 20 = .ok (.iconst (-1), 1) := by decide +kernel
theorem dX5_tune_21 : decode cX5_tune 21 = .ok (.ireturn, 1) := by decide +kernel
theorem dX5_tune_22 : decode cX5_tune 22 = .ok (.dconst 0, 1) := by decide +kernel
theorem dX5_tune_23 : decode cX5_tune 23 = .ok (.dstore_n 3, 1) := by decide +kernel
theorem dX5_tune_24 : decode cX5_tune 24 = .ok (.iconst 0, 1) := by decide +kernel
theorem dX5_tune_25 : decode cX5_tune 25 = .ok (.istore 5, 2) := by decide +kernel
theorem dX5_tune_27 : decode cX5_tune 27 = .ok (.iconst 0, 1) := by decide +kernel
theorem dX5_tune_28 : decode cX5_tune 28 = .ok (.istore 6, 2) := by decide +kernel
theorem dX5_tune_30 : decode cX5_tune 30 = .ok (.iconst 0, 1) := by decide +kernel
theorem dX5_tune_31 : decode cX5_tune 31 = .ok (.istore 7, 2) := by decide +kernel
theorem dX5_tune_33 : decode cX5_tune 33 = .ok (.iconst 0, 1) := by decide +kernel
theorem dX5_tune_34 : decode cX5_tune 34 = .ok (.istore 8, 2) := by decide +kernel
theorem dX5_tune_36 : decode cX5_tune 36 = .ok (.aload_n 0, 1) := by decide +kernel
theorem dX5_tune_37 : decode cX5_tune 37 = .ok (.getfield 75, 3) := by decide +kernel
theorem dX5_tune_40 : decode cX5_tune 40 = .ok (.iload_n 1, 1) := by decide +kernel
theorem dX5_tune_41 : decode cX5_tune 41 = .ok (.iconst 0, 1) := by decide +kernel
theorem dX5_tune_42 : decode cX5_tune 42 = .ok (.iastore, 1) := by decide +kernel
theorem dX5_tune_43 : decode cX5_tune 43 = .ok (.aload_n 0, 1) := by decide +kernel
theorem dX5_tune_44 : decode cX5_tune 44 = .ok (.getfield 69, 3) := by decide +kernel
theorem dX5_tune_47 : decode cX5_tune 47 = .ok (.iload_n 1, 1) := by decide +kernel
theorem dX5_tune_48 : decode cX5_tune 48 = .ok (.dconst 0, 1) := by decide +kernel
theorem dX5_tune_49 : decode cX5_tune 49 = .ok (.dastore, 1) := by decide +kernel
theorem dX5_tune_50 : decode cX5_tune 50 = .ok (.aload_n 0, 1) := by decide +kernel
theorem dX5_tune_51 : decode cX5_tune 51 = .ok (.getfield 72, 3) := by decide +kernel
theorem dX5_tune_54 : decode cX5_tune 54 = .ok (.iload_n 1, 1) := by decide +kernel
theorem dX5_tune_55 : decode cX5_tune 55 = .ok (.dconst 0, 1) := by decide +kernel
theorem dX5_tune_56 : decode cX5_tune 56 = .ok (.dastore, 1) := by decide +kernel
theorem dX5_tune_57 : decode cX5_tune 57 = .ok (.iconst 0, 1) := by decide +kernel
theorem dX5_tune_58 : decode cX5_tune 58 = .ok (.istore 9, 2) := by decide +kernel
theorem dX5_tune_60 : decode cX5_tune 60 = .ok (.iconst 0, 1) := by decide +kernel
theorem dX5_tune_61 : decode cX5_tune 61 = .ok (.istore 10, 2) := by decide +kernel
theorem dX5_tune_63 : decode cX5_tune 63 = .ok (.iload 10, 2) := by decide +kernel
theorem dX5_tune_65 : decode cX5_tune 65 = .ok (.iload_n 2, 1) := by decide +kernel
theorem dX5_tune_66 : decode cX5_tune 66 = .ok (.if_icmp .ge 178, 3) := by decide +kernel
theorem dX5_tune_69 : decode cX5_tune 69 = .ok (.dload_n 3, 1) := by decide +kernel
theorem dX5_tune_70 : decode cX5_tune 70 = .ok (.ldc2_w 117, 3) := by decide +kernel
theorem dX5_tune_73 : decode cX5_tune 73 = .ok (.dcmp .g, 1) := by decide +kernel
theorem dX5_tune_74 : decode cX5_tune 74 = .ok (.ifCond .ge 7, 3) := by decide +kernel
theorem dX5_tune_77 : decode cX5_tune 77 = .ok (.iconst 1, 1) := by decide +kernel
theorem dX5_tune_78 : decode cX5_tune 78 = .ok (.goto 4, 3) := by decide +kernel
theorem dX5_tune_81 : decode cX5_tune 81 = .ok (.iconst 0, 1) := by decide +kernel
theorem dX5_tune_82 : decode cX5_tune 82 = .ok (.istore 11, 2) := by decide +kernel
theorem dX5_tune_84 : decode cX5_tune 84 = .ok (.iload 10, 2) := by decide +kernel
theorem dX5_tune_86 : decode cX5_tune 86 = .ok (.ifCond .le 48, 3) := by decide +kernel
theorem dX5_tune_89 : decode cX5_tune 89 = .ok (.iload 11, 2) := by decide +kernel
theorem dX5_tune_91 : decode cX5_tune 91 = .ok (.iload 5, 2) := by decide +kernel
theorem dX5_tune_93 : decode cX5_tune 93 = .ok (.iconst 1, 1) := by decide +kernel
theorem dX5_tune_94 : decode cX5_tune 94 = .ok (.iand, 1) := by decide +kernel
theorem dX5_tune_95 : decode cX5_tune 95 = .ok (.if_icmp .eq 39, 3) := by decide +kernel
theorem dX5_tune_98 : decode cX5_tune 98 = .ok (.iinc 6 1, 3) := by decide +kernel
theorem dX5_tune_101 : decode cX5_tune 101 = .ok (.iload 11, 2) := by decide +kernel
theorem dX5_tune_103 : decode cX5_tune 103 = .ok (.iconst 1, 1) := by decide +kernel
theorem dX5_tune_104 : decode cX5_tune 104 = .ok (.if_icmp .ne 30, 3) := by decide +kernel
theorem dX5_tune_107 : decode cX5_tune 107 = .ok (.aload_n 0, 1) := by decide +kernel
theorem dX5_tune_108 : decode cX5_tune 108 = .ok (.getfield 75, 3) := by decide +kernel
theorem dX5_tune_111 : decode cX5_tune 111 = .ok (.iload_n 1, 1) := by decide +kernel
theorem dX5_tune_112 : decode cX5_tune 112 = .ok (.iload 7, 2) := by decide +kernel
theorem dX5_tune_114 : decode cX5_tune 114 = .ok (.ifCond .le 11, 3) := by decide +kernel
theorem dX5_tune_117 : decode cX5_tune 117 = .ok (.iload 10, 2) := by decide +kernel
theorem dX5_tune_119 : decode cX5_tune 119 = .ok (.iload 8, 2) := by decide +kernel
theorem dX5_tune_121 : decode cX5_tune 121 = .ok (.isub, 1) := by decide +kernel
theorem dX5_tune_122 : decode cX5_tune 122 = .ok (.goto 4, 3) := by decide +kernel
theorem dX5_tune_125 : decode cX5_tune 125 = .ok (.iconst 0, 1) := by decide +kernel
theorem dX5_tune_126 : decode cX5_tune 126 = .ok (.iastore, 1) := by decide +kernel
theorem dX5_tune_127 : decode cX5_tune 127 = .ok (.iload 10, 2) := by decide +kernel
theorem dX5_tune_129 : decode cX5_tune 129 = .ok (.istore 8, 2) := by decide +kernel
theorem dX5_tune_131 : decode cX5_tune 131 = .ok (.iinc 7 1, 3) := by decide +kernel
theorem dX5_tune_134 : decode cX5_tune 134 = .ok (.iload 5, 2) := by decide +kernel
theorem dX5_tune_136 : decode cX5_tune 136 = .ok (.iconst 3, 1) := by decide +kernel
theorem dX5_tune_137 : decode cX5_tune 137 = .ok (.ishr, 1) := by decide +kernel
theorem dX5_tune_138 : decode cX5_tune 138 = .ok (.iconst 1, 1) := by decide +kernel
theorem dX5_tune_139 : decode cX5_tune 139 = .ok (.iand, 1) := by decide +kernel
theorem dX5_tune_140 : decode cX5_tune 140 = .ok (.i2d, 1) := by decide +kernel
theorem dX5_tune_141 : decode cX5_tune 141 = .ok (.dstore 12, 2) := by decide +kernel
theorem dX5_tune_143 : decode cX5_tune 143 = .ok (.dload_n 3, 1) := by decide +kernel
theorem dX5_tune_144 : decode cX5_tune 144 = .ok (.dload 12, 2) := by decide +kernel
theorem dX5_tune_146 : decode cX5_tune 146 = .ok (.dload_n 3, 1) := by decide +kernel
theorem dX5_tune_147 : decode cX5_tune 147 = .ok (.dsub, 1) := by decide +kernel
theorem dX5_tune_148 : decode cX5_tune 148 = .ok (.ldc2_w 119, 3) := by decide +kernel
theorem dX5_tune_151 : decode cX5_tune 151 = .ok (.dmul, 1) := by decide +kernel
theorem dX5_tune_152 : decode cX5_tune 152 = .ok (.dadd, 1) := by decide +kernel
theorem dX5_tune_153 : decode cX5_tune 153 = .ok (.dstore_n 3, 1) := by decide +kernel
theorem dX5_tune_154 : decode cX5_tune 154 = .ok (.iload 5, 2) := by decide +kernel
theorem dX5_tune_156 : decode cX5_tune 156 = .ok (.iconst 1, 1) := by decide +kernel
theorem dX5_tune_157 : decode cX5_tune 157 = .ok (.ishl, 1) := by decide +kernel
theorem dX5_tune_158 : decode cX5_tune 158 = .ok (.bipush 15, 2) := by decide +kernel
theorem dX5_tune_160 : decode cX5_tune 160 = .ok (.iand, 1) := by decide +kernel
theorem dX5_tune_161 : decode cX5_tune 161 = .ok (.iload 11, 2) := by decide +kernel
theorem dX5_tune_163 : decode cX5_tune 163 = .ok (.ior, 1) := by decide +kernel
theorem dX5_tune_164 : decode cX5_tune 164 = .ok (.istore 5, 2) := by decide +kernel
theorem dX5_tune_166 : decode cX5_tune 166 = .ok (.iload 6, 2) := by decide +kernel
theorem dX5_tune_168 : decode cX5_tune 168 = .ok (.ifCond .le 70, 3) := by decide +kernel
theorem dX5_tune_171 : decode cX5_tune 171 = .ok (.aload_n 0, 1) := by decide +kernel
theorem dX5_tune_172 : decode cX5_tune 172 = .ok (.getfield 69, 3) := by decide +kernel
theorem dX5_tune_175 : decode cX5_tune 175 = .ok (.iload_n 1, 1) := by decide +kernel
theorem dX5_tune_176 : decode cX5_tune 176 = .ok (.iload 9, 2) := by decide +kernel
theorem dX5_tune_178 : decode cX5_tune 178 = .ok (.ifCond .eq 14, 3) := by decide +kernel
theorem dX5_tune_181 : decode cX5_tune 181 = .ok (.dload_n 3, 1) := by decide +kernel
theorem dX5_tune_182 : decode cX5_tune 182 = .ok (.aload_n 0, 1) := by decide +kernel
theorem dX5_tune_183 : decode cX5_tune 183 = .ok (.getfield 69, 3) := by decide +kernel
theorem dX5_tune_186 : decode cX5_tune 186 = .ok (.iload_n 1, 1) := by decide +kernel
theorem dX5_tune_187 : decode cX5_tune 187 = .ok (.daload, 1) := by decide +kernel
theorem dX5_tune_188 : decode cX5_tune 188 = .ok (.dcmp .g, 1) := by decide +kernel
theorem dX5_tune_189 : decode cX5_tune 189 = .ok (.ifCond .ge 7, 3) := by decide +kernel
theorem dX5_tune_192 : decode cX5_tune 192 = .ok (.dload_n 3, 1) := by decide +kernel
theorem dX5_tune_193 : decode cX5_tune 193 = .ok (.goto 9, 3) := by decide +kernel
theorem dX5_tune_196 : decode cX5_tune 196 = .ok (.aload_n 0, 1) := by decide +kernel
theorem dX5_tune_197 : decode cX5_tune 197 = .ok (.getfield 69, 3) := by decide +kernel
theorem dX5_tune_200 : decode cX5_tune 200 = .ok (.iload_n 1, 1) := by decide +kernel
theorem dX5_tune_201 : decode cX5_tune 201 = .ok (.daload, 1) := by decide +kernel
theorem dX5_tune_202 : decode cX5_tune 202 = .ok (.dastore, 1) := by decide +kernel
theorem dX5_tune_203 : decode cX5_tune 203 = .ok (.aload_n 0, 1) := by decide +kernel
theorem dX5_tune_204 : decode cX5_tune 204 = .ok (.getfield 72, 3) := by decide +kernel
theorem dX5_tune_207 : decode cX5_tune 207 = .ok (.iload_n 1, 1) := by decide +kernel
theorem dX5_tune_208 : decode cX5_tune 208 = .ok (.iload 9, 2) := by decide +kernel
theorem dX5_tune_210 : decode cX5_tune 210 = .ok (.ifCond .eq 14, 3) := by decide +kernel
theorem dX5_tune_213 : decode cX5_tune 213 = .ok (.dload_n 3, 1) := by decide +kernel
theorem dX5_tune_214 : decode cX5_tune 214 = .ok (.aload_n 0, 1) := by decide +kernel
theorem dX5_tune_215 : decode cX5_tune 215 = .ok (.getfield 72, 3) := by decide +kernel
theorem dX5_tune_218 : decode cX5_tune 218 = .ok (.iload_n 1, 1) := by decide +kernel
theorem dX5_tune_219 : decode cX5_tune 219 = .ok (.daload, 1) := by decide +kernel
theorem dX5_tune_220 : decode cX5_tune 220 = .ok (.dcmp .l, 1) := by decide +kernel
theorem dX5_tune_221 : decode cX5_tune 221 = .ok (.ifCond .le 7, 3) := by decide +kernel
theorem dX5_tune_224 : decode cX5_tune 224 = .ok (.dload_n 3, 1) := by decide +kernel
theorem dX5_tune_225 : decode cX5_tune 225 = .ok (.goto 9, 3) := by decide +kernel
theorem dX5_tune_228 : decode cX5_tune 228 = .ok (.aload_n 0, 1) := by decide +kernel
theorem dX5_tune_229 : decode cX5_tune 229 = .ok (.getfield 72, 3) := by decide +kernel
theorem dX5_tune_232 : decode cX5_tune 232 = .ok (.iload_n 1, 1) := by decide +kernel
theorem dX5_tune_233 : decode cX5_tune 233 = .ok (.daload, 1) := by decide +kernel
theorem dX5_tune_234 : decode cX5_tune 234 = .ok (.dastore, 1) := by decide +kernel
theorem dX5_tune_235 : decode cX5_tune 235 = .ok (.iconst 1, 1) := by decide +kernel
theorem dX5_tune_236 : decode cX5_tune 236 = .ok (.istore 9, 2) := by decide +kernel
theorem dX5_tune_238 : decode cX5_tune 238 = .ok (.iinc 10 1, 3) := by decide +kernel
theorem dX5_tune_241 : decode cX5_tune 241 = .ok (.goto (-178), 3) := by decide +kernel
theorem dX5_tune_244 : decode cX5_tune 244 = .ok (.iload 6, 2) := by decide +kernel
theorem dX5_tune_246 : decode cX5_tune 246 = .ok (.ireturn, 1) := by decide +kernel
theorem dX5_tuned_0 : decode cX5_tuned 0 = .ok (.aload_n 0, 1) := by decide +kernel
theorem dX5_tuned_1 : decode cX5_tuned 1 = .ok (.iload_n 1, 1) := by decide +kernel
theorem dX5_tuned_2 : decode cX5_tuned 2 = .ok (.invokevirtual 98, 3) := by decide +kernel
theorem dX5_tuned_5 : decode cX5_tuned 5 = .ok (.ifCond .eq 21, 3) := by decide +kernel
theorem dX5_tuned_8 : decode cX5_tuned 8 = .ok (.iload_n 2, 1) := by decide +kernel
theorem dX5_tuned_9 : decode cX5_tuned 9 = .ok (.ifCond .lt 17, 3) := by decide +kernel
theorem dX5_tuned_12 : decode cX5_tuned 12 = .ok (.iload_n 2, 1) := by decide +kernel
theorem dX5_tuned_13 : decode cX5_tuned 13 = .ok (.iconst 2, 1) := by decide +kernel
theorem dX5_tuned_14 : decode cX5_tuned 14 = .ok (.if_icmp .gt 12, 3) := by decide +kernel
theorem dX5_tuned_17 : decode cX5_tuned 17 = .ok (.aload_n 0, 1) := by decide +kernel
theorem dX5_tuned_18 : decode cX5_tuned 18 = .ok (.getfield 75, 3) := by decide +kernel
theorem dX5_tuned_21 : decode cX5_tuned 21 = .ok (.iload_n 1, 1) := by decide +kernel
theorem dX5_tuned_22 : decode cX5_tuned 22 = .ok (.iaload, 1) := by decide +kernel
theorem dX5_tuned_23 : decode cX5_tuned 23 = .ok (.ifCond .ne 5, 3) := by decide +kernel
theorem dX5_tuned_26 : decode cX5_tuned 26 = .ok (.dconst 0, 1) := by decide +kernel
theorem dX5_tuned_27 : decode cX5_tuned 27 = .ok (.dreturn, 1) := by decide +kernel
theorem dX5_tuned_28 : decode cX5_tuned 28 = .ok (.aload_n 0, 1) := by decide +kernel
theorem dX5_tuned_29 : decode cX5_tuned 29 = .ok (.getfield 72, 3) := by decide +kernel
theorem dX5_tuned_32 : decode cX5_tuned 32 = .ok (.iload_n 1, 1) := by decide +kernel
theorem dX5_tuned_33 : decode cX5_tuned 33 = .ok (.daload, 1) := by decide +kernel
theorem dX5_tuned_34 : decode cX5_tuned 34 = .ok (.aload_n 0, 1) := by decide +kernel
theorem dX5_tuned_35 : decode cX5_tuned 35 = .ok (.getfield 69, 3) := by decide +kernel
theorem dX5_tuned_38 : decode cX5_tuned 38 = .ok (.iload_n 1, 1) := by decide +kernel
theorem dX5_tuned_39 : decode cX5_tuned 39 = .ok (.daload, 1) := by decide +kernel
theorem dX5_tuned_40 : decode cX5_tuned 40 = .ok (.dsub, 1) := by decide +kernel
theorem dX5_tuned_41 : decode cX5_tuned 41 = .ok (.ldc2_w 117, 3) := by decide +kernel
theorem dX5_tuned_44 : decode cX5_tuned 44 = .ok (.dmul, 1) := by decide +kernel
theorem dX5_tuned_45 : decode cX5_tuned 45 = .ok (.dstore_n 3, 1) := by decide +kernel
theorem dX5_tuned_46 : decode cX5_tuned 46 = .ok (.dload_n 3, 1) := by decide +kernel
theorem dX5_tuned_47 : decode cX5_tuned 47 = .ok (.dconst 0, 1) := by decide +kernel
theorem dX5_tuned_48 : decode cX5_tuned 48 = .ok (.dcmp .l, 1) := by decide +kernel
theorem dX5_tuned_49 : decode cX5_tuned 49 = .ok (.ifCond .gt 5, 3) := by decide +kernel
