/-! proofs of methods -/
theorem dX12_call_0 : decode cX12_call 0 = .ok (.aload_n 0, 1) := by decide +kernel
theorem dX12_call_1 : decode cX12_call 1 = .ok (.aload_n 0, 1) := by decide +kernel
theorem dX12_call_2 : decode cX12_call 2 = .ok (.iload_n 1, 1) := by decide +kernel
theorem dX12_call_3 : decode cX12_call 3 = .ok (.invokevirtual 443, 3) := by decide +kernel
theorem dX12_call_6 : decode cX12_call 6 = .ok (.ifCond .ne 7, 3) := by decide +kernel
theorem dX12_call_9 : decode cX12_call 9 = .ok (.iconst 1, 1) := by decide +kernel
theorem dX12_call_10 : decode cX12_call 10 = .ok (.goto 19, 3) := by decide +kernel
theorem dX12_call_13 : decode cX12_call 13 = .ok (.aload_n 0, 1) := by decide +kernel
theorem dX12_call_14 : decode cX12_call 14 = .ok (.getfield 7, 3) := by decide +kernel
theorem dX12_call_17 : decode cX12_call 17 = .ok (.iconst 1, 1) := by decide +kernel
theorem dX12_call_18 : decode cX12_call 18 = .ok (.iaload, 1) := by decide +kernel
theorem dX12_call_19 : decode cX12_call 19 = .ok (.bipush 16, 2) := by decide +kernel
theorem dX12_call_21 : decode cX12_call 21 = .ok (.if_icmp .ne 7, 3) := by decide +kernel
theorem dX12_call_24 : decode cX12_call 24 = .ok (.iconst 2, 1) := by decide +kernel
theorem dX12_call_25 : decode cX12_call 25 = .ok (.goto 4, 3) := by decide +kernel
theorem dX12_call_28 : decode cX12_call 28 = .ok (.iconst 0, 1) := by decide +kernel
theorem dX12_call_29 : decode cX12_call 29 = .ok (.putfield 166, 3) := by decide +kernel
theorem dX12_call_32 : decode cX12_call 32 = .ok (.aload_n 0, 1) := by decide +kernel
theorem dX12_call_33 : decode cX12_call 33 = .ok (.getfield 166, 3) := by decide +kernel
theorem dX12_call_36 : decode cX12_call 36 = .ok (.ifCond .le 5, 3) := by decide +kernel
theorem dX12_call_39 : decode cX12_call 39 = .ok (.iconst 0, 1) := by decide +kernel
theorem dX12_call_40 : decode cX12_call 40 = .ok (.ireturn, 1) := by decide +kernel
theorem dX12_call_41 : decode cX12_call 41 = .ok (.aload_n 0, 1) := by decide +kernel
theorem dX12_call_42 : decode cX12_call 42 = .ok (.invokevirtual 476, 3) := by decide +kernel
theorem dX12_call_45 : decode cX12_call 45 = .ok (.aload_n 0, 1) := by decide +kernel
theorem dX12_call_46 : decode cX12_call 46 = .ok (.iload_n 1, 1) := by decide +kernel
theorem dX12_call_47 : decode cX12_call 47 = .ok (.invokevirtual 446, 3) := by decide +kernel
theorem dX12_call_50 : decode cX12_call 50 = .ok (.iconst 0, 1) := by decide +kernel
theorem dX12_call_51 : decode cX12_call 51 = .ok (.istore_n 2, 1) := by decide +kernel
theorem dX12_call_52 : decode cX12_call 52 = .ok (.iload_n 2, 1) := by decide +kernel
theorem dX12_call_53 : decode cX12_call 53 = .ok (.aload_n 0, 1) := by decide +kernel
theorem dX12_call_54 : decode cX12_call 54 = .ok (.getfield 66, 3) := by decide +kernel
theorem dX12_call_57 : decode cX12_call 57 = .ok (.iload_n 1, 1) := by decide +kernel
theorem dX12_call_58 : decode cX12_call 58 = .ok (.iaload, 1) := by decide +kernel
theorem dX12_call_59 : decode cX12_call 59 = .ok (.if_icmp .ge 95, 3) := by decide +kernel
theorem dX12_call_62 : decode cX12_call 62 = .ok (.aload_n 0, 1) := by decide +kernel
theorem dX12_call_63 : decode cX12_call 63 = .ok (.getfield 69, 3) := by decide +kernel
theorem dX12_call_66 : decode cX12_call 66 = .ok (.bipush 6, 2) := by decide +kernel
theorem dX12_call_68 : decode cX12_call 68 = .ok (.iload_n 1, 1) := by decide +kernel
theorem dX12_call_69 : decode cX12_call 69 = .ok (.imul, 1) := by decide +kernel
theorem dX12_call_70 : decode cX12_call 70 = .ok (.iload_n 2, 1) := by decide +kernel
theorem dX12_call_71 : decode cX12_call 71 = .ok (.iadd, 1) := by decide +kernel
theorem dX12_call_72 : decode cX12_call 72 = .ok (.iaload, 1) := by decide +kernel
theorem dX12_call_73 : decode cX12_call 73 = .ok (.istore_n 3, 1) := by decide +kernel
theorem dX12_call_74 : decode cX12_call 74 = .ok (.aload_n 0, 1) := by decide +kernel
theorem dX12_call_75 : decode cX12_call 75 = .ok (.iload_n 3, 1) := by decide +kernel
theorem dX12_call_76 : decode cX12_call 76 = .ok (.invokevirtual 388, 3) := by decide +kernel
theorem dX12_call_79 : decode cX12_call 79 = .ok (.ifCond .le 69, 3) := by decide +kernel
theorem dX12_call_82 : decode cX12_call 82 = .ok (.aload_n 0, 1) := by decide +kernel
theorem dX12_call_83 : decode cX12_call 83 = .ok (.getfield 425, 3) := by decide +kernel
theorem dX12_call_86 : decode cX12_call 86 = .ok (.aload_n 0, 1) := by decide +kernel
theorem dX12_call_87 : decode cX12_call 87 = .ok (.iload_n 3, 1) := by decide +kernel
theorem dX12_call_88 : decode cX12_call 88 = .ok (.invokevirtual 394, 3) := by decide +kernel
theorem dX12_call_91 : decode cX12_call 91 = .ok (.ishr, 1) := by decide +kernel
theorem dX12_call_92 : decode cX12_call 92 = .ok (.iconst 1, 1) := by decide +kernel
theorem dX12_call_93 : decode cX12_call 93 = .ok (.iand, 1) := by decide +kernel
theorem dX12_call_94 : decode cX12_call 94 = .ok (.ifCond .ne 54, 3) := by decide +kernel
theorem dX12_call_97 : decode cX12_call 97 = .ok (.bipush 50, 2) := by decide +kernel
theorem dX12_call_99 : decode cX12_call 99 = .ok (.bipush 12, 2) := by decide +kernel
theorem dX12_call_101 : decode cX12_call 101 = .ok (.aload_n 0, 1) := by decide +kernel
theorem dX12_call_102 : decode cX12_call 102 = .ok (.iload_n 3, 1) := by decide +kernel
theorem dX12_call_103 : decode cX12_call 103 = .ok (.aload_n 0, 1) := by decide +kernel
theorem dX12_call_104 : decode cX12_call 104 = .ok (.iload_n 3, 1) := by decide +kernel
theorem dX12_call_105 : decode cX12_call 105 = .ok (.invokevirtual 388, 3) := by decide +kernel
theorem dX12_call_108 : decode cX12_call 108 = .ok (.iconst 1, 1) := by decide +kernel
theorem dX12_call_109 : decode cX12_call 109 = .ok (.isub, 1) := by decide +kernel
theorem dX12_call_110 : decode cX12_call 110 = .ok (.invokevirtual 391, 3) := by decide +kernel
theorem dX12_call_113 : decode cX12_call 113 = .ok (.imul, 1) := by decide +kernel
theorem dX12_call_114 : decode cX12_call 114 = .ok (.iadd, 1) := by decide +kernel
theorem dX12_call_115 : decode cX12_call 115 = .ok (.aload_n 0, 1) := by decide +kernel
theorem dX12_call_116 : decode cX12_call 116 = .ok (.iload_n 3, 1) := by decide +kernel
theorem dX12_call_117 : decode cX12_call 117 = .ok (.invokevirtual 394, 3) := by decide +kernel
theorem dX12_call_120 : decode cX12_call 120 = .ok (.iadd, 1) := by decide +kernel
theorem dX12_call_121 : decode cX12_call 121 = .ok (.istore 4, 2) := by decide +kernel
theorem dX12_call_123 : decode cX12_call 123 = .ok (.aload_n 0, 1) := by decide +kernel
theorem dX12_call_124 : decode cX12_call 124 = .ok (.getfield 7, 3) := by decide +kernel
theorem dX12_call_127 : decode cX12_call 127 = .ok (.iload 4, 2) := by decide +kernel
theorem dX12_call_129 : decode cX12_call 129 = .ok (.dup2, 1) := by decide +kernel
theorem dX12_call_130 : decode cX12_call 130 = .ok (.iaload, 1) := by decide +kernel
theorem dX12_call_131 : decode cX12_call 131 = .ok (.aload_n 0, 1) := by decide +kernel
theorem dX12_call_132 : decode cX12_call 132 = .ok (.getfield 7, 3) := by decide +kernel
theorem dX12_call_135 : decode cX12_call 135 = .ok (.iload 4, 2) := by decide +kernel
theorem dX12_call_137 : decode cX12_call 137 = .ok (.iaload, 1) := by decide +kernel
theorem dX12_call_138 : decode cX12_call 138 = .ok (.ifCond .le 7, 3) := by decide +kernel
theorem dX12_call_141 : decode cX12_call 141 = .ok (.iconst 1, 1) := by decide +kernel
theorem dX12_call_142 : decode cX12_call 142 = .ok (.goto 4, 3) := by decide +kernel
theorem dX12_call_145 : decode cX12_call 145 = .ok (.iconst 0, 1) := by decide +kernel
theorem dX12_call_146 : decode cX12_call 146 = .ok (.isub, 1) := by decide +kernel
theorem dX12_call_147 : decode cX12_call 147 = .ok (.iastore, 1) := by decide +kernel
theorem dX12_call_148 : decode cX12_call 148 = .ok (.iinc 2 1, 3) := by decide +kernel
theorem dX12_call_151 : decode cX12_call 151 = .ok (.goto (-99), 3) := by decide +kernel
theorem dX12_call_154 : decode cX12_call 154 = .ok (.aload_n 0, 1) := by decide +kernel
theorem dX12_call_155 : decode cX12_call 155 = .ok (.getfield 7, 3) := by decide +kernel
theorem dX12_call_158 : decode cX12_call 158 = .ok (.iconst 1, 1) := by decide +kernel
theorem dX12_call_159 : decode cX12_call 159 = .ok (.iaload, 1) := by decide +kernel
theorem dX12_call_160 : decode cX12_call 160 = .ok (.istore_n 2, 1) := by decide +kernel
theorem dX12_call_161 : decode cX12_call 161 = .ok (.sipush 299, 3) := by decide +kernel
theorem dX12_call_164 : decode cX12_call 164 = .ok (.bipush 19, 2) := by decide +kernel
theorem dX12_call_166 : decode cX12_call 166 = .ok (.iload_n 2, 1) := by decide +kernel
theorem dX12_call_167 : decode cX12_call 167 = .ok (.imul, 1) := by decide +kernel
theorem dX12_call_168 : decode cX12_call 168 = .ok (.iadd, 1) := by decide +kernel
theorem dX12_call_169 : decode cX12_call 169 = .ok (.istore_n 3, 1) := by decide +kernel
theorem dX12_call_170 : decode cX12_call 170 = .ok (.aload_n 0, 1) := by decide +kernel
theorem dX12_call_171 : decode cX12_call 171 = .ok (.getfield 7, 3) := by decide +kernel
theorem dX12_call_174 : decode cX12_call 174 = .ok (.iload_n 3, 1) := by decide +kernel
theorem dX12_call_175 : decode cX12_call 175 = .ok (.iconst 1, 1) := by decide +kernel
theorem dX12_call_176 : decode cX12_call 176 = .ok (.iadd, 1) := by decide +kernel
theorem dX12_call_177 : decode cX12_call 177 = .ok (.aload_n 0, 1) := by decide +kernel
theorem dX12_call_178 : decode cX12_call 178 = .ok (.getfield 431, 3) := by decide +kernel
theorem dX12_call_181 : decode cX12_call 181 = .ok (.aload_n 0, 1) := by decide +kernel
theorem dX12_call_182 : decode cX12_call 182 = .ok (.getfield 63, 3) := by decide +kernel
theorem dX12_call_185 : decode cX12_call 185 = .ok (.iload_n 1, 1) := by decide +kernel
theorem dX12_call_186 : decode cX12_call 186 = .ok (.iaload, 1) := by decide +kernel
theorem dX12_call_187 : decode cX12_call 187 = .ok (.if_icmp .lt 7, 3) := by decide +kernel
theorem dX12_call_190 : decode cX12_call 190 = .ok (.iconst 1, 1) := by decide +kernel
theorem dX12_call_191 : decode cX12_call 191 = .ok (.goto 4, 3) := by decide +kernel
theorem dX12_call_194 : decode cX12_call 194 = .ok (.iconst 0, 1) := by decide +kernel
theorem dX12_call_195 : decode cX12_call 195 = .ok (.iastore, 1) := by decide +kernel
theorem dX12_call_196 : decode cX12_call 196 = .ok (.aload_n 0, 1) := by decide +kernel
theorem dX12_call_197 : decode cX12_call 197 = .ok (.getfield 7, 3) := by decide +kernel
theorem dX12_call_200 : decode cX12_call 200 = .ok (.iload_n 3, 1) := by decide +kernel
theorem dX12_call_201 : decode cX12_call 201 = .ok (.iconst 2, 1) := by decide +kernel
theorem dX12_call_202 : decode cX12_call 202 = .ok (.iadd, 1) := by decide +kernel
theorem dX12_call_203 : decode cX12_call 203 = .ok (.aload_n 0, 1) := by decide +kernel
theorem dX12_call_204 : decode cX12_call 204 = .ok (.getfield 425, 3) := by decide +kernel
theorem dX12_call_207 : decode cX12_call 207 = .ok (.invokestatic 415, 3) := by decide +kernel
theorem dX12_call_210 : decode cX12_call 210 = .ok (.iastore, 1) := by decide +kernel
theorem dX12_call_211 : decode cX12_call 211 = .ok (.aload_n 0, 1) := by decide +kernel
theorem dX12_call_212 : decode cX12_call 212 = .ok (.getfield 7, 3) := by decide +kernel
theorem dX12_call_215 : decode cX12_call 215 = .ok (.iload_n 3, 1) := by decide +kernel
theorem dX12_call_216 : decode cX12_call 216 = .ok (.iconst 3, 1) := by decide +kernel
theorem dX12_call_217 : decode cX12_call 217 = .ok (.iadd, 1) := by decide +kernel
theorem dX12_call_218 : decode cX12_call 218 = .ok (.aload_n 0, 1) := by decide +kernel
theorem dX12_call_219 : decode cX12_call 219 = .ok (.getfield 431, 3) := by decide +kernel
theorem dX12_call_222 : decode cX12_call 222 = .ok (.iastore, 1) := by decide +kernel
theorem dX12_call_223 : decode cX12_call 223 = .ok (.iconst 4, 1) := by decide +kernel
theorem dX12_call_224 : decode cX12_call 224 = .ok (.istore 4, 2) := by decide +kernel
theorem dX12_call_226 : decode cX12_call 226 = .ok (.iload 4, 2) := by decide +kernel
theorem dX12_call_228 : decode cX12_call 228 = .ok (.bipush 19, 2) := by decide +kernel
theorem dX12_call_230 : decode cX12_call 230 = .ok (.if_icmp .ge 19, 3) := by decide +kernel
theorem dX12_call_233 : decode cX12_call 233 = .ok (.aload_n 0, 1) := by decide +kernel
theorem dX12_call_234 : decode cX12_call 234 = .ok (.getfield 7, 3) := by decide +kernel
theorem dX12_call_237 : decode cX12_call 237 = .ok (.iload_n 3, 1) := by decide +kernel
theorem dX12_call_238 : decode cX12_call 238 = .ok (.iload 4, 2) := by decide +kernel
theorem dX12_call_240 : decode cX12_call 240 = .ok (.iadd, 1) := by decide +kernel
theorem dX12_call_241 : decode cX12_call 241 = .ok (.iconst 0, 1) := by decide +kernel
theorem dX12_call_242 : decode cX12_call 242 = .ok (.iastore, 1) := by decide +kernel
theorem dX12_call_243 : decode cX12_call 243 = .ok (.iinc 4 1, 3) := by decide +kernel
theorem dX12_call_246 : decode cX12_call 246 = .ok (.goto (-20), 3) := by decide +kernel
theorem dX12_call_249 : decode cX12_call 249 = .ok (.bipush 50, 2) := by decide +kernel
theorem dX12_call_251 : decode cX12_call 251 = .ok (.aload_n 0, 1) := by decide +kernel
theorem dX12_call_252 : decode cX12_call 252 = .ok (.getfield 431, 3) := by decide +kernel
theorem dX12_call_255 : decode cX12_call 255 = .ok (.imul, 1) := by decide +kernel
theorem dX12_call_256 : decode cX12_call 256 = .ok (.istore 4, 2) := by decide +kernel
theorem dX12_call_258 : decode cX12_call 258 = .ok (.iconst 0, 1) := by decide +kernel
theorem dX12_call_259 : decode cX12_call 259 = .ok (.istore 5, 2) := by decide +kernel
theorem dX12_call_261 : decode cX12_call 261 = .ok (.iload_n 3, 1) := by decide +kernel
theorem dX12_call_262 : decode cX12_call 262 = .ok (.iconst 4, 1) := by decide +kernel
theorem dX12_call_263 : decode cX12_call 263 = .ok (.iadd, 1) := by decide +kernel
theorem dX12_call_264 : decode cX12_call 264 = .ok (.istore 6, 2) := by decide +kernel
theorem dX12_call_266 : decode cX12_call 266 = .ok (.iconst 0, 1) := by decide +kernel
theorem dX12_call_267 : decode cX12_call 267 = .ok (.istore 7, 2) := by decide +kernel
theorem dX12_call_269 : decode cX12_call 269 = .ok (.iload 7, 2) := by decide +kernel
theorem dX12_call_271 : decode cX12_call 271 = .ok (.aload_n 0, 1) := by decide +kernel
theorem dX12_call_272 : decode cX12_call 272 = .ok (.getfield 72, 3) := by decide +kernel
theorem dX12_call_275 : decode cX12_call 275 = .ok (.iload_n 1, 1) := by decide +kernel
theorem dX12_call_276 : decode cX12_call 276 = .ok (.iaload, 1) := by decide +kernel
theorem dX12_call_277 : decode cX12_call 277 = .ok (.if_icmp .ge 217, 3) := by decide +kernel
theorem dX12_call_280 : decode cX12_call 280 = .ok (.aload_n 0, 1) := by decide +kernel
theorem dX12_call_281 : decode cX12_call 281 = .ok (.getfield 145, 3) := by decide +kernel
theorem dX12_call_284 : decode cX12_call 284 = .ok (.iload 7, 2) := by decide +kernel
theorem dX12_call_286 : decode cX12_call 286 = .ok (.iaload, 1) := by decide +kernel
theorem dX12_call_287 : decode cX12_call 287 = .ok (.ifCond .eq 201, 3) := by decide +kernel
theorem dX12_call_290 : decode cX12_call 290 = .ok (.aload_n 0, 1) := by decide +kernel
theorem dX12_call_291 : decode cX12_call 291 = .ok (.getfield 75, 3) := by decide +kernel
theorem dX12_call_294 : decode cX12_call 294 = .ok (.iconst 5, 1) := by decide +kernel
theorem dX12_call_295 : decode cX12_call 295 = .ok (.iload_n 1, 1) := by decide +kernel
theorem dX12_call_296 : decode cX12_call 296 = .ok (.imul, 1) := by decide +kernel
theorem dX12_call_297 : decode cX12_call 297 = .ok (.iload 7, 2) := by decide +kernel
theorem dX12_call_299 : decode cX12_call 299 = .ok (.iadd, 1) := by decide +kernel
theorem dX12_call_300 : decode cX12_call 300 = .ok (.iaload, 1) := by decide +kernel
theorem dX12_call_301 : decode cX12_call 301 = .ok (.istore 8, 2) := by decide +kernel
theorem dX12_call_303 : decode cX12_call 303 = .ok (.aload_n 0, 1) := by decide +kernel
theorem dX12_call_304 : decode cX12_call 304 = .ok (.getfield 7, 3) := by decide +kernel
theorem dX12_call_307 : decode cX12_call 307 = .ok (.iconst 0, 1) := by decide +kernel
theorem dX12_call_308 : decode cX12_call 308 = .ok (.iaload, 1) := by decide +kernel
theorem dX12_call_309 : decode cX12_call 309 = .ok (.aload_n 0, 1) := by decide +kernel
theorem dX12_call_310 : decode cX12_call 310 = .ok (.getfield 154, 3) := by decide +kernel
theorem dX12_call_313 : decode cX12_call 313 = .ok (.iload 7, 2) := by decide +kernel
theorem dX12_call_315 : decode cX12_call 315 = .ok (.iaload, 1) := by decide +kernel
theorem dX12_call_316 : decode cX12_call 316 = .ok (.iadd, 1) := by decide +kernel
theorem dX12_call_317 : decode cX12_call 317 = .ok (.iconst 2, 1) := by decide +kernel
theorem dX12_call_318 : decode cX12_call 318 = .ok (.aload_n 0, 1) := by decide +kernel
theorem dX12_call_319 : decode cX12_call 319 = .ok (.getfield 48, 3) := by decide +kernel
theorem dX12_call_322 : decode cX12_call 322 = .ok (.iload 8, 2) := by decide +kernel
theorem dX12_call_324 : decode cX12_call 324 = .ok (.iaload, 1) := by decide +kernel
theorem dX12_call_325 : decode cX12_call 325 = .ok (.imul, 1) := by decide +kernel
theorem dX12_call_326 : decode cX12_call 326 = .ok (.iadd, 1) := by decide +kernel
theorem dX12_call_327 : decode cX12_call 327 = .ok (.aload_n 0, 1) := by decide +kernel
theorem dX12_call_328 : decode cX12_call 328 = .ok (.getfield 57, 3) := by decide +kernel
theorem dX12_call_331 : decode cX12_call 331 = .ok (.iload_n 1, 1) := by decide +kernel
theorem dX12_call_332 : decode cX12_call 332 = .ok (.iaload, 1) := by decide +kernel
theorem dX12_call_333 : decode cX12_call 333 = .ok (.iadd, 1) := by decide +kernel
theorem dX12_call_334 : decode cX12_call 334 = .ok (.istore 9, 2) := by decide +kernel
theorem dX12_call_336 : decode cX12_call 336 = .ok (.aload_n 0, 1) := by decide +kernel
theorem dX12_call_337 : decode cX12_call 337 = .ok (.getfield 7, 3) := by decide +kernel
theorem dX12_call_340 : decode cX12_call 340 = .ok (.iload 6, 2) := by decide +kernel
theorem dX12_call_342 : decode cX12_call 342 = .ok (.iload 8, 2) := by decide +kernel
theorem dX12_call_344 : decode cX12_call 344 = .ok (.iastore, 1) := by decide +kernel
theorem dX12_call_345 : decode cX12_call 345 = .ok (.aload_n 0, 1) := by decide +kernel
theorem dX12_call_346 : decode cX12_call 346 = .ok (.getfield 7, 3) := by decide +kernel
theorem dX12_call_349 : decode cX12_call 349 = .ok (.iload 6, 2) := by decide +kernel
theorem dX12_call_351 : decode cX12_call 351 = .ok (.iconst 1, 1) := by decide +kernel
theorem dX12_call_352 : decode cX12_call 352 = .ok (.iadd, 1) := by decide +kernel
theorem dX12_call_353 : decode cX12_call 353 = .ok (.aload_n 0, 1) := by decide +kernel
theorem dX12_call_354 : decode cX12_call 354 = .ok (.getfield 7, 3) := by decide +kernel
theorem dX12_call_357 : decode cX12_call 357 = .ok (.iconst 0, 1) := by decide +kernel
theorem dX12_call_358 : decode cX12_call 358 = .ok (.iaload, 1) := by decide +kernel
theorem dX12_call_359 : decode cX12_call 359 = .ok (.aload_n 0, 1) := by decide +kernel
theorem dX12_call_360 : decode cX12_call 360 = .ok (.getfield 154, 3) := by decide +kernel
theorem dX12_call_363 : decode cX12_call 363 = .ok (.iload 7, 2) := by decide +kernel
theorem dX12_call_365 : decode cX12_call 365 = .ok (.iaload, 1) := by decide +kernel
theorem dX12_call_366 : decode cX12_call 366 = .ok (.iadd, 1) := by decide +kernel
theorem dX12_call_367 : decode cX12_call 367 = .ok (.iastore, 1) := by decide +kernel
theorem dX12_call_368 : decode cX12_call 368 = .ok (.aload_n 0, 1) := by decide +kernel
theorem dX12_call_369 : decode cX12_call 369 = .ok (.getfield 7, 3) := by decide +kernel
theorem dX12_call_372 : decode cX12_call 372 = .ok (.iload 6, 2) := by decide +kernel
theorem dX12_call_374 : decode cX12_call 374 = .ok (.iconst 2, 1) := by decide +kernel
theorem dX12_call_375 : decode cX12_call 375 = .ok (.iadd, 1) := by decide +kernel
theorem dX12_call_376 : decode cX12_call 376 = .ok (.aload_n 0, 1) := by decide +kernel
theorem dX12_call_377 : decode cX12_call 377 = .ok (.getfield 145, 3) := by decide +kernel
theorem dX12_call_380 : decode cX12_call 380 = .ok (.iload 7, 2) := by decide +kernel
theorem dX12_call_382 : decode cX12_call 382 = .ok (.iaload, 1) := by decide +kernel
theorem dX12_call_383 : decode cX12_call 383 = .ok (.iastore, 1) := by decide +kernel
theorem dX12_call_384 : decode cX12_call 384 = .ok (.iinc 6 3, 3) := by decide +kernel
theorem dX12_call_387 : decode cX12_call 387 = .ok (.iload 5, 2) := by decide +kernel
theorem dX12_call_389 : decode cX12_call 389 = .ok (.aload_n 0, 1) := by decide +kernel
theorem dX12_call_390 : decode cX12_call 390 = .ok (.getfield 145, 3) := by decide +kernel
theorem dX12_call_393 : decode cX12_call 393 = .ok (.iload 7, 2) := by decide +kernel
theorem dX12_call_395 : decode cX12_call 395 = .ok (.iaload, 1) := by decide +kernel
theorem dX12_call_396 : decode cX12_call 396 = .ok (.ior, 1) := by decide +kernel
theorem dX12_call_397 : decode cX12_call 397 = .ok (.istore 5, 2) := by decide +kernel
theorem dX12_call_399 : decode cX12_call 399 = .ok (.aload_n 0, 1) := by decide +kernel
theorem dX12_call_400 : decode cX12_call 400 = .ok (.getfield 7, 3) := by decide +kernel
theorem dX12_call_403 : decode cX12_call 403 = .ok (.sipush 284, 3) := by decide +kernel
theorem dX12_call_406 : decode cX12_call 406 = .ok (.iconst 3, 1) := by decide +kernel
theorem dX12_call_407 : decode cX12_call 407 = .ok (.iload 8, 2) := by decide +kernel
theorem dX12_call_409 : decode cX12_call 409 = .ok (.imul, 1) := by decide +kernel
theorem dX12_call_410 : decode cX12_call 410 = .ok (.iadd, 1) := by decide +kernel
theorem dX12_call_411 : decode cX12_call 411 = .ok (.iconst 0, 1) := by decide +kernel
theorem dX12_call_412 : decode cX12_call 412 = .ok (.iadd, 1) := by decide +kernel
theorem dX12_call_413 : decode cX12_call 413 = .ok (.iload 9, 2) := by decide +kernel
theorem dX12_call_415 : decode cX12_call 415 = .ok (.iastore, 1) := by decide +kernel
theorem dX12_call_416 : decode cX12_call 416 = .ok (.aload_n 0, 1) := by decide +kernel
theorem dX12_call_417 : decode cX12_call 417 = .ok (.getfield 7, 3) := by decide +kernel
theorem dX12_call_420 : decode cX12_call 420 = .ok (.sipush 284, 3) := by decide +kernel
theorem dX12_call_423 : decode cX12_call 423 = .ok (.iconst 3, 1) := by decide +kernel
theorem dX12_call_424 : decode cX12_call 424 = .ok (.iload 8, 2) := by decide +kernel
theorem dX12_call_426 : decode cX12_call 426 = .ok (.imul, 1) := by decide +kernel
theorem dX12_call_427 : decode cX12_call 427 = .ok (.iadd, 1) := by decide +kernel
theorem dX12_call_428 : decode cX12_call 428 = .ok (.iconst 2, 1) := by decide +kernel
theorem dX12_call_429 : decode cX12_call 429 = .ok (.iadd, 1) := by decide +kernel
theorem dX12_call_430 : decode cX12_call 430 = .ok (.aload_n 0, 1) := by decide +kernel
theorem dX12_call_431 : decode cX12_call 431 = .ok (.getfield 145, 3) := by decide +kernel
theorem dX12_call_434 : decode cX12_call 434 = .ok (.iload 7, 2) := by decide +kernel
theorem dX12_call_436 : decode cX12_call 436 = .ok (.iaload, 1) := by decide +kernel
theorem dX12_call_437 : decode cX12_call 437 = .ok (.iastore, 1) := by decide +kernel
theorem dX12_call_438 : decode cX12_call 438 = .ok (.iconst 0, 1) := by decide +kernel
theorem dX12_call_439 : decode cX12_call 439 = .ok (.istore 10, 2) := by decide +kernel
theorem dX12_call_441 : decode cX12_call 441 = .ok (.iload 10, 2) := by decide +kernel
theorem dX12_call_443 : decode cX12_call 443 = .ok (.aload_n 0, 1) := by decide +kernel
theorem dX12_call_444 : decode cX12_call 444 = .ok (.getfield 325, 3) := by decide +kernel
theorem dX12_call_447 : decode cX12_call 447 = .ok (.if_icmp .ge 41, 3) := by decide +kernel
theorem dX12_call_450 : decode cX12_call 450 = .ok (.iload 4, 2) := by decide +kernel
theorem dX12_call_452 : decode cX12_call 452 = .ok (.aload_n 0, 1) := by decide +kernel
theorem dX12_call_453 : decode cX12_call 453 = .ok (.getfield 145, 3) := by decide +kernel
theorem dX12_call_456 : decode cX12_call 456 = .ok (.iload 7, 2) := by decide +kernel
theorem dX12_call_458 : decode cX12_call 458 = .ok (.iaload, 1) := by decide +kernel
theorem dX12_call_459 : decode cX12_call 459 = .ok (.iload 10, 2) := by decide +kernel
theorem dX12_call_461 : decode cX12_call 461 = .ok (.ishr, 1) := by decide +kernel
theorem dX12_call_462 : decode cX12_call 462 = .ok (.iconst 1, 1) := by decide +kernel
theorem dX12_call_463 : decode cX12_call 463 = .ok (.iand, 1) := by decide +kernel
theorem dX12_call_464 : decode cX12_call 464 = .ok (.ifCond .eq 14, 3) := by decide +kernel
theorem dX12_call_467 : decode cX12_call 467 = .ok (.aload_n 0, 1) := by decide +kernel
theorem dX12_call_468 : decode cX12_call 468 = .ok (.iload 10, 2) := by decide +kernel
theorem dX12_call_470 : decode cX12_call 470 = .ok (.iload 9, 2) := by decide +kernel
theorem dX12_call_472 : decode cX12_call 472 = .ok (.invokevirtual 479, 3) := by decide +kernel
theorem dX12_call_475 : decode cX12_call 475 = .ok (.goto 4, 3) := by decide +kernel
theorem dX12_call_478 : decode cX12_call 478 = .ok (.iconst 0, 1) := by decide +kernel
theorem dX12_call_479 : decode cX12_call 479 = .ok (.iadd, 1) := by decide +kernel
theorem dX12_call_480 : decode cX12_call 480 = .ok (.istore 4, 2) := by decide +kernel
theorem dX12_call_482 : decode cX12_call 482 = .ok (.iinc 10 1, 3) := by decide +kernel
theorem dX12_call_485 : decode cX12_call 485 = .ok (.goto (-44), 3) := by decide +kernel
theorem dX12_call_488 : decode cX12_call 488 = .ok (.iinc 7 1, 3) := by decide +kernel
theorem dX12_call_491 : decode cX12_call 491 = .ok (.goto (-222), 3) := by decide +kernel
theorem dX12_call_494 : decode cX12_call 494 = .ok (.iconst 0, 1) := by decide +kernel
theorem dX12_call_495 : decode cX12_call 495 = .ok (.istore 7, 2) := by decide +kernel
theorem dX12_call_497 : decode cX12_call 497 = .ok (.iload 7, 2) := by decide +kernel
theorem dX12_call_499 : decode cX12_call 499 = .ok (.aload_n 0, 1) := by decide +kernel
theorem dX12_call_500 : decode cX12_call 500 = .ok (.getfield 325, 3) := by decide +kernel
theorem dX12_call_503 : decode cX12_call 503 = .ok (.if_icmp .ge 79, 3) := by decide +kernel
theorem dX12_call_506 : decode cX12_call 506 = .ok (.aload_n 0, 1) := by decide +kernel
theorem dX12_call_507 : decode cX12_call 507 = .ok (.getfield 425, 3) := by decide +kernel
theorem dX12_call_510 : decode cX12_call 510 = .ok (.iload 7, 2) := by decide +kernel
theorem dX12_call_512 : decode cX12_call 512 = .ok (.ishr, 1) := by decide +kernel
theorem dX12_call_513 : decode cX12_call 513 = .ok (.iconst 1, 1) := by decide +kernel
theorem dX12_call_514 : decode cX12_call 514 = .ok (.iand, 1) := by decide +kernel
theorem dX12_call_515 : decode cX12_call 515 = .ok (.ifCond .eq 17, 3) := by decide +kernel
theorem dX12_call_518 : decode cX12_call 518 = .ok (.iload 5, 2) := by decide +kernel
theorem dX12_call_520 : decode cX12_call 520 = .ok (.iload 7, 2) := by decide +kernel
theorem dX12_call_522 : decode cX12_call 522 = .ok (.ishr, 1) := by decide +kernel
theorem dX12_call_523 : decode cX12_call 523 = .ok (.iconst 1, 1) := by decide +kernel
theorem dX12_call_524 : decode cX12_call 524 = .ok (.iand, 1) := by decide +kernel
theorem dX12_call_525 : decode cX12_call 525 = .ok (.ifCond .ne 7, 3) := by decide +kernel
theorem dX12_call_528 : decode cX12_call 528 = .ok (.iconst 1, 1) := by decide +kernel
theorem dX12_call_529 : decode cX12_call 529 = .ok (.goto 4, 3) := by decide +kernel
theorem dX12_call_532 : decode cX12_call 532 = .ok (.iconst 0, 1) := by decide +kernel
theorem dX12_call_533 : decode cX12_call 533 = .ok (.istore 8, 2) := by decide +kernel
theorem dX12_call_535 : decode cX12_call 535 = .ok (.iload 4, 2) := by decide +kernel
theorem dX12_call_537 : decode cX12_call 537 = .ok (.iload 8, 2) := by decide +kernel
theorem dX12_call_539 : decode cX12_call 539 = .ok (.ifCond .eq 33, 3) := by decide +kernel
theorem dX12_call_542 : decode cX12_call 542 = .ok (.aload_n 0, 1) := by decide +kernel
theorem dX12_call_543 : decode cX12_call 543 = .ok (.iload 7, 2) := by decide +kernel
theorem dX12_call_545 : decode cX12_call 545 = .ok (.aload_n 0, 1) := by decide +kernel
theorem dX12_call_546 : decode cX12_call 546 = .ok (.getfield 7, 3) := by decide +kernel
theorem dX12_call_549 : decode cX12_call 549 = .ok (.iconst 0, 1) := by decide +kernel
theorem dX12_call_550 : decode cX12_call 550 = .ok (.iaload, 1) := by decide +kernel
theorem dX12_call_551 : decode cX12_call 551 = .ok (.aload_n 0, 1) := by decide +kernel
theorem dX12_call_552 : decode cX12_call 552 = .ok (.iload 7, 2) := by decide +kernel
theorem dX12_call_554 : decode cX12_call 554 = .ok (.invokevirtual 374, 3) := by decide +kernel
theorem dX12_call_557 : decode cX12_call 557 = .ok (.iadd, 1) := by decide +kernel
theorem dX12_call_558 : decode cX12_call 558 = .ok (.aload_n 0, 1) := by decide +kernel
theorem dX12_call_559 : decode cX12_call 559 = .ok (.getfield 33, 3) := by decide +kernel
theorem dX12_call_562 : decode cX12_call 562 = .ok (.iload 7, 2) := by decide +kernel
theorem dX12_call_564 : decode cX12_call 564 = .ok (.iaload, 1) := by decide +kernel
theorem dX12_call_565 : decode cX12_call 565 = .ok (.iadd, 1) := by decide +kernel
theorem dX12_call_566 : decode cX12_call 566 = .ok (.invokevirtual 479, 3) := by decide +kernel
theorem dX12_call_569 : decode cX12_call 569 = .ok (.goto 4, 3) := by decide +kernel
theorem dX12_call_572 : decode cX12_call 572 = .ok (.iconst 0, 1) := by decide +kernel
theorem dX12_call_573 : decode cX12_call 573 = .ok (.iadd, 1) := by decide +kernel
theorem dX12_call_574 : decode cX12_call 574 = .ok (.istore 4, 2) := by decide +kernel
theorem dX12_call_576 : decode cX12_call 576 = .ok (.iinc 7 1, 3) := by decide +kernel
theorem dX12_call_579 : decode cX12_call 579 = .ok (.goto (-82), 3) := by decide +kernel
theorem dX12_call_582 : decode cX12_call 582 = .ok (.aload_n 0, 1) := by decide +kernel
theorem dX12_call_583 : decode cX12_call 583 = .ok (.getfield 7, 3) := by decide +kernel
theorem dX12_call_586 : decode cX12_call 586 = .ok (.iload_n 3, 1) := by decide +kernel
theorem dX12_call_587 : decode cX12_call 587 = .ok (.iconst 0, 1) := by decide +kernel
theorem dX12_call_588 : decode cX12_call 588 = .ok (.iadd, 1) := by decide +kernel
theorem dX12_call_589 : decode cX12_call 589 = .ok (.iload 4, 2) := by decide +kernel
theorem dX12_call_591 : decode cX12_call 591 = .ok (.iastore, 1) := by decide +kernel
theorem dX12_call_592 : decode cX12_call 592 = .ok (.aload_n 0, 1) := by decide +kernel
theorem dX12_call_593 : decode cX12_call 593 = .ok (.getfield 7, 3) := by decide +kernel
theorem dX12_call_596 : decode cX12_call 596 = .ok (.iconst 1, 1) := by decide +kernel
theorem dX12_call_597 : decode cX12_call 597 = .ok (.dup2, 1) := by decide +kernel
theorem dX12_call_598 : decode cX12_call 598 = .ok (.iaload, 1) := by decide +kernel
theorem dX12_call_599 : decode cX12_call 599 = .ok (.iconst 1, 1) := by decide +kernel
theorem dX12_call_600 : decode cX12_call 600 = .ok (.iadd, 1) := by decide +kernel
theorem dX12_call_601 : decode cX12_call 601 = .ok (.iastore, 1) := by decide +kernel
theorem dX12_call_602 : decode cX12_call 602 = .ok (.iload_n 2, 1) := by decide +kernel
theorem dX12_call_603 : decode cX12_call 603 = .ok (.ireturn, 1) := by decide +kernel
abbrev M_X12_call : aM := (yX12_call.cls, cX12_call, 11, (some .int), [], yX12_call.name == "<init>")
abbrev J_X12_call (l : Launch) (E : aE) (n0 m0 : Nat) := GG (fun (v : Int32) => .inl (some (.int v))) l E M_X12_call 6 135 n0 m0
theorem b_X12_call {l : Launch} {E : aE} (hl : l.stackTraces = false) (n0 m0 : Nat) (x1 : Nat) (x2 : Int32) (h0 : aH) : J_X12_call l E n0 m0 0 [(0, .ref (e_z E + x1)), (1, .int x2)] [] h0 (m_X12_call x1 x2 h0) := by
  unfold m_X12_call
  refine g_aload_n (pc := 0) dX12_call_0 0 rfl ?_
  refine g_aload_n (pc := 1) dX12_call_1 0 rfl ?_
  refine g_iload_n (pc := 2) dX12_call_2 1 rfl ?_
  refine g_gS (fun hs => ?_)
  refine g_bRi (pc := 3) (c_V cl12 hs (p_X12_isKind hl x1 x2 h0) y_X12_isKind tw2069 dX12_call_3 rfl (st := [.ref (e_z E + x1)]) rfl (Nat.le_of_ble_eq_true rfl) (Nat.le_of_ble_eq_true rfl) (Nat.le_of_ble_eq_true rfl)) (fun x3 h1 => ?_)
  refine g_join (fun k => ∀ (x4 : Int32) (h2 : aH), J_X12_call l E n0 m0 29 [(0, .ref (e_z E + x1)), (1, .int x2)] [.int x4, .ref (e_z E + x1)] h2 (k x4 h2)) (fun x4 h2 => ?_) (fun k29 hk29 => ?_)
  · refine g_puti (pc := 29) cl12 (Nat.le_of_ble_eq_true rfl) (Or.inl ⟨rfl, fk1551⟩) (fun _ _ _ => rfl) (fun _ => ⟨rfl, rfl⟩) dX12_call_29 (fun h3 => ?_)
    refine g_aload_n (pc := 32) dX12_call_32 0 rfl ?_
    refine g_geti (pc := 33) cl12 (Nat.le_of_ble_eq_true rfl) fk1551 (fun _ _ _ => rfl) dX12_call_33 (fun x5 => ?_)
    refine g_ifle (pc := 36) (tgt := 41) dX12_call_36 rfl ?_ ?_
    · refine g_aload_n (pc := 41) dX12_call_41 0 rfl ?_
      refine g_gS (fun hs => ?_)
      refine g_bRv (pc := 42) (c_V cl12 hs (p_X12_keeps hl x1 h3) y_X12_keeps tw2216 dX12_call_42 rfl (st := []) rfl (Nat.le_of_ble_eq_true rfl) (Nat.le_of_ble_eq_true rfl) (Nat.le_of_ble_eq_true rfl)) (fun _ h4 => ?_)
      refine g_aload_n (pc := 45) dX12_call_45 0 rfl ?_
      refine g_iload_n (pc := 46) dX12_call_46 1 rfl ?_
      refine g_gS (fun hs => ?_)
      refine g_bRv (pc := 47) (c_V cl12 hs (p_X12_plans hl x1 x2 h4) y_X12_plans tw2085 dX12_call_47 rfl (st := []) rfl (Nat.le_of_ble_eq_true rfl) (Nat.le_of_ble_eq_true rfl) (Nat.le_of_ble_eq_true rfl)) (fun _ h5 => ?_)
      refine g_iconst (pc := 50) dX12_call_50 ci_0 ?_
      refine g_istore_n (pc := 51) (lv' := [(2, .int (0 : Int32)), (0, .ref (e_z E + x1)), (1, .int x2)]) dX12_call_51 (Nat.le_of_ble_eq_true rfl) rfl ?_
      refine g_join (fun k => ∀ (h6 : aH), J_X12_call l E n0 m0 154 [(0, .ref (e_z E + x1)), (1, .int x2)] [] h6 (k h6)) (fun h6 => ?_) (fun k154 hk154 => ?_)
      · refine g_aload_n (pc := 154) dX12_call_154 0 rfl ?_
        refine g_getr (pc := 155) cl12 (Nat.le_of_ble_eq_true rfl) fk1552 (fun _ _ _ => rfl) dX12_call_155 (fun x6 => ?_)
        refine g_iconst (pc := 158) dX12_call_158 ci_1 ?_
        refine g_iald (pc := 159) dX12_call_159 (fun x7 => ?_)
        refine g_istore_n (pc := 160) (lv' := [(2, .int x7), (0, .ref (e_z E + x1)), (1, .int x2)]) dX12_call_160 (Nat.le_of_ble_eq_true rfl) rfl ?_
        refine g_sipush (pc := 161) dX12_call_161 cs_299 ?_
        refine g_bipush (pc := 164) dX12_call_164 cb_19 ?_
        refine g_iload_n (pc := 166) dX12_call_166 0 rfl ?_
        refine g_imul (pc := 167) dX12_call_167 ?_
        refine g_iadd (pc := 168) dX12_call_168 ?_
        refine g_topi (fun x8 => ?_)
        refine g_istore_n (pc := 169) (lv' := [(3, .int x8), (2, .int x7), (0, .ref (e_z E + x1)), (1, .int x2)]) dX12_call_169 (Nat.le_of_ble_eq_true rfl) rfl ?_
        refine g_aload_n (pc := 170) dX12_call_170 2 rfl ?_
        refine g_getr (pc := 171) cl12 (Nat.le_of_ble_eq_true rfl) fk1552 (fun _ _ _ => rfl) dX12_call_171 (fun x9 => ?_)
        refine g_iload_n (pc := 174) dX12_call_174 0 rfl ?_
        refine g_iconst (pc := 175) dX12_call_175 ci_1 ?_
        refine g_iadd (pc := 176) dX12_call_176 ?_
        refine g_aload_n (pc := 177) dX12_call_177 2 rfl ?_
        refine g_geti (pc := 178) cl12 (Nat.le_of_ble_eq_true rfl) fk1619 (fun _ _ _ => rfl) dX12_call_178 (fun x10 => ?_)
        refine g_aload_n (pc := 181) dX12_call_181 2 rfl ?_
        refine g_getr (pc := 182) cl12 (Nat.le_of_ble_eq_true rfl) fk1574 (fun _ _ _ => rfl) dX12_call_182 (fun x11 => ?_)
        refine g_iload_n (pc := 185) dX12_call_185 3 rfl ?_
        refine g_iald (pc := 186) dX12_call_186 (fun x12 => ?_)
        refine g_join (fun k => ∀ (x13 : Int32) (h7 : aH), J_X12_call l E n0 m0 195 [(0, .ref (e_z E + x1)), (1, .int x2), (2, .int x7), (3, .int x8)] [.int x13, .int (x8 + (1 : Int32)), .ref (e_z E + x9)] h7 (k x13 h7)) (fun x13 h7 => ?_) (fun k195 hk195 => ?_)
        · refine g_iast (pc := 195) dX12_call_195 (fun h8 => ?_)
          refine g_aload_n (pc := 196) dX12_call_196 0 rfl ?_
          refine g_getr (pc := 197) cl12 (Nat.le_of_ble_eq_true rfl) fk1552 (fun _ _ _ => rfl) dX12_call_197 (fun x14 => ?_)
          refine g_iload_n (pc := 200) dX12_call_200 3 rfl ?_
          refine g_iconst (pc := 201) dX12_call_201 ci_2 ?_
          refine g_iadd (pc := 202) dX12_call_202 ?_
          refine g_aload_n (pc := 203) dX12_call_203 0 rfl ?_
          refine g_geti (pc := 204) cl12 (Nat.le_of_ble_eq_true rfl) fk1614 (fun _ _ _ => rfl) dX12_call_204 (fun x15 => ?_)
          refine g_bRi (pc := 207) (c_S (p_X12_many hl x15 h8) y_X12_many tw2101 dX12_call_207 rfl (st := [.int (x8 + (2 : Int32)), .ref (e_z E + x14)]) rfl (Nat.le_of_ble_eq_true rfl) (Nat.le_of_ble_eq_true rfl) (Nat.le_of_ble_eq_true rfl)) (fun x16 h9 => ?_)
          refine g_iast (pc := 210) dX12_call_210 (fun h10 => ?_)
          refine g_aload_n (pc := 211) dX12_call_211 0 rfl ?_
          refine g_getr (pc := 212) cl12 (Nat.le_of_ble_eq_true rfl) fk1552 (fun _ _ _ => rfl) dX12_call_212 (fun x17 => ?_)
          refine g_iload_n (pc := 215) dX12_call_215 3 rfl ?_
          refine g_iconst (pc := 216) dX12_call_216 ci_3 ?_
          refine g_iadd (pc := 217) dX12_call_217 ?_
          refine g_aload_n (pc := 218) dX12_call_218 0 rfl ?_
          refine g_geti (pc := 219) cl12 (Nat.le_of_ble_eq_true rfl) fk1619 (fun _ _ _ => rfl) dX12_call_219 (fun x18 => ?_)
          refine g_iast (pc := 222) dX12_call_222 (fun h11 => ?_)
          refine g_iconst (pc := 223) dX12_call_223 ci_4 ?_
          refine g_istore (pc := 224) (lv' := [(4, .int (4 : Int32)), (0, .ref (e_z E + x1)), (1, .int x2), (2, .int x7), (3, .int x8)]) dX12_call_224 (Nat.le_of_ble_eq_true rfl) rfl ?_
          refine g_join (fun k => ∀ (h12 : aH), J_X12_call l E n0 m0 249 [(0, .ref (e_z E + x1)), (1, .int x2), (2, .int x7), (3, .int x8)] [] h12 (k h12)) (fun h12 => ?_) (fun k249 hk249 => ?_)
          · refine g_bipush (pc := 249) dX12_call_249 cb_50 ?_
            refine g_aload_n (pc := 251) dX12_call_251 0 rfl ?_
            refine g_geti (pc := 252) cl12 (Nat.le_of_ble_eq_true rfl) fk1619 (fun _ _ _ => rfl) dX12_call_252 (fun x19 => ?_)
            refine g_imul (pc := 255) dX12_call_255 ?_
            refine g_topi (fun x20 => ?_)
            refine g_istore (pc := 256) (lv' := [(4, .int x20), (0, .ref (e_z E + x1)), (1, .int x2), (2, .int x7), (3, .int x8)]) dX12_call_256 (Nat.le_of_ble_eq_true rfl) rfl ?_
            refine g_iconst (pc := 258) dX12_call_258 ci_0 ?_
            refine g_istore (pc := 259) (lv' := [(5, .int (0 : Int32)), (4, .int x20), (0, .ref (e_z E + x1)), (1, .int x2), (2, .int x7), (3, .int x8)]) dX12_call_259 (Nat.le_of_ble_eq_true rfl) rfl ?_
            refine g_iload_n (pc := 261) dX12_call_261 5 rfl ?_
            refine g_iconst (pc := 262) dX12_call_262 ci_4 ?_
            refine g_iadd (pc := 263) dX12_call_263 ?_
            refine g_topi (fun x21 => ?_)
            refine g_istore (pc := 264) (lv' := [(6, .int x21), (5, .int (0 : Int32)), (4, .int x20), (0, .ref (e_z E + x1)), (1, .int x2), (2, .int x7), (3, .int x8)]) dX12_call_264 (Nat.le_of_ble_eq_true rfl) rfl ?_
            refine g_iconst (pc := 266) dX12_call_266 ci_0 ?_
            refine g_istore (pc := 267) (lv' := [(7, .int (0 : Int32)), (6, .int x21), (5, .int (0 : Int32)), (4, .int x20), (0, .ref (e_z E + x1)), (1, .int x2), (2, .int x7), (3, .int x8)]) dX12_call_267 (Nat.le_of_ble_eq_true rfl) rfl ?_
            refine g_join (fun k => ∀ (x22 : Int32) (x23 : Int32) (h13 : aH), J_X12_call l E n0 m0 494 [(0, .ref (e_z E + x1)), (2, .int x7), (3, .int x8), (4, .int x22), (5, .int x23)] [] h13 (k x22 x23 h13)) (fun x22 x23 h13 => ?_) (fun k494 hk494 => ?_)
            · refine g_iconst (pc := 494) dX12_call_494 ci_0 ?_
              refine g_istore (pc := 495) (lv' := [(7, .int (0 : Int32)), (0, .ref (e_z E + x1)), (2, .int x7), (3, .int x8), (4, .int x22), (5, .int x23)]) dX12_call_495 (Nat.le_of_ble_eq_true rfl) rfl ?_
              refine g_join (fun k => ∀ (x24 : Int32) (h14 : aH), J_X12_call l E n0 m0 582 [(0, .ref (e_z E + x1)), (2, .int x7), (3, .int x8), (4, .int x24)] [] h14 (k x24 h14)) (fun x24 h14 => ?_) (fun k582 hk582 => ?_)
              · refine g_aload_n (pc := 582) dX12_call_582 0 rfl ?_
                refine g_getr (pc := 583) cl12 (Nat.le_of_ble_eq_true rfl) fk1552 (fun _ _ _ => rfl) dX12_call_583 (fun x25 => ?_)
                refine g_iload_n (pc := 586) dX12_call_586 2 rfl ?_
                refine g_iconst (pc := 587) dX12_call_587 ci_0 ?_
                refine g_iadd (pc := 588) dX12_call_588 ?_
                refine g_iload (pc := 589) dX12_call_589 3 rfl ?_
                refine g_iast (pc := 591) dX12_call_591 (fun h15 => ?_)
                refine g_aload_n (pc := 592) dX12_call_592 0 rfl ?_
                refine g_getr (pc := 593) cl12 (Nat.le_of_ble_eq_true rfl) fk1552 (fun _ _ _ => rfl) dX12_call_593 (fun x26 => ?_)
                refine g_iconst (pc := 596) dX12_call_596 ci_1 ?_
                refine g_dup2 (pc := 597) rfl rfl dX12_call_597 ?_
                refine g_iald (pc := 598) dX12_call_598 (fun x27 => ?_)
                refine g_iconst (pc := 599) dX12_call_599 ci_1 ?_
                refine g_iadd (pc := 600) dX12_call_600 ?_
                refine g_iast (pc := 601) dX12_call_601 (fun h16 => ?_)
                refine g_iload_n (pc := 602) dX12_call_602 1 rfl ?_
                exact g_ret (pc := 603) rfl (isRet_i _) dX12_call_603 rfl
              refine g_lv [1, 2, 3, 4, 5, 0] rfl ?_
              refine g_loop2 (F := (m_X12_call_L497 x1 x23 k582)) (fun x28 x29 => [(0, .ref (e_z E + x1)), (2, .int x7), (3, .int x8), (4, .int x28), (5, .int x23), (7, .int x29)]) (fun r497 hr497 x28 x29 h17 => ?_) _ _ _ _
              unfold m_X12_call_L497
              refine g_iload (pc := 497) dX12_call_497 5 rfl ?_
              refine g_aload_n (pc := 499) dX12_call_499 0 rfl ?_
              refine g_geti (pc := 500) cl12 (Nat.le_of_ble_eq_true rfl) fk1559 (fun _ _ _ => rfl) dX12_call_500 (fun x30 => ?_)
              refine g_icmpge (pc := 503) (tgt := 582) dX12_call_503 rfl ?_ ?_
              · refine g_aload_n (pc := 506) dX12_call_506 0 rfl ?_
                refine g_geti (pc := 507) cl12 (Nat.le_of_ble_eq_true rfl) fk1614 (fun _ _ _ => rfl) dX12_call_507 (fun x31 => ?_)
                refine g_iload (pc := 510) dX12_call_510 5 rfl ?_
                refine g_ishr (pc := 512) dX12_call_512 ?_
                refine g_iconst (pc := 513) dX12_call_513 ci_1 ?_
                refine g_iand (pc := 514) dX12_call_514 ?_
                refine g_join (fun k => ∀ (x32 : Int32) (h18 : aH), J_X12_call l E n0 m0 533 [(0, .ref (e_z E + x1)), (2, .int x7), (3, .int x8), (4, .int x28), (5, .int x23), (7, .int x29)] [.int x32] h18 (k x32 h18)) (fun x32 h18 => ?_) (fun k533 hk533 => ?_)
                · refine g_istore (pc := 533) (lv' := [(8, .int x32), (0, .ref (e_z E + x1)), (2, .int x7), (3, .int x8), (4, .int x28), (5, .int x23), (7, .int x29)]) dX12_call_533 (Nat.le_of_ble_eq_true rfl) rfl ?_
                  refine g_iload (pc := 535) dX12_call_535 4 rfl ?_
                  refine g_iload (pc := 537) dX12_call_537 0 rfl ?_
                  refine g_join (fun k => ∀ (x33 : Int32) (h19 : aH), J_X12_call l E n0 m0 573 [(0, .ref (e_z E + x1)), (2, .int x7), (3, .int x8), (5, .int x23), (7, .int x29)] [.int x33, .int x28] h19 (k x33 h19)) (fun x33 h19 => ?_) (fun k573 hk573 => ?_)
                  · refine g_iadd (pc := 573) dX12_call_573 ?_
                    refine g_topi (fun x34 => ?_)
                    refine g_istore (pc := 574) (lv' := [(4, .int x34), (0, .ref (e_z E + x1)), (2, .int x7), (3, .int x8), (5, .int x23), (7, .int x29)]) dX12_call_574 (Nat.le_of_ble_eq_true rfl) rfl ?_
                    refine g_iincN (pc := 576) dX12_call_576 5 rfl ci_1 (Nat.le_of_ble_eq_true rfl) (fun x35 => ?_)
                    refine g_lvr (lv' := [(7, .int x35), (4, .int x34), (0, .ref (e_z E + x1)), (2, .int x7), (3, .int x8), (5, .int x23)]) rfl ?_
                    refine g_goto (pc := 579) (tgt := 497) dX12_call_579 rfl ?_
                    refine g_lv [2, 3, 4, 1, 5, 0] rfl ?_
                    exact hr497 x34 x35 h19
                  refine g_ifeq (pc := 539) (tgt := 572) dX12_call_539 rfl ?_ ?_
                  · refine g_iconst (pc := 572) dX12_call_572 ci_0 ?_
                    refine g_lv [1, 2, 3, 5, 6] rfl ?_
                    exact hk573 (0 : Int32) h18
                  · refine g_aload_n (pc := 542) dX12_call_542 1 rfl ?_
                    refine g_iload (pc := 543) dX12_call_543 6 rfl ?_
                    refine g_aload_n (pc := 545) dX12_call_545 1 rfl ?_
                    refine g_getr (pc := 546) cl12 (Nat.le_of_ble_eq_true rfl) fk1552 (fun _ _ _ => rfl) dX12_call_546 (fun x36 => ?_)
                    refine g_iconst (pc := 549) dX12_call_549 ci_0 ?_
                    refine g_iald (pc := 550) dX12_call_550 (fun x37 => ?_)
                    refine g_aload_n (pc := 551) dX12_call_551 1 rfl ?_
                    refine g_iload (pc := 552) dX12_call_552 6 rfl ?_
                    refine g_gS (fun hs => ?_)
                    refine g_bRi (pc := 554) (c_V cl12 hs (p_X12_arrivalOf hl x1 x29 h18) y_X12_arrivalOf tw1972 dX12_call_554 rfl (st := [.int x37, .int x29, .ref (e_z E + x1), .int x28]) rfl (Nat.le_of_ble_eq_true rfl) (Nat.le_of_ble_eq_true rfl) (Nat.le_of_ble_eq_true rfl)) (fun x38 h20 => ?_)
                    refine g_iadd (pc := 557) dX12_call_557 ?_
                    refine g_aload_n (pc := 558) dX12_call_558 1 rfl ?_
                    refine g_getr (pc := 559) cl12 (Nat.le_of_ble_eq_true rfl) fk1564 (fun _ _ _ => rfl) dX12_call_559 (fun x39 => ?_)
                    refine g_iload (pc := 562) dX12_call_562 6 rfl ?_
                    refine g_iald (pc := 564) dX12_call_564 (fun x40 => ?_)
                    refine g_iadd (pc := 565) dX12_call_565 ?_
                    refine g_gS (fun hs => ?_)
                    refine g_bRi (pc := 566) (c_V cl12 hs (p_X12_sends hl x1 x29 ((x37 + x38) + x40) h20) y_X12_sends tw2220 dX12_call_566 rfl (st := [.int x28]) rfl (Nat.le_of_ble_eq_true rfl) (Nat.le_of_ble_eq_true rfl) (Nat.le_of_ble_eq_true rfl)) (fun x41 h21 => ?_)
                    refine g_goto (pc := 569) (tgt := 573) dX12_call_569 rfl ?_
                    refine g_lv [1, 2, 3, 5, 6] rfl ?_
                    exact hk573 x41 h21
                refine g_join (fun k => ∀ (h22 : aH), J_X12_call l E n0 m0 532 [(0, .ref (e_z E + x1)), (2, .int x7), (3, .int x8), (4, .int x28), (5, .int x23), (7, .int x29)] [] h22 (k h22)) (fun h22 => ?_) (fun k532 hk532 => ?_)
                · refine g_iconst (pc := 532) dX12_call_532 ci_0 ?_
                  exact hk533 (0 : Int32) h22
                refine g_ifeq (pc := 515) (tgt := 532) dX12_call_515 rfl ?_ ?_
                · exact hk532 h17
                · refine g_iload (pc := 518) dX12_call_518 4 rfl ?_
                  refine g_iload (pc := 520) dX12_call_520 5 rfl ?_
                  refine g_ishr (pc := 522) dX12_call_522 ?_
                  refine g_iconst (pc := 523) dX12_call_523 ci_1 ?_
                  refine g_iand (pc := 524) dX12_call_524 ?_
                  refine g_ifne (pc := 525) (tgt := 532) dX12_call_525 rfl ?_ ?_
                  · refine g_iconst (pc := 528) dX12_call_528 ci_1 ?_
                    refine g_goto (pc := 529) (tgt := 533) dX12_call_529 rfl ?_
                    exact hk533 (1 : Int32) h17
                  · exact hk532 h17
              · refine g_lv [0, 1, 2, 3] rfl ?_
                exact hk582 x28 h17
            refine g_lv [4, 5, 6, 7, 3, 2, 1, 0] rfl ?_
            refine g_loop4 (F := (m_X12_call_L269 x1 x2 k494)) (fun x42 x43 x44 x45 => [(0, .ref (e_z E + x1)), (1, .int x2), (2, .int x7), (3, .int x8), (4, .int x42), (5, .int x43), (6, .int x44), (7, .int x45)]) (fun r269 hr269 x42 x43 x44 x45 h23 => ?_) _ _ _ _ _ _
            unfold m_X12_call_L269
            refine g_iload (pc := 269) dX12_call_269 7 rfl ?_
            refine g_aload_n (pc := 271) dX12_call_271 0 rfl ?_
            refine g_getr (pc := 272) cl12 (Nat.le_of_ble_eq_true rfl) fk1577 (fun _ _ _ => rfl) dX12_call_272 (fun x46 => ?_)
            refine g_iload_n (pc := 275) dX12_call_275 1 rfl ?_
            refine g_iald (pc := 276) dX12_call_276 (fun x47 => ?_)
            refine g_icmpge (pc := 277) (tgt := 494) dX12_call_277 rfl ?_ ?_
            · refine g_aload_n (pc := 280) dX12_call_280 0 rfl ?_
              refine g_getr (pc := 281) cl12 (Nat.le_of_ble_eq_true rfl) fk1615 (fun _ _ _ => rfl) dX12_call_281 (fun x48 => ?_)
              refine g_iload (pc := 284) dX12_call_284 7 rfl ?_
              refine g_iald (pc := 286) dX12_call_286 (fun x49 => ?_)
              refine g_join (fun k => ∀ (x50 : Int32) (x51 : Int32) (x52 : Int32) (h24 : aH), J_X12_call l E n0 m0 488 [(0, .ref (e_z E + x1)), (1, .int x2), (2, .int x7), (3, .int x8), (4, .int x50), (5, .int x51), (6, .int x52), (7, .int x45)] [] h24 (k x50 x51 x52 h24)) (fun x50 x51 x52 h24 => ?_) (fun k488 hk488 => ?_)
              · refine g_iincN (pc := 488) dX12_call_488 7 rfl ci_1 (Nat.le_of_ble_eq_true rfl) (fun x53 => ?_)
                refine g_lvr (lv' := [(7, .int x53), (0, .ref (e_z E + x1)), (1, .int x2), (2, .int x7), (3, .int x8), (4, .int x50), (5, .int x51), (6, .int x52)]) rfl ?_
                refine g_goto (pc := 491) (tgt := 269) dX12_call_491 rfl ?_
                refine g_lv [1, 2, 3, 4, 5, 6, 7, 0] rfl ?_
                exact hr269 x50 x51 x52 x53 h24
              refine g_ifeq (pc := 287) (tgt := 488) dX12_call_287 rfl ?_ ?_
              · exact hk488 x42 x43 x44 h23
              · refine g_aload_n (pc := 290) dX12_call_290 0 rfl ?_
                refine g_getr (pc := 291) cl12 (Nat.le_of_ble_eq_true rfl) fk1578 (fun _ _ _ => rfl) dX12_call_291 (fun x54 => ?_)
                refine g_iconst (pc := 294) dX12_call_294 ci_5 ?_
                refine g_iload_n (pc := 295) dX12_call_295 1 rfl ?_
                refine g_imul (pc := 296) dX12_call_296 ?_
                refine g_iload (pc := 297) dX12_call_297 7 rfl ?_
                refine g_iadd (pc := 299) dX12_call_299 ?_
                refine g_iald (pc := 300) dX12_call_300 (fun x55 => ?_)
                refine g_istore (pc := 301) (lv' := [(8, .int x55), (0, .ref (e_z E + x1)), (1, .int x2), (2, .int x7), (3, .int x8), (4, .int x42), (5, .int x43), (6, .int x44), (7, .int x45)]) dX12_call_301 (Nat.le_of_ble_eq_true rfl) rfl ?_
                refine g_aload_n (pc := 303) dX12_call_303 1 rfl ?_
                refine g_getr (pc := 304) cl12 (Nat.le_of_ble_eq_true rfl) fk1552 (fun _ _ _ => rfl) dX12_call_304 (fun x56 => ?_)
                refine g_iconst (pc := 307) dX12_call_307 ci_0 ?_
                refine g_iald (pc := 308) dX12_call_308 (fun x57 => ?_)
                refine g_aload_n (pc := 309) dX12_call_309 1 rfl ?_
                refine g_getr (pc := 310) cl12 (Nat.le_of_ble_eq_true rfl) fk1618 (fun _ _ _ => rfl) dX12_call_310 (fun x58 => ?_)
                refine g_iload (pc := 313) dX12_call_313 8 rfl ?_
                refine g_iald (pc := 315) dX12_call_315 (fun x59 => ?_)
                refine g_iadd (pc := 316) dX12_call_316 ?_
                refine g_iconst (pc := 317) dX12_call_317 ci_2 ?_
                refine g_aload_n (pc := 318) dX12_call_318 1 rfl ?_
                refine g_getr (pc := 319) cl12 (Nat.le_of_ble_eq_true rfl) fk1569 (fun _ _ _ => rfl) dX12_call_319 (fun x60 => ?_)
                refine g_iload (pc := 322) dX12_call_322 0 rfl ?_
                refine g_iald (pc := 324) dX12_call_324 (fun x61 => ?_)
                refine g_imul (pc := 325) dX12_call_325 ?_
                refine g_iadd (pc := 326) dX12_call_326 ?_
                refine g_aload_n (pc := 327) dX12_call_327 1 rfl ?_
                refine g_getr (pc := 328) cl12 (Nat.le_of_ble_eq_true rfl) fk1572 (fun _ _ _ => rfl) dX12_call_328 (fun x62 => ?_)
                refine g_iload_n (pc := 331) dX12_call_331 2 rfl ?_
                refine g_iald (pc := 332) dX12_call_332 (fun x63 => ?_)
                refine g_iadd (pc := 333) dX12_call_333 ?_
                refine g_topi (fun x64 => ?_)
                refine g_istore (pc := 334) (lv' := [(9, .int x64), (8, .int x55), (0, .ref (e_z E + x1)), (1, .int x2), (2, .int x7), (3, .int x8), (4, .int x42), (5, .int x43), (6, .int x44), (7, .int x45)]) dX12_call_334 (Nat.le_of_ble_eq_true rfl) rfl ?_
                refine g_aload_n (pc := 336) dX12_call_336 2 rfl ?_
                refine g_getr (pc := 337) cl12 (Nat.le_of_ble_eq_true rfl) fk1552 (fun _ _ _ => rfl) dX12_call_337 (fun x65 => ?_)
                refine g_iload (pc := 340) dX12_call_340 8 rfl ?_
                refine g_iload (pc := 342) dX12_call_342 1 rfl ?_
                refine g_iast (pc := 344) dX12_call_344 (fun h25 => ?_)
                refine g_aload_n (pc := 345) dX12_call_345 2 rfl ?_
                refine g_getr (pc := 346) cl12 (Nat.le_of_ble_eq_true rfl) fk1552 (fun _ _ _ => rfl) dX12_call_346 (fun x66 => ?_)
                refine g_iload (pc := 349) dX12_call_349 8 rfl ?_
                refine g_iconst (pc := 351) dX12_call_351 ci_1 ?_
                refine g_iadd (pc := 352) dX12_call_352 ?_
                refine g_aload_n (pc := 353) dX12_call_353 2 rfl ?_
                refine g_getr (pc := 354) cl12 (Nat.le_of_ble_eq_true rfl) fk1552 (fun _ _ _ => rfl) dX12_call_354 (fun x67 => ?_)
                refine g_iconst (pc := 357) dX12_call_357 ci_0 ?_
                refine g_iald (pc := 358) dX12_call_358 (fun x68 => ?_)
                refine g_aload_n (pc := 359) dX12_call_359 2 rfl ?_
                refine g_getr (pc := 360) cl12 (Nat.le_of_ble_eq_true rfl) fk1618 (fun _ _ _ => rfl) dX12_call_360 (fun x69 => ?_)
                refine g_iload (pc := 363) dX12_call_363 9 rfl ?_
                refine g_iald (pc := 365) dX12_call_365 (fun x70 => ?_)
                refine g_iadd (pc := 366) dX12_call_366 ?_
                refine g_iast (pc := 367) dX12_call_367 (fun h26 => ?_)
                refine g_aload_n (pc := 368) dX12_call_368 2 rfl ?_
                refine g_getr (pc := 369) cl12 (Nat.le_of_ble_eq_true rfl) fk1552 (fun _ _ _ => rfl) dX12_call_369 (fun x71 => ?_)
                refine g_iload (pc := 372) dX12_call_372 8 rfl ?_
                refine g_iconst (pc := 374) dX12_call_374 ci_2 ?_
                refine g_iadd (pc := 375) dX12_call_375 ?_
                refine g_aload_n (pc := 376) dX12_call_376 2 rfl ?_
                refine g_getr (pc := 377) cl12 (Nat.le_of_ble_eq_true rfl) fk1615 (fun _ _ _ => rfl) dX12_call_377 (fun x72 => ?_)
                refine g_iload (pc := 380) dX12_call_380 9 rfl ?_
                refine g_iald (pc := 382) dX12_call_382 (fun x73 => ?_)
                refine g_iast (pc := 383) dX12_call_383 (fun h27 => ?_)
                refine g_iincN (pc := 384) dX12_call_384 8 rfl ci_3 (Nat.le_of_ble_eq_true rfl) (fun x74 => ?_)
                refine g_lvr (lv' := [(6, .int x74), (9, .int x64), (8, .int x55), (0, .ref (e_z E + x1)), (1, .int x2), (2, .int x7), (3, .int x8), (4, .int x42), (5, .int x43), (7, .int x45)]) rfl ?_
                refine g_iload (pc := 387) dX12_call_387 8 rfl ?_
                refine g_aload_n (pc := 389) dX12_call_389 3 rfl ?_
                refine g_getr (pc := 390) cl12 (Nat.le_of_ble_eq_true rfl) fk1615 (fun _ _ _ => rfl) dX12_call_390 (fun x75 => ?_)
                refine g_iload (pc := 393) dX12_call_393 9 rfl ?_
                refine g_iald (pc := 395) dX12_call_395 (fun x76 => ?_)
                refine g_ior (pc := 396) dX12_call_396 ?_
                refine g_topi (fun x77 => ?_)
                refine g_istore (pc := 397) (lv' := [(5, .int x77), (6, .int x74), (9, .int x64), (8, .int x55), (0, .ref (e_z E + x1)), (1, .int x2), (2, .int x7), (3, .int x8), (4, .int x42), (7, .int x45)]) dX12_call_397 (Nat.le_of_ble_eq_true rfl) rfl ?_
                refine g_aload_n (pc := 399) dX12_call_399 4 rfl ?_
                refine g_getr (pc := 400) cl12 (Nat.le_of_ble_eq_true rfl) fk1552 (fun _ _ _ => rfl) dX12_call_400 (fun x78 => ?_)
                refine g_sipush (pc := 403) dX12_call_403 cs_284 ?_
                refine g_iconst (pc := 406) dX12_call_406 ci_3 ?_
                refine g_iload (pc := 407) dX12_call_407 3 rfl ?_
                refine g_imul (pc := 409) dX12_call_409 ?_
                refine g_iadd (pc := 410) dX12_call_410 ?_
                refine g_iconst (pc := 411) dX12_call_411 ci_0 ?_
                refine g_iadd (pc := 412) dX12_call_412 ?_
                refine g_iload (pc := 413) dX12_call_413 2 rfl ?_
                refine g_iast (pc := 415) dX12_call_415 (fun h28 => ?_)
                refine g_aload_n (pc := 416) dX12_call_416 4 rfl ?_
                refine g_getr (pc := 417) cl12 (Nat.le_of_ble_eq_true rfl) fk1552 (fun _ _ _ => rfl) dX12_call_417 (fun x79 => ?_)
                refine g_sipush (pc := 420) dX12_call_420 cs_284 ?_
                refine g_iconst (pc := 423) dX12_call_423 ci_3 ?_
                refine g_iload (pc := 424) dX12_call_424 3 rfl ?_
                refine g_imul (pc := 426) dX12_call_426 ?_
                refine g_iadd (pc := 427) dX12_call_427 ?_
                refine g_iconst (pc := 428) dX12_call_428 ci_2 ?_
                refine g_iadd (pc := 429) dX12_call_429 ?_
                refine g_aload_n (pc := 430) dX12_call_430 4 rfl ?_
                refine g_getr (pc := 431) cl12 (Nat.le_of_ble_eq_true rfl) fk1615 (fun _ _ _ => rfl) dX12_call_431 (fun x80 => ?_)
                refine g_iload (pc := 434) dX12_call_434 9 rfl ?_
                refine g_iald (pc := 436) dX12_call_436 (fun x81 => ?_)
                refine g_iast (pc := 437) dX12_call_437 (fun h29 => ?_)
                refine g_iconst (pc := 438) dX12_call_438 ci_0 ?_
                refine g_istore (pc := 439) (lv' := [(10, .int (0 : Int32)), (5, .int x77), (6, .int x74), (9, .int x64), (8, .int x55), (0, .ref (e_z E + x1)), (1, .int x2), (2, .int x7), (3, .int x8), (4, .int x42), (7, .int x45)]) dX12_call_439 (Nat.le_of_ble_eq_true rfl) rfl ?_
                refine g_lv [5, 6, 7, 8, 9, 1, 2, 10, 3, 0] rfl ?_
                refine g_loop2 (F := (m_X12_call_L441 x1 x45 k488 x64 x74 x77)) (fun x82 x83 => [(0, .ref (e_z E + x1)), (1, .int x2), (2, .int x7), (3, .int x8), (4, .int x82), (5, .int x77), (6, .int x74), (7, .int x45), (9, .int x64), (10, .int x83)]) (fun r441 hr441 x82 x83 h30 => ?_) _ _ _ _
                unfold m_X12_call_L441
                refine g_iload (pc := 441) dX12_call_441 9 rfl ?_
                refine g_aload_n (pc := 443) dX12_call_443 0 rfl ?_
                refine g_geti (pc := 444) cl12 (Nat.le_of_ble_eq_true rfl) fk1559 (fun _ _ _ => rfl) dX12_call_444 (fun x84 => ?_)
                refine g_icmpge (pc := 447) (tgt := 488) dX12_call_447 rfl ?_ ?_
                · refine g_iload (pc := 450) dX12_call_450 4 rfl ?_
                  refine g_aload_n (pc := 452) dX12_call_452 0 rfl ?_
                  refine g_getr (pc := 453) cl12 (Nat.le_of_ble_eq_true rfl) fk1615 (fun _ _ _ => rfl) dX12_call_453 (fun x85 => ?_)
                  refine g_iload (pc := 456) dX12_call_456 7 rfl ?_
                  refine g_iald (pc := 458) dX12_call_458 (fun x86 => ?_)
                  refine g_iload (pc := 459) dX12_call_459 9 rfl ?_
                  refine g_ishr (pc := 461) dX12_call_461 ?_
                  refine g_iconst (pc := 462) dX12_call_462 ci_1 ?_
                  refine g_iand (pc := 463) dX12_call_463 ?_
                  refine g_join (fun k => ∀ (x87 : Int32) (h31 : aH), J_X12_call l E n0 m0 479 [(0, .ref (e_z E + x1)), (1, .int x2), (2, .int x7), (3, .int x8), (5, .int x77), (6, .int x74), (7, .int x45), (9, .int x64), (10, .int x83)] [.int x87, .int x82] h31 (k x87 h31)) (fun x87 h31 => ?_) (fun k479 hk479 => ?_)
                  · refine g_iadd (pc := 479) dX12_call_479 ?_
                    refine g_topi (fun x88 => ?_)
                    refine g_istore (pc := 480) (lv' := [(4, .int x88), (0, .ref (e_z E + x1)), (1, .int x2), (2, .int x7), (3, .int x8), (5, .int x77), (6, .int x74), (7, .int x45), (9, .int x64), (10, .int x83)]) dX12_call_480 (Nat.le_of_ble_eq_true rfl) rfl ?_
                    refine g_iincN (pc := 482) dX12_call_482 9 rfl ci_1 (Nat.le_of_ble_eq_true rfl) (fun x89 => ?_)
                    refine g_lvr (lv' := [(10, .int x89), (4, .int x88), (0, .ref (e_z E + x1)), (1, .int x2), (2, .int x7), (3, .int x8), (5, .int x77), (6, .int x74), (7, .int x45), (9, .int x64)]) rfl ?_
                    refine g_goto (pc := 485) (tgt := 441) dX12_call_485 rfl ?_
                    refine g_lv [2, 3, 4, 5, 1, 6, 7, 8, 9, 0] rfl ?_
                    exact hr441 x88 x89 h31
                  refine g_ifeq (pc := 464) (tgt := 478) dX12_call_464 rfl ?_ ?_
                  · refine g_iconst (pc := 478) dX12_call_478 ci_0 ?_
                    refine g_lv [0, 1, 2, 3, 5, 6, 7, 8, 9] rfl ?_
                    exact hk479 (0 : Int32) h30
                  · refine g_aload_n (pc := 467) dX12_call_467 0 rfl ?_
                    refine g_iload (pc := 468) dX12_call_468 9 rfl ?_
                    refine g_iload (pc := 470) dX12_call_470 8 rfl ?_
                    refine g_gS (fun hs => ?_)
                    refine g_bRi (pc := 472) (c_V cl12 hs (p_X12_sends hl x1 x83 x64 h30) y_X12_sends tw2220 dX12_call_472 rfl (st := [.int x82]) rfl (Nat.le_of_ble_eq_true rfl) (Nat.le_of_ble_eq_true rfl) (Nat.le_of_ble_eq_true rfl)) (fun x90 h32 => ?_)
                    refine g_goto (pc := 475) (tgt := 479) dX12_call_475 rfl ?_
                    refine g_lv [0, 1, 2, 3, 5, 6, 7, 8, 9] rfl ?_
                    exact hk479 x90 h32
                · refine g_lv [0, 1, 2, 3, 4, 5, 6, 7] rfl ?_
                  exact hk488 x82 x77 x74 h30
            · refine g_lv [0, 2, 3, 4, 5] rfl ?_
              exact hk494 x42 x43 h23
          refine g_lv [1, 2, 3, 4, 0] rfl ?_
          refine g_loop1 (F := (m_X12_call_L226 x1 x8 k249)) (fun x91 => [(0, .ref (e_z E + x1)), (1, .int x2), (2, .int x7), (3, .int x8), (4, .int x91)]) (fun r226 hr226 x91 h33 => ?_) _ _ _
          unfold m_X12_call_L226
          refine g_iload (pc := 226) dX12_call_226 4 rfl ?_
          refine g_bipush (pc := 228) dX12_call_228 cb_19 ?_
          refine g_icmpge (pc := 230) (tgt := 249) dX12_call_230 rfl ?_ ?_
          · refine g_aload_n (pc := 233) dX12_call_233 0 rfl ?_
            refine g_getr (pc := 234) cl12 (Nat.le_of_ble_eq_true rfl) fk1552 (fun _ _ _ => rfl) dX12_call_234 (fun x92 => ?_)
            refine g_iload_n (pc := 237) dX12_call_237 3 rfl ?_
            refine g_iload (pc := 238) dX12_call_238 4 rfl ?_
            refine g_iadd (pc := 240) dX12_call_240 ?_
            refine g_iconst (pc := 241) dX12_call_241 ci_0 ?_
            refine g_iast (pc := 242) dX12_call_242 (fun h34 => ?_)
            refine g_iincN (pc := 243) dX12_call_243 4 rfl ci_1 (Nat.le_of_ble_eq_true rfl) (fun x93 => ?_)
            refine g_lvr (lv' := [(4, .int x93), (0, .ref (e_z E + x1)), (1, .int x2), (2, .int x7), (3, .int x8)]) rfl ?_
            refine g_goto (pc := 246) (tgt := 226) dX12_call_246 rfl ?_
            refine g_lv [1, 2, 3, 4, 0] rfl ?_
            exact hr226 x93 h34
          · refine g_lv [0, 1, 2, 3] rfl ?_
            exact hk249 h33
        refine g_icmplt (pc := 187) (tgt := 194) dX12_call_187 rfl ?_ ?_
        · refine g_iconst (pc := 194) dX12_call_194 ci_0 ?_
          refine g_lv [2, 3, 1, 0] rfl ?_
          exact hk195 (0 : Int32) h6
        · refine g_iconst (pc := 190) dX12_call_190 ci_1 ?_
          refine g_goto (pc := 191) (tgt := 195) dX12_call_191 rfl ?_
          refine g_lv [2, 3, 1, 0] rfl ?_
          exact hk195 (1 : Int32) h6
      refine g_lv [1, 2, 0] rfl ?_
      refine g_loop1 (F := (m_X12_call_L52 x1 x2 k154)) (fun x94 => [(0, .ref (e_z E + x1)), (1, .int x2), (2, .int x94)]) (fun r52 hr52 x94 h35 => ?_) _ _ _
      unfold m_X12_call_L52
      refine g_iload_n (pc := 52) dX12_call_52 2 rfl ?_
      refine g_aload_n (pc := 53) dX12_call_53 0 rfl ?_
      refine g_getr (pc := 54) cl12 (Nat.le_of_ble_eq_true rfl) fk1575 (fun _ _ _ => rfl) dX12_call_54 (fun x95 => ?_)
      refine g_iload_n (pc := 57) dX12_call_57 1 rfl ?_
      refine g_iald (pc := 58) dX12_call_58 (fun x96 => ?_)
      refine g_icmpge (pc := 59) (tgt := 154) dX12_call_59 rfl ?_ ?_
      · refine g_aload_n (pc := 62) dX12_call_62 0 rfl ?_
        refine g_getr (pc := 63) cl12 (Nat.le_of_ble_eq_true rfl) fk1576 (fun _ _ _ => rfl) dX12_call_63 (fun x97 => ?_)
        refine g_bipush (pc := 66) dX12_call_66 cb_6 ?_
        refine g_iload_n (pc := 68) dX12_call_68 1 rfl ?_
        refine g_imul (pc := 69) dX12_call_69 ?_
        refine g_iload_n (pc := 70) dX12_call_70 2 rfl ?_
        refine g_iadd (pc := 71) dX12_call_71 ?_
        refine g_iald (pc := 72) dX12_call_72 (fun x98 => ?_)
        refine g_istore_n (pc := 73) (lv' := [(3, .int x98), (0, .ref (e_z E + x1)), (1, .int x2), (2, .int x94)]) dX12_call_73 (Nat.le_of_ble_eq_true rfl) rfl ?_
        refine g_aload_n (pc := 74) dX12_call_74 1 rfl ?_
        refine g_iload_n (pc := 75) dX12_call_75 0 rfl ?_
        refine g_gS (fun hs => ?_)
        refine g_bRi (pc := 76) (c_V cl12 hs (p_X12_hands hl x1 x98 h35) y_X12_hands tw2000 dX12_call_76 rfl (st := []) rfl (Nat.le_of_ble_eq_true rfl) (Nat.le_of_ble_eq_true rfl) (Nat.le_of_ble_eq_true rfl)) (fun x99 h36 => ?_)
        refine g_join (fun k => ∀ (h37 : aH), J_X12_call l E n0 m0 148 [(0, .ref (e_z E + x1)), (1, .int x2), (2, .int x94)] [] h37 (k h37)) (fun h37 => ?_) (fun k148 hk148 => ?_)
        · refine g_iincN (pc := 148) dX12_call_148 2 rfl ci_1 (Nat.le_of_ble_eq_true rfl) (fun x100 => ?_)
          refine g_lvr (lv' := [(2, .int x100), (0, .ref (e_z E + x1)), (1, .int x2)]) rfl ?_
          refine g_goto (pc := 151) (tgt := 52) dX12_call_151 rfl ?_
          refine g_lv [1, 2, 0] rfl ?_
          exact hr52 x100 h37
        refine g_ifle (pc := 79) (tgt := 148) dX12_call_79 rfl ?_ ?_
        · refine g_lv [1, 2, 3] rfl ?_
          exact hk148 h36
        · refine g_aload_n (pc := 82) dX12_call_82 1 rfl ?_
          refine g_geti (pc := 83) cl12 (Nat.le_of_ble_eq_true rfl) fk1614 (fun _ _ _ => rfl) dX12_call_83 (fun x101 => ?_)
          refine g_aload_n (pc := 86) dX12_call_86 1 rfl ?_
          refine g_iload_n (pc := 87) dX12_call_87 0 rfl ?_
          refine g_gS (fun hs => ?_)
          refine g_bRi (pc := 88) (c_V cl12 hs (p_X12_holder hl x1 x98 h36) y_X12_holder tw2053 dX12_call_88 rfl (st := [.int x101]) rfl (Nat.le_of_ble_eq_true rfl) (Nat.le_of_ble_eq_true rfl) (Nat.le_of_ble_eq_true rfl)) (fun x102 h38 => ?_)
          refine g_ishr (pc := 91) dX12_call_91 ?_
          refine g_iconst (pc := 92) dX12_call_92 ci_1 ?_
          refine g_iand (pc := 93) dX12_call_93 ?_
          refine g_ifne (pc := 94) (tgt := 148) dX12_call_94 rfl ?_ ?_
          · refine g_bipush (pc := 97) dX12_call_97 cb_50 ?_
            refine g_bipush (pc := 99) dX12_call_99 cb_12 ?_
            refine g_aload_n (pc := 101) dX12_call_101 1 rfl ?_
            refine g_iload_n (pc := 102) dX12_call_102 0 rfl ?_
            refine g_aload_n (pc := 103) dX12_call_103 1 rfl ?_
            refine g_iload_n (pc := 104) dX12_call_104 0 rfl ?_
            refine g_gS (fun hs => ?_)
            refine g_bRi (pc := 105) (c_V cl12 hs (p_X12_hands hl x1 x98 h38) y_X12_hands tw2000 dX12_call_105 rfl (st := [.int x98, .ref (e_z E + x1), .int (12 : Int32), .int (50 : Int32)]) rfl (Nat.le_of_ble_eq_true rfl) (Nat.le_of_ble_eq_true rfl) (Nat.le_of_ble_eq_true rfl)) (fun x103 h39 => ?_)
            refine g_iconst (pc := 108) dX12_call_108 ci_1 ?_
            refine g_isub (pc := 109) dX12_call_109 ?_
            refine g_gS (fun hs => ?_)
            refine g_bRi (pc := 110) (c_V cl12 hs (p_X12_link hl x1 x98 (x103 - (1 : Int32)) h39) y_X12_link tw2004 dX12_call_110 rfl (st := [.int (12 : Int32), .int (50 : Int32)]) rfl (Nat.le_of_ble_eq_true rfl) (Nat.le_of_ble_eq_true rfl) (Nat.le_of_ble_eq_true rfl)) (fun x104 h40 => ?_)
            refine g_imul (pc := 113) dX12_call_113 ?_
            refine g_iadd (pc := 114) dX12_call_114 ?_
            refine g_aload_n (pc := 115) dX12_call_115 1 rfl ?_
            refine g_iload_n (pc := 116) dX12_call_116 0 rfl ?_
            refine g_gS (fun hs => ?_)
            refine g_bRi (pc := 117) (c_V cl12 hs (p_X12_holder hl x1 x98 h40) y_X12_holder tw2053 dX12_call_117 rfl (st := [.int ((50 : Int32) + ((12 : Int32) * x104))]) rfl (Nat.le_of_ble_eq_true rfl) (Nat.le_of_ble_eq_true rfl) (Nat.le_of_ble_eq_true rfl)) (fun x105 h41 => ?_)
            refine g_iadd (pc := 120) dX12_call_120 ?_
            refine g_topi (fun x106 => ?_)
            refine g_istore (pc := 121) (lv' := [(4, .int x106), (3, .int x98), (0, .ref (e_z E + x1)), (1, .int x2), (2, .int x94)]) dX12_call_121 (Nat.le_of_ble_eq_true rfl) rfl ?_
            refine g_aload_n (pc := 123) dX12_call_123 2 rfl ?_
            refine g_getr (pc := 124) cl12 (Nat.le_of_ble_eq_true rfl) fk1552 (fun _ _ _ => rfl) dX12_call_124 (fun x107 => ?_)
            refine g_iload (pc := 127) dX12_call_127 0 rfl ?_
            refine g_dup2 (pc := 129) rfl rfl dX12_call_129 ?_
            refine g_iald (pc := 130) dX12_call_130 (fun x108 => ?_)
            refine g_aload_n (pc := 131) dX12_call_131 2 rfl ?_
            refine g_getr (pc := 132) cl12 (Nat.le_of_ble_eq_true rfl) fk1552 (fun _ _ _ => rfl) dX12_call_132 (fun x109 => ?_)
            refine g_iload (pc := 135) dX12_call_135 0 rfl ?_
            refine g_iald (pc := 137) dX12_call_137 (fun x110 => ?_)
            refine g_join (fun k => ∀ (x111 : Int32) (h42 : aH), J_X12_call l E n0 m0 146 [(0, .ref (e_z E + x1)), (1, .int x2), (2, .int x94)] [.int x111, .int x108, .int x106, .ref (e_z E + x107)] h42 (k x111 h42)) (fun x111 h42 => ?_) (fun k146 hk146 => ?_)
            · refine g_isub (pc := 146) dX12_call_146 ?_
              refine g_iast (pc := 147) dX12_call_147 (fun h43 => ?_)
              exact hk148 h43
            refine g_ifle (pc := 138) (tgt := 145) dX12_call_138 rfl ?_ ?_
            · refine g_iconst (pc := 145) dX12_call_145 ci_0 ?_
              refine g_lv [2, 3, 4] rfl ?_
              exact hk146 (0 : Int32) h41
            · refine g_iconst (pc := 141) dX12_call_141 ci_1 ?_
              refine g_goto (pc := 142) (tgt := 146) dX12_call_142 rfl ?_
              refine g_lv [2, 3, 4] rfl ?_
              exact hk146 (1 : Int32) h41
          · refine g_lv [1, 2, 3] rfl ?_
            exact hk148 h38
      · refine g_lv [0, 1] rfl ?_
        exact hk154 h35
    · refine g_iconst (pc := 39) dX12_call_39 ci_0 ?_
      exact g_ret (pc := 40) rfl (isRet_i _) dX12_call_40 rfl
  refine g_ifne (pc := 6) (tgt := 13) dX12_call_6 rfl ?_ ?_
  · refine g_iconst (pc := 9) dX12_call_9 ci_1 ?_
    refine g_goto (pc := 10) (tgt := 29) dX12_call_10 rfl ?_
    exact hk29 (1 : Int32) h1
  · refine g_aload_n (pc := 13) dX12_call_13 0 rfl ?_
    refine g_getr (pc := 14) cl12 (Nat.le_of_ble_eq_true rfl) fk1552 (fun _ _ _ => rfl) dX12_call_14 (fun x112 => ?_)
    refine g_iconst (pc := 17) dX12_call_17 ci_1 ?_
    refine g_iald (pc := 18) dX12_call_18 (fun x113 => ?_)
    refine g_bipush (pc := 19) dX12_call_19 cb_16 ?_
    refine g_icmpne (pc := 21) (tgt := 28) dX12_call_21 rfl ?_ ?_
    · refine g_iconst (pc := 24) dX12_call_24 ci_2 ?_
      refine g_goto (pc := 25) (tgt := 29) dX12_call_25 rfl ?_
      exact hk29 (2 : Int32) h1
    · refine g_iconst (pc := 28) dX12_call_28 ci_0 ?_
      exact hk29 (0 : Int32) h1
theorem p_X12_call {l : Launch} {E : aE} (hl : l.stackTraces = false) (x1 : Nat) (x2 : Int32) (h0 : aH) : MO (fun (v : Int32) => .inl (some (.int v))) l E yX12_call (.code yX12_call cX12_call 11 (some .int)) 6 135 [.ref (e_z E + x1), .int x2] h0 (m_X12_call x1 x2 h0) := g_met hl (by decide +kernel) (Nat.le_of_ble_eq_true rfl) (b_X12_call hl _ _ x1 x2 h0)
theorem dX12_handOn_0 : decode cX12_handOn 0 = .ok (.aload_n 0, 1) := by decide +kernel
theorem dX12_handOn_1 : decode cX12_handOn 1 = .ok (.aload_n 0, 1) := by decide +kernel
theorem dX12_handOn_2 : decode cX12_handOn 2 = .ok (.iload_n 1, 1) := by decide +kernel
theorem dX12_handOn_3 : decode cX12_handOn 3 = .ok (.invokevirtual 400, 3) := by decide +kernel
theorem dX12_handOn_6 : decode cX12_handOn 6 = .ok (.ifCond .eq 11, 3) := by decide +kernel
theorem dX12_handOn_9 : decode cX12_handOn 9 = .ok (.aload_n 0, 1) := by decide +kernel
theorem dX12_handOn_10 : decode cX12_handOn 10 = .ok (.iload_n 2, 1) := by decide +kernel
theorem dX12_handOn_11 : decode cX12_handOn 11 = .ok (.invokevirtual 353, 3) := by decide +kernel
theorem dX12_handOn_14 : decode cX12_handOn 14 = .ok (.ifCond .ne 7, 3) := by decide +kernel
theorem dX12_handOn_17 : decode cX12_handOn 17 = .ok (.iconst 1, 1) := by decide +kernel
theorem dX12_handOn_18 : decode cX12_handOn 18 = .ok (.goto 18, 3) := by decide +kernel
theorem dX12_handOn_21 : decode cX12_handOn 21 = .ok (.aload_n 0, 1) := by decide +kernel
theorem dX12_handOn_22 : decode cX12_handOn 22 = .ok (.iload_n 1, 1) := by decide +kernel
theorem dX12_handOn_23 : decode cX12_handOn 23 = .ok (.iload_n 2, 1) := by decide +kernel
theorem dX12_handOn_24 : decode cX12_handOn 24 = .ok (.iload_n 3, 1) := by decide +kernel
theorem dX12_handOn_25 : decode cX12_handOn 25 = .ok (.invokevirtual 408, 3) := by decide +kernel
theorem dX12_handOn_28 : decode cX12_handOn 28 = .ok (.ifCond .eq 7, 3) := by decide +kernel
theorem dX12_handOn_31 : decode cX12_handOn 31 = .ok (.iconst 2, 1) := by decide +kernel
theorem dX12_handOn_32 : decode cX12_handOn 32 = .ok (.goto 4, 3) := by decide +kernel
theorem dX12_handOn_35 : decode cX12_handOn 35 = .ok (.iconst 0, 1) := by decide +kernel
theorem dX12_handOn_36 : decode cX12_handOn 36 = .ok (.putfield 166, 3) := by decide +kernel
theorem dX12_handOn_39 : decode cX12_handOn 39 = .ok (.aload_n 0, 1) := by decide +kernel
theorem dX12_handOn_40 : decode cX12_handOn 40 = .ok (.getfield 166, 3) := by decide +kernel
theorem dX12_handOn_43 : decode cX12_handOn 43 = .ok (.ifCond .le 5, 3) := by decide +kernel
theorem dX12_handOn_46 : decode cX12_handOn 46 = .ok (.iconst 0, 1) := by decide +kernel
theorem dX12_handOn_47 : decode cX12_handOn 47 = .ok (.ireturn, 1) := by decide +kernel
theorem dX12_handOn_48 : decode cX12_handOn 48 = .ok (.aload_n 0, 1) := by decide +kernel
theorem dX12_handOn_49 : decode cX12_handOn 49 = .ok (.invokevirtual 476, 3) := by decide +kernel
theorem dX12_handOn_52 : decode cX12_handOn 52 = .ok (.aload_n 0, 1) := by decide +kernel
theorem dX12_handOn_53 : decode cX12_handOn 53 = .ok (.iload_n 1, 1) := by decide +kernel
theorem dX12_handOn_54 : decode cX12_handOn 54 = .ok (.iload_n 2, 1) := by decide +kernel
theorem dX12_handOn_55 : decode cX12_handOn 55 = .ok (.iload_n 3, 1) := by decide +kernel
theorem dX12_handOn_56 : decode cX12_handOn 56 = .ok (.invokevirtual 412, 3) := by decide +kernel
theorem dX12_handOn_59 : decode cX12_handOn 59 = .ok (.aload_n 0, 1) := by decide +kernel
theorem dX12_handOn_60 : decode cX12_handOn 60 = .ok (.iload_n 1, 1) := by decide +kernel
theorem dX12_handOn_61 : decode cX12_handOn 61 = .ok (.invokevirtual 388, 3) := by decide +kernel
theorem dX12_handOn_64 : decode cX12_handOn 64 = .ok (.ireturn, 1) := by decide +kernel
abbrev M_X12_handOn : aM := (yX12_handOn.cls, cX12_handOn, 4, (some .int), [], yX12_handOn.name == "<init>")
abbrev J_X12_handOn (l : Launch) (E : aE) (n0 m0 : Nat) := GG (fun (v : Int32) => .inl (some (.int v))) l E M_X12_handOn 5 114 n0 m0
theorem b_X12_handOn {l : Launch} {E : aE} (hl : l.stackTraces = false) (n0 m0 : Nat) (x1 : Nat) (x2 : Int32) (x3 : Int32) (x4 : Int32) (h0 : aH) : J_X12_handOn l E n0 m0 0 [(0, .ref (e_z E + x1)), (1, .int x2), (2, .int x3), (3, .int x4)] [] h0 (m_X12_handOn x1 x2 x3 x4 h0) := by
  unfold m_X12_handOn
  refine g_aload_n (pc := 0) dX12_handOn_0 0 rfl ?_
  refine g_aload_n (pc := 1) dX12_handOn_1 0 rfl ?_
  refine g_iload_n (pc := 2) dX12_handOn_2 1 rfl ?_
  refine g_gS (fun hs => ?_)
  refine g_bRi (pc := 3) (c_V cl12 hs (p_X12_isPager hl x1 x2 h0) y_X12_isPager tw1996 dX12_handOn_3 rfl (st := [.ref (e_z E + x1)]) rfl (Nat.le_of_ble_eq_true rfl) (Nat.le_of_ble_eq_true rfl) (Nat.le_of_ble_eq_true rfl)) (fun x5 h1 => ?_)
  refine g_join (fun k => ∀ (x6 : Int32) (h2 : aH), J_X12_handOn l E n0 m0 36 [(0, .ref (e_z E + x1)), (1, .int x2), (2, .int x3), (3, .int x4)] [.int x6, .ref (e_z E + x1)] h2 (k x6 h2)) (fun x6 h2 => ?_) (fun k36 hk36 => ?_)
  · refine g_puti (pc := 36) cl12 (Nat.le_of_ble_eq_true rfl) (Or.inl ⟨rfl, fk1551⟩) (fun _ _ _ => rfl) (fun _ => ⟨rfl, rfl⟩) dX12_handOn_36 (fun h3 => ?_)
    refine g_aload_n (pc := 39) dX12_handOn_39 0 rfl ?_
    refine g_geti (pc := 40) cl12 (Nat.le_of_ble_eq_true rfl) fk1551 (fun _ _ _ => rfl) dX12_handOn_40 (fun x7 => ?_)
    refine g_ifle (pc := 43) (tgt := 48) dX12_handOn_43 rfl ?_ ?_
    · refine g_aload_n (pc := 48) dX12_handOn_48 0 rfl ?_
      refine g_gS (fun hs => ?_)
      refine g_bRv (pc := 49) (c_V cl12 hs (p_X12_keeps hl x1 h3) y_X12_keeps tw2216 dX12_handOn_49 rfl (st := []) rfl (Nat.le_of_ble_eq_true rfl) (Nat.le_of_ble_eq_true rfl) (Nat.le_of_ble_eq_true rfl)) (fun _ h4 => ?_)
      refine g_aload_n (pc := 52) dX12_handOn_52 0 rfl ?_
      refine g_iload_n (pc := 53) dX12_handOn_53 1 rfl ?_
      refine g_iload_n (pc := 54) dX12_handOn_54 2 rfl ?_
      refine g_iload_n (pc := 55) dX12_handOn_55 3 rfl ?_
      refine g_gS (fun hs => ?_)
      refine g_bRv (pc := 56) (c_V cl12 hs (p_X12_hands_ hl x1 x2 x3 x4 h4) y_X12_hands_ tw2061 dX12_handOn_56 rfl (st := []) rfl (Nat.le_of_ble_eq_true rfl) (Nat.le_of_ble_eq_true rfl) (Nat.le_of_ble_eq_true rfl)) (fun _ h5 => ?_)
      refine g_aload_n (pc := 59) dX12_handOn_59 0 rfl ?_
      refine g_iload_n (pc := 60) dX12_handOn_60 1 rfl ?_
      refine g_gS (fun hs => ?_)
      refine g_bRi (pc := 61) (c_V cl12 hs (p_X12_hands hl x1 x2 h5) y_X12_hands tw2000 dX12_handOn_61 rfl (st := []) rfl (Nat.le_of_ble_eq_true rfl) (Nat.le_of_ble_eq_true rfl) (Nat.le_of_ble_eq_true rfl)) (fun x8 h6 => ?_)
      exact g_ret (pc := 64) rfl (isRet_i _) dX12_handOn_64 rfl
    · refine g_iconst (pc := 46) dX12_handOn_46 ci_0 ?_
      exact g_ret (pc := 47) rfl (isRet_i _) dX12_handOn_47 rfl
  refine g_join (fun k => ∀ (h7 : aH), J_X12_handOn l E n0 m0 17 [(0, .ref (e_z E + x1)), (1, .int x2), (2, .int x3), (3, .int x4)] [.ref (e_z E + x1)] h7 (k h7)) (fun h7 => ?_) (fun k17 hk17 => ?_)
  · refine g_iconst (pc := 17) dX12_handOn_17 ci_1 ?_
    refine g_goto (pc := 18) (tgt := 36) dX12_handOn_18 rfl ?_
    exact hk36 (1 : Int32) h7
  refine g_ifeq (pc := 6) (tgt := 17) dX12_handOn_6 rfl ?_ ?_
  · exact hk17 h1
  · refine g_aload_n (pc := 9) dX12_handOn_9 0 rfl ?_
    refine g_iload_n (pc := 10) dX12_handOn_10 2 rfl ?_
    refine g_gS (fun hs => ?_)
    refine g_bRi (pc := 11) (c_V cl12 hs (p_X12_isPerson hl x1 x3 h1) y_X12_isPerson tw1927 dX12_handOn_11 rfl (st := [.ref (e_z E + x1)]) rfl (Nat.le_of_ble_eq_true rfl) (Nat.le_of_ble_eq_true rfl) (Nat.le_of_ble_eq_true rfl)) (fun x9 h8 => ?_)
    refine g_ifne (pc := 14) (tgt := 21) dX12_handOn_14 rfl ?_ ?_
    · exact hk17 h8
    · refine g_aload_n (pc := 21) dX12_handOn_21 0 rfl ?_
      refine g_iload_n (pc := 22) dX12_handOn_22 1 rfl ?_
      refine g_iload_n (pc := 23) dX12_handOn_23 2 rfl ?_
      refine g_iload_n (pc := 24) dX12_handOn_24 3 rfl ?_
      refine g_gS (fun hs => ?_)
      refine g_bRi (pc := 25) (c_V cl12 hs (p_X12_against hl x1 x2 x3 x4 h8) y_X12_against tw2049 dX12_handOn_25 rfl (st := [.ref (e_z E + x1)]) rfl (Nat.le_of_ble_eq_true rfl) (Nat.le_of_ble_eq_true rfl) (Nat.le_of_ble_eq_true rfl)) (fun x10 h9 => ?_)
      refine g_ifeq (pc := 28) (tgt := 35) dX12_handOn_28 rfl ?_ ?_
      · refine g_iconst (pc := 35) dX12_handOn_35 ci_0 ?_
        exact hk36 (0 : Int32) h9
      · refine g_iconst (pc := 31) dX12_handOn_31 ci_2 ?_
        refine g_goto (pc := 32) (tgt := 36) dX12_handOn_32 rfl ?_
        exact hk36 (2 : Int32) h9
theorem p_X12_handOn {l : Launch} {E : aE} (hl : l.stackTraces = false) (x1 : Nat) (x2 : Int32) (x3 : Int32) (x4 : Int32) (h0 : aH) : MO (fun (v : Int32) => .inl (some (.int v))) l E yX12_handOn (.code yX12_handOn cX12_handOn 4 (some .int)) 5 114 [.ref (e_z E + x1), .int x2, .int x3, .int x4] h0 (m_X12_handOn x1 x2 x3 x4 h0) := g_met hl (by decide +kernel) (Nat.le_of_ble_eq_true rfl) (b_X12_handOn hl _ _ x1 x2 x3 x4 h0)
theorem dX12_giveBack_0 : decode cX12_giveBack 0 = .ok (.aload_n 0, 1) := by decide +kernel
theorem dX12_giveBack_1 : decode cX12_giveBack 1 = .ok (.aload_n 0, 1) := by decide +kernel
theorem dX12_giveBack_2 : decode cX12_giveBack 2 = .ok (.iload_n 1, 1) := by decide +kernel
theorem dX12_giveBack_3 : decode cX12_giveBack 3 = .ok (.invokevirtual 400, 3) := by decide +kernel
theorem dX12_giveBack_6 : decode cX12_giveBack 6 = .ok (.ifCond .ne 7, 3) := by decide +kernel
theorem dX12_giveBack_9 : decode cX12_giveBack 9 = .ok (.iconst 1, 1) := by decide +kernel
theorem dX12_giveBack_10 : decode cX12_giveBack 10 = .ok (.goto 16, 3) := by decide +kernel
theorem dX12_giveBack_13 : decode cX12_giveBack 13 = .ok (.aload_n 0, 1) := by decide +kernel
theorem dX12_giveBack_14 : decode cX12_giveBack 14 = .ok (.iload_n 1, 1) := by decide +kernel
theorem dX12_giveBack_15 : decode cX12_giveBack 15 = .ok (.invokevirtual 388, 3) := by decide +kernel
theorem dX12_giveBack_18 : decode cX12_giveBack 18 = .ok (.ifCond .ne 7, 3) := by decide +kernel
theorem dX12_giveBack_21 : decode cX12_giveBack 21 = .ok (.iconst 2, 1) := by decide +kernel
theorem dX12_giveBack_22 : decode cX12_giveBack 22 = .ok (.goto 4, 3) := by decide +kernel
theorem dX12_giveBack_25 : decode cX12_giveBack 25 = .ok (.iconst 0, 1) := by decide +kernel
theorem dX12_giveBack_26 : decode cX12_giveBack 26 = .ok (.putfield 166, 3) := by decide +kernel
theorem dX12_giveBack_29 : decode cX12_giveBack 29 = .ok (.aload_n 0, 1) := by decide +kernel
theorem dX12_giveBack_30 : decode cX12_giveBack 30 = .ok (.getfield 166, 3) := by decide +kernel
theorem dX12_giveBack_33 : decode cX12_giveBack 33 = .ok (.ifCond .le 5, 3) := by decide +kernel
theorem dX12_giveBack_36 : decode cX12_giveBack 36 = .ok (.iconst 0, 1) := by decide +kernel
theorem dX12_giveBack_37 : decode cX12_giveBack 37 = .ok (.ireturn, 1) := by decide +kernel
theorem dX12_giveBack_38 : decode cX12_giveBack 38 = .ok (.aload_n 0, 1) := by decide +kernel
theorem dX12_giveBack_39 : decode cX12_giveBack 39 = .ok (.invokevirtual 476, 3) := by decide +kernel
theorem dX12_giveBack_42 : decode cX12_giveBack 42 = .ok (.aload_n 0, 1) := by decide +kernel
theorem dX12_giveBack_43 : decode cX12_giveBack 43 = .ok (.getfield 7, 3) := by decide +kernel
theorem dX12_giveBack_46 : decode cX12_giveBack 46 = .ok (.sipush 194, 3) := by decide +kernel
theorem dX12_giveBack_49 : decode cX12_giveBack 49 = .ok (.bipush 15, 2) := by decide +kernel
theorem dX12_giveBack_51 : decode cX12_giveBack 51 = .ok (.iload_n 1, 1) := by decide +kernel
theorem dX12_giveBack_52 : decode cX12_giveBack 52 = .ok (.imul, 1) := by decide +kernel
theorem dX12_giveBack_53 : decode cX12_giveBack 53 = .ok (.iadd, 1) := by decide +kernel
theorem dX12_giveBack_54 : decode cX12_giveBack 54 = .ok (.bipush 8, 2) := by decide +kernel
theorem dX12_giveBack_56 : decode cX12_giveBack 56 = .ok (.iadd, 1) := by decide +kernel
theorem dX12_giveBack_57 : decode cX12_giveBack 57 = .ok (.dup2, 1) := by decide +kernel
theorem dX12_giveBack_58 : decode cX12_giveBack 58 = .ok (.iaload, 1) := by decide +kernel
theorem dX12_giveBack_59 : decode cX12_giveBack 59 = .ok (.iconst 1, 1) := by decide +kernel
theorem dX12_giveBack_60 : decode cX12_giveBack 60 = .ok (.isub, 1) := by decide +kernel
theorem dX12_giveBack_61 : decode cX12_giveBack 61 = .ok (.iastore, 1) := by decide +kernel
theorem dX12_giveBack_62 : decode cX12_giveBack 62 = .ok (.aload_n 0, 1) := by decide +kernel
theorem dX12_giveBack_63 : decode cX12_giveBack 63 = .ok (.iload_n 1, 1) := by decide +kernel
theorem dX12_giveBack_64 : decode cX12_giveBack 64 = .ok (.invokevirtual 394, 3) := by decide +kernel
theorem dX12_giveBack_67 : decode cX12_giveBack 67 = .ok (.ireturn, 1) := by decide +kernel
abbrev M_X12_giveBack : aM := (yX12_giveBack.cls, cX12_giveBack, 2, (some .int), [], yX12_giveBack.name == "<init>")
abbrev J_X12_giveBack (l : Launch) (E : aE) (n0 m0 : Nat) := GG (fun (v : Int32) => .inl (some (.int v))) l E M_X12_giveBack 4 87 n0 m0
theorem b_X12_giveBack {l : Launch} {E : aE} (hl : l.stackTraces = false) (n0 m0 : Nat) (x1 : Nat) (x2 : Int32) (h0 : aH) : J_X12_giveBack l E n0 m0 0 [(0, .ref (e_z E + x1)), (1, .int x2)] [] h0 (m_X12_giveBack x1 x2 h0) := by
  unfold m_X12_giveBack
  refine g_aload_n (pc := 0) dX12_giveBack_0 0 rfl ?_
  refine g_aload_n (pc := 1) dX12_giveBack_1 0 rfl ?_
  refine g_iload_n (pc := 2) dX12_giveBack_2 1 rfl ?_
  refine g_gS (fun hs => ?_)
  refine g_bRi (pc := 3) (c_V cl12 hs (p_X12_isPager hl x1 x2 h0) y_X12_isPager tw1996 dX12_giveBack_3 rfl (st := [.ref (e_z E + x1)]) rfl (Nat.le_of_ble_eq_true rfl) (Nat.le_of_ble_eq_true rfl) (Nat.le_of_ble_eq_true rfl)) (fun x3 h1 => ?_)
  refine g_join (fun k => ∀ (x4 : Int32) (h2 : aH), J_X12_giveBack l E n0 m0 26 [(0, .ref (e_z E + x1)), (1, .int x2)] [.int x4, .ref (e_z E + x1)] h2 (k x4 h2)) (fun x4 h2 => ?_) (fun k26 hk26 => ?_)
  · refine g_puti (pc := 26) cl12 (Nat.le_of_ble_eq_true rfl) (Or.inl ⟨rfl, fk1551⟩) (fun _ _ _ => rfl) (fun _ => ⟨rfl, rfl⟩) dX12_giveBack_26 (fun h3 => ?_)
    refine g_aload_n (pc := 29) dX12_giveBack_29 0 rfl ?_
    refine g_geti (pc := 30) cl12 (Nat.le_of_ble_eq_true rfl) fk1551 (fun _ _ _ => rfl) dX12_giveBack_30 (fun x5 => ?_)
    refine g_ifle (pc := 33) (tgt := 38) dX12_giveBack_33 rfl ?_ ?_
    · refine g_aload_n (pc := 38) dX12_giveBack_38 0 rfl ?_
      refine g_gS (fun hs => ?_)
      refine g_bRv (pc := 39) (c_V cl12 hs (p_X12_keeps hl x1 h3) y_X12_keeps tw2216 dX12_giveBack_39 rfl (st := []) rfl (Nat.le_of_ble_eq_true rfl) (Nat.le_of_ble_eq_true rfl) (Nat.le_of_ble_eq_true rfl)) (fun _ h4 => ?_)
      refine g_aload_n (pc := 42) dX12_giveBack_42 0 rfl ?_
      refine g_getr (pc := 43) cl12 (Nat.le_of_ble_eq_true rfl) fk1552 (fun _ _ _ => rfl) dX12_giveBack_43 (fun x6 => ?_)
      refine g_sipush (pc := 46) dX12_giveBack_46 cs_194 ?_
      refine g_bipush (pc := 49) dX12_giveBack_49 cb_15 ?_
      refine g_iload_n (pc := 51) dX12_giveBack_51 1 rfl ?_
      refine g_imul (pc := 52) dX12_giveBack_52 ?_
      refine g_iadd (pc := 53) dX12_giveBack_53 ?_
      refine g_bipush (pc := 54) dX12_giveBack_54 cb_8 ?_
      refine g_iadd (pc := 56) dX12_giveBack_56 ?_
      refine g_topi (fun x7 => ?_)
      refine g_dup2 (pc := 57) rfl rfl dX12_giveBack_57 ?_
      refine g_iald (pc := 58) dX12_giveBack_58 (fun x8 => ?_)
      refine g_iconst (pc := 59) dX12_giveBack_59 ci_1 ?_
      refine g_isub (pc := 60) dX12_giveBack_60 ?_
      refine g_iast (pc := 61) dX12_giveBack_61 (fun h5 => ?_)
      refine g_aload_n (pc := 62) dX12_giveBack_62 0 rfl ?_
      refine g_iload_n (pc := 63) dX12_giveBack_63 1 rfl ?_
      refine g_gS (fun hs => ?_)
      refine g_bRi (pc := 64) (c_V cl12 hs (p_X12_holder hl x1 x2 h5) y_X12_holder tw2053 dX12_giveBack_64 rfl (st := []) rfl (Nat.le_of_ble_eq_true rfl) (Nat.le_of_ble_eq_true rfl) (Nat.le_of_ble_eq_true rfl)) (fun x9 h6 => ?_)
      exact g_ret (pc := 67) rfl (isRet_i _) dX12_giveBack_67 rfl
    · refine g_iconst (pc := 36) dX12_giveBack_36 ci_0 ?_
      exact g_ret (pc := 37) rfl (isRet_i _) dX12_giveBack_37 rfl
  refine g_ifne (pc := 6) (tgt := 13) dX12_giveBack_6 rfl ?_ ?_
  · refine g_iconst (pc := 9) dX12_giveBack_9 ci_1 ?_
    refine g_goto (pc := 10) (tgt := 26) dX12_giveBack_10 rfl ?_
    exact hk26 (1 : Int32) h1
  · refine g_aload_n (pc := 13) dX12_giveBack_13 0 rfl ?_
    refine g_iload_n (pc := 14) dX12_giveBack_14 1 rfl ?_
    refine g_gS (fun hs => ?_)
    refine g_bRi (pc := 15) (c_V cl12 hs (p_X12_hands hl x1 x2 h1) y_X12_hands tw2000 dX12_giveBack_15 rfl (st := [.ref (e_z E + x1)]) rfl (Nat.le_of_ble_eq_true rfl) (Nat.le_of_ble_eq_true rfl) (Nat.le_of_ble_eq_true rfl)) (fun x10 h7 => ?_)
    refine g_ifne (pc := 18) (tgt := 25) dX12_giveBack_18 rfl ?_ ?_
    · refine g_iconst (pc := 21) dX12_giveBack_21 ci_2 ?_
      refine g_goto (pc := 22) (tgt := 26) dX12_giveBack_22 rfl ?_
      exact hk26 (2 : Int32) h7
    · refine g_iconst (pc := 25) dX12_giveBack_25 ci_0 ?_
      exact hk26 (0 : Int32) h7
theorem p_X12_giveBack {l : Launch} {E : aE} (hl : l.stackTraces = false) (x1 : Nat) (x2 : Int32) (h0 : aH) : MO (fun (v : Int32) => .inl (some (.int v))) l E yX12_giveBack (.code yX12_giveBack cX12_giveBack 2 (some .int)) 4 87 [.ref (e_z E + x1), .int x2] h0 (m_X12_giveBack x1 x2 h0) := g_met hl (by decide +kernel) (Nat.le_of_ble_eq_true rfl) (b_X12_giveBack hl _ _ x1 x2 h0)
theorem dX12_pass_0 : decode cX12_pass 0 = .ok (.aload_n 0, 1) := by decide +kernel
theorem dX12_pass_1 : decode cX12_pass 1 = .ok (.iload_n 1, 1) := by decide +kernel
theorem dX12_pass_2 : decode cX12_pass 2 = .ok (.i2l, 1) := by decide +kernel
theorem dX12_pass_3 : decode cX12_pass 3 = .ok (.lconst 1, 1) := by decide +kernel
theorem dX12_pass_4 : decode cX12_pass 4 = .ok (.ldc2_w 359, 3) := by decide +kernel
theorem dX12_pass_7 : decode cX12_pass 7 = .ok (.invokestatic 176, 3) := by decide +kernel
theorem dX12_pass_10 : decode cX12_pass 10 = .ok (.ifCond .ne 7, 3) := by decide +kernel
theorem dX12_pass_13 : decode cX12_pass 13 = .ok (.iconst 1, 1) := by decide +kernel
theorem dX12_pass_14 : decode cX12_pass 14 = .ok (.goto 22, 3) := by decide +kernel
theorem dX12_pass_17 : decode cX12_pass 17 = .ok (.aload_n 0, 1) := by decide +kernel
theorem dX12_pass_18 : decode cX12_pass 18 = .ok (.getfield 7, 3) := by decide +kernel
theorem dX12_pass_21 : decode cX12_pass 21 = .ok (.iconst 0, 1) := by decide +kernel
theorem dX12_pass_22 : decode cX12_pass 22 = .ok (.iaload, 1) := by decide +kernel
theorem dX12_pass_23 : decode cX12_pass 23 = .ok (.iload_n 1, 1) := by decide +kernel
theorem dX12_pass_24 : decode cX12_pass 24 = .ok (.iadd, 1) := by decide +kernel
theorem dX12_pass_25 : decode cX12_pass 25 = .ok (.sipush 20160, 3) := by decide +kernel
theorem dX12_pass_28 : decode cX12_pass 28 = .ok (.if_icmp .le 7, 3) := by decide +kernel
theorem dX12_pass_31 : decode cX12_pass 31 = .ok (.iconst 2, 1) := by decide +kernel
theorem dX12_pass_32 : decode cX12_pass 32 = .ok (.goto 4, 3) := by decide +kernel
theorem dX12_pass_35 : decode cX12_pass 35 = .ok (.iconst 0, 1) := by decide +kernel
theorem dX12_pass_36 : decode cX12_pass 36 = .ok (.putfield 166, 3) := by decide +kernel
theorem dX12_pass_39 : decode cX12_pass 39 = .ok (.aload_n 0, 1) := by decide +kernel
theorem dX12_pass_40 : decode cX12_pass 40 = .ok (.getfield 166, 3) := by decide +kernel
theorem dX12_pass_43 : decode cX12_pass 43 = .ok (.ifCond .le 5, 3) := by decide +kernel
theorem dX12_pass_46 : decode cX12_pass 46 = .ok (.iconst 0, 1) := by decide +kernel
theorem dX12_pass_47 : decode cX12_pass 47 = .ok (.ireturn, 1) := by decide +kernel
theorem dX12_pass_48 : decode cX12_pass 48 = .ok (.aload_n 0, 1) := by decide +kernel
theorem dX12_pass_49 : decode cX12_pass 49 = .ok (.invokevirtual 476, 3) := by decide +kernel
theorem dX12_pass_52 : decode cX12_pass 52 = .ok (.iconst 0, 1) := by decide +kernel
theorem dX12_pass_53 : decode cX12_pass 53 = .ok (.istore_n 2, 1) := by decide +kernel
theorem dX12_pass_54 : decode cX12_pass 54 = .ok (.iconst 0, 1) := by decide +kernel
theorem dX12_pass_55 : decode cX12_pass 55 = .ok (.istore_n 3, 1) := by decide +kernel
theorem dX12_pass_56 : decode cX12_pass 56 = .ok (.iload_n 3, 1) := by decide +kernel
theorem dX12_pass_57 : decode cX12_pass 57 = .ok (.iload_n 1, 1) := by decide +kernel
theorem dX12_pass_58 : decode cX12_pass 58 = .ok (.if_icmp .ge 16, 3) := by decide +kernel
theorem dX12_pass_61 : decode cX12_pass 61 = .ok (.iload_n 2, 1) := by decide +kernel
theorem dX12_pass_62 : decode cX12_pass 62 = .ok (.aload_n 0, 1) := by decide +kernel
theorem dX12_pass_63 : decode cX12_pass 63 = .ok (.invokevirtual 364, 3) := by decide +kernel
theorem dX12_pass_66 : decode cX12_pass 66 = .ok (.iadd, 1) := by decide +kernel
theorem dX12_pass_67 : decode cX12_pass 67 = .ok (.istore_n 2, 1) := by decide +kernel
theorem dX12_pass_68 : decode cX12_pass 68 = .ok (.iinc 3 1, 3) := by decide +kernel
theorem dX12_pass_71 : decode cX12_pass 71 = .ok (.goto (-15), 3) := by decide +kernel
theorem dX12_pass_74 : decode cX12_pass 74 = .ok (.iload_n 2, 1) := by decide +kernel
theorem dX12_pass_75 : decode cX12_pass 75 = .ok (.ireturn, 1) := by decide +kernel
abbrev M_X12_pass : aM := (yX12_pass.cls, cX12_pass, 4, (some .int), [], yX12_pass.name == "<init>")
abbrev J_X12_pass (l : Launch) (E : aE) (n0 m0 : Nat) := GG (fun (v : Int32) => .inl (some (.int v))) l E M_X12_pass 2 48 n0 m0
theorem b_X12_pass {l : Launch} {E : aE} (hl : l.stackTraces = false) (n0 m0 : Nat) (x1 : Nat) (x2 : Int32) (h0 : aH) : J_X12_pass l E n0 m0 0 [(0, .ref (e_z E + x1)), (1, .int x2)] [] h0 (m_X12_pass x1 x2 h0) := by
  unfold m_X12_pass
  refine g_aload_n (pc := 0) dX12_pass_0 0 rfl ?_
  refine g_iload_n (pc := 1) dX12_pass_1 1 rfl ?_
  refine g_i2l (pc := 2) dX12_pass_2 ?_
  refine g_lconst (pc := 3) dX12_pass_3 cl_1 ?_
  refine g_ldc2 (pc := 4) tw1943 dX12_pass_4 ?_
  refine g_bRi (pc := 7) (c_S (p_X12_in hl (x2.toInt64) (1 : Int64) (1440 : Int64) h0) y_X12_in tw1782 dX12_pass_7 rfl (st := [.ref (e_z E + x1)]) rfl (Nat.le_of_ble_eq_true rfl) (Nat.le_of_ble_eq_true rfl) (Nat.le_of_ble_eq_true rfl)) (fun x3 h1 => ?_)
  refine g_join (fun k => ∀ (x4 : Int32) (h2 : aH), J_X12_pass l E n0 m0 36 [(0, .ref (e_z E + x1)), (1, .int x2)] [.int x4, .ref (e_z E + x1)] h2 (k x4 h2)) (fun x4 h2 => ?_) (fun k36 hk36 => ?_)
  · refine g_puti (pc := 36) cl12 (Nat.le_of_ble_eq_true rfl) (Or.inl ⟨rfl, fk1551⟩) (fun _ _ _ => rfl) (fun _ => ⟨rfl, rfl⟩) dX12_pass_36 (fun h3 => ?_)
    refine g_aload_n (pc := 39) dX12_pass_39 0 rfl ?_
    refine g_geti (pc := 40) cl12 (Nat.le_of_ble_eq_true rfl) fk1551 (fun _ _ _ => rfl) dX12_pass_40 (fun x5 => ?_)
    refine g_ifle (pc := 43) (tgt := 48) dX12_pass_43 rfl ?_ ?_
    · refine g_aload_n (pc := 48) dX12_pass_48 0 rfl ?_
      refine g_gS (fun hs => ?_)
      refine g_bRv (pc := 49) (c_V cl12 hs (p_X12_keeps hl x1 h3) y_X12_keeps tw2216 dX12_pass_49 rfl (st := []) rfl (Nat.le_of_ble_eq_true rfl) (Nat.le_of_ble_eq_true rfl) (Nat.le_of_ble_eq_true rfl)) (fun _ h4 => ?_)
      refine g_iconst (pc := 52) dX12_pass_52 ci_0 ?_
      refine g_istore_n (pc := 53) (lv' := [(2, .int (0 : Int32)), (0, .ref (e_z E + x1)), (1, .int x2)]) dX12_pass_53 (Nat.le_of_ble_eq_true rfl) rfl ?_
      refine g_iconst (pc := 54) dX12_pass_54 ci_0 ?_
      refine g_istore_n (pc := 55) (lv' := [(3, .int (0 : Int32)), (2, .int (0 : Int32)), (0, .ref (e_z E + x1)), (1, .int x2)]) dX12_pass_55 (Nat.le_of_ble_eq_true rfl) rfl ?_
      refine g_join (fun k => ∀ (x6 : Int32) (h5 : aH), J_X12_pass l E n0 m0 74 [(2, .int x6)] [] h5 (k x6 h5)) (fun x6 h5 => ?_) (fun k74 hk74 => ?_)
      · refine g_iload_n (pc := 74) dX12_pass_74 0 rfl ?_
        exact g_ret (pc := 75) rfl (isRet_i _) dX12_pass_75 rfl
      refine g_lv [2, 3, 1, 0] rfl ?_
      refine g_loop2 (F := (m_X12_pass_L56 x1 x2 k74)) (fun x7 x8 => [(0, .ref (e_z E + x1)), (1, .int x2), (2, .int x7), (3, .int x8)]) (fun r56 hr56 x7 x8 h6 => ?_) _ _ _ _
      unfold m_X12_pass_L56
      refine g_iload_n (pc := 56) dX12_pass_56 3 rfl ?_
      refine g_iload_n (pc := 57) dX12_pass_57 1 rfl ?_
      refine g_icmpge (pc := 58) (tgt := 74) dX12_pass_58 rfl ?_ ?_
      · refine g_iload_n (pc := 61) dX12_pass_61 2 rfl ?_
        refine g_aload_n (pc := 62) dX12_pass_62 0 rfl ?_
        refine g_gS (fun hs => ?_)
        refine g_bRi (pc := 63) (c_V cl12 hs (p_X12_minute hl x1 h6) y_X12_minute tw1948 dX12_pass_63 rfl (st := [.int x7]) rfl (Nat.le_of_ble_eq_true rfl) (Nat.le_of_ble_eq_true rfl) (Nat.le_of_ble_eq_true rfl)) (fun x9 h7 => ?_)
        refine g_iadd (pc := 66) dX12_pass_66 ?_
        refine g_topi (fun x10 => ?_)
        refine g_istore_n (pc := 67) (lv' := [(2, .int x10), (0, .ref (e_z E + x1)), (1, .int x2), (3, .int x8)]) dX12_pass_67 (Nat.le_of_ble_eq_true rfl) rfl ?_
        refine g_iincN (pc := 68) dX12_pass_68 3 rfl ci_1 (Nat.le_of_ble_eq_true rfl) (fun x11 => ?_)
        refine g_lvr (lv' := [(3, .int x11), (2, .int x10), (0, .ref (e_z E + x1)), (1, .int x2)]) rfl ?_
        refine g_goto (pc := 71) (tgt := 56) dX12_pass_71 rfl ?_
        refine g_lv [2, 3, 1, 0] rfl ?_
        exact hr56 x10 x11 h7
      · refine g_lv [2] rfl ?_
        exact hk74 x7 h6
    · refine g_iconst (pc := 46) dX12_pass_46 ci_0 ?_
      exact g_ret (pc := 47) rfl (isRet_i _) dX12_pass_47 rfl
  refine g_ifne (pc := 10) (tgt := 17) dX12_pass_10 rfl ?_ ?_
  · refine g_iconst (pc := 13) dX12_pass_13 ci_1 ?_
    refine g_goto (pc := 14) (tgt := 36) dX12_pass_14 rfl ?_
    exact hk36 (1 : Int32) h1
  · refine g_aload_n (pc := 17) dX12_pass_17 0 rfl ?_
    refine g_getr (pc := 18) cl12 (Nat.le_of_ble_eq_true rfl) fk1552 (fun _ _ _ => rfl) dX12_pass_18 (fun x12 => ?_)
    refine g_iconst (pc := 21) dX12_pass_21 ci_0 ?_
    refine g_iald (pc := 22) dX12_pass_22 (fun x13 => ?_)
    refine g_iload_n (pc := 23) dX12_pass_23 1 rfl ?_
    refine g_iadd (pc := 24) dX12_pass_24 ?_
    refine g_sipush (pc := 25) dX12_pass_25 cs_20160 ?_
    refine g_icmple (pc := 28) (tgt := 35) dX12_pass_28 rfl ?_ ?_
    · refine g_iconst (pc := 35) dX12_pass_35 ci_0 ?_
      exact hk36 (0 : Int32) h1
    · refine g_iconst (pc := 31) dX12_pass_31 ci_2 ?_
      refine g_goto (pc := 32) (tgt := 36) dX12_pass_32 rfl ?_
      exact hk36 (2 : Int32) h1
theorem p_X12_pass {l : Launch} {E : aE} (hl : l.stackTraces = false) (x1 : Nat) (x2 : Int32) (h0 : aH) : MO (fun (v : Int32) => .inl (some (.int v))) l E yX12_pass (.code yX12_pass cX12_pass 4 (some .int)) 2 48 [.ref (e_z E + x1), .int x2] h0 (m_X12_pass x1 x2 h0) := g_met hl (by decide +kernel) (Nat.le_of_ble_eq_true rfl) (b_X12_pass hl _ _ x1 x2 h0)
theorem dX12_swapPlaces_0 : decode cX12_swapPlaces 0 = .ok (.aload_n 0, 1) := by decide +kernel
theorem dX12_swapPlaces_1 : decode cX12_swapPlaces 1 = .ok (.iload_n 1, 1) := by decide +kernel
theorem dX12_swapPlaces_2 : decode cX12_swapPlaces 2 = .ok (.invokevirtual 400, 3) := by decide +kernel
theorem dX12_swapPlaces_5 : decode cX12_swapPlaces 5 = .ok (.ifCond .eq 43, 3) := by decide +kernel
theorem dX12_swapPlaces_8 : decode cX12_swapPlaces 8 = .ok (.iload_n 2, 1) := by decide +kernel
theorem dX12_swapPlaces_9 : decode cX12_swapPlaces 9 = .ok (.i2l, 1) := by decide +kernel
theorem dX12_swapPlaces_10 : decode cX12_swapPlaces 10 = .ok (.lconst 0, 1) := by decide +kernel
theorem dX12_swapPlaces_11 : decode cX12_swapPlaces 11 = .ok (.aload_n 0, 1) := by decide +kernel
theorem dX12_swapPlaces_12 : decode cX12_swapPlaces 12 = .ok (.getfield 45, 3) := by decide +kernel
theorem dX12_swapPlaces_15 : decode cX12_swapPlaces 15 = .ok (.iload_n 1, 1) := by decide +kernel
theorem dX12_swapPlaces_16 : decode cX12_swapPlaces 16 = .ok (.iaload, 1) := by decide +kernel
theorem dX12_swapPlaces_17 : decode cX12_swapPlaces 17 = .ok (.iconst 1, 1) := by decide +kernel
theorem dX12_swapPlaces_18 : decode cX12_swapPlaces 18 = .ok (.isub, 1) := by decide +kernel
theorem dX12_swapPlaces_19 : decode cX12_swapPlaces 19 = .ok (.i2l, 1) := by decide +kernel
theorem dX12_swapPlaces_20 : decode cX12_swapPlaces 20 = .ok (.invokestatic 176, 3) := by decide +kernel
theorem dX12_swapPlaces_23 : decode cX12_swapPlaces 23 = .ok (.ifCond .eq 25, 3) := by decide +kernel
theorem dX12_swapPlaces_26 : decode cX12_swapPlaces 26 = .ok (.iload_n 3, 1) := by decide +kernel
theorem dX12_swapPlaces_27 : decode cX12_swapPlaces 27 = .ok (.i2l, 1) := by decide +kernel
theorem dX12_swapPlaces_28 : decode cX12_swapPlaces 28 = .ok (.lconst 0, 1) := by decide +kernel
theorem dX12_swapPlaces_29 : decode cX12_swapPlaces 29 = .ok (.aload_n 0, 1) := by decide +kernel
theorem dX12_swapPlaces_30 : decode cX12_swapPlaces 30 = .ok (.getfield 45, 3) := by decide +kernel
theorem dX12_swapPlaces_33 : decode cX12_swapPlaces 33 = .ok (.iload_n 1, 1) := by decide +kernel
theorem dX12_swapPlaces_34 : decode cX12_swapPlaces 34 = .ok (.iaload, 1) := by decide +kernel
theorem dX12_swapPlaces_35 : decode cX12_swapPlaces 35 = .ok (.iconst 1, 1) := by decide +kernel
theorem dX12_swapPlaces_36 : decode cX12_swapPlaces 36 = .ok (.isub, 1) := by decide +kernel
theorem dX12_swapPlaces_37 : decode cX12_swapPlaces 37 = .ok (.i2l, 1) := by decide +kernel
theorem dX12_swapPlaces_38 : decode cX12_swapPlaces 38 = .ok (.invokestatic 176, 3) := by decide +kernel
theorem dX12_swapPlaces_41 : decode cX12_swapPlaces 41 = .ok (.ifCond .eq 7, 3) := by decide +kernel
theorem dX12_swapPlaces_44 : decode cX12_swapPlaces 44 = .ok (.iconst 1, 1) := by decide +kernel
theorem dX12_swapPlaces_45 : decode cX12_swapPlaces 45 = .ok (.goto 4, 3) := by decide +kernel
theorem dX12_swapPlaces_48 : decode cX12_swapPlaces 48 = .ok (.iconst 0, 1) := by decide +kernel
theorem dX12_swapPlaces_49 : decode cX12_swapPlaces 49 = .ok (.istore 4, 2) := by decide +kernel
theorem dX12_swapPlaces_51 : decode cX12_swapPlaces 51 = .ok (.aload_n 0, 1) := by decide +kernel
theorem dX12_swapPlaces_52 : decode cX12_swapPlaces 52 = .ok (.iload 4, 2) := by decide +kernel
theorem dX12_swapPlaces_54 : decode cX12_swapPlaces 54 = .ok (.ifCond .ne 7, 3) := by decide +kernel
theorem dX12_swapPlaces_57 : decode cX12_swapPlaces 57 = .ok (.iconst 1, 1) := by decide +kernel
theorem dX12_swapPlaces_58 : decode cX12_swapPlaces 58 = .ok (.goto 13, 3) := by decide +kernel
theorem dX12_swapPlaces_61 : decode cX12_swapPlaces 61 = .ok (.iload_n 2, 1) := by decide +kernel
theorem dX12_swapPlaces_62 : decode cX12_swapPlaces 62 = .ok (.iload_n 3, 1) := by decide +kernel
theorem dX12_swapPlaces_63 : decode cX12_swapPlaces 63 = .ok (.if_icmp .ne 7, 3) := by decide +kernel
theorem dX12_swapPlaces_66 : decode cX12_swapPlaces 66 = .ok (.iconst 2, 1) := by decide +kernel
theorem dX12_swapPlaces_67 : decode cX12_swapPlaces 67 = .ok (.goto 4, 3) := by decide +kernel
theorem dX12_swapPlaces_70 : decode cX12_swapPlaces 70 = .ok (.iconst 0, 1) := by decide +kernel
theorem dX12_swapPlaces_71 : decode cX12_swapPlaces 71 = .ok (.putfield 166, 3) := by decide +kernel
theorem dX12_swapPlaces_74 : decode cX12_swapPlaces 74 = .ok (.aload_n 0, 1) := by decide +kernel
theorem dX12_swapPlaces_75 : decode cX12_swapPlaces 75 = .ok (.getfield 166, 3) := by decide +kernel
theorem dX12_swapPlaces_78 : decode cX12_swapPlaces 78 = .ok (.ifCond .le 5, 3) := by decide +kernel
theorem dX12_swapPlaces_81 : decode cX12_swapPlaces 81 = .ok (.iconst 0, 1) := by decide +kernel
theorem dX12_swapPlaces_82 : decode cX12_swapPlaces 82 = .ok (.ireturn, 1) := by decide +kernel
theorem dX12_swapPlaces_83 : decode cX12_swapPlaces 83 = .ok (.aload_n 0, 1) := by decide +kernel
theorem dX12_swapPlaces_84 : decode cX12_swapPlaces 84 = .ok (.iload_n 1, 1) := by decide +kernel
theorem dX12_swapPlaces_85 : decode cX12_swapPlaces 85 = .ok (.aload_n 0, 1) := by decide +kernel
theorem dX12_swapPlaces_86 : decode cX12_swapPlaces 86 = .ok (.getfield 7, 3) := by decide +kernel
theorem dX12_swapPlaces_89 : decode cX12_swapPlaces 89 = .ok (.iconst 0, 1) := by decide +kernel
theorem dX12_swapPlaces_90 : decode cX12_swapPlaces 90 = .ok (.iaload, 1) := by decide +kernel
theorem dX12_swapPlaces_91 : decode cX12_swapPlaces 91 = .ok (.invokevirtual 382, 3) := by decide +kernel
theorem dX12_swapPlaces_94 : decode cX12_swapPlaces 94 = .ok (.aload_n 0, 1) := by decide +kernel
theorem dX12_swapPlaces_95 : decode cX12_swapPlaces 95 = .ok (.getfield 45, 3) := by decide +kernel
theorem dX12_swapPlaces_98 : decode cX12_swapPlaces 98 = .ok (.iload_n 1, 1) := by decide +kernel
theorem dX12_swapPlaces_99 : decode cX12_swapPlaces 99 = .ok (.iaload, 1) := by decide +kernel
theorem dX12_swapPlaces_100 : decode cX12_swapPlaces 100 = .ok (.irem, 1) := by decide +kernel
theorem dX12_swapPlaces_101 : decode cX12_swapPlaces 101 = .ok (.istore 5, 2) := by decide +kernel
theorem dX12_swapPlaces_103 : decode cX12_swapPlaces 103 = .ok (.aload_n 0, 1) := by decide +kernel
theorem dX12_swapPlaces_104 : decode cX12_swapPlaces 104 = .ok (.iload_n 2, 1) := by decide +kernel
theorem dX12_swapPlaces_105 : decode cX12_swapPlaces 105 = .ok (.iload 5, 2) := by decide +kernel
theorem dX12_swapPlaces_107 : decode cX12_swapPlaces 107 = .ok (.if_icmp .eq 9, 3) := by decide +kernel
theorem dX12_swapPlaces_110 : decode cX12_swapPlaces 110 = .ok (.iload_n 3, 1) := by decide +kernel
theorem dX12_swapPlaces_111 : decode cX12_swapPlaces 111 = .ok (.iload 5, 2) := by decide +kernel
theorem dX12_swapPlaces_113 : decode cX12_swapPlaces 113 = .ok (.if_icmp .ne 7, 3) := by decide +kernel
theorem dX12_swapPlaces_116 : decode cX12_swapPlaces 116 = .ok (.iconst 3, 1) := by decide +kernel
theorem dX12_swapPlaces_117 : decode cX12_swapPlaces 117 = .ok (.goto 4, 3) := by decide +kernel
theorem dX12_swapPlaces_120 : decode cX12_swapPlaces 120 = .ok (.iconst 0, 1) := by decide +kernel
theorem dX12_swapPlaces_121 : decode cX12_swapPlaces 121 = .ok (.putfield 166, 3) := by decide +kernel
theorem dX12_swapPlaces_124 : decode cX12_swapPlaces 124 = .ok (.aload_n 0, 1) := by decide +kernel
theorem dX12_swapPlaces_125 : decode cX12_swapPlaces 125 = .ok (.getfield 166, 3) := by decide +kernel
theorem dX12_swapPlaces_128 : decode cX12_swapPlaces 128 = .ok (.ifCond .le 5, 3) := by decide +kernel
theorem dX12_swapPlaces_131 : decode cX12_swapPlaces 131 = .ok (.iconst 0, 1) := by decide +kernel
theorem dX12_swapPlaces_132 : decode cX12_swapPlaces 132 = .ok (.ireturn, 1) := by decide +kernel
theorem dX12_swapPlaces_133 : decode cX12_swapPlaces 133 = .ok (.aload_n 0, 1) := by decide +kernel
theorem dX12_swapPlaces_134 : decode cX12_swapPlaces 134 = .ok (.invokevirtual 476, 3) := by decide +kernel
theorem dX12_swapPlaces_137 : decode cX12_swapPlaces 137 = .ok (.sipush 194, 3) := by decide +kernel
theorem dX12_swapPlaces_140 : decode cX12_swapPlaces 140 = .ok (.bipush 15, 2) := by decide +kernel
theorem dX12_swapPlaces_142 : decode cX12_swapPlaces 142 = .ok (.iload_n 1, 1) := by decide +kernel
theorem dX12_swapPlaces_143 : decode cX12_swapPlaces 143 = .ok (.imul, 1) := by decide +kernel
theorem dX12_swapPlaces_144 : decode cX12_swapPlaces 144 = .ok (.iadd, 1) := by decide +kernel
theorem dX12_swapPlaces_145 : decode cX12_swapPlaces 145 = .ok (.istore 6, 2) := by decide +kernel
theorem dX12_swapPlaces_147 : decode cX12_swapPlaces 147 = .ok (.aload_n 0, 1) := by decide +kernel
theorem dX12_swapPlaces_148 : decode cX12_swapPlaces 148 = .ok (.getfield 7, 3) := by decide +kernel
theorem dX12_swapPlaces_151 : decode cX12_swapPlaces 151 = .ok (.iload 6, 2) := by decide +kernel
theorem dX12_swapPlaces_153 : decode cX12_swapPlaces 153 = .ok (.iload_n 2, 1) := by decide +kernel
theorem dX12_swapPlaces_154 : decode cX12_swapPlaces 154 = .ok (.iadd, 1) := by decide +kernel
theorem dX12_swapPlaces_155 : decode cX12_swapPlaces 155 = .ok (.iaload, 1) := by decide +kernel
theorem dX12_swapPlaces_156 : decode cX12_swapPlaces 156 = .ok (.istore 7, 2) := by decide +kernel
theorem dX12_swapPlaces_158 : decode cX12_swapPlaces 158 = .ok (.aload_n 0, 1) := by decide +kernel
theorem dX12_swapPlaces_159 : decode cX12_swapPlaces 159 = .ok (.getfield 7, 3) := by decide +kernel
theorem dX12_swapPlaces_162 : decode cX12_swapPlaces 162 = .ok (.iload 6, 2) := by decide +kernel
theorem dX12_swapPlaces_164 : decode cX12_swapPlaces 164 = .ok (.iload_n 2, 1) := by decide +kernel
theorem dX12_swapPlaces_165 : decode cX12_swapPlaces 165 = .ok (.iadd, 1) := by decide +kernel
theorem dX12_swapPlaces_166 : decode cX12_swapPlaces 166 = .ok (.aload_n 0, 1) := by decide +kernel
theorem dX12_swapPlaces_167 : decode cX12_swapPlaces 167 = .ok (.getfield 7, 3) := by decide +kernel
theorem dX12_swapPlaces_170 : decode cX12_swapPlaces 170 = .ok (.iload 6, 2) := by decide +kernel
theorem dX12_swapPlaces_172 : decode cX12_swapPlaces 172 = .ok (.iload_n 3, 1) := by decide +kernel
theorem dX12_swapPlaces_173 : decode cX12_swapPlaces 173 = .ok (.iadd, 1) := by decide +kernel
theorem dX12_swapPlaces_174 : decode cX12_swapPlaces 174 = .ok (.iaload, 1) := by decide +kernel
theorem dX12_swapPlaces_175 : decode cX12_swapPlaces 175 = .ok (.iastore, 1) := by decide +kernel
theorem dX12_swapPlaces_176 : decode cX12_swapPlaces 176 = .ok (.aload_n 0, 1) := by decide +kernel
theorem dX12_swapPlaces_177 : decode cX12_swapPlaces 177 = .ok (.getfield 7, 3) := by decide +kernel
theorem dX12_swapPlaces_180 : decode cX12_swapPlaces 180 = .ok (.iload 6, 2) := by decide +kernel
theorem dX12_swapPlaces_182 : decode cX12_swapPlaces 182 = .ok (.iload_n 3, 1) := by decide +kernel
theorem dX12_swapPlaces_183 : decode cX12_swapPlaces 183 = .ok (.iadd, 1) := by decide +kernel
theorem dX12_swapPlaces_184 : decode cX12_swapPlaces 184 = .ok (.iload 7, 2) := by decide +kernel
theorem dX12_swapPlaces_186 : decode cX12_swapPlaces 186 = .ok (.iastore, 1) := by decide +kernel
theorem dX12_swapPlaces_187 : decode cX12_swapPlaces 187 = .ok (.aload_n 0, 1) := by decide +kernel
theorem dX12_swapPlaces_188 : decode cX12_swapPlaces 188 = .ok (.getfield 7, 3) := by decide +kernel
theorem dX12_swapPlaces_191 : decode cX12_swapPlaces 191 = .ok (.iload 6, 2) := by decide +kernel
theorem dX12_swapPlaces_193 : decode cX12_swapPlaces 193 = .ok (.iload_n 2, 1) := by decide +kernel
theorem dX12_swapPlaces_194 : decode cX12_swapPlaces 194 = .ok (.iadd, 1) := by decide +kernel
theorem dX12_swapPlaces_195 : decode cX12_swapPlaces 195 = .ok (.iaload, 1) := by decide +kernel
theorem dX12_swapPlaces_196 : decode cX12_swapPlaces 196 = .ok (.ireturn, 1) := by decide +kernel
abbrev M_X12_swapPlaces : aM := (yX12_swapPlaces.cls, cX12_swapPlaces, 8, (some .int), [], yX12_swapPlaces.name == "<init>")
abbrev J_X12_swapPlaces (l : Launch) (E : aE) (n0 m0 : Nat) := GG (fun (v : Int32) => .inl (some (.int v))) l E M_X12_swapPlaces 2 46 n0 m0
theorem b_X12_swapPlaces {l : Launch} {E : aE} (hl : l.stackTraces = false) (n0 m0 : Nat) (x1 : Nat) (x2 : Int32) (x3 : Int32) (x4 : Int32) (h0 : aH) : J_X12_swapPlaces l E n0 m0 0 [(0, .ref (e_z E + x1)), (1, .int x2), (2, .int x3), (3, .int x4)] [] h0 (m_X12_swapPlaces x1 x2 x3 x4 h0) := by
  unfold m_X12_swapPlaces
  refine g_aload_n (pc := 0) dX12_swapPlaces_0 0 rfl ?_
  refine g_iload_n (pc := 1) dX12_swapPlaces_1 1 rfl ?_
  refine g_gS (fun hs => ?_)
  refine g_bRi (pc := 2) (c_V cl12 hs (p_X12_isPager hl x1 x2 h0) y_X12_isPager tw1996 dX12_swapPlaces_2 rfl (st := []) rfl (Nat.le_of_ble_eq_true rfl) (Nat.le_of_ble_eq_true rfl) (Nat.le_of_ble_eq_true rfl)) (fun x5 h1 => ?_)
  refine g_join (fun k => ∀ (x6 : Int32) (h2 : aH), J_X12_swapPlaces l E n0 m0 49 [(0, .ref (e_z E + x1)), (1, .int x2), (2, .int x3), (3, .int x4)] [.int x6] h2 (k x6 h2)) (fun x6 h2 => ?_) (fun k49 hk49 => ?_)
  · refine g_istore (pc := 49) (lv' := [(4, .int x6), (0, .ref (e_z E + x1)), (1, .int x2), (2, .int x3), (3, .int x4)]) dX12_swapPlaces_49 (Nat.le_of_ble_eq_true rfl) rfl ?_
    refine g_aload_n (pc := 51) dX12_swapPlaces_51 1 rfl ?_
    refine g_iload (pc := 52) dX12_swapPlaces_52 0 rfl ?_
    refine g_join (fun k => ∀ (x7 : Int32) (h3 : aH), J_X12_swapPlaces l E n0 m0 71 [(0, .ref (e_z E + x1)), (1, .int x2), (2, .int x3), (3, .int x4)] [.int x7, .ref (e_z E + x1)] h3 (k x7 h3)) (fun x7 h3 => ?_) (fun k71 hk71 => ?_)
    · refine g_puti (pc := 71) cl12 (Nat.le_of_ble_eq_true rfl) (Or.inl ⟨rfl, fk1551⟩) (fun _ _ _ => rfl) (fun _ => ⟨rfl, rfl⟩) dX12_swapPlaces_71 (fun h4 => ?_)
      refine g_aload_n (pc := 74) dX12_swapPlaces_74 0 rfl ?_
      refine g_geti (pc := 75) cl12 (Nat.le_of_ble_eq_true rfl) fk1551 (fun _ _ _ => rfl) dX12_swapPlaces_75 (fun x8 => ?_)
      refine g_ifle (pc := 78) (tgt := 83) dX12_swapPlaces_78 rfl ?_ ?_
      · refine g_aload_n (pc := 83) dX12_swapPlaces_83 0 rfl ?_
        refine g_iload_n (pc := 84) dX12_swapPlaces_84 1 rfl ?_
        refine g_aload_n (pc := 85) dX12_swapPlaces_85 0 rfl ?_
        refine g_getr (pc := 86) cl12 (Nat.le_of_ble_eq_true rfl) fk1552 (fun _ _ _ => rfl) dX12_swapPlaces_86 (fun x9 => ?_)
        refine g_iconst (pc := 89) dX12_swapPlaces_89 ci_0 ?_
        refine g_iald (pc := 90) dX12_swapPlaces_90 (fun x10 => ?_)
        refine g_gS (fun hs => ?_)
        refine g_bRi (pc := 91) (c_V cl12 hs (p_X12_turnAt hl x1 x2 x10 h4) y_X12_turnAt tw2012 dX12_swapPlaces_91 rfl (st := []) rfl (Nat.le_of_ble_eq_true rfl) (Nat.le_of_ble_eq_true rfl) (Nat.le_of_ble_eq_true rfl)) (fun x11 h5 => ?_)
        refine g_aload_n (pc := 94) dX12_swapPlaces_94 0 rfl ?_
        refine g_getr (pc := 95) cl12 (Nat.le_of_ble_eq_true rfl) fk1568 (fun _ _ _ => rfl) dX12_swapPlaces_95 (fun x12 => ?_)
        refine g_iload_n (pc := 98) dX12_swapPlaces_98 1 rfl ?_
        refine g_iald (pc := 99) dX12_swapPlaces_99 (fun x13 => ?_)
        refine g_irem (pc := 100) dX12_swapPlaces_100 (fun x14 => ?_)
        refine g_istore (pc := 101) (lv' := [(5, .int x14), (0, .ref (e_z E + x1)), (1, .int x2), (2, .int x3), (3, .int x4)]) dX12_swapPlaces_101 (Nat.le_of_ble_eq_true rfl) rfl ?_
        refine g_aload_n (pc := 103) dX12_swapPlaces_103 1 rfl ?_
        refine g_iload_n (pc := 104) dX12_swapPlaces_104 3 rfl ?_
        refine g_iload (pc := 105) dX12_swapPlaces_105 0 rfl ?_
        refine g_join (fun k => ∀ (x15 : Int32) (h6 : aH), J_X12_swapPlaces l E n0 m0 121 [(0, .ref (e_z E + x1)), (1, .int x2), (2, .int x3), (3, .int x4)] [.int x15, .ref (e_z E + x1)] h6 (k x15 h6)) (fun x15 h6 => ?_) (fun k121 hk121 => ?_)
        · refine g_puti (pc := 121) cl12 (Nat.le_of_ble_eq_true rfl) (Or.inl ⟨rfl, fk1551⟩) (fun _ _ _ => rfl) (fun _ => ⟨rfl, rfl⟩) dX12_swapPlaces_121 (fun h7 => ?_)
          refine g_aload_n (pc := 124) dX12_swapPlaces_124 0 rfl ?_
          refine g_geti (pc := 125) cl12 (Nat.le_of_ble_eq_true rfl) fk1551 (fun _ _ _ => rfl) dX12_swapPlaces_125 (fun x16 => ?_)
          refine g_ifle (pc := 128) (tgt := 133) dX12_swapPlaces_128 rfl ?_ ?_
          · refine g_aload_n (pc := 133) dX12_swapPlaces_133 0 rfl ?_
            refine g_gS (fun hs => ?_)
            refine g_bRv (pc := 134) (c_V cl12 hs (p_X12_keeps hl x1 h7) y_X12_keeps tw2216 dX12_swapPlaces_134 rfl (st := []) rfl (Nat.le_of_ble_eq_true rfl) (Nat.le_of_ble_eq_true rfl) (Nat.le_of_ble_eq_true rfl)) (fun _ h8 => ?_)
            refine g_sipush (pc := 137) dX12_swapPlaces_137 cs_194 ?_
            refine g_bipush (pc := 140) dX12_swapPlaces_140 cb_15 ?_
            refine g_iload_n (pc := 142) dX12_swapPlaces_142 1 rfl ?_
            refine g_imul (pc := 143) dX12_swapPlaces_143 ?_
            refine g_iadd (pc := 144) dX12_swapPlaces_144 ?_
            refine g_topi (fun x17 => ?_)
            refine g_istore (pc := 145) (lv' := [(6, .int x17), (0, .ref (e_z E + x1)), (1, .int x2), (2, .int x3), (3, .int x4)]) dX12_swapPlaces_145 (Nat.le_of_ble_eq_true rfl) rfl ?_
            refine g_aload_n (pc := 147) dX12_swapPlaces_147 1 rfl ?_
            refine g_getr (pc := 148) cl12 (Nat.le_of_ble_eq_true rfl) fk1552 (fun _ _ _ => rfl) dX12_swapPlaces_148 (fun x18 => ?_)
            refine g_iload (pc := 151) dX12_swapPlaces_151 0 rfl ?_
            refine g_iload_n (pc := 153) dX12_swapPlaces_153 3 rfl ?_
            refine g_iadd (pc := 154) dX12_swapPlaces_154 ?_
            refine g_iald (pc := 155) dX12_swapPlaces_155 (fun x19 => ?_)
            refine g_istore (pc := 156) (lv' := [(7, .int x19), (6, .int x17), (0, .ref (e_z E + x1)), (1, .int x2), (2, .int x3), (3, .int x4)]) dX12_swapPlaces_156 (Nat.le_of_ble_eq_true rfl) rfl ?_
            refine g_aload_n (pc := 158) dX12_swapPlaces_158 2 rfl ?_
            refine g_getr (pc := 159) cl12 (Nat.le_of_ble_eq_true rfl) fk1552 (fun _ _ _ => rfl) dX12_swapPlaces_159 (fun x20 => ?_)
            refine g_iload (pc := 162) dX12_swapPlaces_162 1 rfl ?_
            refine g_iload_n (pc := 164) dX12_swapPlaces_164 4 rfl ?_
            refine g_iadd (pc := 165) dX12_swapPlaces_165 ?_
            refine g_aload_n (pc := 166) dX12_swapPlaces_166 2 rfl ?_
            refine g_getr (pc := 167) cl12 (Nat.le_of_ble_eq_true rfl) fk1552 (fun _ _ _ => rfl) dX12_swapPlaces_167 (fun x21 => ?_)
            refine g_iload (pc := 170) dX12_swapPlaces_170 1 rfl ?_
            refine g_iload_n (pc := 172) dX12_swapPlaces_172 5 rfl ?_
            refine g_iadd (pc := 173) dX12_swapPlaces_173 ?_
            refine g_iald (pc := 174) dX12_swapPlaces_174 (fun x22 => ?_)
            refine g_iast (pc := 175) dX12_swapPlaces_175 (fun h9 => ?_)
            refine g_aload_n (pc := 176) dX12_swapPlaces_176 2 rfl ?_
            refine g_getr (pc := 177) cl12 (Nat.le_of_ble_eq_true rfl) fk1552 (fun _ _ _ => rfl) dX12_swapPlaces_177 (fun x23 => ?_)
            refine g_iload (pc := 180) dX12_swapPlaces_180 1 rfl ?_
            refine g_iload_n (pc := 182) dX12_swapPlaces_182 5 rfl ?_
            refine g_iadd (pc := 183) dX12_swapPlaces_183 ?_
            refine g_iload (pc := 184) dX12_swapPlaces_184 0 rfl ?_
            refine g_iast (pc := 186) dX12_swapPlaces_186 (fun h10 => ?_)
            refine g_aload_n (pc := 187) dX12_swapPlaces_187 2 rfl ?_
            refine g_getr (pc := 188) cl12 (Nat.le_of_ble_eq_true rfl) fk1552 (fun _ _ _ => rfl) dX12_swapPlaces_188 (fun x24 => ?_)
            refine g_iload (pc := 191) dX12_swapPlaces_191 1 rfl ?_
            refine g_iload_n (pc := 193) dX12_swapPlaces_193 4 rfl ?_
            refine g_iadd (pc := 194) dX12_swapPlaces_194 ?_
            refine g_iald (pc := 195) dX12_swapPlaces_195 (fun x25 => ?_)
            exact g_ret (pc := 196) rfl (isRet_i _) dX12_swapPlaces_196 rfl
          · refine g_iconst (pc := 131) dX12_swapPlaces_131 ci_0 ?_
            exact g_ret (pc := 132) rfl (isRet_i _) dX12_swapPlaces_132 rfl
        refine g_join (fun k => ∀ (h11 : aH), J_X12_swapPlaces l E n0 m0 116 [(0, .ref (e_z E + x1)), (1, .int x2), (2, .int x3), (3, .int x4)] [.ref (e_z E + x1)] h11 (k h11)) (fun h11 => ?_) (fun k116 hk116 => ?_)
        · refine g_iconst (pc := 116) dX12_swapPlaces_116 ci_3 ?_
          refine g_goto (pc := 117) (tgt := 121) dX12_swapPlaces_117 rfl ?_
          exact hk121 (3 : Int32) h11
        refine g_icmpeq (pc := 107) (tgt := 116) dX12_swapPlaces_107 rfl ?_ ?_
        · refine g_lv [1, 2, 3, 4] rfl ?_
          exact hk116 h5
        · refine g_iload_n (pc := 110) dX12_swapPlaces_110 4 rfl ?_
          refine g_iload (pc := 111) dX12_swapPlaces_111 0 rfl ?_
          refine g_icmpne (pc := 113) (tgt := 120) dX12_swapPlaces_113 rfl ?_ ?_
          · refine g_lv [1, 2, 3, 4] rfl ?_
            exact hk116 h5
          · refine g_iconst (pc := 120) dX12_swapPlaces_120 ci_0 ?_
            refine g_lv [1, 2, 3, 4] rfl ?_
            exact hk121 (0 : Int32) h5
      · refine g_iconst (pc := 81) dX12_swapPlaces_81 ci_0 ?_
        exact g_ret (pc := 82) rfl (isRet_i _) dX12_swapPlaces_82 rfl
    refine g_ifne (pc := 54) (tgt := 61) dX12_swapPlaces_54 rfl ?_ ?_
    · refine g_iconst (pc := 57) dX12_swapPlaces_57 ci_1 ?_
      refine g_goto (pc := 58) (tgt := 71) dX12_swapPlaces_58 rfl ?_
      refine g_lv [1, 2, 3, 4] rfl ?_
      exact hk71 (1 : Int32) h2
    · refine g_iload_n (pc := 61) dX12_swapPlaces_61 3 rfl ?_
      refine g_iload_n (pc := 62) dX12_swapPlaces_62 4 rfl ?_
      refine g_icmpne (pc := 63) (tgt := 70) dX12_swapPlaces_63 rfl ?_ ?_
      · refine g_iconst (pc := 66) dX12_swapPlaces_66 ci_2 ?_
        refine g_goto (pc := 67) (tgt := 71) dX12_swapPlaces_67 rfl ?_
        refine g_lv [1, 2, 3, 4] rfl ?_
        exact hk71 (2 : Int32) h2
      · refine g_iconst (pc := 70) dX12_swapPlaces_70 ci_0 ?_
        refine g_lv [1, 2, 3, 4] rfl ?_
        exact hk71 (0 : Int32) h2
  refine g_join (fun k => ∀ (h12 : aH), J_X12_swapPlaces l E n0 m0 48 [(0, .ref (e_z E + x1)), (1, .int x2), (2, .int x3), (3, .int x4)] [] h12 (k h12)) (fun h12 => ?_) (fun k48 hk48 => ?_)
  · refine g_iconst (pc := 48) dX12_swapPlaces_48 ci_0 ?_
    exact hk49 (0 : Int32) h12
  refine g_ifeq (pc := 5) (tgt := 48) dX12_swapPlaces_5 rfl ?_ ?_
  · exact hk48 h1
  · refine g_iload_n (pc := 8) dX12_swapPlaces_8 2 rfl ?_
    refine g_i2l (pc := 9) dX12_swapPlaces_9 ?_
    refine g_lconst (pc := 10) dX12_swapPlaces_10 cl_0 ?_
    refine g_aload_n (pc := 11) dX12_swapPlaces_11 0 rfl ?_
    refine g_getr (pc := 12) cl12 (Nat.le_of_ble_eq_true rfl) fk1568 (fun _ _ _ => rfl) dX12_swapPlaces_12 (fun x26 => ?_)
    refine g_iload_n (pc := 15) dX12_swapPlaces_15 1 rfl ?_
    refine g_iald (pc := 16) dX12_swapPlaces_16 (fun x27 => ?_)
    refine g_iconst (pc := 17) dX12_swapPlaces_17 ci_1 ?_
    refine g_isub (pc := 18) dX12_swapPlaces_18 ?_
    refine g_i2l (pc := 19) dX12_swapPlaces_19 ?_
    refine g_bRi (pc := 20) (c_S (p_X12_in hl (x3.toInt64) (0 : Int64) ((x27 - (1 : Int32)).toInt64) h1) y_X12_in tw1782 dX12_swapPlaces_20 rfl (st := []) rfl (Nat.le_of_ble_eq_true rfl) (Nat.le_of_ble_eq_true rfl) (Nat.le_of_ble_eq_true rfl)) (fun x28 h13 => ?_)
    refine g_ifeq (pc := 23) (tgt := 48) dX12_swapPlaces_23 rfl ?_ ?_
    · exact hk48 h13
    · refine g_iload_n (pc := 26) dX12_swapPlaces_26 3 rfl ?_
      refine g_i2l (pc := 27) dX12_swapPlaces_27 ?_
      refine g_lconst (pc := 28) dX12_swapPlaces_28 cl_0 ?_
      refine g_aload_n (pc := 29) dX12_swapPlaces_29 0 rfl ?_
      refine g_getr (pc := 30) cl12 (Nat.le_of_ble_eq_true rfl) fk1568 (fun _ _ _ => rfl) dX12_swapPlaces_30 (fun x29 => ?_)
      refine g_iload_n (pc := 33) dX12_swapPlaces_33 1 rfl ?_
      refine g_iald (pc := 34) dX12_swapPlaces_34 (fun x30 => ?_)
      refine g_iconst (pc := 35) dX12_swapPlaces_35 ci_1 ?_
      refine g_isub (pc := 36) dX12_swapPlaces_36 ?_
      refine g_i2l (pc := 37) dX12_swapPlaces_37 ?_
      refine g_bRi (pc := 38) (c_S (p_X12_in hl (x4.toInt64) (0 : Int64) ((x30 - (1 : Int32)).toInt64) h13) y_X12_in tw1782 dX12_swapPlaces_38 rfl (st := []) rfl (Nat.le_of_ble_eq_true rfl) (Nat.le_of_ble_eq_true rfl) (Nat.le_of_ble_eq_true rfl)) (fun x31 h14 => ?_)
      refine g_ifeq (pc := 41) (tgt := 48) dX12_swapPlaces_41 rfl ?_ ?_
      · exact hk48 h14
      · refine g_iconst (pc := 44) dX12_swapPlaces_44 ci_1 ?_
        refine g_goto (pc := 45) (tgt := 49) dX12_swapPlaces_45 rfl ?_
        exact hk49 (1 : Int32) h14
theorem p_X12_swapPlaces {l : Launch} {E : aE} (hl : l.stackTraces = false) (x1 : Nat) (x2 : Int32) (x3 : Int32) (x4 : Int32) (h0 : aH) : MO (fun (v : Int32) => .inl (some (.int v))) l E yX12_swapPlaces (.code yX12_swapPlaces cX12_swapPlaces 8 (some .int)) 2 46 [.ref (e_z E + x1), .int x2, .int x3, .int x4] h0 (m_X12_swapPlaces x1 x2 x3 x4 h0) := g_met hl (by decide +kernel) (Nat.le_of_ble_eq_true rfl) (b_X12_swapPlaces hl _ _ x1 x2 x3 x4 h0)
theorem dX12_excuse_0 : decode cX12_excuse 0 = .ok (.aload_n 0, 1) := by decide +kernel
theorem dX12_excuse_1 : decode cX12_excuse 1 = .ok (.aload_n 0, 1) := by decide +kernel
theorem dX12_excuse_2 : decode cX12_excuse 2 = .ok (.iload_n 1, 1) := by decide +kernel
theorem dX12_excuse_3 : decode cX12_excuse 3 = .ok (.invokevirtual 353, 3) := by decide +kernel
theorem dX12_excuse_6 : decode cX12_excuse 6 = .ok (.ifCond .eq 7, 3) := by decide +kernel
theorem dX12_excuse_9 : decode cX12_excuse 9 = .ok (.iconst 0, 1) := by decide +kernel
theorem dX12_excuse_10 : decode cX12_excuse 10 = .ok (.goto 4, 3) := by decide +kernel
theorem dX12_excuse_13 : decode cX12_excuse 13 = .ok (.iconst 1, 1) := by decide +kernel
theorem dX12_excuse_14 : decode cX12_excuse 14 = .ok (.putfield 166, 3) := by decide +kernel
theorem dX12_excuse_17 : decode cX12_excuse 17 = .ok (.aload_n 0, 1) := by decide +kernel
theorem dX12_excuse_18 : decode cX12_excuse 18 = .ok (.getfield 166, 3) := by decide +kernel
theorem dX12_excuse_21 : decode cX12_excuse 21 = .ok (.ifCond .le 5, 3) := by decide +kernel
theorem dX12_excuse_24 : decode cX12_excuse 24 = .ok (.iconst 0, 1) := by decide +kernel
theorem dX12_excuse_25 : decode cX12_excuse 25 = .ok (.ireturn, 1) := by decide +kernel
theorem dX12_excuse_26 : decode cX12_excuse 26 = .ok (.aload_n 0, 1) := by decide +kernel
theorem dX12_excuse_27 : decode cX12_excuse 27 = .ok (.invokevirtual 476, 3) := by decide +kernel
theorem dX12_excuse_30 : decode cX12_excuse 30 = .ok (.aload_n 0, 1) := by decide +kernel
theorem dX12_excuse_31 : decode cX12_excuse 31 = .ok (.getfield 7, 3) := by decide +kernel
theorem dX12_excuse_34 : decode cX12_excuse 34 = .ok (.bipush 26, 2) := by decide +kernel
theorem dX12_excuse_36 : decode cX12_excuse 36 = .ok (.iload_n 1, 1) := by decide +kernel
theorem dX12_excuse_37 : decode cX12_excuse 37 = .ok (.iadd, 1) := by decide +kernel
theorem dX12_excuse_38 : decode cX12_excuse 38 = .ok (.iload_n 2, 1) := by decide +kernel
theorem dX12_excuse_39 : decode cX12_excuse 39 = .ok (.ifCond .eq 7, 3) := by decide +kernel
theorem dX12_excuse_42 : decode cX12_excuse 42 = .ok (.iconst 1, 1) := by decide +kernel
theorem dX12_excuse_43 : decode cX12_excuse 43 = .ok (.goto 4, 3) := by decide +kernel
theorem dX12_excuse_46 : decode cX12_excuse 46 = .ok (.iconst 0, 1) := by decide +kernel
theorem dX12_excuse_47 : decode cX12_excuse 47 = .ok (.iastore, 1) := by decide +kernel
theorem dX12_excuse_48 : decode cX12_excuse 48 = .ok (.iconst 0, 1) := by decide +kernel
theorem dX12_excuse_49 : decode cX12_excuse 49 = .ok (.istore_n 3, 1) := by decide +kernel
theorem dX12_excuse_50 : decode cX12_excuse 50 = .ok (.iconst 0, 1) := by decide +kernel
theorem dX12_excuse_51 : decode cX12_excuse 51 = .ok (.istore 4, 2) := by decide +kernel
theorem dX12_excuse_53 : decode cX12_excuse 53 = .ok (.iload 4, 2) := by decide +kernel
theorem dX12_excuse_55 : decode cX12_excuse 55 = .ok (.aload_n 0, 1) := by decide +kernel
theorem dX12_excuse_56 : decode cX12_excuse 56 = .ok (.getfield 325, 3) := by decide +kernel
theorem dX12_excuse_59 : decode cX12_excuse 59 = .ok (.if_icmp .ge 22, 3) := by decide +kernel
theorem dX12_excuse_62 : decode cX12_excuse 62 = .ok (.iload_n 3, 1) := by decide +kernel
theorem dX12_excuse_63 : decode cX12_excuse 63 = .ok (.aload_n 0, 1) := by decide +kernel
theorem dX12_excuse_64 : decode cX12_excuse 64 = .ok (.getfield 7, 3) := by decide +kernel
theorem dX12_excuse_67 : decode cX12_excuse 67 = .ok (.bipush 26, 2) := by decide +kernel
theorem dX12_excuse_69 : decode cX12_excuse 69 = .ok (.iload 4, 2) := by decide +kernel
theorem dX12_excuse_71 : decode cX12_excuse 71 = .ok (.iadd, 1) := by decide +kernel
theorem dX12_excuse_72 : decode cX12_excuse 72 = .ok (.iaload, 1) := by decide +kernel
theorem dX12_excuse_73 : decode cX12_excuse 73 = .ok (.iadd, 1) := by decide +kernel
theorem dX12_excuse_74 : decode cX12_excuse 74 = .ok (.istore_n 3, 1) := by decide +kernel
theorem dX12_excuse_75 : decode cX12_excuse 75 = .ok (.iinc 4 1, 3) := by decide +kernel
theorem dX12_excuse_78 : decode cX12_excuse 78 = .ok (.goto (-25), 3) := by decide +kernel
theorem dX12_excuse_81 : decode cX12_excuse 81 = .ok (.iload_n 3, 1) := by decide +kernel
theorem dX12_excuse_82 : decode cX12_excuse 82 = .ok (.ireturn, 1) := by decide +kernel
abbrev M_X12_excuse : aM := (yX12_excuse.cls, cX12_excuse, 5, (some .int), [], yX12_excuse.name == "<init>")
abbrev J_X12_excuse (l : Launch) (E : aE) (n0 m0 : Nat) := GG (fun (v : Int32) => .inl (some (.int v))) l E M_X12_excuse 2 46 n0 m0
theorem b_X12_excuse {l : Launch} {E : aE} (hl : l.stackTraces = false) (n0 m0 : Nat) (x1 : Nat) (x2 : Int32) (x3 : Int32) (h0 : aH) : J_X12_excuse l E n0 m0 0 [(0, .ref (e_z E + x1)), (1, .int x2), (2, .int x3)] [] h0 (m_X12_excuse x1 x2 x3 h0) := by
  unfold m_X12_excuse
  refine g_aload_n (pc := 0) dX12_excuse_0 0 rfl ?_
  refine g_aload_n (pc := 1) dX12_excuse_1 0 rfl ?_
  refine g_iload_n (pc := 2) dX12_excuse_2 1 rfl ?_
  refine g_gS (fun hs => ?_)
  refine g_bRi (pc := 3) (c_V cl12 hs (p_X12_isPerson hl x1 x2 h0) y_X12_isPerson tw1927 dX12_excuse_3 rfl (st := [.ref (e_z E + x1)]) rfl (Nat.le_of_ble_eq_true rfl) (Nat.le_of_ble_eq_true rfl) (Nat.le_of_ble_eq_true rfl)) (fun x4 h1 => ?_)
  refine g_join (fun k => ∀ (x5 : Int32) (h2 : aH), J_X12_excuse l E n0 m0 14 [(0, .ref (e_z E + x1)), (1, .int x2), (2, .int x3)] [.int x5, .ref (e_z E + x1)] h2 (k x5 h2)) (fun x5 h2 => ?_) (fun k14 hk14 => ?_)
  · refine g_puti (pc := 14) cl12 (Nat.le_of_ble_eq_true rfl) (Or.inl ⟨rfl, fk1551⟩) (fun _ _ _ => rfl) (fun _ => ⟨rfl, rfl⟩) dX12_excuse_14 (fun h3 => ?_)
    refine g_aload_n (pc := 17) dX12_excuse_17 0 rfl ?_
    refine g_geti (pc := 18) cl12 (Nat.le_of_ble_eq_true rfl) fk1551 (fun _ _ _ => rfl) dX12_excuse_18 (fun x6 => ?_)
    refine g_ifle (pc := 21) (tgt := 26) dX12_excuse_21 rfl ?_ ?_
    · refine g_aload_n (pc := 26) dX12_excuse_26 0 rfl ?_
      refine g_gS (fun hs => ?_)
      refine g_bRv (pc := 27) (c_V cl12 hs (p_X12_keeps hl x1 h3) y_X12_keeps tw2216 dX12_excuse_27 rfl (st := []) rfl (Nat.le_of_ble_eq_true rfl) (Nat.le_of_ble_eq_true rfl) (Nat.le_of_ble_eq_true rfl)) (fun _ h4 => ?_)
      refine g_aload_n (pc := 30) dX12_excuse_30 0 rfl ?_
      refine g_getr (pc := 31) cl12 (Nat.le_of_ble_eq_true rfl) fk1552 (fun _ _ _ => rfl) dX12_excuse_31 (fun x7 => ?_)
      refine g_bipush (pc := 34) dX12_excuse_34 cb_26 ?_
      refine g_iload_n (pc := 36) dX12_excuse_36 1 rfl ?_
      refine g_iadd (pc := 37) dX12_excuse_37 ?_
      refine g_iload_n (pc := 38) dX12_excuse_38 2 rfl ?_
      refine g_join (fun k => ∀ (x8 : Int32) (h5 : aH), J_X12_excuse l E n0 m0 47 [(0, .ref (e_z E + x1))] [.int x8, .int ((26 : Int32) + x2), .ref (e_z E + x7)] h5 (k x8 h5)) (fun x8 h5 => ?_) (fun k47 hk47 => ?_)
      · refine g_iast (pc := 47) dX12_excuse_47 (fun h6 => ?_)
        refine g_iconst (pc := 48) dX12_excuse_48 ci_0 ?_
        refine g_istore_n (pc := 49) (lv' := [(3, .int (0 : Int32)), (0, .ref (e_z E + x1))]) dX12_excuse_49 (Nat.le_of_ble_eq_true rfl) rfl ?_
        refine g_iconst (pc := 50) dX12_excuse_50 ci_0 ?_
        refine g_istore (pc := 51) (lv' := [(4, .int (0 : Int32)), (3, .int (0 : Int32)), (0, .ref (e_z E + x1))]) dX12_excuse_51 (Nat.le_of_ble_eq_true rfl) rfl ?_
        refine g_join (fun k => ∀ (x9 : Int32) (h7 : aH), J_X12_excuse l E n0 m0 81 [(3, .int x9)] [] h7 (k x9 h7)) (fun x9 h7 => ?_) (fun k81 hk81 => ?_)
        · refine g_iload_n (pc := 81) dX12_excuse_81 0 rfl ?_
          exact g_ret (pc := 82) rfl (isRet_i _) dX12_excuse_82 rfl
        refine g_lv [2, 1, 0] rfl ?_
        refine g_loop2 (F := (m_X12_excuse_L53 x1 k81)) (fun x10 x11 => [(0, .ref (e_z E + x1)), (3, .int x10), (4, .int x11)]) (fun r53 hr53 x10 x11 h8 => ?_) _ _ _ _
        unfold m_X12_excuse_L53
        refine g_iload (pc := 53) dX12_excuse_53 2 rfl ?_
        refine g_aload_n (pc := 55) dX12_excuse_55 0 rfl ?_
        refine g_geti (pc := 56) cl12 (Nat.le_of_ble_eq_true rfl) fk1559 (fun _ _ _ => rfl) dX12_excuse_56 (fun x12 => ?_)
        refine g_icmpge (pc := 59) (tgt := 81) dX12_excuse_59 rfl ?_ ?_
        · refine g_iload_n (pc := 62) dX12_excuse_62 1 rfl ?_
          refine g_aload_n (pc := 63) dX12_excuse_63 0 rfl ?_
          refine g_getr (pc := 64) cl12 (Nat.le_of_ble_eq_true rfl) fk1552 (fun _ _ _ => rfl) dX12_excuse_64 (fun x13 => ?_)
          refine g_bipush (pc := 67) dX12_excuse_67 cb_26 ?_
          refine g_iload (pc := 69) dX12_excuse_69 2 rfl ?_
          refine g_iadd (pc := 71) dX12_excuse_71 ?_
          refine g_iald (pc := 72) dX12_excuse_72 (fun x14 => ?_)
          refine g_iadd (pc := 73) dX12_excuse_73 ?_
          refine g_topi (fun x15 => ?_)
          refine g_istore_n (pc := 74) (lv' := [(3, .int x15), (0, .ref (e_z E + x1)), (4, .int x11)]) dX12_excuse_74 (Nat.le_of_ble_eq_true rfl) rfl ?_
          refine g_iincN (pc := 75) dX12_excuse_75 2 rfl ci_1 (Nat.le_of_ble_eq_true rfl) (fun x16 => ?_)
          refine g_lvr (lv' := [(4, .int x16), (3, .int x15), (0, .ref (e_z E + x1))]) rfl ?_
          refine g_goto (pc := 78) (tgt := 53) dX12_excuse_78 rfl ?_
          refine g_lv [2, 1, 0] rfl ?_
          exact hr53 x15 x16 h8
        · refine g_lv [1] rfl ?_
          exact hk81 x10 h8
      refine g_ifeq (pc := 39) (tgt := 46) dX12_excuse_39 rfl ?_ ?_
      · refine g_iconst (pc := 46) dX12_excuse_46 ci_0 ?_
        refine g_lv [0] rfl ?_
        exact hk47 (0 : Int32) h4
      · refine g_iconst (pc := 42) dX12_excuse_42 ci_1 ?_
        refine g_goto (pc := 43) (tgt := 47) dX12_excuse_43 rfl ?_
        refine g_lv [0] rfl ?_
        exact hk47 (1 : Int32) h4
    · refine g_iconst (pc := 24) dX12_excuse_24 ci_0 ?_
      exact g_ret (pc := 25) rfl (isRet_i _) dX12_excuse_25 rfl
  refine g_ifeq (pc := 6) (tgt := 13) dX12_excuse_6 rfl ?_ ?_
  · refine g_iconst (pc := 13) dX12_excuse_13 ci_1 ?_
    exact hk14 (1 : Int32) h1
  · refine g_iconst (pc := 9) dX12_excuse_9 ci_0 ?_
    refine g_goto (pc := 10) (tgt := 14) dX12_excuse_10 rfl ?_
    exact hk14 (0 : Int32) h1
theorem p_X12_excuse {l : Launch} {E : aE} (hl : l.stackTraces = false) (x1 : Nat) (x2 : Int32) (x3 : Int32) (h0 : aH) : MO (fun (v : Int32) => .inl (some (.int v))) l E yX12_excuse (.code yX12_excuse cX12_excuse 5 (some .int)) 2 46 [.ref (e_z E + x1), .int x2, .int x3] h0 (m_X12_excuse x1 x2 x3 h0) := g_met hl (by decide +kernel) (Nat.le_of_ble_eq_true rfl) (b_X12_excuse hl _ _ x1 x2 x3 h0)
theorem dX12_setService_0 : decode cX12_setService 0 = .ok (.aload_n 0, 1) := by decide +kernel
theorem dX12_setService_1 : decode cX12_setService 1 = .ok (.iload_n 1, 1) := by decide +kernel
theorem dX12_setService_2 : decode cX12_setService 2 = .ok (.i2l, 1) := by decide +kernel
theorem dX12_setService_3 : decode cX12_setService 3 = .ok (.lconst 0, 1) := by decide +kernel
theorem dX12_setService_4 : decode cX12_setService 4 = .ok (.aload_n 0, 1) := by decide +kernel
theorem dX12_setService_5 : decode cX12_setService 5 = .ok (.getfield 331, 3) := by decide +kernel
theorem dX12_setService_8 : decode cX12_setService 8 = .ok (.iconst 1, 1) := by decide +kernel
theorem dX12_setService_9 : decode cX12_setService 9 = .ok (.isub, 1) := by decide +kernel
theorem dX12_setService_10 : decode cX12_setService 10 = .ok (.i2l, 1) := by decide +kernel
theorem dX12_setService_11 : decode cX12_setService 11 = .ok (.invokestatic 176, 3) := by decide +kernel
theorem dX12_setService_14 : decode cX12_setService 14 = .ok (.ifCond .ne 7, 3) := by decide +kernel
theorem dX12_setService_17 : decode cX12_setService 17 = .ok (.iconst 1, 1) := by decide +kernel
theorem dX12_setService_18 : decode cX12_setService 18 = .ok (.goto 16, 3) := by decide +kernel
theorem dX12_setService_21 : decode cX12_setService 21 = .ok (.aload_n 0, 1) := by decide +kernel
theorem dX12_setService_22 : decode cX12_setService 22 = .ok (.iload_n 1, 1) := by decide +kernel
theorem dX12_setService_23 : decode cX12_setService 23 = .ok (.invokevirtual 437, 3) := by decide +kernel
theorem dX12_setService_26 : decode cX12_setService 26 = .ok (.ifCond .eq 7, 3) := by decide +kernel
theorem dX12_setService_29 : decode cX12_setService 29 = .ok (.iconst 2, 1) := by decide +kernel
theorem dX12_setService_30 : decode cX12_setService 30 = .ok (.goto 4, 3) := by decide +kernel
theorem dX12_setService_33 : decode cX12_setService 33 = .ok (.iconst 0, 1) := by decide +kernel
theorem dX12_setService_34 : decode cX12_setService 34 = .ok (.putfield 166, 3) := by decide +kernel
theorem dX12_setService_37 : decode cX12_setService 37 = .ok (.aload_n 0, 1) := by decide +kernel
theorem dX12_setService_38 : decode cX12_setService 38 = .ok (.getfield 166, 3) := by decide +kernel
theorem dX12_setService_41 : decode cX12_setService 41 = .ok (.ifCond .le 5, 3) := by decide +kernel
theorem dX12_setService_44 : decode cX12_setService 44 = .ok (.iconst 0, 1) := by decide +kernel
theorem dX12_setService_45 : decode cX12_setService 45 = .ok (.ireturn, 1) := by decide +kernel
theorem dX12_setService_46 : decode cX12_setService 46 = .ok (.aload_n 0, 1) := by decide +kernel
theorem dX12_setService_47 : decode cX12_setService 47 = .ok (.invokevirtual 476, 3) := by decide +kernel
theorem dX12_setService_50 : decode cX12_setService 50 = .ok (.aload_n 0, 1) := by decide +kernel
theorem dX12_setService_51 : decode cX12_setService 51 = .ok (.getfield 7, 3) := by decide +kernel
theorem dX12_setService_54 : decode cX12_setService 54 = .ok (.sipush 284, 3) := by decide +kernel
theorem dX12_setService_57 : decode cX12_setService 57 = .ok (.iconst 3, 1) := by decide +kernel
theorem dX12_setService_58 : decode cX12_setService 58 = .ok (.iload_n 1, 1) := by decide +kernel
theorem dX12_setService_59 : decode cX12_setService 59 = .ok (.imul, 1) := by decide +kernel
theorem dX12_setService_60 : decode cX12_setService 60 = .ok (.iadd, 1) := by decide +kernel
theorem dX12_setService_61 : decode cX12_setService 61 = .ok (.iconst 1, 1) := by decide +kernel
theorem dX12_setService_62 : decode cX12_setService 62 = .ok (.iadd, 1) := by decide +kernel
theorem dX12_setService_63 : decode cX12_setService 63 = .ok (.iload_n 2, 1) := by decide +kernel
theorem dX12_setService_64 : decode cX12_setService 64 = .ok (.ifCond .eq 7, 3) := by decide +kernel
theorem dX12_setService_67 : decode cX12_setService 67 = .ok (.iconst 0, 1) := by decide +kernel
theorem dX12_setService_68 : decode cX12_setService 68 = .ok (.goto 4, 3) := by decide +kernel
theorem dX12_setService_71 : decode cX12_setService 71 = .ok (.iconst 1, 1) := by decide +kernel
theorem dX12_setService_72 : decode cX12_setService 72 = .ok (.iastore, 1) := by decide +kernel
theorem dX12_setService_73 : decode cX12_setService 73 = .ok (.iconst 0, 1) := by decide +kernel
theorem dX12_setService_74 : decode cX12_setService 74 = .ok (.istore_n 3, 1) := by decide +kernel
theorem dX12_setService_75 : decode cX12_setService 75 = .ok (.iconst 0, 1) := by decide +kernel
theorem dX12_setService_76 : decode cX12_setService 76 = .ok (.istore 4, 2) := by decide +kernel
theorem dX12_setService_78 : decode cX12_setService 78 = .ok (.iload 4, 2) := by decide +kernel
theorem dX12_setService_80 : decode cX12_setService 80 = .ok (.aload_n 0, 1) := by decide +kernel
theorem dX12_setService_81 : decode cX12_setService 81 = .ok (.getfield 331, 3) := by decide +kernel
theorem dX12_setService_84 : decode cX12_setService 84 = .ok (.if_icmp .ge 26, 3) := by decide +kernel
theorem dX12_setService_87 : decode cX12_setService 87 = .ok (.iload_n 3, 1) := by decide +kernel
theorem dX12_setService_88 : decode cX12_setService 88 = .ok (.aload_n 0, 1) := by decide +kernel
theorem dX12_setService_89 : decode cX12_setService 89 = .ok (.iload 4, 2) := by decide +kernel
theorem dX12_setService_91 : decode cX12_setService 91 = .ok (.invokevirtual 434, 3) := by decide +kernel
theorem dX12_setService_94 : decode cX12_setService 94 = .ok (.ifCond .eq 7, 3) := by decide +kernel
theorem dX12_setService_97 : decode cX12_setService 97 = .ok (.iconst 0, 1) := by decide +kernel
theorem dX12_setService_98 : decode cX12_setService 98 = .ok (.goto 4, 3) := by decide +kernel
theorem dX12_setService_101 : decode cX12_setService 101 = .ok (.iconst 1, 1) := by decide +kernel
theorem dX12_setService_102 : decode cX12_setService 102 = .ok (.iadd, 1) := by decide +kernel
theorem dX12_setService_103 : decode cX12_setService 103 = .ok (.istore_n 3, 1) := by decide +kernel
theorem dX12_setService_104 : decode cX12_setService 104 = .ok (.iinc 4 1, 3) := by decide +kernel
theorem dX12_setService_107 : decode cX12_setService 107 = .ok (.goto (-29), 3) := by decide +kernel
theorem dX12_setService_110 : decode cX12_setService 110 = .ok (.iload_n 3, 1) := by decide +kernel
theorem dX12_setService_111 : decode cX12_setService 111 = .ok (.ireturn, 1) := by decide +kernel
abbrev M_X12_setService : aM := (yX12_setService.cls, cX12_setService, 5, (some .int), [], yX12_setService.name == "<init>")
abbrev J_X12_setService (l : Launch) (E : aE) (n0 m0 : Nat) := GG (fun (v : Int32) => .inl (some (.int v))) l E M_X12_setService 1 25 n0 m0
theorem b_X12_setService {l : Launch} {E : aE} (hl : l.stackTraces = false) (n0 m0 : Nat) (x1 : Nat) (x2 : Int32) (x3 : Int32) (h0 : aH) : J_X12_setService l E n0 m0 0 [(0, .ref (e_z E + x1)), (1, .int x2), (2, .int x3)] [] h0 (m_X12_setService x1 x2 x3 h0) := by
  unfold m_X12_setService
  refine g_aload_n (pc := 0) dX12_setService_0 0 rfl ?_
  refine g_iload_n (pc := 1) dX12_setService_1 1 rfl ?_
  refine g_i2l (pc := 2) dX12_setService_2 ?_
  refine g_lconst (pc := 3) dX12_setService_3 cl_0 ?_
  refine g_aload_n (pc := 4) dX12_setService_4 0 rfl ?_
  refine g_geti (pc := 5) cl12 (Nat.le_of_ble_eq_true rfl) fk1561 (fun _ _ _ => rfl) dX12_setService_5 (fun x4 => ?_)
  refine g_iconst (pc := 8) dX12_setService_8 ci_1 ?_
  refine g_isub (pc := 9) dX12_setService_9 ?_
  refine g_i2l (pc := 10) dX12_setService_10 ?_
  refine g_bRi (pc := 11) (c_S (p_X12_in hl (x2.toInt64) (0 : Int64) ((x4 - (1 : Int32)).toInt64) h0) y_X12_in tw1782 dX12_setService_11 rfl (st := [.ref (e_z E + x1)]) rfl (Nat.le_of_ble_eq_true rfl) (Nat.le_of_ble_eq_true rfl) (Nat.le_of_ble_eq_true rfl)) (fun x5 h1 => ?_)
  refine g_join (fun k => ∀ (x6 : Int32) (h2 : aH), J_X12_setService l E n0 m0 34 [(0, .ref (e_z E + x1)), (1, .int x2), (2, .int x3)] [.int x6, .ref (e_z E + x1)] h2 (k x6 h2)) (fun x6 h2 => ?_) (fun k34 hk34 => ?_)
  · refine g_puti (pc := 34) cl12 (Nat.le_of_ble_eq_true rfl) (Or.inl ⟨rfl, fk1551⟩) (fun _ _ _ => rfl) (fun _ => ⟨rfl, rfl⟩) dX12_setService_34 (fun h3 => ?_)
    refine g_aload_n (pc := 37) dX12_setService_37 0 rfl ?_
    refine g_geti (pc := 38) cl12 (Nat.le_of_ble_eq_true rfl) fk1551 (fun _ _ _ => rfl) dX12_setService_38 (fun x7 => ?_)
    refine g_ifle (pc := 41) (tgt := 46) dX12_setService_41 rfl ?_ ?_
    · refine g_aload_n (pc := 46) dX12_setService_46 0 rfl ?_
      refine g_gS (fun hs => ?_)
      refine g_bRv (pc := 47) (c_V cl12 hs (p_X12_keeps hl x1 h3) y_X12_keeps tw2216 dX12_setService_47 rfl (st := []) rfl (Nat.le_of_ble_eq_true rfl) (Nat.le_of_ble_eq_true rfl) (Nat.le_of_ble_eq_true rfl)) (fun _ h4 => ?_)
      refine g_aload_n (pc := 50) dX12_setService_50 0 rfl ?_
      refine g_getr (pc := 51) cl12 (Nat.le_of_ble_eq_true rfl) fk1552 (fun _ _ _ => rfl) dX12_setService_51 (fun x8 => ?_)
      refine g_sipush (pc := 54) dX12_setService_54 cs_284 ?_
      refine g_iconst (pc := 57) dX12_setService_57 ci_3 ?_
      refine g_iload_n (pc := 58) dX12_setService_58 1 rfl ?_
      refine g_imul (pc := 59) dX12_setService_59 ?_
      refine g_iadd (pc := 60) dX12_setService_60 ?_
      refine g_iconst (pc := 61) dX12_setService_61 ci_1 ?_
      refine g_iadd (pc := 62) dX12_setService_62 ?_
      refine g_iload_n (pc := 63) dX12_setService_63 2 rfl ?_
      refine g_join (fun k => ∀ (x9 : Int32) (h5 : aH), J_X12_setService l E n0 m0 72 [(0, .ref (e_z E + x1))] [.int x9, .int (((284 : Int32) + ((3 : Int32) * x2)) + (1 : Int32)), .ref (e_z E + x8)] h5 (k x9 h5)) (fun x9 h5 => ?_) (fun k72 hk72 => ?_)
      · refine g_iast (pc := 72) dX12_setService_72 (fun h6 => ?_)
        refine g_iconst (pc := 73) dX12_setService_73 ci_0 ?_
        refine g_istore_n (pc := 74) (lv' := [(3, .int (0 : Int32)), (0, .ref (e_z E + x1))]) dX12_setService_74 (Nat.le_of_ble_eq_true rfl) rfl ?_
        refine g_iconst (pc := 75) dX12_setService_75 ci_0 ?_
        refine g_istore (pc := 76) (lv' := [(4, .int (0 : Int32)), (3, .int (0 : Int32)), (0, .ref (e_z E + x1))]) dX12_setService_76 (Nat.le_of_ble_eq_true rfl) rfl ?_
        refine g_join (fun k => ∀ (x10 : Int32) (h7 : aH), J_X12_setService l E n0 m0 110 [(3, .int x10)] [] h7 (k x10 h7)) (fun x10 h7 => ?_) (fun k110 hk110 => ?_)
        · refine g_iload_n (pc := 110) dX12_setService_110 0 rfl ?_
          exact g_ret (pc := 111) rfl (isRet_i _) dX12_setService_111 rfl
        refine g_lv [2, 1, 0] rfl ?_
        refine g_loop2 (F := (m_X12_setService_L78 x1 k110)) (fun x11 x12 => [(0, .ref (e_z E + x1)), (3, .int x11), (4, .int x12)]) (fun r78 hr78 x11 x12 h8 => ?_) _ _ _ _
        unfold m_X12_setService_L78
        refine g_iload (pc := 78) dX12_setService_78 2 rfl ?_
        refine g_aload_n (pc := 80) dX12_setService_80 0 rfl ?_
        refine g_geti (pc := 81) cl12 (Nat.le_of_ble_eq_true rfl) fk1561 (fun _ _ _ => rfl) dX12_setService_81 (fun x13 => ?_)
        refine g_icmpge (pc := 84) (tgt := 110) dX12_setService_84 rfl ?_ ?_
        · refine g_iload_n (pc := 87) dX12_setService_87 1 rfl ?_
          refine g_aload_n (pc := 88) dX12_setService_88 0 rfl ?_
          refine g_iload (pc := 89) dX12_setService_89 2 rfl ?_
          refine g_gS (fun hs => ?_)
          refine g_bRi (pc := 91) (c_V cl12 hs (p_X12_isRested hl x1 x12 h8) y_X12_isRested tw2089 dX12_setService_91 rfl (st := [.int x11]) rfl (Nat.le_of_ble_eq_true rfl) (Nat.le_of_ble_eq_true rfl) (Nat.le_of_ble_eq_true rfl)) (fun x14 h9 => ?_)
          refine g_join (fun k => ∀ (x15 : Int32) (h10 : aH), J_X12_setService l E n0 m0 102 [(0, .ref (e_z E + x1)), (4, .int x12)] [.int x15, .int x11] h10 (k x15 h10)) (fun x15 h10 => ?_) (fun k102 hk102 => ?_)
          · refine g_iadd (pc := 102) dX12_setService_102 ?_
            refine g_topi (fun x16 => ?_)
            refine g_istore_n (pc := 103) (lv' := [(3, .int x16), (0, .ref (e_z E + x1)), (4, .int x12)]) dX12_setService_103 (Nat.le_of_ble_eq_true rfl) rfl ?_
            refine g_iincN (pc := 104) dX12_setService_104 2 rfl ci_1 (Nat.le_of_ble_eq_true rfl) (fun x17 => ?_)
            refine g_lvr (lv' := [(4, .int x17), (3, .int x16), (0, .ref (e_z E + x1))]) rfl ?_
            refine g_goto (pc := 107) (tgt := 78) dX12_setService_107 rfl ?_
            refine g_lv [2, 1, 0] rfl ?_
            exact hr78 x16 x17 h10
          refine g_ifeq (pc := 94) (tgt := 101) dX12_setService_94 rfl ?_ ?_
          · refine g_iconst (pc := 101) dX12_setService_101 ci_1 ?_
            refine g_lv [0, 2] rfl ?_
            exact hk102 (1 : Int32) h9
          · refine g_iconst (pc := 97) dX12_setService_97 ci_0 ?_
            refine g_goto (pc := 98) (tgt := 102) dX12_setService_98 rfl ?_
            refine g_lv [0, 2] rfl ?_
            exact hk102 (0 : Int32) h9
        · refine g_lv [1] rfl ?_
          exact hk110 x11 h8
      refine g_ifeq (pc := 64) (tgt := 71) dX12_setService_64 rfl ?_ ?_
      · refine g_iconst (pc := 71) dX12_setService_71 ci_1 ?_
        refine g_lv [0] rfl ?_
        exact hk72 (1 : Int32) h4
      · refine g_iconst (pc := 67) dX12_setService_67 ci_0 ?_
        refine g_goto (pc := 68) (tgt := 72) dX12_setService_68 rfl ?_
        refine g_lv [0] rfl ?_
        exact hk72 (0 : Int32) h4
    · refine g_iconst (pc := 44) dX12_setService_44 ci_0 ?_
      exact g_ret (pc := 45) rfl (isRet_i _) dX12_setService_45 rfl
  refine g_ifne (pc := 14) (tgt := 21) dX12_setService_14 rfl ?_ ?_
  · refine g_iconst (pc := 17) dX12_setService_17 ci_1 ?_
    refine g_goto (pc := 18) (tgt := 34) dX12_setService_18 rfl ?_
    exact hk34 (1 : Int32) h1
  · refine g_aload_n (pc := 21) dX12_setService_21 0 rfl ?_
    refine g_iload_n (pc := 22) dX12_setService_22 1 rfl ?_
    refine g_gS (fun hs => ?_)
    refine g_bRi (pc := 23) (c_V cl12 hs (p_X12_isEngineOut hl x1 x2 h1) y_X12_isEngineOut tw2093 dX12_setService_23 rfl (st := [.ref (e_z E + x1)]) rfl (Nat.le_of_ble_eq_true rfl) (Nat.le_of_ble_eq_true rfl) (Nat.le_of_ble_eq_true rfl)) (fun x18 h11 => ?_)
    refine g_ifeq (pc := 26) (tgt := 33) dX12_setService_26 rfl ?_ ?_
    · refine g_iconst (pc := 33) dX12_setService_33 ci_0 ?_
      exact hk34 (0 : Int32) h11
    · refine g_iconst (pc := 29) dX12_setService_29 ci_2 ?_
      refine g_goto (pc := 30) (tgt := 34) dX12_setService_30 rfl ?_
      exact hk34 (2 : Int32) h11
theorem p_X12_setService {l : Launch} {E : aE} (hl : l.stackTraces = false) (x1 : Nat) (x2 : Int32) (x3 : Int32) (h0 : aH) : MO (fun (v : Int32) => .inl (some (.int v))) l E yX12_setService (.code yX12_setService cX12_setService 5 (some .int)) 1 25 [.ref (e_z E + x1), .int x2, .int x3] h0 (m_X12_setService x1 x2 x3 h0) := g_met hl (by decide +kernel) (Nat.le_of_ble_eq_true rfl) (b_X12_setService hl _ _ x1 x2 x3 h0)
theorem dX12_setTrust_0 : decode cX12_setTrust 0 = .ok (.aload_n 0, 1) := by decide +kernel
theorem dX12_setTrust_1 : decode cX12_setTrust 1 = .ok (.aload_n 0, 1) := by decide +kernel
theorem dX12_setTrust_2 : decode cX12_setTrust 2 = .ok (.iload_n 1, 1) := by decide +kernel
theorem dX12_setTrust_3 : decode cX12_setTrust 3 = .ok (.invokevirtual 353, 3) := by decide +kernel
theorem dX12_setTrust_6 : decode cX12_setTrust 6 = .ok (.ifCond .eq 11, 3) := by decide +kernel
theorem dX12_setTrust_9 : decode cX12_setTrust 9 = .ok (.aload_n 0, 1) := by decide +kernel
theorem dX12_setTrust_10 : decode cX12_setTrust 10 = .ok (.iload_n 2, 1) := by decide +kernel
theorem dX12_setTrust_11 : decode cX12_setTrust 11 = .ok (.invokevirtual 353, 3) := by decide +kernel
theorem dX12_setTrust_14 : decode cX12_setTrust 14 = .ok (.ifCond .ne 7, 3) := by decide +kernel
theorem dX12_setTrust_17 : decode cX12_setTrust 17 = .ok (.iconst 1, 1) := by decide +kernel
theorem dX12_setTrust_18 : decode cX12_setTrust 18 = .ok (.goto 25, 3) := by decide +kernel
theorem dX12_setTrust_21 : decode cX12_setTrust 21 = .ok (.iload_n 1, 1) := by decide +kernel
theorem dX12_setTrust_22 : decode cX12_setTrust 22 = .ok (.iload_n 2, 1) := by decide +kernel
theorem dX12_setTrust_23 : decode cX12_setTrust 23 = .ok (.if_icmp .eq 15, 3) := by decide +kernel
theorem dX12_setTrust_26 : decode cX12_setTrust 26 = .ok (.iload_n 3, 1) := by decide +kernel
theorem dX12_setTrust_27 : decode cX12_setTrust 27 = .ok (.i2l, 1) := by decide +kernel
theorem dX12_setTrust_28 : decode cX12_setTrust 28 = .ok (.lconst 0, 1) := by decide +kernel
theorem dX12_setTrust_29 : decode cX12_setTrust 29 = .ok (.ldc2_w 482, 3) := by decide +kernel
theorem dX12_setTrust_32 : decode cX12_setTrust 32 = .ok (.invokestatic 176, 3) := by decide +kernel
theorem dX12_setTrust_35 : decode cX12_setTrust 35 = .ok (.ifCond .ne 7, 3) := by decide +kernel
theorem dX12_setTrust_38 : decode cX12_setTrust 38 = .ok (.iconst 2, 1) := by decide +kernel
theorem dX12_setTrust_39 : decode cX12_setTrust 39 = .ok (.goto 4, 3) := by decide +kernel
theorem dX12_setTrust_42 : decode cX12_setTrust 42 = .ok (.iconst 0, 1) := by decide +kernel
theorem dX12_setTrust_43 : decode cX12_setTrust 43 = .ok (.putfield 166, 3) := by decide +kernel
theorem dX12_setTrust_46 : decode cX12_setTrust 46 = .ok (.aload_n 0, 1) := by decide +kernel
theorem dX12_setTrust_47 : decode cX12_setTrust 47 = .ok (.getfield 166, 3) := by decide +kernel
theorem dX12_setTrust_50 : decode cX12_setTrust 50 = .ok (.ifCond .le 5, 3) := by decide +kernel
theorem dX12_setTrust_53 : decode cX12_setTrust 53 = .ok (.iconst 0, 1) := by decide +kernel
theorem dX12_setTrust_54 : decode cX12_setTrust 54 = .ok (.ireturn, 1) := by decide +kernel
theorem dX12_setTrust_55 : decode cX12_setTrust 55 = .ok (.aload_n 0, 1) := by decide +kernel
theorem dX12_setTrust_56 : decode cX12_setTrust 56 = .ok (.invokevirtual 476, 3) := by decide +kernel
theorem dX12_setTrust_59 : decode cX12_setTrust 59 = .ok (.aload_n 0, 1) := by decide +kernel
theorem dX12_setTrust_60 : decode cX12_setTrust 60 = .ok (.getfield 7, 3) := by decide +kernel
theorem dX12_setTrust_63 : decode cX12_setTrust 63 = .ok (.bipush 50, 2) := by decide +kernel
theorem dX12_setTrust_65 : decode cX12_setTrust 65 = .ok (.bipush 12, 2) := by decide +kernel
theorem dX12_setTrust_67 : decode cX12_setTrust 67 = .ok (.iload_n 1, 1) := by decide +kernel
theorem dX12_setTrust_68 : decode cX12_setTrust 68 = .ok (.imul, 1) := by decide +kernel
theorem dX12_setTrust_69 : decode cX12_setTrust 69 = .ok (.iadd, 1) := by decide +kernel
theorem dX12_setTrust_70 : decode cX12_setTrust 70 = .ok (.iload_n 2, 1) := by decide +kernel
theorem dX12_setTrust_71 : decode cX12_setTrust 71 = .ok (.iadd, 1) := by decide +kernel
theorem dX12_setTrust_72 : decode cX12_setTrust 72 = .ok (.iaload, 1) := by decide +kernel
theorem dX12_setTrust_73 : decode cX12_setTrust 73 = .ok (.istore 4, 2) := by decide +kernel
theorem dX12_setTrust_75 : decode cX12_setTrust 75 = .ok (.aload_n 0, 1) := by decide +kernel
theorem dX12_setTrust_76 : decode cX12_setTrust 76 = .ok (.getfield 7, 3) := by decide +kernel
theorem dX12_setTrust_79 : decode cX12_setTrust 79 = .ok (.bipush 50, 2) := by decide +kernel
theorem dX12_setTrust_81 : decode cX12_setTrust 81 = .ok (.bipush 12, 2) := by decide +kernel
theorem dX12_setTrust_83 : decode cX12_setTrust 83 = .ok (.iload_n 1, 1) := by decide +kernel
theorem dX12_setTrust_84 : decode cX12_setTrust 84 = .ok (.imul, 1) := by decide +kernel
theorem dX12_setTrust_85 : decode cX12_setTrust 85 = .ok (.iadd, 1) := by decide +kernel
theorem dX12_setTrust_86 : decode cX12_setTrust 86 = .ok (.iload_n 2, 1) := by decide +kernel
theorem dX12_setTrust_87 : decode cX12_setTrust 87 = .ok (.iadd, 1) := by decide +kernel
theorem dX12_setTrust_88 : decode cX12_setTrust 88 = .ok (.iload_n 3, 1) := by decide +kernel
theorem dX12_setTrust_89 : decode cX12_setTrust 89 = .ok (.iastore, 1) := by decide +kernel
theorem dX12_setTrust_90 : decode cX12_setTrust 90 = .ok (.iload 4, 2) := by decide +kernel
theorem dX12_setTrust_92 : decode cX12_setTrust 92 = .ok (.ireturn, 1) := by decide +kernel
abbrev M_X12_setTrust : aM := (yX12_setTrust.cls, cX12_setTrust, 5, (some .int), [], yX12_setTrust.name == "<init>")
abbrev J_X12_setTrust (l : Launch) (E : aE) (n0 m0 : Nat) := GG (fun (v : Int32) => .inl (some (.int v))) l E M_X12_setTrust 2 46 n0 m0
theorem b_X12_setTrust {l : Launch} {E : aE} (hl : l.stackTraces = false) (n0 m0 : Nat) (x1 : Nat) (x2 : Int32) (x3 : Int32) (x4 : Int32) (h0 : aH) : J_X12_setTrust l E n0 m0 0 [(0, .ref (e_z E + x1)), (1, .int x2), (2, .int x3), (3, .int x4)] [] h0 (m_X12_setTrust x1 x2 x3 x4 h0) := by
  unfold m_X12_setTrust
  refine g_aload_n (pc := 0) dX12_setTrust_0 0 rfl ?_
  refine g_aload_n (pc := 1) dX12_setTrust_1 0 rfl ?_
  refine g_iload_n (pc := 2) dX12_setTrust_2 1 rfl ?_
  refine g_gS (fun hs => ?_)
  refine g_bRi (pc := 3) (c_V cl12 hs (p_X12_isPerson hl x1 x2 h0) y_X12_isPerson tw1927 dX12_setTrust_3 rfl (st := [.ref (e_z E + x1)]) rfl (Nat.le_of_ble_eq_true rfl) (Nat.le_of_ble_eq_true rfl) (Nat.le_of_ble_eq_true rfl)) (fun x5 h1 => ?_)
  refine g_join (fun k => ∀ (x6 : Int32) (h2 : aH), J_X12_setTrust l E n0 m0 43 [(0, .ref (e_z E + x1)), (1, .int x2), (2, .int x3), (3, .int x4)] [.int x6, .ref (e_z E + x1)] h2 (k x6 h2)) (fun x6 h2 => ?_) (fun k43 hk43 => ?_)
  · refine g_puti (pc := 43) cl12 (Nat.le_of_ble_eq_true rfl) (Or.inl ⟨rfl, fk1551⟩) (fun _ _ _ => rfl) (fun _ => ⟨rfl, rfl⟩) dX12_setTrust_43 (fun h3 => ?_)
    refine g_aload_n (pc := 46) dX12_setTrust_46 0 rfl ?_
    refine g_geti (pc := 47) cl12 (Nat.le_of_ble_eq_true rfl) fk1551 (fun _ _ _ => rfl) dX12_setTrust_47 (fun x7 => ?_)
    refine g_ifle (pc := 50) (tgt := 55) dX12_setTrust_50 rfl ?_ ?_
    · refine g_aload_n (pc := 55) dX12_setTrust_55 0 rfl ?_
      refine g_gS (fun hs => ?_)
      refine g_bRv (pc := 56) (c_V cl12 hs (p_X12_keeps hl x1 h3) y_X12_keeps tw2216 dX12_setTrust_56 rfl (st := []) rfl (Nat.le_of_ble_eq_true rfl) (Nat.le_of_ble_eq_true rfl) (Nat.le_of_ble_eq_true rfl)) (fun _ h4 => ?_)
      refine g_aload_n (pc := 59) dX12_setTrust_59 0 rfl ?_
      refine g_getr (pc := 60) cl12 (Nat.le_of_ble_eq_true rfl) fk1552 (fun _ _ _ => rfl) dX12_setTrust_60 (fun x8 => ?_)
      refine g_bipush (pc := 63) dX12_setTrust_63 cb_50 ?_
      refine g_bipush (pc := 65) dX12_setTrust_65 cb_12 ?_
      refine g_iload_n (pc := 67) dX12_setTrust_67 1 rfl ?_
      refine g_imul (pc := 68) dX12_setTrust_68 ?_
      refine g_iadd (pc := 69) dX12_setTrust_69 ?_
      refine g_iload_n (pc := 70) dX12_setTrust_70 2 rfl ?_
      refine g_iadd (pc := 71) dX12_setTrust_71 ?_
      refine g_iald (pc := 72) dX12_setTrust_72 (fun x9 => ?_)
      refine g_istore (pc := 73) (lv' := [(4, .int x9), (0, .ref (e_z E + x1)), (1, .int x2), (2, .int x3), (3, .int x4)]) dX12_setTrust_73 (Nat.le_of_ble_eq_true rfl) rfl ?_
      refine g_aload_n (pc := 75) dX12_setTrust_75 1 rfl ?_
      refine g_getr (pc := 76) cl12 (Nat.le_of_ble_eq_true rfl) fk1552 (fun _ _ _ => rfl) dX12_setTrust_76 (fun x10 => ?_)
      refine g_bipush (pc := 79) dX12_setTrust_79 cb_50 ?_
      refine g_bipush (pc := 81) dX12_setTrust_81 cb_12 ?_
      refine g_iload_n (pc := 83) dX12_setTrust_83 2 rfl ?_
      refine g_imul (pc := 84) dX12_setTrust_84 ?_
      refine g_iadd (pc := 85) dX12_setTrust_85 ?_
      refine g_iload_n (pc := 86) dX12_setTrust_86 3 rfl ?_
      refine g_iadd (pc := 87) dX12_setTrust_87 ?_
      refine g_iload_n (pc := 88) dX12_setTrust_88 4 rfl ?_
      refine g_iast (pc := 89) dX12_setTrust_89 (fun h5 => ?_)
      refine g_iload (pc := 90) dX12_setTrust_90 0 rfl ?_
      exact g_ret (pc := 92) rfl (isRet_i _) dX12_setTrust_92 rfl
    · refine g_iconst (pc := 53) dX12_setTrust_53 ci_0 ?_
      exact g_ret (pc := 54) rfl (isRet_i _) dX12_setTrust_54 rfl
  refine g_join (fun k => ∀ (h6 : aH), J_X12_setTrust l E n0 m0 17 [(0, .ref (e_z E + x1)), (1, .int x2), (2, .int x3), (3, .int x4)] [.ref (e_z E + x1)] h6 (k h6)) (fun h6 => ?_) (fun k17 hk17 => ?_)
  · refine g_iconst (pc := 17) dX12_setTrust_17 ci_1 ?_
    refine g_goto (pc := 18) (tgt := 43) dX12_setTrust_18 rfl ?_
    exact hk43 (1 : Int32) h6
  refine g_ifeq (pc := 6) (tgt := 17) dX12_setTrust_6 rfl ?_ ?_
  · exact hk17 h1
  · refine g_aload_n (pc := 9) dX12_setTrust_9 0 rfl ?_
    refine g_iload_n (pc := 10) dX12_setTrust_10 2 rfl ?_
    refine g_gS (fun hs => ?_)
    refine g_bRi (pc := 11) (c_V cl12 hs (p_X12_isPerson hl x1 x3 h1) y_X12_isPerson tw1927 dX12_setTrust_11 rfl (st := [.ref (e_z E + x1)]) rfl (Nat.le_of_ble_eq_true rfl) (Nat.le_of_ble_eq_true rfl) (Nat.le_of_ble_eq_true rfl)) (fun x11 h7 => ?_)
    refine g_ifne (pc := 14) (tgt := 21) dX12_setTrust_14 rfl ?_ ?_
    · exact hk17 h7
    · refine g_iload_n (pc := 21) dX12_setTrust_21 1 rfl ?_
      refine g_iload_n (pc := 22) dX12_setTrust_22 2 rfl ?_
      refine g_join (fun k => ∀ (h8 : aH), J_X12_setTrust l E n0 m0 38 [(0, .ref (e_z E + x1)), (1, .int x2), (2, .int x3), (3, .int x4)] [.ref (e_z E + x1)] h8 (k h8)) (fun h8 => ?_) (fun k38 hk38 => ?_)
      · refine g_iconst (pc := 38) dX12_setTrust_38 ci_2 ?_
        refine g_goto (pc := 39) (tgt := 43) dX12_setTrust_39 rfl ?_
        exact hk43 (2 : Int32) h8
      refine g_icmpeq (pc := 23) (tgt := 38) dX12_setTrust_23 rfl ?_ ?_
      · exact hk38 h7
      · refine g_iload_n (pc := 26) dX12_setTrust_26 3 rfl ?_
        refine g_i2l (pc := 27) dX12_setTrust_27 ?_
        refine g_lconst (pc := 28) dX12_setTrust_28 cl_0 ?_
        refine g_ldc2 (pc := 29) tw2252 dX12_setTrust_29 ?_
        refine g_bRi (pc := 32) (c_S (p_X12_in hl (x4.toInt64) (0 : Int64) (9 : Int64) h7) y_X12_in tw1782 dX12_setTrust_32 rfl (st := [.ref (e_z E + x1)]) rfl (Nat.le_of_ble_eq_true rfl) (Nat.le_of_ble_eq_true rfl) (Nat.le_of_ble_eq_true rfl)) (fun x12 h9 => ?_)
        refine g_ifne (pc := 35) (tgt := 42) dX12_setTrust_35 rfl ?_ ?_
        · exact hk38 h9
        · refine g_iconst (pc := 42) dX12_setTrust_42 ci_0 ?_
          exact hk43 (0 : Int32) h9
theorem p_X12_setTrust {l : Launch} {E : aE} (hl : l.stackTraces = false) (x1 : Nat) (x2 : Int32) (x3 : Int32) (x4 : Int32) (h0 : aH) : MO (fun (v : Int32) => .inl (some (.int v))) l E yX12_setTrust (.code yX12_setTrust cX12_setTrust 5 (some .int)) 2 46 [.ref (e_z E + x1), .int x2, .int x3, .int x4] h0 (m_X12_setTrust x1 x2 x3 x4 h0) := g_met hl (by decide +kernel) (Nat.le_of_ble_eq_true rfl) (b_X12_setTrust hl _ _ x1 x2 x3 x4 h0)
theorem dX12_undo_0 : decode cX12_undo 0 = .ok (.aload_n 0, 1) := by decide +kernel
theorem dX12_undo_1 : decode cX12_undo 1 = .ok (.aload_n 0, 1) := by decide +kernel
theorem dX12_undo_2 : decode cX12_undo 2 = .ok (.getfield 337, 3) := by decide +kernel
theorem dX12_undo_5 : decode cX12_undo 5 = .ok (.ifCond .le 7, 3) := by decide +kernel
theorem dX12_undo_8 : decode cX12_undo 8 = .ok (.iconst 0, 1) := by decide +kernel
theorem dX12_undo_9 : decode cX12_undo 9 = .ok (.goto 4, 3) := by decide +kernel
theorem dX12_undo_12 : decode cX12_undo 12 = .ok (.iconst 1, 1) := by decide +kernel
theorem dX12_undo_13 : decode cX12_undo 13 = .ok (.putfield 166, 3) := by decide +kernel
theorem dX12_undo_16 : decode cX12_undo 16 = .ok (.aload_n 0, 1) := by decide +kernel
theorem dX12_undo_17 : decode cX12_undo 17 = .ok (.getfield 166, 3) := by decide +kernel
theorem dX12_undo_20 : decode cX12_undo 20 = .ok (.ifCond .le 5, 3) := by decide +kernel
theorem dX12_undo_23 : decode cX12_undo 23 = .ok (.iconst 0, 1) := by decide +kernel
theorem dX12_undo_24 : decode cX12_undo 24 = .ok (.ireturn, 1) := by decide +kernel
theorem dX12_undo_25 : decode cX12_undo 25 = .ok (.aload_n 0, 1) := by decide +kernel
theorem dX12_undo_26 : decode cX12_undo 26 = .ok (.dup, 1) := by decide +kernel
theorem dX12_undo_27 : decode cX12_undo 27 = .ok (.getfield 337, 3) := by decide +kernel
theorem dX12_undo_30 : decode cX12_undo 30 = .ok (.iconst 1, 1) := by decide +kernel
theorem dX12_undo_31 : decode cX12_undo 31 = .ok (.isub, 1) := by decide +kernel
theorem dX12_undo_32 : decode cX12_undo 32 = .ok (.putfield 337, 3) := by decide +kernel
theorem dX12_undo_35 : decode cX12_undo 35 = .ok (.iconst 0, 1) := by decide +kernel
theorem dX12_undo_36 : decode cX12_undo 36 = .ok (.istore_n 1, 1) := by decide +kernel
theorem dX12_undo_37 : decode cX12_undo 37 = .ok (.iload_n 1, 1) := by decide +kernel
theorem dX12_undo_38 : decode cX12_undo 38 = .ok (.sipush 603, 3) := by decide +kernel
theorem dX12_undo_41 : decode cX12_undo 41 = .ok (.if_icmp .ge 30, 3) := by decide +kernel
theorem dX12_undo_44 : decode cX12_undo 44 = .ok (.aload_n 0, 1) := by decide +kernel
theorem dX12_undo_45 : decode cX12_undo 45 = .ok (.getfield 7, 3) := by decide +kernel
theorem dX12_undo_48 : decode cX12_undo 48 = .ok (.iload_n 1, 1) := by decide +kernel
theorem dX12_undo_49 : decode cX12_undo 49 = .ok (.aload_n 0, 1) := by decide +kernel
theorem dX12_undo_50 : decode cX12_undo 50 = .ok (.getfield 13, 3) := by decide +kernel
theorem dX12_undo_53 : decode cX12_undo 53 = .ok (.sipush 603, 3) := by decide +kernel
theorem dX12_undo_56 : decode cX12_undo 56 = .ok (.aload_n 0, 1) := by decide +kernel
theorem dX12_undo_57 : decode cX12_undo 57 = .ok (.getfield 337, 3) := by decide +kernel
theorem dX12_undo_60 : decode cX12_undo 60 = .ok (.imul, 1) := by decide +kernel
theorem dX12_undo_61 : decode cX12_undo 61 = .ok (.iload_n 1, 1) := by decide +kernel
theorem dX12_undo_62 : decode cX12_undo 62 = .ok (.iadd, 1) := by decide +kernel
theorem dX12_undo_63 : decode cX12_undo 63 = .ok (.iaload, 1) := by decide +kernel
theorem dX12_undo_64 : decode cX12_undo 64 = .ok (.iastore, 1) := by decide +kernel
theorem dX12_undo_65 : decode cX12_undo 65 = .ok (.iinc 1 1, 3) := by decide +kernel
theorem dX12_undo_68 : decode cX12_undo 68 = .ok (.goto (-31), 3) := by decide +kernel
theorem dX12_undo_71 : decode cX12_undo 71 = .ok (.aload_n 0, 1) := by decide +kernel
theorem dX12_undo_72 : decode cX12_undo 72 = .ok (.getfield 337, 3) := by decide +kernel
theorem dX12_undo_75 : decode cX12_undo 75 = .ok (.ireturn, 1) := by decide +kernel
abbrev M_X12_undo : aM := (yX12_undo.cls, cX12_undo, 2, (some .int), [], yX12_undo.name == "<init>")
abbrev J_X12_undo (l : Launch) (E : aE) (n0 m0 : Nat) := GG (fun (v : Int32) => .inl (some (.int v))) l E M_X12_undo 0 0 n0 m0
theorem b_X12_undo {l : Launch} {E : aE} (hl : l.stackTraces = false) (n0 m0 : Nat) (x1 : Nat) (h0 : aH) : J_X12_undo l E n0 m0 0 [(0, .ref (e_z E + x1))] [] h0 (m_X12_undo x1 h0) := by
  unfold m_X12_undo
  refine g_aload_n (pc := 0) dX12_undo_0 0 rfl ?_
  refine g_aload_n (pc := 1) dX12_undo_1 0 rfl ?_
  refine g_geti (pc := 2) cl12 (Nat.le_of_ble_eq_true rfl) fk1557 (fun _ _ _ => rfl) dX12_undo_2 (fun x2 => ?_)
  refine g_join (fun k => ∀ (x3 : Int32) (h1 : aH), J_X12_undo l E n0 m0 13 [(0, .ref (e_z E + x1))] [.int x3, .ref (e_z E + x1)] h1 (k x3 h1)) (fun x3 h1 => ?_) (fun k13 hk13 => ?_)
  · refine g_puti (pc := 13) cl12 (Nat.le_of_ble_eq_true rfl) (Or.inl ⟨rfl, fk1551⟩) (fun _ _ _ => rfl) (fun _ => ⟨rfl, rfl⟩) dX12_undo_13 (fun h2 => ?_)
    refine g_aload_n (pc := 16) dX12_undo_16 0 rfl ?_
    refine g_geti (pc := 17) cl12 (Nat.le_of_ble_eq_true rfl) fk1551 (fun _ _ _ => rfl) dX12_undo_17 (fun x4 => ?_)
    refine g_ifle (pc := 20) (tgt := 25) dX12_undo_20 rfl ?_ ?_
    · refine g_aload_n (pc := 25) dX12_undo_25 0 rfl ?_
      refine g_dup (pc := 26) rfl dX12_undo_26 ?_
      refine g_geti (pc := 27) cl12 (Nat.le_of_ble_eq_true rfl) fk1557 (fun _ _ _ => rfl) dX12_undo_27 (fun x5 => ?_)
      refine g_iconst (pc := 30) dX12_undo_30 ci_1 ?_
      refine g_isub (pc := 31) dX12_undo_31 ?_
      refine g_puti (pc := 32) cl12 (Nat.le_of_ble_eq_true rfl) (Or.inl ⟨rfl, fk1557⟩) (fun _ _ _ => rfl) (fun _ => ⟨rfl, rfl⟩) dX12_undo_32 (fun h3 => ?_)
      refine g_iconst (pc := 35) dX12_undo_35 ci_0 ?_
      refine g_istore_n (pc := 36) (lv' := [(1, .int (0 : Int32)), (0, .ref (e_z E + x1))]) dX12_undo_36 (Nat.le_of_ble_eq_true rfl) rfl ?_
      refine g_join (fun k => ∀ (h4 : aH), J_X12_undo l E n0 m0 71 [(0, .ref (e_z E + x1))] [] h4 (k h4)) (fun h4 => ?_) (fun k71 hk71 => ?_)
      · refine g_aload_n (pc := 71) dX12_undo_71 0 rfl ?_
        refine g_geti (pc := 72) cl12 (Nat.le_of_ble_eq_true rfl) fk1557 (fun _ _ _ => rfl) dX12_undo_72 (fun x6 => ?_)
        exact g_ret (pc := 75) rfl (isRet_i _) dX12_undo_75 rfl
      refine g_lv [1, 0] rfl ?_
      refine g_loop1 (F := (m_X12_undo_L37 x1 k71)) (fun x7 => [(0, .ref (e_z E + x1)), (1, .int x7)]) (fun r37 hr37 x7 h5 => ?_) _ _ _
      unfold m_X12_undo_L37
      refine g_iload_n (pc := 37) dX12_undo_37 1 rfl ?_
      refine g_sipush (pc := 38) dX12_undo_38 cs_603 ?_
      refine g_icmpge (pc := 41) (tgt := 71) dX12_undo_41 rfl ?_ ?_
      · refine g_aload_n (pc := 44) dX12_undo_44 0 rfl ?_
        refine g_getr (pc := 45) cl12 (Nat.le_of_ble_eq_true rfl) fk1552 (fun _ _ _ => rfl) dX12_undo_45 (fun x8 => ?_)
        refine g_iload_n (pc := 48) dX12_undo_48 1 rfl ?_
        refine g_aload_n (pc := 49) dX12_undo_49 0 rfl ?_
        refine g_getr (pc := 50) cl12 (Nat.le_of_ble_eq_true rfl) fk1553 (fun _ _ _ => rfl) dX12_undo_50 (fun x9 => ?_)
        refine g_sipush (pc := 53) dX12_undo_53 cs_603 ?_
        refine g_aload_n (pc := 56) dX12_undo_56 0 rfl ?_
        refine g_geti (pc := 57) cl12 (Nat.le_of_ble_eq_true rfl) fk1557 (fun _ _ _ => rfl) dX12_undo_57 (fun x10 => ?_)
        refine g_imul (pc := 60) dX12_undo_60 ?_
        refine g_iload_n (pc := 61) dX12_undo_61 1 rfl ?_
        refine g_iadd (pc := 62) dX12_undo_62 ?_
        refine g_iald (pc := 63) dX12_undo_63 (fun x11 => ?_)
        refine g_iast (pc := 64) dX12_undo_64 (fun h6 => ?_)
        refine g_iincN (pc := 65) dX12_undo_65 1 rfl ci_1 (Nat.le_of_ble_eq_true rfl) (fun x12 => ?_)
        refine g_lvr (lv' := [(1, .int x12), (0, .ref (e_z E + x1))]) rfl ?_
        refine g_goto (pc := 68) (tgt := 37) dX12_undo_68 rfl ?_
        refine g_lv [1, 0] rfl ?_
        exact hr37 x12 h6
      · refine g_lv [0] rfl ?_
        exact hk71 h5
    · refine g_iconst (pc := 23) dX12_undo_23 ci_0 ?_
      exact g_ret (pc := 24) rfl (isRet_i _) dX12_undo_24 rfl
  refine g_ifle (pc := 5) (tgt := 12) dX12_undo_5 rfl ?_ ?_
  · refine g_iconst (pc := 12) dX12_undo_12 ci_1 ?_
    exact hk13 (1 : Int32) h0
  · refine g_iconst (pc := 8) dX12_undo_8 ci_0 ?_
    refine g_goto (pc := 9) (tgt := 13) dX12_undo_9 rfl ?_
    exact hk13 (0 : Int32) h0
theorem p_X12_undo {l : Launch} {E : aE} (hl : l.stackTraces = false) (x1 : Nat) (h0 : aH) : MO (fun (v : Int32) => .inl (some (.int v))) l E yX12_undo (.code yX12_undo cX12_undo 2 (some .int)) 0 0 [.ref (e_z E + x1)] h0 (m_X12_undo x1 h0) := g_met hl (by decide +kernel) (Nat.le_of_ble_eq_true rfl) (b_X12_undo hl _ _ x1 h0)
theorem dX12_save_0 : decode cX12_save 0 = .ok (.aload_n 0, 1) := by decide +kernel
theorem dX12_save_1 : decode cX12_save 1 = .ok (.iload_n 1, 1) := by decide +kernel
theorem dX12_save_2 : decode cX12_save 2 = .ok (.i2l, 1) := by decide +kernel
theorem dX12_save_3 : decode cX12_save 3 = .ok (.lconst 0, 1) := by decide +kernel
theorem dX12_save_4 : decode cX12_save 4 = .ok (.lconst 1, 1) := by decide +kernel
theorem dX12_save_5 : decode cX12_save 5 = .ok (.invokestatic 176, 3) := by decide +kernel
theorem dX12_save_8 : decode cX12_save 8 = .ok (.ifCond .eq 7, 3) := by decide +kernel
theorem dX12_save_11 : decode cX12_save 11 = .ok (.iconst 0, 1) := by decide +kernel
theorem dX12_save_12 : decode cX12_save 12 = .ok (.goto 4, 3) := by decide +kernel
theorem dX12_save_15 : decode cX12_save 15 = .ok (.iconst 1, 1) := by decide +kernel
theorem dX12_save_16 : decode cX12_save 16 = .ok (.putfield 166, 3) := by decide +kernel
theorem dX12_save_19 : decode cX12_save 19 = .ok (.iconst 0, 1) := by decide +kernel
theorem dX12_save_20 : decode cX12_save 20 = .ok (.istore_n 2, 1) := by decide +kernel
theorem dX12_save_21 : decode cX12_save 21 = .ok (.iload_n 2, 1) := by decide +kernel
theorem dX12_save_22 : decode cX12_save 22 = .ok (.sipush 603, 3) := by decide +kernel
theorem dX12_save_25 : decode cX12_save 25 = .ok (.if_icmp .ge 41, 3) := by decide +kernel
theorem dX12_save_28 : decode cX12_save 28 = .ok (.aload_n 0, 1) := by decide +kernel
theorem dX12_save_29 : decode cX12_save 29 = .ok (.getfield 166, 3) := by decide +kernel
theorem dX12_save_32 : decode cX12_save 32 = .ok (.ifCond .ne 34, 3) := by decide +kernel
theorem dX12_save_35 : decode cX12_save 35 = .ok (.aload_n 0, 1) := by decide +kernel
theorem dX12_save_36 : decode cX12_save 36 = .ok (.getfield 16, 3) := by decide +kernel
theorem dX12_save_39 : decode cX12_save 39 = .ok (.sipush 603, 3) := by decide +kernel
theorem dX12_save_42 : decode cX12_save 42 = .ok (.iload_n 1, 1) := by decide +kernel
theorem dX12_save_43 : decode cX12_save 43 = .ok (.imul, 1) := by decide +kernel
theorem dX12_save_44 : decode cX12_save 44 = .ok (.iload_n 2, 1) := by decide +kernel
theorem dX12_save_45 : decode cX12_save 45 = .ok (.iadd, 1) := by decide +kernel
theorem dX12_save_46 : decode cX12_save 46 = .ok (.aload_n 0, 1) := by decide +kernel
theorem dX12_save_47 : decode cX12_save 47 = .ok (.getfield 7, 3) := by decide +kernel
theorem dX12_save_50 : decode cX12_save 50 = .ok (.iload_n 2, 1) := by decide +kernel
theorem dX12_save_51 : decode cX12_save 51 = .ok (.iaload, 1) := by decide +kernel
theorem dX12_save_52 : decode cX12_save 52 = .ok (.iastore, 1) := by decide +kernel
theorem dX12_save_53 : decode cX12_save 53 = .ok (.aload_n 0, 1) := by decide +kernel
theorem dX12_save_54 : decode cX12_save 54 = .ok (.getfield 22, 3) := by decide +kernel
theorem dX12_save_57 : decode cX12_save 57 = .ok (.iload_n 1, 1) := by decide +kernel
theorem dX12_save_58 : decode cX12_save 58 = .ok (.iconst 1, 1) := by decide +kernel
theorem dX12_save_59 : decode cX12_save 59 = .ok (.bastore, 1) := by decide +kernel
theorem dX12_save_60 : decode cX12_save 60 = .ok (.iinc 2 1, 3) := by decide +kernel
theorem dX12_save_63 : decode cX12_save 63 = .ok (.goto (-42), 3) := by decide +kernel
theorem dX12_save_66 : decode cX12_save 66 = .ok (.return_, 1) := by decide +kernel
abbrev M_X12_save : aM := (yX12_save.cls, cX12_save, 3, none, [], yX12_save.name == "<init>")
abbrev J_X12_save (l : Launch) (E : aE) (n0 m0 : Nat) := GG (fun (_ : Unit) => .inl none) l E M_X12_save 1 25 n0 m0
theorem b_X12_save {l : Launch} {E : aE} (hl : l.stackTraces = false) (n0 m0 : Nat) (x1 : Nat) (x2 : Int32) (h0 : aH) : J_X12_save l E n0 m0 0 [(0, .ref (e_z E + x1)), (1, .int x2)] [] h0 (m_X12_save x1 x2 h0) := by
  unfold m_X12_save
  refine g_aload_n (pc := 0) dX12_save_0 0 rfl ?_
  refine g_iload_n (pc := 1) dX12_save_1 1 rfl ?_
  refine g_i2l (pc := 2) dX12_save_2 ?_
  refine g_lconst (pc := 3) dX12_save_3 cl_0 ?_
  refine g_lconst (pc := 4) dX12_save_4 cl_1 ?_
  refine g_bRi (pc := 5) (c_S (p_X12_in hl (x2.toInt64) (0 : Int64) (1 : Int64) h0) y_X12_in tw1782 dX12_save_5 rfl (st := [.ref (e_z E + x1)]) rfl (Nat.le_of_ble_eq_true rfl) (Nat.le_of_ble_eq_true rfl) (Nat.le_of_ble_eq_true rfl)) (fun x3 h1 => ?_)
  refine g_join (fun k => ∀ (x4 : Int32) (h2 : aH), J_X12_save l E n0 m0 16 [(0, .ref (e_z E + x1)), (1, .int x2)] [.int x4, .ref (e_z E + x1)] h2 (k x4 h2)) (fun x4 h2 => ?_) (fun k16 hk16 => ?_)
  · refine g_puti (pc := 16) cl12 (Nat.le_of_ble_eq_true rfl) (Or.inl ⟨rfl, fk1551⟩) (fun _ _ _ => rfl) (fun _ => ⟨rfl, rfl⟩) dX12_save_16 (fun h3 => ?_)
    refine g_iconst (pc := 19) dX12_save_19 ci_0 ?_
    refine g_istore_n (pc := 20) (lv' := [(2, .int (0 : Int32)), (0, .ref (e_z E + x1)), (1, .int x2)]) dX12_save_20 (Nat.le_of_ble_eq_true rfl) rfl ?_
    refine g_join (fun k => ∀ (h4 : aH), J_X12_save l E n0 m0 66 [] [] h4 (k h4)) (fun h4 => ?_) (fun k66 hk66 => ?_)
    · exact g_ret (pc := 66) rfl isRet_v dX12_save_66 rfl
    refine g_lv [1, 2, 0] rfl ?_
    refine g_loop1 (F := (m_X12_save_L21 x1 x2 k66)) (fun x5 => [(0, .ref (e_z E + x1)), (1, .int x2), (2, .int x5)]) (fun r21 hr21 x5 h5 => ?_) _ _ _
    unfold m_X12_save_L21
    refine g_iload_n (pc := 21) dX12_save_21 2 rfl ?_
    refine g_sipush (pc := 22) dX12_save_22 cs_603 ?_
    refine g_icmpge (pc := 25) (tgt := 66) dX12_save_25 rfl ?_ ?_
    · refine g_aload_n (pc := 28) dX12_save_28 0 rfl ?_
      refine g_geti (pc := 29) cl12 (Nat.le_of_ble_eq_true rfl) fk1551 (fun _ _ _ => rfl) dX12_save_29 (fun x6 => ?_)
      refine g_ifne (pc := 32) (tgt := 66) dX12_save_32 rfl ?_ ?_
      · refine g_aload_n (pc := 35) dX12_save_35 0 rfl ?_
        refine g_getr (pc := 36) cl12 (Nat.le_of_ble_eq_true rfl) fk1554 (fun _ _ _ => rfl) dX12_save_36 (fun x7 => ?_)
        refine g_sipush (pc := 39) dX12_save_39 cs_603 ?_
        refine g_iload_n (pc := 42) dX12_save_42 1 rfl ?_
        refine g_imul (pc := 43) dX12_save_43 ?_
        refine g_iload_n (pc := 44) dX12_save_44 2 rfl ?_
        refine g_iadd (pc := 45) dX12_save_45 ?_
        refine g_aload_n (pc := 46) dX12_save_46 0 rfl ?_
        refine g_getr (pc := 47) cl12 (Nat.le_of_ble_eq_true rfl) fk1552 (fun _ _ _ => rfl) dX12_save_47 (fun x8 => ?_)
        refine g_iload_n (pc := 50) dX12_save_50 2 rfl ?_
        refine g_iald (pc := 51) dX12_save_51 (fun x9 => ?_)
        refine g_iast (pc := 52) dX12_save_52 (fun h6 => ?_)
        refine g_aload_n (pc := 53) dX12_save_53 0 rfl ?_
        refine g_getr (pc := 54) cl12 (Nat.le_of_ble_eq_true rfl) fk1556 (fun _ _ _ => rfl) dX12_save_54 (fun x10 => ?_)
        refine g_iload_n (pc := 57) dX12_save_57 1 rfl ?_
        refine g_iconst (pc := 58) dX12_save_58 ci_1 ?_
        refine g_zast (pc := 59) dX12_save_59 (fun h7 => ?_)
        refine g_iincN (pc := 60) dX12_save_60 2 rfl ci_1 (Nat.le_of_ble_eq_true rfl) (fun x11 => ?_)
        refine g_lvr (lv' := [(2, .int x11), (0, .ref (e_z E + x1)), (1, .int x2)]) rfl ?_
        refine g_goto (pc := 63) (tgt := 21) dX12_save_63 rfl ?_
        refine g_lv [1, 2, 0] rfl ?_
        exact hr21 x11 h7
      · refine g_lv [] rfl ?_
        exact hk66 h5
    · refine g_lv [] rfl ?_
      exact hk66 h5
  refine g_ifeq (pc := 8) (tgt := 15) dX12_save_8 rfl ?_ ?_
  · refine g_iconst (pc := 15) dX12_save_15 ci_1 ?_
    exact hk16 (1 : Int32) h1
  · refine g_iconst (pc := 11) dX12_save_11 ci_0 ?_
    refine g_goto (pc := 12) (tgt := 16) dX12_save_12 rfl ?_
    exact hk16 (0 : Int32) h1
theorem p_X12_save {l : Launch} {E : aE} (hl : l.stackTraces = false) (x1 : Nat) (x2 : Int32) (h0 : aH) : MO (fun (_ : Unit) => .inl none) l E yX12_save (.code yX12_save cX12_save 3 none) 1 25 [.ref (e_z E + x1), .int x2] h0 (m_X12_save x1 x2 h0) := g_met hl (by decide +kernel) (Nat.le_of_ble_eq_true rfl) (b_X12_save hl _ _ x1 x2 h0)
theorem dX12_restore_0 : decode cX12_restore 0 = .ok (.aload_n 0, 1) := by decide +kernel
theorem dX12_restore_1 : decode cX12_restore 1 = .ok (.iload_n 1, 1) := by decide +kernel
theorem dX12_restore_2 : decode cX12_restore 2 = .ok (.i2l, 1) := by decide +kernel
theorem dX12_restore_3 : decode cX12_restore 3 = .ok (.lconst 0, 1) := by decide +kernel
theorem dX12_restore_4 : decode cX12_restore 4 = .ok (.lconst 1, 1) := by decide +kernel
theorem dX12_restore_5 : decode cX12_restore 5 = .ok (.invokestatic 176, 3) := by decide +kernel
theorem dX12_restore_8 : decode cX12_restore 8 = .ok (.ifCond .ne 7, 3) := by decide +kernel
theorem dX12_restore_11 : decode cX12_restore 11 = .ok (.iconst 1, 1) := by decide +kernel
theorem dX12_restore_12 : decode cX12_restore 12 = .ok (.goto 17, 3) := by decide +kernel
theorem dX12_restore_15 : decode cX12_restore 15 = .ok (.aload_n 0, 1) := by decide +kernel
theorem dX12_restore_16 : decode cX12_restore 16 = .ok (.getfield 22, 3) := by decide +kernel
theorem dX12_restore_19 : decode cX12_restore 19 = .ok (.iload_n 1, 1) := by decide +kernel
theorem dX12_restore_20 : decode cX12_restore 20 = .ok (.baload, 1) := by decide +kernel
theorem dX12_restore_21 : decode cX12_restore 21 = .ok (.ifCond .eq 7, 3) := by decide +kernel
theorem dX12_restore_24 : decode cX12_restore 24 = .ok (.iconst 0, 1) := by decide +kernel
theorem dX12_restore_25 : decode cX12_restore 25 = .ok (.goto 4, 3) := by decide +kernel
theorem dX12_restore_28 : decode cX12_restore 28 = .ok (.iconst 2, 1) := by decide +kernel
theorem dX12_restore_29 : decode cX12_restore 29 = .ok (.putfield 166, 3) := by decide +kernel
theorem dX12_restore_32 : decode cX12_restore 32 = .ok (.iconst 0, 1) := by decide +kernel
theorem dX12_restore_33 : decode cX12_restore 33 = .ok (.istore_n 2, 1) := by decide +kernel
theorem dX12_restore_34 : decode cX12_restore 34 = .ok (.iload_n 2, 1) := by decide +kernel
theorem dX12_restore_35 : decode cX12_restore 35 = .ok (.sipush 603, 3) := by decide +kernel
theorem dX12_restore_38 : decode cX12_restore 38 = .ok (.if_icmp .ge 39, 3) := by decide +kernel
theorem dX12_restore_41 : decode cX12_restore 41 = .ok (.aload_n 0, 1) := by decide +kernel
theorem dX12_restore_42 : decode cX12_restore 42 = .ok (.getfield 166, 3) := by decide +kernel
theorem dX12_restore_45 : decode cX12_restore 45 = .ok (.ifCond .ne 32, 3) := by decide +kernel
theorem dX12_restore_48 : decode cX12_restore 48 = .ok (.aload_n 0, 1) := by decide +kernel
theorem dX12_restore_49 : decode cX12_restore 49 = .ok (.getfield 7, 3) := by decide +kernel
theorem dX12_restore_52 : decode cX12_restore 52 = .ok (.iload_n 2, 1) := by decide +kernel
theorem dX12_restore_53 : decode cX12_restore 53 = .ok (.aload_n 0, 1) := by decide +kernel
theorem dX12_restore_54 : decode cX12_restore 54 = .ok (.getfield 16, 3) := by decide +kernel
theorem dX12_restore_57 : decode cX12_restore 57 = .ok (.sipush 603, 3) := by decide +kernel
theorem dX12_restore_60 : decode cX12_restore 60 = .ok (.iload_n 1, 1) := by decide +kernel
theorem dX12_restore_61 : decode cX12_restore 61 = .ok (.imul, 1) := by decide +kernel
theorem dX12_restore_62 : decode cX12_restore 62 = .ok (.iload_n 2, 1) := by decide +kernel
theorem dX12_restore_63 : decode cX12_restore 63 = .ok (.iadd, 1) := by decide +kernel
theorem dX12_restore_64 : decode cX12_restore 64 = .ok (.iaload, 1) := by decide +kernel
theorem dX12_restore_65 : decode cX12_restore 65 = .ok (.iastore, 1) := by decide +kernel
theorem dX12_restore_66 : decode cX12_restore 66 = .ok (.aload_n 0, 1) := by decide +kernel
theorem dX12_restore_67 : decode cX12_restore 67 = .ok (.iconst 0, 1) := by decide +kernel
theorem dX12_restore_68 : decode cX12_restore 68 = .ok (.putfield 337, 3) := by decide +kernel
theorem dX12_restore_71 : decode cX12_restore 71 = .ok (.iinc 2 1, 3) := by decide +kernel
theorem dX12_restore_74 : decode cX12_restore 74 = .ok (.goto (-40), 3) := by decide +kernel
theorem dX12_restore_77 : decode cX12_restore 77 = .ok (.return_, 1) := by decide +kernel
abbrev M_X12_restore : aM := (yX12_restore.cls, cX12_restore, 3, none, [], yX12_restore.name == "<init>")
abbrev J_X12_restore (l : Launch) (E : aE) (n0 m0 : Nat) := GG (fun (_ : Unit) => .inl none) l E M_X12_restore 1 25 n0 m0
theorem b_X12_restore {l : Launch} {E : aE} (hl : l.stackTraces = false) (n0 m0 : Nat) (x1 : Nat) (x2 : Int32) (h0 : aH) : J_X12_restore l E n0 m0 0 [(0, .ref (e_z E + x1)), (1, .int x2)] [] h0 (m_X12_restore x1 x2 h0) := by
  unfold m_X12_restore
  refine g_aload_n (pc := 0) dX12_restore_0 0 rfl ?_
  refine g_iload_n (pc := 1) dX12_restore_1 1 rfl ?_
  refine g_i2l (pc := 2) dX12_restore_2 ?_
  refine g_lconst (pc := 3) dX12_restore_3 cl_0 ?_
  refine g_lconst (pc := 4) dX12_restore_4 cl_1 ?_
  refine g_bRi (pc := 5) (c_S (p_X12_in hl (x2.toInt64) (0 : Int64) (1 : Int64) h0) y_X12_in tw1782 dX12_restore_5 rfl (st := [.ref (e_z E + x1)]) rfl (Nat.le_of_ble_eq_true rfl) (Nat.le_of_ble_eq_true rfl) (Nat.le_of_ble_eq_true rfl)) (fun x3 h1 => ?_)
  refine g_join (fun k => ∀ (x4 : Int32) (h2 : aH), J_X12_restore l E n0 m0 29 [(0, .ref (e_z E + x1)), (1, .int x2)] [.int x4, .ref (e_z E + x1)] h2 (k x4 h2)) (fun x4 h2 => ?_) (fun k29 hk29 => ?_)
  · refine g_puti (pc := 29) cl12 (Nat.le_of_ble_eq_true rfl) (Or.inl ⟨rfl, fk1551⟩) (fun _ _ _ => rfl) (fun _ => ⟨rfl, rfl⟩) dX12_restore_29 (fun h3 => ?_)
    refine g_iconst (pc := 32) dX12_restore_32 ci_0 ?_
    refine g_istore_n (pc := 33) (lv' := [(2, .int (0 : Int32)), (0, .ref (e_z E + x1)), (1, .int x2)]) dX12_restore_33 (Nat.le_of_ble_eq_true rfl) rfl ?_
    refine g_join (fun k => ∀ (h4 : aH), J_X12_restore l E n0 m0 77 [] [] h4 (k h4)) (fun h4 => ?_) (fun k77 hk77 => ?_)
    · exact g_ret (pc := 77) rfl isRet_v dX12_restore_77 rfl
    refine g_lv [1, 2, 0] rfl ?_
    refine g_loop1 (F := (m_X12_restore_L34 x1 x2 k77)) (fun x5 => [(0, .ref (e_z E + x1)), (1, .int x2), (2, .int x5)]) (fun r34 hr34 x5 h5 => ?_) _ _ _
    unfold m_X12_restore_L34
    refine g_iload_n (pc := 34) dX12_restore_34 2 rfl ?_
    refine g_sipush (pc := 35) dX12_restore_35 cs_603 ?_
    refine g_icmpge (pc := 38) (tgt := 77) dX12_restore_38 rfl ?_ ?_
    · refine g_aload_n (pc := 41) dX12_restore_41 0 rfl ?_
      refine g_geti (pc := 42) cl12 (Nat.le_of_ble_eq_true rfl) fk1551 (fun _ _ _ => rfl) dX12_restore_42 (fun x6 => ?_)
      refine g_ifne (pc := 45) (tgt := 77) dX12_restore_45 rfl ?_ ?_
      · refine g_aload_n (pc := 48) dX12_restore_48 0 rfl ?_
        refine g_getr (pc := 49) cl12 (Nat.le_of_ble_eq_true rfl) fk1552 (fun _ _ _ => rfl) dX12_restore_49 (fun x7 => ?_)
        refine g_iload_n (pc := 52) dX12_restore_52 2 rfl ?_
        refine g_aload_n (pc := 53) dX12_restore_53 0 rfl ?_
        refine g_getr (pc := 54) cl12 (Nat.le_of_ble_eq_true rfl) fk1554 (fun _ _ _ => rfl) dX12_restore_54 (fun x8 => ?_)
        refine g_sipush (pc := 57) dX12_restore_57 cs_603 ?_
        refine g_iload_n (pc := 60) dX12_restore_60 1 rfl ?_
        refine g_imul (pc := 61) dX12_restore_61 ?_
        refine g_iload_n (pc := 62) dX12_restore_62 2 rfl ?_
        refine g_iadd (pc := 63) dX12_restore_63 ?_
        refine g_iald (pc := 64) dX12_restore_64 (fun x9 => ?_)
        refine g_iast (pc := 65) dX12_restore_65 (fun h6 => ?_)
        refine g_aload_n (pc := 66) dX12_restore_66 0 rfl ?_
        refine g_iconst (pc := 67) dX12_restore_67 ci_0 ?_
        refine g_puti (pc := 68) cl12 (Nat.le_of_ble_eq_true rfl) (Or.inl ⟨rfl, fk1557⟩) (fun _ _ _ => rfl) (fun _ => ⟨rfl, rfl⟩) dX12_restore_68 (fun h7 => ?_)
        refine g_iincN (pc := 71) dX12_restore_71 2 rfl ci_1 (Nat.le_of_ble_eq_true rfl) (fun x10 => ?_)
        refine g_lvr (lv' := [(2, .int x10), (0, .ref (e_z E + x1)), (1, .int x2)]) rfl ?_
        refine g_goto (pc := 74) (tgt := 34) dX12_restore_74 rfl ?_
        refine g_lv [1, 2, 0] rfl ?_
        exact hr34 x10 h7
      · refine g_lv [] rfl ?_
        exact hk77 h5
    · refine g_lv [] rfl ?_
      exact hk77 h5
  refine g_ifne (pc := 8) (tgt := 15) dX12_restore_8 rfl ?_ ?_
  · refine g_iconst (pc := 11) dX12_restore_11 ci_1 ?_
    refine g_goto (pc := 12) (tgt := 29) dX12_restore_12 rfl ?_
    exact hk29 (1 : Int32) h1
  · refine g_aload_n (pc := 15) dX12_restore_15 0 rfl ?_
    refine g_getr (pc := 16) cl12 (Nat.le_of_ble_eq_true rfl) fk1556 (fun _ _ _ => rfl) dX12_restore_16 (fun x11 => ?_)
    refine g_iload_n (pc := 19) dX12_restore_19 1 rfl ?_
    refine g_zald (pc := 20) dX12_restore_20 (fun x12 => ?_)
    refine g_ifeq (pc := 21) (tgt := 28) dX12_restore_21 rfl ?_ ?_
    · refine g_iconst (pc := 28) dX12_restore_28 ci_2 ?_
      exact hk29 (2 : Int32) h1
    · refine g_iconst (pc := 24) dX12_restore_24 ci_0 ?_
      refine g_goto (pc := 25) (tgt := 29) dX12_restore_25 rfl ?_
      exact hk29 (0 : Int32) h1
theorem p_X12_restore {l : Launch} {E : aE} (hl : l.stackTraces = false) (x1 : Nat) (x2 : Int32) (h0 : aH) : MO (fun (_ : Unit) => .inl none) l E yX12_restore (.code yX12_restore cX12_restore 3 none) 1 25 [.ref (e_z E + x1), .int x2] h0 (m_X12_restore x1 x2 h0) := g_met hl (by decide +kernel) (Nat.le_of_ble_eq_true rfl) (b_X12_restore hl _ _ x1 x2 h0)
