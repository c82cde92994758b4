/-! proofs of methods -/
theorem dX12_takesText_0 : decode cX12_takesText 0 = .ok (.aload_n 0, 1) := by decide +kernel
theorem dX12_takesText_1 : decode cX12_takesText 1 = .ok (.aload_n 0, 1) := by decide +kernel
theorem dX12_takesText_2 : decode cX12_takesText 2 = .ok (.getfield 256, 3) := by decide +kernel
theorem dX12_takesText_5 : decode cX12_takesText 5 = .ok (.putfield 325, 3) := by decide +kernel
theorem dX12_takesText_8 : decode cX12_takesText 8 = .ok (.aload_n 0, 1) := by decide +kernel
theorem dX12_takesText_9 : decode cX12_takesText 9 = .ok (.aload_n 0, 1) := by decide +kernel
theorem dX12_takesText_10 : decode cX12_takesText 10 = .ok (.getfield 276, 3) := by decide +kernel
theorem dX12_takesText_13 : decode cX12_takesText 13 = .ok (.putfield 328, 3) := by decide +kernel
theorem dX12_takesText_16 : decode cX12_takesText 16 = .ok (.aload_n 0, 1) := by decide +kernel
theorem dX12_takesText_17 : decode cX12_takesText 17 = .ok (.aload_n 0, 1) := by decide +kernel
theorem dX12_takesText_18 : decode cX12_takesText 18 = .ok (.getfield 279, 3) := by decide +kernel
theorem dX12_takesText_21 : decode cX12_takesText 21 = .ok (.putfield 331, 3) := by decide +kernel
theorem dX12_takesText_24 : decode cX12_takesText 24 = .ok (.aload_n 0, 1) := by decide +kernel
theorem dX12_takesText_25 : decode cX12_takesText 25 = .ok (.aload_n 0, 1) := by decide +kernel
theorem dX12_takesText_26 : decode cX12_takesText 26 = .ok (.getfield 284, 3) := by decide +kernel
theorem dX12_takesText_29 : decode cX12_takesText 29 = .ok (.putfield 334, 3) := by decide +kernel
theorem dX12_takesText_32 : decode cX12_takesText 32 = .ok (.iconst 0, 1) := by decide +kernel
theorem dX12_takesText_33 : decode cX12_takesText 33 = .ok (.istore_n 1, 1) := by decide +kernel
theorem dX12_takesText_34 : decode cX12_takesText 34 = .ok (.iload_n 1, 1) := by decide +kernel
theorem dX12_takesText_35 : decode cX12_takesText 35 = .ok (.bipush 29, 2) := by decide +kernel
theorem dX12_takesText_37 : decode cX12_takesText 37 = .ok (.if_icmp .ge 21, 3) := by decide +kernel
theorem dX12_takesText_40 : decode cX12_takesText 40 = .ok (.aload_n 0, 1) := by decide +kernel
theorem dX12_takesText_41 : decode cX12_takesText 41 = .ok (.getfield 29, 3) := by decide +kernel
theorem dX12_takesText_44 : decode cX12_takesText 44 = .ok (.iload_n 1, 1) := by decide +kernel
theorem dX12_takesText_45 : decode cX12_takesText 45 = .ok (.aload_n 0, 1) := by decide +kernel
theorem dX12_takesText_46 : decode cX12_takesText 46 = .ok (.getfield 88, 3) := by decide +kernel
theorem dX12_takesText_49 : decode cX12_takesText 49 = .ok (.iload_n 1, 1) := by decide +kernel
theorem dX12_takesText_50 : decode cX12_takesText 50 = .ok (.laload, 1) := by decide +kernel
theorem dX12_takesText_51 : decode cX12_takesText 51 = .ok (.lastore, 1) := by decide +kernel
theorem dX12_takesText_52 : decode cX12_takesText 52 = .ok (.iinc 1 1, 3) := by decide +kernel
theorem dX12_takesText_55 : decode cX12_takesText 55 = .ok (.goto (-21), 3) := by decide +kernel
theorem dX12_takesText_58 : decode cX12_takesText 58 = .ok (.iconst 0, 1) := by decide +kernel
theorem dX12_takesText_59 : decode cX12_takesText 59 = .ok (.istore_n 1, 1) := by decide +kernel
theorem dX12_takesText_60 : decode cX12_takesText 60 = .ok (.iload_n 1, 1) := by decide +kernel
theorem dX12_takesText_61 : decode cX12_takesText 61 = .ok (.iconst 4, 1) := by decide +kernel
theorem dX12_takesText_62 : decode cX12_takesText 62 = .ok (.if_icmp .ge 21, 3) := by decide +kernel
theorem dX12_takesText_65 : decode cX12_takesText 65 = .ok (.aload_n 0, 1) := by decide +kernel
theorem dX12_takesText_66 : decode cX12_takesText 66 = .ok (.getfield 26, 3) := by decide +kernel
theorem dX12_takesText_69 : decode cX12_takesText 69 = .ok (.iload_n 1, 1) := by decide +kernel
theorem dX12_takesText_70 : decode cX12_takesText 70 = .ok (.aload_n 0, 1) := by decide +kernel
theorem dX12_takesText_71 : decode cX12_takesText 71 = .ok (.getfield 85, 3) := by decide +kernel
theorem dX12_takesText_74 : decode cX12_takesText 74 = .ok (.iload_n 1, 1) := by decide +kernel
theorem dX12_takesText_75 : decode cX12_takesText 75 = .ok (.iaload, 1) := by decide +kernel
theorem dX12_takesText_76 : decode cX12_takesText 76 = .ok (.iastore, 1) := by decide +kernel
theorem dX12_takesText_77 : decode cX12_takesText 77 = .ok (.iinc 1 1, 3) := by decide +kernel
theorem dX12_takesText_80 : decode cX12_takesText 80 = .ok (.goto (-20), 3) := by decide +kernel
theorem dX12_takesText_83 : decode cX12_takesText 83 = .ok (.iconst 0, 1) := by decide +kernel
theorem dX12_takesText_84 : decode cX12_takesText 84 = .ok (.istore_n 1, 1) := by decide +kernel
theorem dX12_takesText_85 : decode cX12_takesText 85 = .ok (.iload_n 1, 1) := by decide +kernel
theorem dX12_takesText_86 : decode cX12_takesText 86 = .ok (.bipush 12, 2) := by decide +kernel
theorem dX12_takesText_88 : decode cX12_takesText 88 = .ok (.if_icmp .ge 33, 3) := by decide +kernel
theorem dX12_takesText_91 : decode cX12_takesText 91 = .ok (.aload_n 0, 1) := by decide +kernel
theorem dX12_takesText_92 : decode cX12_takesText 92 = .ok (.getfield 33, 3) := by decide +kernel
theorem dX12_takesText_95 : decode cX12_takesText 95 = .ok (.iload_n 1, 1) := by decide +kernel
theorem dX12_takesText_96 : decode cX12_takesText 96 = .ok (.aload_n 0, 1) := by decide +kernel
theorem dX12_takesText_97 : decode cX12_takesText 97 = .ok (.getfield 91, 3) := by decide +kernel
theorem dX12_takesText_100 : decode cX12_takesText 100 = .ok (.iload_n 1, 1) := by decide +kernel
theorem dX12_takesText_101 : decode cX12_takesText 101 = .ok (.iaload, 1) := by decide +kernel
theorem dX12_takesText_102 : decode cX12_takesText 102 = .ok (.iastore, 1) := by decide +kernel
theorem dX12_takesText_103 : decode cX12_takesText 103 = .ok (.aload_n 0, 1) := by decide +kernel
theorem dX12_takesText_104 : decode cX12_takesText 104 = .ok (.getfield 36, 3) := by decide +kernel
theorem dX12_takesText_107 : decode cX12_takesText 107 = .ok (.iload_n 1, 1) := by decide +kernel
theorem dX12_takesText_108 : decode cX12_takesText 108 = .ok (.aload_n 0, 1) := by decide +kernel
theorem dX12_takesText_109 : decode cX12_takesText 109 = .ok (.getfield 94, 3) := by decide +kernel
theorem dX12_takesText_112 : decode cX12_takesText 112 = .ok (.iload_n 1, 1) := by decide +kernel
theorem dX12_takesText_113 : decode cX12_takesText 113 = .ok (.iaload, 1) := by decide +kernel
theorem dX12_takesText_114 : decode cX12_takesText 114 = .ok (.iastore, 1) := by decide +kernel
theorem dX12_takesText_115 : decode cX12_takesText 115 = .ok (.iinc 1 1, 3) := by decide +kernel
theorem dX12_takesText_118 : decode cX12_takesText 118 = .ok (.goto (-33), 3) := by decide +kernel
theorem dX12_takesText_121 : decode cX12_takesText 121 = .ok (.iconst 0, 1) := by decide +kernel
theorem dX12_takesText_122 : decode cX12_takesText 122 = .ok (.istore_n 1, 1) := by decide +kernel
theorem dX12_takesText_123 : decode cX12_takesText 123 = .ok (.iload_n 1, 1) := by decide +kernel
theorem dX12_takesText_124 : decode cX12_takesText 124 = .ok (.sipush 603, 3) := by decide +kernel
theorem dX12_takesText_127 : decode cX12_takesText 127 = .ok (.if_icmp .ge 16, 3) := by decide +kernel
theorem dX12_takesText_130 : decode cX12_takesText 130 = .ok (.aload_n 0, 1) := by decide +kernel
theorem dX12_takesText_131 : decode cX12_takesText 131 = .ok (.getfield 7, 3) := by decide +kernel
theorem dX12_takesText_134 : decode cX12_takesText 134 = .ok (.iload_n 1, 1) := by decide +kernel
theorem dX12_takesText_135 : decode cX12_takesText 135 = .ok (.iconst 0, 1) := by decide +kernel
theorem dX12_takesText_136 : decode cX12_takesText 136 = .ok (.iastore, 1) := by decide +kernel
theorem dX12_takesText_137 : decode cX12_takesText 137 = .ok (.iinc 1 1, 3) := by decide +kernel
theorem dX12_takesText_140 : decode cX12_takesText 140 = .ok (.goto (-17), 3) := by decide +kernel
theorem dX12_takesText_143 : decode cX12_takesText 143 = .ok (.iconst 0, 1) := by decide +kernel
theorem dX12_takesText_144 : decode cX12_takesText 144 = .ok (.istore_n 1, 1) := by decide +kernel
theorem dX12_takesText_145 : decode cX12_takesText 145 = .ok (.iload_n 1, 1) := by decide +kernel
theorem dX12_takesText_146 : decode cX12_takesText 146 = .ok (.sipush 144, 3) := by decide +kernel
theorem dX12_takesText_149 : decode cX12_takesText 149 = .ok (.if_icmp .ge 24, 3) := by decide +kernel
theorem dX12_takesText_152 : decode cX12_takesText 152 = .ok (.aload_n 0, 1) := by decide +kernel
theorem dX12_takesText_153 : decode cX12_takesText 153 = .ok (.getfield 7, 3) := by decide +kernel
theorem dX12_takesText_156 : decode cX12_takesText 156 = .ok (.bipush 50, 2) := by decide +kernel
theorem dX12_takesText_158 : decode cX12_takesText 158 = .ok (.iload_n 1, 1) := by decide +kernel
theorem dX12_takesText_159 : decode cX12_takesText 159 = .ok (.iadd, 1) := by decide +kernel
theorem dX12_takesText_160 : decode cX12_takesText 160 = .ok (.aload_n 0, 1) := by decide +kernel
theorem dX12_takesText_161 : decode cX12_takesText 161 = .ok (.getfield 97, 3) := by decide +kernel
theorem dX12_takesText_164 : decode cX12_takesText 164 = .ok (.iload_n 1, 1) := by decide +kernel
theorem dX12_takesText_165 : decode cX12_takesText 165 = .ok (.iaload, 1) := by decide +kernel
theorem dX12_takesText_166 : decode cX12_takesText 166 = .ok (.iastore, 1) := by decide +kernel
theorem dX12_takesText_167 : decode cX12_takesText 167 = .ok (.iinc 1 1, 3) := by decide +kernel
theorem dX12_takesText_170 : decode cX12_takesText 170 = .ok (.goto (-25), 3) := by decide +kernel
theorem dX12_takesText_173 : decode cX12_takesText 173 = .ok (.iconst 0, 1) := by decide +kernel
theorem dX12_takesText_174 : decode cX12_takesText 174 = .ok (.istore_n 1, 1) := by decide +kernel
theorem dX12_takesText_175 : decode cX12_takesText 175 = .ok (.iload_n 1, 1) := by decide +kernel
theorem dX12_takesText_176 : decode cX12_takesText 176 = .ok (.bipush 6, 2) := by decide +kernel
theorem dX12_takesText_178 : decode cX12_takesText 178 = .ok (.if_icmp .ge 145, 3) := by decide +kernel
theorem dX12_takesText_181 : decode cX12_takesText 181 = .ok (.aload_n 0, 1) := by decide +kernel
theorem dX12_takesText_182 : decode cX12_takesText 182 = .ok (.getfield 39, 3) := by decide +kernel
theorem dX12_takesText_185 : decode cX12_takesText 185 = .ok (.iload_n 1, 1) := by decide +kernel
theorem dX12_takesText_186 : decode cX12_takesText 186 = .ok (.aload_n 0, 1) := by decide +kernel
theorem dX12_takesText_187 : decode cX12_takesText 187 = .ok (.getfield 103, 3) := by decide +kernel
theorem dX12_takesText_190 : decode cX12_takesText 190 = .ok (.iload_n 1, 1) := by decide +kernel
theorem dX12_takesText_191 : decode cX12_takesText 191 = .ok (.iaload, 1) := by decide +kernel
theorem dX12_takesText_192 : decode cX12_takesText 192 = .ok (.iastore, 1) := by decide +kernel
theorem dX12_takesText_193 : decode cX12_takesText 193 = .ok (.aload_n 0, 1) := by decide +kernel
theorem dX12_takesText_194 : decode cX12_takesText 194 = .ok (.getfield 42, 3) := by decide +kernel
theorem dX12_takesText_197 : decode cX12_takesText 197 = .ok (.iload_n 1, 1) := by decide +kernel
theorem dX12_takesText_198 : decode cX12_takesText 198 = .ok (.aload_n 0, 1) := by decide +kernel
theorem dX12_takesText_199 : decode cX12_takesText 199 = .ok (.getfield 106, 3) := by decide +kernel
theorem dX12_takesText_202 : decode cX12_takesText 202 = .ok (.iload_n 1, 1) := by decide +kernel
theorem dX12_takesText_203 : decode cX12_takesText 203 = .ok (.iaload, 1) := by decide +kernel
theorem dX12_takesText_204 : decode cX12_takesText 204 = .ok (.iastore, 1) := by decide +kernel
theorem dX12_takesText_205 : decode cX12_takesText 205 = .ok (.aload_n 0, 1) := by decide +kernel
theorem dX12_takesText_206 : decode cX12_takesText 206 = .ok (.getfield 45, 3) := by decide +kernel
theorem dX12_takesText_209 : decode cX12_takesText 209 = .ok (.iload_n 1, 1) := by decide +kernel
theorem dX12_takesText_210 : decode cX12_takesText 210 = .ok (.aload_n 0, 1) := by decide +kernel
theorem dX12_takesText_211 : decode cX12_takesText 211 = .ok (.getfield 109, 3) := by decide +kernel
theorem dX12_takesText_214 : decode cX12_takesText 214 = .ok (.iload_n 1, 1) := by decide +kernel
theorem dX12_takesText_215 : decode cX12_takesText 215 = .ok (.iaload, 1) := by decide +kernel
theorem dX12_takesText_216 : decode cX12_takesText 216 = .ok (.iastore, 1) := by decide +kernel
theorem dX12_takesText_217 : decode cX12_takesText 217 = .ok (.aload_n 0, 1) := by decide +kernel
theorem dX12_takesText_218 : decode cX12_takesText 218 = .ok (.getfield 57, 3) := by decide +kernel
theorem dX12_takesText_221 : decode cX12_takesText 221 = .ok (.iload_n 1, 1) := by decide +kernel
theorem dX12_takesText_222 : decode cX12_takesText 222 = .ok (.aload_n 0, 1) := by decide +kernel
theorem dX12_takesText_223 : decode cX12_takesText 223 = .ok (.getfield 124, 3) := by decide +kernel
theorem dX12_takesText_226 : decode cX12_takesText 226 = .ok (.iload_n 1, 1) := by decide +kernel
theorem dX12_takesText_227 : decode cX12_takesText 227 = .ok (.iaload, 1) := by decide +kernel
theorem dX12_takesText_228 : decode cX12_takesText 228 = .ok (.iastore, 1) := by decide +kernel
theorem dX12_takesText_229 : decode cX12_takesText 229 = .ok (.aload_n 0, 1) := by decide +kernel
theorem dX12_takesText_230 : decode cX12_takesText 230 = .ok (.getfield 60, 3) := by decide +kernel
theorem dX12_takesText_233 : decode cX12_takesText 233 = .ok (.iload_n 1, 1) := by decide +kernel
theorem dX12_takesText_234 : decode cX12_takesText 234 = .ok (.aload_n 0, 1) := by decide +kernel
theorem dX12_takesText_235 : decode cX12_takesText 235 = .ok (.getfield 127, 3) := by decide +kernel
theorem dX12_takesText_238 : decode cX12_takesText 238 = .ok (.iload_n 1, 1) := by decide +kernel
theorem dX12_takesText_239 : decode cX12_takesText 239 = .ok (.iaload, 1) := by decide +kernel
theorem dX12_takesText_240 : decode cX12_takesText 240 = .ok (.iastore, 1) := by decide +kernel
theorem dX12_takesText_241 : decode cX12_takesText 241 = .ok (.aload_n 0, 1) := by decide +kernel
theorem dX12_takesText_242 : decode cX12_takesText 242 = .ok (.getfield 63, 3) := by decide +kernel
theorem dX12_takesText_245 : decode cX12_takesText 245 = .ok (.iload_n 1, 1) := by decide +kernel
theorem dX12_takesText_246 : decode cX12_takesText 246 = .ok (.aload_n 0, 1) := by decide +kernel
theorem dX12_takesText_247 : decode cX12_takesText 247 = .ok (.getfield 130, 3) := by decide +kernel
theorem dX12_takesText_250 : decode cX12_takesText 250 = .ok (.iload_n 1, 1) := by decide +kernel
theorem dX12_takesText_251 : decode cX12_takesText 251 = .ok (.iaload, 1) := by decide +kernel
theorem dX12_takesText_252 : decode cX12_takesText 252 = .ok (.iastore, 1) := by decide +kernel
theorem dX12_takesText_253 : decode cX12_takesText 253 = .ok (.aload_n 0, 1) := by decide +kernel
theorem dX12_takesText_254 : decode cX12_takesText 254 = .ok (.getfield 66, 3) := by decide +kernel
theorem dX12_takesText_257 : decode cX12_takesText 257 = .ok (.iload_n 1, 1) := by decide +kernel
theorem dX12_takesText_258 : decode cX12_takesText 258 = .ok (.aload_n 0, 1) := by decide +kernel
theorem dX12_takesText_259 : decode cX12_takesText 259 = .ok (.getfield 133, 3) := by decide +kernel
theorem dX12_takesText_262 : decode cX12_takesText 262 = .ok (.iload_n 1, 1) := by decide +kernel
theorem dX12_takesText_263 : decode cX12_takesText 263 = .ok (.iaload, 1) := by decide +kernel
theorem dX12_takesText_264 : decode cX12_takesText 264 = .ok (.iastore, 1) := by decide +kernel
theorem dX12_takesText_265 : decode cX12_takesText 265 = .ok (.aload_n 0, 1) := by decide +kernel
theorem dX12_takesText_266 : decode cX12_takesText 266 = .ok (.getfield 72, 3) := by decide +kernel
theorem dX12_takesText_269 : decode cX12_takesText 269 = .ok (.iload_n 1, 1) := by decide +kernel
theorem dX12_takesText_270 : decode cX12_takesText 270 = .ok (.aload_n 0, 1) := by decide +kernel
theorem dX12_takesText_271 : decode cX12_takesText 271 = .ok (.getfield 139, 3) := by decide +kernel
theorem dX12_takesText_274 : decode cX12_takesText 274 = .ok (.iload_n 1, 1) := by decide +kernel
theorem dX12_takesText_275 : decode cX12_takesText 275 = .ok (.iaload, 1) := by decide +kernel
theorem dX12_takesText_276 : decode cX12_takesText 276 = .ok (.iastore, 1) := by decide +kernel
theorem dX12_takesText_277 : decode cX12_takesText 277 = .ok (.iconst 0, 1) := by decide +kernel
theorem dX12_takesText_278 : decode cX12_takesText 278 = .ok (.istore_n 2, 1) := by decide +kernel
theorem dX12_takesText_279 : decode cX12_takesText 279 = .ok (.iload_n 2, 1) := by decide +kernel
theorem dX12_takesText_280 : decode cX12_takesText 280 = .ok (.bipush 8, 2) := by decide +kernel
theorem dX12_takesText_282 : decode cX12_takesText 282 = .ok (.if_icmp .ge 35, 3) := by decide +kernel
theorem dX12_takesText_285 : decode cX12_takesText 285 = .ok (.aload_n 0, 1) := by decide +kernel
theorem dX12_takesText_286 : decode cX12_takesText 286 = .ok (.getfield 7, 3) := by decide +kernel
theorem dX12_takesText_289 : decode cX12_takesText 289 = .ok (.sipush 194, 3) := by decide +kernel
theorem dX12_takesText_292 : decode cX12_takesText 292 = .ok (.bipush 15, 2) := by decide +kernel
theorem dX12_takesText_294 : decode cX12_takesText 294 = .ok (.iload_n 1, 1) := by decide +kernel
theorem dX12_takesText_295 : decode cX12_takesText 295 = .ok (.imul, 1) := by decide +kernel
theorem dX12_takesText_296 : decode cX12_takesText 296 = .ok (.iadd, 1) := by decide +kernel
theorem dX12_takesText_297 : decode cX12_takesText 297 = .ok (.iload_n 2, 1) := by decide +kernel
theorem dX12_takesText_298 : decode cX12_takesText 298 = .ok (.iadd, 1) := by decide +kernel
theorem dX12_takesText_299 : decode cX12_takesText 299 = .ok (.aload_n 0, 1) := by decide +kernel
theorem dX12_takesText_300 : decode cX12_takesText 300 = .ok (.getfield 112, 3) := by decide +kernel
theorem dX12_takesText_303 : decode cX12_takesText 303 = .ok (.bipush 8, 2) := by decide +kernel
theorem dX12_takesText_305 : decode cX12_takesText 305 = .ok (.iload_n 1, 1) := by decide +kernel
theorem dX12_takesText_306 : decode cX12_takesText 306 = .ok (.imul, 1) := by decide +kernel
theorem dX12_takesText_307 : decode cX12_takesText 307 = .ok (.iload_n 2, 1) := by decide +kernel
theorem dX12_takesText_308 : decode cX12_takesText 308 = .ok (.iadd, 1) := by decide +kernel
theorem dX12_takesText_309 : decode cX12_takesText 309 = .ok (.iaload, 1) := by decide +kernel
theorem dX12_takesText_310 : decode cX12_takesText 310 = .ok (.iastore, 1) := by decide +kernel
theorem dX12_takesText_311 : decode cX12_takesText 311 = .ok (.iinc 2 1, 3) := by decide +kernel
theorem dX12_takesText_314 : decode cX12_takesText 314 = .ok (.goto (-35), 3) := by decide +kernel
theorem dX12_takesText_317 : decode cX12_takesText 317 = .ok (.iinc 1 1, 3) := by decide +kernel
theorem dX12_takesText_320 : decode cX12_takesText 320 = .ok (.goto (-145), 3) := by decide +kernel
theorem dX12_takesText_323 : decode cX12_takesText 323 = .ok (.iconst 0, 1) := by decide +kernel
theorem dX12_takesText_324 : decode cX12_takesText 324 = .ok (.istore_n 1, 1) := by decide +kernel
theorem dX12_takesText_325 : decode cX12_takesText 325 = .ok (.iload_n 1, 1) := by decide +kernel
theorem dX12_takesText_326 : decode cX12_takesText 326 = .ok (.iconst 5, 1) := by decide +kernel
theorem dX12_takesText_327 : decode cX12_takesText 327 = .ok (.if_icmp .ge 33, 3) := by decide +kernel
theorem dX12_takesText_330 : decode cX12_takesText 330 = .ok (.aload_n 0, 1) := by decide +kernel
theorem dX12_takesText_331 : decode cX12_takesText 331 = .ok (.getfield 48, 3) := by decide +kernel
theorem dX12_takesText_334 : decode cX12_takesText 334 = .ok (.iload_n 1, 1) := by decide +kernel
theorem dX12_takesText_335 : decode cX12_takesText 335 = .ok (.aload_n 0, 1) := by decide +kernel
theorem dX12_takesText_336 : decode cX12_takesText 336 = .ok (.getfield 115, 3) := by decide +kernel
theorem dX12_takesText_339 : decode cX12_takesText 339 = .ok (.iload_n 1, 1) := by decide +kernel
theorem dX12_takesText_340 : decode cX12_takesText 340 = .ok (.iaload, 1) := by decide +kernel
theorem dX12_takesText_341 : decode cX12_takesText 341 = .ok (.iastore, 1) := by decide +kernel
theorem dX12_takesText_342 : decode cX12_takesText 342 = .ok (.aload_n 0, 1) := by decide +kernel
theorem dX12_takesText_343 : decode cX12_takesText 343 = .ok (.getfield 51, 3) := by decide +kernel
theorem dX12_takesText_346 : decode cX12_takesText 346 = .ok (.iload_n 1, 1) := by decide +kernel
theorem dX12_takesText_347 : decode cX12_takesText 347 = .ok (.aload_n 0, 1) := by decide +kernel
theorem dX12_takesText_348 : decode cX12_takesText 348 = .ok (.getfield 118, 3) := by decide +kernel
theorem dX12_takesText_351 : decode cX12_takesText 351 = .ok (.iload_n 1, 1) := by decide +kernel
theorem dX12_takesText_352 : decode cX12_takesText 352 = .ok (.iaload, 1) := by decide +kernel
theorem dX12_takesText_353 : decode cX12_takesText 353 = .ok (.iastore, 1) := by decide +kernel
theorem dX12_takesText_354 : decode cX12_takesText 354 = .ok (.iinc 1 1, 3) := by decide +kernel
theorem dX12_takesText_357 : decode cX12_takesText 357 = .ok (.goto (-32), 3) := by decide +kernel
theorem dX12_takesText_360 : decode cX12_takesText 360 = .ok (.iconst 0, 1) := by decide +kernel
theorem dX12_takesText_361 : decode cX12_takesText 361 = .ok (.istore_n 1, 1) := by decide +kernel
theorem dX12_takesText_362 : decode cX12_takesText 362 = .ok (.iload_n 1, 1) := by decide +kernel
theorem dX12_takesText_363 : decode cX12_takesText 363 = .ok (.bipush 36, 2) := by decide +kernel
theorem dX12_takesText_365 : decode cX12_takesText 365 = .ok (.if_icmp .ge 21, 3) := by decide +kernel
theorem dX12_takesText_368 : decode cX12_takesText 368 = .ok (.aload_n 0, 1) := by decide +kernel
theorem dX12_takesText_369 : decode cX12_takesText 369 = .ok (.getfield 69, 3) := by decide +kernel
theorem dX12_takesText_372 : decode cX12_takesText 372 = .ok (.iload_n 1, 1) := by decide +kernel
theorem dX12_takesText_373 : decode cX12_takesText 373 = .ok (.aload_n 0, 1) := by decide +kernel
theorem dX12_takesText_374 : decode cX12_takesText 374 = .ok (.getfield 136, 3) := by decide +kernel
theorem dX12_takesText_377 : decode cX12_takesText 377 = .ok (.iload_n 1, 1) := by decide +kernel
theorem dX12_takesText_378 : decode cX12_takesText 378 = .ok (.iaload, 1) := by decide +kernel
theorem dX12_takesText_379 : decode cX12_takesText 379 = .ok (.iastore, 1) := by decide +kernel
theorem dX12_takesText_380 : decode cX12_takesText 380 = .ok (.iinc 1 1, 3) := by decide +kernel
theorem dX12_takesText_383 : decode cX12_takesText 383 = .ok (.goto (-21), 3) := by decide +kernel
theorem dX12_takesText_386 : decode cX12_takesText 386 = .ok (.iconst 0, 1) := by decide +kernel
theorem dX12_takesText_387 : decode cX12_takesText 387 = .ok (.istore_n 1, 1) := by decide +kernel
theorem dX12_takesText_388 : decode cX12_takesText 388 = .ok (.iload_n 1, 1) := by decide +kernel
theorem dX12_takesText_389 : decode cX12_takesText 389 = .ok (.bipush 30, 2) := by decide +kernel
theorem dX12_takesText_391 : decode cX12_takesText 391 = .ok (.if_icmp .ge 33, 3) := by decide +kernel
theorem dX12_takesText_394 : decode cX12_takesText 394 = .ok (.aload_n 0, 1) := by decide +kernel
theorem dX12_takesText_395 : decode cX12_takesText 395 = .ok (.getfield 54, 3) := by decide +kernel
theorem dX12_takesText_398 : decode cX12_takesText 398 = .ok (.iload_n 1, 1) := by decide +kernel
theorem dX12_takesText_399 : decode cX12_takesText 399 = .ok (.aload_n 0, 1) := by decide +kernel
theorem dX12_takesText_400 : decode cX12_takesText 400 = .ok (.getfield 121, 3) := by decide +kernel
theorem dX12_takesText_403 : decode cX12_takesText 403 = .ok (.iload_n 1, 1) := by decide +kernel
theorem dX12_takesText_404 : decode cX12_takesText 404 = .ok (.iaload, 1) := by decide +kernel
theorem dX12_takesText_405 : decode cX12_takesText 405 = .ok (.iastore, 1) := by decide +kernel
theorem dX12_takesText_406 : decode cX12_takesText 406 = .ok (.aload_n 0, 1) := by decide +kernel
theorem dX12_takesText_407 : decode cX12_takesText 407 = .ok (.getfield 75, 3) := by decide +kernel
theorem dX12_takesText_410 : decode cX12_takesText 410 = .ok (.iload_n 1, 1) := by decide +kernel
theorem dX12_takesText_411 : decode cX12_takesText 411 = .ok (.aload_n 0, 1) := by decide +kernel
theorem dX12_takesText_412 : decode cX12_takesText 412 = .ok (.getfield 142, 3) := by decide +kernel
theorem dX12_takesText_415 : decode cX12_takesText 415 = .ok (.iload_n 1, 1) := by decide +kernel
theorem dX12_takesText_416 : decode cX12_takesText 416 = .ok (.iaload, 1) := by decide +kernel
theorem dX12_takesText_417 : decode cX12_takesText 417 = .ok (.iastore, 1) := by decide +kernel
theorem dX12_takesText_418 : decode cX12_takesText 418 = .ok (.iinc 1 1, 3) := by decide +kernel
theorem dX12_takesText_421 : decode cX12_takesText 421 = .ok (.goto (-33), 3) := by decide +kernel
theorem dX12_takesText_424 : decode cX12_takesText 424 = .ok (.aload_n 0, 1) := by decide +kernel
theorem dX12_takesText_425 : decode cX12_takesText 425 = .ok (.iconst 0, 1) := by decide +kernel
theorem dX12_takesText_426 : decode cX12_takesText 426 = .ok (.putfield 337, 3) := by decide +kernel
theorem dX12_takesText_429 : decode cX12_takesText 429 = .ok (.aload_n 0, 1) := by decide +kernel
theorem dX12_takesText_430 : decode cX12_takesText 430 = .ok (.getfield 22, 3) := by decide +kernel
theorem dX12_takesText_433 : decode cX12_takesText 433 = .ok (.iconst 0, 1) := by decide +kernel
theorem dX12_takesText_434 : decode cX12_takesText 434 = .ok (.iconst 0, 1) := by decide +kernel
theorem dX12_takesText_435 : decode cX12_takesText 435 = .ok (.bastore, 1) := by decide +kernel
theorem dX12_takesText_436 : decode cX12_takesText 436 = .ok (.aload_n 0, 1) := by decide +kernel
theorem dX12_takesText_437 : decode cX12_takesText 437 = .ok (.getfield 22, 3) := by decide +kernel
theorem dX12_takesText_440 : decode cX12_takesText 440 = .ok (.iconst 1, 1) := by decide +kernel
theorem dX12_takesText_441 : decode cX12_takesText 441 = .ok (.iconst 0, 1) := by decide +kernel
theorem dX12_takesText_442 : decode cX12_takesText 442 = .ok (.bastore, 1) := by decide +kernel
theorem dX12_takesText_443 : decode cX12_takesText 443 = .ok (.return_, 1) := by decide +kernel
abbrev M_X12_takesText : aM := (yX12_takesText.cls, cX12_takesText, 3, none, [], yX12_takesText.name == "<init>")
abbrev J_X12_takesText (l : Launch) (E : aE) (n0 m0 : Nat) := GG (fun (_ : Unit) => .inl none) l E M_X12_takesText 0 0 n0 m0
theorem b_X12_takesText {l : Launch} {E : aE} (hl : l.stackTraces = false) (n0 m0 : Nat) (x1 : Nat) (h0 : aH) : J_X12_takesText l E n0 m0 0 [(0, .ref (e_z E + x1))] [] h0 (m_X12_takesText x1 h0) := by
  unfold m_X12_takesText
  refine g_aload_n (pc := 0) dX12_takesText_0 0 rfl ?_
  refine g_aload_n (pc := 1) dX12_takesText_1 0 rfl ?_
  refine g_geti (pc := 2) cl12 (Nat.le_of_ble_eq_true rfl) fk1590 (fun _ _ _ => rfl) dX12_takesText_2 (fun x2 => ?_)
  refine g_puti (pc := 5) cl12 (Nat.le_of_ble_eq_true rfl) (Or.inl ⟨rfl, fk1559⟩) (fun _ _ _ => rfl) (fun _ => ⟨rfl, rfl⟩) dX12_takesText_5 (fun h1 => ?_)
  refine g_aload_n (pc := 8) dX12_takesText_8 0 rfl ?_
  refine g_aload_n (pc := 9) dX12_takesText_9 0 rfl ?_
  refine g_geti (pc := 10) cl12 (Nat.le_of_ble_eq_true rfl) fk1592 (fun _ _ _ => rfl) dX12_takesText_10 (fun x3 => ?_)
  refine g_puti (pc := 13) cl12 (Nat.le_of_ble_eq_true rfl) (Or.inl ⟨rfl, fk1560⟩) (fun _ _ _ => rfl) (fun _ => ⟨rfl, rfl⟩) dX12_takesText_13 (fun h2 => ?_)
  refine g_aload_n (pc := 16) dX12_takesText_16 0 rfl ?_
  refine g_aload_n (pc := 17) dX12_takesText_17 0 rfl ?_
  refine g_geti (pc := 18) cl12 (Nat.le_of_ble_eq_true rfl) fk1593 (fun _ _ _ => rfl) dX12_takesText_18 (fun x4 => ?_)
  refine g_puti (pc := 21) cl12 (Nat.le_of_ble_eq_true rfl) (Or.inl ⟨rfl, fk1561⟩) (fun _ _ _ => rfl) (fun _ => ⟨rfl, rfl⟩) dX12_takesText_21 (fun h3 => ?_)
  refine g_aload_n (pc := 24) dX12_takesText_24 0 rfl ?_
  refine g_aload_n (pc := 25) dX12_takesText_25 0 rfl ?_
  refine g_geti (pc := 26) cl12 (Nat.le_of_ble_eq_true rfl) fk1594 (fun _ _ _ => rfl) dX12_takesText_26 (fun x5 => ?_)
  refine g_puti (pc := 29) cl12 (Nat.le_of_ble_eq_true rfl) (Or.inl ⟨rfl, fk1562⟩) (fun _ _ _ => rfl) (fun _ => ⟨rfl, rfl⟩) dX12_takesText_29 (fun h4 => ?_)
  refine g_iconst (pc := 32) dX12_takesText_32 ci_0 ?_
  refine g_istore_n (pc := 33) (lv' := [(1, .int (0 : Int32)), (0, .ref (e_z E + x1))]) dX12_takesText_33 (Nat.le_of_ble_eq_true rfl) rfl ?_
  refine g_join (fun k => ∀ (h5 : aH), J_X12_takesText l E n0 m0 58 [(0, .ref (e_z E + x1))] [] h5 (k h5)) (fun h5 => ?_) (fun k58 hk58 => ?_)
  · refine g_iconst (pc := 58) dX12_takesText_58 ci_0 ?_
    refine g_istore_n (pc := 59) (lv' := [(1, .int (0 : Int32)), (0, .ref (e_z E + x1))]) dX12_takesText_59 (Nat.le_of_ble_eq_true rfl) rfl ?_
    refine g_join (fun k => ∀ (h6 : aH), J_X12_takesText l E n0 m0 83 [(0, .ref (e_z E + x1))] [] h6 (k h6)) (fun h6 => ?_) (fun k83 hk83 => ?_)
    · refine g_iconst (pc := 83) dX12_takesText_83 ci_0 ?_
      refine g_istore_n (pc := 84) (lv' := [(1, .int (0 : Int32)), (0, .ref (e_z E + x1))]) dX12_takesText_84 (Nat.le_of_ble_eq_true rfl) rfl ?_
      refine g_join (fun k => ∀ (h7 : aH), J_X12_takesText l E n0 m0 121 [(0, .ref (e_z E + x1))] [] h7 (k h7)) (fun h7 => ?_) (fun k121 hk121 => ?_)
      · refine g_iconst (pc := 121) dX12_takesText_121 ci_0 ?_
        refine g_istore_n (pc := 122) (lv' := [(1, .int (0 : Int32)), (0, .ref (e_z E + x1))]) dX12_takesText_122 (Nat.le_of_ble_eq_true rfl) rfl ?_
        refine g_join (fun k => ∀ (h8 : aH), J_X12_takesText l E n0 m0 143 [(0, .ref (e_z E + x1))] [] h8 (k h8)) (fun h8 => ?_) (fun k143 hk143 => ?_)
        · refine g_iconst (pc := 143) dX12_takesText_143 ci_0 ?_
          refine g_istore_n (pc := 144) (lv' := [(1, .int (0 : Int32)), (0, .ref (e_z E + x1))]) dX12_takesText_144 (Nat.le_of_ble_eq_true rfl) rfl ?_
          refine g_join (fun k => ∀ (h9 : aH), J_X12_takesText l E n0 m0 173 [(0, .ref (e_z E + x1))] [] h9 (k h9)) (fun h9 => ?_) (fun k173 hk173 => ?_)
          · refine g_iconst (pc := 173) dX12_takesText_173 ci_0 ?_
            refine g_istore_n (pc := 174) (lv' := [(1, .int (0 : Int32)), (0, .ref (e_z E + x1))]) dX12_takesText_174 (Nat.le_of_ble_eq_true rfl) rfl ?_
            refine g_join (fun k => ∀ (h10 : aH), J_X12_takesText l E n0 m0 323 [(0, .ref (e_z E + x1))] [] h10 (k h10)) (fun h10 => ?_) (fun k323 hk323 => ?_)
            · refine g_iconst (pc := 323) dX12_takesText_323 ci_0 ?_
              refine g_istore_n (pc := 324) (lv' := [(1, .int (0 : Int32)), (0, .ref (e_z E + x1))]) dX12_takesText_324 (Nat.le_of_ble_eq_true rfl) rfl ?_
              refine g_join (fun k => ∀ (h11 : aH), J_X12_takesText l E n0 m0 360 [(0, .ref (e_z E + x1))] [] h11 (k h11)) (fun h11 => ?_) (fun k360 hk360 => ?_)
              · refine g_iconst (pc := 360) dX12_takesText_360 ci_0 ?_
                refine g_istore_n (pc := 361) (lv' := [(1, .int (0 : Int32)), (0, .ref (e_z E + x1))]) dX12_takesText_361 (Nat.le_of_ble_eq_true rfl) rfl ?_
                refine g_join (fun k => ∀ (h12 : aH), J_X12_takesText l E n0 m0 386 [(0, .ref (e_z E + x1))] [] h12 (k h12)) (fun h12 => ?_) (fun k386 hk386 => ?_)
                · refine g_iconst (pc := 386) dX12_takesText_386 ci_0 ?_
                  refine g_istore_n (pc := 387) (lv' := [(1, .int (0 : Int32)), (0, .ref (e_z E + x1))]) dX12_takesText_387 (Nat.le_of_ble_eq_true rfl) rfl ?_
                  refine g_join (fun k => ∀ (h13 : aH), J_X12_takesText l E n0 m0 424 [(0, .ref (e_z E + x1))] [] h13 (k h13)) (fun h13 => ?_) (fun k424 hk424 => ?_)
                  · refine g_aload_n (pc := 424) dX12_takesText_424 0 rfl ?_
                    refine g_iconst (pc := 425) dX12_takesText_425 ci_0 ?_
                    refine g_puti (pc := 426) cl12 (Nat.le_of_ble_eq_true rfl) (Or.inl ⟨rfl, fk1557⟩) (fun _ _ _ => rfl) (fun _ => ⟨rfl, rfl⟩) dX12_takesText_426 (fun h14 => ?_)
                    refine g_aload_n (pc := 429) dX12_takesText_429 0 rfl ?_
                    refine g_getr (pc := 430) cl12 (Nat.le_of_ble_eq_true rfl) fk1556 (fun _ _ _ => rfl) dX12_takesText_430 (fun x6 => ?_)
                    refine g_iconst (pc := 433) dX12_takesText_433 ci_0 ?_
                    refine g_iconst (pc := 434) dX12_takesText_434 ci_0 ?_
                    refine g_zast (pc := 435) dX12_takesText_435 (fun h15 => ?_)
                    refine g_aload_n (pc := 436) dX12_takesText_436 0 rfl ?_
                    refine g_getr (pc := 437) cl12 (Nat.le_of_ble_eq_true rfl) fk1556 (fun _ _ _ => rfl) dX12_takesText_437 (fun x7 => ?_)
                    refine g_iconst (pc := 440) dX12_takesText_440 ci_1 ?_
                    refine g_iconst (pc := 441) dX12_takesText_441 ci_0 ?_
                    refine g_zast (pc := 442) dX12_takesText_442 (fun h16 => ?_)
                    exact g_ret (pc := 443) rfl isRet_v dX12_takesText_443 rfl
                  refine g_lv [1, 0] rfl ?_
                  refine g_loop1 (F := (m_X12_takesText_L388 x1 k424)) (fun x8 => [(0, .ref (e_z E + x1)), (1, .int x8)]) (fun r388 hr388 x8 h17 => ?_) _ _ _
                  unfold m_X12_takesText_L388
                  refine g_iload_n (pc := 388) dX12_takesText_388 1 rfl ?_
                  refine g_bipush (pc := 389) dX12_takesText_389 cb_30 ?_
                  refine g_icmpge (pc := 391) (tgt := 424) dX12_takesText_391 rfl ?_ ?_
                  · refine g_aload_n (pc := 394) dX12_takesText_394 0 rfl ?_
                    refine g_getr (pc := 395) cl12 (Nat.le_of_ble_eq_true rfl) fk1571 (fun _ _ _ => rfl) dX12_takesText_395 (fun x9 => ?_)
                    refine g_iload_n (pc := 398) dX12_takesText_398 1 rfl ?_
                    refine g_aload_n (pc := 399) dX12_takesText_399 0 rfl ?_
                    refine g_getr (pc := 400) cl12 (Nat.le_of_ble_eq_true rfl) fk1606 (fun _ _ _ => rfl) dX12_takesText_400 (fun x10 => ?_)
                    refine g_iload_n (pc := 403) dX12_takesText_403 1 rfl ?_
                    refine g_iald (pc := 404) dX12_takesText_404 (fun x11 => ?_)
                    refine g_iast (pc := 405) dX12_takesText_405 (fun h18 => ?_)
                    refine g_aload_n (pc := 406) dX12_takesText_406 0 rfl ?_
                    refine g_getr (pc := 407) cl12 (Nat.le_of_ble_eq_true rfl) fk1578 (fun _ _ _ => rfl) dX12_takesText_407 (fun x12 => ?_)
                    refine g_iload_n (pc := 410) dX12_takesText_410 1 rfl ?_
                    refine g_aload_n (pc := 411) dX12_takesText_411 0 rfl ?_
                    refine g_getr (pc := 412) cl12 (Nat.le_of_ble_eq_true rfl) fk1613 (fun _ _ _ => rfl) dX12_takesText_412 (fun x13 => ?_)
                    refine g_iload_n (pc := 415) dX12_takesText_415 1 rfl ?_
                    refine g_iald (pc := 416) dX12_takesText_416 (fun x14 => ?_)
                    refine g_iast (pc := 417) dX12_takesText_417 (fun h19 => ?_)
                    refine g_iincN (pc := 418) dX12_takesText_418 1 rfl ci_1 (Nat.le_of_ble_eq_true rfl) (fun x15 => ?_)
                    refine g_lvr (lv' := [(1, .int x15), (0, .ref (e_z E + x1))]) rfl ?_
                    refine g_goto (pc := 421) (tgt := 388) dX12_takesText_421 rfl ?_
                    refine g_lv [1, 0] rfl ?_
                    exact hr388 x15 h19
                  · refine g_lv [0] rfl ?_
                    exact hk424 h17
                refine g_lv [1, 0] rfl ?_
                refine g_loop1 (F := (m_X12_takesText_L362 x1 k386)) (fun x16 => [(0, .ref (e_z E + x1)), (1, .int x16)]) (fun r362 hr362 x16 h20 => ?_) _ _ _
                unfold m_X12_takesText_L362
                refine g_iload_n (pc := 362) dX12_takesText_362 1 rfl ?_
                refine g_bipush (pc := 363) dX12_takesText_363 cb_36 ?_
                refine g_icmpge (pc := 365) (tgt := 386) dX12_takesText_365 rfl ?_ ?_
                · refine g_aload_n (pc := 368) dX12_takesText_368 0 rfl ?_
                  refine g_getr (pc := 369) cl12 (Nat.le_of_ble_eq_true rfl) fk1576 (fun _ _ _ => rfl) dX12_takesText_369 (fun x17 => ?_)
                  refine g_iload_n (pc := 372) dX12_takesText_372 1 rfl ?_
                  refine g_aload_n (pc := 373) dX12_takesText_373 0 rfl ?_
                  refine g_getr (pc := 374) cl12 (Nat.le_of_ble_eq_true rfl) fk1611 (fun _ _ _ => rfl) dX12_takesText_374 (fun x18 => ?_)
                  refine g_iload_n (pc := 377) dX12_takesText_377 1 rfl ?_
                  refine g_iald (pc := 378) dX12_takesText_378 (fun x19 => ?_)
                  refine g_iast (pc := 379) dX12_takesText_379 (fun h21 => ?_)
                  refine g_iincN (pc := 380) dX12_takesText_380 1 rfl ci_1 (Nat.le_of_ble_eq_true rfl) (fun x20 => ?_)
                  refine g_lvr (lv' := [(1, .int x20), (0, .ref (e_z E + x1))]) rfl ?_
                  refine g_goto (pc := 383) (tgt := 362) dX12_takesText_383 rfl ?_
                  refine g_lv [1, 0] rfl ?_
                  exact hr362 x20 h21
                · refine g_lv [0] rfl ?_
                  exact hk386 h20
              refine g_lv [1, 0] rfl ?_
              refine g_loop1 (F := (m_X12_takesText_L325 x1 k360)) (fun x21 => [(0, .ref (e_z E + x1)), (1, .int x21)]) (fun r325 hr325 x21 h22 => ?_) _ _ _
              unfold m_X12_takesText_L325
              refine g_iload_n (pc := 325) dX12_takesText_325 1 rfl ?_
              refine g_iconst (pc := 326) dX12_takesText_326 ci_5 ?_
              refine g_icmpge (pc := 327) (tgt := 360) dX12_takesText_327 rfl ?_ ?_
              · refine g_aload_n (pc := 330) dX12_takesText_330 0 rfl ?_
                refine g_getr (pc := 331) cl12 (Nat.le_of_ble_eq_true rfl) fk1569 (fun _ _ _ => rfl) dX12_takesText_331 (fun x22 => ?_)
                refine g_iload_n (pc := 334) dX12_takesText_334 1 rfl ?_
                refine g_aload_n (pc := 335) dX12_takesText_335 0 rfl ?_
                refine g_getr (pc := 336) cl12 (Nat.le_of_ble_eq_true rfl) fk1604 (fun _ _ _ => rfl) dX12_takesText_336 (fun x23 => ?_)
                refine g_iload_n (pc := 339) dX12_takesText_339 1 rfl ?_
                refine g_iald (pc := 340) dX12_takesText_340 (fun x24 => ?_)
                refine g_iast (pc := 341) dX12_takesText_341 (fun h23 => ?_)
                refine g_aload_n (pc := 342) dX12_takesText_342 0 rfl ?_
                refine g_getr (pc := 343) cl12 (Nat.le_of_ble_eq_true rfl) fk1570 (fun _ _ _ => rfl) dX12_takesText_343 (fun x25 => ?_)
                refine g_iload_n (pc := 346) dX12_takesText_346 1 rfl ?_
                refine g_aload_n (pc := 347) dX12_takesText_347 0 rfl ?_
                refine g_getr (pc := 348) cl12 (Nat.le_of_ble_eq_true rfl) fk1605 (fun _ _ _ => rfl) dX12_takesText_348 (fun x26 => ?_)
                refine g_iload_n (pc := 351) dX12_takesText_351 1 rfl ?_
                refine g_iald (pc := 352) dX12_takesText_352 (fun x27 => ?_)
                refine g_iast (pc := 353) dX12_takesText_353 (fun h24 => ?_)
                refine g_iincN (pc := 354) dX12_takesText_354 1 rfl ci_1 (Nat.le_of_ble_eq_true rfl) (fun x28 => ?_)
                refine g_lvr (lv' := [(1, .int x28), (0, .ref (e_z E + x1))]) rfl ?_
                refine g_goto (pc := 357) (tgt := 325) dX12_takesText_357 rfl ?_
                refine g_lv [1, 0] rfl ?_
                exact hr325 x28 h24
              · refine g_lv [0] rfl ?_
                exact hk360 h22
            refine g_lv [1, 0] rfl ?_
            refine g_loop1 (F := (m_X12_takesText_L175 x1 k323)) (fun x29 => [(0, .ref (e_z E + x1)), (1, .int x29)]) (fun r175 hr175 x29 h25 => ?_) _ _ _
            unfold m_X12_takesText_L175
            refine g_iload_n (pc := 175) dX12_takesText_175 1 rfl ?_
            refine g_bipush (pc := 176) dX12_takesText_176 cb_6 ?_
            refine g_icmpge (pc := 178) (tgt := 323) dX12_takesText_178 rfl ?_ ?_
            · refine g_aload_n (pc := 181) dX12_takesText_181 0 rfl ?_
              refine g_getr (pc := 182) cl12 (Nat.le_of_ble_eq_true rfl) fk1566 (fun _ _ _ => rfl) dX12_takesText_182 (fun x30 => ?_)
              refine g_iload_n (pc := 185) dX12_takesText_185 1 rfl ?_
              refine g_aload_n (pc := 186) dX12_takesText_186 0 rfl ?_
              refine g_getr (pc := 187) cl12 (Nat.le_of_ble_eq_true rfl) fk1600 (fun _ _ _ => rfl) dX12_takesText_187 (fun x31 => ?_)
              refine g_iload_n (pc := 190) dX12_takesText_190 1 rfl ?_
              refine g_iald (pc := 191) dX12_takesText_191 (fun x32 => ?_)
              refine g_iast (pc := 192) dX12_takesText_192 (fun h26 => ?_)
              refine g_aload_n (pc := 193) dX12_takesText_193 0 rfl ?_
              refine g_getr (pc := 194) cl12 (Nat.le_of_ble_eq_true rfl) fk1567 (fun _ _ _ => rfl) dX12_takesText_194 (fun x33 => ?_)
              refine g_iload_n (pc := 197) dX12_takesText_197 1 rfl ?_
              refine g_aload_n (pc := 198) dX12_takesText_198 0 rfl ?_
              refine g_getr (pc := 199) cl12 (Nat.le_of_ble_eq_true rfl) fk1601 (fun _ _ _ => rfl) dX12_takesText_199 (fun x34 => ?_)
              refine g_iload_n (pc := 202) dX12_takesText_202 1 rfl ?_
              refine g_iald (pc := 203) dX12_takesText_203 (fun x35 => ?_)
              refine g_iast (pc := 204) dX12_takesText_204 (fun h27 => ?_)
              refine g_aload_n (pc := 205) dX12_takesText_205 0 rfl ?_
              refine g_getr (pc := 206) cl12 (Nat.le_of_ble_eq_true rfl) fk1568 (fun _ _ _ => rfl) dX12_takesText_206 (fun x36 => ?_)
              refine g_iload_n (pc := 209) dX12_takesText_209 1 rfl ?_
              refine g_aload_n (pc := 210) dX12_takesText_210 0 rfl ?_
              refine g_getr (pc := 211) cl12 (Nat.le_of_ble_eq_true rfl) fk1602 (fun _ _ _ => rfl) dX12_takesText_211 (fun x37 => ?_)
              refine g_iload_n (pc := 214) dX12_takesText_214 1 rfl ?_
              refine g_iald (pc := 215) dX12_takesText_215 (fun x38 => ?_)
              refine g_iast (pc := 216) dX12_takesText_216 (fun h28 => ?_)
              refine g_aload_n (pc := 217) dX12_takesText_217 0 rfl ?_
              refine g_getr (pc := 218) cl12 (Nat.le_of_ble_eq_true rfl) fk1572 (fun _ _ _ => rfl) dX12_takesText_218 (fun x39 => ?_)
              refine g_iload_n (pc := 221) dX12_takesText_221 1 rfl ?_
              refine g_aload_n (pc := 222) dX12_takesText_222 0 rfl ?_
              refine g_getr (pc := 223) cl12 (Nat.le_of_ble_eq_true rfl) fk1607 (fun _ _ _ => rfl) dX12_takesText_223 (fun x40 => ?_)
              refine g_iload_n (pc := 226) dX12_takesText_226 1 rfl ?_
              refine g_iald (pc := 227) dX12_takesText_227 (fun x41 => ?_)
              refine g_iast (pc := 228) dX12_takesText_228 (fun h29 => ?_)
              refine g_aload_n (pc := 229) dX12_takesText_229 0 rfl ?_
              refine g_getr (pc := 230) cl12 (Nat.le_of_ble_eq_true rfl) fk1573 (fun _ _ _ => rfl) dX12_takesText_230 (fun x42 => ?_)
              refine g_iload_n (pc := 233) dX12_takesText_233 1 rfl ?_
              refine g_aload_n (pc := 234) dX12_takesText_234 0 rfl ?_
              refine g_getr (pc := 235) cl12 (Nat.le_of_ble_eq_true rfl) fk1608 (fun _ _ _ => rfl) dX12_takesText_235 (fun x43 => ?_)
              refine g_iload_n (pc := 238) dX12_takesText_238 1 rfl ?_
              refine g_iald (pc := 239) dX12_takesText_239 (fun x44 => ?_)
              refine g_iast (pc := 240) dX12_takesText_240 (fun h30 => ?_)
              refine g_aload_n (pc := 241) dX12_takesText_241 0 rfl ?_
              refine g_getr (pc := 242) cl12 (Nat.le_of_ble_eq_true rfl) fk1574 (fun _ _ _ => rfl) dX12_takesText_242 (fun x45 => ?_)
              refine g_iload_n (pc := 245) dX12_takesText_245 1 rfl ?_
              refine g_aload_n (pc := 246) dX12_takesText_246 0 rfl ?_
              refine g_getr (pc := 247) cl12 (Nat.le_of_ble_eq_true rfl) fk1609 (fun _ _ _ => rfl) dX12_takesText_247 (fun x46 => ?_)
              refine g_iload_n (pc := 250) dX12_takesText_250 1 rfl ?_
              refine g_iald (pc := 251) dX12_takesText_251 (fun x47 => ?_)
              refine g_iast (pc := 252) dX12_takesText_252 (fun h31 => ?_)
              refine g_aload_n (pc := 253) dX12_takesText_253 0 rfl ?_
              refine g_getr (pc := 254) cl12 (Nat.le_of_ble_eq_true rfl) fk1575 (fun _ _ _ => rfl) dX12_takesText_254 (fun x48 => ?_)
              refine g_iload_n (pc := 257) dX12_takesText_257 1 rfl ?_
              refine g_aload_n (pc := 258) dX12_takesText_258 0 rfl ?_
              refine g_getr (pc := 259) cl12 (Nat.le_of_ble_eq_true rfl) fk1610 (fun _ _ _ => rfl) dX12_takesText_259 (fun x49 => ?_)
              refine g_iload_n (pc := 262) dX12_takesText_262 1 rfl ?_
              refine g_iald (pc := 263) dX12_takesText_263 (fun x50 => ?_)
              refine g_iast (pc := 264) dX12_takesText_264 (fun h32 => ?_)
              refine g_aload_n (pc := 265) dX12_takesText_265 0 rfl ?_
              refine g_getr (pc := 266) cl12 (Nat.le_of_ble_eq_true rfl) fk1577 (fun _ _ _ => rfl) dX12_takesText_266 (fun x51 => ?_)
              refine g_iload_n (pc := 269) dX12_takesText_269 1 rfl ?_
              refine g_aload_n (pc := 270) dX12_takesText_270 0 rfl ?_
              refine g_getr (pc := 271) cl12 (Nat.le_of_ble_eq_true rfl) fk1612 (fun _ _ _ => rfl) dX12_takesText_271 (fun x52 => ?_)
              refine g_iload_n (pc := 274) dX12_takesText_274 1 rfl ?_
              refine g_iald (pc := 275) dX12_takesText_275 (fun x53 => ?_)
              refine g_iast (pc := 276) dX12_takesText_276 (fun h33 => ?_)
              refine g_iconst (pc := 277) dX12_takesText_277 ci_0 ?_
              refine g_istore_n (pc := 278) (lv' := [(2, .int (0 : Int32)), (0, .ref (e_z E + x1)), (1, .int x29)]) dX12_takesText_278 (Nat.le_of_ble_eq_true rfl) rfl ?_
              refine g_join (fun k => ∀ (h34 : aH), J_X12_takesText l E n0 m0 317 [(0, .ref (e_z E + x1)), (1, .int x29)] [] h34 (k h34)) (fun h34 => ?_) (fun k317 hk317 => ?_)
              · refine g_iincN (pc := 317) dX12_takesText_317 1 rfl ci_1 (Nat.le_of_ble_eq_true rfl) (fun x54 => ?_)
                refine g_lvr (lv' := [(1, .int x54), (0, .ref (e_z E + x1))]) rfl ?_
                refine g_goto (pc := 320) (tgt := 175) dX12_takesText_320 rfl ?_
                refine g_lv [1, 0] rfl ?_
                exact hr175 x54 h34
              refine g_lv [1, 2, 0] rfl ?_
              refine g_loop1 (F := (m_X12_takesText_L279 x1 x29 k317)) (fun x55 => [(0, .ref (e_z E + x1)), (1, .int x29), (2, .int x55)]) (fun r279 hr279 x55 h35 => ?_) _ _ _
              unfold m_X12_takesText_L279
              refine g_iload_n (pc := 279) dX12_takesText_279 2 rfl ?_
              refine g_bipush (pc := 280) dX12_takesText_280 cb_8 ?_
              refine g_icmpge (pc := 282) (tgt := 317) dX12_takesText_282 rfl ?_ ?_
              · refine g_aload_n (pc := 285) dX12_takesText_285 0 rfl ?_
                refine g_getr (pc := 286) cl12 (Nat.le_of_ble_eq_true rfl) fk1552 (fun _ _ _ => rfl) dX12_takesText_286 (fun x56 => ?_)
                refine g_sipush (pc := 289) dX12_takesText_289 cs_194 ?_
                refine g_bipush (pc := 292) dX12_takesText_292 cb_15 ?_
                refine g_iload_n (pc := 294) dX12_takesText_294 1 rfl ?_
                refine g_imul (pc := 295) dX12_takesText_295 ?_
                refine g_iadd (pc := 296) dX12_takesText_296 ?_
                refine g_iload_n (pc := 297) dX12_takesText_297 2 rfl ?_
                refine g_iadd (pc := 298) dX12_takesText_298 ?_
                refine g_aload_n (pc := 299) dX12_takesText_299 0 rfl ?_
                refine g_getr (pc := 300) cl12 (Nat.le_of_ble_eq_true rfl) fk1603 (fun _ _ _ => rfl) dX12_takesText_300 (fun x57 => ?_)
                refine g_bipush (pc := 303) dX12_takesText_303 cb_8 ?_
                refine g_iload_n (pc := 305) dX12_takesText_305 1 rfl ?_
                refine g_imul (pc := 306) dX12_takesText_306 ?_
                refine g_iload_n (pc := 307) dX12_takesText_307 2 rfl ?_
                refine g_iadd (pc := 308) dX12_takesText_308 ?_
                refine g_iald (pc := 309) dX12_takesText_309 (fun x58 => ?_)
                refine g_iast (pc := 310) dX12_takesText_310 (fun h36 => ?_)
                refine g_iincN (pc := 311) dX12_takesText_311 2 rfl ci_1 (Nat.le_of_ble_eq_true rfl) (fun x59 => ?_)
                refine g_lvr (lv' := [(2, .int x59), (0, .ref (e_z E + x1)), (1, .int x29)]) rfl ?_
                refine g_goto (pc := 314) (tgt := 279) dX12_takesText_314 rfl ?_
                refine g_lv [1, 2, 0] rfl ?_
                exact hr279 x59 h36
              · refine g_lv [0, 1] rfl ?_
                exact hk317 h35
            · refine g_lv [0] rfl ?_
              exact hk323 h25
          refine g_lv [1, 0] rfl ?_
          refine g_loop1 (F := (m_X12_takesText_L145 x1 k173)) (fun x60 => [(0, .ref (e_z E + x1)), (1, .int x60)]) (fun r145 hr145 x60 h37 => ?_) _ _ _
          unfold m_X12_takesText_L145
          refine g_iload_n (pc := 145) dX12_takesText_145 1 rfl ?_
          refine g_sipush (pc := 146) dX12_takesText_146 cs_144 ?_
          refine g_icmpge (pc := 149) (tgt := 173) dX12_takesText_149 rfl ?_ ?_
          · refine g_aload_n (pc := 152) dX12_takesText_152 0 rfl ?_
            refine g_getr (pc := 153) cl12 (Nat.le_of_ble_eq_true rfl) fk1552 (fun _ _ _ => rfl) dX12_takesText_153 (fun x61 => ?_)
            refine g_bipush (pc := 156) dX12_takesText_156 cb_50 ?_
            refine g_iload_n (pc := 158) dX12_takesText_158 1 rfl ?_
            refine g_iadd (pc := 159) dX12_takesText_159 ?_
            refine g_aload_n (pc := 160) dX12_takesText_160 0 rfl ?_
            refine g_getr (pc := 161) cl12 (Nat.le_of_ble_eq_true rfl) fk1598 (fun _ _ _ => rfl) dX12_takesText_161 (fun x62 => ?_)
            refine g_iload_n (pc := 164) dX12_takesText_164 1 rfl ?_
            refine g_iald (pc := 165) dX12_takesText_165 (fun x63 => ?_)
            refine g_iast (pc := 166) dX12_takesText_166 (fun h38 => ?_)
            refine g_iincN (pc := 167) dX12_takesText_167 1 rfl ci_1 (Nat.le_of_ble_eq_true rfl) (fun x64 => ?_)
            refine g_lvr (lv' := [(1, .int x64), (0, .ref (e_z E + x1))]) rfl ?_
            refine g_goto (pc := 170) (tgt := 145) dX12_takesText_170 rfl ?_
            refine g_lv [1, 0] rfl ?_
            exact hr145 x64 h38
          · refine g_lv [0] rfl ?_
            exact hk173 h37
        refine g_lv [1, 0] rfl ?_
        refine g_loop1 (F := (m_X12_takesText_L123 x1 k143)) (fun x65 => [(0, .ref (e_z E + x1)), (1, .int x65)]) (fun r123 hr123 x65 h39 => ?_) _ _ _
        unfold m_X12_takesText_L123
        refine g_iload_n (pc := 123) dX12_takesText_123 1 rfl ?_
        refine g_sipush (pc := 124) dX12_takesText_124 cs_603 ?_
        refine g_icmpge (pc := 127) (tgt := 143) dX12_takesText_127 rfl ?_ ?_
        · refine g_aload_n (pc := 130) dX12_takesText_130 0 rfl ?_
          refine g_getr (pc := 131) cl12 (Nat.le_of_ble_eq_true rfl) fk1552 (fun _ _ _ => rfl) dX12_takesText_131 (fun x66 => ?_)
          refine g_iload_n (pc := 134) dX12_takesText_134 1 rfl ?_
          refine g_iconst (pc := 135) dX12_takesText_135 ci_0 ?_
          refine g_iast (pc := 136) dX12_takesText_136 (fun h40 => ?_)
          refine g_iincN (pc := 137) dX12_takesText_137 1 rfl ci_1 (Nat.le_of_ble_eq_true rfl) (fun x67 => ?_)
          refine g_lvr (lv' := [(1, .int x67), (0, .ref (e_z E + x1))]) rfl ?_
          refine g_goto (pc := 140) (tgt := 123) dX12_takesText_140 rfl ?_
          refine g_lv [1, 0] rfl ?_
          exact hr123 x67 h40
        · refine g_lv [0] rfl ?_
          exact hk143 h39
      refine g_lv [1, 0] rfl ?_
      refine g_loop1 (F := (m_X12_takesText_L85 x1 k121)) (fun x68 => [(0, .ref (e_z E + x1)), (1, .int x68)]) (fun r85 hr85 x68 h41 => ?_) _ _ _
      unfold m_X12_takesText_L85
      refine g_iload_n (pc := 85) dX12_takesText_85 1 rfl ?_
      refine g_bipush (pc := 86) dX12_takesText_86 cb_12 ?_
      refine g_icmpge (pc := 88) (tgt := 121) dX12_takesText_88 rfl ?_ ?_
      · refine g_aload_n (pc := 91) dX12_takesText_91 0 rfl ?_
        refine g_getr (pc := 92) cl12 (Nat.le_of_ble_eq_true rfl) fk1564 (fun _ _ _ => rfl) dX12_takesText_92 (fun x69 => ?_)
        refine g_iload_n (pc := 95) dX12_takesText_95 1 rfl ?_
        refine g_aload_n (pc := 96) dX12_takesText_96 0 rfl ?_
        refine g_getr (pc := 97) cl12 (Nat.le_of_ble_eq_true rfl) fk1596 (fun _ _ _ => rfl) dX12_takesText_97 (fun x70 => ?_)
        refine g_iload_n (pc := 100) dX12_takesText_100 1 rfl ?_
        refine g_iald (pc := 101) dX12_takesText_101 (fun x71 => ?_)
        refine g_iast (pc := 102) dX12_takesText_102 (fun h42 => ?_)
        refine g_aload_n (pc := 103) dX12_takesText_103 0 rfl ?_
        refine g_getr (pc := 104) cl12 (Nat.le_of_ble_eq_true rfl) fk1565 (fun _ _ _ => rfl) dX12_takesText_104 (fun x72 => ?_)
        refine g_iload_n (pc := 107) dX12_takesText_107 1 rfl ?_
        refine g_aload_n (pc := 108) dX12_takesText_108 0 rfl ?_
        refine g_getr (pc := 109) cl12 (Nat.le_of_ble_eq_true rfl) fk1597 (fun _ _ _ => rfl) dX12_takesText_109 (fun x73 => ?_)
        refine g_iload_n (pc := 112) dX12_takesText_112 1 rfl ?_
        refine g_iald (pc := 113) dX12_takesText_113 (fun x74 => ?_)
        refine g_iast (pc := 114) dX12_takesText_114 (fun h43 => ?_)
        refine g_iincN (pc := 115) dX12_takesText_115 1 rfl ci_1 (Nat.le_of_ble_eq_true rfl) (fun x75 => ?_)
        refine g_lvr (lv' := [(1, .int x75), (0, .ref (e_z E + x1))]) rfl ?_
        refine g_goto (pc := 118) (tgt := 85) dX12_takesText_118 rfl ?_
        refine g_lv [1, 0] rfl ?_
        exact hr85 x75 h43
      · refine g_lv [0] rfl ?_
        exact hk121 h41
    refine g_lv [1, 0] rfl ?_
    refine g_loop1 (F := (m_X12_takesText_L60 x1 k83)) (fun x76 => [(0, .ref (e_z E + x1)), (1, .int x76)]) (fun r60 hr60 x76 h44 => ?_) _ _ _
    unfold m_X12_takesText_L60
    refine g_iload_n (pc := 60) dX12_takesText_60 1 rfl ?_
    refine g_iconst (pc := 61) dX12_takesText_61 ci_4 ?_
    refine g_icmpge (pc := 62) (tgt := 83) dX12_takesText_62 rfl ?_ ?_
    · refine g_aload_n (pc := 65) dX12_takesText_65 0 rfl ?_
      refine g_getr (pc := 66) cl12 (Nat.le_of_ble_eq_true rfl) fk1558 (fun _ _ _ => rfl) dX12_takesText_66 (fun x77 => ?_)
      refine g_iload_n (pc := 69) dX12_takesText_69 1 rfl ?_
      refine g_aload_n (pc := 70) dX12_takesText_70 0 rfl ?_
      refine g_getr (pc := 71) cl12 (Nat.le_of_ble_eq_true rfl) fk1589 (fun _ _ _ => rfl) dX12_takesText_71 (fun x78 => ?_)
      refine g_iload_n (pc := 74) dX12_takesText_74 1 rfl ?_
      refine g_iald (pc := 75) dX12_takesText_75 (fun x79 => ?_)
      refine g_iast (pc := 76) dX12_takesText_76 (fun h45 => ?_)
      refine g_iincN (pc := 77) dX12_takesText_77 1 rfl ci_1 (Nat.le_of_ble_eq_true rfl) (fun x80 => ?_)
      refine g_lvr (lv' := [(1, .int x80), (0, .ref (e_z E + x1))]) rfl ?_
      refine g_goto (pc := 80) (tgt := 60) dX12_takesText_80 rfl ?_
      refine g_lv [1, 0] rfl ?_
      exact hr60 x80 h45
    · refine g_lv [0] rfl ?_
      exact hk83 h44
  refine g_lv [1, 0] rfl ?_
  refine g_loop1 (F := (m_X12_takesText_L34 x1 k58)) (fun x81 => [(0, .ref (e_z E + x1)), (1, .int x81)]) (fun r34 hr34 x81 h46 => ?_) _ _ _
  unfold m_X12_takesText_L34
  refine g_iload_n (pc := 34) dX12_takesText_34 1 rfl ?_
  refine g_bipush (pc := 35) dX12_takesText_35 cb_29 ?_
  refine g_icmpge (pc := 37) (tgt := 58) dX12_takesText_37 rfl ?_ ?_
  · refine g_aload_n (pc := 40) dX12_takesText_40 0 rfl ?_
    refine g_getr (pc := 41) cl12 (Nat.le_of_ble_eq_true rfl) fk1563 (fun _ _ _ => rfl) dX12_takesText_41 (fun x82 => ?_)
    refine g_iload_n (pc := 44) dX12_takesText_44 1 rfl ?_
    refine g_aload_n (pc := 45) dX12_takesText_45 0 rfl ?_
    refine g_getr (pc := 46) cl12 (Nat.le_of_ble_eq_true rfl) fk1595 (fun _ _ _ => rfl) dX12_takesText_46 (fun x83 => ?_)
    refine g_iload_n (pc := 49) dX12_takesText_49 1 rfl ?_
    refine g_lald (pc := 50) dX12_takesText_50 (fun x84 => ?_)
    refine g_last (pc := 51) dX12_takesText_51 (fun h47 => ?_)
    refine g_iincN (pc := 52) dX12_takesText_52 1 rfl ci_1 (Nat.le_of_ble_eq_true rfl) (fun x85 => ?_)
    refine g_lvr (lv' := [(1, .int x85), (0, .ref (e_z E + x1))]) rfl ?_
    refine g_goto (pc := 55) (tgt := 34) dX12_takesText_55 rfl ?_
    refine g_lv [1, 0] rfl ?_
    exact hr34 x85 h47
  · refine g_lv [0] rfl ?_
    exact hk58 h46
theorem p_X12_takesText {l : Launch} {E : aE} (hl : l.stackTraces = false) (x1 : Nat) (h0 : aH) : MO (fun (_ : Unit) => .inl none) l E yX12_takesText (.code yX12_takesText cX12_takesText 3 none) 0 0 [.ref (e_z E + x1)] h0 (m_X12_takesText x1 h0) := g_met hl (by decide +kernel) (Nat.le_of_ble_eq_true rfl) (b_X12_takesText hl _ _ x1 h0)
theorem dX12_init_0 : decode cX12_init 0 = .ok (.aload_n 0, 1) := by decide +kernel
theorem dX12_init_1 : decode cX12_init 1 = .ok (.invokespecial 1, 3) := by decide +kernel
theorem dX12_init_4 : decode cX12_init 4 = .ok (.aload_n 0, 1) := by decide +kernel
theorem dX12_init_5 : decode cX12_init 5 = .ok (.sipush 603, 3) := by decide +kernel
theorem dX12_init_8 : decode cX12_init 8 = .ok (.newarray .int, 2) := by decide +kernel
theorem dX12_init_10 : decode cX12_init 10 = .ok (.putfield 7, 3) := by decide +kernel
theorem dX12_init_13 : decode cX12_init 13 = .ok (.aload_n 0, 1) := by decide +kernel
theorem dX12_init_14 : decode cX12_init 14 = .ok (.sipush 6030, 3) := by decide +kernel
theorem dX12_init_17 : decode cX12_init 17 = .ok (.newarray .int, 2) := by decide +kernel
theorem dX12_init_19 : decode cX12_init 19 = .ok (.putfield 13, 3) := by decide +kernel
theorem dX12_init_22 : decode cX12_init 22 = .ok (.aload_n 0, 1) := by decide +kernel
theorem dX12_init_23 : decode cX12_init 23 = .ok (.sipush 1206, 3) := by decide +kernel
theorem dX12_init_26 : decode cX12_init 26 = .ok (.newarray .int, 2) := by decide +kernel
theorem dX12_init_28 : decode cX12_init 28 = .ok (.putfield 16, 3) := by decide +kernel
theorem dX12_init_31 : decode cX12_init 31 = .ok (.aload_n 0, 1) := by decide +kernel
theorem dX12_init_32 : decode cX12_init 32 = .ok (.sipush 603, 3) := by decide +kernel
theorem dX12_init_35 : decode cX12_init 35 = .ok (.newarray .int, 2) := by decide +kernel
theorem dX12_init_37 : decode cX12_init 37 = .ok (.putfield 19, 3) := by decide +kernel
theorem dX12_init_40 : decode cX12_init 40 = .ok (.aload_n 0, 1) := by decide +kernel
theorem dX12_init_41 : decode cX12_init 41 = .ok (.iconst 2, 1) := by decide +kernel
theorem dX12_init_42 : decode cX12_init 42 = .ok (.newarray .boolean, 2) := by decide +kernel
theorem dX12_init_44 : decode cX12_init 44 = .ok (.putfield 22, 3) := by decide +kernel
theorem dX12_init_47 : decode cX12_init 47 = .ok (.aload_n 0, 1) := by decide +kernel
theorem dX12_init_48 : decode cX12_init 48 = .ok (.iconst 4, 1) := by decide +kernel
theorem dX12_init_49 : decode cX12_init 49 = .ok (.newarray .int, 2) := by decide +kernel
theorem dX12_init_51 : decode cX12_init 51 = .ok (.putfield 26, 3) := by decide +kernel
theorem dX12_init_54 : decode cX12_init 54 = .ok (.aload_n 0, 1) := by decide +kernel
theorem dX12_init_55 : decode cX12_init 55 = .ok (.bipush 29, 2) := by decide +kernel
theorem dX12_init_57 : decode cX12_init 57 = .ok (.newarray .long, 2) := by decide +kernel
theorem dX12_init_59 : decode cX12_init 59 = .ok (.putfield 29, 3) := by decide +kernel
theorem dX12_init_62 : decode cX12_init 62 = .ok (.aload_n 0, 1) := by decide +kernel
theorem dX12_init_63 : decode cX12_init 63 = .ok (.bipush 12, 2) := by decide +kernel
theorem dX12_init_65 : decode cX12_init 65 = .ok (.newarray .int, 2) := by decide +kernel
theorem dX12_init_67 : decode cX12_init 67 = .ok (.putfield 33, 3) := by decide +kernel
theorem dX12_init_70 : decode cX12_init 70 = .ok (.aload_n 0, 1) := by decide +kernel
theorem dX12_init_71 : decode cX12_init 71 = .ok (.bipush 12, 2) := by decide +kernel
theorem dX12_init_73 : decode cX12_init 73 = .ok (.newarray .int, 2) := by decide +kernel
theorem dX12_init_75 : decode cX12_init 75 = .ok (.putfield 36, 3) := by decide +kernel
theorem dX12_init_78 : decode cX12_init 78 = .ok (.aload_n 0, 1) := by decide +kernel
theorem dX12_init_79 : decode cX12_init 79 = .ok (.bipush 6, 2) := by decide +kernel
theorem dX12_init_81 : decode cX12_init 81 = .ok (.newarray .int, 2) := by decide +kernel
theorem dX12_init_83 : decode cX12_init 83 = .ok (.putfield 39, 3) := by decide +kernel
theorem dX12_init_86 : decode cX12_init 86 = .ok (.aload_n 0, 1) := by decide +kernel
theorem dX12_init_87 : decode cX12_init 87 = .ok (.bipush 6, 2) := by decide +kernel
theorem dX12_init_89 : decode cX12_init 89 = .ok (.newarray .int, 2) := by decide +kernel
theorem dX12_init_91 : decode cX12_init 91 = .ok (.putfield 42, 3) := by decide +kernel
theorem dX12_init_94 : decode cX12_init 94 = .ok (.aload_n 0, 1) := by decide +kernel
theorem dX12_init_95 : decode cX12_init 95 = .ok (.bipush 6, 2) := by decide +kernel
theorem dX12_init_97 : decode cX12_init 97 = .ok (.newarray .int, 2) := by decide +kernel
theorem dX12_init_99 : decode cX12_init 99 = .ok (.putfield 45, 3) := by decide +kernel
theorem dX12_init_102 : decode cX12_init 102 = .ok (.aload_n 0, 1) := by decide +kernel
theorem dX12_init_103 : decode cX12_init 103 = .ok (.iconst 5, 1) := by decide +kernel
theorem dX12_init_104 : decode cX12_init 104 = .ok (.newarray .int, 2) := by decide +kernel
theorem dX12_init_106 : decode cX12_init 106 = .ok (.putfield 48, 3) := by decide +kernel
theorem dX12_init_109 : decode cX12_init 109 = .ok (.aload_n 0, 1) := by decide +kernel
theorem dX12_init_110 : decode cX12_init 110 = .ok (.iconst 5, 1) := by decide +kernel
theorem dX12_init_111 : decode cX12_init 111 = .ok (.newarray .int, 2) := by decide +kernel
theorem dX12_init_113 : decode cX12_init 113 = .ok (.putfield 51, 3) := by decide +kernel
theorem dX12_init_116 : decode cX12_init 116 = .ok (.aload_n 0, 1) := by decide +kernel
theorem dX12_init_117 : decode cX12_init 117 = .ok (.bipush 30, 2) := by decide +kernel
theorem dX12_init_119 : decode cX12_init 119 = .ok (.newarray .int, 2) := by decide +kernel
theorem dX12_init_121 : decode cX12_init 121 = .ok (.putfield 54, 3) := by decide +kernel
theorem dX12_init_124 : decode cX12_init 124 = .ok (.aload_n 0, 1) := by decide +kernel
theorem dX12_init_125 : decode cX12_init 125 = .ok (.bipush 6, 2) := by decide +kernel
theorem dX12_init_127 : decode cX12_init 127 = .ok (.newarray .int, 2) := by decide +kernel
theorem dX12_init_129 : decode cX12_init 129 = .ok (.putfield 57, 3) := by decide +kernel
theorem dX12_init_132 : decode cX12_init 132 = .ok (.aload_n 0, 1) := by decide +kernel
theorem dX12_init_133 : decode cX12_init 133 = .ok (.bipush 6, 2) := by decide +kernel
theorem dX12_init_135 : decode cX12_init 135 = .ok (.newarray .int, 2) := by decide +kernel
theorem dX12_init_137 : decode cX12_init 137 = .ok (.putfield 60, 3) := by decide +kernel
theorem dX12_init_140 : decode cX12_init 140 = .ok (.aload_n 0, 1) := by decide +kernel
theorem dX12_init_141 : decode cX12_init 141 = .ok (.bipush 6, 2) := by decide +kernel
theorem dX12_init_143 : decode cX12_init 143 = .ok (.newarray .int, 2) := by decide +kernel
theorem dX12_init_145 : decode cX12_init 145 = .ok (.putfield 63, 3) := by decide +kernel
theorem dX12_init_148 : decode cX12_init 148 = .ok (.aload_n 0, 1) := by decide +kernel
theorem dX12_init_149 : decode cX12_init 149 = .ok (.bipush 6, 2) := by decide +kernel
theorem dX12_init_151 : decode cX12_init 151 = .ok (.newarray .int, 2) := by decide +kernel
theorem dX12_init_153 : decode cX12_init 153 = .ok (.putfield 66, 3) := by decide +kernel
theorem dX12_init_156 : decode cX12_init 156 = .ok (.aload_n 0, 1) := by decide +kernel
theorem dX12_init_157 : decode cX12_init 157 = .ok (.bipush 36, 2) := by decide +kernel
theorem dX12_init_159 : decode cX12_init 159 = .ok (.newarray .int, 2) := by decide +kernel
theorem dX12_init_161 : decode cX12_init 161 = .ok (.putfield 69, 3) := by decide +kernel
theorem dX12_init_164 : decode cX12_init 164 = .ok (.aload_n 0, 1) := by decide +kernel
theorem dX12_init_165 : decode cX12_init 165 = .ok (.bipush 6, 2) := by decide +kernel
theorem dX12_init_167 : decode cX12_init 167 = .ok (.newarray .int, 2) := by decide +kernel
theorem dX12_init_169 : decode cX12_init 169 = .ok (.putfield 72, 3) := by decide +kernel
theorem dX12_init_172 : decode cX12_init 172 = .ok (.aload_n 0, 1) := by decide +kernel
theorem dX12_init_173 : decode cX12_init 173 = .ok (.bipush 30, 2) := by decide +kernel
theorem dX12_init_175 : decode cX12_init 175 = .ok (.newarray .int, 2) := by decide +kernel
theorem dX12_init_177 : decode cX12_init 177 = .ok (.putfield 75, 3) := by decide +kernel
theorem dX12_init_180 : decode cX12_init 180 = .ok (.aload_n 0, 1) := by decide +kernel
theorem dX12_init_181 : decode cX12_init 181 = .ok (.sipush 1200, 3) := by decide +kernel
theorem dX12_init_184 : decode cX12_init 184 = .ok (.newarray .int, 2) := by decide +kernel
theorem dX12_init_186 : decode cX12_init 186 = .ok (.putfield 78, 3) := by decide +kernel
theorem dX12_init_189 : decode cX12_init 189 = .ok (.aload_n 0, 1) := by decide +kernel
theorem dX12_init_190 : decode cX12_init 190 = .ok (.iconst (-1), 1) := by decide +kernel
theorem dX12_init_191 : decode cX12_init 191 = .ok (.putfield 81, 3) := by decide +kernel
theorem dX12_init_194 : decode cX12_init 194 = .ok (.aload_n 0, 1) := by decide +kernel
theorem dX12_init_195 : decode cX12_init 195 = .ok (.iconst 4, 1) := by decide +kernel
theorem dX12_init_196 : decode cX12_init 196 = .ok (.newarray .int, 2) := by decide +kernel
theorem dX12_init_198 : decode cX12_init 198 = .ok (.putfield 85, 3) := by decide +kernel
theorem dX12_init_201 : decode cX12_init 201 = .ok (.aload_n 0, 1) := by decide +kernel
theorem dX12_init_202 : decode cX12_init 202 = .ok (.bipush 29, 2) := by decide +kernel
theorem dX12_init_204 : decode cX12_init 204 = .ok (.newarray .long, 2) := by decide +kernel
theorem dX12_init_206 : decode cX12_init 206 = .ok (.putfield 88, 3) := by decide +kernel
theorem dX12_init_209 : decode cX12_init 209 = .ok (.aload_n 0, 1) := by decide +kernel
theorem dX12_init_210 : decode cX12_init 210 = .ok (.bipush 12, 2) := by decide +kernel
theorem dX12_init_212 : decode cX12_init 212 = .ok (.newarray .int, 2) := by decide +kernel
theorem dX12_init_214 : decode cX12_init 214 = .ok (.putfield 91, 3) := by decide +kernel
theorem dX12_init_217 : decode cX12_init 217 = .ok (.aload_n 0, 1) := by decide +kernel
theorem dX12_init_218 : decode cX12_init 218 = .ok (.bipush 12, 2) := by decide +kernel
theorem dX12_init_220 : decode cX12_init 220 = .ok (.newarray .int, 2) := by decide +kernel
theorem dX12_init_222 : decode cX12_init 222 = .ok (.putfield 94, 3) := by decide +kernel
theorem dX12_init_225 : decode cX12_init 225 = .ok (.aload_n 0, 1) := by decide +kernel
theorem dX12_init_226 : decode cX12_init 226 = .ok (.sipush 144, 3) := by decide +kernel
theorem dX12_init_229 : decode cX12_init 229 = .ok (.newarray .int, 2) := by decide +kernel
theorem dX12_init_231 : decode cX12_init 231 = .ok (.putfield 97, 3) := by decide +kernel
theorem dX12_init_234 : decode cX12_init 234 = .ok (.aload_n 0, 1) := by decide +kernel
theorem dX12_init_235 : decode cX12_init 235 = .ok (.sipush 144, 3) := by decide +kernel
theorem dX12_init_238 : decode cX12_init 238 = .ok (.newarray .boolean, 2) := by decide +kernel
theorem dX12_init_240 : decode cX12_init 240 = .ok (.putfield 100, 3) := by decide +kernel
theorem dX12_init_243 : decode cX12_init 243 = .ok (.aload_n 0, 1) := by decide +kernel
theorem dX12_init_244 : decode cX12_init 244 = .ok (.bipush 6, 2) := by decide +kernel
theorem dX12_init_246 : decode cX12_init 246 = .ok (.newarray .int, 2) := by decide +kernel
theorem dX12_init_248 : decode cX12_init 248 = .ok (.putfield 103, 3) := by decide +kernel
theorem dX12_init_251 : decode cX12_init 251 = .ok (.aload_n 0, 1) := by decide +kernel
theorem dX12_init_252 : decode cX12_init 252 = .ok (.bipush 6, 2) := by decide +kernel
theorem dX12_init_254 : decode cX12_init 254 = .ok (.newarray .int, 2) := by decide +kernel
theorem dX12_init_256 : decode cX12_init 256 = .ok (.putfield 106, 3) := by decide +kernel
theorem dX12_init_259 : decode cX12_init 259 = .ok (.aload_n 0, 1) := by decide +kernel
theorem dX12_init_260 : decode cX12_init 260 = .ok (.bipush 6, 2) := by decide +kernel
theorem dX12_init_262 : decode cX12_init 262 = .ok (.newarray .int, 2) := by decide +kernel
theorem dX12_init_264 : decode cX12_init 264 = .ok (.putfield 109, 3) := by decide +kernel
theorem dX12_init_267 : decode cX12_init 267 = .ok (.aload_n 0, 1) := by decide +kernel
theorem dX12_init_268 : decode cX12_init 268 = .ok (.bipush 48, 2) := by decide +kernel
theorem dX12_init_270 : decode cX12_init 270 = .ok (.newarray .int, 2) := by decide +kernel
theorem dX12_init_272 : decode cX12_init 272 = .ok (.putfield 112, 3) := by decide +kernel
theorem dX12_init_275 : decode cX12_init 275 = .ok (.aload_n 0, 1) := by decide +kernel
theorem dX12_init_276 : decode cX12_init 276 = .ok (.iconst 5, 1) := by decide +kernel
theorem dX12_init_277 : decode cX12_init 277 = .ok (.newarray .int, 2) := by decide +kernel
theorem dX12_init_279 : decode cX12_init 279 = .ok (.putfield 115, 3) := by decide +kernel
theorem dX12_init_282 : decode cX12_init 282 = .ok (.aload_n 0, 1) := by decide +kernel
theorem dX12_init_283 : decode cX12_init 283 = .ok (.iconst 5, 1) := by decide +kernel
theorem dX12_init_284 : decode cX12_init 284 = .ok (.newarray .int, 2) := by decide +kernel
theorem dX12_init_286 : decode cX12_init 286 = .ok (.putfield 118, 3) := by decide +kernel
theorem dX12_init_289 : decode cX12_init 289 = .ok (.aload_n 0, 1) := by decide +kernel
theorem dX12_init_290 : decode cX12_init 290 = .ok (.bipush 30, 2) := by decide +kernel
theorem dX12_init_292 : decode cX12_init 292 = .ok (.newarray .int, 2) := by decide +kernel
theorem dX12_init_294 : decode cX12_init 294 = .ok (.putfield 121, 3) := by decide +kernel
theorem dX12_init_297 : decode cX12_init 297 = .ok (.aload_n 0, 1) := by decide +kernel
theorem dX12_init_298 : decode cX12_init 298 = .ok (.bipush 6, 2) := by decide +kernel
theorem dX12_init_300 : decode cX12_init 300 = .ok (.newarray .int, 2) := by decide +kernel
theorem dX12_init_302 : decode cX12_init 302 = .ok (.putfield 124, 3) := by decide +kernel
theorem dX12_init_305 : decode cX12_init 305 = .ok (.aload_n 0, 1) := by decide +kernel
theorem dX12_init_306 : decode cX12_init 306 = .ok (.bipush 6, 2) := by decide +kernel
theorem dX12_init_308 : decode cX12_init 308 = .ok (.newarray .int, 2) := by decide +kernel
theorem dX12_init_310 : decode cX12_init 310 = .ok (.putfield 127, 3) := by decide +kernel
theorem dX12_init_313 : decode cX12_init 313 = .ok (.aload_n 0, 1) := by decide +kernel
theorem dX12_init_314 : decode cX12_init 314 = .ok (.bipush 6, 2) := by decide +kernel
theorem dX12_init_316 : decode cX12_init 316 = .ok (.newarray .int, 2) := by decide +kernel
theorem dX12_init_318 : decode cX12_init 318 = .ok (.putfield 130, 3) := by decide +kernel
theorem dX12_init_321 : decode cX12_init 321 = .ok (.aload_n 0, 1) := by decide +kernel
theorem dX12_init_322 : decode cX12_init 322 = .ok (.bipush 6, 2) := by decide +kernel
theorem dX12_init_324 : decode cX12_init 324 = .ok (.newarray .int, 2) := by decide +kernel
theorem dX12_init_326 : decode cX12_init 326 = .ok (.putfield 133, 3) := by decide +kernel
theorem dX12_init_329 : decode cX12_init 329 = .ok (.aload_n 0, 1) := by decide +kernel
theorem dX12_init_330 : decode cX12_init 330 = .ok (.bipush 36, 2) := by decide +kernel
theorem dX12_init_332 : decode cX12_init 332 = .ok (.newarray .int, 2) := by decide +kernel
theorem dX12_init_334 : decode cX12_init 334 = .ok (.putfield 136, 3) := by decide +kernel
theorem dX12_init_337 : decode cX12_init 337 = .ok (.aload_n 0, 1) := by decide +kernel
theorem dX12_init_338 : decode cX12_init 338 = .ok (.bipush 6, 2) := by decide +kernel
theorem dX12_init_340 : decode cX12_init 340 = .ok (.newarray .int, 2) := by decide +kernel
theorem dX12_init_342 : decode cX12_init 342 = .ok (.putfield 139, 3) := by decide +kernel
theorem dX12_init_345 : decode cX12_init 345 = .ok (.aload_n 0, 1) := by decide +kernel
theorem dX12_init_346 : decode cX12_init 346 = .ok (.bipush 30, 2) := by decide +kernel
theorem dX12_init_348 : decode cX12_init 348 = .ok (.newarray .int, 2) := by decide +kernel
theorem dX12_init_350 : decode cX12_init 350 = .ok (.putfield 142, 3) := by decide +kernel
theorem dX12_init_353 : decode cX12_init 353 = .ok (.aload_n 0, 1) := by decide +kernel
theorem dX12_init_354 : decode cX12_init 354 = .ok (.iconst 5, 1) := by decide +kernel
theorem dX12_init_355 : decode cX12_init 355 = .ok (.newarray .int, 2) := by decide +kernel
theorem dX12_init_357 : decode cX12_init 357 = .ok (.putfield 145, 3) := by decide +kernel
theorem dX12_init_360 : decode cX12_init 360 = .ok (.aload_n 0, 1) := by decide +kernel
theorem dX12_init_361 : decode cX12_init 361 = .ok (.iconst 5, 1) := by decide +kernel
theorem dX12_init_362 : decode cX12_init 362 = .ok (.newarray .int, 2) := by decide +kernel
theorem dX12_init_364 : decode cX12_init 364 = .ok (.putfield 148, 3) := by decide +kernel
theorem dX12_init_367 : decode cX12_init 367 = .ok (.aload_n 0, 1) := by decide +kernel
theorem dX12_init_368 : decode cX12_init 368 = .ok (.iconst 5, 1) := by decide +kernel
theorem dX12_init_369 : decode cX12_init 369 = .ok (.newarray .int, 2) := by decide +kernel
theorem dX12_init_371 : decode cX12_init 371 = .ok (.putfield 151, 3) := by decide +kernel
theorem dX12_init_374 : decode cX12_init 374 = .ok (.aload_n 0, 1) := by decide +kernel
theorem dX12_init_375 : decode cX12_init 375 = .ok (.iconst 5, 1) := by decide +kernel
theorem dX12_init_376 : decode cX12_init 376 = .ok (.newarray .int, 2) := by decide +kernel
theorem dX12_init_378 : decode cX12_init 378 = .ok (.putfield 154, 3) := by decide +kernel
theorem dX12_init_381 : decode cX12_init 381 = .ok (.aload_n 0, 1) := by decide +kernel
theorem dX12_init_382 : decode cX12_init 382 = .ok (.sipush 4096, 3) := by decide +kernel
theorem dX12_init_385 : decode cX12_init 385 = .ok (.newarray .boolean, 2) := by decide +kernel
theorem dX12_init_387 : decode cX12_init 387 = .ok (.putfield 157, 3) := by decide +kernel
theorem dX12_init_390 : decode cX12_init 390 = .ok (.aload_n 0, 1) := by decide +kernel
theorem dX12_init_391 : decode cX12_init 391 = .ok (.sipush 4096, 3) := by decide +kernel
theorem dX12_init_394 : decode cX12_init 394 = .ok (.newarray .boolean, 2) := by decide +kernel
theorem dX12_init_396 : decode cX12_init 396 = .ok (.putfield 160, 3) := by decide +kernel
theorem dX12_init_399 : decode cX12_init 399 = .ok (.aload_n 0, 1) := by decide +kernel
theorem dX12_init_400 : decode cX12_init 400 = .ok (.getfield 85, 3) := by decide +kernel
theorem dX12_init_403 : decode cX12_init 403 = .ok (.iconst 0, 1) := by decide +kernel
theorem dX12_init_404 : decode cX12_init 404 = .ok (.bipush 22, 2) := by decide +kernel
theorem dX12_init_406 : decode cX12_init 406 = .ok (.iastore, 1) := by decide +kernel
theorem dX12_init_407 : decode cX12_init 407 = .ok (.aload_n 0, 1) := by decide +kernel
theorem dX12_init_408 : decode cX12_init 408 = .ok (.getfield 85, 3) := by decide +kernel
theorem dX12_init_411 : decode cX12_init 411 = .ok (.iconst 1, 1) := by decide +kernel
theorem dX12_init_412 : decode cX12_init 412 = .ok (.bipush 6, 2) := by decide +kernel
theorem dX12_init_414 : decode cX12_init 414 = .ok (.iastore, 1) := by decide +kernel
theorem dX12_init_415 : decode cX12_init 415 = .ok (.aload_n 0, 1) := by decide +kernel
theorem dX12_init_416 : decode cX12_init 416 = .ok (.getfield 85, 3) := by decide +kernel
theorem dX12_init_419 : decode cX12_init 419 = .ok (.iconst 2, 1) := by decide +kernel
theorem dX12_init_420 : decode cX12_init 420 = .ok (.iconst 5, 1) := by decide +kernel
theorem dX12_init_421 : decode cX12_init 421 = .ok (.iastore, 1) := by decide +kernel
theorem dX12_init_422 : decode cX12_init 422 = .ok (.aload_n 0, 1) := by decide +kernel
theorem dX12_init_423 : decode cX12_init 423 = .ok (.getfield 85, 3) := by decide +kernel
theorem dX12_init_426 : decode cX12_init 426 = .ok (.iconst 3, 1) := by decide +kernel
theorem dX12_init_427 : decode cX12_init 427 = .ok (.sipush 240, 3) := by decide +kernel
theorem dX12_init_430 : decode cX12_init 430 = .ok (.iastore, 1) := by decide +kernel
theorem dX12_init_431 : decode cX12_init 431 = .ok (.aload_n 0, 1) := by decide +kernel
theorem dX12_init_432 : decode cX12_init 432 = .ok (.invokevirtual 163, 3) := by decide +kernel
theorem dX12_init_435 : decode cX12_init 435 = .ok (.return_, 1) := by decide +kernel
abbrev M_X12_init : aM := (yX12_init.cls, cX12_init, 1, none, [], yX12_init.name == "<init>")
abbrev J_X12_init (l : Launch) (E : aE) (n0 m0 : Nat) := GG (fun (_ : Unit) => .inl none) l E M_X12_init 1 30 n0 m0
theorem b_X12_init {l : Launch} {E : aE} (hl : l.stackTraces = false) (n0 m0 : Nat) (x1 : Nat) (h0 : aH) : J_X12_init l E n0 m0 0 [(0, .ref (e_z E + x1))] [] h0 (m_X12_init x1 h0) := by
  unfold m_X12_init
  refine g_aload_n (pc := 0) dX12_init_0 0 rfl ?_
  refine g_objInit (pc := 1) tw1546 tw35 tw36 (Nat.le_of_ble_eq_true rfl) (Nat.le_of_ble_eq_true rfl) dX12_init_1 ?_
  refine g_aload_n (pc := 4) dX12_init_4 0 rfl ?_
  refine g_sipush (pc := 5) dX12_init_5 cs_603 ?_
  refine g_newa (pc := 8) (t := 0) (n := 603) (x := (603 : Int32)) at_0 tw134 (by decide +kernel) (Nat.le_of_ble_eq_true rfl) dX12_init_8 (fun x2 h1 => ?_)
  refine g_putr (pc := 10) cl12 (Nat.le_of_ble_eq_true rfl) (Or.inr ⟨rfl, rfl, by decide +kernel, tw1552⟩) (fun _ _ _ => rfl) (fun _ => ⟨rfl, rfl⟩) dX12_init_10 (fun h2 => ?_)
  refine g_aload_n (pc := 13) dX12_init_13 0 rfl ?_
  refine g_sipush (pc := 14) dX12_init_14 cs_6030 ?_
  refine g_newa (pc := 17) (t := 0) (n := 6030) (x := (6030 : Int32)) at_0 tw134 (by decide +kernel) (Nat.le_of_ble_eq_true rfl) dX12_init_17 (fun x3 h3 => ?_)
  refine g_putr (pc := 19) cl12 (Nat.le_of_ble_eq_true rfl) (Or.inr ⟨rfl, rfl, by decide +kernel, tw1553⟩) (fun _ _ _ => rfl) (fun _ => ⟨rfl, rfl⟩) dX12_init_19 (fun h4 => ?_)
  refine g_aload_n (pc := 22) dX12_init_22 0 rfl ?_
  refine g_sipush (pc := 23) dX12_init_23 cs_1206 ?_
  refine g_newa (pc := 26) (t := 0) (n := 1206) (x := (1206 : Int32)) at_0 tw134 (by decide +kernel) (Nat.le_of_ble_eq_true rfl) dX12_init_26 (fun x4 h5 => ?_)
  refine g_putr (pc := 28) cl12 (Nat.le_of_ble_eq_true rfl) (Or.inr ⟨rfl, rfl, by decide +kernel, tw1554⟩) (fun _ _ _ => rfl) (fun _ => ⟨rfl, rfl⟩) dX12_init_28 (fun h6 => ?_)
  refine g_aload_n (pc := 31) dX12_init_31 0 rfl ?_
  refine g_sipush (pc := 32) dX12_init_32 cs_603 ?_
  refine g_newa (pc := 35) (t := 0) (n := 603) (x := (603 : Int32)) at_0 tw134 (by decide +kernel) (Nat.le_of_ble_eq_true rfl) dX12_init_35 (fun x5 h7 => ?_)
  refine g_putr (pc := 37) cl12 (Nat.le_of_ble_eq_true rfl) (Or.inr ⟨rfl, rfl, by decide +kernel, tw1555⟩) (fun _ _ _ => rfl) (fun _ => ⟨rfl, rfl⟩) dX12_init_37 (fun h8 => ?_)
  refine g_aload_n (pc := 40) dX12_init_40 0 rfl ?_
  refine g_iconst (pc := 41) dX12_init_41 ci_2 ?_
  refine g_newa (pc := 42) (t := 2) (n := 2) (x := (2 : Int32)) at_2 tw485 (by decide +kernel) (Nat.le_of_ble_eq_true rfl) dX12_init_42 (fun x6 h9 => ?_)
  refine g_putr (pc := 44) cl12 (Nat.le_of_ble_eq_true rfl) (Or.inr ⟨rfl, rfl, by decide +kernel, tw1556⟩) (fun _ _ _ => rfl) (fun _ => ⟨rfl, rfl⟩) dX12_init_44 (fun h10 => ?_)
  refine g_aload_n (pc := 47) dX12_init_47 0 rfl ?_
  refine g_iconst (pc := 48) dX12_init_48 ci_4 ?_
  refine g_newa (pc := 49) (t := 0) (n := 4) (x := (4 : Int32)) at_0 tw134 (by decide +kernel) (Nat.le_of_ble_eq_true rfl) dX12_init_49 (fun x7 h11 => ?_)
  refine g_putr (pc := 51) cl12 (Nat.le_of_ble_eq_true rfl) (Or.inr ⟨rfl, rfl, by decide +kernel, tw1558⟩) (fun _ _ _ => rfl) (fun _ => ⟨rfl, rfl⟩) dX12_init_51 (fun h12 => ?_)
  refine g_aload_n (pc := 54) dX12_init_54 0 rfl ?_
  refine g_bipush (pc := 55) dX12_init_55 cb_29 ?_
  refine g_newa (pc := 57) (t := 3) (n := 29) (x := (29 : Int32)) at_3 tw1765 (by decide +kernel) (Nat.le_of_ble_eq_true rfl) dX12_init_57 (fun x8 h13 => ?_)
  refine g_putr (pc := 59) cl12 (Nat.le_of_ble_eq_true rfl) (Or.inr ⟨rfl, rfl, by decide +kernel, tw1563⟩) (fun _ _ _ => rfl) (fun _ => ⟨rfl, rfl⟩) dX12_init_59 (fun h14 => ?_)
  refine g_aload_n (pc := 62) dX12_init_62 0 rfl ?_
  refine g_bipush (pc := 63) dX12_init_63 cb_12 ?_
  refine g_newa (pc := 65) (t := 0) (n := 12) (x := (12 : Int32)) at_0 tw134 (by decide +kernel) (Nat.le_of_ble_eq_true rfl) dX12_init_65 (fun x9 h15 => ?_)
  refine g_putr (pc := 67) cl12 (Nat.le_of_ble_eq_true rfl) (Or.inr ⟨rfl, rfl, by decide +kernel, tw1564⟩) (fun _ _ _ => rfl) (fun _ => ⟨rfl, rfl⟩) dX12_init_67 (fun h16 => ?_)
  refine g_aload_n (pc := 70) dX12_init_70 0 rfl ?_
  refine g_bipush (pc := 71) dX12_init_71 cb_12 ?_
  refine g_newa (pc := 73) (t := 0) (n := 12) (x := (12 : Int32)) at_0 tw134 (by decide +kernel) (Nat.le_of_ble_eq_true rfl) dX12_init_73 (fun x10 h17 => ?_)
  refine g_putr (pc := 75) cl12 (Nat.le_of_ble_eq_true rfl) (Or.inr ⟨rfl, rfl, by decide +kernel, tw1565⟩) (fun _ _ _ => rfl) (fun _ => ⟨rfl, rfl⟩) dX12_init_75 (fun h18 => ?_)
  refine g_aload_n (pc := 78) dX12_init_78 0 rfl ?_
  refine g_bipush (pc := 79) dX12_init_79 cb_6 ?_
  refine g_newa (pc := 81) (t := 0) (n := 6) (x := (6 : Int32)) at_0 tw134 (by decide +kernel) (Nat.le_of_ble_eq_true rfl) dX12_init_81 (fun x11 h19 => ?_)
  refine g_putr (pc := 83) cl12 (Nat.le_of_ble_eq_true rfl) (Or.inr ⟨rfl, rfl, by decide +kernel, tw1566⟩) (fun _ _ _ => rfl) (fun _ => ⟨rfl, rfl⟩) dX12_init_83 (fun h20 => ?_)
  refine g_aload_n (pc := 86) dX12_init_86 0 rfl ?_
  refine g_bipush (pc := 87) dX12_init_87 cb_6 ?_
  refine g_newa (pc := 89) (t := 0) (n := 6) (x := (6 : Int32)) at_0 tw134 (by decide +kernel) (Nat.le_of_ble_eq_true rfl) dX12_init_89 (fun x12 h21 => ?_)
  refine g_putr (pc := 91) cl12 (Nat.le_of_ble_eq_true rfl) (Or.inr ⟨rfl, rfl, by decide +kernel, tw1567⟩) (fun _ _ _ => rfl) (fun _ => ⟨rfl, rfl⟩) dX12_init_91 (fun h22 => ?_)
  refine g_aload_n (pc := 94) dX12_init_94 0 rfl ?_
  refine g_bipush (pc := 95) dX12_init_95 cb_6 ?_
  refine g_newa (pc := 97) (t := 0) (n := 6) (x := (6 : Int32)) at_0 tw134 (by decide +kernel) (Nat.le_of_ble_eq_true rfl) dX12_init_97 (fun x13 h23 => ?_)
  refine g_putr (pc := 99) cl12 (Nat.le_of_ble_eq_true rfl) (Or.inr ⟨rfl, rfl, by decide +kernel, tw1568⟩) (fun _ _ _ => rfl) (fun _ => ⟨rfl, rfl⟩) dX12_init_99 (fun h24 => ?_)
  refine g_aload_n (pc := 102) dX12_init_102 0 rfl ?_
  refine g_iconst (pc := 103) dX12_init_103 ci_5 ?_
  refine g_newa (pc := 104) (t := 0) (n := 5) (x := (5 : Int32)) at_0 tw134 (by decide +kernel) (Nat.le_of_ble_eq_true rfl) dX12_init_104 (fun x14 h25 => ?_)
  refine g_putr (pc := 106) cl12 (Nat.le_of_ble_eq_true rfl) (Or.inr ⟨rfl, rfl, by decide +kernel, tw1569⟩) (fun _ _ _ => rfl) (fun _ => ⟨rfl, rfl⟩) dX12_init_106 (fun h26 => ?_)
  refine g_aload_n (pc := 109) dX12_init_109 0 rfl ?_
  refine g_iconst (pc := 110) dX12_init_110 ci_5 ?_
  refine g_newa (pc := 111) (t := 0) (n := 5) (x := (5 : Int32)) at_0 tw134 (by decide +kernel) (Nat.le_of_ble_eq_true rfl) dX12_init_111 (fun x15 h27 => ?_)
  refine g_putr (pc := 113) cl12 (Nat.le_of_ble_eq_true rfl) (Or.inr ⟨rfl, rfl, by decide +kernel, tw1570⟩) (fun _ _ _ => rfl) (fun _ => ⟨rfl, rfl⟩) dX12_init_113 (fun h28 => ?_)
  refine g_aload_n (pc := 116) dX12_init_116 0 rfl ?_
  refine g_bipush (pc := 117) dX12_init_117 cb_30 ?_
  refine g_newa (pc := 119) (t := 0) (n := 30) (x := (30 : Int32)) at_0 tw134 (by decide +kernel) (Nat.le_of_ble_eq_true rfl) dX12_init_119 (fun x16 h29 => ?_)
  refine g_putr (pc := 121) cl12 (Nat.le_of_ble_eq_true rfl) (Or.inr ⟨rfl, rfl, by decide +kernel, tw1571⟩) (fun _ _ _ => rfl) (fun _ => ⟨rfl, rfl⟩) dX12_init_121 (fun h30 => ?_)
  refine g_aload_n (pc := 124) dX12_init_124 0 rfl ?_
  refine g_bipush (pc := 125) dX12_init_125 cb_6 ?_
  refine g_newa (pc := 127) (t := 0) (n := 6) (x := (6 : Int32)) at_0 tw134 (by decide +kernel) (Nat.le_of_ble_eq_true rfl) dX12_init_127 (fun x17 h31 => ?_)
  refine g_putr (pc := 129) cl12 (Nat.le_of_ble_eq_true rfl) (Or.inr ⟨rfl, rfl, by decide +kernel, tw1572⟩) (fun _ _ _ => rfl) (fun _ => ⟨rfl, rfl⟩) dX12_init_129 (fun h32 => ?_)
  refine g_aload_n (pc := 132) dX12_init_132 0 rfl ?_
  refine g_bipush (pc := 133) dX12_init_133 cb_6 ?_
  refine g_newa (pc := 135) (t := 0) (n := 6) (x := (6 : Int32)) at_0 tw134 (by decide +kernel) (Nat.le_of_ble_eq_true rfl) dX12_init_135 (fun x18 h33 => ?_)
  refine g_putr (pc := 137) cl12 (Nat.le_of_ble_eq_true rfl) (Or.inr ⟨rfl, rfl, by decide +kernel, tw1573⟩) (fun _ _ _ => rfl) (fun _ => ⟨rfl, rfl⟩) dX12_init_137 (fun h34 => ?_)
  refine g_aload_n (pc := 140) dX12_init_140 0 rfl ?_
  refine g_bipush (pc := 141) dX12_init_141 cb_6 ?_
  refine g_newa (pc := 143) (t := 0) (n := 6) (x := (6 : Int32)) at_0 tw134 (by decide +kernel) (Nat.le_of_ble_eq_true rfl) dX12_init_143 (fun x19 h35 => ?_)
  refine g_putr (pc := 145) cl12 (Nat.le_of_ble_eq_true rfl) (Or.inr ⟨rfl, rfl, by decide +kernel, tw1574⟩) (fun _ _ _ => rfl) (fun _ => ⟨rfl, rfl⟩) dX12_init_145 (fun h36 => ?_)
  refine g_aload_n (pc := 148) dX12_init_148 0 rfl ?_
  refine g_bipush (pc := 149) dX12_init_149 cb_6 ?_
  refine g_newa (pc := 151) (t := 0) (n := 6) (x := (6 : Int32)) at_0 tw134 (by decide +kernel) (Nat.le_of_ble_eq_true rfl) dX12_init_151 (fun x20 h37 => ?_)
  refine g_putr (pc := 153) cl12 (Nat.le_of_ble_eq_true rfl) (Or.inr ⟨rfl, rfl, by decide +kernel, tw1575⟩) (fun _ _ _ => rfl) (fun _ => ⟨rfl, rfl⟩) dX12_init_153 (fun h38 => ?_)
  refine g_aload_n (pc := 156) dX12_init_156 0 rfl ?_
  refine g_bipush (pc := 157) dX12_init_157 cb_36 ?_
  refine g_newa (pc := 159) (t := 0) (n := 36) (x := (36 : Int32)) at_0 tw134 (by decide +kernel) (Nat.le_of_ble_eq_true rfl) dX12_init_159 (fun x21 h39 => ?_)
  refine g_putr (pc := 161) cl12 (Nat.le_of_ble_eq_true rfl) (Or.inr ⟨rfl, rfl, by decide +kernel, tw1576⟩) (fun _ _ _ => rfl) (fun _ => ⟨rfl, rfl⟩) dX12_init_161 (fun h40 => ?_)
  refine g_aload_n (pc := 164) dX12_init_164 0 rfl ?_
  refine g_bipush (pc := 165) dX12_init_165 cb_6 ?_
  refine g_newa (pc := 167) (t := 0) (n := 6) (x := (6 : Int32)) at_0 tw134 (by decide +kernel) (Nat.le_of_ble_eq_true rfl) dX12_init_167 (fun x22 h41 => ?_)
  refine g_putr (pc := 169) cl12 (Nat.le_of_ble_eq_true rfl) (Or.inr ⟨rfl, rfl, by decide +kernel, tw1577⟩) (fun _ _ _ => rfl) (fun _ => ⟨rfl, rfl⟩) dX12_init_169 (fun h42 => ?_)
  refine g_aload_n (pc := 172) dX12_init_172 0 rfl ?_
  refine g_bipush (pc := 173) dX12_init_173 cb_30 ?_
  refine g_newa (pc := 175) (t := 0) (n := 30) (x := (30 : Int32)) at_0 tw134 (by decide +kernel) (Nat.le_of_ble_eq_true rfl) dX12_init_175 (fun x23 h43 => ?_)
  refine g_putr (pc := 177) cl12 (Nat.le_of_ble_eq_true rfl) (Or.inr ⟨rfl, rfl, by decide +kernel, tw1578⟩) (fun _ _ _ => rfl) (fun _ => ⟨rfl, rfl⟩) dX12_init_177 (fun h44 => ?_)
  refine g_aload_n (pc := 180) dX12_init_180 0 rfl ?_
  refine g_sipush (pc := 181) dX12_init_181 cs_1200 ?_
  refine g_newa (pc := 184) (t := 0) (n := 1200) (x := (1200 : Int32)) at_0 tw134 (by decide +kernel) (Nat.le_of_ble_eq_true rfl) dX12_init_184 (fun x24 h45 => ?_)
  refine g_putr (pc := 186) cl12 (Nat.le_of_ble_eq_true rfl) (Or.inr ⟨rfl, rfl, by decide +kernel, tw1579⟩) (fun _ _ _ => rfl) (fun _ => ⟨rfl, rfl⟩) dX12_init_186 (fun h46 => ?_)
  refine g_aload_n (pc := 189) dX12_init_189 0 rfl ?_
  refine g_iconst (pc := 190) dX12_init_190 ci_m1 ?_
  refine g_puti (pc := 191) cl12 (Nat.le_of_ble_eq_true rfl) (Or.inl ⟨rfl, fk1583⟩) (fun _ _ _ => rfl) (fun _ => ⟨rfl, rfl⟩) dX12_init_191 (fun h47 => ?_)
  refine g_aload_n (pc := 194) dX12_init_194 0 rfl ?_
  refine g_iconst (pc := 195) dX12_init_195 ci_4 ?_
  refine g_newa (pc := 196) (t := 0) (n := 4) (x := (4 : Int32)) at_0 tw134 (by decide +kernel) (Nat.le_of_ble_eq_true rfl) dX12_init_196 (fun x25 h48 => ?_)
  refine g_putr (pc := 198) cl12 (Nat.le_of_ble_eq_true rfl) (Or.inr ⟨rfl, rfl, by decide +kernel, tw1589⟩) (fun _ _ _ => rfl) (fun _ => ⟨rfl, rfl⟩) dX12_init_198 (fun h49 => ?_)
  refine g_aload_n (pc := 201) dX12_init_201 0 rfl ?_
  refine g_bipush (pc := 202) dX12_init_202 cb_29 ?_
  refine g_newa (pc := 204) (t := 3) (n := 29) (x := (29 : Int32)) at_3 tw1765 (by decide +kernel) (Nat.le_of_ble_eq_true rfl) dX12_init_204 (fun x26 h50 => ?_)
  refine g_putr (pc := 206) cl12 (Nat.le_of_ble_eq_true rfl) (Or.inr ⟨rfl, rfl, by decide +kernel, tw1595⟩) (fun _ _ _ => rfl) (fun _ => ⟨rfl, rfl⟩) dX12_init_206 (fun h51 => ?_)
  refine g_aload_n (pc := 209) dX12_init_209 0 rfl ?_
  refine g_bipush (pc := 210) dX12_init_210 cb_12 ?_
  refine g_newa (pc := 212) (t := 0) (n := 12) (x := (12 : Int32)) at_0 tw134 (by decide +kernel) (Nat.le_of_ble_eq_true rfl) dX12_init_212 (fun x27 h52 => ?_)
  refine g_putr (pc := 214) cl12 (Nat.le_of_ble_eq_true rfl) (Or.inr ⟨rfl, rfl, by decide +kernel, tw1596⟩) (fun _ _ _ => rfl) (fun _ => ⟨rfl, rfl⟩) dX12_init_214 (fun h53 => ?_)
  refine g_aload_n (pc := 217) dX12_init_217 0 rfl ?_
  refine g_bipush (pc := 218) dX12_init_218 cb_12 ?_
  refine g_newa (pc := 220) (t := 0) (n := 12) (x := (12 : Int32)) at_0 tw134 (by decide +kernel) (Nat.le_of_ble_eq_true rfl) dX12_init_220 (fun x28 h54 => ?_)
  refine g_putr (pc := 222) cl12 (Nat.le_of_ble_eq_true rfl) (Or.inr ⟨rfl, rfl, by decide +kernel, tw1597⟩) (fun _ _ _ => rfl) (fun _ => ⟨rfl, rfl⟩) dX12_init_222 (fun h55 => ?_)
  refine g_aload_n (pc := 225) dX12_init_225 0 rfl ?_
  refine g_sipush (pc := 226) dX12_init_226 cs_144 ?_
  refine g_newa (pc := 229) (t := 0) (n := 144) (x := (144 : Int32)) at_0 tw134 (by decide +kernel) (Nat.le_of_ble_eq_true rfl) dX12_init_229 (fun x29 h56 => ?_)
  refine g_putr (pc := 231) cl12 (Nat.le_of_ble_eq_true rfl) (Or.inr ⟨rfl, rfl, by decide +kernel, tw1598⟩) (fun _ _ _ => rfl) (fun _ => ⟨rfl, rfl⟩) dX12_init_231 (fun h57 => ?_)
  refine g_aload_n (pc := 234) dX12_init_234 0 rfl ?_
  refine g_sipush (pc := 235) dX12_init_235 cs_144 ?_
  refine g_newa (pc := 238) (t := 2) (n := 144) (x := (144 : Int32)) at_2 tw485 (by decide +kernel) (Nat.le_of_ble_eq_true rfl) dX12_init_238 (fun x30 h58 => ?_)
  refine g_putr (pc := 240) cl12 (Nat.le_of_ble_eq_true rfl) (Or.inr ⟨rfl, rfl, by decide +kernel, tw1599⟩) (fun _ _ _ => rfl) (fun _ => ⟨rfl, rfl⟩) dX12_init_240 (fun h59 => ?_)
  refine g_aload_n (pc := 243) dX12_init_243 0 rfl ?_
  refine g_bipush (pc := 244) dX12_init_244 cb_6 ?_
  refine g_newa (pc := 246) (t := 0) (n := 6) (x := (6 : Int32)) at_0 tw134 (by decide +kernel) (Nat.le_of_ble_eq_true rfl) dX12_init_246 (fun x31 h60 => ?_)
  refine g_putr (pc := 248) cl12 (Nat.le_of_ble_eq_true rfl) (Or.inr ⟨rfl, rfl, by decide +kernel, tw1600⟩) (fun _ _ _ => rfl) (fun _ => ⟨rfl, rfl⟩) dX12_init_248 (fun h61 => ?_)
  refine g_aload_n (pc := 251) dX12_init_251 0 rfl ?_
  refine g_bipush (pc := 252) dX12_init_252 cb_6 ?_
  refine g_newa (pc := 254) (t := 0) (n := 6) (x := (6 : Int32)) at_0 tw134 (by decide +kernel) (Nat.le_of_ble_eq_true rfl) dX12_init_254 (fun x32 h62 => ?_)
  refine g_putr (pc := 256) cl12 (Nat.le_of_ble_eq_true rfl) (Or.inr ⟨rfl, rfl, by decide +kernel, tw1601⟩) (fun _ _ _ => rfl) (fun _ => ⟨rfl, rfl⟩) dX12_init_256 (fun h63 => ?_)
  refine g_aload_n (pc := 259) dX12_init_259 0 rfl ?_
  refine g_bipush (pc := 260) dX12_init_260 cb_6 ?_
  refine g_newa (pc := 262) (t := 0) (n := 6) (x := (6 : Int32)) at_0 tw134 (by decide +kernel) (Nat.le_of_ble_eq_true rfl) dX12_init_262 (fun x33 h64 => ?_)
  refine g_putr (pc := 264) cl12 (Nat.le_of_ble_eq_true rfl) (Or.inr ⟨rfl, rfl, by decide +kernel, tw1602⟩) (fun _ _ _ => rfl) (fun _ => ⟨rfl, rfl⟩) dX12_init_264 (fun h65 => ?_)
  refine g_aload_n (pc := 267) dX12_init_267 0 rfl ?_
  refine g_bipush (pc := 268) dX12_init_268 cb_48 ?_
  refine g_newa (pc := 270) (t := 0) (n := 48) (x := (48 : Int32)) at_0 tw134 (by decide +kernel) (Nat.le_of_ble_eq_true rfl) dX12_init_270 (fun x34 h66 => ?_)
  refine g_putr (pc := 272) cl12 (Nat.le_of_ble_eq_true rfl) (Or.inr ⟨rfl, rfl, by decide +kernel, tw1603⟩) (fun _ _ _ => rfl) (fun _ => ⟨rfl, rfl⟩) dX12_init_272 (fun h67 => ?_)
  refine g_aload_n (pc := 275) dX12_init_275 0 rfl ?_
  refine g_iconst (pc := 276) dX12_init_276 ci_5 ?_
  refine g_newa (pc := 277) (t := 0) (n := 5) (x := (5 : Int32)) at_0 tw134 (by decide +kernel) (Nat.le_of_ble_eq_true rfl) dX12_init_277 (fun x35 h68 => ?_)
  refine g_putr (pc := 279) cl12 (Nat.le_of_ble_eq_true rfl) (Or.inr ⟨rfl, rfl, by decide +kernel, tw1604⟩) (fun _ _ _ => rfl) (fun _ => ⟨rfl, rfl⟩) dX12_init_279 (fun h69 => ?_)
  refine g_aload_n (pc := 282) dX12_init_282 0 rfl ?_
  refine g_iconst (pc := 283) dX12_init_283 ci_5 ?_
  refine g_newa (pc := 284) (t := 0) (n := 5) (x := (5 : Int32)) at_0 tw134 (by decide +kernel) (Nat.le_of_ble_eq_true rfl) dX12_init_284 (fun x36 h70 => ?_)
  refine g_putr (pc := 286) cl12 (Nat.le_of_ble_eq_true rfl) (Or.inr ⟨rfl, rfl, by decide +kernel, tw1605⟩) (fun _ _ _ => rfl) (fun _ => ⟨rfl, rfl⟩) dX12_init_286 (fun h71 => ?_)
  refine g_aload_n (pc := 289) dX12_init_289 0 rfl ?_
  refine g_bipush (pc := 290) dX12_init_290 cb_30 ?_
  refine g_newa (pc := 292) (t := 0) (n := 30) (x := (30 : Int32)) at_0 tw134 (by decide +kernel) (Nat.le_of_ble_eq_true rfl) dX12_init_292 (fun x37 h72 => ?_)
  refine g_putr (pc := 294) cl12 (Nat.le_of_ble_eq_true rfl) (Or.inr ⟨rfl, rfl, by decide +kernel, tw1606⟩) (fun _ _ _ => rfl) (fun _ => ⟨rfl, rfl⟩) dX12_init_294 (fun h73 => ?_)
  refine g_aload_n (pc := 297) dX12_init_297 0 rfl ?_
  refine g_bipush (pc := 298) dX12_init_298 cb_6 ?_
  refine g_newa (pc := 300) (t := 0) (n := 6) (x := (6 : Int32)) at_0 tw134 (by decide +kernel) (Nat.le_of_ble_eq_true rfl) dX12_init_300 (fun x38 h74 => ?_)
  refine g_putr (pc := 302) cl12 (Nat.le_of_ble_eq_true rfl) (Or.inr ⟨rfl, rfl, by decide +kernel, tw1607⟩) (fun _ _ _ => rfl) (fun _ => ⟨rfl, rfl⟩) dX12_init_302 (fun h75 => ?_)
  refine g_aload_n (pc := 305) dX12_init_305 0 rfl ?_
  refine g_bipush (pc := 306) dX12_init_306 cb_6 ?_
  refine g_newa (pc := 308) (t := 0) (n := 6) (x := (6 : Int32)) at_0 tw134 (by decide +kernel) (Nat.le_of_ble_eq_true rfl) dX12_init_308 (fun x39 h76 => ?_)
  refine g_putr (pc := 310) cl12 (Nat.le_of_ble_eq_true rfl) (Or.inr ⟨rfl, rfl, by decide +kernel, tw1608⟩) (fun _ _ _ => rfl) (fun _ => ⟨rfl, rfl⟩) dX12_init_310 (fun h77 => ?_)
  refine g_aload_n (pc := 313) dX12_init_313 0 rfl ?_
  refine g_bipush (pc := 314) dX12_init_314 cb_6 ?_
  refine g_newa (pc := 316) (t := 0) (n := 6) (x := (6 : Int32)) at_0 tw134 (by decide +kernel) (Nat.le_of_ble_eq_true rfl) dX12_init_316 (fun x40 h78 => ?_)
  refine g_putr (pc := 318) cl12 (Nat.le_of_ble_eq_true rfl) (Or.inr ⟨rfl, rfl, by decide +kernel, tw1609⟩) (fun _ _ _ => rfl) (fun _ => ⟨rfl, rfl⟩) dX12_init_318 (fun h79 => ?_)
  refine g_aload_n (pc := 321) dX12_init_321 0 rfl ?_
  refine g_bipush (pc := 322) dX12_init_322 cb_6 ?_
  refine g_newa (pc := 324) (t := 0) (n := 6) (x := (6 : Int32)) at_0 tw134 (by decide +kernel) (Nat.le_of_ble_eq_true rfl) dX12_init_324 (fun x41 h80 => ?_)
  refine g_putr (pc := 326) cl12 (Nat.le_of_ble_eq_true rfl) (Or.inr ⟨rfl, rfl, by decide +kernel, tw1610⟩) (fun _ _ _ => rfl) (fun _ => ⟨rfl, rfl⟩) dX12_init_326 (fun h81 => ?_)
  refine g_aload_n (pc := 329) dX12_init_329 0 rfl ?_
  refine g_bipush (pc := 330) dX12_init_330 cb_36 ?_
  refine g_newa (pc := 332) (t := 0) (n := 36) (x := (36 : Int32)) at_0 tw134 (by decide +kernel) (Nat.le_of_ble_eq_true rfl) dX12_init_332 (fun x42 h82 => ?_)
  refine g_putr (pc := 334) cl12 (Nat.le_of_ble_eq_true rfl) (Or.inr ⟨rfl, rfl, by decide +kernel, tw1611⟩) (fun _ _ _ => rfl) (fun _ => ⟨rfl, rfl⟩) dX12_init_334 (fun h83 => ?_)
  refine g_aload_n (pc := 337) dX12_init_337 0 rfl ?_
  refine g_bipush (pc := 338) dX12_init_338 cb_6 ?_
  refine g_newa (pc := 340) (t := 0) (n := 6) (x := (6 : Int32)) at_0 tw134 (by decide +kernel) (Nat.le_of_ble_eq_true rfl) dX12_init_340 (fun x43 h84 => ?_)
  refine g_putr (pc := 342) cl12 (Nat.le_of_ble_eq_true rfl) (Or.inr ⟨rfl, rfl, by decide +kernel, tw1612⟩) (fun _ _ _ => rfl) (fun _ => ⟨rfl, rfl⟩) dX12_init_342 (fun h85 => ?_)
  refine g_aload_n (pc := 345) dX12_init_345 0 rfl ?_
  refine g_bipush (pc := 346) dX12_init_346 cb_30 ?_
  refine g_newa (pc := 348) (t := 0) (n := 30) (x := (30 : Int32)) at_0 tw134 (by decide +kernel) (Nat.le_of_ble_eq_true rfl) dX12_init_348 (fun x44 h86 => ?_)
  refine g_putr (pc := 350) cl12 (Nat.le_of_ble_eq_true rfl) (Or.inr ⟨rfl, rfl, by decide +kernel, tw1613⟩) (fun _ _ _ => rfl) (fun _ => ⟨rfl, rfl⟩) dX12_init_350 (fun h87 => ?_)
  refine g_aload_n (pc := 353) dX12_init_353 0 rfl ?_
  refine g_iconst (pc := 354) dX12_init_354 ci_5 ?_
  refine g_newa (pc := 355) (t := 0) (n := 5) (x := (5 : Int32)) at_0 tw134 (by decide +kernel) (Nat.le_of_ble_eq_true rfl) dX12_init_355 (fun x45 h88 => ?_)
  refine g_putr (pc := 357) cl12 (Nat.le_of_ble_eq_true rfl) (Or.inr ⟨rfl, rfl, by decide +kernel, tw1615⟩) (fun _ _ _ => rfl) (fun _ => ⟨rfl, rfl⟩) dX12_init_357 (fun h89 => ?_)
  refine g_aload_n (pc := 360) dX12_init_360 0 rfl ?_
  refine g_iconst (pc := 361) dX12_init_361 ci_5 ?_
  refine g_newa (pc := 362) (t := 0) (n := 5) (x := (5 : Int32)) at_0 tw134 (by decide +kernel) (Nat.le_of_ble_eq_true rfl) dX12_init_362 (fun x46 h90 => ?_)
  refine g_putr (pc := 364) cl12 (Nat.le_of_ble_eq_true rfl) (Or.inr ⟨rfl, rfl, by decide +kernel, tw1616⟩) (fun _ _ _ => rfl) (fun _ => ⟨rfl, rfl⟩) dX12_init_364 (fun h91 => ?_)
  refine g_aload_n (pc := 367) dX12_init_367 0 rfl ?_
  refine g_iconst (pc := 368) dX12_init_368 ci_5 ?_
  refine g_newa (pc := 369) (t := 0) (n := 5) (x := (5 : Int32)) at_0 tw134 (by decide +kernel) (Nat.le_of_ble_eq_true rfl) dX12_init_369 (fun x47 h92 => ?_)
  refine g_putr (pc := 371) cl12 (Nat.le_of_ble_eq_true rfl) (Or.inr ⟨rfl, rfl, by decide +kernel, tw1617⟩) (fun _ _ _ => rfl) (fun _ => ⟨rfl, rfl⟩) dX12_init_371 (fun h93 => ?_)
  refine g_aload_n (pc := 374) dX12_init_374 0 rfl ?_
  refine g_iconst (pc := 375) dX12_init_375 ci_5 ?_
  refine g_newa (pc := 376) (t := 0) (n := 5) (x := (5 : Int32)) at_0 tw134 (by decide +kernel) (Nat.le_of_ble_eq_true rfl) dX12_init_376 (fun x48 h94 => ?_)
  refine g_putr (pc := 378) cl12 (Nat.le_of_ble_eq_true rfl) (Or.inr ⟨rfl, rfl, by decide +kernel, tw1618⟩) (fun _ _ _ => rfl) (fun _ => ⟨rfl, rfl⟩) dX12_init_378 (fun h95 => ?_)
  refine g_aload_n (pc := 381) dX12_init_381 0 rfl ?_
  refine g_sipush (pc := 382) dX12_init_382 cs_4096 ?_
  refine g_newa (pc := 385) (t := 2) (n := 4096) (x := (4096 : Int32)) at_2 tw485 (by decide +kernel) (Nat.le_of_ble_eq_true rfl) dX12_init_385 (fun x49 h96 => ?_)
  refine g_putr (pc := 387) cl12 (Nat.le_of_ble_eq_true rfl) (Or.inr ⟨rfl, rfl, by decide +kernel, tw1620⟩) (fun _ _ _ => rfl) (fun _ => ⟨rfl, rfl⟩) dX12_init_387 (fun h97 => ?_)
  refine g_aload_n (pc := 390) dX12_init_390 0 rfl ?_
  refine g_sipush (pc := 391) dX12_init_391 cs_4096 ?_
  refine g_newa (pc := 394) (t := 2) (n := 4096) (x := (4096 : Int32)) at_2 tw485 (by decide +kernel) (Nat.le_of_ble_eq_true rfl) dX12_init_394 (fun x50 h98 => ?_)
  refine g_putr (pc := 396) cl12 (Nat.le_of_ble_eq_true rfl) (Or.inr ⟨rfl, rfl, by decide +kernel, tw1621⟩) (fun _ _ _ => rfl) (fun _ => ⟨rfl, rfl⟩) dX12_init_396 (fun h99 => ?_)
  refine g_aload_n (pc := 399) dX12_init_399 0 rfl ?_
  refine g_getr (pc := 400) cl12 (Nat.le_of_ble_eq_true rfl) fk1589 (fun _ _ _ => rfl) dX12_init_400 (fun x51 => ?_)
  refine g_iconst (pc := 403) dX12_init_403 ci_0 ?_
  refine g_bipush (pc := 404) dX12_init_404 cb_22 ?_
  refine g_iast (pc := 406) dX12_init_406 (fun h100 => ?_)
  refine g_aload_n (pc := 407) dX12_init_407 0 rfl ?_
  refine g_getr (pc := 408) cl12 (Nat.le_of_ble_eq_true rfl) fk1589 (fun _ _ _ => rfl) dX12_init_408 (fun x52 => ?_)
  refine g_iconst (pc := 411) dX12_init_411 ci_1 ?_
  refine g_bipush (pc := 412) dX12_init_412 cb_6 ?_
  refine g_iast (pc := 414) dX12_init_414 (fun h101 => ?_)
  refine g_aload_n (pc := 415) dX12_init_415 0 rfl ?_
  refine g_getr (pc := 416) cl12 (Nat.le_of_ble_eq_true rfl) fk1589 (fun _ _ _ => rfl) dX12_init_416 (fun x53 => ?_)
  refine g_iconst (pc := 419) dX12_init_419 ci_2 ?_
  refine g_iconst (pc := 420) dX12_init_420 ci_5 ?_
  refine g_iast (pc := 421) dX12_init_421 (fun h102 => ?_)
  refine g_aload_n (pc := 422) dX12_init_422 0 rfl ?_
  refine g_getr (pc := 423) cl12 (Nat.le_of_ble_eq_true rfl) fk1589 (fun _ _ _ => rfl) dX12_init_423 (fun x54 => ?_)
  refine g_iconst (pc := 426) dX12_init_426 ci_3 ?_
  refine g_sipush (pc := 427) dX12_init_427 cs_240 ?_
  refine g_iast (pc := 430) dX12_init_430 (fun h103 => ?_)
  refine g_aload_n (pc := 431) dX12_init_431 0 rfl ?_
  refine g_gS (fun hs => ?_)
  refine g_bRv (pc := 432) (c_V cl12 hs (p_X12_takesText hl x1 h103) y_X12_takesText tw1547 dX12_init_432 rfl (st := []) rfl (Nat.le_of_ble_eq_true rfl) (Nat.le_of_ble_eq_true rfl) (Nat.le_of_ble_eq_true rfl)) (fun _ h104 => ?_)
  exact g_ret (pc := 435) rfl isRet_v dX12_init_435 rfl
theorem p_X12_init {l : Launch} {E : aE} (hl : l.stackTraces = false) (x1 : Nat) (h0 : aH) : MO (fun (_ : Unit) => .inl none) l E yX12_init (.code yX12_init cX12_init 1 none) 1 30 [.ref (e_z E + x1)] h0 (m_X12_init x1 h0) := g_met hl (by decide +kernel) (Nat.le_of_ble_eq_true rfl) (b_X12_init hl _ _ x1 h0)
theorem dX12_thrown_0 : decode cX12_thrown 0 = .ok (.aload_n 0, 1) := by decide +kernel
theorem dX12_thrown_1 : decode cX12_thrown 1 = .ok (.getfield 166, 3) := by decide +kernel
theorem dX12_thrown_4 : decode cX12_thrown 4 = .ok (.ireturn, 1) := by decide +kernel
abbrev M_X12_thrown : aM := (yX12_thrown.cls, cX12_thrown, 1, (some .int), [], yX12_thrown.name == "<init>")
abbrev J_X12_thrown (l : Launch) (E : aE) (n0 m0 : Nat) := GG (fun (v : Int32) => .inl (some (.int v))) l E M_X12_thrown 0 0 n0 m0
theorem b_X12_thrown {l : Launch} {E : aE} (hl : l.stackTraces = false) (n0 m0 : Nat) (x1 : Nat) (h0 : aH) : J_X12_thrown l E n0 m0 0 [(0, .ref (e_z E + x1))] [] h0 (m_X12_thrown x1 h0) := by
  unfold m_X12_thrown
  refine g_aload_n (pc := 0) dX12_thrown_0 0 rfl ?_
  refine g_geti (pc := 1) cl12 (Nat.le_of_ble_eq_true rfl) fk1551 (fun _ _ _ => rfl) dX12_thrown_1 (fun x2 => ?_)
  exact g_ret (pc := 4) rfl (isRet_i _) dX12_thrown_4 rfl
theorem p_X12_thrown {l : Launch} {E : aE} (hl : l.stackTraces = false) (x1 : Nat) (h0 : aH) : MO (fun (v : Int32) => .inl (some (.int v))) l E yX12_thrown (.code yX12_thrown cX12_thrown 1 (some .int)) 0 0 [.ref (e_z E + x1)] h0 (m_X12_thrown x1 h0) := g_met hl (by decide +kernel) (Nat.le_of_ble_eq_true rfl) (b_X12_thrown hl _ _ x1 h0)
theorem dX12_in_0 : decode cX12_in 0 = .ok (.lload_n 0, 1) := by decide +kernel
theorem dX12_in_1 : decode cX12_in 1 = .ok (.lload_n 2, 1) := by decide +kernel
theorem dX12_in_2 : decode cX12_in 2 = .ok (.lcmp, 1) := by decide +kernel
theorem dX12_in_3 : decode cX12_in 3 = .ok (.ifCond .lt 14, 3) := by decide +kernel
theorem dX12_in_6 : decode cX12_in 6 = .ok (.lload_n 0, 1) := by decide +kernel
theorem dX12_in_7 : decode cX12_in 7 = .ok (.lload 4, 2) := by decide +kernel
theorem dX12_in_9 : decode cX12_in 9 = .ok (.lcmp, 1) := by decide +kernel
theorem dX12_in_10 : decode cX12_in 10 = .ok (.ifCond .gt 7, 3) := by decide +kernel
theorem dX12_in_13 : decode cX12_in 13 = .ok (.iconst 1, 1) := by decide +kernel
theorem dX12_in_14 : decode cX12_in 14 = .ok (.goto 4, 3) := by decide +kernel
theorem dX12_in_17 : decode cX12_in 17 = .ok (.iconst 0, 1) := by decide +kernel
theorem dX12_in_18 : decode cX12_in 18 = .ok (.ireturn, 1) := by decide +kernel
abbrev M_X12_in : aM := (yX12_in.cls, cX12_in, 6, (some .boolean), [], yX12_in.name == "<init>")
abbrev J_X12_in (l : Launch) (E : aE) (n0 m0 : Nat) := GG (fun (v : Int32) => .inl (some (.int v))) l E M_X12_in 0 0 n0 m0
theorem b_X12_in {l : Launch} {E : aE} (hl : l.stackTraces = false) (n0 m0 : Nat) (x1 : Int64) (x2 : Int64) (x3 : Int64) (h0 : aH) : J_X12_in l E n0 m0 0 [(0, .long x1), (2, .long x2), (4, .long x3)] [] h0 (m_X12_in x1 x2 x3 h0) := by
  unfold m_X12_in
  refine g_lload_n (pc := 0) dX12_in_0 0 rfl ?_
  refine g_lload_n (pc := 1) dX12_in_1 1 rfl ?_
  refine g_lcmp (pc := 2) dX12_in_2 ?_
  refine g_join (fun k => ∀ (x4 : Int32) (h1 : aH), J_X12_in l E n0 m0 18 [] [.int x4] h1 (k x4 h1)) (fun x4 h1 => ?_) (fun k18 hk18 => ?_)
  · refine g_zO (fun hz => ?_)
    exact g_ret (pc := 18) rfl (isRet_z hz) dX12_in_18 rfl
  refine g_join (fun k => ∀ (h2 : aH), J_X12_in l E n0 m0 17 [] [] h2 (k h2)) (fun h2 => ?_) (fun k17 hk17 => ?_)
  · refine g_iconst (pc := 17) dX12_in_17 ci_0 ?_
    exact hk18 (0 : Int32) h2
  refine g_iflt (pc := 3) (tgt := 17) dX12_in_3 rfl ?_ ?_
  · refine g_lv [] rfl ?_
    exact hk17 h0
  · refine g_lload_n (pc := 6) dX12_in_6 0 rfl ?_
    refine g_lload (pc := 7) dX12_in_7 2 rfl ?_
    refine g_lcmp (pc := 9) dX12_in_9 ?_
    refine g_ifgt (pc := 10) (tgt := 17) dX12_in_10 rfl ?_ ?_
    · refine g_iconst (pc := 13) dX12_in_13 ci_1 ?_
      refine g_goto (pc := 14) (tgt := 18) dX12_in_14 rfl ?_
      refine g_lv [] rfl ?_
      exact hk18 (1 : Int32) h0
    · refine g_lv [] rfl ?_
      exact hk17 h0
theorem p_X12_in {l : Launch} {E : aE} (hl : l.stackTraces = false) (x1 : Int64) (x2 : Int64) (x3 : Int64) (h0 : aH) : MO (fun (v : Int32) => .inl (some (.int v))) l E yX12_in (.code yX12_in cX12_in 6 (some .boolean)) 0 0 [.long x1, .long x2, .long x3] h0 (m_X12_in x1 x2 x3 h0) := g_met hl (by decide +kernel) (Nat.le_of_ble_eq_true rfl) (b_X12_in hl _ _ x1 x2 x3 h0)
theorem dX12_bytes_0 : decode cX12_bytes 0 = .ok (.bipush 24, 2) := by decide +kernel
theorem dX12_bytes_2 : decode cX12_bytes 2 = .ok (.istore_n 2, 1) := by decide +kernel
theorem dX12_bytes_3 : decode cX12_bytes 3 = .ok (.iload_n 2, 1) := by decide +kernel
theorem dX12_bytes_4 : decode cX12_bytes 4 = .ok (.ifCond .lt 35, 3) := by decide +kernel
theorem dX12_bytes_7 : decode cX12_bytes 7 = .ok (.aload_n 0, 1) := by decide +kernel
theorem dX12_bytes_8 : decode cX12_bytes 8 = .ok (.getfield 78, 3) := by decide +kernel
theorem dX12_bytes_11 : decode cX12_bytes 11 = .ok (.aload_n 0, 1) := by decide +kernel
theorem dX12_bytes_12 : decode cX12_bytes 12 = .ok (.getfield 169, 3) := by decide +kernel
theorem dX12_bytes_15 : decode cX12_bytes 15 = .ok (.iload_n 1, 1) := by decide +kernel
theorem dX12_bytes_16 : decode cX12_bytes 16 = .ok (.iload_n 2, 1) := by decide +kernel
theorem dX12_bytes_17 : decode cX12_bytes 17 = .ok (.ishr, 1) := by decide +kernel
theorem dX12_bytes_18 : decode cX12_bytes 18 = .ok (.sipush 255, 3) := by decide +kernel
theorem dX12_bytes_21 : decode cX12_bytes 21 = .ok (.iand, 1) := by decide +kernel
theorem dX12_bytes_22 : decode cX12_bytes 22 = .ok (.iastore, 1) := by decide +kernel
theorem dX12_bytes_23 : decode cX12_bytes 23 = .ok (.aload_n 0, 1) := by decide +kernel
theorem dX12_bytes_24 : decode cX12_bytes 24 = .ok (.dup, 1) := by decide +kernel
theorem dX12_bytes_25 : decode cX12_bytes 25 = .ok (.getfield 169, 3) := by decide +kernel
theorem dX12_bytes_28 : decode cX12_bytes 28 = .ok (.iconst 1, 1) := by decide +kernel
theorem dX12_bytes_29 : decode cX12_bytes 29 = .ok (.iadd, 1) := by decide +kernel
theorem dX12_bytes_30 : decode cX12_bytes 30 = .ok (.putfield 169, 3) := by decide +kernel
theorem dX12_bytes_33 : decode cX12_bytes 33 = .ok (.iinc 2 (-8), 3) := by decide +kernel
theorem dX12_bytes_36 : decode cX12_bytes 36 = .ok (.goto (-33), 3) := by decide +kernel
theorem dX12_bytes_39 : decode cX12_bytes 39 = .ok (.return_, 1) := by decide +kernel
abbrev M_X12_bytes : aM := (yX12_bytes.cls, cX12_bytes, 3, none, [], yX12_bytes.name == "<init>")
abbrev J_X12_bytes (l : Launch) (E : aE) (n0 m0 : Nat) := GG (fun (_ : Unit) => .inl none) l E M_X12_bytes 0 0 n0 m0
theorem b_X12_bytes {l : Launch} {E : aE} (hl : l.stackTraces = false) (n0 m0 : Nat) (x1 : Nat) (x2 : Int32) (h0 : aH) : J_X12_bytes l E n0 m0 0 [(0, .ref (e_z E + x1)), (1, .int x2)] [] h0 (m_X12_bytes x1 x2 h0) := by
  unfold m_X12_bytes
  refine g_bipush (pc := 0) dX12_bytes_0 cb_24 ?_
  refine g_istore_n (pc := 2) (lv' := [(2, .int (24 : Int32)), (0, .ref (e_z E + x1)), (1, .int x2)]) dX12_bytes_2 (Nat.le_of_ble_eq_true rfl) rfl ?_
  refine g_join (fun k => ∀ (h1 : aH), J_X12_bytes l E n0 m0 39 [] [] h1 (k h1)) (fun h1 => ?_) (fun k39 hk39 => ?_)
  · exact g_ret (pc := 39) rfl isRet_v dX12_bytes_39 rfl
  refine g_lv [1, 2, 0] rfl ?_
  refine g_loop1 (F := (m_X12_bytes_L3 x1 x2 k39)) (fun x3 => [(0, .ref (e_z E + x1)), (1, .int x2), (2, .int x3)]) (fun r3 hr3 x3 h2 => ?_) _ _ _
  unfold m_X12_bytes_L3
  refine g_iload_n (pc := 3) dX12_bytes_3 2 rfl ?_
  refine g_iflt (pc := 4) (tgt := 39) dX12_bytes_4 rfl ?_ ?_
  · refine g_lv [] rfl ?_
    exact hk39 h2
  · refine g_aload_n (pc := 7) dX12_bytes_7 0 rfl ?_
    refine g_getr (pc := 8) cl12 (Nat.le_of_ble_eq_true rfl) fk1579 (fun _ _ _ => rfl) dX12_bytes_8 (fun x4 => ?_)
    refine g_aload_n (pc := 11) dX12_bytes_11 0 rfl ?_
    refine g_geti (pc := 12) cl12 (Nat.le_of_ble_eq_true rfl) fk1580 (fun _ _ _ => rfl) dX12_bytes_12 (fun x5 => ?_)
    refine g_iload_n (pc := 15) dX12_bytes_15 1 rfl ?_
    refine g_iload_n (pc := 16) dX12_bytes_16 2 rfl ?_
    refine g_ishr (pc := 17) dX12_bytes_17 ?_
    refine g_sipush (pc := 18) dX12_bytes_18 cs_255 ?_
    refine g_iand (pc := 21) dX12_bytes_21 ?_
    refine g_iast (pc := 22) dX12_bytes_22 (fun h3 => ?_)
    refine g_aload_n (pc := 23) dX12_bytes_23 0 rfl ?_
    refine g_dup (pc := 24) rfl dX12_bytes_24 ?_
    refine g_geti (pc := 25) cl12 (Nat.le_of_ble_eq_true rfl) fk1580 (fun _ _ _ => rfl) dX12_bytes_25 (fun x6 => ?_)
    refine g_iconst (pc := 28) dX12_bytes_28 ci_1 ?_
    refine g_iadd (pc := 29) dX12_bytes_29 ?_
    refine g_puti (pc := 30) cl12 (Nat.le_of_ble_eq_true rfl) (Or.inl ⟨rfl, fk1580⟩) (fun _ _ _ => rfl) (fun _ => ⟨rfl, rfl⟩) dX12_bytes_30 (fun h4 => ?_)
    refine g_iincN (pc := 33) dX12_bytes_33 2 rfl ci_m8 (Nat.le_of_ble_eq_true rfl) (fun x7 => ?_)
    refine g_lvr (lv' := [(2, .int x7), (0, .ref (e_z E + x1)), (1, .int x2)]) rfl ?_
    refine g_goto (pc := 36) (tgt := 3) dX12_bytes_36 rfl ?_
    refine g_lv [1, 2, 0] rfl ?_
    exact hr3 x7 h4
theorem p_X12_bytes {l : Launch} {E : aE} (hl : l.stackTraces = false) (x1 : Nat) (x2 : Int32) (h0 : aH) : MO (fun (_ : Unit) => .inl none) l E yX12_bytes (.code yX12_bytes cX12_bytes 3 none) 0 0 [.ref (e_z E + x1), .int x2] h0 (m_X12_bytes x1 x2 h0) := g_met hl (by decide +kernel) (Nat.le_of_ble_eq_true rfl) (b_X12_bytes hl _ _ x1 x2 h0)
theorem dX12_append_0 : decode cX12_append 0 = .ok (.aload_n 0, 1) := by decide +kernel
theorem dX12_append_1 : decode cX12_append 1 = .ok (.aload_n 0, 1) := by decide +kernel
theorem dX12_append_2 : decode cX12_append 2 = .ok (.getfield 169, 3) := by decide +kernel
theorem dX12_append_5 : decode cX12_append 5 = .ok (.bipush 20, 2) := by decide +kernel
theorem dX12_append_7 : decode cX12_append 7 = .ok (.iadd, 1) := by decide +kernel
theorem dX12_append_8 : decode cX12_append 8 = .ok (.sipush 1200, 3) := by decide +kernel
theorem dX12_append_11 : decode cX12_append 11 = .ok (.if_icmp .le 7, 3) := by decide +kernel
theorem dX12_append_14 : decode cX12_append 14 = .ok (.iconst 1, 1) := by decide +kernel
theorem dX12_append_15 : decode cX12_append 15 = .ok (.goto 4, 3) := by decide +kernel
theorem dX12_append_18 : decode cX12_append 18 = .ok (.iconst 0, 1) := by decide +kernel
theorem dX12_append_19 : decode cX12_append 19 = .ok (.putfield 166, 3) := by decide +kernel
theorem dX12_append_22 : decode cX12_append 22 = .ok (.aload_n 0, 1) := by decide +kernel
theorem dX12_append_23 : decode cX12_append 23 = .ok (.getfield 166, 3) := by decide +kernel
theorem dX12_append_26 : decode cX12_append 26 = .ok (.ifCond .le 5, 3) := by decide +kernel
theorem dX12_append_29 : decode cX12_append 29 = .ok (.iconst 0, 1) := by decide +kernel
theorem dX12_append_30 : decode cX12_append 30 = .ok (.ireturn, 1) := by decide +kernel
theorem dX12_append_31 : decode cX12_append 31 = .ok (.aload_n 0, 1) := by decide +kernel
theorem dX12_append_32 : decode cX12_append 32 = .ok (.iload_n 1, 1) := by decide +kernel
theorem dX12_append_33 : decode cX12_append 33 = .ok (.invokevirtual 172, 3) := by decide +kernel
theorem dX12_append_36 : decode cX12_append 36 = .ok (.aload_n 0, 1) := by decide +kernel
theorem dX12_append_37 : decode cX12_append 37 = .ok (.iload_n 2, 1) := by decide +kernel
theorem dX12_append_38 : decode cX12_append 38 = .ok (.invokevirtual 172, 3) := by decide +kernel
theorem dX12_append_41 : decode cX12_append 41 = .ok (.aload_n 0, 1) := by decide +kernel
theorem dX12_append_42 : decode cX12_append 42 = .ok (.iload_n 3, 1) := by decide +kernel
theorem dX12_append_43 : decode cX12_append 43 = .ok (.invokevirtual 172, 3) := by decide +kernel
theorem dX12_append_46 : decode cX12_append 46 = .ok (.aload_n 0, 1) := by decide +kernel
theorem dX12_append_47 : decode cX12_append 47 = .ok (.iload 4, 2) := by decide +kernel
theorem dX12_append_49 : decode cX12_append 49 = .ok (.invokevirtual 172, 3) := by decide +kernel
theorem dX12_append_52 : decode cX12_append 52 = .ok (.aload_n 0, 1) := by decide +kernel
theorem dX12_append_53 : decode cX12_append 53 = .ok (.iload 5, 2) := by decide +kernel
theorem dX12_append_55 : decode cX12_append 55 = .ok (.invokevirtual 172, 3) := by decide +kernel
theorem dX12_append_58 : decode cX12_append 58 = .ok (.aload_n 0, 1) := by decide +kernel
theorem dX12_append_59 : decode cX12_append 59 = .ok (.getfield 169, 3) := by decide +kernel
theorem dX12_append_62 : decode cX12_append 62 = .ok (.ireturn, 1) := by decide +kernel
abbrev M_X12_append : aM := (yX12_append.cls, cX12_append, 6, (some .int), [], yX12_append.name == "<init>")
abbrev J_X12_append (l : Launch) (E : aE) (n0 m0 : Nat) := GG (fun (v : Int32) => .inl (some (.int v))) l E M_X12_append 1 22 n0 m0
theorem b_X12_append {l : Launch} {E : aE} (hl : l.stackTraces = false) (n0 m0 : Nat) (x1 : Nat) (x2 : Int32) (x3 : Int32) (x4 : Int32) (x5 : Int32) (x6 : Int32) (h0 : aH) : J_X12_append l E n0 m0 0 [(0, .ref (e_z E + x1)), (1, .int x2), (2, .int x3), (3, .int x4), (4, .int x5), (5, .int x6)] [] h0 (m_X12_append x1 x2 x3 x4 x5 x6 h0) := by
  unfold m_X12_append
  refine g_aload_n (pc := 0) dX12_append_0 0 rfl ?_
  refine g_aload_n (pc := 1) dX12_append_1 0 rfl ?_
  refine g_geti (pc := 2) cl12 (Nat.le_of_ble_eq_true rfl) fk1580 (fun _ _ _ => rfl) dX12_append_2 (fun x7 => ?_)
  refine g_bipush (pc := 5) dX12_append_5 cb_20 ?_
  refine g_iadd (pc := 7) dX12_append_7 ?_
  refine g_sipush (pc := 8) dX12_append_8 cs_1200 ?_
  refine g_join (fun k => ∀ (x8 : Int32) (h1 : aH), J_X12_append l E n0 m0 19 [(0, .ref (e_z E + x1)), (1, .int x2), (2, .int x3), (3, .int x4), (4, .int x5), (5, .int x6)] [.int x8, .ref (e_z E + x1)] h1 (k x8 h1)) (fun x8 h1 => ?_) (fun k19 hk19 => ?_)
  · refine g_puti (pc := 19) cl12 (Nat.le_of_ble_eq_true rfl) (Or.inl ⟨rfl, fk1551⟩) (fun _ _ _ => rfl) (fun _ => ⟨rfl, rfl⟩) dX12_append_19 (fun h2 => ?_)
    refine g_aload_n (pc := 22) dX12_append_22 0 rfl ?_
    refine g_geti (pc := 23) cl12 (Nat.le_of_ble_eq_true rfl) fk1551 (fun _ _ _ => rfl) dX12_append_23 (fun x9 => ?_)
    refine g_ifle (pc := 26) (tgt := 31) dX12_append_26 rfl ?_ ?_
    · refine g_aload_n (pc := 31) dX12_append_31 0 rfl ?_
      refine g_iload_n (pc := 32) dX12_append_32 1 rfl ?_
      refine g_gS (fun hs => ?_)
      refine g_bRv (pc := 33) (c_V cl12 hs (p_X12_bytes hl x1 x2 h2) y_X12_bytes tw1774 dX12_append_33 rfl (st := []) rfl (Nat.le_of_ble_eq_true rfl) (Nat.le_of_ble_eq_true rfl) (Nat.le_of_ble_eq_true rfl)) (fun _ h3 => ?_)
      refine g_aload_n (pc := 36) dX12_append_36 0 rfl ?_
      refine g_iload_n (pc := 37) dX12_append_37 2 rfl ?_
      refine g_gS (fun hs => ?_)
      refine g_bRv (pc := 38) (c_V cl12 hs (p_X12_bytes hl x1 x3 h3) y_X12_bytes tw1774 dX12_append_38 rfl (st := []) rfl (Nat.le_of_ble_eq_true rfl) (Nat.le_of_ble_eq_true rfl) (Nat.le_of_ble_eq_true rfl)) (fun _ h4 => ?_)
      refine g_aload_n (pc := 41) dX12_append_41 0 rfl ?_
      refine g_iload_n (pc := 42) dX12_append_42 3 rfl ?_
      refine g_gS (fun hs => ?_)
      refine g_bRv (pc := 43) (c_V cl12 hs (p_X12_bytes hl x1 x4 h4) y_X12_bytes tw1774 dX12_append_43 rfl (st := []) rfl (Nat.le_of_ble_eq_true rfl) (Nat.le_of_ble_eq_true rfl) (Nat.le_of_ble_eq_true rfl)) (fun _ h5 => ?_)
      refine g_aload_n (pc := 46) dX12_append_46 0 rfl ?_
      refine g_iload (pc := 47) dX12_append_47 4 rfl ?_
      refine g_gS (fun hs => ?_)
      refine g_bRv (pc := 49) (c_V cl12 hs (p_X12_bytes hl x1 x5 h5) y_X12_bytes tw1774 dX12_append_49 rfl (st := []) rfl (Nat.le_of_ble_eq_true rfl) (Nat.le_of_ble_eq_true rfl) (Nat.le_of_ble_eq_true rfl)) (fun _ h6 => ?_)
      refine g_aload_n (pc := 52) dX12_append_52 0 rfl ?_
      refine g_iload (pc := 53) dX12_append_53 5 rfl ?_
      refine g_gS (fun hs => ?_)
      refine g_bRv (pc := 55) (c_V cl12 hs (p_X12_bytes hl x1 x6 h6) y_X12_bytes tw1774 dX12_append_55 rfl (st := []) rfl (Nat.le_of_ble_eq_true rfl) (Nat.le_of_ble_eq_true rfl) (Nat.le_of_ble_eq_true rfl)) (fun _ h7 => ?_)
      refine g_aload_n (pc := 58) dX12_append_58 0 rfl ?_
      refine g_geti (pc := 59) cl12 (Nat.le_of_ble_eq_true rfl) fk1580 (fun _ _ _ => rfl) dX12_append_59 (fun x10 => ?_)
      exact g_ret (pc := 62) rfl (isRet_i _) dX12_append_62 rfl
    · refine g_iconst (pc := 29) dX12_append_29 ci_0 ?_
      exact g_ret (pc := 30) rfl (isRet_i _) dX12_append_30 rfl
  refine g_icmple (pc := 11) (tgt := 18) dX12_append_11 rfl ?_ ?_
  · refine g_iconst (pc := 18) dX12_append_18 ci_0 ?_
    exact hk19 (0 : Int32) h0
  · refine g_iconst (pc := 14) dX12_append_14 ci_1 ?_
    refine g_goto (pc := 15) (tgt := 19) dX12_append_15 rfl ?_
    exact hk19 (1 : Int32) h0
theorem p_X12_append {l : Launch} {E : aE} (hl : l.stackTraces = false) (x1 : Nat) (x2 : Int32) (x3 : Int32) (x4 : Int32) (x5 : Int32) (x6 : Int32) (h0 : aH) : MO (fun (v : Int32) => .inl (some (.int v))) l E yX12_append (.code yX12_append cX12_append 6 (some .int)) 1 22 [.ref (e_z E + x1), .int x2, .int x3, .int x4, .int x5, .int x6] h0 (m_X12_append x1 x2 x3 x4 x5 x6 h0) := g_met hl (by decide +kernel) (Nat.le_of_ble_eq_true rfl) (b_X12_append hl _ _ x1 x2 x3 x4 x5 x6 h0)
theorem dX12_truncate_0 : decode cX12_truncate 0 = .ok (.aload_n 0, 1) := by decide +kernel
theorem dX12_truncate_1 : decode cX12_truncate 1 = .ok (.iload_n 1, 1) := by decide +kernel
theorem dX12_truncate_2 : decode cX12_truncate 2 = .ok (.i2l, 1) := by decide +kernel
theorem dX12_truncate_3 : decode cX12_truncate 3 = .ok (.lconst 0, 1) := by decide +kernel
theorem dX12_truncate_4 : decode cX12_truncate 4 = .ok (.aload_n 0, 1) := by decide +kernel
theorem dX12_truncate_5 : decode cX12_truncate 5 = .ok (.getfield 169, 3) := by decide +kernel
theorem dX12_truncate_8 : decode cX12_truncate 8 = .ok (.i2l, 1) := by decide +kernel
theorem dX12_truncate_9 : decode cX12_truncate 9 = .ok (.invokestatic 176, 3) := by decide +kernel
theorem dX12_truncate_12 : decode cX12_truncate 12 = .ok (.ifCond .eq 7, 3) := by decide +kernel
theorem dX12_truncate_15 : decode cX12_truncate 15 = .ok (.iconst 0, 1) := by decide +kernel
theorem dX12_truncate_16 : decode cX12_truncate 16 = .ok (.goto 4, 3) := by decide +kernel
theorem dX12_truncate_19 : decode cX12_truncate 19 = .ok (.iconst 1, 1) := by decide +kernel
theorem dX12_truncate_20 : decode cX12_truncate 20 = .ok (.putfield 166, 3) := by decide +kernel
theorem dX12_truncate_23 : decode cX12_truncate 23 = .ok (.aload_n 0, 1) := by decide +kernel
theorem dX12_truncate_24 : decode cX12_truncate 24 = .ok (.getfield 166, 3) := by decide +kernel
theorem dX12_truncate_27 : decode cX12_truncate 27 = .ok (.ifCond .le 5, 3) := by decide +kernel
theorem dX12_truncate_30 : decode cX12_truncate 30 = .ok (.iconst 0, 1) := by decide +kernel
theorem dX12_truncate_31 : decode cX12_truncate 31 = .ok (.ireturn, 1) := by decide +kernel
theorem dX12_truncate_32 : decode cX12_truncate 32 = .ok (.aload_n 0, 1) := by decide +kernel
theorem dX12_truncate_33 : decode cX12_truncate 33 = .ok (.iload_n 1, 1) := by decide +kernel
theorem dX12_truncate_34 : decode cX12_truncate 34 = .ok (.putfield 169, 3) := by decide +kernel
theorem dX12_truncate_37 : decode cX12_truncate 37 = .ok (.iload_n 1, 1) := by decide +kernel
theorem dX12_truncate_38 : decode cX12_truncate 38 = .ok (.ireturn, 1) := by decide +kernel
abbrev M_X12_truncate : aM := (yX12_truncate.cls, cX12_truncate, 2, (some .int), [], yX12_truncate.name == "<init>")
abbrev J_X12_truncate (l : Launch) (E : aE) (n0 m0 : Nat) := GG (fun (v : Int32) => .inl (some (.int v))) l E M_X12_truncate 1 25 n0 m0
theorem b_X12_truncate {l : Launch} {E : aE} (hl : l.stackTraces = false) (n0 m0 : Nat) (x1 : Nat) (x2 : Int32) (h0 : aH) : J_X12_truncate l E n0 m0 0 [(0, .ref (e_z E + x1)), (1, .int x2)] [] h0 (m_X12_truncate x1 x2 h0) := by
  unfold m_X12_truncate
  refine g_aload_n (pc := 0) dX12_truncate_0 0 rfl ?_
  refine g_iload_n (pc := 1) dX12_truncate_1 1 rfl ?_
  refine g_i2l (pc := 2) dX12_truncate_2 ?_
  refine g_lconst (pc := 3) dX12_truncate_3 cl_0 ?_
  refine g_aload_n (pc := 4) dX12_truncate_4 0 rfl ?_
  refine g_geti (pc := 5) cl12 (Nat.le_of_ble_eq_true rfl) fk1580 (fun _ _ _ => rfl) dX12_truncate_5 (fun x3 => ?_)
  refine g_i2l (pc := 8) dX12_truncate_8 ?_
  refine g_bRi (pc := 9) (c_S (p_X12_in hl (x2.toInt64) (0 : Int64) (x3.toInt64) h0) y_X12_in tw1782 dX12_truncate_9 rfl (st := [.ref (e_z E + x1)]) rfl (Nat.le_of_ble_eq_true rfl) (Nat.le_of_ble_eq_true rfl) (Nat.le_of_ble_eq_true rfl)) (fun x4 h1 => ?_)
  refine g_join (fun k => ∀ (x5 : Int32) (h2 : aH), J_X12_truncate l E n0 m0 20 [(0, .ref (e_z E + x1)), (1, .int x2)] [.int x5, .ref (e_z E + x1)] h2 (k x5 h2)) (fun x5 h2 => ?_) (fun k20 hk20 => ?_)
  · refine g_puti (pc := 20) cl12 (Nat.le_of_ble_eq_true rfl) (Or.inl ⟨rfl, fk1551⟩) (fun _ _ _ => rfl) (fun _ => ⟨rfl, rfl⟩) dX12_truncate_20 (fun h3 => ?_)
    refine g_aload_n (pc := 23) dX12_truncate_23 0 rfl ?_
    refine g_geti (pc := 24) cl12 (Nat.le_of_ble_eq_true rfl) fk1551 (fun _ _ _ => rfl) dX12_truncate_24 (fun x6 => ?_)
    refine g_ifle (pc := 27) (tgt := 32) dX12_truncate_27 rfl ?_ ?_
    · refine g_aload_n (pc := 32) dX12_truncate_32 0 rfl ?_
      refine g_iload_n (pc := 33) dX12_truncate_33 1 rfl ?_
      refine g_puti (pc := 34) cl12 (Nat.le_of_ble_eq_true rfl) (Or.inl ⟨rfl, fk1580⟩) (fun _ _ _ => rfl) (fun _ => ⟨rfl, rfl⟩) dX12_truncate_34 (fun h4 => ?_)
      refine g_iload_n (pc := 37) dX12_truncate_37 1 rfl ?_
      exact g_ret (pc := 38) rfl (isRet_i _) dX12_truncate_38 rfl
    · refine g_iconst (pc := 30) dX12_truncate_30 ci_0 ?_
      exact g_ret (pc := 31) rfl (isRet_i _) dX12_truncate_31 rfl
  refine g_ifeq (pc := 12) (tgt := 19) dX12_truncate_12 rfl ?_ ?_
  · refine g_iconst (pc := 19) dX12_truncate_19 ci_1 ?_
    exact hk20 (1 : Int32) h1
  · refine g_iconst (pc := 15) dX12_truncate_15 ci_0 ?_
    refine g_goto (pc := 16) (tgt := 20) dX12_truncate_16 rfl ?_
    exact hk20 (0 : Int32) h1
theorem p_X12_truncate {l : Launch} {E : aE} (hl : l.stackTraces = false) (x1 : Nat) (x2 : Int32) (h0 : aH) : MO (fun (v : Int32) => .inl (some (.int v))) l E yX12_truncate (.code yX12_truncate cX12_truncate 2 (some .int)) 1 25 [.ref (e_z E + x1), .int x2] h0 (m_X12_truncate x1 x2 h0) := g_met hl (by decide +kernel) (Nat.le_of_ble_eq_true rfl) (b_X12_truncate hl _ _ x1 x2 h0)
theorem dX12_fault_0 : decode cX12_fault 0 = .ok (.aload_n 0, 1) := by decide +kernel
theorem dX12_fault_1 : decode cX12_fault 1 = .ok (.getfield 180, 3) := by decide +kernel
theorem dX12_fault_4 : decode cX12_fault 4 = .ok (.ifCond .ne 18, 3) := by decide +kernel
theorem dX12_fault_7 : decode cX12_fault 7 = .ok (.aload_n 0, 1) := by decide +kernel
theorem dX12_fault_8 : decode cX12_fault 8 = .ok (.iconst 1, 1) := by decide +kernel
theorem dX12_fault_9 : decode cX12_fault 9 = .ok (.putfield 180, 3) := by decide +kernel
theorem dX12_fault_12 : decode cX12_fault 12 = .ok (.aload_n 0, 1) := by decide +kernel
theorem dX12_fault_13 : decode cX12_fault 13 = .ok (.iload_n 1, 1) := by decide +kernel
theorem dX12_fault_14 : decode cX12_fault 14 = .ok (.putfield 184, 3) := by decide +kernel
theorem dX12_fault_17 : decode cX12_fault 17 = .ok (.aload_n 0, 1) := by decide +kernel
theorem dX12_fault_18 : decode cX12_fault 18 = .ok (.iload_n 2, 1) := by decide +kernel
theorem dX12_fault_19 : decode cX12_fault 19 = .ok (.putfield 81, 3) := by decide +kernel
theorem dX12_fault_22 : decode cX12_fault 22 = .ok (.return_, 1) := by decide +kernel
abbrev M_X12_fault : aM := (yX12_fault.cls, cX12_fault, 3, none, [], yX12_fault.name == "<init>")
abbrev J_X12_fault (l : Launch) (E : aE) (n0 m0 : Nat) := GG (fun (_ : Unit) => .inl none) l E M_X12_fault 0 0 n0 m0
theorem b_X12_fault {l : Launch} {E : aE} (hl : l.stackTraces = false) (n0 m0 : Nat) (x1 : Nat) (x2 : Int32) (x3 : Int32) (h0 : aH) : J_X12_fault l E n0 m0 0 [(0, .ref (e_z E + x1)), (1, .int x2), (2, .int x3)] [] h0 (m_X12_fault x1 x2 x3 h0) := by
  unfold m_X12_fault
  refine g_aload_n (pc := 0) dX12_fault_0 0 rfl ?_
  refine g_geti (pc := 1) cl12 (Nat.le_of_ble_eq_true rfl) fk1584 (fun _ _ _ => rfl) dX12_fault_1 (fun x4 => ?_)
  refine g_join (fun k => ∀ (h1 : aH), J_X12_fault l E n0 m0 22 [] [] h1 (k h1)) (fun h1 => ?_) (fun k22 hk22 => ?_)
  · exact g_ret (pc := 22) rfl isRet_v dX12_fault_22 rfl
  refine g_ifne (pc := 4) (tgt := 22) dX12_fault_4 rfl ?_ ?_
  · refine g_aload_n (pc := 7) dX12_fault_7 0 rfl ?_
    refine g_iconst (pc := 8) dX12_fault_8 ci_1 ?_
    refine g_putz (pc := 9) cl12 (Nat.le_of_ble_eq_true rfl) (Or.inl ⟨rfl, fk1584⟩) (fun _ _ _ => rfl) ⟨⟨rfl, rfl⟩, rfl, rfl⟩ dX12_fault_9 (fun h2 => ?_)
    refine g_aload_n (pc := 12) dX12_fault_12 0 rfl ?_
    refine g_iload_n (pc := 13) dX12_fault_13 1 rfl ?_
    refine g_puti (pc := 14) cl12 (Nat.le_of_ble_eq_true rfl) (Or.inl ⟨rfl, fk1582⟩) (fun _ _ _ => rfl) (fun _ => ⟨rfl, rfl⟩) dX12_fault_14 (fun h3 => ?_)
    refine g_aload_n (pc := 17) dX12_fault_17 0 rfl ?_
    refine g_iload_n (pc := 18) dX12_fault_18 2 rfl ?_
    refine g_puti (pc := 19) cl12 (Nat.le_of_ble_eq_true rfl) (Or.inl ⟨rfl, fk1583⟩) (fun _ _ _ => rfl) (fun _ => ⟨rfl, rfl⟩) dX12_fault_19 (fun h4 => ?_)
    refine g_lv [] rfl ?_
    exact hk22 h4
  · refine g_lv [] rfl ?_
    exact hk22 h0
theorem p_X12_fault {l : Launch} {E : aE} (hl : l.stackTraces = false) (x1 : Nat) (x2 : Int32) (x3 : Int32) (h0 : aH) : MO (fun (_ : Unit) => .inl none) l E yX12_fault (.code yX12_fault cX12_fault 3 none) 0 0 [.ref (e_z E + x1), .int x2, .int x3] h0 (m_X12_fault x1 x2 x3 h0) := g_met hl (by decide +kernel) (Nat.le_of_ble_eq_true rfl) (b_X12_fault hl _ _ x1 x2 x3 h0)
theorem dX12_blanks_0 : decode cX12_blanks 0 = .ok (.aload_n 0, 1) := by decide +kernel
theorem dX12_blanks_1 : decode cX12_blanks 1 = .ok (.getfield 187, 3) := by decide +kernel
theorem dX12_blanks_4 : decode cX12_blanks 4 = .ok (.aload_n 0, 1) := by decide +kernel
theorem dX12_blanks_5 : decode cX12_blanks 5 = .ok (.getfield 169, 3) := by decide +kernel
theorem dX12_blanks_8 : decode cX12_blanks 8 = .ok (.if_icmp .ge 44, 3) := by decide +kernel
theorem dX12_blanks_11 : decode cX12_blanks 11 = .ok (.aload_n 0, 1) := by decide +kernel
theorem dX12_blanks_12 : decode cX12_blanks 12 = .ok (.getfield 78, 3) := by decide +kernel
theorem dX12_blanks_15 : decode cX12_blanks 15 = .ok (.aload_n 0, 1) := by decide +kernel
theorem dX12_blanks_16 : decode cX12_blanks 16 = .ok (.getfield 187, 3) := by decide +kernel
theorem dX12_blanks_19 : decode cX12_blanks 19 = .ok (.iaload, 1) := by decide +kernel
theorem dX12_blanks_20 : decode cX12_blanks 20 = .ok (.bipush 10, 2) := by decide +kernel
theorem dX12_blanks_22 : decode cX12_blanks 22 = .ok (.if_icmp .eq 17, 3) := by decide +kernel
theorem dX12_blanks_25 : decode cX12_blanks 25 = .ok (.aload_n 0, 1) := by decide +kernel
theorem dX12_blanks_26 : decode cX12_blanks 26 = .ok (.getfield 78, 3) := by decide +kernel
theorem dX12_blanks_29 : decode cX12_blanks 29 = .ok (.aload_n 0, 1) := by decide +kernel
theorem dX12_blanks_30 : decode cX12_blanks 30 = .ok (.getfield 187, 3) := by decide +kernel
theorem dX12_blanks_33 : decode cX12_blanks 33 = .ok (.iaload, 1) := by decide +kernel
theorem dX12_blanks_34 : decode cX12_blanks 34 = .ok (.bipush 32, 2) := by decide +kernel
theorem dX12_blanks_36 : decode cX12_blanks 36 = .ok (.if_icmp .ne 16, 3) := by decide +kernel
theorem dX12_blanks_39 : decode cX12_blanks 39 = .ok (.aload_n 0, 1) := by decide +kernel
theorem dX12_blanks_40 : decode cX12_blanks 40 = .ok (.dup, 1) := by decide +kernel
theorem dX12_blanks_41 : decode cX12_blanks 41 = .ok (.getfield 187, 3) := by decide +kernel
theorem dX12_blanks_44 : decode cX12_blanks 44 = .ok (.iconst 1, 1) := by decide +kernel
theorem dX12_blanks_45 : decode cX12_blanks 45 = .ok (.iadd, 1) := by decide +kernel
theorem dX12_blanks_46 : decode cX12_blanks 46 = .ok (.putfield 187, 3) := by decide +kernel
theorem dX12_blanks_49 : decode cX12_blanks 49 = .ok (.goto (-49), 3) := by decide +kernel
theorem dX12_blanks_52 : decode cX12_blanks 52 = .ok (.return_, 1) := by decide +kernel
abbrev M_X12_blanks : aM := (yX12_blanks.cls, cX12_blanks, 1, none, [], yX12_blanks.name == "<init>")
abbrev J_X12_blanks (l : Launch) (E : aE) (n0 m0 : Nat) := GG (fun (_ : Unit) => .inl none) l E M_X12_blanks 0 0 n0 m0
theorem b_X12_blanks {l : Launch} {E : aE} (hl : l.stackTraces = false) (n0 m0 : Nat) (x1 : Nat) (h0 : aH) : J_X12_blanks l E n0 m0 0 [(0, .ref (e_z E + x1))] [] h0 (m_X12_blanks x1 h0) := by
  unfold m_X12_blanks
  refine g_join (fun k => ∀ (h1 : aH), J_X12_blanks l E n0 m0 52 [] [] h1 (k h1)) (fun h1 => ?_) (fun k52 hk52 => ?_)
  · exact g_ret (pc := 52) rfl isRet_v dX12_blanks_52 rfl
  refine g_loop0 (F := (m_X12_blanks_L0 x1 k52)) ([(0, .ref (e_z E + x1))]) (fun r0 hr0 h2 => ?_) _ _
  unfold m_X12_blanks_L0
  refine g_aload_n (pc := 0) dX12_blanks_0 0 rfl ?_
  refine g_geti (pc := 1) cl12 (Nat.le_of_ble_eq_true rfl) fk1581 (fun _ _ _ => rfl) dX12_blanks_1 (fun x2 => ?_)
  refine g_aload_n (pc := 4) dX12_blanks_4 0 rfl ?_
  refine g_geti (pc := 5) cl12 (Nat.le_of_ble_eq_true rfl) fk1580 (fun _ _ _ => rfl) dX12_blanks_5 (fun x3 => ?_)
  refine g_icmpge (pc := 8) (tgt := 52) dX12_blanks_8 rfl ?_ ?_
  · refine g_aload_n (pc := 11) dX12_blanks_11 0 rfl ?_
    refine g_getr (pc := 12) cl12 (Nat.le_of_ble_eq_true rfl) fk1579 (fun _ _ _ => rfl) dX12_blanks_12 (fun x4 => ?_)
    refine g_aload_n (pc := 15) dX12_blanks_15 0 rfl ?_
    refine g_geti (pc := 16) cl12 (Nat.le_of_ble_eq_true rfl) fk1581 (fun _ _ _ => rfl) dX12_blanks_16 (fun x5 => ?_)
    refine g_iald (pc := 19) dX12_blanks_19 (fun x6 => ?_)
    refine g_bipush (pc := 20) dX12_blanks_20 cb_10 ?_
    refine g_join (fun k => ∀ (h3 : aH), J_X12_blanks l E n0 m0 39 [(0, .ref (e_z E + x1))] [] h3 (k h3)) (fun h3 => ?_) (fun k39 hk39 => ?_)
    · refine g_aload_n (pc := 39) dX12_blanks_39 0 rfl ?_
      refine g_dup (pc := 40) rfl dX12_blanks_40 ?_
      refine g_geti (pc := 41) cl12 (Nat.le_of_ble_eq_true rfl) fk1581 (fun _ _ _ => rfl) dX12_blanks_41 (fun x7 => ?_)
      refine g_iconst (pc := 44) dX12_blanks_44 ci_1 ?_
      refine g_iadd (pc := 45) dX12_blanks_45 ?_
      refine g_puti (pc := 46) cl12 (Nat.le_of_ble_eq_true rfl) (Or.inl ⟨rfl, fk1581⟩) (fun _ _ _ => rfl) (fun _ => ⟨rfl, rfl⟩) dX12_blanks_46 (fun h4 => ?_)
      refine g_goto (pc := 49) (tgt := 0) dX12_blanks_49 rfl ?_
      exact hr0 h4
    refine g_icmpeq (pc := 22) (tgt := 39) dX12_blanks_22 rfl ?_ ?_
    · exact hk39 h2
    · refine g_aload_n (pc := 25) dX12_blanks_25 0 rfl ?_
      refine g_getr (pc := 26) cl12 (Nat.le_of_ble_eq_true rfl) fk1579 (fun _ _ _ => rfl) dX12_blanks_26 (fun x8 => ?_)
      refine g_aload_n (pc := 29) dX12_blanks_29 0 rfl ?_
      refine g_geti (pc := 30) cl12 (Nat.le_of_ble_eq_true rfl) fk1581 (fun _ _ _ => rfl) dX12_blanks_30 (fun x9 => ?_)
      refine g_iald (pc := 33) dX12_blanks_33 (fun x10 => ?_)
      refine g_bipush (pc := 34) dX12_blanks_34 cb_32 ?_
      refine g_icmpne (pc := 36) (tgt := 52) dX12_blanks_36 rfl ?_ ?_
      · exact hk39 h2
      · refine g_lv [] rfl ?_
        exact hk52 h2
  · refine g_lv [] rfl ?_
    exact hk52 h2
theorem p_X12_blanks {l : Launch} {E : aE} (hl : l.stackTraces = false) (x1 : Nat) (h0 : aH) : MO (fun (_ : Unit) => .inl none) l E yX12_blanks (.code yX12_blanks cX12_blanks 1 none) 0 0 [.ref (e_z E + x1)] h0 (m_X12_blanks x1 h0) := g_met hl (by decide +kernel) (Nat.le_of_ble_eq_true rfl) (b_X12_blanks hl _ _ x1 h0)
theorem dX12_isLetter_0 : decode cX12_isLetter 0 = .ok (.iload_n 1, 1) := by decide +kernel
theorem dX12_isLetter_1 : decode cX12_isLetter 1 = .ok (.aload_n 0, 1) := by decide +kernel
theorem dX12_isLetter_2 : decode cX12_isLetter 2 = .ok (.getfield 169, 3) := by decide +kernel
theorem dX12_isLetter_5 : decode cX12_isLetter 5 = .ok (.if_icmp .ge 26, 3) := by decide +kernel
theorem dX12_isLetter_8 : decode cX12_isLetter 8 = .ok (.aload_n 0, 1) := by decide +kernel
theorem dX12_isLetter_9 : decode cX12_isLetter 9 = .ok (.getfield 78, 3) := by decide +kernel
theorem dX12_isLetter_12 : decode cX12_isLetter 12 = .ok (.iload_n 1, 1) := by decide +kernel
theorem dX12_isLetter_13 : decode cX12_isLetter 13 = .ok (.iaload, 1) := by decide +kernel
theorem dX12_isLetter_14 : decode cX12_isLetter 14 = .ok (.i2l, 1) := by decide +kernel
theorem dX12_isLetter_15 : decode cX12_isLetter 15 = .ok (.ldc2_w 190, 3) := by decide +kernel
theorem dX12_isLetter_18 : decode cX12_isLetter 18 = .ok (.ldc2_w 192, 3) := by decide +kernel
theorem dX12_isLetter_21 : decode cX12_isLetter 21 = .ok (.invokestatic 176, 3) := by decide +kernel
theorem dX12_isLetter_24 : decode cX12_isLetter 24 = .ok (.ifCond .eq 7, 3) := by decide +kernel
theorem dX12_isLetter_27 : decode cX12_isLetter 27 = .ok (.iconst 1, 1) := by decide +kernel
theorem dX12_isLetter_28 : decode cX12_isLetter 28 = .ok (.goto 4, 3) := by decide +kernel
theorem dX12_isLetter_31 : decode cX12_isLetter 31 = .ok (.iconst 0, 1) := by decide +kernel
theorem dX12_isLetter_32 : decode cX12_isLetter 32 = .ok (.ireturn, 1) := by decide +kernel
abbrev M_X12_isLetter : aM := (yX12_isLetter.cls, cX12_isLetter, 2, (some .boolean), [], yX12_isLetter.name == "<init>")
abbrev J_X12_isLetter (l : Launch) (E : aE) (n0 m0 : Nat) := GG (fun (v : Int32) => .inl (some (.int v))) l E M_X12_isLetter 1 25 n0 m0
theorem b_X12_isLetter {l : Launch} {E : aE} (hl : l.stackTraces = false) (n0 m0 : Nat) (x1 : Nat) (x2 : Int32) (h0 : aH) : J_X12_isLetter l E n0 m0 0 [(0, .ref (e_z E + x1)), (1, .int x2)] [] h0 (m_X12_isLetter x1 x2 h0) := by
  unfold m_X12_isLetter
  refine g_iload_n (pc := 0) dX12_isLetter_0 1 rfl ?_
  refine g_aload_n (pc := 1) dX12_isLetter_1 0 rfl ?_
  refine g_geti (pc := 2) cl12 (Nat.le_of_ble_eq_true rfl) fk1580 (fun _ _ _ => rfl) dX12_isLetter_2 (fun x3 => ?_)
  refine g_join (fun k => ∀ (x4 : Int32) (h1 : aH), J_X12_isLetter l E n0 m0 32 [] [.int x4] h1 (k x4 h1)) (fun x4 h1 => ?_) (fun k32 hk32 => ?_)
  · refine g_zO (fun hz => ?_)
    exact g_ret (pc := 32) rfl (isRet_z hz) dX12_isLetter_32 rfl
  refine g_join (fun k => ∀ (h2 : aH), J_X12_isLetter l E n0 m0 31 [] [] h2 (k h2)) (fun h2 => ?_) (fun k31 hk31 => ?_)
  · refine g_iconst (pc := 31) dX12_isLetter_31 ci_0 ?_
    exact hk32 (0 : Int32) h2
  refine g_icmpge (pc := 5) (tgt := 31) dX12_isLetter_5 rfl ?_ ?_
  · refine g_aload_n (pc := 8) dX12_isLetter_8 0 rfl ?_
    refine g_getr (pc := 9) cl12 (Nat.le_of_ble_eq_true rfl) fk1579 (fun _ _ _ => rfl) dX12_isLetter_9 (fun x6 => ?_)
    refine g_iload_n (pc := 12) dX12_isLetter_12 1 rfl ?_
    refine g_iald (pc := 13) dX12_isLetter_13 (fun x7 => ?_)
    refine g_i2l (pc := 14) dX12_isLetter_14 ?_
    refine g_ldc2 (pc := 15) tw1810 dX12_isLetter_15 ?_
    refine g_ldc2 (pc := 18) tw1811 dX12_isLetter_18 ?_
    refine g_bRi (pc := 21) (c_S (p_X12_in hl (x7.toInt64) (97 : Int64) (122 : Int64) h0) y_X12_in tw1782 dX12_isLetter_21 rfl (st := []) rfl (Nat.le_of_ble_eq_true rfl) (Nat.le_of_ble_eq_true rfl) (Nat.le_of_ble_eq_true rfl)) (fun x8 h3 => ?_)
    refine g_ifeq (pc := 24) (tgt := 31) dX12_isLetter_24 rfl ?_ ?_
    · refine g_lv [] rfl ?_
      exact hk31 h3
    · refine g_iconst (pc := 27) dX12_isLetter_27 ci_1 ?_
      refine g_goto (pc := 28) (tgt := 32) dX12_isLetter_28 rfl ?_
      refine g_lv [] rfl ?_
      exact hk32 (1 : Int32) h3
  · refine g_lv [] rfl ?_
    exact hk31 h0
theorem p_X12_isLetter {l : Launch} {E : aE} (hl : l.stackTraces = false) (x1 : Nat) (x2 : Int32) (h0 : aH) : MO (fun (v : Int32) => .inl (some (.int v))) l E yX12_isLetter (.code yX12_isLetter cX12_isLetter 2 (some .boolean)) 1 25 [.ref (e_z E + x1), .int x2] h0 (m_X12_isLetter x1 x2 h0) := g_met hl (by decide +kernel) (Nat.le_of_ble_eq_true rfl) (b_X12_isLetter hl _ _ x1 x2 h0)
theorem dX12_isDigit_0 : decode cX12_isDigit 0 = .ok (.iload_n 1, 1) := by decide +kernel
theorem dX12_isDigit_1 : decode cX12_isDigit 1 = .ok (.aload_n 0, 1) := by decide +kernel
theorem dX12_isDigit_2 : decode cX12_isDigit 2 = .ok (.getfield 169, 3) := by decide +kernel
theorem dX12_isDigit_5 : decode cX12_isDigit 5 = .ok (.if_icmp .ge 26, 3) := by decide +kernel
theorem dX12_isDigit_8 : decode cX12_isDigit 8 = .ok (.aload_n 0, 1) := by decide +kernel
theorem dX12_isDigit_9 : decode cX12_isDigit 9 = .ok (.getfield 78, 3) := by decide +kernel
theorem dX12_isDigit_12 : decode cX12_isDigit 12 = .ok (.iload_n 1, 1) := by decide +kernel
theorem dX12_isDigit_13 : decode cX12_isDigit 13 = .ok (.iaload, 1) := by decide +kernel
theorem dX12_isDigit_14 : decode cX12_isDigit 14 = .ok (.i2l, 1) := by decide +kernel
theorem dX12_isDigit_15 : decode cX12_isDigit 15 = .ok (.ldc2_w 194, 3) := by decide +kernel
theorem dX12_isDigit_18 : decode cX12_isDigit 18 = .ok (.ldc2_w 196, 3) := by decide +kernel
theorem dX12_isDigit_21 : decode cX12_isDigit 21 = .ok (.invokestatic 176, 3) := by decide +kernel
theorem dX12_isDigit_24 : decode cX12_isDigit 24 = .ok (.ifCond .eq 7, 3) := by decide +kernel
theorem dX12_isDigit_27 : decode cX12_isDigit 27 = .ok (.iconst 1, 1) := by decide +kernel
theorem dX12_isDigit_28 : decode cX12_isDigit 28 = .ok (.goto 4, 3) := by decide +kernel
theorem dX12_isDigit_31 : decode cX12_isDigit 31 = .ok (.iconst 0, 1) := by decide +kernel
theorem dX12_isDigit_32 : decode cX12_isDigit 32 = .ok (.ireturn, 1) := by decide +kernel
abbrev M_X12_isDigit : aM := (yX12_isDigit.cls, cX12_isDigit, 2, (some .boolean), [], yX12_isDigit.name == "<init>")
abbrev J_X12_isDigit (l : Launch) (E : aE) (n0 m0 : Nat) := GG (fun (v : Int32) => .inl (some (.int v))) l E M_X12_isDigit 1 25 n0 m0
theorem b_X12_isDigit {l : Launch} {E : aE} (hl : l.stackTraces = false) (n0 m0 : Nat) (x1 : Nat) (x2 : Int32) (h0 : aH) : J_X12_isDigit l E n0 m0 0 [(0, .ref (e_z E + x1)), (1, .int x2)] [] h0 (m_X12_isDigit x1 x2 h0) := by
  unfold m_X12_isDigit
  refine g_iload_n (pc := 0) dX12_isDigit_0 1 rfl ?_
  refine g_aload_n (pc := 1) dX12_isDigit_1 0 rfl ?_
  refine g_geti (pc := 2) cl12 (Nat.le_of_ble_eq_true rfl) fk1580 (fun _ _ _ => rfl) dX12_isDigit_2 (fun x3 => ?_)
  refine g_join (fun k => ∀ (x4 : Int32) (h1 : aH), J_X12_isDigit l E n0 m0 32 [] [.int x4] h1 (k x4 h1)) (fun x4 h1 => ?_) (fun k32 hk32 => ?_)
  · refine g_zO (fun hz => ?_)
    exact g_ret (pc := 32) rfl (isRet_z hz) dX12_isDigit_32 rfl
  refine g_join (fun k => ∀ (h2 : aH), J_X12_isDigit l E n0 m0 31 [] [] h2 (k h2)) (fun h2 => ?_) (fun k31 hk31 => ?_)
  · refine g_iconst (pc := 31) dX12_isDigit_31 ci_0 ?_
    exact hk32 (0 : Int32) h2
  refine g_icmpge (pc := 5) (tgt := 31) dX12_isDigit_5 rfl ?_ ?_
  · refine g_aload_n (pc := 8) dX12_isDigit_8 0 rfl ?_
    refine g_getr (pc := 9) cl12 (Nat.le_of_ble_eq_true rfl) fk1579 (fun _ _ _ => rfl) dX12_isDigit_9 (fun x6 => ?_)
    refine g_iload_n (pc := 12) dX12_isDigit_12 1 rfl ?_
    refine g_iald (pc := 13) dX12_isDigit_13 (fun x7 => ?_)
    refine g_i2l (pc := 14) dX12_isDigit_14 ?_
    refine g_ldc2 (pc := 15) tw1826 dX12_isDigit_15 ?_
    refine g_ldc2 (pc := 18) tw1827 dX12_isDigit_18 ?_
    refine g_bRi (pc := 21) (c_S (p_X12_in hl (x7.toInt64) (48 : Int64) (57 : Int64) h0) y_X12_in tw1782 dX12_isDigit_21 rfl (st := []) rfl (Nat.le_of_ble_eq_true rfl) (Nat.le_of_ble_eq_true rfl) (Nat.le_of_ble_eq_true rfl)) (fun x8 h3 => ?_)
    refine g_ifeq (pc := 24) (tgt := 31) dX12_isDigit_24 rfl ?_ ?_
    · refine g_lv [] rfl ?_
      exact hk31 h3
    · refine g_iconst (pc := 27) dX12_isDigit_27 ci_1 ?_
      refine g_goto (pc := 28) (tgt := 32) dX12_isDigit_28 rfl ?_
      refine g_lv [] rfl ?_
      exact hk32 (1 : Int32) h3
  · refine g_lv [] rfl ?_
    exact hk31 h0
theorem p_X12_isDigit {l : Launch} {E : aE} (hl : l.stackTraces = false) (x1 : Nat) (x2 : Int32) (h0 : aH) : MO (fun (v : Int32) => .inl (some (.int v))) l E yX12_isDigit (.code yX12_isDigit cX12_isDigit 2 (some .boolean)) 1 25 [.ref (e_z E + x1), .int x2] h0 (m_X12_isDigit x1 x2 h0) := g_met hl (by decide +kernel) (Nat.le_of_ble_eq_true rfl) (b_X12_isDigit hl _ _ x1 x2 h0)
theorem dX12_takesWord_0 : decode cX12_takesWord 0 = .ok (.aload_n 0, 1) := by decide +kernel
theorem dX12_takesWord_1 : decode cX12_takesWord 1 = .ok (.invokevirtual 198, 3) := by decide +kernel
theorem dX12_takesWord_4 : decode cX12_takesWord 4 = .ok (.aload_n 0, 1) := by decide +kernel
theorem dX12_takesWord_5 : decode cX12_takesWord 5 = .ok (.aload_n 0, 1) := by decide +kernel
theorem dX12_takesWord_6 : decode cX12_takesWord 6 = .ok (.getfield 187, 3) := by decide +kernel
theorem dX12_takesWord_9 : decode cX12_takesWord 9 = .ok (.putfield 201, 3) := by decide +kernel
theorem dX12_takesWord_12 : decode cX12_takesWord 12 = .ok (.lconst 0, 1) := by decide +kernel
theorem dX12_takesWord_13 : decode cX12_takesWord 13 = .ok (.lstore_n 1, 1) := by decide +kernel
theorem dX12_takesWord_14 : decode cX12_takesWord 14 = .ok (.iconst 0, 1) := by decide +kernel
theorem dX12_takesWord_15 : decode cX12_takesWord 15 = .ok (.istore_n 3, 1) := by decide +kernel
theorem dX12_takesWord_16 : decode cX12_takesWord 16 = .ok (.aload_n 0, 1) := by decide +kernel
theorem dX12_takesWord_17 : decode cX12_takesWord 17 = .ok (.aload_n 0, 1) := by decide +kernel
theorem dX12_takesWord_18 : decode cX12_takesWord 18 = .ok (.getfield 187, 3) := by decide +kernel
theorem dX12_takesWord_21 : decode cX12_takesWord 21 = .ok (.invokevirtual 204, 3) := by decide +kernel
theorem dX12_takesWord_24 : decode cX12_takesWord 24 = .ok (.ifCond .eq 54, 3) := by decide +kernel
theorem dX12_takesWord_27 : decode cX12_takesWord 27 = .ok (.iload_n 3, 1) := by decide +kernel
theorem dX12_takesWord_28 : decode cX12_takesWord 28 = .ok (.bipush 8, 2) := by decide +kernel
theorem dX12_takesWord_30 : decode cX12_takesWord 30 = .ok (.if_icmp .ge 28, 3) := by decide +kernel
theorem dX12_takesWord_33 : decode cX12_takesWord 33 = .ok (.ldc2_w 208, 3) := by decide +kernel
theorem dX12_takesWord_36 : decode cX12_takesWord 36 = .ok (.lload_n 1, 1) := by decide +kernel
theorem dX12_takesWord_37 : decode cX12_takesWord 37 = .ok (.lmul, 1) := by decide +kernel
theorem dX12_takesWord_38 : decode cX12_takesWord 38 = .ok (.aload_n 0, 1) := by decide +kernel
theorem dX12_takesWord_39 : decode cX12_takesWord 39 = .ok (.getfield 78, 3) := by decide +kernel
theorem dX12_takesWord_42 : decode cX12_takesWord 42 = .ok (.aload_n 0, 1) := by decide +kernel
theorem dX12_takesWord_43 : decode cX12_takesWord 43 = .ok (.getfield 187, 3) := by decide +kernel
theorem dX12_takesWord_46 : decode cX12_takesWord 46 = .ok (.iaload, 1) := by decide +kernel
theorem dX12_takesWord_47 : decode cX12_takesWord 47 = .ok (.i2l, 1) := by decide +kernel
theorem dX12_takesWord_48 : decode cX12_takesWord 48 = .ok (.ladd, 1) := by decide +kernel
theorem dX12_takesWord_49 : decode cX12_takesWord 49 = .ok (.ldc2_w 190, 3) := by decide +kernel
theorem dX12_takesWord_52 : decode cX12_takesWord 52 = .ok (.lsub, 1) := by decide +kernel
theorem dX12_takesWord_53 : decode cX12_takesWord 53 = .ok (.lconst 1, 1) := by decide +kernel
theorem dX12_takesWord_54 : decode cX12_takesWord 54 = .ok (.ladd, 1) := by decide +kernel
theorem dX12_takesWord_55 : decode cX12_takesWord 55 = .ok (.goto 6, 3) := by decide +kernel
theorem dX12_takesWord_58 : decode cX12_takesWord 58 = .ok (.ldc2_w 210, 3) := by decide +kernel
theorem dX12_takesWord_61 : decode cX12_takesWord 61 = .ok (.lstore_n 1, 1) := by decide +kernel
theorem dX12_takesWord_62 : decode cX12_takesWord 62 = .ok (.iinc 3 1, 3) := by decide +kernel
theorem dX12_takesWord_65 : decode cX12_takesWord 65 = .ok (.aload_n 0, 1) := by decide +kernel
theorem dX12_takesWord_66 : decode cX12_takesWord 66 = .ok (.dup, 1) := by decide +kernel
theorem dX12_takesWord_67 : decode cX12_takesWord 67 = .ok (.getfield 187, 3) := by decide +kernel
theorem dX12_takesWord_70 : decode cX12_takesWord 70 = .ok (.iconst 1, 1) := by decide +kernel
theorem dX12_takesWord_71 : decode cX12_takesWord 71 = .ok (.iadd, 1) := by decide +kernel
theorem dX12_takesWord_72 : decode cX12_takesWord 72 = .ok (.putfield 187, 3) := by decide +kernel
theorem dX12_takesWord_75 : decode cX12_takesWord 75 = .ok (.goto (-59), 3) := by decide +kernel
theorem dX12_takesWord_78 : decode cX12_takesWord 78 = .ok (.lload_n 1, 1) := by decide +kernel
theorem dX12_takesWord_79 : decode cX12_takesWord 79 = .ok (.lreturn, 1) := by decide +kernel
abbrev M_X12_takesWord : aM := (yX12_takesWord.cls, cX12_takesWord, 4, (some .long), [], yX12_takesWord.name == "<init>")
abbrev J_X12_takesWord (l : Launch) (E : aE) (n0 m0 : Nat) := GG (fun (v : Int64) => .inl (some (.long v))) l E M_X12_takesWord 2 46 n0 m0
theorem b_X12_takesWord {l : Launch} {E : aE} (hl : l.stackTraces = false) (n0 m0 : Nat) (x1 : Nat) (h0 : aH) : J_X12_takesWord l E n0 m0 0 [(0, .ref (e_z E + x1))] [] h0 (m_X12_takesWord x1 h0) := by
  unfold m_X12_takesWord
  refine g_aload_n (pc := 0) dX12_takesWord_0 0 rfl ?_
  refine g_gS (fun hs => ?_)
  refine g_bRv (pc := 1) (c_V cl12 hs (p_X12_blanks hl x1 h0) y_X12_blanks tw1793 dX12_takesWord_1 rfl (st := []) rfl (Nat.le_of_ble_eq_true rfl) (Nat.le_of_ble_eq_true rfl) (Nat.le_of_ble_eq_true rfl)) (fun _ h1 => ?_)
  refine g_aload_n (pc := 4) dX12_takesWord_4 0 rfl ?_
  refine g_aload_n (pc := 5) dX12_takesWord_5 0 rfl ?_
  refine g_geti (pc := 6) cl12 (Nat.le_of_ble_eq_true rfl) fk1581 (fun _ _ _ => rfl) dX12_takesWord_6 (fun x2 => ?_)
  refine g_puti (pc := 9) cl12 (Nat.le_of_ble_eq_true rfl) (Or.inl ⟨rfl, fk1588⟩) (fun _ _ _ => rfl) (fun _ => ⟨rfl, rfl⟩) dX12_takesWord_9 (fun h2 => ?_)
  refine g_lconst (pc := 12) dX12_takesWord_12 cl_0 ?_
  refine g_lstore_n (pc := 13) (lv' := [(1, .long (0 : Int64)), (0, .ref (e_z E + x1))]) dX12_takesWord_13 (Nat.le_of_ble_eq_true rfl) rfl ?_
  refine g_iconst (pc := 14) dX12_takesWord_14 ci_0 ?_
  refine g_istore_n (pc := 15) (lv' := [(3, .int (0 : Int32)), (1, .long (0 : Int64)), (0, .ref (e_z E + x1))]) dX12_takesWord_15 (Nat.le_of_ble_eq_true rfl) rfl ?_
  refine g_join (fun k => ∀ (x3 : Int64) (h3 : aH), J_X12_takesWord l E n0 m0 78 [(1, .long x3)] [] h3 (k x3 h3)) (fun x3 h3 => ?_) (fun k78 hk78 => ?_)
  · refine g_lload_n (pc := 78) dX12_takesWord_78 0 rfl ?_
    exact g_ret (pc := 79) rfl (isRet_l _) dX12_takesWord_79 rfl
  refine g_lv [2, 1, 0] rfl ?_
  refine g_loop2 (F := (m_X12_takesWord_L16 x1 k78)) (fun x4 x5 => [(0, .ref (e_z E + x1)), (1, .long x4), (3, .int x5)]) (fun r16 hr16 x4 x5 h4 => ?_) _ _ _ _
  unfold m_X12_takesWord_L16
  refine g_aload_n (pc := 16) dX12_takesWord_16 0 rfl ?_
  refine g_aload_n (pc := 17) dX12_takesWord_17 0 rfl ?_
  refine g_geti (pc := 18) cl12 (Nat.le_of_ble_eq_true rfl) fk1581 (fun _ _ _ => rfl) dX12_takesWord_18 (fun x6 => ?_)
  refine g_gS (fun hs => ?_)
  refine g_bRi (pc := 21) (c_V cl12 hs (p_X12_isLetter hl x1 x6 h4) y_X12_isLetter tw1806 dX12_takesWord_21 rfl (st := []) rfl (Nat.le_of_ble_eq_true rfl) (Nat.le_of_ble_eq_true rfl) (Nat.le_of_ble_eq_true rfl)) (fun x7 h5 => ?_)
  refine g_ifeq (pc := 24) (tgt := 78) dX12_takesWord_24 rfl ?_ ?_
  · refine g_lv [1] rfl ?_
    exact hk78 x4 h5
  · refine g_iload_n (pc := 27) dX12_takesWord_27 2 rfl ?_
    refine g_bipush (pc := 28) dX12_takesWord_28 cb_8 ?_
    refine g_join (fun k => ∀ (x8 : Int64) (h6 : aH), J_X12_takesWord l E n0 m0 61 [(0, .ref (e_z E + x1)), (3, .int x5)] [.long x8] h6 (k x8 h6)) (fun x8 h6 => ?_) (fun k61 hk61 => ?_)
    · refine g_lstore_n (pc := 61) (lv' := [(1, .long x8), (0, .ref (e_z E + x1)), (3, .int x5)]) dX12_takesWord_61 (Nat.le_of_ble_eq_true rfl) rfl ?_
      refine g_iincN (pc := 62) dX12_takesWord_62 2 rfl ci_1 (Nat.le_of_ble_eq_true rfl) (fun x9 => ?_)
      refine g_lvr (lv' := [(3, .int x9), (1, .long x8), (0, .ref (e_z E + x1))]) rfl ?_
      refine g_aload_n (pc := 65) dX12_takesWord_65 2 rfl ?_
      refine g_dup (pc := 66) rfl dX12_takesWord_66 ?_
      refine g_geti (pc := 67) cl12 (Nat.le_of_ble_eq_true rfl) fk1581 (fun _ _ _ => rfl) dX12_takesWord_67 (fun x10 => ?_)
      refine g_iconst (pc := 70) dX12_takesWord_70 ci_1 ?_
      refine g_iadd (pc := 71) dX12_takesWord_71 ?_
      refine g_puti (pc := 72) cl12 (Nat.le_of_ble_eq_true rfl) (Or.inl ⟨rfl, fk1581⟩) (fun _ _ _ => rfl) (fun _ => ⟨rfl, rfl⟩) dX12_takesWord_72 (fun h7 => ?_)
      refine g_goto (pc := 75) (tgt := 16) dX12_takesWord_75 rfl ?_
      refine g_lv [2, 1, 0] rfl ?_
      exact hr16 x8 x9 h7
    refine g_icmpge (pc := 30) (tgt := 58) dX12_takesWord_30 rfl ?_ ?_
    · refine g_ldc2 (pc := 33) tw1812 dX12_takesWord_33 ?_
      refine g_lload_n (pc := 36) dX12_takesWord_36 1 rfl ?_
      refine g_lmul (pc := 37) dX12_takesWord_37 ?_
      refine g_aload_n (pc := 38) dX12_takesWord_38 0 rfl ?_
      refine g_getr (pc := 39) cl12 (Nat.le_of_ble_eq_true rfl) fk1579 (fun _ _ _ => rfl) dX12_takesWord_39 (fun x11 => ?_)
      refine g_aload_n (pc := 42) dX12_takesWord_42 0 rfl ?_
      refine g_geti (pc := 43) cl12 (Nat.le_of_ble_eq_true rfl) fk1581 (fun _ _ _ => rfl) dX12_takesWord_43 (fun x12 => ?_)
      refine g_iald (pc := 46) dX12_takesWord_46 (fun x13 => ?_)
      refine g_i2l (pc := 47) dX12_takesWord_47 ?_
      refine g_ladd (pc := 48) dX12_takesWord_48 ?_
      refine g_ldc2 (pc := 49) tw1810 dX12_takesWord_49 ?_
      refine g_lsub (pc := 52) dX12_takesWord_52 ?_
      refine g_lconst (pc := 53) dX12_takesWord_53 cl_1 ?_
      refine g_ladd (pc := 54) dX12_takesWord_54 ?_
      refine g_goto (pc := 55) (tgt := 61) dX12_takesWord_55 rfl ?_
      refine g_lv [0, 2] rfl ?_
      exact hk61 (((((27 : Int64) * x4) + (x13.toInt64)) - (97 : Int64)) + (1 : Int64)) h5
    · refine g_ldc2 (pc := 58) tw1813 dX12_takesWord_58 ?_
      refine g_lv [0, 2] rfl ?_
      exact hk61 (-1 : Int64) h5
theorem p_X12_takesWord {l : Launch} {E : aE} (hl : l.stackTraces = false) (x1 : Nat) (h0 : aH) : MO (fun (v : Int64) => .inl (some (.long v))) l E yX12_takesWord (.code yX12_takesWord cX12_takesWord 4 (some .long)) 2 46 [.ref (e_z E + x1)] h0 (m_X12_takesWord x1 h0) := g_met hl (by decide +kernel) (Nat.le_of_ble_eq_true rfl) (b_X12_takesWord hl _ _ x1 h0)
theorem dX12_says_0 : decode cX12_says 0 = .ok (.aload_n 0, 1) := by decide +kernel
theorem dX12_says_1 : decode cX12_says 1 = .ok (.getfield 187, 3) := by decide +kernel
theorem dX12_says_4 : decode cX12_says 4 = .ok (.istore_n 3, 1) := by decide +kernel
theorem dX12_says_5 : decode cX12_says 5 = .ok (.aload_n 0, 1) := by decide +kernel
theorem dX12_says_6 : decode cX12_says 6 = .ok (.invokevirtual 212, 3) := by decide +kernel
theorem dX12_says_9 : decode cX12_says 9 = .ok (.lload_n 1, 1) := by decide +kernel
theorem dX12_says_10 : decode cX12_says 10 = .ok (.lcmp, 1) := by decide +kernel
theorem dX12_says_11 : decode cX12_says 11 = .ok (.ifCond .ne 7, 3) := by decide +kernel
theorem dX12_says_14 : decode cX12_says 14 = .ok (.iconst 1, 1) := by decide +kernel
theorem dX12_says_15 : decode cX12_says 15 = .ok (.goto 4, 3) := by decide +kernel
theorem dX12_says_18 : decode cX12_says 18 = .ok (.iconst 0, 1) := by decide +kernel
theorem dX12_says_19 : decode cX12_says 19 = .ok (.istore 4, 2) := by decide +kernel
theorem dX12_says_21 : decode cX12_says 21 = .ok (.iload 4, 2) := by decide +kernel
theorem dX12_says_23 : decode cX12_says 23 = .ok (.ifCond .eq 10, 3) := by decide +kernel
theorem dX12_says_26 : decode cX12_says 26 = .ok (.aload_n 0, 1) := by decide +kernel
theorem dX12_says_27 : decode cX12_says 27 = .ok (.getfield 180, 3) := by decide +kernel
theorem dX12_says_30 : decode cX12_says 30 = .ok (.ifCond .eq 12, 3) := by decide +kernel
theorem dX12_says_33 : decode cX12_says 33 = .ok (.aload_n 0, 1) := by decide +kernel
theorem dX12_says_34 : decode cX12_says 34 = .ok (.iload_n 3, 1) := by decide +kernel
theorem dX12_says_35 : decode cX12_says 35 = .ok (.putfield 187, 3) := by decide +kernel
theorem dX12_says_38 : decode cX12_says 38 = .ok (.aload_n 0, 1) := by decide +kernel
theorem dX12_says_39 : decode cX12_says 39 = .ok (.invokevirtual 198, 3) := by decide +kernel
theorem dX12_says_42 : decode cX12_says 42 = .ok (.iload 4, 2) := by decide +kernel
theorem dX12_says_44 : decode cX12_says 44 = .ok (.ifCond .eq 14, 3) := by decide +kernel
theorem dX12_says_47 : decode cX12_says 47 = .ok (.aload_n 0, 1) := by decide +kernel
theorem dX12_says_48 : decode cX12_says 48 = .ok (.getfield 180, 3) := by decide +kernel
theorem dX12_says_51 : decode cX12_says 51 = .ok (.ifCond .ne 7, 3) := by decide +kernel
theorem dX12_says_54 : decode cX12_says 54 = .ok (.iconst 1, 1) := by decide +kernel
theorem dX12_says_55 : decode cX12_says 55 = .ok (.goto 4, 3) := by decide +kernel
theorem dX12_says_58 : decode cX12_says 58 = .ok (.iconst 0, 1) := by decide +kernel
theorem dX12_says_59 : decode cX12_says 59 = .ok (.ireturn, 1) := by decide +kernel
abbrev M_X12_says : aM := (yX12_says.cls, cX12_says, 5, (some .boolean), [], yX12_says.name == "<init>")
abbrev J_X12_says (l : Launch) (E : aE) (n0 m0 : Nat) := GG (fun (v : Int32) => .inl (some (.int v))) l E M_X12_says 3 69 n0 m0
theorem b_X12_says {l : Launch} {E : aE} (hl : l.stackTraces = false) (n0 m0 : Nat) (x1 : Nat) (x2 : Int64) (h0 : aH) : J_X12_says l E n0 m0 0 [(0, .ref (e_z E + x1)), (1, .long x2)] [] h0 (m_X12_says x1 x2 h0) := by
  unfold m_X12_says
  refine g_aload_n (pc := 0) dX12_says_0 0 rfl ?_
  refine g_geti (pc := 1) cl12 (Nat.le_of_ble_eq_true rfl) fk1581 (fun _ _ _ => rfl) dX12_says_1 (fun x3 => ?_)
  refine g_istore_n (pc := 4) (lv' := [(3, .int x3), (0, .ref (e_z E + x1)), (1, .long x2)]) dX12_says_4 (Nat.le_of_ble_eq_true rfl) rfl ?_
  refine g_aload_n (pc := 5) dX12_says_5 1 rfl ?_
  refine g_gS (fun hs => ?_)
  refine g_bRl (pc := 6) (c_V cl12 hs (p_X12_takesWord hl x1 h0) y_X12_takesWord tw1802 dX12_says_6 rfl (st := []) rfl (Nat.le_of_ble_eq_true rfl) (Nat.le_of_ble_eq_true rfl) (Nat.le_of_ble_eq_true rfl)) (fun x4 h1 => ?_)
  refine g_lload_n (pc := 9) dX12_says_9 2 rfl ?_
  refine g_lcmp (pc := 10) dX12_says_10 ?_
  refine g_join (fun k => ∀ (x5 : Int32) (h2 : aH), J_X12_says l E n0 m0 19 [(0, .ref (e_z E + x1)), (3, .int x3)] [.int x5] h2 (k x5 h2)) (fun x5 h2 => ?_) (fun k19 hk19 => ?_)
  · refine g_istore (pc := 19) (lv' := [(4, .int x5), (0, .ref (e_z E + x1)), (3, .int x3)]) dX12_says_19 (Nat.le_of_ble_eq_true rfl) rfl ?_
    refine g_iload (pc := 21) dX12_says_21 0 rfl ?_
    refine g_join (fun k => ∀ (h3 : aH), J_X12_says l E n0 m0 42 [(0, .ref (e_z E + x1)), (4, .int x5)] [] h3 (k h3)) (fun h3 => ?_) (fun k42 hk42 => ?_)
    · refine g_iload (pc := 42) dX12_says_42 1 rfl ?_
      refine g_join (fun k => ∀ (x6 : Int32) (h4 : aH), J_X12_says l E n0 m0 59 [] [.int x6] h4 (k x6 h4)) (fun x6 h4 => ?_) (fun k59 hk59 => ?_)
      · refine g_zO (fun hz => ?_)
        exact g_ret (pc := 59) rfl (isRet_z hz) dX12_says_59 rfl
      refine g_join (fun k => ∀ (h5 : aH), J_X12_says l E n0 m0 58 [] [] h5 (k h5)) (fun h5 => ?_) (fun k58 hk58 => ?_)
      · refine g_iconst (pc := 58) dX12_says_58 ci_0 ?_
        exact hk59 (0 : Int32) h5
      refine g_ifeq (pc := 44) (tgt := 58) dX12_says_44 rfl ?_ ?_
      · refine g_lv [] rfl ?_
        exact hk58 h3
      · refine g_aload_n (pc := 47) dX12_says_47 0 rfl ?_
        refine g_geti (pc := 48) cl12 (Nat.le_of_ble_eq_true rfl) fk1584 (fun _ _ _ => rfl) dX12_says_48 (fun x8 => ?_)
        refine g_ifne (pc := 51) (tgt := 58) dX12_says_51 rfl ?_ ?_
        · refine g_iconst (pc := 54) dX12_says_54 ci_1 ?_
          refine g_goto (pc := 55) (tgt := 59) dX12_says_55 rfl ?_
          refine g_lv [] rfl ?_
          exact hk59 (1 : Int32) h3
        · refine g_lv [] rfl ?_
          exact hk58 h3
    refine g_join (fun k => ∀ (h6 : aH), J_X12_says l E n0 m0 33 [(0, .ref (e_z E + x1)), (3, .int x3), (4, .int x5)] [] h6 (k h6)) (fun h6 => ?_) (fun k33 hk33 => ?_)
    · refine g_aload_n (pc := 33) dX12_says_33 0 rfl ?_
      refine g_iload_n (pc := 34) dX12_says_34 1 rfl ?_
      refine g_puti (pc := 35) cl12 (Nat.le_of_ble_eq_true rfl) (Or.inl ⟨rfl, fk1581⟩) (fun _ _ _ => rfl) (fun _ => ⟨rfl, rfl⟩) dX12_says_35 (fun h7 => ?_)
      refine g_aload_n (pc := 38) dX12_says_38 0 rfl ?_
      refine g_gS (fun hs => ?_)
      refine g_bRv (pc := 39) (c_V cl12 hs (p_X12_blanks hl x1 h7) y_X12_blanks tw1793 dX12_says_39 rfl (st := []) rfl (Nat.le_of_ble_eq_true rfl) (Nat.le_of_ble_eq_true rfl) (Nat.le_of_ble_eq_true rfl)) (fun _ h8 => ?_)
      refine g_lv [0, 2] rfl ?_
      exact hk42 h8
    refine g_ifeq (pc := 23) (tgt := 33) dX12_says_23 rfl ?_ ?_
    · refine g_lv [1, 2, 0] rfl ?_
      exact hk33 h2
    · refine g_aload_n (pc := 26) dX12_says_26 1 rfl ?_
      refine g_geti (pc := 27) cl12 (Nat.le_of_ble_eq_true rfl) fk1584 (fun _ _ _ => rfl) dX12_says_27 (fun x9 => ?_)
      refine g_ifeq (pc := 30) (tgt := 42) dX12_says_30 rfl ?_ ?_
      · refine g_lv [1, 0] rfl ?_
        exact hk42 h2
      · refine g_lv [1, 2, 0] rfl ?_
        exact hk33 h2
  refine g_ifne (pc := 11) (tgt := 18) dX12_says_11 rfl ?_ ?_
  · refine g_iconst (pc := 14) dX12_says_14 ci_1 ?_
    refine g_goto (pc := 15) (tgt := 19) dX12_says_15 rfl ?_
    refine g_lv [1, 0] rfl ?_
    exact hk19 (1 : Int32) h1
  · refine g_iconst (pc := 18) dX12_says_18 ci_0 ?_
    refine g_lv [1, 0] rfl ?_
    exact hk19 (0 : Int32) h1
theorem p_X12_says {l : Launch} {E : aE} (hl : l.stackTraces = false) (x1 : Nat) (x2 : Int64) (h0 : aH) : MO (fun (v : Int32) => .inl (some (.int v))) l E yX12_says (.code yX12_says cX12_says 5 (some .boolean)) 3 69 [.ref (e_z E + x1), .long x2] h0 (m_X12_says x1 x2 h0) := g_met hl (by decide +kernel) (Nat.le_of_ble_eq_true rfl) (b_X12_says hl _ _ x1 x2 h0)
theorem dX12_isNext_0 : decode cX12_isNext 0 = .ok (.aload_n 0, 1) := by decide +kernel
theorem dX12_isNext_1 : decode cX12_isNext 1 = .ok (.invokevirtual 198, 3) := by decide +kernel
theorem dX12_isNext_4 : decode cX12_isNext 4 = .ok (.aload_n 0, 1) := by decide +kernel
theorem dX12_isNext_5 : decode cX12_isNext 5 = .ok (.getfield 187, 3) := by decide +kernel
theorem dX12_isNext_8 : decode cX12_isNext 8 = .ok (.aload_n 0, 1) := by decide +kernel
theorem dX12_isNext_9 : decode cX12_isNext 9 = .ok (.getfield 169, 3) := by decide +kernel
theorem dX12_isNext_12 : decode cX12_isNext 12 = .ok (.if_icmp .ge 20, 3) := by decide +kernel
theorem dX12_isNext_15 : decode cX12_isNext 15 = .ok (.aload_n 0, 1) := by decide +kernel
theorem dX12_isNext_16 : decode cX12_isNext 16 = .ok (.getfield 78, 3) := by decide +kernel
theorem dX12_isNext_19 : decode cX12_isNext 19 = .ok (.aload_n 0, 1) := by decide +kernel
theorem dX12_isNext_20 : decode cX12_isNext 20 = .ok (.getfield 187, 3) := by decide +kernel
theorem dX12_isNext_23 : decode cX12_isNext 23 = .ok (.iaload, 1) := by decide +kernel
theorem dX12_isNext_24 : decode cX12_isNext 24 = .ok (.iload_n 1, 1) := by decide +kernel
theorem dX12_isNext_25 : decode cX12_isNext 25 = .ok (.if_icmp .ne 7, 3) := by decide +kernel
theorem dX12_isNext_28 : decode cX12_isNext 28 = .ok (.iconst 1, 1) := by decide +kernel
theorem dX12_isNext_29 : decode cX12_isNext 29 = .ok (.goto 4, 3) := by decide +kernel
theorem dX12_isNext_32 : decode cX12_isNext 32 = .ok (.iconst 0, 1) := by decide +kernel
theorem dX12_isNext_33 : decode cX12_isNext 33 = .ok (.ireturn, 1) := by decide +kernel
abbrev M_X12_isNext : aM := (yX12_isNext.cls, cX12_isNext, 2, (some .boolean), [], yX12_isNext.name == "<init>")
abbrev J_X12_isNext (l : Launch) (E : aE) (n0 m0 : Nat) := GG (fun (v : Int32) => .inl (some (.int v))) l E M_X12_isNext 1 20 n0 m0
theorem b_X12_isNext {l : Launch} {E : aE} (hl : l.stackTraces = false) (n0 m0 : Nat) (x1 : Nat) (x2 : Int32) (h0 : aH) : J_X12_isNext l E n0 m0 0 [(0, .ref (e_z E + x1)), (1, .int x2)] [] h0 (m_X12_isNext x1 x2 h0) := by
  unfold m_X12_isNext
  refine g_aload_n (pc := 0) dX12_isNext_0 0 rfl ?_
  refine g_gS (fun hs => ?_)
  refine g_bRv (pc := 1) (c_V cl12 hs (p_X12_blanks hl x1 h0) y_X12_blanks tw1793 dX12_isNext_1 rfl (st := []) rfl (Nat.le_of_ble_eq_true rfl) (Nat.le_of_ble_eq_true rfl) (Nat.le_of_ble_eq_true rfl)) (fun _ h1 => ?_)
  refine g_aload_n (pc := 4) dX12_isNext_4 0 rfl ?_
  refine g_geti (pc := 5) cl12 (Nat.le_of_ble_eq_true rfl) fk1581 (fun _ _ _ => rfl) dX12_isNext_5 (fun x3 => ?_)
  refine g_aload_n (pc := 8) dX12_isNext_8 0 rfl ?_
  refine g_geti (pc := 9) cl12 (Nat.le_of_ble_eq_true rfl) fk1580 (fun _ _ _ => rfl) dX12_isNext_9 (fun x4 => ?_)
  refine g_join (fun k => ∀ (x5 : Int32) (h2 : aH), J_X12_isNext l E n0 m0 33 [] [.int x5] h2 (k x5 h2)) (fun x5 h2 => ?_) (fun k33 hk33 => ?_)
  · refine g_zO (fun hz => ?_)
    exact g_ret (pc := 33) rfl (isRet_z hz) dX12_isNext_33 rfl
  refine g_join (fun k => ∀ (h3 : aH), J_X12_isNext l E n0 m0 32 [] [] h3 (k h3)) (fun h3 => ?_) (fun k32 hk32 => ?_)
  · refine g_iconst (pc := 32) dX12_isNext_32 ci_0 ?_
    exact hk33 (0 : Int32) h3
  refine g_icmpge (pc := 12) (tgt := 32) dX12_isNext_12 rfl ?_ ?_
  · refine g_aload_n (pc := 15) dX12_isNext_15 0 rfl ?_
    refine g_getr (pc := 16) cl12 (Nat.le_of_ble_eq_true rfl) fk1579 (fun _ _ _ => rfl) dX12_isNext_16 (fun x7 => ?_)
    refine g_aload_n (pc := 19) dX12_isNext_19 0 rfl ?_
    refine g_geti (pc := 20) cl12 (Nat.le_of_ble_eq_true rfl) fk1581 (fun _ _ _ => rfl) dX12_isNext_20 (fun x8 => ?_)
    refine g_iald (pc := 23) dX12_isNext_23 (fun x9 => ?_)
    refine g_iload_n (pc := 24) dX12_isNext_24 1 rfl ?_
    refine g_icmpne (pc := 25) (tgt := 32) dX12_isNext_25 rfl ?_ ?_
    · refine g_iconst (pc := 28) dX12_isNext_28 ci_1 ?_
      refine g_goto (pc := 29) (tgt := 33) dX12_isNext_29 rfl ?_
      refine g_lv [] rfl ?_
      exact hk33 (1 : Int32) h1
    · refine g_lv [] rfl ?_
      exact hk32 h1
  · refine g_lv [] rfl ?_
    exact hk32 h1
theorem p_X12_isNext {l : Launch} {E : aE} (hl : l.stackTraces = false) (x1 : Nat) (x2 : Int32) (h0 : aH) : MO (fun (v : Int32) => .inl (some (.int v))) l E yX12_isNext (.code yX12_isNext cX12_isNext 2 (some .boolean)) 1 20 [.ref (e_z E + x1), .int x2] h0 (m_X12_isNext x1 x2 h0) := g_met hl (by decide +kernel) (Nat.le_of_ble_eq_true rfl) (b_X12_isNext hl _ _ x1 x2 h0)
theorem dX12_sign_0 : decode cX12_sign 0 = .ok (.aload_n 0, 1) := by decide +kernel
theorem dX12_sign_1 : decode cX12_sign 1 = .ok (.iload_n 1, 1) := by decide +kernel
theorem dX12_sign_2 : decode cX12_sign 2 = .ok (.invokevirtual 216, 3) := by decide +kernel
theorem dX12_sign_5 : decode cX12_sign 5 = .ok (.ifCond .eq 16, 3) := by decide +kernel
theorem dX12_sign_8 : decode cX12_sign 8 = .ok (.aload_n 0, 1) := by decide +kernel
theorem dX12_sign_9 : decode cX12_sign 9 = .ok (.dup, 1) := by decide +kernel
theorem dX12_sign_10 : decode cX12_sign 10 = .ok (.getfield 187, 3) := by decide +kernel
theorem dX12_sign_13 : decode cX12_sign 13 = .ok (.iconst 1, 1) := by decide +kernel
theorem dX12_sign_14 : decode cX12_sign 14 = .ok (.iadd, 1) := by decide +kernel
theorem dX12_sign_15 : decode cX12_sign 15 = .ok (.putfield 187, 3) := by decide +kernel
theorem dX12_sign_18 : decode cX12_sign 18 = .ok (.goto 12, 3) := by decide +kernel
theorem dX12_sign_21 : decode cX12_sign 21 = .ok (.aload_n 0, 1) := by decide +kernel
theorem dX12_sign_22 : decode cX12_sign 22 = .ok (.iconst 1, 1) := by decide +kernel
theorem dX12_sign_23 : decode cX12_sign 23 = .ok (.aload_n 0, 1) := by decide +kernel
theorem dX12_sign_24 : decode cX12_sign 24 = .ok (.getfield 187, 3) := by decide +kernel
theorem dX12_sign_27 : decode cX12_sign 27 = .ok (.invokevirtual 220, 3) := by decide +kernel
theorem dX12_sign_30 : decode cX12_sign 30 = .ok (.return_, 1) := by decide +kernel
abbrev M_X12_sign : aM := (yX12_sign.cls, cX12_sign, 2, none, [], yX12_sign.name == "<init>")
abbrev J_X12_sign (l : Launch) (E : aE) (n0 m0 : Nat) := GG (fun (_ : Unit) => .inl none) l E M_X12_sign 2 41 n0 m0
theorem b_X12_sign {l : Launch} {E : aE} (hl : l.stackTraces = false) (n0 m0 : Nat) (x1 : Nat) (x2 : Int32) (h0 : aH) : J_X12_sign l E n0 m0 0 [(0, .ref (e_z E + x1)), (1, .int x2)] [] h0 (m_X12_sign x1 x2 h0) := by
  unfold m_X12_sign
  refine g_aload_n (pc := 0) dX12_sign_0 0 rfl ?_
  refine g_iload_n (pc := 1) dX12_sign_1 1 rfl ?_
  refine g_gS (fun hs => ?_)
  refine g_bRi (pc := 2) (c_V cl12 hs (p_X12_isNext hl x1 x2 h0) y_X12_isNext tw1836 dX12_sign_2 rfl (st := []) rfl (Nat.le_of_ble_eq_true rfl) (Nat.le_of_ble_eq_true rfl) (Nat.le_of_ble_eq_true rfl)) (fun x3 h1 => ?_)
  refine g_join (fun k => ∀ (h2 : aH), J_X12_sign l E n0 m0 30 [] [] h2 (k h2)) (fun h2 => ?_) (fun k30 hk30 => ?_)
  · exact g_ret (pc := 30) rfl isRet_v dX12_sign_30 rfl
  refine g_ifeq (pc := 5) (tgt := 21) dX12_sign_5 rfl ?_ ?_
  · refine g_aload_n (pc := 21) dX12_sign_21 0 rfl ?_
    refine g_iconst (pc := 22) dX12_sign_22 ci_1 ?_
    refine g_aload_n (pc := 23) dX12_sign_23 0 rfl ?_
    refine g_geti (pc := 24) cl12 (Nat.le_of_ble_eq_true rfl) fk1581 (fun _ _ _ => rfl) dX12_sign_24 (fun x4 => ?_)
    refine g_gS (fun hs => ?_)
    refine g_bRv (pc := 27) (c_V cl12 hs (p_X12_fault hl x1 (1 : Int32) x4 h1) y_X12_fault tw1814 dX12_sign_27 rfl (st := []) rfl (Nat.le_of_ble_eq_true rfl) (Nat.le_of_ble_eq_true rfl) (Nat.le_of_ble_eq_true rfl)) (fun _ h3 => ?_)
    refine g_lv [] rfl ?_
    exact hk30 h3
  · refine g_aload_n (pc := 8) dX12_sign_8 0 rfl ?_
    refine g_dup (pc := 9) rfl dX12_sign_9 ?_
    refine g_geti (pc := 10) cl12 (Nat.le_of_ble_eq_true rfl) fk1581 (fun _ _ _ => rfl) dX12_sign_10 (fun x5 => ?_)
    refine g_iconst (pc := 13) dX12_sign_13 ci_1 ?_
    refine g_iadd (pc := 14) dX12_sign_14 ?_
    refine g_puti (pc := 15) cl12 (Nat.le_of_ble_eq_true rfl) (Or.inl ⟨rfl, fk1581⟩) (fun _ _ _ => rfl) (fun _ => ⟨rfl, rfl⟩) dX12_sign_15 (fun h4 => ?_)
    refine g_goto (pc := 18) (tgt := 30) dX12_sign_18 rfl ?_
    refine g_lv [] rfl ?_
    exact hk30 h4
theorem p_X12_sign {l : Launch} {E : aE} (hl : l.stackTraces = false) (x1 : Nat) (x2 : Int32) (h0 : aH) : MO (fun (_ : Unit) => .inl none) l E yX12_sign (.code yX12_sign cX12_sign 2 none) 2 41 [.ref (e_z E + x1), .int x2] h0 (m_X12_sign x1 x2 h0) := g_met hl (by decide +kernel) (Nat.le_of_ble_eq_true rfl) (b_X12_sign hl _ _ x1 x2 h0)
theorem dX12_number_0 : decode cX12_number 0 = .ok (.aload_n 0, 1) := by decide +kernel
theorem dX12_number_1 : decode cX12_number 1 = .ok (.invokevirtual 198, 3) := by decide +kernel
theorem dX12_number_4 : decode cX12_number 4 = .ok (.aload_n 0, 1) := by decide +kernel
theorem dX12_number_5 : decode cX12_number 5 = .ok (.aload_n 0, 1) := by decide +kernel
theorem dX12_number_6 : decode cX12_number 6 = .ok (.getfield 187, 3) := by decide +kernel
theorem dX12_number_9 : decode cX12_number 9 = .ok (.putfield 224, 3) := by decide +kernel
theorem dX12_number_12 : decode cX12_number 12 = .ok (.iconst 0, 1) := by decide +kernel
theorem dX12_number_13 : decode cX12_number 13 = .ok (.istore_n 3, 1) := by decide +kernel
theorem dX12_number_14 : decode cX12_number 14 = .ok (.aload_n 0, 1) := by decide +kernel
theorem dX12_number_15 : decode cX12_number 15 = .ok (.iconst 0, 1) := by decide +kernel
theorem dX12_number_16 : decode cX12_number 16 = .ok (.putfield 227, 3) := by decide +kernel
theorem dX12_number_19 : decode cX12_number 19 = .ok (.aload_n 0, 1) := by decide +kernel
theorem dX12_number_20 : decode cX12_number 20 = .ok (.aload_n 0, 1) := by decide +kernel
theorem dX12_number_21 : decode cX12_number 21 = .ok (.getfield 187, 3) := by decide +kernel
theorem dX12_number_24 : decode cX12_number 24 = .ok (.invokevirtual 230, 3) := by decide +kernel
theorem dX12_number_27 : decode cX12_number 27 = .ok (.ifCond .eq 55, 3) := by decide +kernel
theorem dX12_number_30 : decode cX12_number 30 = .ok (.aload_n 0, 1) := by decide +kernel
theorem dX12_number_31 : decode cX12_number 31 = .ok (.iload_n 3, 1) := by decide +kernel
theorem dX12_number_32 : decode cX12_number 32 = .ok (.iconst 5, 1) := by decide +kernel
theorem dX12_number_33 : decode cX12_number 33 = .ok (.if_icmp .ge 26, 3) := by decide +kernel
theorem dX12_number_36 : decode cX12_number 36 = .ok (.bipush 10, 2) := by decide +kernel
theorem dX12_number_38 : decode cX12_number 38 = .ok (.aload_n 0, 1) := by decide +kernel
theorem dX12_number_39 : decode cX12_number 39 = .ok (.getfield 227, 3) := by decide +kernel
theorem dX12_number_42 : decode cX12_number 42 = .ok (.imul, 1) := by decide +kernel
theorem dX12_number_43 : decode cX12_number 43 = .ok (.aload_n 0, 1) := by decide +kernel
theorem dX12_number_44 : decode cX12_number 44 = .ok (.getfield 78, 3) := by decide +kernel
theorem dX12_number_47 : decode cX12_number 47 = .ok (.aload_n 0, 1) := by decide +kernel
theorem dX12_number_48 : decode cX12_number 48 = .ok (.getfield 187, 3) := by decide +kernel
theorem dX12_number_51 : decode cX12_number 51 = .ok (.iaload, 1) := by decide +kernel
theorem dX12_number_52 : decode cX12_number 52 = .ok (.iadd, 1) := by decide +kernel
theorem dX12_number_53 : decode cX12_number 53 = .ok (.bipush 48, 2) := by decide +kernel
theorem dX12_number_55 : decode cX12_number 55 = .ok (.isub, 1) := by decide +kernel
theorem dX12_number_56 : decode cX12_number 56 = .ok (.goto 7, 3) := by decide +kernel
theorem dX12_number_59 : decode cX12_number 59 = .ok (.aload_n 0, 1) := by decide +kernel
theorem dX12_number_60 : decode cX12_number 60 = .ok (.getfield 227, 3) := by decide +kernel
theorem dX12_number_63 : decode cX12_number 63 = .ok (.putfield 227, 3) := by decide +kernel
theorem dX12_number_66 : decode cX12_number 66 = .ok (.iinc 3 1, 3) := by decide +kernel
theorem dX12_number_69 : decode cX12_number 69 = .ok (.aload_n 0, 1) := by decide +kernel
theorem dX12_number_70 : decode cX12_number 70 = .ok (.dup, 1) := by decide +kernel
theorem dX12_number_71 : decode cX12_number 71 = .ok (.getfield 187, 3) := by decide +kernel
theorem dX12_number_74 : decode cX12_number 74 = .ok (.iconst 1, 1) := by decide +kernel
theorem dX12_number_75 : decode cX12_number 75 = .ok (.iadd, 1) := by decide +kernel
theorem dX12_number_76 : decode cX12_number 76 = .ok (.putfield 187, 3) := by decide +kernel
theorem dX12_number_79 : decode cX12_number 79 = .ok (.goto (-60), 3) := by decide +kernel
theorem dX12_number_82 : decode cX12_number 82 = .ok (.iload_n 3, 1) := by decide +kernel
theorem dX12_number_83 : decode cX12_number 83 = .ok (.ifCond .eq 8, 3) := by decide +kernel
theorem dX12_number_86 : decode cX12_number 86 = .ok (.iload_n 3, 1) := by decide +kernel
theorem dX12_number_87 : decode cX12_number 87 = .ok (.iconst 5, 1) := by decide +kernel
theorem dX12_number_88 : decode cX12_number 88 = .ok (.if_icmp .le 15, 3) := by decide +kernel
theorem dX12_number_91 : decode cX12_number 91 = .ok (.aload_n 0, 1) := by decide +kernel
theorem dX12_number_92 : decode cX12_number 92 = .ok (.iconst 1, 1) := by decide +kernel
theorem dX12_number_93 : decode cX12_number 93 = .ok (.aload_n 0, 1) := by decide +kernel
theorem dX12_number_94 : decode cX12_number 94 = .ok (.getfield 224, 3) := by decide +kernel
theorem dX12_number_97 : decode cX12_number 97 = .ok (.invokevirtual 220, 3) := by decide +kernel
theorem dX12_number_100 : decode cX12_number 100 = .ok (.goto 27, 3) := by decide +kernel
theorem dX12_number_103 : decode cX12_number 103 = .ok (.aload_n 0, 1) := by decide +kernel
theorem dX12_number_104 : decode cX12_number 104 = .ok (.getfield 227, 3) := by decide +kernel
theorem dX12_number_107 : decode cX12_number 107 = .ok (.i2l, 1) := by decide +kernel
theorem dX12_number_108 : decode cX12_number 108 = .ok (.iload_n 1, 1) := by decide +kernel
theorem dX12_number_109 : decode cX12_number 109 = .ok (.i2l, 1) := by decide +kernel
theorem dX12_number_110 : decode cX12_number 110 = .ok (.iload_n 2, 1) := by decide +kernel
theorem dX12_number_111 : decode cX12_number 111 = .ok (.i2l, 1) := by decide +kernel
theorem dX12_number_112 : decode cX12_number 112 = .ok (.invokestatic 176, 3) := by decide +kernel
theorem dX12_number_115 : decode cX12_number 115 = .ok (.ifCond .ne 12, 3) := by decide +kernel
theorem dX12_number_118 : decode cX12_number 118 = .ok (.aload_n 0, 1) := by decide +kernel
theorem dX12_number_119 : decode cX12_number 119 = .ok (.iconst 2, 1) := by decide +kernel
theorem dX12_number_120 : decode cX12_number 120 = .ok (.aload_n 0, 1) := by decide +kernel
theorem dX12_number_121 : decode cX12_number 121 = .ok (.getfield 224, 3) := by decide +kernel
theorem dX12_number_124 : decode cX12_number 124 = .ok (.invokevirtual 220, 3) := by decide +kernel
theorem dX12_number_127 : decode cX12_number 127 = .ok (.aload_n 0, 1) := by decide +kernel
theorem dX12_number_128 : decode cX12_number 128 = .ok (.getfield 227, 3) := by decide +kernel
theorem dX12_number_131 : decode cX12_number 131 = .ok (.ireturn, 1) := by decide +kernel
abbrev M_X12_number : aM := (yX12_number.cls, cX12_number, 4, (some .int), [], yX12_number.name == "<init>")
abbrev J_X12_number (l : Launch) (E : aE) (n0 m0 : Nat) := GG (fun (v : Int32) => .inl (some (.int v))) l E M_X12_number 2 46 n0 m0
theorem b_X12_number {l : Launch} {E : aE} (hl : l.stackTraces = false) (n0 m0 : Nat) (x1 : Nat) (x2 : Int32) (x3 : Int32) (h0 : aH) : J_X12_number l E n0 m0 0 [(0, .ref (e_z E + x1)), (1, .int x2), (2, .int x3)] [] h0 (m_X12_number x1 x2 x3 h0) := by
  unfold m_X12_number
  refine g_aload_n (pc := 0) dX12_number_0 0 rfl ?_
  refine g_gS (fun hs => ?_)
  refine g_bRv (pc := 1) (c_V cl12 hs (p_X12_blanks hl x1 h0) y_X12_blanks tw1793 dX12_number_1 rfl (st := []) rfl (Nat.le_of_ble_eq_true rfl) (Nat.le_of_ble_eq_true rfl) (Nat.le_of_ble_eq_true rfl)) (fun _ h1 => ?_)
  refine g_aload_n (pc := 4) dX12_number_4 0 rfl ?_
  refine g_aload_n (pc := 5) dX12_number_5 0 rfl ?_
  refine g_geti (pc := 6) cl12 (Nat.le_of_ble_eq_true rfl) fk1581 (fun _ _ _ => rfl) dX12_number_6 (fun x4 => ?_)
  refine g_puti (pc := 9) cl12 (Nat.le_of_ble_eq_true rfl) (Or.inl ⟨rfl, fk1586⟩) (fun _ _ _ => rfl) (fun _ => ⟨rfl, rfl⟩) dX12_number_9 (fun h2 => ?_)
  refine g_iconst (pc := 12) dX12_number_12 ci_0 ?_
  refine g_istore_n (pc := 13) (lv' := [(3, .int (0 : Int32)), (0, .ref (e_z E + x1)), (1, .int x2), (2, .int x3)]) dX12_number_13 (Nat.le_of_ble_eq_true rfl) rfl ?_
  refine g_aload_n (pc := 14) dX12_number_14 1 rfl ?_
  refine g_iconst (pc := 15) dX12_number_15 ci_0 ?_
  refine g_puti (pc := 16) cl12 (Nat.le_of_ble_eq_true rfl) (Or.inl ⟨rfl, fk1585⟩) (fun _ _ _ => rfl) (fun _ => ⟨rfl, rfl⟩) dX12_number_16 (fun h3 => ?_)
  refine g_join (fun k => ∀ (x5 : Int32) (h4 : aH), J_X12_number l E n0 m0 82 [(0, .ref (e_z E + x1)), (1, .int x2), (2, .int x3), (3, .int x5)] [] h4 (k x5 h4)) (fun x5 h4 => ?_) (fun k82 hk82 => ?_)
  · refine g_iload_n (pc := 82) dX12_number_82 3 rfl ?_
    refine g_join (fun k => ∀ (h5 : aH), J_X12_number l E n0 m0 127 [(0, .ref (e_z E + x1))] [] h5 (k h5)) (fun h5 => ?_) (fun k127 hk127 => ?_)
    · refine g_aload_n (pc := 127) dX12_number_127 0 rfl ?_
      refine g_geti (pc := 128) cl12 (Nat.le_of_ble_eq_true rfl) fk1585 (fun _ _ _ => rfl) dX12_number_128 (fun x6 => ?_)
      exact g_ret (pc := 131) rfl (isRet_i _) dX12_number_131 rfl
    refine g_join (fun k => ∀ (h6 : aH), J_X12_number l E n0 m0 91 [(0, .ref (e_z E + x1))] [] h6 (k h6)) (fun h6 => ?_) (fun k91 hk91 => ?_)
    · refine g_aload_n (pc := 91) dX12_number_91 0 rfl ?_
      refine g_iconst (pc := 92) dX12_number_92 ci_1 ?_
      refine g_aload_n (pc := 93) dX12_number_93 0 rfl ?_
      refine g_geti (pc := 94) cl12 (Nat.le_of_ble_eq_true rfl) fk1586 (fun _ _ _ => rfl) dX12_number_94 (fun x7 => ?_)
      refine g_gS (fun hs => ?_)
      refine g_bRv (pc := 97) (c_V cl12 hs (p_X12_fault hl x1 (1 : Int32) x7 h6) y_X12_fault tw1814 dX12_number_97 rfl (st := []) rfl (Nat.le_of_ble_eq_true rfl) (Nat.le_of_ble_eq_true rfl) (Nat.le_of_ble_eq_true rfl)) (fun _ h7 => ?_)
      refine g_goto (pc := 100) (tgt := 127) dX12_number_100 rfl ?_
      exact hk127 h7
    refine g_ifeq (pc := 83) (tgt := 91) dX12_number_83 rfl ?_ ?_
    · refine g_lv [0] rfl ?_
      exact hk91 h4
    · refine g_iload_n (pc := 86) dX12_number_86 3 rfl ?_
      refine g_iconst (pc := 87) dX12_number_87 ci_5 ?_
      refine g_icmple (pc := 88) (tgt := 103) dX12_number_88 rfl ?_ ?_
      · refine g_aload_n (pc := 103) dX12_number_103 0 rfl ?_
        refine g_geti (pc := 104) cl12 (Nat.le_of_ble_eq_true rfl) fk1585 (fun _ _ _ => rfl) dX12_number_104 (fun x8 => ?_)
        refine g_i2l (pc := 107) dX12_number_107 ?_
        refine g_iload_n (pc := 108) dX12_number_108 1 rfl ?_
        refine g_i2l (pc := 109) dX12_number_109 ?_
        refine g_iload_n (pc := 110) dX12_number_110 2 rfl ?_
        refine g_i2l (pc := 111) dX12_number_111 ?_
        refine g_bRi (pc := 112) (c_S (p_X12_in hl (x8.toInt64) (x2.toInt64) (x3.toInt64) h4) y_X12_in tw1782 dX12_number_112 rfl (st := []) rfl (Nat.le_of_ble_eq_true rfl) (Nat.le_of_ble_eq_true rfl) (Nat.le_of_ble_eq_true rfl)) (fun x9 h8 => ?_)
        refine g_ifne (pc := 115) (tgt := 127) dX12_number_115 rfl ?_ ?_
        · refine g_aload_n (pc := 118) dX12_number_118 0 rfl ?_
          refine g_iconst (pc := 119) dX12_number_119 ci_2 ?_
          refine g_aload_n (pc := 120) dX12_number_120 0 rfl ?_
          refine g_geti (pc := 121) cl12 (Nat.le_of_ble_eq_true rfl) fk1586 (fun _ _ _ => rfl) dX12_number_121 (fun x10 => ?_)
          refine g_gS (fun hs => ?_)
          refine g_bRv (pc := 124) (c_V cl12 hs (p_X12_fault hl x1 (2 : Int32) x10 h8) y_X12_fault tw1814 dX12_number_124 rfl (st := []) rfl (Nat.le_of_ble_eq_true rfl) (Nat.le_of_ble_eq_true rfl) (Nat.le_of_ble_eq_true rfl)) (fun _ h9 => ?_)
          refine g_lv [0] rfl ?_
          exact hk127 h9
        · refine g_lv [0] rfl ?_
          exact hk127 h8
      · refine g_lv [0] rfl ?_
        exact hk91 h4
  refine g_lv [1, 2, 3, 0] rfl ?_
  refine g_loop1 (F := (m_X12_number_L19 x1 k82)) (fun x11 => [(0, .ref (e_z E + x1)), (1, .int x2), (2, .int x3), (3, .int x11)]) (fun r19 hr19 x11 h10 => ?_) _ _ _
  unfold m_X12_number_L19
  refine g_aload_n (pc := 19) dX12_number_19 0 rfl ?_
  refine g_aload_n (pc := 20) dX12_number_20 0 rfl ?_
  refine g_geti (pc := 21) cl12 (Nat.le_of_ble_eq_true rfl) fk1581 (fun _ _ _ => rfl) dX12_number_21 (fun x12 => ?_)
  refine g_gS (fun hs => ?_)
  refine g_bRi (pc := 24) (c_V cl12 hs (p_X12_isDigit hl x1 x12 h10) y_X12_isDigit tw1822 dX12_number_24 rfl (st := []) rfl (Nat.le_of_ble_eq_true rfl) (Nat.le_of_ble_eq_true rfl) (Nat.le_of_ble_eq_true rfl)) (fun x13 h11 => ?_)
  refine g_ifeq (pc := 27) (tgt := 82) dX12_number_27 rfl ?_ ?_
  · exact hk82 x11 h11
  · refine g_aload_n (pc := 30) dX12_number_30 0 rfl ?_
    refine g_iload_n (pc := 31) dX12_number_31 3 rfl ?_
    refine g_iconst (pc := 32) dX12_number_32 ci_5 ?_
    refine g_join (fun k => ∀ (x14 : Int32) (h12 : aH), J_X12_number l E n0 m0 63 [(0, .ref (e_z E + x1)), (1, .int x2), (2, .int x3), (3, .int x11)] [.int x14, .ref (e_z E + x1)] h12 (k x14 h12)) (fun x14 h12 => ?_) (fun k63 hk63 => ?_)
    · refine g_puti (pc := 63) cl12 (Nat.le_of_ble_eq_true rfl) (Or.inl ⟨rfl, fk1585⟩) (fun _ _ _ => rfl) (fun _ => ⟨rfl, rfl⟩) dX12_number_63 (fun h13 => ?_)
      refine g_iincN (pc := 66) dX12_number_66 3 rfl ci_1 (Nat.le_of_ble_eq_true rfl) (fun x15 => ?_)
      refine g_lvr (lv' := [(3, .int x15), (0, .ref (e_z E + x1)), (1, .int x2), (2, .int x3)]) rfl ?_
      refine g_aload_n (pc := 69) dX12_number_69 1 rfl ?_
      refine g_dup (pc := 70) rfl dX12_number_70 ?_
      refine g_geti (pc := 71) cl12 (Nat.le_of_ble_eq_true rfl) fk1581 (fun _ _ _ => rfl) dX12_number_71 (fun x16 => ?_)
      refine g_iconst (pc := 74) dX12_number_74 ci_1 ?_
      refine g_iadd (pc := 75) dX12_number_75 ?_
      refine g_puti (pc := 76) cl12 (Nat.le_of_ble_eq_true rfl) (Or.inl ⟨rfl, fk1581⟩) (fun _ _ _ => rfl) (fun _ => ⟨rfl, rfl⟩) dX12_number_76 (fun h14 => ?_)
      refine g_goto (pc := 79) (tgt := 19) dX12_number_79 rfl ?_
      refine g_lv [1, 2, 3, 0] rfl ?_
      exact hr19 x15 h14
    refine g_icmpge (pc := 33) (tgt := 59) dX12_number_33 rfl ?_ ?_
    · refine g_bipush (pc := 36) dX12_number_36 cb_10 ?_
      refine g_aload_n (pc := 38) dX12_number_38 0 rfl ?_
      refine g_geti (pc := 39) cl12 (Nat.le_of_ble_eq_true rfl) fk1585 (fun _ _ _ => rfl) dX12_number_39 (fun x17 => ?_)
      refine g_imul (pc := 42) dX12_number_42 ?_
      refine g_aload_n (pc := 43) dX12_number_43 0 rfl ?_
      refine g_getr (pc := 44) cl12 (Nat.le_of_ble_eq_true rfl) fk1579 (fun _ _ _ => rfl) dX12_number_44 (fun x18 => ?_)
      refine g_aload_n (pc := 47) dX12_number_47 0 rfl ?_
      refine g_geti (pc := 48) cl12 (Nat.le_of_ble_eq_true rfl) fk1581 (fun _ _ _ => rfl) dX12_number_48 (fun x19 => ?_)
      refine g_iald (pc := 51) dX12_number_51 (fun x20 => ?_)
      refine g_iadd (pc := 52) dX12_number_52 ?_
      refine g_bipush (pc := 53) dX12_number_53 cb_48 ?_
      refine g_isub (pc := 55) dX12_number_55 ?_
      refine g_goto (pc := 56) (tgt := 63) dX12_number_56 rfl ?_
      exact hk63 ((((10 : Int32) * x17) + x20) - (48 : Int32)) h11
    · refine g_aload_n (pc := 59) dX12_number_59 0 rfl ?_
      refine g_geti (pc := 60) cl12 (Nat.le_of_ble_eq_true rfl) fk1585 (fun _ _ _ => rfl) dX12_number_60 (fun x21 => ?_)
      exact hk63 x21 h11
theorem p_X12_number {l : Launch} {E : aE} (hl : l.stackTraces = false) (x1 : Nat) (x2 : Int32) (x3 : Int32) (h0 : aH) : MO (fun (v : Int32) => .inl (some (.int v))) l E yX12_number (.code yX12_number cX12_number 4 (some .int)) 2 46 [.ref (e_z E + x1), .int x2, .int x3] h0 (m_X12_number x1 x2 x3 h0) := g_met hl (by decide +kernel) (Nat.le_of_ble_eq_true rfl) (b_X12_number hl _ _ x1 x2 x3 h0)
theorem dX12_name_0 : decode cX12_name 0 = .ok (.aload_n 0, 1) := by decide +kernel
theorem dX12_name_1 : decode cX12_name 1 = .ok (.aload_n 0, 1) := by decide +kernel
theorem dX12_name_2 : decode cX12_name 2 = .ok (.invokevirtual 212, 3) := by decide +kernel
theorem dX12_name_5 : decode cX12_name 5 = .ok (.putfield 233, 3) := by decide +kernel
theorem dX12_name_8 : decode cX12_name 8 = .ok (.aload_n 0, 1) := by decide +kernel
theorem dX12_name_9 : decode cX12_name 9 = .ok (.getfield 233, 3) := by decide +kernel
theorem dX12_name_12 : decode cX12_name 12 = .ok (.lconst 0, 1) := by decide +kernel
theorem dX12_name_13 : decode cX12_name 13 = .ok (.lcmp, 1) := by decide +kernel
theorem dX12_name_14 : decode cX12_name 14 = .ok (.ifCond .gt 14, 3) := by decide +kernel
theorem dX12_name_17 : decode cX12_name 17 = .ok (.aload_n 0, 1) := by decide +kernel
theorem dX12_name_18 : decode cX12_name 18 = .ok (.iconst 1, 1) := by decide +kernel
theorem dX12_name_19 : decode cX12_name 19 = .ok (.aload_n 0, 1) := by decide +kernel
theorem dX12_name_20 : decode cX12_name 20 = .ok (.getfield 201, 3) := by decide +kernel
theorem dX12_name_23 : decode cX12_name 23 = .ok (.invokevirtual 220, 3) := by decide +kernel
theorem dX12_name_26 : decode cX12_name 26 = .ok (.lconst 0, 1) := by decide +kernel
theorem dX12_name_27 : decode cX12_name 27 = .ok (.lreturn, 1) := by decide +kernel
theorem dX12_name_28 : decode cX12_name 28 = .ok (.aload_n 0, 1) := by decide +kernel
theorem dX12_name_29 : decode cX12_name 29 = .ok (.getfield 233, 3) := by decide +kernel
theorem dX12_name_32 : decode cX12_name 32 = .ok (.lreturn, 1) := by decide +kernel
abbrev M_X12_name : aM := (yX12_name.cls, cX12_name, 1, (some .long), [], yX12_name.name == "<init>")
abbrev J_X12_name (l : Launch) (E : aE) (n0 m0 : Nat) := GG (fun (v : Int64) => .inl (some (.long v))) l E M_X12_name 3 69 n0 m0
theorem b_X12_name {l : Launch} {E : aE} (hl : l.stackTraces = false) (n0 m0 : Nat) (x1 : Nat) (h0 : aH) : J_X12_name l E n0 m0 0 [(0, .ref (e_z E + x1))] [] h0 (m_X12_name x1 h0) := by
  unfold m_X12_name
  refine g_aload_n (pc := 0) dX12_name_0 0 rfl ?_
  refine g_aload_n (pc := 1) dX12_name_1 0 rfl ?_
  refine g_gS (fun hs => ?_)
  refine g_bRl (pc := 2) (c_V cl12 hs (p_X12_takesWord hl x1 h0) y_X12_takesWord tw1802 dX12_name_2 rfl (st := [.ref (e_z E + x1)]) rfl (Nat.le_of_ble_eq_true rfl) (Nat.le_of_ble_eq_true rfl) (Nat.le_of_ble_eq_true rfl)) (fun x2 h1 => ?_)
  refine g_putl (pc := 5) cl12 (Nat.le_of_ble_eq_true rfl) (Or.inl ⟨rfl, fk1587⟩) (fun _ _ _ => rfl) (fun _ => ⟨rfl, rfl⟩) dX12_name_5 (fun h2 => ?_)
  refine g_aload_n (pc := 8) dX12_name_8 0 rfl ?_
  refine g_getl (pc := 9) cl12 (Nat.le_of_ble_eq_true rfl) fk1587 (fun _ _ _ => rfl) dX12_name_9 (fun x3 => ?_)
  refine g_lconst (pc := 12) dX12_name_12 cl_0 ?_
  refine g_lcmp (pc := 13) dX12_name_13 ?_
  refine g_ifgt (pc := 14) (tgt := 28) dX12_name_14 rfl ?_ ?_
  · refine g_aload_n (pc := 17) dX12_name_17 0 rfl ?_
    refine g_iconst (pc := 18) dX12_name_18 ci_1 ?_
    refine g_aload_n (pc := 19) dX12_name_19 0 rfl ?_
    refine g_geti (pc := 20) cl12 (Nat.le_of_ble_eq_true rfl) fk1588 (fun _ _ _ => rfl) dX12_name_20 (fun x4 => ?_)
    refine g_gS (fun hs => ?_)
    refine g_bRv (pc := 23) (c_V cl12 hs (p_X12_fault hl x1 (1 : Int32) x4 h2) y_X12_fault tw1814 dX12_name_23 rfl (st := []) rfl (Nat.le_of_ble_eq_true rfl) (Nat.le_of_ble_eq_true rfl) (Nat.le_of_ble_eq_true rfl)) (fun _ h3 => ?_)
    refine g_lconst (pc := 26) dX12_name_26 cl_0 ?_
    exact g_ret (pc := 27) rfl (isRet_l _) dX12_name_27 rfl
  · refine g_aload_n (pc := 28) dX12_name_28 0 rfl ?_
    refine g_getl (pc := 29) cl12 (Nat.le_of_ble_eq_true rfl) fk1587 (fun _ _ _ => rfl) dX12_name_29 (fun x5 => ?_)
    exact g_ret (pc := 32) rfl (isRet_l _) dX12_name_32 rfl
theorem p_X12_name {l : Launch} {E : aE} (hl : l.stackTraces = false) (x1 : Nat) (h0 : aH) : MO (fun (v : Int64) => .inl (some (.long v))) l E yX12_name (.code yX12_name cX12_name 1 (some .long)) 3 69 [.ref (e_z E + x1)] h0 (m_X12_name x1 h0) := g_met hl (by decide +kernel) (Nat.le_of_ble_eq_true rfl) (b_X12_name hl _ _ x1 h0)
theorem dX12_place_0 : decode cX12_place 0 = .ok (.iconst 0, 1) := by decide +kernel
theorem dX12_place_1 : decode cX12_place 1 = .ok (.istore 5, 2) := by decide +kernel
theorem dX12_place_3 : decode cX12_place 3 = .ok (.iload 5, 2) := by decide +kernel
theorem dX12_place_5 : decode cX12_place 5 = .ok (.iload_n 2, 1) := by decide +kernel
theorem dX12_place_6 : decode cX12_place 6 = .ok (.if_icmp .ge 26, 3) := by decide +kernel
theorem dX12_place_9 : decode cX12_place 9 = .ok (.aload_n 0, 1) := by decide +kernel
theorem dX12_place_10 : decode cX12_place 10 = .ok (.getfield 88, 3) := by decide +kernel
theorem dX12_place_13 : decode cX12_place 13 = .ok (.iload_n 1, 1) := by decide +kernel
theorem dX12_place_14 : decode cX12_place 14 = .ok (.iload 5, 2) := by decide +kernel
theorem dX12_place_16 : decode cX12_place 16 = .ok (.iadd, 1) := by decide +kernel
theorem dX12_place_17 : decode cX12_place 17 = .ok (.laload, 1) := by decide +kernel
theorem dX12_place_18 : decode cX12_place 18 = .ok (.lload_n 3, 1) := by decide +kernel
theorem dX12_place_19 : decode cX12_place 19 = .ok (.lcmp, 1) := by decide +kernel
theorem dX12_place_20 : decode cX12_place 20 = .ok (.ifCond .ne 6, 3) := by decide +kernel
theorem dX12_place_23 : decode cX12_place 23 = .ok (.iload 5, 2) := by decide +kernel
theorem dX12_place_25 : decode cX12_place 25 = .ok (.ireturn, 1) := by decide +kernel
theorem dX12_place_26 : decode cX12_place 26 = .ok (.iinc 5 1, 3) := by decide +kernel
theorem dX12_place_29 : decode cX12_place 29 = .ok (.goto (-26), 3) := by decide +kernel
theorem dX12_place_32 : decode cX12_place 32 = .ok (.iconst (-1), 1) := by decide +kernel
theorem dX12_place_33 : decode cX12_place 33 = .ok (.ireturn, 1) := by decide +kernel
abbrev M_X12_place : aM := (yX12_place.cls, cX12_place, 6, (some .int), [], yX12_place.name == "<init>")
abbrev J_X12_place (l : Launch) (E : aE) (n0 m0 : Nat) := GG (fun (v : Int32) => .inl (some (.int v))) l E M_X12_place 0 0 n0 m0
theorem b_X12_place {l : Launch} {E : aE} (hl : l.stackTraces = false) (n0 m0 : Nat) (x1 : Nat) (x2 : Int32) (x3 : Int32) (x4 : Int64) (h0 : aH) : J_X12_place l E n0 m0 0 [(0, .ref (e_z E + x1)), (1, .int x2), (2, .int x3), (3, .long x4)] [] h0 (m_X12_place x1 x2 x3 x4 h0) := by
  unfold m_X12_place
  refine g_iconst (pc := 0) dX12_place_0 ci_0 ?_
  refine g_istore (pc := 1) (lv' := [(5, .int (0 : Int32)), (0, .ref (e_z E + x1)), (1, .int x2), (2, .int x3), (3, .long x4)]) dX12_place_1 (Nat.le_of_ble_eq_true rfl) rfl ?_
  refine g_join (fun k => ∀ (h1 : aH), J_X12_place l E n0 m0 32 [] [] h1 (k h1)) (fun h1 => ?_) (fun k32 hk32 => ?_)
  · refine g_iconst (pc := 32) dX12_place_32 ci_m1 ?_
    exact g_ret (pc := 33) rfl (isRet_i _) dX12_place_33 rfl
  refine g_join (fun k => ∀ (x5 : Int32) (h2 : aH), J_X12_place l E n0 m0 23 [(5, .int x5)] [] h2 (k x5 h2)) (fun x5 h2 => ?_) (fun k23 hk23 => ?_)
  · refine g_iload (pc := 23) dX12_place_23 0 rfl ?_
    exact g_ret (pc := 25) rfl (isRet_i _) dX12_place_25 rfl
  refine g_lv [1, 2, 3, 4, 0] rfl ?_
  refine g_loop1 (F := (m_X12_place_L3 x1 x2 x3 x4 k32 k23)) (fun x6 => [(0, .ref (e_z E + x1)), (1, .int x2), (2, .int x3), (3, .long x4), (5, .int x6)]) (fun r3 hr3 x6 h3 => ?_) _ _ _
  unfold m_X12_place_L3
  refine g_iload (pc := 3) dX12_place_3 4 rfl ?_
  refine g_iload_n (pc := 5) dX12_place_5 2 rfl ?_
  refine g_icmpge (pc := 6) (tgt := 32) dX12_place_6 rfl ?_ ?_
  · refine g_aload_n (pc := 9) dX12_place_9 0 rfl ?_
    refine g_getr (pc := 10) cl12 (Nat.le_of_ble_eq_true rfl) fk1595 (fun _ _ _ => rfl) dX12_place_10 (fun x7 => ?_)
    refine g_iload_n (pc := 13) dX12_place_13 1 rfl ?_
    refine g_iload (pc := 14) dX12_place_14 4 rfl ?_
    refine g_iadd (pc := 16) dX12_place_16 ?_
    refine g_lald (pc := 17) dX12_place_17 (fun x8 => ?_)
    refine g_lload_n (pc := 18) dX12_place_18 3 rfl ?_
    refine g_lcmp (pc := 19) dX12_place_19 ?_
    refine g_ifne (pc := 20) (tgt := 26) dX12_place_20 rfl ?_ ?_
    · refine g_lv [4] rfl ?_
      exact hk23 x6 h3
    · refine g_iincN (pc := 26) dX12_place_26 4 rfl ci_1 (Nat.le_of_ble_eq_true rfl) (fun x9 => ?_)
      refine g_lvr (lv' := [(5, .int x9), (0, .ref (e_z E + x1)), (1, .int x2), (2, .int x3), (3, .long x4)]) rfl ?_
      refine g_goto (pc := 29) (tgt := 3) dX12_place_29 rfl ?_
      refine g_lv [1, 2, 3, 4, 0] rfl ?_
      exact hr3 x9 h3
  · refine g_lv [] rfl ?_
    exact hk32 h3
theorem p_X12_place {l : Launch} {E : aE} (hl : l.stackTraces = false) (x1 : Nat) (x2 : Int32) (x3 : Int32) (x4 : Int64) (h0 : aH) : MO (fun (v : Int32) => .inl (some (.int v))) l E yX12_place (.code yX12_place cX12_place 6 (some .int)) 0 0 [.ref (e_z E + x1), .int x2, .int x3, .long x4] h0 (m_X12_place x1 x2 x3 x4 h0) := g_met hl (by decide +kernel) (Nat.le_of_ble_eq_true rfl) (b_X12_place hl _ _ x1 x2 x3 x4 h0)
