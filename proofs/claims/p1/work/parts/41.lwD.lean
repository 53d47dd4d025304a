/-! the law: decode rows -/
abbrev b_la_law : ByteArray := code
theorem d_la_law_0 : decode b_la_law 0 = .ok (.new 8, 3) := by decide +kernel
theorem d_la_law_3 : decode b_la_law 3 = .ok (.dup, 1) := by decide +kernel
theorem d_la_law_4 : decode b_la_law 4 = .ok (.invokespecial 54, 3) := by decide +kernel
theorem d_la_law_7 : decode b_la_law 7 = .ok (.astore_n 1, 1) := by decide +kernel
theorem d_la_law_8 : decode b_la_law 8 = .ok (.new 55, 3) := by decide +kernel
theorem d_la_law_11 : decode b_la_law 11 = .ok (.dup, 1) := by decide +kernel
theorem d_la_law_12 : decode b_la_law 12 = .ok (.invokespecial 57, 3) := by decide +kernel
theorem d_la_law_15 : decode b_la_law 15 = .ok (.astore_n 2, 1) := by decide +kernel
theorem d_la_law_16 : decode b_la_law 16 = .ok (.iconst 1, 1) := by decide +kernel
theorem d_la_law_17 : decode b_la_law 17 = .ok (.newarray .long, 2) := by decide +kernel
theorem d_la_law_19 : decode b_la_law 19 = .ok (.astore_n 3, 1) := by decide +kernel
theorem d_la_law_20 : decode b_la_law 20 = .ok (.iconst 0, 1) := by decide +kernel
theorem d_la_law_21 : decode b_la_law 21 = .ok (.istore 4, 2) := by decide +kernel
theorem d_la_law_23 : decode b_la_law 23 = .ok (.iload 4, 2) := by decide +kernel
theorem d_la_law_25 : decode b_la_law 25 = .ok (.aload_n 0, 1) := by decide +kernel
theorem d_la_law_26 : decode b_la_law 26 = .ok (.arraylength, 1) := by decide +kernel
theorem d_la_law_27 : decode b_la_law 27 = .ok (.bipush 7, 2) := by decide +kernel
theorem d_la_law_29 : decode b_la_law 29 = .ok (.isub, 1) := by decide +kernel
theorem d_la_law_30 : decode b_la_law 30 = .ok (.if_icmp .gt 764, 3) := by decide +kernel
theorem d_la_law_33 : decode b_la_law 33 = .ok (.aload_n 0, 1) := by decide +kernel
theorem d_la_law_34 : decode b_la_law 34 = .ok (.iload 4, 2) := by decide +kernel
theorem d_la_law_36 : decode b_la_law 36 = .ok (.iaload, 1) := by decide +kernel
theorem d_la_law_37 : decode b_la_law 37 = .ok (.bipush 15, 2) := by decide +kernel
theorem d_la_law_39 : decode b_la_law 39 = .ok (.iand, 1) := by decide +kernel
theorem d_la_law_40 : decode b_la_law 40 = .ok (.tableswitch 748 0 10 #[60, 132, 212, 284, 332, 450, 461, 505, 556, 612, 668], 60) := by decide +kernel
theorem d_la_law_100 : decode b_la_law 100 = .ok (.aload_n 1, 1) := by decide +kernel
theorem d_la_law_101 : decode b_la_law 101 = .ok (.aload_n 0, 1) := by decide +kernel
theorem d_la_law_102 : decode b_la_law 102 = .ok (.iload 4, 2) := by decide +kernel
theorem d_la_law_104 : decode b_la_law 104 = .ok (.iconst 1, 1) := by decide +kernel
theorem d_la_law_105 : decode b_la_law 105 = .ok (.iadd, 1) := by decide +kernel
theorem d_la_law_106 : decode b_la_law 106 = .ok (.iaload, 1) := by decide +kernel
theorem d_la_law_107 : decode b_la_law 107 = .ok (.aload_n 0, 1) := by decide +kernel
theorem d_la_law_108 : decode b_la_law 108 = .ok (.iload 4, 2) := by decide +kernel
theorem d_la_law_110 : decode b_la_law 110 = .ok (.iconst 2, 1) := by decide +kernel
theorem d_la_law_111 : decode b_la_law 111 = .ok (.iadd, 1) := by decide +kernel
theorem d_la_law_112 : decode b_la_law 112 = .ok (.iaload, 1) := by decide +kernel
theorem d_la_law_113 : decode b_la_law 113 = .ok (.aload_n 0, 1) := by decide +kernel
theorem d_la_law_114 : decode b_la_law 114 = .ok (.iload 4, 2) := by decide +kernel
theorem d_la_law_116 : decode b_la_law 116 = .ok (.iconst 3, 1) := by decide +kernel
theorem d_la_law_117 : decode b_la_law 117 = .ok (.iadd, 1) := by decide +kernel
theorem d_la_law_118 : decode b_la_law 118 = .ok (.iaload, 1) := by decide +kernel
theorem d_la_law_119 : decode b_la_law 119 = .ok (.aload_n 0, 1) := by decide +kernel
theorem d_la_law_120 : decode b_la_law 120 = .ok (.iload 4, 2) := by decide +kernel
theorem d_la_law_122 : decode b_la_law 122 = .ok (.iconst 4, 1) := by decide +kernel
theorem d_la_law_123 : decode b_la_law 123 = .ok (.iadd, 1) := by decide +kernel
theorem d_la_law_124 : decode b_la_law 124 = .ok (.iaload, 1) := by decide +kernel
theorem d_la_law_125 : decode b_la_law 125 = .ok (.invokestatic 58, 3) := by decide +kernel
theorem d_la_law_128 : decode b_la_law 128 = .ok (.istore 5, 2) := by decide +kernel
theorem d_la_law_130 : decode b_la_law 130 = .ok (.aload_n 2, 1) := by decide +kernel
theorem d_la_law_131 : decode b_la_law 131 = .ok (.aload_n 0, 1) := by decide +kernel
theorem d_la_law_132 : decode b_la_law 132 = .ok (.iload 4, 2) := by decide +kernel
theorem d_la_law_134 : decode b_la_law 134 = .ok (.iconst 1, 1) := by decide +kernel
theorem d_la_law_135 : decode b_la_law 135 = .ok (.iadd, 1) := by decide +kernel
theorem d_la_law_136 : decode b_la_law 136 = .ok (.iaload, 1) := by decide +kernel
theorem d_la_law_137 : decode b_la_law 137 = .ok (.aload_n 0, 1) := by decide +kernel
theorem d_la_law_138 : decode b_la_law 138 = .ok (.iload 4, 2) := by decide +kernel
theorem d_la_law_140 : decode b_la_law 140 = .ok (.iconst 2, 1) := by decide +kernel
theorem d_la_law_141 : decode b_la_law 141 = .ok (.iadd, 1) := by decide +kernel
theorem d_la_law_142 : decode b_la_law 142 = .ok (.iaload, 1) := by decide +kernel
theorem d_la_law_143 : decode b_la_law 143 = .ok (.aload_n 0, 1) := by decide +kernel
theorem d_la_law_144 : decode b_la_law 144 = .ok (.iload 4, 2) := by decide +kernel
theorem d_la_law_146 : decode b_la_law 146 = .ok (.iconst 3, 1) := by decide +kernel
theorem d_la_law_147 : decode b_la_law 147 = .ok (.iadd, 1) := by decide +kernel
theorem d_la_law_148 : decode b_la_law 148 = .ok (.iaload, 1) := by decide +kernel
theorem d_la_law_149 : decode b_la_law 149 = .ok (.aload_n 0, 1) := by decide +kernel
theorem d_la_law_150 : decode b_la_law 150 = .ok (.iload 4, 2) := by decide +kernel
theorem d_la_law_152 : decode b_la_law 152 = .ok (.iconst 4, 1) := by decide +kernel
theorem d_la_law_153 : decode b_la_law 153 = .ok (.iadd, 1) := by decide +kernel
theorem d_la_law_154 : decode b_la_law 154 = .ok (.iaload, 1) := by decide +kernel
theorem d_la_law_155 : decode b_la_law 155 = .ok (.invokevirtual 63, 3) := by decide +kernel
theorem d_la_law_158 : decode b_la_law 158 = .ok (.aload_n 2, 1) := by decide +kernel
theorem d_la_law_159 : decode b_la_law 159 = .ok (.invokevirtual 64, 3) := by decide +kernel
theorem d_la_law_162 : decode b_la_law 162 = .ok (.iload 5, 2) := by decide +kernel
theorem d_la_law_164 : decode b_la_law 164 = .ok (.if_icmp .eq 5, 3) := by decide +kernel
theorem d_la_law_167 : decode b_la_law 167 = .ok (.iconst 0, 1) := by decide +kernel
theorem d_la_law_168 : decode b_la_law 168 = .ok (.ireturn, 1) := by decide +kernel
theorem d_la_law_169 : decode b_la_law 169 = .ok (.goto 619, 3) := by decide +kernel
theorem d_la_law_172 : decode b_la_law 172 = .ok (.aload_n 1, 1) := by decide +kernel
theorem d_la_law_173 : decode b_la_law 173 = .ok (.aload_n 0, 1) := by decide +kernel
theorem d_la_law_174 : decode b_la_law 174 = .ok (.iload 4, 2) := by decide +kernel
theorem d_la_law_176 : decode b_la_law 176 = .ok (.iconst 1, 1) := by decide +kernel
theorem d_la_law_177 : decode b_la_law 177 = .ok (.iadd, 1) := by decide +kernel
theorem d_la_law_178 : decode b_la_law 178 = .ok (.iaload, 1) := by decide +kernel
theorem d_la_law_179 : decode b_la_law 179 = .ok (.aload_n 0, 1) := by decide +kernel
theorem d_la_law_180 : decode b_la_law 180 = .ok (.iload 4, 2) := by decide +kernel
theorem d_la_law_182 : decode b_la_law 182 = .ok (.iconst 2, 1) := by decide +kernel
theorem d_la_law_183 : decode b_la_law 183 = .ok (.iadd, 1) := by decide +kernel
theorem d_la_law_184 : decode b_la_law 184 = .ok (.iaload, 1) := by decide +kernel
theorem d_la_law_185 : decode b_la_law 185 = .ok (.aload_n 0, 1) := by decide +kernel
theorem d_la_law_186 : decode b_la_law 186 = .ok (.iload 4, 2) := by decide +kernel
theorem d_la_law_188 : decode b_la_law 188 = .ok (.iconst 3, 1) := by decide +kernel
theorem d_la_law_189 : decode b_la_law 189 = .ok (.iadd, 1) := by decide +kernel
theorem d_la_law_190 : decode b_la_law 190 = .ok (.iaload, 1) := by decide +kernel
theorem d_la_law_191 : decode b_la_law 191 = .ok (.aload_n 3, 1) := by decide +kernel
theorem d_la_law_192 : decode b_la_law 192 = .ok (.invokestatic 67, 3) := by decide +kernel
theorem d_la_law_195 : decode b_la_law 195 = .ok (.istore 5, 2) := by decide +kernel
theorem d_la_law_197 : decode b_la_law 197 = .ok (.aload_n 2, 1) := by decide +kernel
theorem d_la_law_198 : decode b_la_law 198 = .ok (.aload_n 0, 1) := by decide +kernel
theorem d_la_law_199 : decode b_la_law 199 = .ok (.iload 4, 2) := by decide +kernel
theorem d_la_law_201 : decode b_la_law 201 = .ok (.iconst 1, 1) := by decide +kernel
theorem d_la_law_202 : decode b_la_law 202 = .ok (.iadd, 1) := by decide +kernel
theorem d_la_law_203 : decode b_la_law 203 = .ok (.iaload, 1) := by decide +kernel
theorem d_la_law_204 : decode b_la_law 204 = .ok (.aload_n 0, 1) := by decide +kernel
theorem d_la_law_205 : decode b_la_law 205 = .ok (.iload 4, 2) := by decide +kernel
theorem d_la_law_207 : decode b_la_law 207 = .ok (.iconst 2, 1) := by decide +kernel
theorem d_la_law_208 : decode b_la_law 208 = .ok (.iadd, 1) := by decide +kernel
theorem d_la_law_209 : decode b_la_law 209 = .ok (.iaload, 1) := by decide +kernel
theorem d_la_law_210 : decode b_la_law 210 = .ok (.aload_n 0, 1) := by decide +kernel
theorem d_la_law_211 : decode b_la_law 211 = .ok (.iload 4, 2) := by decide +kernel
theorem d_la_law_213 : decode b_la_law 213 = .ok (.iconst 3, 1) := by decide +kernel
theorem d_la_law_214 : decode b_la_law 214 = .ok (.iadd, 1) := by decide +kernel
theorem d_la_law_215 : decode b_la_law 215 = .ok (.iaload, 1) := by decide +kernel
theorem d_la_law_216 : decode b_la_law 216 = .ok (.invokevirtual 70, 3) := by decide +kernel
theorem d_la_law_219 : decode b_la_law 219 = .ok (.istore 6, 2) := by decide +kernel
theorem d_la_law_221 : decode b_la_law 221 = .ok (.aload_n 2, 1) := by decide +kernel
theorem d_la_law_222 : decode b_la_law 222 = .ok (.invokevirtual 64, 3) := by decide +kernel
theorem d_la_law_225 : decode b_la_law 225 = .ok (.iload 5, 2) := by decide +kernel
theorem d_la_law_227 : decode b_la_law 227 = .ok (.if_icmp .eq 5, 3) := by decide +kernel
theorem d_la_law_230 : decode b_la_law 230 = .ok (.iconst 0, 1) := by decide +kernel
theorem d_la_law_231 : decode b_la_law 231 = .ok (.ireturn, 1) := by decide +kernel
theorem d_la_law_232 : decode b_la_law 232 = .ok (.iload 5, 2) := by decide +kernel
theorem d_la_law_234 : decode b_la_law 234 = .ok (.ifCond .ne 15, 3) := by decide +kernel
theorem d_la_law_237 : decode b_la_law 237 = .ok (.aload_n 3, 1) := by decide +kernel
theorem d_la_law_238 : decode b_la_law 238 = .ok (.iconst 0, 1) := by decide +kernel
theorem d_la_law_239 : decode b_la_law 239 = .ok (.laload, 1) := by decide +kernel
theorem d_la_law_240 : decode b_la_law 240 = .ok (.iload 6, 2) := by decide +kernel
theorem d_la_law_242 : decode b_la_law 242 = .ok (.i2l, 1) := by decide +kernel
theorem d_la_law_243 : decode b_la_law 243 = .ok (.lcmp, 1) := by decide +kernel
theorem d_la_law_244 : decode b_la_law 244 = .ok (.ifCond .eq 5, 3) := by decide +kernel
theorem d_la_law_247 : decode b_la_law 247 = .ok (.iconst 0, 1) := by decide +kernel
theorem d_la_law_248 : decode b_la_law 248 = .ok (.ireturn, 1) := by decide +kernel
theorem d_la_law_249 : decode b_la_law 249 = .ok (.goto 539, 3) := by decide +kernel
theorem d_la_law_252 : decode b_la_law 252 = .ok (.aload_n 1, 1) := by decide +kernel
theorem d_la_law_253 : decode b_la_law 253 = .ok (.aload_n 0, 1) := by decide +kernel
theorem d_la_law_254 : decode b_la_law 254 = .ok (.iload 4, 2) := by decide +kernel
theorem d_la_law_256 : decode b_la_law 256 = .ok (.iconst 1, 1) := by decide +kernel
theorem d_la_law_257 : decode b_la_law 257 = .ok (.iadd, 1) := by decide +kernel
theorem d_la_law_258 : decode b_la_law 258 = .ok (.iaload, 1) := by decide +kernel
theorem d_la_law_259 : decode b_la_law 259 = .ok (.aload_n 0, 1) := by decide +kernel
theorem d_la_law_260 : decode b_la_law 260 = .ok (.iload 4, 2) := by decide +kernel
theorem d_la_law_262 : decode b_la_law 262 = .ok (.iconst 2, 1) := by decide +kernel
theorem d_la_law_263 : decode b_la_law 263 = .ok (.iadd, 1) := by decide +kernel
theorem d_la_law_264 : decode b_la_law 264 = .ok (.iaload, 1) := by decide +kernel
theorem d_la_law_265 : decode b_la_law 265 = .ok (.aload_n 0, 1) := by decide +kernel
theorem d_la_law_266 : decode b_la_law 266 = .ok (.iload 4, 2) := by decide +kernel
theorem d_la_law_268 : decode b_la_law 268 = .ok (.iconst 3, 1) := by decide +kernel
theorem d_la_law_269 : decode b_la_law 269 = .ok (.iadd, 1) := by decide +kernel
theorem d_la_law_270 : decode b_la_law 270 = .ok (.iaload, 1) := by decide +kernel
theorem d_la_law_271 : decode b_la_law 271 = .ok (.aload_n 0, 1) := by decide +kernel
theorem d_la_law_272 : decode b_la_law 272 = .ok (.iload 4, 2) := by decide +kernel
theorem d_la_law_274 : decode b_la_law 274 = .ok (.iconst 4, 1) := by decide +kernel
theorem d_la_law_275 : decode b_la_law 275 = .ok (.iadd, 1) := by decide +kernel
theorem d_la_law_276 : decode b_la_law 276 = .ok (.iaload, 1) := by decide +kernel
theorem d_la_law_277 : decode b_la_law 277 = .ok (.invokestatic 71, 3) := by decide +kernel
theorem d_la_law_280 : decode b_la_law 280 = .ok (.istore 5, 2) := by decide +kernel
theorem d_la_law_282 : decode b_la_law 282 = .ok (.aload_n 2, 1) := by decide +kernel
theorem d_la_law_283 : decode b_la_law 283 = .ok (.aload_n 0, 1) := by decide +kernel
theorem d_la_law_284 : decode b_la_law 284 = .ok (.iload 4, 2) := by decide +kernel
theorem d_la_law_286 : decode b_la_law 286 = .ok (.iconst 1, 1) := by decide +kernel
theorem d_la_law_287 : decode b_la_law 287 = .ok (.iadd, 1) := by decide +kernel
theorem d_la_law_288 : decode b_la_law 288 = .ok (.iaload, 1) := by decide +kernel
theorem d_la_law_289 : decode b_la_law 289 = .ok (.aload_n 0, 1) := by decide +kernel
theorem d_la_law_290 : decode b_la_law 290 = .ok (.iload 4, 2) := by decide +kernel
theorem d_la_law_292 : decode b_la_law 292 = .ok (.iconst 2, 1) := by decide +kernel
theorem d_la_law_293 : decode b_la_law 293 = .ok (.iadd, 1) := by decide +kernel
theorem d_la_law_294 : decode b_la_law 294 = .ok (.iaload, 1) := by decide +kernel
theorem d_la_law_295 : decode b_la_law 295 = .ok (.aload_n 0, 1) := by decide +kernel
theorem d_la_law_296 : decode b_la_law 296 = .ok (.iload 4, 2) := by decide +kernel
theorem d_la_law_298 : decode b_la_law 298 = .ok (.iconst 3, 1) := by decide +kernel
theorem d_la_law_299 : decode b_la_law 299 = .ok (.iadd, 1) := by decide +kernel
theorem d_la_law_300 : decode b_la_law 300 = .ok (.iaload, 1) := by decide +kernel
theorem d_la_law_301 : decode b_la_law 301 = .ok (.aload_n 0, 1) := by decide +kernel
theorem d_la_law_302 : decode b_la_law 302 = .ok (.iload 4, 2) := by decide +kernel
theorem d_la_law_304 : decode b_la_law 304 = .ok (.iconst 4, 1) := by decide +kernel
theorem d_la_law_305 : decode b_la_law 305 = .ok (.iadd, 1) := by decide +kernel
theorem d_la_law_306 : decode b_la_law 306 = .ok (.iaload, 1) := by decide +kernel
theorem d_la_law_307 : decode b_la_law 307 = .ok (.invokevirtual 73, 3) := by decide +kernel
theorem d_la_law_310 : decode b_la_law 310 = .ok (.aload_n 2, 1) := by decide +kernel
theorem d_la_law_311 : decode b_la_law 311 = .ok (.invokevirtual 64, 3) := by decide +kernel
theorem d_la_law_314 : decode b_la_law 314 = .ok (.iload 5, 2) := by decide +kernel
theorem d_la_law_316 : decode b_la_law 316 = .ok (.if_icmp .eq 5, 3) := by decide +kernel
theorem d_la_law_319 : decode b_la_law 319 = .ok (.iconst 0, 1) := by decide +kernel
theorem d_la_law_320 : decode b_la_law 320 = .ok (.ireturn, 1) := by decide +kernel
theorem d_la_law_321 : decode b_la_law 321 = .ok (.goto 467, 3) := by decide +kernel
theorem d_la_law_324 : decode b_la_law 324 = .ok (.aload_n 1, 1) := by decide +kernel
theorem d_la_law_325 : decode b_la_law 325 = .ok (.aload_n 0, 1) := by decide +kernel
theorem d_la_law_326 : decode b_la_law 326 = .ok (.iload 4, 2) := by decide +kernel
theorem d_la_law_328 : decode b_la_law 328 = .ok (.iconst 1, 1) := by decide +kernel
theorem d_la_law_329 : decode b_la_law 329 = .ok (.iadd, 1) := by decide +kernel
theorem d_la_law_330 : decode b_la_law 330 = .ok (.iaload, 1) := by decide +kernel
theorem d_la_law_331 : decode b_la_law 331 = .ok (.aload_n 0, 1) := by decide +kernel
theorem d_la_law_332 : decode b_la_law 332 = .ok (.iload 4, 2) := by decide +kernel
theorem d_la_law_334 : decode b_la_law 334 = .ok (.iconst 2, 1) := by decide +kernel
theorem d_la_law_335 : decode b_la_law 335 = .ok (.iadd, 1) := by decide +kernel
theorem d_la_law_336 : decode b_la_law 336 = .ok (.iaload, 1) := by decide +kernel
theorem d_la_law_337 : decode b_la_law 337 = .ok (.invokestatic 74, 3) := by decide +kernel
theorem d_la_law_340 : decode b_la_law 340 = .ok (.istore 5, 2) := by decide +kernel
theorem d_la_law_342 : decode b_la_law 342 = .ok (.aload_n 2, 1) := by decide +kernel
theorem d_la_law_343 : decode b_la_law 343 = .ok (.aload_n 0, 1) := by decide +kernel
theorem d_la_law_344 : decode b_la_law 344 = .ok (.iload 4, 2) := by decide +kernel
theorem d_la_law_346 : decode b_la_law 346 = .ok (.iconst 1, 1) := by decide +kernel
theorem d_la_law_347 : decode b_la_law 347 = .ok (.iadd, 1) := by decide +kernel
theorem d_la_law_348 : decode b_la_law 348 = .ok (.iaload, 1) := by decide +kernel
theorem d_la_law_349 : decode b_la_law 349 = .ok (.aload_n 0, 1) := by decide +kernel
theorem d_la_law_350 : decode b_la_law 350 = .ok (.iload 4, 2) := by decide +kernel
theorem d_la_law_352 : decode b_la_law 352 = .ok (.iconst 2, 1) := by decide +kernel
theorem d_la_law_353 : decode b_la_law 353 = .ok (.iadd, 1) := by decide +kernel
theorem d_la_law_354 : decode b_la_law 354 = .ok (.iaload, 1) := by decide +kernel
theorem d_la_law_355 : decode b_la_law 355 = .ok (.invokevirtual 77, 3) := by decide +kernel
theorem d_la_law_358 : decode b_la_law 358 = .ok (.aload_n 2, 1) := by decide +kernel
theorem d_la_law_359 : decode b_la_law 359 = .ok (.invokevirtual 64, 3) := by decide +kernel
theorem d_la_law_362 : decode b_la_law 362 = .ok (.iload 5, 2) := by decide +kernel
theorem d_la_law_364 : decode b_la_law 364 = .ok (.if_icmp .eq 5, 3) := by decide +kernel
theorem d_la_law_367 : decode b_la_law 367 = .ok (.iconst 0, 1) := by decide +kernel
theorem d_la_law_368 : decode b_la_law 368 = .ok (.ireturn, 1) := by decide +kernel
theorem d_la_law_369 : decode b_la_law 369 = .ok (.goto 419, 3) := by decide +kernel
theorem d_la_law_372 : decode b_la_law 372 = .ok (.aload_n 1, 1) := by decide +kernel
theorem d_la_law_373 : decode b_la_law 373 = .ok (.aload_n 0, 1) := by decide +kernel
theorem d_la_law_374 : decode b_la_law 374 = .ok (.iload 4, 2) := by decide +kernel
theorem d_la_law_376 : decode b_la_law 376 = .ok (.iconst 1, 1) := by decide +kernel
theorem d_la_law_377 : decode b_la_law 377 = .ok (.iadd, 1) := by decide +kernel
theorem d_la_law_378 : decode b_la_law 378 = .ok (.iaload, 1) := by decide +kernel
theorem d_la_law_379 : decode b_la_law 379 = .ok (.aload_n 0, 1) := by decide +kernel
theorem d_la_law_380 : decode b_la_law 380 = .ok (.iload 4, 2) := by decide +kernel
theorem d_la_law_382 : decode b_la_law 382 = .ok (.iconst 2, 1) := by decide +kernel
theorem d_la_law_383 : decode b_la_law 383 = .ok (.iadd, 1) := by decide +kernel
theorem d_la_law_384 : decode b_la_law 384 = .ok (.iaload, 1) := by decide +kernel
theorem d_la_law_385 : decode b_la_law 385 = .ok (.aload_n 0, 1) := by decide +kernel
theorem d_la_law_386 : decode b_la_law 386 = .ok (.iload 4, 2) := by decide +kernel
theorem d_la_law_388 : decode b_la_law 388 = .ok (.iconst 3, 1) := by decide +kernel
theorem d_la_law_389 : decode b_la_law 389 = .ok (.iadd, 1) := by decide +kernel
theorem d_la_law_390 : decode b_la_law 390 = .ok (.iaload, 1) := by decide +kernel
theorem d_la_law_391 : decode b_la_law 391 = .ok (.aload_n 0, 1) := by decide +kernel
theorem d_la_law_392 : decode b_la_law 392 = .ok (.iload 4, 2) := by decide +kernel
theorem d_la_law_394 : decode b_la_law 394 = .ok (.iconst 4, 1) := by decide +kernel
theorem d_la_law_395 : decode b_la_law 395 = .ok (.iadd, 1) := by decide +kernel
theorem d_la_law_396 : decode b_la_law 396 = .ok (.iaload, 1) := by decide +kernel
theorem d_la_law_397 : decode b_la_law 397 = .ok (.aload_n 0, 1) := by decide +kernel
theorem d_la_law_398 : decode b_la_law 398 = .ok (.iload 4, 2) := by decide +kernel
theorem d_la_law_400 : decode b_la_law 400 = .ok (.iconst 5, 1) := by decide +kernel
theorem d_la_law_401 : decode b_la_law 401 = .ok (.iadd, 1) := by decide +kernel
theorem d_la_law_402 : decode b_la_law 402 = .ok (.iaload, 1) := by decide +kernel
theorem d_la_law_403 : decode b_la_law 403 = .ok (.aload_n 0, 1) := by decide +kernel
theorem d_la_law_404 : decode b_la_law 404 = .ok (.iload 4, 2) := by decide +kernel
theorem d_la_law_406 : decode b_la_law 406 = .ok (.bipush 6, 2) := by decide +kernel
theorem d_la_law_408 : decode b_la_law 408 = .ok (.iadd, 1) := by decide +kernel
theorem d_la_law_409 : decode b_la_law 409 = .ok (.iaload, 1) := by decide +kernel
theorem d_la_law_410 : decode b_la_law 410 = .ok (.aload_n 3, 1) := by decide +kernel
theorem d_la_law_411 : decode b_la_law 411 = .ok (.invokestatic 78, 3) := by decide +kernel
theorem d_la_law_414 : decode b_la_law 414 = .ok (.istore 5, 2) := by decide +kernel
theorem d_la_law_416 : decode b_la_law 416 = .ok (.aload_n 2, 1) := by decide +kernel
theorem d_la_law_417 : decode b_la_law 417 = .ok (.aload_n 0, 1) := by decide +kernel
theorem d_la_law_418 : decode b_la_law 418 = .ok (.iload 4, 2) := by decide +kernel
theorem d_la_law_420 : decode b_la_law 420 = .ok (.iconst 1, 1) := by decide +kernel
theorem d_la_law_421 : decode b_la_law 421 = .ok (.iadd, 1) := by decide +kernel
theorem d_la_law_422 : decode b_la_law 422 = .ok (.iaload, 1) := by decide +kernel
theorem d_la_law_423 : decode b_la_law 423 = .ok (.aload_n 0, 1) := by decide +kernel
theorem d_la_law_424 : decode b_la_law 424 = .ok (.iload 4, 2) := by decide +kernel
theorem d_la_law_426 : decode b_la_law 426 = .ok (.iconst 2, 1) := by decide +kernel
theorem d_la_law_427 : decode b_la_law 427 = .ok (.iadd, 1) := by decide +kernel
theorem d_la_law_428 : decode b_la_law 428 = .ok (.iaload, 1) := by decide +kernel
theorem d_la_law_429 : decode b_la_law 429 = .ok (.aload_n 0, 1) := by decide +kernel
theorem d_la_law_430 : decode b_la_law 430 = .ok (.iload 4, 2) := by decide +kernel
theorem d_la_law_432 : decode b_la_law 432 = .ok (.iconst 3, 1) := by decide +kernel
theorem d_la_law_433 : decode b_la_law 433 = .ok (.iadd, 1) := by decide +kernel
theorem d_la_law_434 : decode b_la_law 434 = .ok (.iaload, 1) := by decide +kernel
theorem d_la_law_435 : decode b_la_law 435 = .ok (.aload_n 0, 1) := by decide +kernel
theorem d_la_law_436 : decode b_la_law 436 = .ok (.iload 4, 2) := by decide +kernel
theorem d_la_law_438 : decode b_la_law 438 = .ok (.iconst 4, 1) := by decide +kernel
theorem d_la_law_439 : decode b_la_law 439 = .ok (.iadd, 1) := by decide +kernel
theorem d_la_law_440 : decode b_la_law 440 = .ok (.iaload, 1) := by decide +kernel
theorem d_la_law_441 : decode b_la_law 441 = .ok (.aload_n 0, 1) := by decide +kernel
theorem d_la_law_442 : decode b_la_law 442 = .ok (.iload 4, 2) := by decide +kernel
theorem d_la_law_444 : decode b_la_law 444 = .ok (.iconst 5, 1) := by decide +kernel
theorem d_la_law_445 : decode b_la_law 445 = .ok (.iadd, 1) := by decide +kernel
theorem d_la_law_446 : decode b_la_law 446 = .ok (.iaload, 1) := by decide +kernel
theorem d_la_law_447 : decode b_la_law 447 = .ok (.aload_n 0, 1) := by decide +kernel
theorem d_la_law_448 : decode b_la_law 448 = .ok (.iload 4, 2) := by decide +kernel
theorem d_la_law_450 : decode b_la_law 450 = .ok (.bipush 6, 2) := by decide +kernel
theorem d_la_law_452 : decode b_la_law 452 = .ok (.iadd, 1) := by decide +kernel
theorem d_la_law_453 : decode b_la_law 453 = .ok (.iaload, 1) := by decide +kernel
theorem d_la_law_454 : decode b_la_law 454 = .ok (.invokevirtual 81, 3) := by decide +kernel
theorem d_la_law_457 : decode b_la_law 457 = .ok (.istore 6, 2) := by decide +kernel
theorem d_la_law_459 : decode b_la_law 459 = .ok (.aload_n 2, 1) := by decide +kernel
theorem d_la_law_460 : decode b_la_law 460 = .ok (.invokevirtual 64, 3) := by decide +kernel
theorem d_la_law_463 : decode b_la_law 463 = .ok (.iload 5, 2) := by decide +kernel
theorem d_la_law_465 : decode b_la_law 465 = .ok (.if_icmp .eq 5, 3) := by decide +kernel
theorem d_la_law_468 : decode b_la_law 468 = .ok (.iconst 0, 1) := by decide +kernel
theorem d_la_law_469 : decode b_la_law 469 = .ok (.ireturn, 1) := by decide +kernel
theorem d_la_law_470 : decode b_la_law 470 = .ok (.iload 5, 2) := by decide +kernel
theorem d_la_law_472 : decode b_la_law 472 = .ok (.ifCond .ne 15, 3) := by decide +kernel
theorem d_la_law_475 : decode b_la_law 475 = .ok (.aload_n 3, 1) := by decide +kernel
theorem d_la_law_476 : decode b_la_law 476 = .ok (.iconst 0, 1) := by decide +kernel
theorem d_la_law_477 : decode b_la_law 477 = .ok (.laload, 1) := by decide +kernel
theorem d_la_law_478 : decode b_la_law 478 = .ok (.iload 6, 2) := by decide +kernel
theorem d_la_law_480 : decode b_la_law 480 = .ok (.i2l, 1) := by decide +kernel
theorem d_la_law_481 : decode b_la_law 481 = .ok (.lcmp, 1) := by decide +kernel
theorem d_la_law_482 : decode b_la_law 482 = .ok (.ifCond .eq 5, 3) := by decide +kernel
theorem d_la_law_485 : decode b_la_law 485 = .ok (.iconst 0, 1) := by decide +kernel
theorem d_la_law_486 : decode b_la_law 486 = .ok (.ireturn, 1) := by decide +kernel
theorem d_la_law_487 : decode b_la_law 487 = .ok (.goto 301, 3) := by decide +kernel
theorem d_la_law_490 : decode b_la_law 490 = .ok (.aload_n 1, 1) := by decide +kernel
theorem d_la_law_491 : decode b_la_law 491 = .ok (.invokevirtual 82, 3) := by decide +kernel
theorem d_la_law_494 : decode b_la_law 494 = .ok (.aload_n 2, 1) := by decide +kernel
theorem d_la_law_495 : decode b_la_law 495 = .ok (.invokevirtual 85, 3) := by decide +kernel
theorem d_la_law_498 : decode b_la_law 498 = .ok (.goto 290, 3) := by decide +kernel
theorem d_la_law_501 : decode b_la_law 501 = .ok (.aload_n 1, 1) := by decide +kernel
theorem d_la_law_502 : decode b_la_law 502 = .ok (.aload_n 3, 1) := by decide +kernel
theorem d_la_law_503 : decode b_la_law 503 = .ok (.invokestatic 86, 3) := by decide +kernel
theorem d_la_law_506 : decode b_la_law 506 = .ok (.istore 5, 2) := by decide +kernel
theorem d_la_law_508 : decode b_la_law 508 = .ok (.aload_n 2, 1) := by decide +kernel
theorem d_la_law_509 : decode b_la_law 509 = .ok (.invokevirtual 89, 3) := by decide +kernel
theorem d_la_law_512 : decode b_la_law 512 = .ok (.istore 6, 2) := by decide +kernel
theorem d_la_law_514 : decode b_la_law 514 = .ok (.aload_n 2, 1) := by decide +kernel
theorem d_la_law_515 : decode b_la_law 515 = .ok (.invokevirtual 64, 3) := by decide +kernel
theorem d_la_law_518 : decode b_la_law 518 = .ok (.iload 5, 2) := by decide +kernel
theorem d_la_law_520 : decode b_la_law 520 = .ok (.if_icmp .eq 5, 3) := by decide +kernel
theorem d_la_law_523 : decode b_la_law 523 = .ok (.iconst 0, 1) := by decide +kernel
theorem d_la_law_524 : decode b_la_law 524 = .ok (.ireturn, 1) := by decide +kernel
theorem d_la_law_525 : decode b_la_law 525 = .ok (.iload 5, 2) := by decide +kernel
theorem d_la_law_527 : decode b_la_law 527 = .ok (.ifCond .ne 15, 3) := by decide +kernel
theorem d_la_law_530 : decode b_la_law 530 = .ok (.aload_n 3, 1) := by decide +kernel
theorem d_la_law_531 : decode b_la_law 531 = .ok (.iconst 0, 1) := by decide +kernel
theorem d_la_law_532 : decode b_la_law 532 = .ok (.laload, 1) := by decide +kernel
theorem d_la_law_533 : decode b_la_law 533 = .ok (.iload 6, 2) := by decide +kernel
theorem d_la_law_535 : decode b_la_law 535 = .ok (.i2l, 1) := by decide +kernel
theorem d_la_law_536 : decode b_la_law 536 = .ok (.lcmp, 1) := by decide +kernel
theorem d_la_law_537 : decode b_la_law 537 = .ok (.ifCond .eq 5, 3) := by decide +kernel
theorem d_la_law_540 : decode b_la_law 540 = .ok (.iconst 0, 1) := by decide +kernel
theorem d_la_law_541 : decode b_la_law 541 = .ok (.ireturn, 1) := by decide +kernel
theorem d_la_law_542 : decode b_la_law 542 = .ok (.goto 246, 3) := by decide +kernel
theorem d_la_law_545 : decode b_la_law 545 = .ok (.aload_n 1, 1) := by decide +kernel
theorem d_la_law_546 : decode b_la_law 546 = .ok (.aload_n 3, 1) := by decide +kernel
theorem d_la_law_547 : decode b_la_law 547 = .ok (.invokestatic 90, 3) := by decide +kernel
theorem d_la_law_550 : decode b_la_law 550 = .ok (.istore 5, 2) := by decide +kernel
theorem d_la_law_552 : decode b_la_law 552 = .ok (.aload_n 2, 1) := by decide +kernel
theorem d_la_law_553 : decode b_la_law 553 = .ok (.invokevirtual 92, 3) := by decide +kernel
theorem d_la_law_556 : decode b_la_law 556 = .ok (.istore 6, 2) := by decide +kernel
theorem d_la_law_558 : decode b_la_law 558 = .ok (.aload_n 2, 1) := by decide +kernel
theorem d_la_law_559 : decode b_la_law 559 = .ok (.invokevirtual 64, 3) := by decide +kernel
theorem d_la_law_562 : decode b_la_law 562 = .ok (.iload 5, 2) := by decide +kernel
theorem d_la_law_564 : decode b_la_law 564 = .ok (.if_icmp .eq 5, 3) := by decide +kernel
theorem d_la_law_567 : decode b_la_law 567 = .ok (.iconst 0, 1) := by decide +kernel
theorem d_la_law_568 : decode b_la_law 568 = .ok (.ireturn, 1) := by decide +kernel
theorem d_la_law_569 : decode b_la_law 569 = .ok (.iload 5, 2) := by decide +kernel
theorem d_la_law_571 : decode b_la_law 571 = .ok (.ifCond .ne 22, 3) := by decide +kernel
theorem d_la_law_574 : decode b_la_law 574 = .ok (.aload_n 3, 1) := by decide +kernel
theorem d_la_law_575 : decode b_la_law 575 = .ok (.iconst 0, 1) := by decide +kernel
theorem d_la_law_576 : decode b_la_law 576 = .ok (.laload, 1) := by decide +kernel
theorem d_la_law_577 : decode b_la_law 577 = .ok (.iload 6, 2) := by decide +kernel
theorem d_la_law_579 : decode b_la_law 579 = .ok (.ifCond .eq 7, 3) := by decide +kernel
theorem d_la_law_582 : decode b_la_law 582 = .ok (.lconst 1, 1) := by decide +kernel
theorem d_la_law_583 : decode b_la_law 583 = .ok (.goto 4, 3) := by decide +kernel
theorem d_la_law_586 : decode b_la_law 586 = .ok (.lconst 0, 1) := by decide +kernel
theorem d_la_law_587 : decode b_la_law 587 = .ok (.lcmp, 1) := by decide +kernel
theorem d_la_law_588 : decode b_la_law 588 = .ok (.ifCond .eq 5, 3) := by decide +kernel
theorem d_la_law_591 : decode b_la_law 591 = .ok (.iconst 0, 1) := by decide +kernel
theorem d_la_law_592 : decode b_la_law 592 = .ok (.ireturn, 1) := by decide +kernel
theorem d_la_law_593 : decode b_la_law 593 = .ok (.goto 195, 3) := by decide +kernel
theorem d_la_law_596 : decode b_la_law 596 = .ok (.aload_n 1, 1) := by decide +kernel
theorem d_la_law_597 : decode b_la_law 597 = .ok (.aload_n 0, 1) := by decide +kernel
theorem d_la_law_598 : decode b_la_law 598 = .ok (.iload 4, 2) := by decide +kernel
theorem d_la_law_600 : decode b_la_law 600 = .ok (.iconst 1, 1) := by decide +kernel
theorem d_la_law_601 : decode b_la_law 601 = .ok (.iadd, 1) := by decide +kernel
theorem d_la_law_602 : decode b_la_law 602 = .ok (.iaload, 1) := by decide +kernel
theorem d_la_law_603 : decode b_la_law 603 = .ok (.aload_n 3, 1) := by decide +kernel
theorem d_la_law_604 : decode b_la_law 604 = .ok (.invokestatic 93, 3) := by decide +kernel
theorem d_la_law_607 : decode b_la_law 607 = .ok (.istore 5, 2) := by decide +kernel
theorem d_la_law_609 : decode b_la_law 609 = .ok (.aload_n 2, 1) := by decide +kernel
theorem d_la_law_610 : decode b_la_law 610 = .ok (.aload_n 0, 1) := by decide +kernel
theorem d_la_law_611 : decode b_la_law 611 = .ok (.iload 4, 2) := by decide +kernel
theorem d_la_law_613 : decode b_la_law 613 = .ok (.iconst 1, 1) := by decide +kernel
theorem d_la_law_614 : decode b_la_law 614 = .ok (.iadd, 1) := by decide +kernel
theorem d_la_law_615 : decode b_la_law 615 = .ok (.iaload, 1) := by decide +kernel
theorem d_la_law_616 : decode b_la_law 616 = .ok (.invokevirtual 96, 3) := by decide +kernel
theorem d_la_law_619 : decode b_la_law 619 = .ok (.istore 6, 2) := by decide +kernel
theorem d_la_law_621 : decode b_la_law 621 = .ok (.aload_n 2, 1) := by decide +kernel
theorem d_la_law_622 : decode b_la_law 622 = .ok (.invokevirtual 64, 3) := by decide +kernel
theorem d_la_law_625 : decode b_la_law 625 = .ok (.iload 5, 2) := by decide +kernel
theorem d_la_law_627 : decode b_la_law 627 = .ok (.if_icmp .eq 5, 3) := by decide +kernel
theorem d_la_law_630 : decode b_la_law 630 = .ok (.iconst 0, 1) := by decide +kernel
theorem d_la_law_631 : decode b_la_law 631 = .ok (.ireturn, 1) := by decide +kernel
theorem d_la_law_632 : decode b_la_law 632 = .ok (.iload 5, 2) := by decide +kernel
theorem d_la_law_634 : decode b_la_law 634 = .ok (.ifCond .ne 15, 3) := by decide +kernel
theorem d_la_law_637 : decode b_la_law 637 = .ok (.aload_n 3, 1) := by decide +kernel
theorem d_la_law_638 : decode b_la_law 638 = .ok (.iconst 0, 1) := by decide +kernel
theorem d_la_law_639 : decode b_la_law 639 = .ok (.laload, 1) := by decide +kernel
theorem d_la_law_640 : decode b_la_law 640 = .ok (.iload 6, 2) := by decide +kernel
theorem d_la_law_642 : decode b_la_law 642 = .ok (.i2l, 1) := by decide +kernel
theorem d_la_law_643 : decode b_la_law 643 = .ok (.lcmp, 1) := by decide +kernel
theorem d_la_law_644 : decode b_la_law 644 = .ok (.ifCond .eq 5, 3) := by decide +kernel
theorem d_la_law_647 : decode b_la_law 647 = .ok (.iconst 0, 1) := by decide +kernel
theorem d_la_law_648 : decode b_la_law 648 = .ok (.ireturn, 1) := by decide +kernel
theorem d_la_law_649 : decode b_la_law 649 = .ok (.goto 139, 3) := by decide +kernel
theorem d_la_law_652 : decode b_la_law 652 = .ok (.aload_n 1, 1) := by decide +kernel
theorem d_la_law_653 : decode b_la_law 653 = .ok (.aload_n 0, 1) := by decide +kernel
theorem d_la_law_654 : decode b_la_law 654 = .ok (.iload 4, 2) := by decide +kernel
theorem d_la_law_656 : decode b_la_law 656 = .ok (.iconst 1, 1) := by decide +kernel
theorem d_la_law_657 : decode b_la_law 657 = .ok (.iadd, 1) := by decide +kernel
theorem d_la_law_658 : decode b_la_law 658 = .ok (.iaload, 1) := by decide +kernel
theorem d_la_law_659 : decode b_la_law 659 = .ok (.aload_n 3, 1) := by decide +kernel
theorem d_la_law_660 : decode b_la_law 660 = .ok (.invokestatic 97, 3) := by decide +kernel
theorem d_la_law_663 : decode b_la_law 663 = .ok (.istore 5, 2) := by decide +kernel
theorem d_la_law_665 : decode b_la_law 665 = .ok (.aload_n 2, 1) := by decide +kernel
theorem d_la_law_666 : decode b_la_law 666 = .ok (.aload_n 0, 1) := by decide +kernel
theorem d_la_law_667 : decode b_la_law 667 = .ok (.iload 4, 2) := by decide +kernel
theorem d_la_law_669 : decode b_la_law 669 = .ok (.iconst 1, 1) := by decide +kernel
theorem d_la_law_670 : decode b_la_law 670 = .ok (.iadd, 1) := by decide +kernel
theorem d_la_law_671 : decode b_la_law 671 = .ok (.iaload, 1) := by decide +kernel
theorem d_la_law_672 : decode b_la_law 672 = .ok (.invokevirtual 99, 3) := by decide +kernel
theorem d_la_law_675 : decode b_la_law 675 = .ok (.istore 6, 2) := by decide +kernel
theorem d_la_law_677 : decode b_la_law 677 = .ok (.aload_n 2, 1) := by decide +kernel
theorem d_la_law_678 : decode b_la_law 678 = .ok (.invokevirtual 64, 3) := by decide +kernel
theorem d_la_law_681 : decode b_la_law 681 = .ok (.iload 5, 2) := by decide +kernel
theorem d_la_law_683 : decode b_la_law 683 = .ok (.if_icmp .eq 5, 3) := by decide +kernel
theorem d_la_law_686 : decode b_la_law 686 = .ok (.iconst 0, 1) := by decide +kernel
theorem d_la_law_687 : decode b_la_law 687 = .ok (.ireturn, 1) := by decide +kernel
theorem d_la_law_688 : decode b_la_law 688 = .ok (.iload 5, 2) := by decide +kernel
theorem d_la_law_690 : decode b_la_law 690 = .ok (.ifCond .ne 15, 3) := by decide +kernel
theorem d_la_law_693 : decode b_la_law 693 = .ok (.aload_n 3, 1) := by decide +kernel
theorem d_la_law_694 : decode b_la_law 694 = .ok (.iconst 0, 1) := by decide +kernel
theorem d_la_law_695 : decode b_la_law 695 = .ok (.laload, 1) := by decide +kernel
theorem d_la_law_696 : decode b_la_law 696 = .ok (.iload 6, 2) := by decide +kernel
theorem d_la_law_698 : decode b_la_law 698 = .ok (.i2l, 1) := by decide +kernel
theorem d_la_law_699 : decode b_la_law 699 = .ok (.lcmp, 1) := by decide +kernel
theorem d_la_law_700 : decode b_la_law 700 = .ok (.ifCond .eq 5, 3) := by decide +kernel
theorem d_la_law_703 : decode b_la_law 703 = .ok (.iconst 0, 1) := by decide +kernel
theorem d_la_law_704 : decode b_la_law 704 = .ok (.ireturn, 1) := by decide +kernel
theorem d_la_law_705 : decode b_la_law 705 = .ok (.goto 83, 3) := by decide +kernel
theorem d_la_law_708 : decode b_la_law 708 = .ok (.aload_n 1, 1) := by decide +kernel
theorem d_la_law_709 : decode b_la_law 709 = .ok (.aload_n 0, 1) := by decide +kernel
theorem d_la_law_710 : decode b_la_law 710 = .ok (.iload 4, 2) := by decide +kernel
theorem d_la_law_712 : decode b_la_law 712 = .ok (.iconst 1, 1) := by decide +kernel
theorem d_la_law_713 : decode b_la_law 713 = .ok (.iadd, 1) := by decide +kernel
theorem d_la_law_714 : decode b_la_law 714 = .ok (.iaload, 1) := by decide +kernel
theorem d_la_law_715 : decode b_la_law 715 = .ok (.aload_n 0, 1) := by decide +kernel
theorem d_la_law_716 : decode b_la_law 716 = .ok (.iload 4, 2) := by decide +kernel
theorem d_la_law_718 : decode b_la_law 718 = .ok (.iconst 2, 1) := by decide +kernel
theorem d_la_law_719 : decode b_la_law 719 = .ok (.iadd, 1) := by decide +kernel
theorem d_la_law_720 : decode b_la_law 720 = .ok (.iaload, 1) := by decide +kernel
theorem d_la_law_721 : decode b_la_law 721 = .ok (.aload_n 0, 1) := by decide +kernel
theorem d_la_law_722 : decode b_la_law 722 = .ok (.iload 4, 2) := by decide +kernel
theorem d_la_law_724 : decode b_la_law 724 = .ok (.iconst 3, 1) := by decide +kernel
theorem d_la_law_725 : decode b_la_law 725 = .ok (.iadd, 1) := by decide +kernel
theorem d_la_law_726 : decode b_la_law 726 = .ok (.iaload, 1) := by decide +kernel
theorem d_la_law_727 : decode b_la_law 727 = .ok (.aload_n 3, 1) := by decide +kernel
theorem d_la_law_728 : decode b_la_law 728 = .ok (.invokestatic 100, 3) := by decide +kernel
theorem d_la_law_731 : decode b_la_law 731 = .ok (.istore 5, 2) := by decide +kernel
theorem d_la_law_733 : decode b_la_law 733 = .ok (.aload_n 2, 1) := by decide +kernel
theorem d_la_law_734 : decode b_la_law 734 = .ok (.aload_n 0, 1) := by decide +kernel
theorem d_la_law_735 : decode b_la_law 735 = .ok (.iload 4, 2) := by decide +kernel
theorem d_la_law_737 : decode b_la_law 737 = .ok (.iconst 1, 1) := by decide +kernel
theorem d_la_law_738 : decode b_la_law 738 = .ok (.iadd, 1) := by decide +kernel
theorem d_la_law_739 : decode b_la_law 739 = .ok (.iaload, 1) := by decide +kernel
theorem d_la_law_740 : decode b_la_law 740 = .ok (.aload_n 0, 1) := by decide +kernel
theorem d_la_law_741 : decode b_la_law 741 = .ok (.iload 4, 2) := by decide +kernel
theorem d_la_law_743 : decode b_la_law 743 = .ok (.iconst 2, 1) := by decide +kernel
theorem d_la_law_744 : decode b_la_law 744 = .ok (.iadd, 1) := by decide +kernel
theorem d_la_law_745 : decode b_la_law 745 = .ok (.iaload, 1) := by decide +kernel
theorem d_la_law_746 : decode b_la_law 746 = .ok (.aload_n 0, 1) := by decide +kernel
theorem d_la_law_747 : decode b_la_law 747 = .ok (.iload 4, 2) := by decide +kernel
theorem d_la_law_749 : decode b_la_law 749 = .ok (.iconst 3, 1) := by decide +kernel
theorem d_la_law_750 : decode b_la_law 750 = .ok (.iadd, 1) := by decide +kernel
theorem d_la_law_751 : decode b_la_law 751 = .ok (.iaload, 1) := by decide +kernel
theorem d_la_law_752 : decode b_la_law 752 = .ok (.invokevirtual 102, 3) := by decide +kernel
theorem d_la_law_755 : decode b_la_law 755 = .ok (.istore 6, 2) := by decide +kernel
theorem d_la_law_757 : decode b_la_law 757 = .ok (.aload_n 2, 1) := by decide +kernel
theorem d_la_law_758 : decode b_la_law 758 = .ok (.invokevirtual 64, 3) := by decide +kernel
theorem d_la_law_761 : decode b_la_law 761 = .ok (.iload 5, 2) := by decide +kernel
theorem d_la_law_763 : decode b_la_law 763 = .ok (.if_icmp .eq 5, 3) := by decide +kernel
theorem d_la_law_766 : decode b_la_law 766 = .ok (.iconst 0, 1) := by decide +kernel
theorem d_la_law_767 : decode b_la_law 767 = .ok (.ireturn, 1) := by decide +kernel
theorem d_la_law_768 : decode b_la_law 768 = .ok (.iload 5, 2) := by decide +kernel
theorem d_la_law_770 : decode b_la_law 770 = .ok (.ifCond .ne 15, 3) := by decide +kernel
theorem d_la_law_773 : decode b_la_law 773 = .ok (.aload_n 3, 1) := by decide +kernel
theorem d_la_law_774 : decode b_la_law 774 = .ok (.iconst 0, 1) := by decide +kernel
theorem d_la_law_775 : decode b_la_law 775 = .ok (.laload, 1) := by decide +kernel
theorem d_la_law_776 : decode b_la_law 776 = .ok (.iload 6, 2) := by decide +kernel
theorem d_la_law_778 : decode b_la_law 778 = .ok (.i2l, 1) := by decide +kernel
theorem d_la_law_779 : decode b_la_law 779 = .ok (.lcmp, 1) := by decide +kernel
theorem d_la_law_780 : decode b_la_law 780 = .ok (.ifCond .eq 5, 3) := by decide +kernel
theorem d_la_law_783 : decode b_la_law 783 = .ok (.iconst 0, 1) := by decide +kernel
theorem d_la_law_784 : decode b_la_law 784 = .ok (.ireturn, 1) := by decide +kernel
theorem d_la_law_785 : decode b_la_law 785 = .ok (.goto 3, 3) := by decide +kernel
theorem d_la_law_788 : decode b_la_law 788 = .ok (.iinc 4 7, 3) := by decide +kernel
theorem d_la_law_791 : decode b_la_law 791 = .ok (.goto (-768), 3) := by decide +kernel
theorem d_la_law_794 : decode b_la_law 794 = .ok (.iconst 1, 1) := by decide +kernel
theorem d_la_law_795 : decode b_la_law 795 = .ok (.ireturn, 1) := by decide +kernel
