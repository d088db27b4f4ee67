theorem d_10_66_78 : decode prog_10_method_66_code 78 = .ok (.invokevirtual 421, 3) := by decide +kernel
theorem d_10_66_81 : decode prog_10_method_66_code 81 = .ok (.aload_n 0, 1) := by decide +kernel
theorem d_10_66_82 : decode prog_10_method_66_code 82 = .ok (.getfield 81, 3) := by decide +kernel
theorem d_10_66_85 : decode prog_10_method_66_code 85 = .ok (.iload_n 3, 1) := by decide +kernel
theorem d_10_66_86 : decode prog_10_method_66_code 86 = .ok (.iaload, 1) := by decide +kernel
theorem d_10_66_87 : decode prog_10_method_66_code 87 = .ok (.ifCond .ge 6, 3) := by decide +kernel
theorem d_10_66_90 : decode prog_10_method_66_code 90 = .ok (.goto 25, 3) := by decide +kernel
theorem d_10_66_93 : decode prog_10_method_66_code 93 = .ok (.aload_n 0, 1) := by decide +kernel
theorem d_10_66_94 : decode prog_10_method_66_code 94 = .ok (.aload_n 0, 1) := by decide +kernel
theorem d_10_66_95 : decode prog_10_method_66_code 95 = .ok (.getfield 81, 3) := by decide +kernel
theorem d_10_66_98 : decode prog_10_method_66_code 98 = .ok (.iload_n 3, 1) := by decide +kernel
theorem d_10_66_99 : decode prog_10_method_66_code 99 = .ok (.iaload, 1) := by decide +kernel
theorem d_10_66_100 : decode prog_10_method_66_code 100 = .ok (.iconst 1, 1) := by decide +kernel
theorem d_10_66_101 : decode prog_10_method_66_code 101 = .ok (.invokevirtual 421, 3) := by decide +kernel
theorem d_10_66_104 : decode prog_10_method_66_code 104 = .ok (.aload_n 0, 1) := by decide +kernel
theorem d_10_66_105 : decode prog_10_method_66_code 105 = .ok (.aload_n 0, 1) := by decide +kernel
theorem d_10_66_106 : decode prog_10_method_66_code 106 = .ok (.getfield 84, 3) := by decide +kernel
theorem d_10_66_109 : decode prog_10_method_66_code 109 = .ok (.iload_n 3, 1) := by decide +kernel
theorem d_10_66_110 : decode prog_10_method_66_code 110 = .ok (.iaload, 1) := by decide +kernel
theorem d_10_66_111 : decode prog_10_method_66_code 111 = .ok (.iconst 1, 1) := by decide +kernel
theorem d_10_66_112 : decode prog_10_method_66_code 112 = .ok (.invokevirtual 421, 3) := by decide +kernel
theorem d_10_66_115 : decode prog_10_method_66_code 115 = .ok (.aload_n 0, 1) := by decide +kernel
theorem d_10_66_116 : decode prog_10_method_66_code 116 = .ok (.getfield 87, 3) := by decide +kernel
theorem d_10_66_119 : decode prog_10_method_66_code 119 = .ok (.iload_n 3, 1) := by decide +kernel
theorem d_10_66_120 : decode prog_10_method_66_code 120 = .ok (.iaload, 1) := by decide +kernel
theorem d_10_66_121 : decode prog_10_method_66_code 121 = .ok (.istore_n 3, 1) := by decide +kernel
theorem d_10_66_122 : decode prog_10_method_66_code 122 = .ok (.goto (-67), 3) := by decide +kernel
theorem d_10_66_125 : decode prog_10_method_66_code 125 = .ok (.aload_n 0, 1) := by decide +kernel
theorem d_10_66_126 : decode prog_10_method_66_code 126 = .ok (.getfield 78, 3) := by decide +kernel
theorem d_10_66_129 : decode prog_10_method_66_code 129 = .ok (.iload_n 1, 1) := by decide +kernel
theorem d_10_66_130 : decode prog_10_method_66_code 130 = .ok (.iaload, 1) := by decide +kernel
theorem d_10_66_131 : decode prog_10_method_66_code 131 = .ok (.istore_n 3, 1) := by decide +kernel
theorem d_10_66_132 : decode prog_10_method_66_code 132 = .ok (.iload_n 3, 1) := by decide +kernel
theorem d_10_66_133 : decode prog_10_method_66_code 133 = .ok (.ifCond .lt 29, 3) := by decide +kernel
theorem d_10_66_136 : decode prog_10_method_66_code 136 = .ok (.aload_n 0, 1) := by decide +kernel
theorem d_10_66_137 : decode prog_10_method_66_code 137 = .ok (.getfield 66, 3) := by decide +kernel
theorem d_10_66_140 : decode prog_10_method_66_code 140 = .ok (.iload_n 3, 1) := by decide +kernel
theorem d_10_66_141 : decode prog_10_method_66_code 141 = .ok (.iaload, 1) := by decide +kernel
theorem d_10_66_142 : decode prog_10_method_66_code 142 = .ok (.bipush 28, 2) := by decide +kernel
theorem d_10_66_144 : decode prog_10_method_66_code 144 = .ok (.if_icmp .eq 8, 3) := by decide +kernel
theorem d_10_66_147 : decode prog_10_method_66_code 147 = .ok (.aload_n 0, 1) := by decide +kernel
theorem d_10_66_148 : decode prog_10_method_66_code 148 = .ok (.iload_n 3, 1) := by decide +kernel
theorem d_10_66_149 : decode prog_10_method_66_code 149 = .ok (.invokevirtual 454, 3) := by decide +kernel
theorem d_10_66_152 : decode prog_10_method_66_code 152 = .ok (.aload_n 0, 1) := by decide +kernel
theorem d_10_66_153 : decode prog_10_method_66_code 153 = .ok (.getfield 87, 3) := by decide +kernel
theorem d_10_66_156 : decode prog_10_method_66_code 156 = .ok (.iload_n 3, 1) := by decide +kernel
theorem d_10_66_157 : decode prog_10_method_66_code 157 = .ok (.iaload, 1) := by decide +kernel
theorem d_10_66_158 : decode prog_10_method_66_code 158 = .ok (.istore_n 3, 1) := by decide +kernel
theorem d_10_66_159 : decode prog_10_method_66_code 159 = .ok (.goto (-27), 3) := by decide +kernel
theorem d_10_66_162 : decode prog_10_method_66_code 162 = .ok (.return_, 1) := by decide +kernel
theorem d_10_66_163 : decode prog_10_method_66_code 163 = .ok (.iconst 0, 1) := by decide +kernel
theorem d_10_66_164 : decode prog_10_method_66_code 164 = .ok (.istore_n 3, 1) := by decide +kernel
theorem d_10_66_165 : decode prog_10_method_66_code 165 = .ok (.aload_n 0, 1) := by decide +kernel
theorem d_10_66_166 : decode prog_10_method_66_code 166 = .ok (.getfield 75, 3) := by decide +kernel
theorem d_10_66_169 : decode prog_10_method_66_code 169 = .ok (.iload_n 1, 1) := by decide +kernel
theorem d_10_66_170 : decode prog_10_method_66_code 170 = .ok (.iaload, 1) := by decide +kernel
theorem d_10_66_171 : decode prog_10_method_66_code 171 = .ok (.istore 4, 2) := by decide +kernel
theorem d_10_66_173 : decode prog_10_method_66_code 173 = .ok (.iload 4, 2) := by decide +kernel
theorem d_10_66_175 : decode prog_10_method_66_code 175 = .ok (.ifCond .lt 66, 3) := by decide +kernel
theorem d_10_66_178 : decode prog_10_method_66_code 178 = .ok (.aload_n 0, 1) := by decide +kernel
theorem d_10_66_179 : decode prog_10_method_66_code 179 = .ok (.iload 4, 2) := by decide +kernel
theorem d_10_66_181 : decode prog_10_method_66_code 181 = .ok (.invokevirtual 457, 3) := by decide +kernel
theorem d_10_66_184 : decode prog_10_method_66_code 184 = .ok (.istore 5, 2) := by decide +kernel
theorem d_10_66_186 : decode prog_10_method_66_code 186 = .ok (.iload 4, 2) := by decide +kernel
theorem d_10_66_188 : decode prog_10_method_66_code 188 = .ok (.aload_n 0, 1) := by decide +kernel
theorem d_10_66_189 : decode prog_10_method_66_code 189 = .ok (.getfield 75, 3) := by decide +kernel
theorem d_10_66_192 : decode prog_10_method_66_code 192 = .ok (.iload_n 1, 1) := by decide +kernel
theorem d_10_66_193 : decode prog_10_method_66_code 193 = .ok (.iaload, 1) := by decide +kernel
theorem d_10_66_194 : decode prog_10_method_66_code 194 = .ok (.if_icmp .ne 9, 3) := by decide +kernel
theorem d_10_66_197 : decode prog_10_method_66_code 197 = .ok (.iload 5, 2) := by decide +kernel
theorem d_10_66_199 : decode prog_10_method_66_code 199 = .ok (.istore_n 3, 1) := by decide +kernel
theorem d_10_66_200 : decode prog_10_method_66_code 200 = .ok (.goto 29, 3) := by decide +kernel
theorem d_10_66_203 : decode prog_10_method_66_code 203 = .ok (.iload_n 3, 1) := by decide +kernel
theorem d_10_66_204 : decode prog_10_method_66_code 204 = .ok (.ifCond .le 25, 3) := by decide +kernel
theorem d_10_66_207 : decode prog_10_method_66_code 207 = .ok (.iload 5, 2) := by decide +kernel
theorem d_10_66_209 : decode prog_10_method_66_code 209 = .ok (.ifCond .le 20, 3) := by decide +kernel
theorem d_10_66_212 : decode prog_10_method_66_code 212 = .ok (.iload 5, 2) := by decide +kernel
theorem d_10_66_214 : decode prog_10_method_66_code 214 = .ok (.iload_n 3, 1) := by decide +kernel
theorem d_10_66_215 : decode prog_10_method_66_code 215 = .ok (.if_icmp .eq 14, 3) := by decide +kernel
theorem d_10_66_218 : decode prog_10_method_66_code 218 = .ok (.aload_n 0, 1) := by decide +kernel
theorem d_10_66_219 : decode prog_10_method_66_code 219 = .ok (.aload_n 0, 1) := by decide +kernel
theorem d_10_66_220 : decode prog_10_method_66_code 220 = .ok (.getfield 72, 3) := by decide +kernel
theorem d_10_66_223 : decode prog_10_method_66_code 223 = .ok (.iload 4, 2) := by decide +kernel
theorem d_10_66_225 : decode prog_10_method_66_code 225 = .ok (.iaload, 1) := by decide +kernel
theorem d_10_66_226 : decode prog_10_method_66_code 226 = .ok (.invokevirtual 132, 3) := by decide +kernel
theorem d_10_66_229 : decode prog_10_method_66_code 229 = .ok (.aload_n 0, 1) := by decide +kernel
theorem d_10_66_230 : decode prog_10_method_66_code 230 = .ok (.getfield 87, 3) := by decide +kernel
theorem d_10_66_233 : decode prog_10_method_66_code 233 = .ok (.iload 4, 2) := by decide +kernel
theorem d_10_66_235 : decode prog_10_method_66_code 235 = .ok (.iaload, 1) := by decide +kernel
theorem d_10_66_236 : decode prog_10_method_66_code 236 = .ok (.istore 4, 2) := by decide +kernel
theorem d_10_66_238 : decode prog_10_method_66_code 238 = .ok (.goto (-65), 3) := by decide +kernel
theorem d_10_66_241 : decode prog_10_method_66_code 241 = .ok (.iload_n 3, 1) := by decide +kernel
theorem d_10_66_242 : decode prog_10_method_66_code 242 = .ok (.ifCond .le 17, 3) := by decide +kernel
theorem d_10_66_245 : decode prog_10_method_66_code 245 = .ok (.aload_n 0, 1) := by decide +kernel
theorem d_10_66_246 : decode prog_10_method_66_code 246 = .ok (.aload_n 0, 1) := by decide +kernel
theorem d_10_66_247 : decode prog_10_method_66_code 247 = .ok (.getfield 78, 3) := by decide +kernel
theorem d_10_66_250 : decode prog_10_method_66_code 250 = .ok (.iload_n 1, 1) := by decide +kernel
theorem d_10_66_251 : decode prog_10_method_66_code 251 = .ok (.iaload, 1) := by decide +kernel
theorem d_10_66_252 : decode prog_10_method_66_code 252 = .ok (.iload_n 3, 1) := by decide +kernel
theorem d_10_66_253 : decode prog_10_method_66_code 253 = .ok (.invokevirtual 421, 3) := by decide +kernel
theorem d_10_66_256 : decode prog_10_method_66_code 256 = .ok (.goto 14, 3) := by decide +kernel
theorem d_10_66_259 : decode prog_10_method_66_code 259 = .ok (.aload_n 0, 1) := by decide +kernel
theorem d_10_66_260 : decode prog_10_method_66_code 260 = .ok (.aload_n 0, 1) := by decide +kernel
theorem d_10_66_261 : decode prog_10_method_66_code 261 = .ok (.getfield 78, 3) := by decide +kernel
theorem d_10_66_264 : decode prog_10_method_66_code 264 = .ok (.iload_n 1, 1) := by decide +kernel
theorem d_10_66_265 : decode prog_10_method_66_code 265 = .ok (.iaload, 1) := by decide +kernel
theorem d_10_66_266 : decode prog_10_method_66_code 266 = .ok (.invokevirtual 417, 3) := by decide +kernel
theorem d_10_66_269 : decode prog_10_method_66_code 269 = .ok (.pop, 1) := by decide +kernel
theorem d_10_66_270 : decode prog_10_method_66_code 270 = .ok (.return_, 1) := by decide +kernel
theorem d_10_66_271 : decode prog_10_method_66_code 271 = .ok (.aload_n 0, 1) := by decide +kernel
theorem d_10_66_272 : decode prog_10_method_66_code 272 = .ok (.aload_n 0, 1) := by decide +kernel
theorem d_10_66_273 : decode prog_10_method_66_code 273 = .ok (.getfield 90, 3) := by decide +kernel
theorem d_10_66_276 : decode prog_10_method_66_code 276 = .ok (.iload_n 1, 1) := by decide +kernel
theorem d_10_66_277 : decode prog_10_method_66_code 277 = .ok (.iaload, 1) := by decide +kernel
theorem d_10_66_278 : decode prog_10_method_66_code 278 = .ok (.aload_n 0, 1) := by decide +kernel
theorem d_10_66_279 : decode prog_10_method_66_code 279 = .ok (.getfield 72, 3) := by decide +kernel
theorem d_10_66_282 : decode prog_10_method_66_code 282 = .ok (.iload_n 1, 1) := by decide +kernel
theorem d_10_66_283 : decode prog_10_method_66_code 283 = .ok (.iaload, 1) := by decide +kernel
theorem d_10_66_284 : decode prog_10_method_66_code 284 = .ok (.invokevirtual 434, 3) := by decide +kernel
theorem d_10_66_287 : decode prog_10_method_66_code 287 = .ok (.istore_n 2, 1) := by decide +kernel
theorem d_10_66_288 : decode prog_10_method_66_code 288 = .ok (.iload_n 2, 1) := by decide +kernel
theorem d_10_66_289 : decode prog_10_method_66_code 289 = .ok (.ifCond .lt 13, 3) := by decide +kernel
theorem d_10_66_292 : decode prog_10_method_66_code 292 = .ok (.aload_n 0, 1) := by decide +kernel
theorem d_10_66_293 : decode prog_10_method_66_code 293 = .ok (.getfield 144, 3) := by decide +kernel
theorem d_10_66_296 : decode prog_10_method_66_code 296 = .ok (.iload_n 2, 1) := by decide +kernel
theorem d_10_66_297 : decode prog_10_method_66_code 297 = .ok (.iaload, 1) := by decide +kernel
theorem d_10_66_298 : decode prog_10_method_66_code 298 = .ok (.iconst 2, 1) := by decide +kernel
theorem d_10_66_299 : decode prog_10_method_66_code 299 = .ok (.if_icmp .eq 16, 3) := by decide +kernel
theorem d_10_66_302 : decode prog_10_method_66_code 302 = .ok (.aload_n 0, 1) := by decide +kernel
theorem d_10_66_303 : decode prog_10_method_66_code 303 = .ok (.aload_n 0, 1) := by decide +kernel
theorem d_10_66_304 : decode prog_10_method_66_code 304 = .ok (.getfield 72, 3) := by decide +kernel
theorem d_10_66_307 : decode prog_10_method_66_code 307 = .ok (.iload_n 1, 1) := by decide +kernel
theorem d_10_66_308 : decode prog_10_method_66_code 308 = .ok (.iaload, 1) := by decide +kernel
theorem d_10_66_309 : decode prog_10_method_66_code 309 = .ok (.invokevirtual 132, 3) := by decide +kernel
theorem d_10_66_312 : decode prog_10_method_66_code 312 = .ok (.goto 9, 3) := by decide +kernel
theorem d_10_66_315 : decode prog_10_method_66_code 315 = .ok (.aload_n 0, 1) := by decide +kernel
theorem d_10_66_316 : decode prog_10_method_66_code 316 = .ok (.iload_n 1, 1) := by decide +kernel
theorem d_10_66_317 : decode prog_10_method_66_code 317 = .ok (.iload_n 2, 1) := by decide +kernel
theorem d_10_66_318 : decode prog_10_method_66_code 318 = .ok (.invokevirtual 439, 3) := by decide +kernel
theorem d_10_66_321 : decode prog_10_method_66_code 321 = .ok (.return_, 1) := by decide +kernel
theorem d_10_66_322 : decode prog_10_method_66_code 322 = .ok (.aload_n 0, 1) := by decide +kernel
theorem d_10_66_323 : decode prog_10_method_66_code 323 = .ok (.aload_n 0, 1) := by decide +kernel
theorem d_10_66_324 : decode prog_10_method_66_code 324 = .ok (.getfield 90, 3) := by decide +kernel
theorem d_10_66_327 : decode prog_10_method_66_code 327 = .ok (.iload_n 1, 1) := by decide +kernel
theorem d_10_66_328 : decode prog_10_method_66_code 328 = .ok (.iaload, 1) := by decide +kernel
theorem d_10_66_329 : decode prog_10_method_66_code 329 = .ok (.aload_n 0, 1) := by decide +kernel
theorem d_10_66_330 : decode prog_10_method_66_code 330 = .ok (.getfield 72, 3) := by decide +kernel
theorem d_10_66_333 : decode prog_10_method_66_code 333 = .ok (.iload_n 1, 1) := by decide +kernel
theorem d_10_66_334 : decode prog_10_method_66_code 334 = .ok (.iaload, 1) := by decide +kernel
theorem d_10_66_335 : decode prog_10_method_66_code 335 = .ok (.invokevirtual 434, 3) := by decide +kernel
theorem d_10_66_338 : decode prog_10_method_66_code 338 = .ok (.istore_n 2, 1) := by decide +kernel
theorem d_10_66_339 : decode prog_10_method_66_code 339 = .ok (.iload_n 2, 1) := by decide +kernel
theorem d_10_66_340 : decode prog_10_method_66_code 340 = .ok (.ifCond .lt 69, 3) := by decide +kernel
theorem d_10_66_343 : decode prog_10_method_66_code 343 = .ok (.aload_n 0, 1) := by decide +kernel
theorem d_10_66_344 : decode prog_10_method_66_code 344 = .ok (.getfield 78, 3) := by decide +kernel
theorem d_10_66_347 : decode prog_10_method_66_code 347 = .ok (.iload_n 1, 1) := by decide +kernel
theorem d_10_66_348 : decode prog_10_method_66_code 348 = .ok (.iaload, 1) := by decide +kernel
theorem d_10_66_349 : decode prog_10_method_66_code 349 = .ok (.ifCond .lt 16, 3) := by decide +kernel
theorem d_10_66_352 : decode prog_10_method_66_code 352 = .ok (.aload_n 0, 1) := by decide +kernel
theorem d_10_66_353 : decode prog_10_method_66_code 353 = .ok (.getfield 144, 3) := by decide +kernel
theorem d_10_66_356 : decode prog_10_method_66_code 356 = .ok (.iload_n 2, 1) := by decide +kernel
theorem d_10_66_357 : decode prog_10_method_66_code 357 = .ok (.iaload, 1) := by decide +kernel
theorem d_10_66_358 : decode prog_10_method_66_code 358 = .ok (.iconst 3, 1) := by decide +kernel
theorem d_10_66_359 : decode prog_10_method_66_code 359 = .ok (.if_icmp .ne 50, 3) := by decide +kernel
theorem d_10_66_362 : decode prog_10_method_66_code 362 = .ok (.goto 43, 3) := by decide +kernel
theorem d_10_66_365 : decode prog_10_method_66_code 365 = .ok (.aload_n 0, 1) := by decide +kernel
theorem d_10_66_366 : decode prog_10_method_66_code 366 = .ok (.getfield 144, 3) := by decide +kernel
theorem d_10_66_369 : decode prog_10_method_66_code 369 = .ok (.iload_n 2, 1) := by decide +kernel
theorem d_10_66_370 : decode prog_10_method_66_code 370 = .ok (.iaload, 1) := by decide +kernel
theorem d_10_66_371 : decode prog_10_method_66_code 371 = .ok (.iconst 4, 1) := by decide +kernel
theorem d_10_66_372 : decode prog_10_method_66_code 372 = .ok (.if_icmp .eq 33, 3) := by decide +kernel
theorem d_10_66_375 : decode prog_10_method_66_code 375 = .ok (.aload_n 0, 1) := by decide +kernel
theorem d_10_66_376 : decode prog_10_method_66_code 376 = .ok (.getfield 144, 3) := by decide +kernel
theorem d_10_66_379 : decode prog_10_method_66_code 379 = .ok (.iload_n 2, 1) := by decide +kernel
theorem d_10_66_380 : decode prog_10_method_66_code 380 = .ok (.iaload, 1) := by decide +kernel
theorem d_10_66_381 : decode prog_10_method_66_code 381 = .ok (.iconst 5, 1) := by decide +kernel
theorem d_10_66_382 : decode prog_10_method_66_code 382 = .ok (.if_icmp .ne 27, 3) := by decide +kernel
theorem d_10_66_385 : decode prog_10_method_66_code 385 = .ok (.aload_n 0, 1) := by decide +kernel
theorem d_10_66_386 : decode prog_10_method_66_code 386 = .ok (.getfield 147, 3) := by decide +kernel
theorem d_10_66_389 : decode prog_10_method_66_code 389 = .ok (.iload_n 2, 1) := by decide +kernel
theorem d_10_66_390 : decode prog_10_method_66_code 390 = .ok (.iaload, 1) := by decide +kernel
theorem d_10_66_391 : decode prog_10_method_66_code 391 = .ok (.bipush 8, 2) := by decide +kernel
theorem d_10_66_393 : decode prog_10_method_66_code 393 = .ok (.if_icmp .eq 12, 3) := by decide +kernel
theorem d_10_66_396 : decode prog_10_method_66_code 396 = .ok (.aload_n 0, 1) := by decide +kernel
theorem d_10_66_397 : decode prog_10_method_66_code 397 = .ok (.getfield 147, 3) := by decide +kernel
theorem d_10_66_400 : decode prog_10_method_66_code 400 = .ok (.iload_n 2, 1) := by decide +kernel
theorem d_10_66_401 : decode prog_10_method_66_code 401 = .ok (.iaload, 1) := by decide +kernel
theorem d_10_66_402 : decode prog_10_method_66_code 402 = .ok (.ifCond .ne 7, 3) := by decide +kernel
theorem d_10_66_405 : decode prog_10_method_66_code 405 = .ok (.iconst 1, 1) := by decide +kernel
theorem d_10_66_406 : decode prog_10_method_66_code 406 = .ok (.goto 4, 3) := by decide +kernel
theorem d_10_66_409 : decode prog_10_method_66_code 409 = .ok (.iconst 0, 1) := by decide +kernel
theorem d_10_66_410 : decode prog_10_method_66_code 410 = .ok (.istore 4, 2) := by decide +kernel
theorem d_10_66_412 : decode prog_10_method_66_code 412 = .ok (.iload 4, 2) := by decide +kernel
theorem d_10_66_414 : decode prog_10_method_66_code 414 = .ok (.ifCond .ne 13, 3) := by decide +kernel
theorem d_10_66_417 : decode prog_10_method_66_code 417 = .ok (.aload_n 0, 1) := by decide +kernel
theorem d_10_66_418 : decode prog_10_method_66_code 418 = .ok (.aload_n 0, 1) := by decide +kernel
theorem d_10_66_419 : decode prog_10_method_66_code 419 = .ok (.getfield 72, 3) := by decide +kernel
theorem d_10_66_422 : decode prog_10_method_66_code 422 = .ok (.iload_n 1, 1) := by decide +kernel
theorem d_10_66_423 : decode prog_10_method_66_code 423 = .ok (.iaload, 1) := by decide +kernel
theorem d_10_66_424 : decode prog_10_method_66_code 424 = .ok (.invokevirtual 132, 3) := by decide +kernel
theorem d_10_66_427 : decode prog_10_method_66_code 427 = .ok (.aload_n 0, 1) := by decide +kernel
theorem d_10_66_428 : decode prog_10_method_66_code 428 = .ok (.getfield 78, 3) := by decide +kernel
theorem d_10_66_431 : decode prog_10_method_66_code 431 = .ok (.iload_n 1, 1) := by decide +kernel
theorem d_10_66_432 : decode prog_10_method_66_code 432 = .ok (.iaload, 1) := by decide +kernel
theorem d_10_66_433 : decode prog_10_method_66_code 433 = .ok (.ifCond .lt 14, 3) := by decide +kernel
theorem d_10_66_436 : decode prog_10_method_66_code 436 = .ok (.aload_n 0, 1) := by decide +kernel
theorem d_10_66_437 : decode prog_10_method_66_code 437 = .ok (.aload_n 0, 1) := by decide +kernel
theorem d_10_66_438 : decode prog_10_method_66_code 438 = .ok (.getfield 78, 3) := by decide +kernel
theorem d_10_66_441 : decode prog_10_method_66_code 441 = .ok (.iload_n 1, 1) := by decide +kernel
theorem d_10_66_442 : decode prog_10_method_66_code 442 = .ok (.iaload, 1) := by decide +kernel
theorem d_10_66_443 : decode prog_10_method_66_code 443 = .ok (.iconst 1, 1) := by decide +kernel
theorem d_10_66_444 : decode prog_10_method_66_code 444 = .ok (.invokevirtual 421, 3) := by decide +kernel
theorem d_10_66_447 : decode prog_10_method_66_code 447 = .ok (.return_, 1) := by decide +kernel
theorem d_10_66_448 : decode prog_10_method_66_code 448 = .ok (.aload_n 0, 1) := by decide +kernel
theorem d_10_66_449 : decode prog_10_method_66_code 449 = .ok (.aload_n 0, 1) := by decide +kernel
theorem d_10_66_450 : decode prog_10_method_66_code 450 = .ok (.getfield 75, 3) := by decide +kernel
theorem d_10_66_453 : decode prog_10_method_66_code 453 = .ok (.iload_n 1, 1) := by decide +kernel
theorem d_10_66_454 : decode prog_10_method_66_code 454 = .ok (.iaload, 1) := by decide +kernel
theorem d_10_66_455 : decode prog_10_method_66_code 455 = .ok (.iconst 2, 1) := by decide +kernel
theorem d_10_66_456 : decode prog_10_method_66_code 456 = .ok (.invokevirtual 421, 3) := by decide +kernel
theorem d_10_66_459 : decode prog_10_method_66_code 459 = .ok (.aload_n 0, 1) := by decide +kernel
theorem d_10_66_460 : decode prog_10_method_66_code 460 = .ok (.aload_n 0, 1) := by decide +kernel
theorem d_10_66_461 : decode prog_10_method_66_code 461 = .ok (.getfield 78, 3) := by decide +kernel
theorem d_10_66_464 : decode prog_10_method_66_code 464 = .ok (.iload_n 1, 1) := by decide +kernel
theorem d_10_66_465 : decode prog_10_method_66_code 465 = .ok (.iaload, 1) := by decide +kernel
theorem d_10_66_466 : decode prog_10_method_66_code 466 = .ok (.invokevirtual 454, 3) := by decide +kernel
theorem d_10_66_469 : decode prog_10_method_66_code 469 = .ok (.aload_n 0, 1) := by decide +kernel
theorem d_10_66_470 : decode prog_10_method_66_code 470 = .ok (.getfield 81, 3) := by decide +kernel
theorem d_10_66_473 : decode prog_10_method_66_code 473 = .ok (.iload_n 1, 1) := by decide +kernel
theorem d_10_66_474 : decode prog_10_method_66_code 474 = .ok (.iaload, 1) := by decide +kernel
theorem d_10_66_475 : decode prog_10_method_66_code 475 = .ok (.ifCond .lt 13, 3) := by decide +kernel
theorem d_10_66_478 : decode prog_10_method_66_code 478 = .ok (.aload_n 0, 1) := by decide +kernel
theorem d_10_66_479 : decode prog_10_method_66_code 479 = .ok (.aload_n 0, 1) := by decide +kernel
theorem d_10_66_480 : decode prog_10_method_66_code 480 = .ok (.getfield 81, 3) := by decide +kernel
theorem d_10_66_483 : decode prog_10_method_66_code 483 = .ok (.iload_n 1, 1) := by decide +kernel
theorem d_10_66_484 : decode prog_10_method_66_code 484 = .ok (.iaload, 1) := by decide +kernel
theorem d_10_66_485 : decode prog_10_method_66_code 485 = .ok (.invokevirtual 454, 3) := by decide +kernel
theorem d_10_66_488 : decode prog_10_method_66_code 488 = .ok (.return_, 1) := by decide +kernel
theorem d_10_66_489 : decode prog_10_method_66_code 489 = .ok (.aload_n 0, 1) := by decide +kernel
theorem d_10_66_490 : decode prog_10_method_66_code 490 = .ok (.aload_n 0, 1) := by decide +kernel
theorem d_10_66_491 : decode prog_10_method_66_code 491 = .ok (.getfield 90, 3) := by decide +kernel
theorem d_10_66_494 : decode prog_10_method_66_code 494 = .ok (.iload_n 1, 1) := by decide +kernel
theorem d_10_66_495 : decode prog_10_method_66_code 495 = .ok (.iaload, 1) := by decide +kernel
theorem d_10_66_496 : decode prog_10_method_66_code 496 = .ok (.aload_n 0, 1) := by decide +kernel
theorem d_10_66_497 : decode prog_10_method_66_code 497 = .ok (.getfield 72, 3) := by decide +kernel
theorem d_10_66_500 : decode prog_10_method_66_code 500 = .ok (.iload_n 1, 1) := by decide +kernel
theorem d_10_66_501 : decode prog_10_method_66_code 501 = .ok (.iaload, 1) := by decide +kernel
theorem d_10_66_502 : decode prog_10_method_66_code 502 = .ok (.invokevirtual 434, 3) := by decide +kernel
theorem d_10_66_505 : decode prog_10_method_66_code 505 = .ok (.istore_n 2, 1) := by decide +kernel
theorem d_10_66_506 : decode prog_10_method_66_code 506 = .ok (.iload_n 2, 1) := by decide +kernel
theorem d_10_66_507 : decode prog_10_method_66_code 507 = .ok (.ifCond .lt 41, 3) := by decide +kernel
theorem d_10_66_510 : decode prog_10_method_66_code 510 = .ok (.aload_n 0, 1) := by decide +kernel
theorem d_10_66_511 : decode prog_10_method_66_code 511 = .ok (.getfield 144, 3) := by decide +kernel
theorem d_10_66_514 : decode prog_10_method_66_code 514 = .ok (.iload_n 2, 1) := by decide +kernel
theorem d_10_66_515 : decode prog_10_method_66_code 515 = .ok (.iaload, 1) := by decide +kernel
theorem d_10_66_516 : decode prog_10_method_66_code 516 = .ok (.ifCond .eq 13, 3) := by decide +kernel
theorem d_10_66_519 : decode prog_10_method_66_code 519 = .ok (.aload_n 0, 1) := by decide +kernel
theorem d_10_66_520 : decode prog_10_method_66_code 520 = .ok (.getfield 144, 3) := by decide +kernel
theorem d_10_66_523 : decode prog_10_method_66_code 523 = .ok (.iload_n 2, 1) := by decide +kernel
theorem d_10_66_524 : decode prog_10_method_66_code 524 = .ok (.iaload, 1) := by decide +kernel
theorem d_10_66_525 : decode prog_10_method_66_code 525 = .ok (.iconst 5, 1) := by decide +kernel
theorem d_10_66_526 : decode prog_10_method_66_code 526 = .ok (.if_icmp .ne 22, 3) := by decide +kernel
theorem d_10_66_529 : decode prog_10_method_66_code 529 = .ok (.aload_n 0, 1) := by decide +kernel
theorem d_10_66_530 : decode prog_10_method_66_code 530 = .ok (.getfield 147, 3) := by decide +kernel
theorem d_10_66_533 : decode prog_10_method_66_code 533 = .ok (.iload_n 2, 1) := by decide +kernel
theorem d_10_66_534 : decode prog_10_method_66_code 534 = .ok (.iaload, 1) := by decide +kernel
theorem d_10_66_535 : decode prog_10_method_66_code 535 = .ok (.iconst 1, 1) := by decide +kernel
theorem d_10_66_536 : decode prog_10_method_66_code 536 = .ok (.if_icmp .eq 22, 3) := by decide +kernel
theorem d_10_66_539 : decode prog_10_method_66_code 539 = .ok (.aload_n 0, 1) := by decide +kernel
theorem d_10_66_540 : decode prog_10_method_66_code 540 = .ok (.getfield 147, 3) := by decide +kernel
theorem d_10_66_543 : decode prog_10_method_66_code 543 = .ok (.iload_n 2, 1) := by decide +kernel
theorem d_10_66_544 : decode prog_10_method_66_code 544 = .ok (.iaload, 1) := by decide +kernel
theorem d_10_66_545 : decode prog_10_method_66_code 545 = .ok (.ifCond .eq 13, 3) := by decide +kernel
theorem d_10_66_548 : decode prog_10_method_66_code 548 = .ok (.aload_n 0, 1) := by decide +kernel
theorem d_10_66_549 : decode prog_10_method_66_code 549 = .ok (.aload_n 0, 1) := by decide +kernel
theorem d_10_66_550 : decode prog_10_method_66_code 550 = .ok (.getfield 72, 3) := by decide +kernel
theorem d_10_66_553 : decode prog_10_method_66_code 553 = .ok (.iload_n 1, 1) := by decide +kernel
theorem d_10_66_554 : decode prog_10_method_66_code 554 = .ok (.iaload, 1) := by decide +kernel
theorem d_10_66_555 : decode prog_10_method_66_code 555 = .ok (.invokevirtual 132, 3) := by decide +kernel
theorem d_10_66_558 : decode prog_10_method_66_code 558 = .ok (.aload_n 0, 1) := by decide +kernel
theorem d_10_66_559 : decode prog_10_method_66_code 559 = .ok (.getfield 75, 3) := by decide +kernel
theorem d_10_66_562 : decode prog_10_method_66_code 562 = .ok (.iload_n 1, 1) := by decide +kernel
theorem d_10_66_563 : decode prog_10_method_66_code 563 = .ok (.iaload, 1) := by decide +kernel
theorem d_10_66_564 : decode prog_10_method_66_code 564 = .ok (.istore 5, 2) := by decide +kernel
theorem d_10_66_566 : decode prog_10_method_66_code 566 = .ok (.iload 5, 2) := by decide +kernel
theorem d_10_66_568 : decode prog_10_method_66_code 568 = .ok (.ifCond .lt 86, 3) := by decide +kernel
theorem d_10_66_571 : decode prog_10_method_66_code 571 = .ok (.aload_n 0, 1) := by decide +kernel
theorem d_10_66_572 : decode prog_10_method_66_code 572 = .ok (.aload_n 0, 1) := by decide +kernel
theorem d_10_66_573 : decode prog_10_method_66_code 573 = .ok (.getfield 75, 3) := by decide +kernel
theorem d_10_66_576 : decode prog_10_method_66_code 576 = .ok (.iload 5, 2) := by decide +kernel
theorem d_10_66_578 : decode prog_10_method_66_code 578 = .ok (.iaload, 1) := by decide +kernel
theorem d_10_66_579 : decode prog_10_method_66_code 579 = .ok (.iconst 1, 1) := by decide +kernel
theorem d_10_66_580 : decode prog_10_method_66_code 580 = .ok (.invokevirtual 421, 3) := by decide +kernel
theorem d_10_66_583 : decode prog_10_method_66_code 583 = .ok (.aload_n 0, 1) := by decide +kernel
theorem d_10_66_584 : decode prog_10_method_66_code 584 = .ok (.getfield 78, 3) := by decide +kernel
theorem d_10_66_587 : decode prog_10_method_66_code 587 = .ok (.iload 5, 2) := by decide +kernel
theorem d_10_66_589 : decode prog_10_method_66_code 589 = .ok (.iaload, 1) := by decide +kernel
theorem d_10_66_590 : decode prog_10_method_66_code 590 = .ok (.ifCond .lt 30, 3) := by decide +kernel
theorem d_10_66_593 : decode prog_10_method_66_code 593 = .ok (.aload_n 0, 1) := by decide +kernel
theorem d_10_66_594 : decode prog_10_method_66_code 594 = .ok (.aload_n 0, 1) := by decide +kernel
theorem d_10_66_595 : decode prog_10_method_66_code 595 = .ok (.getfield 78, 3) := by decide +kernel
theorem d_10_66_598 : decode prog_10_method_66_code 598 = .ok (.iload 5, 2) := by decide +kernel
theorem d_10_66_600 : decode prog_10_method_66_code 600 = .ok (.iaload, 1) := by decide +kernel
theorem d_10_66_601 : decode prog_10_method_66_code 601 = .ok (.aload_n 0, 1) := by decide +kernel
theorem d_10_66_602 : decode prog_10_method_66_code 602 = .ok (.getfield 84, 3) := by decide +kernel
theorem d_10_66_605 : decode prog_10_method_66_code 605 = .ok (.iload 5, 2) := by decide +kernel
theorem d_10_66_607 : decode prog_10_method_66_code 607 = .ok (.iaload, 1) := by decide +kernel
theorem d_10_66_608 : decode prog_10_method_66_code 608 = .ok (.iconst 2, 1) := by decide +kernel
theorem d_10_66_609 : decode prog_10_method_66_code 609 = .ok (.if_icmp .ne 7, 3) := by decide +kernel
theorem d_10_66_612 : decode prog_10_method_66_code 612 = .ok (.iconst 2, 1) := by decide +kernel
theorem d_10_66_613 : decode prog_10_method_66_code 613 = .ok (.goto 4, 3) := by decide +kernel
theorem d_10_66_616 : decode prog_10_method_66_code 616 = .ok (.iconst 1, 1) := by decide +kernel
theorem d_10_66_617 : decode prog_10_method_66_code 617 = .ok (.invokevirtual 421, 3) := by decide +kernel
theorem d_10_66_620 : decode prog_10_method_66_code 620 = .ok (.aload_n 0, 1) := by decide +kernel
theorem d_10_66_621 : decode prog_10_method_66_code 621 = .ok (.getfield 81, 3) := by decide +kernel
theorem d_10_66_624 : decode prog_10_method_66_code 624 = .ok (.iload 5, 2) := by decide +kernel
theorem d_10_66_626 : decode prog_10_method_66_code 626 = .ok (.iaload, 1) := by decide +kernel
theorem d_10_66_627 : decode prog_10_method_66_code 627 = .ok (.ifCond .lt 15, 3) := by decide +kernel
theorem d_10_66_630 : decode prog_10_method_66_code 630 = .ok (.aload_n 0, 1) := by decide +kernel
theorem d_10_66_631 : decode prog_10_method_66_code 631 = .ok (.aload_n 0, 1) := by decide +kernel
theorem d_10_66_632 : decode prog_10_method_66_code 632 = .ok (.getfield 81, 3) := by decide +kernel
theorem d_10_66_635 : decode prog_10_method_66_code 635 = .ok (.iload 5, 2) := by decide +kernel
theorem d_10_66_637 : decode prog_10_method_66_code 637 = .ok (.iaload, 1) := by decide +kernel
theorem d_10_66_638 : decode prog_10_method_66_code 638 = .ok (.iconst 1, 1) := by decide +kernel
theorem d_10_66_639 : decode prog_10_method_66_code 639 = .ok (.invokevirtual 421, 3) := by decide +kernel
theorem d_10_66_642 : decode prog_10_method_66_code 642 = .ok (.aload_n 0, 1) := by decide +kernel
theorem d_10_66_643 : decode prog_10_method_66_code 643 = .ok (.getfield 87, 3) := by decide +kernel
theorem d_10_66_646 : decode prog_10_method_66_code 646 = .ok (.iload 5, 2) := by decide +kernel
theorem d_10_66_648 : decode prog_10_method_66_code 648 = .ok (.iaload, 1) := by decide +kernel
theorem d_10_66_649 : decode prog_10_method_66_code 649 = .ok (.istore 5, 2) := by decide +kernel
theorem d_10_66_651 : decode prog_10_method_66_code 651 = .ok (.goto (-85), 3) := by decide +kernel
theorem d_10_66_654 : decode prog_10_method_66_code 654 = .ok (.aload_n 0, 1) := by decide +kernel
theorem d_10_66_655 : decode prog_10_method_66_code 655 = .ok (.aload_n 0, 1) := by decide +kernel
theorem d_10_66_656 : decode prog_10_method_66_code 656 = .ok (.getfield 78, 3) := by decide +kernel
theorem d_10_66_659 : decode prog_10_method_66_code 659 = .ok (.iload_n 1, 1) := by decide +kernel
theorem d_10_66_660 : decode prog_10_method_66_code 660 = .ok (.iaload, 1) := by decide +kernel
theorem d_10_66_661 : decode prog_10_method_66_code 661 = .ok (.invokevirtual 454, 3) := by decide +kernel
theorem d_10_66_664 : decode prog_10_method_66_code 664 = .ok (.return_, 1) := by decide +kernel
theorem d_10_66_665 : decode prog_10_method_66_code 665 = .ok (.aload_n 0, 1) := by decide +kernel
theorem d_10_66_666 : decode prog_10_method_66_code 666 = .ok (.aload_n 0, 1) := by decide +kernel
theorem d_10_66_667 : decode prog_10_method_66_code 667 = .ok (.getfield 75, 3) := by decide +kernel
theorem d_10_66_670 : decode prog_10_method_66_code 670 = .ok (.iload_n 1, 1) := by decide +kernel
theorem d_10_66_671 : decode prog_10_method_66_code 671 = .ok (.iaload, 1) := by decide +kernel
theorem d_10_66_672 : decode prog_10_method_66_code 672 = .ok (.iconst 1, 1) := by decide +kernel
theorem d_10_66_673 : decode prog_10_method_66_code 673 = .ok (.invokevirtual 421, 3) := by decide +kernel
theorem d_10_66_676 : decode prog_10_method_66_code 676 = .ok (.return_, 1) := by decide +kernel
theorem d_10_66_677 : decode prog_10_method_66_code 677 = .ok (.return_, 1) := by decide +kernel
theorem d_10_67_0 : decode prog_10_method_67_code 0 = .ok (.aload_n 0, 1) := by decide +kernel
theorem d_10_67_1 : decode prog_10_method_67_code 1 = .ok (.iload_n 1, 1) := by decide +kernel
theorem d_10_67_2 : decode prog_10_method_67_code 2 = .ok (.invokevirtual 454, 3) := by decide +kernel
theorem d_10_67_5 : decode prog_10_method_67_code 5 = .ok (.iconst 0, 1) := by decide +kernel
theorem d_10_67_6 : decode prog_10_method_67_code 6 = .ok (.istore_n 2, 1) := by decide +kernel
theorem d_10_67_7 : decode prog_10_method_67_code 7 = .ok (.iload_n 2, 1) := by decide +kernel
theorem d_10_67_8 : decode prog_10_method_67_code 8 = .ok (.aload_n 0, 1) := by decide +kernel
theorem d_10_67_9 : decode prog_10_method_67_code 9 = .ok (.getfield 112, 3) := by decide +kernel
theorem d_10_67_12 : decode prog_10_method_67_code 12 = .ok (.if_icmp .ge 141, 3) := by decide +kernel
theorem d_10_67_15 : decode prog_10_method_67_code 15 = .ok (.aload_n 0, 1) := by decide +kernel
theorem d_10_67_16 : decode prog_10_method_67_code 16 = .ok (.getfield 144, 3) := by decide +kernel
theorem d_10_67_19 : decode prog_10_method_67_code 19 = .ok (.iload_n 2, 1) := by decide +kernel
theorem d_10_67_20 : decode prog_10_method_67_code 20 = .ok (.iaload, 1) := by decide +kernel
theorem d_10_67_21 : decode prog_10_method_67_code 21 = .ok (.iconst 2, 1) := by decide +kernel
theorem d_10_67_22 : decode prog_10_method_67_code 22 = .ok (.if_icmp .ne 13, 3) := by decide +kernel
theorem d_10_67_25 : decode prog_10_method_67_code 25 = .ok (.aload_n 0, 1) := by decide +kernel
theorem d_10_67_26 : decode prog_10_method_67_code 26 = .ok (.aload_n 0, 1) := by decide +kernel
theorem d_10_67_27 : decode prog_10_method_67_code 27 = .ok (.getfield 156, 3) := by decide +kernel
theorem d_10_67_30 : decode prog_10_method_67_code 30 = .ok (.iload_n 2, 1) := by decide +kernel
theorem d_10_67_31 : decode prog_10_method_67_code 31 = .ok (.iaload, 1) := by decide +kernel
theorem d_10_67_32 : decode prog_10_method_67_code 32 = .ok (.invokevirtual 454, 3) := by decide +kernel
theorem d_10_67_35 : decode prog_10_method_67_code 35 = .ok (.aload_n 0, 1) := by decide +kernel
theorem d_10_67_36 : decode prog_10_method_67_code 36 = .ok (.getfield 144, 3) := by decide +kernel
theorem d_10_67_39 : decode prog_10_method_67_code 39 = .ok (.iload_n 2, 1) := by decide +kernel
theorem d_10_67_40 : decode prog_10_method_67_code 40 = .ok (.iaload, 1) := by decide +kernel
theorem d_10_67_41 : decode prog_10_method_67_code 41 = .ok (.iconst 3, 1) := by decide +kernel
theorem d_10_67_42 : decode prog_10_method_67_code 42 = .ok (.if_icmp .ne 12, 3) := by decide +kernel
theorem d_10_67_45 : decode prog_10_method_67_code 45 = .ok (.aload_n 0, 1) := by decide +kernel
theorem d_10_67_46 : decode prog_10_method_67_code 46 = .ok (.getfield 159, 3) := by decide +kernel
theorem d_10_67_49 : decode prog_10_method_67_code 49 = .ok (.iload_n 2, 1) := by decide +kernel
theorem d_10_67_50 : decode prog_10_method_67_code 50 = .ok (.iaload, 1) := by decide +kernel
theorem d_10_67_51 : decode prog_10_method_67_code 51 = .ok (.goto 4, 3) := by decide +kernel
theorem d_10_67_54 : decode prog_10_method_67_code 54 = .ok (.iconst (-1), 1) := by decide +kernel
theorem d_10_67_55 : decode prog_10_method_67_code 55 = .ok (.istore_n 3, 1) := by decide +kernel
theorem d_10_67_56 : decode prog_10_method_67_code 56 = .ok (.iload_n 3, 1) := by decide +kernel
theorem d_10_67_57 : decode prog_10_method_67_code 57 = .ok (.ifCond .lt 90, 3) := by decide +kernel
theorem d_10_67_60 : decode prog_10_method_67_code 60 = .ok (.aload_n 0, 1) := by decide +kernel
theorem d_10_67_61 : decode prog_10_method_67_code 61 = .ok (.aload_n 0, 1) := by decide +kernel
theorem d_10_67_62 : decode prog_10_method_67_code 62 = .ok (.getfield 90, 3) := by decide +kernel
theorem d_10_67_65 : decode prog_10_method_67_code 65 = .ok (.iload_n 3, 1) := by decide +kernel
theorem d_10_67_66 : decode prog_10_method_67_code 66 = .ok (.iaload, 1) := by decide +kernel
theorem d_10_67_67 : decode prog_10_method_67_code 67 = .ok (.aload_n 0, 1) := by decide +kernel
theorem d_10_67_68 : decode prog_10_method_67_code 68 = .ok (.getfield 72, 3) := by decide +kernel
theorem d_10_67_71 : decode prog_10_method_67_code 71 = .ok (.iload_n 3, 1) := by decide +kernel
theorem d_10_67_72 : decode prog_10_method_67_code 72 = .ok (.iaload, 1) := by decide +kernel
theorem d_10_67_73 : decode prog_10_method_67_code 73 = .ok (.invokevirtual 434, 3) := by decide +kernel
theorem d_10_67_76 : decode prog_10_method_67_code 76 = .ok (.istore 4, 2) := by decide +kernel
theorem d_10_67_78 : decode prog_10_method_67_code 78 = .ok (.iload 4, 2) := by decide +kernel
theorem d_10_67_80 : decode prog_10_method_67_code 80 = .ok (.ifCond .lt 47, 3) := by decide +kernel
theorem d_10_67_83 : decode prog_10_method_67_code 83 = .ok (.aload_n 0, 1) := by decide +kernel
theorem d_10_67_84 : decode prog_10_method_67_code 84 = .ok (.getfield 144, 3) := by decide +kernel
theorem d_10_67_87 : decode prog_10_method_67_code 87 = .ok (.iload 4, 2) := by decide +kernel
theorem d_10_67_89 : decode prog_10_method_67_code 89 = .ok (.iaload, 1) := by decide +kernel
