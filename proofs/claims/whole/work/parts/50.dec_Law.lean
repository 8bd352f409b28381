theorem d_Law_law_0 : decode code 0 = .ok (.new 7, 3) := by decide +kernel
theorem d_Law_law_3 : decode code 3 = .ok (.dup, 1) := by decide +kernel
theorem d_Law_law_4 : decode code 4 = .ok (.invokespecial 9, 3) := by decide +kernel
theorem d_Law_law_7 : decode code 7 = .ok (.astore_n 1, 1) := by decide +kernel
theorem d_Law_law_8 : decode code 8 = .ok (.new 10, 3) := by decide +kernel
theorem d_Law_law_11 : decode code 11 = .ok (.dup, 1) := by decide +kernel
theorem d_Law_law_12 : decode code 12 = .ok (.invokespecial 12, 3) := by decide +kernel
theorem d_Law_law_15 : decode code 15 = .ok (.astore_n 2, 1) := by decide +kernel
theorem d_Law_law_16 : decode code 16 = .ok (.iconst 0, 1) := by decide +kernel
theorem d_Law_law_17 : decode code 17 = .ok (.istore_n 3, 1) := by decide +kernel
theorem d_Law_law_18 : decode code 18 = .ok (.iload_n 3, 1) := by decide +kernel
theorem d_Law_law_19 : decode code 19 = .ok (.aload_n 0, 1) := by decide +kernel
theorem d_Law_law_20 : decode code 20 = .ok (.arraylength, 1) := by decide +kernel
theorem d_Law_law_21 : decode code 21 = .ok (.bipush 6, 2) := by decide +kernel
theorem d_Law_law_23 : decode code 23 = .ok (.isub, 1) := by decide +kernel
theorem d_Law_law_24 : decode code 24 = .ok (.if_icmp .gt 549, 3) := by decide +kernel
theorem d_Law_law_27 : decode code 27 = .ok (.aload_n 0, 1) := by decide +kernel
theorem d_Law_law_28 : decode code 28 = .ok (.iload_n 3, 1) := by decide +kernel
theorem d_Law_law_29 : decode code 29 = .ok (.iaload, 1) := by decide +kernel
theorem d_Law_law_30 : decode code 30 = .ok (.bipush 15, 2) := by decide +kernel
theorem d_Law_law_32 : decode code 32 = .ok (.iand, 1) := by decide +kernel
theorem d_Law_law_33 : decode code 33 = .ok (.tableswitch 534 0 14 #[75, 98, 111, 134, 147, 180, 259, 308, 331, 365, 399, 422, 455, 488, 521], 75) := by decide +kernel
theorem d_Law_law_108 : decode code 108 = .ok (.aload_n 1, 1) := by decide +kernel
theorem d_Law_law_109 : decode code 109 = .ok (.aload_n 0, 1) := by decide +kernel
theorem d_Law_law_110 : decode code 110 = .ok (.iload_n 3, 1) := by decide +kernel
theorem d_Law_law_111 : decode code 111 = .ok (.iconst 1, 1) := by decide +kernel
theorem d_Law_law_112 : decode code 112 = .ok (.iadd, 1) := by decide +kernel
theorem d_Law_law_113 : decode code 113 = .ok (.iaload, 1) := by decide +kernel
theorem d_Law_law_114 : decode code 114 = .ok (.invokevirtual 13, 3) := by decide +kernel
theorem d_Law_law_117 : decode code 117 = .ok (.aload_n 2, 1) := by decide +kernel
theorem d_Law_law_118 : decode code 118 = .ok (.aload_n 0, 1) := by decide +kernel
theorem d_Law_law_119 : decode code 119 = .ok (.iload_n 3, 1) := by decide +kernel
theorem d_Law_law_120 : decode code 120 = .ok (.iconst 1, 1) := by decide +kernel
theorem d_Law_law_121 : decode code 121 = .ok (.iadd, 1) := by decide +kernel
theorem d_Law_law_122 : decode code 122 = .ok (.iaload, 1) := by decide +kernel
theorem d_Law_law_123 : decode code 123 = .ok (.invokevirtual 17, 3) := by decide +kernel
theorem d_Law_law_126 : decode code 126 = .ok (.if_icmp .eq 441, 3) := by decide +kernel
theorem d_Law_law_129 : decode code 129 = .ok (.iconst 0, 1) := by decide +kernel
theorem d_Law_law_130 : decode code 130 = .ok (.ireturn, 1) := by decide +kernel
theorem d_Law_law_131 : decode code 131 = .ok (.aload_n 1, 1) := by decide +kernel
theorem d_Law_law_132 : decode code 132 = .ok (.invokevirtual 18, 3) := by decide +kernel
theorem d_Law_law_135 : decode code 135 = .ok (.aload_n 2, 1) := by decide +kernel
theorem d_Law_law_136 : decode code 136 = .ok (.invokevirtual 22, 3) := by decide +kernel
theorem d_Law_law_139 : decode code 139 = .ok (.if_icmp .eq 428, 3) := by decide +kernel
theorem d_Law_law_142 : decode code 142 = .ok (.iconst 0, 1) := by decide +kernel
theorem d_Law_law_143 : decode code 143 = .ok (.ireturn, 1) := by decide +kernel
theorem d_Law_law_144 : decode code 144 = .ok (.aload_n 1, 1) := by decide +kernel
theorem d_Law_law_145 : decode code 145 = .ok (.aload_n 0, 1) := by decide +kernel
theorem d_Law_law_146 : decode code 146 = .ok (.iload_n 3, 1) := by decide +kernel
theorem d_Law_law_147 : decode code 147 = .ok (.iconst 1, 1) := by decide +kernel
theorem d_Law_law_148 : decode code 148 = .ok (.iadd, 1) := by decide +kernel
theorem d_Law_law_149 : decode code 149 = .ok (.iaload, 1) := by decide +kernel
theorem d_Law_law_150 : decode code 150 = .ok (.invokevirtual 23, 3) := by decide +kernel
theorem d_Law_law_153 : decode code 153 = .ok (.aload_n 2, 1) := by decide +kernel
theorem d_Law_law_154 : decode code 154 = .ok (.aload_n 0, 1) := by decide +kernel
theorem d_Law_law_155 : decode code 155 = .ok (.iload_n 3, 1) := by decide +kernel
theorem d_Law_law_156 : decode code 156 = .ok (.iconst 1, 1) := by decide +kernel
theorem d_Law_law_157 : decode code 157 = .ok (.iadd, 1) := by decide +kernel
theorem d_Law_law_158 : decode code 158 = .ok (.iaload, 1) := by decide +kernel
theorem d_Law_law_159 : decode code 159 = .ok (.invokevirtual 27, 3) := by decide +kernel
theorem d_Law_law_162 : decode code 162 = .ok (.if_icmp .eq 405, 3) := by decide +kernel
theorem d_Law_law_165 : decode code 165 = .ok (.iconst 0, 1) := by decide +kernel
theorem d_Law_law_166 : decode code 166 = .ok (.ireturn, 1) := by decide +kernel
theorem d_Law_law_167 : decode code 167 = .ok (.aload_n 1, 1) := by decide +kernel
theorem d_Law_law_168 : decode code 168 = .ok (.invokevirtual 28, 3) := by decide +kernel
theorem d_Law_law_171 : decode code 171 = .ok (.aload_n 2, 1) := by decide +kernel
theorem d_Law_law_172 : decode code 172 = .ok (.invokevirtual 31, 3) := by decide +kernel
theorem d_Law_law_175 : decode code 175 = .ok (.if_icmp .eq 392, 3) := by decide +kernel
theorem d_Law_law_178 : decode code 178 = .ok (.iconst 0, 1) := by decide +kernel
theorem d_Law_law_179 : decode code 179 = .ok (.ireturn, 1) := by decide +kernel
theorem d_Law_law_180 : decode code 180 = .ok (.aload_n 1, 1) := by decide +kernel
theorem d_Law_law_181 : decode code 181 = .ok (.aload_n 0, 1) := by decide +kernel
theorem d_Law_law_182 : decode code 182 = .ok (.iload_n 3, 1) := by decide +kernel
theorem d_Law_law_183 : decode code 183 = .ok (.iconst 1, 1) := by decide +kernel
theorem d_Law_law_184 : decode code 184 = .ok (.iadd, 1) := by decide +kernel
theorem d_Law_law_185 : decode code 185 = .ok (.iaload, 1) := by decide +kernel
theorem d_Law_law_186 : decode code 186 = .ok (.aload_n 0, 1) := by decide +kernel
theorem d_Law_law_187 : decode code 187 = .ok (.iload_n 3, 1) := by decide +kernel
theorem d_Law_law_188 : decode code 188 = .ok (.iconst 2, 1) := by decide +kernel
theorem d_Law_law_189 : decode code 189 = .ok (.iadd, 1) := by decide +kernel
theorem d_Law_law_190 : decode code 190 = .ok (.iaload, 1) := by decide +kernel
theorem d_Law_law_191 : decode code 191 = .ok (.invokevirtual 32, 3) := by decide +kernel
theorem d_Law_law_194 : decode code 194 = .ok (.aload_n 2, 1) := by decide +kernel
theorem d_Law_law_195 : decode code 195 = .ok (.aload_n 0, 1) := by decide +kernel
theorem d_Law_law_196 : decode code 196 = .ok (.iload_n 3, 1) := by decide +kernel
theorem d_Law_law_197 : decode code 197 = .ok (.iconst 1, 1) := by decide +kernel
theorem d_Law_law_198 : decode code 198 = .ok (.iadd, 1) := by decide +kernel
theorem d_Law_law_199 : decode code 199 = .ok (.iaload, 1) := by decide +kernel
theorem d_Law_law_200 : decode code 200 = .ok (.aload_n 0, 1) := by decide +kernel
theorem d_Law_law_201 : decode code 201 = .ok (.iload_n 3, 1) := by decide +kernel
theorem d_Law_law_202 : decode code 202 = .ok (.iconst 2, 1) := by decide +kernel
theorem d_Law_law_203 : decode code 203 = .ok (.iadd, 1) := by decide +kernel
theorem d_Law_law_204 : decode code 204 = .ok (.iaload, 1) := by decide +kernel
theorem d_Law_law_205 : decode code 205 = .ok (.invokevirtual 36, 3) := by decide +kernel
theorem d_Law_law_208 : decode code 208 = .ok (.if_icmp .eq 359, 3) := by decide +kernel
theorem d_Law_law_211 : decode code 211 = .ok (.iconst 0, 1) := by decide +kernel
theorem d_Law_law_212 : decode code 212 = .ok (.ireturn, 1) := by decide +kernel
theorem d_Law_law_213 : decode code 213 = .ok (.aload_n 1, 1) := by decide +kernel
theorem d_Law_law_214 : decode code 214 = .ok (.aload_n 0, 1) := by decide +kernel
theorem d_Law_law_215 : decode code 215 = .ok (.iload_n 3, 1) := by decide +kernel
theorem d_Law_law_216 : decode code 216 = .ok (.iconst 1, 1) := by decide +kernel
theorem d_Law_law_217 : decode code 217 = .ok (.iadd, 1) := by decide +kernel
theorem d_Law_law_218 : decode code 218 = .ok (.iaload, 1) := by decide +kernel
theorem d_Law_law_219 : decode code 219 = .ok (.aload_n 0, 1) := by decide +kernel
theorem d_Law_law_220 : decode code 220 = .ok (.iload_n 3, 1) := by decide +kernel
theorem d_Law_law_221 : decode code 221 = .ok (.iconst 2, 1) := by decide +kernel
theorem d_Law_law_222 : decode code 222 = .ok (.iadd, 1) := by decide +kernel
theorem d_Law_law_223 : decode code 223 = .ok (.iaload, 1) := by decide +kernel
theorem d_Law_law_224 : decode code 224 = .ok (.aload_n 0, 1) := by decide +kernel
theorem d_Law_law_225 : decode code 225 = .ok (.iload_n 3, 1) := by decide +kernel
theorem d_Law_law_226 : decode code 226 = .ok (.iconst 3, 1) := by decide +kernel
theorem d_Law_law_227 : decode code 227 = .ok (.iadd, 1) := by decide +kernel
theorem d_Law_law_228 : decode code 228 = .ok (.iaload, 1) := by decide +kernel
theorem d_Law_law_229 : decode code 229 = .ok (.aload_n 0, 1) := by decide +kernel
theorem d_Law_law_230 : decode code 230 = .ok (.iload_n 3, 1) := by decide +kernel
theorem d_Law_law_231 : decode code 231 = .ok (.iconst 4, 1) := by decide +kernel
theorem d_Law_law_232 : decode code 232 = .ok (.iadd, 1) := by decide +kernel
theorem d_Law_law_233 : decode code 233 = .ok (.iaload, 1) := by decide +kernel
theorem d_Law_law_234 : decode code 234 = .ok (.aload_n 0, 1) := by decide +kernel
theorem d_Law_law_235 : decode code 235 = .ok (.iload_n 3, 1) := by decide +kernel
theorem d_Law_law_236 : decode code 236 = .ok (.iconst 5, 1) := by decide +kernel
theorem d_Law_law_237 : decode code 237 = .ok (.iadd, 1) := by decide +kernel
theorem d_Law_law_238 : decode code 238 = .ok (.iaload, 1) := by decide +kernel
theorem d_Law_law_239 : decode code 239 = .ok (.ifCond .eq 7, 3) := by decide +kernel
theorem d_Law_law_242 : decode code 242 = .ok (.iconst 1, 1) := by decide +kernel
theorem d_Law_law_243 : decode code 243 = .ok (.goto 4, 3) := by decide +kernel
theorem d_Law_law_246 : decode code 246 = .ok (.iconst 0, 1) := by decide +kernel
theorem d_Law_law_247 : decode code 247 = .ok (.invokevirtual 37, 3) := by decide +kernel
theorem d_Law_law_250 : decode code 250 = .ok (.aload_n 2, 1) := by decide +kernel
theorem d_Law_law_251 : decode code 251 = .ok (.aload_n 0, 1) := by decide +kernel
theorem d_Law_law_252 : decode code 252 = .ok (.iload_n 3, 1) := by decide +kernel
theorem d_Law_law_253 : decode code 253 = .ok (.iconst 1, 1) := by decide +kernel
theorem d_Law_law_254 : decode code 254 = .ok (.iadd, 1) := by decide +kernel
theorem d_Law_law_255 : decode code 255 = .ok (.iaload, 1) := by decide +kernel
theorem d_Law_law_256 : decode code 256 = .ok (.aload_n 0, 1) := by decide +kernel
theorem d_Law_law_257 : decode code 257 = .ok (.iload_n 3, 1) := by decide +kernel
theorem d_Law_law_258 : decode code 258 = .ok (.iconst 2, 1) := by decide +kernel
theorem d_Law_law_259 : decode code 259 = .ok (.iadd, 1) := by decide +kernel
theorem d_Law_law_260 : decode code 260 = .ok (.iaload, 1) := by decide +kernel
theorem d_Law_law_261 : decode code 261 = .ok (.aload_n 0, 1) := by decide +kernel
theorem d_Law_law_262 : decode code 262 = .ok (.iload_n 3, 1) := by decide +kernel
theorem d_Law_law_263 : decode code 263 = .ok (.iconst 3, 1) := by decide +kernel
theorem d_Law_law_264 : decode code 264 = .ok (.iadd, 1) := by decide +kernel
theorem d_Law_law_265 : decode code 265 = .ok (.iaload, 1) := by decide +kernel
theorem d_Law_law_266 : decode code 266 = .ok (.aload_n 0, 1) := by decide +kernel
theorem d_Law_law_267 : decode code 267 = .ok (.iload_n 3, 1) := by decide +kernel
theorem d_Law_law_268 : decode code 268 = .ok (.iconst 4, 1) := by decide +kernel
theorem d_Law_law_269 : decode code 269 = .ok (.iadd, 1) := by decide +kernel
theorem d_Law_law_270 : decode code 270 = .ok (.iaload, 1) := by decide +kernel
theorem d_Law_law_271 : decode code 271 = .ok (.aload_n 0, 1) := by decide +kernel
theorem d_Law_law_272 : decode code 272 = .ok (.iload_n 3, 1) := by decide +kernel
theorem d_Law_law_273 : decode code 273 = .ok (.iconst 5, 1) := by decide +kernel
theorem d_Law_law_274 : decode code 274 = .ok (.iadd, 1) := by decide +kernel
theorem d_Law_law_275 : decode code 275 = .ok (.iaload, 1) := by decide +kernel
theorem d_Law_law_276 : decode code 276 = .ok (.ifCond .eq 7, 3) := by decide +kernel
theorem d_Law_law_279 : decode code 279 = .ok (.iconst 1, 1) := by decide +kernel
theorem d_Law_law_280 : decode code 280 = .ok (.goto 4, 3) := by decide +kernel
theorem d_Law_law_283 : decode code 283 = .ok (.iconst 0, 1) := by decide +kernel
theorem d_Law_law_284 : decode code 284 = .ok (.invokevirtual 41, 3) := by decide +kernel
theorem d_Law_law_287 : decode code 287 = .ok (.if_icmp .eq 280, 3) := by decide +kernel
theorem d_Law_law_290 : decode code 290 = .ok (.iconst 0, 1) := by decide +kernel
theorem d_Law_law_291 : decode code 291 = .ok (.ireturn, 1) := by decide +kernel
theorem d_Law_law_292 : decode code 292 = .ok (.aload_n 1, 1) := by decide +kernel
theorem d_Law_law_293 : decode code 293 = .ok (.aload_n 0, 1) := by decide +kernel
theorem d_Law_law_294 : decode code 294 = .ok (.iload_n 3, 1) := by decide +kernel
theorem d_Law_law_295 : decode code 295 = .ok (.iconst 1, 1) := by decide +kernel
theorem d_Law_law_296 : decode code 296 = .ok (.iadd, 1) := by decide +kernel
theorem d_Law_law_297 : decode code 297 = .ok (.iaload, 1) := by decide +kernel
theorem d_Law_law_298 : decode code 298 = .ok (.aload_n 0, 1) := by decide +kernel
theorem d_Law_law_299 : decode code 299 = .ok (.iload_n 3, 1) := by decide +kernel
theorem d_Law_law_300 : decode code 300 = .ok (.iconst 2, 1) := by decide +kernel
theorem d_Law_law_301 : decode code 301 = .ok (.iadd, 1) := by decide +kernel
theorem d_Law_law_302 : decode code 302 = .ok (.iaload, 1) := by decide +kernel
theorem d_Law_law_303 : decode code 303 = .ok (.ifCond .eq 7, 3) := by decide +kernel
theorem d_Law_law_306 : decode code 306 = .ok (.iconst 1, 1) := by decide +kernel
theorem d_Law_law_307 : decode code 307 = .ok (.goto 4, 3) := by decide +kernel
theorem d_Law_law_310 : decode code 310 = .ok (.iconst 0, 1) := by decide +kernel
theorem d_Law_law_311 : decode code 311 = .ok (.invokevirtual 42, 3) := by decide +kernel
theorem d_Law_law_314 : decode code 314 = .ok (.aload_n 2, 1) := by decide +kernel
theorem d_Law_law_315 : decode code 315 = .ok (.aload_n 0, 1) := by decide +kernel
theorem d_Law_law_316 : decode code 316 = .ok (.iload_n 3, 1) := by decide +kernel
theorem d_Law_law_317 : decode code 317 = .ok (.iconst 1, 1) := by decide +kernel
theorem d_Law_law_318 : decode code 318 = .ok (.iadd, 1) := by decide +kernel
theorem d_Law_law_319 : decode code 319 = .ok (.iaload, 1) := by decide +kernel
theorem d_Law_law_320 : decode code 320 = .ok (.aload_n 0, 1) := by decide +kernel
theorem d_Law_law_321 : decode code 321 = .ok (.iload_n 3, 1) := by decide +kernel
theorem d_Law_law_322 : decode code 322 = .ok (.iconst 2, 1) := by decide +kernel
theorem d_Law_law_323 : decode code 323 = .ok (.iadd, 1) := by decide +kernel
theorem d_Law_law_324 : decode code 324 = .ok (.iaload, 1) := by decide +kernel
theorem d_Law_law_325 : decode code 325 = .ok (.ifCond .eq 7, 3) := by decide +kernel
theorem d_Law_law_328 : decode code 328 = .ok (.iconst 1, 1) := by decide +kernel
theorem d_Law_law_329 : decode code 329 = .ok (.goto 4, 3) := by decide +kernel
theorem d_Law_law_332 : decode code 332 = .ok (.iconst 0, 1) := by decide +kernel
theorem d_Law_law_333 : decode code 333 = .ok (.invokevirtual 46, 3) := by decide +kernel
theorem d_Law_law_336 : decode code 336 = .ok (.if_icmp .eq 231, 3) := by decide +kernel
theorem d_Law_law_339 : decode code 339 = .ok (.iconst 0, 1) := by decide +kernel
theorem d_Law_law_340 : decode code 340 = .ok (.ireturn, 1) := by decide +kernel
theorem d_Law_law_341 : decode code 341 = .ok (.aload_n 1, 1) := by decide +kernel
theorem d_Law_law_342 : decode code 342 = .ok (.aload_n 0, 1) := by decide +kernel
theorem d_Law_law_343 : decode code 343 = .ok (.iload_n 3, 1) := by decide +kernel
theorem d_Law_law_344 : decode code 344 = .ok (.iconst 1, 1) := by decide +kernel
theorem d_Law_law_345 : decode code 345 = .ok (.iadd, 1) := by decide +kernel
theorem d_Law_law_346 : decode code 346 = .ok (.iaload, 1) := by decide +kernel
theorem d_Law_law_347 : decode code 347 = .ok (.invokevirtual 47, 3) := by decide +kernel
theorem d_Law_law_350 : decode code 350 = .ok (.aload_n 2, 1) := by decide +kernel
theorem d_Law_law_351 : decode code 351 = .ok (.aload_n 0, 1) := by decide +kernel
theorem d_Law_law_352 : decode code 352 = .ok (.iload_n 3, 1) := by decide +kernel
theorem d_Law_law_353 : decode code 353 = .ok (.iconst 1, 1) := by decide +kernel
theorem d_Law_law_354 : decode code 354 = .ok (.iadd, 1) := by decide +kernel
theorem d_Law_law_355 : decode code 355 = .ok (.iaload, 1) := by decide +kernel
theorem d_Law_law_356 : decode code 356 = .ok (.invokevirtual 50, 3) := by decide +kernel
theorem d_Law_law_359 : decode code 359 = .ok (.if_icmp .eq 208, 3) := by decide +kernel
theorem d_Law_law_362 : decode code 362 = .ok (.iconst 0, 1) := by decide +kernel
theorem d_Law_law_363 : decode code 363 = .ok (.ireturn, 1) := by decide +kernel
theorem d_Law_law_364 : decode code 364 = .ok (.aload_n 1, 1) := by decide +kernel
theorem d_Law_law_365 : decode code 365 = .ok (.aload_n 0, 1) := by decide +kernel
theorem d_Law_law_366 : decode code 366 = .ok (.iload_n 3, 1) := by decide +kernel
theorem d_Law_law_367 : decode code 367 = .ok (.iconst 1, 1) := by decide +kernel
theorem d_Law_law_368 : decode code 368 = .ok (.iadd, 1) := by decide +kernel
theorem d_Law_law_369 : decode code 369 = .ok (.iaload, 1) := by decide +kernel
theorem d_Law_law_370 : decode code 370 = .ok (.aload_n 0, 1) := by decide +kernel
theorem d_Law_law_371 : decode code 371 = .ok (.iload_n 3, 1) := by decide +kernel
theorem d_Law_law_372 : decode code 372 = .ok (.iconst 2, 1) := by decide +kernel
theorem d_Law_law_373 : decode code 373 = .ok (.iadd, 1) := by decide +kernel
theorem d_Law_law_374 : decode code 374 = .ok (.iaload, 1) := by decide +kernel
theorem d_Law_law_375 : decode code 375 = .ok (.invokevirtual 51, 3) := by decide +kernel
theorem d_Law_law_378 : decode code 378 = .ok (.aload_n 2, 1) := by decide +kernel
theorem d_Law_law_379 : decode code 379 = .ok (.aload_n 0, 1) := by decide +kernel
theorem d_Law_law_380 : decode code 380 = .ok (.iload_n 3, 1) := by decide +kernel
theorem d_Law_law_381 : decode code 381 = .ok (.iconst 1, 1) := by decide +kernel
theorem d_Law_law_382 : decode code 382 = .ok (.iadd, 1) := by decide +kernel
theorem d_Law_law_383 : decode code 383 = .ok (.iaload, 1) := by decide +kernel
theorem d_Law_law_384 : decode code 384 = .ok (.aload_n 0, 1) := by decide +kernel
theorem d_Law_law_385 : decode code 385 = .ok (.iload_n 3, 1) := by decide +kernel
theorem d_Law_law_386 : decode code 386 = .ok (.iconst 2, 1) := by decide +kernel
theorem d_Law_law_387 : decode code 387 = .ok (.iadd, 1) := by decide +kernel
theorem d_Law_law_388 : decode code 388 = .ok (.iaload, 1) := by decide +kernel
theorem d_Law_law_389 : decode code 389 = .ok (.invokevirtual 55, 3) := by decide +kernel
theorem d_Law_law_392 : decode code 392 = .ok (.lcmp, 1) := by decide +kernel
theorem d_Law_law_393 : decode code 393 = .ok (.ifCond .eq 174, 3) := by decide +kernel
theorem d_Law_law_396 : decode code 396 = .ok (.iconst 0, 1) := by decide +kernel
theorem d_Law_law_397 : decode code 397 = .ok (.ireturn, 1) := by decide +kernel
theorem d_Law_law_398 : decode code 398 = .ok (.aload_n 1, 1) := by decide +kernel
theorem d_Law_law_399 : decode code 399 = .ok (.aload_n 0, 1) := by decide +kernel
theorem d_Law_law_400 : decode code 400 = .ok (.iload_n 3, 1) := by decide +kernel
theorem d_Law_law_401 : decode code 401 = .ok (.iconst 1, 1) := by decide +kernel
theorem d_Law_law_402 : decode code 402 = .ok (.iadd, 1) := by decide +kernel
theorem d_Law_law_403 : decode code 403 = .ok (.iaload, 1) := by decide +kernel
theorem d_Law_law_404 : decode code 404 = .ok (.aload_n 0, 1) := by decide +kernel
theorem d_Law_law_405 : decode code 405 = .ok (.iload_n 3, 1) := by decide +kernel
theorem d_Law_law_406 : decode code 406 = .ok (.iconst 2, 1) := by decide +kernel
theorem d_Law_law_407 : decode code 407 = .ok (.iadd, 1) := by decide +kernel
theorem d_Law_law_408 : decode code 408 = .ok (.iaload, 1) := by decide +kernel
theorem d_Law_law_409 : decode code 409 = .ok (.invokevirtual 56, 3) := by decide +kernel
theorem d_Law_law_412 : decode code 412 = .ok (.aload_n 2, 1) := by decide +kernel
theorem d_Law_law_413 : decode code 413 = .ok (.aload_n 0, 1) := by decide +kernel
theorem d_Law_law_414 : decode code 414 = .ok (.iload_n 3, 1) := by decide +kernel
theorem d_Law_law_415 : decode code 415 = .ok (.iconst 1, 1) := by decide +kernel
theorem d_Law_law_416 : decode code 416 = .ok (.iadd, 1) := by decide +kernel
theorem d_Law_law_417 : decode code 417 = .ok (.iaload, 1) := by decide +kernel
theorem d_Law_law_418 : decode code 418 = .ok (.aload_n 0, 1) := by decide +kernel
theorem d_Law_law_419 : decode code 419 = .ok (.iload_n 3, 1) := by decide +kernel
theorem d_Law_law_420 : decode code 420 = .ok (.iconst 2, 1) := by decide +kernel
theorem d_Law_law_421 : decode code 421 = .ok (.iadd, 1) := by decide +kernel
theorem d_Law_law_422 : decode code 422 = .ok (.iaload, 1) := by decide +kernel
theorem d_Law_law_423 : decode code 423 = .ok (.invokevirtual 59, 3) := by decide +kernel
theorem d_Law_law_426 : decode code 426 = .ok (.lcmp, 1) := by decide +kernel
theorem d_Law_law_427 : decode code 427 = .ok (.ifCond .eq 140, 3) := by decide +kernel
theorem d_Law_law_430 : decode code 430 = .ok (.iconst 0, 1) := by decide +kernel
theorem d_Law_law_431 : decode code 431 = .ok (.ireturn, 1) := by decide +kernel
theorem d_Law_law_432 : decode code 432 = .ok (.aload_n 1, 1) := by decide +kernel
theorem d_Law_law_433 : decode code 433 = .ok (.aload_n 0, 1) := by decide +kernel
theorem d_Law_law_434 : decode code 434 = .ok (.iload_n 3, 1) := by decide +kernel
theorem d_Law_law_435 : decode code 435 = .ok (.iconst 1, 1) := by decide +kernel
theorem d_Law_law_436 : decode code 436 = .ok (.iadd, 1) := by decide +kernel
theorem d_Law_law_437 : decode code 437 = .ok (.iaload, 1) := by decide +kernel
theorem d_Law_law_438 : decode code 438 = .ok (.invokevirtual 60, 3) := by decide +kernel
theorem d_Law_law_441 : decode code 441 = .ok (.aload_n 2, 1) := by decide +kernel
theorem d_Law_law_442 : decode code 442 = .ok (.aload_n 0, 1) := by decide +kernel
theorem d_Law_law_443 : decode code 443 = .ok (.iload_n 3, 1) := by decide +kernel
theorem d_Law_law_444 : decode code 444 = .ok (.iconst 1, 1) := by decide +kernel
theorem d_Law_law_445 : decode code 445 = .ok (.iadd, 1) := by decide +kernel
theorem d_Law_law_446 : decode code 446 = .ok (.iaload, 1) := by decide +kernel
theorem d_Law_law_447 : decode code 447 = .ok (.invokevirtual 63, 3) := by decide +kernel
theorem d_Law_law_450 : decode code 450 = .ok (.if_icmp .eq 117, 3) := by decide +kernel
theorem d_Law_law_453 : decode code 453 = .ok (.iconst 0, 1) := by decide +kernel
theorem d_Law_law_454 : decode code 454 = .ok (.ireturn, 1) := by decide +kernel
theorem d_Law_law_455 : decode code 455 = .ok (.aload_n 1, 1) := by decide +kernel
theorem d_Law_law_456 : decode code 456 = .ok (.aload_n 0, 1) := by decide +kernel
theorem d_Law_law_457 : decode code 457 = .ok (.iload_n 3, 1) := by decide +kernel
theorem d_Law_law_458 : decode code 458 = .ok (.iconst 1, 1) := by decide +kernel
theorem d_Law_law_459 : decode code 459 = .ok (.iadd, 1) := by decide +kernel
theorem d_Law_law_460 : decode code 460 = .ok (.iaload, 1) := by decide +kernel
theorem d_Law_law_461 : decode code 461 = .ok (.aload_n 0, 1) := by decide +kernel
theorem d_Law_law_462 : decode code 462 = .ok (.iload_n 3, 1) := by decide +kernel
theorem d_Law_law_463 : decode code 463 = .ok (.iconst 2, 1) := by decide +kernel
theorem d_Law_law_464 : decode code 464 = .ok (.iadd, 1) := by decide +kernel
theorem d_Law_law_465 : decode code 465 = .ok (.iaload, 1) := by decide +kernel
theorem d_Law_law_466 : decode code 466 = .ok (.invokevirtual 64, 3) := by decide +kernel
theorem d_Law_law_469 : decode code 469 = .ok (.aload_n 2, 1) := by decide +kernel
theorem d_Law_law_470 : decode code 470 = .ok (.aload_n 0, 1) := by decide +kernel
theorem d_Law_law_471 : decode code 471 = .ok (.iload_n 3, 1) := by decide +kernel
theorem d_Law_law_472 : decode code 472 = .ok (.iconst 1, 1) := by decide +kernel
theorem d_Law_law_473 : decode code 473 = .ok (.iadd, 1) := by decide +kernel
theorem d_Law_law_474 : decode code 474 = .ok (.iaload, 1) := by decide +kernel
theorem d_Law_law_475 : decode code 475 = .ok (.aload_n 0, 1) := by decide +kernel
theorem d_Law_law_476 : decode code 476 = .ok (.iload_n 3, 1) := by decide +kernel
theorem d_Law_law_477 : decode code 477 = .ok (.iconst 2, 1) := by decide +kernel
theorem d_Law_law_478 : decode code 478 = .ok (.iadd, 1) := by decide +kernel
theorem d_Law_law_479 : decode code 479 = .ok (.iaload, 1) := by decide +kernel
theorem d_Law_law_480 : decode code 480 = .ok (.invokevirtual 67, 3) := by decide +kernel
theorem d_Law_law_483 : decode code 483 = .ok (.if_icmp .eq 84, 3) := by decide +kernel
theorem d_Law_law_486 : decode code 486 = .ok (.iconst 0, 1) := by decide +kernel
theorem d_Law_law_487 : decode code 487 = .ok (.ireturn, 1) := by decide +kernel
theorem d_Law_law_488 : decode code 488 = .ok (.aload_n 1, 1) := by decide +kernel
theorem d_Law_law_489 : decode code 489 = .ok (.aload_n 0, 1) := by decide +kernel
theorem d_Law_law_490 : decode code 490 = .ok (.iload_n 3, 1) := by decide +kernel
theorem d_Law_law_491 : decode code 491 = .ok (.iconst 1, 1) := by decide +kernel
theorem d_Law_law_492 : decode code 492 = .ok (.iadd, 1) := by decide +kernel
theorem d_Law_law_493 : decode code 493 = .ok (.iaload, 1) := by decide +kernel
theorem d_Law_law_494 : decode code 494 = .ok (.aload_n 0, 1) := by decide +kernel
theorem d_Law_law_495 : decode code 495 = .ok (.iload_n 3, 1) := by decide +kernel
theorem d_Law_law_496 : decode code 496 = .ok (.iconst 2, 1) := by decide +kernel
theorem d_Law_law_497 : decode code 497 = .ok (.iadd, 1) := by decide +kernel
theorem d_Law_law_498 : decode code 498 = .ok (.iaload, 1) := by decide +kernel
theorem d_Law_law_499 : decode code 499 = .ok (.invokevirtual 68, 3) := by decide +kernel
theorem d_Law_law_502 : decode code 502 = .ok (.aload_n 2, 1) := by decide +kernel
theorem d_Law_law_503 : decode code 503 = .ok (.aload_n 0, 1) := by decide +kernel
theorem d_Law_law_504 : decode code 504 = .ok (.iload_n 3, 1) := by decide +kernel
theorem d_Law_law_505 : decode code 505 = .ok (.iconst 1, 1) := by decide +kernel
theorem d_Law_law_506 : decode code 506 = .ok (.iadd, 1) := by decide +kernel
theorem d_Law_law_507 : decode code 507 = .ok (.iaload, 1) := by decide +kernel
theorem d_Law_law_508 : decode code 508 = .ok (.aload_n 0, 1) := by decide +kernel
theorem d_Law_law_509 : decode code 509 = .ok (.iload_n 3, 1) := by decide +kernel
theorem d_Law_law_510 : decode code 510 = .ok (.iconst 2, 1) := by decide +kernel
theorem d_Law_law_511 : decode code 511 = .ok (.iadd, 1) := by decide +kernel
theorem d_Law_law_512 : decode code 512 = .ok (.iaload, 1) := by decide +kernel
theorem d_Law_law_513 : decode code 513 = .ok (.invokevirtual 72, 3) := by decide +kernel
theorem d_Law_law_516 : decode code 516 = .ok (.if_icmp .eq 51, 3) := by decide +kernel
theorem d_Law_law_519 : decode code 519 = .ok (.iconst 0, 1) := by decide +kernel
theorem d_Law_law_520 : decode code 520 = .ok (.ireturn, 1) := by decide +kernel
theorem d_Law_law_521 : decode code 521 = .ok (.aload_n 1, 1) := by decide +kernel
theorem d_Law_law_522 : decode code 522 = .ok (.aload_n 0, 1) := by decide +kernel
theorem d_Law_law_523 : decode code 523 = .ok (.iload_n 3, 1) := by decide +kernel
theorem d_Law_law_524 : decode code 524 = .ok (.iconst 1, 1) := by decide +kernel
theorem d_Law_law_525 : decode code 525 = .ok (.iadd, 1) := by decide +kernel
theorem d_Law_law_526 : decode code 526 = .ok (.iaload, 1) := by decide +kernel
theorem d_Law_law_527 : decode code 527 = .ok (.aload_n 0, 1) := by decide +kernel
theorem d_Law_law_528 : decode code 528 = .ok (.iload_n 3, 1) := by decide +kernel
theorem d_Law_law_529 : decode code 529 = .ok (.iconst 2, 1) := by decide +kernel
theorem d_Law_law_530 : decode code 530 = .ok (.iadd, 1) := by decide +kernel
theorem d_Law_law_531 : decode code 531 = .ok (.iaload, 1) := by decide +kernel
theorem d_Law_law_532 : decode code 532 = .ok (.invokevirtual 73, 3) := by decide +kernel
theorem d_Law_law_535 : decode code 535 = .ok (.aload_n 2, 1) := by decide +kernel
theorem d_Law_law_536 : decode code 536 = .ok (.aload_n 0, 1) := by decide +kernel
theorem d_Law_law_537 : decode code 537 = .ok (.iload_n 3, 1) := by decide +kernel
theorem d_Law_law_538 : decode code 538 = .ok (.iconst 1, 1) := by decide +kernel
theorem d_Law_law_539 : decode code 539 = .ok (.iadd, 1) := by decide +kernel
theorem d_Law_law_540 : decode code 540 = .ok (.iaload, 1) := by decide +kernel
theorem d_Law_law_541 : decode code 541 = .ok (.aload_n 0, 1) := by decide +kernel
theorem d_Law_law_542 : decode code 542 = .ok (.iload_n 3, 1) := by decide +kernel
theorem d_Law_law_543 : decode code 543 = .ok (.iconst 2, 1) := by decide +kernel
theorem d_Law_law_544 : decode code 544 = .ok (.iadd, 1) := by decide +kernel
theorem d_Law_law_545 : decode code 545 = .ok (.iaload, 1) := by decide +kernel
theorem d_Law_law_546 : decode code 546 = .ok (.invokevirtual 76, 3) := by decide +kernel
theorem d_Law_law_549 : decode code 549 = .ok (.if_icmp .eq 18, 3) := by decide +kernel
theorem d_Law_law_552 : decode code 552 = .ok (.iconst 0, 1) := by decide +kernel
theorem d_Law_law_553 : decode code 553 = .ok (.ireturn, 1) := by decide +kernel
theorem d_Law_law_554 : decode code 554 = .ok (.aload_n 1, 1) := by decide +kernel
theorem d_Law_law_555 : decode code 555 = .ok (.invokevirtual 77, 3) := by decide +kernel
theorem d_Law_law_558 : decode code 558 = .ok (.aload_n 2, 1) := by decide +kernel
theorem d_Law_law_559 : decode code 559 = .ok (.invokevirtual 80, 3) := by decide +kernel
theorem d_Law_law_562 : decode code 562 = .ok (.if_icmp .eq 5, 3) := by decide +kernel
theorem d_Law_law_565 : decode code 565 = .ok (.iconst 0, 1) := by decide +kernel
theorem d_Law_law_566 : decode code 566 = .ok (.ireturn, 1) := by decide +kernel
theorem d_Law_law_567 : decode code 567 = .ok (.iinc 3 6, 3) := by decide +kernel
theorem d_Law_law_570 : decode code 570 = .ok (.goto (-552), 3) := by decide +kernel
theorem d_Law_law_573 : decode code 573 = .ok (.iconst 1, 1) := by decide +kernel
theorem d_Law_law_574 : decode code 574 = .ok (.ireturn, 1) := by decide +kernel
