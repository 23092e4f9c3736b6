theorem dL_law_49 : decode code 49 = .ok (.iand, 1) := by decide +kernel
theorem dL_law_50 : decode code 50 = .ok (.tableswitch 624 0 11 #[62, 127, 152, 201, 226, 251, 288, 325, 362, 388, 425, 568], 62) := by decide +kernel
theorem dL_law_112 : decode code 112 = .ok (.aload_n 1, 1) := by decide +kernel
theorem dL_law_113 : decode code 113 = .ok (.aload_n 0, 1) := by decide +kernel
theorem dL_law_114 : decode code 114 = .ok (.iload 4, 2) := by decide +kernel
theorem dL_law_116 : decode code 116 = .ok (.iconst 1, 1) := by decide +kernel
theorem dL_law_117 : decode code 117 = .ok (.iadd, 1) := by decide +kernel
theorem dL_law_118 : decode code 118 = .ok (.iaload, 1) := by decide +kernel
theorem dL_law_119 : decode code 119 = .ok (.aload_n 0, 1) := by decide +kernel
theorem dL_law_120 : decode code 120 = .ok (.iload 4, 2) := by decide +kernel
theorem dL_law_122 : decode code 122 = .ok (.iconst 2, 1) := by decide +kernel
theorem dL_law_123 : decode code 123 = .ok (.iadd, 1) := by decide +kernel
theorem dL_law_124 : decode code 124 = .ok (.iaload, 1) := by decide +kernel
theorem dL_law_125 : decode code 125 = .ok (.aload_n 0, 1) := by decide +kernel
theorem dL_law_126 : decode code 126 = .ok (.iload 4, 2) := by decide +kernel
theorem dL_law_128 : decode code 128 = .ok (.iconst 3, 1) := by decide +kernel
theorem dL_law_129 : decode code 129 = .ok (.iadd, 1) := by decide +kernel
theorem dL_law_130 : decode code 130 = .ok (.iaload, 1) := by decide +kernel
theorem dL_law_131 : decode code 131 = .ok (.ifCond .eq 7, 3) := by decide +kernel
theorem dL_law_138 : decode code 138 = .ok (.iconst 0, 1) := by decide +kernel
theorem dL_law_139 : decode code 139 = .ok (.invokevirtual 33, 3) := by decide +kernel
theorem dL_law_142 : decode code 142 = .ok (.aload_n 2, 1) := by decide +kernel
theorem dL_law_143 : decode code 143 = .ok (.aload_n 0, 1) := by decide +kernel
theorem dL_law_144 : decode code 144 = .ok (.iload 4, 2) := by decide +kernel
theorem dL_law_146 : decode code 146 = .ok (.iconst 1, 1) := by decide +kernel
theorem dL_law_147 : decode code 147 = .ok (.iadd, 1) := by decide +kernel
theorem dL_law_148 : decode code 148 = .ok (.iaload, 1) := by decide +kernel
theorem dL_law_149 : decode code 149 = .ok (.aload_n 0, 1) := by decide +kernel
theorem dL_law_150 : decode code 150 = .ok (.iload 4, 2) := by decide +kernel
theorem dL_law_152 : decode code 152 = .ok (.iconst 2, 1) := by decide +kernel
theorem dL_law_153 : decode code 153 = .ok (.iadd, 1) := by decide +kernel
theorem dL_law_154 : decode code 154 = .ok (.iaload, 1) := by decide +kernel
theorem dL_law_155 : decode code 155 = .ok (.aload_n 0, 1) := by decide +kernel
theorem dL_law_156 : decode code 156 = .ok (.iload 4, 2) := by decide +kernel
theorem dL_law_158 : decode code 158 = .ok (.iconst 3, 1) := by decide +kernel
theorem dL_law_159 : decode code 159 = .ok (.iadd, 1) := by decide +kernel
theorem dL_law_160 : decode code 160 = .ok (.iaload, 1) := by decide +kernel
theorem dL_law_161 : decode code 161 = .ok (.ifCond .eq 7, 3) := by decide +kernel
theorem dL_law_168 : decode code 168 = .ok (.iconst 0, 1) := by decide +kernel
theorem dL_law_169 : decode code 169 = .ok (.invokevirtual 37, 3) := by decide +kernel
theorem dL_law_172 : decode code 172 = .ok (.if_icmp .eq 502, 3) := by decide +kernel
theorem dL_law_674 : decode code 674 = .ok (.iinc 4 6, 3) := by decide +kernel
theorem dL_law_677 : decode code 677 = .ok (.goto (-644), 3) := by decide +kernel
theorem dL_law_175 : decode code 175 = .ok (.iconst 0, 1) := by decide +kernel
theorem dL_law_176 : decode code 176 = .ok (.ireturn, 1) := by decide +kernel
theorem dL_law_164 : decode code 164 = .ok (.iconst 1, 1) := by decide +kernel
theorem dL_law_165 : decode code 165 = .ok (.goto 4, 3) := by decide +kernel
theorem dL_law_134 : decode code 134 = .ok (.iconst 1, 1) := by decide +kernel
theorem dL_law_135 : decode code 135 = .ok (.goto 4, 3) := by decide +kernel
theorem dL_law_177 : decode code 177 = .ok (.aload_n 1, 1) := by decide +kernel
theorem dL_law_178 : decode code 178 = .ok (.aload_n 0, 1) := by decide +kernel
theorem dL_law_179 : decode code 179 = .ok (.iload 4, 2) := by decide +kernel
theorem dL_law_181 : decode code 181 = .ok (.iconst 1, 1) := by decide +kernel
theorem dL_law_182 : decode code 182 = .ok (.iadd, 1) := by decide +kernel
theorem dL_law_183 : decode code 183 = .ok (.iaload, 1) := by decide +kernel
theorem dL_law_184 : decode code 184 = .ok (.invokevirtual 38, 3) := by decide +kernel
theorem dL_law_187 : decode code 187 = .ok (.aload_n 2, 1) := by decide +kernel
theorem dL_law_188 : decode code 188 = .ok (.aload_n 0, 1) := by decide +kernel
theorem dL_law_189 : decode code 189 = .ok (.iload 4, 2) := by decide +kernel
theorem dL_law_191 : decode code 191 = .ok (.iconst 1, 1) := by decide +kernel
theorem dL_law_192 : decode code 192 = .ok (.iadd, 1) := by decide +kernel
theorem dL_law_193 : decode code 193 = .ok (.iaload, 1) := by decide +kernel
theorem dL_law_194 : decode code 194 = .ok (.invokevirtual 41, 3) := by decide +kernel
theorem dL_law_197 : decode code 197 = .ok (.if_icmp .eq 477, 3) := by decide +kernel
theorem dL_law_200 : decode code 200 = .ok (.iconst 0, 1) := by decide +kernel
theorem dL_law_201 : decode code 201 = .ok (.ireturn, 1) := by decide +kernel
theorem dL_law_202 : decode code 202 = .ok (.aload_n 1, 1) := by decide +kernel
theorem dL_law_203 : decode code 203 = .ok (.aload_n 0, 1) := by decide +kernel
theorem dL_law_204 : decode code 204 = .ok (.iload 4, 2) := by decide +kernel
theorem dL_law_206 : decode code 206 = .ok (.iconst 1, 1) := by decide +kernel
theorem dL_law_207 : decode code 207 = .ok (.iadd, 1) := by decide +kernel
theorem dL_law_208 : decode code 208 = .ok (.iaload, 1) := by decide +kernel
theorem dL_law_209 : decode code 209 = .ok (.aload_n 0, 1) := by decide +kernel
theorem dL_law_210 : decode code 210 = .ok (.iload 4, 2) := by decide +kernel
theorem dL_law_212 : decode code 212 = .ok (.iconst 2, 1) := by decide +kernel
theorem dL_law_213 : decode code 213 = .ok (.iadd, 1) := by decide +kernel
theorem dL_law_214 : decode code 214 = .ok (.iaload, 1) := by decide +kernel
theorem dL_law_215 : decode code 215 = .ok (.aload_n 0, 1) := by decide +kernel
theorem dL_law_216 : decode code 216 = .ok (.iload 4, 2) := by decide +kernel
theorem dL_law_218 : decode code 218 = .ok (.iconst 3, 1) := by decide +kernel
theorem dL_law_219 : decode code 219 = .ok (.iadd, 1) := by decide +kernel
theorem dL_law_220 : decode code 220 = .ok (.iaload, 1) := by decide +kernel
theorem dL_law_221 : decode code 221 = .ok (.invokevirtual 42, 3) := by decide +kernel
theorem dL_law_224 : decode code 224 = .ok (.aload_n 2, 1) := by decide +kernel
theorem dL_law_225 : decode code 225 = .ok (.aload_n 0, 1) := by decide +kernel
theorem dL_law_226 : decode code 226 = .ok (.iload 4, 2) := by decide +kernel
theorem dL_law_228 : decode code 228 = .ok (.iconst 1, 1) := by decide +kernel
theorem dL_law_229 : decode code 229 = .ok (.iadd, 1) := by decide +kernel
theorem dL_law_230 : decode code 230 = .ok (.iaload, 1) := by decide +kernel
theorem dL_law_231 : decode code 231 = .ok (.aload_n 0, 1) := by decide +kernel
theorem dL_law_232 : decode code 232 = .ok (.iload 4, 2) := by decide +kernel
theorem dL_law_234 : decode code 234 = .ok (.iconst 2, 1) := by decide +kernel
theorem dL_law_235 : decode code 235 = .ok (.iadd, 1) := by decide +kernel
theorem dL_law_236 : decode code 236 = .ok (.iaload, 1) := by decide +kernel
theorem dL_law_237 : decode code 237 = .ok (.aload_n 0, 1) := by decide +kernel
theorem dL_law_238 : decode code 238 = .ok (.iload 4, 2) := by decide +kernel
theorem dL_law_240 : decode code 240 = .ok (.iconst 3, 1) := by decide +kernel
theorem dL_law_241 : decode code 241 = .ok (.iadd, 1) := by decide +kernel
theorem dL_law_242 : decode code 242 = .ok (.iaload, 1) := by decide +kernel
theorem dL_law_243 : decode code 243 = .ok (.invokevirtual 46, 3) := by decide +kernel
theorem dL_law_246 : decode code 246 = .ok (.if_icmp .eq 428, 3) := by decide +kernel
theorem dL_law_249 : decode code 249 = .ok (.iconst 0, 1) := by decide +kernel
theorem dL_law_250 : decode code 250 = .ok (.ireturn, 1) := by decide +kernel
theorem dL_law_251 : decode code 251 = .ok (.aload_n 1, 1) := by decide +kernel
theorem dL_law_252 : decode code 252 = .ok (.aload_n 0, 1) := by decide +kernel
theorem dL_law_253 : decode code 253 = .ok (.iload 4, 2) := by decide +kernel
theorem dL_law_255 : decode code 255 = .ok (.iconst 1, 1) := by decide +kernel
theorem dL_law_256 : decode code 256 = .ok (.iadd, 1) := by decide +kernel
theorem dL_law_257 : decode code 257 = .ok (.iaload, 1) := by decide +kernel
theorem dL_law_258 : decode code 258 = .ok (.invokevirtual 47, 3) := by decide +kernel
theorem dL_law_261 : decode code 261 = .ok (.aload_n 2, 1) := by decide +kernel
theorem dL_law_262 : decode code 262 = .ok (.aload_n 0, 1) := by decide +kernel
theorem dL_law_263 : decode code 263 = .ok (.iload 4, 2) := by decide +kernel
theorem dL_law_265 : decode code 265 = .ok (.iconst 1, 1) := by decide +kernel
theorem dL_law_266 : decode code 266 = .ok (.iadd, 1) := by decide +kernel
theorem dL_law_267 : decode code 267 = .ok (.iaload, 1) := by decide +kernel
theorem dL_law_268 : decode code 268 = .ok (.invokevirtual 50, 3) := by decide +kernel
theorem dL_law_271 : decode code 271 = .ok (.if_icmp .eq 403, 3) := by decide +kernel
theorem dL_law_274 : decode code 274 = .ok (.iconst 0, 1) := by decide +kernel
theorem dL_law_275 : decode code 275 = .ok (.ireturn, 1) := by decide +kernel
theorem dL_law_276 : decode code 276 = .ok (.aload_n 1, 1) := by decide +kernel
theorem dL_law_277 : decode code 277 = .ok (.aload_n 0, 1) := by decide +kernel
theorem dL_law_278 : decode code 278 = .ok (.iload 4, 2) := by decide +kernel
theorem dL_law_280 : decode code 280 = .ok (.iconst 1, 1) := by decide +kernel
theorem dL_law_281 : decode code 281 = .ok (.iadd, 1) := by decide +kernel
theorem dL_law_282 : decode code 282 = .ok (.iaload, 1) := by decide +kernel
theorem dL_law_283 : decode code 283 = .ok (.invokevirtual 51, 3) := by decide +kernel
theorem dL_law_286 : decode code 286 = .ok (.aload_n 2, 1) := by decide +kernel
theorem dL_law_287 : decode code 287 = .ok (.aload_n 0, 1) := by decide +kernel
theorem dL_law_288 : decode code 288 = .ok (.iload 4, 2) := by decide +kernel
theorem dL_law_290 : decode code 290 = .ok (.iconst 1, 1) := by decide +kernel
theorem dL_law_291 : decode code 291 = .ok (.iadd, 1) := by decide +kernel
theorem dL_law_292 : decode code 292 = .ok (.iaload, 1) := by decide +kernel
theorem dL_law_293 : decode code 293 = .ok (.invokevirtual 54, 3) := by decide +kernel
theorem dL_law_296 : decode code 296 = .ok (.if_icmp .eq 378, 3) := by decide +kernel
theorem dL_law_299 : decode code 299 = .ok (.iconst 0, 1) := by decide +kernel
theorem dL_law_300 : decode code 300 = .ok (.ireturn, 1) := by decide +kernel
theorem dL_law_301 : decode code 301 = .ok (.aload_n 1, 1) := by decide +kernel
theorem dL_law_302 : decode code 302 = .ok (.aload_n 0, 1) := by decide +kernel
theorem dL_law_303 : decode code 303 = .ok (.iload 4, 2) := by decide +kernel
theorem dL_law_305 : decode code 305 = .ok (.iconst 1, 1) := by decide +kernel
theorem dL_law_306 : decode code 306 = .ok (.iadd, 1) := by decide +kernel
theorem dL_law_307 : decode code 307 = .ok (.iaload, 1) := by decide +kernel
theorem dL_law_308 : decode code 308 = .ok (.aload_n 0, 1) := by decide +kernel
theorem dL_law_309 : decode code 309 = .ok (.iload 4, 2) := by decide +kernel
theorem dL_law_311 : decode code 311 = .ok (.iconst 2, 1) := by decide +kernel
theorem dL_law_312 : decode code 312 = .ok (.iadd, 1) := by decide +kernel
theorem dL_law_313 : decode code 313 = .ok (.iaload, 1) := by decide +kernel
theorem dL_law_314 : decode code 314 = .ok (.invokevirtual 55, 3) := by decide +kernel
theorem dL_law_317 : decode code 317 = .ok (.aload_n 2, 1) := by decide +kernel
theorem dL_law_318 : decode code 318 = .ok (.aload_n 0, 1) := by decide +kernel
theorem dL_law_319 : decode code 319 = .ok (.iload 4, 2) := by decide +kernel
theorem dL_law_321 : decode code 321 = .ok (.iconst 1, 1) := by decide +kernel
theorem dL_law_322 : decode code 322 = .ok (.iadd, 1) := by decide +kernel
theorem dL_law_323 : decode code 323 = .ok (.iaload, 1) := by decide +kernel
theorem dL_law_324 : decode code 324 = .ok (.aload_n 0, 1) := by decide +kernel
theorem dL_law_325 : decode code 325 = .ok (.iload 4, 2) := by decide +kernel
theorem dL_law_327 : decode code 327 = .ok (.iconst 2, 1) := by decide +kernel
theorem dL_law_328 : decode code 328 = .ok (.iadd, 1) := by decide +kernel
theorem dL_law_329 : decode code 329 = .ok (.iaload, 1) := by decide +kernel
theorem dL_law_330 : decode code 330 = .ok (.invokevirtual 59, 3) := by decide +kernel
theorem dL_law_333 : decode code 333 = .ok (.if_icmp .eq 341, 3) := by decide +kernel
theorem dL_law_336 : decode code 336 = .ok (.iconst 0, 1) := by decide +kernel
theorem dL_law_337 : decode code 337 = .ok (.ireturn, 1) := by decide +kernel
theorem dL_law_338 : decode code 338 = .ok (.aload_n 1, 1) := by decide +kernel
theorem dL_law_339 : decode code 339 = .ok (.aload_n 0, 1) := by decide +kernel
theorem dL_law_340 : decode code 340 = .ok (.iload 4, 2) := by decide +kernel
theorem dL_law_342 : decode code 342 = .ok (.iconst 1, 1) := by decide +kernel
theorem dL_law_343 : decode code 343 = .ok (.iadd, 1) := by decide +kernel
theorem dL_law_344 : decode code 344 = .ok (.iaload, 1) := by decide +kernel
theorem dL_law_345 : decode code 345 = .ok (.aload_n 0, 1) := by decide +kernel
theorem dL_law_346 : decode code 346 = .ok (.iload 4, 2) := by decide +kernel
theorem dL_law_348 : decode code 348 = .ok (.iconst 2, 1) := by decide +kernel
theorem dL_law_349 : decode code 349 = .ok (.iadd, 1) := by decide +kernel
theorem dL_law_350 : decode code 350 = .ok (.iaload, 1) := by decide +kernel
theorem dL_law_351 : decode code 351 = .ok (.invokevirtual 60, 3) := by decide +kernel
theorem dL_law_354 : decode code 354 = .ok (.aload_n 2, 1) := by decide +kernel
theorem dL_law_355 : decode code 355 = .ok (.aload_n 0, 1) := by decide +kernel
theorem dL_law_356 : decode code 356 = .ok (.iload 4, 2) := by decide +kernel
theorem dL_law_358 : decode code 358 = .ok (.iconst 1, 1) := by decide +kernel
theorem dL_law_359 : decode code 359 = .ok (.iadd, 1) := by decide +kernel
theorem dL_law_360 : decode code 360 = .ok (.iaload, 1) := by decide +kernel
theorem dL_law_361 : decode code 361 = .ok (.aload_n 0, 1) := by decide +kernel
theorem dL_law_362 : decode code 362 = .ok (.iload 4, 2) := by decide +kernel
theorem dL_law_364 : decode code 364 = .ok (.iconst 2, 1) := by decide +kernel
theorem dL_law_365 : decode code 365 = .ok (.iadd, 1) := by decide +kernel
theorem dL_law_366 : decode code 366 = .ok (.iaload, 1) := by decide +kernel
theorem dL_law_367 : decode code 367 = .ok (.invokevirtual 63, 3) := by decide +kernel
theorem dL_law_370 : decode code 370 = .ok (.if_icmp .eq 304, 3) := by decide +kernel
theorem dL_law_373 : decode code 373 = .ok (.iconst 0, 1) := by decide +kernel
theorem dL_law_374 : decode code 374 = .ok (.ireturn, 1) := by decide +kernel
theorem dL_law_375 : decode code 375 = .ok (.aload_n 1, 1) := by decide +kernel
theorem dL_law_376 : decode code 376 = .ok (.aload_n 0, 1) := by decide +kernel
theorem dL_law_377 : decode code 377 = .ok (.iload 4, 2) := by decide +kernel
theorem dL_law_379 : decode code 379 = .ok (.iconst 1, 1) := by decide +kernel
theorem dL_law_380 : decode code 380 = .ok (.iadd, 1) := by decide +kernel
theorem dL_law_381 : decode code 381 = .ok (.iaload, 1) := by decide +kernel
theorem dL_law_382 : decode code 382 = .ok (.aload_n 0, 1) := by decide +kernel
theorem dL_law_383 : decode code 383 = .ok (.iload 4, 2) := by decide +kernel
theorem dL_law_385 : decode code 385 = .ok (.iconst 2, 1) := by decide +kernel
theorem dL_law_386 : decode code 386 = .ok (.iadd, 1) := by decide +kernel
theorem dL_law_387 : decode code 387 = .ok (.iaload, 1) := by decide +kernel
theorem dL_law_388 : decode code 388 = .ok (.invokevirtual 64, 3) := by decide +kernel
theorem dL_law_391 : decode code 391 = .ok (.aload_n 2, 1) := by decide +kernel
theorem dL_law_392 : decode code 392 = .ok (.aload_n 0, 1) := by decide +kernel
theorem dL_law_393 : decode code 393 = .ok (.iload 4, 2) := by decide +kernel
theorem dL_law_395 : decode code 395 = .ok (.iconst 1, 1) := by decide +kernel
theorem dL_law_396 : decode code 396 = .ok (.iadd, 1) := by decide +kernel
theorem dL_law_397 : decode code 397 = .ok (.iaload, 1) := by decide +kernel
theorem dL_law_398 : decode code 398 = .ok (.aload_n 0, 1) := by decide +kernel
theorem dL_law_399 : decode code 399 = .ok (.iload 4, 2) := by decide +kernel
theorem dL_law_401 : decode code 401 = .ok (.iconst 2, 1) := by decide +kernel
theorem dL_law_402 : decode code 402 = .ok (.iadd, 1) := by decide +kernel
theorem dL_law_403 : decode code 403 = .ok (.iaload, 1) := by decide +kernel
theorem dL_law_404 : decode code 404 = .ok (.invokevirtual 67, 3) := by decide +kernel
theorem dL_law_407 : decode code 407 = .ok (.if_icmp .eq 267, 3) := by decide +kernel
theorem dL_law_410 : decode code 410 = .ok (.iconst 0, 1) := by decide +kernel
theorem dL_law_411 : decode code 411 = .ok (.ireturn, 1) := by decide +kernel
theorem dL_law_412 : decode code 412 = .ok (.aload_n 1, 1) := by decide +kernel
theorem dL_law_413 : decode code 413 = .ok (.aload_n 0, 1) := by decide +kernel
theorem dL_law_414 : decode code 414 = .ok (.iload 4, 2) := by decide +kernel
theorem dL_law_416 : decode code 416 = .ok (.iconst 1, 1) := by decide +kernel
theorem dL_law_417 : decode code 417 = .ok (.iadd, 1) := by decide +kernel
theorem dL_law_418 : decode code 418 = .ok (.iaload, 1) := by decide +kernel
theorem dL_law_419 : decode code 419 = .ok (.invokevirtual 68, 3) := by decide +kernel
theorem dL_law_422 : decode code 422 = .ok (.aload_n 2, 1) := by decide +kernel
theorem dL_law_423 : decode code 423 = .ok (.aload_n 0, 1) := by decide +kernel
theorem dL_law_424 : decode code 424 = .ok (.iload 4, 2) := by decide +kernel
theorem dL_law_426 : decode code 426 = .ok (.iconst 1, 1) := by decide +kernel
theorem dL_law_427 : decode code 427 = .ok (.iadd, 1) := by decide +kernel
theorem dL_law_428 : decode code 428 = .ok (.iaload, 1) := by decide +kernel
theorem dL_law_429 : decode code 429 = .ok (.invokevirtual 71, 3) := by decide +kernel
theorem dL_law_432 : decode code 432 = .ok (.lcmp, 1) := by decide +kernel
theorem dL_law_433 : decode code 433 = .ok (.ifCond .eq 241, 3) := by decide +kernel
theorem dL_law_436 : decode code 436 = .ok (.iconst 0, 1) := by decide +kernel
theorem dL_law_437 : decode code 437 = .ok (.ireturn, 1) := by decide +kernel
theorem dL_law_438 : decode code 438 = .ok (.aload_n 1, 1) := by decide +kernel
theorem dL_law_439 : decode code 439 = .ok (.aload_n 0, 1) := by decide +kernel
theorem dL_law_440 : decode code 440 = .ok (.iload 4, 2) := by decide +kernel
theorem dL_law_442 : decode code 442 = .ok (.iconst 1, 1) := by decide +kernel
theorem dL_law_443 : decode code 443 = .ok (.iadd, 1) := by decide +kernel
theorem dL_law_444 : decode code 444 = .ok (.iaload, 1) := by decide +kernel
theorem dL_law_445 : decode code 445 = .ok (.aload_n 0, 1) := by decide +kernel
theorem dL_law_446 : decode code 446 = .ok (.iload 4, 2) := by decide +kernel
theorem dL_law_448 : decode code 448 = .ok (.iconst 2, 1) := by decide +kernel
theorem dL_law_449 : decode code 449 = .ok (.iadd, 1) := by decide +kernel
theorem dL_law_450 : decode code 450 = .ok (.iaload, 1) := by decide +kernel
theorem dL_law_451 : decode code 451 = .ok (.invokevirtual 72, 3) := by decide +kernel
theorem dL_law_454 : decode code 454 = .ok (.aload_n 2, 1) := by decide +kernel
theorem dL_law_455 : decode code 455 = .ok (.aload_n 0, 1) := by decide +kernel
theorem dL_law_456 : decode code 456 = .ok (.iload 4, 2) := by decide +kernel
theorem dL_law_458 : decode code 458 = .ok (.iconst 1, 1) := by decide +kernel
theorem dL_law_459 : decode code 459 = .ok (.iadd, 1) := by decide +kernel
theorem dL_law_460 : decode code 460 = .ok (.iaload, 1) := by decide +kernel
theorem dL_law_461 : decode code 461 = .ok (.aload_n 0, 1) := by decide +kernel
theorem dL_law_462 : decode code 462 = .ok (.iload 4, 2) := by decide +kernel
theorem dL_law_464 : decode code 464 = .ok (.iconst 2, 1) := by decide +kernel
theorem dL_law_465 : decode code 465 = .ok (.iadd, 1) := by decide +kernel
theorem dL_law_466 : decode code 466 = .ok (.iaload, 1) := by decide +kernel
theorem dL_law_467 : decode code 467 = .ok (.invokevirtual 76, 3) := by decide +kernel
theorem dL_law_470 : decode code 470 = .ok (.if_icmp .eq 204, 3) := by decide +kernel
theorem dL_law_473 : decode code 473 = .ok (.iconst 0, 1) := by decide +kernel
theorem dL_law_474 : decode code 474 = .ok (.ireturn, 1) := by decide +kernel
theorem dL_law_475 : decode code 475 = .ok (.aload_n 1, 1) := by decide +kernel
theorem dL_law_476 : decode code 476 = .ok (.aload_n 0, 1) := by decide +kernel
theorem dL_law_477 : decode code 477 = .ok (.iload 4, 2) := by decide +kernel
theorem dL_law_479 : decode code 479 = .ok (.iconst 1, 1) := by decide +kernel
theorem dL_law_480 : decode code 480 = .ok (.iadd, 1) := by decide +kernel
theorem dL_law_481 : decode code 481 = .ok (.iaload, 1) := by decide +kernel
theorem dL_law_482 : decode code 482 = .ok (.aload_n 0, 1) := by decide +kernel
theorem dL_law_483 : decode code 483 = .ok (.iload 4, 2) := by decide +kernel
theorem dL_law_485 : decode code 485 = .ok (.iconst 2, 1) := by decide +kernel
theorem dL_law_486 : decode code 486 = .ok (.iadd, 1) := by decide +kernel
theorem dL_law_487 : decode code 487 = .ok (.iaload, 1) := by decide +kernel
theorem dL_law_488 : decode code 488 = .ok (.i2l, 1) := by decide +kernel
theorem dL_law_489 : decode code 489 = .ok (.bipush 32, 2) := by decide +kernel
theorem dL_law_491 : decode code 491 = .ok (.lshl, 1) := by decide +kernel
theorem dL_law_492 : decode code 492 = .ok (.aload_n 0, 1) := by decide +kernel
theorem dL_law_493 : decode code 493 = .ok (.iload 4, 2) := by decide +kernel
theorem dL_law_495 : decode code 495 = .ok (.iconst 3, 1) := by decide +kernel
theorem dL_law_496 : decode code 496 = .ok (.iadd, 1) := by decide +kernel
theorem dL_law_497 : decode code 497 = .ok (.iaload, 1) := by decide +kernel
theorem dL_law_498 : decode code 498 = .ok (.i2l, 1) := by decide +kernel
theorem dL_law_499 : decode code 499 = .ok (.ldc2_w 77, 3) := by decide +kernel
theorem dL_law_502 : decode code 502 = .ok (.land, 1) := by decide +kernel
theorem dL_law_503 : decode code 503 = .ok (.lor, 1) := by decide +kernel
theorem dL_law_504 : decode code 504 = .ok (.aload_n 0, 1) := by decide +kernel
theorem dL_law_505 : decode code 505 = .ok (.iload 4, 2) := by decide +kernel
theorem dL_law_507 : decode code 507 = .ok (.iconst 4, 1) := by decide +kernel
theorem dL_law_508 : decode code 508 = .ok (.iadd, 1) := by decide +kernel
theorem dL_law_509 : decode code 509 = .ok (.iaload, 1) := by decide +kernel
theorem dL_law_510 : decode code 510 = .ok (.i2l, 1) := by decide +kernel
theorem dL_law_511 : decode code 511 = .ok (.bipush 32, 2) := by decide +kernel
theorem dL_law_513 : decode code 513 = .ok (.lshl, 1) := by decide +kernel
theorem dL_law_514 : decode code 514 = .ok (.aload_n 0, 1) := by decide +kernel
theorem dL_law_515 : decode code 515 = .ok (.iload 4, 2) := by decide +kernel
theorem dL_law_517 : decode code 517 = .ok (.iconst 5, 1) := by decide +kernel
theorem dL_law_518 : decode code 518 = .ok (.iadd, 1) := by decide +kernel
theorem dL_law_519 : decode code 519 = .ok (.iaload, 1) := by decide +kernel
theorem dL_law_520 : decode code 520 = .ok (.i2l, 1) := by decide +kernel
theorem dL_law_521 : decode code 521 = .ok (.ldc2_w 77, 3) := by decide +kernel
theorem dL_law_524 : decode code 524 = .ok (.land, 1) := by decide +kernel
theorem dL_law_525 : decode code 525 = .ok (.lor, 1) := by decide +kernel
theorem dL_law_526 : decode code 526 = .ok (.aload_n 3, 1) := by decide +kernel
theorem dL_law_527 : decode code 527 = .ok (.invokestatic 79, 3) := by decide +kernel
theorem dL_law_530 : decode code 530 = .ok (.istore 5, 2) := by decide +kernel
theorem dL_law_532 : decode code 532 = .ok (.aload_n 2, 1) := by decide +kernel
theorem dL_law_533 : decode code 533 = .ok (.aload_n 0, 1) := by decide +kernel
theorem dL_law_534 : decode code 534 = .ok (.iload 4, 2) := by decide +kernel
theorem dL_law_536 : decode code 536 = .ok (.iconst 1, 1) := by decide +kernel
theorem dL_law_537 : decode code 537 = .ok (.iadd, 1) := by decide +kernel
theorem dL_law_538 : decode code 538 = .ok (.iaload, 1) := by decide +kernel
theorem dL_law_539 : decode code 539 = .ok (.aload_n 0, 1) := by decide +kernel
theorem dL_law_540 : decode code 540 = .ok (.iload 4, 2) := by decide +kernel
theorem dL_law_542 : decode code 542 = .ok (.iconst 2, 1) := by decide +kernel
theorem dL_law_543 : decode code 543 = .ok (.iadd, 1) := by decide +kernel
theorem dL_law_544 : decode code 544 = .ok (.iaload, 1) := by decide +kernel
theorem dL_law_545 : decode code 545 = .ok (.i2l, 1) := by decide +kernel
theorem dL_law_546 : decode code 546 = .ok (.bipush 32, 2) := by decide +kernel
theorem dL_law_548 : decode code 548 = .ok (.lshl, 1) := by decide +kernel
theorem dL_law_549 : decode code 549 = .ok (.aload_n 0, 1) := by decide +kernel
theorem dL_law_550 : decode code 550 = .ok (.iload 4, 2) := by decide +kernel
theorem dL_law_552 : decode code 552 = .ok (.iconst 3, 1) := by decide +kernel
theorem dL_law_553 : decode code 553 = .ok (.iadd, 1) := by decide +kernel
theorem dL_law_554 : decode code 554 = .ok (.iaload, 1) := by decide +kernel
theorem dL_law_555 : decode code 555 = .ok (.i2l, 1) := by decide +kernel
theorem dL_law_556 : decode code 556 = .ok (.ldc2_w 77, 3) := by decide +kernel
theorem dL_law_559 : decode code 559 = .ok (.land, 1) := by decide +kernel
theorem dL_law_560 : decode code 560 = .ok (.lor, 1) := by decide +kernel
theorem dL_law_561 : decode code 561 = .ok (.aload_n 0, 1) := by decide +kernel
theorem dL_law_562 : decode code 562 = .ok (.iload 4, 2) := by decide +kernel
theorem dL_law_564 : decode code 564 = .ok (.iconst 4, 1) := by decide +kernel
theorem dL_law_565 : decode code 565 = .ok (.iadd, 1) := by decide +kernel
theorem dL_law_566 : decode code 566 = .ok (.iaload, 1) := by decide +kernel
theorem dL_law_567 : decode code 567 = .ok (.i2l, 1) := by decide +kernel
theorem dL_law_568 : decode code 568 = .ok (.bipush 32, 2) := by decide +kernel
theorem dL_law_570 : decode code 570 = .ok (.lshl, 1) := by decide +kernel
theorem dL_law_571 : decode code 571 = .ok (.aload_n 0, 1) := by decide +kernel
theorem dL_law_572 : decode code 572 = .ok (.iload 4, 2) := by decide +kernel
theorem dL_law_574 : decode code 574 = .ok (.iconst 5, 1) := by decide +kernel
theorem dL_law_575 : decode code 575 = .ok (.iadd, 1) := by decide +kernel
theorem dL_law_576 : decode code 576 = .ok (.iaload, 1) := by decide +kernel
theorem dL_law_577 : decode code 577 = .ok (.i2l, 1) := by decide +kernel
theorem dL_law_578 : decode code 578 = .ok (.ldc2_w 77, 3) := by decide +kernel
theorem dL_law_581 : decode code 581 = .ok (.land, 1) := by decide +kernel
theorem dL_law_582 : decode code 582 = .ok (.lor, 1) := by decide +kernel
theorem dL_law_583 : decode code 583 = .ok (.invokevirtual 82, 3) := by decide +kernel
theorem dL_law_586 : decode code 586 = .ok (.lstore 6, 2) := by decide +kernel
theorem dL_law_588 : decode code 588 = .ok (.aload_n 2, 1) := by decide +kernel
theorem dL_law_589 : decode code 589 = .ok (.invokevirtual 83, 3) := by decide +kernel
theorem dL_law_592 : decode code 592 = .ok (.iload 5, 2) := by decide +kernel
theorem dL_law_594 : decode code 594 = .ok (.if_icmp .eq 5, 3) := by decide +kernel
theorem dL_law_599 : decode code 599 = .ok (.iload 5, 2) := by decide +kernel
theorem dL_law_601 : decode code 601 = .ok (.ifCond .ne 14, 3) := by decide +kernel
theorem dL_law_615 : decode code 615 = .ok (.goto 59, 3) := by decide +kernel
theorem dL_law_604 : decode code 604 = .ok (.aload_n 3, 1) := by decide +kernel
theorem dL_law_605 : decode code 605 = .ok (.iconst 0, 1) := by decide +kernel
theorem dL_law_606 : decode code 606 = .ok (.laload, 1) := by decide +kernel
theorem dL_law_607 : decode code 607 = .ok (.lload 6, 2) := by decide +kernel
theorem dL_law_609 : decode code 609 = .ok (.lcmp, 1) := by decide +kernel
theorem dL_law_610 : decode code 610 = .ok (.ifCond .eq 5, 3) := by decide +kernel
theorem dL_law_613 : decode code 613 = .ok (.iconst 0, 1) := by decide +kernel
theorem dL_law_614 : decode code 614 = .ok (.ireturn, 1) := by decide +kernel
theorem dL_law_597 : decode code 597 = .ok (.iconst 0, 1) := by decide +kernel
theorem dL_law_598 : decode code 598 = .ok (.ireturn, 1) := by decide +kernel
theorem dL_law_618 : decode code 618 = .ok (.aload_n 1, 1) := by decide +kernel
theorem dL_law_619 : decode code 619 = .ok (.aload_n 0, 1) := by decide +kernel
theorem dL_law_620 : decode code 620 = .ok (.iload 4, 2) := by decide +kernel
theorem dL_law_622 : decode code 622 = .ok (.iconst 1, 1) := by decide +kernel
theorem dL_law_623 : decode code 623 = .ok (.iadd, 1) := by decide +kernel
theorem dL_law_624 : decode code 624 = .ok (.iaload, 1) := by decide +kernel
theorem dL_law_625 : decode code 625 = .ok (.aload_n 3, 1) := by decide +kernel
theorem dL_law_626 : decode code 626 = .ok (.invokestatic 87, 3) := by decide +kernel
theorem dL_law_629 : decode code 629 = .ok (.istore 5, 2) := by decide +kernel
theorem dL_law_631 : decode code 631 = .ok (.aload_n 2, 1) := by decide +kernel
theorem dL_law_632 : decode code 632 = .ok (.aload_n 0, 1) := by decide +kernel
theorem dL_law_633 : decode code 633 = .ok (.iload 4, 2) := by decide +kernel
theorem dL_law_635 : decode code 635 = .ok (.iconst 1, 1) := by decide +kernel
theorem dL_law_636 : decode code 636 = .ok (.iadd, 1) := by decide +kernel
theorem dL_law_637 : decode code 637 = .ok (.iaload, 1) := by decide +kernel
theorem dL_law_638 : decode code 638 = .ok (.invokevirtual 90, 3) := by decide +kernel
theorem dL_law_641 : decode code 641 = .ok (.istore 6, 2) := by decide +kernel
theorem dL_law_643 : decode code 643 = .ok (.aload_n 2, 1) := by decide +kernel
theorem dL_law_644 : decode code 644 = .ok (.invokevirtual 83, 3) := by decide +kernel
theorem dL_law_647 : decode code 647 = .ok (.iload 5, 2) := by decide +kernel
theorem dL_law_649 : decode code 649 = .ok (.if_icmp .eq 5, 3) := by decide +kernel
theorem dL_law_654 : decode code 654 = .ok (.iload 5, 2) := by decide +kernel
theorem dL_law_656 : decode code 656 = .ok (.ifCond .ne 15, 3) := by decide +kernel
theorem dL_law_671 : decode code 671 = .ok (.goto 3, 3) := by decide +kernel
theorem dL_law_659 : decode code 659 = .ok (.aload_n 3, 1) := by decide +kernel
theorem dL_law_660 : decode code 660 = .ok (.iconst 0, 1) := by decide +kernel
theorem dL_law_661 : decode code 661 = .ok (.laload, 1) := by decide +kernel
theorem dL_law_662 : decode code 662 = .ok (.iload 6, 2) := by decide +kernel
theorem dL_law_664 : decode code 664 = .ok (.i2l, 1) := by decide +kernel
theorem dL_law_665 : decode code 665 = .ok (.lcmp, 1) := by decide +kernel
theorem dL_law_666 : decode code 666 = .ok (.ifCond .eq 5, 3) := by decide +kernel
theorem dL_law_669 : decode code 669 = .ok (.iconst 0, 1) := by decide +kernel
theorem dL_law_670 : decode code 670 = .ok (.ireturn, 1) := by decide +kernel
theorem dL_law_652 : decode code 652 = .ok (.iconst 0, 1) := by decide +kernel
theorem dL_law_653 : decode code 653 = .ok (.ireturn, 1) := by decide +kernel
theorem dL_cell_0 : decode cL_cell 0 = .ok (.iload_n 1, 1) := by decide +kernel
theorem dL_cell_1 : decode cL_cell 1 = .ok (.aload_n 0, 1) := by decide +kernel
theorem dL_cell_2 : decode cL_cell 2 = .ok (.arraylength, 1) := by decide +kernel
theorem dL_cell_3 : decode cL_cell 3 = .ok (.if_icmp .ge 9, 3) := by decide +kernel
theorem dL_cell_6 : decode cL_cell 6 = .ok (.aload_n 0, 1) := by decide +kernel
theorem dL_cell_7 : decode cL_cell 7 = .ok (.iload_n 1, 1) := by decide +kernel
theorem dL_cell_8 : decode cL_cell 8 = .ok (.iaload, 1) := by decide +kernel
theorem dL_cell_9 : decode cL_cell 9 = .ok (.goto 4, 3) := by decide +kernel
theorem dL_cell_12 : decode cL_cell 12 = .ok (.iconst 0, 1) := by decide +kernel
theorem dL_cell_13 : decode cL_cell 13 = .ok (.ireturn, 1) := by decide +kernel
theorem dL_divide_0 : decode cL_divide 0 = .ok (.aload 6, 2) := by decide +kernel
theorem dL_divide_2 : decode cL_divide 2 = .ok (.iconst 0, 1) := by decide +kernel
theorem dL_divide_3 : decode cL_divide 3 = .ok (.aload_n 0, 1) := by decide +kernel
theorem dL_divide_4 : decode cL_divide 4 = .ok (.iload_n 1, 1) := by decide +kernel
theorem dL_divide_5 : decode cL_divide 5 = .ok (.lload_n 2, 1) := by decide +kernel
theorem dL_divide_6 : decode cL_divide 6 = .ok (.lload 4, 2) := by decide +kernel
theorem dL_divide_8 : decode cL_divide 8 = .ok (.invokevirtual 7, 3) := by decide +kernel
theorem dL_divide_11 : decode cL_divide 11 = .ok (.lastore, 1) := by decide +kernel
theorem dL_divide_12 : decode cL_divide 12 = .ok (.goto 7, 3) := by decide +kernel
theorem dL_divide_15 : decode cL_divide 15 = .ok (.astore 7, 2) := by decide +kernel
theorem dL_divide_17 : decode cL_divide 17 = .ok (.iconst 1, 1) := by decide +kernel
theorem dL_divide_18 : decode cL_divide 18 = .ok (.ireturn, 1) := by decide +kernel
theorem dL_divide_19 : decode cL_divide 19 = .ok (.iconst 0, 1) := by decide +kernel
theorem dL_divide_20 : decode cL_divide 20 = .ok (.ireturn, 1) := by decide +kernel
theorem dL_handle_0 : decode cL_handle 0 = .ok (.aload_n 2, 1) := by decide +kernel
theorem dL_handle_1 : decode cL_handle 1 = .ok (.iconst 0, 1) := by decide +kernel
theorem dL_handle_2 : decode cL_handle 2 = .ok (.aload_n 0, 1) := by decide +kernel
theorem dL_handle_3 : decode cL_handle 3 = .ok (.iload_n 1, 1) := by decide +kernel
theorem dL_handle_4 : decode cL_handle 4 = .ok (.invokevirtual 15, 3) := by decide +kernel
theorem dL_handle_7 : decode cL_handle 7 = .ok (.i2l, 1) := by decide +kernel
theorem dL_handle_8 : decode cL_handle 8 = .ok (.lastore, 1) := by decide +kernel
theorem dL_handle_9 : decode cL_handle 9 = .ok (.goto 6, 3) := by decide +kernel
theorem dL_handle_12 : decode cL_handle 12 = .ok (.astore_n 3, 1) := by decide +kernel
theorem dL_handle_13 : decode cL_handle 13 = .ok (.iconst 1, 1) := by decide +kernel
theorem dL_handle_14 : decode cL_handle 14 = .ok (.ireturn, 1) := by decide +kernel
theorem dL_handle_15 : decode cL_handle 15 = .ok (.iconst 0, 1) := by decide +kernel
theorem dL_handle_16 : decode cL_handle 16 = .ok (.ireturn, 1) := by decide +kernel
