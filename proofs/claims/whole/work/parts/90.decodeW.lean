theorem dW_law_0 : decode code 0 = .ok (.new 7, 3) := by decide +kernel
theorem dW_law_3 : decode code 3 = .ok (.dup, 1) := by decide +kernel
theorem dW_law_4 : decode code 4 = .ok (.invokespecial 9, 3) := by decide +kernel
theorem dW_law_7 : decode code 7 = .ok (.astore_n 1, 1) := by decide +kernel
theorem dW_law_8 : decode code 8 = .ok (.new 10, 3) := by decide +kernel
theorem dW_law_11 : decode code 11 = .ok (.dup, 1) := by decide +kernel
theorem dW_law_12 : decode code 12 = .ok (.invokespecial 12, 3) := by decide +kernel
theorem dW_law_15 : decode code 15 = .ok (.astore_n 2, 1) := by decide +kernel
theorem dW_law_16 : decode code 16 = .ok (.iconst 0, 1) := by decide +kernel
theorem dW_law_17 : decode code 17 = .ok (.istore_n 3, 1) := by decide +kernel
theorem dW_law_18 : decode code 18 = .ok (.iload_n 3, 1) := by decide +kernel
theorem dW_law_19 : decode code 19 = .ok (.aload_n 0, 1) := by decide +kernel
theorem dW_law_20 : decode code 20 = .ok (.arraylength, 1) := by decide +kernel
theorem dW_law_21 : decode code 21 = .ok (.iconst 5, 1) := by decide +kernel
theorem dW_law_22 : decode code 22 = .ok (.isub, 1) := by decide +kernel
theorem dW_law_23 : decode code 23 = .ok (.if_icmp .gt 793, 3) := by decide +kernel
theorem dW_law_26 : decode code 26 = .ok (.aload_n 0, 1) := by decide +kernel
theorem dW_law_27 : decode code 27 = .ok (.iload_n 3, 1) := by decide +kernel
theorem dW_law_28 : decode code 28 = .ok (.iaload, 1) := by decide +kernel
theorem dW_law_29 : decode code 29 = .ok (.bipush 31, 2) := by decide +kernel
theorem dW_law_31 : decode code 31 = .ok (.iand, 1) := by decide +kernel
theorem dW_law_32 : decode code 32 = .ok (.tableswitch 778 0 21 #[104, 137, 180, 249, 302, 325, 348, 371, 384, 397, 410, 433, 466, 479, 502, 561, 594, 617, 666, 689, 722, 755], 104) := by decide +kernel
theorem dW_law_136 : decode code 136 = .ok (.aload_n 1, 1) := by decide +kernel
theorem dW_law_137 : decode code 137 = .ok (.aload_n 0, 1) := by decide +kernel
theorem dW_law_138 : decode code 138 = .ok (.iload_n 3, 1) := by decide +kernel
theorem dW_law_139 : decode code 139 = .ok (.iconst 1, 1) := by decide +kernel
theorem dW_law_140 : decode code 140 = .ok (.iadd, 1) := by decide +kernel
theorem dW_law_141 : decode code 141 = .ok (.iaload, 1) := by decide +kernel
theorem dW_law_142 : decode code 142 = .ok (.aload_n 0, 1) := by decide +kernel
theorem dW_law_143 : decode code 143 = .ok (.iload_n 3, 1) := by decide +kernel
theorem dW_law_144 : decode code 144 = .ok (.iconst 2, 1) := by decide +kernel
theorem dW_law_145 : decode code 145 = .ok (.iadd, 1) := by decide +kernel
theorem dW_law_146 : decode code 146 = .ok (.iaload, 1) := by decide +kernel
theorem dW_law_147 : decode code 147 = .ok (.invokevirtual 13, 3) := by decide +kernel
theorem dW_law_150 : decode code 150 = .ok (.aload_n 2, 1) := by decide +kernel
theorem dW_law_151 : decode code 151 = .ok (.aload_n 0, 1) := by decide +kernel
theorem dW_law_152 : decode code 152 = .ok (.iload_n 3, 1) := by decide +kernel
theorem dW_law_153 : decode code 153 = .ok (.iconst 1, 1) := by decide +kernel
theorem dW_law_154 : decode code 154 = .ok (.iadd, 1) := by decide +kernel
theorem dW_law_155 : decode code 155 = .ok (.iaload, 1) := by decide +kernel
theorem dW_law_156 : decode code 156 = .ok (.aload_n 0, 1) := by decide +kernel
theorem dW_law_157 : decode code 157 = .ok (.iload_n 3, 1) := by decide +kernel
theorem dW_law_158 : decode code 158 = .ok (.iconst 2, 1) := by decide +kernel
theorem dW_law_159 : decode code 159 = .ok (.iadd, 1) := by decide +kernel
theorem dW_law_160 : decode code 160 = .ok (.iaload, 1) := by decide +kernel
theorem dW_law_161 : decode code 161 = .ok (.invokevirtual 17, 3) := by decide +kernel
theorem dW_law_164 : decode code 164 = .ok (.if_icmp .eq 646, 3) := by decide +kernel
theorem dW_law_169 : decode code 169 = .ok (.aload_n 1, 1) := by decide +kernel
theorem dW_law_170 : decode code 170 = .ok (.aload_n 0, 1) := by decide +kernel
theorem dW_law_171 : decode code 171 = .ok (.iload_n 3, 1) := by decide +kernel
theorem dW_law_172 : decode code 172 = .ok (.iconst 1, 1) := by decide +kernel
theorem dW_law_173 : decode code 173 = .ok (.iadd, 1) := by decide +kernel
theorem dW_law_174 : decode code 174 = .ok (.iaload, 1) := by decide +kernel
theorem dW_law_175 : decode code 175 = .ok (.aload_n 0, 1) := by decide +kernel
theorem dW_law_176 : decode code 176 = .ok (.iload_n 3, 1) := by decide +kernel
theorem dW_law_177 : decode code 177 = .ok (.iconst 2, 1) := by decide +kernel
theorem dW_law_178 : decode code 178 = .ok (.iadd, 1) := by decide +kernel
theorem dW_law_179 : decode code 179 = .ok (.iaload, 1) := by decide +kernel
theorem dW_law_180 : decode code 180 = .ok (.aload_n 0, 1) := by decide +kernel
theorem dW_law_181 : decode code 181 = .ok (.iload_n 3, 1) := by decide +kernel
theorem dW_law_182 : decode code 182 = .ok (.iconst 3, 1) := by decide +kernel
theorem dW_law_183 : decode code 183 = .ok (.iadd, 1) := by decide +kernel
theorem dW_law_184 : decode code 184 = .ok (.iaload, 1) := by decide +kernel
theorem dW_law_185 : decode code 185 = .ok (.invokevirtual 18, 3) := by decide +kernel
theorem dW_law_188 : decode code 188 = .ok (.aload_n 2, 1) := by decide +kernel
theorem dW_law_189 : decode code 189 = .ok (.aload_n 0, 1) := by decide +kernel
theorem dW_law_190 : decode code 190 = .ok (.iload_n 3, 1) := by decide +kernel
theorem dW_law_191 : decode code 191 = .ok (.iconst 1, 1) := by decide +kernel
theorem dW_law_192 : decode code 192 = .ok (.iadd, 1) := by decide +kernel
theorem dW_law_193 : decode code 193 = .ok (.iaload, 1) := by decide +kernel
theorem dW_law_194 : decode code 194 = .ok (.aload_n 0, 1) := by decide +kernel
theorem dW_law_195 : decode code 195 = .ok (.iload_n 3, 1) := by decide +kernel
theorem dW_law_196 : decode code 196 = .ok (.iconst 2, 1) := by decide +kernel
theorem dW_law_197 : decode code 197 = .ok (.iadd, 1) := by decide +kernel
theorem dW_law_198 : decode code 198 = .ok (.iaload, 1) := by decide +kernel
theorem dW_law_199 : decode code 199 = .ok (.aload_n 0, 1) := by decide +kernel
theorem dW_law_200 : decode code 200 = .ok (.iload_n 3, 1) := by decide +kernel
theorem dW_law_201 : decode code 201 = .ok (.iconst 3, 1) := by decide +kernel
theorem dW_law_202 : decode code 202 = .ok (.iadd, 1) := by decide +kernel
theorem dW_law_203 : decode code 203 = .ok (.iaload, 1) := by decide +kernel
theorem dW_law_204 : decode code 204 = .ok (.invokevirtual 22, 3) := by decide +kernel
theorem dW_law_207 : decode code 207 = .ok (.if_icmp .eq 603, 3) := by decide +kernel
theorem dW_law_212 : decode code 212 = .ok (.aload_n 1, 1) := by decide +kernel
theorem dW_law_213 : decode code 213 = .ok (.aload_n 0, 1) := by decide +kernel
theorem dW_law_214 : decode code 214 = .ok (.iload_n 3, 1) := by decide +kernel
theorem dW_law_215 : decode code 215 = .ok (.iconst 1, 1) := by decide +kernel
theorem dW_law_216 : decode code 216 = .ok (.iadd, 1) := by decide +kernel
theorem dW_law_217 : decode code 217 = .ok (.iaload, 1) := by decide +kernel
theorem dW_law_218 : decode code 218 = .ok (.aload_n 0, 1) := by decide +kernel
theorem dW_law_219 : decode code 219 = .ok (.iload_n 3, 1) := by decide +kernel
theorem dW_law_220 : decode code 220 = .ok (.iconst 2, 1) := by decide +kernel
theorem dW_law_221 : decode code 221 = .ok (.iadd, 1) := by decide +kernel
theorem dW_law_222 : decode code 222 = .ok (.iaload, 1) := by decide +kernel
theorem dW_law_223 : decode code 223 = .ok (.aload_n 0, 1) := by decide +kernel
theorem dW_law_224 : decode code 224 = .ok (.iload_n 3, 1) := by decide +kernel
theorem dW_law_225 : decode code 225 = .ok (.iconst 3, 1) := by decide +kernel
theorem dW_law_226 : decode code 226 = .ok (.iadd, 1) := by decide +kernel
theorem dW_law_227 : decode code 227 = .ok (.iaload, 1) := by decide +kernel
theorem dW_law_228 : decode code 228 = .ok (.aload_n 0, 1) := by decide +kernel
theorem dW_law_229 : decode code 229 = .ok (.iload_n 3, 1) := by decide +kernel
theorem dW_law_230 : decode code 230 = .ok (.iconst 4, 1) := by decide +kernel
theorem dW_law_231 : decode code 231 = .ok (.iadd, 1) := by decide +kernel
theorem dW_law_232 : decode code 232 = .ok (.iaload, 1) := by decide +kernel
theorem dW_law_233 : decode code 233 = .ok (.ifCond .eq 7, 3) := by decide +kernel
theorem dW_law_236 : decode code 236 = .ok (.iconst 1, 1) := by decide +kernel
theorem dW_law_237 : decode code 237 = .ok (.goto 4, 3) := by decide +kernel
theorem dW_law_240 : decode code 240 = .ok (.iconst 0, 1) := by decide +kernel
theorem dW_law_241 : decode code 241 = .ok (.invokevirtual 23, 3) := by decide +kernel
theorem dW_law_244 : decode code 244 = .ok (.aload_n 2, 1) := by decide +kernel
theorem dW_law_245 : decode code 245 = .ok (.aload_n 0, 1) := by decide +kernel
theorem dW_law_246 : decode code 246 = .ok (.iload_n 3, 1) := by decide +kernel
theorem dW_law_247 : decode code 247 = .ok (.iconst 1, 1) := by decide +kernel
theorem dW_law_248 : decode code 248 = .ok (.iadd, 1) := by decide +kernel
theorem dW_law_249 : decode code 249 = .ok (.iaload, 1) := by decide +kernel
theorem dW_law_250 : decode code 250 = .ok (.aload_n 0, 1) := by decide +kernel
theorem dW_law_251 : decode code 251 = .ok (.iload_n 3, 1) := by decide +kernel
theorem dW_law_252 : decode code 252 = .ok (.iconst 2, 1) := by decide +kernel
theorem dW_law_253 : decode code 253 = .ok (.iadd, 1) := by decide +kernel
theorem dW_law_254 : decode code 254 = .ok (.iaload, 1) := by decide +kernel
theorem dW_law_255 : decode code 255 = .ok (.aload_n 0, 1) := by decide +kernel
theorem dW_law_256 : decode code 256 = .ok (.iload_n 3, 1) := by decide +kernel
theorem dW_law_257 : decode code 257 = .ok (.iconst 3, 1) := by decide +kernel
theorem dW_law_258 : decode code 258 = .ok (.iadd, 1) := by decide +kernel
theorem dW_law_259 : decode code 259 = .ok (.iaload, 1) := by decide +kernel
theorem dW_law_260 : decode code 260 = .ok (.aload_n 0, 1) := by decide +kernel
theorem dW_law_261 : decode code 261 = .ok (.iload_n 3, 1) := by decide +kernel
theorem dW_law_262 : decode code 262 = .ok (.iconst 4, 1) := by decide +kernel
theorem dW_law_263 : decode code 263 = .ok (.iadd, 1) := by decide +kernel
theorem dW_law_264 : decode code 264 = .ok (.iaload, 1) := by decide +kernel
theorem dW_law_265 : decode code 265 = .ok (.ifCond .eq 7, 3) := by decide +kernel
theorem dW_law_268 : decode code 268 = .ok (.iconst 1, 1) := by decide +kernel
theorem dW_law_269 : decode code 269 = .ok (.goto 4, 3) := by decide +kernel
theorem dW_law_272 : decode code 272 = .ok (.iconst 0, 1) := by decide +kernel
theorem dW_law_273 : decode code 273 = .ok (.invokevirtual 27, 3) := by decide +kernel
theorem dW_law_276 : decode code 276 = .ok (.if_icmp .eq 534, 3) := by decide +kernel
theorem dW_law_281 : decode code 281 = .ok (.aload_n 1, 1) := by decide +kernel
theorem dW_law_282 : decode code 282 = .ok (.aload_n 0, 1) := by decide +kernel
theorem dW_law_283 : decode code 283 = .ok (.iload_n 3, 1) := by decide +kernel
theorem dW_law_284 : decode code 284 = .ok (.iconst 1, 1) := by decide +kernel
theorem dW_law_285 : decode code 285 = .ok (.iadd, 1) := by decide +kernel
theorem dW_law_286 : decode code 286 = .ok (.iaload, 1) := by decide +kernel
theorem dW_law_287 : decode code 287 = .ok (.aload_n 0, 1) := by decide +kernel
theorem dW_law_288 : decode code 288 = .ok (.iload_n 3, 1) := by decide +kernel
theorem dW_law_289 : decode code 289 = .ok (.iconst 2, 1) := by decide +kernel
theorem dW_law_290 : decode code 290 = .ok (.iadd, 1) := by decide +kernel
theorem dW_law_291 : decode code 291 = .ok (.iaload, 1) := by decide +kernel
theorem dW_law_292 : decode code 292 = .ok (.aload_n 0, 1) := by decide +kernel
theorem dW_law_293 : decode code 293 = .ok (.iload_n 3, 1) := by decide +kernel
theorem dW_law_294 : decode code 294 = .ok (.iconst 3, 1) := by decide +kernel
theorem dW_law_295 : decode code 295 = .ok (.iadd, 1) := by decide +kernel
theorem dW_law_296 : decode code 296 = .ok (.iaload, 1) := by decide +kernel
theorem dW_law_297 : decode code 297 = .ok (.aload_n 0, 1) := by decide +kernel
theorem dW_law_298 : decode code 298 = .ok (.iload_n 3, 1) := by decide +kernel
theorem dW_law_299 : decode code 299 = .ok (.iconst 4, 1) := by decide +kernel
theorem dW_law_300 : decode code 300 = .ok (.iadd, 1) := by decide +kernel
theorem dW_law_301 : decode code 301 = .ok (.iaload, 1) := by decide +kernel
theorem dW_law_302 : decode code 302 = .ok (.invokevirtual 28, 3) := by decide +kernel
theorem dW_law_305 : decode code 305 = .ok (.aload_n 2, 1) := by decide +kernel
theorem dW_law_306 : decode code 306 = .ok (.aload_n 0, 1) := by decide +kernel
theorem dW_law_307 : decode code 307 = .ok (.iload_n 3, 1) := by decide +kernel
theorem dW_law_308 : decode code 308 = .ok (.iconst 1, 1) := by decide +kernel
theorem dW_law_309 : decode code 309 = .ok (.iadd, 1) := by decide +kernel
theorem dW_law_310 : decode code 310 = .ok (.iaload, 1) := by decide +kernel
theorem dW_law_311 : decode code 311 = .ok (.aload_n 0, 1) := by decide +kernel
theorem dW_law_312 : decode code 312 = .ok (.iload_n 3, 1) := by decide +kernel
theorem dW_law_313 : decode code 313 = .ok (.iconst 2, 1) := by decide +kernel
theorem dW_law_314 : decode code 314 = .ok (.iadd, 1) := by decide +kernel
theorem dW_law_315 : decode code 315 = .ok (.iaload, 1) := by decide +kernel
theorem dW_law_316 : decode code 316 = .ok (.aload_n 0, 1) := by decide +kernel
theorem dW_law_317 : decode code 317 = .ok (.iload_n 3, 1) := by decide +kernel
theorem dW_law_318 : decode code 318 = .ok (.iconst 3, 1) := by decide +kernel
theorem dW_law_319 : decode code 319 = .ok (.iadd, 1) := by decide +kernel
theorem dW_law_320 : decode code 320 = .ok (.iaload, 1) := by decide +kernel
theorem dW_law_321 : decode code 321 = .ok (.aload_n 0, 1) := by decide +kernel
theorem dW_law_322 : decode code 322 = .ok (.iload_n 3, 1) := by decide +kernel
theorem dW_law_323 : decode code 323 = .ok (.iconst 4, 1) := by decide +kernel
theorem dW_law_324 : decode code 324 = .ok (.iadd, 1) := by decide +kernel
theorem dW_law_325 : decode code 325 = .ok (.iaload, 1) := by decide +kernel
theorem dW_law_326 : decode code 326 = .ok (.invokevirtual 32, 3) := by decide +kernel
theorem dW_law_329 : decode code 329 = .ok (.if_icmp .eq 481, 3) := by decide +kernel
theorem dW_law_334 : decode code 334 = .ok (.aload_n 1, 1) := by decide +kernel
theorem dW_law_335 : decode code 335 = .ok (.aload_n 0, 1) := by decide +kernel
theorem dW_law_336 : decode code 336 = .ok (.iload_n 3, 1) := by decide +kernel
theorem dW_law_337 : decode code 337 = .ok (.iconst 1, 1) := by decide +kernel
theorem dW_law_338 : decode code 338 = .ok (.iadd, 1) := by decide +kernel
theorem dW_law_339 : decode code 339 = .ok (.iaload, 1) := by decide +kernel
theorem dW_law_340 : decode code 340 = .ok (.invokevirtual 33, 3) := by decide +kernel
theorem dW_law_343 : decode code 343 = .ok (.aload_n 2, 1) := by decide +kernel
theorem dW_law_344 : decode code 344 = .ok (.aload_n 0, 1) := by decide +kernel
theorem dW_law_345 : decode code 345 = .ok (.iload_n 3, 1) := by decide +kernel
theorem dW_law_346 : decode code 346 = .ok (.iconst 1, 1) := by decide +kernel
theorem dW_law_347 : decode code 347 = .ok (.iadd, 1) := by decide +kernel
theorem dW_law_348 : decode code 348 = .ok (.iaload, 1) := by decide +kernel
theorem dW_law_349 : decode code 349 = .ok (.invokevirtual 37, 3) := by decide +kernel
theorem dW_law_352 : decode code 352 = .ok (.if_icmp .eq 458, 3) := by decide +kernel
theorem dW_law_357 : decode code 357 = .ok (.aload_n 1, 1) := by decide +kernel
theorem dW_law_358 : decode code 358 = .ok (.aload_n 0, 1) := by decide +kernel
theorem dW_law_359 : decode code 359 = .ok (.iload_n 3, 1) := by decide +kernel
theorem dW_law_360 : decode code 360 = .ok (.iconst 1, 1) := by decide +kernel
theorem dW_law_361 : decode code 361 = .ok (.iadd, 1) := by decide +kernel
theorem dW_law_362 : decode code 362 = .ok (.iaload, 1) := by decide +kernel
theorem dW_law_363 : decode code 363 = .ok (.invokevirtual 38, 3) := by decide +kernel
theorem dW_law_366 : decode code 366 = .ok (.aload_n 2, 1) := by decide +kernel
theorem dW_law_367 : decode code 367 = .ok (.aload_n 0, 1) := by decide +kernel
theorem dW_law_368 : decode code 368 = .ok (.iload_n 3, 1) := by decide +kernel
theorem dW_law_369 : decode code 369 = .ok (.iconst 1, 1) := by decide +kernel
theorem dW_law_370 : decode code 370 = .ok (.iadd, 1) := by decide +kernel
theorem dW_law_371 : decode code 371 = .ok (.iaload, 1) := by decide +kernel
theorem dW_law_372 : decode code 372 = .ok (.invokevirtual 41, 3) := by decide +kernel
theorem dW_law_375 : decode code 375 = .ok (.if_icmp .eq 435, 3) := by decide +kernel
theorem dW_law_380 : decode code 380 = .ok (.aload_n 1, 1) := by decide +kernel
theorem dW_law_381 : decode code 381 = .ok (.aload_n 0, 1) := by decide +kernel
theorem dW_law_382 : decode code 382 = .ok (.iload_n 3, 1) := by decide +kernel
theorem dW_law_383 : decode code 383 = .ok (.iconst 1, 1) := by decide +kernel
theorem dW_law_384 : decode code 384 = .ok (.iadd, 1) := by decide +kernel
theorem dW_law_385 : decode code 385 = .ok (.iaload, 1) := by decide +kernel
theorem dW_law_386 : decode code 386 = .ok (.invokevirtual 42, 3) := by decide +kernel
theorem dW_law_389 : decode code 389 = .ok (.aload_n 2, 1) := by decide +kernel
theorem dW_law_390 : decode code 390 = .ok (.aload_n 0, 1) := by decide +kernel
theorem dW_law_391 : decode code 391 = .ok (.iload_n 3, 1) := by decide +kernel
theorem dW_law_392 : decode code 392 = .ok (.iconst 1, 1) := by decide +kernel
theorem dW_law_393 : decode code 393 = .ok (.iadd, 1) := by decide +kernel
theorem dW_law_394 : decode code 394 = .ok (.iaload, 1) := by decide +kernel
theorem dW_law_395 : decode code 395 = .ok (.invokevirtual 46, 3) := by decide +kernel
theorem dW_law_398 : decode code 398 = .ok (.if_icmp .eq 412, 3) := by decide +kernel
theorem dW_law_403 : decode code 403 = .ok (.aload_n 1, 1) := by decide +kernel
theorem dW_law_404 : decode code 404 = .ok (.invokevirtual 47, 3) := by decide +kernel
theorem dW_law_407 : decode code 407 = .ok (.aload_n 2, 1) := by decide +kernel
theorem dW_law_408 : decode code 408 = .ok (.invokevirtual 51, 3) := by decide +kernel
theorem dW_law_411 : decode code 411 = .ok (.if_icmp .eq 399, 3) := by decide +kernel
theorem dW_law_416 : decode code 416 = .ok (.aload_n 1, 1) := by decide +kernel
theorem dW_law_417 : decode code 417 = .ok (.invokevirtual 52, 3) := by decide +kernel
theorem dW_law_420 : decode code 420 = .ok (.aload_n 2, 1) := by decide +kernel
theorem dW_law_421 : decode code 421 = .ok (.invokevirtual 55, 3) := by decide +kernel
theorem dW_law_424 : decode code 424 = .ok (.if_icmp .eq 386, 3) := by decide +kernel
theorem dW_law_429 : decode code 429 = .ok (.aload_n 1, 1) := by decide +kernel
theorem dW_law_430 : decode code 430 = .ok (.invokevirtual 56, 3) := by decide +kernel
theorem dW_law_433 : decode code 433 = .ok (.aload_n 2, 1) := by decide +kernel
theorem dW_law_434 : decode code 434 = .ok (.invokevirtual 59, 3) := by decide +kernel
theorem dW_law_437 : decode code 437 = .ok (.if_icmp .eq 373, 3) := by decide +kernel
theorem dW_law_442 : decode code 442 = .ok (.aload_n 1, 1) := by decide +kernel
theorem dW_law_443 : decode code 443 = .ok (.aload_n 0, 1) := by decide +kernel
theorem dW_law_444 : decode code 444 = .ok (.iload_n 3, 1) := by decide +kernel
theorem dW_law_445 : decode code 445 = .ok (.iconst 1, 1) := by decide +kernel
theorem dW_law_446 : decode code 446 = .ok (.iadd, 1) := by decide +kernel
theorem dW_law_447 : decode code 447 = .ok (.iaload, 1) := by decide +kernel
theorem dW_law_448 : decode code 448 = .ok (.invokevirtual 60, 3) := by decide +kernel
theorem dW_law_451 : decode code 451 = .ok (.aload_n 2, 1) := by decide +kernel
theorem dW_law_452 : decode code 452 = .ok (.aload_n 0, 1) := by decide +kernel
theorem dW_law_453 : decode code 453 = .ok (.iload_n 3, 1) := by decide +kernel
theorem dW_law_454 : decode code 454 = .ok (.iconst 1, 1) := by decide +kernel
theorem dW_law_455 : decode code 455 = .ok (.iadd, 1) := by decide +kernel
theorem dW_law_456 : decode code 456 = .ok (.iaload, 1) := by decide +kernel
theorem dW_law_457 : decode code 457 = .ok (.invokevirtual 63, 3) := by decide +kernel
theorem dW_law_460 : decode code 460 = .ok (.if_icmp .eq 350, 3) := by decide +kernel
theorem dW_law_465 : decode code 465 = .ok (.aload_n 1, 1) := by decide +kernel
theorem dW_law_466 : decode code 466 = .ok (.aload_n 0, 1) := by decide +kernel
theorem dW_law_467 : decode code 467 = .ok (.iload_n 3, 1) := by decide +kernel
theorem dW_law_468 : decode code 468 = .ok (.iconst 1, 1) := by decide +kernel
theorem dW_law_469 : decode code 469 = .ok (.iadd, 1) := by decide +kernel
theorem dW_law_470 : decode code 470 = .ok (.iaload, 1) := by decide +kernel
theorem dW_law_471 : decode code 471 = .ok (.aload_n 0, 1) := by decide +kernel
theorem dW_law_472 : decode code 472 = .ok (.iload_n 3, 1) := by decide +kernel
theorem dW_law_473 : decode code 473 = .ok (.iconst 2, 1) := by decide +kernel
theorem dW_law_474 : decode code 474 = .ok (.iadd, 1) := by decide +kernel
theorem dW_law_475 : decode code 475 = .ok (.iaload, 1) := by decide +kernel
theorem dW_law_476 : decode code 476 = .ok (.invokevirtual 64, 3) := by decide +kernel
theorem dW_law_479 : decode code 479 = .ok (.aload_n 2, 1) := by decide +kernel
theorem dW_law_480 : decode code 480 = .ok (.aload_n 0, 1) := by decide +kernel
theorem dW_law_481 : decode code 481 = .ok (.iload_n 3, 1) := by decide +kernel
theorem dW_law_482 : decode code 482 = .ok (.iconst 1, 1) := by decide +kernel
theorem dW_law_483 : decode code 483 = .ok (.iadd, 1) := by decide +kernel
theorem dW_law_484 : decode code 484 = .ok (.iaload, 1) := by decide +kernel
theorem dW_law_485 : decode code 485 = .ok (.aload_n 0, 1) := by decide +kernel
theorem dW_law_486 : decode code 486 = .ok (.iload_n 3, 1) := by decide +kernel
theorem dW_law_487 : decode code 487 = .ok (.iconst 2, 1) := by decide +kernel
theorem dW_law_488 : decode code 488 = .ok (.iadd, 1) := by decide +kernel
theorem dW_law_489 : decode code 489 = .ok (.iaload, 1) := by decide +kernel
theorem dW_law_490 : decode code 490 = .ok (.invokevirtual 67, 3) := by decide +kernel
theorem dW_law_493 : decode code 493 = .ok (.if_icmp .eq 317, 3) := by decide +kernel
theorem dW_law_498 : decode code 498 = .ok (.aload_n 1, 1) := by decide +kernel
theorem dW_law_499 : decode code 499 = .ok (.invokevirtual 68, 3) := by decide +kernel
theorem dW_law_502 : decode code 502 = .ok (.aload_n 2, 1) := by decide +kernel
theorem dW_law_503 : decode code 503 = .ok (.invokevirtual 71, 3) := by decide +kernel
theorem dW_law_506 : decode code 506 = .ok (.if_icmp .eq 304, 3) := by decide +kernel
theorem dW_law_511 : decode code 511 = .ok (.aload_n 1, 1) := by decide +kernel
theorem dW_law_512 : decode code 512 = .ok (.aload_n 0, 1) := by decide +kernel
theorem dW_law_513 : decode code 513 = .ok (.iload_n 3, 1) := by decide +kernel
theorem dW_law_514 : decode code 514 = .ok (.iconst 1, 1) := by decide +kernel
theorem dW_law_515 : decode code 515 = .ok (.iadd, 1) := by decide +kernel
theorem dW_law_516 : decode code 516 = .ok (.iaload, 1) := by decide +kernel
theorem dW_law_517 : decode code 517 = .ok (.invokevirtual 72, 3) := by decide +kernel
theorem dW_law_520 : decode code 520 = .ok (.aload_n 2, 1) := by decide +kernel
theorem dW_law_521 : decode code 521 = .ok (.aload_n 0, 1) := by decide +kernel
theorem dW_law_522 : decode code 522 = .ok (.iload_n 3, 1) := by decide +kernel
theorem dW_law_523 : decode code 523 = .ok (.iconst 1, 1) := by decide +kernel
theorem dW_law_524 : decode code 524 = .ok (.iadd, 1) := by decide +kernel
theorem dW_law_525 : decode code 525 = .ok (.iaload, 1) := by decide +kernel
theorem dW_law_526 : decode code 526 = .ok (.invokevirtual 75, 3) := by decide +kernel
theorem dW_law_529 : decode code 529 = .ok (.if_icmp .eq 281, 3) := by decide +kernel
theorem dW_law_534 : decode code 534 = .ok (.aload_n 1, 1) := by decide +kernel
theorem dW_law_535 : decode code 535 = .ok (.aload_n 0, 1) := by decide +kernel
theorem dW_law_536 : decode code 536 = .ok (.iload_n 3, 1) := by decide +kernel
theorem dW_law_537 : decode code 537 = .ok (.iconst 1, 1) := by decide +kernel
theorem dW_law_538 : decode code 538 = .ok (.iadd, 1) := by decide +kernel
theorem dW_law_539 : decode code 539 = .ok (.iaload, 1) := by decide +kernel
theorem dW_law_540 : decode code 540 = .ok (.aload_n 0, 1) := by decide +kernel
theorem dW_law_541 : decode code 541 = .ok (.iload_n 3, 1) := by decide +kernel
theorem dW_law_542 : decode code 542 = .ok (.iconst 2, 1) := by decide +kernel
theorem dW_law_543 : decode code 543 = .ok (.iadd, 1) := by decide +kernel
theorem dW_law_544 : decode code 544 = .ok (.iaload, 1) := by decide +kernel
theorem dW_law_545 : decode code 545 = .ok (.ifCond .eq 7, 3) := by decide +kernel
theorem dW_law_548 : decode code 548 = .ok (.iconst 1, 1) := by decide +kernel
theorem dW_law_549 : decode code 549 = .ok (.goto 4, 3) := by decide +kernel
theorem dW_law_552 : decode code 552 = .ok (.iconst 0, 1) := by decide +kernel
theorem dW_law_553 : decode code 553 = .ok (.aload_n 0, 1) := by decide +kernel
theorem dW_law_554 : decode code 554 = .ok (.iload_n 3, 1) := by decide +kernel
theorem dW_law_555 : decode code 555 = .ok (.iconst 3, 1) := by decide +kernel
theorem dW_law_556 : decode code 556 = .ok (.iadd, 1) := by decide +kernel
theorem dW_law_557 : decode code 557 = .ok (.iaload, 1) := by decide +kernel
theorem dW_law_558 : decode code 558 = .ok (.invokevirtual 76, 3) := by decide +kernel
theorem dW_law_561 : decode code 561 = .ok (.aload_n 2, 1) := by decide +kernel
theorem dW_law_562 : decode code 562 = .ok (.aload_n 0, 1) := by decide +kernel
theorem dW_law_563 : decode code 563 = .ok (.iload_n 3, 1) := by decide +kernel
theorem dW_law_564 : decode code 564 = .ok (.iconst 1, 1) := by decide +kernel
theorem dW_law_565 : decode code 565 = .ok (.iadd, 1) := by decide +kernel
theorem dW_law_566 : decode code 566 = .ok (.iaload, 1) := by decide +kernel
theorem dW_law_567 : decode code 567 = .ok (.aload_n 0, 1) := by decide +kernel
theorem dW_law_568 : decode code 568 = .ok (.iload_n 3, 1) := by decide +kernel
theorem dW_law_569 : decode code 569 = .ok (.iconst 2, 1) := by decide +kernel
theorem dW_law_570 : decode code 570 = .ok (.iadd, 1) := by decide +kernel
theorem dW_law_571 : decode code 571 = .ok (.iaload, 1) := by decide +kernel
theorem dW_law_572 : decode code 572 = .ok (.ifCond .eq 7, 3) := by decide +kernel
theorem dW_law_575 : decode code 575 = .ok (.iconst 1, 1) := by decide +kernel
theorem dW_law_576 : decode code 576 = .ok (.goto 4, 3) := by decide +kernel
theorem dW_law_579 : decode code 579 = .ok (.iconst 0, 1) := by decide +kernel
theorem dW_law_580 : decode code 580 = .ok (.aload_n 0, 1) := by decide +kernel
theorem dW_law_581 : decode code 581 = .ok (.iload_n 3, 1) := by decide +kernel
theorem dW_law_582 : decode code 582 = .ok (.iconst 3, 1) := by decide +kernel
theorem dW_law_583 : decode code 583 = .ok (.iadd, 1) := by decide +kernel
theorem dW_law_584 : decode code 584 = .ok (.iaload, 1) := by decide +kernel
theorem dW_law_585 : decode code 585 = .ok (.invokevirtual 80, 3) := by decide +kernel
theorem dW_law_588 : decode code 588 = .ok (.if_icmp .eq 222, 3) := by decide +kernel
theorem dW_law_593 : decode code 593 = .ok (.aload_n 1, 1) := by decide +kernel
theorem dW_law_594 : decode code 594 = .ok (.aload_n 0, 1) := by decide +kernel
theorem dW_law_595 : decode code 595 = .ok (.iload_n 3, 1) := by decide +kernel
theorem dW_law_596 : decode code 596 = .ok (.iconst 1, 1) := by decide +kernel
theorem dW_law_597 : decode code 597 = .ok (.iadd, 1) := by decide +kernel
theorem dW_law_598 : decode code 598 = .ok (.iaload, 1) := by decide +kernel
theorem dW_law_599 : decode code 599 = .ok (.aload_n 0, 1) := by decide +kernel
theorem dW_law_600 : decode code 600 = .ok (.iload_n 3, 1) := by decide +kernel
theorem dW_law_601 : decode code 601 = .ok (.iconst 2, 1) := by decide +kernel
theorem dW_law_602 : decode code 602 = .ok (.iadd, 1) := by decide +kernel
theorem dW_law_603 : decode code 603 = .ok (.iaload, 1) := by decide +kernel
theorem dW_law_604 : decode code 604 = .ok (.invokevirtual 81, 3) := by decide +kernel
theorem dW_law_607 : decode code 607 = .ok (.aload_n 2, 1) := by decide +kernel
theorem dW_law_608 : decode code 608 = .ok (.aload_n 0, 1) := by decide +kernel
theorem dW_law_609 : decode code 609 = .ok (.iload_n 3, 1) := by decide +kernel
theorem dW_law_610 : decode code 610 = .ok (.iconst 1, 1) := by decide +kernel
theorem dW_law_611 : decode code 611 = .ok (.iadd, 1) := by decide +kernel
theorem dW_law_612 : decode code 612 = .ok (.iaload, 1) := by decide +kernel
theorem dW_law_613 : decode code 613 = .ok (.aload_n 0, 1) := by decide +kernel
theorem dW_law_614 : decode code 614 = .ok (.iload_n 3, 1) := by decide +kernel
theorem dW_law_615 : decode code 615 = .ok (.iconst 2, 1) := by decide +kernel
theorem dW_law_616 : decode code 616 = .ok (.iadd, 1) := by decide +kernel
theorem dW_law_617 : decode code 617 = .ok (.iaload, 1) := by decide +kernel
theorem dW_law_618 : decode code 618 = .ok (.invokevirtual 84, 3) := by decide +kernel
theorem dW_law_621 : decode code 621 = .ok (.if_icmp .eq 189, 3) := by decide +kernel
theorem dW_law_626 : decode code 626 = .ok (.aload_n 1, 1) := by decide +kernel
theorem dW_law_627 : decode code 627 = .ok (.aload_n 0, 1) := by decide +kernel
theorem dW_law_628 : decode code 628 = .ok (.iload_n 3, 1) := by decide +kernel
theorem dW_law_629 : decode code 629 = .ok (.iconst 1, 1) := by decide +kernel
theorem dW_law_630 : decode code 630 = .ok (.iadd, 1) := by decide +kernel
theorem dW_law_631 : decode code 631 = .ok (.iaload, 1) := by decide +kernel
theorem dW_law_632 : decode code 632 = .ok (.invokevirtual 85, 3) := by decide +kernel
theorem dW_law_635 : decode code 635 = .ok (.aload_n 2, 1) := by decide +kernel
theorem dW_law_636 : decode code 636 = .ok (.aload_n 0, 1) := by decide +kernel
theorem dW_law_637 : decode code 637 = .ok (.iload_n 3, 1) := by decide +kernel
theorem dW_law_638 : decode code 638 = .ok (.iconst 1, 1) := by decide +kernel
theorem dW_law_639 : decode code 639 = .ok (.iadd, 1) := by decide +kernel
theorem dW_law_640 : decode code 640 = .ok (.iaload, 1) := by decide +kernel
theorem dW_law_641 : decode code 641 = .ok (.invokevirtual 88, 3) := by decide +kernel
theorem dW_law_644 : decode code 644 = .ok (.if_icmp .eq 166, 3) := by decide +kernel
theorem dW_law_649 : decode code 649 = .ok (.aload_n 1, 1) := by decide +kernel
theorem dW_law_650 : decode code 650 = .ok (.aload_n 0, 1) := by decide +kernel
theorem dW_law_651 : decode code 651 = .ok (.iload_n 3, 1) := by decide +kernel
theorem dW_law_652 : decode code 652 = .ok (.iconst 1, 1) := by decide +kernel
theorem dW_law_653 : decode code 653 = .ok (.iadd, 1) := by decide +kernel
theorem dW_law_654 : decode code 654 = .ok (.iaload, 1) := by decide +kernel
theorem dW_law_655 : decode code 655 = .ok (.aload_n 0, 1) := by decide +kernel
theorem dW_law_656 : decode code 656 = .ok (.iload_n 3, 1) := by decide +kernel
theorem dW_law_657 : decode code 657 = .ok (.iconst 2, 1) := by decide +kernel
theorem dW_law_658 : decode code 658 = .ok (.iadd, 1) := by decide +kernel
theorem dW_law_659 : decode code 659 = .ok (.iaload, 1) := by decide +kernel
theorem dW_law_660 : decode code 660 = .ok (.ifCond .eq 7, 3) := by decide +kernel
theorem dW_law_663 : decode code 663 = .ok (.iconst 1, 1) := by decide +kernel
theorem dW_law_664 : decode code 664 = .ok (.goto 4, 3) := by decide +kernel
theorem dW_law_667 : decode code 667 = .ok (.iconst 0, 1) := by decide +kernel
theorem dW_law_668 : decode code 668 = .ok (.invokevirtual 89, 3) := by decide +kernel
theorem dW_law_671 : decode code 671 = .ok (.aload_n 2, 1) := by decide +kernel
theorem dW_law_672 : decode code 672 = .ok (.aload_n 0, 1) := by decide +kernel
theorem dW_law_673 : decode code 673 = .ok (.iload_n 3, 1) := by decide +kernel
theorem dW_law_674 : decode code 674 = .ok (.iconst 1, 1) := by decide +kernel
theorem dW_law_675 : decode code 675 = .ok (.iadd, 1) := by decide +kernel
theorem dW_law_676 : decode code 676 = .ok (.iaload, 1) := by decide +kernel
theorem dW_law_677 : decode code 677 = .ok (.aload_n 0, 1) := by decide +kernel
theorem dW_law_678 : decode code 678 = .ok (.iload_n 3, 1) := by decide +kernel
theorem dW_law_679 : decode code 679 = .ok (.iconst 2, 1) := by decide +kernel
theorem dW_law_680 : decode code 680 = .ok (.iadd, 1) := by decide +kernel
theorem dW_law_681 : decode code 681 = .ok (.iaload, 1) := by decide +kernel
theorem dW_law_682 : decode code 682 = .ok (.ifCond .eq 7, 3) := by decide +kernel
theorem dW_law_685 : decode code 685 = .ok (.iconst 1, 1) := by decide +kernel
theorem dW_law_686 : decode code 686 = .ok (.goto 4, 3) := by decide +kernel
theorem dW_law_689 : decode code 689 = .ok (.iconst 0, 1) := by decide +kernel
theorem dW_law_690 : decode code 690 = .ok (.invokevirtual 93, 3) := by decide +kernel
theorem dW_law_693 : decode code 693 = .ok (.if_icmp .eq 117, 3) := by decide +kernel
theorem dW_law_698 : decode code 698 = .ok (.aload_n 1, 1) := by decide +kernel
theorem dW_law_699 : decode code 699 = .ok (.aload_n 0, 1) := by decide +kernel
theorem dW_law_700 : decode code 700 = .ok (.iload_n 3, 1) := by decide +kernel
theorem dW_law_701 : decode code 701 = .ok (.iconst 1, 1) := by decide +kernel
theorem dW_law_702 : decode code 702 = .ok (.iadd, 1) := by decide +kernel
theorem dW_law_703 : decode code 703 = .ok (.iaload, 1) := by decide +kernel
theorem dW_law_704 : decode code 704 = .ok (.invokevirtual 94, 3) := by decide +kernel
theorem dW_law_707 : decode code 707 = .ok (.aload_n 2, 1) := by decide +kernel
theorem dW_law_708 : decode code 708 = .ok (.aload_n 0, 1) := by decide +kernel
theorem dW_law_709 : decode code 709 = .ok (.iload_n 3, 1) := by decide +kernel
theorem dW_law_710 : decode code 710 = .ok (.iconst 1, 1) := by decide +kernel
theorem dW_law_711 : decode code 711 = .ok (.iadd, 1) := by decide +kernel
theorem dW_law_712 : decode code 712 = .ok (.iaload, 1) := by decide +kernel
theorem dW_law_713 : decode code 713 = .ok (.invokevirtual 97, 3) := by decide +kernel
theorem dW_law_716 : decode code 716 = .ok (.if_icmp .eq 94, 3) := by decide +kernel
theorem dW_law_721 : decode code 721 = .ok (.aload_n 1, 1) := by decide +kernel
theorem dW_law_722 : decode code 722 = .ok (.aload_n 0, 1) := by decide +kernel
theorem dW_law_723 : decode code 723 = .ok (.iload_n 3, 1) := by decide +kernel
theorem dW_law_724 : decode code 724 = .ok (.iconst 1, 1) := by decide +kernel
theorem dW_law_725 : decode code 725 = .ok (.iadd, 1) := by decide +kernel
theorem dW_law_726 : decode code 726 = .ok (.iaload, 1) := by decide +kernel
theorem dW_law_727 : decode code 727 = .ok (.aload_n 0, 1) := by decide +kernel
theorem dW_law_728 : decode code 728 = .ok (.iload_n 3, 1) := by decide +kernel
theorem dW_law_729 : decode code 729 = .ok (.iconst 2, 1) := by decide +kernel
theorem dW_law_730 : decode code 730 = .ok (.iadd, 1) := by decide +kernel
theorem dW_law_731 : decode code 731 = .ok (.iaload, 1) := by decide +kernel
theorem dW_law_732 : decode code 732 = .ok (.invokevirtual 98, 3) := by decide +kernel
theorem dW_law_735 : decode code 735 = .ok (.aload_n 2, 1) := by decide +kernel
theorem dW_law_736 : decode code 736 = .ok (.aload_n 0, 1) := by decide +kernel
theorem dW_law_737 : decode code 737 = .ok (.iload_n 3, 1) := by decide +kernel
theorem dW_law_738 : decode code 738 = .ok (.iconst 1, 1) := by decide +kernel
theorem dW_law_739 : decode code 739 = .ok (.iadd, 1) := by decide +kernel
theorem dW_law_740 : decode code 740 = .ok (.iaload, 1) := by decide +kernel
theorem dW_law_741 : decode code 741 = .ok (.aload_n 0, 1) := by decide +kernel
theorem dW_law_742 : decode code 742 = .ok (.iload_n 3, 1) := by decide +kernel
theorem dW_law_743 : decode code 743 = .ok (.iconst 2, 1) := by decide +kernel
theorem dW_law_744 : decode code 744 = .ok (.iadd, 1) := by decide +kernel
theorem dW_law_745 : decode code 745 = .ok (.iaload, 1) := by decide +kernel
theorem dW_law_746 : decode code 746 = .ok (.invokevirtual 101, 3) := by decide +kernel
theorem dW_law_749 : decode code 749 = .ok (.if_icmp .eq 61, 3) := by decide +kernel
theorem dW_law_754 : decode code 754 = .ok (.aload_n 1, 1) := by decide +kernel
theorem dW_law_755 : decode code 755 = .ok (.aload_n 0, 1) := by decide +kernel
theorem dW_law_756 : decode code 756 = .ok (.iload_n 3, 1) := by decide +kernel
theorem dW_law_757 : decode code 757 = .ok (.iconst 1, 1) := by decide +kernel
theorem dW_law_758 : decode code 758 = .ok (.iadd, 1) := by decide +kernel
theorem dW_law_759 : decode code 759 = .ok (.iaload, 1) := by decide +kernel
theorem dW_law_760 : decode code 760 = .ok (.aload_n 0, 1) := by decide +kernel
theorem dW_law_761 : decode code 761 = .ok (.iload_n 3, 1) := by decide +kernel
theorem dW_law_762 : decode code 762 = .ok (.iconst 2, 1) := by decide +kernel
theorem dW_law_763 : decode code 763 = .ok (.iadd, 1) := by decide +kernel
theorem dW_law_764 : decode code 764 = .ok (.iaload, 1) := by decide +kernel
theorem dW_law_765 : decode code 765 = .ok (.invokevirtual 102, 3) := by decide +kernel
theorem dW_law_768 : decode code 768 = .ok (.aload_n 2, 1) := by decide +kernel
theorem dW_law_769 : decode code 769 = .ok (.aload_n 0, 1) := by decide +kernel
theorem dW_law_770 : decode code 770 = .ok (.iload_n 3, 1) := by decide +kernel
theorem dW_law_771 : decode code 771 = .ok (.iconst 1, 1) := by decide +kernel
theorem dW_law_772 : decode code 772 = .ok (.iadd, 1) := by decide +kernel
theorem dW_law_773 : decode code 773 = .ok (.iaload, 1) := by decide +kernel
theorem dW_law_774 : decode code 774 = .ok (.aload_n 0, 1) := by decide +kernel
theorem dW_law_775 : decode code 775 = .ok (.iload_n 3, 1) := by decide +kernel
theorem dW_law_776 : decode code 776 = .ok (.iconst 2, 1) := by decide +kernel
theorem dW_law_777 : decode code 777 = .ok (.iadd, 1) := by decide +kernel
theorem dW_law_778 : decode code 778 = .ok (.iaload, 1) := by decide +kernel
theorem dW_law_779 : decode code 779 = .ok (.invokevirtual 105, 3) := by decide +kernel
theorem dW_law_782 : decode code 782 = .ok (.if_icmp .eq 28, 3) := by decide +kernel
theorem dW_law_787 : decode code 787 = .ok (.aload_n 1, 1) := by decide +kernel
theorem dW_law_788 : decode code 788 = .ok (.aload_n 0, 1) := by decide +kernel
theorem dW_law_789 : decode code 789 = .ok (.iload_n 3, 1) := by decide +kernel
theorem dW_law_790 : decode code 790 = .ok (.iconst 1, 1) := by decide +kernel
theorem dW_law_791 : decode code 791 = .ok (.iadd, 1) := by decide +kernel
theorem dW_law_792 : decode code 792 = .ok (.iaload, 1) := by decide +kernel
theorem dW_law_793 : decode code 793 = .ok (.invokevirtual 106, 3) := by decide +kernel
theorem dW_law_796 : decode code 796 = .ok (.aload_n 2, 1) := by decide +kernel
theorem dW_law_797 : decode code 797 = .ok (.aload_n 0, 1) := by decide +kernel
theorem dW_law_798 : decode code 798 = .ok (.iload_n 3, 1) := by decide +kernel
theorem dW_law_799 : decode code 799 = .ok (.iconst 1, 1) := by decide +kernel
theorem dW_law_800 : decode code 800 = .ok (.iadd, 1) := by decide +kernel
theorem dW_law_801 : decode code 801 = .ok (.iaload, 1) := by decide +kernel
theorem dW_law_802 : decode code 802 = .ok (.invokevirtual 109, 3) := by decide +kernel
theorem dW_law_805 : decode code 805 = .ok (.if_icmp .eq 5, 3) := by decide +kernel
theorem dW_law_810 : decode code 810 = .ok (.iinc 3 5, 3) := by decide +kernel
theorem dW_law_813 : decode code 813 = .ok (.goto (-795), 3) := by decide +kernel
theorem dW_law_816 : decode code 816 = .ok (.iconst 1, 1) := by decide +kernel
theorem dW_law_817 : decode code 817 = .ok (.ireturn, 1) := by decide +kernel
