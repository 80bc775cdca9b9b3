/-! decode rows of the law: laid by wip/gen/names.py -/
theorem dL_0 : decode code 0 = .ok (.new 7, 3) := by decide +kernel
theorem dL_3 : decode code 3 = .ok (.dup, 1) := by decide +kernel
theorem dL_4 : decode code 4 = .ok (.invokespecial 9, 3) := by decide +kernel
theorem dL_7 : decode code 7 = .ok (.astore_n 1, 1) := by decide +kernel
theorem dL_8 : decode code 8 = .ok (.new 10, 3) := by decide +kernel
theorem dL_11 : decode code 11 = .ok (.dup, 1) := by decide +kernel
theorem dL_12 : decode code 12 = .ok (.invokespecial 12, 3) := by decide +kernel
theorem dL_15 : decode code 15 = .ok (.astore_n 2, 1) := by decide +kernel
theorem dL_16 : decode code 16 = .ok (.iconst 0, 1) := by decide +kernel
theorem dL_17 : decode code 17 = .ok (.istore_n 3, 1) := by decide +kernel
theorem dL_18 : decode code 18 = .ok (.iload_n 3, 1) := by decide +kernel
theorem dL_19 : decode code 19 = .ok (.aload_n 0, 1) := by decide +kernel
theorem dL_20 : decode code 20 = .ok (.arraylength, 1) := by decide +kernel
theorem dL_21 : decode code 21 = .ok (.iconst 5, 1) := by decide +kernel
theorem dL_22 : decode code 22 = .ok (.isub, 1) := by decide +kernel
theorem dL_23 : decode code 23 = .ok (.if_icmp .gt 623, 3) := by decide +kernel
theorem dL_26 : decode code 26 = .ok (.aload_n 0, 1) := by decide +kernel
theorem dL_27 : decode code 27 = .ok (.iload_n 3, 1) := by decide +kernel
theorem dL_28 : decode code 28 = .ok (.iaload, 1) := by decide +kernel
theorem dL_29 : decode code 29 = .ok (.bipush 31, 2) := by decide +kernel
theorem dL_31 : decode code 31 = .ok (.iand, 1) := by decide +kernel
theorem dL_32 : decode code 32 = .ok (.tableswitch 608 0 18 #[92, 115, 168, 191, 264, 307, 341, 374, 397, 410, 421, 454, 477, 490, 503, 516, 529, 552, 585], 92) := by decide +kernel
theorem dL_124 : decode code 124 = .ok (.aload_n 1, 1) := by decide +kernel
theorem dL_125 : decode code 125 = .ok (.aload_n 0, 1) := by decide +kernel
theorem dL_126 : decode code 126 = .ok (.iload_n 3, 1) := by decide +kernel
theorem dL_127 : decode code 127 = .ok (.iconst 1, 1) := by decide +kernel
theorem dL_128 : decode code 128 = .ok (.iadd, 1) := by decide +kernel
theorem dL_129 : decode code 129 = .ok (.iaload, 1) := by decide +kernel
theorem dL_130 : decode code 130 = .ok (.invokevirtual 13, 3) := by decide +kernel
theorem dL_133 : decode code 133 = .ok (.aload_n 2, 1) := by decide +kernel
theorem dL_134 : decode code 134 = .ok (.aload_n 0, 1) := by decide +kernel
theorem dL_135 : decode code 135 = .ok (.iload_n 3, 1) := by decide +kernel
theorem dL_136 : decode code 136 = .ok (.iconst 1, 1) := by decide +kernel
theorem dL_137 : decode code 137 = .ok (.iadd, 1) := by decide +kernel
theorem dL_138 : decode code 138 = .ok (.iaload, 1) := by decide +kernel
theorem dL_139 : decode code 139 = .ok (.invokevirtual 17, 3) := by decide +kernel
theorem dL_142 : decode code 142 = .ok (.if_icmp .eq 498, 3) := by decide +kernel
theorem dL_145 : decode code 145 = .ok (.iconst 0, 1) := by decide +kernel
theorem dL_146 : decode code 146 = .ok (.ireturn, 1) := by decide +kernel
theorem dL_147 : decode code 147 = .ok (.aload_n 1, 1) := by decide +kernel
theorem dL_148 : decode code 148 = .ok (.aload_n 0, 1) := by decide +kernel
theorem dL_149 : decode code 149 = .ok (.iload_n 3, 1) := by decide +kernel
theorem dL_150 : decode code 150 = .ok (.iconst 1, 1) := by decide +kernel
theorem dL_151 : decode code 151 = .ok (.iadd, 1) := by decide +kernel
theorem dL_152 : decode code 152 = .ok (.iaload, 1) := by decide +kernel
theorem dL_153 : decode code 153 = .ok (.aload_n 0, 1) := by decide +kernel
theorem dL_154 : decode code 154 = .ok (.iload_n 3, 1) := by decide +kernel
theorem dL_155 : decode code 155 = .ok (.iconst 2, 1) := by decide +kernel
theorem dL_156 : decode code 156 = .ok (.iadd, 1) := by decide +kernel
theorem dL_157 : decode code 157 = .ok (.iaload, 1) := by decide +kernel
theorem dL_158 : decode code 158 = .ok (.aload_n 0, 1) := by decide +kernel
theorem dL_159 : decode code 159 = .ok (.iload_n 3, 1) := by decide +kernel
theorem dL_160 : decode code 160 = .ok (.iconst 3, 1) := by decide +kernel
theorem dL_161 : decode code 161 = .ok (.iadd, 1) := by decide +kernel
theorem dL_162 : decode code 162 = .ok (.iaload, 1) := by decide +kernel
theorem dL_163 : decode code 163 = .ok (.aload_n 0, 1) := by decide +kernel
theorem dL_164 : decode code 164 = .ok (.iload_n 3, 1) := by decide +kernel
theorem dL_165 : decode code 165 = .ok (.iconst 4, 1) := by decide +kernel
theorem dL_166 : decode code 166 = .ok (.iadd, 1) := by decide +kernel
theorem dL_167 : decode code 167 = .ok (.iaload, 1) := by decide +kernel
theorem dL_168 : decode code 168 = .ok (.invokevirtual 18, 3) := by decide +kernel
theorem dL_171 : decode code 171 = .ok (.aload_n 2, 1) := by decide +kernel
theorem dL_172 : decode code 172 = .ok (.aload_n 0, 1) := by decide +kernel
theorem dL_173 : decode code 173 = .ok (.iload_n 3, 1) := by decide +kernel
theorem dL_174 : decode code 174 = .ok (.iconst 1, 1) := by decide +kernel
theorem dL_175 : decode code 175 = .ok (.iadd, 1) := by decide +kernel
theorem dL_176 : decode code 176 = .ok (.iaload, 1) := by decide +kernel
theorem dL_177 : decode code 177 = .ok (.aload_n 0, 1) := by decide +kernel
theorem dL_178 : decode code 178 = .ok (.iload_n 3, 1) := by decide +kernel
theorem dL_179 : decode code 179 = .ok (.iconst 2, 1) := by decide +kernel
theorem dL_180 : decode code 180 = .ok (.iadd, 1) := by decide +kernel
theorem dL_181 : decode code 181 = .ok (.iaload, 1) := by decide +kernel
theorem dL_182 : decode code 182 = .ok (.aload_n 0, 1) := by decide +kernel
theorem dL_183 : decode code 183 = .ok (.iload_n 3, 1) := by decide +kernel
theorem dL_184 : decode code 184 = .ok (.iconst 3, 1) := by decide +kernel
theorem dL_185 : decode code 185 = .ok (.iadd, 1) := by decide +kernel
theorem dL_186 : decode code 186 = .ok (.iaload, 1) := by decide +kernel
theorem dL_187 : decode code 187 = .ok (.aload_n 0, 1) := by decide +kernel
theorem dL_188 : decode code 188 = .ok (.iload_n 3, 1) := by decide +kernel
theorem dL_189 : decode code 189 = .ok (.iconst 4, 1) := by decide +kernel
theorem dL_190 : decode code 190 = .ok (.iadd, 1) := by decide +kernel
theorem dL_191 : decode code 191 = .ok (.iaload, 1) := by decide +kernel
theorem dL_192 : decode code 192 = .ok (.invokevirtual 22, 3) := by decide +kernel
theorem dL_195 : decode code 195 = .ok (.if_icmp .eq 445, 3) := by decide +kernel
theorem dL_198 : decode code 198 = .ok (.iconst 0, 1) := by decide +kernel
theorem dL_199 : decode code 199 = .ok (.ireturn, 1) := by decide +kernel
theorem dL_200 : decode code 200 = .ok (.aload_n 1, 1) := by decide +kernel
theorem dL_201 : decode code 201 = .ok (.aload_n 0, 1) := by decide +kernel
theorem dL_202 : decode code 202 = .ok (.iload_n 3, 1) := by decide +kernel
theorem dL_203 : decode code 203 = .ok (.iconst 1, 1) := by decide +kernel
theorem dL_204 : decode code 204 = .ok (.iadd, 1) := by decide +kernel
theorem dL_205 : decode code 205 = .ok (.iaload, 1) := by decide +kernel
theorem dL_206 : decode code 206 = .ok (.invokevirtual 23, 3) := by decide +kernel
theorem dL_209 : decode code 209 = .ok (.aload_n 2, 1) := by decide +kernel
theorem dL_210 : decode code 210 = .ok (.aload_n 0, 1) := by decide +kernel
theorem dL_211 : decode code 211 = .ok (.iload_n 3, 1) := by decide +kernel
theorem dL_212 : decode code 212 = .ok (.iconst 1, 1) := by decide +kernel
theorem dL_213 : decode code 213 = .ok (.iadd, 1) := by decide +kernel
theorem dL_214 : decode code 214 = .ok (.iaload, 1) := by decide +kernel
theorem dL_215 : decode code 215 = .ok (.invokevirtual 26, 3) := by decide +kernel
theorem dL_218 : decode code 218 = .ok (.if_icmp .eq 422, 3) := by decide +kernel
theorem dL_221 : decode code 221 = .ok (.iconst 0, 1) := by decide +kernel
theorem dL_222 : decode code 222 = .ok (.ireturn, 1) := by decide +kernel
theorem dL_223 : decode code 223 = .ok (.aload_n 1, 1) := by decide +kernel
theorem dL_224 : decode code 224 = .ok (.aload_n 0, 1) := by decide +kernel
theorem dL_225 : decode code 225 = .ok (.iload_n 3, 1) := by decide +kernel
theorem dL_226 : decode code 226 = .ok (.iconst 1, 1) := by decide +kernel
theorem dL_227 : decode code 227 = .ok (.iadd, 1) := by decide +kernel
theorem dL_228 : decode code 228 = .ok (.iaload, 1) := by decide +kernel
theorem dL_229 : decode code 229 = .ok (.aload_n 0, 1) := by decide +kernel
theorem dL_230 : decode code 230 = .ok (.iload_n 3, 1) := by decide +kernel
theorem dL_231 : decode code 231 = .ok (.iconst 2, 1) := by decide +kernel
theorem dL_232 : decode code 232 = .ok (.iadd, 1) := by decide +kernel
theorem dL_233 : decode code 233 = .ok (.iaload, 1) := by decide +kernel
theorem dL_234 : decode code 234 = .ok (.aload_n 0, 1) := by decide +kernel
theorem dL_235 : decode code 235 = .ok (.iload_n 3, 1) := by decide +kernel
theorem dL_236 : decode code 236 = .ok (.iconst 3, 1) := by decide +kernel
theorem dL_237 : decode code 237 = .ok (.iadd, 1) := by decide +kernel
theorem dL_238 : decode code 238 = .ok (.iaload, 1) := by decide +kernel
theorem dL_239 : decode code 239 = .ok (.i2l, 1) := by decide +kernel
theorem dL_240 : decode code 240 = .ok (.bipush 32, 2) := by decide +kernel
theorem dL_242 : decode code 242 = .ok (.lshl, 1) := by decide +kernel
theorem dL_243 : decode code 243 = .ok (.aload_n 0, 1) := by decide +kernel
theorem dL_244 : decode code 244 = .ok (.iload_n 3, 1) := by decide +kernel
theorem dL_245 : decode code 245 = .ok (.iconst 4, 1) := by decide +kernel
theorem dL_246 : decode code 246 = .ok (.iadd, 1) := by decide +kernel
theorem dL_247 : decode code 247 = .ok (.iaload, 1) := by decide +kernel
theorem dL_248 : decode code 248 = .ok (.i2l, 1) := by decide +kernel
theorem dL_249 : decode code 249 = .ok (.ldc2_w 27, 3) := by decide +kernel
theorem dL_252 : decode code 252 = .ok (.land, 1) := by decide +kernel
theorem dL_253 : decode code 253 = .ok (.lor, 1) := by decide +kernel
theorem dL_254 : decode code 254 = .ok (.invokevirtual 29, 3) := by decide +kernel
theorem dL_257 : decode code 257 = .ok (.aload_n 2, 1) := by decide +kernel
theorem dL_258 : decode code 258 = .ok (.aload_n 0, 1) := by decide +kernel
theorem dL_259 : decode code 259 = .ok (.iload_n 3, 1) := by decide +kernel
theorem dL_260 : decode code 260 = .ok (.iconst 1, 1) := by decide +kernel
theorem dL_261 : decode code 261 = .ok (.iadd, 1) := by decide +kernel
theorem dL_262 : decode code 262 = .ok (.iaload, 1) := by decide +kernel
theorem dL_263 : decode code 263 = .ok (.aload_n 0, 1) := by decide +kernel
theorem dL_264 : decode code 264 = .ok (.iload_n 3, 1) := by decide +kernel
theorem dL_265 : decode code 265 = .ok (.iconst 2, 1) := by decide +kernel
theorem dL_266 : decode code 266 = .ok (.iadd, 1) := by decide +kernel
theorem dL_267 : decode code 267 = .ok (.iaload, 1) := by decide +kernel
theorem dL_268 : decode code 268 = .ok (.aload_n 0, 1) := by decide +kernel
theorem dL_269 : decode code 269 = .ok (.iload_n 3, 1) := by decide +kernel
theorem dL_270 : decode code 270 = .ok (.iconst 3, 1) := by decide +kernel
theorem dL_271 : decode code 271 = .ok (.iadd, 1) := by decide +kernel
theorem dL_272 : decode code 272 = .ok (.iaload, 1) := by decide +kernel
theorem dL_273 : decode code 273 = .ok (.i2l, 1) := by decide +kernel
theorem dL_274 : decode code 274 = .ok (.bipush 32, 2) := by decide +kernel
theorem dL_276 : decode code 276 = .ok (.lshl, 1) := by decide +kernel
theorem dL_277 : decode code 277 = .ok (.aload_n 0, 1) := by decide +kernel
theorem dL_278 : decode code 278 = .ok (.iload_n 3, 1) := by decide +kernel
theorem dL_279 : decode code 279 = .ok (.iconst 4, 1) := by decide +kernel
theorem dL_280 : decode code 280 = .ok (.iadd, 1) := by decide +kernel
theorem dL_281 : decode code 281 = .ok (.iaload, 1) := by decide +kernel
theorem dL_282 : decode code 282 = .ok (.i2l, 1) := by decide +kernel
theorem dL_283 : decode code 283 = .ok (.ldc2_w 27, 3) := by decide +kernel
theorem dL_286 : decode code 286 = .ok (.land, 1) := by decide +kernel
theorem dL_287 : decode code 287 = .ok (.lor, 1) := by decide +kernel
theorem dL_288 : decode code 288 = .ok (.invokevirtual 33, 3) := by decide +kernel
theorem dL_291 : decode code 291 = .ok (.if_icmp .eq 349, 3) := by decide +kernel
theorem dL_294 : decode code 294 = .ok (.iconst 0, 1) := by decide +kernel
theorem dL_295 : decode code 295 = .ok (.ireturn, 1) := by decide +kernel
theorem dL_296 : decode code 296 = .ok (.aload_n 1, 1) := by decide +kernel
theorem dL_297 : decode code 297 = .ok (.aload_n 0, 1) := by decide +kernel
theorem dL_298 : decode code 298 = .ok (.iload_n 3, 1) := by decide +kernel
theorem dL_299 : decode code 299 = .ok (.iconst 1, 1) := by decide +kernel
theorem dL_300 : decode code 300 = .ok (.iadd, 1) := by decide +kernel
theorem dL_301 : decode code 301 = .ok (.iaload, 1) := by decide +kernel
theorem dL_302 : decode code 302 = .ok (.aload_n 0, 1) := by decide +kernel
theorem dL_303 : decode code 303 = .ok (.iload_n 3, 1) := by decide +kernel
theorem dL_304 : decode code 304 = .ok (.iconst 2, 1) := by decide +kernel
theorem dL_305 : decode code 305 = .ok (.iadd, 1) := by decide +kernel
theorem dL_306 : decode code 306 = .ok (.iaload, 1) := by decide +kernel
theorem dL_307 : decode code 307 = .ok (.aload_n 0, 1) := by decide +kernel
theorem dL_308 : decode code 308 = .ok (.iload_n 3, 1) := by decide +kernel
theorem dL_309 : decode code 309 = .ok (.iconst 3, 1) := by decide +kernel
theorem dL_310 : decode code 310 = .ok (.iadd, 1) := by decide +kernel
theorem dL_311 : decode code 311 = .ok (.iaload, 1) := by decide +kernel
theorem dL_312 : decode code 312 = .ok (.invokevirtual 34, 3) := by decide +kernel
theorem dL_315 : decode code 315 = .ok (.aload_n 2, 1) := by decide +kernel
theorem dL_316 : decode code 316 = .ok (.aload_n 0, 1) := by decide +kernel
theorem dL_317 : decode code 317 = .ok (.iload_n 3, 1) := by decide +kernel
theorem dL_318 : decode code 318 = .ok (.iconst 1, 1) := by decide +kernel
theorem dL_319 : decode code 319 = .ok (.iadd, 1) := by decide +kernel
theorem dL_320 : decode code 320 = .ok (.iaload, 1) := by decide +kernel
theorem dL_321 : decode code 321 = .ok (.aload_n 0, 1) := by decide +kernel
theorem dL_322 : decode code 322 = .ok (.iload_n 3, 1) := by decide +kernel
theorem dL_323 : decode code 323 = .ok (.iconst 2, 1) := by decide +kernel
theorem dL_324 : decode code 324 = .ok (.iadd, 1) := by decide +kernel
theorem dL_325 : decode code 325 = .ok (.iaload, 1) := by decide +kernel
theorem dL_326 : decode code 326 = .ok (.aload_n 0, 1) := by decide +kernel
theorem dL_327 : decode code 327 = .ok (.iload_n 3, 1) := by decide +kernel
theorem dL_328 : decode code 328 = .ok (.iconst 3, 1) := by decide +kernel
theorem dL_329 : decode code 329 = .ok (.iadd, 1) := by decide +kernel
theorem dL_330 : decode code 330 = .ok (.iaload, 1) := by decide +kernel
theorem dL_331 : decode code 331 = .ok (.invokevirtual 38, 3) := by decide +kernel
theorem dL_334 : decode code 334 = .ok (.if_icmp .eq 306, 3) := by decide +kernel
theorem dL_337 : decode code 337 = .ok (.iconst 0, 1) := by decide +kernel
theorem dL_338 : decode code 338 = .ok (.ireturn, 1) := by decide +kernel
theorem dL_339 : decode code 339 = .ok (.aload_n 1, 1) := by decide +kernel
theorem dL_340 : decode code 340 = .ok (.aload_n 0, 1) := by decide +kernel
theorem dL_341 : decode code 341 = .ok (.iload_n 3, 1) := by decide +kernel
theorem dL_342 : decode code 342 = .ok (.iconst 1, 1) := by decide +kernel
theorem dL_343 : decode code 343 = .ok (.iadd, 1) := by decide +kernel
theorem dL_344 : decode code 344 = .ok (.iaload, 1) := by decide +kernel
theorem dL_345 : decode code 345 = .ok (.aload_n 0, 1) := by decide +kernel
theorem dL_346 : decode code 346 = .ok (.iload_n 3, 1) := by decide +kernel
theorem dL_347 : decode code 347 = .ok (.iconst 2, 1) := by decide +kernel
theorem dL_348 : decode code 348 = .ok (.iadd, 1) := by decide +kernel
theorem dL_349 : decode code 349 = .ok (.iaload, 1) := by decide +kernel
theorem dL_350 : decode code 350 = .ok (.invokevirtual 39, 3) := by decide +kernel
theorem dL_353 : decode code 353 = .ok (.aload_n 2, 1) := by decide +kernel
theorem dL_354 : decode code 354 = .ok (.aload_n 0, 1) := by decide +kernel
theorem dL_355 : decode code 355 = .ok (.iload_n 3, 1) := by decide +kernel
theorem dL_356 : decode code 356 = .ok (.iconst 1, 1) := by decide +kernel
theorem dL_357 : decode code 357 = .ok (.iadd, 1) := by decide +kernel
theorem dL_358 : decode code 358 = .ok (.iaload, 1) := by decide +kernel
theorem dL_359 : decode code 359 = .ok (.aload_n 0, 1) := by decide +kernel
theorem dL_360 : decode code 360 = .ok (.iload_n 3, 1) := by decide +kernel
theorem dL_361 : decode code 361 = .ok (.iconst 2, 1) := by decide +kernel
theorem dL_362 : decode code 362 = .ok (.iadd, 1) := by decide +kernel
theorem dL_363 : decode code 363 = .ok (.iaload, 1) := by decide +kernel
theorem dL_364 : decode code 364 = .ok (.invokevirtual 43, 3) := by decide +kernel
theorem dL_367 : decode code 367 = .ok (.lcmp, 1) := by decide +kernel
theorem dL_368 : decode code 368 = .ok (.ifCond .eq 272, 3) := by decide +kernel
theorem dL_371 : decode code 371 = .ok (.iconst 0, 1) := by decide +kernel
theorem dL_372 : decode code 372 = .ok (.ireturn, 1) := by decide +kernel
theorem dL_373 : decode code 373 = .ok (.aload_n 1, 1) := by decide +kernel
theorem dL_374 : decode code 374 = .ok (.aload_n 0, 1) := by decide +kernel
theorem dL_375 : decode code 375 = .ok (.iload_n 3, 1) := by decide +kernel
theorem dL_376 : decode code 376 = .ok (.iconst 1, 1) := by decide +kernel
theorem dL_377 : decode code 377 = .ok (.iadd, 1) := by decide +kernel
theorem dL_378 : decode code 378 = .ok (.iaload, 1) := by decide +kernel
theorem dL_379 : decode code 379 = .ok (.aload_n 0, 1) := by decide +kernel
theorem dL_380 : decode code 380 = .ok (.iload_n 3, 1) := by decide +kernel
theorem dL_381 : decode code 381 = .ok (.iconst 2, 1) := by decide +kernel
theorem dL_382 : decode code 382 = .ok (.iadd, 1) := by decide +kernel
theorem dL_383 : decode code 383 = .ok (.iaload, 1) := by decide +kernel
theorem dL_384 : decode code 384 = .ok (.invokevirtual 44, 3) := by decide +kernel
theorem dL_387 : decode code 387 = .ok (.aload_n 2, 1) := by decide +kernel
theorem dL_388 : decode code 388 = .ok (.aload_n 0, 1) := by decide +kernel
theorem dL_389 : decode code 389 = .ok (.iload_n 3, 1) := by decide +kernel
theorem dL_390 : decode code 390 = .ok (.iconst 1, 1) := by decide +kernel
theorem dL_391 : decode code 391 = .ok (.iadd, 1) := by decide +kernel
theorem dL_392 : decode code 392 = .ok (.iaload, 1) := by decide +kernel
theorem dL_393 : decode code 393 = .ok (.aload_n 0, 1) := by decide +kernel
theorem dL_394 : decode code 394 = .ok (.iload_n 3, 1) := by decide +kernel
theorem dL_395 : decode code 395 = .ok (.iconst 2, 1) := by decide +kernel
theorem dL_396 : decode code 396 = .ok (.iadd, 1) := by decide +kernel
theorem dL_397 : decode code 397 = .ok (.iaload, 1) := by decide +kernel
theorem dL_398 : decode code 398 = .ok (.invokevirtual 48, 3) := by decide +kernel
theorem dL_401 : decode code 401 = .ok (.if_icmp .eq 239, 3) := by decide +kernel
theorem dL_404 : decode code 404 = .ok (.iconst 0, 1) := by decide +kernel
theorem dL_405 : decode code 405 = .ok (.ireturn, 1) := by decide +kernel
theorem dL_406 : decode code 406 = .ok (.aload_n 1, 1) := by decide +kernel
theorem dL_407 : decode code 407 = .ok (.aload_n 0, 1) := by decide +kernel
theorem dL_408 : decode code 408 = .ok (.iload_n 3, 1) := by decide +kernel
theorem dL_409 : decode code 409 = .ok (.iconst 1, 1) := by decide +kernel
theorem dL_410 : decode code 410 = .ok (.iadd, 1) := by decide +kernel
theorem dL_411 : decode code 411 = .ok (.iaload, 1) := by decide +kernel
theorem dL_412 : decode code 412 = .ok (.invokevirtual 49, 3) := by decide +kernel
theorem dL_415 : decode code 415 = .ok (.aload_n 2, 1) := by decide +kernel
theorem dL_416 : decode code 416 = .ok (.aload_n 0, 1) := by decide +kernel
theorem dL_417 : decode code 417 = .ok (.iload_n 3, 1) := by decide +kernel
theorem dL_418 : decode code 418 = .ok (.iconst 1, 1) := by decide +kernel
theorem dL_419 : decode code 419 = .ok (.iadd, 1) := by decide +kernel
theorem dL_420 : decode code 420 = .ok (.iaload, 1) := by decide +kernel
theorem dL_421 : decode code 421 = .ok (.invokevirtual 52, 3) := by decide +kernel
theorem dL_424 : decode code 424 = .ok (.if_icmp .eq 216, 3) := by decide +kernel
theorem dL_427 : decode code 427 = .ok (.iconst 0, 1) := by decide +kernel
theorem dL_428 : decode code 428 = .ok (.ireturn, 1) := by decide +kernel
theorem dL_429 : decode code 429 = .ok (.aload_n 1, 1) := by decide +kernel
theorem dL_430 : decode code 430 = .ok (.invokevirtual 53, 3) := by decide +kernel
theorem dL_433 : decode code 433 = .ok (.aload_n 2, 1) := by decide +kernel
theorem dL_434 : decode code 434 = .ok (.invokevirtual 57, 3) := by decide +kernel
theorem dL_437 : decode code 437 = .ok (.if_icmp .eq 203, 3) := by decide +kernel
theorem dL_440 : decode code 440 = .ok (.iconst 0, 1) := by decide +kernel
theorem dL_441 : decode code 441 = .ok (.ireturn, 1) := by decide +kernel
theorem dL_442 : decode code 442 = .ok (.aload_n 1, 1) := by decide +kernel
theorem dL_443 : decode code 443 = .ok (.invokevirtual 58, 3) := by decide +kernel
theorem dL_446 : decode code 446 = .ok (.aload_n 2, 1) := by decide +kernel
theorem dL_447 : decode code 447 = .ok (.invokevirtual 61, 3) := by decide +kernel
theorem dL_450 : decode code 450 = .ok (.goto 190, 3) := by decide +kernel
theorem dL_453 : decode code 453 = .ok (.aload_n 1, 1) := by decide +kernel
theorem dL_454 : decode code 454 = .ok (.aload_n 0, 1) := by decide +kernel
theorem dL_455 : decode code 455 = .ok (.iload_n 3, 1) := by decide +kernel
theorem dL_456 : decode code 456 = .ok (.iconst 1, 1) := by decide +kernel
theorem dL_457 : decode code 457 = .ok (.iadd, 1) := by decide +kernel
theorem dL_458 : decode code 458 = .ok (.iaload, 1) := by decide +kernel
theorem dL_459 : decode code 459 = .ok (.aload_n 0, 1) := by decide +kernel
theorem dL_460 : decode code 460 = .ok (.iload_n 3, 1) := by decide +kernel
theorem dL_461 : decode code 461 = .ok (.iconst 2, 1) := by decide +kernel
theorem dL_462 : decode code 462 = .ok (.iadd, 1) := by decide +kernel
theorem dL_463 : decode code 463 = .ok (.iaload, 1) := by decide +kernel
theorem dL_464 : decode code 464 = .ok (.invokevirtual 62, 3) := by decide +kernel
theorem dL_467 : decode code 467 = .ok (.aload_n 2, 1) := by decide +kernel
theorem dL_468 : decode code 468 = .ok (.aload_n 0, 1) := by decide +kernel
theorem dL_469 : decode code 469 = .ok (.iload_n 3, 1) := by decide +kernel
theorem dL_470 : decode code 470 = .ok (.iconst 1, 1) := by decide +kernel
theorem dL_471 : decode code 471 = .ok (.iadd, 1) := by decide +kernel
theorem dL_472 : decode code 472 = .ok (.iaload, 1) := by decide +kernel
theorem dL_473 : decode code 473 = .ok (.aload_n 0, 1) := by decide +kernel
theorem dL_474 : decode code 474 = .ok (.iload_n 3, 1) := by decide +kernel
theorem dL_475 : decode code 475 = .ok (.iconst 2, 1) := by decide +kernel
theorem dL_476 : decode code 476 = .ok (.iadd, 1) := by decide +kernel
theorem dL_477 : decode code 477 = .ok (.iaload, 1) := by decide +kernel
theorem dL_478 : decode code 478 = .ok (.invokevirtual 65, 3) := by decide +kernel
theorem dL_481 : decode code 481 = .ok (.if_icmp .eq 159, 3) := by decide +kernel
theorem dL_484 : decode code 484 = .ok (.iconst 0, 1) := by decide +kernel
theorem dL_485 : decode code 485 = .ok (.ireturn, 1) := by decide +kernel
theorem dL_486 : decode code 486 = .ok (.aload_n 1, 1) := by decide +kernel
theorem dL_487 : decode code 487 = .ok (.aload_n 0, 1) := by decide +kernel
theorem dL_488 : decode code 488 = .ok (.iload_n 3, 1) := by decide +kernel
theorem dL_489 : decode code 489 = .ok (.iconst 1, 1) := by decide +kernel
theorem dL_490 : decode code 490 = .ok (.iadd, 1) := by decide +kernel
theorem dL_491 : decode code 491 = .ok (.iaload, 1) := by decide +kernel
theorem dL_492 : decode code 492 = .ok (.invokevirtual 66, 3) := by decide +kernel
theorem dL_495 : decode code 495 = .ok (.aload_n 2, 1) := by decide +kernel
theorem dL_496 : decode code 496 = .ok (.aload_n 0, 1) := by decide +kernel
theorem dL_497 : decode code 497 = .ok (.iload_n 3, 1) := by decide +kernel
theorem dL_498 : decode code 498 = .ok (.iconst 1, 1) := by decide +kernel
theorem dL_499 : decode code 499 = .ok (.iadd, 1) := by decide +kernel
theorem dL_500 : decode code 500 = .ok (.iaload, 1) := by decide +kernel
theorem dL_501 : decode code 501 = .ok (.invokevirtual 69, 3) := by decide +kernel
theorem dL_504 : decode code 504 = .ok (.if_icmp .eq 136, 3) := by decide +kernel
theorem dL_507 : decode code 507 = .ok (.iconst 0, 1) := by decide +kernel
theorem dL_508 : decode code 508 = .ok (.ireturn, 1) := by decide +kernel
theorem dL_509 : decode code 509 = .ok (.aload_n 1, 1) := by decide +kernel
theorem dL_510 : decode code 510 = .ok (.invokevirtual 70, 3) := by decide +kernel
theorem dL_513 : decode code 513 = .ok (.aload_n 2, 1) := by decide +kernel
theorem dL_514 : decode code 514 = .ok (.invokevirtual 74, 3) := by decide +kernel
theorem dL_517 : decode code 517 = .ok (.if_icmp .eq 123, 3) := by decide +kernel
theorem dL_520 : decode code 520 = .ok (.iconst 0, 1) := by decide +kernel
theorem dL_521 : decode code 521 = .ok (.ireturn, 1) := by decide +kernel
theorem dL_522 : decode code 522 = .ok (.aload_n 1, 1) := by decide +kernel
theorem dL_523 : decode code 523 = .ok (.invokevirtual 75, 3) := by decide +kernel
theorem dL_526 : decode code 526 = .ok (.aload_n 2, 1) := by decide +kernel
theorem dL_527 : decode code 527 = .ok (.invokevirtual 78, 3) := by decide +kernel
theorem dL_530 : decode code 530 = .ok (.if_icmp .eq 110, 3) := by decide +kernel
theorem dL_533 : decode code 533 = .ok (.iconst 0, 1) := by decide +kernel
theorem dL_534 : decode code 534 = .ok (.ireturn, 1) := by decide +kernel
theorem dL_535 : decode code 535 = .ok (.aload_n 1, 1) := by decide +kernel
theorem dL_536 : decode code 536 = .ok (.invokevirtual 79, 3) := by decide +kernel
theorem dL_539 : decode code 539 = .ok (.aload_n 2, 1) := by decide +kernel
theorem dL_540 : decode code 540 = .ok (.invokevirtual 82, 3) := by decide +kernel
theorem dL_543 : decode code 543 = .ok (.if_icmp .eq 97, 3) := by decide +kernel
theorem dL_546 : decode code 546 = .ok (.iconst 0, 1) := by decide +kernel
theorem dL_547 : decode code 547 = .ok (.ireturn, 1) := by decide +kernel
theorem dL_548 : decode code 548 = .ok (.aload_n 1, 1) := by decide +kernel
theorem dL_549 : decode code 549 = .ok (.invokevirtual 83, 3) := by decide +kernel
theorem dL_552 : decode code 552 = .ok (.aload_n 2, 1) := by decide +kernel
theorem dL_553 : decode code 553 = .ok (.invokevirtual 86, 3) := by decide +kernel
theorem dL_556 : decode code 556 = .ok (.if_icmp .eq 84, 3) := by decide +kernel
theorem dL_559 : decode code 559 = .ok (.iconst 0, 1) := by decide +kernel
theorem dL_560 : decode code 560 = .ok (.ireturn, 1) := by decide +kernel
theorem dL_561 : decode code 561 = .ok (.aload_n 1, 1) := by decide +kernel
theorem dL_562 : decode code 562 = .ok (.aload_n 0, 1) := by decide +kernel
theorem dL_563 : decode code 563 = .ok (.iload_n 3, 1) := by decide +kernel
theorem dL_564 : decode code 564 = .ok (.iconst 1, 1) := by decide +kernel
theorem dL_565 : decode code 565 = .ok (.iadd, 1) := by decide +kernel
theorem dL_566 : decode code 566 = .ok (.iaload, 1) := by decide +kernel
theorem dL_567 : decode code 567 = .ok (.invokevirtual 87, 3) := by decide +kernel
theorem dL_570 : decode code 570 = .ok (.aload_n 2, 1) := by decide +kernel
theorem dL_571 : decode code 571 = .ok (.aload_n 0, 1) := by decide +kernel
theorem dL_572 : decode code 572 = .ok (.iload_n 3, 1) := by decide +kernel
theorem dL_573 : decode code 573 = .ok (.iconst 1, 1) := by decide +kernel
theorem dL_574 : decode code 574 = .ok (.iadd, 1) := by decide +kernel
theorem dL_575 : decode code 575 = .ok (.iaload, 1) := by decide +kernel
theorem dL_576 : decode code 576 = .ok (.invokevirtual 90, 3) := by decide +kernel
theorem dL_579 : decode code 579 = .ok (.if_icmp .eq 61, 3) := by decide +kernel
theorem dL_582 : decode code 582 = .ok (.iconst 0, 1) := by decide +kernel
theorem dL_583 : decode code 583 = .ok (.ireturn, 1) := by decide +kernel
theorem dL_584 : decode code 584 = .ok (.aload_n 1, 1) := by decide +kernel
theorem dL_585 : decode code 585 = .ok (.aload_n 0, 1) := by decide +kernel
theorem dL_586 : decode code 586 = .ok (.iload_n 3, 1) := by decide +kernel
theorem dL_587 : decode code 587 = .ok (.iconst 1, 1) := by decide +kernel
theorem dL_588 : decode code 588 = .ok (.iadd, 1) := by decide +kernel
theorem dL_589 : decode code 589 = .ok (.iaload, 1) := by decide +kernel
theorem dL_590 : decode code 590 = .ok (.aload_n 0, 1) := by decide +kernel
theorem dL_591 : decode code 591 = .ok (.iload_n 3, 1) := by decide +kernel
theorem dL_592 : decode code 592 = .ok (.iconst 2, 1) := by decide +kernel
theorem dL_593 : decode code 593 = .ok (.iadd, 1) := by decide +kernel
theorem dL_594 : decode code 594 = .ok (.iaload, 1) := by decide +kernel
theorem dL_595 : decode code 595 = .ok (.invokevirtual 91, 3) := by decide +kernel
theorem dL_598 : decode code 598 = .ok (.aload_n 2, 1) := by decide +kernel
theorem dL_599 : decode code 599 = .ok (.aload_n 0, 1) := by decide +kernel
theorem dL_600 : decode code 600 = .ok (.iload_n 3, 1) := by decide +kernel
theorem dL_601 : decode code 601 = .ok (.iconst 1, 1) := by decide +kernel
theorem dL_602 : decode code 602 = .ok (.iadd, 1) := by decide +kernel
theorem dL_603 : decode code 603 = .ok (.iaload, 1) := by decide +kernel
theorem dL_604 : decode code 604 = .ok (.aload_n 0, 1) := by decide +kernel
theorem dL_605 : decode code 605 = .ok (.iload_n 3, 1) := by decide +kernel
theorem dL_606 : decode code 606 = .ok (.iconst 2, 1) := by decide +kernel
theorem dL_607 : decode code 607 = .ok (.iadd, 1) := by decide +kernel
theorem dL_608 : decode code 608 = .ok (.iaload, 1) := by decide +kernel
theorem dL_609 : decode code 609 = .ok (.invokevirtual 95, 3) := by decide +kernel
theorem dL_612 : decode code 612 = .ok (.if_icmp .eq 28, 3) := by decide +kernel
theorem dL_615 : decode code 615 = .ok (.iconst 0, 1) := by decide +kernel
theorem dL_616 : decode code 616 = .ok (.ireturn, 1) := by decide +kernel
theorem dL_617 : decode code 617 = .ok (.aload_n 1, 1) := by decide +kernel
theorem dL_618 : decode code 618 = .ok (.aload_n 0, 1) := by decide +kernel
theorem dL_619 : decode code 619 = .ok (.iload_n 3, 1) := by decide +kernel
theorem dL_620 : decode code 620 = .ok (.iconst 1, 1) := by decide +kernel
theorem dL_621 : decode code 621 = .ok (.iadd, 1) := by decide +kernel
theorem dL_622 : decode code 622 = .ok (.iaload, 1) := by decide +kernel
theorem dL_623 : decode code 623 = .ok (.invokevirtual 96, 3) := by decide +kernel
theorem dL_626 : decode code 626 = .ok (.aload_n 2, 1) := by decide +kernel
theorem dL_627 : decode code 627 = .ok (.aload_n 0, 1) := by decide +kernel
theorem dL_628 : decode code 628 = .ok (.iload_n 3, 1) := by decide +kernel
theorem dL_629 : decode code 629 = .ok (.iconst 1, 1) := by decide +kernel
theorem dL_630 : decode code 630 = .ok (.iadd, 1) := by decide +kernel
theorem dL_631 : decode code 631 = .ok (.iaload, 1) := by decide +kernel
theorem dL_632 : decode code 632 = .ok (.invokevirtual 100, 3) := by decide +kernel
theorem dL_635 : decode code 635 = .ok (.if_icmp .eq 5, 3) := by decide +kernel
theorem dL_638 : decode code 638 = .ok (.iconst 0, 1) := by decide +kernel
theorem dL_639 : decode code 639 = .ok (.ireturn, 1) := by decide +kernel
theorem dL_640 : decode code 640 = .ok (.iinc 3 5, 3) := by decide +kernel
theorem dL_643 : decode code 643 = .ok (.goto (-625), 3) := by decide +kernel
theorem dL_646 : decode code 646 = .ok (.iconst 1, 1) := by decide +kernel
theorem dL_647 : decode code 647 = .ok (.ireturn, 1) := by decide +kernel
