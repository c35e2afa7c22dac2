theorem zd_J_law_0 : decode code 0 = .ok (.new 7, 3) := by decide +kernel
theorem zd_J_law_3 : decode code 3 = .ok (.dup, 1) := by decide +kernel
theorem zd_J_law_4 : decode code 4 = .ok (.aload_n 0, 1) := by decide +kernel
theorem zd_J_law_5 : decode code 5 = .ok (.iconst 0, 1) := by decide +kernel
theorem zd_J_law_6 : decode code 6 = .ok (.invokestatic 9, 3) := by decide +kernel
theorem zd_J_law_9 : decode code 9 = .ok (.invokespecial 15, 3) := by decide +kernel
theorem zd_J_law_12 : decode code 12 = .ok (.astore_n 1, 1) := by decide +kernel
theorem zd_J_law_13 : decode code 13 = .ok (.new 18, 3) := by decide +kernel
theorem zd_J_law_16 : decode code 16 = .ok (.dup, 1) := by decide +kernel
theorem zd_J_law_17 : decode code 17 = .ok (.aload_n 0, 1) := by decide +kernel
theorem zd_J_law_18 : decode code 18 = .ok (.iconst 0, 1) := by decide +kernel
theorem zd_J_law_19 : decode code 19 = .ok (.invokestatic 9, 3) := by decide +kernel
theorem zd_J_law_22 : decode code 22 = .ok (.invokespecial 20, 3) := by decide +kernel
theorem zd_J_law_25 : decode code 25 = .ok (.astore_n 2, 1) := by decide +kernel
theorem zd_J_law_26 : decode code 26 = .ok (.iconst 1, 1) := by decide +kernel
theorem zd_J_law_27 : decode code 27 = .ok (.istore_n 3, 1) := by decide +kernel
theorem zd_J_law_28 : decode code 28 = .ok (.iload_n 3, 1) := by decide +kernel
theorem zd_J_law_29 : decode code 29 = .ok (.aload_n 0, 1) := by decide +kernel
theorem zd_J_law_30 : decode code 30 = .ok (.arraylength, 1) := by decide +kernel
theorem zd_J_law_31 : decode code 31 = .ok (.bipush 6, 2) := by decide +kernel
theorem zd_J_law_33 : decode code 33 = .ok (.isub, 1) := by decide +kernel
theorem zd_J_law_34 : decode code 34 = .ok (.if_icmp .gt 826, 3) := by decide +kernel
theorem zd_J_law_37 : decode code 37 = .ok (.aload_n 0, 1) := by decide +kernel
theorem zd_J_law_38 : decode code 38 = .ok (.iload_n 3, 1) := by decide +kernel
theorem zd_J_law_39 : decode code 39 = .ok (.iaload, 1) := by decide +kernel
theorem zd_J_law_40 : decode code 40 = .ok (.bipush 31, 2) := by decide +kernel
theorem zd_J_law_42 : decode code 42 = .ok (.iand, 1) := by decide +kernel
theorem zd_J_law_43 : decode code 43 = .ok (.tableswitch 811 0 23 #[109, 142, 185, 218, 241, 264, 277, 310, 333, 356, 379, 402, 425, 488, 521, 544, 567, 590, 613, 646, 679, 712, 755, 788], 109) := by decide +kernel
theorem zd_J_law_152 : decode code 152 = .ok (.aload_n 1, 1) := by decide +kernel
theorem zd_J_law_153 : decode code 153 = .ok (.aload_n 0, 1) := by decide +kernel
theorem zd_J_law_154 : decode code 154 = .ok (.iload_n 3, 1) := by decide +kernel
theorem zd_J_law_155 : decode code 155 = .ok (.iconst 1, 1) := by decide +kernel
theorem zd_J_law_156 : decode code 156 = .ok (.iadd, 1) := by decide +kernel
theorem zd_J_law_157 : decode code 157 = .ok (.iaload, 1) := by decide +kernel
theorem zd_J_law_158 : decode code 158 = .ok (.aload_n 0, 1) := by decide +kernel
theorem zd_J_law_159 : decode code 159 = .ok (.iload_n 3, 1) := by decide +kernel
theorem zd_J_law_160 : decode code 160 = .ok (.iconst 2, 1) := by decide +kernel
theorem zd_J_law_161 : decode code 161 = .ok (.iadd, 1) := by decide +kernel
theorem zd_J_law_162 : decode code 162 = .ok (.iaload, 1) := by decide +kernel
theorem zd_J_law_163 : decode code 163 = .ok (.invokevirtual 21, 3) := by decide +kernel
theorem zd_J_law_166 : decode code 166 = .ok (.aload_n 2, 1) := by decide +kernel
theorem zd_J_law_167 : decode code 167 = .ok (.aload_n 0, 1) := by decide +kernel
theorem zd_J_law_168 : decode code 168 = .ok (.iload_n 3, 1) := by decide +kernel
theorem zd_J_law_169 : decode code 169 = .ok (.iconst 1, 1) := by decide +kernel
theorem zd_J_law_170 : decode code 170 = .ok (.iadd, 1) := by decide +kernel
theorem zd_J_law_171 : decode code 171 = .ok (.iaload, 1) := by decide +kernel
theorem zd_J_law_172 : decode code 172 = .ok (.aload_n 0, 1) := by decide +kernel
theorem zd_J_law_173 : decode code 173 = .ok (.iload_n 3, 1) := by decide +kernel
theorem zd_J_law_174 : decode code 174 = .ok (.iconst 2, 1) := by decide +kernel
theorem zd_J_law_175 : decode code 175 = .ok (.iadd, 1) := by decide +kernel
theorem zd_J_law_176 : decode code 176 = .ok (.iaload, 1) := by decide +kernel
theorem zd_J_law_177 : decode code 177 = .ok (.invokevirtual 25, 3) := by decide +kernel
theorem zd_J_law_180 : decode code 180 = .ok (.if_icmp .eq 674, 3) := by decide +kernel
theorem zd_J_law_183 : decode code 183 = .ok (.iconst 0, 1) := by decide +kernel
theorem zd_J_law_184 : decode code 184 = .ok (.ireturn, 1) := by decide +kernel
theorem zd_J_law_185 : decode code 185 = .ok (.aload_n 1, 1) := by decide +kernel
theorem zd_J_law_186 : decode code 186 = .ok (.aload_n 0, 1) := by decide +kernel
theorem zd_J_law_187 : decode code 187 = .ok (.iload_n 3, 1) := by decide +kernel
theorem zd_J_law_188 : decode code 188 = .ok (.iconst 1, 1) := by decide +kernel
theorem zd_J_law_189 : decode code 189 = .ok (.iadd, 1) := by decide +kernel
theorem zd_J_law_190 : decode code 190 = .ok (.iaload, 1) := by decide +kernel
theorem zd_J_law_191 : decode code 191 = .ok (.aload_n 0, 1) := by decide +kernel
theorem zd_J_law_192 : decode code 192 = .ok (.iload_n 3, 1) := by decide +kernel
theorem zd_J_law_193 : decode code 193 = .ok (.iconst 2, 1) := by decide +kernel
theorem zd_J_law_194 : decode code 194 = .ok (.iadd, 1) := by decide +kernel
theorem zd_J_law_195 : decode code 195 = .ok (.iaload, 1) := by decide +kernel
theorem zd_J_law_196 : decode code 196 = .ok (.aload_n 0, 1) := by decide +kernel
theorem zd_J_law_197 : decode code 197 = .ok (.iload_n 3, 1) := by decide +kernel
theorem zd_J_law_198 : decode code 198 = .ok (.iconst 3, 1) := by decide +kernel
theorem zd_J_law_199 : decode code 199 = .ok (.iadd, 1) := by decide +kernel
theorem zd_J_law_200 : decode code 200 = .ok (.iaload, 1) := by decide +kernel
theorem zd_J_law_201 : decode code 201 = .ok (.invokevirtual 26, 3) := by decide +kernel
theorem zd_J_law_204 : decode code 204 = .ok (.aload_n 2, 1) := by decide +kernel
theorem zd_J_law_205 : decode code 205 = .ok (.aload_n 0, 1) := by decide +kernel
theorem zd_J_law_206 : decode code 206 = .ok (.iload_n 3, 1) := by decide +kernel
theorem zd_J_law_207 : decode code 207 = .ok (.iconst 1, 1) := by decide +kernel
theorem zd_J_law_208 : decode code 208 = .ok (.iadd, 1) := by decide +kernel
theorem zd_J_law_209 : decode code 209 = .ok (.iaload, 1) := by decide +kernel
theorem zd_J_law_210 : decode code 210 = .ok (.aload_n 0, 1) := by decide +kernel
theorem zd_J_law_211 : decode code 211 = .ok (.iload_n 3, 1) := by decide +kernel
theorem zd_J_law_212 : decode code 212 = .ok (.iconst 2, 1) := by decide +kernel
theorem zd_J_law_213 : decode code 213 = .ok (.iadd, 1) := by decide +kernel
theorem zd_J_law_214 : decode code 214 = .ok (.iaload, 1) := by decide +kernel
theorem zd_J_law_215 : decode code 215 = .ok (.aload_n 0, 1) := by decide +kernel
theorem zd_J_law_216 : decode code 216 = .ok (.iload_n 3, 1) := by decide +kernel
theorem zd_J_law_217 : decode code 217 = .ok (.iconst 3, 1) := by decide +kernel
theorem zd_J_law_218 : decode code 218 = .ok (.iadd, 1) := by decide +kernel
theorem zd_J_law_219 : decode code 219 = .ok (.iaload, 1) := by decide +kernel
theorem zd_J_law_220 : decode code 220 = .ok (.invokevirtual 30, 3) := by decide +kernel
theorem zd_J_law_223 : decode code 223 = .ok (.if_icmp .eq 631, 3) := by decide +kernel
theorem zd_J_law_226 : decode code 226 = .ok (.iconst 0, 1) := by decide +kernel
theorem zd_J_law_227 : decode code 227 = .ok (.ireturn, 1) := by decide +kernel
theorem zd_J_law_228 : decode code 228 = .ok (.aload_n 1, 1) := by decide +kernel
theorem zd_J_law_229 : decode code 229 = .ok (.aload_n 0, 1) := by decide +kernel
theorem zd_J_law_230 : decode code 230 = .ok (.iload_n 3, 1) := by decide +kernel
theorem zd_J_law_231 : decode code 231 = .ok (.iconst 1, 1) := by decide +kernel
theorem zd_J_law_232 : decode code 232 = .ok (.iadd, 1) := by decide +kernel
theorem zd_J_law_233 : decode code 233 = .ok (.iaload, 1) := by decide +kernel
theorem zd_J_law_234 : decode code 234 = .ok (.aload_n 0, 1) := by decide +kernel
theorem zd_J_law_235 : decode code 235 = .ok (.iload_n 3, 1) := by decide +kernel
theorem zd_J_law_236 : decode code 236 = .ok (.iconst 2, 1) := by decide +kernel
theorem zd_J_law_237 : decode code 237 = .ok (.iadd, 1) := by decide +kernel
theorem zd_J_law_238 : decode code 238 = .ok (.iaload, 1) := by decide +kernel
theorem zd_J_law_239 : decode code 239 = .ok (.invokevirtual 31, 3) := by decide +kernel
theorem zd_J_law_242 : decode code 242 = .ok (.aload_n 2, 1) := by decide +kernel
theorem zd_J_law_243 : decode code 243 = .ok (.aload_n 0, 1) := by decide +kernel
theorem zd_J_law_244 : decode code 244 = .ok (.iload_n 3, 1) := by decide +kernel
theorem zd_J_law_245 : decode code 245 = .ok (.iconst 1, 1) := by decide +kernel
theorem zd_J_law_246 : decode code 246 = .ok (.iadd, 1) := by decide +kernel
theorem zd_J_law_247 : decode code 247 = .ok (.iaload, 1) := by decide +kernel
theorem zd_J_law_248 : decode code 248 = .ok (.aload_n 0, 1) := by decide +kernel
theorem zd_J_law_249 : decode code 249 = .ok (.iload_n 3, 1) := by decide +kernel
theorem zd_J_law_250 : decode code 250 = .ok (.iconst 2, 1) := by decide +kernel
theorem zd_J_law_251 : decode code 251 = .ok (.iadd, 1) := by decide +kernel
theorem zd_J_law_252 : decode code 252 = .ok (.iaload, 1) := by decide +kernel
theorem zd_J_law_253 : decode code 253 = .ok (.invokevirtual 35, 3) := by decide +kernel
theorem zd_J_law_256 : decode code 256 = .ok (.if_icmp .eq 598, 3) := by decide +kernel
theorem zd_J_law_259 : decode code 259 = .ok (.iconst 0, 1) := by decide +kernel
theorem zd_J_law_260 : decode code 260 = .ok (.ireturn, 1) := by decide +kernel
theorem zd_J_law_261 : decode code 261 = .ok (.aload_n 1, 1) := by decide +kernel
theorem zd_J_law_262 : decode code 262 = .ok (.aload_n 0, 1) := by decide +kernel
theorem zd_J_law_263 : decode code 263 = .ok (.iload_n 3, 1) := by decide +kernel
theorem zd_J_law_264 : decode code 264 = .ok (.iconst 1, 1) := by decide +kernel
theorem zd_J_law_265 : decode code 265 = .ok (.iadd, 1) := by decide +kernel
theorem zd_J_law_266 : decode code 266 = .ok (.iaload, 1) := by decide +kernel
theorem zd_J_law_267 : decode code 267 = .ok (.invokevirtual 36, 3) := by decide +kernel
theorem zd_J_law_270 : decode code 270 = .ok (.aload_n 2, 1) := by decide +kernel
theorem zd_J_law_271 : decode code 271 = .ok (.aload_n 0, 1) := by decide +kernel
theorem zd_J_law_272 : decode code 272 = .ok (.iload_n 3, 1) := by decide +kernel
theorem zd_J_law_273 : decode code 273 = .ok (.iconst 1, 1) := by decide +kernel
theorem zd_J_law_274 : decode code 274 = .ok (.iadd, 1) := by decide +kernel
theorem zd_J_law_275 : decode code 275 = .ok (.iaload, 1) := by decide +kernel
theorem zd_J_law_276 : decode code 276 = .ok (.invokevirtual 40, 3) := by decide +kernel
theorem zd_J_law_279 : decode code 279 = .ok (.if_icmp .eq 575, 3) := by decide +kernel
theorem zd_J_law_282 : decode code 282 = .ok (.iconst 0, 1) := by decide +kernel
theorem zd_J_law_283 : decode code 283 = .ok (.ireturn, 1) := by decide +kernel
theorem zd_J_law_284 : decode code 284 = .ok (.aload_n 1, 1) := by decide +kernel
theorem zd_J_law_285 : decode code 285 = .ok (.aload_n 0, 1) := by decide +kernel
theorem zd_J_law_286 : decode code 286 = .ok (.iload_n 3, 1) := by decide +kernel
theorem zd_J_law_287 : decode code 287 = .ok (.iconst 1, 1) := by decide +kernel
theorem zd_J_law_288 : decode code 288 = .ok (.iadd, 1) := by decide +kernel
theorem zd_J_law_289 : decode code 289 = .ok (.iaload, 1) := by decide +kernel
theorem zd_J_law_290 : decode code 290 = .ok (.invokevirtual 41, 3) := by decide +kernel
theorem zd_J_law_293 : decode code 293 = .ok (.aload_n 2, 1) := by decide +kernel
theorem zd_J_law_294 : decode code 294 = .ok (.aload_n 0, 1) := by decide +kernel
theorem zd_J_law_295 : decode code 295 = .ok (.iload_n 3, 1) := by decide +kernel
theorem zd_J_law_296 : decode code 296 = .ok (.iconst 1, 1) := by decide +kernel
theorem zd_J_law_297 : decode code 297 = .ok (.iadd, 1) := by decide +kernel
theorem zd_J_law_298 : decode code 298 = .ok (.iaload, 1) := by decide +kernel
theorem zd_J_law_299 : decode code 299 = .ok (.invokevirtual 44, 3) := by decide +kernel
theorem zd_J_law_302 : decode code 302 = .ok (.if_icmp .eq 552, 3) := by decide +kernel
theorem zd_J_law_305 : decode code 305 = .ok (.iconst 0, 1) := by decide +kernel
theorem zd_J_law_306 : decode code 306 = .ok (.ireturn, 1) := by decide +kernel
theorem zd_J_law_307 : decode code 307 = .ok (.aload_n 1, 1) := by decide +kernel
theorem zd_J_law_308 : decode code 308 = .ok (.invokevirtual 45, 3) := by decide +kernel
theorem zd_J_law_311 : decode code 311 = .ok (.aload_n 2, 1) := by decide +kernel
theorem zd_J_law_312 : decode code 312 = .ok (.invokevirtual 49, 3) := by decide +kernel
theorem zd_J_law_315 : decode code 315 = .ok (.if_icmp .eq 539, 3) := by decide +kernel
theorem zd_J_law_318 : decode code 318 = .ok (.iconst 0, 1) := by decide +kernel
theorem zd_J_law_319 : decode code 319 = .ok (.ireturn, 1) := by decide +kernel
theorem zd_J_law_320 : decode code 320 = .ok (.aload_n 1, 1) := by decide +kernel
theorem zd_J_law_321 : decode code 321 = .ok (.aload_n 0, 1) := by decide +kernel
theorem zd_J_law_322 : decode code 322 = .ok (.iload_n 3, 1) := by decide +kernel
theorem zd_J_law_323 : decode code 323 = .ok (.iconst 1, 1) := by decide +kernel
theorem zd_J_law_324 : decode code 324 = .ok (.iadd, 1) := by decide +kernel
theorem zd_J_law_325 : decode code 325 = .ok (.iaload, 1) := by decide +kernel
theorem zd_J_law_326 : decode code 326 = .ok (.aload_n 0, 1) := by decide +kernel
theorem zd_J_law_327 : decode code 327 = .ok (.iload_n 3, 1) := by decide +kernel
theorem zd_J_law_328 : decode code 328 = .ok (.iconst 2, 1) := by decide +kernel
theorem zd_J_law_329 : decode code 329 = .ok (.iadd, 1) := by decide +kernel
theorem zd_J_law_330 : decode code 330 = .ok (.iaload, 1) := by decide +kernel
theorem zd_J_law_331 : decode code 331 = .ok (.invokevirtual 50, 3) := by decide +kernel
theorem zd_J_law_334 : decode code 334 = .ok (.aload_n 2, 1) := by decide +kernel
theorem zd_J_law_335 : decode code 335 = .ok (.aload_n 0, 1) := by decide +kernel
theorem zd_J_law_336 : decode code 336 = .ok (.iload_n 3, 1) := by decide +kernel
theorem zd_J_law_337 : decode code 337 = .ok (.iconst 1, 1) := by decide +kernel
theorem zd_J_law_338 : decode code 338 = .ok (.iadd, 1) := by decide +kernel
theorem zd_J_law_339 : decode code 339 = .ok (.iaload, 1) := by decide +kernel
theorem zd_J_law_340 : decode code 340 = .ok (.aload_n 0, 1) := by decide +kernel
theorem zd_J_law_341 : decode code 341 = .ok (.iload_n 3, 1) := by decide +kernel
theorem zd_J_law_342 : decode code 342 = .ok (.iconst 2, 1) := by decide +kernel
theorem zd_J_law_343 : decode code 343 = .ok (.iadd, 1) := by decide +kernel
theorem zd_J_law_344 : decode code 344 = .ok (.iaload, 1) := by decide +kernel
theorem zd_J_law_345 : decode code 345 = .ok (.invokevirtual 53, 3) := by decide +kernel
theorem zd_J_law_348 : decode code 348 = .ok (.if_icmp .eq 506, 3) := by decide +kernel
theorem zd_J_law_351 : decode code 351 = .ok (.iconst 0, 1) := by decide +kernel
theorem zd_J_law_352 : decode code 352 = .ok (.ireturn, 1) := by decide +kernel
theorem zd_J_law_353 : decode code 353 = .ok (.aload_n 1, 1) := by decide +kernel
theorem zd_J_law_354 : decode code 354 = .ok (.aload_n 0, 1) := by decide +kernel
theorem zd_J_law_355 : decode code 355 = .ok (.iload_n 3, 1) := by decide +kernel
theorem zd_J_law_356 : decode code 356 = .ok (.iconst 1, 1) := by decide +kernel
theorem zd_J_law_357 : decode code 357 = .ok (.iadd, 1) := by decide +kernel
theorem zd_J_law_358 : decode code 358 = .ok (.iaload, 1) := by decide +kernel
theorem zd_J_law_359 : decode code 359 = .ok (.invokevirtual 54, 3) := by decide +kernel
theorem zd_J_law_362 : decode code 362 = .ok (.aload_n 2, 1) := by decide +kernel
theorem zd_J_law_363 : decode code 363 = .ok (.aload_n 0, 1) := by decide +kernel
theorem zd_J_law_364 : decode code 364 = .ok (.iload_n 3, 1) := by decide +kernel
theorem zd_J_law_365 : decode code 365 = .ok (.iconst 1, 1) := by decide +kernel
theorem zd_J_law_366 : decode code 366 = .ok (.iadd, 1) := by decide +kernel
theorem zd_J_law_367 : decode code 367 = .ok (.iaload, 1) := by decide +kernel
theorem zd_J_law_368 : decode code 368 = .ok (.invokevirtual 58, 3) := by decide +kernel
theorem zd_J_law_371 : decode code 371 = .ok (.if_icmp .eq 483, 3) := by decide +kernel
theorem zd_J_law_374 : decode code 374 = .ok (.iconst 0, 1) := by decide +kernel
theorem zd_J_law_375 : decode code 375 = .ok (.ireturn, 1) := by decide +kernel
theorem zd_J_law_376 : decode code 376 = .ok (.aload_n 1, 1) := by decide +kernel
theorem zd_J_law_377 : decode code 377 = .ok (.aload_n 0, 1) := by decide +kernel
theorem zd_J_law_378 : decode code 378 = .ok (.iload_n 3, 1) := by decide +kernel
theorem zd_J_law_379 : decode code 379 = .ok (.iconst 1, 1) := by decide +kernel
theorem zd_J_law_380 : decode code 380 = .ok (.iadd, 1) := by decide +kernel
theorem zd_J_law_381 : decode code 381 = .ok (.iaload, 1) := by decide +kernel
theorem zd_J_law_382 : decode code 382 = .ok (.invokevirtual 59, 3) := by decide +kernel
theorem zd_J_law_385 : decode code 385 = .ok (.aload_n 2, 1) := by decide +kernel
theorem zd_J_law_386 : decode code 386 = .ok (.aload_n 0, 1) := by decide +kernel
theorem zd_J_law_387 : decode code 387 = .ok (.iload_n 3, 1) := by decide +kernel
theorem zd_J_law_388 : decode code 388 = .ok (.iconst 1, 1) := by decide +kernel
theorem zd_J_law_389 : decode code 389 = .ok (.iadd, 1) := by decide +kernel
theorem zd_J_law_390 : decode code 390 = .ok (.iaload, 1) := by decide +kernel
theorem zd_J_law_391 : decode code 391 = .ok (.invokevirtual 62, 3) := by decide +kernel
theorem zd_J_law_394 : decode code 394 = .ok (.if_icmp .eq 460, 3) := by decide +kernel
theorem zd_J_law_397 : decode code 397 = .ok (.iconst 0, 1) := by decide +kernel
theorem zd_J_law_398 : decode code 398 = .ok (.ireturn, 1) := by decide +kernel
theorem zd_J_law_399 : decode code 399 = .ok (.aload_n 1, 1) := by decide +kernel
theorem zd_J_law_400 : decode code 400 = .ok (.aload_n 0, 1) := by decide +kernel
theorem zd_J_law_401 : decode code 401 = .ok (.iload_n 3, 1) := by decide +kernel
theorem zd_J_law_402 : decode code 402 = .ok (.iconst 1, 1) := by decide +kernel
theorem zd_J_law_403 : decode code 403 = .ok (.iadd, 1) := by decide +kernel
theorem zd_J_law_404 : decode code 404 = .ok (.iaload, 1) := by decide +kernel
theorem zd_J_law_405 : decode code 405 = .ok (.invokevirtual 63, 3) := by decide +kernel
theorem zd_J_law_408 : decode code 408 = .ok (.aload_n 2, 1) := by decide +kernel
theorem zd_J_law_409 : decode code 409 = .ok (.aload_n 0, 1) := by decide +kernel
theorem zd_J_law_410 : decode code 410 = .ok (.iload_n 3, 1) := by decide +kernel
theorem zd_J_law_411 : decode code 411 = .ok (.iconst 1, 1) := by decide +kernel
theorem zd_J_law_412 : decode code 412 = .ok (.iadd, 1) := by decide +kernel
theorem zd_J_law_413 : decode code 413 = .ok (.iaload, 1) := by decide +kernel
theorem zd_J_law_414 : decode code 414 = .ok (.invokevirtual 66, 3) := by decide +kernel
theorem zd_J_law_417 : decode code 417 = .ok (.if_icmp .eq 437, 3) := by decide +kernel
theorem zd_J_law_420 : decode code 420 = .ok (.iconst 0, 1) := by decide +kernel
theorem zd_J_law_421 : decode code 421 = .ok (.ireturn, 1) := by decide +kernel
theorem zd_J_law_422 : decode code 422 = .ok (.aload_n 1, 1) := by decide +kernel
theorem zd_J_law_423 : decode code 423 = .ok (.aload_n 0, 1) := by decide +kernel
theorem zd_J_law_424 : decode code 424 = .ok (.iload_n 3, 1) := by decide +kernel
theorem zd_J_law_425 : decode code 425 = .ok (.iconst 1, 1) := by decide +kernel
theorem zd_J_law_426 : decode code 426 = .ok (.iadd, 1) := by decide +kernel
theorem zd_J_law_427 : decode code 427 = .ok (.iaload, 1) := by decide +kernel
theorem zd_J_law_428 : decode code 428 = .ok (.invokevirtual 67, 3) := by decide +kernel
theorem zd_J_law_431 : decode code 431 = .ok (.aload_n 2, 1) := by decide +kernel
theorem zd_J_law_432 : decode code 432 = .ok (.aload_n 0, 1) := by decide +kernel
theorem zd_J_law_433 : decode code 433 = .ok (.iload_n 3, 1) := by decide +kernel
theorem zd_J_law_434 : decode code 434 = .ok (.iconst 1, 1) := by decide +kernel
theorem zd_J_law_435 : decode code 435 = .ok (.iadd, 1) := by decide +kernel
theorem zd_J_law_436 : decode code 436 = .ok (.iaload, 1) := by decide +kernel
theorem zd_J_law_437 : decode code 437 = .ok (.invokevirtual 70, 3) := by decide +kernel
theorem zd_J_law_440 : decode code 440 = .ok (.if_icmp .eq 414, 3) := by decide +kernel
theorem zd_J_law_443 : decode code 443 = .ok (.iconst 0, 1) := by decide +kernel
theorem zd_J_law_444 : decode code 444 = .ok (.ireturn, 1) := by decide +kernel
theorem zd_J_law_445 : decode code 445 = .ok (.aload_n 1, 1) := by decide +kernel
theorem zd_J_law_446 : decode code 446 = .ok (.aload_n 0, 1) := by decide +kernel
theorem zd_J_law_447 : decode code 447 = .ok (.iload_n 3, 1) := by decide +kernel
theorem zd_J_law_448 : decode code 448 = .ok (.iconst 1, 1) := by decide +kernel
theorem zd_J_law_449 : decode code 449 = .ok (.iadd, 1) := by decide +kernel
theorem zd_J_law_450 : decode code 450 = .ok (.iaload, 1) := by decide +kernel
theorem zd_J_law_451 : decode code 451 = .ok (.invokevirtual 71, 3) := by decide +kernel
theorem zd_J_law_454 : decode code 454 = .ok (.aload_n 2, 1) := by decide +kernel
theorem zd_J_law_455 : decode code 455 = .ok (.aload_n 0, 1) := by decide +kernel
theorem zd_J_law_456 : decode code 456 = .ok (.iload_n 3, 1) := by decide +kernel
theorem zd_J_law_457 : decode code 457 = .ok (.iconst 1, 1) := by decide +kernel
theorem zd_J_law_458 : decode code 458 = .ok (.iadd, 1) := by decide +kernel
theorem zd_J_law_459 : decode code 459 = .ok (.iaload, 1) := by decide +kernel
theorem zd_J_law_460 : decode code 460 = .ok (.invokevirtual 74, 3) := by decide +kernel
theorem zd_J_law_463 : decode code 463 = .ok (.if_icmp .eq 391, 3) := by decide +kernel
theorem zd_J_law_466 : decode code 466 = .ok (.iconst 0, 1) := by decide +kernel
theorem zd_J_law_467 : decode code 467 = .ok (.ireturn, 1) := by decide +kernel
theorem zd_J_law_468 : decode code 468 = .ok (.aload_n 1, 1) := by decide +kernel
theorem zd_J_law_469 : decode code 469 = .ok (.aload_n 0, 1) := by decide +kernel
theorem zd_J_law_470 : decode code 470 = .ok (.iload_n 3, 1) := by decide +kernel
theorem zd_J_law_471 : decode code 471 = .ok (.iconst 1, 1) := by decide +kernel
theorem zd_J_law_472 : decode code 472 = .ok (.iadd, 1) := by decide +kernel
theorem zd_J_law_473 : decode code 473 = .ok (.iaload, 1) := by decide +kernel
theorem zd_J_law_474 : decode code 474 = .ok (.aload_n 0, 1) := by decide +kernel
theorem zd_J_law_475 : decode code 475 = .ok (.iload_n 3, 1) := by decide +kernel
theorem zd_J_law_476 : decode code 476 = .ok (.iconst 2, 1) := by decide +kernel
theorem zd_J_law_477 : decode code 477 = .ok (.iadd, 1) := by decide +kernel
theorem zd_J_law_478 : decode code 478 = .ok (.iaload, 1) := by decide +kernel
theorem zd_J_law_479 : decode code 479 = .ok (.aload_n 0, 1) := by decide +kernel
theorem zd_J_law_480 : decode code 480 = .ok (.iload_n 3, 1) := by decide +kernel
theorem zd_J_law_481 : decode code 481 = .ok (.iconst 3, 1) := by decide +kernel
theorem zd_J_law_482 : decode code 482 = .ok (.iadd, 1) := by decide +kernel
theorem zd_J_law_483 : decode code 483 = .ok (.iaload, 1) := by decide +kernel
theorem zd_J_law_484 : decode code 484 = .ok (.aload_n 0, 1) := by decide +kernel
theorem zd_J_law_485 : decode code 485 = .ok (.iload_n 3, 1) := by decide +kernel
theorem zd_J_law_486 : decode code 486 = .ok (.iconst 4, 1) := by decide +kernel
theorem zd_J_law_487 : decode code 487 = .ok (.iadd, 1) := by decide +kernel
theorem zd_J_law_488 : decode code 488 = .ok (.iaload, 1) := by decide +kernel
theorem zd_J_law_489 : decode code 489 = .ok (.aload_n 0, 1) := by decide +kernel
theorem zd_J_law_490 : decode code 490 = .ok (.iload_n 3, 1) := by decide +kernel
theorem zd_J_law_491 : decode code 491 = .ok (.iconst 5, 1) := by decide +kernel
theorem zd_J_law_492 : decode code 492 = .ok (.iadd, 1) := by decide +kernel
theorem zd_J_law_493 : decode code 493 = .ok (.iaload, 1) := by decide +kernel
theorem zd_J_law_494 : decode code 494 = .ok (.invokevirtual 75, 3) := by decide +kernel
theorem zd_J_law_497 : decode code 497 = .ok (.aload_n 2, 1) := by decide +kernel
theorem zd_J_law_498 : decode code 498 = .ok (.aload_n 0, 1) := by decide +kernel
theorem zd_J_law_499 : decode code 499 = .ok (.iload_n 3, 1) := by decide +kernel
theorem zd_J_law_500 : decode code 500 = .ok (.iconst 1, 1) := by decide +kernel
theorem zd_J_law_501 : decode code 501 = .ok (.iadd, 1) := by decide +kernel
theorem zd_J_law_502 : decode code 502 = .ok (.iaload, 1) := by decide +kernel
theorem zd_J_law_503 : decode code 503 = .ok (.aload_n 0, 1) := by decide +kernel
theorem zd_J_law_504 : decode code 504 = .ok (.iload_n 3, 1) := by decide +kernel
theorem zd_J_law_505 : decode code 505 = .ok (.iconst 2, 1) := by decide +kernel
theorem zd_J_law_506 : decode code 506 = .ok (.iadd, 1) := by decide +kernel
theorem zd_J_law_507 : decode code 507 = .ok (.iaload, 1) := by decide +kernel
theorem zd_J_law_508 : decode code 508 = .ok (.aload_n 0, 1) := by decide +kernel
theorem zd_J_law_509 : decode code 509 = .ok (.iload_n 3, 1) := by decide +kernel
theorem zd_J_law_510 : decode code 510 = .ok (.iconst 3, 1) := by decide +kernel
theorem zd_J_law_511 : decode code 511 = .ok (.iadd, 1) := by decide +kernel
theorem zd_J_law_512 : decode code 512 = .ok (.iaload, 1) := by decide +kernel
theorem zd_J_law_513 : decode code 513 = .ok (.aload_n 0, 1) := by decide +kernel
theorem zd_J_law_514 : decode code 514 = .ok (.iload_n 3, 1) := by decide +kernel
theorem zd_J_law_515 : decode code 515 = .ok (.iconst 4, 1) := by decide +kernel
theorem zd_J_law_516 : decode code 516 = .ok (.iadd, 1) := by decide +kernel
theorem zd_J_law_517 : decode code 517 = .ok (.iaload, 1) := by decide +kernel
theorem zd_J_law_518 : decode code 518 = .ok (.aload_n 0, 1) := by decide +kernel
theorem zd_J_law_519 : decode code 519 = .ok (.iload_n 3, 1) := by decide +kernel
theorem zd_J_law_520 : decode code 520 = .ok (.iconst 5, 1) := by decide +kernel
theorem zd_J_law_521 : decode code 521 = .ok (.iadd, 1) := by decide +kernel
theorem zd_J_law_522 : decode code 522 = .ok (.iaload, 1) := by decide +kernel
theorem zd_J_law_523 : decode code 523 = .ok (.invokevirtual 79, 3) := by decide +kernel
theorem zd_J_law_526 : decode code 526 = .ok (.if_icmp .eq 328, 3) := by decide +kernel
theorem zd_J_law_529 : decode code 529 = .ok (.iconst 0, 1) := by decide +kernel
theorem zd_J_law_530 : decode code 530 = .ok (.ireturn, 1) := by decide +kernel
theorem zd_J_law_531 : decode code 531 = .ok (.aload_n 1, 1) := by decide +kernel
theorem zd_J_law_532 : decode code 532 = .ok (.aload_n 0, 1) := by decide +kernel
theorem zd_J_law_533 : decode code 533 = .ok (.iload_n 3, 1) := by decide +kernel
theorem zd_J_law_534 : decode code 534 = .ok (.iconst 1, 1) := by decide +kernel
theorem zd_J_law_535 : decode code 535 = .ok (.iadd, 1) := by decide +kernel
theorem zd_J_law_536 : decode code 536 = .ok (.iaload, 1) := by decide +kernel
theorem zd_J_law_537 : decode code 537 = .ok (.aload_n 0, 1) := by decide +kernel
theorem zd_J_law_538 : decode code 538 = .ok (.iload_n 3, 1) := by decide +kernel
theorem zd_J_law_539 : decode code 539 = .ok (.iconst 2, 1) := by decide +kernel
theorem zd_J_law_540 : decode code 540 = .ok (.iadd, 1) := by decide +kernel
theorem zd_J_law_541 : decode code 541 = .ok (.iaload, 1) := by decide +kernel
theorem zd_J_law_542 : decode code 542 = .ok (.invokevirtual 80, 3) := by decide +kernel
theorem zd_J_law_545 : decode code 545 = .ok (.aload_n 2, 1) := by decide +kernel
theorem zd_J_law_546 : decode code 546 = .ok (.aload_n 0, 1) := by decide +kernel
theorem zd_J_law_547 : decode code 547 = .ok (.iload_n 3, 1) := by decide +kernel
theorem zd_J_law_548 : decode code 548 = .ok (.iconst 1, 1) := by decide +kernel
theorem zd_J_law_549 : decode code 549 = .ok (.iadd, 1) := by decide +kernel
theorem zd_J_law_550 : decode code 550 = .ok (.iaload, 1) := by decide +kernel
theorem zd_J_law_551 : decode code 551 = .ok (.aload_n 0, 1) := by decide +kernel
theorem zd_J_law_552 : decode code 552 = .ok (.iload_n 3, 1) := by decide +kernel
theorem zd_J_law_553 : decode code 553 = .ok (.iconst 2, 1) := by decide +kernel
theorem zd_J_law_554 : decode code 554 = .ok (.iadd, 1) := by decide +kernel
theorem zd_J_law_555 : decode code 555 = .ok (.iaload, 1) := by decide +kernel
theorem zd_J_law_556 : decode code 556 = .ok (.invokevirtual 83, 3) := by decide +kernel
theorem zd_J_law_559 : decode code 559 = .ok (.if_icmp .eq 295, 3) := by decide +kernel
theorem zd_J_law_562 : decode code 562 = .ok (.iconst 0, 1) := by decide +kernel
theorem zd_J_law_563 : decode code 563 = .ok (.ireturn, 1) := by decide +kernel
theorem zd_J_law_564 : decode code 564 = .ok (.aload_n 1, 1) := by decide +kernel
theorem zd_J_law_565 : decode code 565 = .ok (.aload_n 0, 1) := by decide +kernel
theorem zd_J_law_566 : decode code 566 = .ok (.iload_n 3, 1) := by decide +kernel
theorem zd_J_law_567 : decode code 567 = .ok (.iconst 1, 1) := by decide +kernel
theorem zd_J_law_568 : decode code 568 = .ok (.iadd, 1) := by decide +kernel
theorem zd_J_law_569 : decode code 569 = .ok (.iaload, 1) := by decide +kernel
theorem zd_J_law_570 : decode code 570 = .ok (.invokevirtual 84, 3) := by decide +kernel
theorem zd_J_law_573 : decode code 573 = .ok (.aload_n 2, 1) := by decide +kernel
theorem zd_J_law_574 : decode code 574 = .ok (.aload_n 0, 1) := by decide +kernel
theorem zd_J_law_575 : decode code 575 = .ok (.iload_n 3, 1) := by decide +kernel
theorem zd_J_law_576 : decode code 576 = .ok (.iconst 1, 1) := by decide +kernel
theorem zd_J_law_577 : decode code 577 = .ok (.iadd, 1) := by decide +kernel
theorem zd_J_law_578 : decode code 578 = .ok (.iaload, 1) := by decide +kernel
theorem zd_J_law_579 : decode code 579 = .ok (.invokevirtual 87, 3) := by decide +kernel
theorem zd_J_law_582 : decode code 582 = .ok (.if_icmp .eq 272, 3) := by decide +kernel
theorem zd_J_law_585 : decode code 585 = .ok (.iconst 0, 1) := by decide +kernel
theorem zd_J_law_586 : decode code 586 = .ok (.ireturn, 1) := by decide +kernel
theorem zd_J_law_587 : decode code 587 = .ok (.aload_n 1, 1) := by decide +kernel
theorem zd_J_law_588 : decode code 588 = .ok (.aload_n 0, 1) := by decide +kernel
theorem zd_J_law_589 : decode code 589 = .ok (.iload_n 3, 1) := by decide +kernel
theorem zd_J_law_590 : decode code 590 = .ok (.iconst 1, 1) := by decide +kernel
theorem zd_J_law_591 : decode code 591 = .ok (.iadd, 1) := by decide +kernel
theorem zd_J_law_592 : decode code 592 = .ok (.iaload, 1) := by decide +kernel
theorem zd_J_law_593 : decode code 593 = .ok (.invokevirtual 88, 3) := by decide +kernel
theorem zd_J_law_596 : decode code 596 = .ok (.aload_n 2, 1) := by decide +kernel
theorem zd_J_law_597 : decode code 597 = .ok (.aload_n 0, 1) := by decide +kernel
theorem zd_J_law_598 : decode code 598 = .ok (.iload_n 3, 1) := by decide +kernel
theorem zd_J_law_599 : decode code 599 = .ok (.iconst 1, 1) := by decide +kernel
theorem zd_J_law_600 : decode code 600 = .ok (.iadd, 1) := by decide +kernel
theorem zd_J_law_601 : decode code 601 = .ok (.iaload, 1) := by decide +kernel
theorem zd_J_law_602 : decode code 602 = .ok (.invokevirtual 91, 3) := by decide +kernel
theorem zd_J_law_605 : decode code 605 = .ok (.if_icmp .eq 249, 3) := by decide +kernel
theorem zd_J_law_608 : decode code 608 = .ok (.iconst 0, 1) := by decide +kernel
theorem zd_J_law_609 : decode code 609 = .ok (.ireturn, 1) := by decide +kernel
theorem zd_J_law_610 : decode code 610 = .ok (.aload_n 1, 1) := by decide +kernel
theorem zd_J_law_611 : decode code 611 = .ok (.aload_n 0, 1) := by decide +kernel
theorem zd_J_law_612 : decode code 612 = .ok (.iload_n 3, 1) := by decide +kernel
theorem zd_J_law_613 : decode code 613 = .ok (.iconst 1, 1) := by decide +kernel
theorem zd_J_law_614 : decode code 614 = .ok (.iadd, 1) := by decide +kernel
theorem zd_J_law_615 : decode code 615 = .ok (.iaload, 1) := by decide +kernel
theorem zd_J_law_616 : decode code 616 = .ok (.invokevirtual 92, 3) := by decide +kernel
theorem zd_J_law_619 : decode code 619 = .ok (.aload_n 2, 1) := by decide +kernel
theorem zd_J_law_620 : decode code 620 = .ok (.aload_n 0, 1) := by decide +kernel
theorem zd_J_law_621 : decode code 621 = .ok (.iload_n 3, 1) := by decide +kernel
theorem zd_J_law_622 : decode code 622 = .ok (.iconst 1, 1) := by decide +kernel
theorem zd_J_law_623 : decode code 623 = .ok (.iadd, 1) := by decide +kernel
theorem zd_J_law_624 : decode code 624 = .ok (.iaload, 1) := by decide +kernel
theorem zd_J_law_625 : decode code 625 = .ok (.invokevirtual 95, 3) := by decide +kernel
theorem zd_J_law_628 : decode code 628 = .ok (.if_icmp .eq 226, 3) := by decide +kernel
theorem zd_J_law_631 : decode code 631 = .ok (.iconst 0, 1) := by decide +kernel
theorem zd_J_law_632 : decode code 632 = .ok (.ireturn, 1) := by decide +kernel
theorem zd_J_law_633 : decode code 633 = .ok (.aload_n 1, 1) := by decide +kernel
theorem zd_J_law_634 : decode code 634 = .ok (.aload_n 0, 1) := by decide +kernel
theorem zd_J_law_635 : decode code 635 = .ok (.iload_n 3, 1) := by decide +kernel
theorem zd_J_law_636 : decode code 636 = .ok (.iconst 1, 1) := by decide +kernel
theorem zd_J_law_637 : decode code 637 = .ok (.iadd, 1) := by decide +kernel
theorem zd_J_law_638 : decode code 638 = .ok (.iaload, 1) := by decide +kernel
theorem zd_J_law_639 : decode code 639 = .ok (.invokevirtual 96, 3) := by decide +kernel
theorem zd_J_law_642 : decode code 642 = .ok (.aload_n 2, 1) := by decide +kernel
theorem zd_J_law_643 : decode code 643 = .ok (.aload_n 0, 1) := by decide +kernel
theorem zd_J_law_644 : decode code 644 = .ok (.iload_n 3, 1) := by decide +kernel
theorem zd_J_law_645 : decode code 645 = .ok (.iconst 1, 1) := by decide +kernel
theorem zd_J_law_646 : decode code 646 = .ok (.iadd, 1) := by decide +kernel
theorem zd_J_law_647 : decode code 647 = .ok (.iaload, 1) := by decide +kernel
theorem zd_J_law_648 : decode code 648 = .ok (.invokevirtual 99, 3) := by decide +kernel
theorem zd_J_law_651 : decode code 651 = .ok (.if_icmp .eq 203, 3) := by decide +kernel
theorem zd_J_law_654 : decode code 654 = .ok (.iconst 0, 1) := by decide +kernel
theorem zd_J_law_655 : decode code 655 = .ok (.ireturn, 1) := by decide +kernel
theorem zd_J_law_656 : decode code 656 = .ok (.aload_n 1, 1) := by decide +kernel
theorem zd_J_law_657 : decode code 657 = .ok (.aload_n 0, 1) := by decide +kernel
theorem zd_J_law_658 : decode code 658 = .ok (.iload_n 3, 1) := by decide +kernel
theorem zd_J_law_659 : decode code 659 = .ok (.iconst 1, 1) := by decide +kernel
theorem zd_J_law_660 : decode code 660 = .ok (.iadd, 1) := by decide +kernel
theorem zd_J_law_661 : decode code 661 = .ok (.iaload, 1) := by decide +kernel
theorem zd_J_law_662 : decode code 662 = .ok (.aload_n 0, 1) := by decide +kernel
theorem zd_J_law_663 : decode code 663 = .ok (.iload_n 3, 1) := by decide +kernel
theorem zd_J_law_664 : decode code 664 = .ok (.iconst 2, 1) := by decide +kernel
theorem zd_J_law_665 : decode code 665 = .ok (.iadd, 1) := by decide +kernel
theorem zd_J_law_666 : decode code 666 = .ok (.iaload, 1) := by decide +kernel
theorem zd_J_law_667 : decode code 667 = .ok (.invokevirtual 100, 3) := by decide +kernel
theorem zd_J_law_670 : decode code 670 = .ok (.aload_n 2, 1) := by decide +kernel
theorem zd_J_law_671 : decode code 671 = .ok (.aload_n 0, 1) := by decide +kernel
theorem zd_J_law_672 : decode code 672 = .ok (.iload_n 3, 1) := by decide +kernel
theorem zd_J_law_673 : decode code 673 = .ok (.iconst 1, 1) := by decide +kernel
theorem zd_J_law_674 : decode code 674 = .ok (.iadd, 1) := by decide +kernel
theorem zd_J_law_675 : decode code 675 = .ok (.iaload, 1) := by decide +kernel
theorem zd_J_law_676 : decode code 676 = .ok (.aload_n 0, 1) := by decide +kernel
theorem zd_J_law_677 : decode code 677 = .ok (.iload_n 3, 1) := by decide +kernel
theorem zd_J_law_678 : decode code 678 = .ok (.iconst 2, 1) := by decide +kernel
theorem zd_J_law_679 : decode code 679 = .ok (.iadd, 1) := by decide +kernel
theorem zd_J_law_680 : decode code 680 = .ok (.iaload, 1) := by decide +kernel
theorem zd_J_law_681 : decode code 681 = .ok (.invokevirtual 103, 3) := by decide +kernel
theorem zd_J_law_684 : decode code 684 = .ok (.if_icmp .eq 170, 3) := by decide +kernel
theorem zd_J_law_687 : decode code 687 = .ok (.iconst 0, 1) := by decide +kernel
theorem zd_J_law_688 : decode code 688 = .ok (.ireturn, 1) := by decide +kernel
theorem zd_J_law_689 : decode code 689 = .ok (.aload_n 1, 1) := by decide +kernel
theorem zd_J_law_690 : decode code 690 = .ok (.aload_n 0, 1) := by decide +kernel
theorem zd_J_law_691 : decode code 691 = .ok (.iload_n 3, 1) := by decide +kernel
theorem zd_J_law_692 : decode code 692 = .ok (.iconst 1, 1) := by decide +kernel
theorem zd_J_law_693 : decode code 693 = .ok (.iadd, 1) := by decide +kernel
theorem zd_J_law_694 : decode code 694 = .ok (.iaload, 1) := by decide +kernel
theorem zd_J_law_695 : decode code 695 = .ok (.aload_n 0, 1) := by decide +kernel
theorem zd_J_law_696 : decode code 696 = .ok (.iload_n 3, 1) := by decide +kernel
theorem zd_J_law_697 : decode code 697 = .ok (.iconst 2, 1) := by decide +kernel
theorem zd_J_law_698 : decode code 698 = .ok (.iadd, 1) := by decide +kernel
theorem zd_J_law_699 : decode code 699 = .ok (.iaload, 1) := by decide +kernel
theorem zd_J_law_700 : decode code 700 = .ok (.invokevirtual 104, 3) := by decide +kernel
theorem zd_J_law_703 : decode code 703 = .ok (.aload_n 2, 1) := by decide +kernel
theorem zd_J_law_704 : decode code 704 = .ok (.aload_n 0, 1) := by decide +kernel
theorem zd_J_law_705 : decode code 705 = .ok (.iload_n 3, 1) := by decide +kernel
theorem zd_J_law_706 : decode code 706 = .ok (.iconst 1, 1) := by decide +kernel
theorem zd_J_law_707 : decode code 707 = .ok (.iadd, 1) := by decide +kernel
theorem zd_J_law_708 : decode code 708 = .ok (.iaload, 1) := by decide +kernel
theorem zd_J_law_709 : decode code 709 = .ok (.aload_n 0, 1) := by decide +kernel
theorem zd_J_law_710 : decode code 710 = .ok (.iload_n 3, 1) := by decide +kernel
theorem zd_J_law_711 : decode code 711 = .ok (.iconst 2, 1) := by decide +kernel
theorem zd_J_law_712 : decode code 712 = .ok (.iadd, 1) := by decide +kernel
theorem zd_J_law_713 : decode code 713 = .ok (.iaload, 1) := by decide +kernel
theorem zd_J_law_714 : decode code 714 = .ok (.invokevirtual 107, 3) := by decide +kernel
theorem zd_J_law_717 : decode code 717 = .ok (.if_icmp .eq 137, 3) := by decide +kernel
theorem zd_J_law_720 : decode code 720 = .ok (.iconst 0, 1) := by decide +kernel
theorem zd_J_law_721 : decode code 721 = .ok (.ireturn, 1) := by decide +kernel
theorem zd_J_law_722 : decode code 722 = .ok (.aload_n 1, 1) := by decide +kernel
theorem zd_J_law_723 : decode code 723 = .ok (.aload_n 0, 1) := by decide +kernel
theorem zd_J_law_724 : decode code 724 = .ok (.iload_n 3, 1) := by decide +kernel
theorem zd_J_law_725 : decode code 725 = .ok (.iconst 1, 1) := by decide +kernel
theorem zd_J_law_726 : decode code 726 = .ok (.iadd, 1) := by decide +kernel
theorem zd_J_law_727 : decode code 727 = .ok (.iaload, 1) := by decide +kernel
theorem zd_J_law_728 : decode code 728 = .ok (.aload_n 0, 1) := by decide +kernel
theorem zd_J_law_729 : decode code 729 = .ok (.iload_n 3, 1) := by decide +kernel
theorem zd_J_law_730 : decode code 730 = .ok (.iconst 2, 1) := by decide +kernel
theorem zd_J_law_731 : decode code 731 = .ok (.iadd, 1) := by decide +kernel
theorem zd_J_law_732 : decode code 732 = .ok (.iaload, 1) := by decide +kernel
theorem zd_J_law_733 : decode code 733 = .ok (.invokevirtual 108, 3) := by decide +kernel
theorem zd_J_law_736 : decode code 736 = .ok (.aload_n 2, 1) := by decide +kernel
theorem zd_J_law_737 : decode code 737 = .ok (.aload_n 0, 1) := by decide +kernel
theorem zd_J_law_738 : decode code 738 = .ok (.iload_n 3, 1) := by decide +kernel
theorem zd_J_law_739 : decode code 739 = .ok (.iconst 1, 1) := by decide +kernel
theorem zd_J_law_740 : decode code 740 = .ok (.iadd, 1) := by decide +kernel
theorem zd_J_law_741 : decode code 741 = .ok (.iaload, 1) := by decide +kernel
theorem zd_J_law_742 : decode code 742 = .ok (.aload_n 0, 1) := by decide +kernel
theorem zd_J_law_743 : decode code 743 = .ok (.iload_n 3, 1) := by decide +kernel
theorem zd_J_law_744 : decode code 744 = .ok (.iconst 2, 1) := by decide +kernel
theorem zd_J_law_745 : decode code 745 = .ok (.iadd, 1) := by decide +kernel
theorem zd_J_law_746 : decode code 746 = .ok (.iaload, 1) := by decide +kernel
theorem zd_J_law_747 : decode code 747 = .ok (.invokevirtual 111, 3) := by decide +kernel
theorem zd_J_law_750 : decode code 750 = .ok (.if_icmp .eq 104, 3) := by decide +kernel
theorem zd_J_law_753 : decode code 753 = .ok (.iconst 0, 1) := by decide +kernel
theorem zd_J_law_754 : decode code 754 = .ok (.ireturn, 1) := by decide +kernel
theorem zd_J_law_755 : decode code 755 = .ok (.aload_n 1, 1) := by decide +kernel
theorem zd_J_law_756 : decode code 756 = .ok (.aload_n 0, 1) := by decide +kernel
theorem zd_J_law_757 : decode code 757 = .ok (.iload_n 3, 1) := by decide +kernel
theorem zd_J_law_758 : decode code 758 = .ok (.iconst 1, 1) := by decide +kernel
theorem zd_J_law_759 : decode code 759 = .ok (.iadd, 1) := by decide +kernel
theorem zd_J_law_760 : decode code 760 = .ok (.iaload, 1) := by decide +kernel
theorem zd_J_law_761 : decode code 761 = .ok (.aload_n 0, 1) := by decide +kernel
theorem zd_J_law_762 : decode code 762 = .ok (.iload_n 3, 1) := by decide +kernel
theorem zd_J_law_763 : decode code 763 = .ok (.iconst 2, 1) := by decide +kernel
theorem zd_J_law_764 : decode code 764 = .ok (.iadd, 1) := by decide +kernel
theorem zd_J_law_765 : decode code 765 = .ok (.iaload, 1) := by decide +kernel
theorem zd_J_law_766 : decode code 766 = .ok (.aload_n 0, 1) := by decide +kernel
theorem zd_J_law_767 : decode code 767 = .ok (.iload_n 3, 1) := by decide +kernel
theorem zd_J_law_768 : decode code 768 = .ok (.iconst 3, 1) := by decide +kernel
theorem zd_J_law_769 : decode code 769 = .ok (.iadd, 1) := by decide +kernel
theorem zd_J_law_770 : decode code 770 = .ok (.iaload, 1) := by decide +kernel
theorem zd_J_law_771 : decode code 771 = .ok (.invokevirtual 112, 3) := by decide +kernel
theorem zd_J_law_774 : decode code 774 = .ok (.aload_n 2, 1) := by decide +kernel
theorem zd_J_law_775 : decode code 775 = .ok (.aload_n 0, 1) := by decide +kernel
theorem zd_J_law_776 : decode code 776 = .ok (.iload_n 3, 1) := by decide +kernel
theorem zd_J_law_777 : decode code 777 = .ok (.iconst 1, 1) := by decide +kernel
theorem zd_J_law_778 : decode code 778 = .ok (.iadd, 1) := by decide +kernel
theorem zd_J_law_779 : decode code 779 = .ok (.iaload, 1) := by decide +kernel
theorem zd_J_law_780 : decode code 780 = .ok (.aload_n 0, 1) := by decide +kernel
theorem zd_J_law_781 : decode code 781 = .ok (.iload_n 3, 1) := by decide +kernel
theorem zd_J_law_782 : decode code 782 = .ok (.iconst 2, 1) := by decide +kernel
theorem zd_J_law_783 : decode code 783 = .ok (.iadd, 1) := by decide +kernel
theorem zd_J_law_784 : decode code 784 = .ok (.iaload, 1) := by decide +kernel
theorem zd_J_law_785 : decode code 785 = .ok (.aload_n 0, 1) := by decide +kernel
theorem zd_J_law_786 : decode code 786 = .ok (.iload_n 3, 1) := by decide +kernel
theorem zd_J_law_787 : decode code 787 = .ok (.iconst 3, 1) := by decide +kernel
theorem zd_J_law_788 : decode code 788 = .ok (.iadd, 1) := by decide +kernel
theorem zd_J_law_789 : decode code 789 = .ok (.iaload, 1) := by decide +kernel
theorem zd_J_law_790 : decode code 790 = .ok (.invokevirtual 115, 3) := by decide +kernel
theorem zd_J_law_793 : decode code 793 = .ok (.if_icmp .eq 61, 3) := by decide +kernel
theorem zd_J_law_796 : decode code 796 = .ok (.iconst 0, 1) := by decide +kernel
theorem zd_J_law_797 : decode code 797 = .ok (.ireturn, 1) := by decide +kernel
theorem zd_J_law_798 : decode code 798 = .ok (.aload_n 1, 1) := by decide +kernel
theorem zd_J_law_799 : decode code 799 = .ok (.aload_n 0, 1) := by decide +kernel
theorem zd_J_law_800 : decode code 800 = .ok (.iload_n 3, 1) := by decide +kernel
theorem zd_J_law_801 : decode code 801 = .ok (.iconst 1, 1) := by decide +kernel
theorem zd_J_law_802 : decode code 802 = .ok (.iadd, 1) := by decide +kernel
theorem zd_J_law_803 : decode code 803 = .ok (.iaload, 1) := by decide +kernel
theorem zd_J_law_804 : decode code 804 = .ok (.aload_n 0, 1) := by decide +kernel
theorem zd_J_law_805 : decode code 805 = .ok (.iload_n 3, 1) := by decide +kernel
theorem zd_J_law_806 : decode code 806 = .ok (.iconst 2, 1) := by decide +kernel
theorem zd_J_law_807 : decode code 807 = .ok (.iadd, 1) := by decide +kernel
theorem zd_J_law_808 : decode code 808 = .ok (.iaload, 1) := by decide +kernel
theorem zd_J_law_809 : decode code 809 = .ok (.invokevirtual 116, 3) := by decide +kernel
theorem zd_J_law_812 : decode code 812 = .ok (.aload_n 2, 1) := by decide +kernel
theorem zd_J_law_813 : decode code 813 = .ok (.aload_n 0, 1) := by decide +kernel
theorem zd_J_law_814 : decode code 814 = .ok (.iload_n 3, 1) := by decide +kernel
theorem zd_J_law_815 : decode code 815 = .ok (.iconst 1, 1) := by decide +kernel
theorem zd_J_law_816 : decode code 816 = .ok (.iadd, 1) := by decide +kernel
theorem zd_J_law_817 : decode code 817 = .ok (.iaload, 1) := by decide +kernel
theorem zd_J_law_818 : decode code 818 = .ok (.aload_n 0, 1) := by decide +kernel
theorem zd_J_law_819 : decode code 819 = .ok (.iload_n 3, 1) := by decide +kernel
theorem zd_J_law_820 : decode code 820 = .ok (.iconst 2, 1) := by decide +kernel
theorem zd_J_law_821 : decode code 821 = .ok (.iadd, 1) := by decide +kernel
theorem zd_J_law_822 : decode code 822 = .ok (.iaload, 1) := by decide +kernel
theorem zd_J_law_823 : decode code 823 = .ok (.invokevirtual 119, 3) := by decide +kernel
theorem zd_J_law_826 : decode code 826 = .ok (.if_icmp .eq 28, 3) := by decide +kernel
theorem zd_J_law_829 : decode code 829 = .ok (.iconst 0, 1) := by decide +kernel
theorem zd_J_law_830 : decode code 830 = .ok (.ireturn, 1) := by decide +kernel
theorem zd_J_law_831 : decode code 831 = .ok (.aload_n 1, 1) := by decide +kernel
theorem zd_J_law_832 : decode code 832 = .ok (.aload_n 0, 1) := by decide +kernel
theorem zd_J_law_833 : decode code 833 = .ok (.iload_n 3, 1) := by decide +kernel
theorem zd_J_law_834 : decode code 834 = .ok (.iconst 1, 1) := by decide +kernel
theorem zd_J_law_835 : decode code 835 = .ok (.iadd, 1) := by decide +kernel
theorem zd_J_law_836 : decode code 836 = .ok (.iaload, 1) := by decide +kernel
theorem zd_J_law_837 : decode code 837 = .ok (.invokevirtual 120, 3) := by decide +kernel
theorem zd_J_law_840 : decode code 840 = .ok (.aload_n 2, 1) := by decide +kernel
theorem zd_J_law_841 : decode code 841 = .ok (.aload_n 0, 1) := by decide +kernel
theorem zd_J_law_842 : decode code 842 = .ok (.iload_n 3, 1) := by decide +kernel
theorem zd_J_law_843 : decode code 843 = .ok (.iconst 1, 1) := by decide +kernel
theorem zd_J_law_844 : decode code 844 = .ok (.iadd, 1) := by decide +kernel
theorem zd_J_law_845 : decode code 845 = .ok (.iaload, 1) := by decide +kernel
theorem zd_J_law_846 : decode code 846 = .ok (.invokevirtual 123, 3) := by decide +kernel
theorem zd_J_law_849 : decode code 849 = .ok (.if_icmp .eq 5, 3) := by decide +kernel
theorem zd_J_law_852 : decode code 852 = .ok (.iconst 0, 1) := by decide +kernel
theorem zd_J_law_853 : decode code 853 = .ok (.ireturn, 1) := by decide +kernel
theorem zd_J_law_854 : decode code 854 = .ok (.iinc 3 6, 3) := by decide +kernel
theorem zd_J_law_857 : decode code 857 = .ok (.goto (-829), 3) := by decide +kernel
theorem zd_J_law_860 : decode code 860 = .ok (.iconst 1, 1) := by decide +kernel
theorem zd_J_law_861 : decode code 861 = .ok (.ireturn, 1) := by decide +kernel
