/-! decode rows of the law -/
theorem zd_L_law_0 : decode I_L_law.2.1 0 = .ok (.new 7, 3) := by decide +kernel
theorem zd_L_law_3 : decode I_L_law.2.1 3 = .ok (.dup, 1) := by decide +kernel
theorem zd_L_law_4 : decode I_L_law.2.1 4 = .ok (.invokespecial 9, 3) := by decide +kernel
theorem zd_L_law_7 : decode I_L_law.2.1 7 = .ok (.astore_n 1, 1) := by decide +kernel
theorem zd_L_law_8 : decode I_L_law.2.1 8 = .ok (.new 10, 3) := by decide +kernel
theorem zd_L_law_11 : decode I_L_law.2.1 11 = .ok (.dup, 1) := by decide +kernel
theorem zd_L_law_12 : decode I_L_law.2.1 12 = .ok (.invokespecial 12, 3) := by decide +kernel
theorem zd_L_law_15 : decode I_L_law.2.1 15 = .ok (.astore_n 2, 1) := by decide +kernel
theorem zd_L_law_16 : decode I_L_law.2.1 16 = .ok (.iconst 0, 1) := by decide +kernel
theorem zd_L_law_17 : decode I_L_law.2.1 17 = .ok (.istore_n 3, 1) := by decide +kernel
theorem zd_L_law_18 : decode I_L_law.2.1 18 = .ok (.iload_n 3, 1) := by decide +kernel
theorem zd_L_law_19 : decode I_L_law.2.1 19 = .ok (.aload_n 0, 1) := by decide +kernel
theorem zd_L_law_20 : decode I_L_law.2.1 20 = .ok (.arraylength, 1) := by decide +kernel
theorem zd_L_law_21 : decode I_L_law.2.1 21 = .ok (.iconst 5, 1) := by decide +kernel
theorem zd_L_law_22 : decode I_L_law.2.1 22 = .ok (.isub, 1) := by decide +kernel
theorem zd_L_law_23 : decode I_L_law.2.1 23 = .ok (.if_icmp .gt 1240, 3) := by decide +kernel
theorem zd_L_law_26 : decode I_L_law.2.1 26 = .ok (.aload_n 0, 1) := by decide +kernel
theorem zd_L_law_27 : decode I_L_law.2.1 27 = .ok (.iload_n 3, 1) := by decide +kernel
theorem zd_L_law_28 : decode I_L_law.2.1 28 = .ok (.iaload, 1) := by decide +kernel
theorem zd_L_law_29 : decode I_L_law.2.1 29 = .ok (.bipush 31, 2) := by decide +kernel
theorem zd_L_law_31 : decode I_L_law.2.1 31 = .ok (.iand, 1) := by decide +kernel
theorem zd_L_law_32 : decode I_L_law.2.1 32 = .ok (.tableswitch 1225 0 30 #[140, 183, 226, 259, 308, 341, 374, 407, 440, 473, 506, 529, 562, 605, 638, 681, 724, 747, 790, 859, 892, 915, 938, 961, 994, 1027, 1060, 1103, 1136, 1169, 1202], 140) := by decide +kernel
theorem zd_L_law_172 : decode I_L_law.2.1 172 = .ok (.aload_n 1, 1) := by decide +kernel
theorem zd_L_law_173 : decode I_L_law.2.1 173 = .ok (.aload_n 0, 1) := by decide +kernel
theorem zd_L_law_174 : decode I_L_law.2.1 174 = .ok (.iload_n 3, 1) := by decide +kernel
theorem zd_L_law_175 : decode I_L_law.2.1 175 = .ok (.iconst 1, 1) := by decide +kernel
theorem zd_L_law_176 : decode I_L_law.2.1 176 = .ok (.iadd, 1) := by decide +kernel
theorem zd_L_law_177 : decode I_L_law.2.1 177 = .ok (.iaload, 1) := by decide +kernel
theorem zd_L_law_178 : decode I_L_law.2.1 178 = .ok (.aload_n 0, 1) := by decide +kernel
theorem zd_L_law_179 : decode I_L_law.2.1 179 = .ok (.iload_n 3, 1) := by decide +kernel
theorem zd_L_law_180 : decode I_L_law.2.1 180 = .ok (.iconst 2, 1) := by decide +kernel
theorem zd_L_law_181 : decode I_L_law.2.1 181 = .ok (.iadd, 1) := by decide +kernel
theorem zd_L_law_182 : decode I_L_law.2.1 182 = .ok (.iaload, 1) := by decide +kernel
theorem zd_L_law_183 : decode I_L_law.2.1 183 = .ok (.aload_n 0, 1) := by decide +kernel
theorem zd_L_law_184 : decode I_L_law.2.1 184 = .ok (.iload_n 3, 1) := by decide +kernel
theorem zd_L_law_185 : decode I_L_law.2.1 185 = .ok (.iconst 3, 1) := by decide +kernel
theorem zd_L_law_186 : decode I_L_law.2.1 186 = .ok (.iadd, 1) := by decide +kernel
theorem zd_L_law_187 : decode I_L_law.2.1 187 = .ok (.iaload, 1) := by decide +kernel
theorem zd_L_law_188 : decode I_L_law.2.1 188 = .ok (.invokevirtual 13, 3) := by decide +kernel
theorem zd_L_law_191 : decode I_L_law.2.1 191 = .ok (.aload_n 2, 1) := by decide +kernel
theorem zd_L_law_192 : decode I_L_law.2.1 192 = .ok (.aload_n 0, 1) := by decide +kernel
theorem zd_L_law_193 : decode I_L_law.2.1 193 = .ok (.iload_n 3, 1) := by decide +kernel
theorem zd_L_law_194 : decode I_L_law.2.1 194 = .ok (.iconst 1, 1) := by decide +kernel
theorem zd_L_law_195 : decode I_L_law.2.1 195 = .ok (.iadd, 1) := by decide +kernel
theorem zd_L_law_196 : decode I_L_law.2.1 196 = .ok (.iaload, 1) := by decide +kernel
theorem zd_L_law_197 : decode I_L_law.2.1 197 = .ok (.aload_n 0, 1) := by decide +kernel
theorem zd_L_law_198 : decode I_L_law.2.1 198 = .ok (.iload_n 3, 1) := by decide +kernel
theorem zd_L_law_199 : decode I_L_law.2.1 199 = .ok (.iconst 2, 1) := by decide +kernel
theorem zd_L_law_200 : decode I_L_law.2.1 200 = .ok (.iadd, 1) := by decide +kernel
theorem zd_L_law_201 : decode I_L_law.2.1 201 = .ok (.iaload, 1) := by decide +kernel
theorem zd_L_law_202 : decode I_L_law.2.1 202 = .ok (.aload_n 0, 1) := by decide +kernel
theorem zd_L_law_203 : decode I_L_law.2.1 203 = .ok (.iload_n 3, 1) := by decide +kernel
theorem zd_L_law_204 : decode I_L_law.2.1 204 = .ok (.iconst 3, 1) := by decide +kernel
theorem zd_L_law_205 : decode I_L_law.2.1 205 = .ok (.iadd, 1) := by decide +kernel
theorem zd_L_law_206 : decode I_L_law.2.1 206 = .ok (.iaload, 1) := by decide +kernel
theorem zd_L_law_207 : decode I_L_law.2.1 207 = .ok (.invokevirtual 17, 3) := by decide +kernel
theorem zd_L_law_210 : decode I_L_law.2.1 210 = .ok (.if_icmp .eq 1047, 3) := by decide +kernel
theorem zd_L_law_213 : decode I_L_law.2.1 213 = .ok (.iconst 0, 1) := by decide +kernel
theorem zd_L_law_214 : decode I_L_law.2.1 214 = .ok (.ireturn, 1) := by decide +kernel
theorem zd_L_law_215 : decode I_L_law.2.1 215 = .ok (.aload_n 1, 1) := by decide +kernel
theorem zd_L_law_216 : decode I_L_law.2.1 216 = .ok (.aload_n 0, 1) := by decide +kernel
theorem zd_L_law_217 : decode I_L_law.2.1 217 = .ok (.iload_n 3, 1) := by decide +kernel
theorem zd_L_law_218 : decode I_L_law.2.1 218 = .ok (.iconst 1, 1) := by decide +kernel
theorem zd_L_law_219 : decode I_L_law.2.1 219 = .ok (.iadd, 1) := by decide +kernel
theorem zd_L_law_220 : decode I_L_law.2.1 220 = .ok (.iaload, 1) := by decide +kernel
theorem zd_L_law_221 : decode I_L_law.2.1 221 = .ok (.aload_n 0, 1) := by decide +kernel
theorem zd_L_law_222 : decode I_L_law.2.1 222 = .ok (.iload_n 3, 1) := by decide +kernel
theorem zd_L_law_223 : decode I_L_law.2.1 223 = .ok (.iconst 2, 1) := by decide +kernel
theorem zd_L_law_224 : decode I_L_law.2.1 224 = .ok (.iadd, 1) := by decide +kernel
theorem zd_L_law_225 : decode I_L_law.2.1 225 = .ok (.iaload, 1) := by decide +kernel
theorem zd_L_law_226 : decode I_L_law.2.1 226 = .ok (.aload_n 0, 1) := by decide +kernel
theorem zd_L_law_227 : decode I_L_law.2.1 227 = .ok (.iload_n 3, 1) := by decide +kernel
theorem zd_L_law_228 : decode I_L_law.2.1 228 = .ok (.iconst 3, 1) := by decide +kernel
theorem zd_L_law_229 : decode I_L_law.2.1 229 = .ok (.iadd, 1) := by decide +kernel
theorem zd_L_law_230 : decode I_L_law.2.1 230 = .ok (.iaload, 1) := by decide +kernel
theorem zd_L_law_231 : decode I_L_law.2.1 231 = .ok (.invokevirtual 18, 3) := by decide +kernel
theorem zd_L_law_234 : decode I_L_law.2.1 234 = .ok (.aload_n 2, 1) := by decide +kernel
theorem zd_L_law_235 : decode I_L_law.2.1 235 = .ok (.aload_n 0, 1) := by decide +kernel
theorem zd_L_law_236 : decode I_L_law.2.1 236 = .ok (.iload_n 3, 1) := by decide +kernel
theorem zd_L_law_237 : decode I_L_law.2.1 237 = .ok (.iconst 1, 1) := by decide +kernel
theorem zd_L_law_238 : decode I_L_law.2.1 238 = .ok (.iadd, 1) := by decide +kernel
theorem zd_L_law_239 : decode I_L_law.2.1 239 = .ok (.iaload, 1) := by decide +kernel
theorem zd_L_law_240 : decode I_L_law.2.1 240 = .ok (.aload_n 0, 1) := by decide +kernel
theorem zd_L_law_241 : decode I_L_law.2.1 241 = .ok (.iload_n 3, 1) := by decide +kernel
theorem zd_L_law_242 : decode I_L_law.2.1 242 = .ok (.iconst 2, 1) := by decide +kernel
theorem zd_L_law_243 : decode I_L_law.2.1 243 = .ok (.iadd, 1) := by decide +kernel
theorem zd_L_law_244 : decode I_L_law.2.1 244 = .ok (.iaload, 1) := by decide +kernel
theorem zd_L_law_245 : decode I_L_law.2.1 245 = .ok (.aload_n 0, 1) := by decide +kernel
theorem zd_L_law_246 : decode I_L_law.2.1 246 = .ok (.iload_n 3, 1) := by decide +kernel
theorem zd_L_law_247 : decode I_L_law.2.1 247 = .ok (.iconst 3, 1) := by decide +kernel
theorem zd_L_law_248 : decode I_L_law.2.1 248 = .ok (.iadd, 1) := by decide +kernel
theorem zd_L_law_249 : decode I_L_law.2.1 249 = .ok (.iaload, 1) := by decide +kernel
theorem zd_L_law_250 : decode I_L_law.2.1 250 = .ok (.invokevirtual 21, 3) := by decide +kernel
theorem zd_L_law_253 : decode I_L_law.2.1 253 = .ok (.if_icmp .eq 1004, 3) := by decide +kernel
theorem zd_L_law_256 : decode I_L_law.2.1 256 = .ok (.iconst 0, 1) := by decide +kernel
theorem zd_L_law_257 : decode I_L_law.2.1 257 = .ok (.ireturn, 1) := by decide +kernel
theorem zd_L_law_258 : decode I_L_law.2.1 258 = .ok (.aload_n 1, 1) := by decide +kernel
theorem zd_L_law_259 : decode I_L_law.2.1 259 = .ok (.aload_n 0, 1) := by decide +kernel
theorem zd_L_law_260 : decode I_L_law.2.1 260 = .ok (.iload_n 3, 1) := by decide +kernel
theorem zd_L_law_261 : decode I_L_law.2.1 261 = .ok (.iconst 1, 1) := by decide +kernel
theorem zd_L_law_262 : decode I_L_law.2.1 262 = .ok (.iadd, 1) := by decide +kernel
theorem zd_L_law_263 : decode I_L_law.2.1 263 = .ok (.iaload, 1) := by decide +kernel
theorem zd_L_law_264 : decode I_L_law.2.1 264 = .ok (.aload_n 0, 1) := by decide +kernel
theorem zd_L_law_265 : decode I_L_law.2.1 265 = .ok (.iload_n 3, 1) := by decide +kernel
theorem zd_L_law_266 : decode I_L_law.2.1 266 = .ok (.iconst 2, 1) := by decide +kernel
theorem zd_L_law_267 : decode I_L_law.2.1 267 = .ok (.iadd, 1) := by decide +kernel
theorem zd_L_law_268 : decode I_L_law.2.1 268 = .ok (.iaload, 1) := by decide +kernel
theorem zd_L_law_269 : decode I_L_law.2.1 269 = .ok (.invokevirtual 22, 3) := by decide +kernel
theorem zd_L_law_272 : decode I_L_law.2.1 272 = .ok (.aload_n 2, 1) := by decide +kernel
theorem zd_L_law_273 : decode I_L_law.2.1 273 = .ok (.aload_n 0, 1) := by decide +kernel
theorem zd_L_law_274 : decode I_L_law.2.1 274 = .ok (.iload_n 3, 1) := by decide +kernel
theorem zd_L_law_275 : decode I_L_law.2.1 275 = .ok (.iconst 1, 1) := by decide +kernel
theorem zd_L_law_276 : decode I_L_law.2.1 276 = .ok (.iadd, 1) := by decide +kernel
theorem zd_L_law_277 : decode I_L_law.2.1 277 = .ok (.iaload, 1) := by decide +kernel
theorem zd_L_law_278 : decode I_L_law.2.1 278 = .ok (.aload_n 0, 1) := by decide +kernel
theorem zd_L_law_279 : decode I_L_law.2.1 279 = .ok (.iload_n 3, 1) := by decide +kernel
theorem zd_L_law_280 : decode I_L_law.2.1 280 = .ok (.iconst 2, 1) := by decide +kernel
theorem zd_L_law_281 : decode I_L_law.2.1 281 = .ok (.iadd, 1) := by decide +kernel
theorem zd_L_law_282 : decode I_L_law.2.1 282 = .ok (.iaload, 1) := by decide +kernel
theorem zd_L_law_283 : decode I_L_law.2.1 283 = .ok (.invokevirtual 26, 3) := by decide +kernel
theorem zd_L_law_286 : decode I_L_law.2.1 286 = .ok (.if_icmp .eq 971, 3) := by decide +kernel
theorem zd_L_law_289 : decode I_L_law.2.1 289 = .ok (.iconst 0, 1) := by decide +kernel
theorem zd_L_law_290 : decode I_L_law.2.1 290 = .ok (.ireturn, 1) := by decide +kernel
theorem zd_L_law_291 : decode I_L_law.2.1 291 = .ok (.aload_n 1, 1) := by decide +kernel
theorem zd_L_law_292 : decode I_L_law.2.1 292 = .ok (.aload_n 0, 1) := by decide +kernel
theorem zd_L_law_293 : decode I_L_law.2.1 293 = .ok (.iload_n 3, 1) := by decide +kernel
theorem zd_L_law_294 : decode I_L_law.2.1 294 = .ok (.iconst 1, 1) := by decide +kernel
theorem zd_L_law_295 : decode I_L_law.2.1 295 = .ok (.iadd, 1) := by decide +kernel
theorem zd_L_law_296 : decode I_L_law.2.1 296 = .ok (.iaload, 1) := by decide +kernel
theorem zd_L_law_297 : decode I_L_law.2.1 297 = .ok (.aload_n 0, 1) := by decide +kernel
theorem zd_L_law_298 : decode I_L_law.2.1 298 = .ok (.iload_n 3, 1) := by decide +kernel
theorem zd_L_law_299 : decode I_L_law.2.1 299 = .ok (.iconst 2, 1) := by decide +kernel
theorem zd_L_law_300 : decode I_L_law.2.1 300 = .ok (.iadd, 1) := by decide +kernel
theorem zd_L_law_301 : decode I_L_law.2.1 301 = .ok (.iaload, 1) := by decide +kernel
theorem zd_L_law_302 : decode I_L_law.2.1 302 = .ok (.ifCond .eq 7, 3) := by decide +kernel
theorem zd_L_law_305 : decode I_L_law.2.1 305 = .ok (.iconst 1, 1) := by decide +kernel
theorem zd_L_law_306 : decode I_L_law.2.1 306 = .ok (.goto 4, 3) := by decide +kernel
theorem zd_L_law_309 : decode I_L_law.2.1 309 = .ok (.iconst 0, 1) := by decide +kernel
theorem zd_L_law_310 : decode I_L_law.2.1 310 = .ok (.invokevirtual 27, 3) := by decide +kernel
theorem zd_L_law_313 : decode I_L_law.2.1 313 = .ok (.aload_n 2, 1) := by decide +kernel
theorem zd_L_law_314 : decode I_L_law.2.1 314 = .ok (.aload_n 0, 1) := by decide +kernel
theorem zd_L_law_315 : decode I_L_law.2.1 315 = .ok (.iload_n 3, 1) := by decide +kernel
theorem zd_L_law_316 : decode I_L_law.2.1 316 = .ok (.iconst 1, 1) := by decide +kernel
theorem zd_L_law_317 : decode I_L_law.2.1 317 = .ok (.iadd, 1) := by decide +kernel
theorem zd_L_law_318 : decode I_L_law.2.1 318 = .ok (.iaload, 1) := by decide +kernel
theorem zd_L_law_319 : decode I_L_law.2.1 319 = .ok (.aload_n 0, 1) := by decide +kernel
theorem zd_L_law_320 : decode I_L_law.2.1 320 = .ok (.iload_n 3, 1) := by decide +kernel
theorem zd_L_law_321 : decode I_L_law.2.1 321 = .ok (.iconst 2, 1) := by decide +kernel
theorem zd_L_law_322 : decode I_L_law.2.1 322 = .ok (.iadd, 1) := by decide +kernel
theorem zd_L_law_323 : decode I_L_law.2.1 323 = .ok (.iaload, 1) := by decide +kernel
theorem zd_L_law_324 : decode I_L_law.2.1 324 = .ok (.ifCond .eq 7, 3) := by decide +kernel
theorem zd_L_law_327 : decode I_L_law.2.1 327 = .ok (.iconst 1, 1) := by decide +kernel
theorem zd_L_law_328 : decode I_L_law.2.1 328 = .ok (.goto 4, 3) := by decide +kernel
theorem zd_L_law_331 : decode I_L_law.2.1 331 = .ok (.iconst 0, 1) := by decide +kernel
theorem zd_L_law_332 : decode I_L_law.2.1 332 = .ok (.invokevirtual 31, 3) := by decide +kernel
theorem zd_L_law_335 : decode I_L_law.2.1 335 = .ok (.if_icmp .eq 922, 3) := by decide +kernel
theorem zd_L_law_338 : decode I_L_law.2.1 338 = .ok (.iconst 0, 1) := by decide +kernel
theorem zd_L_law_339 : decode I_L_law.2.1 339 = .ok (.ireturn, 1) := by decide +kernel
theorem zd_L_law_340 : decode I_L_law.2.1 340 = .ok (.aload_n 1, 1) := by decide +kernel
theorem zd_L_law_341 : decode I_L_law.2.1 341 = .ok (.aload_n 0, 1) := by decide +kernel
theorem zd_L_law_342 : decode I_L_law.2.1 342 = .ok (.iload_n 3, 1) := by decide +kernel
theorem zd_L_law_343 : decode I_L_law.2.1 343 = .ok (.iconst 1, 1) := by decide +kernel
theorem zd_L_law_344 : decode I_L_law.2.1 344 = .ok (.iadd, 1) := by decide +kernel
theorem zd_L_law_345 : decode I_L_law.2.1 345 = .ok (.iaload, 1) := by decide +kernel
theorem zd_L_law_346 : decode I_L_law.2.1 346 = .ok (.aload_n 0, 1) := by decide +kernel
theorem zd_L_law_347 : decode I_L_law.2.1 347 = .ok (.iload_n 3, 1) := by decide +kernel
theorem zd_L_law_348 : decode I_L_law.2.1 348 = .ok (.iconst 2, 1) := by decide +kernel
theorem zd_L_law_349 : decode I_L_law.2.1 349 = .ok (.iadd, 1) := by decide +kernel
theorem zd_L_law_350 : decode I_L_law.2.1 350 = .ok (.iaload, 1) := by decide +kernel
theorem zd_L_law_351 : decode I_L_law.2.1 351 = .ok (.invokevirtual 32, 3) := by decide +kernel
theorem zd_L_law_354 : decode I_L_law.2.1 354 = .ok (.aload_n 2, 1) := by decide +kernel
theorem zd_L_law_355 : decode I_L_law.2.1 355 = .ok (.aload_n 0, 1) := by decide +kernel
theorem zd_L_law_356 : decode I_L_law.2.1 356 = .ok (.iload_n 3, 1) := by decide +kernel
theorem zd_L_law_357 : decode I_L_law.2.1 357 = .ok (.iconst 1, 1) := by decide +kernel
theorem zd_L_law_358 : decode I_L_law.2.1 358 = .ok (.iadd, 1) := by decide +kernel
theorem zd_L_law_359 : decode I_L_law.2.1 359 = .ok (.iaload, 1) := by decide +kernel
theorem zd_L_law_360 : decode I_L_law.2.1 360 = .ok (.aload_n 0, 1) := by decide +kernel
theorem zd_L_law_361 : decode I_L_law.2.1 361 = .ok (.iload_n 3, 1) := by decide +kernel
theorem zd_L_law_362 : decode I_L_law.2.1 362 = .ok (.iconst 2, 1) := by decide +kernel
theorem zd_L_law_363 : decode I_L_law.2.1 363 = .ok (.iadd, 1) := by decide +kernel
theorem zd_L_law_364 : decode I_L_law.2.1 364 = .ok (.iaload, 1) := by decide +kernel
theorem zd_L_law_365 : decode I_L_law.2.1 365 = .ok (.invokevirtual 35, 3) := by decide +kernel
theorem zd_L_law_368 : decode I_L_law.2.1 368 = .ok (.if_icmp .eq 889, 3) := by decide +kernel
theorem zd_L_law_371 : decode I_L_law.2.1 371 = .ok (.iconst 0, 1) := by decide +kernel
theorem zd_L_law_372 : decode I_L_law.2.1 372 = .ok (.ireturn, 1) := by decide +kernel
theorem zd_L_law_373 : decode I_L_law.2.1 373 = .ok (.aload_n 1, 1) := by decide +kernel
theorem zd_L_law_374 : decode I_L_law.2.1 374 = .ok (.aload_n 0, 1) := by decide +kernel
theorem zd_L_law_375 : decode I_L_law.2.1 375 = .ok (.iload_n 3, 1) := by decide +kernel
theorem zd_L_law_376 : decode I_L_law.2.1 376 = .ok (.iconst 1, 1) := by decide +kernel
theorem zd_L_law_377 : decode I_L_law.2.1 377 = .ok (.iadd, 1) := by decide +kernel
theorem zd_L_law_378 : decode I_L_law.2.1 378 = .ok (.iaload, 1) := by decide +kernel
theorem zd_L_law_379 : decode I_L_law.2.1 379 = .ok (.aload_n 0, 1) := by decide +kernel
theorem zd_L_law_380 : decode I_L_law.2.1 380 = .ok (.iload_n 3, 1) := by decide +kernel
theorem zd_L_law_381 : decode I_L_law.2.1 381 = .ok (.iconst 2, 1) := by decide +kernel
theorem zd_L_law_382 : decode I_L_law.2.1 382 = .ok (.iadd, 1) := by decide +kernel
theorem zd_L_law_383 : decode I_L_law.2.1 383 = .ok (.iaload, 1) := by decide +kernel
theorem zd_L_law_384 : decode I_L_law.2.1 384 = .ok (.invokevirtual 36, 3) := by decide +kernel
theorem zd_L_law_387 : decode I_L_law.2.1 387 = .ok (.aload_n 2, 1) := by decide +kernel
theorem zd_L_law_388 : decode I_L_law.2.1 388 = .ok (.aload_n 0, 1) := by decide +kernel
theorem zd_L_law_389 : decode I_L_law.2.1 389 = .ok (.iload_n 3, 1) := by decide +kernel
theorem zd_L_law_390 : decode I_L_law.2.1 390 = .ok (.iconst 1, 1) := by decide +kernel
theorem zd_L_law_391 : decode I_L_law.2.1 391 = .ok (.iadd, 1) := by decide +kernel
theorem zd_L_law_392 : decode I_L_law.2.1 392 = .ok (.iaload, 1) := by decide +kernel
theorem zd_L_law_393 : decode I_L_law.2.1 393 = .ok (.aload_n 0, 1) := by decide +kernel
theorem zd_L_law_394 : decode I_L_law.2.1 394 = .ok (.iload_n 3, 1) := by decide +kernel
theorem zd_L_law_395 : decode I_L_law.2.1 395 = .ok (.iconst 2, 1) := by decide +kernel
theorem zd_L_law_396 : decode I_L_law.2.1 396 = .ok (.iadd, 1) := by decide +kernel
theorem zd_L_law_397 : decode I_L_law.2.1 397 = .ok (.iaload, 1) := by decide +kernel
theorem zd_L_law_398 : decode I_L_law.2.1 398 = .ok (.invokevirtual 39, 3) := by decide +kernel
theorem zd_L_law_401 : decode I_L_law.2.1 401 = .ok (.if_icmp .eq 856, 3) := by decide +kernel
theorem zd_L_law_404 : decode I_L_law.2.1 404 = .ok (.iconst 0, 1) := by decide +kernel
theorem zd_L_law_405 : decode I_L_law.2.1 405 = .ok (.ireturn, 1) := by decide +kernel
theorem zd_L_law_406 : decode I_L_law.2.1 406 = .ok (.aload_n 1, 1) := by decide +kernel
theorem zd_L_law_407 : decode I_L_law.2.1 407 = .ok (.aload_n 0, 1) := by decide +kernel
theorem zd_L_law_408 : decode I_L_law.2.1 408 = .ok (.iload_n 3, 1) := by decide +kernel
theorem zd_L_law_409 : decode I_L_law.2.1 409 = .ok (.iconst 1, 1) := by decide +kernel
theorem zd_L_law_410 : decode I_L_law.2.1 410 = .ok (.iadd, 1) := by decide +kernel
theorem zd_L_law_411 : decode I_L_law.2.1 411 = .ok (.iaload, 1) := by decide +kernel
theorem zd_L_law_412 : decode I_L_law.2.1 412 = .ok (.aload_n 0, 1) := by decide +kernel
theorem zd_L_law_413 : decode I_L_law.2.1 413 = .ok (.iload_n 3, 1) := by decide +kernel
theorem zd_L_law_414 : decode I_L_law.2.1 414 = .ok (.iconst 2, 1) := by decide +kernel
theorem zd_L_law_415 : decode I_L_law.2.1 415 = .ok (.iadd, 1) := by decide +kernel
theorem zd_L_law_416 : decode I_L_law.2.1 416 = .ok (.iaload, 1) := by decide +kernel
theorem zd_L_law_417 : decode I_L_law.2.1 417 = .ok (.invokevirtual 40, 3) := by decide +kernel
theorem zd_L_law_420 : decode I_L_law.2.1 420 = .ok (.aload_n 2, 1) := by decide +kernel
theorem zd_L_law_421 : decode I_L_law.2.1 421 = .ok (.aload_n 0, 1) := by decide +kernel
theorem zd_L_law_422 : decode I_L_law.2.1 422 = .ok (.iload_n 3, 1) := by decide +kernel
theorem zd_L_law_423 : decode I_L_law.2.1 423 = .ok (.iconst 1, 1) := by decide +kernel
theorem zd_L_law_424 : decode I_L_law.2.1 424 = .ok (.iadd, 1) := by decide +kernel
theorem zd_L_law_425 : decode I_L_law.2.1 425 = .ok (.iaload, 1) := by decide +kernel
theorem zd_L_law_426 : decode I_L_law.2.1 426 = .ok (.aload_n 0, 1) := by decide +kernel
theorem zd_L_law_427 : decode I_L_law.2.1 427 = .ok (.iload_n 3, 1) := by decide +kernel
theorem zd_L_law_428 : decode I_L_law.2.1 428 = .ok (.iconst 2, 1) := by decide +kernel
theorem zd_L_law_429 : decode I_L_law.2.1 429 = .ok (.iadd, 1) := by decide +kernel
theorem zd_L_law_430 : decode I_L_law.2.1 430 = .ok (.iaload, 1) := by decide +kernel
theorem zd_L_law_431 : decode I_L_law.2.1 431 = .ok (.invokevirtual 43, 3) := by decide +kernel
theorem zd_L_law_434 : decode I_L_law.2.1 434 = .ok (.if_icmp .eq 823, 3) := by decide +kernel
theorem zd_L_law_437 : decode I_L_law.2.1 437 = .ok (.iconst 0, 1) := by decide +kernel
theorem zd_L_law_438 : decode I_L_law.2.1 438 = .ok (.ireturn, 1) := by decide +kernel
theorem zd_L_law_439 : decode I_L_law.2.1 439 = .ok (.aload_n 1, 1) := by decide +kernel
theorem zd_L_law_440 : decode I_L_law.2.1 440 = .ok (.aload_n 0, 1) := by decide +kernel
theorem zd_L_law_441 : decode I_L_law.2.1 441 = .ok (.iload_n 3, 1) := by decide +kernel
theorem zd_L_law_442 : decode I_L_law.2.1 442 = .ok (.iconst 1, 1) := by decide +kernel
theorem zd_L_law_443 : decode I_L_law.2.1 443 = .ok (.iadd, 1) := by decide +kernel
theorem zd_L_law_444 : decode I_L_law.2.1 444 = .ok (.iaload, 1) := by decide +kernel
theorem zd_L_law_445 : decode I_L_law.2.1 445 = .ok (.aload_n 0, 1) := by decide +kernel
theorem zd_L_law_446 : decode I_L_law.2.1 446 = .ok (.iload_n 3, 1) := by decide +kernel
theorem zd_L_law_447 : decode I_L_law.2.1 447 = .ok (.iconst 2, 1) := by decide +kernel
theorem zd_L_law_448 : decode I_L_law.2.1 448 = .ok (.iadd, 1) := by decide +kernel
theorem zd_L_law_449 : decode I_L_law.2.1 449 = .ok (.iaload, 1) := by decide +kernel
theorem zd_L_law_450 : decode I_L_law.2.1 450 = .ok (.invokevirtual 44, 3) := by decide +kernel
theorem zd_L_law_453 : decode I_L_law.2.1 453 = .ok (.aload_n 2, 1) := by decide +kernel
theorem zd_L_law_454 : decode I_L_law.2.1 454 = .ok (.aload_n 0, 1) := by decide +kernel
theorem zd_L_law_455 : decode I_L_law.2.1 455 = .ok (.iload_n 3, 1) := by decide +kernel
theorem zd_L_law_456 : decode I_L_law.2.1 456 = .ok (.iconst 1, 1) := by decide +kernel
theorem zd_L_law_457 : decode I_L_law.2.1 457 = .ok (.iadd, 1) := by decide +kernel
theorem zd_L_law_458 : decode I_L_law.2.1 458 = .ok (.iaload, 1) := by decide +kernel
theorem zd_L_law_459 : decode I_L_law.2.1 459 = .ok (.aload_n 0, 1) := by decide +kernel
theorem zd_L_law_460 : decode I_L_law.2.1 460 = .ok (.iload_n 3, 1) := by decide +kernel
theorem zd_L_law_461 : decode I_L_law.2.1 461 = .ok (.iconst 2, 1) := by decide +kernel
theorem zd_L_law_462 : decode I_L_law.2.1 462 = .ok (.iadd, 1) := by decide +kernel
theorem zd_L_law_463 : decode I_L_law.2.1 463 = .ok (.iaload, 1) := by decide +kernel
theorem zd_L_law_464 : decode I_L_law.2.1 464 = .ok (.invokevirtual 47, 3) := by decide +kernel
theorem zd_L_law_467 : decode I_L_law.2.1 467 = .ok (.if_icmp .eq 790, 3) := by decide +kernel
theorem zd_L_law_470 : decode I_L_law.2.1 470 = .ok (.iconst 0, 1) := by decide +kernel
theorem zd_L_law_471 : decode I_L_law.2.1 471 = .ok (.ireturn, 1) := by decide +kernel
theorem zd_L_law_472 : decode I_L_law.2.1 472 = .ok (.aload_n 1, 1) := by decide +kernel
theorem zd_L_law_473 : decode I_L_law.2.1 473 = .ok (.aload_n 0, 1) := by decide +kernel
theorem zd_L_law_474 : decode I_L_law.2.1 474 = .ok (.iload_n 3, 1) := by decide +kernel
theorem zd_L_law_475 : decode I_L_law.2.1 475 = .ok (.iconst 1, 1) := by decide +kernel
theorem zd_L_law_476 : decode I_L_law.2.1 476 = .ok (.iadd, 1) := by decide +kernel
theorem zd_L_law_477 : decode I_L_law.2.1 477 = .ok (.iaload, 1) := by decide +kernel
theorem zd_L_law_478 : decode I_L_law.2.1 478 = .ok (.aload_n 0, 1) := by decide +kernel
theorem zd_L_law_479 : decode I_L_law.2.1 479 = .ok (.iload_n 3, 1) := by decide +kernel
theorem zd_L_law_480 : decode I_L_law.2.1 480 = .ok (.iconst 2, 1) := by decide +kernel
theorem zd_L_law_481 : decode I_L_law.2.1 481 = .ok (.iadd, 1) := by decide +kernel
theorem zd_L_law_482 : decode I_L_law.2.1 482 = .ok (.iaload, 1) := by decide +kernel
theorem zd_L_law_483 : decode I_L_law.2.1 483 = .ok (.invokevirtual 48, 3) := by decide +kernel
theorem zd_L_law_486 : decode I_L_law.2.1 486 = .ok (.aload_n 2, 1) := by decide +kernel
theorem zd_L_law_487 : decode I_L_law.2.1 487 = .ok (.aload_n 0, 1) := by decide +kernel
theorem zd_L_law_488 : decode I_L_law.2.1 488 = .ok (.iload_n 3, 1) := by decide +kernel
theorem zd_L_law_489 : decode I_L_law.2.1 489 = .ok (.iconst 1, 1) := by decide +kernel
theorem zd_L_law_490 : decode I_L_law.2.1 490 = .ok (.iadd, 1) := by decide +kernel
theorem zd_L_law_491 : decode I_L_law.2.1 491 = .ok (.iaload, 1) := by decide +kernel
theorem zd_L_law_492 : decode I_L_law.2.1 492 = .ok (.aload_n 0, 1) := by decide +kernel
theorem zd_L_law_493 : decode I_L_law.2.1 493 = .ok (.iload_n 3, 1) := by decide +kernel
theorem zd_L_law_494 : decode I_L_law.2.1 494 = .ok (.iconst 2, 1) := by decide +kernel
theorem zd_L_law_495 : decode I_L_law.2.1 495 = .ok (.iadd, 1) := by decide +kernel
theorem zd_L_law_496 : decode I_L_law.2.1 496 = .ok (.iaload, 1) := by decide +kernel
theorem zd_L_law_497 : decode I_L_law.2.1 497 = .ok (.invokevirtual 51, 3) := by decide +kernel
theorem zd_L_law_500 : decode I_L_law.2.1 500 = .ok (.if_icmp .eq 757, 3) := by decide +kernel
theorem zd_L_law_503 : decode I_L_law.2.1 503 = .ok (.iconst 0, 1) := by decide +kernel
theorem zd_L_law_504 : decode I_L_law.2.1 504 = .ok (.ireturn, 1) := by decide +kernel
theorem zd_L_law_505 : decode I_L_law.2.1 505 = .ok (.aload_n 1, 1) := by decide +kernel
theorem zd_L_law_506 : decode I_L_law.2.1 506 = .ok (.aload_n 0, 1) := by decide +kernel
theorem zd_L_law_507 : decode I_L_law.2.1 507 = .ok (.iload_n 3, 1) := by decide +kernel
theorem zd_L_law_508 : decode I_L_law.2.1 508 = .ok (.iconst 1, 1) := by decide +kernel
theorem zd_L_law_509 : decode I_L_law.2.1 509 = .ok (.iadd, 1) := by decide +kernel
theorem zd_L_law_510 : decode I_L_law.2.1 510 = .ok (.iaload, 1) := by decide +kernel
theorem zd_L_law_511 : decode I_L_law.2.1 511 = .ok (.aload_n 0, 1) := by decide +kernel
theorem zd_L_law_512 : decode I_L_law.2.1 512 = .ok (.iload_n 3, 1) := by decide +kernel
theorem zd_L_law_513 : decode I_L_law.2.1 513 = .ok (.iconst 2, 1) := by decide +kernel
theorem zd_L_law_514 : decode I_L_law.2.1 514 = .ok (.iadd, 1) := by decide +kernel
theorem zd_L_law_515 : decode I_L_law.2.1 515 = .ok (.iaload, 1) := by decide +kernel
theorem zd_L_law_516 : decode I_L_law.2.1 516 = .ok (.invokevirtual 52, 3) := by decide +kernel
theorem zd_L_law_519 : decode I_L_law.2.1 519 = .ok (.aload_n 2, 1) := by decide +kernel
theorem zd_L_law_520 : decode I_L_law.2.1 520 = .ok (.aload_n 0, 1) := by decide +kernel
theorem zd_L_law_521 : decode I_L_law.2.1 521 = .ok (.iload_n 3, 1) := by decide +kernel
theorem zd_L_law_522 : decode I_L_law.2.1 522 = .ok (.iconst 1, 1) := by decide +kernel
theorem zd_L_law_523 : decode I_L_law.2.1 523 = .ok (.iadd, 1) := by decide +kernel
theorem zd_L_law_524 : decode I_L_law.2.1 524 = .ok (.iaload, 1) := by decide +kernel
theorem zd_L_law_525 : decode I_L_law.2.1 525 = .ok (.aload_n 0, 1) := by decide +kernel
theorem zd_L_law_526 : decode I_L_law.2.1 526 = .ok (.iload_n 3, 1) := by decide +kernel
theorem zd_L_law_527 : decode I_L_law.2.1 527 = .ok (.iconst 2, 1) := by decide +kernel
theorem zd_L_law_528 : decode I_L_law.2.1 528 = .ok (.iadd, 1) := by decide +kernel
theorem zd_L_law_529 : decode I_L_law.2.1 529 = .ok (.iaload, 1) := by decide +kernel
theorem zd_L_law_530 : decode I_L_law.2.1 530 = .ok (.invokevirtual 55, 3) := by decide +kernel
theorem zd_L_law_533 : decode I_L_law.2.1 533 = .ok (.if_icmp .eq 724, 3) := by decide +kernel
theorem zd_L_law_536 : decode I_L_law.2.1 536 = .ok (.iconst 0, 1) := by decide +kernel
theorem zd_L_law_537 : decode I_L_law.2.1 537 = .ok (.ireturn, 1) := by decide +kernel
theorem zd_L_law_538 : decode I_L_law.2.1 538 = .ok (.aload_n 1, 1) := by decide +kernel
theorem zd_L_law_539 : decode I_L_law.2.1 539 = .ok (.aload_n 0, 1) := by decide +kernel
theorem zd_L_law_540 : decode I_L_law.2.1 540 = .ok (.iload_n 3, 1) := by decide +kernel
theorem zd_L_law_541 : decode I_L_law.2.1 541 = .ok (.iconst 1, 1) := by decide +kernel
theorem zd_L_law_542 : decode I_L_law.2.1 542 = .ok (.iadd, 1) := by decide +kernel
theorem zd_L_law_543 : decode I_L_law.2.1 543 = .ok (.iaload, 1) := by decide +kernel
theorem zd_L_law_544 : decode I_L_law.2.1 544 = .ok (.invokevirtual 56, 3) := by decide +kernel
theorem zd_L_law_547 : decode I_L_law.2.1 547 = .ok (.aload_n 2, 1) := by decide +kernel
theorem zd_L_law_548 : decode I_L_law.2.1 548 = .ok (.aload_n 0, 1) := by decide +kernel
theorem zd_L_law_549 : decode I_L_law.2.1 549 = .ok (.iload_n 3, 1) := by decide +kernel
theorem zd_L_law_550 : decode I_L_law.2.1 550 = .ok (.iconst 1, 1) := by decide +kernel
theorem zd_L_law_551 : decode I_L_law.2.1 551 = .ok (.iadd, 1) := by decide +kernel
theorem zd_L_law_552 : decode I_L_law.2.1 552 = .ok (.iaload, 1) := by decide +kernel
theorem zd_L_law_553 : decode I_L_law.2.1 553 = .ok (.invokevirtual 60, 3) := by decide +kernel
theorem zd_L_law_556 : decode I_L_law.2.1 556 = .ok (.if_icmp .eq 701, 3) := by decide +kernel
theorem zd_L_law_559 : decode I_L_law.2.1 559 = .ok (.iconst 0, 1) := by decide +kernel
theorem zd_L_law_560 : decode I_L_law.2.1 560 = .ok (.ireturn, 1) := by decide +kernel
theorem zd_L_law_561 : decode I_L_law.2.1 561 = .ok (.aload_n 1, 1) := by decide +kernel
theorem zd_L_law_562 : decode I_L_law.2.1 562 = .ok (.aload_n 0, 1) := by decide +kernel
theorem zd_L_law_563 : decode I_L_law.2.1 563 = .ok (.iload_n 3, 1) := by decide +kernel
theorem zd_L_law_564 : decode I_L_law.2.1 564 = .ok (.iconst 1, 1) := by decide +kernel
theorem zd_L_law_565 : decode I_L_law.2.1 565 = .ok (.iadd, 1) := by decide +kernel
theorem zd_L_law_566 : decode I_L_law.2.1 566 = .ok (.iaload, 1) := by decide +kernel
theorem zd_L_law_567 : decode I_L_law.2.1 567 = .ok (.aload_n 0, 1) := by decide +kernel
theorem zd_L_law_568 : decode I_L_law.2.1 568 = .ok (.iload_n 3, 1) := by decide +kernel
theorem zd_L_law_569 : decode I_L_law.2.1 569 = .ok (.iconst 2, 1) := by decide +kernel
theorem zd_L_law_570 : decode I_L_law.2.1 570 = .ok (.iadd, 1) := by decide +kernel
theorem zd_L_law_571 : decode I_L_law.2.1 571 = .ok (.iaload, 1) := by decide +kernel
theorem zd_L_law_572 : decode I_L_law.2.1 572 = .ok (.invokevirtual 61, 3) := by decide +kernel
theorem zd_L_law_575 : decode I_L_law.2.1 575 = .ok (.aload_n 2, 1) := by decide +kernel
theorem zd_L_law_576 : decode I_L_law.2.1 576 = .ok (.aload_n 0, 1) := by decide +kernel
theorem zd_L_law_577 : decode I_L_law.2.1 577 = .ok (.iload_n 3, 1) := by decide +kernel
theorem zd_L_law_578 : decode I_L_law.2.1 578 = .ok (.iconst 1, 1) := by decide +kernel
theorem zd_L_law_579 : decode I_L_law.2.1 579 = .ok (.iadd, 1) := by decide +kernel
theorem zd_L_law_580 : decode I_L_law.2.1 580 = .ok (.iaload, 1) := by decide +kernel
theorem zd_L_law_581 : decode I_L_law.2.1 581 = .ok (.aload_n 0, 1) := by decide +kernel
theorem zd_L_law_582 : decode I_L_law.2.1 582 = .ok (.iload_n 3, 1) := by decide +kernel
theorem zd_L_law_583 : decode I_L_law.2.1 583 = .ok (.iconst 2, 1) := by decide +kernel
theorem zd_L_law_584 : decode I_L_law.2.1 584 = .ok (.iadd, 1) := by decide +kernel
theorem zd_L_law_585 : decode I_L_law.2.1 585 = .ok (.iaload, 1) := by decide +kernel
theorem zd_L_law_586 : decode I_L_law.2.1 586 = .ok (.invokevirtual 64, 3) := by decide +kernel
theorem zd_L_law_589 : decode I_L_law.2.1 589 = .ok (.if_icmp .eq 668, 3) := by decide +kernel
theorem zd_L_law_592 : decode I_L_law.2.1 592 = .ok (.iconst 0, 1) := by decide +kernel
theorem zd_L_law_593 : decode I_L_law.2.1 593 = .ok (.ireturn, 1) := by decide +kernel
theorem zd_L_law_594 : decode I_L_law.2.1 594 = .ok (.aload_n 1, 1) := by decide +kernel
theorem zd_L_law_595 : decode I_L_law.2.1 595 = .ok (.aload_n 0, 1) := by decide +kernel
theorem zd_L_law_596 : decode I_L_law.2.1 596 = .ok (.iload_n 3, 1) := by decide +kernel
theorem zd_L_law_597 : decode I_L_law.2.1 597 = .ok (.iconst 1, 1) := by decide +kernel
theorem zd_L_law_598 : decode I_L_law.2.1 598 = .ok (.iadd, 1) := by decide +kernel
theorem zd_L_law_599 : decode I_L_law.2.1 599 = .ok (.iaload, 1) := by decide +kernel
theorem zd_L_law_600 : decode I_L_law.2.1 600 = .ok (.aload_n 0, 1) := by decide +kernel
theorem zd_L_law_601 : decode I_L_law.2.1 601 = .ok (.iload_n 3, 1) := by decide +kernel
theorem zd_L_law_602 : decode I_L_law.2.1 602 = .ok (.iconst 2, 1) := by decide +kernel
theorem zd_L_law_603 : decode I_L_law.2.1 603 = .ok (.iadd, 1) := by decide +kernel
theorem zd_L_law_604 : decode I_L_law.2.1 604 = .ok (.iaload, 1) := by decide +kernel
theorem zd_L_law_605 : decode I_L_law.2.1 605 = .ok (.aload_n 0, 1) := by decide +kernel
theorem zd_L_law_606 : decode I_L_law.2.1 606 = .ok (.iload_n 3, 1) := by decide +kernel
theorem zd_L_law_607 : decode I_L_law.2.1 607 = .ok (.iconst 3, 1) := by decide +kernel
theorem zd_L_law_608 : decode I_L_law.2.1 608 = .ok (.iadd, 1) := by decide +kernel
theorem zd_L_law_609 : decode I_L_law.2.1 609 = .ok (.iaload, 1) := by decide +kernel
theorem zd_L_law_610 : decode I_L_law.2.1 610 = .ok (.invokevirtual 65, 3) := by decide +kernel
theorem zd_L_law_613 : decode I_L_law.2.1 613 = .ok (.aload_n 2, 1) := by decide +kernel
theorem zd_L_law_614 : decode I_L_law.2.1 614 = .ok (.aload_n 0, 1) := by decide +kernel
theorem zd_L_law_615 : decode I_L_law.2.1 615 = .ok (.iload_n 3, 1) := by decide +kernel
theorem zd_L_law_616 : decode I_L_law.2.1 616 = .ok (.iconst 1, 1) := by decide +kernel
theorem zd_L_law_617 : decode I_L_law.2.1 617 = .ok (.iadd, 1) := by decide +kernel
theorem zd_L_law_618 : decode I_L_law.2.1 618 = .ok (.iaload, 1) := by decide +kernel
theorem zd_L_law_619 : decode I_L_law.2.1 619 = .ok (.aload_n 0, 1) := by decide +kernel
theorem zd_L_law_620 : decode I_L_law.2.1 620 = .ok (.iload_n 3, 1) := by decide +kernel
theorem zd_L_law_621 : decode I_L_law.2.1 621 = .ok (.iconst 2, 1) := by decide +kernel
theorem zd_L_law_622 : decode I_L_law.2.1 622 = .ok (.iadd, 1) := by decide +kernel
theorem zd_L_law_623 : decode I_L_law.2.1 623 = .ok (.iaload, 1) := by decide +kernel
theorem zd_L_law_624 : decode I_L_law.2.1 624 = .ok (.aload_n 0, 1) := by decide +kernel
theorem zd_L_law_625 : decode I_L_law.2.1 625 = .ok (.iload_n 3, 1) := by decide +kernel
theorem zd_L_law_626 : decode I_L_law.2.1 626 = .ok (.iconst 3, 1) := by decide +kernel
theorem zd_L_law_627 : decode I_L_law.2.1 627 = .ok (.iadd, 1) := by decide +kernel
theorem zd_L_law_628 : decode I_L_law.2.1 628 = .ok (.iaload, 1) := by decide +kernel
theorem zd_L_law_629 : decode I_L_law.2.1 629 = .ok (.invokevirtual 68, 3) := by decide +kernel
theorem zd_L_law_632 : decode I_L_law.2.1 632 = .ok (.if_icmp .eq 625, 3) := by decide +kernel
theorem zd_L_law_635 : decode I_L_law.2.1 635 = .ok (.iconst 0, 1) := by decide +kernel
theorem zd_L_law_636 : decode I_L_law.2.1 636 = .ok (.ireturn, 1) := by decide +kernel
theorem zd_L_law_637 : decode I_L_law.2.1 637 = .ok (.aload_n 1, 1) := by decide +kernel
theorem zd_L_law_638 : decode I_L_law.2.1 638 = .ok (.aload_n 0, 1) := by decide +kernel
theorem zd_L_law_639 : decode I_L_law.2.1 639 = .ok (.iload_n 3, 1) := by decide +kernel
theorem zd_L_law_640 : decode I_L_law.2.1 640 = .ok (.iconst 1, 1) := by decide +kernel
theorem zd_L_law_641 : decode I_L_law.2.1 641 = .ok (.iadd, 1) := by decide +kernel
theorem zd_L_law_642 : decode I_L_law.2.1 642 = .ok (.iaload, 1) := by decide +kernel
theorem zd_L_law_643 : decode I_L_law.2.1 643 = .ok (.aload_n 0, 1) := by decide +kernel
theorem zd_L_law_644 : decode I_L_law.2.1 644 = .ok (.iload_n 3, 1) := by decide +kernel
theorem zd_L_law_645 : decode I_L_law.2.1 645 = .ok (.iconst 2, 1) := by decide +kernel
theorem zd_L_law_646 : decode I_L_law.2.1 646 = .ok (.iadd, 1) := by decide +kernel
theorem zd_L_law_647 : decode I_L_law.2.1 647 = .ok (.iaload, 1) := by decide +kernel
theorem zd_L_law_648 : decode I_L_law.2.1 648 = .ok (.invokevirtual 69, 3) := by decide +kernel
theorem zd_L_law_651 : decode I_L_law.2.1 651 = .ok (.aload_n 2, 1) := by decide +kernel
theorem zd_L_law_652 : decode I_L_law.2.1 652 = .ok (.aload_n 0, 1) := by decide +kernel
theorem zd_L_law_653 : decode I_L_law.2.1 653 = .ok (.iload_n 3, 1) := by decide +kernel
theorem zd_L_law_654 : decode I_L_law.2.1 654 = .ok (.iconst 1, 1) := by decide +kernel
theorem zd_L_law_655 : decode I_L_law.2.1 655 = .ok (.iadd, 1) := by decide +kernel
theorem zd_L_law_656 : decode I_L_law.2.1 656 = .ok (.iaload, 1) := by decide +kernel
theorem zd_L_law_657 : decode I_L_law.2.1 657 = .ok (.aload_n 0, 1) := by decide +kernel
theorem zd_L_law_658 : decode I_L_law.2.1 658 = .ok (.iload_n 3, 1) := by decide +kernel
theorem zd_L_law_659 : decode I_L_law.2.1 659 = .ok (.iconst 2, 1) := by decide +kernel
theorem zd_L_law_660 : decode I_L_law.2.1 660 = .ok (.iadd, 1) := by decide +kernel
theorem zd_L_law_661 : decode I_L_law.2.1 661 = .ok (.iaload, 1) := by decide +kernel
theorem zd_L_law_662 : decode I_L_law.2.1 662 = .ok (.invokevirtual 72, 3) := by decide +kernel
theorem zd_L_law_665 : decode I_L_law.2.1 665 = .ok (.if_icmp .eq 592, 3) := by decide +kernel
theorem zd_L_law_668 : decode I_L_law.2.1 668 = .ok (.iconst 0, 1) := by decide +kernel
theorem zd_L_law_669 : decode I_L_law.2.1 669 = .ok (.ireturn, 1) := by decide +kernel
theorem zd_L_law_670 : decode I_L_law.2.1 670 = .ok (.aload_n 1, 1) := by decide +kernel
theorem zd_L_law_671 : decode I_L_law.2.1 671 = .ok (.aload_n 0, 1) := by decide +kernel
theorem zd_L_law_672 : decode I_L_law.2.1 672 = .ok (.iload_n 3, 1) := by decide +kernel
theorem zd_L_law_673 : decode I_L_law.2.1 673 = .ok (.iconst 1, 1) := by decide +kernel
theorem zd_L_law_674 : decode I_L_law.2.1 674 = .ok (.iadd, 1) := by decide +kernel
theorem zd_L_law_675 : decode I_L_law.2.1 675 = .ok (.iaload, 1) := by decide +kernel
theorem zd_L_law_676 : decode I_L_law.2.1 676 = .ok (.aload_n 0, 1) := by decide +kernel
theorem zd_L_law_677 : decode I_L_law.2.1 677 = .ok (.iload_n 3, 1) := by decide +kernel
theorem zd_L_law_678 : decode I_L_law.2.1 678 = .ok (.iconst 2, 1) := by decide +kernel
theorem zd_L_law_679 : decode I_L_law.2.1 679 = .ok (.iadd, 1) := by decide +kernel
theorem zd_L_law_680 : decode I_L_law.2.1 680 = .ok (.iaload, 1) := by decide +kernel
theorem zd_L_law_681 : decode I_L_law.2.1 681 = .ok (.aload_n 0, 1) := by decide +kernel
theorem zd_L_law_682 : decode I_L_law.2.1 682 = .ok (.iload_n 3, 1) := by decide +kernel
theorem zd_L_law_683 : decode I_L_law.2.1 683 = .ok (.iconst 3, 1) := by decide +kernel
theorem zd_L_law_684 : decode I_L_law.2.1 684 = .ok (.iadd, 1) := by decide +kernel
theorem zd_L_law_685 : decode I_L_law.2.1 685 = .ok (.iaload, 1) := by decide +kernel
theorem zd_L_law_686 : decode I_L_law.2.1 686 = .ok (.invokevirtual 73, 3) := by decide +kernel
theorem zd_L_law_689 : decode I_L_law.2.1 689 = .ok (.aload_n 2, 1) := by decide +kernel
theorem zd_L_law_690 : decode I_L_law.2.1 690 = .ok (.aload_n 0, 1) := by decide +kernel
theorem zd_L_law_691 : decode I_L_law.2.1 691 = .ok (.iload_n 3, 1) := by decide +kernel
theorem zd_L_law_692 : decode I_L_law.2.1 692 = .ok (.iconst 1, 1) := by decide +kernel
theorem zd_L_law_693 : decode I_L_law.2.1 693 = .ok (.iadd, 1) := by decide +kernel
theorem zd_L_law_694 : decode I_L_law.2.1 694 = .ok (.iaload, 1) := by decide +kernel
theorem zd_L_law_695 : decode I_L_law.2.1 695 = .ok (.aload_n 0, 1) := by decide +kernel
theorem zd_L_law_696 : decode I_L_law.2.1 696 = .ok (.iload_n 3, 1) := by decide +kernel
theorem zd_L_law_697 : decode I_L_law.2.1 697 = .ok (.iconst 2, 1) := by decide +kernel
theorem zd_L_law_698 : decode I_L_law.2.1 698 = .ok (.iadd, 1) := by decide +kernel
theorem zd_L_law_699 : decode I_L_law.2.1 699 = .ok (.iaload, 1) := by decide +kernel
theorem zd_L_law_700 : decode I_L_law.2.1 700 = .ok (.aload_n 0, 1) := by decide +kernel
theorem zd_L_law_701 : decode I_L_law.2.1 701 = .ok (.iload_n 3, 1) := by decide +kernel
theorem zd_L_law_702 : decode I_L_law.2.1 702 = .ok (.iconst 3, 1) := by decide +kernel
theorem zd_L_law_703 : decode I_L_law.2.1 703 = .ok (.iadd, 1) := by decide +kernel
theorem zd_L_law_704 : decode I_L_law.2.1 704 = .ok (.iaload, 1) := by decide +kernel
theorem zd_L_law_705 : decode I_L_law.2.1 705 = .ok (.invokevirtual 76, 3) := by decide +kernel
theorem zd_L_law_708 : decode I_L_law.2.1 708 = .ok (.if_icmp .eq 549, 3) := by decide +kernel
theorem zd_L_law_711 : decode I_L_law.2.1 711 = .ok (.iconst 0, 1) := by decide +kernel
theorem zd_L_law_712 : decode I_L_law.2.1 712 = .ok (.ireturn, 1) := by decide +kernel
theorem zd_L_law_713 : decode I_L_law.2.1 713 = .ok (.aload_n 1, 1) := by decide +kernel
theorem zd_L_law_714 : decode I_L_law.2.1 714 = .ok (.aload_n 0, 1) := by decide +kernel
theorem zd_L_law_715 : decode I_L_law.2.1 715 = .ok (.iload_n 3, 1) := by decide +kernel
theorem zd_L_law_716 : decode I_L_law.2.1 716 = .ok (.iconst 1, 1) := by decide +kernel
theorem zd_L_law_717 : decode I_L_law.2.1 717 = .ok (.iadd, 1) := by decide +kernel
theorem zd_L_law_718 : decode I_L_law.2.1 718 = .ok (.iaload, 1) := by decide +kernel
theorem zd_L_law_719 : decode I_L_law.2.1 719 = .ok (.aload_n 0, 1) := by decide +kernel
theorem zd_L_law_720 : decode I_L_law.2.1 720 = .ok (.iload_n 3, 1) := by decide +kernel
theorem zd_L_law_721 : decode I_L_law.2.1 721 = .ok (.iconst 2, 1) := by decide +kernel
theorem zd_L_law_722 : decode I_L_law.2.1 722 = .ok (.iadd, 1) := by decide +kernel
theorem zd_L_law_723 : decode I_L_law.2.1 723 = .ok (.iaload, 1) := by decide +kernel
theorem zd_L_law_724 : decode I_L_law.2.1 724 = .ok (.aload_n 0, 1) := by decide +kernel
theorem zd_L_law_725 : decode I_L_law.2.1 725 = .ok (.iload_n 3, 1) := by decide +kernel
theorem zd_L_law_726 : decode I_L_law.2.1 726 = .ok (.iconst 3, 1) := by decide +kernel
theorem zd_L_law_727 : decode I_L_law.2.1 727 = .ok (.iadd, 1) := by decide +kernel
theorem zd_L_law_728 : decode I_L_law.2.1 728 = .ok (.iaload, 1) := by decide +kernel
theorem zd_L_law_729 : decode I_L_law.2.1 729 = .ok (.invokevirtual 77, 3) := by decide +kernel
theorem zd_L_law_732 : decode I_L_law.2.1 732 = .ok (.aload_n 2, 1) := by decide +kernel
theorem zd_L_law_733 : decode I_L_law.2.1 733 = .ok (.aload_n 0, 1) := by decide +kernel
theorem zd_L_law_734 : decode I_L_law.2.1 734 = .ok (.iload_n 3, 1) := by decide +kernel
theorem zd_L_law_735 : decode I_L_law.2.1 735 = .ok (.iconst 1, 1) := by decide +kernel
theorem zd_L_law_736 : decode I_L_law.2.1 736 = .ok (.iadd, 1) := by decide +kernel
theorem zd_L_law_737 : decode I_L_law.2.1 737 = .ok (.iaload, 1) := by decide +kernel
theorem zd_L_law_738 : decode I_L_law.2.1 738 = .ok (.aload_n 0, 1) := by decide +kernel
theorem zd_L_law_739 : decode I_L_law.2.1 739 = .ok (.iload_n 3, 1) := by decide +kernel
theorem zd_L_law_740 : decode I_L_law.2.1 740 = .ok (.iconst 2, 1) := by decide +kernel
theorem zd_L_law_741 : decode I_L_law.2.1 741 = .ok (.iadd, 1) := by decide +kernel
theorem zd_L_law_742 : decode I_L_law.2.1 742 = .ok (.iaload, 1) := by decide +kernel
theorem zd_L_law_743 : decode I_L_law.2.1 743 = .ok (.aload_n 0, 1) := by decide +kernel
theorem zd_L_law_744 : decode I_L_law.2.1 744 = .ok (.iload_n 3, 1) := by decide +kernel
theorem zd_L_law_745 : decode I_L_law.2.1 745 = .ok (.iconst 3, 1) := by decide +kernel
theorem zd_L_law_746 : decode I_L_law.2.1 746 = .ok (.iadd, 1) := by decide +kernel
theorem zd_L_law_747 : decode I_L_law.2.1 747 = .ok (.iaload, 1) := by decide +kernel
theorem zd_L_law_748 : decode I_L_law.2.1 748 = .ok (.invokevirtual 80, 3) := by decide +kernel
theorem zd_L_law_751 : decode I_L_law.2.1 751 = .ok (.if_icmp .eq 506, 3) := by decide +kernel
theorem zd_L_law_754 : decode I_L_law.2.1 754 = .ok (.iconst 0, 1) := by decide +kernel
theorem zd_L_law_755 : decode I_L_law.2.1 755 = .ok (.ireturn, 1) := by decide +kernel
theorem zd_L_law_756 : decode I_L_law.2.1 756 = .ok (.aload_n 1, 1) := by decide +kernel
theorem zd_L_law_757 : decode I_L_law.2.1 757 = .ok (.aload_n 0, 1) := by decide +kernel
theorem zd_L_law_758 : decode I_L_law.2.1 758 = .ok (.iload_n 3, 1) := by decide +kernel
theorem zd_L_law_759 : decode I_L_law.2.1 759 = .ok (.iconst 1, 1) := by decide +kernel
theorem zd_L_law_760 : decode I_L_law.2.1 760 = .ok (.iadd, 1) := by decide +kernel
theorem zd_L_law_761 : decode I_L_law.2.1 761 = .ok (.iaload, 1) := by decide +kernel
theorem zd_L_law_762 : decode I_L_law.2.1 762 = .ok (.invokevirtual 81, 3) := by decide +kernel
theorem zd_L_law_765 : decode I_L_law.2.1 765 = .ok (.aload_n 2, 1) := by decide +kernel
theorem zd_L_law_766 : decode I_L_law.2.1 766 = .ok (.aload_n 0, 1) := by decide +kernel
theorem zd_L_law_767 : decode I_L_law.2.1 767 = .ok (.iload_n 3, 1) := by decide +kernel
theorem zd_L_law_768 : decode I_L_law.2.1 768 = .ok (.iconst 1, 1) := by decide +kernel
theorem zd_L_law_769 : decode I_L_law.2.1 769 = .ok (.iadd, 1) := by decide +kernel
theorem zd_L_law_770 : decode I_L_law.2.1 770 = .ok (.iaload, 1) := by decide +kernel
theorem zd_L_law_771 : decode I_L_law.2.1 771 = .ok (.invokevirtual 84, 3) := by decide +kernel
theorem zd_L_law_774 : decode I_L_law.2.1 774 = .ok (.if_icmp .eq 483, 3) := by decide +kernel
theorem zd_L_law_777 : decode I_L_law.2.1 777 = .ok (.iconst 0, 1) := by decide +kernel
theorem zd_L_law_778 : decode I_L_law.2.1 778 = .ok (.ireturn, 1) := by decide +kernel
theorem zd_L_law_779 : decode I_L_law.2.1 779 = .ok (.aload_n 1, 1) := by decide +kernel
theorem zd_L_law_780 : decode I_L_law.2.1 780 = .ok (.aload_n 0, 1) := by decide +kernel
theorem zd_L_law_781 : decode I_L_law.2.1 781 = .ok (.iload_n 3, 1) := by decide +kernel
theorem zd_L_law_782 : decode I_L_law.2.1 782 = .ok (.iconst 1, 1) := by decide +kernel
theorem zd_L_law_783 : decode I_L_law.2.1 783 = .ok (.iadd, 1) := by decide +kernel
theorem zd_L_law_784 : decode I_L_law.2.1 784 = .ok (.iaload, 1) := by decide +kernel
theorem zd_L_law_785 : decode I_L_law.2.1 785 = .ok (.aload_n 0, 1) := by decide +kernel
theorem zd_L_law_786 : decode I_L_law.2.1 786 = .ok (.iload_n 3, 1) := by decide +kernel
theorem zd_L_law_787 : decode I_L_law.2.1 787 = .ok (.iconst 2, 1) := by decide +kernel
theorem zd_L_law_788 : decode I_L_law.2.1 788 = .ok (.iadd, 1) := by decide +kernel
theorem zd_L_law_789 : decode I_L_law.2.1 789 = .ok (.iaload, 1) := by decide +kernel
theorem zd_L_law_790 : decode I_L_law.2.1 790 = .ok (.aload_n 0, 1) := by decide +kernel
theorem zd_L_law_791 : decode I_L_law.2.1 791 = .ok (.iload_n 3, 1) := by decide +kernel
theorem zd_L_law_792 : decode I_L_law.2.1 792 = .ok (.iconst 3, 1) := by decide +kernel
theorem zd_L_law_793 : decode I_L_law.2.1 793 = .ok (.iadd, 1) := by decide +kernel
theorem zd_L_law_794 : decode I_L_law.2.1 794 = .ok (.iaload, 1) := by decide +kernel
theorem zd_L_law_795 : decode I_L_law.2.1 795 = .ok (.invokevirtual 85, 3) := by decide +kernel
theorem zd_L_law_798 : decode I_L_law.2.1 798 = .ok (.aload_n 2, 1) := by decide +kernel
theorem zd_L_law_799 : decode I_L_law.2.1 799 = .ok (.aload_n 0, 1) := by decide +kernel
theorem zd_L_law_800 : decode I_L_law.2.1 800 = .ok (.iload_n 3, 1) := by decide +kernel
theorem zd_L_law_801 : decode I_L_law.2.1 801 = .ok (.iconst 1, 1) := by decide +kernel
theorem zd_L_law_802 : decode I_L_law.2.1 802 = .ok (.iadd, 1) := by decide +kernel
theorem zd_L_law_803 : decode I_L_law.2.1 803 = .ok (.iaload, 1) := by decide +kernel
theorem zd_L_law_804 : decode I_L_law.2.1 804 = .ok (.aload_n 0, 1) := by decide +kernel
theorem zd_L_law_805 : decode I_L_law.2.1 805 = .ok (.iload_n 3, 1) := by decide +kernel
theorem zd_L_law_806 : decode I_L_law.2.1 806 = .ok (.iconst 2, 1) := by decide +kernel
theorem zd_L_law_807 : decode I_L_law.2.1 807 = .ok (.iadd, 1) := by decide +kernel
theorem zd_L_law_808 : decode I_L_law.2.1 808 = .ok (.iaload, 1) := by decide +kernel
theorem zd_L_law_809 : decode I_L_law.2.1 809 = .ok (.aload_n 0, 1) := by decide +kernel
theorem zd_L_law_810 : decode I_L_law.2.1 810 = .ok (.iload_n 3, 1) := by decide +kernel
theorem zd_L_law_811 : decode I_L_law.2.1 811 = .ok (.iconst 3, 1) := by decide +kernel
theorem zd_L_law_812 : decode I_L_law.2.1 812 = .ok (.iadd, 1) := by decide +kernel
theorem zd_L_law_813 : decode I_L_law.2.1 813 = .ok (.iaload, 1) := by decide +kernel
theorem zd_L_law_814 : decode I_L_law.2.1 814 = .ok (.invokevirtual 88, 3) := by decide +kernel
theorem zd_L_law_817 : decode I_L_law.2.1 817 = .ok (.if_icmp .eq 440, 3) := by decide +kernel
theorem zd_L_law_820 : decode I_L_law.2.1 820 = .ok (.iconst 0, 1) := by decide +kernel
theorem zd_L_law_821 : decode I_L_law.2.1 821 = .ok (.ireturn, 1) := by decide +kernel
theorem zd_L_law_822 : decode I_L_law.2.1 822 = .ok (.aload_n 1, 1) := by decide +kernel
theorem zd_L_law_823 : decode I_L_law.2.1 823 = .ok (.aload_n 0, 1) := by decide +kernel
theorem zd_L_law_824 : decode I_L_law.2.1 824 = .ok (.iload_n 3, 1) := by decide +kernel
theorem zd_L_law_825 : decode I_L_law.2.1 825 = .ok (.iconst 1, 1) := by decide +kernel
theorem zd_L_law_826 : decode I_L_law.2.1 826 = .ok (.iadd, 1) := by decide +kernel
theorem zd_L_law_827 : decode I_L_law.2.1 827 = .ok (.iaload, 1) := by decide +kernel
theorem zd_L_law_828 : decode I_L_law.2.1 828 = .ok (.aload_n 0, 1) := by decide +kernel
theorem zd_L_law_829 : decode I_L_law.2.1 829 = .ok (.iload_n 3, 1) := by decide +kernel
theorem zd_L_law_830 : decode I_L_law.2.1 830 = .ok (.iconst 2, 1) := by decide +kernel
theorem zd_L_law_831 : decode I_L_law.2.1 831 = .ok (.iadd, 1) := by decide +kernel
theorem zd_L_law_832 : decode I_L_law.2.1 832 = .ok (.iaload, 1) := by decide +kernel
theorem zd_L_law_833 : decode I_L_law.2.1 833 = .ok (.aload_n 0, 1) := by decide +kernel
theorem zd_L_law_834 : decode I_L_law.2.1 834 = .ok (.iload_n 3, 1) := by decide +kernel
theorem zd_L_law_835 : decode I_L_law.2.1 835 = .ok (.iconst 3, 1) := by decide +kernel
theorem zd_L_law_836 : decode I_L_law.2.1 836 = .ok (.iadd, 1) := by decide +kernel
theorem zd_L_law_837 : decode I_L_law.2.1 837 = .ok (.iaload, 1) := by decide +kernel
theorem zd_L_law_838 : decode I_L_law.2.1 838 = .ok (.aload_n 0, 1) := by decide +kernel
theorem zd_L_law_839 : decode I_L_law.2.1 839 = .ok (.iload_n 3, 1) := by decide +kernel
theorem zd_L_law_840 : decode I_L_law.2.1 840 = .ok (.iconst 4, 1) := by decide +kernel
theorem zd_L_law_841 : decode I_L_law.2.1 841 = .ok (.iadd, 1) := by decide +kernel
theorem zd_L_law_842 : decode I_L_law.2.1 842 = .ok (.iaload, 1) := by decide +kernel
theorem zd_L_law_843 : decode I_L_law.2.1 843 = .ok (.ifCond .eq 7, 3) := by decide +kernel
theorem zd_L_law_846 : decode I_L_law.2.1 846 = .ok (.iconst 1, 1) := by decide +kernel
theorem zd_L_law_847 : decode I_L_law.2.1 847 = .ok (.goto 4, 3) := by decide +kernel
theorem zd_L_law_850 : decode I_L_law.2.1 850 = .ok (.iconst 0, 1) := by decide +kernel
theorem zd_L_law_851 : decode I_L_law.2.1 851 = .ok (.invokevirtual 89, 3) := by decide +kernel
theorem zd_L_law_854 : decode I_L_law.2.1 854 = .ok (.aload_n 2, 1) := by decide +kernel
theorem zd_L_law_855 : decode I_L_law.2.1 855 = .ok (.aload_n 0, 1) := by decide +kernel
theorem zd_L_law_856 : decode I_L_law.2.1 856 = .ok (.iload_n 3, 1) := by decide +kernel
theorem zd_L_law_857 : decode I_L_law.2.1 857 = .ok (.iconst 1, 1) := by decide +kernel
theorem zd_L_law_858 : decode I_L_law.2.1 858 = .ok (.iadd, 1) := by decide +kernel
theorem zd_L_law_859 : decode I_L_law.2.1 859 = .ok (.iaload, 1) := by decide +kernel
theorem zd_L_law_860 : decode I_L_law.2.1 860 = .ok (.aload_n 0, 1) := by decide +kernel
theorem zd_L_law_861 : decode I_L_law.2.1 861 = .ok (.iload_n 3, 1) := by decide +kernel
theorem zd_L_law_862 : decode I_L_law.2.1 862 = .ok (.iconst 2, 1) := by decide +kernel
theorem zd_L_law_863 : decode I_L_law.2.1 863 = .ok (.iadd, 1) := by decide +kernel
theorem zd_L_law_864 : decode I_L_law.2.1 864 = .ok (.iaload, 1) := by decide +kernel
theorem zd_L_law_865 : decode I_L_law.2.1 865 = .ok (.aload_n 0, 1) := by decide +kernel
theorem zd_L_law_866 : decode I_L_law.2.1 866 = .ok (.iload_n 3, 1) := by decide +kernel
theorem zd_L_law_867 : decode I_L_law.2.1 867 = .ok (.iconst 3, 1) := by decide +kernel
theorem zd_L_law_868 : decode I_L_law.2.1 868 = .ok (.iadd, 1) := by decide +kernel
theorem zd_L_law_869 : decode I_L_law.2.1 869 = .ok (.iaload, 1) := by decide +kernel
theorem zd_L_law_870 : decode I_L_law.2.1 870 = .ok (.aload_n 0, 1) := by decide +kernel
theorem zd_L_law_871 : decode I_L_law.2.1 871 = .ok (.iload_n 3, 1) := by decide +kernel
theorem zd_L_law_872 : decode I_L_law.2.1 872 = .ok (.iconst 4, 1) := by decide +kernel
theorem zd_L_law_873 : decode I_L_law.2.1 873 = .ok (.iadd, 1) := by decide +kernel
theorem zd_L_law_874 : decode I_L_law.2.1 874 = .ok (.iaload, 1) := by decide +kernel
theorem zd_L_law_875 : decode I_L_law.2.1 875 = .ok (.ifCond .eq 7, 3) := by decide +kernel
theorem zd_L_law_878 : decode I_L_law.2.1 878 = .ok (.iconst 1, 1) := by decide +kernel
theorem zd_L_law_879 : decode I_L_law.2.1 879 = .ok (.goto 4, 3) := by decide +kernel
theorem zd_L_law_882 : decode I_L_law.2.1 882 = .ok (.iconst 0, 1) := by decide +kernel
theorem zd_L_law_883 : decode I_L_law.2.1 883 = .ok (.invokevirtual 93, 3) := by decide +kernel
theorem zd_L_law_886 : decode I_L_law.2.1 886 = .ok (.if_icmp .eq 371, 3) := by decide +kernel
theorem zd_L_law_889 : decode I_L_law.2.1 889 = .ok (.iconst 0, 1) := by decide +kernel
theorem zd_L_law_890 : decode I_L_law.2.1 890 = .ok (.ireturn, 1) := by decide +kernel
theorem zd_L_law_891 : decode I_L_law.2.1 891 = .ok (.aload_n 1, 1) := by decide +kernel
theorem zd_L_law_892 : decode I_L_law.2.1 892 = .ok (.aload_n 0, 1) := by decide +kernel
theorem zd_L_law_893 : decode I_L_law.2.1 893 = .ok (.iload_n 3, 1) := by decide +kernel
theorem zd_L_law_894 : decode I_L_law.2.1 894 = .ok (.iconst 1, 1) := by decide +kernel
theorem zd_L_law_895 : decode I_L_law.2.1 895 = .ok (.iadd, 1) := by decide +kernel
theorem zd_L_law_896 : decode I_L_law.2.1 896 = .ok (.iaload, 1) := by decide +kernel
theorem zd_L_law_897 : decode I_L_law.2.1 897 = .ok (.aload_n 0, 1) := by decide +kernel
theorem zd_L_law_898 : decode I_L_law.2.1 898 = .ok (.iload_n 3, 1) := by decide +kernel
theorem zd_L_law_899 : decode I_L_law.2.1 899 = .ok (.iconst 2, 1) := by decide +kernel
theorem zd_L_law_900 : decode I_L_law.2.1 900 = .ok (.iadd, 1) := by decide +kernel
theorem zd_L_law_901 : decode I_L_law.2.1 901 = .ok (.iaload, 1) := by decide +kernel
theorem zd_L_law_902 : decode I_L_law.2.1 902 = .ok (.invokevirtual 94, 3) := by decide +kernel
theorem zd_L_law_905 : decode I_L_law.2.1 905 = .ok (.aload_n 2, 1) := by decide +kernel
theorem zd_L_law_906 : decode I_L_law.2.1 906 = .ok (.aload_n 0, 1) := by decide +kernel
theorem zd_L_law_907 : decode I_L_law.2.1 907 = .ok (.iload_n 3, 1) := by decide +kernel
theorem zd_L_law_908 : decode I_L_law.2.1 908 = .ok (.iconst 1, 1) := by decide +kernel
theorem zd_L_law_909 : decode I_L_law.2.1 909 = .ok (.iadd, 1) := by decide +kernel
theorem zd_L_law_910 : decode I_L_law.2.1 910 = .ok (.iaload, 1) := by decide +kernel
theorem zd_L_law_911 : decode I_L_law.2.1 911 = .ok (.aload_n 0, 1) := by decide +kernel
theorem zd_L_law_912 : decode I_L_law.2.1 912 = .ok (.iload_n 3, 1) := by decide +kernel
theorem zd_L_law_913 : decode I_L_law.2.1 913 = .ok (.iconst 2, 1) := by decide +kernel
theorem zd_L_law_914 : decode I_L_law.2.1 914 = .ok (.iadd, 1) := by decide +kernel
theorem zd_L_law_915 : decode I_L_law.2.1 915 = .ok (.iaload, 1) := by decide +kernel
theorem zd_L_law_916 : decode I_L_law.2.1 916 = .ok (.invokevirtual 97, 3) := by decide +kernel
theorem zd_L_law_919 : decode I_L_law.2.1 919 = .ok (.if_icmp .eq 338, 3) := by decide +kernel
theorem zd_L_law_922 : decode I_L_law.2.1 922 = .ok (.iconst 0, 1) := by decide +kernel
theorem zd_L_law_923 : decode I_L_law.2.1 923 = .ok (.ireturn, 1) := by decide +kernel
theorem zd_L_law_924 : decode I_L_law.2.1 924 = .ok (.aload_n 1, 1) := by decide +kernel
theorem zd_L_law_925 : decode I_L_law.2.1 925 = .ok (.aload_n 0, 1) := by decide +kernel
theorem zd_L_law_926 : decode I_L_law.2.1 926 = .ok (.iload_n 3, 1) := by decide +kernel
theorem zd_L_law_927 : decode I_L_law.2.1 927 = .ok (.iconst 1, 1) := by decide +kernel
theorem zd_L_law_928 : decode I_L_law.2.1 928 = .ok (.iadd, 1) := by decide +kernel
theorem zd_L_law_929 : decode I_L_law.2.1 929 = .ok (.iaload, 1) := by decide +kernel
theorem zd_L_law_930 : decode I_L_law.2.1 930 = .ok (.invokevirtual 98, 3) := by decide +kernel
theorem zd_L_law_933 : decode I_L_law.2.1 933 = .ok (.aload_n 2, 1) := by decide +kernel
theorem zd_L_law_934 : decode I_L_law.2.1 934 = .ok (.aload_n 0, 1) := by decide +kernel
theorem zd_L_law_935 : decode I_L_law.2.1 935 = .ok (.iload_n 3, 1) := by decide +kernel
theorem zd_L_law_936 : decode I_L_law.2.1 936 = .ok (.iconst 1, 1) := by decide +kernel
theorem zd_L_law_937 : decode I_L_law.2.1 937 = .ok (.iadd, 1) := by decide +kernel
theorem zd_L_law_938 : decode I_L_law.2.1 938 = .ok (.iaload, 1) := by decide +kernel
theorem zd_L_law_939 : decode I_L_law.2.1 939 = .ok (.invokevirtual 101, 3) := by decide +kernel
theorem zd_L_law_942 : decode I_L_law.2.1 942 = .ok (.if_icmp .eq 315, 3) := by decide +kernel
theorem zd_L_law_945 : decode I_L_law.2.1 945 = .ok (.iconst 0, 1) := by decide +kernel
theorem zd_L_law_946 : decode I_L_law.2.1 946 = .ok (.ireturn, 1) := by decide +kernel
theorem zd_L_law_947 : decode I_L_law.2.1 947 = .ok (.aload_n 1, 1) := by decide +kernel
theorem zd_L_law_948 : decode I_L_law.2.1 948 = .ok (.aload_n 0, 1) := by decide +kernel
theorem zd_L_law_949 : decode I_L_law.2.1 949 = .ok (.iload_n 3, 1) := by decide +kernel
theorem zd_L_law_950 : decode I_L_law.2.1 950 = .ok (.iconst 1, 1) := by decide +kernel
theorem zd_L_law_951 : decode I_L_law.2.1 951 = .ok (.iadd, 1) := by decide +kernel
theorem zd_L_law_952 : decode I_L_law.2.1 952 = .ok (.iaload, 1) := by decide +kernel
theorem zd_L_law_953 : decode I_L_law.2.1 953 = .ok (.invokevirtual 102, 3) := by decide +kernel
theorem zd_L_law_956 : decode I_L_law.2.1 956 = .ok (.aload_n 2, 1) := by decide +kernel
theorem zd_L_law_957 : decode I_L_law.2.1 957 = .ok (.aload_n 0, 1) := by decide +kernel
theorem zd_L_law_958 : decode I_L_law.2.1 958 = .ok (.iload_n 3, 1) := by decide +kernel
theorem zd_L_law_959 : decode I_L_law.2.1 959 = .ok (.iconst 1, 1) := by decide +kernel
theorem zd_L_law_960 : decode I_L_law.2.1 960 = .ok (.iadd, 1) := by decide +kernel
theorem zd_L_law_961 : decode I_L_law.2.1 961 = .ok (.iaload, 1) := by decide +kernel
theorem zd_L_law_962 : decode I_L_law.2.1 962 = .ok (.invokevirtual 105, 3) := by decide +kernel
theorem zd_L_law_965 : decode I_L_law.2.1 965 = .ok (.if_icmp .eq 292, 3) := by decide +kernel
theorem zd_L_law_968 : decode I_L_law.2.1 968 = .ok (.iconst 0, 1) := by decide +kernel
theorem zd_L_law_969 : decode I_L_law.2.1 969 = .ok (.ireturn, 1) := by decide +kernel
theorem zd_L_law_970 : decode I_L_law.2.1 970 = .ok (.aload_n 1, 1) := by decide +kernel
theorem zd_L_law_971 : decode I_L_law.2.1 971 = .ok (.aload_n 0, 1) := by decide +kernel
theorem zd_L_law_972 : decode I_L_law.2.1 972 = .ok (.iload_n 3, 1) := by decide +kernel
theorem zd_L_law_973 : decode I_L_law.2.1 973 = .ok (.iconst 1, 1) := by decide +kernel
theorem zd_L_law_974 : decode I_L_law.2.1 974 = .ok (.iadd, 1) := by decide +kernel
theorem zd_L_law_975 : decode I_L_law.2.1 975 = .ok (.iaload, 1) := by decide +kernel
theorem zd_L_law_976 : decode I_L_law.2.1 976 = .ok (.invokevirtual 106, 3) := by decide +kernel
theorem zd_L_law_979 : decode I_L_law.2.1 979 = .ok (.aload_n 2, 1) := by decide +kernel
theorem zd_L_law_980 : decode I_L_law.2.1 980 = .ok (.aload_n 0, 1) := by decide +kernel
theorem zd_L_law_981 : decode I_L_law.2.1 981 = .ok (.iload_n 3, 1) := by decide +kernel
theorem zd_L_law_982 : decode I_L_law.2.1 982 = .ok (.iconst 1, 1) := by decide +kernel
theorem zd_L_law_983 : decode I_L_law.2.1 983 = .ok (.iadd, 1) := by decide +kernel
theorem zd_L_law_984 : decode I_L_law.2.1 984 = .ok (.iaload, 1) := by decide +kernel
theorem zd_L_law_985 : decode I_L_law.2.1 985 = .ok (.invokevirtual 109, 3) := by decide +kernel
theorem zd_L_law_988 : decode I_L_law.2.1 988 = .ok (.if_icmp .eq 269, 3) := by decide +kernel
theorem zd_L_law_991 : decode I_L_law.2.1 991 = .ok (.iconst 0, 1) := by decide +kernel
theorem zd_L_law_992 : decode I_L_law.2.1 992 = .ok (.ireturn, 1) := by decide +kernel
theorem zd_L_law_993 : decode I_L_law.2.1 993 = .ok (.aload_n 1, 1) := by decide +kernel
theorem zd_L_law_994 : decode I_L_law.2.1 994 = .ok (.aload_n 0, 1) := by decide +kernel
theorem zd_L_law_995 : decode I_L_law.2.1 995 = .ok (.iload_n 3, 1) := by decide +kernel
theorem zd_L_law_996 : decode I_L_law.2.1 996 = .ok (.iconst 1, 1) := by decide +kernel
theorem zd_L_law_997 : decode I_L_law.2.1 997 = .ok (.iadd, 1) := by decide +kernel
theorem zd_L_law_998 : decode I_L_law.2.1 998 = .ok (.iaload, 1) := by decide +kernel
theorem zd_L_law_999 : decode I_L_law.2.1 999 = .ok (.aload_n 0, 1) := by decide +kernel
theorem zd_L_law_1000 : decode I_L_law.2.1 1000 = .ok (.iload_n 3, 1) := by decide +kernel
theorem zd_L_law_1001 : decode I_L_law.2.1 1001 = .ok (.iconst 2, 1) := by decide +kernel
theorem zd_L_law_1002 : decode I_L_law.2.1 1002 = .ok (.iadd, 1) := by decide +kernel
theorem zd_L_law_1003 : decode I_L_law.2.1 1003 = .ok (.iaload, 1) := by decide +kernel
theorem zd_L_law_1004 : decode I_L_law.2.1 1004 = .ok (.invokevirtual 110, 3) := by decide +kernel
theorem zd_L_law_1007 : decode I_L_law.2.1 1007 = .ok (.aload_n 2, 1) := by decide +kernel
theorem zd_L_law_1008 : decode I_L_law.2.1 1008 = .ok (.aload_n 0, 1) := by decide +kernel
theorem zd_L_law_1009 : decode I_L_law.2.1 1009 = .ok (.iload_n 3, 1) := by decide +kernel
theorem zd_L_law_1010 : decode I_L_law.2.1 1010 = .ok (.iconst 1, 1) := by decide +kernel
theorem zd_L_law_1011 : decode I_L_law.2.1 1011 = .ok (.iadd, 1) := by decide +kernel
theorem zd_L_law_1012 : decode I_L_law.2.1 1012 = .ok (.iaload, 1) := by decide +kernel
theorem zd_L_law_1013 : decode I_L_law.2.1 1013 = .ok (.aload_n 0, 1) := by decide +kernel
theorem zd_L_law_1014 : decode I_L_law.2.1 1014 = .ok (.iload_n 3, 1) := by decide +kernel
theorem zd_L_law_1015 : decode I_L_law.2.1 1015 = .ok (.iconst 2, 1) := by decide +kernel
theorem zd_L_law_1016 : decode I_L_law.2.1 1016 = .ok (.iadd, 1) := by decide +kernel
theorem zd_L_law_1017 : decode I_L_law.2.1 1017 = .ok (.iaload, 1) := by decide +kernel
theorem zd_L_law_1018 : decode I_L_law.2.1 1018 = .ok (.invokevirtual 113, 3) := by decide +kernel
theorem zd_L_law_1021 : decode I_L_law.2.1 1021 = .ok (.if_icmp .eq 236, 3) := by decide +kernel
theorem zd_L_law_1024 : decode I_L_law.2.1 1024 = .ok (.iconst 0, 1) := by decide +kernel
theorem zd_L_law_1025 : decode I_L_law.2.1 1025 = .ok (.ireturn, 1) := by decide +kernel
theorem zd_L_law_1026 : decode I_L_law.2.1 1026 = .ok (.aload_n 1, 1) := by decide +kernel
theorem zd_L_law_1027 : decode I_L_law.2.1 1027 = .ok (.aload_n 0, 1) := by decide +kernel
theorem zd_L_law_1028 : decode I_L_law.2.1 1028 = .ok (.iload_n 3, 1) := by decide +kernel
theorem zd_L_law_1029 : decode I_L_law.2.1 1029 = .ok (.iconst 1, 1) := by decide +kernel
theorem zd_L_law_1030 : decode I_L_law.2.1 1030 = .ok (.iadd, 1) := by decide +kernel
theorem zd_L_law_1031 : decode I_L_law.2.1 1031 = .ok (.iaload, 1) := by decide +kernel
theorem zd_L_law_1032 : decode I_L_law.2.1 1032 = .ok (.aload_n 0, 1) := by decide +kernel
theorem zd_L_law_1033 : decode I_L_law.2.1 1033 = .ok (.iload_n 3, 1) := by decide +kernel
theorem zd_L_law_1034 : decode I_L_law.2.1 1034 = .ok (.iconst 2, 1) := by decide +kernel
theorem zd_L_law_1035 : decode I_L_law.2.1 1035 = .ok (.iadd, 1) := by decide +kernel
theorem zd_L_law_1036 : decode I_L_law.2.1 1036 = .ok (.iaload, 1) := by decide +kernel
theorem zd_L_law_1037 : decode I_L_law.2.1 1037 = .ok (.invokevirtual 114, 3) := by decide +kernel
theorem zd_L_law_1040 : decode I_L_law.2.1 1040 = .ok (.aload_n 2, 1) := by decide +kernel
theorem zd_L_law_1041 : decode I_L_law.2.1 1041 = .ok (.aload_n 0, 1) := by decide +kernel
theorem zd_L_law_1042 : decode I_L_law.2.1 1042 = .ok (.iload_n 3, 1) := by decide +kernel
theorem zd_L_law_1043 : decode I_L_law.2.1 1043 = .ok (.iconst 1, 1) := by decide +kernel
theorem zd_L_law_1044 : decode I_L_law.2.1 1044 = .ok (.iadd, 1) := by decide +kernel
theorem zd_L_law_1045 : decode I_L_law.2.1 1045 = .ok (.iaload, 1) := by decide +kernel
theorem zd_L_law_1046 : decode I_L_law.2.1 1046 = .ok (.aload_n 0, 1) := by decide +kernel
theorem zd_L_law_1047 : decode I_L_law.2.1 1047 = .ok (.iload_n 3, 1) := by decide +kernel
theorem zd_L_law_1048 : decode I_L_law.2.1 1048 = .ok (.iconst 2, 1) := by decide +kernel
theorem zd_L_law_1049 : decode I_L_law.2.1 1049 = .ok (.iadd, 1) := by decide +kernel
theorem zd_L_law_1050 : decode I_L_law.2.1 1050 = .ok (.iaload, 1) := by decide +kernel
theorem zd_L_law_1051 : decode I_L_law.2.1 1051 = .ok (.invokevirtual 117, 3) := by decide +kernel
theorem zd_L_law_1054 : decode I_L_law.2.1 1054 = .ok (.if_icmp .eq 203, 3) := by decide +kernel
theorem zd_L_law_1057 : decode I_L_law.2.1 1057 = .ok (.iconst 0, 1) := by decide +kernel
theorem zd_L_law_1058 : decode I_L_law.2.1 1058 = .ok (.ireturn, 1) := by decide +kernel
theorem zd_L_law_1059 : decode I_L_law.2.1 1059 = .ok (.aload_n 1, 1) := by decide +kernel
theorem zd_L_law_1060 : decode I_L_law.2.1 1060 = .ok (.aload_n 0, 1) := by decide +kernel
theorem zd_L_law_1061 : decode I_L_law.2.1 1061 = .ok (.iload_n 3, 1) := by decide +kernel
theorem zd_L_law_1062 : decode I_L_law.2.1 1062 = .ok (.iconst 1, 1) := by decide +kernel
theorem zd_L_law_1063 : decode I_L_law.2.1 1063 = .ok (.iadd, 1) := by decide +kernel
theorem zd_L_law_1064 : decode I_L_law.2.1 1064 = .ok (.iaload, 1) := by decide +kernel
theorem zd_L_law_1065 : decode I_L_law.2.1 1065 = .ok (.aload_n 0, 1) := by decide +kernel
theorem zd_L_law_1066 : decode I_L_law.2.1 1066 = .ok (.iload_n 3, 1) := by decide +kernel
theorem zd_L_law_1067 : decode I_L_law.2.1 1067 = .ok (.iconst 2, 1) := by decide +kernel
theorem zd_L_law_1068 : decode I_L_law.2.1 1068 = .ok (.iadd, 1) := by decide +kernel
theorem zd_L_law_1069 : decode I_L_law.2.1 1069 = .ok (.iaload, 1) := by decide +kernel
theorem zd_L_law_1070 : decode I_L_law.2.1 1070 = .ok (.invokevirtual 118, 3) := by decide +kernel
theorem zd_L_law_1073 : decode I_L_law.2.1 1073 = .ok (.aload_n 2, 1) := by decide +kernel
theorem zd_L_law_1074 : decode I_L_law.2.1 1074 = .ok (.aload_n 0, 1) := by decide +kernel
theorem zd_L_law_1075 : decode I_L_law.2.1 1075 = .ok (.iload_n 3, 1) := by decide +kernel
theorem zd_L_law_1076 : decode I_L_law.2.1 1076 = .ok (.iconst 1, 1) := by decide +kernel
theorem zd_L_law_1077 : decode I_L_law.2.1 1077 = .ok (.iadd, 1) := by decide +kernel
theorem zd_L_law_1078 : decode I_L_law.2.1 1078 = .ok (.iaload, 1) := by decide +kernel
theorem zd_L_law_1079 : decode I_L_law.2.1 1079 = .ok (.aload_n 0, 1) := by decide +kernel
theorem zd_L_law_1080 : decode I_L_law.2.1 1080 = .ok (.iload_n 3, 1) := by decide +kernel
theorem zd_L_law_1081 : decode I_L_law.2.1 1081 = .ok (.iconst 2, 1) := by decide +kernel
theorem zd_L_law_1082 : decode I_L_law.2.1 1082 = .ok (.iadd, 1) := by decide +kernel
theorem zd_L_law_1083 : decode I_L_law.2.1 1083 = .ok (.iaload, 1) := by decide +kernel
theorem zd_L_law_1084 : decode I_L_law.2.1 1084 = .ok (.invokevirtual 121, 3) := by decide +kernel
theorem zd_L_law_1087 : decode I_L_law.2.1 1087 = .ok (.if_icmp .eq 170, 3) := by decide +kernel
theorem zd_L_law_1090 : decode I_L_law.2.1 1090 = .ok (.iconst 0, 1) := by decide +kernel
theorem zd_L_law_1091 : decode I_L_law.2.1 1091 = .ok (.ireturn, 1) := by decide +kernel
theorem zd_L_law_1092 : decode I_L_law.2.1 1092 = .ok (.aload_n 1, 1) := by decide +kernel
theorem zd_L_law_1093 : decode I_L_law.2.1 1093 = .ok (.aload_n 0, 1) := by decide +kernel
theorem zd_L_law_1094 : decode I_L_law.2.1 1094 = .ok (.iload_n 3, 1) := by decide +kernel
theorem zd_L_law_1095 : decode I_L_law.2.1 1095 = .ok (.iconst 1, 1) := by decide +kernel
theorem zd_L_law_1096 : decode I_L_law.2.1 1096 = .ok (.iadd, 1) := by decide +kernel
theorem zd_L_law_1097 : decode I_L_law.2.1 1097 = .ok (.iaload, 1) := by decide +kernel
theorem zd_L_law_1098 : decode I_L_law.2.1 1098 = .ok (.aload_n 0, 1) := by decide +kernel
theorem zd_L_law_1099 : decode I_L_law.2.1 1099 = .ok (.iload_n 3, 1) := by decide +kernel
theorem zd_L_law_1100 : decode I_L_law.2.1 1100 = .ok (.iconst 2, 1) := by decide +kernel
theorem zd_L_law_1101 : decode I_L_law.2.1 1101 = .ok (.iadd, 1) := by decide +kernel
theorem zd_L_law_1102 : decode I_L_law.2.1 1102 = .ok (.iaload, 1) := by decide +kernel
theorem zd_L_law_1103 : decode I_L_law.2.1 1103 = .ok (.aload_n 0, 1) := by decide +kernel
theorem zd_L_law_1104 : decode I_L_law.2.1 1104 = .ok (.iload_n 3, 1) := by decide +kernel
theorem zd_L_law_1105 : decode I_L_law.2.1 1105 = .ok (.iconst 3, 1) := by decide +kernel
theorem zd_L_law_1106 : decode I_L_law.2.1 1106 = .ok (.iadd, 1) := by decide +kernel
theorem zd_L_law_1107 : decode I_L_law.2.1 1107 = .ok (.iaload, 1) := by decide +kernel
theorem zd_L_law_1108 : decode I_L_law.2.1 1108 = .ok (.invokevirtual 122, 3) := by decide +kernel
theorem zd_L_law_1111 : decode I_L_law.2.1 1111 = .ok (.aload_n 2, 1) := by decide +kernel
theorem zd_L_law_1112 : decode I_L_law.2.1 1112 = .ok (.aload_n 0, 1) := by decide +kernel
theorem zd_L_law_1113 : decode I_L_law.2.1 1113 = .ok (.iload_n 3, 1) := by decide +kernel
theorem zd_L_law_1114 : decode I_L_law.2.1 1114 = .ok (.iconst 1, 1) := by decide +kernel
theorem zd_L_law_1115 : decode I_L_law.2.1 1115 = .ok (.iadd, 1) := by decide +kernel
theorem zd_L_law_1116 : decode I_L_law.2.1 1116 = .ok (.iaload, 1) := by decide +kernel
theorem zd_L_law_1117 : decode I_L_law.2.1 1117 = .ok (.aload_n 0, 1) := by decide +kernel
theorem zd_L_law_1118 : decode I_L_law.2.1 1118 = .ok (.iload_n 3, 1) := by decide +kernel
theorem zd_L_law_1119 : decode I_L_law.2.1 1119 = .ok (.iconst 2, 1) := by decide +kernel
theorem zd_L_law_1120 : decode I_L_law.2.1 1120 = .ok (.iadd, 1) := by decide +kernel
theorem zd_L_law_1121 : decode I_L_law.2.1 1121 = .ok (.iaload, 1) := by decide +kernel
theorem zd_L_law_1122 : decode I_L_law.2.1 1122 = .ok (.aload_n 0, 1) := by decide +kernel
theorem zd_L_law_1123 : decode I_L_law.2.1 1123 = .ok (.iload_n 3, 1) := by decide +kernel
theorem zd_L_law_1124 : decode I_L_law.2.1 1124 = .ok (.iconst 3, 1) := by decide +kernel
theorem zd_L_law_1125 : decode I_L_law.2.1 1125 = .ok (.iadd, 1) := by decide +kernel
theorem zd_L_law_1126 : decode I_L_law.2.1 1126 = .ok (.iaload, 1) := by decide +kernel
theorem zd_L_law_1127 : decode I_L_law.2.1 1127 = .ok (.invokevirtual 125, 3) := by decide +kernel
theorem zd_L_law_1130 : decode I_L_law.2.1 1130 = .ok (.if_icmp .eq 127, 3) := by decide +kernel
theorem zd_L_law_1133 : decode I_L_law.2.1 1133 = .ok (.iconst 0, 1) := by decide +kernel
theorem zd_L_law_1134 : decode I_L_law.2.1 1134 = .ok (.ireturn, 1) := by decide +kernel
theorem zd_L_law_1135 : decode I_L_law.2.1 1135 = .ok (.aload_n 1, 1) := by decide +kernel
theorem zd_L_law_1136 : decode I_L_law.2.1 1136 = .ok (.aload_n 0, 1) := by decide +kernel
theorem zd_L_law_1137 : decode I_L_law.2.1 1137 = .ok (.iload_n 3, 1) := by decide +kernel
theorem zd_L_law_1138 : decode I_L_law.2.1 1138 = .ok (.iconst 1, 1) := by decide +kernel
theorem zd_L_law_1139 : decode I_L_law.2.1 1139 = .ok (.iadd, 1) := by decide +kernel
theorem zd_L_law_1140 : decode I_L_law.2.1 1140 = .ok (.iaload, 1) := by decide +kernel
theorem zd_L_law_1141 : decode I_L_law.2.1 1141 = .ok (.aload_n 0, 1) := by decide +kernel
theorem zd_L_law_1142 : decode I_L_law.2.1 1142 = .ok (.iload_n 3, 1) := by decide +kernel
theorem zd_L_law_1143 : decode I_L_law.2.1 1143 = .ok (.iconst 2, 1) := by decide +kernel
theorem zd_L_law_1144 : decode I_L_law.2.1 1144 = .ok (.iadd, 1) := by decide +kernel
theorem zd_L_law_1145 : decode I_L_law.2.1 1145 = .ok (.iaload, 1) := by decide +kernel
theorem zd_L_law_1146 : decode I_L_law.2.1 1146 = .ok (.invokevirtual 126, 3) := by decide +kernel
theorem zd_L_law_1149 : decode I_L_law.2.1 1149 = .ok (.aload_n 2, 1) := by decide +kernel
theorem zd_L_law_1150 : decode I_L_law.2.1 1150 = .ok (.aload_n 0, 1) := by decide +kernel
theorem zd_L_law_1151 : decode I_L_law.2.1 1151 = .ok (.iload_n 3, 1) := by decide +kernel
theorem zd_L_law_1152 : decode I_L_law.2.1 1152 = .ok (.iconst 1, 1) := by decide +kernel
theorem zd_L_law_1153 : decode I_L_law.2.1 1153 = .ok (.iadd, 1) := by decide +kernel
theorem zd_L_law_1154 : decode I_L_law.2.1 1154 = .ok (.iaload, 1) := by decide +kernel
theorem zd_L_law_1155 : decode I_L_law.2.1 1155 = .ok (.aload_n 0, 1) := by decide +kernel
theorem zd_L_law_1156 : decode I_L_law.2.1 1156 = .ok (.iload_n 3, 1) := by decide +kernel
theorem zd_L_law_1157 : decode I_L_law.2.1 1157 = .ok (.iconst 2, 1) := by decide +kernel
theorem zd_L_law_1158 : decode I_L_law.2.1 1158 = .ok (.iadd, 1) := by decide +kernel
theorem zd_L_law_1159 : decode I_L_law.2.1 1159 = .ok (.iaload, 1) := by decide +kernel
theorem zd_L_law_1160 : decode I_L_law.2.1 1160 = .ok (.invokevirtual 129, 3) := by decide +kernel
theorem zd_L_law_1163 : decode I_L_law.2.1 1163 = .ok (.if_icmp .eq 94, 3) := by decide +kernel
theorem zd_L_law_1166 : decode I_L_law.2.1 1166 = .ok (.iconst 0, 1) := by decide +kernel
theorem zd_L_law_1167 : decode I_L_law.2.1 1167 = .ok (.ireturn, 1) := by decide +kernel
theorem zd_L_law_1168 : decode I_L_law.2.1 1168 = .ok (.aload_n 1, 1) := by decide +kernel
theorem zd_L_law_1169 : decode I_L_law.2.1 1169 = .ok (.aload_n 0, 1) := by decide +kernel
theorem zd_L_law_1170 : decode I_L_law.2.1 1170 = .ok (.iload_n 3, 1) := by decide +kernel
theorem zd_L_law_1171 : decode I_L_law.2.1 1171 = .ok (.iconst 1, 1) := by decide +kernel
theorem zd_L_law_1172 : decode I_L_law.2.1 1172 = .ok (.iadd, 1) := by decide +kernel
theorem zd_L_law_1173 : decode I_L_law.2.1 1173 = .ok (.iaload, 1) := by decide +kernel
theorem zd_L_law_1174 : decode I_L_law.2.1 1174 = .ok (.aload_n 0, 1) := by decide +kernel
theorem zd_L_law_1175 : decode I_L_law.2.1 1175 = .ok (.iload_n 3, 1) := by decide +kernel
theorem zd_L_law_1176 : decode I_L_law.2.1 1176 = .ok (.iconst 2, 1) := by decide +kernel
theorem zd_L_law_1177 : decode I_L_law.2.1 1177 = .ok (.iadd, 1) := by decide +kernel
theorem zd_L_law_1178 : decode I_L_law.2.1 1178 = .ok (.iaload, 1) := by decide +kernel
theorem zd_L_law_1179 : decode I_L_law.2.1 1179 = .ok (.invokevirtual 130, 3) := by decide +kernel
theorem zd_L_law_1182 : decode I_L_law.2.1 1182 = .ok (.aload_n 2, 1) := by decide +kernel
theorem zd_L_law_1183 : decode I_L_law.2.1 1183 = .ok (.aload_n 0, 1) := by decide +kernel
theorem zd_L_law_1184 : decode I_L_law.2.1 1184 = .ok (.iload_n 3, 1) := by decide +kernel
theorem zd_L_law_1185 : decode I_L_law.2.1 1185 = .ok (.iconst 1, 1) := by decide +kernel
theorem zd_L_law_1186 : decode I_L_law.2.1 1186 = .ok (.iadd, 1) := by decide +kernel
theorem zd_L_law_1187 : decode I_L_law.2.1 1187 = .ok (.iaload, 1) := by decide +kernel
theorem zd_L_law_1188 : decode I_L_law.2.1 1188 = .ok (.aload_n 0, 1) := by decide +kernel
theorem zd_L_law_1189 : decode I_L_law.2.1 1189 = .ok (.iload_n 3, 1) := by decide +kernel
theorem zd_L_law_1190 : decode I_L_law.2.1 1190 = .ok (.iconst 2, 1) := by decide +kernel
theorem zd_L_law_1191 : decode I_L_law.2.1 1191 = .ok (.iadd, 1) := by decide +kernel
theorem zd_L_law_1192 : decode I_L_law.2.1 1192 = .ok (.iaload, 1) := by decide +kernel
theorem zd_L_law_1193 : decode I_L_law.2.1 1193 = .ok (.invokevirtual 133, 3) := by decide +kernel
theorem zd_L_law_1196 : decode I_L_law.2.1 1196 = .ok (.if_icmp .eq 61, 3) := by decide +kernel
theorem zd_L_law_1199 : decode I_L_law.2.1 1199 = .ok (.iconst 0, 1) := by decide +kernel
theorem zd_L_law_1200 : decode I_L_law.2.1 1200 = .ok (.ireturn, 1) := by decide +kernel
theorem zd_L_law_1201 : decode I_L_law.2.1 1201 = .ok (.aload_n 1, 1) := by decide +kernel
theorem zd_L_law_1202 : decode I_L_law.2.1 1202 = .ok (.aload_n 0, 1) := by decide +kernel
theorem zd_L_law_1203 : decode I_L_law.2.1 1203 = .ok (.iload_n 3, 1) := by decide +kernel
theorem zd_L_law_1204 : decode I_L_law.2.1 1204 = .ok (.iconst 1, 1) := by decide +kernel
theorem zd_L_law_1205 : decode I_L_law.2.1 1205 = .ok (.iadd, 1) := by decide +kernel
theorem zd_L_law_1206 : decode I_L_law.2.1 1206 = .ok (.iaload, 1) := by decide +kernel
theorem zd_L_law_1207 : decode I_L_law.2.1 1207 = .ok (.aload_n 0, 1) := by decide +kernel
theorem zd_L_law_1208 : decode I_L_law.2.1 1208 = .ok (.iload_n 3, 1) := by decide +kernel
theorem zd_L_law_1209 : decode I_L_law.2.1 1209 = .ok (.iconst 2, 1) := by decide +kernel
theorem zd_L_law_1210 : decode I_L_law.2.1 1210 = .ok (.iadd, 1) := by decide +kernel
theorem zd_L_law_1211 : decode I_L_law.2.1 1211 = .ok (.iaload, 1) := by decide +kernel
theorem zd_L_law_1212 : decode I_L_law.2.1 1212 = .ok (.invokevirtual 134, 3) := by decide +kernel
theorem zd_L_law_1215 : decode I_L_law.2.1 1215 = .ok (.aload_n 2, 1) := by decide +kernel
theorem zd_L_law_1216 : decode I_L_law.2.1 1216 = .ok (.aload_n 0, 1) := by decide +kernel
theorem zd_L_law_1217 : decode I_L_law.2.1 1217 = .ok (.iload_n 3, 1) := by decide +kernel
theorem zd_L_law_1218 : decode I_L_law.2.1 1218 = .ok (.iconst 1, 1) := by decide +kernel
theorem zd_L_law_1219 : decode I_L_law.2.1 1219 = .ok (.iadd, 1) := by decide +kernel
theorem zd_L_law_1220 : decode I_L_law.2.1 1220 = .ok (.iaload, 1) := by decide +kernel
theorem zd_L_law_1221 : decode I_L_law.2.1 1221 = .ok (.aload_n 0, 1) := by decide +kernel
theorem zd_L_law_1222 : decode I_L_law.2.1 1222 = .ok (.iload_n 3, 1) := by decide +kernel
theorem zd_L_law_1223 : decode I_L_law.2.1 1223 = .ok (.iconst 2, 1) := by decide +kernel
theorem zd_L_law_1224 : decode I_L_law.2.1 1224 = .ok (.iadd, 1) := by decide +kernel
theorem zd_L_law_1225 : decode I_L_law.2.1 1225 = .ok (.iaload, 1) := by decide +kernel
theorem zd_L_law_1226 : decode I_L_law.2.1 1226 = .ok (.invokevirtual 137, 3) := by decide +kernel
theorem zd_L_law_1229 : decode I_L_law.2.1 1229 = .ok (.if_icmp .eq 28, 3) := by decide +kernel
theorem zd_L_law_1232 : decode I_L_law.2.1 1232 = .ok (.iconst 0, 1) := by decide +kernel
theorem zd_L_law_1233 : decode I_L_law.2.1 1233 = .ok (.ireturn, 1) := by decide +kernel
theorem zd_L_law_1234 : decode I_L_law.2.1 1234 = .ok (.aload_n 1, 1) := by decide +kernel
theorem zd_L_law_1235 : decode I_L_law.2.1 1235 = .ok (.aload_n 0, 1) := by decide +kernel
theorem zd_L_law_1236 : decode I_L_law.2.1 1236 = .ok (.iload_n 3, 1) := by decide +kernel
theorem zd_L_law_1237 : decode I_L_law.2.1 1237 = .ok (.iconst 1, 1) := by decide +kernel
theorem zd_L_law_1238 : decode I_L_law.2.1 1238 = .ok (.iadd, 1) := by decide +kernel
theorem zd_L_law_1239 : decode I_L_law.2.1 1239 = .ok (.iaload, 1) := by decide +kernel
theorem zd_L_law_1240 : decode I_L_law.2.1 1240 = .ok (.invokevirtual 138, 3) := by decide +kernel
theorem zd_L_law_1243 : decode I_L_law.2.1 1243 = .ok (.aload_n 2, 1) := by decide +kernel
theorem zd_L_law_1244 : decode I_L_law.2.1 1244 = .ok (.aload_n 0, 1) := by decide +kernel
theorem zd_L_law_1245 : decode I_L_law.2.1 1245 = .ok (.iload_n 3, 1) := by decide +kernel
theorem zd_L_law_1246 : decode I_L_law.2.1 1246 = .ok (.iconst 1, 1) := by decide +kernel
theorem zd_L_law_1247 : decode I_L_law.2.1 1247 = .ok (.iadd, 1) := by decide +kernel
theorem zd_L_law_1248 : decode I_L_law.2.1 1248 = .ok (.iaload, 1) := by decide +kernel
theorem zd_L_law_1249 : decode I_L_law.2.1 1249 = .ok (.invokevirtual 141, 3) := by decide +kernel
theorem zd_L_law_1252 : decode I_L_law.2.1 1252 = .ok (.if_icmp .eq 5, 3) := by decide +kernel
theorem zd_L_law_1255 : decode I_L_law.2.1 1255 = .ok (.iconst 0, 1) := by decide +kernel
theorem zd_L_law_1256 : decode I_L_law.2.1 1256 = .ok (.ireturn, 1) := by decide +kernel
theorem zd_L_law_1257 : decode I_L_law.2.1 1257 = .ok (.iinc 3 5, 3) := by decide +kernel
theorem zd_L_law_1260 : decode I_L_law.2.1 1260 = .ok (.goto (-1242), 3) := by decide +kernel
theorem zd_L_law_1263 : decode I_L_law.2.1 1263 = .ok (.iconst 1, 1) := by decide +kernel
theorem zd_L_law_1264 : decode I_L_law.2.1 1264 = .ok (.ireturn, 1) := by decide +kernel
