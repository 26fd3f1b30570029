/-! the law: names, decode rows, links: written by wip/gen/lw1.py -/
def M_LW_law (nm : String) : wM := (⟨"CodePointSetsLaw", nm, "([I)Z"⟩, code, 4, some .boolean)
theorem d_LW_law_0 : decode code 0 = .ok (.new 7, 3) := by decide +kernel
theorem d_LW_law_3 : decode code 3 = .ok (.dup, 1) := by decide +kernel
theorem d_LW_law_4 : decode code 4 = .ok (.invokespecial 9, 3) := by decide +kernel
theorem d_LW_law_7 : decode code 7 = .ok (.astore_n 1, 1) := by decide +kernel
theorem d_LW_law_8 : decode code 8 = .ok (.new 10, 3) := by decide +kernel
theorem d_LW_law_11 : decode code 11 = .ok (.dup, 1) := by decide +kernel
theorem d_LW_law_12 : decode code 12 = .ok (.invokespecial 12, 3) := by decide +kernel
theorem d_LW_law_15 : decode code 15 = .ok (.astore_n 2, 1) := by decide +kernel
theorem d_LW_law_16 : decode code 16 = .ok (.iconst 0, 1) := by decide +kernel
theorem d_LW_law_17 : decode code 17 = .ok (.istore_n 3, 1) := by decide +kernel
theorem d_LW_law_18 : decode code 18 = .ok (.iload_n 3, 1) := by decide +kernel
theorem d_LW_law_19 : decode code 19 = .ok (.aload_n 0, 1) := by decide +kernel
theorem d_LW_law_20 : decode code 20 = .ok (.arraylength, 1) := by decide +kernel
theorem d_LW_law_21 : decode code 21 = .ok (.iconst 4, 1) := by decide +kernel
theorem d_LW_law_22 : decode code 22 = .ok (.isub, 1) := by decide +kernel
theorem d_LW_law_23 : decode code 23 = .ok (.if_icmp .gt 564, 3) := by decide +kernel
theorem d_LW_law_26 : decode code 26 = .ok (.aload_n 0, 1) := by decide +kernel
theorem d_LW_law_27 : decode code 27 = .ok (.iload_n 3, 1) := by decide +kernel
theorem d_LW_law_28 : decode code 28 = .ok (.iaload, 1) := by decide +kernel
theorem d_LW_law_29 : decode code 29 = .ok (.bipush 31, 2) := by decide +kernel
theorem d_LW_law_31 : decode code 31 = .ok (.iand, 1) := by decide +kernel
theorem d_LW_law_32 : decode code 32 = .ok (.tableswitch 549 0 16 #[84, 107, 118, 131, 154, 177, 200, 243, 266, 289, 322, 345, 378, 401, 424, 457, 490], 84) := by decide +kernel
theorem d_LW_law_116 : decode code 116 = .ok (.aload_n 1, 1) := by decide +kernel
theorem d_LW_law_117 : decode code 117 = .ok (.aload_n 0, 1) := by decide +kernel
theorem d_LW_law_118 : decode code 118 = .ok (.iload_n 3, 1) := by decide +kernel
theorem d_LW_law_119 : decode code 119 = .ok (.iconst 1, 1) := by decide +kernel
theorem d_LW_law_120 : decode code 120 = .ok (.iadd, 1) := by decide +kernel
theorem d_LW_law_121 : decode code 121 = .ok (.iaload, 1) := by decide +kernel
theorem d_LW_law_122 : decode code 122 = .ok (.invokevirtual 13, 3) := by decide +kernel
theorem d_LW_law_125 : decode code 125 = .ok (.aload_n 2, 1) := by decide +kernel
theorem d_LW_law_126 : decode code 126 = .ok (.aload_n 0, 1) := by decide +kernel
theorem d_LW_law_127 : decode code 127 = .ok (.iload_n 3, 1) := by decide +kernel
theorem d_LW_law_128 : decode code 128 = .ok (.iconst 1, 1) := by decide +kernel
theorem d_LW_law_129 : decode code 129 = .ok (.iadd, 1) := by decide +kernel
theorem d_LW_law_130 : decode code 130 = .ok (.iaload, 1) := by decide +kernel
theorem d_LW_law_131 : decode code 131 = .ok (.invokevirtual 17, 3) := by decide +kernel
theorem d_LW_law_134 : decode code 134 = .ok (.if_icmp .eq 447, 3) := by decide +kernel
theorem d_LW_law_137 : decode code 137 = .ok (.iconst 0, 1) := by decide +kernel
theorem d_LW_law_138 : decode code 138 = .ok (.ireturn, 1) := by decide +kernel
theorem d_LW_law_139 : decode code 139 = .ok (.aload_n 1, 1) := by decide +kernel
theorem d_LW_law_140 : decode code 140 = .ok (.invokevirtual 18, 3) := by decide +kernel
theorem d_LW_law_143 : decode code 143 = .ok (.aload_n 2, 1) := by decide +kernel
theorem d_LW_law_144 : decode code 144 = .ok (.invokevirtual 21, 3) := by decide +kernel
theorem d_LW_law_147 : decode code 147 = .ok (.goto 434, 3) := by decide +kernel
theorem d_LW_law_150 : decode code 150 = .ok (.aload_n 1, 1) := by decide +kernel
theorem d_LW_law_151 : decode code 151 = .ok (.invokevirtual 22, 3) := by decide +kernel
theorem d_LW_law_154 : decode code 154 = .ok (.aload_n 2, 1) := by decide +kernel
theorem d_LW_law_155 : decode code 155 = .ok (.invokevirtual 26, 3) := by decide +kernel
theorem d_LW_law_158 : decode code 158 = .ok (.if_icmp .eq 423, 3) := by decide +kernel
theorem d_LW_law_161 : decode code 161 = .ok (.iconst 0, 1) := by decide +kernel
theorem d_LW_law_162 : decode code 162 = .ok (.ireturn, 1) := by decide +kernel
theorem d_LW_law_163 : decode code 163 = .ok (.aload_n 1, 1) := by decide +kernel
theorem d_LW_law_164 : decode code 164 = .ok (.aload_n 0, 1) := by decide +kernel
theorem d_LW_law_165 : decode code 165 = .ok (.iload_n 3, 1) := by decide +kernel
theorem d_LW_law_166 : decode code 166 = .ok (.iconst 1, 1) := by decide +kernel
theorem d_LW_law_167 : decode code 167 = .ok (.iadd, 1) := by decide +kernel
theorem d_LW_law_168 : decode code 168 = .ok (.iaload, 1) := by decide +kernel
theorem d_LW_law_169 : decode code 169 = .ok (.invokevirtual 27, 3) := by decide +kernel
theorem d_LW_law_172 : decode code 172 = .ok (.aload_n 2, 1) := by decide +kernel
theorem d_LW_law_173 : decode code 173 = .ok (.aload_n 0, 1) := by decide +kernel
theorem d_LW_law_174 : decode code 174 = .ok (.iload_n 3, 1) := by decide +kernel
theorem d_LW_law_175 : decode code 175 = .ok (.iconst 1, 1) := by decide +kernel
theorem d_LW_law_176 : decode code 176 = .ok (.iadd, 1) := by decide +kernel
theorem d_LW_law_177 : decode code 177 = .ok (.iaload, 1) := by decide +kernel
theorem d_LW_law_178 : decode code 178 = .ok (.invokevirtual 31, 3) := by decide +kernel
theorem d_LW_law_181 : decode code 181 = .ok (.if_icmp .eq 400, 3) := by decide +kernel
theorem d_LW_law_184 : decode code 184 = .ok (.iconst 0, 1) := by decide +kernel
theorem d_LW_law_185 : decode code 185 = .ok (.ireturn, 1) := by decide +kernel
theorem d_LW_law_186 : decode code 186 = .ok (.aload_n 1, 1) := by decide +kernel
theorem d_LW_law_187 : decode code 187 = .ok (.aload_n 0, 1) := by decide +kernel
theorem d_LW_law_188 : decode code 188 = .ok (.iload_n 3, 1) := by decide +kernel
theorem d_LW_law_189 : decode code 189 = .ok (.iconst 1, 1) := by decide +kernel
theorem d_LW_law_190 : decode code 190 = .ok (.iadd, 1) := by decide +kernel
theorem d_LW_law_191 : decode code 191 = .ok (.iaload, 1) := by decide +kernel
theorem d_LW_law_192 : decode code 192 = .ok (.invokevirtual 32, 3) := by decide +kernel
theorem d_LW_law_195 : decode code 195 = .ok (.aload_n 2, 1) := by decide +kernel
theorem d_LW_law_196 : decode code 196 = .ok (.aload_n 0, 1) := by decide +kernel
theorem d_LW_law_197 : decode code 197 = .ok (.iload_n 3, 1) := by decide +kernel
theorem d_LW_law_198 : decode code 198 = .ok (.iconst 1, 1) := by decide +kernel
theorem d_LW_law_199 : decode code 199 = .ok (.iadd, 1) := by decide +kernel
theorem d_LW_law_200 : decode code 200 = .ok (.iaload, 1) := by decide +kernel
theorem d_LW_law_201 : decode code 201 = .ok (.invokevirtual 35, 3) := by decide +kernel
theorem d_LW_law_204 : decode code 204 = .ok (.if_icmp .eq 377, 3) := by decide +kernel
theorem d_LW_law_207 : decode code 207 = .ok (.iconst 0, 1) := by decide +kernel
theorem d_LW_law_208 : decode code 208 = .ok (.ireturn, 1) := by decide +kernel
theorem d_LW_law_209 : decode code 209 = .ok (.aload_n 1, 1) := by decide +kernel
theorem d_LW_law_210 : decode code 210 = .ok (.aload_n 0, 1) := by decide +kernel
theorem d_LW_law_211 : decode code 211 = .ok (.iload_n 3, 1) := by decide +kernel
theorem d_LW_law_212 : decode code 212 = .ok (.iconst 1, 1) := by decide +kernel
theorem d_LW_law_213 : decode code 213 = .ok (.iadd, 1) := by decide +kernel
theorem d_LW_law_214 : decode code 214 = .ok (.iaload, 1) := by decide +kernel
theorem d_LW_law_215 : decode code 215 = .ok (.invokevirtual 36, 3) := by decide +kernel
theorem d_LW_law_218 : decode code 218 = .ok (.aload_n 2, 1) := by decide +kernel
theorem d_LW_law_219 : decode code 219 = .ok (.aload_n 0, 1) := by decide +kernel
theorem d_LW_law_220 : decode code 220 = .ok (.iload_n 3, 1) := by decide +kernel
theorem d_LW_law_221 : decode code 221 = .ok (.iconst 1, 1) := by decide +kernel
theorem d_LW_law_222 : decode code 222 = .ok (.iadd, 1) := by decide +kernel
theorem d_LW_law_223 : decode code 223 = .ok (.iaload, 1) := by decide +kernel
theorem d_LW_law_224 : decode code 224 = .ok (.invokevirtual 39, 3) := by decide +kernel
theorem d_LW_law_227 : decode code 227 = .ok (.if_icmp .eq 354, 3) := by decide +kernel
theorem d_LW_law_230 : decode code 230 = .ok (.iconst 0, 1) := by decide +kernel
theorem d_LW_law_231 : decode code 231 = .ok (.ireturn, 1) := by decide +kernel
theorem d_LW_law_232 : decode code 232 = .ok (.aload_n 1, 1) := by decide +kernel
theorem d_LW_law_233 : decode code 233 = .ok (.aload_n 0, 1) := by decide +kernel
theorem d_LW_law_234 : decode code 234 = .ok (.iload_n 3, 1) := by decide +kernel
theorem d_LW_law_235 : decode code 235 = .ok (.iconst 1, 1) := by decide +kernel
theorem d_LW_law_236 : decode code 236 = .ok (.iadd, 1) := by decide +kernel
theorem d_LW_law_237 : decode code 237 = .ok (.iaload, 1) := by decide +kernel
theorem d_LW_law_238 : decode code 238 = .ok (.aload_n 0, 1) := by decide +kernel
theorem d_LW_law_239 : decode code 239 = .ok (.iload_n 3, 1) := by decide +kernel
theorem d_LW_law_240 : decode code 240 = .ok (.iconst 2, 1) := by decide +kernel
theorem d_LW_law_241 : decode code 241 = .ok (.iadd, 1) := by decide +kernel
theorem d_LW_law_242 : decode code 242 = .ok (.iaload, 1) := by decide +kernel
theorem d_LW_law_243 : decode code 243 = .ok (.aload_n 0, 1) := by decide +kernel
theorem d_LW_law_244 : decode code 244 = .ok (.iload_n 3, 1) := by decide +kernel
theorem d_LW_law_245 : decode code 245 = .ok (.iconst 3, 1) := by decide +kernel
theorem d_LW_law_246 : decode code 246 = .ok (.iadd, 1) := by decide +kernel
theorem d_LW_law_247 : decode code 247 = .ok (.iaload, 1) := by decide +kernel
theorem d_LW_law_248 : decode code 248 = .ok (.invokevirtual 40, 3) := by decide +kernel
theorem d_LW_law_251 : decode code 251 = .ok (.aload_n 2, 1) := by decide +kernel
theorem d_LW_law_252 : decode code 252 = .ok (.aload_n 0, 1) := by decide +kernel
theorem d_LW_law_253 : decode code 253 = .ok (.iload_n 3, 1) := by decide +kernel
theorem d_LW_law_254 : decode code 254 = .ok (.iconst 1, 1) := by decide +kernel
theorem d_LW_law_255 : decode code 255 = .ok (.iadd, 1) := by decide +kernel
theorem d_LW_law_256 : decode code 256 = .ok (.iaload, 1) := by decide +kernel
theorem d_LW_law_257 : decode code 257 = .ok (.aload_n 0, 1) := by decide +kernel
theorem d_LW_law_258 : decode code 258 = .ok (.iload_n 3, 1) := by decide +kernel
theorem d_LW_law_259 : decode code 259 = .ok (.iconst 2, 1) := by decide +kernel
theorem d_LW_law_260 : decode code 260 = .ok (.iadd, 1) := by decide +kernel
theorem d_LW_law_261 : decode code 261 = .ok (.iaload, 1) := by decide +kernel
theorem d_LW_law_262 : decode code 262 = .ok (.aload_n 0, 1) := by decide +kernel
theorem d_LW_law_263 : decode code 263 = .ok (.iload_n 3, 1) := by decide +kernel
theorem d_LW_law_264 : decode code 264 = .ok (.iconst 3, 1) := by decide +kernel
theorem d_LW_law_265 : decode code 265 = .ok (.iadd, 1) := by decide +kernel
theorem d_LW_law_266 : decode code 266 = .ok (.iaload, 1) := by decide +kernel
theorem d_LW_law_267 : decode code 267 = .ok (.invokevirtual 44, 3) := by decide +kernel
theorem d_LW_law_270 : decode code 270 = .ok (.if_icmp .eq 311, 3) := by decide +kernel
theorem d_LW_law_273 : decode code 273 = .ok (.iconst 0, 1) := by decide +kernel
theorem d_LW_law_274 : decode code 274 = .ok (.ireturn, 1) := by decide +kernel
theorem d_LW_law_275 : decode code 275 = .ok (.aload_n 1, 1) := by decide +kernel
theorem d_LW_law_276 : decode code 276 = .ok (.aload_n 0, 1) := by decide +kernel
theorem d_LW_law_277 : decode code 277 = .ok (.iload_n 3, 1) := by decide +kernel
theorem d_LW_law_278 : decode code 278 = .ok (.iconst 1, 1) := by decide +kernel
theorem d_LW_law_279 : decode code 279 = .ok (.iadd, 1) := by decide +kernel
theorem d_LW_law_280 : decode code 280 = .ok (.iaload, 1) := by decide +kernel
theorem d_LW_law_281 : decode code 281 = .ok (.invokevirtual 45, 3) := by decide +kernel
theorem d_LW_law_284 : decode code 284 = .ok (.aload_n 2, 1) := by decide +kernel
theorem d_LW_law_285 : decode code 285 = .ok (.aload_n 0, 1) := by decide +kernel
theorem d_LW_law_286 : decode code 286 = .ok (.iload_n 3, 1) := by decide +kernel
theorem d_LW_law_287 : decode code 287 = .ok (.iconst 1, 1) := by decide +kernel
theorem d_LW_law_288 : decode code 288 = .ok (.iadd, 1) := by decide +kernel
theorem d_LW_law_289 : decode code 289 = .ok (.iaload, 1) := by decide +kernel
theorem d_LW_law_290 : decode code 290 = .ok (.invokevirtual 48, 3) := by decide +kernel
theorem d_LW_law_293 : decode code 293 = .ok (.if_icmp .eq 288, 3) := by decide +kernel
theorem d_LW_law_296 : decode code 296 = .ok (.iconst 0, 1) := by decide +kernel
theorem d_LW_law_297 : decode code 297 = .ok (.ireturn, 1) := by decide +kernel
theorem d_LW_law_298 : decode code 298 = .ok (.aload_n 1, 1) := by decide +kernel
theorem d_LW_law_299 : decode code 299 = .ok (.aload_n 0, 1) := by decide +kernel
theorem d_LW_law_300 : decode code 300 = .ok (.iload_n 3, 1) := by decide +kernel
theorem d_LW_law_301 : decode code 301 = .ok (.iconst 1, 1) := by decide +kernel
theorem d_LW_law_302 : decode code 302 = .ok (.iadd, 1) := by decide +kernel
theorem d_LW_law_303 : decode code 303 = .ok (.iaload, 1) := by decide +kernel
theorem d_LW_law_304 : decode code 304 = .ok (.invokevirtual 49, 3) := by decide +kernel
theorem d_LW_law_307 : decode code 307 = .ok (.aload_n 2, 1) := by decide +kernel
theorem d_LW_law_308 : decode code 308 = .ok (.aload_n 0, 1) := by decide +kernel
theorem d_LW_law_309 : decode code 309 = .ok (.iload_n 3, 1) := by decide +kernel
theorem d_LW_law_310 : decode code 310 = .ok (.iconst 1, 1) := by decide +kernel
theorem d_LW_law_311 : decode code 311 = .ok (.iadd, 1) := by decide +kernel
theorem d_LW_law_312 : decode code 312 = .ok (.iaload, 1) := by decide +kernel
theorem d_LW_law_313 : decode code 313 = .ok (.invokevirtual 52, 3) := by decide +kernel
theorem d_LW_law_316 : decode code 316 = .ok (.if_icmp .eq 265, 3) := by decide +kernel
theorem d_LW_law_319 : decode code 319 = .ok (.iconst 0, 1) := by decide +kernel
theorem d_LW_law_320 : decode code 320 = .ok (.ireturn, 1) := by decide +kernel
theorem d_LW_law_321 : decode code 321 = .ok (.aload_n 1, 1) := by decide +kernel
theorem d_LW_law_322 : decode code 322 = .ok (.aload_n 0, 1) := by decide +kernel
theorem d_LW_law_323 : decode code 323 = .ok (.iload_n 3, 1) := by decide +kernel
theorem d_LW_law_324 : decode code 324 = .ok (.iconst 1, 1) := by decide +kernel
theorem d_LW_law_325 : decode code 325 = .ok (.iadd, 1) := by decide +kernel
theorem d_LW_law_326 : decode code 326 = .ok (.iaload, 1) := by decide +kernel
theorem d_LW_law_327 : decode code 327 = .ok (.aload_n 0, 1) := by decide +kernel
theorem d_LW_law_328 : decode code 328 = .ok (.iload_n 3, 1) := by decide +kernel
theorem d_LW_law_329 : decode code 329 = .ok (.iconst 2, 1) := by decide +kernel
theorem d_LW_law_330 : decode code 330 = .ok (.iadd, 1) := by decide +kernel
theorem d_LW_law_331 : decode code 331 = .ok (.iaload, 1) := by decide +kernel
theorem d_LW_law_332 : decode code 332 = .ok (.invokevirtual 53, 3) := by decide +kernel
theorem d_LW_law_335 : decode code 335 = .ok (.aload_n 2, 1) := by decide +kernel
theorem d_LW_law_336 : decode code 336 = .ok (.aload_n 0, 1) := by decide +kernel
theorem d_LW_law_337 : decode code 337 = .ok (.iload_n 3, 1) := by decide +kernel
theorem d_LW_law_338 : decode code 338 = .ok (.iconst 1, 1) := by decide +kernel
theorem d_LW_law_339 : decode code 339 = .ok (.iadd, 1) := by decide +kernel
theorem d_LW_law_340 : decode code 340 = .ok (.iaload, 1) := by decide +kernel
theorem d_LW_law_341 : decode code 341 = .ok (.aload_n 0, 1) := by decide +kernel
theorem d_LW_law_342 : decode code 342 = .ok (.iload_n 3, 1) := by decide +kernel
theorem d_LW_law_343 : decode code 343 = .ok (.iconst 2, 1) := by decide +kernel
theorem d_LW_law_344 : decode code 344 = .ok (.iadd, 1) := by decide +kernel
theorem d_LW_law_345 : decode code 345 = .ok (.iaload, 1) := by decide +kernel
theorem d_LW_law_346 : decode code 346 = .ok (.invokevirtual 57, 3) := by decide +kernel
theorem d_LW_law_349 : decode code 349 = .ok (.if_icmp .eq 232, 3) := by decide +kernel
theorem d_LW_law_352 : decode code 352 = .ok (.iconst 0, 1) := by decide +kernel
theorem d_LW_law_353 : decode code 353 = .ok (.ireturn, 1) := by decide +kernel
theorem d_LW_law_354 : decode code 354 = .ok (.aload_n 1, 1) := by decide +kernel
theorem d_LW_law_355 : decode code 355 = .ok (.aload_n 0, 1) := by decide +kernel
theorem d_LW_law_356 : decode code 356 = .ok (.iload_n 3, 1) := by decide +kernel
theorem d_LW_law_357 : decode code 357 = .ok (.iconst 1, 1) := by decide +kernel
theorem d_LW_law_358 : decode code 358 = .ok (.iadd, 1) := by decide +kernel
theorem d_LW_law_359 : decode code 359 = .ok (.iaload, 1) := by decide +kernel
theorem d_LW_law_360 : decode code 360 = .ok (.invokevirtual 58, 3) := by decide +kernel
theorem d_LW_law_363 : decode code 363 = .ok (.aload_n 2, 1) := by decide +kernel
theorem d_LW_law_364 : decode code 364 = .ok (.aload_n 0, 1) := by decide +kernel
theorem d_LW_law_365 : decode code 365 = .ok (.iload_n 3, 1) := by decide +kernel
theorem d_LW_law_366 : decode code 366 = .ok (.iconst 1, 1) := by decide +kernel
theorem d_LW_law_367 : decode code 367 = .ok (.iadd, 1) := by decide +kernel
theorem d_LW_law_368 : decode code 368 = .ok (.iaload, 1) := by decide +kernel
theorem d_LW_law_369 : decode code 369 = .ok (.invokevirtual 61, 3) := by decide +kernel
theorem d_LW_law_372 : decode code 372 = .ok (.if_icmp .eq 209, 3) := by decide +kernel
theorem d_LW_law_375 : decode code 375 = .ok (.iconst 0, 1) := by decide +kernel
theorem d_LW_law_376 : decode code 376 = .ok (.ireturn, 1) := by decide +kernel
theorem d_LW_law_377 : decode code 377 = .ok (.aload_n 1, 1) := by decide +kernel
theorem d_LW_law_378 : decode code 378 = .ok (.aload_n 0, 1) := by decide +kernel
theorem d_LW_law_379 : decode code 379 = .ok (.iload_n 3, 1) := by decide +kernel
theorem d_LW_law_380 : decode code 380 = .ok (.iconst 1, 1) := by decide +kernel
theorem d_LW_law_381 : decode code 381 = .ok (.iadd, 1) := by decide +kernel
theorem d_LW_law_382 : decode code 382 = .ok (.iaload, 1) := by decide +kernel
theorem d_LW_law_383 : decode code 383 = .ok (.aload_n 0, 1) := by decide +kernel
theorem d_LW_law_384 : decode code 384 = .ok (.iload_n 3, 1) := by decide +kernel
theorem d_LW_law_385 : decode code 385 = .ok (.iconst 2, 1) := by decide +kernel
theorem d_LW_law_386 : decode code 386 = .ok (.iadd, 1) := by decide +kernel
theorem d_LW_law_387 : decode code 387 = .ok (.iaload, 1) := by decide +kernel
theorem d_LW_law_388 : decode code 388 = .ok (.invokevirtual 62, 3) := by decide +kernel
theorem d_LW_law_391 : decode code 391 = .ok (.aload_n 2, 1) := by decide +kernel
theorem d_LW_law_392 : decode code 392 = .ok (.aload_n 0, 1) := by decide +kernel
theorem d_LW_law_393 : decode code 393 = .ok (.iload_n 3, 1) := by decide +kernel
theorem d_LW_law_394 : decode code 394 = .ok (.iconst 1, 1) := by decide +kernel
theorem d_LW_law_395 : decode code 395 = .ok (.iadd, 1) := by decide +kernel
theorem d_LW_law_396 : decode code 396 = .ok (.iaload, 1) := by decide +kernel
theorem d_LW_law_397 : decode code 397 = .ok (.aload_n 0, 1) := by decide +kernel
theorem d_LW_law_398 : decode code 398 = .ok (.iload_n 3, 1) := by decide +kernel
theorem d_LW_law_399 : decode code 399 = .ok (.iconst 2, 1) := by decide +kernel
theorem d_LW_law_400 : decode code 400 = .ok (.iadd, 1) := by decide +kernel
theorem d_LW_law_401 : decode code 401 = .ok (.iaload, 1) := by decide +kernel
theorem d_LW_law_402 : decode code 402 = .ok (.invokevirtual 65, 3) := by decide +kernel
theorem d_LW_law_405 : decode code 405 = .ok (.if_icmp .eq 176, 3) := by decide +kernel
theorem d_LW_law_408 : decode code 408 = .ok (.iconst 0, 1) := by decide +kernel
theorem d_LW_law_409 : decode code 409 = .ok (.ireturn, 1) := by decide +kernel
theorem d_LW_law_410 : decode code 410 = .ok (.aload_n 1, 1) := by decide +kernel
theorem d_LW_law_411 : decode code 411 = .ok (.aload_n 0, 1) := by decide +kernel
theorem d_LW_law_412 : decode code 412 = .ok (.iload_n 3, 1) := by decide +kernel
theorem d_LW_law_413 : decode code 413 = .ok (.iconst 1, 1) := by decide +kernel
theorem d_LW_law_414 : decode code 414 = .ok (.iadd, 1) := by decide +kernel
theorem d_LW_law_415 : decode code 415 = .ok (.iaload, 1) := by decide +kernel
theorem d_LW_law_416 : decode code 416 = .ok (.invokevirtual 66, 3) := by decide +kernel
theorem d_LW_law_419 : decode code 419 = .ok (.aload_n 2, 1) := by decide +kernel
theorem d_LW_law_420 : decode code 420 = .ok (.aload_n 0, 1) := by decide +kernel
theorem d_LW_law_421 : decode code 421 = .ok (.iload_n 3, 1) := by decide +kernel
theorem d_LW_law_422 : decode code 422 = .ok (.iconst 1, 1) := by decide +kernel
theorem d_LW_law_423 : decode code 423 = .ok (.iadd, 1) := by decide +kernel
theorem d_LW_law_424 : decode code 424 = .ok (.iaload, 1) := by decide +kernel
theorem d_LW_law_425 : decode code 425 = .ok (.invokevirtual 69, 3) := by decide +kernel
theorem d_LW_law_428 : decode code 428 = .ok (.if_icmp .eq 153, 3) := by decide +kernel
theorem d_LW_law_431 : decode code 431 = .ok (.iconst 0, 1) := by decide +kernel
theorem d_LW_law_432 : decode code 432 = .ok (.ireturn, 1) := by decide +kernel
theorem d_LW_law_433 : decode code 433 = .ok (.aload_n 1, 1) := by decide +kernel
theorem d_LW_law_434 : decode code 434 = .ok (.aload_n 0, 1) := by decide +kernel
theorem d_LW_law_435 : decode code 435 = .ok (.iload_n 3, 1) := by decide +kernel
theorem d_LW_law_436 : decode code 436 = .ok (.iconst 1, 1) := by decide +kernel
theorem d_LW_law_437 : decode code 437 = .ok (.iadd, 1) := by decide +kernel
theorem d_LW_law_438 : decode code 438 = .ok (.iaload, 1) := by decide +kernel
theorem d_LW_law_439 : decode code 439 = .ok (.invokevirtual 70, 3) := by decide +kernel
theorem d_LW_law_442 : decode code 442 = .ok (.aload_n 2, 1) := by decide +kernel
theorem d_LW_law_443 : decode code 443 = .ok (.aload_n 0, 1) := by decide +kernel
theorem d_LW_law_444 : decode code 444 = .ok (.iload_n 3, 1) := by decide +kernel
theorem d_LW_law_445 : decode code 445 = .ok (.iconst 1, 1) := by decide +kernel
theorem d_LW_law_446 : decode code 446 = .ok (.iadd, 1) := by decide +kernel
theorem d_LW_law_447 : decode code 447 = .ok (.iaload, 1) := by decide +kernel
theorem d_LW_law_448 : decode code 448 = .ok (.invokevirtual 73, 3) := by decide +kernel
theorem d_LW_law_451 : decode code 451 = .ok (.if_icmp .eq 130, 3) := by decide +kernel
theorem d_LW_law_454 : decode code 454 = .ok (.iconst 0, 1) := by decide +kernel
theorem d_LW_law_455 : decode code 455 = .ok (.ireturn, 1) := by decide +kernel
theorem d_LW_law_456 : decode code 456 = .ok (.aload_n 1, 1) := by decide +kernel
theorem d_LW_law_457 : decode code 457 = .ok (.aload_n 0, 1) := by decide +kernel
theorem d_LW_law_458 : decode code 458 = .ok (.iload_n 3, 1) := by decide +kernel
theorem d_LW_law_459 : decode code 459 = .ok (.iconst 1, 1) := by decide +kernel
theorem d_LW_law_460 : decode code 460 = .ok (.iadd, 1) := by decide +kernel
theorem d_LW_law_461 : decode code 461 = .ok (.iaload, 1) := by decide +kernel
theorem d_LW_law_462 : decode code 462 = .ok (.aload_n 0, 1) := by decide +kernel
theorem d_LW_law_463 : decode code 463 = .ok (.iload_n 3, 1) := by decide +kernel
theorem d_LW_law_464 : decode code 464 = .ok (.iconst 2, 1) := by decide +kernel
theorem d_LW_law_465 : decode code 465 = .ok (.iadd, 1) := by decide +kernel
theorem d_LW_law_466 : decode code 466 = .ok (.iaload, 1) := by decide +kernel
theorem d_LW_law_467 : decode code 467 = .ok (.invokevirtual 74, 3) := by decide +kernel
theorem d_LW_law_470 : decode code 470 = .ok (.aload_n 2, 1) := by decide +kernel
theorem d_LW_law_471 : decode code 471 = .ok (.aload_n 0, 1) := by decide +kernel
theorem d_LW_law_472 : decode code 472 = .ok (.iload_n 3, 1) := by decide +kernel
theorem d_LW_law_473 : decode code 473 = .ok (.iconst 1, 1) := by decide +kernel
theorem d_LW_law_474 : decode code 474 = .ok (.iadd, 1) := by decide +kernel
theorem d_LW_law_475 : decode code 475 = .ok (.iaload, 1) := by decide +kernel
theorem d_LW_law_476 : decode code 476 = .ok (.aload_n 0, 1) := by decide +kernel
theorem d_LW_law_477 : decode code 477 = .ok (.iload_n 3, 1) := by decide +kernel
theorem d_LW_law_478 : decode code 478 = .ok (.iconst 2, 1) := by decide +kernel
theorem d_LW_law_479 : decode code 479 = .ok (.iadd, 1) := by decide +kernel
theorem d_LW_law_480 : decode code 480 = .ok (.iaload, 1) := by decide +kernel
theorem d_LW_law_481 : decode code 481 = .ok (.invokevirtual 78, 3) := by decide +kernel
theorem d_LW_law_484 : decode code 484 = .ok (.if_icmp .eq 97, 3) := by decide +kernel
theorem d_LW_law_487 : decode code 487 = .ok (.iconst 0, 1) := by decide +kernel
theorem d_LW_law_488 : decode code 488 = .ok (.ireturn, 1) := by decide +kernel
theorem d_LW_law_489 : decode code 489 = .ok (.aload_n 1, 1) := by decide +kernel
theorem d_LW_law_490 : decode code 490 = .ok (.aload_n 0, 1) := by decide +kernel
theorem d_LW_law_491 : decode code 491 = .ok (.iload_n 3, 1) := by decide +kernel
theorem d_LW_law_492 : decode code 492 = .ok (.iconst 1, 1) := by decide +kernel
theorem d_LW_law_493 : decode code 493 = .ok (.iadd, 1) := by decide +kernel
theorem d_LW_law_494 : decode code 494 = .ok (.iaload, 1) := by decide +kernel
theorem d_LW_law_495 : decode code 495 = .ok (.aload_n 0, 1) := by decide +kernel
theorem d_LW_law_496 : decode code 496 = .ok (.iload_n 3, 1) := by decide +kernel
theorem d_LW_law_497 : decode code 497 = .ok (.iconst 2, 1) := by decide +kernel
theorem d_LW_law_498 : decode code 498 = .ok (.iadd, 1) := by decide +kernel
theorem d_LW_law_499 : decode code 499 = .ok (.iaload, 1) := by decide +kernel
theorem d_LW_law_500 : decode code 500 = .ok (.invokevirtual 79, 3) := by decide +kernel
theorem d_LW_law_503 : decode code 503 = .ok (.aload_n 2, 1) := by decide +kernel
theorem d_LW_law_504 : decode code 504 = .ok (.aload_n 0, 1) := by decide +kernel
theorem d_LW_law_505 : decode code 505 = .ok (.iload_n 3, 1) := by decide +kernel
theorem d_LW_law_506 : decode code 506 = .ok (.iconst 1, 1) := by decide +kernel
theorem d_LW_law_507 : decode code 507 = .ok (.iadd, 1) := by decide +kernel
theorem d_LW_law_508 : decode code 508 = .ok (.iaload, 1) := by decide +kernel
theorem d_LW_law_509 : decode code 509 = .ok (.aload_n 0, 1) := by decide +kernel
theorem d_LW_law_510 : decode code 510 = .ok (.iload_n 3, 1) := by decide +kernel
theorem d_LW_law_511 : decode code 511 = .ok (.iconst 2, 1) := by decide +kernel
theorem d_LW_law_512 : decode code 512 = .ok (.iadd, 1) := by decide +kernel
theorem d_LW_law_513 : decode code 513 = .ok (.iaload, 1) := by decide +kernel
theorem d_LW_law_514 : decode code 514 = .ok (.invokevirtual 82, 3) := by decide +kernel
theorem d_LW_law_517 : decode code 517 = .ok (.if_icmp .eq 64, 3) := by decide +kernel
theorem d_LW_law_520 : decode code 520 = .ok (.iconst 0, 1) := by decide +kernel
theorem d_LW_law_521 : decode code 521 = .ok (.ireturn, 1) := by decide +kernel
theorem d_LW_law_522 : decode code 522 = .ok (.aload_n 1, 1) := by decide +kernel
theorem d_LW_law_523 : decode code 523 = .ok (.aload_n 0, 1) := by decide +kernel
theorem d_LW_law_524 : decode code 524 = .ok (.iload_n 3, 1) := by decide +kernel
theorem d_LW_law_525 : decode code 525 = .ok (.iconst 1, 1) := by decide +kernel
theorem d_LW_law_526 : decode code 526 = .ok (.iadd, 1) := by decide +kernel
theorem d_LW_law_527 : decode code 527 = .ok (.iaload, 1) := by decide +kernel
theorem d_LW_law_528 : decode code 528 = .ok (.aload_n 0, 1) := by decide +kernel
theorem d_LW_law_529 : decode code 529 = .ok (.iload_n 3, 1) := by decide +kernel
theorem d_LW_law_530 : decode code 530 = .ok (.iconst 2, 1) := by decide +kernel
theorem d_LW_law_531 : decode code 531 = .ok (.iadd, 1) := by decide +kernel
theorem d_LW_law_532 : decode code 532 = .ok (.iaload, 1) := by decide +kernel
theorem d_LW_law_533 : decode code 533 = .ok (.aload_n 0, 1) := by decide +kernel
theorem d_LW_law_534 : decode code 534 = .ok (.iload_n 3, 1) := by decide +kernel
theorem d_LW_law_535 : decode code 535 = .ok (.iconst 3, 1) := by decide +kernel
theorem d_LW_law_536 : decode code 536 = .ok (.iadd, 1) := by decide +kernel
theorem d_LW_law_537 : decode code 537 = .ok (.iaload, 1) := by decide +kernel
theorem d_LW_law_538 : decode code 538 = .ok (.ifCond .eq 7, 3) := by decide +kernel
theorem d_LW_law_541 : decode code 541 = .ok (.iconst 1, 1) := by decide +kernel
theorem d_LW_law_542 : decode code 542 = .ok (.goto 4, 3) := by decide +kernel
theorem d_LW_law_545 : decode code 545 = .ok (.iconst 0, 1) := by decide +kernel
theorem d_LW_law_546 : decode code 546 = .ok (.invokevirtual 83, 3) := by decide +kernel
theorem d_LW_law_549 : decode code 549 = .ok (.aload_n 2, 1) := by decide +kernel
theorem d_LW_law_550 : decode code 550 = .ok (.aload_n 0, 1) := by decide +kernel
theorem d_LW_law_551 : decode code 551 = .ok (.iload_n 3, 1) := by decide +kernel
theorem d_LW_law_552 : decode code 552 = .ok (.iconst 1, 1) := by decide +kernel
theorem d_LW_law_553 : decode code 553 = .ok (.iadd, 1) := by decide +kernel
theorem d_LW_law_554 : decode code 554 = .ok (.iaload, 1) := by decide +kernel
theorem d_LW_law_555 : decode code 555 = .ok (.aload_n 0, 1) := by decide +kernel
theorem d_LW_law_556 : decode code 556 = .ok (.iload_n 3, 1) := by decide +kernel
theorem d_LW_law_557 : decode code 557 = .ok (.iconst 2, 1) := by decide +kernel
theorem d_LW_law_558 : decode code 558 = .ok (.iadd, 1) := by decide +kernel
theorem d_LW_law_559 : decode code 559 = .ok (.iaload, 1) := by decide +kernel
theorem d_LW_law_560 : decode code 560 = .ok (.aload_n 0, 1) := by decide +kernel
theorem d_LW_law_561 : decode code 561 = .ok (.iload_n 3, 1) := by decide +kernel
theorem d_LW_law_562 : decode code 562 = .ok (.iconst 3, 1) := by decide +kernel
theorem d_LW_law_563 : decode code 563 = .ok (.iadd, 1) := by decide +kernel
theorem d_LW_law_564 : decode code 564 = .ok (.iaload, 1) := by decide +kernel
theorem d_LW_law_565 : decode code 565 = .ok (.ifCond .eq 7, 3) := by decide +kernel
theorem d_LW_law_568 : decode code 568 = .ok (.iconst 1, 1) := by decide +kernel
theorem d_LW_law_569 : decode code 569 = .ok (.goto 4, 3) := by decide +kernel
theorem d_LW_law_572 : decode code 572 = .ok (.iconst 0, 1) := by decide +kernel
theorem d_LW_law_573 : decode code 573 = .ok (.invokevirtual 87, 3) := by decide +kernel
theorem d_LW_law_576 : decode code 576 = .ok (.if_icmp .eq 5, 3) := by decide +kernel
theorem d_LW_law_579 : decode code 579 = .ok (.iconst 0, 1) := by decide +kernel
theorem d_LW_law_580 : decode code 580 = .ok (.ireturn, 1) := by decide +kernel
theorem d_LW_law_581 : decode code 581 = .ok (.iinc 3 4, 3) := by decide +kernel
theorem d_LW_law_584 : decode code 584 = .ok (.goto (-566), 3) := by decide +kernel
theorem d_LW_law_587 : decode code 587 = .ok (.iconst 1, 1) := by decide +kernel
theorem d_LW_law_588 : decode code 588 = .ok (.ireturn, 1) := by decide +kernel
theorem c_LW_7 : Cond.classLink "CodePointSetsLaw" 7 "CodePointSets" ∈ wWL := wIn 16 (by decide +kernel) (by decide +kernel)
theorem n_LW_7 : wCN "CodePointSetsLaw" 7 6 := ⟨("CodePointSets", wT_CP, 6), rfl, c_LW_7, wIn 17 (by decide +kernel) (by decide +kernel), wIn 1 (by decide +kernel) (by decide +kernel)⟩
theorem l_LW_9 : wCl "CodePointSetsLaw" 9 M_CP_init := Or.inl (wIn 18 (by decide +kernel) (by decide +kernel))
theorem l_LW_13 : wCl "CodePointSetsLaw" 13 M_CP_type := Or.inl (wIn 196 (by decide +kernel) (by decide +kernel))
theorem l_LW_18 : wCl "CodePointSetsLaw" 18 M_CP_wipe := Or.inl (wIn 208 (by decide +kernel) (by decide +kernel))
theorem l_LW_22 : wCl "CodePointSetsLaw" 22 M_CP_length := Or.inl (wIn 216 (by decide +kernel) (by decide +kernel))
theorem l_LW_27 : wCl "CodePointSetsLaw" 27 M_CP_at := Or.inl (wIn 220 (by decide +kernel) (by decide +kernel))
theorem l_LW_32 : wCl "CodePointSetsLaw" 32 M_CP_apply := Or.inl (wIn 228 (by decide +kernel) (by decide +kernel))
theorem l_LW_36 : wCl "CodePointSetsLaw" 36 M_CP_print := Or.inl (wIn 512 (by decide +kernel) (by decide +kernel))
theorem l_LW_40 : wCl "CodePointSetsLaw" 40 M_CP_combine := Or.inl (wIn 550 (by decide +kernel) (by decide +kernel))
theorem l_LW_45 : wCl "CodePointSetsLaw" 45 M_CP_turn := Or.inl (wIn 559 (by decide +kernel) (by decide +kernel))
theorem l_LW_49 : wCl "CodePointSetsLaw" 49 M_CP_close := Or.inl (wIn 564 (by decide +kernel) (by decide +kernel))
theorem l_LW_53 : wCl "CodePointSetsLaw" 53 M_CP_contains := Or.inl (wIn 593 (by decide +kernel) (by decide +kernel))
theorem l_LW_58 : wCl "CodePointSetsLaw" 58 M_CP_has := Or.inl (wIn 598 (by decide +kernel) (by decide +kernel))
theorem l_LW_62 : wCl "CodePointSetsLaw" 62 M_CP_includes := Or.inl (wIn 611 (by decide +kernel) (by decide +kernel))
theorem l_LW_66 : wCl "CodePointSetsLaw" 66 M_CP_size := Or.inl (wIn 615 (by decide +kernel) (by decide +kernel))
theorem l_LW_70 : wCl "CodePointSetsLaw" 70 M_CP_strings := Or.inl (wIn 619 (by decide +kernel) (by decide +kernel))
theorem l_LW_74 : wCl "CodePointSetsLaw" 74 M_CP_edge := Or.inl (wIn 623 (by decide +kernel) (by decide +kernel))
theorem l_LW_79 : wCl "CodePointSetsLaw" 79 M_CP_nth := Or.inl (wIn 627 (by decide +kernel) (by decide +kernel))
theorem l_LW_83 : wCl "CodePointSetsLaw" 83 M_CP_span := Or.inl (wIn 635 (by decide +kernel) (by decide +kernel))
theorem c_LW_10 : Cond.classLink "CodePointSetsLaw" 10 "CodePointSetsModel" ∈ wWL := wIn 647 (by decide +kernel) (by decide +kernel)
theorem n_LW_10 : wCN "CodePointSetsLaw" 10 7 := ⟨("CodePointSetsModel", wT_MO, 16), rfl, c_LW_10, wIn 648 (by decide +kernel) (by decide +kernel), wIn 8 (by decide +kernel) (by decide +kernel)⟩
theorem l_LW_12 : wCl "CodePointSetsLaw" 12 M_MO_init := Or.inl (wIn 649 (by decide +kernel) (by decide +kernel))
theorem l_LW_17 : wCl "CodePointSetsLaw" 17 M_MO_type := Or.inl (wIn 704 (by decide +kernel) (by decide +kernel))
theorem l_LW_21 : wCl "CodePointSetsLaw" 21 M_MO_wipe := Or.inl (wIn 708 (by decide +kernel) (by decide +kernel))
theorem l_LW_26 : wCl "CodePointSetsLaw" 26 M_MO_length := Or.inl (wIn 712 (by decide +kernel) (by decide +kernel))
theorem l_LW_31 : wCl "CodePointSetsLaw" 31 M_MO_at := Or.inl (wIn 716 (by decide +kernel) (by decide +kernel))
theorem l_LW_35 : wCl "CodePointSetsLaw" 35 M_MO_apply := Or.inl (wIn 720 (by decide +kernel) (by decide +kernel))
theorem l_LW_39 : wCl "CodePointSetsLaw" 39 M_MO_print := Or.inl (wIn 873 (by decide +kernel) (by decide +kernel))
theorem l_LW_44 : wCl "CodePointSetsLaw" 44 M_MO_combine := Or.inl (wIn 892 (by decide +kernel) (by decide +kernel))
theorem l_LW_48 : wCl "CodePointSetsLaw" 48 M_MO_turn := Or.inl (wIn 900 (by decide +kernel) (by decide +kernel))
theorem l_LW_52 : wCl "CodePointSetsLaw" 52 M_MO_close := Or.inl (wIn 904 (by decide +kernel) (by decide +kernel))
theorem l_LW_57 : wCl "CodePointSetsLaw" 57 M_MO_contains := Or.inl (wIn 916 (by decide +kernel) (by decide +kernel))
theorem l_LW_61 : wCl "CodePointSetsLaw" 61 M_MO_has := Or.inl (wIn 920 (by decide +kernel) (by decide +kernel))
theorem l_LW_65 : wCl "CodePointSetsLaw" 65 M_MO_includes := Or.inl (wIn 924 (by decide +kernel) (by decide +kernel))
theorem l_LW_69 : wCl "CodePointSetsLaw" 69 M_MO_size := Or.inl (wIn 928 (by decide +kernel) (by decide +kernel))
theorem l_LW_73 : wCl "CodePointSetsLaw" 73 M_MO_strings := Or.inl (wIn 929 (by decide +kernel) (by decide +kernel))
theorem l_LW_78 : wCl "CodePointSetsLaw" 78 M_MO_edge := Or.inl (wIn 933 (by decide +kernel) (by decide +kernel))
theorem l_LW_82 : wCl "CodePointSetsLaw" 82 M_MO_nth := Or.inl (wIn 937 (by decide +kernel) (by decide +kernel))
theorem l_LW_87 : wCl "CodePointSetsLaw" 87 M_MO_span := Or.inl (wIn 941 (by decide +kernel) (by decide +kernel))

