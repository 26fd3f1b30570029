/-! the law: names, decode rows, links: written by wip/gen/lw1.py -/
def M_LW_law : wM := (⟨"CodePointSetsLaw", "law", "([I)Z"⟩, code, 4, some .boolean)
theorem d_LW_law_0 : decode M_LW_law.2.1 0 = .ok (.new 7, 3) := by decide +kernel
theorem d_LW_law_3 : decode M_LW_law.2.1 3 = .ok (.dup, 1) := by decide +kernel
theorem d_LW_law_4 : decode M_LW_law.2.1 4 = .ok (.invokespecial 9, 3) := by decide +kernel
theorem d_LW_law_7 : decode M_LW_law.2.1 7 = .ok (.astore_n 1, 1) := by decide +kernel
theorem d_LW_law_8 : decode M_LW_law.2.1 8 = .ok (.new 10, 3) := by decide +kernel
theorem d_LW_law_11 : decode M_LW_law.2.1 11 = .ok (.dup, 1) := by decide +kernel
theorem d_LW_law_12 : decode M_LW_law.2.1 12 = .ok (.invokespecial 12, 3) := by decide +kernel
theorem d_LW_law_15 : decode M_LW_law.2.1 15 = .ok (.astore_n 2, 1) := by decide +kernel
theorem d_LW_law_16 : decode M_LW_law.2.1 16 = .ok (.iconst 0, 1) := by decide +kernel
theorem d_LW_law_17 : decode M_LW_law.2.1 17 = .ok (.istore_n 3, 1) := by decide +kernel
theorem d_LW_law_18 : decode M_LW_law.2.1 18 = .ok (.iload_n 3, 1) := by decide +kernel
theorem d_LW_law_19 : decode M_LW_law.2.1 19 = .ok (.aload_n 0, 1) := by decide +kernel
theorem d_LW_law_20 : decode M_LW_law.2.1 20 = .ok (.arraylength, 1) := by decide +kernel
theorem d_LW_law_21 : decode M_LW_law.2.1 21 = .ok (.iconst 4, 1) := by decide +kernel
theorem d_LW_law_22 : decode M_LW_law.2.1 22 = .ok (.isub, 1) := by decide +kernel
theorem d_LW_law_23 : decode M_LW_law.2.1 23 = .ok (.if_icmp .gt 564, 3) := by decide +kernel
theorem d_LW_law_26 : decode M_LW_law.2.1 26 = .ok (.aload_n 0, 1) := by decide +kernel
theorem d_LW_law_27 : decode M_LW_law.2.1 27 = .ok (.iload_n 3, 1) := by decide +kernel
theorem d_LW_law_28 : decode M_LW_law.2.1 28 = .ok (.iaload, 1) := by decide +kernel
theorem d_LW_law_29 : decode M_LW_law.2.1 29 = .ok (.bipush 31, 2) := by decide +kernel
theorem d_LW_law_31 : decode M_LW_law.2.1 31 = .ok (.iand, 1) := by decide +kernel
theorem d_LW_law_32 : decode M_LW_law.2.1 32 = .ok (.tableswitch 549 0 16 #[84, 107, 118, 131, 154, 177, 200, 243, 266, 289, 322, 345, 378, 401, 424, 457, 490], 84) := by decide +kernel
theorem d_LW_law_116 : decode M_LW_law.2.1 116 = .ok (.aload_n 1, 1) := by decide +kernel
theorem d_LW_law_117 : decode M_LW_law.2.1 117 = .ok (.aload_n 0, 1) := by decide +kernel
theorem d_LW_law_118 : decode M_LW_law.2.1 118 = .ok (.iload_n 3, 1) := by decide +kernel
theorem d_LW_law_119 : decode M_LW_law.2.1 119 = .ok (.iconst 1, 1) := by decide +kernel
theorem d_LW_law_120 : decode M_LW_law.2.1 120 = .ok (.iadd, 1) := by decide +kernel
theorem d_LW_law_121 : decode M_LW_law.2.1 121 = .ok (.iaload, 1) := by decide +kernel
theorem d_LW_law_122 : decode M_LW_law.2.1 122 = .ok (.invokevirtual 13, 3) := by decide +kernel
theorem d_LW_law_125 : decode M_LW_law.2.1 125 = .ok (.aload_n 2, 1) := by decide +kernel
theorem d_LW_law_126 : decode M_LW_law.2.1 126 = .ok (.aload_n 0, 1) := by decide +kernel
theorem d_LW_law_127 : decode M_LW_law.2.1 127 = .ok (.iload_n 3, 1) := by decide +kernel
theorem d_LW_law_128 : decode M_LW_law.2.1 128 = .ok (.iconst 1, 1) := by decide +kernel
theorem d_LW_law_129 : decode M_LW_law.2.1 129 = .ok (.iadd, 1) := by decide +kernel
theorem d_LW_law_130 : decode M_LW_law.2.1 130 = .ok (.iaload, 1) := by decide +kernel
theorem d_LW_law_131 : decode M_LW_law.2.1 131 = .ok (.invokevirtual 17, 3) := by decide +kernel
theorem d_LW_law_134 : decode M_LW_law.2.1 134 = .ok (.if_icmp .eq 447, 3) := by decide +kernel
theorem d_LW_law_137 : decode M_LW_law.2.1 137 = .ok (.iconst 0, 1) := by decide +kernel
theorem d_LW_law_138 : decode M_LW_law.2.1 138 = .ok (.ireturn, 1) := by decide +kernel
theorem d_LW_law_139 : decode M_LW_law.2.1 139 = .ok (.aload_n 1, 1) := by decide +kernel
theorem d_LW_law_140 : decode M_LW_law.2.1 140 = .ok (.invokevirtual 18, 3) := by decide +kernel
theorem d_LW_law_143 : decode M_LW_law.2.1 143 = .ok (.aload_n 2, 1) := by decide +kernel
theorem d_LW_law_144 : decode M_LW_law.2.1 144 = .ok (.invokevirtual 21, 3) := by decide +kernel
theorem d_LW_law_147 : decode M_LW_law.2.1 147 = .ok (.goto 434, 3) := by decide +kernel
theorem d_LW_law_150 : decode M_LW_law.2.1 150 = .ok (.aload_n 1, 1) := by decide +kernel
theorem d_LW_law_151 : decode M_LW_law.2.1 151 = .ok (.invokevirtual 22, 3) := by decide +kernel
theorem d_LW_law_154 : decode M_LW_law.2.1 154 = .ok (.aload_n 2, 1) := by decide +kernel
theorem d_LW_law_155 : decode M_LW_law.2.1 155 = .ok (.invokevirtual 26, 3) := by decide +kernel
theorem d_LW_law_158 : decode M_LW_law.2.1 158 = .ok (.if_icmp .eq 423, 3) := by decide +kernel
theorem d_LW_law_161 : decode M_LW_law.2.1 161 = .ok (.iconst 0, 1) := by decide +kernel
theorem d_LW_law_162 : decode M_LW_law.2.1 162 = .ok (.ireturn, 1) := by decide +kernel
theorem d_LW_law_163 : decode M_LW_law.2.1 163 = .ok (.aload_n 1, 1) := by decide +kernel
theorem d_LW_law_164 : decode M_LW_law.2.1 164 = .ok (.aload_n 0, 1) := by decide +kernel
theorem d_LW_law_165 : decode M_LW_law.2.1 165 = .ok (.iload_n 3, 1) := by decide +kernel
theorem d_LW_law_166 : decode M_LW_law.2.1 166 = .ok (.iconst 1, 1) := by decide +kernel
theorem d_LW_law_167 : decode M_LW_law.2.1 167 = .ok (.iadd, 1) := by decide +kernel
theorem d_LW_law_168 : decode M_LW_law.2.1 168 = .ok (.iaload, 1) := by decide +kernel
theorem d_LW_law_169 : decode M_LW_law.2.1 169 = .ok (.invokevirtual 27, 3) := by decide +kernel
theorem d_LW_law_172 : decode M_LW_law.2.1 172 = .ok (.aload_n 2, 1) := by decide +kernel
theorem d_LW_law_173 : decode M_LW_law.2.1 173 = .ok (.aload_n 0, 1) := by decide +kernel
theorem d_LW_law_174 : decode M_LW_law.2.1 174 = .ok (.iload_n 3, 1) := by decide +kernel
theorem d_LW_law_175 : decode M_LW_law.2.1 175 = .ok (.iconst 1, 1) := by decide +kernel
theorem d_LW_law_176 : decode M_LW_law.2.1 176 = .ok (.iadd, 1) := by decide +kernel
theorem d_LW_law_177 : decode M_LW_law.2.1 177 = .ok (.iaload, 1) := by decide +kernel
theorem d_LW_law_178 : decode M_LW_law.2.1 178 = .ok (.invokevirtual 31, 3) := by decide +kernel
theorem d_LW_law_181 : decode M_LW_law.2.1 181 = .ok (.if_icmp .eq 400, 3) := by decide +kernel
theorem d_LW_law_184 : decode M_LW_law.2.1 184 = .ok (.iconst 0, 1) := by decide +kernel
theorem d_LW_law_185 : decode M_LW_law.2.1 185 = .ok (.ireturn, 1) := by decide +kernel
theorem d_LW_law_186 : decode M_LW_law.2.1 186 = .ok (.aload_n 1, 1) := by decide +kernel
theorem d_LW_law_187 : decode M_LW_law.2.1 187 = .ok (.aload_n 0, 1) := by decide +kernel
theorem d_LW_law_188 : decode M_LW_law.2.1 188 = .ok (.iload_n 3, 1) := by decide +kernel
theorem d_LW_law_189 : decode M_LW_law.2.1 189 = .ok (.iconst 1, 1) := by decide +kernel
theorem d_LW_law_190 : decode M_LW_law.2.1 190 = .ok (.iadd, 1) := by decide +kernel
theorem d_LW_law_191 : decode M_LW_law.2.1 191 = .ok (.iaload, 1) := by decide +kernel
theorem d_LW_law_192 : decode M_LW_law.2.1 192 = .ok (.invokevirtual 32, 3) := by decide +kernel
theorem d_LW_law_195 : decode M_LW_law.2.1 195 = .ok (.aload_n 2, 1) := by decide +kernel
theorem d_LW_law_196 : decode M_LW_law.2.1 196 = .ok (.aload_n 0, 1) := by decide +kernel
theorem d_LW_law_197 : decode M_LW_law.2.1 197 = .ok (.iload_n 3, 1) := by decide +kernel
theorem d_LW_law_198 : decode M_LW_law.2.1 198 = .ok (.iconst 1, 1) := by decide +kernel
theorem d_LW_law_199 : decode M_LW_law.2.1 199 = .ok (.iadd, 1) := by decide +kernel
theorem d_LW_law_200 : decode M_LW_law.2.1 200 = .ok (.iaload, 1) := by decide +kernel
theorem d_LW_law_201 : decode M_LW_law.2.1 201 = .ok (.invokevirtual 35, 3) := by decide +kernel
theorem d_LW_law_204 : decode M_LW_law.2.1 204 = .ok (.if_icmp .eq 377, 3) := by decide +kernel
theorem d_LW_law_207 : decode M_LW_law.2.1 207 = .ok (.iconst 0, 1) := by decide +kernel
theorem d_LW_law_208 : decode M_LW_law.2.1 208 = .ok (.ireturn, 1) := by decide +kernel
theorem d_LW_law_209 : decode M_LW_law.2.1 209 = .ok (.aload_n 1, 1) := by decide +kernel
theorem d_LW_law_210 : decode M_LW_law.2.1 210 = .ok (.aload_n 0, 1) := by decide +kernel
theorem d_LW_law_211 : decode M_LW_law.2.1 211 = .ok (.iload_n 3, 1) := by decide +kernel
theorem d_LW_law_212 : decode M_LW_law.2.1 212 = .ok (.iconst 1, 1) := by decide +kernel
theorem d_LW_law_213 : decode M_LW_law.2.1 213 = .ok (.iadd, 1) := by decide +kernel
theorem d_LW_law_214 : decode M_LW_law.2.1 214 = .ok (.iaload, 1) := by decide +kernel
theorem d_LW_law_215 : decode M_LW_law.2.1 215 = .ok (.invokevirtual 36, 3) := by decide +kernel
theorem d_LW_law_218 : decode M_LW_law.2.1 218 = .ok (.aload_n 2, 1) := by decide +kernel
theorem d_LW_law_219 : decode M_LW_law.2.1 219 = .ok (.aload_n 0, 1) := by decide +kernel
theorem d_LW_law_220 : decode M_LW_law.2.1 220 = .ok (.iload_n 3, 1) := by decide +kernel
theorem d_LW_law_221 : decode M_LW_law.2.1 221 = .ok (.iconst 1, 1) := by decide +kernel
theorem d_LW_law_222 : decode M_LW_law.2.1 222 = .ok (.iadd, 1) := by decide +kernel
theorem d_LW_law_223 : decode M_LW_law.2.1 223 = .ok (.iaload, 1) := by decide +kernel
theorem d_LW_law_224 : decode M_LW_law.2.1 224 = .ok (.invokevirtual 39, 3) := by decide +kernel
theorem d_LW_law_227 : decode M_LW_law.2.1 227 = .ok (.if_icmp .eq 354, 3) := by decide +kernel
theorem d_LW_law_230 : decode M_LW_law.2.1 230 = .ok (.iconst 0, 1) := by decide +kernel
theorem d_LW_law_231 : decode M_LW_law.2.1 231 = .ok (.ireturn, 1) := by decide +kernel
theorem d_LW_law_232 : decode M_LW_law.2.1 232 = .ok (.aload_n 1, 1) := by decide +kernel
theorem d_LW_law_233 : decode M_LW_law.2.1 233 = .ok (.aload_n 0, 1) := by decide +kernel
theorem d_LW_law_234 : decode M_LW_law.2.1 234 = .ok (.iload_n 3, 1) := by decide +kernel
theorem d_LW_law_235 : decode M_LW_law.2.1 235 = .ok (.iconst 1, 1) := by decide +kernel
theorem d_LW_law_236 : decode M_LW_law.2.1 236 = .ok (.iadd, 1) := by decide +kernel
theorem d_LW_law_237 : decode M_LW_law.2.1 237 = .ok (.iaload, 1) := by decide +kernel
theorem d_LW_law_238 : decode M_LW_law.2.1 238 = .ok (.aload_n 0, 1) := by decide +kernel
theorem d_LW_law_239 : decode M_LW_law.2.1 239 = .ok (.iload_n 3, 1) := by decide +kernel
theorem d_LW_law_240 : decode M_LW_law.2.1 240 = .ok (.iconst 2, 1) := by decide +kernel
theorem d_LW_law_241 : decode M_LW_law.2.1 241 = .ok (.iadd, 1) := by decide +kernel
theorem d_LW_law_242 : decode M_LW_law.2.1 242 = .ok (.iaload, 1) := by decide +kernel
theorem d_LW_law_243 : decode M_LW_law.2.1 243 = .ok (.aload_n 0, 1) := by decide +kernel
theorem d_LW_law_244 : decode M_LW_law.2.1 244 = .ok (.iload_n 3, 1) := by decide +kernel
theorem d_LW_law_245 : decode M_LW_law.2.1 245 = .ok (.iconst 3, 1) := by decide +kernel
theorem d_LW_law_246 : decode M_LW_law.2.1 246 = .ok (.iadd, 1) := by decide +kernel
theorem d_LW_law_247 : decode M_LW_law.2.1 247 = .ok (.iaload, 1) := by decide +kernel
theorem d_LW_law_248 : decode M_LW_law.2.1 248 = .ok (.invokevirtual 40, 3) := by decide +kernel
theorem d_LW_law_251 : decode M_LW_law.2.1 251 = .ok (.aload_n 2, 1) := by decide +kernel
theorem d_LW_law_252 : decode M_LW_law.2.1 252 = .ok (.aload_n 0, 1) := by decide +kernel
theorem d_LW_law_253 : decode M_LW_law.2.1 253 = .ok (.iload_n 3, 1) := by decide +kernel
theorem d_LW_law_254 : decode M_LW_law.2.1 254 = .ok (.iconst 1, 1) := by decide +kernel
theorem d_LW_law_255 : decode M_LW_law.2.1 255 = .ok (.iadd, 1) := by decide +kernel
theorem d_LW_law_256 : decode M_LW_law.2.1 256 = .ok (.iaload, 1) := by decide +kernel
theorem d_LW_law_257 : decode M_LW_law.2.1 257 = .ok (.aload_n 0, 1) := by decide +kernel
theorem d_LW_law_258 : decode M_LW_law.2.1 258 = .ok (.iload_n 3, 1) := by decide +kernel
theorem d_LW_law_259 : decode M_LW_law.2.1 259 = .ok (.iconst 2, 1) := by decide +kernel
theorem d_LW_law_260 : decode M_LW_law.2.1 260 = .ok (.iadd, 1) := by decide +kernel
theorem d_LW_law_261 : decode M_LW_law.2.1 261 = .ok (.iaload, 1) := by decide +kernel
theorem d_LW_law_262 : decode M_LW_law.2.1 262 = .ok (.aload_n 0, 1) := by decide +kernel
theorem d_LW_law_263 : decode M_LW_law.2.1 263 = .ok (.iload_n 3, 1) := by decide +kernel
theorem d_LW_law_264 : decode M_LW_law.2.1 264 = .ok (.iconst 3, 1) := by decide +kernel
theorem d_LW_law_265 : decode M_LW_law.2.1 265 = .ok (.iadd, 1) := by decide +kernel
theorem d_LW_law_266 : decode M_LW_law.2.1 266 = .ok (.iaload, 1) := by decide +kernel
theorem d_LW_law_267 : decode M_LW_law.2.1 267 = .ok (.invokevirtual 44, 3) := by decide +kernel
theorem d_LW_law_270 : decode M_LW_law.2.1 270 = .ok (.if_icmp .eq 311, 3) := by decide +kernel
theorem d_LW_law_273 : decode M_LW_law.2.1 273 = .ok (.iconst 0, 1) := by decide +kernel
theorem d_LW_law_274 : decode M_LW_law.2.1 274 = .ok (.ireturn, 1) := by decide +kernel
theorem d_LW_law_275 : decode M_LW_law.2.1 275 = .ok (.aload_n 1, 1) := by decide +kernel
theorem d_LW_law_276 : decode M_LW_law.2.1 276 = .ok (.aload_n 0, 1) := by decide +kernel
theorem d_LW_law_277 : decode M_LW_law.2.1 277 = .ok (.iload_n 3, 1) := by decide +kernel
theorem d_LW_law_278 : decode M_LW_law.2.1 278 = .ok (.iconst 1, 1) := by decide +kernel
theorem d_LW_law_279 : decode M_LW_law.2.1 279 = .ok (.iadd, 1) := by decide +kernel
theorem d_LW_law_280 : decode M_LW_law.2.1 280 = .ok (.iaload, 1) := by decide +kernel
theorem d_LW_law_281 : decode M_LW_law.2.1 281 = .ok (.invokevirtual 45, 3) := by decide +kernel
theorem d_LW_law_284 : decode M_LW_law.2.1 284 = .ok (.aload_n 2, 1) := by decide +kernel
theorem d_LW_law_285 : decode M_LW_law.2.1 285 = .ok (.aload_n 0, 1) := by decide +kernel
theorem d_LW_law_286 : decode M_LW_law.2.1 286 = .ok (.iload_n 3, 1) := by decide +kernel
theorem d_LW_law_287 : decode M_LW_law.2.1 287 = .ok (.iconst 1, 1) := by decide +kernel
theorem d_LW_law_288 : decode M_LW_law.2.1 288 = .ok (.iadd, 1) := by decide +kernel
theorem d_LW_law_289 : decode M_LW_law.2.1 289 = .ok (.iaload, 1) := by decide +kernel
theorem d_LW_law_290 : decode M_LW_law.2.1 290 = .ok (.invokevirtual 48, 3) := by decide +kernel
theorem d_LW_law_293 : decode M_LW_law.2.1 293 = .ok (.if_icmp .eq 288, 3) := by decide +kernel
theorem d_LW_law_296 : decode M_LW_law.2.1 296 = .ok (.iconst 0, 1) := by decide +kernel
theorem d_LW_law_297 : decode M_LW_law.2.1 297 = .ok (.ireturn, 1) := by decide +kernel
theorem d_LW_law_298 : decode M_LW_law.2.1 298 = .ok (.aload_n 1, 1) := by decide +kernel
theorem d_LW_law_299 : decode M_LW_law.2.1 299 = .ok (.aload_n 0, 1) := by decide +kernel
theorem d_LW_law_300 : decode M_LW_law.2.1 300 = .ok (.iload_n 3, 1) := by decide +kernel
theorem d_LW_law_301 : decode M_LW_law.2.1 301 = .ok (.iconst 1, 1) := by decide +kernel
theorem d_LW_law_302 : decode M_LW_law.2.1 302 = .ok (.iadd, 1) := by decide +kernel
theorem d_LW_law_303 : decode M_LW_law.2.1 303 = .ok (.iaload, 1) := by decide +kernel
theorem d_LW_law_304 : decode M_LW_law.2.1 304 = .ok (.invokevirtual 49, 3) := by decide +kernel
theorem d_LW_law_307 : decode M_LW_law.2.1 307 = .ok (.aload_n 2, 1) := by decide +kernel
theorem d_LW_law_308 : decode M_LW_law.2.1 308 = .ok (.aload_n 0, 1) := by decide +kernel
theorem d_LW_law_309 : decode M_LW_law.2.1 309 = .ok (.iload_n 3, 1) := by decide +kernel
theorem d_LW_law_310 : decode M_LW_law.2.1 310 = .ok (.iconst 1, 1) := by decide +kernel
theorem d_LW_law_311 : decode M_LW_law.2.1 311 = .ok (.iadd, 1) := by decide +kernel
theorem d_LW_law_312 : decode M_LW_law.2.1 312 = .ok (.iaload, 1) := by decide +kernel
theorem d_LW_law_313 : decode M_LW_law.2.1 313 = .ok (.invokevirtual 52, 3) := by decide +kernel
theorem d_LW_law_316 : decode M_LW_law.2.1 316 = .ok (.if_icmp .eq 265, 3) := by decide +kernel
theorem d_LW_law_319 : decode M_LW_law.2.1 319 = .ok (.iconst 0, 1) := by decide +kernel
theorem d_LW_law_320 : decode M_LW_law.2.1 320 = .ok (.ireturn, 1) := by decide +kernel
theorem d_LW_law_321 : decode M_LW_law.2.1 321 = .ok (.aload_n 1, 1) := by decide +kernel
theorem d_LW_law_322 : decode M_LW_law.2.1 322 = .ok (.aload_n 0, 1) := by decide +kernel
theorem d_LW_law_323 : decode M_LW_law.2.1 323 = .ok (.iload_n 3, 1) := by decide +kernel
theorem d_LW_law_324 : decode M_LW_law.2.1 324 = .ok (.iconst 1, 1) := by decide +kernel
theorem d_LW_law_325 : decode M_LW_law.2.1 325 = .ok (.iadd, 1) := by decide +kernel
theorem d_LW_law_326 : decode M_LW_law.2.1 326 = .ok (.iaload, 1) := by decide +kernel
theorem d_LW_law_327 : decode M_LW_law.2.1 327 = .ok (.aload_n 0, 1) := by decide +kernel
theorem d_LW_law_328 : decode M_LW_law.2.1 328 = .ok (.iload_n 3, 1) := by decide +kernel
theorem d_LW_law_329 : decode M_LW_law.2.1 329 = .ok (.iconst 2, 1) := by decide +kernel
theorem d_LW_law_330 : decode M_LW_law.2.1 330 = .ok (.iadd, 1) := by decide +kernel
theorem d_LW_law_331 : decode M_LW_law.2.1 331 = .ok (.iaload, 1) := by decide +kernel
theorem d_LW_law_332 : decode M_LW_law.2.1 332 = .ok (.invokevirtual 53, 3) := by decide +kernel
theorem d_LW_law_335 : decode M_LW_law.2.1 335 = .ok (.aload_n 2, 1) := by decide +kernel
theorem d_LW_law_336 : decode M_LW_law.2.1 336 = .ok (.aload_n 0, 1) := by decide +kernel
theorem d_LW_law_337 : decode M_LW_law.2.1 337 = .ok (.iload_n 3, 1) := by decide +kernel
theorem d_LW_law_338 : decode M_LW_law.2.1 338 = .ok (.iconst 1, 1) := by decide +kernel
theorem d_LW_law_339 : decode M_LW_law.2.1 339 = .ok (.iadd, 1) := by decide +kernel
theorem d_LW_law_340 : decode M_LW_law.2.1 340 = .ok (.iaload, 1) := by decide +kernel
theorem d_LW_law_341 : decode M_LW_law.2.1 341 = .ok (.aload_n 0, 1) := by decide +kernel
theorem d_LW_law_342 : decode M_LW_law.2.1 342 = .ok (.iload_n 3, 1) := by decide +kernel
theorem d_LW_law_343 : decode M_LW_law.2.1 343 = .ok (.iconst 2, 1) := by decide +kernel
theorem d_LW_law_344 : decode M_LW_law.2.1 344 = .ok (.iadd, 1) := by decide +kernel
theorem d_LW_law_345 : decode M_LW_law.2.1 345 = .ok (.iaload, 1) := by decide +kernel
theorem d_LW_law_346 : decode M_LW_law.2.1 346 = .ok (.invokevirtual 57, 3) := by decide +kernel
theorem d_LW_law_349 : decode M_LW_law.2.1 349 = .ok (.if_icmp .eq 232, 3) := by decide +kernel
theorem d_LW_law_352 : decode M_LW_law.2.1 352 = .ok (.iconst 0, 1) := by decide +kernel
theorem d_LW_law_353 : decode M_LW_law.2.1 353 = .ok (.ireturn, 1) := by decide +kernel
theorem d_LW_law_354 : decode M_LW_law.2.1 354 = .ok (.aload_n 1, 1) := by decide +kernel
theorem d_LW_law_355 : decode M_LW_law.2.1 355 = .ok (.aload_n 0, 1) := by decide +kernel
theorem d_LW_law_356 : decode M_LW_law.2.1 356 = .ok (.iload_n 3, 1) := by decide +kernel
theorem d_LW_law_357 : decode M_LW_law.2.1 357 = .ok (.iconst 1, 1) := by decide +kernel
theorem d_LW_law_358 : decode M_LW_law.2.1 358 = .ok (.iadd, 1) := by decide +kernel
theorem d_LW_law_359 : decode M_LW_law.2.1 359 = .ok (.iaload, 1) := by decide +kernel
theorem d_LW_law_360 : decode M_LW_law.2.1 360 = .ok (.invokevirtual 58, 3) := by decide +kernel
theorem d_LW_law_363 : decode M_LW_law.2.1 363 = .ok (.aload_n 2, 1) := by decide +kernel
theorem d_LW_law_364 : decode M_LW_law.2.1 364 = .ok (.aload_n 0, 1) := by decide +kernel
theorem d_LW_law_365 : decode M_LW_law.2.1 365 = .ok (.iload_n 3, 1) := by decide +kernel
theorem d_LW_law_366 : decode M_LW_law.2.1 366 = .ok (.iconst 1, 1) := by decide +kernel
theorem d_LW_law_367 : decode M_LW_law.2.1 367 = .ok (.iadd, 1) := by decide +kernel
theorem d_LW_law_368 : decode M_LW_law.2.1 368 = .ok (.iaload, 1) := by decide +kernel
theorem d_LW_law_369 : decode M_LW_law.2.1 369 = .ok (.invokevirtual 61, 3) := by decide +kernel
theorem d_LW_law_372 : decode M_LW_law.2.1 372 = .ok (.if_icmp .eq 209, 3) := by decide +kernel
theorem d_LW_law_375 : decode M_LW_law.2.1 375 = .ok (.iconst 0, 1) := by decide +kernel
theorem d_LW_law_376 : decode M_LW_law.2.1 376 = .ok (.ireturn, 1) := by decide +kernel
theorem d_LW_law_377 : decode M_LW_law.2.1 377 = .ok (.aload_n 1, 1) := by decide +kernel
theorem d_LW_law_378 : decode M_LW_law.2.1 378 = .ok (.aload_n 0, 1) := by decide +kernel
theorem d_LW_law_379 : decode M_LW_law.2.1 379 = .ok (.iload_n 3, 1) := by decide +kernel
theorem d_LW_law_380 : decode M_LW_law.2.1 380 = .ok (.iconst 1, 1) := by decide +kernel
theorem d_LW_law_381 : decode M_LW_law.2.1 381 = .ok (.iadd, 1) := by decide +kernel
theorem d_LW_law_382 : decode M_LW_law.2.1 382 = .ok (.iaload, 1) := by decide +kernel
theorem d_LW_law_383 : decode M_LW_law.2.1 383 = .ok (.aload_n 0, 1) := by decide +kernel
theorem d_LW_law_384 : decode M_LW_law.2.1 384 = .ok (.iload_n 3, 1) := by decide +kernel
theorem d_LW_law_385 : decode M_LW_law.2.1 385 = .ok (.iconst 2, 1) := by decide +kernel
theorem d_LW_law_386 : decode M_LW_law.2.1 386 = .ok (.iadd, 1) := by decide +kernel
theorem d_LW_law_387 : decode M_LW_law.2.1 387 = .ok (.iaload, 1) := by decide +kernel
theorem d_LW_law_388 : decode M_LW_law.2.1 388 = .ok (.invokevirtual 62, 3) := by decide +kernel
theorem d_LW_law_391 : decode M_LW_law.2.1 391 = .ok (.aload_n 2, 1) := by decide +kernel
theorem d_LW_law_392 : decode M_LW_law.2.1 392 = .ok (.aload_n 0, 1) := by decide +kernel
theorem d_LW_law_393 : decode M_LW_law.2.1 393 = .ok (.iload_n 3, 1) := by decide +kernel
theorem d_LW_law_394 : decode M_LW_law.2.1 394 = .ok (.iconst 1, 1) := by decide +kernel
theorem d_LW_law_395 : decode M_LW_law.2.1 395 = .ok (.iadd, 1) := by decide +kernel
theorem d_LW_law_396 : decode M_LW_law.2.1 396 = .ok (.iaload, 1) := by decide +kernel
theorem d_LW_law_397 : decode M_LW_law.2.1 397 = .ok (.aload_n 0, 1) := by decide +kernel
theorem d_LW_law_398 : decode M_LW_law.2.1 398 = .ok (.iload_n 3, 1) := by decide +kernel
theorem d_LW_law_399 : decode M_LW_law.2.1 399 = .ok (.iconst 2, 1) := by decide +kernel
theorem d_LW_law_400 : decode M_LW_law.2.1 400 = .ok (.iadd, 1) := by decide +kernel
theorem d_LW_law_401 : decode M_LW_law.2.1 401 = .ok (.iaload, 1) := by decide +kernel
theorem d_LW_law_402 : decode M_LW_law.2.1 402 = .ok (.invokevirtual 65, 3) := by decide +kernel
theorem d_LW_law_405 : decode M_LW_law.2.1 405 = .ok (.if_icmp .eq 176, 3) := by decide +kernel
theorem d_LW_law_408 : decode M_LW_law.2.1 408 = .ok (.iconst 0, 1) := by decide +kernel
theorem d_LW_law_409 : decode M_LW_law.2.1 409 = .ok (.ireturn, 1) := by decide +kernel
theorem d_LW_law_410 : decode M_LW_law.2.1 410 = .ok (.aload_n 1, 1) := by decide +kernel
theorem d_LW_law_411 : decode M_LW_law.2.1 411 = .ok (.aload_n 0, 1) := by decide +kernel
theorem d_LW_law_412 : decode M_LW_law.2.1 412 = .ok (.iload_n 3, 1) := by decide +kernel
theorem d_LW_law_413 : decode M_LW_law.2.1 413 = .ok (.iconst 1, 1) := by decide +kernel
theorem d_LW_law_414 : decode M_LW_law.2.1 414 = .ok (.iadd, 1) := by decide +kernel
theorem d_LW_law_415 : decode M_LW_law.2.1 415 = .ok (.iaload, 1) := by decide +kernel
theorem d_LW_law_416 : decode M_LW_law.2.1 416 = .ok (.invokevirtual 66, 3) := by decide +kernel
theorem d_LW_law_419 : decode M_LW_law.2.1 419 = .ok (.aload_n 2, 1) := by decide +kernel
theorem d_LW_law_420 : decode M_LW_law.2.1 420 = .ok (.aload_n 0, 1) := by decide +kernel
theorem d_LW_law_421 : decode M_LW_law.2.1 421 = .ok (.iload_n 3, 1) := by decide +kernel
theorem d_LW_law_422 : decode M_LW_law.2.1 422 = .ok (.iconst 1, 1) := by decide +kernel
theorem d_LW_law_423 : decode M_LW_law.2.1 423 = .ok (.iadd, 1) := by decide +kernel
theorem d_LW_law_424 : decode M_LW_law.2.1 424 = .ok (.iaload, 1) := by decide +kernel
theorem d_LW_law_425 : decode M_LW_law.2.1 425 = .ok (.invokevirtual 69, 3) := by decide +kernel
theorem d_LW_law_428 : decode M_LW_law.2.1 428 = .ok (.if_icmp .eq 153, 3) := by decide +kernel
theorem d_LW_law_431 : decode M_LW_law.2.1 431 = .ok (.iconst 0, 1) := by decide +kernel
theorem d_LW_law_432 : decode M_LW_law.2.1 432 = .ok (.ireturn, 1) := by decide +kernel
theorem d_LW_law_433 : decode M_LW_law.2.1 433 = .ok (.aload_n 1, 1) := by decide +kernel
theorem d_LW_law_434 : decode M_LW_law.2.1 434 = .ok (.aload_n 0, 1) := by decide +kernel
theorem d_LW_law_435 : decode M_LW_law.2.1 435 = .ok (.iload_n 3, 1) := by decide +kernel
theorem d_LW_law_436 : decode M_LW_law.2.1 436 = .ok (.iconst 1, 1) := by decide +kernel
theorem d_LW_law_437 : decode M_LW_law.2.1 437 = .ok (.iadd, 1) := by decide +kernel
theorem d_LW_law_438 : decode M_LW_law.2.1 438 = .ok (.iaload, 1) := by decide +kernel
theorem d_LW_law_439 : decode M_LW_law.2.1 439 = .ok (.invokevirtual 70, 3) := by decide +kernel
theorem d_LW_law_442 : decode M_LW_law.2.1 442 = .ok (.aload_n 2, 1) := by decide +kernel
theorem d_LW_law_443 : decode M_LW_law.2.1 443 = .ok (.aload_n 0, 1) := by decide +kernel
theorem d_LW_law_444 : decode M_LW_law.2.1 444 = .ok (.iload_n 3, 1) := by decide +kernel
theorem d_LW_law_445 : decode M_LW_law.2.1 445 = .ok (.iconst 1, 1) := by decide +kernel
theorem d_LW_law_446 : decode M_LW_law.2.1 446 = .ok (.iadd, 1) := by decide +kernel
theorem d_LW_law_447 : decode M_LW_law.2.1 447 = .ok (.iaload, 1) := by decide +kernel
theorem d_LW_law_448 : decode M_LW_law.2.1 448 = .ok (.invokevirtual 73, 3) := by decide +kernel
theorem d_LW_law_451 : decode M_LW_law.2.1 451 = .ok (.if_icmp .eq 130, 3) := by decide +kernel
theorem d_LW_law_454 : decode M_LW_law.2.1 454 = .ok (.iconst 0, 1) := by decide +kernel
theorem d_LW_law_455 : decode M_LW_law.2.1 455 = .ok (.ireturn, 1) := by decide +kernel
theorem d_LW_law_456 : decode M_LW_law.2.1 456 = .ok (.aload_n 1, 1) := by decide +kernel
theorem d_LW_law_457 : decode M_LW_law.2.1 457 = .ok (.aload_n 0, 1) := by decide +kernel
theorem d_LW_law_458 : decode M_LW_law.2.1 458 = .ok (.iload_n 3, 1) := by decide +kernel
theorem d_LW_law_459 : decode M_LW_law.2.1 459 = .ok (.iconst 1, 1) := by decide +kernel
theorem d_LW_law_460 : decode M_LW_law.2.1 460 = .ok (.iadd, 1) := by decide +kernel
theorem d_LW_law_461 : decode M_LW_law.2.1 461 = .ok (.iaload, 1) := by decide +kernel
theorem d_LW_law_462 : decode M_LW_law.2.1 462 = .ok (.aload_n 0, 1) := by decide +kernel
theorem d_LW_law_463 : decode M_LW_law.2.1 463 = .ok (.iload_n 3, 1) := by decide +kernel
theorem d_LW_law_464 : decode M_LW_law.2.1 464 = .ok (.iconst 2, 1) := by decide +kernel
theorem d_LW_law_465 : decode M_LW_law.2.1 465 = .ok (.iadd, 1) := by decide +kernel
theorem d_LW_law_466 : decode M_LW_law.2.1 466 = .ok (.iaload, 1) := by decide +kernel
theorem d_LW_law_467 : decode M_LW_law.2.1 467 = .ok (.invokevirtual 74, 3) := by decide +kernel
theorem d_LW_law_470 : decode M_LW_law.2.1 470 = .ok (.aload_n 2, 1) := by decide +kernel
theorem d_LW_law_471 : decode M_LW_law.2.1 471 = .ok (.aload_n 0, 1) := by decide +kernel
theorem d_LW_law_472 : decode M_LW_law.2.1 472 = .ok (.iload_n 3, 1) := by decide +kernel
theorem d_LW_law_473 : decode M_LW_law.2.1 473 = .ok (.iconst 1, 1) := by decide +kernel
theorem d_LW_law_474 : decode M_LW_law.2.1 474 = .ok (.iadd, 1) := by decide +kernel
theorem d_LW_law_475 : decode M_LW_law.2.1 475 = .ok (.iaload, 1) := by decide +kernel
theorem d_LW_law_476 : decode M_LW_law.2.1 476 = .ok (.aload_n 0, 1) := by decide +kernel
theorem d_LW_law_477 : decode M_LW_law.2.1 477 = .ok (.iload_n 3, 1) := by decide +kernel
theorem d_LW_law_478 : decode M_LW_law.2.1 478 = .ok (.iconst 2, 1) := by decide +kernel
theorem d_LW_law_479 : decode M_LW_law.2.1 479 = .ok (.iadd, 1) := by decide +kernel
theorem d_LW_law_480 : decode M_LW_law.2.1 480 = .ok (.iaload, 1) := by decide +kernel
theorem d_LW_law_481 : decode M_LW_law.2.1 481 = .ok (.invokevirtual 78, 3) := by decide +kernel
theorem d_LW_law_484 : decode M_LW_law.2.1 484 = .ok (.if_icmp .eq 97, 3) := by decide +kernel
theorem d_LW_law_487 : decode M_LW_law.2.1 487 = .ok (.iconst 0, 1) := by decide +kernel
theorem d_LW_law_488 : decode M_LW_law.2.1 488 = .ok (.ireturn, 1) := by decide +kernel
theorem d_LW_law_489 : decode M_LW_law.2.1 489 = .ok (.aload_n 1, 1) := by decide +kernel
theorem d_LW_law_490 : decode M_LW_law.2.1 490 = .ok (.aload_n 0, 1) := by decide +kernel
theorem d_LW_law_491 : decode M_LW_law.2.1 491 = .ok (.iload_n 3, 1) := by decide +kernel
theorem d_LW_law_492 : decode M_LW_law.2.1 492 = .ok (.iconst 1, 1) := by decide +kernel
theorem d_LW_law_493 : decode M_LW_law.2.1 493 = .ok (.iadd, 1) := by decide +kernel
theorem d_LW_law_494 : decode M_LW_law.2.1 494 = .ok (.iaload, 1) := by decide +kernel
theorem d_LW_law_495 : decode M_LW_law.2.1 495 = .ok (.aload_n 0, 1) := by decide +kernel
theorem d_LW_law_496 : decode M_LW_law.2.1 496 = .ok (.iload_n 3, 1) := by decide +kernel
theorem d_LW_law_497 : decode M_LW_law.2.1 497 = .ok (.iconst 2, 1) := by decide +kernel
theorem d_LW_law_498 : decode M_LW_law.2.1 498 = .ok (.iadd, 1) := by decide +kernel
theorem d_LW_law_499 : decode M_LW_law.2.1 499 = .ok (.iaload, 1) := by decide +kernel
theorem d_LW_law_500 : decode M_LW_law.2.1 500 = .ok (.invokevirtual 79, 3) := by decide +kernel
theorem d_LW_law_503 : decode M_LW_law.2.1 503 = .ok (.aload_n 2, 1) := by decide +kernel
theorem d_LW_law_504 : decode M_LW_law.2.1 504 = .ok (.aload_n 0, 1) := by decide +kernel
theorem d_LW_law_505 : decode M_LW_law.2.1 505 = .ok (.iload_n 3, 1) := by decide +kernel
theorem d_LW_law_506 : decode M_LW_law.2.1 506 = .ok (.iconst 1, 1) := by decide +kernel
theorem d_LW_law_507 : decode M_LW_law.2.1 507 = .ok (.iadd, 1) := by decide +kernel
theorem d_LW_law_508 : decode M_LW_law.2.1 508 = .ok (.iaload, 1) := by decide +kernel
theorem d_LW_law_509 : decode M_LW_law.2.1 509 = .ok (.aload_n 0, 1) := by decide +kernel
theorem d_LW_law_510 : decode M_LW_law.2.1 510 = .ok (.iload_n 3, 1) := by decide +kernel
theorem d_LW_law_511 : decode M_LW_law.2.1 511 = .ok (.iconst 2, 1) := by decide +kernel
theorem d_LW_law_512 : decode M_LW_law.2.1 512 = .ok (.iadd, 1) := by decide +kernel
theorem d_LW_law_513 : decode M_LW_law.2.1 513 = .ok (.iaload, 1) := by decide +kernel
theorem d_LW_law_514 : decode M_LW_law.2.1 514 = .ok (.invokevirtual 82, 3) := by decide +kernel
theorem d_LW_law_517 : decode M_LW_law.2.1 517 = .ok (.if_icmp .eq 64, 3) := by decide +kernel
theorem d_LW_law_520 : decode M_LW_law.2.1 520 = .ok (.iconst 0, 1) := by decide +kernel
theorem d_LW_law_521 : decode M_LW_law.2.1 521 = .ok (.ireturn, 1) := by decide +kernel
theorem d_LW_law_522 : decode M_LW_law.2.1 522 = .ok (.aload_n 1, 1) := by decide +kernel
theorem d_LW_law_523 : decode M_LW_law.2.1 523 = .ok (.aload_n 0, 1) := by decide +kernel
theorem d_LW_law_524 : decode M_LW_law.2.1 524 = .ok (.iload_n 3, 1) := by decide +kernel
theorem d_LW_law_525 : decode M_LW_law.2.1 525 = .ok (.iconst 1, 1) := by decide +kernel
theorem d_LW_law_526 : decode M_LW_law.2.1 526 = .ok (.iadd, 1) := by decide +kernel
theorem d_LW_law_527 : decode M_LW_law.2.1 527 = .ok (.iaload, 1) := by decide +kernel
theorem d_LW_law_528 : decode M_LW_law.2.1 528 = .ok (.aload_n 0, 1) := by decide +kernel
theorem d_LW_law_529 : decode M_LW_law.2.1 529 = .ok (.iload_n 3, 1) := by decide +kernel
theorem d_LW_law_530 : decode M_LW_law.2.1 530 = .ok (.iconst 2, 1) := by decide +kernel
theorem d_LW_law_531 : decode M_LW_law.2.1 531 = .ok (.iadd, 1) := by decide +kernel
theorem d_LW_law_532 : decode M_LW_law.2.1 532 = .ok (.iaload, 1) := by decide +kernel
theorem d_LW_law_533 : decode M_LW_law.2.1 533 = .ok (.aload_n 0, 1) := by decide +kernel
theorem d_LW_law_534 : decode M_LW_law.2.1 534 = .ok (.iload_n 3, 1) := by decide +kernel
theorem d_LW_law_535 : decode M_LW_law.2.1 535 = .ok (.iconst 3, 1) := by decide +kernel
theorem d_LW_law_536 : decode M_LW_law.2.1 536 = .ok (.iadd, 1) := by decide +kernel
theorem d_LW_law_537 : decode M_LW_law.2.1 537 = .ok (.iaload, 1) := by decide +kernel
theorem d_LW_law_538 : decode M_LW_law.2.1 538 = .ok (.ifCond .eq 7, 3) := by decide +kernel
theorem d_LW_law_541 : decode M_LW_law.2.1 541 = .ok (.iconst 1, 1) := by decide +kernel
theorem d_LW_law_542 : decode M_LW_law.2.1 542 = .ok (.goto 4, 3) := by decide +kernel
theorem d_LW_law_545 : decode M_LW_law.2.1 545 = .ok (.iconst 0, 1) := by decide +kernel
theorem d_LW_law_546 : decode M_LW_law.2.1 546 = .ok (.invokevirtual 83, 3) := by decide +kernel
theorem d_LW_law_549 : decode M_LW_law.2.1 549 = .ok (.aload_n 2, 1) := by decide +kernel
theorem d_LW_law_550 : decode M_LW_law.2.1 550 = .ok (.aload_n 0, 1) := by decide +kernel
theorem d_LW_law_551 : decode M_LW_law.2.1 551 = .ok (.iload_n 3, 1) := by decide +kernel
theorem d_LW_law_552 : decode M_LW_law.2.1 552 = .ok (.iconst 1, 1) := by decide +kernel
theorem d_LW_law_553 : decode M_LW_law.2.1 553 = .ok (.iadd, 1) := by decide +kernel
theorem d_LW_law_554 : decode M_LW_law.2.1 554 = .ok (.iaload, 1) := by decide +kernel
theorem d_LW_law_555 : decode M_LW_law.2.1 555 = .ok (.aload_n 0, 1) := by decide +kernel
theorem d_LW_law_556 : decode M_LW_law.2.1 556 = .ok (.iload_n 3, 1) := by decide +kernel
theorem d_LW_law_557 : decode M_LW_law.2.1 557 = .ok (.iconst 2, 1) := by decide +kernel
theorem d_LW_law_558 : decode M_LW_law.2.1 558 = .ok (.iadd, 1) := by decide +kernel
theorem d_LW_law_559 : decode M_LW_law.2.1 559 = .ok (.iaload, 1) := by decide +kernel
theorem d_LW_law_560 : decode M_LW_law.2.1 560 = .ok (.aload_n 0, 1) := by decide +kernel
theorem d_LW_law_561 : decode M_LW_law.2.1 561 = .ok (.iload_n 3, 1) := by decide +kernel
theorem d_LW_law_562 : decode M_LW_law.2.1 562 = .ok (.iconst 3, 1) := by decide +kernel
theorem d_LW_law_563 : decode M_LW_law.2.1 563 = .ok (.iadd, 1) := by decide +kernel
theorem d_LW_law_564 : decode M_LW_law.2.1 564 = .ok (.iaload, 1) := by decide +kernel
theorem d_LW_law_565 : decode M_LW_law.2.1 565 = .ok (.ifCond .eq 7, 3) := by decide +kernel
theorem d_LW_law_568 : decode M_LW_law.2.1 568 = .ok (.iconst 1, 1) := by decide +kernel
theorem d_LW_law_569 : decode M_LW_law.2.1 569 = .ok (.goto 4, 3) := by decide +kernel
theorem d_LW_law_572 : decode M_LW_law.2.1 572 = .ok (.iconst 0, 1) := by decide +kernel
theorem d_LW_law_573 : decode M_LW_law.2.1 573 = .ok (.invokevirtual 87, 3) := by decide +kernel
theorem d_LW_law_576 : decode M_LW_law.2.1 576 = .ok (.if_icmp .eq 5, 3) := by decide +kernel
theorem d_LW_law_579 : decode M_LW_law.2.1 579 = .ok (.iconst 0, 1) := by decide +kernel
theorem d_LW_law_580 : decode M_LW_law.2.1 580 = .ok (.ireturn, 1) := by decide +kernel
theorem d_LW_law_581 : decode M_LW_law.2.1 581 = .ok (.iinc 3 4, 3) := by decide +kernel
theorem d_LW_law_584 : decode M_LW_law.2.1 584 = .ok (.goto (-566), 3) := by decide +kernel
theorem d_LW_law_587 : decode M_LW_law.2.1 587 = .ok (.iconst 1, 1) := by decide +kernel
theorem d_LW_law_588 : decode M_LW_law.2.1 588 = .ok (.ireturn, 1) := by decide +kernel
theorem c_LW_7 : Cond.classLink "CodePointSetsLaw" 7 "CodePointSets" ∈ wWL := wIn 16 (by decide +kernel) (by decide +kernel)
theorem n_LW_7 : wCN "CodePointSetsLaw" 7 6 := ⟨("CodePointSets", wT_CP, 6), rfl, c_LW_7, wIn 17 (by decide +kernel) (by decide +kernel), wIn 1 (by decide +kernel) (by decide +kernel)⟩
theorem l_LW_9 : wCl "CodePointSetsLaw" 9 M_CP_init := Or.inl (wIn 18 (by decide +kernel) (by decide +kernel))
theorem l_LW_13 : wCl "CodePointSetsLaw" 13 M_CP_type := Or.inl (wIn 196 (by decide +kernel) (by decide +kernel))
theorem l_LW_18 : wCl "CodePointSetsLaw" 18 M_CP_wipe := Or.inl (wIn 208 (by decide +kernel) (by decide +kernel))
theorem l_LW_22 : wCl "CodePointSetsLaw" 22 M_CP_length := Or.inl (wIn 216 (by decide +kernel) (by decide +kernel))
theorem l_LW_27 : wCl "CodePointSetsLaw" 27 M_CP_at := Or.inl (wIn 220 (by decide +kernel) (by decide +kernel))
theorem l_LW_32 : wCl "CodePointSetsLaw" 32 M_CP_apply := Or.inl (wIn 228 (by decide +kernel) (by decide +kernel))
theorem l_LW_36 : wCl "CodePointSetsLaw" 36 M_CP_print := Or.inl (wIn 512 (by decide +kernel) (by decide +kernel))
theorem l_LW_40 : wCl "CodePointSetsLaw" 40 M_CP_combine := Or.inl (wIn 550 (by decide +kernel) (by decide +kernel))
theorem l_LW_45 : wCl "CodePointSetsLaw" 45 M_CP_turn := Or.inl (wIn 559 (by decide +kernel) (by decide +kernel))
theorem l_LW_49 : wCl "CodePointSetsLaw" 49 M_CP_close := Or.inl (wIn 564 (by decide +kernel) (by decide +kernel))
theorem l_LW_53 : wCl "CodePointSetsLaw" 53 M_CP_contains := Or.inl (wIn 593 (by decide +kernel) (by decide +kernel))
theorem l_LW_58 : wCl "CodePointSetsLaw" 58 M_CP_has := Or.inl (wIn 598 (by decide +kernel) (by decide +kernel))
theorem l_LW_62 : wCl "CodePointSetsLaw" 62 M_CP_includes := Or.inl (wIn 611 (by decide +kernel) (by decide +kernel))
theorem l_LW_66 : wCl "CodePointSetsLaw" 66 M_CP_size := Or.inl (wIn 615 (by decide +kernel) (by decide +kernel))
theorem l_LW_70 : wCl "CodePointSetsLaw" 70 M_CP_strings := Or.inl (wIn 619 (by decide +kernel) (by decide +kernel))
theorem l_LW_74 : wCl "CodePointSetsLaw" 74 M_CP_edge := Or.inl (wIn 623 (by decide +kernel) (by decide +kernel))
theorem l_LW_79 : wCl "CodePointSetsLaw" 79 M_CP_nth := Or.inl (wIn 627 (by decide +kernel) (by decide +kernel))
theorem l_LW_83 : wCl "CodePointSetsLaw" 83 M_CP_span := Or.inl (wIn 635 (by decide +kernel) (by decide +kernel))
theorem c_LW_10 : Cond.classLink "CodePointSetsLaw" 10 "CodePointSetsModel" ∈ wWL := wIn 647 (by decide +kernel) (by decide +kernel)
theorem n_LW_10 : wCN "CodePointSetsLaw" 10 7 := ⟨("CodePointSetsModel", wT_MO, 16), rfl, c_LW_10, wIn 648 (by decide +kernel) (by decide +kernel), wIn 8 (by decide +kernel) (by decide +kernel)⟩
theorem l_LW_12 : wCl "CodePointSetsLaw" 12 M_MO_init := Or.inl (wIn 649 (by decide +kernel) (by decide +kernel))
theorem l_LW_17 : wCl "CodePointSetsLaw" 17 M_MO_type := Or.inl (wIn 704 (by decide +kernel) (by decide +kernel))
theorem l_LW_21 : wCl "CodePointSetsLaw" 21 M_MO_wipe := Or.inl (wIn 708 (by decide +kernel) (by decide +kernel))
theorem l_LW_26 : wCl "CodePointSetsLaw" 26 M_MO_length := Or.inl (wIn 712 (by decide +kernel) (by decide +kernel))
theorem l_LW_31 : wCl "CodePointSetsLaw" 31 M_MO_at := Or.inl (wIn 716 (by decide +kernel) (by decide +kernel))
theorem l_LW_35 : wCl "CodePointSetsLaw" 35 M_MO_apply := Or.inl (wIn 720 (by decide +kernel) (by decide +kernel))
theorem l_LW_39 : wCl "CodePointSetsLaw" 39 M_MO_print := Or.inl (wIn 873 (by decide +kernel) (by decide +kernel))
theorem l_LW_44 : wCl "CodePointSetsLaw" 44 M_MO_combine := Or.inl (wIn 892 (by decide +kernel) (by decide +kernel))
theorem l_LW_48 : wCl "CodePointSetsLaw" 48 M_MO_turn := Or.inl (wIn 900 (by decide +kernel) (by decide +kernel))
theorem l_LW_52 : wCl "CodePointSetsLaw" 52 M_MO_close := Or.inl (wIn 904 (by decide +kernel) (by decide +kernel))
theorem l_LW_57 : wCl "CodePointSetsLaw" 57 M_MO_contains := Or.inl (wIn 916 (by decide +kernel) (by decide +kernel))
theorem l_LW_61 : wCl "CodePointSetsLaw" 61 M_MO_has := Or.inl (wIn 920 (by decide +kernel) (by decide +kernel))
theorem l_LW_65 : wCl "CodePointSetsLaw" 65 M_MO_includes := Or.inl (wIn 924 (by decide +kernel) (by decide +kernel))
theorem l_LW_69 : wCl "CodePointSetsLaw" 69 M_MO_size := Or.inl (wIn 928 (by decide +kernel) (by decide +kernel))
theorem l_LW_73 : wCl "CodePointSetsLaw" 73 M_MO_strings := Or.inl (wIn 929 (by decide +kernel) (by decide +kernel))
theorem l_LW_78 : wCl "CodePointSetsLaw" 78 M_MO_edge := Or.inl (wIn 933 (by decide +kernel) (by decide +kernel))
theorem l_LW_82 : wCl "CodePointSetsLaw" 82 M_MO_nth := Or.inl (wIn 937 (by decide +kernel) (by decide +kernel))
theorem l_LW_87 : wCl "CodePointSetsLaw" 87 M_MO_span := Or.inl (wIn 941 (by decide +kernel) (by decide +kernel))

