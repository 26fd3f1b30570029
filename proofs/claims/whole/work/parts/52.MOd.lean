/-! decode rows of MO: written by wip/gen/mknames.py -/
theorem d_MO_propertyAt_48 : decode M_MO_propertyAt.2.1 48 = .ok (.bipush 80, 2) := by decide +kernel
theorem d_MO_propertyAt_50 : decode M_MO_propertyAt.2.1 50 = .ok (.invokevirtual 83, 3) := by decide +kernel
theorem d_MO_propertyAt_53 : decode M_MO_propertyAt.2.1 53 = .ok (.ifCond .eq 7, 3) := by decide +kernel
theorem d_MO_propertyAt_56 : decode M_MO_propertyAt.2.1 56 = .ok (.iconst 1, 1) := by decide +kernel
theorem d_MO_propertyAt_57 : decode M_MO_propertyAt.2.1 57 = .ok (.goto 4, 3) := by decide +kernel
theorem d_MO_propertyAt_60 : decode M_MO_propertyAt.2.1 60 = .ok (.iconst 0, 1) := by decide +kernel
theorem d_MO_propertyAt_61 : decode M_MO_propertyAt.2.1 61 = .ok (.ireturn, 1) := by decide +kernel
theorem d_MO_setAt_0 : decode M_MO_setAt.2.1 0 = .ok (.aload_n 0, 1) := by decide +kernel
theorem d_MO_setAt_1 : decode M_MO_setAt.2.1 1 = .ok (.iload_n 1, 1) := by decide +kernel
theorem d_MO_setAt_2 : decode M_MO_setAt.2.1 2 = .ok (.bipush 91, 2) := by decide +kernel
theorem d_MO_setAt_4 : decode M_MO_setAt.2.1 4 = .ok (.invokevirtual 83, 3) := by decide +kernel
theorem d_MO_setAt_7 : decode M_MO_setAt.2.1 7 = .ok (.ifCond .ne 11, 3) := by decide +kernel
theorem d_MO_setAt_10 : decode M_MO_setAt.2.1 10 = .ok (.aload_n 0, 1) := by decide +kernel
theorem d_MO_setAt_11 : decode M_MO_setAt.2.1 11 = .ok (.iload_n 1, 1) := by decide +kernel
theorem d_MO_setAt_12 : decode M_MO_setAt.2.1 12 = .ok (.invokevirtual 111, 3) := by decide +kernel
theorem d_MO_setAt_15 : decode M_MO_setAt.2.1 15 = .ok (.ifCond .eq 7, 3) := by decide +kernel
theorem d_MO_setAt_18 : decode M_MO_setAt.2.1 18 = .ok (.iconst 1, 1) := by decide +kernel
theorem d_MO_setAt_19 : decode M_MO_setAt.2.1 19 = .ok (.goto 4, 3) := by decide +kernel
theorem d_MO_setAt_22 : decode M_MO_setAt.2.1 22 = .ok (.iconst 0, 1) := by decide +kernel
theorem d_MO_setAt_23 : decode M_MO_setAt.2.1 23 = .ok (.ireturn, 1) := by decide +kernel
theorem d_MO_property_0 : decode M_MO_property.2.1 0 = .ok (.aload_n 0, 1) := by decide +kernel
theorem d_MO_property_1 : decode M_MO_property.2.1 1 = .ok (.aload_n 0, 1) := by decide +kernel
theorem d_MO_property_2 : decode M_MO_property.2.1 2 = .ok (.getfield 86, 3) := by decide +kernel
theorem d_MO_property_5 : decode M_MO_property.2.1 5 = .ok (.bipush 91, 2) := by decide +kernel
theorem d_MO_property_7 : decode M_MO_property.2.1 7 = .ok (.invokevirtual 83, 3) := by decide +kernel
theorem d_MO_property_10 : decode M_MO_property.2.1 10 = .ok (.istore_n 1, 1) := by decide +kernel
theorem d_MO_property_11 : decode M_MO_property.2.1 11 = .ok (.aload_n 0, 1) := by decide +kernel
theorem d_MO_property_12 : decode M_MO_property.2.1 12 = .ok (.aload_n 0, 1) := by decide +kernel
theorem d_MO_property_13 : decode M_MO_property.2.1 13 = .ok (.getfield 86, 3) := by decide +kernel
theorem d_MO_property_16 : decode M_MO_property.2.1 16 = .ok (.iconst 1, 1) := by decide +kernel
theorem d_MO_property_17 : decode M_MO_property.2.1 17 = .ok (.iadd, 1) := by decide +kernel
theorem d_MO_property_18 : decode M_MO_property.2.1 18 = .ok (.bipush 80, 2) := by decide +kernel
theorem d_MO_property_20 : decode M_MO_property.2.1 20 = .ok (.invokevirtual 83, 3) := by decide +kernel
theorem d_MO_property_23 : decode M_MO_property.2.1 23 = .ok (.istore_n 2, 1) := by decide +kernel
theorem d_MO_property_24 : decode M_MO_property.2.1 24 = .ok (.aload_n 0, 1) := by decide +kernel
theorem d_MO_property_25 : decode M_MO_property.2.1 25 = .ok (.aload_n 0, 1) := by decide +kernel
theorem d_MO_property_26 : decode M_MO_property.2.1 26 = .ok (.getfield 86, 3) := by decide +kernel
theorem d_MO_property_29 : decode M_MO_property.2.1 29 = .ok (.iconst 2, 1) := by decide +kernel
theorem d_MO_property_30 : decode M_MO_property.2.1 30 = .ok (.iadd, 1) := by decide +kernel
theorem d_MO_property_31 : decode M_MO_property.2.1 31 = .ok (.putfield 86, 3) := by decide +kernel
theorem d_MO_property_34 : decode M_MO_property.2.1 34 = .ok (.iload_n 1, 1) := by decide +kernel
theorem d_MO_property_35 : decode M_MO_property.2.1 35 = .ok (.ifCond .ne 12, 3) := by decide +kernel
theorem d_MO_property_38 : decode M_MO_property.2.1 38 = .ok (.aload_n 0, 1) := by decide +kernel
theorem d_MO_property_39 : decode M_MO_property.2.1 39 = .ok (.bipush 123, 2) := by decide +kernel
theorem d_MO_property_41 : decode M_MO_property.2.1 41 = .ok (.invokevirtual 105, 3) := by decide +kernel
theorem d_MO_property_44 : decode M_MO_property.2.1 44 = .ok (.goto 28, 3) := by decide +kernel
theorem d_MO_property_47 : decode M_MO_property.2.1 47 = .ok (.aload_n 0, 1) := by decide +kernel
theorem d_MO_property_48 : decode M_MO_property.2.1 48 = .ok (.aload_n 0, 1) := by decide +kernel
theorem d_MO_property_49 : decode M_MO_property.2.1 49 = .ok (.getfield 86, 3) := by decide +kernel
theorem d_MO_property_52 : decode M_MO_property.2.1 52 = .ok (.bipush 94, 2) := by decide +kernel
theorem d_MO_property_54 : decode M_MO_property.2.1 54 = .ok (.invokevirtual 83, 3) := by decide +kernel
theorem d_MO_property_57 : decode M_MO_property.2.1 57 = .ok (.ifCond .eq 15, 3) := by decide +kernel
theorem d_MO_property_60 : decode M_MO_property.2.1 60 = .ok (.iconst 1, 1) := by decide +kernel
theorem d_MO_property_61 : decode M_MO_property.2.1 61 = .ok (.istore_n 2, 1) := by decide +kernel
theorem d_MO_property_62 : decode M_MO_property.2.1 62 = .ok (.aload_n 0, 1) := by decide +kernel
theorem d_MO_property_63 : decode M_MO_property.2.1 63 = .ok (.aload_n 0, 1) := by decide +kernel
theorem d_MO_property_64 : decode M_MO_property.2.1 64 = .ok (.getfield 86, 3) := by decide +kernel
theorem d_MO_property_67 : decode M_MO_property.2.1 67 = .ok (.iconst 1, 1) := by decide +kernel
theorem d_MO_property_68 : decode M_MO_property.2.1 68 = .ok (.iadd, 1) := by decide +kernel
theorem d_MO_property_69 : decode M_MO_property.2.1 69 = .ok (.putfield 86, 3) := by decide +kernel
theorem d_MO_property_72 : decode M_MO_property.2.1 72 = .ok (.lconst 0, 1) := by decide +kernel
theorem d_MO_property_73 : decode M_MO_property.2.1 73 = .ok (.lstore_n 3, 1) := by decide +kernel
theorem d_MO_property_74 : decode M_MO_property.2.1 74 = .ok (.iconst 0, 1) := by decide +kernel
theorem d_MO_property_75 : decode M_MO_property.2.1 75 = .ok (.istore 5, 2) := by decide +kernel
theorem d_MO_property_77 : decode M_MO_property.2.1 77 = .ok (.aload_n 0, 1) := by decide +kernel
theorem d_MO_property_78 : decode M_MO_property.2.1 78 = .ok (.getfield 86, 3) := by decide +kernel
theorem d_MO_property_81 : decode M_MO_property.2.1 81 = .ok (.aload_n 0, 1) := by decide +kernel
theorem d_MO_property_82 : decode M_MO_property.2.1 82 = .ok (.getfield 43, 3) := by decide +kernel
theorem d_MO_property_85 : decode M_MO_property.2.1 85 = .ok (.if_icmp .ge 155, 3) := by decide +kernel
theorem d_MO_property_88 : decode M_MO_property.2.1 88 = .ok (.aload_n 0, 1) := by decide +kernel
theorem d_MO_property_89 : decode M_MO_property.2.1 89 = .ok (.getfield 7, 3) := by decide +kernel
theorem d_MO_property_92 : decode M_MO_property.2.1 92 = .ok (.aload_n 0, 1) := by decide +kernel
theorem d_MO_property_93 : decode M_MO_property.2.1 93 = .ok (.getfield 86, 3) := by decide +kernel
theorem d_MO_property_96 : decode M_MO_property.2.1 96 = .ok (.iaload, 1) := by decide +kernel
theorem d_MO_property_97 : decode M_MO_property.2.1 97 = .ok (.invokestatic 108, 3) := by decide +kernel
theorem d_MO_property_100 : decode M_MO_property.2.1 100 = .ok (.ifCond .ne 45, 3) := by decide +kernel
theorem d_MO_property_103 : decode M_MO_property.2.1 103 = .ok (.aload_n 0, 1) := by decide +kernel
theorem d_MO_property_104 : decode M_MO_property.2.1 104 = .ok (.getfield 7, 3) := by decide +kernel
theorem d_MO_property_107 : decode M_MO_property.2.1 107 = .ok (.aload_n 0, 1) := by decide +kernel
theorem d_MO_property_108 : decode M_MO_property.2.1 108 = .ok (.getfield 86, 3) := by decide +kernel
theorem d_MO_property_111 : decode M_MO_property.2.1 111 = .ok (.iaload, 1) := by decide +kernel
theorem d_MO_property_112 : decode M_MO_property.2.1 112 = .ok (.bipush 32, 2) := by decide +kernel
theorem d_MO_property_114 : decode M_MO_property.2.1 114 = .ok (.if_icmp .eq 31, 3) := by decide +kernel
theorem d_MO_property_117 : decode M_MO_property.2.1 117 = .ok (.aload_n 0, 1) := by decide +kernel
theorem d_MO_property_118 : decode M_MO_property.2.1 118 = .ok (.getfield 7, 3) := by decide +kernel
theorem d_MO_property_121 : decode M_MO_property.2.1 121 = .ok (.aload_n 0, 1) := by decide +kernel
theorem d_MO_property_122 : decode M_MO_property.2.1 122 = .ok (.getfield 86, 3) := by decide +kernel
theorem d_MO_property_125 : decode M_MO_property.2.1 125 = .ok (.iaload, 1) := by decide +kernel
theorem d_MO_property_126 : decode M_MO_property.2.1 126 = .ok (.bipush 95, 2) := by decide +kernel
theorem d_MO_property_128 : decode M_MO_property.2.1 128 = .ok (.if_icmp .eq 17, 3) := by decide +kernel
theorem d_MO_property_131 : decode M_MO_property.2.1 131 = .ok (.aload_n 0, 1) := by decide +kernel
theorem d_MO_property_132 : decode M_MO_property.2.1 132 = .ok (.getfield 7, 3) := by decide +kernel
theorem d_MO_property_135 : decode M_MO_property.2.1 135 = .ok (.aload_n 0, 1) := by decide +kernel
theorem d_MO_property_136 : decode M_MO_property.2.1 136 = .ok (.getfield 86, 3) := by decide +kernel
theorem d_MO_property_139 : decode M_MO_property.2.1 139 = .ok (.iaload, 1) := by decide +kernel
theorem d_MO_property_140 : decode M_MO_property.2.1 140 = .ok (.bipush 45, 2) := by decide +kernel
theorem d_MO_property_142 : decode M_MO_property.2.1 142 = .ok (.if_icmp .ne 98, 3) := by decide +kernel
theorem d_MO_property_145 : decode M_MO_property.2.1 145 = .ok (.aload_n 0, 1) := by decide +kernel
theorem d_MO_property_146 : decode M_MO_property.2.1 146 = .ok (.getfield 7, 3) := by decide +kernel
theorem d_MO_property_149 : decode M_MO_property.2.1 149 = .ok (.aload_n 0, 1) := by decide +kernel
theorem d_MO_property_150 : decode M_MO_property.2.1 150 = .ok (.getfield 86, 3) := by decide +kernel
theorem d_MO_property_153 : decode M_MO_property.2.1 153 = .ok (.iaload, 1) := by decide +kernel
theorem d_MO_property_154 : decode M_MO_property.2.1 154 = .ok (.invokestatic 108, 3) := by decide +kernel
theorem d_MO_property_157 : decode M_MO_property.2.1 157 = .ok (.ifCond .eq 70, 3) := by decide +kernel
theorem d_MO_property_160 : decode M_MO_property.2.1 160 = .ok (.iload 5, 2) := by decide +kernel
theorem d_MO_property_162 : decode M_MO_property.2.1 162 = .ok (.iconst 1, 1) := by decide +kernel
theorem d_MO_property_163 : decode M_MO_property.2.1 163 = .ok (.iadd, 1) := by decide +kernel
theorem d_MO_property_164 : decode M_MO_property.2.1 164 = .ok (.istore 5, 2) := by decide +kernel
theorem d_MO_property_166 : decode M_MO_property.2.1 166 = .ok (.aload_n 0, 1) := by decide +kernel
theorem d_MO_property_167 : decode M_MO_property.2.1 167 = .ok (.getfield 7, 3) := by decide +kernel
theorem d_MO_property_170 : decode M_MO_property.2.1 170 = .ok (.aload_n 0, 1) := by decide +kernel
theorem d_MO_property_171 : decode M_MO_property.2.1 171 = .ok (.getfield 86, 3) := by decide +kernel
theorem d_MO_property_174 : decode M_MO_property.2.1 174 = .ok (.iaload, 1) := by decide +kernel
theorem d_MO_property_175 : decode M_MO_property.2.1 175 = .ok (.bipush 90, 2) := by decide +kernel
theorem d_MO_property_177 : decode M_MO_property.2.1 177 = .ok (.if_icmp .gt 18, 3) := by decide +kernel
theorem d_MO_property_180 : decode M_MO_property.2.1 180 = .ok (.aload_n 0, 1) := by decide +kernel
theorem d_MO_property_181 : decode M_MO_property.2.1 181 = .ok (.getfield 7, 3) := by decide +kernel
theorem d_MO_property_184 : decode M_MO_property.2.1 184 = .ok (.aload_n 0, 1) := by decide +kernel
theorem d_MO_property_185 : decode M_MO_property.2.1 185 = .ok (.getfield 86, 3) := by decide +kernel
theorem d_MO_property_188 : decode M_MO_property.2.1 188 = .ok (.iaload, 1) := by decide +kernel
theorem d_MO_property_189 : decode M_MO_property.2.1 189 = .ok (.bipush 32, 2) := by decide +kernel
theorem d_MO_property_191 : decode M_MO_property.2.1 191 = .ok (.iadd, 1) := by decide +kernel
theorem d_MO_property_192 : decode M_MO_property.2.1 192 = .ok (.goto 12, 3) := by decide +kernel
theorem d_MO_property_195 : decode M_MO_property.2.1 195 = .ok (.aload_n 0, 1) := by decide +kernel
theorem d_MO_property_196 : decode M_MO_property.2.1 196 = .ok (.getfield 7, 3) := by decide +kernel
theorem d_MO_property_199 : decode M_MO_property.2.1 199 = .ok (.aload_n 0, 1) := by decide +kernel
theorem d_MO_property_200 : decode M_MO_property.2.1 200 = .ok (.getfield 86, 3) := by decide +kernel
theorem d_MO_property_203 : decode M_MO_property.2.1 203 = .ok (.iaload, 1) := by decide +kernel
theorem d_MO_property_204 : decode M_MO_property.2.1 204 = .ok (.istore 6, 2) := by decide +kernel
theorem d_MO_property_206 : decode M_MO_property.2.1 206 = .ok (.iload 5, 2) := by decide +kernel
theorem d_MO_property_208 : decode M_MO_property.2.1 208 = .ok (.bipush 9, 2) := by decide +kernel
theorem d_MO_property_210 : decode M_MO_property.2.1 210 = .ok (.if_icmp .gt 15, 3) := by decide +kernel
theorem d_MO_property_213 : decode M_MO_property.2.1 213 = .ok (.lload_n 3, 1) := by decide +kernel
theorem d_MO_property_214 : decode M_MO_property.2.1 214 = .ok (.ldc2_w 114, 3) := by decide +kernel
theorem d_MO_property_217 : decode M_MO_property.2.1 217 = .ok (.lmul, 1) := by decide +kernel
theorem d_MO_property_218 : decode M_MO_property.2.1 218 = .ok (.iload 6, 2) := by decide +kernel
theorem d_MO_property_220 : decode M_MO_property.2.1 220 = .ok (.i2l, 1) := by decide +kernel
theorem d_MO_property_221 : decode M_MO_property.2.1 221 = .ok (.ladd, 1) := by decide +kernel
theorem d_MO_property_222 : decode M_MO_property.2.1 222 = .ok (.goto 4, 3) := by decide +kernel
theorem d_MO_property_225 : decode M_MO_property.2.1 225 = .ok (.lconst 0, 1) := by decide +kernel
theorem d_MO_property_226 : decode M_MO_property.2.1 226 = .ok (.lstore_n 3, 1) := by decide +kernel
theorem d_MO_property_227 : decode M_MO_property.2.1 227 = .ok (.aload_n 0, 1) := by decide +kernel
theorem d_MO_property_228 : decode M_MO_property.2.1 228 = .ok (.aload_n 0, 1) := by decide +kernel
theorem d_MO_property_229 : decode M_MO_property.2.1 229 = .ok (.getfield 86, 3) := by decide +kernel
theorem d_MO_property_232 : decode M_MO_property.2.1 232 = .ok (.iconst 1, 1) := by decide +kernel
theorem d_MO_property_233 : decode M_MO_property.2.1 233 = .ok (.iadd, 1) := by decide +kernel
theorem d_MO_property_234 : decode M_MO_property.2.1 234 = .ok (.putfield 86, 3) := by decide +kernel
theorem d_MO_property_237 : decode M_MO_property.2.1 237 = .ok (.goto (-160), 3) := by decide +kernel
theorem d_MO_property_240 : decode M_MO_property.2.1 240 = .ok (.iload_n 1, 1) := by decide +kernel
theorem d_MO_property_241 : decode M_MO_property.2.1 241 = .ok (.ifCond .eq 18, 3) := by decide +kernel
theorem d_MO_property_244 : decode M_MO_property.2.1 244 = .ok (.aload_n 0, 1) := by decide +kernel
theorem d_MO_property_245 : decode M_MO_property.2.1 245 = .ok (.bipush 58, 2) := by decide +kernel
theorem d_MO_property_247 : decode M_MO_property.2.1 247 = .ok (.invokevirtual 105, 3) := by decide +kernel
theorem d_MO_property_250 : decode M_MO_property.2.1 250 = .ok (.aload_n 0, 1) := by decide +kernel
theorem d_MO_property_251 : decode M_MO_property.2.1 251 = .ok (.bipush 93, 2) := by decide +kernel
theorem d_MO_property_253 : decode M_MO_property.2.1 253 = .ok (.invokevirtual 105, 3) := by decide +kernel
theorem d_MO_property_256 : decode M_MO_property.2.1 256 = .ok (.goto 9, 3) := by decide +kernel
theorem d_MO_property_259 : decode M_MO_property.2.1 259 = .ok (.aload_n 0, 1) := by decide +kernel
theorem d_MO_property_260 : decode M_MO_property.2.1 260 = .ok (.bipush 125, 2) := by decide +kernel
theorem d_MO_property_262 : decode M_MO_property.2.1 262 = .ok (.invokevirtual 105, 3) := by decide +kernel
theorem d_MO_property_265 : decode M_MO_property.2.1 265 = .ok (.aload_n 0, 1) := by decide +kernel
theorem d_MO_property_266 : decode M_MO_property.2.1 266 = .ok (.aload_n 0, 1) := by decide +kernel
theorem d_MO_property_267 : decode M_MO_property.2.1 267 = .ok (.getfield 93, 3) := by decide +kernel
theorem d_MO_property_270 : decode M_MO_property.2.1 270 = .ok (.ifCond .eq 14, 3) := by decide +kernel
theorem d_MO_property_273 : decode M_MO_property.2.1 273 = .ok (.iload 5, 2) := by decide +kernel
theorem d_MO_property_275 : decode M_MO_property.2.1 275 = .ok (.bipush 9, 2) := by decide +kernel
theorem d_MO_property_277 : decode M_MO_property.2.1 277 = .ok (.if_icmp .gt 7, 3) := by decide +kernel
theorem d_MO_property_280 : decode M_MO_property.2.1 280 = .ok (.iconst 1, 1) := by decide +kernel
theorem d_MO_property_281 : decode M_MO_property.2.1 281 = .ok (.goto 4, 3) := by decide +kernel
theorem d_MO_property_284 : decode M_MO_property.2.1 284 = .ok (.iconst 0, 1) := by decide +kernel
theorem d_MO_property_285 : decode M_MO_property.2.1 285 = .ok (.putfield 93, 3) := by decide +kernel
theorem d_MO_property_288 : decode M_MO_property.2.1 288 = .ok (.aload_n 0, 1) := by decide +kernel
theorem d_MO_property_289 : decode M_MO_property.2.1 289 = .ok (.bipush 8, 2) := by decide +kernel
theorem d_MO_property_291 : decode M_MO_property.2.1 291 = .ok (.invokevirtual 48, 3) := by decide +kernel
theorem d_MO_property_294 : decode M_MO_property.2.1 294 = .ok (.aload_n 0, 1) := by decide +kernel
theorem d_MO_property_295 : decode M_MO_property.2.1 295 = .ok (.getfield 93, 3) := by decide +kernel
theorem d_MO_property_298 : decode M_MO_property.2.1 298 = .ok (.ifCond .eq 8, 3) := by decide +kernel
theorem d_MO_property_301 : decode M_MO_property.2.1 301 = .ok (.aload_n 0, 1) := by decide +kernel
theorem d_MO_property_302 : decode M_MO_property.2.1 302 = .ok (.lload_n 3, 1) := by decide +kernel
theorem d_MO_property_303 : decode M_MO_property.2.1 303 = .ok (.invokevirtual 116, 3) := by decide +kernel
theorem d_MO_property_306 : decode M_MO_property.2.1 306 = .ok (.aload_n 0, 1) := by decide +kernel
theorem d_MO_property_307 : decode M_MO_property.2.1 307 = .ok (.getfield 93, 3) := by decide +kernel
theorem d_MO_property_310 : decode M_MO_property.2.1 310 = .ok (.ifCond .eq 16, 3) := by decide +kernel
theorem d_MO_property_313 : decode M_MO_property.2.1 313 = .ok (.iload_n 2, 1) := by decide +kernel
theorem d_MO_property_314 : decode M_MO_property.2.1 314 = .ok (.ifCond .eq 12, 3) := by decide +kernel
theorem d_MO_property_317 : decode M_MO_property.2.1 317 = .ok (.aload_n 0, 1) := by decide +kernel
theorem d_MO_property_318 : decode M_MO_property.2.1 318 = .ok (.bipush 8, 2) := by decide +kernel
theorem d_MO_property_320 : decode M_MO_property.2.1 320 = .ok (.bipush 11, 2) := by decide +kernel
theorem d_MO_property_322 : decode M_MO_property.2.1 322 = .ok (.iconst 3, 1) := by decide +kernel
theorem d_MO_property_323 : decode M_MO_property.2.1 323 = .ok (.invokevirtual 80, 3) := by decide +kernel
theorem d_MO_property_326 : decode M_MO_property.2.1 326 = .ok (.return_, 1) := by decide +kernel
theorem d_MO_fillNamed_0 : decode M_MO_fillNamed.2.1 0 = .ok (.lload_n 1, 1) := by decide +kernel
theorem d_MO_fillNamed_1 : decode M_MO_fillNamed.2.1 1 = .ok (.ldc2_w 120, 3) := by decide +kernel
theorem d_MO_fillNamed_4 : decode M_MO_fillNamed.2.1 4 = .ok (.lcmp, 1) := by decide +kernel
theorem d_MO_fillNamed_5 : decode M_MO_fillNamed.2.1 5 = .ok (.ifCond .ne 15, 3) := by decide +kernel
theorem d_MO_fillNamed_8 : decode M_MO_fillNamed.2.1 8 = .ok (.aload_n 0, 1) := by decide +kernel
theorem d_MO_fillNamed_9 : decode M_MO_fillNamed.2.1 9 = .ok (.bipush 8, 2) := by decide +kernel
theorem d_MO_fillNamed_11 : decode M_MO_fillNamed.2.1 11 = .ok (.iconst 0, 1) := by decide +kernel
theorem d_MO_fillNamed_12 : decode M_MO_fillNamed.2.1 12 = .ok (.ldc 122, 2) := by decide +kernel
theorem d_MO_fillNamed_14 : decode M_MO_fillNamed.2.1 14 = .ok (.invokevirtual 123, 3) := by decide +kernel
theorem d_MO_fillNamed_17 : decode M_MO_fillNamed.2.1 17 = .ok (.goto 294, 3) := by decide +kernel
theorem d_MO_fillNamed_20 : decode M_MO_fillNamed.2.1 20 = .ok (.lload_n 1, 1) := by decide +kernel
theorem d_MO_fillNamed_21 : decode M_MO_fillNamed.2.1 21 = .ok (.ldc2_w 126, 3) := by decide +kernel
theorem d_MO_fillNamed_24 : decode M_MO_fillNamed.2.1 24 = .ok (.lcmp, 1) := by decide +kernel
theorem d_MO_fillNamed_25 : decode M_MO_fillNamed.2.1 25 = .ok (.ifCond .ne 15, 3) := by decide +kernel
theorem d_MO_fillNamed_28 : decode M_MO_fillNamed.2.1 28 = .ok (.aload_n 0, 1) := by decide +kernel
theorem d_MO_fillNamed_29 : decode M_MO_fillNamed.2.1 29 = .ok (.bipush 8, 2) := by decide +kernel
theorem d_MO_fillNamed_31 : decode M_MO_fillNamed.2.1 31 = .ok (.iconst 0, 1) := by decide +kernel
theorem d_MO_fillNamed_32 : decode M_MO_fillNamed.2.1 32 = .ok (.bipush 127, 2) := by decide +kernel
theorem d_MO_fillNamed_34 : decode M_MO_fillNamed.2.1 34 = .ok (.invokevirtual 123, 3) := by decide +kernel
theorem d_MO_fillNamed_37 : decode M_MO_fillNamed.2.1 37 = .ok (.goto 274, 3) := by decide +kernel
theorem d_MO_fillNamed_40 : decode M_MO_fillNamed.2.1 40 = .ok (.lload_n 1, 1) := by decide +kernel
theorem d_MO_fillNamed_41 : decode M_MO_fillNamed.2.1 41 = .ok (.ldc2_w 128, 3) := by decide +kernel
theorem d_MO_fillNamed_44 : decode M_MO_fillNamed.2.1 44 = .ok (.lcmp, 1) := by decide +kernel
theorem d_MO_fillNamed_45 : decode M_MO_fillNamed.2.1 45 = .ok (.ifCond .ne 16, 3) := by decide +kernel
theorem d_MO_fillNamed_48 : decode M_MO_fillNamed.2.1 48 = .ok (.aload_n 0, 1) := by decide +kernel
theorem d_MO_fillNamed_49 : decode M_MO_fillNamed.2.1 49 = .ok (.bipush 8, 2) := by decide +kernel
theorem d_MO_fillNamed_51 : decode M_MO_fillNamed.2.1 51 = .ok (.bipush 48, 2) := by decide +kernel
theorem d_MO_fillNamed_53 : decode M_MO_fillNamed.2.1 53 = .ok (.bipush 57, 2) := by decide +kernel
theorem d_MO_fillNamed_55 : decode M_MO_fillNamed.2.1 55 = .ok (.invokevirtual 123, 3) := by decide +kernel
theorem d_MO_fillNamed_58 : decode M_MO_fillNamed.2.1 58 = .ok (.goto 253, 3) := by decide +kernel
theorem d_MO_fillNamed_61 : decode M_MO_fillNamed.2.1 61 = .ok (.lload_n 1, 1) := by decide +kernel
theorem d_MO_fillNamed_62 : decode M_MO_fillNamed.2.1 62 = .ok (.ldc2_w 130, 3) := by decide +kernel
theorem d_MO_fillNamed_65 : decode M_MO_fillNamed.2.1 65 = .ok (.lcmp, 1) := by decide +kernel
theorem d_MO_fillNamed_66 : decode M_MO_fillNamed.2.1 66 = .ok (.ifCond .ne 36, 3) := by decide +kernel
theorem d_MO_fillNamed_69 : decode M_MO_fillNamed.2.1 69 = .ok (.aload_n 0, 1) := by decide +kernel
theorem d_MO_fillNamed_70 : decode M_MO_fillNamed.2.1 70 = .ok (.bipush 8, 2) := by decide +kernel
theorem d_MO_fillNamed_72 : decode M_MO_fillNamed.2.1 72 = .ok (.bipush 48, 2) := by decide +kernel
theorem d_MO_fillNamed_74 : decode M_MO_fillNamed.2.1 74 = .ok (.bipush 57, 2) := by decide +kernel
theorem d_MO_fillNamed_76 : decode M_MO_fillNamed.2.1 76 = .ok (.invokevirtual 123, 3) := by decide +kernel
theorem d_MO_fillNamed_79 : decode M_MO_fillNamed.2.1 79 = .ok (.aload_n 0, 1) := by decide +kernel
theorem d_MO_fillNamed_80 : decode M_MO_fillNamed.2.1 80 = .ok (.bipush 8, 2) := by decide +kernel
theorem d_MO_fillNamed_82 : decode M_MO_fillNamed.2.1 82 = .ok (.bipush 65, 2) := by decide +kernel
theorem d_MO_fillNamed_84 : decode M_MO_fillNamed.2.1 84 = .ok (.bipush 70, 2) := by decide +kernel
theorem d_MO_fillNamed_86 : decode M_MO_fillNamed.2.1 86 = .ok (.invokevirtual 123, 3) := by decide +kernel
theorem d_MO_fillNamed_89 : decode M_MO_fillNamed.2.1 89 = .ok (.aload_n 0, 1) := by decide +kernel
theorem d_MO_fillNamed_90 : decode M_MO_fillNamed.2.1 90 = .ok (.bipush 8, 2) := by decide +kernel
theorem d_MO_fillNamed_92 : decode M_MO_fillNamed.2.1 92 = .ok (.bipush 97, 2) := by decide +kernel
theorem d_MO_fillNamed_94 : decode M_MO_fillNamed.2.1 94 = .ok (.bipush 102, 2) := by decide +kernel
theorem d_MO_fillNamed_96 : decode M_MO_fillNamed.2.1 96 = .ok (.invokevirtual 123, 3) := by decide +kernel
theorem d_MO_fillNamed_99 : decode M_MO_fillNamed.2.1 99 = .ok (.goto 212, 3) := by decide +kernel
theorem d_MO_fillNamed_102 : decode M_MO_fillNamed.2.1 102 = .ok (.lload_n 1, 1) := by decide +kernel
theorem d_MO_fillNamed_103 : decode M_MO_fillNamed.2.1 103 = .ok (.ldc2_w 132, 3) := by decide +kernel
theorem d_MO_fillNamed_106 : decode M_MO_fillNamed.2.1 106 = .ok (.lcmp, 1) := by decide +kernel
theorem d_MO_fillNamed_107 : decode M_MO_fillNamed.2.1 107 = .ok (.ifCond .ne 40, 3) := by decide +kernel
theorem d_MO_fillNamed_110 : decode M_MO_fillNamed.2.1 110 = .ok (.aload_n 0, 1) := by decide +kernel
theorem d_MO_fillNamed_111 : decode M_MO_fillNamed.2.1 111 = .ok (.bipush 8, 2) := by decide +kernel
theorem d_MO_fillNamed_113 : decode M_MO_fillNamed.2.1 113 = .ok (.bipush 65, 2) := by decide +kernel
theorem d_MO_fillNamed_115 : decode M_MO_fillNamed.2.1 115 = .ok (.bipush 90, 2) := by decide +kernel
theorem d_MO_fillNamed_117 : decode M_MO_fillNamed.2.1 117 = .ok (.invokevirtual 123, 3) := by decide +kernel
theorem d_MO_fillNamed_120 : decode M_MO_fillNamed.2.1 120 = .ok (.aload_n 0, 1) := by decide +kernel
theorem d_MO_fillNamed_121 : decode M_MO_fillNamed.2.1 121 = .ok (.bipush 8, 2) := by decide +kernel
theorem d_MO_fillNamed_123 : decode M_MO_fillNamed.2.1 123 = .ok (.sipush 192, 3) := by decide +kernel
theorem d_MO_fillNamed_126 : decode M_MO_fillNamed.2.1 126 = .ok (.sipush 214, 3) := by decide +kernel
theorem d_MO_fillNamed_129 : decode M_MO_fillNamed.2.1 129 = .ok (.invokevirtual 123, 3) := by decide +kernel
theorem d_MO_fillNamed_132 : decode M_MO_fillNamed.2.1 132 = .ok (.aload_n 0, 1) := by decide +kernel
theorem d_MO_fillNamed_133 : decode M_MO_fillNamed.2.1 133 = .ok (.bipush 8, 2) := by decide +kernel
theorem d_MO_fillNamed_135 : decode M_MO_fillNamed.2.1 135 = .ok (.sipush 216, 3) := by decide +kernel
theorem d_MO_fillNamed_138 : decode M_MO_fillNamed.2.1 138 = .ok (.sipush 222, 3) := by decide +kernel
theorem d_MO_fillNamed_141 : decode M_MO_fillNamed.2.1 141 = .ok (.invokevirtual 123, 3) := by decide +kernel
theorem d_MO_fillNamed_144 : decode M_MO_fillNamed.2.1 144 = .ok (.goto 167, 3) := by decide +kernel
theorem d_MO_fillNamed_147 : decode M_MO_fillNamed.2.1 147 = .ok (.lload_n 1, 1) := by decide +kernel
theorem d_MO_fillNamed_148 : decode M_MO_fillNamed.2.1 148 = .ok (.ldc2_w 134, 3) := by decide +kernel
theorem d_MO_fillNamed_151 : decode M_MO_fillNamed.2.1 151 = .ok (.lcmp, 1) := by decide +kernel
theorem d_MO_fillNamed_152 : decode M_MO_fillNamed.2.1 152 = .ok (.ifCond .ne 40, 3) := by decide +kernel
theorem d_MO_fillNamed_155 : decode M_MO_fillNamed.2.1 155 = .ok (.aload_n 0, 1) := by decide +kernel
theorem d_MO_fillNamed_156 : decode M_MO_fillNamed.2.1 156 = .ok (.bipush 8, 2) := by decide +kernel
theorem d_MO_fillNamed_158 : decode M_MO_fillNamed.2.1 158 = .ok (.bipush 97, 2) := by decide +kernel
theorem d_MO_fillNamed_160 : decode M_MO_fillNamed.2.1 160 = .ok (.bipush 122, 2) := by decide +kernel
theorem d_MO_fillNamed_162 : decode M_MO_fillNamed.2.1 162 = .ok (.invokevirtual 123, 3) := by decide +kernel
theorem d_MO_fillNamed_165 : decode M_MO_fillNamed.2.1 165 = .ok (.aload_n 0, 1) := by decide +kernel
theorem d_MO_fillNamed_166 : decode M_MO_fillNamed.2.1 166 = .ok (.bipush 8, 2) := by decide +kernel
theorem d_MO_fillNamed_168 : decode M_MO_fillNamed.2.1 168 = .ok (.sipush 223, 3) := by decide +kernel
theorem d_MO_fillNamed_171 : decode M_MO_fillNamed.2.1 171 = .ok (.sipush 246, 3) := by decide +kernel
theorem d_MO_fillNamed_174 : decode M_MO_fillNamed.2.1 174 = .ok (.invokevirtual 123, 3) := by decide +kernel
theorem d_MO_fillNamed_177 : decode M_MO_fillNamed.2.1 177 = .ok (.aload_n 0, 1) := by decide +kernel
theorem d_MO_fillNamed_178 : decode M_MO_fillNamed.2.1 178 = .ok (.bipush 8, 2) := by decide +kernel
theorem d_MO_fillNamed_180 : decode M_MO_fillNamed.2.1 180 = .ok (.sipush 248, 3) := by decide +kernel
theorem d_MO_fillNamed_183 : decode M_MO_fillNamed.2.1 183 = .ok (.sipush 255, 3) := by decide +kernel
theorem d_MO_fillNamed_186 : decode M_MO_fillNamed.2.1 186 = .ok (.invokevirtual 123, 3) := by decide +kernel
theorem d_MO_fillNamed_189 : decode M_MO_fillNamed.2.1 189 = .ok (.goto 122, 3) := by decide +kernel
theorem d_MO_fillNamed_192 : decode M_MO_fillNamed.2.1 192 = .ok (.lload_n 1, 1) := by decide +kernel
theorem d_MO_fillNamed_193 : decode M_MO_fillNamed.2.1 193 = .ok (.ldc2_w 136, 3) := by decide +kernel
theorem d_MO_fillNamed_196 : decode M_MO_fillNamed.2.1 196 = .ok (.lcmp, 1) := by decide +kernel
theorem d_MO_fillNamed_197 : decode M_MO_fillNamed.2.1 197 = .ok (.ifCond .ne 10, 3) := by decide +kernel
theorem d_MO_fillNamed_200 : decode M_MO_fillNamed.2.1 200 = .ok (.aload_n 0, 1) := by decide +kernel
theorem d_MO_fillNamed_201 : decode M_MO_fillNamed.2.1 201 = .ok (.invokevirtual 138, 3) := by decide +kernel
theorem d_MO_fillNamed_204 : decode M_MO_fillNamed.2.1 204 = .ok (.goto 107, 3) := by decide +kernel
theorem d_MO_fillNamed_207 : decode M_MO_fillNamed.2.1 207 = .ok (.lload_n 1, 1) := by decide +kernel
theorem d_MO_fillNamed_208 : decode M_MO_fillNamed.2.1 208 = .ok (.ldc2_w 141, 3) := by decide +kernel
theorem d_MO_fillNamed_211 : decode M_MO_fillNamed.2.1 211 = .ok (.lcmp, 1) := by decide +kernel
theorem d_MO_fillNamed_212 : decode M_MO_fillNamed.2.1 212 = .ok (.ifCond .ne 18, 3) := by decide +kernel
theorem d_MO_fillNamed_215 : decode M_MO_fillNamed.2.1 215 = .ok (.aload_n 0, 1) := by decide +kernel
theorem d_MO_fillNamed_216 : decode M_MO_fillNamed.2.1 216 = .ok (.bipush 8, 2) := by decide +kernel
theorem d_MO_fillNamed_218 : decode M_MO_fillNamed.2.1 218 = .ok (.sipush 880, 3) := by decide +kernel
theorem d_MO_fillNamed_221 : decode M_MO_fillNamed.2.1 221 = .ok (.sipush 1023, 3) := by decide +kernel
theorem d_MO_fillNamed_224 : decode M_MO_fillNamed.2.1 224 = .ok (.invokevirtual 123, 3) := by decide +kernel
theorem d_MO_fillNamed_227 : decode M_MO_fillNamed.2.1 227 = .ok (.goto 84, 3) := by decide +kernel
theorem d_MO_fillNamed_230 : decode M_MO_fillNamed.2.1 230 = .ok (.lload_n 1, 1) := by decide +kernel
theorem d_MO_fillNamed_231 : decode M_MO_fillNamed.2.1 231 = .ok (.ldc2_w 143, 3) := by decide +kernel
theorem d_MO_fillNamed_234 : decode M_MO_fillNamed.2.1 234 = .ok (.lcmp, 1) := by decide +kernel
theorem d_MO_fillNamed_235 : decode M_MO_fillNamed.2.1 235 = .ok (.ifCond .ne 50, 3) := by decide +kernel
theorem d_MO_fillNamed_238 : decode M_MO_fillNamed.2.1 238 = .ok (.aload_n 0, 1) := by decide +kernel
theorem d_MO_fillNamed_239 : decode M_MO_fillNamed.2.1 239 = .ok (.bipush 8, 2) := by decide +kernel
theorem d_MO_fillNamed_241 : decode M_MO_fillNamed.2.1 241 = .ok (.bipush 9, 2) := by decide +kernel
theorem d_MO_fillNamed_243 : decode M_MO_fillNamed.2.1 243 = .ok (.bipush 13, 2) := by decide +kernel
theorem d_MO_fillNamed_245 : decode M_MO_fillNamed.2.1 245 = .ok (.invokevirtual 123, 3) := by decide +kernel
theorem d_MO_fillNamed_248 : decode M_MO_fillNamed.2.1 248 = .ok (.aload_n 0, 1) := by decide +kernel
theorem d_MO_fillNamed_249 : decode M_MO_fillNamed.2.1 249 = .ok (.bipush 8, 2) := by decide +kernel
theorem d_MO_fillNamed_251 : decode M_MO_fillNamed.2.1 251 = .ok (.bipush 32, 2) := by decide +kernel
theorem d_MO_fillNamed_253 : decode M_MO_fillNamed.2.1 253 = .ok (.bipush 32, 2) := by decide +kernel
theorem d_MO_fillNamed_255 : decode M_MO_fillNamed.2.1 255 = .ok (.invokevirtual 123, 3) := by decide +kernel
theorem d_MO_fillNamed_258 : decode M_MO_fillNamed.2.1 258 = .ok (.aload_n 0, 1) := by decide +kernel
theorem d_MO_fillNamed_259 : decode M_MO_fillNamed.2.1 259 = .ok (.bipush 8, 2) := by decide +kernel
theorem d_MO_fillNamed_261 : decode M_MO_fillNamed.2.1 261 = .ok (.sipush 133, 3) := by decide +kernel
theorem d_MO_fillNamed_264 : decode M_MO_fillNamed.2.1 264 = .ok (.sipush 133, 3) := by decide +kernel
theorem d_MO_fillNamed_267 : decode M_MO_fillNamed.2.1 267 = .ok (.invokevirtual 123, 3) := by decide +kernel
theorem d_MO_fillNamed_270 : decode M_MO_fillNamed.2.1 270 = .ok (.aload_n 0, 1) := by decide +kernel
theorem d_MO_fillNamed_271 : decode M_MO_fillNamed.2.1 271 = .ok (.bipush 8, 2) := by decide +kernel
theorem d_MO_fillNamed_273 : decode M_MO_fillNamed.2.1 273 = .ok (.sipush 160, 3) := by decide +kernel
theorem d_MO_fillNamed_276 : decode M_MO_fillNamed.2.1 276 = .ok (.sipush 160, 3) := by decide +kernel
theorem d_MO_fillNamed_279 : decode M_MO_fillNamed.2.1 279 = .ok (.invokevirtual 123, 3) := by decide +kernel
theorem d_MO_fillNamed_282 : decode M_MO_fillNamed.2.1 282 = .ok (.goto 29, 3) := by decide +kernel
theorem d_MO_fillNamed_285 : decode M_MO_fillNamed.2.1 285 = .ok (.lload_n 1, 1) := by decide +kernel
theorem d_MO_fillNamed_286 : decode M_MO_fillNamed.2.1 286 = .ok (.ldc2_w 145, 3) := by decide +kernel
theorem d_MO_fillNamed_289 : decode M_MO_fillNamed.2.1 289 = .ok (.lcmp, 1) := by decide +kernel
theorem d_MO_fillNamed_290 : decode M_MO_fillNamed.2.1 290 = .ok (.ifCond .ne 16, 3) := by decide +kernel
theorem d_MO_fillNamed_293 : decode M_MO_fillNamed.2.1 293 = .ok (.aload_n 0, 1) := by decide +kernel
theorem d_MO_fillNamed_294 : decode M_MO_fillNamed.2.1 294 = .ok (.bipush 8, 2) := by decide +kernel
theorem d_MO_fillNamed_296 : decode M_MO_fillNamed.2.1 296 = .ok (.ldc 147, 2) := by decide +kernel
theorem d_MO_fillNamed_298 : decode M_MO_fillNamed.2.1 298 = .ok (.ldc 148, 2) := by decide +kernel
theorem d_MO_fillNamed_300 : decode M_MO_fillNamed.2.1 300 = .ok (.invokevirtual 123, 3) := by decide +kernel
theorem d_MO_fillNamed_303 : decode M_MO_fillNamed.2.1 303 = .ok (.goto 8, 3) := by decide +kernel
theorem d_MO_fillNamed_306 : decode M_MO_fillNamed.2.1 306 = .ok (.aload_n 0, 1) := by decide +kernel
theorem d_MO_fillNamed_307 : decode M_MO_fillNamed.2.1 307 = .ok (.iconst 0, 1) := by decide +kernel
theorem d_MO_fillNamed_308 : decode M_MO_fillNamed.2.1 308 = .ok (.putfield 93, 3) := by decide +kernel
theorem d_MO_fillNamed_311 : decode M_MO_fillNamed.2.1 311 = .ok (.return_, 1) := by decide +kernel
theorem d_MO_fillLetters_0 : decode M_MO_fillLetters.2.1 0 = .ok (.aload_n 0, 1) := by decide +kernel
theorem d_MO_fillLetters_1 : decode M_MO_fillLetters.2.1 1 = .ok (.bipush 8, 2) := by decide +kernel
theorem d_MO_fillLetters_3 : decode M_MO_fillLetters.2.1 3 = .ok (.bipush 65, 2) := by decide +kernel
theorem d_MO_fillLetters_5 : decode M_MO_fillLetters.2.1 5 = .ok (.bipush 90, 2) := by decide +kernel
theorem d_MO_fillLetters_7 : decode M_MO_fillLetters.2.1 7 = .ok (.invokevirtual 123, 3) := by decide +kernel
theorem d_MO_fillLetters_10 : decode M_MO_fillLetters.2.1 10 = .ok (.aload_n 0, 1) := by decide +kernel
theorem d_MO_fillLetters_11 : decode M_MO_fillLetters.2.1 11 = .ok (.bipush 8, 2) := by decide +kernel
theorem d_MO_fillLetters_13 : decode M_MO_fillLetters.2.1 13 = .ok (.bipush 97, 2) := by decide +kernel
theorem d_MO_fillLetters_15 : decode M_MO_fillLetters.2.1 15 = .ok (.bipush 122, 2) := by decide +kernel
theorem d_MO_fillLetters_17 : decode M_MO_fillLetters.2.1 17 = .ok (.invokevirtual 123, 3) := by decide +kernel
theorem d_MO_fillLetters_20 : decode M_MO_fillLetters.2.1 20 = .ok (.aload_n 0, 1) := by decide +kernel
theorem d_MO_fillLetters_21 : decode M_MO_fillLetters.2.1 21 = .ok (.bipush 8, 2) := by decide +kernel
theorem d_MO_fillLetters_23 : decode M_MO_fillLetters.2.1 23 = .ok (.sipush 170, 3) := by decide +kernel
theorem d_MO_fillLetters_26 : decode M_MO_fillLetters.2.1 26 = .ok (.sipush 170, 3) := by decide +kernel
theorem d_MO_fillLetters_29 : decode M_MO_fillLetters.2.1 29 = .ok (.invokevirtual 123, 3) := by decide +kernel
theorem d_MO_fillLetters_32 : decode M_MO_fillLetters.2.1 32 = .ok (.aload_n 0, 1) := by decide +kernel
theorem d_MO_fillLetters_33 : decode M_MO_fillLetters.2.1 33 = .ok (.bipush 8, 2) := by decide +kernel
theorem d_MO_fillLetters_35 : decode M_MO_fillLetters.2.1 35 = .ok (.sipush 181, 3) := by decide +kernel
theorem d_MO_fillLetters_38 : decode M_MO_fillLetters.2.1 38 = .ok (.sipush 181, 3) := by decide +kernel
theorem d_MO_fillLetters_41 : decode M_MO_fillLetters.2.1 41 = .ok (.invokevirtual 123, 3) := by decide +kernel
theorem d_MO_fillLetters_44 : decode M_MO_fillLetters.2.1 44 = .ok (.aload_n 0, 1) := by decide +kernel
theorem d_MO_fillLetters_45 : decode M_MO_fillLetters.2.1 45 = .ok (.bipush 8, 2) := by decide +kernel
theorem d_MO_fillLetters_47 : decode M_MO_fillLetters.2.1 47 = .ok (.sipush 186, 3) := by decide +kernel
theorem d_MO_fillLetters_50 : decode M_MO_fillLetters.2.1 50 = .ok (.sipush 186, 3) := by decide +kernel
theorem d_MO_fillLetters_53 : decode M_MO_fillLetters.2.1 53 = .ok (.invokevirtual 123, 3) := by decide +kernel
theorem d_MO_fillLetters_56 : decode M_MO_fillLetters.2.1 56 = .ok (.aload_n 0, 1) := by decide +kernel
theorem d_MO_fillLetters_57 : decode M_MO_fillLetters.2.1 57 = .ok (.bipush 8, 2) := by decide +kernel
theorem d_MO_fillLetters_59 : decode M_MO_fillLetters.2.1 59 = .ok (.sipush 192, 3) := by decide +kernel
theorem d_MO_fillLetters_62 : decode M_MO_fillLetters.2.1 62 = .ok (.sipush 214, 3) := by decide +kernel
theorem d_MO_fillLetters_65 : decode M_MO_fillLetters.2.1 65 = .ok (.invokevirtual 123, 3) := by decide +kernel
theorem d_MO_fillLetters_68 : decode M_MO_fillLetters.2.1 68 = .ok (.aload_n 0, 1) := by decide +kernel
theorem d_MO_fillLetters_69 : decode M_MO_fillLetters.2.1 69 = .ok (.bipush 8, 2) := by decide +kernel
theorem d_MO_fillLetters_71 : decode M_MO_fillLetters.2.1 71 = .ok (.sipush 216, 3) := by decide +kernel
theorem d_MO_fillLetters_74 : decode M_MO_fillLetters.2.1 74 = .ok (.sipush 246, 3) := by decide +kernel
theorem d_MO_fillLetters_77 : decode M_MO_fillLetters.2.1 77 = .ok (.invokevirtual 123, 3) := by decide +kernel
theorem d_MO_fillLetters_80 : decode M_MO_fillLetters.2.1 80 = .ok (.aload_n 0, 1) := by decide +kernel
theorem d_MO_fillLetters_81 : decode M_MO_fillLetters.2.1 81 = .ok (.bipush 8, 2) := by decide +kernel
theorem d_MO_fillLetters_83 : decode M_MO_fillLetters.2.1 83 = .ok (.sipush 248, 3) := by decide +kernel
theorem d_MO_fillLetters_86 : decode M_MO_fillLetters.2.1 86 = .ok (.sipush 255, 3) := by decide +kernel
theorem d_MO_fillLetters_89 : decode M_MO_fillLetters.2.1 89 = .ok (.invokevirtual 123, 3) := by decide +kernel
theorem d_MO_fillLetters_92 : decode M_MO_fillLetters.2.1 92 = .ok (.aload_n 0, 1) := by decide +kernel
theorem d_MO_fillLetters_93 : decode M_MO_fillLetters.2.1 93 = .ok (.bipush 8, 2) := by decide +kernel
theorem d_MO_fillLetters_95 : decode M_MO_fillLetters.2.1 95 = .ok (.sipush 880, 3) := by decide +kernel
theorem d_MO_fillLetters_98 : decode M_MO_fillLetters.2.1 98 = .ok (.sipush 1023, 3) := by decide +kernel
theorem d_MO_fillLetters_101 : decode M_MO_fillLetters.2.1 101 = .ok (.invokevirtual 123, 3) := by decide +kernel
theorem d_MO_fillLetters_104 : decode M_MO_fillLetters.2.1 104 = .ok (.return_, 1) := by decide +kernel
theorem d_MO_level_0 : decode M_MO_level.2.1 0 = .ok (.iconst 2, 1) := by decide +kernel
theorem d_MO_level_1 : decode M_MO_level.2.1 1 = .ok (.aload_n 0, 1) := by decide +kernel
theorem d_MO_level_2 : decode M_MO_level.2.1 2 = .ok (.getfield 149, 3) := by decide +kernel
theorem d_MO_level_5 : decode M_MO_level.2.1 5 = .ok (.iadd, 1) := by decide +kernel
theorem d_MO_level_6 : decode M_MO_level.2.1 6 = .ok (.ireturn, 1) := by decide +kernel
theorem d_MO_open_0 : decode M_MO_open.2.1 0 = .ok (.aload_n 0, 1) := by decide +kernel
theorem d_MO_open_1 : decode M_MO_open.2.1 1 = .ok (.aload_n 0, 1) := by decide +kernel
theorem d_MO_open_2 : decode M_MO_open.2.1 2 = .ok (.getfield 86, 3) := by decide +kernel
theorem d_MO_open_5 : decode M_MO_open.2.1 5 = .ok (.iconst 1, 1) := by decide +kernel
theorem d_MO_open_6 : decode M_MO_open.2.1 6 = .ok (.iadd, 1) := by decide +kernel
theorem d_MO_open_7 : decode M_MO_open.2.1 7 = .ok (.putfield 86, 3) := by decide +kernel
theorem d_MO_open_10 : decode M_MO_open.2.1 10 = .ok (.aload_n 0, 1) := by decide +kernel
theorem d_MO_open_11 : decode M_MO_open.2.1 11 = .ok (.getfield 149, 3) := by decide +kernel
theorem d_MO_open_14 : decode M_MO_open.2.1 14 = .ok (.iconst 5, 1) := by decide +kernel
theorem d_MO_open_15 : decode M_MO_open.2.1 15 = .ok (.if_icmp .ne 9, 3) := by decide +kernel
theorem d_MO_open_18 : decode M_MO_open.2.1 18 = .ok (.aload_n 0, 1) := by decide +kernel
theorem d_MO_open_19 : decode M_MO_open.2.1 19 = .ok (.iconst 0, 1) := by decide +kernel
theorem d_MO_open_20 : decode M_MO_open.2.1 20 = .ok (.putfield 93, 3) := by decide +kernel
theorem d_MO_open_23 : decode M_MO_open.2.1 23 = .ok (.return_, 1) := by decide +kernel
theorem d_MO_open_24 : decode M_MO_open.2.1 24 = .ok (.aload_n 0, 1) := by decide +kernel
theorem d_MO_open_25 : decode M_MO_open.2.1 25 = .ok (.aload_n 0, 1) := by decide +kernel
theorem d_MO_open_26 : decode M_MO_open.2.1 26 = .ok (.getfield 149, 3) := by decide +kernel
theorem d_MO_open_29 : decode M_MO_open.2.1 29 = .ok (.iconst 1, 1) := by decide +kernel
theorem d_MO_open_30 : decode M_MO_open.2.1 30 = .ok (.iadd, 1) := by decide +kernel
theorem d_MO_open_31 : decode M_MO_open.2.1 31 = .ok (.putfield 149, 3) := by decide +kernel
theorem d_MO_open_34 : decode M_MO_open.2.1 34 = .ok (.aload_n 0, 1) := by decide +kernel
theorem d_MO_open_35 : decode M_MO_open.2.1 35 = .ok (.aload_n 0, 1) := by decide +kernel
theorem d_MO_open_36 : decode M_MO_open.2.1 36 = .ok (.invokevirtual 152, 3) := by decide +kernel
theorem d_MO_open_39 : decode M_MO_open.2.1 39 = .ok (.invokevirtual 48, 3) := by decide +kernel
theorem d_MO_open_42 : decode M_MO_open.2.1 42 = .ok (.aload_n 0, 1) := by decide +kernel
theorem d_MO_open_43 : decode M_MO_open.2.1 43 = .ok (.getfield 26, 3) := by decide +kernel
theorem d_MO_open_46 : decode M_MO_open.2.1 46 = .ok (.aload_n 0, 1) := by decide +kernel
theorem d_MO_open_47 : decode M_MO_open.2.1 47 = .ok (.getfield 149, 3) := by decide +kernel
theorem d_MO_open_50 : decode M_MO_open.2.1 50 = .ok (.aload_n 0, 1) := by decide +kernel
theorem d_MO_open_51 : decode M_MO_open.2.1 51 = .ok (.aload_n 0, 1) := by decide +kernel
theorem d_MO_open_52 : decode M_MO_open.2.1 52 = .ok (.getfield 86, 3) := by decide +kernel
theorem d_MO_open_55 : decode M_MO_open.2.1 55 = .ok (.bipush 94, 2) := by decide +kernel
theorem d_MO_open_57 : decode M_MO_open.2.1 57 = .ok (.invokevirtual 83, 3) := by decide +kernel
theorem d_MO_open_60 : decode M_MO_open.2.1 60 = .ok (.bastore, 1) := by decide +kernel
theorem d_MO_open_61 : decode M_MO_open.2.1 61 = .ok (.aload_n 0, 1) := by decide +kernel
theorem d_MO_open_62 : decode M_MO_open.2.1 62 = .ok (.aload_n 0, 1) := by decide +kernel
theorem d_MO_open_63 : decode M_MO_open.2.1 63 = .ok (.getfield 26, 3) := by decide +kernel
theorem d_MO_open_66 : decode M_MO_open.2.1 66 = .ok (.aload_n 0, 1) := by decide +kernel
theorem d_MO_open_67 : decode M_MO_open.2.1 67 = .ok (.getfield 149, 3) := by decide +kernel
theorem d_MO_open_70 : decode M_MO_open.2.1 70 = .ok (.baload, 1) := by decide +kernel
theorem d_MO_open_71 : decode M_MO_open.2.1 71 = .ok (.ifCond .eq 12, 3) := by decide +kernel
theorem d_MO_open_74 : decode M_MO_open.2.1 74 = .ok (.aload_n 0, 1) := by decide +kernel
theorem d_MO_open_75 : decode M_MO_open.2.1 75 = .ok (.getfield 86, 3) := by decide +kernel
theorem d_MO_open_78 : decode M_MO_open.2.1 78 = .ok (.iconst 1, 1) := by decide +kernel
theorem d_MO_open_79 : decode M_MO_open.2.1 79 = .ok (.iadd, 1) := by decide +kernel
theorem d_MO_open_80 : decode M_MO_open.2.1 80 = .ok (.goto 7, 3) := by decide +kernel
theorem d_MO_open_83 : decode M_MO_open.2.1 83 = .ok (.aload_n 0, 1) := by decide +kernel
theorem d_MO_open_84 : decode M_MO_open.2.1 84 = .ok (.getfield 86, 3) := by decide +kernel
theorem d_MO_open_87 : decode M_MO_open.2.1 87 = .ok (.putfield 86, 3) := by decide +kernel
theorem d_MO_open_90 : decode M_MO_open.2.1 90 = .ok (.aload_n 0, 1) := by decide +kernel
theorem d_MO_open_91 : decode M_MO_open.2.1 91 = .ok (.getfield 30, 3) := by decide +kernel
theorem d_MO_open_94 : decode M_MO_open.2.1 94 = .ok (.aload_n 0, 1) := by decide +kernel
theorem d_MO_open_95 : decode M_MO_open.2.1 95 = .ok (.getfield 149, 3) := by decide +kernel
theorem d_MO_open_98 : decode M_MO_open.2.1 98 = .ok (.iconst 0, 1) := by decide +kernel
theorem d_MO_open_99 : decode M_MO_open.2.1 99 = .ok (.iastore, 1) := by decide +kernel
theorem d_MO_open_100 : decode M_MO_open.2.1 100 = .ok (.aload_n 0, 1) := by decide +kernel
theorem d_MO_open_101 : decode M_MO_open.2.1 101 = .ok (.getfield 33, 3) := by decide +kernel
theorem d_MO_open_104 : decode M_MO_open.2.1 104 = .ok (.aload_n 0, 1) := by decide +kernel
theorem d_MO_open_105 : decode M_MO_open.2.1 105 = .ok (.getfield 149, 3) := by decide +kernel
theorem d_MO_open_108 : decode M_MO_open.2.1 108 = .ok (.iconst 0, 1) := by decide +kernel
theorem d_MO_open_109 : decode M_MO_open.2.1 109 = .ok (.iastore, 1) := by decide +kernel
theorem d_MO_open_110 : decode M_MO_open.2.1 110 = .ok (.return_, 1) := by decide +kernel
theorem d_MO_ended_0 : decode M_MO_ended.2.1 0 = .ok (.aload_n 0, 1) := by decide +kernel
theorem d_MO_ended_1 : decode M_MO_ended.2.1 1 = .ok (.getfield 30, 3) := by decide +kernel
theorem d_MO_ended_4 : decode M_MO_ended.2.1 4 = .ok (.aload_n 0, 1) := by decide +kernel
theorem d_MO_ended_5 : decode M_MO_ended.2.1 5 = .ok (.getfield 149, 3) := by decide +kernel
theorem d_MO_ended_8 : decode M_MO_ended.2.1 8 = .ok (.iload_n 1, 1) := by decide +kernel
theorem d_MO_ended_9 : decode M_MO_ended.2.1 9 = .ok (.iastore, 1) := by decide +kernel
theorem d_MO_ended_10 : decode M_MO_ended.2.1 10 = .ok (.aload_n 0, 1) := by decide +kernel
theorem d_MO_ended_11 : decode M_MO_ended.2.1 11 = .ok (.aload_n 0, 1) := by decide +kernel
theorem d_MO_ended_12 : decode M_MO_ended.2.1 12 = .ok (.getfield 93, 3) := by decide +kernel
theorem d_MO_ended_15 : decode M_MO_ended.2.1 15 = .ok (.ifCond .eq 21, 3) := by decide +kernel
theorem d_MO_ended_18 : decode M_MO_ended.2.1 18 = .ok (.aload_n 0, 1) := by decide +kernel
theorem d_MO_ended_19 : decode M_MO_ended.2.1 19 = .ok (.getfield 23, 3) := by decide +kernel
theorem d_MO_ended_22 : decode M_MO_ended.2.1 22 = .ok (.aload_n 0, 1) := by decide +kernel
theorem d_MO_ended_23 : decode M_MO_ended.2.1 23 = .ok (.invokevirtual 152, 3) := by decide +kernel
theorem d_MO_ended_26 : decode M_MO_ended.2.1 26 = .ok (.iaload, 1) := by decide +kernel
theorem d_MO_ended_27 : decode M_MO_ended.2.1 27 = .ok (.bipush 8, 2) := by decide +kernel
theorem d_MO_ended_29 : decode M_MO_ended.2.1 29 = .ok (.if_icmp .gt 7, 3) := by decide +kernel
theorem d_MO_ended_32 : decode M_MO_ended.2.1 32 = .ok (.iconst 1, 1) := by decide +kernel
theorem d_MO_ended_33 : decode M_MO_ended.2.1 33 = .ok (.goto 4, 3) := by decide +kernel
theorem d_MO_ended_36 : decode M_MO_ended.2.1 36 = .ok (.iconst 0, 1) := by decide +kernel
theorem d_MO_ended_37 : decode M_MO_ended.2.1 37 = .ok (.putfield 93, 3) := by decide +kernel
theorem d_MO_ended_40 : decode M_MO_ended.2.1 40 = .ok (.return_, 1) := by decide +kernel
theorem d_MO_takeSet_0 : decode M_MO_takeSet.2.1 0 = .ok (.aload_n 0, 1) := by decide +kernel
theorem d_MO_takeSet_1 : decode M_MO_takeSet.2.1 1 = .ok (.aload_n 0, 1) := by decide +kernel
theorem d_MO_takeSet_2 : decode M_MO_takeSet.2.1 2 = .ok (.invokevirtual 152, 3) := by decide +kernel
theorem d_MO_takeSet_5 : decode M_MO_takeSet.2.1 5 = .ok (.iload_n 1, 1) := by decide +kernel
theorem d_MO_takeSet_6 : decode M_MO_takeSet.2.1 6 = .ok (.aload_n 0, 1) := by decide +kernel
theorem d_MO_takeSet_7 : decode M_MO_takeSet.2.1 7 = .ok (.getfield 33, 3) := by decide +kernel
theorem d_MO_takeSet_10 : decode M_MO_takeSet.2.1 10 = .ok (.aload_n 0, 1) := by decide +kernel
theorem d_MO_takeSet_11 : decode M_MO_takeSet.2.1 11 = .ok (.getfield 149, 3) := by decide +kernel
theorem d_MO_takeSet_14 : decode M_MO_takeSet.2.1 14 = .ok (.iaload, 1) := by decide +kernel
theorem d_MO_takeSet_15 : decode M_MO_takeSet.2.1 15 = .ok (.invokevirtual 80, 3) := by decide +kernel
theorem d_MO_takeSet_18 : decode M_MO_takeSet.2.1 18 = .ok (.aload_n 0, 1) := by decide +kernel
theorem d_MO_takeSet_19 : decode M_MO_takeSet.2.1 19 = .ok (.getfield 33, 3) := by decide +kernel
theorem d_MO_takeSet_22 : decode M_MO_takeSet.2.1 22 = .ok (.aload_n 0, 1) := by decide +kernel
theorem d_MO_takeSet_23 : decode M_MO_takeSet.2.1 23 = .ok (.getfield 149, 3) := by decide +kernel
theorem d_MO_takeSet_26 : decode M_MO_takeSet.2.1 26 = .ok (.iconst 0, 1) := by decide +kernel
theorem d_MO_takeSet_27 : decode M_MO_takeSet.2.1 27 = .ok (.iastore, 1) := by decide +kernel
theorem d_MO_takeSet_28 : decode M_MO_takeSet.2.1 28 = .ok (.aload_n 0, 1) := by decide +kernel
theorem d_MO_takeSet_29 : decode M_MO_takeSet.2.1 29 = .ok (.iconst 2, 1) := by decide +kernel
theorem d_MO_takeSet_30 : decode M_MO_takeSet.2.1 30 = .ok (.invokevirtual 156, 3) := by decide +kernel
theorem d_MO_takeSet_33 : decode M_MO_takeSet.2.1 33 = .ok (.return_, 1) := by decide +kernel
theorem d_MO_shut_0 : decode M_MO_shut.2.1 0 = .ok (.aload_n 0, 1) := by decide +kernel
theorem d_MO_shut_1 : decode M_MO_shut.2.1 1 = .ok (.aload_n 0, 1) := by decide +kernel
theorem d_MO_shut_2 : decode M_MO_shut.2.1 2 = .ok (.getfield 86, 3) := by decide +kernel
theorem d_MO_shut_5 : decode M_MO_shut.2.1 5 = .ok (.iconst 1, 1) := by decide +kernel
theorem d_MO_shut_6 : decode M_MO_shut.2.1 6 = .ok (.iadd, 1) := by decide +kernel
theorem d_MO_shut_7 : decode M_MO_shut.2.1 7 = .ok (.putfield 86, 3) := by decide +kernel
theorem d_MO_shut_10 : decode M_MO_shut.2.1 10 = .ok (.aload_n 0, 1) := by decide +kernel
theorem d_MO_shut_11 : decode M_MO_shut.2.1 11 = .ok (.invokevirtual 152, 3) := by decide +kernel
theorem d_MO_shut_14 : decode M_MO_shut.2.1 14 = .ok (.istore_n 1, 1) := by decide +kernel
theorem d_MO_shut_15 : decode M_MO_shut.2.1 15 = .ok (.aload_n 0, 1) := by decide +kernel
theorem d_MO_shut_16 : decode M_MO_shut.2.1 16 = .ok (.getfield 26, 3) := by decide +kernel
theorem d_MO_shut_19 : decode M_MO_shut.2.1 19 = .ok (.aload_n 0, 1) := by decide +kernel
theorem d_MO_shut_20 : decode M_MO_shut.2.1 20 = .ok (.getfield 149, 3) := by decide +kernel
theorem d_MO_shut_23 : decode M_MO_shut.2.1 23 = .ok (.baload, 1) := by decide +kernel
theorem d_MO_shut_24 : decode M_MO_shut.2.1 24 = .ok (.ifCond .eq 36, 3) := by decide +kernel
theorem d_MO_shut_27 : decode M_MO_shut.2.1 27 = .ok (.aload_n 0, 1) := by decide +kernel
theorem d_MO_shut_28 : decode M_MO_shut.2.1 28 = .ok (.aload_n 0, 1) := by decide +kernel
theorem d_MO_shut_29 : decode M_MO_shut.2.1 29 = .ok (.getfield 93, 3) := by decide +kernel
theorem d_MO_shut_32 : decode M_MO_shut.2.1 32 = .ok (.ifCond .eq 16, 3) := by decide +kernel
theorem d_MO_shut_35 : decode M_MO_shut.2.1 35 = .ok (.aload_n 0, 1) := by decide +kernel
theorem d_MO_shut_36 : decode M_MO_shut.2.1 36 = .ok (.getfield 23, 3) := by decide +kernel
theorem d_MO_shut_39 : decode M_MO_shut.2.1 39 = .ok (.iload_n 1, 1) := by decide +kernel
theorem d_MO_shut_40 : decode M_MO_shut.2.1 40 = .ok (.iaload, 1) := by decide +kernel
theorem d_MO_shut_41 : decode M_MO_shut.2.1 41 = .ok (.ifCond .ne 7, 3) := by decide +kernel
theorem d_MO_shut_44 : decode M_MO_shut.2.1 44 = .ok (.iconst 1, 1) := by decide +kernel
theorem d_MO_shut_45 : decode M_MO_shut.2.1 45 = .ok (.goto 4, 3) := by decide +kernel
theorem d_MO_shut_48 : decode M_MO_shut.2.1 48 = .ok (.iconst 0, 1) := by decide +kernel
theorem d_MO_shut_49 : decode M_MO_shut.2.1 49 = .ok (.putfield 93, 3) := by decide +kernel
theorem d_MO_shut_52 : decode M_MO_shut.2.1 52 = .ok (.aload_n 0, 1) := by decide +kernel
theorem d_MO_shut_53 : decode M_MO_shut.2.1 53 = .ok (.iload_n 1, 1) := by decide +kernel
theorem d_MO_shut_54 : decode M_MO_shut.2.1 54 = .ok (.bipush 11, 2) := by decide +kernel
theorem d_MO_shut_56 : decode M_MO_shut.2.1 56 = .ok (.iconst 3, 1) := by decide +kernel
theorem d_MO_shut_57 : decode M_MO_shut.2.1 57 = .ok (.invokevirtual 80, 3) := by decide +kernel
theorem d_MO_shut_60 : decode M_MO_shut.2.1 60 = .ok (.aload_n 0, 1) := by decide +kernel
theorem d_MO_shut_61 : decode M_MO_shut.2.1 61 = .ok (.aload_n 0, 1) := by decide +kernel
theorem d_MO_shut_62 : decode M_MO_shut.2.1 62 = .ok (.getfield 149, 3) := by decide +kernel
theorem d_MO_shut_65 : decode M_MO_shut.2.1 65 = .ok (.iconst 1, 1) := by decide +kernel
theorem d_MO_shut_66 : decode M_MO_shut.2.1 66 = .ok (.isub, 1) := by decide +kernel
theorem d_MO_shut_67 : decode M_MO_shut.2.1 67 = .ok (.putfield 149, 3) := by decide +kernel
theorem d_MO_shut_70 : decode M_MO_shut.2.1 70 = .ok (.aload_n 0, 1) := by decide +kernel
theorem d_MO_shut_71 : decode M_MO_shut.2.1 71 = .ok (.getfield 149, 3) := by decide +kernel
theorem d_MO_shut_74 : decode M_MO_shut.2.1 74 = .ok (.ifCond .le 15, 3) := by decide +kernel
theorem d_MO_shut_77 : decode M_MO_shut.2.1 77 = .ok (.aload_n 0, 1) := by decide +kernel
theorem d_MO_shut_78 : decode M_MO_shut.2.1 78 = .ok (.getfield 93, 3) := by decide +kernel
theorem d_MO_shut_81 : decode M_MO_shut.2.1 81 = .ok (.ifCond .eq 8, 3) := by decide +kernel
theorem d_MO_shut_84 : decode M_MO_shut.2.1 84 = .ok (.aload_n 0, 1) := by decide +kernel
theorem d_MO_shut_85 : decode M_MO_shut.2.1 85 = .ok (.iload_n 1, 1) := by decide +kernel
theorem d_MO_shut_86 : decode M_MO_shut.2.1 86 = .ok (.invokevirtual 159, 3) := by decide +kernel
theorem d_MO_shut_89 : decode M_MO_shut.2.1 89 = .ok (.return_, 1) := by decide +kernel
theorem d_MO_string_0 : decode M_MO_string.2.1 0 = .ok (.aload_n 0, 1) := by decide +kernel
theorem d_MO_string_1 : decode M_MO_string.2.1 1 = .ok (.aload_n 0, 1) := by decide +kernel
theorem d_MO_string_2 : decode M_MO_string.2.1 2 = .ok (.aload_n 0, 1) := by decide +kernel
theorem d_MO_string_3 : decode M_MO_string.2.1 3 = .ok (.getfield 86, 3) := by decide +kernel
theorem d_MO_string_6 : decode M_MO_string.2.1 6 = .ok (.iconst 1, 1) := by decide +kernel
theorem d_MO_string_7 : decode M_MO_string.2.1 7 = .ok (.iadd, 1) := by decide +kernel
theorem d_MO_string_8 : decode M_MO_string.2.1 8 = .ok (.invokevirtual 162, 3) := by decide +kernel
theorem d_MO_string_11 : decode M_MO_string.2.1 11 = .ok (.putfield 86, 3) := by decide +kernel
theorem d_MO_string_14 : decode M_MO_string.2.1 14 = .ok (.iconst 0, 1) := by decide +kernel
theorem d_MO_string_15 : decode M_MO_string.2.1 15 = .ok (.istore_n 1, 1) := by decide +kernel
theorem d_MO_string_16 : decode M_MO_string.2.1 16 = .ok (.iconst 0, 1) := by decide +kernel
theorem d_MO_string_17 : decode M_MO_string.2.1 17 = .ok (.istore_n 2, 1) := by decide +kernel
theorem d_MO_string_18 : decode M_MO_string.2.1 18 = .ok (.iconst 0, 1) := by decide +kernel
theorem d_MO_string_19 : decode M_MO_string.2.1 19 = .ok (.istore_n 3, 1) := by decide +kernel
theorem d_MO_string_20 : decode M_MO_string.2.1 20 = .ok (.iconst 0, 1) := by decide +kernel
theorem d_MO_string_21 : decode M_MO_string.2.1 21 = .ok (.istore 4, 2) := by decide +kernel
theorem d_MO_string_23 : decode M_MO_string.2.1 23 = .ok (.aload_n 0, 1) := by decide +kernel
theorem d_MO_string_24 : decode M_MO_string.2.1 24 = .ok (.getfield 93, 3) := by decide +kernel
theorem d_MO_string_27 : decode M_MO_string.2.1 27 = .ok (.ifCond .eq 83, 3) := by decide +kernel
theorem d_MO_string_30 : decode M_MO_string.2.1 30 = .ok (.aload_n 0, 1) := by decide +kernel
theorem d_MO_string_31 : decode M_MO_string.2.1 31 = .ok (.aload_n 0, 1) := by decide +kernel
theorem d_MO_string_32 : decode M_MO_string.2.1 32 = .ok (.getfield 86, 3) := by decide +kernel
theorem d_MO_string_35 : decode M_MO_string.2.1 35 = .ok (.bipush 125, 2) := by decide +kernel
theorem d_MO_string_37 : decode M_MO_string.2.1 37 = .ok (.invokevirtual 83, 3) := by decide +kernel
theorem d_MO_string_40 : decode M_MO_string.2.1 40 = .ok (.ifCond .ne 70, 3) := by decide +kernel
theorem d_MO_string_43 : decode M_MO_string.2.1 43 = .ok (.iload_n 1, 1) := by decide +kernel
theorem d_MO_string_44 : decode M_MO_string.2.1 44 = .ok (.iconst 3, 1) := by decide +kernel
theorem d_MO_string_45 : decode M_MO_string.2.1 45 = .ok (.if_icmp .ge 65, 3) := by decide +kernel
theorem d_MO_string_48 : decode M_MO_string.2.1 48 = .ok (.aload_n 0, 1) := by decide +kernel
theorem d_MO_string_49 : decode M_MO_string.2.1 49 = .ok (.invokevirtual 165, 3) := by decide +kernel
theorem d_MO_string_52 : decode M_MO_string.2.1 52 = .ok (.istore 5, 2) := by decide +kernel
theorem d_MO_string_54 : decode M_MO_string.2.1 54 = .ok (.iload_n 1, 1) := by decide +kernel
theorem d_MO_string_55 : decode M_MO_string.2.1 55 = .ok (.ifCond .ne 8, 3) := by decide +kernel
theorem d_MO_string_58 : decode M_MO_string.2.1 58 = .ok (.iload 5, 2) := by decide +kernel
theorem d_MO_string_60 : decode M_MO_string.2.1 60 = .ok (.goto 4, 3) := by decide +kernel
theorem d_MO_string_63 : decode M_MO_string.2.1 63 = .ok (.iload_n 2, 1) := by decide +kernel
theorem d_MO_string_64 : decode M_MO_string.2.1 64 = .ok (.istore_n 2, 1) := by decide +kernel
theorem d_MO_string_65 : decode M_MO_string.2.1 65 = .ok (.iload_n 1, 1) := by decide +kernel
theorem d_MO_string_66 : decode M_MO_string.2.1 66 = .ok (.iconst 1, 1) := by decide +kernel
theorem d_MO_string_67 : decode M_MO_string.2.1 67 = .ok (.if_icmp .ne 8, 3) := by decide +kernel
theorem d_MO_string_70 : decode M_MO_string.2.1 70 = .ok (.iload 5, 2) := by decide +kernel
theorem d_MO_string_72 : decode M_MO_string.2.1 72 = .ok (.goto 4, 3) := by decide +kernel
theorem d_MO_string_75 : decode M_MO_string.2.1 75 = .ok (.iload_n 3, 1) := by decide +kernel
theorem d_MO_string_76 : decode M_MO_string.2.1 76 = .ok (.istore_n 3, 1) := by decide +kernel
theorem d_MO_string_77 : decode M_MO_string.2.1 77 = .ok (.iload_n 1, 1) := by decide +kernel
theorem d_MO_string_78 : decode M_MO_string.2.1 78 = .ok (.iconst 2, 1) := by decide +kernel
theorem d_MO_string_79 : decode M_MO_string.2.1 79 = .ok (.if_icmp .ne 8, 3) := by decide +kernel
theorem d_MO_string_82 : decode M_MO_string.2.1 82 = .ok (.iload 5, 2) := by decide +kernel
theorem d_MO_string_84 : decode M_MO_string.2.1 84 = .ok (.goto 5, 3) := by decide +kernel
theorem d_MO_string_87 : decode M_MO_string.2.1 87 = .ok (.iload 4, 2) := by decide +kernel
theorem d_MO_string_89 : decode M_MO_string.2.1 89 = .ok (.istore 4, 2) := by decide +kernel
theorem d_MO_string_91 : decode M_MO_string.2.1 91 = .ok (.iload_n 1, 1) := by decide +kernel
theorem d_MO_string_92 : decode M_MO_string.2.1 92 = .ok (.iconst 1, 1) := by decide +kernel
theorem d_MO_string_93 : decode M_MO_string.2.1 93 = .ok (.iadd, 1) := by decide +kernel
theorem d_MO_string_94 : decode M_MO_string.2.1 94 = .ok (.istore_n 1, 1) := by decide +kernel
theorem d_MO_string_95 : decode M_MO_string.2.1 95 = .ok (.aload_n 0, 1) := by decide +kernel
theorem d_MO_string_96 : decode M_MO_string.2.1 96 = .ok (.aload_n 0, 1) := by decide +kernel
theorem d_MO_string_97 : decode M_MO_string.2.1 97 = .ok (.aload_n 0, 1) := by decide +kernel
theorem d_MO_string_98 : decode M_MO_string.2.1 98 = .ok (.getfield 86, 3) := by decide +kernel
theorem d_MO_string_101 : decode M_MO_string.2.1 101 = .ok (.invokevirtual 162, 3) := by decide +kernel
theorem d_MO_string_104 : decode M_MO_string.2.1 104 = .ok (.putfield 86, 3) := by decide +kernel
theorem d_MO_string_107 : decode M_MO_string.2.1 107 = .ok (.goto (-84), 3) := by decide +kernel
theorem d_MO_string_110 : decode M_MO_string.2.1 110 = .ok (.aload_n 0, 1) := by decide +kernel
theorem d_MO_string_111 : decode M_MO_string.2.1 111 = .ok (.bipush 125, 2) := by decide +kernel
theorem d_MO_string_113 : decode M_MO_string.2.1 113 = .ok (.invokevirtual 105, 3) := by decide +kernel
theorem d_MO_string_116 : decode M_MO_string.2.1 116 = .ok (.aload_n 0, 1) := by decide +kernel
theorem d_MO_string_117 : decode M_MO_string.2.1 117 = .ok (.aload_n 0, 1) := by decide +kernel
theorem d_MO_string_118 : decode M_MO_string.2.1 118 = .ok (.getfield 93, 3) := by decide +kernel
theorem d_MO_string_121 : decode M_MO_string.2.1 121 = .ok (.ifCond .eq 11, 3) := by decide +kernel
theorem d_MO_string_124 : decode M_MO_string.2.1 124 = .ok (.iload_n 1, 1) := by decide +kernel
theorem d_MO_string_125 : decode M_MO_string.2.1 125 = .ok (.ifCond .le 7, 3) := by decide +kernel
theorem d_MO_string_128 : decode M_MO_string.2.1 128 = .ok (.iconst 1, 1) := by decide +kernel
theorem d_MO_string_129 : decode M_MO_string.2.1 129 = .ok (.goto 4, 3) := by decide +kernel
theorem d_MO_string_132 : decode M_MO_string.2.1 132 = .ok (.iconst 0, 1) := by decide +kernel
theorem d_MO_string_133 : decode M_MO_string.2.1 133 = .ok (.putfield 93, 3) := by decide +kernel
theorem d_MO_string_136 : decode M_MO_string.2.1 136 = .ok (.aload_n 0, 1) := by decide +kernel
theorem d_MO_string_137 : decode M_MO_string.2.1 137 = .ok (.getfield 93, 3) := by decide +kernel
theorem d_MO_string_140 : decode M_MO_string.2.1 140 = .ok (.ifCond .eq 18, 3) := by decide +kernel
theorem d_MO_string_143 : decode M_MO_string.2.1 143 = .ok (.iload_n 1, 1) := by decide +kernel
theorem d_MO_string_144 : decode M_MO_string.2.1 144 = .ok (.iconst 1, 1) := by decide +kernel
theorem d_MO_string_145 : decode M_MO_string.2.1 145 = .ok (.if_icmp .ne 13, 3) := by decide +kernel
theorem d_MO_string_148 : decode M_MO_string.2.1 148 = .ok (.aload_n 0, 1) := by decide +kernel
theorem d_MO_string_149 : decode M_MO_string.2.1 149 = .ok (.aload_n 0, 1) := by decide +kernel
theorem d_MO_string_150 : decode M_MO_string.2.1 150 = .ok (.invokevirtual 152, 3) := by decide +kernel
theorem d_MO_string_153 : decode M_MO_string.2.1 153 = .ok (.iload_n 2, 1) := by decide +kernel
theorem d_MO_string_154 : decode M_MO_string.2.1 154 = .ok (.iload_n 2, 1) := by decide +kernel
theorem d_MO_string_155 : decode M_MO_string.2.1 155 = .ok (.invokevirtual 123, 3) := by decide +kernel
theorem d_MO_string_158 : decode M_MO_string.2.1 158 = .ok (.aload_n 0, 1) := by decide +kernel
theorem d_MO_string_159 : decode M_MO_string.2.1 159 = .ok (.getfield 93, 3) := by decide +kernel
theorem d_MO_string_162 : decode M_MO_string.2.1 162 = .ok (.ifCond .eq 84, 3) := by decide +kernel
theorem d_MO_string_165 : decode M_MO_string.2.1 165 = .ok (.iload_n 1, 1) := by decide +kernel
theorem d_MO_string_166 : decode M_MO_string.2.1 166 = .ok (.iconst 1, 1) := by decide +kernel
theorem d_MO_string_167 : decode M_MO_string.2.1 167 = .ok (.if_icmp .le 79, 3) := by decide +kernel
theorem d_MO_string_170 : decode M_MO_string.2.1 170 = .ok (.iload_n 2, 1) := by decide +kernel
theorem d_MO_string_171 : decode M_MO_string.2.1 171 = .ok (.iload_n 3, 1) := by decide +kernel
theorem d_MO_string_172 : decode M_MO_string.2.1 172 = .ok (.iload 4, 2) := by decide +kernel
theorem d_MO_string_174 : decode M_MO_string.2.1 174 = .ok (.iload_n 1, 1) := by decide +kernel
theorem d_MO_string_175 : decode M_MO_string.2.1 175 = .ok (.iconst 3, 1) := by decide +kernel
theorem d_MO_string_176 : decode M_MO_string.2.1 176 = .ok (.if_icmp .ne 7, 3) := by decide +kernel
theorem d_MO_string_179 : decode M_MO_string.2.1 179 = .ok (.iconst 1, 1) := by decide +kernel
theorem d_MO_string_180 : decode M_MO_string.2.1 180 = .ok (.goto 4, 3) := by decide +kernel
theorem d_MO_string_183 : decode M_MO_string.2.1 183 = .ok (.iconst 0, 1) := by decide +kernel
theorem d_MO_string_184 : decode M_MO_string.2.1 184 = .ok (.invokestatic 168, 3) := by decide +kernel
theorem d_MO_string_187 : decode M_MO_string.2.1 187 = .ok (.lstore 5, 2) := by decide +kernel
theorem d_MO_string_189 : decode M_MO_string.2.1 189 = .ok (.aload_n 0, 1) := by decide +kernel
theorem d_MO_string_190 : decode M_MO_string.2.1 190 = .ok (.aload_n 0, 1) := by decide +kernel
theorem d_MO_string_191 : decode M_MO_string.2.1 191 = .ok (.invokevirtual 152, 3) := by decide +kernel
theorem d_MO_string_194 : decode M_MO_string.2.1 194 = .ok (.lload 5, 2) := by decide +kernel
theorem d_MO_string_196 : decode M_MO_string.2.1 196 = .ok (.invokevirtual 64, 3) := by decide +kernel
theorem d_MO_string_199 : decode M_MO_string.2.1 199 = .ok (.ifCond .ne 47, 3) := by decide +kernel
theorem d_MO_string_202 : decode M_MO_string.2.1 202 = .ok (.aload_n 0, 1) := by decide +kernel
theorem d_MO_string_203 : decode M_MO_string.2.1 203 = .ok (.getfield 19, 3) := by decide +kernel
theorem d_MO_string_206 : decode M_MO_string.2.1 206 = .ok (.bipush 20, 2) := by decide +kernel
theorem d_MO_string_208 : decode M_MO_string.2.1 208 = .ok (.aload_n 0, 1) := by decide +kernel
theorem d_MO_string_209 : decode M_MO_string.2.1 209 = .ok (.invokevirtual 152, 3) := by decide +kernel
theorem d_MO_string_212 : decode M_MO_string.2.1 212 = .ok (.imul, 1) := by decide +kernel
theorem d_MO_string_213 : decode M_MO_string.2.1 213 = .ok (.aload_n 0, 1) := by decide +kernel
theorem d_MO_string_214 : decode M_MO_string.2.1 214 = .ok (.getfield 23, 3) := by decide +kernel
theorem d_MO_string_217 : decode M_MO_string.2.1 217 = .ok (.aload_n 0, 1) := by decide +kernel
theorem d_MO_string_218 : decode M_MO_string.2.1 218 = .ok (.invokevirtual 152, 3) := by decide +kernel
theorem d_MO_string_221 : decode M_MO_string.2.1 221 = .ok (.iaload, 1) := by decide +kernel
theorem d_MO_string_222 : decode M_MO_string.2.1 222 = .ok (.iadd, 1) := by decide +kernel
theorem d_MO_string_223 : decode M_MO_string.2.1 223 = .ok (.lload 5, 2) := by decide +kernel
theorem d_MO_string_225 : decode M_MO_string.2.1 225 = .ok (.lastore, 1) := by decide +kernel
theorem d_MO_string_226 : decode M_MO_string.2.1 226 = .ok (.aload_n 0, 1) := by decide +kernel
theorem d_MO_string_227 : decode M_MO_string.2.1 227 = .ok (.getfield 23, 3) := by decide +kernel
theorem d_MO_string_230 : decode M_MO_string.2.1 230 = .ok (.aload_n 0, 1) := by decide +kernel
theorem d_MO_string_231 : decode M_MO_string.2.1 231 = .ok (.invokevirtual 152, 3) := by decide +kernel
theorem d_MO_string_234 : decode M_MO_string.2.1 234 = .ok (.aload_n 0, 1) := by decide +kernel
theorem d_MO_string_235 : decode M_MO_string.2.1 235 = .ok (.getfield 23, 3) := by decide +kernel
theorem d_MO_string_238 : decode M_MO_string.2.1 238 = .ok (.aload_n 0, 1) := by decide +kernel
theorem d_MO_string_239 : decode M_MO_string.2.1 239 = .ok (.invokevirtual 152, 3) := by decide +kernel
theorem d_MO_string_242 : decode M_MO_string.2.1 242 = .ok (.iaload, 1) := by decide +kernel
theorem d_MO_string_243 : decode M_MO_string.2.1 243 = .ok (.iconst 1, 1) := by decide +kernel
theorem d_MO_string_244 : decode M_MO_string.2.1 244 = .ok (.iadd, 1) := by decide +kernel
theorem d_MO_string_245 : decode M_MO_string.2.1 245 = .ok (.iastore, 1) := by decide +kernel
theorem d_MO_string_246 : decode M_MO_string.2.1 246 = .ok (.aload_n 0, 1) := by decide +kernel
theorem d_MO_string_247 : decode M_MO_string.2.1 247 = .ok (.iconst 1, 1) := by decide +kernel
theorem d_MO_string_248 : decode M_MO_string.2.1 248 = .ok (.invokevirtual 156, 3) := by decide +kernel
theorem d_MO_string_251 : decode M_MO_string.2.1 251 = .ok (.return_, 1) := by decide +kernel
theorem d_MO_signOrDash_0 : decode M_MO_signOrDash.2.1 0 = .ok (.aload_n 0, 1) := by decide +kernel
theorem d_MO_signOrDash_1 : decode M_MO_signOrDash.2.1 1 = .ok (.aload_n 0, 1) := by decide +kernel
theorem d_MO_signOrDash_2 : decode M_MO_signOrDash.2.1 2 = .ok (.getfield 86, 3) := by decide +kernel
theorem d_MO_signOrDash_5 : decode M_MO_signOrDash.2.1 5 = .ok (.bipush 45, 2) := by decide +kernel
theorem d_MO_signOrDash_7 : decode M_MO_signOrDash.2.1 7 = .ok (.invokevirtual 83, 3) := by decide +kernel
theorem d_MO_signOrDash_10 : decode M_MO_signOrDash.2.1 10 = .ok (.istore_n 1, 1) := by decide +kernel
theorem d_MO_signOrDash_11 : decode M_MO_signOrDash.2.1 11 = .ok (.aload_n 0, 1) := by decide +kernel
theorem d_MO_signOrDash_12 : decode M_MO_signOrDash.2.1 12 = .ok (.aload_n 0, 1) := by decide +kernel
theorem d_MO_signOrDash_13 : decode M_MO_signOrDash.2.1 13 = .ok (.getfield 86, 3) := by decide +kernel
theorem d_MO_signOrDash_16 : decode M_MO_signOrDash.2.1 16 = .ok (.iconst 1, 1) := by decide +kernel
theorem d_MO_signOrDash_17 : decode M_MO_signOrDash.2.1 17 = .ok (.iadd, 1) := by decide +kernel
theorem d_MO_signOrDash_18 : decode M_MO_signOrDash.2.1 18 = .ok (.invokevirtual 162, 3) := by decide +kernel
theorem d_MO_signOrDash_21 : decode M_MO_signOrDash.2.1 21 = .ok (.istore_n 2, 1) := by decide +kernel
theorem d_MO_signOrDash_22 : decode M_MO_signOrDash.2.1 22 = .ok (.iload_n 1, 1) := by decide +kernel
theorem d_MO_signOrDash_23 : decode M_MO_signOrDash.2.1 23 = .ok (.ifCond .eq 55, 3) := by decide +kernel
theorem d_MO_signOrDash_26 : decode M_MO_signOrDash.2.1 26 = .ok (.aload_n 0, 1) := by decide +kernel
theorem d_MO_signOrDash_27 : decode M_MO_signOrDash.2.1 27 = .ok (.getfield 30, 3) := by decide +kernel
theorem d_MO_signOrDash_30 : decode M_MO_signOrDash.2.1 30 = .ok (.aload_n 0, 1) := by decide +kernel
theorem d_MO_signOrDash_31 : decode M_MO_signOrDash.2.1 31 = .ok (.getfield 149, 3) := by decide +kernel
theorem d_MO_signOrDash_34 : decode M_MO_signOrDash.2.1 34 = .ok (.iaload, 1) := by decide +kernel
theorem d_MO_signOrDash_35 : decode M_MO_signOrDash.2.1 35 = .ok (.ifCond .eq 13, 3) := by decide +kernel
theorem d_MO_signOrDash_38 : decode M_MO_signOrDash.2.1 38 = .ok (.aload_n 0, 1) := by decide +kernel
theorem d_MO_signOrDash_39 : decode M_MO_signOrDash.2.1 39 = .ok (.iload_n 2, 1) := by decide +kernel
theorem d_MO_signOrDash_40 : decode M_MO_signOrDash.2.1 40 = .ok (.bipush 93, 2) := by decide +kernel
theorem d_MO_signOrDash_42 : decode M_MO_signOrDash.2.1 42 = .ok (.invokevirtual 83, 3) := by decide +kernel
theorem d_MO_signOrDash_45 : decode M_MO_signOrDash.2.1 45 = .ok (.ifCond .eq 33, 3) := by decide +kernel
theorem d_MO_signOrDash_48 : decode M_MO_signOrDash.2.1 48 = .ok (.aload_n 0, 1) := by decide +kernel
theorem d_MO_signOrDash_49 : decode M_MO_signOrDash.2.1 49 = .ok (.aload_n 0, 1) := by decide +kernel
theorem d_MO_signOrDash_50 : decode M_MO_signOrDash.2.1 50 = .ok (.invokevirtual 152, 3) := by decide +kernel
theorem d_MO_signOrDash_53 : decode M_MO_signOrDash.2.1 53 = .ok (.bipush 45, 2) := by decide +kernel
theorem d_MO_signOrDash_55 : decode M_MO_signOrDash.2.1 55 = .ok (.bipush 45, 2) := by decide +kernel
theorem d_MO_signOrDash_57 : decode M_MO_signOrDash.2.1 57 = .ok (.invokevirtual 123, 3) := by decide +kernel
theorem d_MO_signOrDash_60 : decode M_MO_signOrDash.2.1 60 = .ok (.aload_n 0, 1) := by decide +kernel
theorem d_MO_signOrDash_61 : decode M_MO_signOrDash.2.1 61 = .ok (.aload_n 0, 1) := by decide +kernel
theorem d_MO_signOrDash_62 : decode M_MO_signOrDash.2.1 62 = .ok (.getfield 86, 3) := by decide +kernel
theorem d_MO_signOrDash_65 : decode M_MO_signOrDash.2.1 65 = .ok (.iconst 1, 1) := by decide +kernel
theorem d_MO_signOrDash_66 : decode M_MO_signOrDash.2.1 66 = .ok (.iadd, 1) := by decide +kernel
theorem d_MO_signOrDash_67 : decode M_MO_signOrDash.2.1 67 = .ok (.putfield 86, 3) := by decide +kernel
theorem d_MO_signOrDash_70 : decode M_MO_signOrDash.2.1 70 = .ok (.aload_n 0, 1) := by decide +kernel
theorem d_MO_signOrDash_71 : decode M_MO_signOrDash.2.1 71 = .ok (.iconst 1, 1) := by decide +kernel
theorem d_MO_signOrDash_72 : decode M_MO_signOrDash.2.1 72 = .ok (.invokevirtual 156, 3) := by decide +kernel
theorem d_MO_signOrDash_75 : decode M_MO_signOrDash.2.1 75 = .ok (.goto 55, 3) := by decide +kernel
theorem d_MO_signOrDash_78 : decode M_MO_signOrDash.2.1 78 = .ok (.aload_n 0, 1) := by decide +kernel
theorem d_MO_signOrDash_79 : decode M_MO_signOrDash.2.1 79 = .ok (.getfield 30, 3) := by decide +kernel
theorem d_MO_signOrDash_82 : decode M_MO_signOrDash.2.1 82 = .ok (.aload_n 0, 1) := by decide +kernel
theorem d_MO_signOrDash_83 : decode M_MO_signOrDash.2.1 83 = .ok (.getfield 149, 3) := by decide +kernel
theorem d_MO_signOrDash_86 : decode M_MO_signOrDash.2.1 86 = .ok (.iaload, 1) := by decide +kernel
theorem d_MO_signOrDash_87 : decode M_MO_signOrDash.2.1 87 = .ok (.iconst 2, 1) := by decide +kernel
theorem d_MO_signOrDash_88 : decode M_MO_signOrDash.2.1 88 = .ok (.if_icmp .ne 37, 3) := by decide +kernel
theorem d_MO_signOrDash_91 : decode M_MO_signOrDash.2.1 91 = .ok (.aload_n 0, 1) := by decide +kernel
theorem d_MO_signOrDash_92 : decode M_MO_signOrDash.2.1 92 = .ok (.iload_n 2, 1) := by decide +kernel
theorem d_MO_signOrDash_93 : decode M_MO_signOrDash.2.1 93 = .ok (.invokevirtual 172, 3) := by decide +kernel
theorem d_MO_signOrDash_96 : decode M_MO_signOrDash.2.1 96 = .ok (.ifCond .eq 29, 3) := by decide +kernel
theorem d_MO_signOrDash_99 : decode M_MO_signOrDash.2.1 99 = .ok (.aload_n 0, 1) := by decide +kernel
theorem d_MO_signOrDash_100 : decode M_MO_signOrDash.2.1 100 = .ok (.getfield 33, 3) := by decide +kernel
theorem d_MO_signOrDash_103 : decode M_MO_signOrDash.2.1 103 = .ok (.aload_n 0, 1) := by decide +kernel
theorem d_MO_signOrDash_104 : decode M_MO_signOrDash.2.1 104 = .ok (.getfield 149, 3) := by decide +kernel
theorem d_MO_signOrDash_107 : decode M_MO_signOrDash.2.1 107 = .ok (.iload_n 1, 1) := by decide +kernel
theorem d_MO_signOrDash_108 : decode M_MO_signOrDash.2.1 108 = .ok (.ifCond .eq 7, 3) := by decide +kernel
theorem d_MO_signOrDash_111 : decode M_MO_signOrDash.2.1 111 = .ok (.iconst 2, 1) := by decide +kernel
theorem d_MO_signOrDash_112 : decode M_MO_signOrDash.2.1 112 = .ok (.goto 4, 3) := by decide +kernel
theorem d_MO_signOrDash_115 : decode M_MO_signOrDash.2.1 115 = .ok (.iconst 1, 1) := by decide +kernel
theorem d_MO_signOrDash_116 : decode M_MO_signOrDash.2.1 116 = .ok (.iastore, 1) := by decide +kernel
theorem d_MO_signOrDash_117 : decode M_MO_signOrDash.2.1 117 = .ok (.aload_n 0, 1) := by decide +kernel
theorem d_MO_signOrDash_118 : decode M_MO_signOrDash.2.1 118 = .ok (.iload_n 2, 1) := by decide +kernel
theorem d_MO_signOrDash_119 : decode M_MO_signOrDash.2.1 119 = .ok (.putfield 86, 3) := by decide +kernel
theorem d_MO_signOrDash_122 : decode M_MO_signOrDash.2.1 122 = .ok (.goto 8, 3) := by decide +kernel
theorem d_MO_signOrDash_125 : decode M_MO_signOrDash.2.1 125 = .ok (.aload_n 0, 1) := by decide +kernel
theorem d_MO_signOrDash_126 : decode M_MO_signOrDash.2.1 126 = .ok (.iconst 0, 1) := by decide +kernel
theorem d_MO_signOrDash_127 : decode M_MO_signOrDash.2.1 127 = .ok (.putfield 93, 3) := by decide +kernel
theorem d_MO_signOrDash_130 : decode M_MO_signOrDash.2.1 130 = .ok (.return_, 1) := by decide +kernel
theorem d_MO_chars_0 : decode M_MO_chars.2.1 0 = .ok (.aload_n 0, 1) := by decide +kernel
theorem d_MO_chars_1 : decode M_MO_chars.2.1 1 = .ok (.invokevirtual 165, 3) := by decide +kernel
theorem d_MO_chars_4 : decode M_MO_chars.2.1 4 = .ok (.istore_n 1, 1) := by decide +kernel
theorem d_MO_chars_5 : decode M_MO_chars.2.1 5 = .ok (.iload_n 1, 1) := by decide +kernel
theorem d_MO_chars_6 : decode M_MO_chars.2.1 6 = .ok (.istore_n 2, 1) := by decide +kernel
theorem d_MO_chars_7 : decode M_MO_chars.2.1 7 = .ok (.aload_n 0, 1) := by decide +kernel
theorem d_MO_chars_8 : decode M_MO_chars.2.1 8 = .ok (.aload_n 0, 1) := by decide +kernel
theorem d_MO_chars_9 : decode M_MO_chars.2.1 9 = .ok (.getfield 86, 3) := by decide +kernel
theorem d_MO_chars_12 : decode M_MO_chars.2.1 12 = .ok (.invokevirtual 162, 3) := by decide +kernel
theorem d_MO_chars_15 : decode M_MO_chars.2.1 15 = .ok (.istore_n 3, 1) := by decide +kernel
theorem d_MO_chars_16 : decode M_MO_chars.2.1 16 = .ok (.aload_n 0, 1) := by decide +kernel
theorem d_MO_chars_17 : decode M_MO_chars.2.1 17 = .ok (.getfield 93, 3) := by decide +kernel
theorem d_MO_chars_20 : decode M_MO_chars.2.1 20 = .ok (.ifCond .eq 44, 3) := by decide +kernel
theorem d_MO_chars_23 : decode M_MO_chars.2.1 23 = .ok (.aload_n 0, 1) := by decide +kernel
theorem d_MO_chars_24 : decode M_MO_chars.2.1 24 = .ok (.iload_n 3, 1) := by decide +kernel
theorem d_MO_chars_25 : decode M_MO_chars.2.1 25 = .ok (.bipush 45, 2) := by decide +kernel
theorem d_MO_chars_27 : decode M_MO_chars.2.1 27 = .ok (.invokevirtual 83, 3) := by decide +kernel
theorem d_MO_chars_30 : decode M_MO_chars.2.1 30 = .ok (.ifCond .eq 34, 3) := by decide +kernel
theorem d_MO_chars_33 : decode M_MO_chars.2.1 33 = .ok (.aload_n 0, 1) := by decide +kernel
theorem d_MO_chars_34 : decode M_MO_chars.2.1 34 = .ok (.iload_n 3, 1) := by decide +kernel
theorem d_MO_chars_35 : decode M_MO_chars.2.1 35 = .ok (.iconst 1, 1) := by decide +kernel
theorem d_MO_chars_36 : decode M_MO_chars.2.1 36 = .ok (.iadd, 1) := by decide +kernel
theorem d_MO_chars_37 : decode M_MO_chars.2.1 37 = .ok (.invokevirtual 162, 3) := by decide +kernel
theorem d_MO_chars_40 : decode M_MO_chars.2.1 40 = .ok (.istore 4, 2) := by decide +kernel
theorem d_MO_chars_42 : decode M_MO_chars.2.1 42 = .ok (.aload_n 0, 1) := by decide +kernel
theorem d_MO_chars_43 : decode M_MO_chars.2.1 43 = .ok (.iload 4, 2) := by decide +kernel
theorem d_MO_chars_45 : decode M_MO_chars.2.1 45 = .ok (.bipush 93, 2) := by decide +kernel
theorem d_MO_chars_47 : decode M_MO_chars.2.1 47 = .ok (.invokevirtual 83, 3) := by decide +kernel
theorem d_MO_chars_50 : decode M_MO_chars.2.1 50 = .ok (.ifCond .ne 14, 3) := by decide +kernel
theorem d_MO_chars_53 : decode M_MO_chars.2.1 53 = .ok (.aload_n 0, 1) := by decide +kernel
theorem d_MO_chars_54 : decode M_MO_chars.2.1 54 = .ok (.iload 4, 2) := by decide +kernel
theorem d_MO_chars_56 : decode M_MO_chars.2.1 56 = .ok (.putfield 86, 3) := by decide +kernel
theorem d_MO_chars_59 : decode M_MO_chars.2.1 59 = .ok (.aload_n 0, 1) := by decide +kernel
theorem d_MO_chars_60 : decode M_MO_chars.2.1 60 = .ok (.invokevirtual 165, 3) := by decide +kernel
theorem d_MO_chars_63 : decode M_MO_chars.2.1 63 = .ok (.istore_n 2, 1) := by decide +kernel
theorem d_MO_chars_64 : decode M_MO_chars.2.1 64 = .ok (.aload_n 0, 1) := by decide +kernel
theorem d_MO_chars_65 : decode M_MO_chars.2.1 65 = .ok (.aload_n 0, 1) := by decide +kernel
theorem d_MO_chars_66 : decode M_MO_chars.2.1 66 = .ok (.getfield 93, 3) := by decide +kernel
theorem d_MO_chars_69 : decode M_MO_chars.2.1 69 = .ok (.ifCond .eq 12, 3) := by decide +kernel
theorem d_MO_chars_72 : decode M_MO_chars.2.1 72 = .ok (.iload_n 1, 1) := by decide +kernel
theorem d_MO_chars_73 : decode M_MO_chars.2.1 73 = .ok (.iload_n 2, 1) := by decide +kernel
theorem d_MO_chars_74 : decode M_MO_chars.2.1 74 = .ok (.if_icmp .gt 7, 3) := by decide +kernel
theorem d_MO_chars_77 : decode M_MO_chars.2.1 77 = .ok (.iconst 1, 1) := by decide +kernel
theorem d_MO_chars_78 : decode M_MO_chars.2.1 78 = .ok (.goto 4, 3) := by decide +kernel
theorem d_MO_chars_81 : decode M_MO_chars.2.1 81 = .ok (.iconst 0, 1) := by decide +kernel
theorem d_MO_chars_82 : decode M_MO_chars.2.1 82 = .ok (.putfield 93, 3) := by decide +kernel
theorem d_MO_chars_85 : decode M_MO_chars.2.1 85 = .ok (.aload_n 0, 1) := by decide +kernel
theorem d_MO_chars_86 : decode M_MO_chars.2.1 86 = .ok (.getfield 93, 3) := by decide +kernel
theorem d_MO_chars_89 : decode M_MO_chars.2.1 89 = .ok (.ifCond .eq 13, 3) := by decide +kernel
theorem d_MO_chars_92 : decode M_MO_chars.2.1 92 = .ok (.aload_n 0, 1) := by decide +kernel
theorem d_MO_chars_93 : decode M_MO_chars.2.1 93 = .ok (.aload_n 0, 1) := by decide +kernel
theorem d_MO_chars_94 : decode M_MO_chars.2.1 94 = .ok (.invokevirtual 152, 3) := by decide +kernel
theorem d_MO_chars_97 : decode M_MO_chars.2.1 97 = .ok (.iload_n 1, 1) := by decide +kernel
theorem d_MO_chars_98 : decode M_MO_chars.2.1 98 = .ok (.iload_n 2, 1) := by decide +kernel
theorem d_MO_chars_99 : decode M_MO_chars.2.1 99 = .ok (.invokevirtual 123, 3) := by decide +kernel
theorem d_MO_chars_102 : decode M_MO_chars.2.1 102 = .ok (.aload_n 0, 1) := by decide +kernel
theorem d_MO_chars_103 : decode M_MO_chars.2.1 103 = .ok (.iconst 1, 1) := by decide +kernel
theorem d_MO_chars_104 : decode M_MO_chars.2.1 104 = .ok (.invokevirtual 156, 3) := by decide +kernel
theorem d_MO_chars_107 : decode M_MO_chars.2.1 107 = .ok (.return_, 1) := by decide +kernel
theorem d_MO_item_0 : decode M_MO_item.2.1 0 = .ok (.aload_n 0, 1) := by decide +kernel
theorem d_MO_item_1 : decode M_MO_item.2.1 1 = .ok (.aload_n 0, 1) := by decide +kernel
theorem d_MO_item_2 : decode M_MO_item.2.1 2 = .ok (.aload_n 0, 1) := by decide +kernel
theorem d_MO_item_3 : decode M_MO_item.2.1 3 = .ok (.getfield 86, 3) := by decide +kernel
theorem d_MO_item_6 : decode M_MO_item.2.1 6 = .ok (.invokevirtual 162, 3) := by decide +kernel
theorem d_MO_item_9 : decode M_MO_item.2.1 9 = .ok (.putfield 86, 3) := by decide +kernel
theorem d_MO_item_12 : decode M_MO_item.2.1 12 = .ok (.aload_n 0, 1) := by decide +kernel
theorem d_MO_item_13 : decode M_MO_item.2.1 13 = .ok (.aload_n 0, 1) := by decide +kernel
theorem d_MO_item_14 : decode M_MO_item.2.1 14 = .ok (.getfield 86, 3) := by decide +kernel
theorem d_MO_item_17 : decode M_MO_item.2.1 17 = .ok (.bipush 93, 2) := by decide +kernel
theorem d_MO_item_19 : decode M_MO_item.2.1 19 = .ok (.invokevirtual 83, 3) := by decide +kernel
theorem d_MO_item_22 : decode M_MO_item.2.1 22 = .ok (.ifCond .eq 10, 3) := by decide +kernel
theorem d_MO_item_25 : decode M_MO_item.2.1 25 = .ok (.aload_n 0, 1) := by decide +kernel
theorem d_MO_item_26 : decode M_MO_item.2.1 26 = .ok (.invokevirtual 175, 3) := by decide +kernel
theorem d_MO_item_29 : decode M_MO_item.2.1 29 = .ok (.goto 111, 3) := by decide +kernel
theorem d_MO_item_32 : decode M_MO_item.2.1 32 = .ok (.aload_n 0, 1) := by decide +kernel
theorem d_MO_item_33 : decode M_MO_item.2.1 33 = .ok (.aload_n 0, 1) := by decide +kernel
theorem d_MO_item_34 : decode M_MO_item.2.1 34 = .ok (.getfield 86, 3) := by decide +kernel
theorem d_MO_item_37 : decode M_MO_item.2.1 37 = .ok (.invokevirtual 111, 3) := by decide +kernel
theorem d_MO_item_40 : decode M_MO_item.2.1 40 = .ok (.ifCond .eq 23, 3) := by decide +kernel
theorem d_MO_item_43 : decode M_MO_item.2.1 43 = .ok (.aload_n 0, 1) := by decide +kernel
theorem d_MO_item_44 : decode M_MO_item.2.1 44 = .ok (.invokevirtual 178, 3) := by decide +kernel
theorem d_MO_item_47 : decode M_MO_item.2.1 47 = .ok (.aload_n 0, 1) := by decide +kernel
theorem d_MO_item_48 : decode M_MO_item.2.1 48 = .ok (.getfield 93, 3) := by decide +kernel
theorem d_MO_item_51 : decode M_MO_item.2.1 51 = .ok (.ifCond .eq 89, 3) := by decide +kernel
theorem d_MO_item_54 : decode M_MO_item.2.1 54 = .ok (.aload_n 0, 1) := by decide +kernel
theorem d_MO_item_55 : decode M_MO_item.2.1 55 = .ok (.bipush 8, 2) := by decide +kernel
theorem d_MO_item_57 : decode M_MO_item.2.1 57 = .ok (.invokevirtual 159, 3) := by decide +kernel
theorem d_MO_item_60 : decode M_MO_item.2.1 60 = .ok (.goto 80, 3) := by decide +kernel
theorem d_MO_item_63 : decode M_MO_item.2.1 63 = .ok (.aload_n 0, 1) := by decide +kernel
theorem d_MO_item_64 : decode M_MO_item.2.1 64 = .ok (.aload_n 0, 1) := by decide +kernel
theorem d_MO_item_65 : decode M_MO_item.2.1 65 = .ok (.getfield 86, 3) := by decide +kernel
theorem d_MO_item_68 : decode M_MO_item.2.1 68 = .ok (.bipush 91, 2) := by decide +kernel
theorem d_MO_item_70 : decode M_MO_item.2.1 70 = .ok (.invokevirtual 83, 3) := by decide +kernel
theorem d_MO_item_73 : decode M_MO_item.2.1 73 = .ok (.ifCond .eq 10, 3) := by decide +kernel
theorem d_MO_item_76 : decode M_MO_item.2.1 76 = .ok (.aload_n 0, 1) := by decide +kernel
theorem d_MO_item_77 : decode M_MO_item.2.1 77 = .ok (.invokevirtual 181, 3) := by decide +kernel
theorem d_MO_item_80 : decode M_MO_item.2.1 80 = .ok (.goto 60, 3) := by decide +kernel
theorem d_MO_item_83 : decode M_MO_item.2.1 83 = .ok (.aload_n 0, 1) := by decide +kernel
theorem d_MO_item_84 : decode M_MO_item.2.1 84 = .ok (.aload_n 0, 1) := by decide +kernel
theorem d_MO_item_85 : decode M_MO_item.2.1 85 = .ok (.getfield 86, 3) := by decide +kernel
theorem d_MO_item_88 : decode M_MO_item.2.1 88 = .ok (.bipush 123, 2) := by decide +kernel
theorem d_MO_item_90 : decode M_MO_item.2.1 90 = .ok (.invokevirtual 83, 3) := by decide +kernel
theorem d_MO_item_93 : decode M_MO_item.2.1 93 = .ok (.ifCond .eq 10, 3) := by decide +kernel
theorem d_MO_item_96 : decode M_MO_item.2.1 96 = .ok (.aload_n 0, 1) := by decide +kernel
theorem d_MO_item_97 : decode M_MO_item.2.1 97 = .ok (.invokevirtual 184, 3) := by decide +kernel
theorem d_MO_item_100 : decode M_MO_item.2.1 100 = .ok (.goto 40, 3) := by decide +kernel
theorem d_MO_item_103 : decode M_MO_item.2.1 103 = .ok (.aload_n 0, 1) := by decide +kernel
theorem d_MO_item_104 : decode M_MO_item.2.1 104 = .ok (.aload_n 0, 1) := by decide +kernel
theorem d_MO_item_105 : decode M_MO_item.2.1 105 = .ok (.getfield 86, 3) := by decide +kernel
theorem d_MO_item_108 : decode M_MO_item.2.1 108 = .ok (.bipush 45, 2) := by decide +kernel
theorem d_MO_item_110 : decode M_MO_item.2.1 110 = .ok (.invokevirtual 83, 3) := by decide +kernel
theorem d_MO_item_113 : decode M_MO_item.2.1 113 = .ok (.ifCond .ne 16, 3) := by decide +kernel
theorem d_MO_item_116 : decode M_MO_item.2.1 116 = .ok (.aload_n 0, 1) := by decide +kernel
theorem d_MO_item_117 : decode M_MO_item.2.1 117 = .ok (.aload_n 0, 1) := by decide +kernel
theorem d_MO_item_118 : decode M_MO_item.2.1 118 = .ok (.getfield 86, 3) := by decide +kernel
theorem d_MO_item_121 : decode M_MO_item.2.1 121 = .ok (.bipush 38, 2) := by decide +kernel
theorem d_MO_item_123 : decode M_MO_item.2.1 123 = .ok (.invokevirtual 83, 3) := by decide +kernel
theorem d_MO_item_126 : decode M_MO_item.2.1 126 = .ok (.ifCond .eq 10, 3) := by decide +kernel
theorem d_MO_item_129 : decode M_MO_item.2.1 129 = .ok (.aload_n 0, 1) := by decide +kernel
theorem d_MO_item_130 : decode M_MO_item.2.1 130 = .ok (.invokevirtual 187, 3) := by decide +kernel
theorem d_MO_item_133 : decode M_MO_item.2.1 133 = .ok (.goto 7, 3) := by decide +kernel
theorem d_MO_item_136 : decode M_MO_item.2.1 136 = .ok (.aload_n 0, 1) := by decide +kernel
theorem d_MO_item_137 : decode M_MO_item.2.1 137 = .ok (.invokevirtual 190, 3) := by decide +kernel
theorem d_MO_item_140 : decode M_MO_item.2.1 140 = .ok (.return_, 1) := by decide +kernel
theorem d_MO_value_0 : decode M_MO_value.2.1 0 = .ok (.aload_n 0, 1) := by decide +kernel
theorem d_MO_value_1 : decode M_MO_value.2.1 1 = .ok (.iconst 0, 1) := by decide +kernel
theorem d_MO_value_2 : decode M_MO_value.2.1 2 = .ok (.putfield 86, 3) := by decide +kernel
theorem d_MO_value_5 : decode M_MO_value.2.1 5 = .ok (.aload_n 0, 1) := by decide +kernel
theorem d_MO_value_6 : decode M_MO_value.2.1 6 = .ok (.iconst 1, 1) := by decide +kernel
theorem d_MO_value_7 : decode M_MO_value.2.1 7 = .ok (.putfield 93, 3) := by decide +kernel
theorem d_MO_value_10 : decode M_MO_value.2.1 10 = .ok (.aload_n 0, 1) := by decide +kernel
theorem d_MO_value_11 : decode M_MO_value.2.1 11 = .ok (.iconst 0, 1) := by decide +kernel
theorem d_MO_value_12 : decode M_MO_value.2.1 12 = .ok (.putfield 149, 3) := by decide +kernel
theorem d_MO_value_15 : decode M_MO_value.2.1 15 = .ok (.iconst 3, 1) := by decide +kernel
theorem d_MO_value_16 : decode M_MO_value.2.1 16 = .ok (.istore_n 1, 1) := by decide +kernel
theorem d_MO_value_17 : decode M_MO_value.2.1 17 = .ok (.aload_n 0, 1) := by decide +kernel
theorem d_MO_value_18 : decode M_MO_value.2.1 18 = .ok (.iconst 0, 1) := by decide +kernel
theorem d_MO_value_19 : decode M_MO_value.2.1 19 = .ok (.invokevirtual 111, 3) := by decide +kernel
theorem d_MO_value_22 : decode M_MO_value.2.1 22 = .ok (.ifCond .eq 13, 3) := by decide +kernel
theorem d_MO_value_25 : decode M_MO_value.2.1 25 = .ok (.aload_n 0, 1) := by decide +kernel
theorem d_MO_value_26 : decode M_MO_value.2.1 26 = .ok (.invokevirtual 178, 3) := by decide +kernel
theorem d_MO_value_29 : decode M_MO_value.2.1 29 = .ok (.bipush 8, 2) := by decide +kernel
theorem d_MO_value_31 : decode M_MO_value.2.1 31 = .ok (.istore_n 1, 1) := by decide +kernel
theorem d_MO_value_32 : decode M_MO_value.2.1 32 = .ok (.goto 43, 3) := by decide +kernel
theorem d_MO_value_35 : decode M_MO_value.2.1 35 = .ok (.aload_n 0, 1) := by decide +kernel
theorem d_MO_value_36 : decode M_MO_value.2.1 36 = .ok (.iconst 0, 1) := by decide +kernel
theorem d_MO_value_37 : decode M_MO_value.2.1 37 = .ok (.bipush 91, 2) := by decide +kernel
theorem d_MO_value_39 : decode M_MO_value.2.1 39 = .ok (.invokevirtual 83, 3) := by decide +kernel
theorem d_MO_value_42 : decode M_MO_value.2.1 42 = .ok (.ifCond .eq 28, 3) := by decide +kernel
theorem d_MO_value_45 : decode M_MO_value.2.1 45 = .ok (.aload_n 0, 1) := by decide +kernel
