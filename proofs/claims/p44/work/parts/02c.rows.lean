theorem dX3_pass_0 : decode cX3_pass 0 = .ok (.iconst 0, 1) := by decide +kernel
theorem dX3_pass_1 : decode cX3_pass 1 = .ok (.istore_n 1, 1) := by decide +kernel
theorem dX3_pass_2 : decode cX3_pass 2 = .ok (.aload_n 0, 1) := by decide +kernel
theorem dX3_pass_3 : decode cX3_pass 3 = .ok (.getfield 21, 3) := by decide +kernel
theorem dX3_pass_6 : decode cX3_pass 6 = .ok (.astore_n 2, 1) := by decide +kernel
theorem dX3_pass_7 : decode cX3_pass 7 = .ok (.aload_n 2, 1) := by decide +kernel
theorem dX3_pass_8 : decode cX3_pass 8 = .ok (.arraylength, 1) := by decide +kernel
theorem dX3_pass_9 : decode cX3_pass 9 = .ok (.istore_n 3, 1) := by decide +kernel
theorem dX3_pass_10 : decode cX3_pass 10 = .ok (.iconst 0, 1) := by decide +kernel
theorem dX3_pass_11 : decode cX3_pass 11 = .ok (.istore 4, 2) := by decide +kernel
theorem dX3_pass_13 : decode cX3_pass 13 = .ok (.iload 4, 2) := by decide +kernel
theorem dX3_pass_15 : decode cX3_pass 15 = .ok (.iload_n 3, 1) := by decide +kernel
theorem dX3_pass_16 : decode cX3_pass 16 = .ok (.if_icmp .ge 68, 3) := by decide +kernel
theorem dX3_pass_19 : decode cX3_pass 19 = .ok (.aload_n 2, 1) := by decide +kernel
theorem dX3_pass_20 : decode cX3_pass 20 = .ok (.iload 4, 2) := by decide +kernel
theorem dX3_pass_22 : decode cX3_pass 22 = .ok (.aaload, 1) := by decide +kernel
theorem dX3_pass_23 : decode cX3_pass 23 = .ok (.astore 5, 2) := by decide +kernel
theorem dX3_pass_25 : decode cX3_pass 25 = .ok (.aload 5, 2) := by decide +kernel
theorem dX3_pass_27 : decode cX3_pass 27 = .ok (.iconst 2, 1) := by decide +kernel
theorem dX3_pass_28 : decode cX3_pass 28 = .ok (.dup2, 1) := by decide +kernel
theorem dX3_pass_29 : decode cX3_pass 29 = .ok (.iaload, 1) := by decide +kernel
theorem dX3_pass_30 : decode cX3_pass 30 = .ok (.iconst 1, 1) := by decide +kernel
theorem dX3_pass_31 : decode cX3_pass 31 = .ok (.iadd, 1) := by decide +kernel
theorem dX3_pass_32 : decode cX3_pass 32 = .ok (.iastore, 1) := by decide +kernel
theorem dX3_pass_33 : decode cX3_pass 33 = .ok (.aload 5, 2) := by decide +kernel
theorem dX3_pass_35 : decode cX3_pass 35 = .ok (.iconst 2, 1) := by decide +kernel
theorem dX3_pass_36 : decode cX3_pass 36 = .ok (.iaload, 1) := by decide +kernel
theorem dX3_pass_37 : decode cX3_pass 37 = .ok (.iconst 3, 1) := by decide +kernel
theorem dX3_pass_38 : decode cX3_pass 38 = .ok (.if_icmp .ne 40, 3) := by decide +kernel
theorem dX3_pass_41 : decode cX3_pass 41 = .ok (.aload_n 0, 1) := by decide +kernel
theorem dX3_pass_42 : decode cX3_pass 42 = .ok (.getfield 18, 3) := by decide +kernel
theorem dX3_pass_45 : decode cX3_pass 45 = .ok (.aload 5, 2) := by decide +kernel
theorem dX3_pass_47 : decode cX3_pass 47 = .ok (.iconst 0, 1) := by decide +kernel
theorem dX3_pass_48 : decode cX3_pass 48 = .ok (.iaload, 1) := by decide +kernel
theorem dX3_pass_49 : decode cX3_pass 49 = .ok (.aload_n 0, 1) := by decide +kernel
theorem dX3_pass_50 : decode cX3_pass 50 = .ok (.getfield 18, 3) := by decide +kernel
theorem dX3_pass_53 : decode cX3_pass 53 = .ok (.aload 5, 2) := by decide +kernel
theorem dX3_pass_55 : decode cX3_pass 55 = .ok (.iconst 0, 1) := by decide +kernel
theorem dX3_pass_56 : decode cX3_pass 56 = .ok (.iaload, 1) := by decide +kernel
theorem dX3_pass_57 : decode cX3_pass 57 = .ok (.iaload, 1) := by decide +kernel
theorem dX3_pass_58 : decode cX3_pass 58 = .ok (.iconst 2, 1) := by decide +kernel
theorem dX3_pass_59 : decode cX3_pass 59 = .ok (.if_icmp .ge 7, 3) := by decide +kernel
theorem dX3_pass_62 : decode cX3_pass 62 = .ok (.iconst 0, 1) := by decide +kernel
theorem dX3_pass_63 : decode cX3_pass 63 = .ok (.goto 14, 3) := by decide +kernel
theorem dX3_pass_66 : decode cX3_pass 66 = .ok (.aload_n 0, 1) := by decide +kernel
theorem dX3_pass_67 : decode cX3_pass 67 = .ok (.getfield 18, 3) := by decide +kernel
theorem dX3_pass_70 : decode cX3_pass 70 = .ok (.aload 5, 2) := by decide +kernel
theorem dX3_pass_72 : decode cX3_pass 72 = .ok (.iconst 0, 1) := by decide +kernel
theorem dX3_pass_73 : decode cX3_pass 73 = .ok (.iaload, 1) := by decide +kernel
theorem dX3_pass_74 : decode cX3_pass 74 = .ok (.iaload, 1) := by decide +kernel
theorem dX3_pass_75 : decode cX3_pass 75 = .ok (.iconst 2, 1) := by decide +kernel
theorem dX3_pass_76 : decode cX3_pass 76 = .ok (.isub, 1) := by decide +kernel
theorem dX3_pass_77 : decode cX3_pass 77 = .ok (.iastore, 1) := by decide +kernel
theorem dX3_pass_78 : decode cX3_pass 78 = .ok (.iinc 4 1, 3) := by decide +kernel
theorem dX3_pass_81 : decode cX3_pass 81 = .ok (.goto (-68), 3) := by decide +kernel
theorem dX3_pass_84 : decode cX3_pass 84 = .ok (.aload_n 0, 1) := by decide +kernel
theorem dX3_pass_85 : decode cX3_pass 85 = .ok (.iconst (-1), 1) := by decide +kernel
theorem dX3_pass_86 : decode cX3_pass 86 = .ok (.iconst 3, 1) := by decide +kernel
theorem dX3_pass_87 : decode cX3_pass 87 = .ok (.invokevirtual 51, 3) := by decide +kernel
theorem dX3_pass_90 : decode cX3_pass 90 = .ok (.iconst 0, 1) := by decide +kernel
theorem dX3_pass_91 : decode cX3_pass 91 = .ok (.istore_n 2, 1) := by decide +kernel
theorem dX3_pass_92 : decode cX3_pass 92 = .ok (.iload_n 2, 1) := by decide +kernel
theorem dX3_pass_93 : decode cX3_pass 93 = .ok (.aload_n 0, 1) := by decide +kernel
theorem dX3_pass_94 : decode cX3_pass 94 = .ok (.getfield 9, 3) := by decide +kernel
theorem dX3_pass_97 : decode cX3_pass 97 = .ok (.arraylength, 1) := by decide +kernel
theorem dX3_pass_98 : decode cX3_pass 98 = .ok (.if_icmp .ge 51, 3) := by decide +kernel
theorem dX3_pass_101 : decode cX3_pass 101 = .ok (.aload_n 0, 1) := by decide +kernel
theorem dX3_pass_102 : decode cX3_pass 102 = .ok (.getfield 9, 3) := by decide +kernel
theorem dX3_pass_105 : decode cX3_pass 105 = .ok (.iload_n 2, 1) := by decide +kernel
theorem dX3_pass_106 : decode cX3_pass 106 = .ok (.aaload, 1) := by decide +kernel
theorem dX3_pass_107 : decode cX3_pass 107 = .ok (.iconst 3, 1) := by decide +kernel
theorem dX3_pass_108 : decode cX3_pass 108 = .ok (.iaload, 1) := by decide +kernel
theorem dX3_pass_109 : decode cX3_pass 109 = .ok (.ifCond .eq 34, 3) := by decide +kernel
theorem dX3_pass_112 : decode cX3_pass 112 = .ok (.aload_n 0, 1) := by decide +kernel
theorem dX3_pass_113 : decode cX3_pass 113 = .ok (.iload_n 2, 1) := by decide +kernel
theorem dX3_pass_114 : decode cX3_pass 114 = .ok (.invokevirtual 55, 3) := by decide +kernel
theorem dX3_pass_117 : decode cX3_pass 117 = .ok (.iconst 5, 1) := by decide +kernel
theorem dX3_pass_118 : decode cX3_pass 118 = .ok (.if_icmp .le 6, 3) := by decide +kernel
theorem dX3_pass_121 : decode cX3_pass 121 = .ok (.goto 22, 3) := by decide +kernel
theorem dX3_pass_124 : decode cX3_pass 124 = .ok (.aload_n 0, 1) := by decide +kernel
theorem dX3_pass_125 : decode cX3_pass 125 = .ok (.getfield 9, 3) := by decide +kernel
theorem dX3_pass_128 : decode cX3_pass 128 = .ok (.iload_n 2, 1) := by decide +kernel
theorem dX3_pass_129 : decode cX3_pass 129 = .ok (.aaload, 1) := by decide +kernel
theorem dX3_pass_130 : decode cX3_pass 130 = .ok (.iconst 3, 1) := by decide +kernel
theorem dX3_pass_131 : decode cX3_pass 131 = .ok (.iconst 0, 1) := by decide +kernel
theorem dX3_pass_132 : decode cX3_pass 132 = .ok (.iastore, 1) := by decide +kernel
theorem dX3_pass_133 : decode cX3_pass 133 = .ok (.aload_n 0, 1) := by decide +kernel
theorem dX3_pass_134 : decode cX3_pass 134 = .ok (.dup, 1) := by decide +kernel
theorem dX3_pass_135 : decode cX3_pass 135 = .ok (.getfield 36, 3) := by decide +kernel
theorem dX3_pass_138 : decode cX3_pass 138 = .ok (.iconst 1, 1) := by decide +kernel
theorem dX3_pass_139 : decode cX3_pass 139 = .ok (.iadd, 1) := by decide +kernel
theorem dX3_pass_140 : decode cX3_pass 140 = .ok (.putfield 36, 3) := by decide +kernel
theorem dX3_pass_143 : decode cX3_pass 143 = .ok (.iinc 2 1, 3) := by decide +kernel
theorem dX3_pass_146 : decode cX3_pass 146 = .ok (.goto (-54), 3) := by decide +kernel
theorem dX3_pass_149 : decode cX3_pass 149 = .ok (.aload_n 0, 1) := by decide +kernel
theorem dX3_pass_150 : decode cX3_pass 150 = .ok (.getfield 15, 3) := by decide +kernel
theorem dX3_pass_153 : decode cX3_pass 153 = .ok (.astore_n 2, 1) := by decide +kernel
theorem dX3_pass_154 : decode cX3_pass 154 = .ok (.aload_n 2, 1) := by decide +kernel
theorem dX3_pass_155 : decode cX3_pass 155 = .ok (.arraylength, 1) := by decide +kernel
theorem dX3_pass_156 : decode cX3_pass 156 = .ok (.istore_n 3, 1) := by decide +kernel
theorem dX3_pass_157 : decode cX3_pass 157 = .ok (.iconst 0, 1) := by decide +kernel
theorem dX3_pass_158 : decode cX3_pass 158 = .ok (.istore 4, 2) := by decide +kernel
theorem dX3_pass_160 : decode cX3_pass 160 = .ok (.iload 4, 2) := by decide +kernel
theorem dX3_pass_162 : decode cX3_pass 162 = .ok (.iload_n 3, 1) := by decide +kernel
theorem dX3_pass_163 : decode cX3_pass 163 = .ok (.if_icmp .ge 96, 3) := by decide +kernel
theorem dX3_pass_166 : decode cX3_pass 166 = .ok (.aload_n 2, 1) := by decide +kernel
theorem dX3_pass_167 : decode cX3_pass 167 = .ok (.iload 4, 2) := by decide +kernel
theorem dX3_pass_169 : decode cX3_pass 169 = .ok (.aaload, 1) := by decide +kernel
theorem dX3_pass_170 : decode cX3_pass 170 = .ok (.astore 5, 2) := by decide +kernel
theorem dX3_pass_172 : decode cX3_pass 172 = .ok (.aload_n 0, 1) := by decide +kernel
theorem dX3_pass_173 : decode cX3_pass 173 = .ok (.getfield 9, 3) := by decide +kernel
theorem dX3_pass_176 : decode cX3_pass 176 = .ok (.aload 5, 2) := by decide +kernel
theorem dX3_pass_178 : decode cX3_pass 178 = .ok (.iconst 0, 1) := by decide +kernel
theorem dX3_pass_179 : decode cX3_pass 179 = .ok (.iaload, 1) := by decide +kernel
theorem dX3_pass_180 : decode cX3_pass 180 = .ok (.aaload, 1) := by decide +kernel
theorem dX3_pass_181 : decode cX3_pass 181 = .ok (.astore 6, 2) := by decide +kernel
theorem dX3_pass_183 : decode cX3_pass 183 = .ok (.aload 6, 2) := by decide +kernel
theorem dX3_pass_185 : decode cX3_pass 185 = .ok (.iconst 1, 1) := by decide +kernel
theorem dX3_pass_186 : decode cX3_pass 186 = .ok (.iaload, 1) := by decide +kernel
theorem dX3_pass_187 : decode cX3_pass 187 = .ok (.iconst 1, 1) := by decide +kernel
theorem dX3_pass_188 : decode cX3_pass 188 = .ok (.if_icmp .ne 65, 3) := by decide +kernel
theorem dX3_pass_191 : decode cX3_pass 191 = .ok (.aload 6, 2) := by decide +kernel
theorem dX3_pass_193 : decode cX3_pass 193 = .ok (.iconst 3, 1) := by decide +kernel
theorem dX3_pass_194 : decode cX3_pass 194 = .ok (.iaload, 1) := by decide +kernel
theorem dX3_pass_195 : decode cX3_pass 195 = .ok (.iconst 1, 1) := by decide +kernel
theorem dX3_pass_196 : decode cX3_pass 196 = .ok (.if_icmp .ne 6, 3) := by decide +kernel
theorem dX3_pass_199 : decode cX3_pass 199 = .ok (.goto 54, 3) := by decide +kernel
theorem dX3_pass_202 : decode cX3_pass 202 = .ok (.aload 5, 2) := by decide +kernel
theorem dX3_pass_204 : decode cX3_pass 204 = .ok (.iconst 4, 1) := by decide +kernel
theorem dX3_pass_205 : decode cX3_pass 205 = .ok (.aload 5, 2) := by decide +kernel
theorem dX3_pass_207 : decode cX3_pass 207 = .ok (.iconst 4, 1) := by decide +kernel
theorem dX3_pass_208 : decode cX3_pass 208 = .ok (.iaload, 1) := by decide +kernel
theorem dX3_pass_209 : decode cX3_pass 209 = .ok (.aload 5, 2) := by decide +kernel
theorem dX3_pass_211 : decode cX3_pass 211 = .ok (.iconst 1, 1) := by decide +kernel
theorem dX3_pass_212 : decode cX3_pass 212 = .ok (.iaload, 1) := by decide +kernel
theorem dX3_pass_213 : decode cX3_pass 213 = .ok (.iconst 1, 1) := by decide +kernel
theorem dX3_pass_214 : decode cX3_pass 214 = .ok (.iadd, 1) := by decide +kernel
theorem dX3_pass_215 : decode cX3_pass 215 = .ok (.if_icmp .le 17, 3) := by decide +kernel
theorem dX3_pass_218 : decode cX3_pass 218 = .ok (.aload 5, 2) := by decide +kernel
theorem dX3_pass_220 : decode cX3_pass 220 = .ok (.iconst 4, 1) := by decide +kernel
theorem dX3_pass_221 : decode cX3_pass 221 = .ok (.iaload, 1) := by decide +kernel
theorem dX3_pass_222 : decode cX3_pass 222 = .ok (.aload 5, 2) := by decide +kernel
theorem dX3_pass_224 : decode cX3_pass 224 = .ok (.iconst 1, 1) := by decide +kernel
theorem dX3_pass_225 : decode cX3_pass 225 = .ok (.iaload, 1) := by decide +kernel
theorem dX3_pass_226 : decode cX3_pass 226 = .ok (.isub, 1) := by decide +kernel
theorem dX3_pass_227 : decode cX3_pass 227 = .ok (.iconst 1, 1) := by decide +kernel
theorem dX3_pass_228 : decode cX3_pass 228 = .ok (.isub, 1) := by decide +kernel
theorem dX3_pass_229 : decode cX3_pass 229 = .ok (.goto 4, 3) := by decide +kernel
theorem dX3_pass_232 : decode cX3_pass 232 = .ok (.iconst 0, 1) := by decide +kernel
theorem dX3_pass_233 : decode cX3_pass 233 = .ok (.iastore, 1) := by decide +kernel
theorem dX3_pass_234 : decode cX3_pass 234 = .ok (.aload 5, 2) := by decide +kernel
theorem dX3_pass_236 : decode cX3_pass 236 = .ok (.iconst 4, 1) := by decide +kernel
theorem dX3_pass_237 : decode cX3_pass 237 = .ok (.iaload, 1) := by decide +kernel
theorem dX3_pass_238 : decode cX3_pass 238 = .ok (.ifCond .ne 15, 3) := by decide +kernel
theorem dX3_pass_241 : decode cX3_pass 241 = .ok (.aload_n 0, 1) := by decide +kernel
theorem dX3_pass_242 : decode cX3_pass 242 = .ok (.aload 5, 2) := by decide +kernel
theorem dX3_pass_244 : decode cX3_pass 244 = .ok (.invokevirtual 59, 3) := by decide +kernel
theorem dX3_pass_247 : decode cX3_pass 247 = .ok (.ifCond .eq 6, 3) := by decide +kernel
theorem dX3_pass_250 : decode cX3_pass 250 = .ok (.iinc 1 1, 3) := by decide +kernel
theorem dX3_pass_253 : decode cX3_pass 253 = .ok (.iinc 4 1, 3) := by decide +kernel
theorem dX3_pass_256 : decode cX3_pass 256 = .ok (.goto (-96), 3) := by decide +kernel
theorem dX3_pass_259 : decode cX3_pass 259 = .ok (.iconst 0, 1) := by decide +kernel
theorem dX3_pass_260 : decode cX3_pass 260 = .ok (.istore_n 2, 1) := by decide +kernel
theorem dX3_pass_261 : decode cX3_pass 261 = .ok (.iload_n 2, 1) := by decide +kernel
theorem dX3_pass_262 : decode cX3_pass 262 = .ok (.aload_n 0, 1) := by decide +kernel
theorem dX3_pass_263 : decode cX3_pass 263 = .ok (.getfield 9, 3) := by decide +kernel
theorem dX3_pass_266 : decode cX3_pass 266 = .ok (.arraylength, 1) := by decide +kernel
theorem dX3_pass_267 : decode cX3_pass 267 = .ok (.if_icmp .ge 83, 3) := by decide +kernel
theorem dX3_pass_270 : decode cX3_pass 270 = .ok (.aload_n 0, 1) := by decide +kernel
theorem dX3_pass_271 : decode cX3_pass 271 = .ok (.getfield 9, 3) := by decide +kernel
theorem dX3_pass_274 : decode cX3_pass 274 = .ok (.iload_n 2, 1) := by decide +kernel
theorem dX3_pass_275 : decode cX3_pass 275 = .ok (.aaload, 1) := by decide +kernel
theorem dX3_pass_276 : decode cX3_pass 276 = .ok (.iconst 1, 1) := by decide +kernel
theorem dX3_pass_277 : decode cX3_pass 277 = .ok (.iaload, 1) := by decide +kernel
theorem dX3_pass_278 : decode cX3_pass 278 = .ok (.iconst 1, 1) := by decide +kernel
theorem dX3_pass_279 : decode cX3_pass 279 = .ok (.if_icmp .eq 6, 3) := by decide +kernel
theorem dX3_pass_282 : decode cX3_pass 282 = .ok (.goto 62, 3) := by decide +kernel
theorem dX3_pass_285 : decode cX3_pass 285 = .ok (.aload_n 0, 1) := by decide +kernel
theorem dX3_pass_286 : decode cX3_pass 286 = .ok (.getfield 9, 3) := by decide +kernel
theorem dX3_pass_289 : decode cX3_pass 289 = .ok (.iload_n 2, 1) := by decide +kernel
theorem dX3_pass_290 : decode cX3_pass 290 = .ok (.aaload, 1) := by decide +kernel
theorem dX3_pass_291 : decode cX3_pass 291 = .ok (.iconst 2, 1) := by decide +kernel
theorem dX3_pass_292 : decode cX3_pass 292 = .ok (.dup2, 1) := by decide +kernel
theorem dX3_pass_293 : decode cX3_pass 293 = .ok (.iaload, 1) := by decide +kernel
theorem dX3_pass_294 : decode cX3_pass 294 = .ok (.iconst 1, 1) := by decide +kernel
theorem dX3_pass_295 : decode cX3_pass 295 = .ok (.iadd, 1) := by decide +kernel
theorem dX3_pass_296 : decode cX3_pass 296 = .ok (.iastore, 1) := by decide +kernel
theorem dX3_pass_297 : decode cX3_pass 297 = .ok (.aload_n 0, 1) := by decide +kernel
theorem dX3_pass_298 : decode cX3_pass 298 = .ok (.getfield 9, 3) := by decide +kernel
theorem dX3_pass_301 : decode cX3_pass 301 = .ok (.iload_n 2, 1) := by decide +kernel
theorem dX3_pass_302 : decode cX3_pass 302 = .ok (.aaload, 1) := by decide +kernel
theorem dX3_pass_303 : decode cX3_pass 303 = .ok (.iconst 2, 1) := by decide +kernel
theorem dX3_pass_304 : decode cX3_pass 304 = .ok (.iaload, 1) := by decide +kernel
theorem dX3_pass_305 : decode cX3_pass 305 = .ok (.bipush 21, 2) := by decide +kernel
theorem dX3_pass_307 : decode cX3_pass 307 = .ok (.if_icmp .lt 37, 3) := by decide +kernel
theorem dX3_pass_310 : decode cX3_pass 310 = .ok (.aload_n 0, 1) := by decide +kernel
theorem dX3_pass_311 : decode cX3_pass 311 = .ok (.iload_n 2, 1) := by decide +kernel
theorem dX3_pass_312 : decode cX3_pass 312 = .ok (.iconst 1, 1) := by decide +kernel
theorem dX3_pass_313 : decode cX3_pass 313 = .ok (.invokevirtual 62, 3) := by decide +kernel
theorem dX3_pass_316 : decode cX3_pass 316 = .ok (.iconst 2, 1) := by decide +kernel
theorem dX3_pass_317 : decode cX3_pass 317 = .ok (.imul, 1) := by decide +kernel
theorem dX3_pass_318 : decode cX3_pass 318 = .ok (.aload_n 0, 1) := by decide +kernel
theorem dX3_pass_319 : decode cX3_pass 319 = .ok (.iload_n 2, 1) := by decide +kernel
theorem dX3_pass_320 : decode cX3_pass 320 = .ok (.iconst 0, 1) := by decide +kernel
theorem dX3_pass_321 : decode cX3_pass 321 = .ok (.invokevirtual 62, 3) := by decide +kernel
theorem dX3_pass_324 : decode cX3_pass 324 = .ok (.if_icmp .gt 6, 3) := by decide +kernel
theorem dX3_pass_327 : decode cX3_pass 327 = .ok (.goto 17, 3) := by decide +kernel
theorem dX3_pass_330 : decode cX3_pass 330 = .ok (.aload_n 0, 1) := by decide +kernel
theorem dX3_pass_331 : decode cX3_pass 331 = .ok (.getfield 9, 3) := by decide +kernel
theorem dX3_pass_334 : decode cX3_pass 334 = .ok (.iload_n 2, 1) := by decide +kernel
theorem dX3_pass_335 : decode cX3_pass 335 = .ok (.aaload, 1) := by decide +kernel
theorem dX3_pass_336 : decode cX3_pass 336 = .ok (.iconst 1, 1) := by decide +kernel
theorem dX3_pass_337 : decode cX3_pass 337 = .ok (.iconst 2, 1) := by decide +kernel
theorem dX3_pass_338 : decode cX3_pass 338 = .ok (.iastore, 1) := by decide +kernel
theorem dX3_pass_339 : decode cX3_pass 339 = .ok (.aload_n 0, 1) := by decide +kernel
theorem dX3_pass_340 : decode cX3_pass 340 = .ok (.iload_n 2, 1) := by decide +kernel
theorem dX3_pass_341 : decode cX3_pass 341 = .ok (.invokevirtual 66, 3) := by decide +kernel
theorem dX3_pass_344 : decode cX3_pass 344 = .ok (.iinc 2 1, 3) := by decide +kernel
theorem dX3_pass_347 : decode cX3_pass 347 = .ok (.goto (-86), 3) := by decide +kernel
theorem dX3_pass_350 : decode cX3_pass 350 = .ok (.aload_n 0, 1) := by decide +kernel
theorem dX3_pass_351 : decode cX3_pass 351 = .ok (.dup, 1) := by decide +kernel
theorem dX3_pass_352 : decode cX3_pass 352 = .ok (.getfield 29, 3) := by decide +kernel
theorem dX3_pass_355 : decode cX3_pass 355 = .ok (.iconst 1, 1) := by decide +kernel
theorem dX3_pass_356 : decode cX3_pass 356 = .ok (.iadd, 1) := by decide +kernel
theorem dX3_pass_357 : decode cX3_pass 357 = .ok (.putfield 29, 3) := by decide +kernel
theorem dX3_pass_360 : decode cX3_pass 360 = .ok (.iload_n 1, 1) := by decide +kernel
theorem dX3_pass_361 : decode cX3_pass 361 = .ok (.ireturn, 1) := by decide +kernel
theorem dX3_isSame_0 : decode cX3_isSame 0 = .ok (.iconst 0, 1) := by decide +kernel
theorem dX3_isSame_1 : decode cX3_isSame 1 = .ok (.istore_n 2, 1) := by decide +kernel
theorem dX3_isSame_2 : decode cX3_isSame 2 = .ok (.iconst 0, 1) := by decide +kernel
theorem dX3_isSame_3 : decode cX3_isSame 3 = .ok (.istore_n 3, 1) := by decide +kernel
theorem dX3_isSame_4 : decode cX3_isSame 4 = .ok (.iload_n 3, 1) := by decide +kernel
theorem dX3_isSame_5 : decode cX3_isSame 5 = .ok (.aload_n 0, 1) := by decide +kernel
theorem dX3_isSame_6 : decode cX3_isSame 6 = .ok (.getfield 9, 3) := by decide +kernel
theorem dX3_isSame_9 : decode cX3_isSame 9 = .ok (.arraylength, 1) := by decide +kernel
theorem dX3_isSame_10 : decode cX3_isSame 10 = .ok (.if_icmp .ge 185, 3) := by decide +kernel
theorem dX3_isSame_13 : decode cX3_isSame 13 = .ok (.aload_n 0, 1) := by decide +kernel
theorem dX3_isSame_14 : decode cX3_isSame 14 = .ok (.getfield 9, 3) := by decide +kernel
theorem dX3_isSame_17 : decode cX3_isSame 17 = .ok (.iload_n 3, 1) := by decide +kernel
theorem dX3_isSame_18 : decode cX3_isSame 18 = .ok (.aaload, 1) := by decide +kernel
theorem dX3_isSame_19 : decode cX3_isSame 19 = .ok (.astore 4, 2) := by decide +kernel
theorem dX3_isSame_21 : decode cX3_isSame 21 = .ok (.aload_n 0, 1) := by decide +kernel
theorem dX3_isSame_22 : decode cX3_isSame 22 = .ok (.iload_n 3, 1) := by decide +kernel
theorem dX3_isSame_23 : decode cX3_isSame 23 = .ok (.iconst 0, 1) := by decide +kernel
theorem dX3_isSame_24 : decode cX3_isSame 24 = .ok (.invokevirtual 62, 3) := by decide +kernel
theorem dX3_isSame_27 : decode cX3_isSame 27 = .ok (.istore 5, 2) := by decide +kernel
theorem dX3_isSame_29 : decode cX3_isSame 29 = .ok (.aload_n 0, 1) := by decide +kernel
theorem dX3_isSame_30 : decode cX3_isSame 30 = .ok (.iload_n 3, 1) := by decide +kernel
theorem dX3_isSame_31 : decode cX3_isSame 31 = .ok (.iconst 1, 1) := by decide +kernel
theorem dX3_isSame_32 : decode cX3_isSame 32 = .ok (.invokevirtual 62, 3) := by decide +kernel
theorem dX3_isSame_35 : decode cX3_isSame 35 = .ok (.istore 6, 2) := by decide +kernel
theorem dX3_isSame_37 : decode cX3_isSame 37 = .ok (.iconst 0, 1) := by decide +kernel
theorem dX3_isSame_38 : decode cX3_isSame 38 = .ok (.istore 7, 2) := by decide +kernel
theorem dX3_isSame_40 : decode cX3_isSame 40 = .ok (.iconst 2, 1) := by decide +kernel
theorem dX3_isSame_41 : decode cX3_isSame 41 = .ok (.iload 6, 2) := by decide +kernel
theorem dX3_isSame_43 : decode cX3_isSame 43 = .ok (.iload 7, 2) := by decide +kernel
theorem dX3_isSame_45 : decode cX3_isSame 45 = .ok (.iadd, 1) := by decide +kernel
theorem dX3_isSame_46 : decode cX3_isSame 46 = .ok (.imul, 1) := by decide +kernel
theorem dX3_isSame_47 : decode cX3_isSame 47 = .ok (.iload 5, 2) := by decide +kernel
theorem dX3_isSame_49 : decode cX3_isSame 49 = .ok (.if_icmp .gt 9, 3) := by decide +kernel
theorem dX3_isSame_52 : decode cX3_isSame 52 = .ok (.iinc 7 1, 3) := by decide +kernel
theorem dX3_isSame_55 : decode cX3_isSame 55 = .ok (.goto (-15), 3) := by decide +kernel
theorem dX3_isSame_58 : decode cX3_isSame 58 = .ok (.aload_n 1, 1) := by decide +kernel
theorem dX3_isSame_59 : decode cX3_isSame 59 = .ok (.iload_n 3, 1) := by decide +kernel
theorem dX3_isSame_60 : decode cX3_isSame 60 = .ok (.invokevirtual 70, 3) := by decide +kernel
theorem dX3_isSame_63 : decode cX3_isSame 63 = .ok (.aload 4, 2) := by decide +kernel
theorem dX3_isSame_65 : decode cX3_isSame 65 = .ok (.iconst 0, 1) := by decide +kernel
theorem dX3_isSame_66 : decode cX3_isSame 66 = .ok (.iaload, 1) := by decide +kernel
theorem dX3_isSame_67 : decode cX3_isSame 67 = .ok (.if_icmp .ne 120, 3) := by decide +kernel
theorem dX3_isSame_70 : decode cX3_isSame 70 = .ok (.aload_n 1, 1) := by decide +kernel
theorem dX3_isSame_71 : decode cX3_isSame 71 = .ok (.iload_n 3, 1) := by decide +kernel
theorem dX3_isSame_72 : decode cX3_isSame 72 = .ok (.invokevirtual 75, 3) := by decide +kernel
theorem dX3_isSame_75 : decode cX3_isSame 75 = .ok (.aload 4, 2) := by decide +kernel
theorem dX3_isSame_77 : decode cX3_isSame 77 = .ok (.iconst 1, 1) := by decide +kernel
theorem dX3_isSame_78 : decode cX3_isSame 78 = .ok (.iaload, 1) := by decide +kernel
theorem dX3_isSame_79 : decode cX3_isSame 79 = .ok (.ifCond .le 7, 3) := by decide +kernel
theorem dX3_isSame_82 : decode cX3_isSame 82 = .ok (.iconst 1, 1) := by decide +kernel
theorem dX3_isSame_83 : decode cX3_isSame 83 = .ok (.goto 4, 3) := by decide +kernel
theorem dX3_isSame_86 : decode cX3_isSame 86 = .ok (.iconst 0, 1) := by decide +kernel
theorem dX3_isSame_87 : decode cX3_isSame 87 = .ok (.if_icmp .ne 100, 3) := by decide +kernel
theorem dX3_isSame_90 : decode cX3_isSame 90 = .ok (.aload_n 1, 1) := by decide +kernel
theorem dX3_isSame_91 : decode cX3_isSame 91 = .ok (.iload_n 3, 1) := by decide +kernel
theorem dX3_isSame_92 : decode cX3_isSame 92 = .ok (.invokevirtual 79, 3) := by decide +kernel
theorem dX3_isSame_95 : decode cX3_isSame 95 = .ok (.aload 4, 2) := by decide +kernel
theorem dX3_isSame_97 : decode cX3_isSame 97 = .ok (.iconst 1, 1) := by decide +kernel
theorem dX3_isSame_98 : decode cX3_isSame 98 = .ok (.iaload, 1) := by decide +kernel
theorem dX3_isSame_99 : decode cX3_isSame 99 = .ok (.iconst 2, 1) := by decide +kernel
theorem dX3_isSame_100 : decode cX3_isSame 100 = .ok (.if_icmp .ne 7, 3) := by decide +kernel
theorem dX3_isSame_103 : decode cX3_isSame 103 = .ok (.iconst 1, 1) := by decide +kernel
theorem dX3_isSame_104 : decode cX3_isSame 104 = .ok (.goto 4, 3) := by decide +kernel
theorem dX3_isSame_107 : decode cX3_isSame 107 = .ok (.iconst 0, 1) := by decide +kernel
theorem dX3_isSame_108 : decode cX3_isSame 108 = .ok (.if_icmp .ne 79, 3) := by decide +kernel
theorem dX3_isSame_111 : decode cX3_isSame 111 = .ok (.aload_n 1, 1) := by decide +kernel
theorem dX3_isSame_112 : decode cX3_isSame 112 = .ok (.iload_n 3, 1) := by decide +kernel
theorem dX3_isSame_113 : decode cX3_isSame 113 = .ok (.invokevirtual 82, 3) := by decide +kernel
theorem dX3_isSame_116 : decode cX3_isSame 116 = .ok (.aload 4, 2) := by decide +kernel
theorem dX3_isSame_118 : decode cX3_isSame 118 = .ok (.iconst 2, 1) := by decide +kernel
theorem dX3_isSame_119 : decode cX3_isSame 119 = .ok (.iaload, 1) := by decide +kernel
theorem dX3_isSame_120 : decode cX3_isSame 120 = .ok (.if_icmp .ne 67, 3) := by decide +kernel
theorem dX3_isSame_123 : decode cX3_isSame 123 = .ok (.aload_n 1, 1) := by decide +kernel
theorem dX3_isSame_124 : decode cX3_isSame 124 = .ok (.iload_n 3, 1) := by decide +kernel
theorem dX3_isSame_125 : decode cX3_isSame 125 = .ok (.invokevirtual 85, 3) := by decide +kernel
theorem dX3_isSame_128 : decode cX3_isSame 128 = .ok (.aload 4, 2) := by decide +kernel
theorem dX3_isSame_130 : decode cX3_isSame 130 = .ok (.iconst 3, 1) := by decide +kernel
theorem dX3_isSame_131 : decode cX3_isSame 131 = .ok (.iaload, 1) := by decide +kernel
theorem dX3_isSame_132 : decode cX3_isSame 132 = .ok (.iconst 1, 1) := by decide +kernel
theorem dX3_isSame_133 : decode cX3_isSame 133 = .ok (.if_icmp .ne 7, 3) := by decide +kernel
theorem dX3_isSame_136 : decode cX3_isSame 136 = .ok (.iconst 1, 1) := by decide +kernel
theorem dX3_isSame_137 : decode cX3_isSame 137 = .ok (.goto 4, 3) := by decide +kernel
theorem dX3_isSame_140 : decode cX3_isSame 140 = .ok (.iconst 0, 1) := by decide +kernel
theorem dX3_isSame_141 : decode cX3_isSame 141 = .ok (.if_icmp .ne 46, 3) := by decide +kernel
theorem dX3_isSame_144 : decode cX3_isSame 144 = .ok (.aload_n 1, 1) := by decide +kernel
theorem dX3_isSame_145 : decode cX3_isSame 145 = .ok (.iload_n 3, 1) := by decide +kernel
theorem dX3_isSame_146 : decode cX3_isSame 146 = .ok (.invokevirtual 88, 3) := by decide +kernel
theorem dX3_isSame_149 : decode cX3_isSame 149 = .ok (.aload_n 0, 1) := by decide +kernel
theorem dX3_isSame_150 : decode cX3_isSame 150 = .ok (.iload_n 3, 1) := by decide +kernel
theorem dX3_isSame_151 : decode cX3_isSame 151 = .ok (.invokevirtual 55, 3) := by decide +kernel
theorem dX3_isSame_154 : decode cX3_isSame 154 = .ok (.if_icmp .ne 33, 3) := by decide +kernel
theorem dX3_isSame_157 : decode cX3_isSame 157 = .ok (.aload_n 1, 1) := by decide +kernel
theorem dX3_isSame_158 : decode cX3_isSame 158 = .ok (.iload_n 3, 1) := by decide +kernel
theorem dX3_isSame_159 : decode cX3_isSame 159 = .ok (.invokevirtual 89, 3) := by decide +kernel
theorem dX3_isSame_162 : decode cX3_isSame 162 = .ok (.iload 5, 2) := by decide +kernel
theorem dX3_isSame_164 : decode cX3_isSame 164 = .ok (.if_icmp .ne 23, 3) := by decide +kernel
theorem dX3_isSame_167 : decode cX3_isSame 167 = .ok (.aload_n 1, 1) := by decide +kernel
theorem dX3_isSame_168 : decode cX3_isSame 168 = .ok (.iload_n 3, 1) := by decide +kernel
theorem dX3_isSame_169 : decode cX3_isSame 169 = .ok (.invokevirtual 92, 3) := by decide +kernel
theorem dX3_isSame_172 : decode cX3_isSame 172 = .ok (.iload 6, 2) := by decide +kernel
theorem dX3_isSame_174 : decode cX3_isSame 174 = .ok (.if_icmp .ne 13, 3) := by decide +kernel
theorem dX3_isSame_177 : decode cX3_isSame 177 = .ok (.aload_n 1, 1) := by decide +kernel
theorem dX3_isSame_178 : decode cX3_isSame 178 = .ok (.iload_n 3, 1) := by decide +kernel
theorem dX3_isSame_179 : decode cX3_isSame 179 = .ok (.invokevirtual 95, 3) := by decide +kernel
theorem dX3_isSame_182 : decode cX3_isSame 182 = .ok (.iload 7, 2) := by decide +kernel
theorem dX3_isSame_184 : decode cX3_isSame 184 = .ok (.if_icmp .eq 5, 3) := by decide +kernel
theorem dX3_isSame_187 : decode cX3_isSame 187 = .ok (.iconst 0, 1) := by decide +kernel
theorem dX3_isSame_188 : decode cX3_isSame 188 = .ok (.ireturn, 1) := by decide +kernel
theorem dX3_isSame_189 : decode cX3_isSame 189 = .ok (.iinc 3 1, 3) := by decide +kernel
theorem dX3_isSame_192 : decode cX3_isSame 192 = .ok (.goto (-188), 3) := by decide +kernel
theorem dX3_isSame_195 : decode cX3_isSame 195 = .ok (.iconst 0, 1) := by decide +kernel
theorem dX3_isSame_196 : decode cX3_isSame 196 = .ok (.istore_n 3, 1) := by decide +kernel
theorem dX3_isSame_197 : decode cX3_isSame 197 = .ok (.iload_n 3, 1) := by decide +kernel
theorem dX3_isSame_198 : decode cX3_isSame 198 = .ok (.aload_n 0, 1) := by decide +kernel
theorem dX3_isSame_199 : decode cX3_isSame 199 = .ok (.getfield 15, 3) := by decide +kernel
theorem dX3_isSame_202 : decode cX3_isSame 202 = .ok (.arraylength, 1) := by decide +kernel
theorem dX3_isSame_203 : decode cX3_isSame 203 = .ok (.if_icmp .ge 134, 3) := by decide +kernel
theorem dX3_isSame_206 : decode cX3_isSame 206 = .ok (.aload_n 0, 1) := by decide +kernel
theorem dX3_isSame_207 : decode cX3_isSame 207 = .ok (.getfield 15, 3) := by decide +kernel
theorem dX3_isSame_210 : decode cX3_isSame 210 = .ok (.iload_n 3, 1) := by decide +kernel
theorem dX3_isSame_211 : decode cX3_isSame 211 = .ok (.aaload, 1) := by decide +kernel
theorem dX3_isSame_212 : decode cX3_isSame 212 = .ok (.astore 4, 2) := by decide +kernel
theorem dX3_isSame_214 : decode cX3_isSame 214 = .ok (.iload_n 2, 1) := by decide +kernel
theorem dX3_isSame_215 : decode cX3_isSame 215 = .ok (.aload_n 0, 1) := by decide +kernel
theorem dX3_isSame_216 : decode cX3_isSame 216 = .ok (.getfield 9, 3) := by decide +kernel
theorem dX3_isSame_219 : decode cX3_isSame 219 = .ok (.aload 4, 2) := by decide +kernel
theorem dX3_isSame_221 : decode cX3_isSame 221 = .ok (.iconst 0, 1) := by decide +kernel
theorem dX3_isSame_222 : decode cX3_isSame 222 = .ok (.iaload, 1) := by decide +kernel
theorem dX3_isSame_223 : decode cX3_isSame 223 = .ok (.aaload, 1) := by decide +kernel
theorem dX3_isSame_224 : decode cX3_isSame 224 = .ok (.iconst 1, 1) := by decide +kernel
theorem dX3_isSame_225 : decode cX3_isSame 225 = .ok (.iaload, 1) := by decide +kernel
theorem dX3_isSame_226 : decode cX3_isSame 226 = .ok (.iconst 2, 1) := by decide +kernel
theorem dX3_isSame_227 : decode cX3_isSame 227 = .ok (.if_icmp .ne 7, 3) := by decide +kernel
theorem dX3_isSame_230 : decode cX3_isSame 230 = .ok (.iconst 1, 1) := by decide +kernel
theorem dX3_isSame_231 : decode cX3_isSame 231 = .ok (.goto 4, 3) := by decide +kernel
theorem dX3_isSame_234 : decode cX3_isSame 234 = .ok (.iconst 0, 1) := by decide +kernel
theorem dX3_isSame_235 : decode cX3_isSame 235 = .ok (.iadd, 1) := by decide +kernel
theorem dX3_isSame_236 : decode cX3_isSame 236 = .ok (.istore_n 2, 1) := by decide +kernel
theorem dX3_isSame_237 : decode cX3_isSame 237 = .ok (.aload_n 1, 1) := by decide +kernel
theorem dX3_isSame_238 : decode cX3_isSame 238 = .ok (.iload_n 3, 1) := by decide +kernel
theorem dX3_isSame_239 : decode cX3_isSame 239 = .ok (.invokevirtual 98, 3) := by decide +kernel
theorem dX3_isSame_242 : decode cX3_isSame 242 = .ok (.aload 4, 2) := by decide +kernel
theorem dX3_isSame_244 : decode cX3_isSame 244 = .ok (.iconst 0, 1) := by decide +kernel
theorem dX3_isSame_245 : decode cX3_isSame 245 = .ok (.iaload, 1) := by decide +kernel
theorem dX3_isSame_246 : decode cX3_isSame 246 = .ok (.if_icmp .ne 83, 3) := by decide +kernel
theorem dX3_isSame_249 : decode cX3_isSame 249 = .ok (.aload_n 1, 1) := by decide +kernel
theorem dX3_isSame_250 : decode cX3_isSame 250 = .ok (.iload_n 3, 1) := by decide +kernel
theorem dX3_isSame_251 : decode cX3_isSame 251 = .ok (.invokevirtual 101, 3) := by decide +kernel
theorem dX3_isSame_254 : decode cX3_isSame 254 = .ok (.aload 4, 2) := by decide +kernel
theorem dX3_isSame_256 : decode cX3_isSame 256 = .ok (.iconst 1, 1) := by decide +kernel
theorem dX3_isSame_257 : decode cX3_isSame 257 = .ok (.iaload, 1) := by decide +kernel
theorem dX3_isSame_258 : decode cX3_isSame 258 = .ok (.if_icmp .ne 71, 3) := by decide +kernel
theorem dX3_isSame_261 : decode cX3_isSame 261 = .ok (.aload_n 1, 1) := by decide +kernel
theorem dX3_isSame_262 : decode cX3_isSame 262 = .ok (.iload_n 3, 1) := by decide +kernel
theorem dX3_isSame_263 : decode cX3_isSame 263 = .ok (.invokevirtual 104, 3) := by decide +kernel
theorem dX3_isSame_266 : decode cX3_isSame 266 = .ok (.aload 4, 2) := by decide +kernel
theorem dX3_isSame_268 : decode cX3_isSame 268 = .ok (.iconst 2, 1) := by decide +kernel
theorem dX3_isSame_269 : decode cX3_isSame 269 = .ok (.iaload, 1) := by decide +kernel
theorem dX3_isSame_270 : decode cX3_isSame 270 = .ok (.iconst 1, 1) := by decide +kernel
theorem dX3_isSame_271 : decode cX3_isSame 271 = .ok (.if_icmp .ne 7, 3) := by decide +kernel
theorem dX3_isSame_274 : decode cX3_isSame 274 = .ok (.iconst 1, 1) := by decide +kernel
theorem dX3_isSame_275 : decode cX3_isSame 275 = .ok (.goto 4, 3) := by decide +kernel
theorem dX3_isSame_278 : decode cX3_isSame 278 = .ok (.iconst 0, 1) := by decide +kernel
theorem dX3_isSame_279 : decode cX3_isSame 279 = .ok (.if_icmp .ne 50, 3) := by decide +kernel
theorem dX3_isSame_282 : decode cX3_isSame 282 = .ok (.aload_n 1, 1) := by decide +kernel
theorem dX3_isSame_283 : decode cX3_isSame 283 = .ok (.iload_n 3, 1) := by decide +kernel
theorem dX3_isSame_284 : decode cX3_isSame 284 = .ok (.invokevirtual 107, 3) := by decide +kernel
theorem dX3_isSame_287 : decode cX3_isSame 287 = .ok (.aload 4, 2) := by decide +kernel
theorem dX3_isSame_289 : decode cX3_isSame 289 = .ok (.iconst 3, 1) := by decide +kernel
theorem dX3_isSame_290 : decode cX3_isSame 290 = .ok (.iaload, 1) := by decide +kernel
theorem dX3_isSame_291 : decode cX3_isSame 291 = .ok (.iconst 1, 1) := by decide +kernel
theorem dX3_isSame_292 : decode cX3_isSame 292 = .ok (.if_icmp .ne 7, 3) := by decide +kernel
theorem dX3_isSame_295 : decode cX3_isSame 295 = .ok (.iconst 1, 1) := by decide +kernel
theorem dX3_isSame_296 : decode cX3_isSame 296 = .ok (.goto 4, 3) := by decide +kernel
theorem dX3_isSame_299 : decode cX3_isSame 299 = .ok (.iconst 0, 1) := by decide +kernel
theorem dX3_isSame_300 : decode cX3_isSame 300 = .ok (.if_icmp .ne 29, 3) := by decide +kernel
theorem dX3_isSame_303 : decode cX3_isSame 303 = .ok (.aload_n 1, 1) := by decide +kernel
theorem dX3_isSame_304 : decode cX3_isSame 304 = .ok (.iload_n 3, 1) := by decide +kernel
theorem dX3_isSame_305 : decode cX3_isSame 305 = .ok (.invokevirtual 110, 3) := by decide +kernel
theorem dX3_isSame_308 : decode cX3_isSame 308 = .ok (.aload 4, 2) := by decide +kernel
theorem dX3_isSame_310 : decode cX3_isSame 310 = .ok (.iconst 4, 1) := by decide +kernel
theorem dX3_isSame_311 : decode cX3_isSame 311 = .ok (.iaload, 1) := by decide +kernel
theorem dX3_isSame_312 : decode cX3_isSame 312 = .ok (.if_icmp .ne 17, 3) := by decide +kernel
theorem dX3_isSame_315 : decode cX3_isSame 315 = .ok (.aload_n 1, 1) := by decide +kernel
theorem dX3_isSame_316 : decode cX3_isSame 316 = .ok (.iload_n 3, 1) := by decide +kernel
theorem dX3_isSame_317 : decode cX3_isSame 317 = .ok (.invokevirtual 113, 3) := by decide +kernel
theorem dX3_isSame_320 : decode cX3_isSame 320 = .ok (.aload_n 0, 1) := by decide +kernel
theorem dX3_isSame_321 : decode cX3_isSame 321 = .ok (.aload 4, 2) := by decide +kernel
theorem dX3_isSame_323 : decode cX3_isSame 323 = .ok (.invokevirtual 47, 3) := by decide +kernel
theorem dX3_isSame_326 : decode cX3_isSame 326 = .ok (.if_icmp .eq 5, 3) := by decide +kernel
theorem dX3_isSame_329 : decode cX3_isSame 329 = .ok (.iconst 0, 1) := by decide +kernel
theorem dX3_isSame_330 : decode cX3_isSame 330 = .ok (.ireturn, 1) := by decide +kernel
theorem dX3_isSame_331 : decode cX3_isSame 331 = .ok (.iinc 3 1, 3) := by decide +kernel
theorem dX3_isSame_334 : decode cX3_isSame 334 = .ok (.goto (-137), 3) := by decide +kernel
theorem dX3_isSame_337 : decode cX3_isSame 337 = .ok (.iconst 0, 1) := by decide +kernel
theorem dX3_isSame_338 : decode cX3_isSame 338 = .ok (.istore_n 3, 1) := by decide +kernel
theorem dX3_isSame_339 : decode cX3_isSame 339 = .ok (.iconst 0, 1) := by decide +kernel
theorem dX3_isSame_340 : decode cX3_isSame 340 = .ok (.istore 4, 2) := by decide +kernel
theorem dX3_isSame_342 : decode cX3_isSame 342 = .ok (.iload 4, 2) := by decide +kernel
theorem dX3_isSame_344 : decode cX3_isSame 344 = .ok (.aload_n 0, 1) := by decide +kernel
theorem dX3_isSame_345 : decode cX3_isSame 345 = .ok (.getfield 18, 3) := by decide +kernel
theorem dX3_isSame_348 : decode cX3_isSame 348 = .ok (.arraylength, 1) := by decide +kernel
theorem dX3_isSame_349 : decode cX3_isSame 349 = .ok (.if_icmp .ge 37, 3) := by decide +kernel
theorem dX3_isSame_352 : decode cX3_isSame 352 = .ok (.aload_n 1, 1) := by decide +kernel
theorem dX3_isSame_353 : decode cX3_isSame 353 = .ok (.iload 4, 2) := by decide +kernel
theorem dX3_isSame_355 : decode cX3_isSame 355 = .ok (.invokevirtual 115, 3) := by decide +kernel
theorem dX3_isSame_358 : decode cX3_isSame 358 = .ok (.aload_n 0, 1) := by decide +kernel
theorem dX3_isSame_359 : decode cX3_isSame 359 = .ok (.getfield 18, 3) := by decide +kernel
theorem dX3_isSame_362 : decode cX3_isSame 362 = .ok (.iload 4, 2) := by decide +kernel
theorem dX3_isSame_364 : decode cX3_isSame 364 = .ok (.iaload, 1) := by decide +kernel
theorem dX3_isSame_365 : decode cX3_isSame 365 = .ok (.if_icmp .eq 5, 3) := by decide +kernel
theorem dX3_isSame_368 : decode cX3_isSame 368 = .ok (.iconst 0, 1) := by decide +kernel
theorem dX3_isSame_369 : decode cX3_isSame 369 = .ok (.ireturn, 1) := by decide +kernel
theorem dX3_isSame_370 : decode cX3_isSame 370 = .ok (.iload_n 3, 1) := by decide +kernel
theorem dX3_isSame_371 : decode cX3_isSame 371 = .ok (.aload_n 0, 1) := by decide +kernel
theorem dX3_isSame_372 : decode cX3_isSame 372 = .ok (.getfield 18, 3) := by decide +kernel
theorem dX3_isSame_375 : decode cX3_isSame 375 = .ok (.iload 4, 2) := by decide +kernel
theorem dX3_isSame_377 : decode cX3_isSame 377 = .ok (.iaload, 1) := by decide +kernel
theorem dX3_isSame_378 : decode cX3_isSame 378 = .ok (.iadd, 1) := by decide +kernel
theorem dX3_isSame_379 : decode cX3_isSame 379 = .ok (.istore_n 3, 1) := by decide +kernel
theorem dX3_isSame_380 : decode cX3_isSame 380 = .ok (.iinc 4 1, 3) := by decide +kernel
theorem dX3_isSame_383 : decode cX3_isSame 383 = .ok (.goto (-41), 3) := by decide +kernel
theorem dX3_isSame_386 : decode cX3_isSame 386 = .ok (.aload_n 1, 1) := by decide +kernel
theorem dX3_isSame_387 : decode cX3_isSame 387 = .ok (.invokevirtual 118, 3) := by decide +kernel
theorem dX3_isSame_390 : decode cX3_isSame 390 = .ok (.aload_n 0, 1) := by decide +kernel
theorem dX3_isSame_391 : decode cX3_isSame 391 = .ok (.getfield 9, 3) := by decide +kernel
theorem dX3_isSame_394 : decode cX3_isSame 394 = .ok (.arraylength, 1) := by decide +kernel
theorem dX3_isSame_395 : decode cX3_isSame 395 = .ok (.if_icmp .ne 124, 3) := by decide +kernel
theorem dX3_isSame_398 : decode cX3_isSame 398 = .ok (.aload_n 1, 1) := by decide +kernel
theorem dX3_isSame_399 : decode cX3_isSame 399 = .ok (.invokevirtual 121, 3) := by decide +kernel
theorem dX3_isSame_402 : decode cX3_isSame 402 = .ok (.aload_n 0, 1) := by decide +kernel
theorem dX3_isSame_403 : decode cX3_isSame 403 = .ok (.getfield 15, 3) := by decide +kernel
theorem dX3_isSame_406 : decode cX3_isSame 406 = .ok (.arraylength, 1) := by decide +kernel
theorem dX3_isSame_407 : decode cX3_isSame 407 = .ok (.if_icmp .ne 112, 3) := by decide +kernel
theorem dX3_isSame_410 : decode cX3_isSame 410 = .ok (.aload_n 1, 1) := by decide +kernel
theorem dX3_isSame_411 : decode cX3_isSame 411 = .ok (.invokevirtual 123, 3) := by decide +kernel
theorem dX3_isSame_414 : decode cX3_isSame 414 = .ok (.aload_n 0, 1) := by decide +kernel
theorem dX3_isSame_415 : decode cX3_isSame 415 = .ok (.getfield 18, 3) := by decide +kernel
theorem dX3_isSame_418 : decode cX3_isSame 418 = .ok (.arraylength, 1) := by decide +kernel
theorem dX3_isSame_419 : decode cX3_isSame 419 = .ok (.if_icmp .ne 100, 3) := by decide +kernel
theorem dX3_isSame_422 : decode cX3_isSame 422 = .ok (.aload_n 1, 1) := by decide +kernel
theorem dX3_isSame_423 : decode cX3_isSame 423 = .ok (.invokevirtual 126, 3) := by decide +kernel
theorem dX3_isSame_426 : decode cX3_isSame 426 = .ok (.aload_n 0, 1) := by decide +kernel
theorem dX3_isSame_427 : decode cX3_isSame 427 = .ok (.getfield 21, 3) := by decide +kernel
theorem dX3_isSame_430 : decode cX3_isSame 430 = .ok (.arraylength, 1) := by decide +kernel
theorem dX3_isSame_431 : decode cX3_isSame 431 = .ok (.if_icmp .ne 88, 3) := by decide +kernel
theorem dX3_isSame_434 : decode cX3_isSame 434 = .ok (.aload_n 1, 1) := by decide +kernel
theorem dX3_isSame_435 : decode cX3_isSame 435 = .ok (.invokevirtual 129, 3) := by decide +kernel
theorem dX3_isSame_438 : decode cX3_isSame 438 = .ok (.aload_n 0, 1) := by decide +kernel
theorem dX3_isSame_439 : decode cX3_isSame 439 = .ok (.getfield 29, 3) := by decide +kernel
theorem dX3_isSame_442 : decode cX3_isSame 442 = .ok (.if_icmp .ne 77, 3) := by decide +kernel
theorem dX3_isSame_445 : decode cX3_isSame 445 = .ok (.aload_n 1, 1) := by decide +kernel
theorem dX3_isSame_446 : decode cX3_isSame 446 = .ok (.invokevirtual 131, 3) := by decide +kernel
theorem dX3_isSame_449 : decode cX3_isSame 449 = .ok (.aload_n 0, 1) := by decide +kernel
theorem dX3_isSame_450 : decode cX3_isSame 450 = .ok (.getfield 33, 3) := by decide +kernel
theorem dX3_isSame_453 : decode cX3_isSame 453 = .ok (.if_icmp .ne 66, 3) := by decide +kernel
theorem dX3_isSame_456 : decode cX3_isSame 456 = .ok (.aload_n 1, 1) := by decide +kernel
theorem dX3_isSame_457 : decode cX3_isSame 457 = .ok (.invokevirtual 133, 3) := by decide +kernel
theorem dX3_isSame_460 : decode cX3_isSame 460 = .ok (.aload_n 0, 1) := by decide +kernel
theorem dX3_isSame_461 : decode cX3_isSame 461 = .ok (.invokevirtual 136, 3) := by decide +kernel
theorem dX3_isSame_464 : decode cX3_isSame 464 = .ok (.if_icmp .ne 55, 3) := by decide +kernel
theorem dX3_isSame_467 : decode cX3_isSame 467 = .ok (.aload_n 1, 1) := by decide +kernel
theorem dX3_isSame_468 : decode cX3_isSame 468 = .ok (.invokevirtual 139, 3) := by decide +kernel
theorem dX3_isSame_471 : decode cX3_isSame 471 = .ok (.aload_n 0, 1) := by decide +kernel
theorem dX3_isSame_472 : decode cX3_isSame 472 = .ok (.getfield 36, 3) := by decide +kernel
theorem dX3_isSame_475 : decode cX3_isSame 475 = .ok (.if_icmp .ne 44, 3) := by decide +kernel
theorem dX3_isSame_478 : decode cX3_isSame 478 = .ok (.aload_n 1, 1) := by decide +kernel
theorem dX3_isSame_479 : decode cX3_isSame 479 = .ok (.invokevirtual 142, 3) := by decide +kernel
theorem dX3_isSame_482 : decode cX3_isSame 482 = .ok (.iload_n 2, 1) := by decide +kernel
theorem dX3_isSame_483 : decode cX3_isSame 483 = .ok (.if_icmp .ne 36, 3) := by decide +kernel
theorem dX3_isSame_486 : decode cX3_isSame 486 = .ok (.aload_n 1, 1) := by decide +kernel
theorem dX3_isSame_487 : decode cX3_isSame 487 = .ok (.invokevirtual 145, 3) := by decide +kernel
theorem dX3_isSame_490 : decode cX3_isSame 490 = .ok (.aload_n 0, 1) := by decide +kernel
theorem dX3_isSame_491 : decode cX3_isSame 491 = .ok (.getfield 18, 3) := by decide +kernel
theorem dX3_isSame_494 : decode cX3_isSame 494 = .ok (.arraylength, 1) := by decide +kernel
theorem dX3_isSame_495 : decode cX3_isSame 495 = .ok (.ifCond .ne 7, 3) := by decide +kernel
theorem dX3_isSame_498 : decode cX3_isSame 498 = .ok (.dconst 0, 1) := by decide +kernel
theorem dX3_isSame_499 : decode cX3_isSame 499 = .ok (.goto 12, 3) := by decide +kernel
theorem dX3_isSame_502 : decode cX3_isSame 502 = .ok (.iload_n 3, 1) := by decide +kernel
theorem dX3_isSame_503 : decode cX3_isSame 503 = .ok (.i2d, 1) := by decide +kernel
theorem dX3_isSame_504 : decode cX3_isSame 504 = .ok (.aload_n 0, 1) := by decide +kernel
theorem dX3_isSame_505 : decode cX3_isSame 505 = .ok (.getfield 18, 3) := by decide +kernel
theorem dX3_isSame_508 : decode cX3_isSame 508 = .ok (.arraylength, 1) := by decide +kernel
theorem dX3_isSame_509 : decode cX3_isSame 509 = .ok (.i2d, 1) := by decide +kernel
theorem dX3_isSame_510 : decode cX3_isSame 510 = .ok (.ddiv, 1) := by decide +kernel
theorem dX3_isSame_511 : decode cX3_isSame 511 = .ok (.dcmp .l, 1) := by decide +kernel
theorem dX3_isSame_512 : decode cX3_isSame 512 = .ok (.ifCond .ne 7, 3) := by decide +kernel
theorem dX3_isSame_515 : decode cX3_isSame 515 = .ok (.iconst 1, 1) := by decide +kernel
theorem dX3_isSame_516 : decode cX3_isSame 516 = .ok (.goto 4, 3) := by decide +kernel
theorem dX3_isSame_519 : decode cX3_isSame 519 = .ok (.iconst 0, 1) := by decide +kernel
theorem dX3_isSame_520 : decode cX3_isSame 520 = .ok (.ireturn, 1) := by decide +kernel
theorem dL_refused_0 : decode cL_refused 0 = .ok (.iload_n 1, 1) := by decide +kernel
theorem dL_refused_1 : decode cL_refused 1 = .ok (.bipush 18, 2) := by decide +kernel
theorem dL_refused_3 : decode cL_refused 3 = .ok (.invokestatic 15, 3) := by decide +kernel
theorem dL_refused_6 : decode cL_refused 6 = .ok (.tableswitch 234 0 13 #[70, 85, 85, 112, 234, 127, 127, 144, 161, 161, 161, 188, 188, 188], 70) := by decide +kernel
theorem dL_refused_76 : decode cL_refused 76 = .ok (.aload_n 0, 1) := by decide +kernel
theorem dL_refused_77 : decode cL_refused 77 = .ok (.getfield 9, 3) := by decide +kernel
theorem dL_refused_80 : decode cL_refused 80 = .ok (.arraylength, 1) := by decide +kernel
theorem dL_refused_81 : decode cL_refused 81 = .ok (.iconst 5, 1) := by decide +kernel
theorem dL_refused_82 : decode cL_refused 82 = .ok (.if_icmp .ne 7, 3) := by decide +kernel
theorem dL_refused_85 : decode cL_refused 85 = .ok (.iconst 1, 1) := by decide +kernel
theorem dL_refused_86 : decode cL_refused 86 = .ok (.goto 4, 3) := by decide +kernel
theorem dL_refused_89 : decode cL_refused 89 = .ok (.iconst 0, 1) := by decide +kernel
theorem dL_refused_90 : decode cL_refused 90 = .ok (.ireturn, 1) := by decide +kernel
theorem dL_refused_91 : decode cL_refused 91 = .ok (.aload_n 0, 1) := by decide +kernel
theorem dL_refused_92 : decode cL_refused 92 = .ok (.getfield 9, 3) := by decide +kernel
theorem dL_refused_95 : decode cL_refused 95 = .ok (.iload_n 2, 1) := by decide +kernel
theorem dL_refused_96 : decode cL_refused 96 = .ok (.aaload, 1) := by decide +kernel
theorem dL_refused_97 : decode cL_refused 97 = .ok (.iconst 1, 1) := by decide +kernel
theorem dL_refused_98 : decode cL_refused 98 = .ok (.iaload, 1) := by decide +kernel
theorem dL_refused_99 : decode cL_refused 99 = .ok (.ifCond .gt 13, 3) := by decide +kernel
theorem dL_refused_102 : decode cL_refused 102 = .ok (.aload_n 0, 1) := by decide +kernel
theorem dL_refused_103 : decode cL_refused 103 = .ok (.getfield 25, 3) := by decide +kernel
theorem dL_refused_106 : decode cL_refused 106 = .ok (.arraylength, 1) := by decide +kernel
theorem dL_refused_107 : decode cL_refused 107 = .ok (.bipush 16, 2) := by decide +kernel
theorem dL_refused_109 : decode cL_refused 109 = .ok (.if_icmp .ne 7, 3) := by decide +kernel
theorem dL_refused_112 : decode cL_refused 112 = .ok (.iconst 1, 1) := by decide +kernel
theorem dL_refused_113 : decode cL_refused 113 = .ok (.goto 4, 3) := by decide +kernel
theorem dL_refused_116 : decode cL_refused 116 = .ok (.iconst 0, 1) := by decide +kernel
theorem dL_refused_117 : decode cL_refused 117 = .ok (.ireturn, 1) := by decide +kernel
theorem dL_refused_118 : decode cL_refused 118 = .ok (.aload_n 0, 1) := by decide +kernel
theorem dL_refused_119 : decode cL_refused 119 = .ok (.getfield 21, 3) := by decide +kernel
theorem dL_refused_122 : decode cL_refused 122 = .ok (.arraylength, 1) := by decide +kernel
theorem dL_refused_123 : decode cL_refused 123 = .ok (.iconst 4, 1) := by decide +kernel
theorem dL_refused_124 : decode cL_refused 124 = .ok (.if_icmp .ne 7, 3) := by decide +kernel
theorem dL_refused_127 : decode cL_refused 127 = .ok (.iconst 1, 1) := by decide +kernel
theorem dL_refused_128 : decode cL_refused 128 = .ok (.goto 4, 3) := by decide +kernel
theorem dL_refused_131 : decode cL_refused 131 = .ok (.iconst 0, 1) := by decide +kernel
theorem dL_refused_132 : decode cL_refused 132 = .ok (.ireturn, 1) := by decide +kernel
theorem dL_refused_133 : decode cL_refused 133 = .ok (.aload_n 0, 1) := by decide +kernel
theorem dL_refused_134 : decode cL_refused 134 = .ok (.getfield 9, 3) := by decide +kernel
theorem dL_refused_137 : decode cL_refused 137 = .ok (.iload_n 2, 1) := by decide +kernel
theorem dL_refused_138 : decode cL_refused 138 = .ok (.aaload, 1) := by decide +kernel
theorem dL_refused_139 : decode cL_refused 139 = .ok (.iconst 1, 1) := by decide +kernel
theorem dL_refused_140 : decode cL_refused 140 = .ok (.iaload, 1) := by decide +kernel
theorem dL_refused_141 : decode cL_refused 141 = .ok (.ifCond .le 7, 3) := by decide +kernel
theorem dL_refused_144 : decode cL_refused 144 = .ok (.iconst 1, 1) := by decide +kernel
theorem dL_refused_145 : decode cL_refused 145 = .ok (.goto 4, 3) := by decide +kernel
theorem dL_refused_148 : decode cL_refused 148 = .ok (.iconst 0, 1) := by decide +kernel
theorem dL_refused_149 : decode cL_refused 149 = .ok (.ireturn, 1) := by decide +kernel
theorem dL_refused_150 : decode cL_refused 150 = .ok (.aload_n 0, 1) := by decide +kernel
theorem dL_refused_151 : decode cL_refused 151 = .ok (.getfield 9, 3) := by decide +kernel
theorem dL_refused_154 : decode cL_refused 154 = .ok (.iload_n 2, 1) := by decide +kernel
theorem dL_refused_155 : decode cL_refused 155 = .ok (.aaload, 1) := by decide +kernel
theorem dL_refused_156 : decode cL_refused 156 = .ok (.iconst 1, 1) := by decide +kernel
theorem dL_refused_157 : decode cL_refused 157 = .ok (.iaload, 1) := by decide +kernel
theorem dL_refused_158 : decode cL_refused 158 = .ok (.ifCond .ne 7, 3) := by decide +kernel
theorem dL_refused_161 : decode cL_refused 161 = .ok (.iconst 1, 1) := by decide +kernel
theorem dL_refused_162 : decode cL_refused 162 = .ok (.goto 4, 3) := by decide +kernel
theorem dL_refused_165 : decode cL_refused 165 = .ok (.iconst 0, 1) := by decide +kernel
theorem dL_refused_166 : decode cL_refused 166 = .ok (.ireturn, 1) := by decide +kernel
theorem dL_refused_167 : decode cL_refused 167 = .ok (.aload_n 0, 1) := by decide +kernel
theorem dL_refused_168 : decode cL_refused 168 = .ok (.getfield 9, 3) := by decide +kernel
theorem dL_refused_171 : decode cL_refused 171 = .ok (.iload_n 2, 1) := by decide +kernel
theorem dL_refused_172 : decode cL_refused 172 = .ok (.aaload, 1) := by decide +kernel
theorem dL_refused_173 : decode cL_refused 173 = .ok (.iconst 1, 1) := by decide +kernel
theorem dL_refused_174 : decode cL_refused 174 = .ok (.iaload, 1) := by decide +kernel
theorem dL_refused_175 : decode cL_refused 175 = .ok (.iconst 1, 1) := by decide +kernel
theorem dL_refused_176 : decode cL_refused 176 = .ok (.if_icmp .ne 12, 3) := by decide +kernel
theorem dL_refused_179 : decode cL_refused 179 = .ok (.aload_n 0, 1) := by decide +kernel
theorem dL_refused_180 : decode cL_refused 180 = .ok (.iload_n 3, 1) := by decide +kernel
theorem dL_refused_181 : decode cL_refused 181 = .ok (.iload_n 2, 1) := by decide +kernel
theorem dL_refused_182 : decode cL_refused 182 = .ok (.invokevirtual 96, 3) := by decide +kernel
theorem dL_refused_185 : decode cL_refused 185 = .ok (.ifCond .eq 7, 3) := by decide +kernel
theorem dL_refused_188 : decode cL_refused 188 = .ok (.iconst 1, 1) := by decide +kernel
theorem dL_refused_189 : decode cL_refused 189 = .ok (.goto 4, 3) := by decide +kernel
theorem dL_refused_192 : decode cL_refused 192 = .ok (.iconst 0, 1) := by decide +kernel
theorem dL_refused_193 : decode cL_refused 193 = .ok (.ireturn, 1) := by decide +kernel
theorem dL_refused_194 : decode cL_refused 194 = .ok (.aload_n 0, 1) := by decide +kernel
theorem dL_refused_195 : decode cL_refused 195 = .ok (.getfield 25, 3) := by decide +kernel
theorem dL_refused_198 : decode cL_refused 198 = .ok (.arraylength, 1) := by decide +kernel
theorem dL_refused_199 : decode cL_refused 199 = .ok (.ifCond .le 39, 3) := by decide +kernel
theorem dL_refused_202 : decode cL_refused 202 = .ok (.aload_n 0, 1) := by decide +kernel
theorem dL_refused_203 : decode cL_refused 203 = .ok (.getfield 25, 3) := by decide +kernel
theorem dL_refused_206 : decode cL_refused 206 = .ok (.iload 4, 2) := by decide +kernel
theorem dL_refused_208 : decode cL_refused 208 = .ok (.aaload, 1) := by decide +kernel
theorem dL_refused_209 : decode cL_refused 209 = .ok (.iconst 2, 1) := by decide +kernel
theorem dL_refused_210 : decode cL_refused 210 = .ok (.iaload, 1) := by decide +kernel
theorem dL_refused_211 : decode cL_refused 211 = .ok (.ifCond .eq 23, 3) := by decide +kernel
theorem dL_refused_214 : decode cL_refused 214 = .ok (.aload_n 0, 1) := by decide +kernel
theorem dL_refused_215 : decode cL_refused 215 = .ok (.getfield 9, 3) := by decide +kernel
theorem dL_refused_218 : decode cL_refused 218 = .ok (.aload_n 0, 1) := by decide +kernel
theorem dL_refused_219 : decode cL_refused 219 = .ok (.getfield 25, 3) := by decide +kernel
theorem dL_refused_222 : decode cL_refused 222 = .ok (.iload 4, 2) := by decide +kernel
theorem dL_refused_224 : decode cL_refused 224 = .ok (.aaload, 1) := by decide +kernel
theorem dL_refused_225 : decode cL_refused 225 = .ok (.iconst 0, 1) := by decide +kernel
theorem dL_refused_226 : decode cL_refused 226 = .ok (.iaload, 1) := by decide +kernel
theorem dL_refused_227 : decode cL_refused 227 = .ok (.aaload, 1) := by decide +kernel
theorem dL_refused_228 : decode cL_refused 228 = .ok (.iconst 1, 1) := by decide +kernel
theorem dL_refused_229 : decode cL_refused 229 = .ok (.iaload, 1) := by decide +kernel
theorem dL_refused_230 : decode cL_refused 230 = .ok (.iconst 1, 1) := by decide +kernel
theorem dL_refused_231 : decode cL_refused 231 = .ok (.if_icmp .eq 7, 3) := by decide +kernel
theorem dL_refused_234 : decode cL_refused 234 = .ok (.iconst 1, 1) := by decide +kernel
theorem dL_refused_235 : decode cL_refused 235 = .ok (.goto 4, 3) := by decide +kernel
theorem dL_refused_238 : decode cL_refused 238 = .ok (.iconst 0, 1) := by decide +kernel
theorem dL_refused_239 : decode cL_refused 239 = .ok (.ireturn, 1) := by decide +kernel
theorem dL_refused_240 : decode cL_refused 240 = .ok (.iconst 0, 1) := by decide +kernel
theorem dL_refused_241 : decode cL_refused 241 = .ok (.ireturn, 1) := by decide +kernel
theorem dL_build_0 : decode cL_build 0 = .ok (.new 10, 3) := by decide +kernel
theorem dL_build_3 : decode cL_build 3 = .ok (.dup, 1) := by decide +kernel
theorem dL_build_4 : decode cL_build 4 = .ok (.invokespecial 99, 3) := by decide +kernel
theorem dL_build_7 : decode cL_build 7 = .ok (.astore_n 2, 1) := by decide +kernel
theorem dL_build_8 : decode cL_build 8 = .ok (.iconst 1, 1) := by decide +kernel
theorem dL_build_9 : decode cL_build 9 = .ok (.aload_n 1, 1) := by decide +kernel
theorem dL_build_10 : decode cL_build 10 = .ok (.iconst 0, 1) := by decide +kernel
theorem dL_build_11 : decode cL_build 11 = .ok (.invokestatic 100, 3) := by decide +kernel
theorem dL_build_14 : decode cL_build 14 = .ok (.iconst 4, 1) := by decide +kernel
theorem dL_build_15 : decode cL_build 15 = .ok (.invokestatic 15, 3) := by decide +kernel
theorem dL_build_18 : decode cL_build 18 = .ok (.iadd, 1) := by decide +kernel
theorem dL_build_19 : decode cL_build 19 = .ok (.istore_n 3, 1) := by decide +kernel
theorem dL_build_20 : decode cL_build 20 = .ok (.iconst 0, 1) := by decide +kernel
theorem dL_build_21 : decode cL_build 21 = .ok (.istore 4, 2) := by decide +kernel
theorem dL_build_23 : decode cL_build 23 = .ok (.iload 4, 2) := by decide +kernel
theorem dL_build_25 : decode cL_build 25 = .ok (.iload_n 3, 1) := by decide +kernel
theorem dL_build_26 : decode cL_build 26 = .ok (.if_icmp .ge 69, 3) := by decide +kernel
theorem dL_build_29 : decode cL_build 29 = .ok (.iconst 1, 1) := by decide +kernel
theorem dL_build_30 : decode cL_build 30 = .ok (.aload_n 1, 1) := by decide +kernel
theorem dL_build_31 : decode cL_build 31 = .ok (.iconst 1, 1) := by decide +kernel
theorem dL_build_32 : decode cL_build 32 = .ok (.iload 4, 2) := by decide +kernel
theorem dL_build_34 : decode cL_build 34 = .ok (.iadd, 1) := by decide +kernel
theorem dL_build_35 : decode cL_build 35 = .ok (.invokestatic 100, 3) := by decide +kernel
theorem dL_build_38 : decode cL_build 38 = .ok (.iconst 3, 1) := by decide +kernel
theorem dL_build_39 : decode cL_build 39 = .ok (.invokestatic 15, 3) := by decide +kernel
theorem dL_build_42 : decode cL_build 42 = .ok (.iadd, 1) := by decide +kernel
theorem dL_build_43 : decode cL_build 43 = .ok (.istore 5, 2) := by decide +kernel
theorem dL_build_45 : decode cL_build 45 = .ok (.aload_n 2, 1) := by decide +kernel
theorem dL_build_46 : decode cL_build 46 = .ok (.aload_n 2, 1) := by decide +kernel
theorem dL_build_47 : decode cL_build 47 = .ok (.getfield 9, 3) := by decide +kernel
theorem dL_build_50 : decode cL_build 50 = .ok (.iconst 4, 1) := by decide +kernel
theorem dL_build_51 : decode cL_build 51 = .ok (.newarray .int, 2) := by decide +kernel
theorem dL_build_53 : decode cL_build 53 = .ok (.dup, 1) := by decide +kernel
theorem dL_build_54 : decode cL_build 54 = .ok (.iconst 0, 1) := by decide +kernel
theorem dL_build_55 : decode cL_build 55 = .ok (.iload 5, 2) := by decide +kernel
theorem dL_build_57 : decode cL_build 57 = .ok (.iastore, 1) := by decide +kernel
theorem dL_build_58 : decode cL_build 58 = .ok (.dup, 1) := by decide +kernel
theorem dL_build_59 : decode cL_build 59 = .ok (.iconst 1, 1) := by decide +kernel
theorem dL_build_60 : decode cL_build 60 = .ok (.iconst 0, 1) := by decide +kernel
theorem dL_build_61 : decode cL_build 61 = .ok (.iastore, 1) := by decide +kernel
theorem dL_build_62 : decode cL_build 62 = .ok (.dup, 1) := by decide +kernel
theorem dL_build_63 : decode cL_build 63 = .ok (.iconst 2, 1) := by decide +kernel
theorem dL_build_64 : decode cL_build 64 = .ok (.iconst 0, 1) := by decide +kernel
theorem dL_build_65 : decode cL_build 65 = .ok (.iastore, 1) := by decide +kernel
theorem dL_build_66 : decode cL_build 66 = .ok (.dup, 1) := by decide +kernel
theorem dL_build_67 : decode cL_build 67 = .ok (.iconst 3, 1) := by decide +kernel
theorem dL_build_68 : decode cL_build 68 = .ok (.iconst 0, 1) := by decide +kernel
theorem dL_build_69 : decode cL_build 69 = .ok (.iastore, 1) := by decide +kernel
theorem dL_build_70 : decode cL_build 70 = .ok (.invokestatic 38, 3) := by decide +kernel
theorem dL_build_73 : decode cL_build 73 = .ok (.putfield 9, 3) := by decide +kernel
theorem dL_build_76 : decode cL_build 76 = .ok (.aload_n 0, 1) := by decide +kernel
theorem dL_build_77 : decode cL_build 77 = .ok (.iload 5, 2) := by decide +kernel
theorem dL_build_79 : decode cL_build 79 = .ok (.invokevirtual 32, 3) := by decide +kernel
theorem dL_build_82 : decode cL_build 82 = .ok (.iload 4, 2) := by decide +kernel
theorem dL_build_84 : decode cL_build 84 = .ok (.if_icmp .eq 5, 3) := by decide +kernel
theorem dL_build_87 : decode cL_build 87 = .ok (.aconst_null, 1) := by decide +kernel
theorem dL_build_88 : decode cL_build 88 = .ok (.areturn, 1) := by decide +kernel
theorem dL_build_89 : decode cL_build 89 = .ok (.iinc 4 1, 3) := by decide +kernel
theorem dL_build_92 : decode cL_build 92 = .ok (.goto (-69), 3) := by decide +kernel
theorem dL_build_95 : decode cL_build 95 = .ok (.aload_n 1, 1) := by decide +kernel
theorem dL_build_96 : decode cL_build 96 = .ok (.iconst 0, 1) := by decide +kernel
theorem dL_build_97 : decode cL_build 97 = .ok (.invokestatic 100, 3) := by decide +kernel
theorem dL_build_100 : decode cL_build 100 = .ok (.iconst 4, 1) := by decide +kernel
theorem dL_build_101 : decode cL_build 101 = .ok (.ishr, 1) := by decide +kernel
theorem dL_build_102 : decode cL_build 102 = .ok (.bipush 13, 2) := by decide +kernel
theorem dL_build_104 : decode cL_build 104 = .ok (.invokestatic 15, 3) := by decide +kernel
theorem dL_build_107 : decode cL_build 107 = .ok (.istore 4, 2) := by decide +kernel
theorem dL_build_109 : decode cL_build 109 = .ok (.iconst 0, 1) := by decide +kernel
theorem dL_build_110 : decode cL_build 110 = .ok (.istore 5, 2) := by decide +kernel
theorem dL_build_112 : decode cL_build 112 = .ok (.iload 5, 2) := by decide +kernel
theorem dL_build_114 : decode cL_build 114 = .ok (.iload 4, 2) := by decide +kernel
theorem dL_build_116 : decode cL_build 116 = .ok (.if_icmp .ge 128, 3) := by decide +kernel
theorem dL_build_119 : decode cL_build 119 = .ok (.aload_n 1, 1) := by decide +kernel
theorem dL_build_120 : decode cL_build 120 = .ok (.iload 5, 2) := by decide +kernel
theorem dL_build_122 : decode cL_build 122 = .ok (.bipush 16, 2) := by decide +kernel
