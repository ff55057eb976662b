theorem dL_build_124 : decode cL_build 124 = .ok (.irem, 1) := by decide +kernel
theorem dL_build_125 : decode cL_build 125 = .ok (.invokestatic 100, 3) := by decide +kernel
theorem dL_build_128 : decode cL_build 128 = .ok (.iconst 3, 1) := by decide +kernel
theorem dL_build_129 : decode cL_build 129 = .ok (.ishr, 1) := by decide +kernel
theorem dL_build_130 : decode cL_build 130 = .ok (.istore 6, 2) := by decide +kernel
theorem dL_build_132 : decode cL_build 132 = .ok (.iload 6, 2) := by decide +kernel
theorem dL_build_134 : decode cL_build 134 = .ok (.iload_n 3, 1) := by decide +kernel
theorem dL_build_135 : decode cL_build 135 = .ok (.invokestatic 15, 3) := by decide +kernel
theorem dL_build_138 : decode cL_build 138 = .ok (.istore 7, 2) := by decide +kernel
theorem dL_build_140 : decode cL_build 140 = .ok (.iload 6, 2) := by decide +kernel
theorem dL_build_142 : decode cL_build 142 = .ok (.iconst 3, 1) := by decide +kernel
theorem dL_build_143 : decode cL_build 143 = .ok (.ishr, 1) := by decide +kernel
theorem dL_build_144 : decode cL_build 144 = .ok (.aload_n 2, 1) := by decide +kernel
theorem dL_build_145 : decode cL_build 145 = .ok (.getfield 9, 3) := by decide +kernel
theorem dL_build_148 : decode cL_build 148 = .ok (.iload 7, 2) := by decide +kernel
theorem dL_build_150 : decode cL_build 150 = .ok (.aaload, 1) := by decide +kernel
theorem dL_build_151 : decode cL_build 151 = .ok (.iconst 0, 1) := by decide +kernel
theorem dL_build_152 : decode cL_build 152 = .ok (.iaload, 1) := by decide +kernel
theorem dL_build_153 : decode cL_build 153 = .ok (.invokestatic 15, 3) := by decide +kernel
theorem dL_build_156 : decode cL_build 156 = .ok (.istore 8, 2) := by decide +kernel
theorem dL_build_158 : decode cL_build 158 = .ok (.iload 6, 2) := by decide +kernel
theorem dL_build_160 : decode cL_build 160 = .ok (.iconst 5, 1) := by decide +kernel
theorem dL_build_161 : decode cL_build 161 = .ok (.ishr, 1) := by decide +kernel
theorem dL_build_162 : decode cL_build 162 = .ok (.iconst 3, 1) := by decide +kernel
theorem dL_build_163 : decode cL_build 163 = .ok (.invokestatic 15, 3) := by decide +kernel
theorem dL_build_166 : decode cL_build 166 = .ok (.ifCond .le 7, 3) := by decide +kernel
theorem dL_build_169 : decode cL_build 169 = .ok (.iconst 1, 1) := by decide +kernel
theorem dL_build_170 : decode cL_build 170 = .ok (.goto 4, 3) := by decide +kernel
theorem dL_build_173 : decode cL_build 173 = .ok (.iconst 0, 1) := by decide +kernel
theorem dL_build_174 : decode cL_build 174 = .ok (.istore 9, 2) := by decide +kernel
theorem dL_build_176 : decode cL_build 176 = .ok (.aload_n 2, 1) := by decide +kernel
theorem dL_build_177 : decode cL_build 177 = .ok (.aload_n 2, 1) := by decide +kernel
theorem dL_build_178 : decode cL_build 178 = .ok (.getfield 25, 3) := by decide +kernel
theorem dL_build_181 : decode cL_build 181 = .ok (.iconst 5, 1) := by decide +kernel
theorem dL_build_182 : decode cL_build 182 = .ok (.newarray .int, 2) := by decide +kernel
theorem dL_build_184 : decode cL_build 184 = .ok (.dup, 1) := by decide +kernel
theorem dL_build_185 : decode cL_build 185 = .ok (.iconst 0, 1) := by decide +kernel
theorem dL_build_186 : decode cL_build 186 = .ok (.iload 7, 2) := by decide +kernel
theorem dL_build_188 : decode cL_build 188 = .ok (.iastore, 1) := by decide +kernel
theorem dL_build_189 : decode cL_build 189 = .ok (.dup, 1) := by decide +kernel
theorem dL_build_190 : decode cL_build 190 = .ok (.iconst 1, 1) := by decide +kernel
theorem dL_build_191 : decode cL_build 191 = .ok (.iload 8, 2) := by decide +kernel
theorem dL_build_193 : decode cL_build 193 = .ok (.iastore, 1) := by decide +kernel
theorem dL_build_194 : decode cL_build 194 = .ok (.dup, 1) := by decide +kernel
theorem dL_build_195 : decode cL_build 195 = .ok (.iconst 2, 1) := by decide +kernel
theorem dL_build_196 : decode cL_build 196 = .ok (.iload 9, 2) := by decide +kernel
theorem dL_build_198 : decode cL_build 198 = .ok (.ifCond .eq 7, 3) := by decide +kernel
theorem dL_build_201 : decode cL_build 201 = .ok (.iconst 1, 1) := by decide +kernel
theorem dL_build_202 : decode cL_build 202 = .ok (.goto 4, 3) := by decide +kernel
theorem dL_build_205 : decode cL_build 205 = .ok (.iconst 0, 1) := by decide +kernel
theorem dL_build_206 : decode cL_build 206 = .ok (.iastore, 1) := by decide +kernel
theorem dL_build_207 : decode cL_build 207 = .ok (.dup, 1) := by decide +kernel
theorem dL_build_208 : decode cL_build 208 = .ok (.iconst 3, 1) := by decide +kernel
theorem dL_build_209 : decode cL_build 209 = .ok (.iconst 0, 1) := by decide +kernel
theorem dL_build_210 : decode cL_build 210 = .ok (.iastore, 1) := by decide +kernel
theorem dL_build_211 : decode cL_build 211 = .ok (.dup, 1) := by decide +kernel
theorem dL_build_212 : decode cL_build 212 = .ok (.iconst 4, 1) := by decide +kernel
theorem dL_build_213 : decode cL_build 213 = .ok (.iconst 0, 1) := by decide +kernel
theorem dL_build_214 : decode cL_build 214 = .ok (.iastore, 1) := by decide +kernel
theorem dL_build_215 : decode cL_build 215 = .ok (.invokestatic 38, 3) := by decide +kernel
theorem dL_build_218 : decode cL_build 218 = .ok (.putfield 25, 3) := by decide +kernel
theorem dL_build_221 : decode cL_build 221 = .ok (.aload_n 0, 1) := by decide +kernel
theorem dL_build_222 : decode cL_build 222 = .ok (.iload 7, 2) := by decide +kernel
theorem dL_build_224 : decode cL_build 224 = .ok (.iload 8, 2) := by decide +kernel
theorem dL_build_226 : decode cL_build 226 = .ok (.iload 9, 2) := by decide +kernel
theorem dL_build_228 : decode cL_build 228 = .ok (.invokevirtual 42, 3) := by decide +kernel
theorem dL_build_231 : decode cL_build 231 = .ok (.iload 5, 2) := by decide +kernel
theorem dL_build_233 : decode cL_build 233 = .ok (.if_icmp .eq 5, 3) := by decide +kernel
theorem dL_build_236 : decode cL_build 236 = .ok (.aconst_null, 1) := by decide +kernel
theorem dL_build_237 : decode cL_build 237 = .ok (.areturn, 1) := by decide +kernel
theorem dL_build_238 : decode cL_build 238 = .ok (.iinc 5 1, 3) := by decide +kernel
theorem dL_build_241 : decode cL_build 241 = .ok (.goto (-129), 3) := by decide +kernel
theorem dL_build_244 : decode cL_build 244 = .ok (.aload_n 2, 1) := by decide +kernel
theorem dL_build_245 : decode cL_build 245 = .ok (.aload_n 1, 1) := by decide +kernel
theorem dL_build_246 : decode cL_build 246 = .ok (.iconst 0, 1) := by decide +kernel
theorem dL_build_247 : decode cL_build 247 = .ok (.invokestatic 100, 3) := by decide +kernel
theorem dL_build_250 : decode cL_build 250 = .ok (.bipush 7, 2) := by decide +kernel
theorem dL_build_252 : decode cL_build 252 = .ok (.ishr, 1) := by decide +kernel
theorem dL_build_253 : decode cL_build 253 = .ok (.iconst 5, 1) := by decide +kernel
theorem dL_build_254 : decode cL_build 254 = .ok (.invokestatic 15, 3) := by decide +kernel
theorem dL_build_257 : decode cL_build 257 = .ok (.newarray .int, 2) := by decide +kernel
theorem dL_build_259 : decode cL_build 259 = .ok (.putfield 21, 3) := by decide +kernel
theorem dL_build_262 : decode cL_build 262 = .ok (.iconst 0, 1) := by decide +kernel
theorem dL_build_263 : decode cL_build 263 = .ok (.istore 5, 2) := by decide +kernel
theorem dL_build_265 : decode cL_build 265 = .ok (.iload 5, 2) := by decide +kernel
theorem dL_build_267 : decode cL_build 267 = .ok (.aload_n 2, 1) := by decide +kernel
theorem dL_build_268 : decode cL_build 268 = .ok (.getfield 21, 3) := by decide +kernel
theorem dL_build_271 : decode cL_build 271 = .ok (.arraylength, 1) := by decide +kernel
theorem dL_build_272 : decode cL_build 272 = .ok (.if_icmp .ge 28, 3) := by decide +kernel
theorem dL_build_275 : decode cL_build 275 = .ok (.aload_n 2, 1) := by decide +kernel
theorem dL_build_276 : decode cL_build 276 = .ok (.getfield 21, 3) := by decide +kernel
theorem dL_build_279 : decode cL_build 279 = .ok (.iload 5, 2) := by decide +kernel
theorem dL_build_281 : decode cL_build 281 = .ok (.iconst 5, 1) := by decide +kernel
theorem dL_build_282 : decode cL_build 282 = .ok (.iastore, 1) := by decide +kernel
theorem dL_build_283 : decode cL_build 283 = .ok (.aload_n 0, 1) := by decide +kernel
theorem dL_build_284 : decode cL_build 284 = .ok (.invokevirtual 46, 3) := by decide +kernel
theorem dL_build_287 : decode cL_build 287 = .ok (.iload 5, 2) := by decide +kernel
theorem dL_build_289 : decode cL_build 289 = .ok (.if_icmp .eq 5, 3) := by decide +kernel
theorem dL_build_292 : decode cL_build 292 = .ok (.aconst_null, 1) := by decide +kernel
theorem dL_build_293 : decode cL_build 293 = .ok (.areturn, 1) := by decide +kernel
theorem dL_build_294 : decode cL_build 294 = .ok (.iinc 5 1, 3) := by decide +kernel
theorem dL_build_297 : decode cL_build 297 = .ok (.goto (-32), 3) := by decide +kernel
theorem dL_build_300 : decode cL_build 300 = .ok (.aload_n 2, 1) := by decide +kernel
theorem dL_build_301 : decode cL_build 301 = .ok (.iconst 1, 1) := by decide +kernel
theorem dL_build_302 : decode cL_build 302 = .ok (.aload_n 1, 1) := by decide +kernel
theorem dL_build_303 : decode cL_build 303 = .ok (.iconst 5, 1) := by decide +kernel
theorem dL_build_304 : decode cL_build 304 = .ok (.invokestatic 100, 3) := by decide +kernel
theorem dL_build_307 : decode cL_build 307 = .ok (.iconst 2, 1) := by decide +kernel
theorem dL_build_308 : decode cL_build 308 = .ok (.ishr, 1) := by decide +kernel
theorem dL_build_309 : decode cL_build 309 = .ok (.sipush 300, 3) := by decide +kernel
theorem dL_build_312 : decode cL_build 312 = .ok (.invokestatic 15, 3) := by decide +kernel
theorem dL_build_315 : decode cL_build 315 = .ok (.iadd, 1) := by decide +kernel
theorem dL_build_316 : decode cL_build 316 = .ok (.putfield 50, 3) := by decide +kernel
theorem dL_build_319 : decode cL_build 319 = .ok (.aload_n 0, 1) := by decide +kernel
theorem dL_build_320 : decode cL_build 320 = .ok (.aload_n 2, 1) := by decide +kernel
theorem dL_build_321 : decode cL_build 321 = .ok (.getfield 50, 3) := by decide +kernel
theorem dL_build_324 : decode cL_build 324 = .ok (.invokevirtual 54, 3) := by decide +kernel
theorem dL_build_327 : decode cL_build 327 = .ok (.aload_n 2, 1) := by decide +kernel
theorem dL_build_328 : decode cL_build 328 = .ok (.getfield 50, 3) := by decide +kernel
theorem dL_build_331 : decode cL_build 331 = .ok (.if_icmp .ne 7, 3) := by decide +kernel
theorem dL_build_334 : decode cL_build 334 = .ok (.aload_n 2, 1) := by decide +kernel
theorem dL_build_335 : decode cL_build 335 = .ok (.goto 4, 3) := by decide +kernel
theorem dL_build_338 : decode cL_build 338 = .ok (.aconst_null, 1) := by decide +kernel
theorem dL_build_339 : decode cL_build 339 = .ok (.areturn, 1) := by decide +kernel
