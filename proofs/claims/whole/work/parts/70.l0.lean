theorem d_La_law_0 : decode code 0 = .ok (.new 8, 3) := by decide +kernel
theorem d_La_law_3 : decode code 3 = .ok (.dup, 1) := by decide +kernel
theorem d_La_law_4 : decode code 4 = .ok (.invokespecial 69, 3) := by decide +kernel
theorem d_La_law_7 : decode code 7 = .ok (.astore_n 1, 1) := by decide +kernel
theorem d_La_law_8 : decode code 8 = .ok (.new 70, 3) := by decide +kernel
theorem d_La_law_11 : decode code 11 = .ok (.dup, 1) := by decide +kernel
theorem d_La_law_12 : decode code 12 = .ok (.invokespecial 72, 3) := by decide +kernel
theorem d_La_law_15 : decode code 15 = .ok (.astore_n 2, 1) := by decide +kernel
theorem d_La_law_16 : decode code 16 = .ok (.iconst 1, 1) := by decide +kernel
theorem d_La_law_17 : decode code 17 = .ok (.newarray .long, 2) := by decide +kernel
theorem d_La_law_19 : decode code 19 = .ok (.astore_n 3, 1) := by decide +kernel
theorem d_La_law_20 : decode code 20 = .ok (.iconst 0, 1) := by decide +kernel
theorem d_La_law_21 : decode code 21 = .ok (.istore 4, 2) := by decide +kernel
theorem d_La_law_23 : decode code 23 = .ok (.iload 4, 2) := by decide +kernel
theorem d_La_law_25 : decode code 25 = .ok (.aload_n 0, 1) := by decide +kernel
theorem d_La_law_26 : decode code 26 = .ok (.arraylength, 1) := by decide +kernel
theorem d_La_law_27 : decode code 27 = .ok (.iconst 5, 1) := by decide +kernel
theorem d_La_law_28 : decode code 28 = .ok (.isub, 1) := by decide +kernel
theorem d_La_law_29 : decode code 29 = .ok (.if_icmp .gt 1166, 3) := by decide +kernel
theorem d_La_law_32 : decode code 32 = .ok (.aload_n 0, 1) := by decide +kernel
theorem d_La_law_33 : decode code 33 = .ok (.iload 4, 2) := by decide +kernel
theorem d_La_law_35 : decode code 35 = .ok (.iaload, 1) := by decide +kernel
theorem d_La_law_36 : decode code 36 = .ok (.bipush 31, 2) := by decide +kernel
theorem d_La_law_38 : decode code 38 = .ok (.iand, 1) := by decide +kernel
theorem d_La_law_39 : decode code 39 = .ok (.tableswitch 1150 0 16 #[81, 137, 150, 230, 298, 366, 422, 490, 582, 650, 718, 786, 854, 910, 990, 1057, 1125], 81) := by decide +kernel
theorem d_La_law_120 : decode code 120 = .ok (.aload_n 1, 1) := by decide +kernel
theorem d_La_law_121 : decode code 121 = .ok (.aload_n 0, 1) := by decide +kernel
theorem d_La_law_122 : decode code 122 = .ok (.iload 4, 2) := by decide +kernel
theorem d_La_law_124 : decode code 124 = .ok (.iconst 1, 1) := by decide +kernel
theorem d_La_law_125 : decode code 125 = .ok (.iadd, 1) := by decide +kernel
theorem d_La_law_126 : decode code 126 = .ok (.iaload, 1) := by decide +kernel
theorem d_La_law_127 : decode code 127 = .ok (.aload_n 3, 1) := by decide +kernel
theorem d_La_law_128 : decode code 128 = .ok (.invokestatic 73, 3) := by decide +kernel
theorem d_La_law_131 : decode code 131 = .ok (.istore 5, 2) := by decide +kernel
theorem d_La_law_133 : decode code 133 = .ok (.aload_n 2, 1) := by decide +kernel
theorem d_La_law_134 : decode code 134 = .ok (.aload_n 0, 1) := by decide +kernel
theorem d_La_law_135 : decode code 135 = .ok (.iload 4, 2) := by decide +kernel
theorem d_La_law_137 : decode code 137 = .ok (.iconst 1, 1) := by decide +kernel
theorem d_La_law_138 : decode code 138 = .ok (.iadd, 1) := by decide +kernel
theorem d_La_law_139 : decode code 139 = .ok (.iaload, 1) := by decide +kernel
theorem d_La_law_140 : decode code 140 = .ok (.invokevirtual 78, 3) := by decide +kernel
theorem d_La_law_143 : decode code 143 = .ok (.istore 6, 2) := by decide +kernel
theorem d_La_law_145 : decode code 145 = .ok (.aload_n 2, 1) := by decide +kernel
theorem d_La_law_146 : decode code 146 = .ok (.invokevirtual 79, 3) := by decide +kernel
theorem d_La_law_149 : decode code 149 = .ok (.iload 5, 2) := by decide +kernel
theorem d_La_law_151 : decode code 151 = .ok (.if_icmp .eq 5, 3) := by decide +kernel
theorem d_La_law_154 : decode code 154 = .ok (.iconst 0, 1) := by decide +kernel
theorem d_La_law_155 : decode code 155 = .ok (.ireturn, 1) := by decide +kernel
theorem d_La_law_156 : decode code 156 = .ok (.iload 5, 2) := by decide +kernel
theorem d_La_law_158 : decode code 158 = .ok (.ifCond .ne 15, 3) := by decide +kernel
theorem d_La_law_161 : decode code 161 = .ok (.aload_n 3, 1) := by decide +kernel
theorem d_La_law_162 : decode code 162 = .ok (.iconst 0, 1) := by decide +kernel
theorem d_La_law_163 : decode code 163 = .ok (.laload, 1) := by decide +kernel
theorem d_La_law_164 : decode code 164 = .ok (.iload 6, 2) := by decide +kernel
theorem d_La_law_166 : decode code 166 = .ok (.i2l, 1) := by decide +kernel
theorem d_La_law_167 : decode code 167 = .ok (.lcmp, 1) := by decide +kernel
theorem d_La_law_168 : decode code 168 = .ok (.ifCond .eq 5, 3) := by decide +kernel
theorem d_La_law_171 : decode code 171 = .ok (.iconst 0, 1) := by decide +kernel
theorem d_La_law_172 : decode code 172 = .ok (.ireturn, 1) := by decide +kernel
theorem d_La_law_173 : decode code 173 = .ok (.goto 1016, 3) := by decide +kernel
theorem d_La_law_176 : decode code 176 = .ok (.aload_n 1, 1) := by decide +kernel
theorem d_La_law_177 : decode code 177 = .ok (.invokevirtual 83, 3) := by decide +kernel
theorem d_La_law_180 : decode code 180 = .ok (.aload_n 2, 1) := by decide +kernel
theorem d_La_law_181 : decode code 181 = .ok (.invokevirtual 86, 3) := by decide +kernel
theorem d_La_law_184 : decode code 184 = .ok (.if_icmp .eq 1005, 3) := by decide +kernel
theorem d_La_law_187 : decode code 187 = .ok (.iconst 0, 1) := by decide +kernel
theorem d_La_law_188 : decode code 188 = .ok (.ireturn, 1) := by decide +kernel
theorem d_La_law_189 : decode code 189 = .ok (.aload_n 1, 1) := by decide +kernel
theorem d_La_law_190 : decode code 190 = .ok (.aload_n 0, 1) := by decide +kernel
theorem d_La_law_191 : decode code 191 = .ok (.iload 4, 2) := by decide +kernel
theorem d_La_law_193 : decode code 193 = .ok (.iconst 1, 1) := by decide +kernel
theorem d_La_law_194 : decode code 194 = .ok (.iadd, 1) := by decide +kernel
theorem d_La_law_195 : decode code 195 = .ok (.iaload, 1) := by decide +kernel
theorem d_La_law_196 : decode code 196 = .ok (.aload_n 0, 1) := by decide +kernel
theorem d_La_law_197 : decode code 197 = .ok (.iload 4, 2) := by decide +kernel
theorem d_La_law_199 : decode code 199 = .ok (.iconst 2, 1) := by decide +kernel
theorem d_La_law_200 : decode code 200 = .ok (.iadd, 1) := by decide +kernel
theorem d_La_law_201 : decode code 201 = .ok (.iaload, 1) := by decide +kernel
theorem d_La_law_202 : decode code 202 = .ok (.aload_n 0, 1) := by decide +kernel
theorem d_La_law_203 : decode code 203 = .ok (.iload 4, 2) := by decide +kernel
theorem d_La_law_205 : decode code 205 = .ok (.iconst 3, 1) := by decide +kernel
theorem d_La_law_206 : decode code 206 = .ok (.iadd, 1) := by decide +kernel
theorem d_La_law_207 : decode code 207 = .ok (.iaload, 1) := by decide +kernel
theorem d_La_law_208 : decode code 208 = .ok (.aload_n 3, 1) := by decide +kernel
theorem d_La_law_209 : decode code 209 = .ok (.invokestatic 87, 3) := by decide +kernel
theorem d_La_law_212 : decode code 212 = .ok (.istore 5, 2) := by decide +kernel
theorem d_La_law_214 : decode code 214 = .ok (.aload_n 2, 1) := by decide +kernel
theorem d_La_law_215 : decode code 215 = .ok (.aload_n 0, 1) := by decide +kernel
theorem d_La_law_216 : decode code 216 = .ok (.iload 4, 2) := by decide +kernel
theorem d_La_law_218 : decode code 218 = .ok (.iconst 1, 1) := by decide +kernel
theorem d_La_law_219 : decode code 219 = .ok (.iadd, 1) := by decide +kernel
theorem d_La_law_220 : decode code 220 = .ok (.iaload, 1) := by decide +kernel
theorem d_La_law_221 : decode code 221 = .ok (.aload_n 0, 1) := by decide +kernel
theorem d_La_law_222 : decode code 222 = .ok (.iload 4, 2) := by decide +kernel
theorem d_La_law_224 : decode code 224 = .ok (.iconst 2, 1) := by decide +kernel
theorem d_La_law_225 : decode code 225 = .ok (.iadd, 1) := by decide +kernel
theorem d_La_law_226 : decode code 226 = .ok (.iaload, 1) := by decide +kernel
theorem d_La_law_227 : decode code 227 = .ok (.aload_n 0, 1) := by decide +kernel
theorem d_La_law_228 : decode code 228 = .ok (.iload 4, 2) := by decide +kernel
theorem d_La_law_230 : decode code 230 = .ok (.iconst 3, 1) := by decide +kernel
theorem d_La_law_231 : decode code 231 = .ok (.iadd, 1) := by decide +kernel
theorem d_La_law_232 : decode code 232 = .ok (.iaload, 1) := by decide +kernel
theorem d_La_law_233 : decode code 233 = .ok (.invokevirtual 90, 3) := by decide +kernel
theorem d_La_law_236 : decode code 236 = .ok (.istore 6, 2) := by decide +kernel
theorem d_La_law_238 : decode code 238 = .ok (.aload_n 2, 1) := by decide +kernel
theorem d_La_law_239 : decode code 239 = .ok (.invokevirtual 79, 3) := by decide +kernel
theorem d_La_law_242 : decode code 242 = .ok (.iload 5, 2) := by decide +kernel
theorem d_La_law_244 : decode code 244 = .ok (.if_icmp .eq 5, 3) := by decide +kernel
theorem d_La_law_247 : decode code 247 = .ok (.iconst 0, 1) := by decide +kernel
theorem d_La_law_248 : decode code 248 = .ok (.ireturn, 1) := by decide +kernel
theorem d_La_law_249 : decode code 249 = .ok (.iload 5, 2) := by decide +kernel
theorem d_La_law_251 : decode code 251 = .ok (.ifCond .ne 15, 3) := by decide +kernel
theorem d_La_law_254 : decode code 254 = .ok (.aload_n 3, 1) := by decide +kernel
theorem d_La_law_255 : decode code 255 = .ok (.iconst 0, 1) := by decide +kernel
theorem d_La_law_256 : decode code 256 = .ok (.laload, 1) := by decide +kernel
theorem d_La_law_257 : decode code 257 = .ok (.iload 6, 2) := by decide +kernel
theorem d_La_law_259 : decode code 259 = .ok (.i2l, 1) := by decide +kernel
theorem d_La_law_260 : decode code 260 = .ok (.lcmp, 1) := by decide +kernel
theorem d_La_law_261 : decode code 261 = .ok (.ifCond .eq 5, 3) := by decide +kernel
theorem d_La_law_264 : decode code 264 = .ok (.iconst 0, 1) := by decide +kernel
theorem d_La_law_265 : decode code 265 = .ok (.ireturn, 1) := by decide +kernel
theorem d_La_law_266 : decode code 266 = .ok (.goto 923, 3) := by decide +kernel
theorem d_La_law_269 : decode code 269 = .ok (.aload_n 1, 1) := by decide +kernel
theorem d_La_law_270 : decode code 270 = .ok (.aload_n 0, 1) := by decide +kernel
theorem d_La_law_271 : decode code 271 = .ok (.iload 4, 2) := by decide +kernel
theorem d_La_law_273 : decode code 273 = .ok (.iconst 1, 1) := by decide +kernel
theorem d_La_law_274 : decode code 274 = .ok (.iadd, 1) := by decide +kernel
theorem d_La_law_275 : decode code 275 = .ok (.iaload, 1) := by decide +kernel
theorem d_La_law_276 : decode code 276 = .ok (.aload_n 0, 1) := by decide +kernel
theorem d_La_law_277 : decode code 277 = .ok (.iload 4, 2) := by decide +kernel
theorem d_La_law_279 : decode code 279 = .ok (.iconst 2, 1) := by decide +kernel
theorem d_La_law_280 : decode code 280 = .ok (.iadd, 1) := by decide +kernel
theorem d_La_law_281 : decode code 281 = .ok (.iaload, 1) := by decide +kernel
theorem d_La_law_282 : decode code 282 = .ok (.aload_n 3, 1) := by decide +kernel
theorem d_La_law_283 : decode code 283 = .ok (.invokestatic 91, 3) := by decide +kernel
theorem d_La_law_286 : decode code 286 = .ok (.istore 5, 2) := by decide +kernel
theorem d_La_law_288 : decode code 288 = .ok (.aload_n 2, 1) := by decide +kernel
theorem d_La_law_289 : decode code 289 = .ok (.aload_n 0, 1) := by decide +kernel
theorem d_La_law_290 : decode code 290 = .ok (.iload 4, 2) := by decide +kernel
theorem d_La_law_292 : decode code 292 = .ok (.iconst 1, 1) := by decide +kernel
theorem d_La_law_293 : decode code 293 = .ok (.iadd, 1) := by decide +kernel
theorem d_La_law_294 : decode code 294 = .ok (.iaload, 1) := by decide +kernel
theorem d_La_law_295 : decode code 295 = .ok (.aload_n 0, 1) := by decide +kernel
theorem d_La_law_296 : decode code 296 = .ok (.iload 4, 2) := by decide +kernel
theorem d_La_law_298 : decode code 298 = .ok (.iconst 2, 1) := by decide +kernel
theorem d_La_law_299 : decode code 299 = .ok (.iadd, 1) := by decide +kernel
theorem d_La_law_300 : decode code 300 = .ok (.iaload, 1) := by decide +kernel
theorem d_La_law_301 : decode code 301 = .ok (.invokevirtual 94, 3) := by decide +kernel
theorem d_La_law_304 : decode code 304 = .ok (.istore 6, 2) := by decide +kernel
theorem d_La_law_306 : decode code 306 = .ok (.aload_n 2, 1) := by decide +kernel
theorem d_La_law_307 : decode code 307 = .ok (.invokevirtual 79, 3) := by decide +kernel
theorem d_La_law_310 : decode code 310 = .ok (.iload 5, 2) := by decide +kernel
theorem d_La_law_312 : decode code 312 = .ok (.if_icmp .eq 5, 3) := by decide +kernel
theorem d_La_law_315 : decode code 315 = .ok (.iconst 0, 1) := by decide +kernel
theorem d_La_law_316 : decode code 316 = .ok (.ireturn, 1) := by decide +kernel
theorem d_La_law_317 : decode code 317 = .ok (.iload 5, 2) := by decide +kernel
theorem d_La_law_319 : decode code 319 = .ok (.ifCond .ne 15, 3) := by decide +kernel
theorem d_La_law_322 : decode code 322 = .ok (.aload_n 3, 1) := by decide +kernel
theorem d_La_law_323 : decode code 323 = .ok (.iconst 0, 1) := by decide +kernel
theorem d_La_law_324 : decode code 324 = .ok (.laload, 1) := by decide +kernel
theorem d_La_law_325 : decode code 325 = .ok (.iload 6, 2) := by decide +kernel
theorem d_La_law_327 : decode code 327 = .ok (.i2l, 1) := by decide +kernel
theorem d_La_law_328 : decode code 328 = .ok (.lcmp, 1) := by decide +kernel
theorem d_La_law_329 : decode code 329 = .ok (.ifCond .eq 5, 3) := by decide +kernel
theorem d_La_law_332 : decode code 332 = .ok (.iconst 0, 1) := by decide +kernel
theorem d_La_law_333 : decode code 333 = .ok (.ireturn, 1) := by decide +kernel
theorem d_La_law_334 : decode code 334 = .ok (.goto 855, 3) := by decide +kernel
theorem d_La_law_337 : decode code 337 = .ok (.aload_n 1, 1) := by decide +kernel
theorem d_La_law_338 : decode code 338 = .ok (.aload_n 0, 1) := by decide +kernel
theorem d_La_law_339 : decode code 339 = .ok (.iload 4, 2) := by decide +kernel
theorem d_La_law_341 : decode code 341 = .ok (.iconst 1, 1) := by decide +kernel
theorem d_La_law_342 : decode code 342 = .ok (.iadd, 1) := by decide +kernel
theorem d_La_law_343 : decode code 343 = .ok (.iaload, 1) := by decide +kernel
theorem d_La_law_344 : decode code 344 = .ok (.aload_n 0, 1) := by decide +kernel
theorem d_La_law_345 : decode code 345 = .ok (.iload 4, 2) := by decide +kernel
theorem d_La_law_347 : decode code 347 = .ok (.iconst 2, 1) := by decide +kernel
theorem d_La_law_348 : decode code 348 = .ok (.iadd, 1) := by decide +kernel
theorem d_La_law_349 : decode code 349 = .ok (.iaload, 1) := by decide +kernel
theorem d_La_law_350 : decode code 350 = .ok (.aload_n 3, 1) := by decide +kernel
theorem d_La_law_351 : decode code 351 = .ok (.invokestatic 95, 3) := by decide +kernel
theorem d_La_law_354 : decode code 354 = .ok (.istore 5, 2) := by decide +kernel
theorem d_La_law_356 : decode code 356 = .ok (.aload_n 2, 1) := by decide +kernel
theorem d_La_law_357 : decode code 357 = .ok (.aload_n 0, 1) := by decide +kernel
theorem d_La_law_358 : decode code 358 = .ok (.iload 4, 2) := by decide +kernel
theorem d_La_law_360 : decode code 360 = .ok (.iconst 1, 1) := by decide +kernel
theorem d_La_law_361 : decode code 361 = .ok (.iadd, 1) := by decide +kernel
theorem d_La_law_362 : decode code 362 = .ok (.iaload, 1) := by decide +kernel
theorem d_La_law_363 : decode code 363 = .ok (.aload_n 0, 1) := by decide +kernel
theorem d_La_law_364 : decode code 364 = .ok (.iload 4, 2) := by decide +kernel
theorem d_La_law_366 : decode code 366 = .ok (.iconst 2, 1) := by decide +kernel
