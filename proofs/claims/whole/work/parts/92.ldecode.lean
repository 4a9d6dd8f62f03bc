/-! the law: decode rows -/
theorem d_LW_cell_0 : decode b_LW_cell 0 = .ok (.iload_n 1, 1) := by decide +kernel
theorem d_LW_cell_1 : decode b_LW_cell 1 = .ok (.aload_n 0, 1) := by decide +kernel
theorem d_LW_cell_2 : decode b_LW_cell 2 = .ok (.arraylength, 1) := by decide +kernel
theorem d_LW_cell_3 : decode b_LW_cell 3 = .ok (.if_icmp .ge 9, 3) := by decide +kernel
theorem d_LW_cell_6 : decode b_LW_cell 6 = .ok (.aload_n 0, 1) := by decide +kernel
theorem d_LW_cell_7 : decode b_LW_cell 7 = .ok (.iload_n 1, 1) := by decide +kernel
theorem d_LW_cell_8 : decode b_LW_cell 8 = .ok (.iaload, 1) := by decide +kernel
theorem d_LW_cell_9 : decode b_LW_cell 9 = .ok (.goto 4, 3) := by decide +kernel
theorem d_LW_cell_12 : decode b_LW_cell 12 = .ok (.iconst 0, 1) := by decide +kernel
theorem d_LW_cell_13 : decode b_LW_cell 13 = .ok (.ireturn, 1) := by decide +kernel
theorem d_LW_law_0 : decode code 0 = .ok (.new 7, 3) := by decide +kernel
theorem d_LW_law_3 : decode code 3 = .ok (.dup, 1) := by decide +kernel
theorem d_LW_law_4 : decode code 4 = .ok (.aload_n 0, 1) := by decide +kernel
theorem d_LW_law_5 : decode code 5 = .ok (.iconst 0, 1) := by decide +kernel
theorem d_LW_law_6 : decode code 6 = .ok (.invokestatic 9, 3) := by decide +kernel
theorem d_LW_law_9 : decode code 9 = .ok (.invokespecial 15, 3) := by decide +kernel
theorem d_LW_law_12 : decode code 12 = .ok (.astore_n 1, 1) := by decide +kernel
theorem d_LW_law_13 : decode code 13 = .ok (.new 18, 3) := by decide +kernel
theorem d_LW_law_16 : decode code 16 = .ok (.dup, 1) := by decide +kernel
theorem d_LW_law_17 : decode code 17 = .ok (.aload_n 0, 1) := by decide +kernel
theorem d_LW_law_18 : decode code 18 = .ok (.iconst 0, 1) := by decide +kernel
theorem d_LW_law_19 : decode code 19 = .ok (.invokestatic 9, 3) := by decide +kernel
theorem d_LW_law_22 : decode code 22 = .ok (.invokespecial 20, 3) := by decide +kernel
theorem d_LW_law_25 : decode code 25 = .ok (.astore_n 2, 1) := by decide +kernel
theorem d_LW_law_26 : decode code 26 = .ok (.iconst 1, 1) := by decide +kernel
theorem d_LW_law_27 : decode code 27 = .ok (.istore_n 3, 1) := by decide +kernel
theorem d_LW_law_28 : decode code 28 = .ok (.iload_n 3, 1) := by decide +kernel
theorem d_LW_law_29 : decode code 29 = .ok (.aload_n 0, 1) := by decide +kernel
theorem d_LW_law_30 : decode code 30 = .ok (.arraylength, 1) := by decide +kernel
theorem d_LW_law_31 : decode code 31 = .ok (.iconst 5, 1) := by decide +kernel
theorem d_LW_law_32 : decode code 32 = .ok (.isub, 1) := by decide +kernel
theorem d_LW_law_33 : decode code 33 = .ok (.if_icmp .gt 866, 3) := by decide +kernel
theorem d_LW_law_36 : decode code 36 = .ok (.aload_n 0, 1) := by decide +kernel
theorem d_LW_law_37 : decode code 37 = .ok (.iload_n 3, 1) := by decide +kernel
theorem d_LW_law_38 : decode code 38 = .ok (.iaload, 1) := by decide +kernel
theorem d_LW_law_39 : decode code 39 = .ok (.bipush 31, 2) := by decide +kernel
theorem d_LW_law_41 : decode code 41 = .ok (.iand, 1) := by decide +kernel
theorem d_LW_law_42 : decode code 42 = .ok (.tableswitch 851 0 18 #[90, 133, 202, 225, 274, 351, 400, 423, 436, 485, 518, 541, 574, 587, 600, 613, 652, 691, 771], 90) := by decide +kernel
theorem d_LW_law_132 : decode code 132 = .ok (.aload_n 1, 1) := by decide +kernel
theorem d_LW_law_133 : decode code 133 = .ok (.aload_n 0, 1) := by decide +kernel
theorem d_LW_law_134 : decode code 134 = .ok (.iload_n 3, 1) := by decide +kernel
theorem d_LW_law_135 : decode code 135 = .ok (.iconst 1, 1) := by decide +kernel
theorem d_LW_law_136 : decode code 136 = .ok (.iadd, 1) := by decide +kernel
theorem d_LW_law_137 : decode code 137 = .ok (.iaload, 1) := by decide +kernel
theorem d_LW_law_138 : decode code 138 = .ok (.aload_n 0, 1) := by decide +kernel
theorem d_LW_law_139 : decode code 139 = .ok (.iload_n 3, 1) := by decide +kernel
theorem d_LW_law_140 : decode code 140 = .ok (.iconst 2, 1) := by decide +kernel
theorem d_LW_law_141 : decode code 141 = .ok (.iadd, 1) := by decide +kernel
theorem d_LW_law_142 : decode code 142 = .ok (.iaload, 1) := by decide +kernel
theorem d_LW_law_143 : decode code 143 = .ok (.aload_n 0, 1) := by decide +kernel
theorem d_LW_law_144 : decode code 144 = .ok (.iload_n 3, 1) := by decide +kernel
theorem d_LW_law_145 : decode code 145 = .ok (.iconst 3, 1) := by decide +kernel
theorem d_LW_law_146 : decode code 146 = .ok (.iadd, 1) := by decide +kernel
theorem d_LW_law_147 : decode code 147 = .ok (.iaload, 1) := by decide +kernel
theorem d_LW_law_148 : decode code 148 = .ok (.invokevirtual 21, 3) := by decide +kernel
theorem d_LW_law_151 : decode code 151 = .ok (.aload_n 2, 1) := by decide +kernel
theorem d_LW_law_152 : decode code 152 = .ok (.aload_n 0, 1) := by decide +kernel
theorem d_LW_law_153 : decode code 153 = .ok (.iload_n 3, 1) := by decide +kernel
theorem d_LW_law_154 : decode code 154 = .ok (.iconst 1, 1) := by decide +kernel
theorem d_LW_law_155 : decode code 155 = .ok (.iadd, 1) := by decide +kernel
theorem d_LW_law_156 : decode code 156 = .ok (.iaload, 1) := by decide +kernel
theorem d_LW_law_157 : decode code 157 = .ok (.aload_n 0, 1) := by decide +kernel
theorem d_LW_law_158 : decode code 158 = .ok (.iload_n 3, 1) := by decide +kernel
theorem d_LW_law_159 : decode code 159 = .ok (.iconst 2, 1) := by decide +kernel
theorem d_LW_law_160 : decode code 160 = .ok (.iadd, 1) := by decide +kernel
theorem d_LW_law_161 : decode code 161 = .ok (.iaload, 1) := by decide +kernel
theorem d_LW_law_162 : decode code 162 = .ok (.aload_n 0, 1) := by decide +kernel
theorem d_LW_law_163 : decode code 163 = .ok (.iload_n 3, 1) := by decide +kernel
theorem d_LW_law_164 : decode code 164 = .ok (.iconst 3, 1) := by decide +kernel
theorem d_LW_law_165 : decode code 165 = .ok (.iadd, 1) := by decide +kernel
theorem d_LW_law_166 : decode code 166 = .ok (.iaload, 1) := by decide +kernel
theorem d_LW_law_167 : decode code 167 = .ok (.invokevirtual 25, 3) := by decide +kernel
theorem d_LW_law_170 : decode code 170 = .ok (.if_icmp .eq 723, 3) := by decide +kernel
theorem d_LW_law_173 : decode code 173 = .ok (.iconst 0, 1) := by decide +kernel
theorem d_LW_law_174 : decode code 174 = .ok (.ireturn, 1) := by decide +kernel
theorem d_LW_law_175 : decode code 175 = .ok (.aload_n 1, 1) := by decide +kernel
theorem d_LW_law_176 : decode code 176 = .ok (.aload_n 0, 1) := by decide +kernel
theorem d_LW_law_177 : decode code 177 = .ok (.iload_n 3, 1) := by decide +kernel
theorem d_LW_law_178 : decode code 178 = .ok (.iconst 1, 1) := by decide +kernel
theorem d_LW_law_179 : decode code 179 = .ok (.iadd, 1) := by decide +kernel
theorem d_LW_law_180 : decode code 180 = .ok (.iaload, 1) := by decide +kernel
theorem d_LW_law_181 : decode code 181 = .ok (.aload_n 0, 1) := by decide +kernel
theorem d_LW_law_182 : decode code 182 = .ok (.iload_n 3, 1) := by decide +kernel
theorem d_LW_law_183 : decode code 183 = .ok (.iconst 2, 1) := by decide +kernel
theorem d_LW_law_184 : decode code 184 = .ok (.iadd, 1) := by decide +kernel
theorem d_LW_law_185 : decode code 185 = .ok (.iaload, 1) := by decide +kernel
theorem d_LW_law_186 : decode code 186 = .ok (.aload_n 0, 1) := by decide +kernel
theorem d_LW_law_187 : decode code 187 = .ok (.iload_n 3, 1) := by decide +kernel
theorem d_LW_law_188 : decode code 188 = .ok (.iconst 3, 1) := by decide +kernel
theorem d_LW_law_189 : decode code 189 = .ok (.iadd, 1) := by decide +kernel
theorem d_LW_law_190 : decode code 190 = .ok (.iaload, 1) := by decide +kernel
theorem d_LW_law_191 : decode code 191 = .ok (.aload_n 0, 1) := by decide +kernel
theorem d_LW_law_192 : decode code 192 = .ok (.iload_n 3, 1) := by decide +kernel
theorem d_LW_law_193 : decode code 193 = .ok (.iconst 4, 1) := by decide +kernel
theorem d_LW_law_194 : decode code 194 = .ok (.iadd, 1) := by decide +kernel
theorem d_LW_law_195 : decode code 195 = .ok (.iaload, 1) := by decide +kernel
theorem d_LW_law_196 : decode code 196 = .ok (.ifCond .eq 7, 3) := by decide +kernel
theorem d_LW_law_199 : decode code 199 = .ok (.iconst 1, 1) := by decide +kernel
theorem d_LW_law_200 : decode code 200 = .ok (.goto 4, 3) := by decide +kernel
theorem d_LW_law_203 : decode code 203 = .ok (.iconst 0, 1) := by decide +kernel
theorem d_LW_law_204 : decode code 204 = .ok (.invokevirtual 26, 3) := by decide +kernel
theorem d_LW_law_207 : decode code 207 = .ok (.aload_n 2, 1) := by decide +kernel
theorem d_LW_law_208 : decode code 208 = .ok (.aload_n 0, 1) := by decide +kernel
theorem d_LW_law_209 : decode code 209 = .ok (.iload_n 3, 1) := by decide +kernel
theorem d_LW_law_210 : decode code 210 = .ok (.iconst 1, 1) := by decide +kernel
theorem d_LW_law_211 : decode code 211 = .ok (.iadd, 1) := by decide +kernel
theorem d_LW_law_212 : decode code 212 = .ok (.iaload, 1) := by decide +kernel
theorem d_LW_law_213 : decode code 213 = .ok (.aload_n 0, 1) := by decide +kernel
theorem d_LW_law_214 : decode code 214 = .ok (.iload_n 3, 1) := by decide +kernel
theorem d_LW_law_215 : decode code 215 = .ok (.iconst 2, 1) := by decide +kernel
theorem d_LW_law_216 : decode code 216 = .ok (.iadd, 1) := by decide +kernel
theorem d_LW_law_217 : decode code 217 = .ok (.iaload, 1) := by decide +kernel
theorem d_LW_law_218 : decode code 218 = .ok (.aload_n 0, 1) := by decide +kernel
theorem d_LW_law_219 : decode code 219 = .ok (.iload_n 3, 1) := by decide +kernel
theorem d_LW_law_220 : decode code 220 = .ok (.iconst 3, 1) := by decide +kernel
theorem d_LW_law_221 : decode code 221 = .ok (.iadd, 1) := by decide +kernel
theorem d_LW_law_222 : decode code 222 = .ok (.iaload, 1) := by decide +kernel
theorem d_LW_law_223 : decode code 223 = .ok (.aload_n 0, 1) := by decide +kernel
theorem d_LW_law_224 : decode code 224 = .ok (.iload_n 3, 1) := by decide +kernel
theorem d_LW_law_225 : decode code 225 = .ok (.iconst 4, 1) := by decide +kernel
theorem d_LW_law_226 : decode code 226 = .ok (.iadd, 1) := by decide +kernel
theorem d_LW_law_227 : decode code 227 = .ok (.iaload, 1) := by decide +kernel
theorem d_LW_law_228 : decode code 228 = .ok (.ifCond .eq 7, 3) := by decide +kernel
theorem d_LW_law_231 : decode code 231 = .ok (.iconst 1, 1) := by decide +kernel
theorem d_LW_law_232 : decode code 232 = .ok (.goto 4, 3) := by decide +kernel
theorem d_LW_law_235 : decode code 235 = .ok (.iconst 0, 1) := by decide +kernel
theorem d_LW_law_236 : decode code 236 = .ok (.invokevirtual 30, 3) := by decide +kernel
theorem d_LW_law_239 : decode code 239 = .ok (.if_icmp .eq 654, 3) := by decide +kernel
theorem d_LW_law_242 : decode code 242 = .ok (.iconst 0, 1) := by decide +kernel
theorem d_LW_law_243 : decode code 243 = .ok (.ireturn, 1) := by decide +kernel
theorem d_LW_law_244 : decode code 244 = .ok (.aload_n 1, 1) := by decide +kernel
theorem d_LW_law_245 : decode code 245 = .ok (.aload_n 0, 1) := by decide +kernel
theorem d_LW_law_246 : decode code 246 = .ok (.iload_n 3, 1) := by decide +kernel
theorem d_LW_law_247 : decode code 247 = .ok (.iconst 1, 1) := by decide +kernel
theorem d_LW_law_248 : decode code 248 = .ok (.iadd, 1) := by decide +kernel
theorem d_LW_law_249 : decode code 249 = .ok (.iaload, 1) := by decide +kernel
theorem d_LW_law_250 : decode code 250 = .ok (.invokevirtual 31, 3) := by decide +kernel
theorem d_LW_law_253 : decode code 253 = .ok (.aload_n 2, 1) := by decide +kernel
theorem d_LW_law_254 : decode code 254 = .ok (.aload_n 0, 1) := by decide +kernel
theorem d_LW_law_255 : decode code 255 = .ok (.iload_n 3, 1) := by decide +kernel
theorem d_LW_law_256 : decode code 256 = .ok (.iconst 1, 1) := by decide +kernel
theorem d_LW_law_257 : decode code 257 = .ok (.iadd, 1) := by decide +kernel
theorem d_LW_law_258 : decode code 258 = .ok (.iaload, 1) := by decide +kernel
theorem d_LW_law_259 : decode code 259 = .ok (.invokevirtual 35, 3) := by decide +kernel
theorem d_LW_law_262 : decode code 262 = .ok (.if_icmp .eq 631, 3) := by decide +kernel
theorem d_LW_law_265 : decode code 265 = .ok (.iconst 0, 1) := by decide +kernel
theorem d_LW_law_266 : decode code 266 = .ok (.ireturn, 1) := by decide +kernel
theorem d_LW_law_267 : decode code 267 = .ok (.aload_n 1, 1) := by decide +kernel
theorem d_LW_law_268 : decode code 268 = .ok (.aload_n 0, 1) := by decide +kernel
theorem d_LW_law_269 : decode code 269 = .ok (.iload_n 3, 1) := by decide +kernel
theorem d_LW_law_270 : decode code 270 = .ok (.iconst 1, 1) := by decide +kernel
theorem d_LW_law_271 : decode code 271 = .ok (.iadd, 1) := by decide +kernel
theorem d_LW_law_272 : decode code 272 = .ok (.iaload, 1) := by decide +kernel
theorem d_LW_law_273 : decode code 273 = .ok (.aload_n 0, 1) := by decide +kernel
theorem d_LW_law_274 : decode code 274 = .ok (.iload_n 3, 1) := by decide +kernel
theorem d_LW_law_275 : decode code 275 = .ok (.iconst 2, 1) := by decide +kernel
theorem d_LW_law_276 : decode code 276 = .ok (.iadd, 1) := by decide +kernel
theorem d_LW_law_277 : decode code 277 = .ok (.iaload, 1) := by decide +kernel
theorem d_LW_law_278 : decode code 278 = .ok (.ifCond .eq 7, 3) := by decide +kernel
theorem d_LW_law_281 : decode code 281 = .ok (.iconst 1, 1) := by decide +kernel
theorem d_LW_law_282 : decode code 282 = .ok (.goto 4, 3) := by decide +kernel
theorem d_LW_law_285 : decode code 285 = .ok (.iconst 0, 1) := by decide +kernel
theorem d_LW_law_286 : decode code 286 = .ok (.invokevirtual 36, 3) := by decide +kernel
theorem d_LW_law_289 : decode code 289 = .ok (.aload_n 2, 1) := by decide +kernel
theorem d_LW_law_290 : decode code 290 = .ok (.aload_n 0, 1) := by decide +kernel
theorem d_LW_law_291 : decode code 291 = .ok (.iload_n 3, 1) := by decide +kernel
theorem d_LW_law_292 : decode code 292 = .ok (.iconst 1, 1) := by decide +kernel
theorem d_LW_law_293 : decode code 293 = .ok (.iadd, 1) := by decide +kernel
theorem d_LW_law_294 : decode code 294 = .ok (.iaload, 1) := by decide +kernel
theorem d_LW_law_295 : decode code 295 = .ok (.aload_n 0, 1) := by decide +kernel
theorem d_LW_law_296 : decode code 296 = .ok (.iload_n 3, 1) := by decide +kernel
theorem d_LW_law_297 : decode code 297 = .ok (.iconst 2, 1) := by decide +kernel
theorem d_LW_law_298 : decode code 298 = .ok (.iadd, 1) := by decide +kernel
theorem d_LW_law_299 : decode code 299 = .ok (.iaload, 1) := by decide +kernel
theorem d_LW_law_300 : decode code 300 = .ok (.ifCond .eq 7, 3) := by decide +kernel
theorem d_LW_law_303 : decode code 303 = .ok (.iconst 1, 1) := by decide +kernel
theorem d_LW_law_304 : decode code 304 = .ok (.goto 4, 3) := by decide +kernel
theorem d_LW_law_307 : decode code 307 = .ok (.iconst 0, 1) := by decide +kernel
theorem d_LW_law_308 : decode code 308 = .ok (.invokevirtual 40, 3) := by decide +kernel
theorem d_LW_law_311 : decode code 311 = .ok (.if_icmp .eq 582, 3) := by decide +kernel
theorem d_LW_law_314 : decode code 314 = .ok (.iconst 0, 1) := by decide +kernel
theorem d_LW_law_315 : decode code 315 = .ok (.ireturn, 1) := by decide +kernel
theorem d_LW_law_316 : decode code 316 = .ok (.aload_n 1, 1) := by decide +kernel
theorem d_LW_law_317 : decode code 317 = .ok (.aload_n 0, 1) := by decide +kernel
theorem d_LW_law_318 : decode code 318 = .ok (.iload_n 3, 1) := by decide +kernel
theorem d_LW_law_319 : decode code 319 = .ok (.iconst 1, 1) := by decide +kernel
theorem d_LW_law_320 : decode code 320 = .ok (.iadd, 1) := by decide +kernel
theorem d_LW_law_321 : decode code 321 = .ok (.iaload, 1) := by decide +kernel
theorem d_LW_law_322 : decode code 322 = .ok (.ifCond .eq 7, 3) := by decide +kernel
theorem d_LW_law_325 : decode code 325 = .ok (.iconst 1, 1) := by decide +kernel
theorem d_LW_law_326 : decode code 326 = .ok (.goto 4, 3) := by decide +kernel
theorem d_LW_law_329 : decode code 329 = .ok (.iconst 0, 1) := by decide +kernel
theorem d_LW_law_330 : decode code 330 = .ok (.aload_n 0, 1) := by decide +kernel
theorem d_LW_law_331 : decode code 331 = .ok (.iload_n 3, 1) := by decide +kernel
theorem d_LW_law_332 : decode code 332 = .ok (.iconst 2, 1) := by decide +kernel
theorem d_LW_law_333 : decode code 333 = .ok (.iadd, 1) := by decide +kernel
theorem d_LW_law_334 : decode code 334 = .ok (.iaload, 1) := by decide +kernel
theorem d_LW_law_335 : decode code 335 = .ok (.i2l, 1) := by decide +kernel
theorem d_LW_law_336 : decode code 336 = .ok (.bipush 32, 2) := by decide +kernel
theorem d_LW_law_338 : decode code 338 = .ok (.lshl, 1) := by decide +kernel
theorem d_LW_law_339 : decode code 339 = .ok (.aload_n 0, 1) := by decide +kernel
theorem d_LW_law_340 : decode code 340 = .ok (.iload_n 3, 1) := by decide +kernel
theorem d_LW_law_341 : decode code 341 = .ok (.iconst 3, 1) := by decide +kernel
theorem d_LW_law_342 : decode code 342 = .ok (.iadd, 1) := by decide +kernel
theorem d_LW_law_343 : decode code 343 = .ok (.iaload, 1) := by decide +kernel
theorem d_LW_law_344 : decode code 344 = .ok (.i2l, 1) := by decide +kernel
theorem d_LW_law_345 : decode code 345 = .ok (.ldc2_w 41, 3) := by decide +kernel
theorem d_LW_law_348 : decode code 348 = .ok (.land, 1) := by decide +kernel
theorem d_LW_law_349 : decode code 349 = .ok (.lor, 1) := by decide +kernel
theorem d_LW_law_350 : decode code 350 = .ok (.invokevirtual 43, 3) := by decide +kernel
theorem d_LW_law_353 : decode code 353 = .ok (.aload_n 2, 1) := by decide +kernel
theorem d_LW_law_354 : decode code 354 = .ok (.aload_n 0, 1) := by decide +kernel
theorem d_LW_law_355 : decode code 355 = .ok (.iload_n 3, 1) := by decide +kernel
theorem d_LW_law_356 : decode code 356 = .ok (.iconst 1, 1) := by decide +kernel
theorem d_LW_law_357 : decode code 357 = .ok (.iadd, 1) := by decide +kernel
theorem d_LW_law_358 : decode code 358 = .ok (.iaload, 1) := by decide +kernel
theorem d_LW_law_359 : decode code 359 = .ok (.ifCond .eq 7, 3) := by decide +kernel
theorem d_LW_law_362 : decode code 362 = .ok (.iconst 1, 1) := by decide +kernel
theorem d_LW_law_363 : decode code 363 = .ok (.goto 4, 3) := by decide +kernel
theorem d_LW_law_366 : decode code 366 = .ok (.iconst 0, 1) := by decide +kernel
theorem d_LW_law_367 : decode code 367 = .ok (.aload_n 0, 1) := by decide +kernel
theorem d_LW_law_368 : decode code 368 = .ok (.iload_n 3, 1) := by decide +kernel
theorem d_LW_law_369 : decode code 369 = .ok (.iconst 2, 1) := by decide +kernel
theorem d_LW_law_370 : decode code 370 = .ok (.iadd, 1) := by decide +kernel
theorem d_LW_law_371 : decode code 371 = .ok (.iaload, 1) := by decide +kernel
theorem d_LW_law_372 : decode code 372 = .ok (.i2l, 1) := by decide +kernel
theorem d_LW_law_373 : decode code 373 = .ok (.bipush 32, 2) := by decide +kernel
theorem d_LW_law_375 : decode code 375 = .ok (.lshl, 1) := by decide +kernel
theorem d_LW_law_376 : decode code 376 = .ok (.aload_n 0, 1) := by decide +kernel
theorem d_LW_law_377 : decode code 377 = .ok (.iload_n 3, 1) := by decide +kernel
theorem d_LW_law_378 : decode code 378 = .ok (.iconst 3, 1) := by decide +kernel
theorem d_LW_law_379 : decode code 379 = .ok (.iadd, 1) := by decide +kernel
theorem d_LW_law_380 : decode code 380 = .ok (.iaload, 1) := by decide +kernel
theorem d_LW_law_381 : decode code 381 = .ok (.i2l, 1) := by decide +kernel
theorem d_LW_law_382 : decode code 382 = .ok (.ldc2_w 41, 3) := by decide +kernel
theorem d_LW_law_385 : decode code 385 = .ok (.land, 1) := by decide +kernel
theorem d_LW_law_386 : decode code 386 = .ok (.lor, 1) := by decide +kernel
theorem d_LW_law_387 : decode code 387 = .ok (.invokevirtual 47, 3) := by decide +kernel
theorem d_LW_law_390 : decode code 390 = .ok (.goto 503, 3) := by decide +kernel
theorem d_LW_law_393 : decode code 393 = .ok (.aload_n 1, 1) := by decide +kernel
theorem d_LW_law_394 : decode code 394 = .ok (.aload_n 0, 1) := by decide +kernel
theorem d_LW_law_395 : decode code 395 = .ok (.iload_n 3, 1) := by decide +kernel
theorem d_LW_law_396 : decode code 396 = .ok (.iconst 1, 1) := by decide +kernel
theorem d_LW_law_397 : decode code 397 = .ok (.iadd, 1) := by decide +kernel
theorem d_LW_law_398 : decode code 398 = .ok (.iaload, 1) := by decide +kernel
theorem d_LW_law_399 : decode code 399 = .ok (.ifCond .eq 7, 3) := by decide +kernel
theorem d_LW_law_402 : decode code 402 = .ok (.iconst 1, 1) := by decide +kernel
theorem d_LW_law_403 : decode code 403 = .ok (.goto 4, 3) := by decide +kernel
theorem d_LW_law_406 : decode code 406 = .ok (.iconst 0, 1) := by decide +kernel
theorem d_LW_law_407 : decode code 407 = .ok (.aload_n 0, 1) := by decide +kernel
theorem d_LW_law_408 : decode code 408 = .ok (.iload_n 3, 1) := by decide +kernel
theorem d_LW_law_409 : decode code 409 = .ok (.iconst 2, 1) := by decide +kernel
theorem d_LW_law_410 : decode code 410 = .ok (.iadd, 1) := by decide +kernel
theorem d_LW_law_411 : decode code 411 = .ok (.iaload, 1) := by decide +kernel
theorem d_LW_law_412 : decode code 412 = .ok (.invokevirtual 48, 3) := by decide +kernel
theorem d_LW_law_415 : decode code 415 = .ok (.aload_n 2, 1) := by decide +kernel
theorem d_LW_law_416 : decode code 416 = .ok (.aload_n 0, 1) := by decide +kernel
theorem d_LW_law_417 : decode code 417 = .ok (.iload_n 3, 1) := by decide +kernel
theorem d_LW_law_418 : decode code 418 = .ok (.iconst 1, 1) := by decide +kernel
theorem d_LW_law_419 : decode code 419 = .ok (.iadd, 1) := by decide +kernel
theorem d_LW_law_420 : decode code 420 = .ok (.iaload, 1) := by decide +kernel
theorem d_LW_law_421 : decode code 421 = .ok (.ifCond .eq 7, 3) := by decide +kernel
theorem d_LW_law_424 : decode code 424 = .ok (.iconst 1, 1) := by decide +kernel
theorem d_LW_law_425 : decode code 425 = .ok (.goto 4, 3) := by decide +kernel
theorem d_LW_law_428 : decode code 428 = .ok (.iconst 0, 1) := by decide +kernel
theorem d_LW_law_429 : decode code 429 = .ok (.aload_n 0, 1) := by decide +kernel
theorem d_LW_law_430 : decode code 430 = .ok (.iload_n 3, 1) := by decide +kernel
theorem d_LW_law_431 : decode code 431 = .ok (.iconst 2, 1) := by decide +kernel
theorem d_LW_law_432 : decode code 432 = .ok (.iadd, 1) := by decide +kernel
theorem d_LW_law_433 : decode code 433 = .ok (.iaload, 1) := by decide +kernel
theorem d_LW_law_434 : decode code 434 = .ok (.invokevirtual 52, 3) := by decide +kernel
theorem d_LW_law_437 : decode code 437 = .ok (.if_icmp .eq 456, 3) := by decide +kernel
theorem d_LW_law_440 : decode code 440 = .ok (.iconst 0, 1) := by decide +kernel
theorem d_LW_law_441 : decode code 441 = .ok (.ireturn, 1) := by decide +kernel
theorem d_LW_law_442 : decode code 442 = .ok (.aload_n 1, 1) := by decide +kernel
theorem d_LW_law_443 : decode code 443 = .ok (.aload_n 0, 1) := by decide +kernel
theorem d_LW_law_444 : decode code 444 = .ok (.iload_n 3, 1) := by decide +kernel
theorem d_LW_law_445 : decode code 445 = .ok (.iconst 1, 1) := by decide +kernel
theorem d_LW_law_446 : decode code 446 = .ok (.iadd, 1) := by decide +kernel
theorem d_LW_law_447 : decode code 447 = .ok (.iaload, 1) := by decide +kernel
theorem d_LW_law_448 : decode code 448 = .ok (.invokevirtual 53, 3) := by decide +kernel
theorem d_LW_law_451 : decode code 451 = .ok (.aload_n 2, 1) := by decide +kernel
theorem d_LW_law_452 : decode code 452 = .ok (.aload_n 0, 1) := by decide +kernel
theorem d_LW_law_453 : decode code 453 = .ok (.iload_n 3, 1) := by decide +kernel
theorem d_LW_law_454 : decode code 454 = .ok (.iconst 1, 1) := by decide +kernel
theorem d_LW_law_455 : decode code 455 = .ok (.iadd, 1) := by decide +kernel
theorem d_LW_law_456 : decode code 456 = .ok (.iaload, 1) := by decide +kernel
theorem d_LW_law_457 : decode code 457 = .ok (.invokevirtual 57, 3) := by decide +kernel
theorem d_LW_law_460 : decode code 460 = .ok (.if_icmp .eq 433, 3) := by decide +kernel
theorem d_LW_law_463 : decode code 463 = .ok (.iconst 0, 1) := by decide +kernel
theorem d_LW_law_464 : decode code 464 = .ok (.ireturn, 1) := by decide +kernel
theorem d_LW_law_465 : decode code 465 = .ok (.aload_n 1, 1) := by decide +kernel
theorem d_LW_law_466 : decode code 466 = .ok (.invokevirtual 58, 3) := by decide +kernel
theorem d_LW_law_469 : decode code 469 = .ok (.aload_n 2, 1) := by decide +kernel
theorem d_LW_law_470 : decode code 470 = .ok (.invokevirtual 62, 3) := by decide +kernel
theorem d_LW_law_473 : decode code 473 = .ok (.if_icmp .eq 420, 3) := by decide +kernel
theorem d_LW_law_476 : decode code 476 = .ok (.iconst 0, 1) := by decide +kernel
theorem d_LW_law_477 : decode code 477 = .ok (.ireturn, 1) := by decide +kernel
theorem d_LW_law_478 : decode code 478 = .ok (.aload_n 1, 1) := by decide +kernel
theorem d_LW_law_479 : decode code 479 = .ok (.aload_n 0, 1) := by decide +kernel
theorem d_LW_law_480 : decode code 480 = .ok (.iload_n 3, 1) := by decide +kernel
theorem d_LW_law_481 : decode code 481 = .ok (.iconst 1, 1) := by decide +kernel
theorem d_LW_law_482 : decode code 482 = .ok (.iadd, 1) := by decide +kernel
theorem d_LW_law_483 : decode code 483 = .ok (.iaload, 1) := by decide +kernel
theorem d_LW_law_484 : decode code 484 = .ok (.ifCond .eq 7, 3) := by decide +kernel
theorem d_LW_law_487 : decode code 487 = .ok (.iconst 1, 1) := by decide +kernel
theorem d_LW_law_488 : decode code 488 = .ok (.goto 4, 3) := by decide +kernel
theorem d_LW_law_491 : decode code 491 = .ok (.iconst 0, 1) := by decide +kernel
theorem d_LW_law_492 : decode code 492 = .ok (.aload_n 0, 1) := by decide +kernel
theorem d_LW_law_493 : decode code 493 = .ok (.iload_n 3, 1) := by decide +kernel
theorem d_LW_law_494 : decode code 494 = .ok (.iconst 2, 1) := by decide +kernel
theorem d_LW_law_495 : decode code 495 = .ok (.iadd, 1) := by decide +kernel
theorem d_LW_law_496 : decode code 496 = .ok (.iaload, 1) := by decide +kernel
theorem d_LW_law_497 : decode code 497 = .ok (.invokevirtual 63, 3) := by decide +kernel
theorem d_LW_law_500 : decode code 500 = .ok (.aload_n 2, 1) := by decide +kernel
theorem d_LW_law_501 : decode code 501 = .ok (.aload_n 0, 1) := by decide +kernel
theorem d_LW_law_502 : decode code 502 = .ok (.iload_n 3, 1) := by decide +kernel
theorem d_LW_law_503 : decode code 503 = .ok (.iconst 1, 1) := by decide +kernel
theorem d_LW_law_504 : decode code 504 = .ok (.iadd, 1) := by decide +kernel
theorem d_LW_law_505 : decode code 505 = .ok (.iaload, 1) := by decide +kernel
theorem d_LW_law_506 : decode code 506 = .ok (.ifCond .eq 7, 3) := by decide +kernel
theorem d_LW_law_509 : decode code 509 = .ok (.iconst 1, 1) := by decide +kernel
theorem d_LW_law_510 : decode code 510 = .ok (.goto 4, 3) := by decide +kernel
theorem d_LW_law_513 : decode code 513 = .ok (.iconst 0, 1) := by decide +kernel
theorem d_LW_law_514 : decode code 514 = .ok (.aload_n 0, 1) := by decide +kernel
theorem d_LW_law_515 : decode code 515 = .ok (.iload_n 3, 1) := by decide +kernel
theorem d_LW_law_516 : decode code 516 = .ok (.iconst 2, 1) := by decide +kernel
theorem d_LW_law_517 : decode code 517 = .ok (.iadd, 1) := by decide +kernel
theorem d_LW_law_518 : decode code 518 = .ok (.iaload, 1) := by decide +kernel
theorem d_LW_law_519 : decode code 519 = .ok (.invokevirtual 67, 3) := by decide +kernel
theorem d_LW_law_522 : decode code 522 = .ok (.if_icmp .eq 371, 3) := by decide +kernel
theorem d_LW_law_525 : decode code 525 = .ok (.iconst 0, 1) := by decide +kernel
theorem d_LW_law_526 : decode code 526 = .ok (.ireturn, 1) := by decide +kernel
theorem d_LW_law_527 : decode code 527 = .ok (.aload_n 1, 1) := by decide +kernel
theorem d_LW_law_528 : decode code 528 = .ok (.aload_n 0, 1) := by decide +kernel
theorem d_LW_law_529 : decode code 529 = .ok (.iload_n 3, 1) := by decide +kernel
theorem d_LW_law_530 : decode code 530 = .ok (.iconst 1, 1) := by decide +kernel
theorem d_LW_law_531 : decode code 531 = .ok (.iadd, 1) := by decide +kernel
theorem d_LW_law_532 : decode code 532 = .ok (.iaload, 1) := by decide +kernel
theorem d_LW_law_533 : decode code 533 = .ok (.aload_n 0, 1) := by decide +kernel
theorem d_LW_law_534 : decode code 534 = .ok (.iload_n 3, 1) := by decide +kernel
theorem d_LW_law_535 : decode code 535 = .ok (.iconst 2, 1) := by decide +kernel
theorem d_LW_law_536 : decode code 536 = .ok (.iadd, 1) := by decide +kernel
theorem d_LW_law_537 : decode code 537 = .ok (.iaload, 1) := by decide +kernel
theorem d_LW_law_538 : decode code 538 = .ok (.invokevirtual 68, 3) := by decide +kernel
theorem d_LW_law_541 : decode code 541 = .ok (.aload_n 2, 1) := by decide +kernel
theorem d_LW_law_542 : decode code 542 = .ok (.aload_n 0, 1) := by decide +kernel
theorem d_LW_law_543 : decode code 543 = .ok (.iload_n 3, 1) := by decide +kernel
theorem d_LW_law_544 : decode code 544 = .ok (.iconst 1, 1) := by decide +kernel
theorem d_LW_law_545 : decode code 545 = .ok (.iadd, 1) := by decide +kernel
theorem d_LW_law_546 : decode code 546 = .ok (.iaload, 1) := by decide +kernel
theorem d_LW_law_547 : decode code 547 = .ok (.aload_n 0, 1) := by decide +kernel
theorem d_LW_law_548 : decode code 548 = .ok (.iload_n 3, 1) := by decide +kernel
theorem d_LW_law_549 : decode code 549 = .ok (.iconst 2, 1) := by decide +kernel
theorem d_LW_law_550 : decode code 550 = .ok (.iadd, 1) := by decide +kernel
theorem d_LW_law_551 : decode code 551 = .ok (.iaload, 1) := by decide +kernel
theorem d_LW_law_552 : decode code 552 = .ok (.invokevirtual 72, 3) := by decide +kernel
theorem d_LW_law_555 : decode code 555 = .ok (.if_icmp .eq 338, 3) := by decide +kernel
theorem d_LW_law_558 : decode code 558 = .ok (.iconst 0, 1) := by decide +kernel
theorem d_LW_law_559 : decode code 559 = .ok (.ireturn, 1) := by decide +kernel
theorem d_LW_law_560 : decode code 560 = .ok (.aload_n 1, 1) := by decide +kernel
theorem d_LW_law_561 : decode code 561 = .ok (.aload_n 0, 1) := by decide +kernel
theorem d_LW_law_562 : decode code 562 = .ok (.iload_n 3, 1) := by decide +kernel
theorem d_LW_law_563 : decode code 563 = .ok (.iconst 1, 1) := by decide +kernel
theorem d_LW_law_564 : decode code 564 = .ok (.iadd, 1) := by decide +kernel
theorem d_LW_law_565 : decode code 565 = .ok (.iaload, 1) := by decide +kernel
theorem d_LW_law_566 : decode code 566 = .ok (.invokevirtual 73, 3) := by decide +kernel
theorem d_LW_law_569 : decode code 569 = .ok (.aload_n 2, 1) := by decide +kernel
theorem d_LW_law_570 : decode code 570 = .ok (.aload_n 0, 1) := by decide +kernel
theorem d_LW_law_571 : decode code 571 = .ok (.iload_n 3, 1) := by decide +kernel
theorem d_LW_law_572 : decode code 572 = .ok (.iconst 1, 1) := by decide +kernel
theorem d_LW_law_573 : decode code 573 = .ok (.iadd, 1) := by decide +kernel
theorem d_LW_law_574 : decode code 574 = .ok (.iaload, 1) := by decide +kernel
theorem d_LW_law_575 : decode code 575 = .ok (.invokevirtual 76, 3) := by decide +kernel
theorem d_LW_law_578 : decode code 578 = .ok (.if_icmp .eq 315, 3) := by decide +kernel
theorem d_LW_law_581 : decode code 581 = .ok (.iconst 0, 1) := by decide +kernel
theorem d_LW_law_582 : decode code 582 = .ok (.ireturn, 1) := by decide +kernel
theorem d_LW_law_583 : decode code 583 = .ok (.aload_n 1, 1) := by decide +kernel
theorem d_LW_law_584 : decode code 584 = .ok (.aload_n 0, 1) := by decide +kernel
theorem d_LW_law_585 : decode code 585 = .ok (.iload_n 3, 1) := by decide +kernel
theorem d_LW_law_586 : decode code 586 = .ok (.iconst 1, 1) := by decide +kernel
theorem d_LW_law_587 : decode code 587 = .ok (.iadd, 1) := by decide +kernel
theorem d_LW_law_588 : decode code 588 = .ok (.iaload, 1) := by decide +kernel
theorem d_LW_law_589 : decode code 589 = .ok (.aload_n 0, 1) := by decide +kernel
theorem d_LW_law_590 : decode code 590 = .ok (.iload_n 3, 1) := by decide +kernel
theorem d_LW_law_591 : decode code 591 = .ok (.iconst 2, 1) := by decide +kernel
theorem d_LW_law_592 : decode code 592 = .ok (.iadd, 1) := by decide +kernel
theorem d_LW_law_593 : decode code 593 = .ok (.iaload, 1) := by decide +kernel
theorem d_LW_law_594 : decode code 594 = .ok (.invokevirtual 77, 3) := by decide +kernel
theorem d_LW_law_597 : decode code 597 = .ok (.aload_n 2, 1) := by decide +kernel
theorem d_LW_law_598 : decode code 598 = .ok (.aload_n 0, 1) := by decide +kernel
theorem d_LW_law_599 : decode code 599 = .ok (.iload_n 3, 1) := by decide +kernel
theorem d_LW_law_600 : decode code 600 = .ok (.iconst 1, 1) := by decide +kernel
theorem d_LW_law_601 : decode code 601 = .ok (.iadd, 1) := by decide +kernel
theorem d_LW_law_602 : decode code 602 = .ok (.iaload, 1) := by decide +kernel
theorem d_LW_law_603 : decode code 603 = .ok (.aload_n 0, 1) := by decide +kernel
theorem d_LW_law_604 : decode code 604 = .ok (.iload_n 3, 1) := by decide +kernel
theorem d_LW_law_605 : decode code 605 = .ok (.iconst 2, 1) := by decide +kernel
theorem d_LW_law_606 : decode code 606 = .ok (.iadd, 1) := by decide +kernel
theorem d_LW_law_607 : decode code 607 = .ok (.iaload, 1) := by decide +kernel
theorem d_LW_law_608 : decode code 608 = .ok (.invokevirtual 80, 3) := by decide +kernel
theorem d_LW_law_611 : decode code 611 = .ok (.if_icmp .eq 282, 3) := by decide +kernel
theorem d_LW_law_614 : decode code 614 = .ok (.iconst 0, 1) := by decide +kernel
theorem d_LW_law_615 : decode code 615 = .ok (.ireturn, 1) := by decide +kernel
theorem d_LW_law_616 : decode code 616 = .ok (.aload_n 1, 1) := by decide +kernel
theorem d_LW_law_617 : decode code 617 = .ok (.invokevirtual 81, 3) := by decide +kernel
theorem d_LW_law_620 : decode code 620 = .ok (.aload_n 2, 1) := by decide +kernel
theorem d_LW_law_621 : decode code 621 = .ok (.invokevirtual 84, 3) := by decide +kernel
theorem d_LW_law_624 : decode code 624 = .ok (.if_icmp .eq 269, 3) := by decide +kernel
theorem d_LW_law_627 : decode code 627 = .ok (.iconst 0, 1) := by decide +kernel
theorem d_LW_law_628 : decode code 628 = .ok (.ireturn, 1) := by decide +kernel
theorem d_LW_law_629 : decode code 629 = .ok (.aload_n 1, 1) := by decide +kernel
theorem d_LW_law_630 : decode code 630 = .ok (.invokevirtual 85, 3) := by decide +kernel
theorem d_LW_law_633 : decode code 633 = .ok (.aload_n 2, 1) := by decide +kernel
theorem d_LW_law_634 : decode code 634 = .ok (.invokevirtual 88, 3) := by decide +kernel
theorem d_LW_law_637 : decode code 637 = .ok (.if_icmp .eq 256, 3) := by decide +kernel
theorem d_LW_law_640 : decode code 640 = .ok (.iconst 0, 1) := by decide +kernel
theorem d_LW_law_641 : decode code 641 = .ok (.ireturn, 1) := by decide +kernel
theorem d_LW_law_642 : decode code 642 = .ok (.aload_n 1, 1) := by decide +kernel
theorem d_LW_law_643 : decode code 643 = .ok (.invokevirtual 89, 3) := by decide +kernel
theorem d_LW_law_646 : decode code 646 = .ok (.aload_n 2, 1) := by decide +kernel
theorem d_LW_law_647 : decode code 647 = .ok (.invokevirtual 92, 3) := by decide +kernel
theorem d_LW_law_650 : decode code 650 = .ok (.if_icmp .eq 243, 3) := by decide +kernel
theorem d_LW_law_653 : decode code 653 = .ok (.iconst 0, 1) := by decide +kernel
theorem d_LW_law_654 : decode code 654 = .ok (.ireturn, 1) := by decide +kernel
theorem d_LW_law_655 : decode code 655 = .ok (.aload_n 1, 1) := by decide +kernel
theorem d_LW_law_656 : decode code 656 = .ok (.aload_n 0, 1) := by decide +kernel
theorem d_LW_law_657 : decode code 657 = .ok (.iload_n 3, 1) := by decide +kernel
theorem d_LW_law_658 : decode code 658 = .ok (.iconst 1, 1) := by decide +kernel
theorem d_LW_law_659 : decode code 659 = .ok (.iadd, 1) := by decide +kernel
theorem d_LW_law_660 : decode code 660 = .ok (.iaload, 1) := by decide +kernel
theorem d_LW_law_661 : decode code 661 = .ok (.ifCond .eq 7, 3) := by decide +kernel
theorem d_LW_law_664 : decode code 664 = .ok (.iconst 1, 1) := by decide +kernel
theorem d_LW_law_665 : decode code 665 = .ok (.goto 4, 3) := by decide +kernel
theorem d_LW_law_668 : decode code 668 = .ok (.iconst 0, 1) := by decide +kernel
theorem d_LW_law_669 : decode code 669 = .ok (.invokevirtual 93, 3) := by decide +kernel
theorem d_LW_law_672 : decode code 672 = .ok (.aload_n 2, 1) := by decide +kernel
theorem d_LW_law_673 : decode code 673 = .ok (.aload_n 0, 1) := by decide +kernel
theorem d_LW_law_674 : decode code 674 = .ok (.iload_n 3, 1) := by decide +kernel
theorem d_LW_law_675 : decode code 675 = .ok (.iconst 1, 1) := by decide +kernel
theorem d_LW_law_676 : decode code 676 = .ok (.iadd, 1) := by decide +kernel
theorem d_LW_law_677 : decode code 677 = .ok (.iaload, 1) := by decide +kernel
theorem d_LW_law_678 : decode code 678 = .ok (.ifCond .eq 7, 3) := by decide +kernel
theorem d_LW_law_681 : decode code 681 = .ok (.iconst 1, 1) := by decide +kernel
theorem d_LW_law_682 : decode code 682 = .ok (.goto 4, 3) := by decide +kernel
theorem d_LW_law_685 : decode code 685 = .ok (.iconst 0, 1) := by decide +kernel
theorem d_LW_law_686 : decode code 686 = .ok (.invokevirtual 97, 3) := by decide +kernel
theorem d_LW_law_689 : decode code 689 = .ok (.if_icmp .eq 204, 3) := by decide +kernel
theorem d_LW_law_692 : decode code 692 = .ok (.iconst 0, 1) := by decide +kernel
theorem d_LW_law_693 : decode code 693 = .ok (.ireturn, 1) := by decide +kernel
theorem d_LW_law_694 : decode code 694 = .ok (.aload_n 1, 1) := by decide +kernel
theorem d_LW_law_695 : decode code 695 = .ok (.aload_n 0, 1) := by decide +kernel
theorem d_LW_law_696 : decode code 696 = .ok (.iload_n 3, 1) := by decide +kernel
theorem d_LW_law_697 : decode code 697 = .ok (.iconst 1, 1) := by decide +kernel
theorem d_LW_law_698 : decode code 698 = .ok (.iadd, 1) := by decide +kernel
theorem d_LW_law_699 : decode code 699 = .ok (.iaload, 1) := by decide +kernel
theorem d_LW_law_700 : decode code 700 = .ok (.ifCond .eq 7, 3) := by decide +kernel
theorem d_LW_law_703 : decode code 703 = .ok (.iconst 1, 1) := by decide +kernel
theorem d_LW_law_704 : decode code 704 = .ok (.goto 4, 3) := by decide +kernel
theorem d_LW_law_707 : decode code 707 = .ok (.iconst 0, 1) := by decide +kernel
theorem d_LW_law_708 : decode code 708 = .ok (.invokevirtual 98, 3) := by decide +kernel
theorem d_LW_law_711 : decode code 711 = .ok (.aload_n 2, 1) := by decide +kernel
theorem d_LW_law_712 : decode code 712 = .ok (.aload_n 0, 1) := by decide +kernel
theorem d_LW_law_713 : decode code 713 = .ok (.iload_n 3, 1) := by decide +kernel
theorem d_LW_law_714 : decode code 714 = .ok (.iconst 1, 1) := by decide +kernel
theorem d_LW_law_715 : decode code 715 = .ok (.iadd, 1) := by decide +kernel
theorem d_LW_law_716 : decode code 716 = .ok (.iaload, 1) := by decide +kernel
theorem d_LW_law_717 : decode code 717 = .ok (.ifCond .eq 7, 3) := by decide +kernel
theorem d_LW_law_720 : decode code 720 = .ok (.iconst 1, 1) := by decide +kernel
theorem d_LW_law_721 : decode code 721 = .ok (.goto 4, 3) := by decide +kernel
theorem d_LW_law_724 : decode code 724 = .ok (.iconst 0, 1) := by decide +kernel
theorem d_LW_law_725 : decode code 725 = .ok (.invokevirtual 101, 3) := by decide +kernel
theorem d_LW_law_728 : decode code 728 = .ok (.if_icmp .eq 165, 3) := by decide +kernel
theorem d_LW_law_731 : decode code 731 = .ok (.iconst 0, 1) := by decide +kernel
theorem d_LW_law_732 : decode code 732 = .ok (.ireturn, 1) := by decide +kernel
theorem d_LW_law_733 : decode code 733 = .ok (.aload_n 1, 1) := by decide +kernel
theorem d_LW_law_734 : decode code 734 = .ok (.aload_n 0, 1) := by decide +kernel
theorem d_LW_law_735 : decode code 735 = .ok (.iload_n 3, 1) := by decide +kernel
theorem d_LW_law_736 : decode code 736 = .ok (.iconst 1, 1) := by decide +kernel
theorem d_LW_law_737 : decode code 737 = .ok (.iadd, 1) := by decide +kernel
theorem d_LW_law_738 : decode code 738 = .ok (.iaload, 1) := by decide +kernel
theorem d_LW_law_739 : decode code 739 = .ok (.ifCond .eq 7, 3) := by decide +kernel
theorem d_LW_law_742 : decode code 742 = .ok (.iconst 1, 1) := by decide +kernel
theorem d_LW_law_743 : decode code 743 = .ok (.goto 4, 3) := by decide +kernel
theorem d_LW_law_746 : decode code 746 = .ok (.iconst 0, 1) := by decide +kernel
theorem d_LW_law_747 : decode code 747 = .ok (.aload_n 0, 1) := by decide +kernel
theorem d_LW_law_748 : decode code 748 = .ok (.iload_n 3, 1) := by decide +kernel
theorem d_LW_law_749 : decode code 749 = .ok (.iconst 2, 1) := by decide +kernel
theorem d_LW_law_750 : decode code 750 = .ok (.iadd, 1) := by decide +kernel
theorem d_LW_law_751 : decode code 751 = .ok (.iaload, 1) := by decide +kernel
theorem d_LW_law_752 : decode code 752 = .ok (.i2l, 1) := by decide +kernel
theorem d_LW_law_753 : decode code 753 = .ok (.bipush 32, 2) := by decide +kernel
theorem d_LW_law_755 : decode code 755 = .ok (.lshl, 1) := by decide +kernel
theorem d_LW_law_756 : decode code 756 = .ok (.aload_n 0, 1) := by decide +kernel
theorem d_LW_law_757 : decode code 757 = .ok (.iload_n 3, 1) := by decide +kernel
theorem d_LW_law_758 : decode code 758 = .ok (.iconst 3, 1) := by decide +kernel
theorem d_LW_law_759 : decode code 759 = .ok (.iadd, 1) := by decide +kernel
theorem d_LW_law_760 : decode code 760 = .ok (.iaload, 1) := by decide +kernel
theorem d_LW_law_761 : decode code 761 = .ok (.i2l, 1) := by decide +kernel
theorem d_LW_law_762 : decode code 762 = .ok (.ldc2_w 41, 3) := by decide +kernel
theorem d_LW_law_765 : decode code 765 = .ok (.land, 1) := by decide +kernel
theorem d_LW_law_766 : decode code 766 = .ok (.lor, 1) := by decide +kernel
theorem d_LW_law_767 : decode code 767 = .ok (.invokevirtual 102, 3) := by decide +kernel
theorem d_LW_law_770 : decode code 770 = .ok (.aload_n 2, 1) := by decide +kernel
theorem d_LW_law_771 : decode code 771 = .ok (.aload_n 0, 1) := by decide +kernel
theorem d_LW_law_772 : decode code 772 = .ok (.iload_n 3, 1) := by decide +kernel
theorem d_LW_law_773 : decode code 773 = .ok (.iconst 1, 1) := by decide +kernel
theorem d_LW_law_774 : decode code 774 = .ok (.iadd, 1) := by decide +kernel
theorem d_LW_law_775 : decode code 775 = .ok (.iaload, 1) := by decide +kernel
theorem d_LW_law_776 : decode code 776 = .ok (.ifCond .eq 7, 3) := by decide +kernel
theorem d_LW_law_779 : decode code 779 = .ok (.iconst 1, 1) := by decide +kernel
theorem d_LW_law_780 : decode code 780 = .ok (.goto 4, 3) := by decide +kernel
theorem d_LW_law_783 : decode code 783 = .ok (.iconst 0, 1) := by decide +kernel
theorem d_LW_law_784 : decode code 784 = .ok (.aload_n 0, 1) := by decide +kernel
theorem d_LW_law_785 : decode code 785 = .ok (.iload_n 3, 1) := by decide +kernel
theorem d_LW_law_786 : decode code 786 = .ok (.iconst 2, 1) := by decide +kernel
theorem d_LW_law_787 : decode code 787 = .ok (.iadd, 1) := by decide +kernel
theorem d_LW_law_788 : decode code 788 = .ok (.iaload, 1) := by decide +kernel
theorem d_LW_law_789 : decode code 789 = .ok (.i2l, 1) := by decide +kernel
theorem d_LW_law_790 : decode code 790 = .ok (.bipush 32, 2) := by decide +kernel
theorem d_LW_law_792 : decode code 792 = .ok (.lshl, 1) := by decide +kernel
theorem d_LW_law_793 : decode code 793 = .ok (.aload_n 0, 1) := by decide +kernel
theorem d_LW_law_794 : decode code 794 = .ok (.iload_n 3, 1) := by decide +kernel
theorem d_LW_law_795 : decode code 795 = .ok (.iconst 3, 1) := by decide +kernel
theorem d_LW_law_796 : decode code 796 = .ok (.iadd, 1) := by decide +kernel
theorem d_LW_law_797 : decode code 797 = .ok (.iaload, 1) := by decide +kernel
theorem d_LW_law_798 : decode code 798 = .ok (.i2l, 1) := by decide +kernel
theorem d_LW_law_799 : decode code 799 = .ok (.ldc2_w 41, 3) := by decide +kernel
theorem d_LW_law_802 : decode code 802 = .ok (.land, 1) := by decide +kernel
theorem d_LW_law_803 : decode code 803 = .ok (.lor, 1) := by decide +kernel
theorem d_LW_law_804 : decode code 804 = .ok (.invokevirtual 106, 3) := by decide +kernel
theorem d_LW_law_807 : decode code 807 = .ok (.lcmp, 1) := by decide +kernel
theorem d_LW_law_808 : decode code 808 = .ok (.ifCond .eq 85, 3) := by decide +kernel
theorem d_LW_law_811 : decode code 811 = .ok (.iconst 0, 1) := by decide +kernel
theorem d_LW_law_812 : decode code 812 = .ok (.ireturn, 1) := by decide +kernel
theorem d_LW_law_813 : decode code 813 = .ok (.aload_n 1, 1) := by decide +kernel
theorem d_LW_law_814 : decode code 814 = .ok (.aload_n 0, 1) := by decide +kernel
theorem d_LW_law_815 : decode code 815 = .ok (.iload_n 3, 1) := by decide +kernel
theorem d_LW_law_816 : decode code 816 = .ok (.iconst 1, 1) := by decide +kernel
theorem d_LW_law_817 : decode code 817 = .ok (.iadd, 1) := by decide +kernel
theorem d_LW_law_818 : decode code 818 = .ok (.iaload, 1) := by decide +kernel
theorem d_LW_law_819 : decode code 819 = .ok (.ifCond .eq 7, 3) := by decide +kernel
theorem d_LW_law_822 : decode code 822 = .ok (.iconst 1, 1) := by decide +kernel
theorem d_LW_law_823 : decode code 823 = .ok (.goto 4, 3) := by decide +kernel
theorem d_LW_law_826 : decode code 826 = .ok (.iconst 0, 1) := by decide +kernel
theorem d_LW_law_827 : decode code 827 = .ok (.aload_n 0, 1) := by decide +kernel
theorem d_LW_law_828 : decode code 828 = .ok (.iload_n 3, 1) := by decide +kernel
theorem d_LW_law_829 : decode code 829 = .ok (.iconst 2, 1) := by decide +kernel
theorem d_LW_law_830 : decode code 830 = .ok (.iadd, 1) := by decide +kernel
theorem d_LW_law_831 : decode code 831 = .ok (.iaload, 1) := by decide +kernel
theorem d_LW_law_832 : decode code 832 = .ok (.i2l, 1) := by decide +kernel
theorem d_LW_law_833 : decode code 833 = .ok (.bipush 32, 2) := by decide +kernel
theorem d_LW_law_835 : decode code 835 = .ok (.lshl, 1) := by decide +kernel
theorem d_LW_law_836 : decode code 836 = .ok (.aload_n 0, 1) := by decide +kernel
theorem d_LW_law_837 : decode code 837 = .ok (.iload_n 3, 1) := by decide +kernel
theorem d_LW_law_838 : decode code 838 = .ok (.iconst 3, 1) := by decide +kernel
theorem d_LW_law_839 : decode code 839 = .ok (.iadd, 1) := by decide +kernel
theorem d_LW_law_840 : decode code 840 = .ok (.iaload, 1) := by decide +kernel
theorem d_LW_law_841 : decode code 841 = .ok (.i2l, 1) := by decide +kernel
theorem d_LW_law_842 : decode code 842 = .ok (.ldc2_w 41, 3) := by decide +kernel
theorem d_LW_law_845 : decode code 845 = .ok (.land, 1) := by decide +kernel
theorem d_LW_law_846 : decode code 846 = .ok (.lor, 1) := by decide +kernel
theorem d_LW_law_847 : decode code 847 = .ok (.invokevirtual 107, 3) := by decide +kernel
theorem d_LW_law_850 : decode code 850 = .ok (.aload_n 2, 1) := by decide +kernel
theorem d_LW_law_851 : decode code 851 = .ok (.aload_n 0, 1) := by decide +kernel
theorem d_LW_law_852 : decode code 852 = .ok (.iload_n 3, 1) := by decide +kernel
theorem d_LW_law_853 : decode code 853 = .ok (.iconst 1, 1) := by decide +kernel
theorem d_LW_law_854 : decode code 854 = .ok (.iadd, 1) := by decide +kernel
theorem d_LW_law_855 : decode code 855 = .ok (.iaload, 1) := by decide +kernel
theorem d_LW_law_856 : decode code 856 = .ok (.ifCond .eq 7, 3) := by decide +kernel
theorem d_LW_law_859 : decode code 859 = .ok (.iconst 1, 1) := by decide +kernel
theorem d_LW_law_860 : decode code 860 = .ok (.goto 4, 3) := by decide +kernel
theorem d_LW_law_863 : decode code 863 = .ok (.iconst 0, 1) := by decide +kernel
theorem d_LW_law_864 : decode code 864 = .ok (.aload_n 0, 1) := by decide +kernel
theorem d_LW_law_865 : decode code 865 = .ok (.iload_n 3, 1) := by decide +kernel
theorem d_LW_law_866 : decode code 866 = .ok (.iconst 2, 1) := by decide +kernel
theorem d_LW_law_867 : decode code 867 = .ok (.iadd, 1) := by decide +kernel
theorem d_LW_law_868 : decode code 868 = .ok (.iaload, 1) := by decide +kernel
theorem d_LW_law_869 : decode code 869 = .ok (.i2l, 1) := by decide +kernel
theorem d_LW_law_870 : decode code 870 = .ok (.bipush 32, 2) := by decide +kernel
theorem d_LW_law_872 : decode code 872 = .ok (.lshl, 1) := by decide +kernel
theorem d_LW_law_873 : decode code 873 = .ok (.aload_n 0, 1) := by decide +kernel
theorem d_LW_law_874 : decode code 874 = .ok (.iload_n 3, 1) := by decide +kernel
theorem d_LW_law_875 : decode code 875 = .ok (.iconst 3, 1) := by decide +kernel
theorem d_LW_law_876 : decode code 876 = .ok (.iadd, 1) := by decide +kernel
theorem d_LW_law_877 : decode code 877 = .ok (.iaload, 1) := by decide +kernel
theorem d_LW_law_878 : decode code 878 = .ok (.i2l, 1) := by decide +kernel
theorem d_LW_law_879 : decode code 879 = .ok (.ldc2_w 41, 3) := by decide +kernel
theorem d_LW_law_882 : decode code 882 = .ok (.land, 1) := by decide +kernel
theorem d_LW_law_883 : decode code 883 = .ok (.lor, 1) := by decide +kernel
theorem d_LW_law_884 : decode code 884 = .ok (.invokevirtual 110, 3) := by decide +kernel
theorem d_LW_law_887 : decode code 887 = .ok (.lcmp, 1) := by decide +kernel
theorem d_LW_law_888 : decode code 888 = .ok (.ifCond .eq 5, 3) := by decide +kernel
theorem d_LW_law_891 : decode code 891 = .ok (.iconst 0, 1) := by decide +kernel
theorem d_LW_law_892 : decode code 892 = .ok (.ireturn, 1) := by decide +kernel
theorem d_LW_law_893 : decode code 893 = .ok (.iinc 3 5, 3) := by decide +kernel
theorem d_LW_law_896 : decode code 896 = .ok (.goto (-868), 3) := by decide +kernel
theorem d_LW_law_899 : decode code 899 = .ok (.iconst 1, 1) := by decide +kernel
theorem d_LW_law_900 : decode code 900 = .ok (.ireturn, 1) := by decide +kernel
