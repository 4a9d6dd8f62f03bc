/-! decode rows -/
theorem d_MD_init_0 : decode b_MD_init 0 = .ok (.aload_n 0, 1) := by decide +kernel
theorem d_MD_init_1 : decode b_MD_init 1 = .ok (.invokespecial 1, 3) := by decide +kernel
theorem d_MD_init_4 : decode b_MD_init 4 = .ok (.aload_n 0, 1) := by decide +kernel
theorem d_MD_init_5 : decode b_MD_init 5 = .ok (.bipush 16, 2) := by decide +kernel
theorem d_MD_init_7 : decode b_MD_init 7 = .ok (.newarray .long, 2) := by decide +kernel
theorem d_MD_init_9 : decode b_MD_init 9 = .ok (.putfield 7, 3) := by decide +kernel
theorem d_MD_init_12 : decode b_MD_init 12 = .ok (.aload_n 0, 1) := by decide +kernel
theorem d_MD_init_13 : decode b_MD_init 13 = .ok (.bipush 16, 2) := by decide +kernel
theorem d_MD_init_15 : decode b_MD_init 15 = .ok (.newarray .boolean, 2) := by decide +kernel
theorem d_MD_init_17 : decode b_MD_init 17 = .ok (.putfield 13, 3) := by decide +kernel
theorem d_MD_init_20 : decode b_MD_init 20 = .ok (.aload_n 0, 1) := by decide +kernel
theorem d_MD_init_21 : decode b_MD_init 21 = .ok (.iconst 2, 1) := by decide +kernel
theorem d_MD_init_22 : decode b_MD_init 22 = .ok (.newarray .long, 2) := by decide +kernel
theorem d_MD_init_24 : decode b_MD_init 24 = .ok (.putfield 17, 3) := by decide +kernel
theorem d_MD_init_27 : decode b_MD_init 27 = .ok (.aload_n 0, 1) := by decide +kernel
theorem d_MD_init_28 : decode b_MD_init 28 = .ok (.iconst 2, 1) := by decide +kernel
theorem d_MD_init_29 : decode b_MD_init 29 = .ok (.newarray .int, 2) := by decide +kernel
theorem d_MD_init_31 : decode b_MD_init 31 = .ok (.putfield 20, 3) := by decide +kernel
theorem d_MD_init_34 : decode b_MD_init 34 = .ok (.aload_n 0, 1) := by decide +kernel
theorem d_MD_init_35 : decode b_MD_init 35 = .ok (.iconst 2, 1) := by decide +kernel
theorem d_MD_init_36 : decode b_MD_init 36 = .ok (.newarray .int, 2) := by decide +kernel
theorem d_MD_init_38 : decode b_MD_init 38 = .ok (.putfield 24, 3) := by decide +kernel
theorem d_MD_init_41 : decode b_MD_init 41 = .ok (.aload_n 0, 1) := by decide +kernel
theorem d_MD_init_42 : decode b_MD_init 42 = .ok (.iconst 2, 1) := by decide +kernel
theorem d_MD_init_43 : decode b_MD_init 43 = .ok (.newarray .int, 2) := by decide +kernel
theorem d_MD_init_45 : decode b_MD_init 45 = .ok (.putfield 27, 3) := by decide +kernel
theorem d_MD_init_48 : decode b_MD_init 48 = .ok (.aload_n 0, 1) := by decide +kernel
theorem d_MD_init_49 : decode b_MD_init 49 = .ok (.iconst 2, 1) := by decide +kernel
theorem d_MD_init_50 : decode b_MD_init 50 = .ok (.newarray .int, 2) := by decide +kernel
theorem d_MD_init_52 : decode b_MD_init 52 = .ok (.putfield 30, 3) := by decide +kernel
theorem d_MD_init_55 : decode b_MD_init 55 = .ok (.aload_n 0, 1) := by decide +kernel
theorem d_MD_init_56 : decode b_MD_init 56 = .ok (.bipush 64, 2) := by decide +kernel
theorem d_MD_init_58 : decode b_MD_init 58 = .ok (.newarray .int, 2) := by decide +kernel
theorem d_MD_init_60 : decode b_MD_init 60 = .ok (.putfield 33, 3) := by decide +kernel
theorem d_MD_init_63 : decode b_MD_init 63 = .ok (.aload_n 0, 1) := by decide +kernel
theorem d_MD_init_64 : decode b_MD_init 64 = .ok (.sipush 256, 3) := by decide +kernel
theorem d_MD_init_67 : decode b_MD_init 67 = .ok (.newarray .int, 2) := by decide +kernel
theorem d_MD_init_69 : decode b_MD_init 69 = .ok (.putfield 36, 3) := by decide +kernel
theorem d_MD_init_72 : decode b_MD_init 72 = .ok (.aload_n 0, 1) := by decide +kernel
theorem d_MD_init_73 : decode b_MD_init 73 = .ok (.bipush 16, 2) := by decide +kernel
theorem d_MD_init_75 : decode b_MD_init 75 = .ok (.newarray .int, 2) := by decide +kernel
theorem d_MD_init_77 : decode b_MD_init 77 = .ok (.putfield 39, 3) := by decide +kernel
theorem d_MD_init_80 : decode b_MD_init 80 = .ok (.aload_n 0, 1) := by decide +kernel
theorem d_MD_init_81 : decode b_MD_init 81 = .ok (.bipush 16, 2) := by decide +kernel
theorem d_MD_init_83 : decode b_MD_init 83 = .ok (.newarray .int, 2) := by decide +kernel
theorem d_MD_init_85 : decode b_MD_init 85 = .ok (.putfield 42, 3) := by decide +kernel
theorem d_MD_init_88 : decode b_MD_init 88 = .ok (.aload_n 0, 1) := by decide +kernel
theorem d_MD_init_89 : decode b_MD_init 89 = .ok (.bipush 16, 2) := by decide +kernel
theorem d_MD_init_91 : decode b_MD_init 91 = .ok (.newarray .boolean, 2) := by decide +kernel
theorem d_MD_init_93 : decode b_MD_init 93 = .ok (.putfield 45, 3) := by decide +kernel
theorem d_MD_init_96 : decode b_MD_init 96 = .ok (.aload_n 0, 1) := by decide +kernel
theorem d_MD_init_97 : decode b_MD_init 97 = .ok (.bipush 16, 2) := by decide +kernel
theorem d_MD_init_99 : decode b_MD_init 99 = .ok (.newarray .boolean, 2) := by decide +kernel
theorem d_MD_init_101 : decode b_MD_init 101 = .ok (.putfield 48, 3) := by decide +kernel
theorem d_MD_init_104 : decode b_MD_init 104 = .ok (.aload_n 0, 1) := by decide +kernel
theorem d_MD_init_105 : decode b_MD_init 105 = .ok (.bipush 16, 2) := by decide +kernel
theorem d_MD_init_107 : decode b_MD_init 107 = .ok (.newarray .int, 2) := by decide +kernel
theorem d_MD_init_109 : decode b_MD_init 109 = .ok (.putfield 51, 3) := by decide +kernel
theorem d_MD_init_112 : decode b_MD_init 112 = .ok (.aload_n 0, 1) := by decide +kernel
theorem d_MD_init_113 : decode b_MD_init 113 = .ok (.bipush 16, 2) := by decide +kernel
theorem d_MD_init_115 : decode b_MD_init 115 = .ok (.newarray .int, 2) := by decide +kernel
theorem d_MD_init_117 : decode b_MD_init 117 = .ok (.putfield 54, 3) := by decide +kernel
theorem d_MD_init_120 : decode b_MD_init 120 = .ok (.aload_n 0, 1) := by decide +kernel
theorem d_MD_init_121 : decode b_MD_init 121 = .ok (.bipush 16, 2) := by decide +kernel
theorem d_MD_init_123 : decode b_MD_init 123 = .ok (.newarray .boolean, 2) := by decide +kernel
theorem d_MD_init_125 : decode b_MD_init 125 = .ok (.putfield 57, 3) := by decide +kernel
theorem d_MD_init_128 : decode b_MD_init 128 = .ok (.aload_n 0, 1) := by decide +kernel
theorem d_MD_init_129 : decode b_MD_init 129 = .ok (.bipush 16, 2) := by decide +kernel
theorem d_MD_init_131 : decode b_MD_init 131 = .ok (.newarray .boolean, 2) := by decide +kernel
theorem d_MD_init_133 : decode b_MD_init 133 = .ok (.putfield 60, 3) := by decide +kernel
theorem d_MD_init_136 : decode b_MD_init 136 = .ok (.aload_n 0, 1) := by decide +kernel
theorem d_MD_init_137 : decode b_MD_init 137 = .ok (.bipush 16, 2) := by decide +kernel
theorem d_MD_init_139 : decode b_MD_init 139 = .ok (.newarray .boolean, 2) := by decide +kernel
theorem d_MD_init_141 : decode b_MD_init 141 = .ok (.putfield 63, 3) := by decide +kernel
theorem d_MD_init_144 : decode b_MD_init 144 = .ok (.aload_n 0, 1) := by decide +kernel
theorem d_MD_init_145 : decode b_MD_init 145 = .ok (.bipush 16, 2) := by decide +kernel
theorem d_MD_init_147 : decode b_MD_init 147 = .ok (.newarray .boolean, 2) := by decide +kernel
theorem d_MD_init_149 : decode b_MD_init 149 = .ok (.putfield 66, 3) := by decide +kernel
theorem d_MD_init_152 : decode b_MD_init 152 = .ok (.aload_n 0, 1) := by decide +kernel
theorem d_MD_init_153 : decode b_MD_init 153 = .ok (.bipush 16, 2) := by decide +kernel
theorem d_MD_init_155 : decode b_MD_init 155 = .ok (.newarray .int, 2) := by decide +kernel
theorem d_MD_init_157 : decode b_MD_init 157 = .ok (.putfield 69, 3) := by decide +kernel
theorem d_MD_init_160 : decode b_MD_init 160 = .ok (.aload_n 0, 1) := by decide +kernel
theorem d_MD_init_161 : decode b_MD_init 161 = .ok (.bipush 16, 2) := by decide +kernel
theorem d_MD_init_163 : decode b_MD_init 163 = .ok (.newarray .int, 2) := by decide +kernel
theorem d_MD_init_165 : decode b_MD_init 165 = .ok (.putfield 72, 3) := by decide +kernel
theorem d_MD_init_168 : decode b_MD_init 168 = .ok (.aload_n 0, 1) := by decide +kernel
theorem d_MD_init_169 : decode b_MD_init 169 = .ok (.bipush 16, 2) := by decide +kernel
theorem d_MD_init_171 : decode b_MD_init 171 = .ok (.newarray .int, 2) := by decide +kernel
theorem d_MD_init_173 : decode b_MD_init 173 = .ok (.putfield 75, 3) := by decide +kernel
theorem d_MD_init_176 : decode b_MD_init 176 = .ok (.aload_n 0, 1) := by decide +kernel
theorem d_MD_init_177 : decode b_MD_init 177 = .ok (.bipush 16, 2) := by decide +kernel
theorem d_MD_init_179 : decode b_MD_init 179 = .ok (.newarray .long, 2) := by decide +kernel
theorem d_MD_init_181 : decode b_MD_init 181 = .ok (.putfield 78, 3) := by decide +kernel
theorem d_MD_init_184 : decode b_MD_init 184 = .ok (.aload_n 0, 1) := by decide +kernel
theorem d_MD_init_185 : decode b_MD_init 185 = .ok (.bipush 16, 2) := by decide +kernel
theorem d_MD_init_187 : decode b_MD_init 187 = .ok (.newarray .boolean, 2) := by decide +kernel
theorem d_MD_init_189 : decode b_MD_init 189 = .ok (.putfield 81, 3) := by decide +kernel
theorem d_MD_init_192 : decode b_MD_init 192 = .ok (.aload_n 0, 1) := by decide +kernel
theorem d_MD_init_193 : decode b_MD_init 193 = .ok (.iconst 1, 1) := by decide +kernel
theorem d_MD_init_194 : decode b_MD_init 194 = .ok (.putfield 84, 3) := by decide +kernel
theorem d_MD_init_197 : decode b_MD_init 197 = .ok (.aload_n 0, 1) := by decide +kernel
theorem d_MD_init_198 : decode b_MD_init 198 = .ok (.bipush 16, 2) := by decide +kernel
theorem d_MD_init_200 : decode b_MD_init 200 = .ok (.newarray .int, 2) := by decide +kernel
theorem d_MD_init_202 : decode b_MD_init 202 = .ok (.putfield 88, 3) := by decide +kernel
theorem d_MD_init_205 : decode b_MD_init 205 = .ok (.aload_n 0, 1) := by decide +kernel
theorem d_MD_init_206 : decode b_MD_init 206 = .ok (.bipush 16, 2) := by decide +kernel
theorem d_MD_init_208 : decode b_MD_init 208 = .ok (.newarray .int, 2) := by decide +kernel
theorem d_MD_init_210 : decode b_MD_init 210 = .ok (.putfield 91, 3) := by decide +kernel
theorem d_MD_init_213 : decode b_MD_init 213 = .ok (.aload_n 0, 1) := by decide +kernel
theorem d_MD_init_214 : decode b_MD_init 214 = .ok (.bipush 16, 2) := by decide +kernel
theorem d_MD_init_216 : decode b_MD_init 216 = .ok (.newarray .int, 2) := by decide +kernel
theorem d_MD_init_218 : decode b_MD_init 218 = .ok (.putfield 94, 3) := by decide +kernel
theorem d_MD_init_221 : decode b_MD_init 221 = .ok (.aload_n 0, 1) := by decide +kernel
theorem d_MD_init_222 : decode b_MD_init 222 = .ok (.sipush 256, 3) := by decide +kernel
theorem d_MD_init_225 : decode b_MD_init 225 = .ok (.newarray .int, 2) := by decide +kernel
theorem d_MD_init_227 : decode b_MD_init 227 = .ok (.putfield 97, 3) := by decide +kernel
theorem d_MD_init_230 : decode b_MD_init 230 = .ok (.aload_n 0, 1) := by decide +kernel
theorem d_MD_init_231 : decode b_MD_init 231 = .ok (.bipush 16, 2) := by decide +kernel
theorem d_MD_init_233 : decode b_MD_init 233 = .ok (.newarray .int, 2) := by decide +kernel
theorem d_MD_init_235 : decode b_MD_init 235 = .ok (.putfield 100, 3) := by decide +kernel
theorem d_MD_init_238 : decode b_MD_init 238 = .ok (.aload_n 0, 1) := by decide +kernel
theorem d_MD_init_239 : decode b_MD_init 239 = .ok (.bipush 16, 2) := by decide +kernel
theorem d_MD_init_241 : decode b_MD_init 241 = .ok (.newarray .int, 2) := by decide +kernel
theorem d_MD_init_243 : decode b_MD_init 243 = .ok (.putfield 103, 3) := by decide +kernel
theorem d_MD_init_246 : decode b_MD_init 246 = .ok (.aload_n 0, 1) := by decide +kernel
theorem d_MD_init_247 : decode b_MD_init 247 = .ok (.bipush 16, 2) := by decide +kernel
theorem d_MD_init_249 : decode b_MD_init 249 = .ok (.newarray .int, 2) := by decide +kernel
theorem d_MD_init_251 : decode b_MD_init 251 = .ok (.putfield 106, 3) := by decide +kernel
theorem d_MD_init_254 : decode b_MD_init 254 = .ok (.aload_n 0, 1) := by decide +kernel
theorem d_MD_init_255 : decode b_MD_init 255 = .ok (.bipush 16, 2) := by decide +kernel
theorem d_MD_init_257 : decode b_MD_init 257 = .ok (.newarray .int, 2) := by decide +kernel
theorem d_MD_init_259 : decode b_MD_init 259 = .ok (.putfield 109, 3) := by decide +kernel
theorem d_MD_init_262 : decode b_MD_init 262 = .ok (.aload_n 0, 1) := by decide +kernel
theorem d_MD_init_263 : decode b_MD_init 263 = .ok (.bipush 16, 2) := by decide +kernel
theorem d_MD_init_265 : decode b_MD_init 265 = .ok (.newarray .int, 2) := by decide +kernel
theorem d_MD_init_267 : decode b_MD_init 267 = .ok (.putfield 112, 3) := by decide +kernel
theorem d_MD_init_270 : decode b_MD_init 270 = .ok (.aload_n 0, 1) := by decide +kernel
theorem d_MD_init_271 : decode b_MD_init 271 = .ok (.bipush 16, 2) := by decide +kernel
theorem d_MD_init_273 : decode b_MD_init 273 = .ok (.newarray .int, 2) := by decide +kernel
theorem d_MD_init_275 : decode b_MD_init 275 = .ok (.putfield 115, 3) := by decide +kernel
theorem d_MD_init_278 : decode b_MD_init 278 = .ok (.aload_n 0, 1) := by decide +kernel
theorem d_MD_init_279 : decode b_MD_init 279 = .ok (.bipush 16, 2) := by decide +kernel
theorem d_MD_init_281 : decode b_MD_init 281 = .ok (.newarray .int, 2) := by decide +kernel
theorem d_MD_init_283 : decode b_MD_init 283 = .ok (.putfield 118, 3) := by decide +kernel
theorem d_MD_init_286 : decode b_MD_init 286 = .ok (.aload_n 0, 1) := by decide +kernel
theorem d_MD_init_287 : decode b_MD_init 287 = .ok (.bipush 16, 2) := by decide +kernel
theorem d_MD_init_289 : decode b_MD_init 289 = .ok (.newarray .boolean, 2) := by decide +kernel
theorem d_MD_init_291 : decode b_MD_init 291 = .ok (.putfield 121, 3) := by decide +kernel
theorem d_MD_init_294 : decode b_MD_init 294 = .ok (.aload_n 0, 1) := by decide +kernel
theorem d_MD_init_295 : decode b_MD_init 295 = .ok (.bipush 16, 2) := by decide +kernel
theorem d_MD_init_297 : decode b_MD_init 297 = .ok (.newarray .boolean, 2) := by decide +kernel
theorem d_MD_init_299 : decode b_MD_init 299 = .ok (.putfield 124, 3) := by decide +kernel
theorem d_MD_init_302 : decode b_MD_init 302 = .ok (.aload_n 0, 1) := by decide +kernel
theorem d_MD_init_303 : decode b_MD_init 303 = .ok (.bipush 16, 2) := by decide +kernel
theorem d_MD_init_305 : decode b_MD_init 305 = .ok (.newarray .boolean, 2) := by decide +kernel
theorem d_MD_init_307 : decode b_MD_init 307 = .ok (.putfield 127, 3) := by decide +kernel
theorem d_MD_init_310 : decode b_MD_init 310 = .ok (.aload_n 0, 1) := by decide +kernel
theorem d_MD_init_311 : decode b_MD_init 311 = .ok (.iconst 4, 1) := by decide +kernel
theorem d_MD_init_312 : decode b_MD_init 312 = .ok (.newarray .int, 2) := by decide +kernel
theorem d_MD_init_314 : decode b_MD_init 314 = .ok (.putfield 130, 3) := by decide +kernel
theorem d_MD_init_317 : decode b_MD_init 317 = .ok (.aload_n 0, 1) := by decide +kernel
theorem d_MD_init_318 : decode b_MD_init 318 = .ok (.bipush 64, 2) := by decide +kernel
theorem d_MD_init_320 : decode b_MD_init 320 = .ok (.newarray .int, 2) := by decide +kernel
theorem d_MD_init_322 : decode b_MD_init 322 = .ok (.putfield 133, 3) := by decide +kernel
theorem d_MD_init_325 : decode b_MD_init 325 = .ok (.aload_n 0, 1) := by decide +kernel
theorem d_MD_init_326 : decode b_MD_init 326 = .ok (.iload_n 1, 1) := by decide +kernel
theorem d_MD_init_327 : decode b_MD_init 327 = .ok (.iconst 1, 1) := by decide +kernel
theorem d_MD_init_328 : decode b_MD_init 328 = .ok (.if_icmp .ge 7, 3) := by decide +kernel
theorem d_MD_init_331 : decode b_MD_init 331 = .ok (.iconst 1, 1) := by decide +kernel
theorem d_MD_init_332 : decode b_MD_init 332 = .ok (.goto 13, 3) := by decide +kernel
theorem d_MD_init_335 : decode b_MD_init 335 = .ok (.iload_n 1, 1) := by decide +kernel
theorem d_MD_init_336 : decode b_MD_init 336 = .ok (.iconst 5, 1) := by decide +kernel
theorem d_MD_init_337 : decode b_MD_init 337 = .ok (.if_icmp .le 7, 3) := by decide +kernel
theorem d_MD_init_340 : decode b_MD_init 340 = .ok (.iconst 5, 1) := by decide +kernel
theorem d_MD_init_341 : decode b_MD_init 341 = .ok (.goto 4, 3) := by decide +kernel
theorem d_MD_init_344 : decode b_MD_init 344 = .ok (.iload_n 1, 1) := by decide +kernel
theorem d_MD_init_345 : decode b_MD_init 345 = .ok (.putfield 136, 3) := by decide +kernel
theorem d_MD_init_348 : decode b_MD_init 348 = .ok (.aload_n 0, 1) := by decide +kernel
theorem d_MD_init_349 : decode b_MD_init 349 = .ok (.iconst 2, 1) := by decide +kernel
theorem d_MD_init_350 : decode b_MD_init 350 = .ok (.aload_n 0, 1) := by decide +kernel
theorem d_MD_init_351 : decode b_MD_init 351 = .ok (.getfield 136, 3) := by decide +kernel
theorem d_MD_init_354 : decode b_MD_init 354 = .ok (.imul, 1) := by decide +kernel
theorem d_MD_init_355 : decode b_MD_init 355 = .ok (.bipush 6, 2) := by decide +kernel
theorem d_MD_init_357 : decode b_MD_init 357 = .ok (.iadd, 1) := by decide +kernel
theorem d_MD_init_358 : decode b_MD_init 358 = .ok (.putfield 139, 3) := by decide +kernel
theorem d_MD_init_361 : decode b_MD_init 361 = .ok (.aload_n 0, 1) := by decide +kernel
theorem d_MD_init_362 : decode b_MD_init 362 = .ok (.invokestatic 142, 3) := by decide +kernel
theorem d_MD_init_365 : decode b_MD_init 365 = .ok (.putfield 146, 3) := by decide +kernel
theorem d_MD_init_368 : decode b_MD_init 368 = .ok (.return_, 1) := by decide +kernel
theorem d_MD_craftPdu_0 : decode b_MD_craftPdu 0 = .ok (.lload_n 1, 1) := by decide +kernel
theorem d_MD_craftPdu_1 : decode b_MD_craftPdu 1 = .ok (.bipush 44, 2) := by decide +kernel
theorem d_MD_craftPdu_3 : decode b_MD_craftPdu 3 = .ok (.lshr, 1) := by decide +kernel
theorem d_MD_craftPdu_4 : decode b_MD_craftPdu 4 = .ok (.ldc2_w 162, 3) := by decide +kernel
theorem d_MD_craftPdu_7 : decode b_MD_craftPdu 7 = .ok (.land, 1) := by decide +kernel
theorem d_MD_craftPdu_8 : decode b_MD_craftPdu 8 = .ok (.l2i, 1) := by decide +kernel
theorem d_MD_craftPdu_9 : decode b_MD_craftPdu 9 = .ok (.istore_n 3, 1) := by decide +kernel
theorem d_MD_craftPdu_10 : decode b_MD_craftPdu 10 = .ok (.lload_n 1, 1) := by decide +kernel
theorem d_MD_craftPdu_11 : decode b_MD_craftPdu 11 = .ok (.bipush 40, 2) := by decide +kernel
theorem d_MD_craftPdu_13 : decode b_MD_craftPdu 13 = .ok (.lshr, 1) := by decide +kernel
theorem d_MD_craftPdu_14 : decode b_MD_craftPdu 14 = .ok (.ldc2_w 162, 3) := by decide +kernel
theorem d_MD_craftPdu_17 : decode b_MD_craftPdu 17 = .ok (.land, 1) := by decide +kernel
theorem d_MD_craftPdu_18 : decode b_MD_craftPdu 18 = .ok (.l2i, 1) := by decide +kernel
theorem d_MD_craftPdu_19 : decode b_MD_craftPdu 19 = .ok (.istore 4, 2) := by decide +kernel
theorem d_MD_craftPdu_21 : decode b_MD_craftPdu 21 = .ok (.lload_n 1, 1) := by decide +kernel
theorem d_MD_craftPdu_22 : decode b_MD_craftPdu 22 = .ok (.bipush 32, 2) := by decide +kernel
theorem d_MD_craftPdu_24 : decode b_MD_craftPdu 24 = .ok (.lshr, 1) := by decide +kernel
theorem d_MD_craftPdu_25 : decode b_MD_craftPdu 25 = .ok (.ldc2_w 247, 3) := by decide +kernel
theorem d_MD_craftPdu_28 : decode b_MD_craftPdu 28 = .ok (.land, 1) := by decide +kernel
theorem d_MD_craftPdu_29 : decode b_MD_craftPdu 29 = .ok (.l2i, 1) := by decide +kernel
theorem d_MD_craftPdu_30 : decode b_MD_craftPdu 30 = .ok (.istore 5, 2) := by decide +kernel
theorem d_MD_craftPdu_32 : decode b_MD_craftPdu 32 = .ok (.lload_n 1, 1) := by decide +kernel
theorem d_MD_craftPdu_33 : decode b_MD_craftPdu 33 = .ok (.l2i, 1) := by decide +kernel
theorem d_MD_craftPdu_34 : decode b_MD_craftPdu 34 = .ok (.istore 6, 2) := by decide +kernel
theorem d_MD_craftPdu_36 : decode b_MD_craftPdu 36 = .ok (.iload_n 3, 1) := by decide +kernel
theorem d_MD_craftPdu_37 : decode b_MD_craftPdu 37 = .ok (.iconst 1, 1) := by decide +kernel
theorem d_MD_craftPdu_38 : decode b_MD_craftPdu 38 = .ok (.if_icmp .lt 23, 3) := by decide +kernel
theorem d_MD_craftPdu_41 : decode b_MD_craftPdu 41 = .ok (.iload_n 3, 1) := by decide +kernel
theorem d_MD_craftPdu_42 : decode b_MD_craftPdu 42 = .ok (.iconst 5, 1) := by decide +kernel
theorem d_MD_craftPdu_43 : decode b_MD_craftPdu 43 = .ok (.if_icmp .gt 18, 3) := by decide +kernel
theorem d_MD_craftPdu_46 : decode b_MD_craftPdu 46 = .ok (.iload_n 3, 1) := by decide +kernel
theorem d_MD_craftPdu_47 : decode b_MD_craftPdu 47 = .ok (.iconst 5, 1) := by decide +kernel
theorem d_MD_craftPdu_48 : decode b_MD_craftPdu 48 = .ok (.if_icmp .ne 14, 3) := by decide +kernel
theorem d_MD_craftPdu_51 : decode b_MD_craftPdu 51 = .ok (.aload_n 0, 1) := by decide +kernel
theorem d_MD_craftPdu_52 : decode b_MD_craftPdu 52 = .ok (.getfield 88, 3) := by decide +kernel
theorem d_MD_craftPdu_55 : decode b_MD_craftPdu 55 = .ok (.iload 4, 2) := by decide +kernel
theorem d_MD_craftPdu_57 : decode b_MD_craftPdu 57 = .ok (.iaload, 1) := by decide +kernel
theorem d_MD_craftPdu_58 : decode b_MD_craftPdu 58 = .ok (.ifCond .ne 4, 3) := by decide +kernel
theorem d_MD_craftPdu_61 : decode b_MD_craftPdu 61 = .ok (.return_, 1) := by decide +kernel
theorem d_MD_craftPdu_62 : decode b_MD_craftPdu 62 = .ok (.aload_n 0, 1) := by decide +kernel
theorem d_MD_craftPdu_63 : decode b_MD_craftPdu 63 = .ok (.getfield 88, 3) := by decide +kernel
theorem d_MD_craftPdu_66 : decode b_MD_craftPdu 66 = .ok (.iload 4, 2) := by decide +kernel
theorem d_MD_craftPdu_68 : decode b_MD_craftPdu 68 = .ok (.aload_n 0, 1) := by decide +kernel
theorem d_MD_craftPdu_69 : decode b_MD_craftPdu 69 = .ok (.getfield 88, 3) := by decide +kernel
theorem d_MD_craftPdu_72 : decode b_MD_craftPdu 72 = .ok (.iload 4, 2) := by decide +kernel
theorem d_MD_craftPdu_74 : decode b_MD_craftPdu 74 = .ok (.iaload, 1) := by decide +kernel
theorem d_MD_craftPdu_75 : decode b_MD_craftPdu 75 = .ok (.ifCond .ne 7, 3) := by decide +kernel
theorem d_MD_craftPdu_78 : decode b_MD_craftPdu 78 = .ok (.iconst 1, 1) := by decide +kernel
theorem d_MD_craftPdu_79 : decode b_MD_craftPdu 79 = .ok (.goto 10, 3) := by decide +kernel
theorem d_MD_craftPdu_82 : decode b_MD_craftPdu 82 = .ok (.aload_n 0, 1) := by decide +kernel
theorem d_MD_craftPdu_83 : decode b_MD_craftPdu 83 = .ok (.getfield 88, 3) := by decide +kernel
theorem d_MD_craftPdu_86 : decode b_MD_craftPdu 86 = .ok (.iload 4, 2) := by decide +kernel
theorem d_MD_craftPdu_88 : decode b_MD_craftPdu 88 = .ok (.iaload, 1) := by decide +kernel
theorem d_MD_craftPdu_89 : decode b_MD_craftPdu 89 = .ok (.iastore, 1) := by decide +kernel
theorem d_MD_craftPdu_90 : decode b_MD_craftPdu 90 = .ok (.aload_n 0, 1) := by decide +kernel
theorem d_MD_craftPdu_91 : decode b_MD_craftPdu 91 = .ok (.getfield 121, 3) := by decide +kernel
theorem d_MD_craftPdu_94 : decode b_MD_craftPdu 94 = .ok (.iload 4, 2) := by decide +kernel
theorem d_MD_craftPdu_96 : decode b_MD_craftPdu 96 = .ok (.aload_n 0, 1) := by decide +kernel
theorem d_MD_craftPdu_97 : decode b_MD_craftPdu 97 = .ok (.getfield 121, 3) := by decide +kernel
theorem d_MD_craftPdu_100 : decode b_MD_craftPdu 100 = .ok (.iload 4, 2) := by decide +kernel
theorem d_MD_craftPdu_102 : decode b_MD_craftPdu 102 = .ok (.baload, 1) := by decide +kernel
theorem d_MD_craftPdu_103 : decode b_MD_craftPdu 103 = .ok (.ifCond .ne 13, 3) := by decide +kernel
theorem d_MD_craftPdu_106 : decode b_MD_craftPdu 106 = .ok (.iload_n 3, 1) := by decide +kernel
theorem d_MD_craftPdu_107 : decode b_MD_craftPdu 107 = .ok (.iconst 3, 1) := by decide +kernel
theorem d_MD_craftPdu_108 : decode b_MD_craftPdu 108 = .ok (.if_icmp .eq 8, 3) := by decide +kernel
theorem d_MD_craftPdu_111 : decode b_MD_craftPdu 111 = .ok (.iload_n 3, 1) := by decide +kernel
theorem d_MD_craftPdu_112 : decode b_MD_craftPdu 112 = .ok (.iconst 4, 1) := by decide +kernel
theorem d_MD_craftPdu_113 : decode b_MD_craftPdu 113 = .ok (.if_icmp .ne 7, 3) := by decide +kernel
theorem d_MD_craftPdu_116 : decode b_MD_craftPdu 116 = .ok (.iconst 1, 1) := by decide +kernel
theorem d_MD_craftPdu_117 : decode b_MD_craftPdu 117 = .ok (.goto 4, 3) := by decide +kernel
theorem d_MD_craftPdu_120 : decode b_MD_craftPdu 120 = .ok (.iconst 0, 1) := by decide +kernel
theorem d_MD_craftPdu_121 : decode b_MD_craftPdu 121 = .ok (.bastore, 1) := by decide +kernel
theorem d_MD_craftPdu_122 : decode b_MD_craftPdu 122 = .ok (.aload_n 0, 1) := by decide +kernel
theorem d_MD_craftPdu_123 : decode b_MD_craftPdu 123 = .ok (.getfield 88, 3) := by decide +kernel
theorem d_MD_craftPdu_126 : decode b_MD_craftPdu 126 = .ok (.iload 4, 2) := by decide +kernel
theorem d_MD_craftPdu_128 : decode b_MD_craftPdu 128 = .ok (.iaload, 1) := by decide +kernel
theorem d_MD_craftPdu_129 : decode b_MD_craftPdu 129 = .ok (.iconst 1, 1) := by decide +kernel
theorem d_MD_craftPdu_130 : decode b_MD_craftPdu 130 = .ok (.if_icmp .ne 61, 3) := by decide +kernel
theorem d_MD_craftPdu_133 : decode b_MD_craftPdu 133 = .ok (.aload_n 0, 1) := by decide +kernel
theorem d_MD_craftPdu_134 : decode b_MD_craftPdu 134 = .ok (.getfield 118, 3) := by decide +kernel
theorem d_MD_craftPdu_137 : decode b_MD_craftPdu 137 = .ok (.iload 4, 2) := by decide +kernel
theorem d_MD_craftPdu_139 : decode b_MD_craftPdu 139 = .ok (.bipush 12, 2) := by decide +kernel
theorem d_MD_craftPdu_141 : decode b_MD_craftPdu 141 = .ok (.aload_n 0, 1) := by decide +kernel
theorem d_MD_craftPdu_142 : decode b_MD_craftPdu 142 = .ok (.getfield 139, 3) := by decide +kernel
theorem d_MD_craftPdu_145 : decode b_MD_craftPdu 145 = .ok (.imul, 1) := by decide +kernel
theorem d_MD_craftPdu_146 : decode b_MD_craftPdu 146 = .ok (.iastore, 1) := by decide +kernel
theorem d_MD_craftPdu_147 : decode b_MD_craftPdu 147 = .ok (.iload_n 3, 1) := by decide +kernel
theorem d_MD_craftPdu_148 : decode b_MD_craftPdu 148 = .ok (.iconst 4, 1) := by decide +kernel
theorem d_MD_craftPdu_149 : decode b_MD_craftPdu 149 = .ok (.if_icmp .ne 13, 3) := by decide +kernel
theorem d_MD_craftPdu_152 : decode b_MD_craftPdu 152 = .ok (.aload_n 0, 1) := by decide +kernel
theorem d_MD_craftPdu_153 : decode b_MD_craftPdu 153 = .ok (.iload 4, 2) := by decide +kernel
theorem d_MD_craftPdu_155 : decode b_MD_craftPdu 155 = .ok (.iconst 5, 1) := by decide +kernel
theorem d_MD_craftPdu_156 : decode b_MD_craftPdu 156 = .ok (.invokevirtual 249, 3) := by decide +kernel
theorem d_MD_craftPdu_159 : decode b_MD_craftPdu 159 = .ok (.goto 54, 3) := by decide +kernel
theorem d_MD_craftPdu_162 : decode b_MD_craftPdu 162 = .ok (.iload_n 3, 1) := by decide +kernel
theorem d_MD_craftPdu_163 : decode b_MD_craftPdu 163 = .ok (.iconst 4, 1) := by decide +kernel
theorem d_MD_craftPdu_164 : decode b_MD_craftPdu 164 = .ok (.if_icmp .ge 49, 3) := by decide +kernel
theorem d_MD_craftPdu_167 : decode b_MD_craftPdu 167 = .ok (.aload_n 0, 1) := by decide +kernel
theorem d_MD_craftPdu_168 : decode b_MD_craftPdu 168 = .ok (.iload 4, 2) := by decide +kernel
theorem d_MD_craftPdu_170 : decode b_MD_craftPdu 170 = .ok (.iload_n 3, 1) := by decide +kernel
theorem d_MD_craftPdu_171 : decode b_MD_craftPdu 171 = .ok (.iload 5, 2) := by decide +kernel
theorem d_MD_craftPdu_173 : decode b_MD_craftPdu 173 = .ok (.iload 6, 2) := by decide +kernel
theorem d_MD_craftPdu_175 : decode b_MD_craftPdu 175 = .ok (.invokevirtual 253, 3) := by decide +kernel
theorem d_MD_craftPdu_178 : decode b_MD_craftPdu 178 = .ok (.ifCond .eq 35, 3) := by decide +kernel
theorem d_MD_craftPdu_181 : decode b_MD_craftPdu 181 = .ok (.aload_n 0, 1) := by decide +kernel
theorem d_MD_craftPdu_182 : decode b_MD_craftPdu 182 = .ok (.iload 4, 2) := by decide +kernel
theorem d_MD_craftPdu_184 : decode b_MD_craftPdu 184 = .ok (.iload_n 3, 1) := by decide +kernel
theorem d_MD_craftPdu_185 : decode b_MD_craftPdu 185 = .ok (.invokevirtual 257, 3) := by decide +kernel
theorem d_MD_craftPdu_188 : decode b_MD_craftPdu 188 = .ok (.goto 25, 3) := by decide +kernel
theorem d_MD_craftPdu_191 : decode b_MD_craftPdu 191 = .ok (.aload_n 0, 1) := by decide +kernel
theorem d_MD_craftPdu_192 : decode b_MD_craftPdu 192 = .ok (.getfield 88, 3) := by decide +kernel
theorem d_MD_craftPdu_195 : decode b_MD_craftPdu 195 = .ok (.iload 4, 2) := by decide +kernel
theorem d_MD_craftPdu_197 : decode b_MD_craftPdu 197 = .ok (.iaload, 1) := by decide +kernel
theorem d_MD_craftPdu_198 : decode b_MD_craftPdu 198 = .ok (.iconst 2, 1) := by decide +kernel
theorem d_MD_craftPdu_199 : decode b_MD_craftPdu 199 = .ok (.if_icmp .ne 14, 3) := by decide +kernel
theorem d_MD_craftPdu_202 : decode b_MD_craftPdu 202 = .ok (.iload_n 3, 1) := by decide +kernel
theorem d_MD_craftPdu_203 : decode b_MD_craftPdu 203 = .ok (.iconst 5, 1) := by decide +kernel
theorem d_MD_craftPdu_204 : decode b_MD_craftPdu 204 = .ok (.if_icmp .ne 9, 3) := by decide +kernel
theorem d_MD_craftPdu_207 : decode b_MD_craftPdu 207 = .ok (.aload_n 0, 1) := by decide +kernel
theorem d_MD_craftPdu_208 : decode b_MD_craftPdu 208 = .ok (.iload 4, 2) := by decide +kernel
theorem d_MD_craftPdu_210 : decode b_MD_craftPdu 210 = .ok (.invokevirtual 260, 3) := by decide +kernel
theorem d_MD_craftPdu_213 : decode b_MD_craftPdu 213 = .ok (.return_, 1) := by decide +kernel
theorem d_MD_takes_0 : decode b_MD_takes 0 = .ok (.iload_n 2, 1) := by decide +kernel
theorem d_MD_takes_1 : decode b_MD_takes 1 = .ok (.iconst 1, 1) := by decide +kernel
theorem d_MD_takes_2 : decode b_MD_takes 2 = .ok (.if_icmp .ne 8, 3) := by decide +kernel
theorem d_MD_takes_5 : decode b_MD_takes 5 = .ok (.bipush 16, 2) := by decide +kernel
theorem d_MD_takes_7 : decode b_MD_takes 7 = .ok (.goto 14, 3) := by decide +kernel
theorem d_MD_takes_10 : decode b_MD_takes 10 = .ok (.iload_n 2, 1) := by decide +kernel
theorem d_MD_takes_11 : decode b_MD_takes 11 = .ok (.iconst 3, 1) := by decide +kernel
theorem d_MD_takes_12 : decode b_MD_takes 12 = .ok (.if_icmp .ne 8, 3) := by decide +kernel
theorem d_MD_takes_15 : decode b_MD_takes 15 = .ok (.bipush 17, 2) := by decide +kernel
theorem d_MD_takes_17 : decode b_MD_takes 17 = .ok (.goto 4, 3) := by decide +kernel
theorem d_MD_takes_20 : decode b_MD_takes 20 = .ok (.iload_n 3, 1) := by decide +kernel
theorem d_MD_takes_21 : decode b_MD_takes 21 = .ok (.istore 5, 2) := by decide +kernel
theorem d_MD_takes_23 : decode b_MD_takes 23 = .ok (.iload_n 2, 1) := by decide +kernel
theorem d_MD_takes_24 : decode b_MD_takes 24 = .ok (.iconst 2, 1) := by decide +kernel
theorem d_MD_takes_25 : decode b_MD_takes 25 = .ok (.if_icmp .ne 17, 3) := by decide +kernel
theorem d_MD_takes_28 : decode b_MD_takes 28 = .ok (.iload_n 3, 1) := by decide +kernel
theorem d_MD_takes_29 : decode b_MD_takes 29 = .ok (.bipush 15, 2) := by decide +kernel
theorem d_MD_takes_31 : decode b_MD_takes 31 = .ok (.if_icmp .gt 7, 3) := by decide +kernel
theorem d_MD_takes_34 : decode b_MD_takes 34 = .ok (.iconst 1, 1) := by decide +kernel
theorem d_MD_takes_35 : decode b_MD_takes 35 = .ok (.goto 34, 3) := by decide +kernel
theorem d_MD_takes_38 : decode b_MD_takes 38 = .ok (.iconst 0, 1) := by decide +kernel
theorem d_MD_takes_39 : decode b_MD_takes 39 = .ok (.goto 30, 3) := by decide +kernel
theorem d_MD_takes_42 : decode b_MD_takes 42 = .ok (.iload_n 3, 1) := by decide +kernel
theorem d_MD_takes_43 : decode b_MD_takes 43 = .ok (.bipush 16, 2) := by decide +kernel
theorem d_MD_takes_45 : decode b_MD_takes 45 = .ok (.if_icmp .gt 23, 3) := by decide +kernel
theorem d_MD_takes_48 : decode b_MD_takes 48 = .ok (.iload_n 2, 1) := by decide +kernel
theorem d_MD_takes_49 : decode b_MD_takes 49 = .ok (.iconst 3, 1) := by decide +kernel
theorem d_MD_takes_50 : decode b_MD_takes 50 = .ok (.if_icmp .eq 14, 3) := by decide +kernel
theorem d_MD_takes_53 : decode b_MD_takes 53 = .ok (.iload 4, 2) := by decide +kernel
theorem d_MD_takes_55 : decode b_MD_takes 55 = .ok (.ifCond .lt 13, 3) := by decide +kernel
theorem d_MD_takes_58 : decode b_MD_takes 58 = .ok (.iload 4, 2) := by decide +kernel
theorem d_MD_takes_60 : decode b_MD_takes 60 = .ok (.iconst 3, 1) := by decide +kernel
theorem d_MD_takes_61 : decode b_MD_takes 61 = .ok (.if_icmp .gt 7, 3) := by decide +kernel
theorem d_MD_takes_64 : decode b_MD_takes 64 = .ok (.iconst 1, 1) := by decide +kernel
theorem d_MD_takes_65 : decode b_MD_takes 65 = .ok (.goto 4, 3) := by decide +kernel
theorem d_MD_takes_68 : decode b_MD_takes 68 = .ok (.iconst 0, 1) := by decide +kernel
theorem d_MD_takes_69 : decode b_MD_takes 69 = .ok (.istore 6, 2) := by decide +kernel
theorem d_MD_takes_71 : decode b_MD_takes 71 = .ok (.iload 6, 2) := by decide +kernel
theorem d_MD_takes_73 : decode b_MD_takes 73 = .ok (.ifCond .eq 17, 3) := by decide +kernel
theorem d_MD_takes_76 : decode b_MD_takes 76 = .ok (.aload_n 0, 1) := by decide +kernel
theorem d_MD_takes_77 : decode b_MD_takes 77 = .ok (.getfield 94, 3) := by decide +kernel
theorem d_MD_takes_80 : decode b_MD_takes 80 = .ok (.iload_n 1, 1) := by decide +kernel
theorem d_MD_takes_81 : decode b_MD_takes 81 = .ok (.iaload, 1) := by decide +kernel
theorem d_MD_takes_82 : decode b_MD_takes 82 = .ok (.iload 5, 2) := by decide +kernel
theorem d_MD_takes_84 : decode b_MD_takes 84 = .ok (.ishr, 1) := by decide +kernel
theorem d_MD_takes_85 : decode b_MD_takes 85 = .ok (.iconst 1, 1) := by decide +kernel
theorem d_MD_takes_86 : decode b_MD_takes 86 = .ok (.iand, 1) := by decide +kernel
theorem d_MD_takes_87 : decode b_MD_takes 87 = .ok (.ifCond .eq 5, 3) := by decide +kernel
theorem d_MD_takes_90 : decode b_MD_takes 90 = .ok (.iconst 0, 1) := by decide +kernel
theorem d_MD_takes_91 : decode b_MD_takes 91 = .ok (.ireturn, 1) := by decide +kernel
theorem d_MD_takes_92 : decode b_MD_takes 92 = .ok (.aload_n 0, 1) := by decide +kernel
theorem d_MD_takes_93 : decode b_MD_takes 93 = .ok (.getfield 94, 3) := by decide +kernel
theorem d_MD_takes_96 : decode b_MD_takes 96 = .ok (.iload_n 1, 1) := by decide +kernel
theorem d_MD_takes_97 : decode b_MD_takes 97 = .ok (.aload_n 0, 1) := by decide +kernel
theorem d_MD_takes_98 : decode b_MD_takes 98 = .ok (.getfield 94, 3) := by decide +kernel
theorem d_MD_takes_101 : decode b_MD_takes 101 = .ok (.iload_n 1, 1) := by decide +kernel
theorem d_MD_takes_102 : decode b_MD_takes 102 = .ok (.iaload, 1) := by decide +kernel
theorem d_MD_takes_103 : decode b_MD_takes 103 = .ok (.iconst 1, 1) := by decide +kernel
theorem d_MD_takes_104 : decode b_MD_takes 104 = .ok (.iload 5, 2) := by decide +kernel
theorem d_MD_takes_106 : decode b_MD_takes 106 = .ok (.ishl, 1) := by decide +kernel
theorem d_MD_takes_107 : decode b_MD_takes 107 = .ok (.ior, 1) := by decide +kernel
theorem d_MD_takes_108 : decode b_MD_takes 108 = .ok (.iastore, 1) := by decide +kernel
theorem d_MD_takes_109 : decode b_MD_takes 109 = .ok (.iload_n 2, 1) := by decide +kernel
theorem d_MD_takes_110 : decode b_MD_takes 110 = .ok (.iconst 1, 1) := by decide +kernel
theorem d_MD_takes_111 : decode b_MD_takes 111 = .ok (.if_icmp .ne 21, 3) := by decide +kernel
theorem d_MD_takes_114 : decode b_MD_takes 114 = .ok (.aload_n 0, 1) := by decide +kernel
theorem d_MD_takes_115 : decode b_MD_takes 115 = .ok (.getfield 100, 3) := by decide +kernel
theorem d_MD_takes_118 : decode b_MD_takes 118 = .ok (.iload_n 1, 1) := by decide +kernel
theorem d_MD_takes_119 : decode b_MD_takes 119 = .ok (.iload_n 3, 1) := by decide +kernel
theorem d_MD_takes_120 : decode b_MD_takes 120 = .ok (.iastore, 1) := by decide +kernel
theorem d_MD_takes_121 : decode b_MD_takes 121 = .ok (.aload_n 0, 1) := by decide +kernel
theorem d_MD_takes_122 : decode b_MD_takes 122 = .ok (.getfield 103, 3) := by decide +kernel
theorem d_MD_takes_125 : decode b_MD_takes 125 = .ok (.iload_n 1, 1) := by decide +kernel
theorem d_MD_takes_126 : decode b_MD_takes 126 = .ok (.iload 4, 2) := by decide +kernel
theorem d_MD_takes_128 : decode b_MD_takes 128 = .ok (.iastore, 1) := by decide +kernel
theorem d_MD_takes_129 : decode b_MD_takes 129 = .ok (.goto 39, 3) := by decide +kernel
theorem d_MD_takes_132 : decode b_MD_takes 132 = .ok (.iload_n 2, 1) := by decide +kernel
theorem d_MD_takes_133 : decode b_MD_takes 133 = .ok (.iconst 2, 1) := by decide +kernel
theorem d_MD_takes_134 : decode b_MD_takes 134 = .ok (.if_icmp .ne 19, 3) := by decide +kernel
theorem d_MD_takes_137 : decode b_MD_takes 137 = .ok (.aload_n 0, 1) := by decide +kernel
theorem d_MD_takes_138 : decode b_MD_takes 138 = .ok (.getfield 97, 3) := by decide +kernel
theorem d_MD_takes_141 : decode b_MD_takes 141 = .ok (.bipush 16, 2) := by decide +kernel
theorem d_MD_takes_143 : decode b_MD_takes 143 = .ok (.iload_n 1, 1) := by decide +kernel
theorem d_MD_takes_144 : decode b_MD_takes 144 = .ok (.imul, 1) := by decide +kernel
theorem d_MD_takes_145 : decode b_MD_takes 145 = .ok (.iload_n 3, 1) := by decide +kernel
theorem d_MD_takes_146 : decode b_MD_takes 146 = .ok (.iadd, 1) := by decide +kernel
theorem d_MD_takes_147 : decode b_MD_takes 147 = .ok (.iload 4, 2) := by decide +kernel
theorem d_MD_takes_149 : decode b_MD_takes 149 = .ok (.iastore, 1) := by decide +kernel
theorem d_MD_takes_150 : decode b_MD_takes 150 = .ok (.goto 18, 3) := by decide +kernel
theorem d_MD_takes_153 : decode b_MD_takes 153 = .ok (.aload_n 0, 1) := by decide +kernel
theorem d_MD_takes_154 : decode b_MD_takes 154 = .ok (.getfield 106, 3) := by decide +kernel
theorem d_MD_takes_157 : decode b_MD_takes 157 = .ok (.iload_n 1, 1) := by decide +kernel
theorem d_MD_takes_158 : decode b_MD_takes 158 = .ok (.iload_n 3, 1) := by decide +kernel
theorem d_MD_takes_159 : decode b_MD_takes 159 = .ok (.iastore, 1) := by decide +kernel
theorem d_MD_takes_160 : decode b_MD_takes 160 = .ok (.aload_n 0, 1) := by decide +kernel
theorem d_MD_takes_161 : decode b_MD_takes 161 = .ok (.getfield 109, 3) := by decide +kernel
theorem d_MD_takes_164 : decode b_MD_takes 164 = .ok (.iload_n 1, 1) := by decide +kernel
theorem d_MD_takes_165 : decode b_MD_takes 165 = .ok (.iload 4, 2) := by decide +kernel
theorem d_MD_takes_167 : decode b_MD_takes 167 = .ok (.iastore, 1) := by decide +kernel
theorem d_MD_takes_168 : decode b_MD_takes 168 = .ok (.aload_n 0, 1) := by decide +kernel
theorem d_MD_takes_169 : decode b_MD_takes 169 = .ok (.getfield 112, 3) := by decide +kernel
theorem d_MD_takes_172 : decode b_MD_takes 172 = .ok (.iload_n 1, 1) := by decide +kernel
theorem d_MD_takes_173 : decode b_MD_takes 173 = .ok (.iload_n 2, 1) := by decide +kernel
theorem d_MD_takes_174 : decode b_MD_takes 174 = .ok (.iconst 3, 1) := by decide +kernel
theorem d_MD_takes_175 : decode b_MD_takes 175 = .ok (.if_icmp .ne 12, 3) := by decide +kernel
theorem d_MD_takes_178 : decode b_MD_takes 178 = .ok (.aload_n 0, 1) := by decide +kernel
theorem d_MD_takes_179 : decode b_MD_takes 179 = .ok (.getfield 112, 3) := by decide +kernel
theorem d_MD_takes_182 : decode b_MD_takes 182 = .ok (.iload_n 1, 1) := by decide +kernel
theorem d_MD_takes_183 : decode b_MD_takes 183 = .ok (.iaload, 1) := by decide +kernel
theorem d_MD_takes_184 : decode b_MD_takes 184 = .ok (.goto 4, 3) := by decide +kernel
theorem d_MD_takes_187 : decode b_MD_takes 187 = .ok (.iconst 1, 1) := by decide +kernel
theorem d_MD_takes_188 : decode b_MD_takes 188 = .ok (.iastore, 1) := by decide +kernel
theorem d_MD_takes_189 : decode b_MD_takes 189 = .ok (.iconst 1, 1) := by decide +kernel
theorem d_MD_takes_190 : decode b_MD_takes 190 = .ok (.ireturn, 1) := by decide +kernel
theorem d_MD_whole_0 : decode b_MD_whole 0 = .ok (.aload_n 0, 1) := by decide +kernel
theorem d_MD_whole_1 : decode b_MD_whole 1 = .ok (.getfield 94, 3) := by decide +kernel
theorem d_MD_whole_4 : decode b_MD_whole 4 = .ok (.iload_n 1, 1) := by decide +kernel
theorem d_MD_whole_5 : decode b_MD_whole 5 = .ok (.iaload, 1) := by decide +kernel
theorem d_MD_whole_6 : decode b_MD_whole 6 = .ok (.bipush 17, 2) := by decide +kernel
theorem d_MD_whole_8 : decode b_MD_whole 8 = .ok (.ishr, 1) := by decide +kernel
theorem d_MD_whole_9 : decode b_MD_whole 9 = .ok (.iconst 1, 1) := by decide +kernel
theorem d_MD_whole_10 : decode b_MD_whole 10 = .ok (.iand, 1) := by decide +kernel
theorem d_MD_whole_11 : decode b_MD_whole 11 = .ok (.ifCond .ne 4, 3) := by decide +kernel
theorem d_MD_whole_14 : decode b_MD_whole 14 = .ok (.return_, 1) := by decide +kernel
theorem d_MD_whole_15 : decode b_MD_whole 15 = .ok (.aload_n 0, 1) := by decide +kernel
theorem d_MD_whole_16 : decode b_MD_whole 16 = .ok (.iload_n 1, 1) := by decide +kernel
theorem d_MD_whole_17 : decode b_MD_whole 17 = .ok (.invokevirtual 264, 3) := by decide +kernel
theorem d_MD_whole_20 : decode b_MD_whole 20 = .ok (.ifCond .eq 35, 3) := by decide +kernel
theorem d_MD_whole_23 : decode b_MD_whole 23 = .ok (.iload_n 2, 1) := by decide +kernel
theorem d_MD_whole_24 : decode b_MD_whole 24 = .ok (.iconst 3, 1) := by decide +kernel
theorem d_MD_whole_25 : decode b_MD_whole 25 = .ok (.if_icmp .ne 29, 3) := by decide +kernel
theorem d_MD_whole_28 : decode b_MD_whole 28 = .ok (.aload_n 0, 1) := by decide +kernel
theorem d_MD_whole_29 : decode b_MD_whole 29 = .ok (.getfield 124, 3) := by decide +kernel
theorem d_MD_whole_32 : decode b_MD_whole 32 = .ok (.iload_n 1, 1) := by decide +kernel
theorem d_MD_whole_33 : decode b_MD_whole 33 = .ok (.iconst 1, 1) := by decide +kernel
theorem d_MD_whole_34 : decode b_MD_whole 34 = .ok (.bastore, 1) := by decide +kernel
theorem d_MD_whole_35 : decode b_MD_whole 35 = .ok (.aload_n 0, 1) := by decide +kernel
theorem d_MD_whole_36 : decode b_MD_whole 36 = .ok (.getfield 115, 3) := by decide +kernel
theorem d_MD_whole_39 : decode b_MD_whole 39 = .ok (.iload_n 1, 1) := by decide +kernel
theorem d_MD_whole_40 : decode b_MD_whole 40 = .ok (.iconst 3, 1) := by decide +kernel
theorem d_MD_whole_41 : decode b_MD_whole 41 = .ok (.aload_n 0, 1) := by decide +kernel
theorem d_MD_whole_42 : decode b_MD_whole 42 = .ok (.getfield 139, 3) := by decide +kernel
theorem d_MD_whole_45 : decode b_MD_whole 45 = .ok (.imul, 1) := by decide +kernel
theorem d_MD_whole_46 : decode b_MD_whole 46 = .ok (.iastore, 1) := by decide +kernel
theorem d_MD_whole_47 : decode b_MD_whole 47 = .ok (.aload_n 0, 1) := by decide +kernel
theorem d_MD_whole_48 : decode b_MD_whole 48 = .ok (.getfield 112, 3) := by decide +kernel
theorem d_MD_whole_51 : decode b_MD_whole 51 = .ok (.iload_n 1, 1) := by decide +kernel
theorem d_MD_whole_52 : decode b_MD_whole 52 = .ok (.iconst 1, 1) := by decide +kernel
theorem d_MD_whole_53 : decode b_MD_whole 53 = .ok (.iastore, 1) := by decide +kernel
theorem d_MD_whole_54 : decode b_MD_whole 54 = .ok (.return_, 1) := by decide +kernel
theorem d_MD_whole_55 : decode b_MD_whole 55 = .ok (.iconst 0, 1) := by decide +kernel
theorem d_MD_whole_56 : decode b_MD_whole 56 = .ok (.istore_n 3, 1) := by decide +kernel
theorem d_MD_whole_57 : decode b_MD_whole 57 = .ok (.iconst 0, 1) := by decide +kernel
theorem d_MD_whole_58 : decode b_MD_whole 58 = .ok (.istore 4, 2) := by decide +kernel
theorem d_MD_whole_60 : decode b_MD_whole 60 = .ok (.iload 4, 2) := by decide +kernel
theorem d_MD_whole_62 : decode b_MD_whole 62 = .ok (.aload_n 0, 1) := by decide +kernel
theorem d_MD_whole_63 : decode b_MD_whole 63 = .ok (.getfield 106, 3) := by decide +kernel
theorem d_MD_whole_66 : decode b_MD_whole 66 = .ok (.iload_n 1, 1) := by decide +kernel
theorem d_MD_whole_67 : decode b_MD_whole 67 = .ok (.iaload, 1) := by decide +kernel
theorem d_MD_whole_68 : decode b_MD_whole 68 = .ok (.if_icmp .ge 24, 3) := by decide +kernel
theorem d_MD_whole_71 : decode b_MD_whole 71 = .ok (.iload_n 3, 1) := by decide +kernel
theorem d_MD_whole_72 : decode b_MD_whole 72 = .ok (.aload_n 0, 1) := by decide +kernel
theorem d_MD_whole_73 : decode b_MD_whole 73 = .ok (.getfield 97, 3) := by decide +kernel
theorem d_MD_whole_76 : decode b_MD_whole 76 = .ok (.bipush 16, 2) := by decide +kernel
theorem d_MD_whole_78 : decode b_MD_whole 78 = .ok (.iload_n 1, 1) := by decide +kernel
theorem d_MD_whole_79 : decode b_MD_whole 79 = .ok (.imul, 1) := by decide +kernel
theorem d_MD_whole_80 : decode b_MD_whole 80 = .ok (.iload 4, 2) := by decide +kernel
theorem d_MD_whole_82 : decode b_MD_whole 82 = .ok (.iadd, 1) := by decide +kernel
theorem d_MD_whole_83 : decode b_MD_whole 83 = .ok (.iaload, 1) := by decide +kernel
theorem d_MD_whole_84 : decode b_MD_whole 84 = .ok (.iadd, 1) := by decide +kernel
theorem d_MD_whole_85 : decode b_MD_whole 85 = .ok (.istore_n 3, 1) := by decide +kernel
theorem d_MD_whole_86 : decode b_MD_whole 86 = .ok (.iinc 4 1, 3) := by decide +kernel
theorem d_MD_whole_89 : decode b_MD_whole 89 = .ok (.goto (-29), 3) := by decide +kernel
theorem d_MD_whole_92 : decode b_MD_whole 92 = .ok (.aload_n 0, 1) := by decide +kernel
theorem d_MD_whole_93 : decode b_MD_whole 93 = .ok (.getfield 100, 3) := by decide +kernel
theorem d_MD_whole_96 : decode b_MD_whole 96 = .ok (.iload_n 1, 1) := by decide +kernel
theorem d_MD_whole_97 : decode b_MD_whole 97 = .ok (.iaload, 1) := by decide +kernel
theorem d_MD_whole_98 : decode b_MD_whole 98 = .ok (.aload_n 0, 1) := by decide +kernel
theorem d_MD_whole_99 : decode b_MD_whole 99 = .ok (.getfield 106, 3) := by decide +kernel
theorem d_MD_whole_102 : decode b_MD_whole 102 = .ok (.iload_n 1, 1) := by decide +kernel
theorem d_MD_whole_103 : decode b_MD_whole 103 = .ok (.iaload, 1) := by decide +kernel
theorem d_MD_whole_104 : decode b_MD_whole 104 = .ok (.if_icmp .ne 17, 3) := by decide +kernel
theorem d_MD_whole_107 : decode b_MD_whole 107 = .ok (.iload_n 3, 1) := by decide +kernel
theorem d_MD_whole_108 : decode b_MD_whole 108 = .ok (.aload_n 0, 1) := by decide +kernel
theorem d_MD_whole_109 : decode b_MD_whole 109 = .ok (.getfield 109, 3) := by decide +kernel
theorem d_MD_whole_112 : decode b_MD_whole 112 = .ok (.iload_n 1, 1) := by decide +kernel
theorem d_MD_whole_113 : decode b_MD_whole 113 = .ok (.iaload, 1) := by decide +kernel
theorem d_MD_whole_114 : decode b_MD_whole 114 = .ok (.if_icmp .ne 7, 3) := by decide +kernel
theorem d_MD_whole_117 : decode b_MD_whole 117 = .ok (.iconst 1, 1) := by decide +kernel
theorem d_MD_whole_118 : decode b_MD_whole 118 = .ok (.goto 4, 3) := by decide +kernel
theorem d_MD_whole_121 : decode b_MD_whole 121 = .ok (.iconst 0, 1) := by decide +kernel
theorem d_MD_whole_122 : decode b_MD_whole 122 = .ok (.istore 4, 2) := by decide +kernel
theorem d_MD_whole_124 : decode b_MD_whole 124 = .ok (.iload 4, 2) := by decide +kernel
theorem d_MD_whole_126 : decode b_MD_whole 126 = .ok (.ifCond .eq 69, 3) := by decide +kernel
theorem d_MD_whole_129 : decode b_MD_whole 129 = .ok (.aload_n 0, 1) := by decide +kernel
theorem d_MD_whole_130 : decode b_MD_whole 130 = .ok (.getfield 103, 3) := by decide +kernel
theorem d_MD_whole_133 : decode b_MD_whole 133 = .ok (.iload_n 1, 1) := by decide +kernel
theorem d_MD_whole_134 : decode b_MD_whole 134 = .ok (.iaload, 1) := by decide +kernel
theorem d_MD_whole_135 : decode b_MD_whole 135 = .ok (.istore 5, 2) := by decide +kernel
theorem d_MD_whole_137 : decode b_MD_whole 137 = .ok (.aload_n 0, 1) := by decide +kernel
theorem d_MD_whole_138 : decode b_MD_whole 138 = .ok (.getfield 130, 3) := by decide +kernel
theorem d_MD_whole_141 : decode b_MD_whole 141 = .ok (.iload 5, 2) := by decide +kernel
theorem d_MD_whole_143 : decode b_MD_whole 143 = .ok (.aload_n 0, 1) := by decide +kernel
theorem d_MD_whole_144 : decode b_MD_whole 144 = .ok (.getfield 106, 3) := by decide +kernel
theorem d_MD_whole_147 : decode b_MD_whole 147 = .ok (.iload_n 1, 1) := by decide +kernel
theorem d_MD_whole_148 : decode b_MD_whole 148 = .ok (.iaload, 1) := by decide +kernel
theorem d_MD_whole_149 : decode b_MD_whole 149 = .ok (.iastore, 1) := by decide +kernel
theorem d_MD_whole_150 : decode b_MD_whole 150 = .ok (.iconst 0, 1) := by decide +kernel
theorem d_MD_whole_151 : decode b_MD_whole 151 = .ok (.istore 6, 2) := by decide +kernel
theorem d_MD_whole_153 : decode b_MD_whole 153 = .ok (.iload 6, 2) := by decide +kernel
theorem d_MD_whole_155 : decode b_MD_whole 155 = .ok (.aload_n 0, 1) := by decide +kernel
theorem d_MD_whole_156 : decode b_MD_whole 156 = .ok (.getfield 106, 3) := by decide +kernel
theorem d_MD_whole_159 : decode b_MD_whole 159 = .ok (.iload_n 1, 1) := by decide +kernel
theorem d_MD_whole_160 : decode b_MD_whole 160 = .ok (.iaload, 1) := by decide +kernel
theorem d_MD_whole_161 : decode b_MD_whole 161 = .ok (.if_icmp .ge 34, 3) := by decide +kernel
theorem d_MD_whole_164 : decode b_MD_whole 164 = .ok (.aload_n 0, 1) := by decide +kernel
theorem d_MD_whole_165 : decode b_MD_whole 165 = .ok (.getfield 133, 3) := by decide +kernel
theorem d_MD_whole_168 : decode b_MD_whole 168 = .ok (.bipush 16, 2) := by decide +kernel
theorem d_MD_whole_170 : decode b_MD_whole 170 = .ok (.iload 5, 2) := by decide +kernel
theorem d_MD_whole_172 : decode b_MD_whole 172 = .ok (.imul, 1) := by decide +kernel
theorem d_MD_whole_173 : decode b_MD_whole 173 = .ok (.iload 6, 2) := by decide +kernel
theorem d_MD_whole_175 : decode b_MD_whole 175 = .ok (.iadd, 1) := by decide +kernel
theorem d_MD_whole_176 : decode b_MD_whole 176 = .ok (.aload_n 0, 1) := by decide +kernel
theorem d_MD_whole_177 : decode b_MD_whole 177 = .ok (.getfield 97, 3) := by decide +kernel
theorem d_MD_whole_180 : decode b_MD_whole 180 = .ok (.bipush 16, 2) := by decide +kernel
theorem d_MD_whole_182 : decode b_MD_whole 182 = .ok (.iload_n 1, 1) := by decide +kernel
theorem d_MD_whole_183 : decode b_MD_whole 183 = .ok (.imul, 1) := by decide +kernel
theorem d_MD_whole_184 : decode b_MD_whole 184 = .ok (.iload 6, 2) := by decide +kernel
theorem d_MD_whole_186 : decode b_MD_whole 186 = .ok (.iadd, 1) := by decide +kernel
theorem d_MD_whole_187 : decode b_MD_whole 187 = .ok (.iaload, 1) := by decide +kernel
theorem d_MD_whole_188 : decode b_MD_whole 188 = .ok (.iastore, 1) := by decide +kernel
theorem d_MD_whole_189 : decode b_MD_whole 189 = .ok (.iinc 6 1, 3) := by decide +kernel
theorem d_MD_whole_192 : decode b_MD_whole 192 = .ok (.goto (-39), 3) := by decide +kernel
theorem d_MD_whole_195 : decode b_MD_whole 195 = .ok (.aload_n 0, 1) := by decide +kernel
theorem d_MD_whole_196 : decode b_MD_whole 196 = .ok (.iload_n 1, 1) := by decide +kernel
theorem d_MD_whole_197 : decode b_MD_whole 197 = .ok (.iload 4, 2) := by decide +kernel
theorem d_MD_whole_199 : decode b_MD_whole 199 = .ok (.ifCond .eq 7, 3) := by decide +kernel
theorem d_MD_whole_202 : decode b_MD_whole 202 = .ok (.iconst 1, 1) := by decide +kernel
theorem d_MD_whole_203 : decode b_MD_whole 203 = .ok (.goto 4, 3) := by decide +kernel
theorem d_MD_whole_206 : decode b_MD_whole 206 = .ok (.iconst 2, 1) := by decide +kernel
theorem d_MD_whole_207 : decode b_MD_whole 207 = .ok (.invokevirtual 249, 3) := by decide +kernel
theorem d_MD_whole_210 : decode b_MD_whole 210 = .ok (.return_, 1) := by decide +kernel
