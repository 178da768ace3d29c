theorem dX12_box_163 : decode cX12_box 163 = .ok (.iload_n 3, 1) := by decide +kernel
theorem dX12_box_164 : decode cX12_box 164 = .ok (.iload 9, 2) := by decide +kernel
theorem dX12_box_166 : decode cX12_box 166 = .ok (.iconst 1, 1) := by decide +kernel
theorem dX12_box_167 : decode cX12_box 167 = .ok (.isub, 1) := by decide +kernel
theorem dX12_box_168 : decode cX12_box 168 = .ok (.invokestatic 228, 3) := by decide +kernel
theorem dX12_box_171 : decode cX12_box 171 = .ok (.iload 4, 2) := by decide +kernel
theorem dX12_box_173 : decode cX12_box 173 = .ok (.iload 5, 2) := by decide +kernel
theorem dX12_box_175 : decode cX12_box 175 = .ok (.iload 6, 2) := by decide +kernel
theorem dX12_box_177 : decode cX12_box 177 = .ok (.iload 7, 2) := by decide +kernel
theorem dX12_box_179 : decode cX12_box 179 = .ok (.invokevirtual 254, 3) := by decide +kernel
theorem dX12_box_182 : decode cX12_box 182 = .ok (.aload_n 0, 1) := by decide +kernel
theorem dX12_box_183 : decode cX12_box 183 = .ok (.iload_n 1, 1) := by decide +kernel
theorem dX12_box_184 : decode cX12_box 184 = .ok (.iconst 5, 1) := by decide +kernel
theorem dX12_box_185 : decode cX12_box 185 = .ok (.iload_n 2, 1) := by decide +kernel
theorem dX12_box_186 : decode cX12_box 186 = .ok (.iload 10, 2) := by decide +kernel
theorem dX12_box_188 : decode cX12_box 188 = .ok (.iconst 1, 1) := by decide +kernel
theorem dX12_box_189 : decode cX12_box 189 = .ok (.iadd, 1) := by decide +kernel
theorem dX12_box_190 : decode cX12_box 190 = .ok (.invokestatic 123, 3) := by decide +kernel
theorem dX12_box_193 : decode cX12_box 193 = .ok (.iload_n 3, 1) := by decide +kernel
theorem dX12_box_194 : decode cX12_box 194 = .ok (.iload 4, 2) := by decide +kernel
theorem dX12_box_196 : decode cX12_box 196 = .ok (.iload 5, 2) := by decide +kernel
theorem dX12_box_198 : decode cX12_box 198 = .ok (.iload 6, 2) := by decide +kernel
theorem dX12_box_200 : decode cX12_box 200 = .ok (.iload 7, 2) := by decide +kernel
theorem dX12_box_202 : decode cX12_box 202 = .ok (.invokevirtual 254, 3) := by decide +kernel
theorem dX12_box_205 : decode cX12_box 205 = .ok (.goto 156, 3) := by decide +kernel
theorem dX12_box_208 : decode cX12_box 208 = .ok (.iload 8, 2) := by decide +kernel
theorem dX12_box_210 : decode cX12_box 210 = .ok (.iconst 1, 1) := by decide +kernel
theorem dX12_box_211 : decode cX12_box 211 = .ok (.if_icmp .ne 78, 3) := by decide +kernel
theorem dX12_box_214 : decode cX12_box 214 = .ok (.aload_n 0, 1) := by decide +kernel
theorem dX12_box_215 : decode cX12_box 215 = .ok (.iload_n 1, 1) := by decide +kernel
theorem dX12_box_216 : decode cX12_box 216 = .ok (.iconst 3, 1) := by decide +kernel
theorem dX12_box_217 : decode cX12_box 217 = .ok (.iload_n 2, 1) := by decide +kernel
theorem dX12_box_218 : decode cX12_box 218 = .ok (.iload_n 3, 1) := by decide +kernel
theorem dX12_box_219 : decode cX12_box 219 = .ok (.iload 4, 2) := by decide +kernel
theorem dX12_box_221 : decode cX12_box 221 = .ok (.iload 9, 2) := by decide +kernel
theorem dX12_box_223 : decode cX12_box 223 = .ok (.invokestatic 123, 3) := by decide +kernel
theorem dX12_box_226 : decode cX12_box 226 = .ok (.iload 5, 2) := by decide +kernel
theorem dX12_box_228 : decode cX12_box 228 = .ok (.iload 10, 2) := by decide +kernel
theorem dX12_box_230 : decode cX12_box 230 = .ok (.invokestatic 228, 3) := by decide +kernel
theorem dX12_box_233 : decode cX12_box 233 = .ok (.iload 6, 2) := by decide +kernel
theorem dX12_box_235 : decode cX12_box 235 = .ok (.iload 7, 2) := by decide +kernel
theorem dX12_box_237 : decode cX12_box 237 = .ok (.invokevirtual 254, 3) := by decide +kernel
theorem dX12_box_240 : decode cX12_box 240 = .ok (.aload_n 0, 1) := by decide +kernel
theorem dX12_box_241 : decode cX12_box 241 = .ok (.iload_n 1, 1) := by decide +kernel
theorem dX12_box_242 : decode cX12_box 242 = .ok (.iconst 5, 1) := by decide +kernel
theorem dX12_box_243 : decode cX12_box 243 = .ok (.iload_n 2, 1) := by decide +kernel
theorem dX12_box_244 : decode cX12_box 244 = .ok (.iload_n 3, 1) := by decide +kernel
theorem dX12_box_245 : decode cX12_box 245 = .ok (.iload 4, 2) := by decide +kernel
theorem dX12_box_247 : decode cX12_box 247 = .ok (.iload 5, 2) := by decide +kernel
theorem dX12_box_249 : decode cX12_box 249 = .ok (.iload 9, 2) := by decide +kernel
theorem dX12_box_251 : decode cX12_box 251 = .ok (.iconst 1, 1) := by decide +kernel
theorem dX12_box_252 : decode cX12_box 252 = .ok (.isub, 1) := by decide +kernel
theorem dX12_box_253 : decode cX12_box 253 = .ok (.invokestatic 228, 3) := by decide +kernel
theorem dX12_box_256 : decode cX12_box 256 = .ok (.iload 6, 2) := by decide +kernel
theorem dX12_box_258 : decode cX12_box 258 = .ok (.iload 7, 2) := by decide +kernel
theorem dX12_box_260 : decode cX12_box 260 = .ok (.invokevirtual 254, 3) := by decide +kernel
theorem dX12_box_263 : decode cX12_box 263 = .ok (.aload_n 0, 1) := by decide +kernel
theorem dX12_box_264 : decode cX12_box 264 = .ok (.iload_n 1, 1) := by decide +kernel
theorem dX12_box_265 : decode cX12_box 265 = .ok (.iconst 5, 1) := by decide +kernel
theorem dX12_box_266 : decode cX12_box 266 = .ok (.iload_n 2, 1) := by decide +kernel
theorem dX12_box_267 : decode cX12_box 267 = .ok (.iload_n 3, 1) := by decide +kernel
theorem dX12_box_268 : decode cX12_box 268 = .ok (.iload 4, 2) := by decide +kernel
theorem dX12_box_270 : decode cX12_box 270 = .ok (.iload 10, 2) := by decide +kernel
theorem dX12_box_272 : decode cX12_box 272 = .ok (.iconst 1, 1) := by decide +kernel
theorem dX12_box_273 : decode cX12_box 273 = .ok (.iadd, 1) := by decide +kernel
theorem dX12_box_274 : decode cX12_box 274 = .ok (.invokestatic 123, 3) := by decide +kernel
theorem dX12_box_277 : decode cX12_box 277 = .ok (.iload 5, 2) := by decide +kernel
theorem dX12_box_279 : decode cX12_box 279 = .ok (.iload 6, 2) := by decide +kernel
theorem dX12_box_281 : decode cX12_box 281 = .ok (.iload 7, 2) := by decide +kernel
theorem dX12_box_283 : decode cX12_box 283 = .ok (.invokevirtual 254, 3) := by decide +kernel
theorem dX12_box_286 : decode cX12_box 286 = .ok (.goto 75, 3) := by decide +kernel
theorem dX12_box_289 : decode cX12_box 289 = .ok (.aload_n 0, 1) := by decide +kernel
theorem dX12_box_290 : decode cX12_box 290 = .ok (.iload_n 1, 1) := by decide +kernel
theorem dX12_box_291 : decode cX12_box 291 = .ok (.iconst 3, 1) := by decide +kernel
theorem dX12_box_292 : decode cX12_box 292 = .ok (.iload_n 2, 1) := by decide +kernel
theorem dX12_box_293 : decode cX12_box 293 = .ok (.iload_n 3, 1) := by decide +kernel
theorem dX12_box_294 : decode cX12_box 294 = .ok (.iload 4, 2) := by decide +kernel
theorem dX12_box_296 : decode cX12_box 296 = .ok (.iload 5, 2) := by decide +kernel
theorem dX12_box_298 : decode cX12_box 298 = .ok (.iload 6, 2) := by decide +kernel
theorem dX12_box_300 : decode cX12_box 300 = .ok (.iload 9, 2) := by decide +kernel
theorem dX12_box_302 : decode cX12_box 302 = .ok (.invokestatic 123, 3) := by decide +kernel
theorem dX12_box_305 : decode cX12_box 305 = .ok (.iload 7, 2) := by decide +kernel
theorem dX12_box_307 : decode cX12_box 307 = .ok (.iload 10, 2) := by decide +kernel
theorem dX12_box_309 : decode cX12_box 309 = .ok (.invokestatic 228, 3) := by decide +kernel
theorem dX12_box_312 : decode cX12_box 312 = .ok (.invokevirtual 254, 3) := by decide +kernel
theorem dX12_box_315 : decode cX12_box 315 = .ok (.aload_n 0, 1) := by decide +kernel
theorem dX12_box_316 : decode cX12_box 316 = .ok (.iload_n 1, 1) := by decide +kernel
theorem dX12_box_317 : decode cX12_box 317 = .ok (.iconst 5, 1) := by decide +kernel
theorem dX12_box_318 : decode cX12_box 318 = .ok (.iload_n 2, 1) := by decide +kernel
theorem dX12_box_319 : decode cX12_box 319 = .ok (.iload_n 3, 1) := by decide +kernel
theorem dX12_box_320 : decode cX12_box 320 = .ok (.iload 4, 2) := by decide +kernel
theorem dX12_box_322 : decode cX12_box 322 = .ok (.iload 5, 2) := by decide +kernel
theorem dX12_box_324 : decode cX12_box 324 = .ok (.iload 6, 2) := by decide +kernel
theorem dX12_box_326 : decode cX12_box 326 = .ok (.iload 7, 2) := by decide +kernel
theorem dX12_box_328 : decode cX12_box 328 = .ok (.iload 9, 2) := by decide +kernel
theorem dX12_box_330 : decode cX12_box 330 = .ok (.iconst 1, 1) := by decide +kernel
theorem dX12_box_331 : decode cX12_box 331 = .ok (.isub, 1) := by decide +kernel
theorem dX12_box_332 : decode cX12_box 332 = .ok (.invokestatic 228, 3) := by decide +kernel
theorem dX12_box_335 : decode cX12_box 335 = .ok (.invokevirtual 254, 3) := by decide +kernel
theorem dX12_box_338 : decode cX12_box 338 = .ok (.aload_n 0, 1) := by decide +kernel
theorem dX12_box_339 : decode cX12_box 339 = .ok (.iload_n 1, 1) := by decide +kernel
theorem dX12_box_340 : decode cX12_box 340 = .ok (.iconst 5, 1) := by decide +kernel
theorem dX12_box_341 : decode cX12_box 341 = .ok (.iload_n 2, 1) := by decide +kernel
theorem dX12_box_342 : decode cX12_box 342 = .ok (.iload_n 3, 1) := by decide +kernel
theorem dX12_box_343 : decode cX12_box 343 = .ok (.iload 4, 2) := by decide +kernel
theorem dX12_box_345 : decode cX12_box 345 = .ok (.iload 5, 2) := by decide +kernel
theorem dX12_box_347 : decode cX12_box 347 = .ok (.iload 6, 2) := by decide +kernel
theorem dX12_box_349 : decode cX12_box 349 = .ok (.iload 10, 2) := by decide +kernel
theorem dX12_box_351 : decode cX12_box 351 = .ok (.iconst 1, 1) := by decide +kernel
theorem dX12_box_352 : decode cX12_box 352 = .ok (.iadd, 1) := by decide +kernel
theorem dX12_box_353 : decode cX12_box 353 = .ok (.invokestatic 123, 3) := by decide +kernel
theorem dX12_box_356 : decode cX12_box 356 = .ok (.iload 7, 2) := by decide +kernel
theorem dX12_box_358 : decode cX12_box 358 = .ok (.invokevirtual 254, 3) := by decide +kernel
theorem dX12_box_361 : decode cX12_box 361 = .ok (.return_, 1) := by decide +kernel
theorem dX12_sizeOf_0 : decode cX12_sizeOf 0 = .ok (.iload_n 2, 1) := by decide +kernel
theorem dX12_sizeOf_1 : decode cX12_sizeOf 1 = .ok (.iload_n 1, 1) := by decide +kernel
theorem dX12_sizeOf_2 : decode cX12_sizeOf 2 = .ok (.isub, 1) := by decide +kernel
theorem dX12_sizeOf_3 : decode cX12_sizeOf 3 = .ok (.iconst 1, 1) := by decide +kernel
theorem dX12_sizeOf_4 : decode cX12_sizeOf 4 = .ok (.iadd, 1) := by decide +kernel
theorem dX12_sizeOf_5 : decode cX12_sizeOf 5 = .ok (.i2l, 1) := by decide +kernel
theorem dX12_sizeOf_6 : decode cX12_sizeOf 6 = .ok (.iload 4, 2) := by decide +kernel
theorem dX12_sizeOf_8 : decode cX12_sizeOf 8 = .ok (.iload_n 3, 1) := by decide +kernel
theorem dX12_sizeOf_9 : decode cX12_sizeOf 9 = .ok (.isub, 1) := by decide +kernel
theorem dX12_sizeOf_10 : decode cX12_sizeOf 10 = .ok (.iconst 1, 1) := by decide +kernel
theorem dX12_sizeOf_11 : decode cX12_sizeOf 11 = .ok (.iadd, 1) := by decide +kernel
theorem dX12_sizeOf_12 : decode cX12_sizeOf 12 = .ok (.i2l, 1) := by decide +kernel
theorem dX12_sizeOf_13 : decode cX12_sizeOf 13 = .ok (.lmul, 1) := by decide +kernel
theorem dX12_sizeOf_14 : decode cX12_sizeOf 14 = .ok (.aload_n 0, 1) := by decide +kernel
theorem dX12_sizeOf_15 : decode cX12_sizeOf 15 = .ok (.getfield 33, 3) := by decide +kernel
theorem dX12_sizeOf_18 : decode cX12_sizeOf 18 = .ok (.iload 6, 2) := by decide +kernel
theorem dX12_sizeOf_20 : decode cX12_sizeOf 20 = .ok (.iconst 1, 1) := by decide +kernel
theorem dX12_sizeOf_21 : decode cX12_sizeOf 21 = .ok (.iadd, 1) := by decide +kernel
theorem dX12_sizeOf_22 : decode cX12_sizeOf 22 = .ok (.iaload, 1) := by decide +kernel
theorem dX12_sizeOf_23 : decode cX12_sizeOf 23 = .ok (.aload_n 0, 1) := by decide +kernel
theorem dX12_sizeOf_24 : decode cX12_sizeOf 24 = .ok (.getfield 33, 3) := by decide +kernel
theorem dX12_sizeOf_27 : decode cX12_sizeOf 27 = .ok (.iload 5, 2) := by decide +kernel
theorem dX12_sizeOf_29 : decode cX12_sizeOf 29 = .ok (.iaload, 1) := by decide +kernel
theorem dX12_sizeOf_30 : decode cX12_sizeOf 30 = .ok (.isub, 1) := by decide +kernel
theorem dX12_sizeOf_31 : decode cX12_sizeOf 31 = .ok (.i2l, 1) := by decide +kernel
theorem dX12_sizeOf_32 : decode cX12_sizeOf 32 = .ok (.lmul, 1) := by decide +kernel
theorem dX12_sizeOf_33 : decode cX12_sizeOf 33 = .ok (.lreturn, 1) := by decide +kernel
theorem dX12_goes_0 : decode cX12_goes 0 = .ok (.iload_n 3, 1) := by decide +kernel
theorem dX12_goes_1 : decode cX12_goes 1 = .ok (.iload 4, 2) := by decide +kernel
theorem dX12_goes_3 : decode cX12_goes 3 = .ok (.if_icmp .gt 17, 3) := by decide +kernel
theorem dX12_goes_6 : decode cX12_goes 6 = .ok (.iload 5, 2) := by decide +kernel
theorem dX12_goes_8 : decode cX12_goes 8 = .ok (.iload 6, 2) := by decide +kernel
theorem dX12_goes_10 : decode cX12_goes 10 = .ok (.if_icmp .gt 10, 3) := by decide +kernel
theorem dX12_goes_13 : decode cX12_goes 13 = .ok (.iload 7, 2) := by decide +kernel
theorem dX12_goes_15 : decode cX12_goes 15 = .ok (.iload 8, 2) := by decide +kernel
theorem dX12_goes_17 : decode cX12_goes 17 = .ok (.if_icmp .le 4, 3) := by decide +kernel
theorem dX12_goes_20 : decode cX12_goes 20 = .ok (.return_, 1) := by decide +kernel
theorem dX12_goes_21 : decode cX12_goes 21 = .ok (.aload_n 0, 1) := by decide +kernel
theorem dX12_goes_22 : decode cX12_goes 22 = .ok (.getfield 9, 3) := by decide +kernel
theorem dX12_goes_25 : decode cX12_goes 25 = .ok (.bipush 103, 2) := by decide +kernel
theorem dX12_goes_27 : decode cX12_goes 27 = .ok (.bipush 7, 2) := by decide +kernel
theorem dX12_goes_29 : decode cX12_goes 29 = .ok (.iload_n 1, 1) := by decide +kernel
theorem dX12_goes_30 : decode cX12_goes 30 = .ok (.imul, 1) := by decide +kernel
theorem dX12_goes_31 : decode cX12_goes 31 = .ok (.iadd, 1) := by decide +kernel
theorem dX12_goes_32 : decode cX12_goes 32 = .ok (.iload_n 2, 1) := by decide +kernel
theorem dX12_goes_33 : decode cX12_goes 33 = .ok (.iadd, 1) := by decide +kernel
theorem dX12_goes_34 : decode cX12_goes 34 = .ok (.iaload, 1) := by decide +kernel
theorem dX12_goes_35 : decode cX12_goes 35 = .ok (.istore 9, 2) := by decide +kernel
theorem dX12_goes_37 : decode cX12_goes 37 = .ok (.aload_n 0, 1) := by decide +kernel
theorem dX12_goes_38 : decode cX12_goes 38 = .ok (.getfield 9, 3) := by decide +kernel
theorem dX12_goes_41 : decode cX12_goes 41 = .ok (.bipush 103, 2) := by decide +kernel
theorem dX12_goes_43 : decode cX12_goes 43 = .ok (.bipush 7, 2) := by decide +kernel
theorem dX12_goes_45 : decode cX12_goes 45 = .ok (.iload_n 1, 1) := by decide +kernel
theorem dX12_goes_46 : decode cX12_goes 46 = .ok (.imul, 1) := by decide +kernel
theorem dX12_goes_47 : decode cX12_goes 47 = .ok (.iadd, 1) := by decide +kernel
theorem dX12_goes_48 : decode cX12_goes 48 = .ok (.iload_n 2, 1) := by decide +kernel
theorem dX12_goes_49 : decode cX12_goes 49 = .ok (.iadd, 1) := by decide +kernel
theorem dX12_goes_50 : decode cX12_goes 50 = .ok (.iconst 1, 1) := by decide +kernel
theorem dX12_goes_51 : decode cX12_goes 51 = .ok (.iadd, 1) := by decide +kernel
theorem dX12_goes_52 : decode cX12_goes 52 = .ok (.iaload, 1) := by decide +kernel
theorem dX12_goes_53 : decode cX12_goes 53 = .ok (.istore 10, 2) := by decide +kernel
theorem dX12_goes_55 : decode cX12_goes 55 = .ok (.iload 9, 2) := by decide +kernel
theorem dX12_goes_57 : decode cX12_goes 57 = .ok (.ifCond .ne 24, 3) := by decide +kernel
theorem dX12_goes_60 : decode cX12_goes 60 = .ok (.aload_n 0, 1) := by decide +kernel
theorem dX12_goes_61 : decode cX12_goes 61 = .ok (.iload_n 1, 1) := by decide +kernel
theorem dX12_goes_62 : decode cX12_goes 62 = .ok (.iconst 1, 1) := by decide +kernel
theorem dX12_goes_63 : decode cX12_goes 63 = .ok (.iadd, 1) := by decide +kernel
theorem dX12_goes_64 : decode cX12_goes 64 = .ok (.iload_n 3, 1) := by decide +kernel
theorem dX12_goes_65 : decode cX12_goes 65 = .ok (.iload 4, 2) := by decide +kernel
theorem dX12_goes_67 : decode cX12_goes 67 = .ok (.iload 5, 2) := by decide +kernel
theorem dX12_goes_69 : decode cX12_goes 69 = .ok (.iload 6, 2) := by decide +kernel
theorem dX12_goes_71 : decode cX12_goes 71 = .ok (.iload 7, 2) := by decide +kernel
theorem dX12_goes_73 : decode cX12_goes 73 = .ok (.iload 8, 2) := by decide +kernel
theorem dX12_goes_75 : decode cX12_goes 75 = .ok (.invokevirtual 240, 3) := by decide +kernel
theorem dX12_goes_78 : decode cX12_goes 78 = .ok (.goto 75, 3) := by decide +kernel
theorem dX12_goes_81 : decode cX12_goes 81 = .ok (.iload 9, 2) := by decide +kernel
theorem dX12_goes_83 : decode cX12_goes 83 = .ok (.iconst 1, 1) := by decide +kernel
theorem dX12_goes_84 : decode cX12_goes 84 = .ok (.if_icmp .ne 24, 3) := by decide +kernel
theorem dX12_goes_87 : decode cX12_goes 87 = .ok (.aload_n 0, 1) := by decide +kernel
theorem dX12_goes_88 : decode cX12_goes 88 = .ok (.iload_n 1, 1) := by decide +kernel
theorem dX12_goes_89 : decode cX12_goes 89 = .ok (.iconst 2, 1) := by decide +kernel
theorem dX12_goes_90 : decode cX12_goes 90 = .ok (.iadd, 1) := by decide +kernel
theorem dX12_goes_91 : decode cX12_goes 91 = .ok (.iload_n 3, 1) := by decide +kernel
theorem dX12_goes_92 : decode cX12_goes 92 = .ok (.iload 4, 2) := by decide +kernel
theorem dX12_goes_94 : decode cX12_goes 94 = .ok (.iload 5, 2) := by decide +kernel
theorem dX12_goes_96 : decode cX12_goes 96 = .ok (.iload 6, 2) := by decide +kernel
theorem dX12_goes_98 : decode cX12_goes 98 = .ok (.iload 7, 2) := by decide +kernel
theorem dX12_goes_100 : decode cX12_goes 100 = .ok (.iload 8, 2) := by decide +kernel
theorem dX12_goes_102 : decode cX12_goes 102 = .ok (.invokevirtual 240, 3) := by decide +kernel
theorem dX12_goes_105 : decode cX12_goes 105 = .ok (.goto 48, 3) := by decide +kernel
theorem dX12_goes_108 : decode cX12_goes 108 = .ok (.aload_n 0, 1) := by decide +kernel
theorem dX12_goes_109 : decode cX12_goes 109 = .ok (.getfield 36, 3) := by decide +kernel
theorem dX12_goes_112 : decode cX12_goes 112 = .ok (.iload 9, 2) := by decide +kernel
theorem dX12_goes_114 : decode cX12_goes 114 = .ok (.iconst 2, 1) := by decide +kernel
theorem dX12_goes_115 : decode cX12_goes 115 = .ok (.if_icmp .ne 17, 3) := by decide +kernel
theorem dX12_goes_118 : decode cX12_goes 118 = .ok (.aload_n 0, 1) := by decide +kernel
theorem dX12_goes_119 : decode cX12_goes 119 = .ok (.iload 10, 2) := by decide +kernel
theorem dX12_goes_121 : decode cX12_goes 121 = .ok (.invokevirtual 120, 3) := by decide +kernel
theorem dX12_goes_124 : decode cX12_goes 124 = .ok (.ifCond .eq 8, 3) := by decide +kernel
theorem dX12_goes_127 : decode cX12_goes 127 = .ok (.iload 10, 2) := by decide +kernel
theorem dX12_goes_129 : decode cX12_goes 129 = .ok (.goto 5, 3) := by decide +kernel
theorem dX12_goes_132 : decode cX12_goes 132 = .ok (.bipush 8, 2) := by decide +kernel
theorem dX12_goes_134 : decode cX12_goes 134 = .ok (.dup2, 1) := by decide +kernel
theorem dX12_goes_135 : decode cX12_goes 135 = .ok (.laload, 1) := by decide +kernel
theorem dX12_goes_136 : decode cX12_goes 136 = .ok (.aload_n 0, 1) := by decide +kernel
theorem dX12_goes_137 : decode cX12_goes 137 = .ok (.iload_n 3, 1) := by decide +kernel
theorem dX12_goes_138 : decode cX12_goes 138 = .ok (.iload 4, 2) := by decide +kernel
theorem dX12_goes_140 : decode cX12_goes 140 = .ok (.iload 5, 2) := by decide +kernel
theorem dX12_goes_142 : decode cX12_goes 142 = .ok (.iload 6, 2) := by decide +kernel
theorem dX12_goes_144 : decode cX12_goes 144 = .ok (.iload 7, 2) := by decide +kernel
theorem dX12_goes_146 : decode cX12_goes 146 = .ok (.iload 8, 2) := by decide +kernel
theorem dX12_goes_148 : decode cX12_goes 148 = .ok (.invokevirtual 244, 3) := by decide +kernel
theorem dX12_goes_151 : decode cX12_goes 151 = .ok (.ladd, 1) := by decide +kernel
theorem dX12_goes_152 : decode cX12_goes 152 = .ok (.lastore, 1) := by decide +kernel
theorem dX12_goes_153 : decode cX12_goes 153 = .ok (.return_, 1) := by decide +kernel
theorem dX12_takenOf_0 : decode cX12_takenOf 0 = .ok (.iconst 0, 1) := by decide +kernel
theorem dX12_takenOf_1 : decode cX12_takenOf 1 = .ok (.istore 4, 2) := by decide +kernel
theorem dX12_takenOf_3 : decode cX12_takenOf 3 = .ok (.iload 4, 2) := by decide +kernel
theorem dX12_takenOf_5 : decode cX12_takenOf 5 = .ok (.aload_n 0, 1) := by decide +kernel
theorem dX12_takenOf_6 : decode cX12_takenOf 6 = .ok (.getfield 9, 3) := by decide +kernel
theorem dX12_takenOf_9 : decode cX12_takenOf 9 = .ok (.iconst 1, 1) := by decide +kernel
theorem dX12_takenOf_10 : decode cX12_takenOf 10 = .ok (.iaload, 1) := by decide +kernel
theorem dX12_takenOf_11 : decode cX12_takenOf 11 = .ok (.if_icmp .ge 160, 3) := by decide +kernel
theorem dX12_takenOf_14 : decode cX12_takenOf 14 = .ok (.aload_n 0, 1) := by decide +kernel
theorem dX12_takenOf_15 : decode cX12_takenOf 15 = .ok (.getfield 9, 3) := by decide +kernel
theorem dX12_takenOf_18 : decode cX12_takenOf 18 = .ok (.bipush 103, 2) := by decide +kernel
theorem dX12_takenOf_20 : decode cX12_takenOf 20 = .ok (.bipush 7, 2) := by decide +kernel
theorem dX12_takenOf_22 : decode cX12_takenOf 22 = .ok (.iload 4, 2) := by decide +kernel
theorem dX12_takenOf_24 : decode cX12_takenOf 24 = .ok (.imul, 1) := by decide +kernel
theorem dX12_takenOf_25 : decode cX12_takenOf 25 = .ok (.iadd, 1) := by decide +kernel
theorem dX12_takenOf_26 : decode cX12_takenOf 26 = .ok (.iaload, 1) := by decide +kernel
theorem dX12_takenOf_27 : decode cX12_takenOf 27 = .ok (.istore 5, 2) := by decide +kernel
theorem dX12_takenOf_29 : decode cX12_takenOf 29 = .ok (.iload 5, 2) := by decide +kernel
theorem dX12_takenOf_31 : decode cX12_takenOf 31 = .ok (.ifCond .ne 7, 3) := by decide +kernel
theorem dX12_takenOf_34 : decode cX12_takenOf 34 = .ok (.iload_n 1, 1) := by decide +kernel
theorem dX12_takenOf_35 : decode cX12_takenOf 35 = .ok (.goto 18, 3) := by decide +kernel
theorem dX12_takenOf_38 : decode cX12_takenOf 38 = .ok (.iload 5, 2) := by decide +kernel
theorem dX12_takenOf_40 : decode cX12_takenOf 40 = .ok (.iconst 1, 1) := by decide +kernel
theorem dX12_takenOf_41 : decode cX12_takenOf 41 = .ok (.if_icmp .ne 7, 3) := by decide +kernel
theorem dX12_takenOf_44 : decode cX12_takenOf 44 = .ok (.iload_n 2, 1) := by decide +kernel
theorem dX12_takenOf_45 : decode cX12_takenOf 45 = .ok (.goto 8, 3) := by decide +kernel
theorem dX12_takenOf_48 : decode cX12_takenOf 48 = .ok (.aload_n 0, 1) := by decide +kernel
theorem dX12_takenOf_49 : decode cX12_takenOf 49 = .ok (.iload_n 3, 1) := by decide +kernel
theorem dX12_takenOf_50 : decode cX12_takenOf 50 = .ok (.invokevirtual 237, 3) := by decide +kernel
theorem dX12_takenOf_53 : decode cX12_takenOf 53 = .ok (.istore 6, 2) := by decide +kernel
theorem dX12_takenOf_55 : decode cX12_takenOf 55 = .ok (.bipush 103, 2) := by decide +kernel
theorem dX12_takenOf_57 : decode cX12_takenOf 57 = .ok (.bipush 7, 2) := by decide +kernel
theorem dX12_takenOf_59 : decode cX12_takenOf 59 = .ok (.iload 4, 2) := by decide +kernel
theorem dX12_takenOf_61 : decode cX12_takenOf 61 = .ok (.imul, 1) := by decide +kernel
theorem dX12_takenOf_62 : decode cX12_takenOf 62 = .ok (.iadd, 1) := by decide +kernel
theorem dX12_takenOf_63 : decode cX12_takenOf 63 = .ok (.iload 6, 2) := by decide +kernel
theorem dX12_takenOf_65 : decode cX12_takenOf 65 = .ok (.i2l, 1) := by decide +kernel
theorem dX12_takenOf_66 : decode cX12_takenOf 66 = .ok (.aload_n 0, 1) := by decide +kernel
theorem dX12_takenOf_67 : decode cX12_takenOf 67 = .ok (.iload 4, 2) := by decide +kernel
theorem dX12_takenOf_69 : decode cX12_takenOf 69 = .ok (.invokevirtual 248, 3) := by decide +kernel
theorem dX12_takenOf_72 : decode cX12_takenOf 72 = .ok (.i2l, 1) := by decide +kernel
theorem dX12_takenOf_73 : decode cX12_takenOf 73 = .ok (.aload_n 0, 1) := by decide +kernel
theorem dX12_takenOf_74 : decode cX12_takenOf 74 = .ok (.iload 4, 2) := by decide +kernel
theorem dX12_takenOf_76 : decode cX12_takenOf 76 = .ok (.invokevirtual 251, 3) := by decide +kernel
theorem dX12_takenOf_79 : decode cX12_takenOf 79 = .ok (.i2l, 1) := by decide +kernel
theorem dX12_takenOf_80 : decode cX12_takenOf 80 = .ok (.invokestatic 83, 3) := by decide +kernel
theorem dX12_takenOf_83 : decode cX12_takenOf 83 = .ok (.ifCond .eq 7, 3) := by decide +kernel
theorem dX12_takenOf_86 : decode cX12_takenOf 86 = .ok (.iconst 3, 1) := by decide +kernel
theorem dX12_takenOf_87 : decode cX12_takenOf 87 = .ok (.goto 4, 3) := by decide +kernel
theorem dX12_takenOf_90 : decode cX12_takenOf 90 = .ok (.iconst 5, 1) := by decide +kernel
theorem dX12_takenOf_91 : decode cX12_takenOf 91 = .ok (.iadd, 1) := by decide +kernel
theorem dX12_takenOf_92 : decode cX12_takenOf 92 = .ok (.istore 7, 2) := by decide +kernel
theorem dX12_takenOf_94 : decode cX12_takenOf 94 = .ok (.aload_n 0, 1) := by decide +kernel
theorem dX12_takenOf_95 : decode cX12_takenOf 95 = .ok (.getfield 9, 3) := by decide +kernel
theorem dX12_takenOf_98 : decode cX12_takenOf 98 = .ok (.iload 7, 2) := by decide +kernel
theorem dX12_takenOf_100 : decode cX12_takenOf 100 = .ok (.iaload, 1) := by decide +kernel
theorem dX12_takenOf_101 : decode cX12_takenOf 101 = .ok (.iconst 3, 1) := by decide +kernel
theorem dX12_takenOf_102 : decode cX12_takenOf 102 = .ok (.if_icmp .ne 5, 3) := by decide +kernel
theorem dX12_takenOf_105 : decode cX12_takenOf 105 = .ok (.iconst (-1), 1) := by decide +kernel
theorem dX12_takenOf_106 : decode cX12_takenOf 106 = .ok (.ireturn, 1) := by decide +kernel
theorem dX12_takenOf_107 : decode cX12_takenOf 107 = .ok (.aload_n 0, 1) := by decide +kernel
theorem dX12_takenOf_108 : decode cX12_takenOf 108 = .ok (.getfield 9, 3) := by decide +kernel
theorem dX12_takenOf_111 : decode cX12_takenOf 111 = .ok (.iload 7, 2) := by decide +kernel
theorem dX12_takenOf_113 : decode cX12_takenOf 113 = .ok (.iaload, 1) := by decide +kernel
theorem dX12_takenOf_114 : decode cX12_takenOf 114 = .ok (.iconst 2, 1) := by decide +kernel
theorem dX12_takenOf_115 : decode cX12_takenOf 115 = .ok (.if_icmp .ne 33, 3) := by decide +kernel
theorem dX12_takenOf_118 : decode cX12_takenOf 118 = .ok (.aload_n 0, 1) := by decide +kernel
theorem dX12_takenOf_119 : decode cX12_takenOf 119 = .ok (.aload_n 0, 1) := by decide +kernel
theorem dX12_takenOf_120 : decode cX12_takenOf 120 = .ok (.getfield 9, 3) := by decide +kernel
theorem dX12_takenOf_123 : decode cX12_takenOf 123 = .ok (.iload 7, 2) := by decide +kernel
theorem dX12_takenOf_125 : decode cX12_takenOf 125 = .ok (.iconst 1, 1) := by decide +kernel
theorem dX12_takenOf_126 : decode cX12_takenOf 126 = .ok (.iadd, 1) := by decide +kernel
theorem dX12_takenOf_127 : decode cX12_takenOf 127 = .ok (.iaload, 1) := by decide +kernel
theorem dX12_takenOf_128 : decode cX12_takenOf 128 = .ok (.invokevirtual 120, 3) := by decide +kernel
theorem dX12_takenOf_131 : decode cX12_takenOf 131 = .ok (.ifCond .eq 15, 3) := by decide +kernel
theorem dX12_takenOf_134 : decode cX12_takenOf 134 = .ok (.aload_n 0, 1) := by decide +kernel
theorem dX12_takenOf_135 : decode cX12_takenOf 135 = .ok (.getfield 9, 3) := by decide +kernel
theorem dX12_takenOf_138 : decode cX12_takenOf 138 = .ok (.iload 7, 2) := by decide +kernel
theorem dX12_takenOf_140 : decode cX12_takenOf 140 = .ok (.iconst 1, 1) := by decide +kernel
theorem dX12_takenOf_141 : decode cX12_takenOf 141 = .ok (.iadd, 1) := by decide +kernel
theorem dX12_takenOf_142 : decode cX12_takenOf 142 = .ok (.iaload, 1) := by decide +kernel
theorem dX12_takenOf_143 : decode cX12_takenOf 143 = .ok (.goto 4, 3) := by decide +kernel
theorem dX12_takenOf_146 : decode cX12_takenOf 146 = .ok (.iconst (-1), 1) := by decide +kernel
theorem dX12_takenOf_147 : decode cX12_takenOf 147 = .ok (.ireturn, 1) := by decide +kernel
theorem dX12_takenOf_148 : decode cX12_takenOf 148 = .ok (.iload 4, 2) := by decide +kernel
theorem dX12_takenOf_150 : decode cX12_takenOf 150 = .ok (.aload_n 0, 1) := by decide +kernel
theorem dX12_takenOf_151 : decode cX12_takenOf 151 = .ok (.getfield 9, 3) := by decide +kernel
theorem dX12_takenOf_154 : decode cX12_takenOf 154 = .ok (.iload 7, 2) := by decide +kernel
theorem dX12_takenOf_156 : decode cX12_takenOf 156 = .ok (.iaload, 1) := by decide +kernel
theorem dX12_takenOf_157 : decode cX12_takenOf 157 = .ok (.ifCond .ne 7, 3) := by decide +kernel
theorem dX12_takenOf_160 : decode cX12_takenOf 160 = .ok (.iconst 1, 1) := by decide +kernel
theorem dX12_takenOf_161 : decode cX12_takenOf 161 = .ok (.goto 4, 3) := by decide +kernel
theorem dX12_takenOf_164 : decode cX12_takenOf 164 = .ok (.iconst 2, 1) := by decide +kernel
theorem dX12_takenOf_165 : decode cX12_takenOf 165 = .ok (.iadd, 1) := by decide +kernel
theorem dX12_takenOf_166 : decode cX12_takenOf 166 = .ok (.istore 4, 2) := by decide +kernel
theorem dX12_takenOf_168 : decode cX12_takenOf 168 = .ok (.goto (-165), 3) := by decide +kernel
theorem dX12_takenOf_171 : decode cX12_takenOf 171 = .ok (.iconst (-1), 1) := by decide +kernel
theorem dX12_takenOf_172 : decode cX12_takenOf 172 = .ok (.ireturn, 1) := by decide +kernel
theorem dX12_taken_0 : decode cX12_taken 0 = .ok (.aload_n 0, 1) := by decide +kernel
theorem dX12_taken_1 : decode cX12_taken 1 = .ok (.iconst 0, 1) := by decide +kernel
theorem dX12_taken_2 : decode cX12_taken 2 = .ok (.putfield 80, 3) := by decide +kernel
theorem dX12_taken_5 : decode cX12_taken 5 = .ok (.iload_n 1, 1) := by decide +kernel
theorem dX12_taken_6 : decode cX12_taken 6 = .ok (.i2l, 1) := by decide +kernel
theorem dX12_taken_7 : decode cX12_taken 7 = .ok (.lconst 0, 1) := by decide +kernel
theorem dX12_taken_8 : decode cX12_taken 8 = .ok (.ldc2_w 105, 3) := by decide +kernel
theorem dX12_taken_11 : decode cX12_taken 11 = .ok (.invokestatic 83, 3) := by decide +kernel
theorem dX12_taken_14 : decode cX12_taken 14 = .ok (.ifCond .eq 37, 3) := by decide +kernel
theorem dX12_taken_17 : decode cX12_taken 17 = .ok (.iload_n 2, 1) := by decide +kernel
theorem dX12_taken_18 : decode cX12_taken 18 = .ok (.i2l, 1) := by decide +kernel
theorem dX12_taken_19 : decode cX12_taken 19 = .ok (.lconst 0, 1) := by decide +kernel
theorem dX12_taken_20 : decode cX12_taken 20 = .ok (.ldc2_w 105, 3) := by decide +kernel
theorem dX12_taken_23 : decode cX12_taken 23 = .ok (.invokestatic 83, 3) := by decide +kernel
theorem dX12_taken_26 : decode cX12_taken 26 = .ok (.ifCond .eq 25, 3) := by decide +kernel
theorem dX12_taken_29 : decode cX12_taken 29 = .ok (.iload_n 3, 1) := by decide +kernel
theorem dX12_taken_30 : decode cX12_taken 30 = .ok (.i2l, 1) := by decide +kernel
theorem dX12_taken_31 : decode cX12_taken 31 = .ok (.lconst 0, 1) := by decide +kernel
theorem dX12_taken_32 : decode cX12_taken 32 = .ok (.ldc2_w 105, 3) := by decide +kernel
theorem dX12_taken_35 : decode cX12_taken 35 = .ok (.invokestatic 83, 3) := by decide +kernel
theorem dX12_taken_38 : decode cX12_taken 38 = .ok (.ifCond .eq 13, 3) := by decide +kernel
theorem dX12_taken_41 : decode cX12_taken 41 = .ok (.aload_n 0, 1) := by decide +kernel
theorem dX12_taken_42 : decode cX12_taken 42 = .ok (.iload_n 1, 1) := by decide +kernel
theorem dX12_taken_43 : decode cX12_taken 43 = .ok (.iload_n 2, 1) := by decide +kernel
theorem dX12_taken_44 : decode cX12_taken 44 = .ok (.iload_n 3, 1) := by decide +kernel
theorem dX12_taken_45 : decode cX12_taken 45 = .ok (.invokevirtual 258, 3) := by decide +kernel
theorem dX12_taken_48 : decode cX12_taken 48 = .ok (.goto 8, 3) := by decide +kernel
theorem dX12_taken_51 : decode cX12_taken 51 = .ok (.aload_n 0, 1) := by decide +kernel
theorem dX12_taken_52 : decode cX12_taken 52 = .ok (.iconst 1, 1) := by decide +kernel
theorem dX12_taken_53 : decode cX12_taken 53 = .ok (.invokevirtual 95, 3) := by decide +kernel
theorem dX12_taken_56 : decode cX12_taken 56 = .ok (.ireturn, 1) := by decide +kernel
theorem dX12_passes_0 : decode cX12_passes 0 = .ok (.aload_n 0, 1) := by decide +kernel
theorem dX12_passes_1 : decode cX12_passes 1 = .ok (.iconst 0, 1) := by decide +kernel
theorem dX12_passes_2 : decode cX12_passes 2 = .ok (.putfield 80, 3) := by decide +kernel
theorem dX12_passes_5 : decode cX12_passes 5 = .ok (.aload_n 0, 1) := by decide +kernel
theorem dX12_passes_6 : decode cX12_passes 6 = .ok (.iload_n 1, 1) := by decide +kernel
theorem dX12_passes_7 : decode cX12_passes 7 = .ok (.invokevirtual 99, 3) := by decide +kernel
theorem dX12_passes_10 : decode cX12_passes 10 = .ok (.ifCond .eq 16, 3) := by decide +kernel
theorem dX12_passes_13 : decode cX12_passes 13 = .ok (.iload_n 2, 1) := by decide +kernel
theorem dX12_passes_14 : decode cX12_passes 14 = .ok (.iconst (-1), 1) := by decide +kernel
theorem dX12_passes_15 : decode cX12_passes 15 = .ok (.if_icmp .eq 18, 3) := by decide +kernel
theorem dX12_passes_18 : decode cX12_passes 18 = .ok (.aload_n 0, 1) := by decide +kernel
theorem dX12_passes_19 : decode cX12_passes 19 = .ok (.iload_n 2, 1) := by decide +kernel
theorem dX12_passes_20 : decode cX12_passes 20 = .ok (.invokevirtual 99, 3) := by decide +kernel
theorem dX12_passes_23 : decode cX12_passes 23 = .ok (.ifCond .ne 10, 3) := by decide +kernel
theorem dX12_passes_26 : decode cX12_passes 26 = .ok (.aload_n 0, 1) := by decide +kernel
theorem dX12_passes_27 : decode cX12_passes 27 = .ok (.iconst 1, 1) := by decide +kernel
theorem dX12_passes_28 : decode cX12_passes 28 = .ok (.invokevirtual 95, 3) := by decide +kernel
theorem dX12_passes_31 : decode cX12_passes 31 = .ok (.i2l, 1) := by decide +kernel
theorem dX12_passes_32 : decode cX12_passes 32 = .ok (.lreturn, 1) := by decide +kernel
theorem dX12_passes_33 : decode cX12_passes 33 = .ok (.aload_n 0, 1) := by decide +kernel
theorem dX12_passes_34 : decode cX12_passes 34 = .ok (.iload_n 1, 1) := by decide +kernel
theorem dX12_passes_35 : decode cX12_passes 35 = .ok (.invokevirtual 261, 3) := by decide +kernel
theorem dX12_passes_38 : decode cX12_passes 38 = .ok (.aload_n 0, 1) := by decide +kernel
theorem dX12_passes_39 : decode cX12_passes 39 = .ok (.getfield 36, 3) := by decide +kernel
theorem dX12_passes_42 : decode cX12_passes 42 = .ok (.iload_n 2, 1) := by decide +kernel
theorem dX12_passes_43 : decode cX12_passes 43 = .ok (.iconst (-1), 1) := by decide +kernel
theorem dX12_passes_44 : decode cX12_passes 44 = .ok (.if_icmp .ne 8, 3) := by decide +kernel
theorem dX12_passes_47 : decode cX12_passes 47 = .ok (.bipush 8, 2) := by decide +kernel
theorem dX12_passes_49 : decode cX12_passes 49 = .ok (.goto 4, 3) := by decide +kernel
theorem dX12_passes_52 : decode cX12_passes 52 = .ok (.iload_n 2, 1) := by decide +kernel
theorem dX12_passes_53 : decode cX12_passes 53 = .ok (.laload, 1) := by decide +kernel
theorem dX12_passes_54 : decode cX12_passes 54 = .ok (.lreturn, 1) := by decide +kernel
theorem dX12_wrongOf_0 : decode cX12_wrongOf 0 = .ok (.aload_n 0, 1) := by decide +kernel
theorem dX12_wrongOf_1 : decode cX12_wrongOf 1 = .ok (.iload_n 1, 1) := by decide +kernel
theorem dX12_wrongOf_2 : decode cX12_wrongOf 2 = .ok (.invokevirtual 261, 3) := by decide +kernel
theorem dX12_wrongOf_5 : decode cX12_wrongOf 5 = .ok (.aload_n 0, 1) := by decide +kernel
theorem dX12_wrongOf_6 : decode cX12_wrongOf 6 = .ok (.iload_n 1, 1) := by decide +kernel
theorem dX12_wrongOf_7 : decode cX12_wrongOf 7 = .ok (.invokevirtual 120, 3) := by decide +kernel
theorem dX12_wrongOf_10 : decode cX12_wrongOf 10 = .ok (.ifCond .eq 22, 3) := by decide +kernel
theorem dX12_wrongOf_13 : decode cX12_wrongOf 13 = .ok (.aload_n 0, 1) := by decide +kernel
theorem dX12_wrongOf_14 : decode cX12_wrongOf 14 = .ok (.getfield 36, 3) := by decide +kernel
theorem dX12_wrongOf_17 : decode cX12_wrongOf 17 = .ok (.bipush 8, 2) := by decide +kernel
theorem dX12_wrongOf_19 : decode cX12_wrongOf 19 = .ok (.laload, 1) := by decide +kernel
theorem dX12_wrongOf_20 : decode cX12_wrongOf 20 = .ok (.aload_n 0, 1) := by decide +kernel
theorem dX12_wrongOf_21 : decode cX12_wrongOf 21 = .ok (.getfield 9, 3) := by decide +kernel
theorem dX12_wrongOf_24 : decode cX12_wrongOf 24 = .ok (.bipush 10, 2) := by decide +kernel
theorem dX12_wrongOf_26 : decode cX12_wrongOf 26 = .ok (.iaload, 1) := by decide +kernel
theorem dX12_wrongOf_27 : decode cX12_wrongOf 27 = .ok (.i2l, 1) := by decide +kernel
theorem dX12_wrongOf_28 : decode cX12_wrongOf 28 = .ok (.lmul, 1) := by decide +kernel
theorem dX12_wrongOf_29 : decode cX12_wrongOf 29 = .ok (.goto 4, 3) := by decide +kernel
theorem dX12_wrongOf_32 : decode cX12_wrongOf 32 = .ok (.lconst 0, 1) := by decide +kernel
theorem dX12_wrongOf_33 : decode cX12_wrongOf 33 = .ok (.lstore_n 2, 1) := by decide +kernel
theorem dX12_wrongOf_34 : decode cX12_wrongOf 34 = .ok (.iconst 0, 1) := by decide +kernel
theorem dX12_wrongOf_35 : decode cX12_wrongOf 35 = .ok (.istore 4, 2) := by decide +kernel
theorem dX12_wrongOf_37 : decode cX12_wrongOf 37 = .ok (.iload 4, 2) := by decide +kernel
theorem dX12_wrongOf_39 : decode cX12_wrongOf 39 = .ok (.aload_n 0, 1) := by decide +kernel
theorem dX12_wrongOf_40 : decode cX12_wrongOf 40 = .ok (.getfield 9, 3) := by decide +kernel
theorem dX12_wrongOf_43 : decode cX12_wrongOf 43 = .ok (.iconst 0, 1) := by decide +kernel
theorem dX12_wrongOf_44 : decode cX12_wrongOf 44 = .ok (.iaload, 1) := by decide +kernel
theorem dX12_wrongOf_45 : decode cX12_wrongOf 45 = .ok (.if_icmp .ge 43, 3) := by decide +kernel
theorem dX12_wrongOf_48 : decode cX12_wrongOf 48 = .ok (.iload 4, 2) := by decide +kernel
theorem dX12_wrongOf_50 : decode cX12_wrongOf 50 = .ok (.iload_n 1, 1) := by decide +kernel
theorem dX12_wrongOf_51 : decode cX12_wrongOf 51 = .ok (.if_icmp .eq 31, 3) := by decide +kernel
theorem dX12_wrongOf_54 : decode cX12_wrongOf 54 = .ok (.lload_n 2, 1) := by decide +kernel
theorem dX12_wrongOf_55 : decode cX12_wrongOf 55 = .ok (.aload_n 0, 1) := by decide +kernel
theorem dX12_wrongOf_56 : decode cX12_wrongOf 56 = .ok (.getfield 36, 3) := by decide +kernel
theorem dX12_wrongOf_59 : decode cX12_wrongOf 59 = .ok (.iload 4, 2) := by decide +kernel
theorem dX12_wrongOf_61 : decode cX12_wrongOf 61 = .ok (.laload, 1) := by decide +kernel
theorem dX12_wrongOf_62 : decode cX12_wrongOf 62 = .ok (.iconst 0, 1) := by decide +kernel
theorem dX12_wrongOf_63 : decode cX12_wrongOf 63 = .ok (.aload_n 0, 1) := by decide +kernel
theorem dX12_wrongOf_64 : decode cX12_wrongOf 64 = .ok (.iload 4, 2) := by decide +kernel
theorem dX12_wrongOf_66 : decode cX12_wrongOf 66 = .ok (.invokevirtual 264, 3) := by decide +kernel
theorem dX12_wrongOf_69 : decode cX12_wrongOf 69 = .ok (.aload_n 0, 1) := by decide +kernel
theorem dX12_wrongOf_70 : decode cX12_wrongOf 70 = .ok (.iload_n 1, 1) := by decide +kernel
theorem dX12_wrongOf_71 : decode cX12_wrongOf 71 = .ok (.invokevirtual 264, 3) := by decide +kernel
theorem dX12_wrongOf_74 : decode cX12_wrongOf 74 = .ok (.isub, 1) := by decide +kernel
theorem dX12_wrongOf_75 : decode cX12_wrongOf 75 = .ok (.invokestatic 123, 3) := by decide +kernel
theorem dX12_wrongOf_78 : decode cX12_wrongOf 78 = .ok (.i2l, 1) := by decide +kernel
theorem dX12_wrongOf_79 : decode cX12_wrongOf 79 = .ok (.lmul, 1) := by decide +kernel
theorem dX12_wrongOf_80 : decode cX12_wrongOf 80 = .ok (.ladd, 1) := by decide +kernel
theorem dX12_wrongOf_81 : decode cX12_wrongOf 81 = .ok (.lstore_n 2, 1) := by decide +kernel
theorem dX12_wrongOf_82 : decode cX12_wrongOf 82 = .ok (.iinc 4 1, 3) := by decide +kernel
theorem dX12_wrongOf_85 : decode cX12_wrongOf 85 = .ok (.goto (-48), 3) := by decide +kernel
theorem dX12_wrongOf_88 : decode cX12_wrongOf 88 = .ok (.lload_n 2, 1) := by decide +kernel
theorem dX12_wrongOf_89 : decode cX12_wrongOf 89 = .ok (.ldc2_w 267, 3) := by decide +kernel
theorem dX12_wrongOf_92 : decode cX12_wrongOf 92 = .ok (.lmul, 1) := by decide +kernel
theorem dX12_wrongOf_93 : decode cX12_wrongOf 93 = .ok (.aload_n 0, 1) := by decide +kernel
theorem dX12_wrongOf_94 : decode cX12_wrongOf 94 = .ok (.iload_n 1, 1) := by decide +kernel
theorem dX12_wrongOf_95 : decode cX12_wrongOf 95 = .ok (.invokevirtual 132, 3) := by decide +kernel
theorem dX12_wrongOf_98 : decode cX12_wrongOf 98 = .ok (.ldiv, 1) := by decide +kernel
theorem dX12_wrongOf_99 : decode cX12_wrongOf 99 = .ok (.lreturn, 1) := by decide +kernel
theorem dX12_wrong_0 : decode cX12_wrong 0 = .ok (.aload_n 0, 1) := by decide +kernel
theorem dX12_wrong_1 : decode cX12_wrong 1 = .ok (.iconst 0, 1) := by decide +kernel
theorem dX12_wrong_2 : decode cX12_wrong 2 = .ok (.putfield 80, 3) := by decide +kernel
theorem dX12_wrong_5 : decode cX12_wrong 5 = .ok (.aload_n 0, 1) := by decide +kernel
theorem dX12_wrong_6 : decode cX12_wrong 6 = .ok (.iload_n 1, 1) := by decide +kernel
theorem dX12_wrong_7 : decode cX12_wrong 7 = .ok (.invokevirtual 99, 3) := by decide +kernel
theorem dX12_wrong_10 : decode cX12_wrong 10 = .ok (.ifCond .eq 11, 3) := by decide +kernel
theorem dX12_wrong_13 : decode cX12_wrong 13 = .ok (.aload_n 0, 1) := by decide +kernel
theorem dX12_wrong_14 : decode cX12_wrong 14 = .ok (.iload_n 1, 1) := by decide +kernel
theorem dX12_wrong_15 : decode cX12_wrong 15 = .ok (.invokevirtual 269, 3) := by decide +kernel
theorem dX12_wrong_18 : decode cX12_wrong 18 = .ok (.goto 9, 3) := by decide +kernel
theorem dX12_wrong_21 : decode cX12_wrong 21 = .ok (.aload_n 0, 1) := by decide +kernel
theorem dX12_wrong_22 : decode cX12_wrong 22 = .ok (.iconst 1, 1) := by decide +kernel
theorem dX12_wrong_23 : decode cX12_wrong 23 = .ok (.invokevirtual 95, 3) := by decide +kernel
theorem dX12_wrong_26 : decode cX12_wrong 26 = .ok (.i2l, 1) := by decide +kernel
theorem dX12_wrong_27 : decode cX12_wrong 27 = .ok (.lreturn, 1) := by decide +kernel
theorem dX12_moves_0 : decode cX12_moves 0 = .ok (.aload_n 0, 1) := by decide +kernel
theorem dX12_moves_1 : decode cX12_moves 1 = .ok (.iload_n 1, 1) := by decide +kernel
theorem dX12_moves_2 : decode cX12_moves 2 = .ok (.putfield 30, 3) := by decide +kernel
theorem dX12_moves_5 : decode cX12_moves 5 = .ok (.aload_n 0, 1) := by decide +kernel
theorem dX12_moves_6 : decode cX12_moves 6 = .ok (.iconst 0, 1) := by decide +kernel
theorem dX12_moves_7 : decode cX12_moves 7 = .ok (.bipush 99, 2) := by decide +kernel
theorem dX12_moves_9 : decode cX12_moves 9 = .ok (.aload_n 0, 1) := by decide +kernel
theorem dX12_moves_10 : decode cX12_moves 10 = .ok (.getfield 9, 3) := by decide +kernel
theorem dX12_moves_13 : decode cX12_moves 13 = .ok (.bipush 103, 2) := by decide +kernel
theorem dX12_moves_15 : decode cX12_moves 15 = .ok (.bipush 7, 2) := by decide +kernel
theorem dX12_moves_17 : decode cX12_moves 17 = .ok (.iload_n 1, 1) := by decide +kernel
theorem dX12_moves_18 : decode cX12_moves 18 = .ok (.imul, 1) := by decide +kernel
theorem dX12_moves_19 : decode cX12_moves 19 = .ok (.iadd, 1) := by decide +kernel
theorem dX12_moves_20 : decode cX12_moves 20 = .ok (.iconst 1, 1) := by decide +kernel
theorem dX12_moves_21 : decode cX12_moves 21 = .ok (.iadd, 1) := by decide +kernel
theorem dX12_moves_22 : decode cX12_moves 22 = .ok (.iaload, 1) := by decide +kernel
theorem dX12_moves_23 : decode cX12_moves 23 = .ok (.iload_n 2, 1) := by decide +kernel
theorem dX12_moves_24 : decode cX12_moves 24 = .ok (.iadd, 1) := by decide +kernel
theorem dX12_moves_25 : decode cX12_moves 25 = .ok (.invokestatic 228, 3) := by decide +kernel
theorem dX12_moves_28 : decode cX12_moves 28 = .ok (.invokestatic 123, 3) := by decide +kernel
theorem dX12_moves_31 : decode cX12_moves 31 = .ok (.putfield 231, 3) := by decide +kernel
theorem dX12_moves_34 : decode cX12_moves 34 = .ok (.aload_n 0, 1) := by decide +kernel
theorem dX12_moves_35 : decode cX12_moves 35 = .ok (.iconst 0, 1) := by decide +kernel
theorem dX12_moves_36 : decode cX12_moves 36 = .ok (.bipush 99, 2) := by decide +kernel
theorem dX12_moves_38 : decode cX12_moves 38 = .ok (.aload_n 0, 1) := by decide +kernel
theorem dX12_moves_39 : decode cX12_moves 39 = .ok (.getfield 9, 3) := by decide +kernel
theorem dX12_moves_42 : decode cX12_moves 42 = .ok (.bipush 103, 2) := by decide +kernel
theorem dX12_moves_44 : decode cX12_moves 44 = .ok (.bipush 7, 2) := by decide +kernel
theorem dX12_moves_46 : decode cX12_moves 46 = .ok (.iload_n 1, 1) := by decide +kernel
theorem dX12_moves_47 : decode cX12_moves 47 = .ok (.imul, 1) := by decide +kernel
theorem dX12_moves_48 : decode cX12_moves 48 = .ok (.iadd, 1) := by decide +kernel
theorem dX12_moves_49 : decode cX12_moves 49 = .ok (.iconst 2, 1) := by decide +kernel
theorem dX12_moves_50 : decode cX12_moves 50 = .ok (.iadd, 1) := by decide +kernel
theorem dX12_moves_51 : decode cX12_moves 51 = .ok (.iaload, 1) := by decide +kernel
theorem dX12_moves_52 : decode cX12_moves 52 = .ok (.iload_n 3, 1) := by decide +kernel
theorem dX12_moves_53 : decode cX12_moves 53 = .ok (.iadd, 1) := by decide +kernel
theorem dX12_moves_54 : decode cX12_moves 54 = .ok (.invokestatic 228, 3) := by decide +kernel
theorem dX12_moves_57 : decode cX12_moves 57 = .ok (.invokestatic 123, 3) := by decide +kernel
theorem dX12_moves_60 : decode cX12_moves 60 = .ok (.putfield 234, 3) := by decide +kernel
theorem dX12_moves_63 : decode cX12_moves 63 = .ok (.return_, 1) := by decide +kernel
theorem dX12_lossOf_0 : decode cX12_lossOf 0 = .ok (.aload_n 0, 1) := by decide +kernel
theorem dX12_lossOf_1 : decode cX12_lossOf 1 = .ok (.iload_n 1, 1) := by decide +kernel
theorem dX12_lossOf_2 : decode cX12_lossOf 2 = .ok (.iload_n 2, 1) := by decide +kernel
theorem dX12_lossOf_3 : decode cX12_lossOf 3 = .ok (.iload_n 3, 1) := by decide +kernel
theorem dX12_lossOf_4 : decode cX12_lossOf 4 = .ok (.invokevirtual 272, 3) := by decide +kernel
theorem dX12_lossOf_7 : decode cX12_lossOf 7 = .ok (.lconst 0, 1) := by decide +kernel
theorem dX12_lossOf_8 : decode cX12_lossOf 8 = .ok (.lstore 4, 2) := by decide +kernel
theorem dX12_lossOf_10 : decode cX12_lossOf 10 = .ok (.iconst 0, 1) := by decide +kernel
theorem dX12_lossOf_11 : decode cX12_lossOf 11 = .ok (.istore 6, 2) := by decide +kernel
theorem dX12_lossOf_13 : decode cX12_lossOf 13 = .ok (.iload 6, 2) := by decide +kernel
theorem dX12_lossOf_15 : decode cX12_lossOf 15 = .ok (.aload_n 0, 1) := by decide +kernel
theorem dX12_lossOf_16 : decode cX12_lossOf 16 = .ok (.getfield 9, 3) := by decide +kernel
theorem dX12_lossOf_19 : decode cX12_lossOf 19 = .ok (.iconst 0, 1) := by decide +kernel
theorem dX12_lossOf_20 : decode cX12_lossOf 20 = .ok (.iaload, 1) := by decide +kernel
theorem dX12_lossOf_21 : decode cX12_lossOf 21 = .ok (.if_icmp .ge 41, 3) := by decide +kernel
theorem dX12_lossOf_24 : decode cX12_lossOf 24 = .ok (.aload_n 0, 1) := by decide +kernel
theorem dX12_lossOf_25 : decode cX12_lossOf 25 = .ok (.iload 6, 2) := by decide +kernel
theorem dX12_lossOf_27 : decode cX12_lossOf 27 = .ok (.bipush 10, 2) := by decide +kernel
theorem dX12_lossOf_29 : decode cX12_lossOf 29 = .ok (.invokevirtual 117, 3) := by decide +kernel
theorem dX12_lossOf_32 : decode cX12_lossOf 32 = .ok (.ifCond .le 24, 3) := by decide +kernel
theorem dX12_lossOf_35 : decode cX12_lossOf 35 = .ok (.lload 4, 2) := by decide +kernel
theorem dX12_lossOf_37 : decode cX12_lossOf 37 = .ok (.aload_n 0, 1) := by decide +kernel
theorem dX12_lossOf_38 : decode cX12_lossOf 38 = .ok (.iload 6, 2) := by decide +kernel
theorem dX12_lossOf_40 : decode cX12_lossOf 40 = .ok (.bipush 10, 2) := by decide +kernel
theorem dX12_lossOf_42 : decode cX12_lossOf 42 = .ok (.invokevirtual 117, 3) := by decide +kernel
theorem dX12_lossOf_45 : decode cX12_lossOf 45 = .ok (.i2l, 1) := by decide +kernel
theorem dX12_lossOf_46 : decode cX12_lossOf 46 = .ok (.aload_n 0, 1) := by decide +kernel
theorem dX12_lossOf_47 : decode cX12_lossOf 47 = .ok (.iload 6, 2) := by decide +kernel
theorem dX12_lossOf_49 : decode cX12_lossOf 49 = .ok (.invokevirtual 269, 3) := by decide +kernel
theorem dX12_lossOf_52 : decode cX12_lossOf 52 = .ok (.lmul, 1) := by decide +kernel
theorem dX12_lossOf_53 : decode cX12_lossOf 53 = .ok (.ladd, 1) := by decide +kernel
theorem dX12_lossOf_54 : decode cX12_lossOf 54 = .ok (.lstore 4, 2) := by decide +kernel
theorem dX12_lossOf_56 : decode cX12_lossOf 56 = .ok (.iinc 6 1, 3) := by decide +kernel
theorem dX12_lossOf_59 : decode cX12_lossOf 59 = .ok (.goto (-46), 3) := by decide +kernel
theorem dX12_lossOf_62 : decode cX12_lossOf 62 = .ok (.aload_n 0, 1) := by decide +kernel
theorem dX12_lossOf_63 : decode cX12_lossOf 63 = .ok (.iconst (-1), 1) := by decide +kernel
theorem dX12_lossOf_64 : decode cX12_lossOf 64 = .ok (.putfield 30, 3) := by decide +kernel
theorem dX12_lossOf_67 : decode cX12_lossOf 67 = .ok (.lload 4, 2) := by decide +kernel
theorem dX12_lossOf_69 : decode cX12_lossOf 69 = .ok (.lreturn, 1) := by decide +kernel
theorem dX12_moveFault_0 : decode cX12_moveFault 0 = .ok (.aload_n 0, 1) := by decide +kernel
theorem dX12_moveFault_1 : decode cX12_moveFault 1 = .ok (.iload_n 1, 1) := by decide +kernel
theorem dX12_moveFault_2 : decode cX12_moveFault 2 = .ok (.invokevirtual 225, 3) := by decide +kernel
theorem dX12_moveFault_5 : decode cX12_moveFault 5 = .ok (.ifCond .ne 7, 3) := by decide +kernel
theorem dX12_moveFault_8 : decode cX12_moveFault 8 = .ok (.iconst 1, 1) := by decide +kernel
theorem dX12_moveFault_9 : decode cX12_moveFault 9 = .ok (.goto 36, 3) := by decide +kernel
theorem dX12_moveFault_12 : decode cX12_moveFault 12 = .ok (.iload_n 2, 1) := by decide +kernel
theorem dX12_moveFault_13 : decode cX12_moveFault 13 = .ok (.i2l, 1) := by decide +kernel
theorem dX12_moveFault_14 : decode cX12_moveFault 14 = .ok (.ldc2_w 276, 3) := by decide +kernel
theorem dX12_moveFault_17 : decode cX12_moveFault 17 = .ok (.ldc2_w 105, 3) := by decide +kernel
theorem dX12_moveFault_20 : decode cX12_moveFault 20 = .ok (.invokestatic 83, 3) := by decide +kernel
theorem dX12_moveFault_23 : decode cX12_moveFault 23 = .ok (.ifCond .eq 21, 3) := by decide +kernel
theorem dX12_moveFault_26 : decode cX12_moveFault 26 = .ok (.iload_n 3, 1) := by decide +kernel
theorem dX12_moveFault_27 : decode cX12_moveFault 27 = .ok (.i2l, 1) := by decide +kernel
theorem dX12_moveFault_28 : decode cX12_moveFault 28 = .ok (.ldc2_w 276, 3) := by decide +kernel
theorem dX12_moveFault_31 : decode cX12_moveFault 31 = .ok (.ldc2_w 105, 3) := by decide +kernel
theorem dX12_moveFault_34 : decode cX12_moveFault 34 = .ok (.invokestatic 83, 3) := by decide +kernel
theorem dX12_moveFault_37 : decode cX12_moveFault 37 = .ok (.ifCond .eq 7, 3) := by decide +kernel
theorem dX12_moveFault_40 : decode cX12_moveFault 40 = .ok (.iconst 0, 1) := by decide +kernel
theorem dX12_moveFault_41 : decode cX12_moveFault 41 = .ok (.goto 4, 3) := by decide +kernel
theorem dX12_moveFault_44 : decode cX12_moveFault 44 = .ok (.iconst 2, 1) := by decide +kernel
theorem dX12_moveFault_45 : decode cX12_moveFault 45 = .ok (.ireturn, 1) := by decide +kernel
theorem dX12_loss_0 : decode cX12_loss 0 = .ok (.aload_n 0, 1) := by decide +kernel
theorem dX12_loss_1 : decode cX12_loss 1 = .ok (.aload_n 0, 1) := by decide +kernel
theorem dX12_loss_2 : decode cX12_loss 2 = .ok (.iload_n 1, 1) := by decide +kernel
theorem dX12_loss_3 : decode cX12_loss 3 = .ok (.iload_n 2, 1) := by decide +kernel
theorem dX12_loss_4 : decode cX12_loss 4 = .ok (.iload_n 3, 1) := by decide +kernel
theorem dX12_loss_5 : decode cX12_loss 5 = .ok (.invokevirtual 278, 3) := by decide +kernel
theorem dX12_loss_8 : decode cX12_loss 8 = .ok (.putfield 80, 3) := by decide +kernel
theorem dX12_loss_11 : decode cX12_loss 11 = .ok (.aload_n 0, 1) := by decide +kernel
theorem dX12_loss_12 : decode cX12_loss 12 = .ok (.getfield 80, 3) := by decide +kernel
theorem dX12_loss_15 : decode cX12_loss 15 = .ok (.ifCond .le 7, 3) := by decide +kernel
theorem dX12_loss_18 : decode cX12_loss 18 = .ok (.lconst 0, 1) := by decide +kernel
theorem dX12_loss_19 : decode cX12_loss 19 = .ok (.goto 10, 3) := by decide +kernel
theorem dX12_loss_22 : decode cX12_loss 22 = .ok (.aload_n 0, 1) := by decide +kernel
theorem dX12_loss_23 : decode cX12_loss 23 = .ok (.iload_n 1, 1) := by decide +kernel
theorem dX12_loss_24 : decode cX12_loss 24 = .ok (.iload_n 2, 1) := by decide +kernel
theorem dX12_loss_25 : decode cX12_loss 25 = .ok (.iload_n 3, 1) := by decide +kernel
theorem dX12_loss_26 : decode cX12_loss 26 = .ok (.invokevirtual 281, 3) := by decide +kernel
theorem dX12_loss_29 : decode cX12_loss 29 = .ok (.lreturn, 1) := by decide +kernel
theorem dX12_best_0 : decode cX12_best 0 = .ok (.aload_n 0, 1) := by decide +kernel
theorem dX12_best_1 : decode cX12_best 1 = .ok (.aload_n 0, 1) := by decide +kernel
theorem dX12_best_2 : decode cX12_best 2 = .ok (.iload_n 1, 1) := by decide +kernel
theorem dX12_best_3 : decode cX12_best 3 = .ok (.invokevirtual 225, 3) := by decide +kernel
theorem dX12_best_6 : decode cX12_best 6 = .ok (.ifCond .ne 7, 3) := by decide +kernel
theorem dX12_best_9 : decode cX12_best 9 = .ok (.iconst 1, 1) := by decide +kernel
theorem dX12_best_10 : decode cX12_best 10 = .ok (.goto 20, 3) := by decide +kernel
theorem dX12_best_13 : decode cX12_best 13 = .ok (.iload_n 2, 1) := by decide +kernel
theorem dX12_best_14 : decode cX12_best 14 = .ok (.i2l, 1) := by decide +kernel
theorem dX12_best_15 : decode cX12_best 15 = .ok (.lconst 0, 1) := by decide +kernel
theorem dX12_best_16 : decode cX12_best 16 = .ok (.ldc2_w 103, 3) := by decide +kernel
theorem dX12_best_19 : decode cX12_best 19 = .ok (.invokestatic 83, 3) := by decide +kernel
theorem dX12_best_22 : decode cX12_best 22 = .ok (.ifCond .eq 7, 3) := by decide +kernel
theorem dX12_best_25 : decode cX12_best 25 = .ok (.iconst 0, 1) := by decide +kernel
theorem dX12_best_26 : decode cX12_best 26 = .ok (.goto 4, 3) := by decide +kernel
theorem dX12_best_29 : decode cX12_best 29 = .ok (.iconst 2, 1) := by decide +kernel
theorem dX12_best_30 : decode cX12_best 30 = .ok (.putfield 80, 3) := by decide +kernel
theorem dX12_best_33 : decode cX12_best 33 = .ok (.aload_n 0, 1) := by decide +kernel
theorem dX12_best_34 : decode cX12_best 34 = .ok (.getfield 80, 3) := by decide +kernel
theorem dX12_best_37 : decode cX12_best 37 = .ok (.ifCond .le 5, 3) := by decide +kernel
theorem dX12_best_40 : decode cX12_best 40 = .ok (.lconst 0, 1) := by decide +kernel
theorem dX12_best_41 : decode cX12_best 41 = .ok (.lreturn, 1) := by decide +kernel
theorem dX12_best_42 : decode cX12_best 42 = .ok (.lconst 0, 1) := by decide +kernel
theorem dX12_best_43 : decode cX12_best 43 = .ok (.lstore_n 3, 1) := by decide +kernel
theorem dX12_best_44 : decode cX12_best 44 = .ok (.iconst 0, 1) := by decide +kernel
theorem dX12_best_45 : decode cX12_best 45 = .ok (.istore 5, 2) := by decide +kernel
theorem dX12_best_47 : decode cX12_best 47 = .ok (.iconst 0, 1) := by decide +kernel
theorem dX12_best_48 : decode cX12_best 48 = .ok (.istore 6, 2) := by decide +kernel
theorem dX12_best_50 : decode cX12_best 50 = .ok (.iconst 0, 1) := by decide +kernel
theorem dX12_best_51 : decode cX12_best 51 = .ok (.istore 7, 2) := by decide +kernel
theorem dX12_best_53 : decode cX12_best 53 = .ok (.iconst 0, 1) := by decide +kernel
theorem dX12_best_54 : decode cX12_best 54 = .ok (.istore 8, 2) := by decide +kernel
theorem dX12_best_56 : decode cX12_best 56 = .ok (.iload 8, 2) := by decide +kernel
theorem dX12_best_58 : decode cX12_best 58 = .ok (.bipush 8, 2) := by decide +kernel
theorem dX12_best_60 : decode cX12_best 60 = .ok (.if_icmp .gt 100, 3) := by decide +kernel
theorem dX12_best_63 : decode cX12_best 63 = .ok (.bipush (-4), 2) := by decide +kernel
theorem dX12_best_65 : decode cX12_best 65 = .ok (.istore 9, 2) := by decide +kernel
theorem dX12_best_67 : decode cX12_best 67 = .ok (.iload 9, 2) := by decide +kernel
theorem dX12_best_69 : decode cX12_best 69 = .ok (.iconst 4, 1) := by decide +kernel
theorem dX12_best_70 : decode cX12_best 70 = .ok (.if_icmp .gt 84, 3) := by decide +kernel
theorem dX12_best_73 : decode cX12_best 73 = .ok (.bipush (-4), 2) := by decide +kernel
theorem dX12_best_75 : decode cX12_best 75 = .ok (.istore 10, 2) := by decide +kernel
theorem dX12_best_77 : decode cX12_best 77 = .ok (.iload 10, 2) := by decide +kernel
theorem dX12_best_79 : decode cX12_best 79 = .ok (.iconst 4, 1) := by decide +kernel
theorem dX12_best_80 : decode cX12_best 80 = .ok (.if_icmp .gt 68, 3) := by decide +kernel
theorem dX12_best_83 : decode cX12_best 83 = .ok (.iload 9, 2) := by decide +kernel
theorem dX12_best_85 : decode cX12_best 85 = .ok (.invokestatic 285, 3) := by decide +kernel
theorem dX12_best_88 : decode cX12_best 88 = .ok (.iload 10, 2) := by decide +kernel
theorem dX12_best_90 : decode cX12_best 90 = .ok (.invokestatic 285, 3) := by decide +kernel
theorem dX12_best_93 : decode cX12_best 93 = .ok (.iadd, 1) := by decide +kernel
theorem dX12_best_94 : decode cX12_best 94 = .ok (.iload 8, 2) := by decide +kernel
theorem dX12_best_96 : decode cX12_best 96 = .ok (.if_icmp .eq 6, 3) := by decide +kernel
theorem dX12_best_99 : decode cX12_best 99 = .ok (.goto 43, 3) := by decide +kernel
theorem dX12_best_102 : decode cX12_best 102 = .ok (.aload_n 0, 1) := by decide +kernel
theorem dX12_best_103 : decode cX12_best 103 = .ok (.iload_n 1, 1) := by decide +kernel
theorem dX12_best_104 : decode cX12_best 104 = .ok (.iload 9, 2) := by decide +kernel
theorem dX12_best_106 : decode cX12_best 106 = .ok (.iload 10, 2) := by decide +kernel
theorem dX12_best_108 : decode cX12_best 108 = .ok (.invokevirtual 281, 3) := by decide +kernel
theorem dX12_best_111 : decode cX12_best 111 = .ok (.lstore 11, 2) := by decide +kernel
theorem dX12_best_113 : decode cX12_best 113 = .ok (.iload 7, 2) := by decide +kernel
theorem dX12_best_115 : decode cX12_best 115 = .ok (.ifCond .eq 13, 3) := by decide +kernel
theorem dX12_best_118 : decode cX12_best 118 = .ok (.lload 11, 2) := by decide +kernel
theorem dX12_best_120 : decode cX12_best 120 = .ok (.lload_n 3, 1) := by decide +kernel
theorem dX12_best_121 : decode cX12_best 121 = .ok (.lcmp, 1) := by decide +kernel
theorem dX12_best_122 : decode cX12_best 122 = .ok (.ifCond .lt 6, 3) := by decide +kernel
theorem dX12_best_125 : decode cX12_best 125 = .ok (.goto 17, 3) := by decide +kernel
theorem dX12_best_128 : decode cX12_best 128 = .ok (.iconst 1, 1) := by decide +kernel
theorem dX12_best_129 : decode cX12_best 129 = .ok (.istore 7, 2) := by decide +kernel
theorem dX12_best_131 : decode cX12_best 131 = .ok (.lload 11, 2) := by decide +kernel
theorem dX12_best_133 : decode cX12_best 133 = .ok (.lstore_n 3, 1) := by decide +kernel
theorem dX12_best_134 : decode cX12_best 134 = .ok (.iload 9, 2) := by decide +kernel
theorem dX12_best_136 : decode cX12_best 136 = .ok (.istore 5, 2) := by decide +kernel
theorem dX12_best_138 : decode cX12_best 138 = .ok (.iload 10, 2) := by decide +kernel
theorem dX12_best_140 : decode cX12_best 140 = .ok (.istore 6, 2) := by decide +kernel
theorem dX12_best_142 : decode cX12_best 142 = .ok (.iinc 10 1, 3) := by decide +kernel
theorem dX12_best_145 : decode cX12_best 145 = .ok (.goto (-68), 3) := by decide +kernel
theorem dX12_best_148 : decode cX12_best 148 = .ok (.iinc 9 1, 3) := by decide +kernel
theorem dX12_best_151 : decode cX12_best 151 = .ok (.goto (-84), 3) := by decide +kernel
theorem dX12_best_154 : decode cX12_best 154 = .ok (.iinc 8 1, 3) := by decide +kernel
theorem dX12_best_157 : decode cX12_best 157 = .ok (.goto (-101), 3) := by decide +kernel
theorem dX12_best_160 : decode cX12_best 160 = .ok (.iload_n 2, 1) := by decide +kernel
theorem dX12_best_161 : decode cX12_best 161 = .ok (.ifCond .ne 9, 3) := by decide +kernel
theorem dX12_best_164 : decode cX12_best 164 = .ok (.iload 5, 2) := by decide +kernel
theorem dX12_best_166 : decode cX12_best 166 = .ok (.i2l, 1) := by decide +kernel
theorem dX12_best_167 : decode cX12_best 167 = .ok (.goto 15, 3) := by decide +kernel
theorem dX12_best_170 : decode cX12_best 170 = .ok (.iload_n 2, 1) := by decide +kernel
theorem dX12_best_171 : decode cX12_best 171 = .ok (.iconst 1, 1) := by decide +kernel
theorem dX12_best_172 : decode cX12_best 172 = .ok (.if_icmp .ne 9, 3) := by decide +kernel
theorem dX12_best_175 : decode cX12_best 175 = .ok (.iload 6, 2) := by decide +kernel
theorem dX12_best_177 : decode cX12_best 177 = .ok (.i2l, 1) := by decide +kernel
theorem dX12_best_178 : decode cX12_best 178 = .ok (.goto 4, 3) := by decide +kernel
theorem dX12_best_181 : decode cX12_best 181 = .ok (.lload_n 3, 1) := by decide +kernel
theorem dX12_best_182 : decode cX12_best 182 = .ok (.lreturn, 1) := by decide +kernel
theorem dX12_move_0 : decode cX12_move 0 = .ok (.aload_n 0, 1) := by decide +kernel
theorem dX12_move_1 : decode cX12_move 1 = .ok (.aload_n 0, 1) := by decide +kernel
theorem dX12_move_2 : decode cX12_move 2 = .ok (.iload_n 1, 1) := by decide +kernel
theorem dX12_move_3 : decode cX12_move 3 = .ok (.iload_n 2, 1) := by decide +kernel
theorem dX12_move_4 : decode cX12_move 4 = .ok (.iload_n 3, 1) := by decide +kernel
theorem dX12_move_5 : decode cX12_move 5 = .ok (.invokevirtual 278, 3) := by decide +kernel
theorem dX12_move_8 : decode cX12_move 8 = .ok (.putfield 80, 3) := by decide +kernel
theorem dX12_move_11 : decode cX12_move 11 = .ok (.aload_n 0, 1) := by decide +kernel
theorem dX12_move_12 : decode cX12_move 12 = .ok (.getfield 80, 3) := by decide +kernel
theorem dX12_move_15 : decode cX12_move 15 = .ok (.ifCond .le 5, 3) := by decide +kernel
theorem dX12_move_18 : decode cX12_move 18 = .ok (.iconst 0, 1) := by decide +kernel
theorem dX12_move_19 : decode cX12_move 19 = .ok (.ireturn, 1) := by decide +kernel
theorem dX12_move_20 : decode cX12_move 20 = .ok (.aload_n 0, 1) := by decide +kernel
theorem dX12_move_21 : decode cX12_move 21 = .ok (.iload_n 1, 1) := by decide +kernel
theorem dX12_move_22 : decode cX12_move 22 = .ok (.iload_n 2, 1) := by decide +kernel
theorem dX12_move_23 : decode cX12_move 23 = .ok (.iload_n 3, 1) := by decide +kernel
theorem dX12_move_24 : decode cX12_move 24 = .ok (.invokevirtual 272, 3) := by decide +kernel
theorem dX12_move_27 : decode cX12_move 27 = .ok (.aload_n 0, 1) := by decide +kernel
theorem dX12_move_28 : decode cX12_move 28 = .ok (.iconst (-1), 1) := by decide +kernel
theorem dX12_move_29 : decode cX12_move 29 = .ok (.putfield 30, 3) := by decide +kernel
theorem dX12_move_32 : decode cX12_move 32 = .ok (.aload_n 0, 1) := by decide +kernel
theorem dX12_move_33 : decode cX12_move 33 = .ok (.getfield 231, 3) := by decide +kernel
theorem dX12_move_36 : decode cX12_move 36 = .ok (.aload_n 0, 1) := by decide +kernel
theorem dX12_move_37 : decode cX12_move 37 = .ok (.getfield 234, 3) := by decide +kernel
theorem dX12_move_40 : decode cX12_move 40 = .ok (.if_icmp .le 5, 3) := by decide +kernel
theorem dX12_move_43 : decode cX12_move 43 = .ok (.iconst 0, 1) := by decide +kernel
theorem dX12_move_44 : decode cX12_move 44 = .ok (.ireturn, 1) := by decide +kernel
theorem dX12_move_45 : decode cX12_move 45 = .ok (.aload_n 0, 1) := by decide +kernel
theorem dX12_move_46 : decode cX12_move 46 = .ok (.getfield 9, 3) := by decide +kernel
theorem dX12_move_49 : decode cX12_move 49 = .ok (.bipush 103, 2) := by decide +kernel
theorem dX12_move_51 : decode cX12_move 51 = .ok (.bipush 7, 2) := by decide +kernel
theorem dX12_move_53 : decode cX12_move 53 = .ok (.iload_n 1, 1) := by decide +kernel
theorem dX12_move_54 : decode cX12_move 54 = .ok (.imul, 1) := by decide +kernel
theorem dX12_move_55 : decode cX12_move 55 = .ok (.iadd, 1) := by decide +kernel
theorem dX12_move_56 : decode cX12_move 56 = .ok (.iconst 1, 1) := by decide +kernel
theorem dX12_move_57 : decode cX12_move 57 = .ok (.iadd, 1) := by decide +kernel
theorem dX12_move_58 : decode cX12_move 58 = .ok (.aload_n 0, 1) := by decide +kernel
theorem dX12_move_59 : decode cX12_move 59 = .ok (.getfield 231, 3) := by decide +kernel
theorem dX12_move_62 : decode cX12_move 62 = .ok (.iastore, 1) := by decide +kernel
theorem dX12_move_63 : decode cX12_move 63 = .ok (.aload_n 0, 1) := by decide +kernel
theorem dX12_move_64 : decode cX12_move 64 = .ok (.getfield 9, 3) := by decide +kernel
theorem dX12_move_67 : decode cX12_move 67 = .ok (.bipush 103, 2) := by decide +kernel
theorem dX12_move_69 : decode cX12_move 69 = .ok (.bipush 7, 2) := by decide +kernel
theorem dX12_move_71 : decode cX12_move 71 = .ok (.iload_n 1, 1) := by decide +kernel
theorem dX12_move_72 : decode cX12_move 72 = .ok (.imul, 1) := by decide +kernel
theorem dX12_move_73 : decode cX12_move 73 = .ok (.iadd, 1) := by decide +kernel
theorem dX12_move_74 : decode cX12_move 74 = .ok (.iconst 2, 1) := by decide +kernel
theorem dX12_move_75 : decode cX12_move 75 = .ok (.iadd, 1) := by decide +kernel
theorem dX12_move_76 : decode cX12_move 76 = .ok (.aload_n 0, 1) := by decide +kernel
theorem dX12_move_77 : decode cX12_move 77 = .ok (.getfield 234, 3) := by decide +kernel
theorem dX12_move_80 : decode cX12_move 80 = .ok (.iastore, 1) := by decide +kernel
theorem dX12_move_81 : decode cX12_move 81 = .ok (.iconst 1, 1) := by decide +kernel
theorem dX12_move_82 : decode cX12_move 82 = .ok (.ireturn, 1) := by decide +kernel
theorem dX12_offer_0 : decode cX12_offer 0 = .ok (.aload_n 0, 1) := by decide +kernel
theorem dX12_offer_1 : decode cX12_offer 1 = .ok (.iconst 0, 1) := by decide +kernel
theorem dX12_offer_2 : decode cX12_offer 2 = .ok (.putfield 80, 3) := by decide +kernel
theorem dX12_offer_5 : decode cX12_offer 5 = .ok (.iload_n 1, 1) := by decide +kernel
theorem dX12_offer_6 : decode cX12_offer 6 = .ok (.i2l, 1) := by decide +kernel
theorem dX12_offer_7 : decode cX12_offer 7 = .ok (.lconst 1, 1) := by decide +kernel
theorem dX12_offer_8 : decode cX12_offer 8 = .ok (.ldc2_w 288, 3) := by decide +kernel
theorem dX12_offer_11 : decode cX12_offer 11 = .ok (.invokestatic 83, 3) := by decide +kernel
theorem dX12_offer_14 : decode cX12_offer 14 = .ok (.ifCond .ne 9, 3) := by decide +kernel
theorem dX12_offer_17 : decode cX12_offer 17 = .ok (.aload_n 0, 1) := by decide +kernel
theorem dX12_offer_18 : decode cX12_offer 18 = .ok (.iconst 1, 1) := by decide +kernel
theorem dX12_offer_19 : decode cX12_offer 19 = .ok (.invokevirtual 95, 3) := by decide +kernel
theorem dX12_offer_22 : decode cX12_offer 22 = .ok (.ireturn, 1) := by decide +kernel
theorem dX12_offer_23 : decode cX12_offer 23 = .ok (.aload_n 0, 1) := by decide +kernel
theorem dX12_offer_24 : decode cX12_offer 24 = .ok (.getfield 9, 3) := by decide +kernel
theorem dX12_offer_27 : decode cX12_offer 27 = .ok (.iconst 2, 1) := by decide +kernel
theorem dX12_offer_28 : decode cX12_offer 28 = .ok (.iaload, 1) := by decide +kernel
theorem dX12_offer_29 : decode cX12_offer 29 = .ok (.bipush 6, 2) := by decide +kernel
theorem dX12_offer_31 : decode cX12_offer 31 = .ok (.if_icmp .ne 5, 3) := by decide +kernel
theorem dX12_offer_34 : decode cX12_offer 34 = .ok (.iconst (-1), 1) := by decide +kernel
theorem dX12_offer_35 : decode cX12_offer 35 = .ok (.ireturn, 1) := by decide +kernel
theorem dX12_offer_36 : decode cX12_offer 36 = .ok (.aload_n 0, 1) := by decide +kernel
theorem dX12_offer_37 : decode cX12_offer 37 = .ok (.getfield 9, 3) := by decide +kernel
theorem dX12_offer_40 : decode cX12_offer 40 = .ok (.sipush 351, 3) := by decide +kernel
theorem dX12_offer_43 : decode cX12_offer 43 = .ok (.aload_n 0, 1) := by decide +kernel
theorem dX12_offer_44 : decode cX12_offer 44 = .ok (.getfield 9, 3) := by decide +kernel
theorem dX12_offer_47 : decode cX12_offer 47 = .ok (.iconst 2, 1) := by decide +kernel
theorem dX12_offer_48 : decode cX12_offer 48 = .ok (.iaload, 1) := by decide +kernel
theorem dX12_offer_49 : decode cX12_offer 49 = .ok (.iadd, 1) := by decide +kernel
theorem dX12_offer_50 : decode cX12_offer 50 = .ok (.iload_n 1, 1) := by decide +kernel
theorem dX12_offer_51 : decode cX12_offer 51 = .ok (.iastore, 1) := by decide +kernel
theorem dX12_offer_52 : decode cX12_offer 52 = .ok (.aload_n 0, 1) := by decide +kernel
theorem dX12_offer_53 : decode cX12_offer 53 = .ok (.getfield 9, 3) := by decide +kernel
theorem dX12_offer_56 : decode cX12_offer 56 = .ok (.iconst 2, 1) := by decide +kernel
theorem dX12_offer_57 : decode cX12_offer 57 = .ok (.dup2, 1) := by decide +kernel
theorem dX12_offer_58 : decode cX12_offer 58 = .ok (.iaload, 1) := by decide +kernel
theorem dX12_offer_59 : decode cX12_offer 59 = .ok (.iconst 1, 1) := by decide +kernel
theorem dX12_offer_60 : decode cX12_offer 60 = .ok (.iadd, 1) := by decide +kernel
theorem dX12_offer_61 : decode cX12_offer 61 = .ok (.iastore, 1) := by decide +kernel
theorem dX12_offer_62 : decode cX12_offer 62 = .ok (.aload_n 0, 1) := by decide +kernel
theorem dX12_offer_63 : decode cX12_offer 63 = .ok (.getfield 9, 3) := by decide +kernel
theorem dX12_offer_66 : decode cX12_offer 66 = .ok (.iconst 2, 1) := by decide +kernel
theorem dX12_offer_67 : decode cX12_offer 67 = .ok (.iaload, 1) := by decide +kernel
theorem dX12_offer_68 : decode cX12_offer 68 = .ok (.iconst 1, 1) := by decide +kernel
theorem dX12_offer_69 : decode cX12_offer 69 = .ok (.isub, 1) := by decide +kernel
theorem dX12_offer_70 : decode cX12_offer 70 = .ok (.ireturn, 1) := by decide +kernel
theorem dX12_isOffer_0 : decode cX12_isOffer 0 = .ok (.aload_n 0, 1) := by decide +kernel
theorem dX12_isOffer_1 : decode cX12_isOffer 1 = .ok (.iconst 2, 1) := by decide +kernel
theorem dX12_isOffer_2 : decode cX12_isOffer 2 = .ok (.iload_n 1, 1) := by decide +kernel
theorem dX12_isOffer_3 : decode cX12_isOffer 3 = .ok (.invokevirtual 87, 3) := by decide +kernel
theorem dX12_isOffer_6 : decode cX12_isOffer 6 = .ok (.ireturn, 1) := by decide +kernel
theorem dX12_price_0 : decode cX12_price 0 = .ok (.aload_n 0, 1) := by decide +kernel
theorem dX12_price_1 : decode cX12_price 1 = .ok (.iconst 0, 1) := by decide +kernel
theorem dX12_price_2 : decode cX12_price 2 = .ok (.putfield 80, 3) := by decide +kernel
theorem dX12_price_5 : decode cX12_price 5 = .ok (.aload_n 0, 1) := by decide +kernel
theorem dX12_price_6 : decode cX12_price 6 = .ok (.iload_n 1, 1) := by decide +kernel
theorem dX12_price_7 : decode cX12_price 7 = .ok (.invokevirtual 290, 3) := by decide +kernel
theorem dX12_price_10 : decode cX12_price 10 = .ok (.ifCond .ne 9, 3) := by decide +kernel
theorem dX12_price_13 : decode cX12_price 13 = .ok (.aload_n 0, 1) := by decide +kernel
theorem dX12_price_14 : decode cX12_price 14 = .ok (.iconst 1, 1) := by decide +kernel
theorem dX12_price_15 : decode cX12_price 15 = .ok (.invokevirtual 95, 3) := by decide +kernel
theorem dX12_price_18 : decode cX12_price 18 = .ok (.ireturn, 1) := by decide +kernel
theorem dX12_price_19 : decode cX12_price 19 = .ok (.iload_n 2, 1) := by decide +kernel
theorem dX12_price_20 : decode cX12_price 20 = .ok (.i2l, 1) := by decide +kernel
theorem dX12_price_21 : decode cX12_price 21 = .ok (.lconst 1, 1) := by decide +kernel
theorem dX12_price_22 : decode cX12_price 22 = .ok (.ldc2_w 288, 3) := by decide +kernel
theorem dX12_price_25 : decode cX12_price 25 = .ok (.invokestatic 83, 3) := by decide +kernel
theorem dX12_price_28 : decode cX12_price 28 = .ok (.ifCond .eq 16, 3) := by decide +kernel
theorem dX12_price_31 : decode cX12_price 31 = .ok (.aload_n 0, 1) := by decide +kernel
theorem dX12_price_32 : decode cX12_price 32 = .ok (.sipush 351, 3) := by decide +kernel
theorem dX12_price_35 : decode cX12_price 35 = .ok (.iload_n 1, 1) := by decide +kernel
theorem dX12_price_36 : decode cX12_price 36 = .ok (.iadd, 1) := by decide +kernel
theorem dX12_price_37 : decode cX12_price 37 = .ok (.iload_n 2, 1) := by decide +kernel
theorem dX12_price_38 : decode cX12_price 38 = .ok (.invokevirtual 109, 3) := by decide +kernel
theorem dX12_price_41 : decode cX12_price 41 = .ok (.goto 8, 3) := by decide +kernel
theorem dX12_price_44 : decode cX12_price 44 = .ok (.aload_n 0, 1) := by decide +kernel
theorem dX12_price_45 : decode cX12_price 45 = .ok (.iconst 2, 1) := by decide +kernel
theorem dX12_price_46 : decode cX12_price 46 = .ok (.invokevirtual 95, 3) := by decide +kernel
theorem dX12_price_49 : decode cX12_price 49 = .ok (.ireturn, 1) := by decide +kernel
theorem dX12_tubeAt_0 : decode cX12_tubeAt 0 = .ok (.sipush 159, 3) := by decide +kernel
theorem dX12_tubeAt_3 : decode cX12_tubeAt 3 = .ok (.bipush 21, 2) := by decide +kernel
theorem dX12_tubeAt_5 : decode cX12_tubeAt 5 = .ok (.iload_n 1, 1) := by decide +kernel
theorem dX12_tubeAt_6 : decode cX12_tubeAt 6 = .ok (.imul, 1) := by decide +kernel
theorem dX12_tubeAt_7 : decode cX12_tubeAt 7 = .ok (.iadd, 1) := by decide +kernel
theorem dX12_tubeAt_8 : decode cX12_tubeAt 8 = .ok (.ireturn, 1) := by decide +kernel
theorem dX12_drops_0 : decode cX12_drops 0 = .ok (.aload_n 0, 1) := by decide +kernel
theorem dX12_drops_1 : decode cX12_drops 1 = .ok (.iload_n 1, 1) := by decide +kernel
theorem dX12_drops_2 : decode cX12_drops 2 = .ok (.invokevirtual 293, 3) := by decide +kernel
theorem dX12_drops_5 : decode cX12_drops 5 = .ok (.istore_n 3, 1) := by decide +kernel
theorem dX12_drops_6 : decode cX12_drops 6 = .ok (.aload_n 0, 1) := by decide +kernel
theorem dX12_drops_7 : decode cX12_drops 7 = .ok (.getfield 9, 3) := by decide +kernel
theorem dX12_drops_10 : decode cX12_drops 10 = .ok (.iload_n 3, 1) := by decide +kernel
theorem dX12_drops_11 : decode cX12_drops 11 = .ok (.iaload, 1) := by decide +kernel
theorem dX12_drops_12 : decode cX12_drops 12 = .ok (.bipush 20, 2) := by decide +kernel
theorem dX12_drops_14 : decode cX12_drops 14 = .ok (.if_icmp .ne 18, 3) := by decide +kernel
theorem dX12_drops_17 : decode cX12_drops 17 = .ok (.aload_n 0, 1) := by decide +kernel
theorem dX12_drops_18 : decode cX12_drops 18 = .ok (.getfield 9, 3) := by decide +kernel
theorem dX12_drops_21 : decode cX12_drops 21 = .ok (.sipush 327, 3) := by decide +kernel
theorem dX12_drops_24 : decode cX12_drops 24 = .ok (.iload_n 2, 1) := by decide +kernel
theorem dX12_drops_25 : decode cX12_drops 25 = .ok (.iadd, 1) := by decide +kernel
theorem dX12_drops_26 : decode cX12_drops 26 = .ok (.dup2, 1) := by decide +kernel
theorem dX12_drops_27 : decode cX12_drops 27 = .ok (.iaload, 1) := by decide +kernel
theorem dX12_drops_28 : decode cX12_drops 28 = .ok (.iconst 1, 1) := by decide +kernel
theorem dX12_drops_29 : decode cX12_drops 29 = .ok (.iadd, 1) := by decide +kernel
theorem dX12_drops_30 : decode cX12_drops 30 = .ok (.iastore, 1) := by decide +kernel
theorem dX12_drops_31 : decode cX12_drops 31 = .ok (.return_, 1) := by decide +kernel
theorem dX12_drops_32 : decode cX12_drops 32 = .ok (.aload_n 0, 1) := by decide +kernel
theorem dX12_drops_33 : decode cX12_drops 33 = .ok (.getfield 9, 3) := by decide +kernel
theorem dX12_drops_36 : decode cX12_drops 36 = .ok (.iload_n 3, 1) := by decide +kernel
theorem dX12_drops_37 : decode cX12_drops 37 = .ok (.dup2, 1) := by decide +kernel
theorem dX12_drops_38 : decode cX12_drops 38 = .ok (.iaload, 1) := by decide +kernel
theorem dX12_drops_39 : decode cX12_drops 39 = .ok (.iconst 1, 1) := by decide +kernel
theorem dX12_drops_40 : decode cX12_drops 40 = .ok (.iadd, 1) := by decide +kernel
theorem dX12_drops_41 : decode cX12_drops 41 = .ok (.iastore, 1) := by decide +kernel
theorem dX12_drops_42 : decode cX12_drops 42 = .ok (.aload_n 0, 1) := by decide +kernel
theorem dX12_drops_43 : decode cX12_drops 43 = .ok (.getfield 9, 3) := by decide +kernel
theorem dX12_drops_46 : decode cX12_drops 46 = .ok (.iload_n 3, 1) := by decide +kernel
theorem dX12_drops_47 : decode cX12_drops 47 = .ok (.aload_n 0, 1) := by decide +kernel
theorem dX12_drops_48 : decode cX12_drops 48 = .ok (.getfield 9, 3) := by decide +kernel
theorem dX12_drops_51 : decode cX12_drops 51 = .ok (.iload_n 3, 1) := by decide +kernel
theorem dX12_drops_52 : decode cX12_drops 52 = .ok (.iaload, 1) := by decide +kernel
theorem dX12_drops_53 : decode cX12_drops 53 = .ok (.iadd, 1) := by decide +kernel
theorem dX12_drops_54 : decode cX12_drops 54 = .ok (.iload_n 2, 1) := by decide +kernel
theorem dX12_drops_55 : decode cX12_drops 55 = .ok (.iastore, 1) := by decide +kernel
theorem dX12_drops_56 : decode cX12_drops 56 = .ok (.return_, 1) := by decide +kernel
theorem dX12_load_0 : decode cX12_load 0 = .ok (.aload_n 0, 1) := by decide +kernel
theorem dX12_load_1 : decode cX12_load 1 = .ok (.iconst 0, 1) := by decide +kernel
theorem dX12_load_2 : decode cX12_load 2 = .ok (.putfield 80, 3) := by decide +kernel
theorem dX12_load_5 : decode cX12_load 5 = .ok (.aload_n 0, 1) := by decide +kernel
theorem dX12_load_6 : decode cX12_load 6 = .ok (.iload_n 1, 1) := by decide +kernel
theorem dX12_load_7 : decode cX12_load 7 = .ok (.invokevirtual 99, 3) := by decide +kernel
theorem dX12_load_10 : decode cX12_load 10 = .ok (.ifCond .eq 11, 3) := by decide +kernel
theorem dX12_load_13 : decode cX12_load 13 = .ok (.aload_n 0, 1) := by decide +kernel
theorem dX12_load_14 : decode cX12_load 14 = .ok (.iload_n 2, 1) := by decide +kernel
theorem dX12_load_15 : decode cX12_load 15 = .ok (.invokevirtual 99, 3) := by decide +kernel
theorem dX12_load_18 : decode cX12_load 18 = .ok (.ifCond .ne 9, 3) := by decide +kernel
theorem dX12_load_21 : decode cX12_load 21 = .ok (.aload_n 0, 1) := by decide +kernel
theorem dX12_load_22 : decode cX12_load 22 = .ok (.iconst 1, 1) := by decide +kernel
theorem dX12_load_23 : decode cX12_load 23 = .ok (.invokevirtual 95, 3) := by decide +kernel
theorem dX12_load_26 : decode cX12_load 26 = .ok (.ireturn, 1) := by decide +kernel
theorem dX12_load_27 : decode cX12_load 27 = .ok (.iload_n 3, 1) := by decide +kernel
theorem dX12_load_28 : decode cX12_load 28 = .ok (.i2l, 1) := by decide +kernel
theorem dX12_load_29 : decode cX12_load 29 = .ok (.lconst 1, 1) := by decide +kernel
theorem dX12_load_30 : decode cX12_load 30 = .ok (.ldc2_w 296, 3) := by decide +kernel
theorem dX12_load_33 : decode cX12_load 33 = .ok (.invokestatic 83, 3) := by decide +kernel
theorem dX12_load_36 : decode cX12_load 36 = .ok (.ifCond .ne 9, 3) := by decide +kernel
theorem dX12_load_39 : decode cX12_load 39 = .ok (.aload_n 0, 1) := by decide +kernel
theorem dX12_load_40 : decode cX12_load 40 = .ok (.iconst 2, 1) := by decide +kernel
theorem dX12_load_41 : decode cX12_load 41 = .ok (.invokevirtual 95, 3) := by decide +kernel
theorem dX12_load_44 : decode cX12_load 44 = .ok (.ireturn, 1) := by decide +kernel
theorem dX12_load_45 : decode cX12_load 45 = .ok (.aload_n 0, 1) := by decide +kernel
theorem dX12_load_46 : decode cX12_load 46 = .ok (.getfield 9, 3) := by decide +kernel
theorem dX12_load_49 : decode cX12_load 49 = .ok (.aload_n 0, 1) := by decide +kernel
theorem dX12_load_50 : decode cX12_load 50 = .ok (.iload_n 1, 1) := by decide +kernel
theorem dX12_load_51 : decode cX12_load 51 = .ok (.invokevirtual 293, 3) := by decide +kernel
theorem dX12_load_54 : decode cX12_load 54 = .ok (.iaload, 1) := by decide +kernel
theorem dX12_load_55 : decode cX12_load 55 = .ok (.iload_n 3, 1) := by decide +kernel
theorem dX12_load_56 : decode cX12_load 56 = .ok (.iadd, 1) := by decide +kernel
theorem dX12_load_57 : decode cX12_load 57 = .ok (.bipush 20, 2) := by decide +kernel
theorem dX12_load_59 : decode cX12_load 59 = .ok (.if_icmp .le 5, 3) := by decide +kernel
theorem dX12_load_62 : decode cX12_load 62 = .ok (.iconst (-1), 1) := by decide +kernel
theorem dX12_load_63 : decode cX12_load 63 = .ok (.ireturn, 1) := by decide +kernel
theorem dX12_load_64 : decode cX12_load 64 = .ok (.iconst 0, 1) := by decide +kernel
theorem dX12_load_65 : decode cX12_load 65 = .ok (.istore 4, 2) := by decide +kernel
theorem dX12_load_67 : decode cX12_load 67 = .ok (.iload 4, 2) := by decide +kernel
theorem dX12_load_69 : decode cX12_load 69 = .ok (.iload_n 3, 1) := by decide +kernel
theorem dX12_load_70 : decode cX12_load 70 = .ok (.if_icmp .ge 15, 3) := by decide +kernel
theorem dX12_load_73 : decode cX12_load 73 = .ok (.aload_n 0, 1) := by decide +kernel
theorem dX12_load_74 : decode cX12_load 74 = .ok (.iload_n 1, 1) := by decide +kernel
theorem dX12_load_75 : decode cX12_load 75 = .ok (.iload_n 2, 1) := by decide +kernel
theorem dX12_load_76 : decode cX12_load 76 = .ok (.invokevirtual 298, 3) := by decide +kernel
theorem dX12_load_79 : decode cX12_load 79 = .ok (.iinc 4 1, 3) := by decide +kernel
theorem dX12_load_82 : decode cX12_load 82 = .ok (.goto (-15), 3) := by decide +kernel
theorem dX12_load_85 : decode cX12_load 85 = .ok (.aload_n 0, 1) := by decide +kernel
theorem dX12_load_86 : decode cX12_load 86 = .ok (.getfield 9, 3) := by decide +kernel
theorem dX12_load_89 : decode cX12_load 89 = .ok (.sipush 335, 3) := by decide +kernel
theorem dX12_load_92 : decode cX12_load 92 = .ok (.iload_n 1, 1) := by decide +kernel
theorem dX12_load_93 : decode cX12_load 93 = .ok (.iadd, 1) := by decide +kernel
theorem dX12_load_94 : decode cX12_load 94 = .ok (.dup2, 1) := by decide +kernel
theorem dX12_load_95 : decode cX12_load 95 = .ok (.iaload, 1) := by decide +kernel
theorem dX12_load_96 : decode cX12_load 96 = .ok (.iload_n 3, 1) := by decide +kernel
theorem dX12_load_97 : decode cX12_load 97 = .ok (.iadd, 1) := by decide +kernel
theorem dX12_load_98 : decode cX12_load 98 = .ok (.iastore, 1) := by decide +kernel
theorem dX12_load_99 : decode cX12_load 99 = .ok (.aload_n 0, 1) := by decide +kernel
theorem dX12_load_100 : decode cX12_load 100 = .ok (.getfield 9, 3) := by decide +kernel
theorem dX12_load_103 : decode cX12_load 103 = .ok (.aload_n 0, 1) := by decide +kernel
theorem dX12_load_104 : decode cX12_load 104 = .ok (.iload_n 1, 1) := by decide +kernel
theorem dX12_load_105 : decode cX12_load 105 = .ok (.invokevirtual 293, 3) := by decide +kernel
theorem dX12_load_108 : decode cX12_load 108 = .ok (.iaload, 1) := by decide +kernel
theorem dX12_load_109 : decode cX12_load 109 = .ok (.ireturn, 1) := by decide +kernel
theorem dX12_tube_0 : decode cX12_tube 0 = .ok (.aload_n 0, 1) := by decide +kernel
theorem dX12_tube_1 : decode cX12_tube 1 = .ok (.iconst 0, 1) := by decide +kernel
theorem dX12_tube_2 : decode cX12_tube 2 = .ok (.putfield 80, 3) := by decide +kernel
theorem dX12_tube_5 : decode cX12_tube 5 = .ok (.aload_n 0, 1) := by decide +kernel
theorem dX12_tube_6 : decode cX12_tube 6 = .ok (.iload_n 1, 1) := by decide +kernel
theorem dX12_tube_7 : decode cX12_tube 7 = .ok (.invokevirtual 99, 3) := by decide +kernel
theorem dX12_tube_10 : decode cX12_tube 10 = .ok (.ifCond .ne 9, 3) := by decide +kernel
theorem dX12_tube_13 : decode cX12_tube 13 = .ok (.aload_n 0, 1) := by decide +kernel
theorem dX12_tube_14 : decode cX12_tube 14 = .ok (.iconst 1, 1) := by decide +kernel
theorem dX12_tube_15 : decode cX12_tube 15 = .ok (.invokevirtual 95, 3) := by decide +kernel
theorem dX12_tube_18 : decode cX12_tube 18 = .ok (.ireturn, 1) := by decide +kernel
theorem dX12_tube_19 : decode cX12_tube 19 = .ok (.iload_n 2, 1) := by decide +kernel
theorem dX12_tube_20 : decode cX12_tube 20 = .ok (.i2l, 1) := by decide +kernel
theorem dX12_tube_21 : decode cX12_tube 21 = .ok (.lconst 0, 1) := by decide +kernel
theorem dX12_tube_22 : decode cX12_tube 22 = .ok (.ldc2_w 103, 3) := by decide +kernel
theorem dX12_tube_25 : decode cX12_tube 25 = .ok (.invokestatic 83, 3) := by decide +kernel
theorem dX12_tube_28 : decode cX12_tube 28 = .ok (.ifCond .ne 9, 3) := by decide +kernel
theorem dX12_tube_31 : decode cX12_tube 31 = .ok (.aload_n 0, 1) := by decide +kernel
theorem dX12_tube_32 : decode cX12_tube 32 = .ok (.iconst 2, 1) := by decide +kernel
theorem dX12_tube_33 : decode cX12_tube 33 = .ok (.invokevirtual 95, 3) := by decide +kernel
theorem dX12_tube_36 : decode cX12_tube 36 = .ok (.ireturn, 1) := by decide +kernel
theorem dX12_tube_37 : decode cX12_tube 37 = .ok (.aload_n 0, 1) := by decide +kernel
theorem dX12_tube_38 : decode cX12_tube 38 = .ok (.iload_n 1, 1) := by decide +kernel
theorem dX12_tube_39 : decode cX12_tube 39 = .ok (.invokevirtual 293, 3) := by decide +kernel
theorem dX12_tube_42 : decode cX12_tube 42 = .ok (.istore_n 3, 1) := by decide +kernel
theorem dX12_tube_43 : decode cX12_tube 43 = .ok (.iload_n 2, 1) := by decide +kernel
theorem dX12_tube_44 : decode cX12_tube 44 = .ok (.ifCond .ne 10, 3) := by decide +kernel
theorem dX12_tube_47 : decode cX12_tube 47 = .ok (.aload_n 0, 1) := by decide +kernel
theorem dX12_tube_48 : decode cX12_tube 48 = .ok (.getfield 9, 3) := by decide +kernel
theorem dX12_tube_51 : decode cX12_tube 51 = .ok (.iload_n 3, 1) := by decide +kernel
theorem dX12_tube_52 : decode cX12_tube 52 = .ok (.iaload, 1) := by decide +kernel
theorem dX12_tube_53 : decode cX12_tube 53 = .ok (.ireturn, 1) := by decide +kernel
theorem dX12_tube_54 : decode cX12_tube 54 = .ok (.iload_n 2, 1) := by decide +kernel
theorem dX12_tube_55 : decode cX12_tube 55 = .ok (.iconst 2, 1) := by decide +kernel
theorem dX12_tube_56 : decode cX12_tube 56 = .ok (.if_icmp .ne 30, 3) := by decide +kernel
theorem dX12_tube_59 : decode cX12_tube 59 = .ok (.aload_n 0, 1) := by decide +kernel
theorem dX12_tube_60 : decode cX12_tube 60 = .ok (.getfield 9, 3) := by decide +kernel
theorem dX12_tube_63 : decode cX12_tube 63 = .ok (.iload_n 3, 1) := by decide +kernel
theorem dX12_tube_64 : decode cX12_tube 64 = .ok (.iaload, 1) := by decide +kernel
theorem dX12_tube_65 : decode cX12_tube 65 = .ok (.ifCond .ne 7, 3) := by decide +kernel
theorem dX12_tube_68 : decode cX12_tube 68 = .ok (.iconst (-1), 1) := by decide +kernel
theorem dX12_tube_69 : decode cX12_tube 69 = .ok (.goto 16, 3) := by decide +kernel
theorem dX12_tube_72 : decode cX12_tube 72 = .ok (.aload_n 0, 1) := by decide +kernel
theorem dX12_tube_73 : decode cX12_tube 73 = .ok (.getfield 9, 3) := by decide +kernel
theorem dX12_tube_76 : decode cX12_tube 76 = .ok (.iload_n 3, 1) := by decide +kernel
theorem dX12_tube_77 : decode cX12_tube 77 = .ok (.aload_n 0, 1) := by decide +kernel
theorem dX12_tube_78 : decode cX12_tube 78 = .ok (.getfield 9, 3) := by decide +kernel
theorem dX12_tube_81 : decode cX12_tube 81 = .ok (.iload_n 3, 1) := by decide +kernel
theorem dX12_tube_82 : decode cX12_tube 82 = .ok (.iaload, 1) := by decide +kernel
theorem dX12_tube_83 : decode cX12_tube 83 = .ok (.iadd, 1) := by decide +kernel
theorem dX12_tube_84 : decode cX12_tube 84 = .ok (.iaload, 1) := by decide +kernel
theorem dX12_tube_85 : decode cX12_tube 85 = .ok (.ireturn, 1) := by decide +kernel
theorem dX12_tube_86 : decode cX12_tube 86 = .ok (.iconst 0, 1) := by decide +kernel
theorem dX12_tube_87 : decode cX12_tube 87 = .ok (.istore 4, 2) := by decide +kernel
theorem dX12_tube_89 : decode cX12_tube 89 = .ok (.iconst 1, 1) := by decide +kernel
theorem dX12_tube_90 : decode cX12_tube 90 = .ok (.istore 5, 2) := by decide +kernel
theorem dX12_tube_92 : decode cX12_tube 92 = .ok (.iload 5, 2) := by decide +kernel
theorem dX12_tube_94 : decode cX12_tube 94 = .ok (.aload_n 0, 1) := by decide +kernel
theorem dX12_tube_95 : decode cX12_tube 95 = .ok (.getfield 9, 3) := by decide +kernel
theorem dX12_tube_98 : decode cX12_tube 98 = .ok (.iload_n 3, 1) := by decide +kernel
theorem dX12_tube_99 : decode cX12_tube 99 = .ok (.iaload, 1) := by decide +kernel
theorem dX12_tube_100 : decode cX12_tube 100 = .ok (.if_icmp .gt 32, 3) := by decide +kernel
theorem dX12_tube_103 : decode cX12_tube 103 = .ok (.iload 4, 2) := by decide +kernel
theorem dX12_tube_105 : decode cX12_tube 105 = .ok (.aload_n 0, 1) := by decide +kernel
theorem dX12_tube_106 : decode cX12_tube 106 = .ok (.getfield 9, 3) := by decide +kernel
theorem dX12_tube_109 : decode cX12_tube 109 = .ok (.iload_n 3, 1) := by decide +kernel
theorem dX12_tube_110 : decode cX12_tube 110 = .ok (.iload 5, 2) := by decide +kernel
theorem dX12_tube_112 : decode cX12_tube 112 = .ok (.iadd, 1) := by decide +kernel
theorem dX12_tube_113 : decode cX12_tube 113 = .ok (.iaload, 1) := by decide +kernel
theorem dX12_tube_114 : decode cX12_tube 114 = .ok (.iload_n 1, 1) := by decide +kernel
theorem dX12_tube_115 : decode cX12_tube 115 = .ok (.if_icmp .ne 7, 3) := by decide +kernel
theorem dX12_tube_118 : decode cX12_tube 118 = .ok (.iconst 0, 1) := by decide +kernel
theorem dX12_tube_119 : decode cX12_tube 119 = .ok (.goto 4, 3) := by decide +kernel
theorem dX12_tube_122 : decode cX12_tube 122 = .ok (.iconst 1, 1) := by decide +kernel
theorem dX12_tube_123 : decode cX12_tube 123 = .ok (.iadd, 1) := by decide +kernel
theorem dX12_tube_124 : decode cX12_tube 124 = .ok (.istore 4, 2) := by decide +kernel
theorem dX12_tube_126 : decode cX12_tube 126 = .ok (.iinc 5 1, 3) := by decide +kernel
theorem dX12_tube_129 : decode cX12_tube 129 = .ok (.goto (-37), 3) := by decide +kernel
theorem dX12_tube_132 : decode cX12_tube 132 = .ok (.iload 4, 2) := by decide +kernel
theorem dX12_tube_134 : decode cX12_tube 134 = .ok (.ireturn, 1) := by decide +kernel
theorem dX12_bag_0 : decode cX12_bag 0 = .ok (.aload_n 0, 1) := by decide +kernel
theorem dX12_bag_1 : decode cX12_bag 1 = .ok (.iconst 0, 1) := by decide +kernel
theorem dX12_bag_2 : decode cX12_bag 2 = .ok (.putfield 80, 3) := by decide +kernel
theorem dX12_bag_5 : decode cX12_bag 5 = .ok (.aload_n 0, 1) := by decide +kernel
theorem dX12_bag_6 : decode cX12_bag 6 = .ok (.iload_n 1, 1) := by decide +kernel
theorem dX12_bag_7 : decode cX12_bag 7 = .ok (.invokevirtual 99, 3) := by decide +kernel
theorem dX12_bag_10 : decode cX12_bag 10 = .ok (.ifCond .eq 16, 3) := by decide +kernel
theorem dX12_bag_13 : decode cX12_bag 13 = .ok (.aload_n 0, 1) := by decide +kernel
theorem dX12_bag_14 : decode cX12_bag 14 = .ok (.getfield 9, 3) := by decide +kernel
theorem dX12_bag_17 : decode cX12_bag 17 = .ok (.sipush 327, 3) := by decide +kernel
theorem dX12_bag_20 : decode cX12_bag 20 = .ok (.iload_n 1, 1) := by decide +kernel
theorem dX12_bag_21 : decode cX12_bag 21 = .ok (.iadd, 1) := by decide +kernel
theorem dX12_bag_22 : decode cX12_bag 22 = .ok (.iaload, 1) := by decide +kernel
theorem dX12_bag_23 : decode cX12_bag 23 = .ok (.goto 8, 3) := by decide +kernel
theorem dX12_bag_26 : decode cX12_bag 26 = .ok (.aload_n 0, 1) := by decide +kernel
theorem dX12_bag_27 : decode cX12_bag 27 = .ok (.iconst 1, 1) := by decide +kernel
theorem dX12_bag_28 : decode cX12_bag 28 = .ok (.invokevirtual 95, 3) := by decide +kernel
theorem dX12_bag_31 : decode cX12_bag 31 = .ok (.ireturn, 1) := by decide +kernel
theorem dX12_empty_0 : decode cX12_empty 0 = .ok (.aload_n 0, 1) := by decide +kernel
theorem dX12_empty_1 : decode cX12_empty 1 = .ok (.iconst 0, 1) := by decide +kernel
theorem dX12_empty_2 : decode cX12_empty 2 = .ok (.putfield 80, 3) := by decide +kernel
theorem dX12_empty_5 : decode cX12_empty 5 = .ok (.aload_n 0, 1) := by decide +kernel
theorem dX12_empty_6 : decode cX12_empty 6 = .ok (.iload_n 1, 1) := by decide +kernel
theorem dX12_empty_7 : decode cX12_empty 7 = .ok (.invokevirtual 99, 3) := by decide +kernel
theorem dX12_empty_10 : decode cX12_empty 10 = .ok (.ifCond .ne 9, 3) := by decide +kernel
theorem dX12_empty_13 : decode cX12_empty 13 = .ok (.aload_n 0, 1) := by decide +kernel
theorem dX12_empty_14 : decode cX12_empty 14 = .ok (.iconst 1, 1) := by decide +kernel
theorem dX12_empty_15 : decode cX12_empty 15 = .ok (.invokevirtual 95, 3) := by decide +kernel
theorem dX12_empty_18 : decode cX12_empty 18 = .ok (.ireturn, 1) := by decide +kernel
theorem dX12_empty_19 : decode cX12_empty 19 = .ok (.aload_n 0, 1) := by decide +kernel
theorem dX12_empty_20 : decode cX12_empty 20 = .ok (.iload_n 1, 1) := by decide +kernel
theorem dX12_empty_21 : decode cX12_empty 21 = .ok (.invokevirtual 293, 3) := by decide +kernel
theorem dX12_empty_24 : decode cX12_empty 24 = .ok (.istore_n 2, 1) := by decide +kernel
theorem dX12_empty_25 : decode cX12_empty 25 = .ok (.aload_n 0, 1) := by decide +kernel
theorem dX12_empty_26 : decode cX12_empty 26 = .ok (.getfield 9, 3) := by decide +kernel
theorem dX12_empty_29 : decode cX12_empty 29 = .ok (.iload_n 2, 1) := by decide +kernel
theorem dX12_empty_30 : decode cX12_empty 30 = .ok (.iaload, 1) := by decide +kernel
theorem dX12_empty_31 : decode cX12_empty 31 = .ok (.istore_n 3, 1) := by decide +kernel
theorem dX12_empty_32 : decode cX12_empty 32 = .ok (.iconst 1, 1) := by decide +kernel
theorem dX12_empty_33 : decode cX12_empty 33 = .ok (.istore 4, 2) := by decide +kernel
theorem dX12_empty_35 : decode cX12_empty 35 = .ok (.iload 4, 2) := by decide +kernel
theorem dX12_empty_37 : decode cX12_empty 37 = .ok (.iload_n 3, 1) := by decide +kernel
theorem dX12_empty_38 : decode cX12_empty 38 = .ok (.if_icmp .gt 31, 3) := by decide +kernel
theorem dX12_empty_41 : decode cX12_empty 41 = .ok (.aload_n 0, 1) := by decide +kernel
theorem dX12_empty_42 : decode cX12_empty 42 = .ok (.getfield 9, 3) := by decide +kernel
theorem dX12_empty_45 : decode cX12_empty 45 = .ok (.sipush 327, 3) := by decide +kernel
theorem dX12_empty_48 : decode cX12_empty 48 = .ok (.aload_n 0, 1) := by decide +kernel
theorem dX12_empty_49 : decode cX12_empty 49 = .ok (.getfield 9, 3) := by decide +kernel
theorem dX12_empty_52 : decode cX12_empty 52 = .ok (.iload_n 2, 1) := by decide +kernel
theorem dX12_empty_53 : decode cX12_empty 53 = .ok (.iload 4, 2) := by decide +kernel
theorem dX12_empty_55 : decode cX12_empty 55 = .ok (.iadd, 1) := by decide +kernel
theorem dX12_empty_56 : decode cX12_empty 56 = .ok (.iaload, 1) := by decide +kernel
theorem dX12_empty_57 : decode cX12_empty 57 = .ok (.iadd, 1) := by decide +kernel
theorem dX12_empty_58 : decode cX12_empty 58 = .ok (.dup2, 1) := by decide +kernel
theorem dX12_empty_59 : decode cX12_empty 59 = .ok (.iaload, 1) := by decide +kernel
theorem dX12_empty_60 : decode cX12_empty 60 = .ok (.iconst 1, 1) := by decide +kernel
theorem dX12_empty_61 : decode cX12_empty 61 = .ok (.iadd, 1) := by decide +kernel
theorem dX12_empty_62 : decode cX12_empty 62 = .ok (.iastore, 1) := by decide +kernel
theorem dX12_empty_63 : decode cX12_empty 63 = .ok (.iinc 4 1, 3) := by decide +kernel
theorem dX12_empty_66 : decode cX12_empty 66 = .ok (.goto (-31), 3) := by decide +kernel
theorem dX12_empty_69 : decode cX12_empty 69 = .ok (.aload_n 0, 1) := by decide +kernel
theorem dX12_empty_70 : decode cX12_empty 70 = .ok (.getfield 9, 3) := by decide +kernel
theorem dX12_empty_73 : decode cX12_empty 73 = .ok (.iload_n 2, 1) := by decide +kernel
theorem dX12_empty_74 : decode cX12_empty 74 = .ok (.iconst 0, 1) := by decide +kernel
theorem dX12_empty_75 : decode cX12_empty 75 = .ok (.iastore, 1) := by decide +kernel
theorem dX12_empty_76 : decode cX12_empty 76 = .ok (.iload_n 3, 1) := by decide +kernel
theorem dX12_empty_77 : decode cX12_empty 77 = .ok (.ireturn, 1) := by decide +kernel
theorem dX12_at_0 : decode cX12_at 0 = .ok (.sipush 4801, 3) := by decide +kernel
theorem dX12_at_3 : decode cX12_at 3 = .ok (.iload_n 1, 1) := by decide +kernel
theorem dX12_at_4 : decode cX12_at 4 = .ok (.imul, 1) := by decide +kernel
theorem dX12_at_5 : decode cX12_at 5 = .ok (.iload_n 2, 1) := by decide +kernel
theorem dX12_at_6 : decode cX12_at 6 = .ok (.iadd, 1) := by decide +kernel
theorem dX12_at_7 : decode cX12_at 7 = .ok (.ireturn, 1) := by decide +kernel
theorem dX12_layChange_0 : decode cX12_layChange 0 = .ok (.iconst 0, 1) := by decide +kernel
theorem dX12_layChange_1 : decode cX12_layChange 1 = .ok (.istore_n 2, 1) := by decide +kernel
theorem dX12_layChange_2 : decode cX12_layChange 2 = .ok (.iload_n 2, 1) := by decide +kernel
theorem dX12_layChange_3 : decode cX12_layChange 3 = .ok (.iload_n 1, 1) := by decide +kernel
theorem dX12_layChange_4 : decode cX12_layChange 4 = .ok (.if_icmp .gt 32, 3) := by decide +kernel
theorem dX12_layChange_7 : decode cX12_layChange 7 = .ok (.aload_n 0, 1) := by decide +kernel
theorem dX12_layChange_8 : decode cX12_layChange 8 = .ok (.getfield 41, 3) := by decide +kernel
theorem dX12_layChange_11 : decode cX12_layChange 11 = .ok (.aload_n 0, 1) := by decide +kernel
theorem dX12_layChange_12 : decode cX12_layChange 12 = .ok (.bipush 8, 2) := by decide +kernel
theorem dX12_layChange_14 : decode cX12_layChange 14 = .ok (.iload_n 2, 1) := by decide +kernel
theorem dX12_layChange_15 : decode cX12_layChange 15 = .ok (.invokevirtual 302, 3) := by decide +kernel
theorem dX12_layChange_18 : decode cX12_layChange 18 = .ok (.iload_n 2, 1) := by decide +kernel
theorem dX12_layChange_19 : decode cX12_layChange 19 = .ok (.ifCond .ne 7, 3) := by decide +kernel
theorem dX12_layChange_22 : decode cX12_layChange 22 = .ok (.iconst 0, 1) := by decide +kernel
theorem dX12_layChange_23 : decode cX12_layChange 23 = .ok (.goto 6, 3) := by decide +kernel
theorem dX12_layChange_26 : decode cX12_layChange 26 = .ok (.ldc_w 304, 3) := by decide +kernel
theorem dX12_layChange_29 : decode cX12_layChange 29 = .ok (.iastore, 1) := by decide +kernel
theorem dX12_layChange_30 : decode cX12_layChange 30 = .ok (.iinc 2 1, 3) := by decide +kernel
theorem dX12_layChange_33 : decode cX12_layChange 33 = .ok (.goto (-31), 3) := by decide +kernel
theorem dX12_layChange_36 : decode cX12_layChange 36 = .ok (.bipush 7, 2) := by decide +kernel
theorem dX12_layChange_38 : decode cX12_layChange 38 = .ok (.istore_n 2, 1) := by decide +kernel
theorem dX12_layChange_39 : decode cX12_layChange 39 = .ok (.iload_n 2, 1) := by decide +kernel
theorem dX12_layChange_40 : decode cX12_layChange 40 = .ok (.ifCond .lt 122, 3) := by decide +kernel
theorem dX12_layChange_43 : decode cX12_layChange 43 = .ok (.aload_n 0, 1) := by decide +kernel
theorem dX12_layChange_44 : decode cX12_layChange 44 = .ok (.iload_n 2, 1) := by decide +kernel
theorem dX12_layChange_45 : decode cX12_layChange 45 = .ok (.invokevirtual 264, 3) := by decide +kernel
theorem dX12_layChange_48 : decode cX12_layChange 48 = .ok (.istore_n 3, 1) := by decide +kernel
theorem dX12_layChange_49 : decode cX12_layChange 49 = .ok (.iconst 0, 1) := by decide +kernel
theorem dX12_layChange_50 : decode cX12_layChange 50 = .ok (.istore 4, 2) := by decide +kernel
theorem dX12_layChange_52 : decode cX12_layChange 52 = .ok (.iload 4, 2) := by decide +kernel
theorem dX12_layChange_54 : decode cX12_layChange 54 = .ok (.iload_n 1, 1) := by decide +kernel
theorem dX12_layChange_55 : decode cX12_layChange 55 = .ok (.if_icmp .gt 101, 3) := by decide +kernel
theorem dX12_layChange_58 : decode cX12_layChange 58 = .ok (.aload_n 0, 1) := by decide +kernel
theorem dX12_layChange_59 : decode cX12_layChange 59 = .ok (.getfield 41, 3) := by decide +kernel
theorem dX12_layChange_62 : decode cX12_layChange 62 = .ok (.aload_n 0, 1) := by decide +kernel
theorem dX12_layChange_63 : decode cX12_layChange 63 = .ok (.iload_n 2, 1) := by decide +kernel
theorem dX12_layChange_64 : decode cX12_layChange 64 = .ok (.iconst 1, 1) := by decide +kernel
theorem dX12_layChange_65 : decode cX12_layChange 65 = .ok (.iadd, 1) := by decide +kernel
theorem dX12_layChange_66 : decode cX12_layChange 66 = .ok (.iload 4, 2) := by decide +kernel
theorem dX12_layChange_68 : decode cX12_layChange 68 = .ok (.invokevirtual 302, 3) := by decide +kernel
theorem dX12_layChange_71 : decode cX12_layChange 71 = .ok (.iaload, 1) := by decide +kernel
theorem dX12_layChange_72 : decode cX12_layChange 72 = .ok (.istore 5, 2) := by decide +kernel
theorem dX12_layChange_74 : decode cX12_layChange 74 = .ok (.iconst 1, 1) := by decide +kernel
theorem dX12_layChange_75 : decode cX12_layChange 75 = .ok (.istore 6, 2) := by decide +kernel
theorem dX12_layChange_77 : decode cX12_layChange 77 = .ok (.iload_n 3, 1) := by decide +kernel
theorem dX12_layChange_78 : decode cX12_layChange 78 = .ok (.ifCond .le 58, 3) := by decide +kernel
theorem dX12_layChange_81 : decode cX12_layChange 81 = .ok (.iload 6, 2) := by decide +kernel
theorem dX12_layChange_83 : decode cX12_layChange 83 = .ok (.aload_n 0, 1) := by decide +kernel
theorem dX12_layChange_84 : decode cX12_layChange 84 = .ok (.getfield 44, 3) := by decide +kernel
theorem dX12_layChange_87 : decode cX12_layChange 87 = .ok (.iload_n 2, 1) := by decide +kernel
theorem dX12_layChange_88 : decode cX12_layChange 88 = .ok (.iaload, 1) := by decide +kernel
theorem dX12_layChange_89 : decode cX12_layChange 89 = .ok (.if_icmp .gt 47, 3) := by decide +kernel
theorem dX12_layChange_92 : decode cX12_layChange 92 = .ok (.iload 6, 2) := by decide +kernel
theorem dX12_layChange_94 : decode cX12_layChange 94 = .ok (.iload_n 3, 1) := by decide +kernel
theorem dX12_layChange_95 : decode cX12_layChange 95 = .ok (.imul, 1) := by decide +kernel
theorem dX12_layChange_96 : decode cX12_layChange 96 = .ok (.iload 4, 2) := by decide +kernel
theorem dX12_layChange_98 : decode cX12_layChange 98 = .ok (.if_icmp .gt 38, 3) := by decide +kernel
theorem dX12_layChange_101 : decode cX12_layChange 101 = .ok (.iload 5, 2) := by decide +kernel
theorem dX12_layChange_103 : decode cX12_layChange 103 = .ok (.iload 6, 2) := by decide +kernel
theorem dX12_layChange_105 : decode cX12_layChange 105 = .ok (.aload_n 0, 1) := by decide +kernel
theorem dX12_layChange_106 : decode cX12_layChange 106 = .ok (.getfield 41, 3) := by decide +kernel
theorem dX12_layChange_109 : decode cX12_layChange 109 = .ok (.aload_n 0, 1) := by decide +kernel
theorem dX12_layChange_110 : decode cX12_layChange 110 = .ok (.iload_n 2, 1) := by decide +kernel
theorem dX12_layChange_111 : decode cX12_layChange 111 = .ok (.iconst 1, 1) := by decide +kernel
theorem dX12_layChange_112 : decode cX12_layChange 112 = .ok (.iadd, 1) := by decide +kernel
theorem dX12_layChange_113 : decode cX12_layChange 113 = .ok (.iload 4, 2) := by decide +kernel
theorem dX12_layChange_115 : decode cX12_layChange 115 = .ok (.iload 6, 2) := by decide +kernel
theorem dX12_layChange_117 : decode cX12_layChange 117 = .ok (.iload_n 3, 1) := by decide +kernel
theorem dX12_layChange_118 : decode cX12_layChange 118 = .ok (.imul, 1) := by decide +kernel
theorem dX12_layChange_119 : decode cX12_layChange 119 = .ok (.isub, 1) := by decide +kernel
theorem dX12_layChange_120 : decode cX12_layChange 120 = .ok (.invokevirtual 302, 3) := by decide +kernel
theorem dX12_layChange_123 : decode cX12_layChange 123 = .ok (.iaload, 1) := by decide +kernel
theorem dX12_layChange_124 : decode cX12_layChange 124 = .ok (.iadd, 1) := by decide +kernel
theorem dX12_layChange_125 : decode cX12_layChange 125 = .ok (.invokestatic 228, 3) := by decide +kernel
theorem dX12_layChange_128 : decode cX12_layChange 128 = .ok (.istore 5, 2) := by decide +kernel
theorem dX12_layChange_130 : decode cX12_layChange 130 = .ok (.iinc 6 1, 3) := by decide +kernel
theorem dX12_layChange_133 : decode cX12_layChange 133 = .ok (.goto (-56), 3) := by decide +kernel
theorem dX12_layChange_136 : decode cX12_layChange 136 = .ok (.aload_n 0, 1) := by decide +kernel
theorem dX12_layChange_137 : decode cX12_layChange 137 = .ok (.getfield 41, 3) := by decide +kernel
theorem dX12_layChange_140 : decode cX12_layChange 140 = .ok (.aload_n 0, 1) := by decide +kernel
theorem dX12_layChange_141 : decode cX12_layChange 141 = .ok (.iload_n 2, 1) := by decide +kernel
theorem dX12_layChange_142 : decode cX12_layChange 142 = .ok (.iload 4, 2) := by decide +kernel
theorem dX12_layChange_144 : decode cX12_layChange 144 = .ok (.invokevirtual 302, 3) := by decide +kernel
theorem dX12_layChange_147 : decode cX12_layChange 147 = .ok (.iload 5, 2) := by decide +kernel
theorem dX12_layChange_149 : decode cX12_layChange 149 = .ok (.iastore, 1) := by decide +kernel
theorem dX12_layChange_150 : decode cX12_layChange 150 = .ok (.iinc 4 1, 3) := by decide +kernel
theorem dX12_layChange_153 : decode cX12_layChange 153 = .ok (.goto (-101), 3) := by decide +kernel
theorem dX12_layChange_156 : decode cX12_layChange 156 = .ok (.iinc 2 (-1), 3) := by decide +kernel
theorem dX12_layChange_159 : decode cX12_layChange 159 = .ok (.goto (-120), 3) := by decide +kernel
theorem dX12_layChange_162 : decode cX12_layChange 162 = .ok (.return_, 1) := by decide +kernel
theorem dX12_haveTubes_0 : decode cX12_haveTubes 0 = .ok (.iconst 0, 1) := by decide +kernel
theorem dX12_haveTubes_1 : decode cX12_haveTubes 1 = .ok (.istore_n 1, 1) := by decide +kernel
theorem dX12_haveTubes_2 : decode cX12_haveTubes 2 = .ok (.iload_n 1, 1) := by decide +kernel
theorem dX12_haveTubes_3 : decode cX12_haveTubes 3 = .ok (.bipush 8, 2) := by decide +kernel
theorem dX12_haveTubes_5 : decode cX12_haveTubes 5 = .ok (.if_icmp .ge 39, 3) := by decide +kernel
theorem dX12_haveTubes_8 : decode cX12_haveTubes 8 = .ok (.aload_n 0, 1) := by decide +kernel
theorem dX12_haveTubes_9 : decode cX12_haveTubes 9 = .ok (.getfield 44, 3) := by decide +kernel
theorem dX12_haveTubes_12 : decode cX12_haveTubes 12 = .ok (.iload_n 1, 1) := by decide +kernel
theorem dX12_haveTubes_13 : decode cX12_haveTubes 13 = .ok (.iload_n 1, 1) := by decide +kernel
theorem dX12_haveTubes_14 : decode cX12_haveTubes 14 = .ok (.aload_n 0, 1) := by decide +kernel
theorem dX12_haveTubes_15 : decode cX12_haveTubes 15 = .ok (.getfield 9, 3) := by decide +kernel
theorem dX12_haveTubes_18 : decode cX12_haveTubes 18 = .ok (.iconst 0, 1) := by decide +kernel
theorem dX12_haveTubes_19 : decode cX12_haveTubes 19 = .ok (.iaload, 1) := by decide +kernel
theorem dX12_haveTubes_20 : decode cX12_haveTubes 20 = .ok (.if_icmp .ge 16, 3) := by decide +kernel
theorem dX12_haveTubes_23 : decode cX12_haveTubes 23 = .ok (.aload_n 0, 1) := by decide +kernel
theorem dX12_haveTubes_24 : decode cX12_haveTubes 24 = .ok (.getfield 9, 3) := by decide +kernel
theorem dX12_haveTubes_27 : decode cX12_haveTubes 27 = .ok (.aload_n 0, 1) := by decide +kernel
theorem dX12_haveTubes_28 : decode cX12_haveTubes 28 = .ok (.iload_n 1, 1) := by decide +kernel
theorem dX12_haveTubes_29 : decode cX12_haveTubes 29 = .ok (.invokevirtual 293, 3) := by decide +kernel
theorem dX12_haveTubes_32 : decode cX12_haveTubes 32 = .ok (.iaload, 1) := by decide +kernel
theorem dX12_haveTubes_33 : decode cX12_haveTubes 33 = .ok (.goto 4, 3) := by decide +kernel
theorem dX12_haveTubes_36 : decode cX12_haveTubes 36 = .ok (.iconst 0, 1) := by decide +kernel
theorem dX12_haveTubes_37 : decode cX12_haveTubes 37 = .ok (.iastore, 1) := by decide +kernel
theorem dX12_haveTubes_38 : decode cX12_haveTubes 38 = .ok (.iinc 1 1, 3) := by decide +kernel
theorem dX12_haveTubes_41 : decode cX12_haveTubes 41 = .ok (.goto (-39), 3) := by decide +kernel
theorem dX12_haveTubes_44 : decode cX12_haveTubes 44 = .ok (.return_, 1) := by decide +kernel
theorem dX12_changes_0 : decode cX12_changes 0 = .ok (.aload_n 0, 1) := by decide +kernel
theorem dX12_changes_1 : decode cX12_changes 1 = .ok (.iload_n 1, 1) := by decide +kernel
theorem dX12_changes_2 : decode cX12_changes 2 = .ok (.invokevirtual 305, 3) := by decide +kernel
theorem dX12_changes_5 : decode cX12_changes 5 = .ok (.aload_n 0, 1) := by decide +kernel
theorem dX12_changes_6 : decode cX12_changes 6 = .ok (.getfield 41, 3) := by decide +kernel
theorem dX12_changes_9 : decode cX12_changes 9 = .ok (.aload_n 0, 1) := by decide +kernel
theorem dX12_changes_10 : decode cX12_changes 10 = .ok (.iconst 0, 1) := by decide +kernel
theorem dX12_changes_11 : decode cX12_changes 11 = .ok (.iload_n 1, 1) := by decide +kernel
theorem dX12_changes_12 : decode cX12_changes 12 = .ok (.invokevirtual 302, 3) := by decide +kernel
theorem dX12_changes_15 : decode cX12_changes 15 = .ok (.iaload, 1) := by decide +kernel
theorem dX12_changes_16 : decode cX12_changes 16 = .ok (.ldc_w 304, 3) := by decide +kernel
theorem dX12_changes_19 : decode cX12_changes 19 = .ok (.if_icmp .lt 5, 3) := by decide +kernel
theorem dX12_changes_22 : decode cX12_changes 22 = .ok (.iconst (-1), 1) := by decide +kernel
theorem dX12_changes_23 : decode cX12_changes 23 = .ok (.ireturn, 1) := by decide +kernel
theorem dX12_changes_24 : decode cX12_changes 24 = .ok (.iload_n 1, 1) := by decide +kernel
theorem dX12_changes_25 : decode cX12_changes 25 = .ok (.istore_n 2, 1) := by decide +kernel
theorem dX12_changes_26 : decode cX12_changes 26 = .ok (.iconst 0, 1) := by decide +kernel
theorem dX12_changes_27 : decode cX12_changes 27 = .ok (.istore_n 3, 1) := by decide +kernel
theorem dX12_changes_28 : decode cX12_changes 28 = .ok (.iload_n 3, 1) := by decide +kernel
theorem dX12_changes_29 : decode cX12_changes 29 = .ok (.bipush 8, 2) := by decide +kernel
theorem dX12_changes_31 : decode cX12_changes 31 = .ok (.if_icmp .ge 98, 3) := by decide +kernel
theorem dX12_changes_34 : decode cX12_changes 34 = .ok (.aload_n 0, 1) := by decide +kernel
theorem dX12_changes_35 : decode cX12_changes 35 = .ok (.iload_n 3, 1) := by decide +kernel
theorem dX12_changes_36 : decode cX12_changes 36 = .ok (.invokevirtual 264, 3) := by decide +kernel
theorem dX12_changes_39 : decode cX12_changes 39 = .ok (.istore 4, 2) := by decide +kernel
theorem dX12_changes_41 : decode cX12_changes 41 = .ok (.iload 4, 2) := by decide +kernel
theorem dX12_changes_43 : decode cX12_changes 43 = .ok (.ifCond .ne 7, 3) := by decide +kernel
theorem dX12_changes_46 : decode cX12_changes 46 = .ok (.iconst 0, 1) := by decide +kernel
theorem dX12_changes_47 : decode cX12_changes 47 = .ok (.goto 16, 3) := by decide +kernel
theorem dX12_changes_50 : decode cX12_changes 50 = .ok (.aload_n 0, 1) := by decide +kernel
theorem dX12_changes_51 : decode cX12_changes 51 = .ok (.getfield 44, 3) := by decide +kernel
theorem dX12_changes_54 : decode cX12_changes 54 = .ok (.iload_n 3, 1) := by decide +kernel
theorem dX12_changes_55 : decode cX12_changes 55 = .ok (.iaload, 1) := by decide +kernel
theorem dX12_changes_56 : decode cX12_changes 56 = .ok (.iload_n 2, 1) := by decide +kernel
theorem dX12_changes_57 : decode cX12_changes 57 = .ok (.iload 4, 2) := by decide +kernel
theorem dX12_changes_59 : decode cX12_changes 59 = .ok (.idiv, 1) := by decide +kernel
theorem dX12_changes_60 : decode cX12_changes 60 = .ok (.invokestatic 228, 3) := by decide +kernel
theorem dX12_changes_63 : decode cX12_changes 63 = .ok (.istore 5, 2) := by decide +kernel
theorem dX12_changes_65 : decode cX12_changes 65 = .ok (.iload 5, 2) := by decide +kernel
theorem dX12_changes_67 : decode cX12_changes 67 = .ok (.aload_n 0, 1) := by decide +kernel
theorem dX12_changes_68 : decode cX12_changes 68 = .ok (.getfield 41, 3) := by decide +kernel
theorem dX12_changes_71 : decode cX12_changes 71 = .ok (.aload_n 0, 1) := by decide +kernel
theorem dX12_changes_72 : decode cX12_changes 72 = .ok (.iload_n 3, 1) := by decide +kernel
theorem dX12_changes_73 : decode cX12_changes 73 = .ok (.iconst 1, 1) := by decide +kernel
theorem dX12_changes_74 : decode cX12_changes 74 = .ok (.iadd, 1) := by decide +kernel
theorem dX12_changes_75 : decode cX12_changes 75 = .ok (.iload_n 2, 1) := by decide +kernel
theorem dX12_changes_76 : decode cX12_changes 76 = .ok (.iload 5, 2) := by decide +kernel
theorem dX12_changes_78 : decode cX12_changes 78 = .ok (.iload 4, 2) := by decide +kernel
theorem dX12_changes_80 : decode cX12_changes 80 = .ok (.imul, 1) := by decide +kernel
theorem dX12_changes_81 : decode cX12_changes 81 = .ok (.isub, 1) := by decide +kernel
theorem dX12_changes_82 : decode cX12_changes 82 = .ok (.invokevirtual 302, 3) := by decide +kernel
theorem dX12_changes_85 : decode cX12_changes 85 = .ok (.iaload, 1) := by decide +kernel
theorem dX12_changes_86 : decode cX12_changes 86 = .ok (.iadd, 1) := by decide +kernel
theorem dX12_changes_87 : decode cX12_changes 87 = .ok (.aload_n 0, 1) := by decide +kernel
theorem dX12_changes_88 : decode cX12_changes 88 = .ok (.getfield 41, 3) := by decide +kernel
theorem dX12_changes_91 : decode cX12_changes 91 = .ok (.aload_n 0, 1) := by decide +kernel
theorem dX12_changes_92 : decode cX12_changes 92 = .ok (.iload_n 3, 1) := by decide +kernel
theorem dX12_changes_93 : decode cX12_changes 93 = .ok (.iload_n 2, 1) := by decide +kernel
theorem dX12_changes_94 : decode cX12_changes 94 = .ok (.invokevirtual 302, 3) := by decide +kernel
theorem dX12_changes_97 : decode cX12_changes 97 = .ok (.iaload, 1) := by decide +kernel
theorem dX12_changes_98 : decode cX12_changes 98 = .ok (.if_icmp .eq 9, 3) := by decide +kernel
theorem dX12_changes_101 : decode cX12_changes 101 = .ok (.iinc 5 (-1), 3) := by decide +kernel
theorem dX12_changes_104 : decode cX12_changes 104 = .ok (.goto (-39), 3) := by decide +kernel
theorem dX12_changes_107 : decode cX12_changes 107 = .ok (.aload_n 0, 1) := by decide +kernel
theorem dX12_changes_108 : decode cX12_changes 108 = .ok (.getfield 47, 3) := by decide +kernel
theorem dX12_changes_111 : decode cX12_changes 111 = .ok (.iload_n 3, 1) := by decide +kernel
theorem dX12_changes_112 : decode cX12_changes 112 = .ok (.iload 5, 2) := by decide +kernel
theorem dX12_changes_114 : decode cX12_changes 114 = .ok (.iastore, 1) := by decide +kernel
theorem dX12_changes_115 : decode cX12_changes 115 = .ok (.iload_n 2, 1) := by decide +kernel
theorem dX12_changes_116 : decode cX12_changes 116 = .ok (.iload 5, 2) := by decide +kernel
theorem dX12_changes_118 : decode cX12_changes 118 = .ok (.iload 4, 2) := by decide +kernel
theorem dX12_changes_120 : decode cX12_changes 120 = .ok (.imul, 1) := by decide +kernel
theorem dX12_changes_121 : decode cX12_changes 121 = .ok (.isub, 1) := by decide +kernel
theorem dX12_changes_122 : decode cX12_changes 122 = .ok (.istore_n 2, 1) := by decide +kernel
theorem dX12_changes_123 : decode cX12_changes 123 = .ok (.iinc 3 1, 3) := by decide +kernel
theorem dX12_changes_126 : decode cX12_changes 126 = .ok (.goto (-98), 3) := by decide +kernel
theorem dX12_changes_129 : decode cX12_changes 129 = .ok (.aload_n 0, 1) := by decide +kernel
theorem dX12_changes_130 : decode cX12_changes 130 = .ok (.getfield 41, 3) := by decide +kernel
theorem dX12_changes_133 : decode cX12_changes 133 = .ok (.aload_n 0, 1) := by decide +kernel
theorem dX12_changes_134 : decode cX12_changes 134 = .ok (.iconst 0, 1) := by decide +kernel
theorem dX12_changes_135 : decode cX12_changes 135 = .ok (.iload_n 1, 1) := by decide +kernel
theorem dX12_changes_136 : decode cX12_changes 136 = .ok (.invokevirtual 302, 3) := by decide +kernel
theorem dX12_changes_139 : decode cX12_changes 139 = .ok (.iaload, 1) := by decide +kernel
theorem dX12_changes_140 : decode cX12_changes 140 = .ok (.ireturn, 1) := by decide +kernel
theorem dX12_lies_0 : decode cX12_lies 0 = .ok (.aload_n 0, 1) := by decide +kernel
theorem dX12_lies_1 : decode cX12_lies 1 = .ok (.getfield 9, 3) := by decide +kernel
theorem dX12_lies_4 : decode cX12_lies 4 = .ok (.sipush 357, 3) := by decide +kernel
theorem dX12_lies_7 : decode cX12_lies 7 = .ok (.iconst 4, 1) := by decide +kernel
theorem dX12_lies_8 : decode cX12_lies 8 = .ok (.iload_n 1, 1) := by decide +kernel
theorem dX12_lies_9 : decode cX12_lies 9 = .ok (.imul, 1) := by decide +kernel
theorem dX12_lies_10 : decode cX12_lies 10 = .ok (.iadd, 1) := by decide +kernel
theorem dX12_lies_11 : decode cX12_lies 11 = .ok (.iload_n 2, 1) := by decide +kernel
theorem dX12_lies_12 : decode cX12_lies 12 = .ok (.iadd, 1) := by decide +kernel
theorem dX12_lies_13 : decode cX12_lies 13 = .ok (.iaload, 1) := by decide +kernel
theorem dX12_lies_14 : decode cX12_lies 14 = .ok (.ireturn, 1) := by decide +kernel
theorem dX12_isCoin_0 : decode cX12_isCoin 0 = .ok (.iload_n 2, 1) := by decide +kernel
theorem dX12_isCoin_1 : decode cX12_isCoin 1 = .ok (.i2l, 1) := by decide +kernel
theorem dX12_isCoin_2 : decode cX12_isCoin 2 = .ok (.aload_n 0, 1) := by decide +kernel
theorem dX12_isCoin_3 : decode cX12_isCoin 3 = .ok (.iload_n 1, 1) := by decide +kernel
theorem dX12_isCoin_4 : decode cX12_isCoin 4 = .ok (.iconst 0, 1) := by decide +kernel
theorem dX12_isCoin_5 : decode cX12_isCoin 5 = .ok (.iconst 0, 1) := by decide +kernel
theorem dX12_isCoin_6 : decode cX12_isCoin 6 = .ok (.invokevirtual 128, 3) := by decide +kernel
theorem dX12_isCoin_9 : decode cX12_isCoin 9 = .ok (.i2l, 1) := by decide +kernel
theorem dX12_isCoin_10 : decode cX12_isCoin 10 = .ok (.aload_n 0, 1) := by decide +kernel
theorem dX12_isCoin_11 : decode cX12_isCoin 11 = .ok (.iload_n 1, 1) := by decide +kernel
theorem dX12_isCoin_12 : decode cX12_isCoin 12 = .ok (.iconst 0, 1) := by decide +kernel
theorem dX12_isCoin_13 : decode cX12_isCoin 13 = .ok (.iconst 1, 1) := by decide +kernel
theorem dX12_isCoin_14 : decode cX12_isCoin 14 = .ok (.invokevirtual 128, 3) := by decide +kernel
theorem dX12_isCoin_17 : decode cX12_isCoin 17 = .ok (.i2l, 1) := by decide +kernel
theorem dX12_isCoin_18 : decode cX12_isCoin 18 = .ok (.invokestatic 83, 3) := by decide +kernel
theorem dX12_isCoin_21 : decode cX12_isCoin 21 = .ok (.ifCond .eq 56, 3) := by decide +kernel
theorem dX12_isCoin_24 : decode cX12_isCoin 24 = .ok (.iload_n 3, 1) := by decide +kernel
theorem dX12_isCoin_25 : decode cX12_isCoin 25 = .ok (.i2l, 1) := by decide +kernel
theorem dX12_isCoin_26 : decode cX12_isCoin 26 = .ok (.aload_n 0, 1) := by decide +kernel
theorem dX12_isCoin_27 : decode cX12_isCoin 27 = .ok (.iload_n 1, 1) := by decide +kernel
theorem dX12_isCoin_28 : decode cX12_isCoin 28 = .ok (.iconst 1, 1) := by decide +kernel
theorem dX12_isCoin_29 : decode cX12_isCoin 29 = .ok (.iconst 0, 1) := by decide +kernel
theorem dX12_isCoin_30 : decode cX12_isCoin 30 = .ok (.invokevirtual 128, 3) := by decide +kernel
theorem dX12_isCoin_33 : decode cX12_isCoin 33 = .ok (.i2l, 1) := by decide +kernel
theorem dX12_isCoin_34 : decode cX12_isCoin 34 = .ok (.aload_n 0, 1) := by decide +kernel
theorem dX12_isCoin_35 : decode cX12_isCoin 35 = .ok (.iload_n 1, 1) := by decide +kernel
theorem dX12_isCoin_36 : decode cX12_isCoin 36 = .ok (.iconst 1, 1) := by decide +kernel
theorem dX12_isCoin_37 : decode cX12_isCoin 37 = .ok (.iconst 1, 1) := by decide +kernel
theorem dX12_isCoin_38 : decode cX12_isCoin 38 = .ok (.invokevirtual 128, 3) := by decide +kernel
theorem dX12_isCoin_41 : decode cX12_isCoin 41 = .ok (.i2l, 1) := by decide +kernel
theorem dX12_isCoin_42 : decode cX12_isCoin 42 = .ok (.invokestatic 83, 3) := by decide +kernel
theorem dX12_isCoin_45 : decode cX12_isCoin 45 = .ok (.ifCond .eq 32, 3) := by decide +kernel
theorem dX12_isCoin_48 : decode cX12_isCoin 48 = .ok (.iload 4, 2) := by decide +kernel
theorem dX12_isCoin_50 : decode cX12_isCoin 50 = .ok (.i2l, 1) := by decide +kernel
theorem dX12_isCoin_51 : decode cX12_isCoin 51 = .ok (.aload_n 0, 1) := by decide +kernel
theorem dX12_isCoin_52 : decode cX12_isCoin 52 = .ok (.iload_n 1, 1) := by decide +kernel
theorem dX12_isCoin_53 : decode cX12_isCoin 53 = .ok (.iconst 2, 1) := by decide +kernel
theorem dX12_isCoin_54 : decode cX12_isCoin 54 = .ok (.iconst 0, 1) := by decide +kernel
theorem dX12_isCoin_55 : decode cX12_isCoin 55 = .ok (.invokevirtual 128, 3) := by decide +kernel
theorem dX12_isCoin_58 : decode cX12_isCoin 58 = .ok (.i2l, 1) := by decide +kernel
theorem dX12_isCoin_59 : decode cX12_isCoin 59 = .ok (.aload_n 0, 1) := by decide +kernel
theorem dX12_isCoin_60 : decode cX12_isCoin 60 = .ok (.iload_n 1, 1) := by decide +kernel
theorem dX12_isCoin_61 : decode cX12_isCoin 61 = .ok (.iconst 2, 1) := by decide +kernel
theorem dX12_isCoin_62 : decode cX12_isCoin 62 = .ok (.iconst 1, 1) := by decide +kernel
theorem dX12_isCoin_63 : decode cX12_isCoin 63 = .ok (.invokevirtual 128, 3) := by decide +kernel
theorem dX12_isCoin_66 : decode cX12_isCoin 66 = .ok (.i2l, 1) := by decide +kernel
theorem dX12_isCoin_67 : decode cX12_isCoin 67 = .ok (.invokestatic 83, 3) := by decide +kernel
theorem dX12_isCoin_70 : decode cX12_isCoin 70 = .ok (.ifCond .eq 7, 3) := by decide +kernel
theorem dX12_isCoin_73 : decode cX12_isCoin 73 = .ok (.iconst 1, 1) := by decide +kernel
theorem dX12_isCoin_74 : decode cX12_isCoin 74 = .ok (.goto 4, 3) := by decide +kernel
theorem dX12_isCoin_77 : decode cX12_isCoin 77 = .ok (.iconst 0, 1) := by decide +kernel
theorem dX12_isCoin_78 : decode cX12_isCoin 78 = .ok (.ireturn, 1) := by decide +kernel
theorem dX12_put_0 : decode cX12_put 0 = .ok (.aload_n 0, 1) := by decide +kernel
theorem dX12_put_1 : decode cX12_put 1 = .ok (.iconst 0, 1) := by decide +kernel
theorem dX12_put_2 : decode cX12_put 2 = .ok (.putfield 80, 3) := by decide +kernel
theorem dX12_put_5 : decode cX12_put 5 = .ok (.aload_n 0, 1) := by decide +kernel
theorem dX12_put_6 : decode cX12_put 6 = .ok (.iload_n 1, 1) := by decide +kernel
theorem dX12_put_7 : decode cX12_put 7 = .ok (.invokevirtual 99, 3) := by decide +kernel
theorem dX12_put_10 : decode cX12_put 10 = .ok (.ifCond .ne 9, 3) := by decide +kernel
theorem dX12_put_13 : decode cX12_put 13 = .ok (.aload_n 0, 1) := by decide +kernel
theorem dX12_put_14 : decode cX12_put 14 = .ok (.iconst 1, 1) := by decide +kernel
theorem dX12_put_15 : decode cX12_put 15 = .ok (.invokevirtual 95, 3) := by decide +kernel
theorem dX12_put_18 : decode cX12_put 18 = .ok (.ireturn, 1) := by decide +kernel
theorem dX12_put_19 : decode cX12_put 19 = .ok (.iload 5, 2) := by decide +kernel
theorem dX12_put_21 : decode cX12_put 21 = .ok (.i2l, 1) := by decide +kernel
theorem dX12_put_22 : decode cX12_put 22 = .ok (.lconst 0, 1) := by decide +kernel
theorem dX12_put_23 : decode cX12_put 23 = .ok (.ldc2_w 115, 3) := by decide +kernel
theorem dX12_put_26 : decode cX12_put 26 = .ok (.invokestatic 83, 3) := by decide +kernel
theorem dX12_put_29 : decode cX12_put 29 = .ok (.ifCond .eq 15, 3) := by decide +kernel
theorem dX12_put_32 : decode cX12_put 32 = .ok (.aload_n 0, 1) := by decide +kernel
theorem dX12_put_33 : decode cX12_put 33 = .ok (.iload_n 1, 1) := by decide +kernel
theorem dX12_put_34 : decode cX12_put 34 = .ok (.iload_n 2, 1) := by decide +kernel
theorem dX12_put_35 : decode cX12_put 35 = .ok (.iload_n 3, 1) := by decide +kernel
theorem dX12_put_36 : decode cX12_put 36 = .ok (.iload 4, 2) := by decide +kernel
theorem dX12_put_38 : decode cX12_put 38 = .ok (.invokevirtual 308, 3) := by decide +kernel
theorem dX12_put_41 : decode cX12_put 41 = .ok (.ifCond .ne 9, 3) := by decide +kernel
theorem dX12_put_44 : decode cX12_put 44 = .ok (.aload_n 0, 1) := by decide +kernel
theorem dX12_put_45 : decode cX12_put 45 = .ok (.iconst 2, 1) := by decide +kernel
theorem dX12_put_46 : decode cX12_put 46 = .ok (.invokevirtual 95, 3) := by decide +kernel
theorem dX12_put_49 : decode cX12_put 49 = .ok (.ireturn, 1) := by decide +kernel
theorem dX12_put_50 : decode cX12_put 50 = .ok (.iload 5, 2) := by decide +kernel
theorem dX12_put_52 : decode cX12_put 52 = .ok (.iconst 3, 1) := by decide +kernel
theorem dX12_put_53 : decode cX12_put 53 = .ok (.if_icmp .ne 19, 3) := by decide +kernel
theorem dX12_put_56 : decode cX12_put 56 = .ok (.aload_n 0, 1) := by decide +kernel
theorem dX12_put_57 : decode cX12_put 57 = .ok (.getfield 9, 3) := by decide +kernel
theorem dX12_put_60 : decode cX12_put 60 = .ok (.sipush 327, 3) := by decide +kernel
theorem dX12_put_63 : decode cX12_put 63 = .ok (.iload_n 1, 1) := by decide +kernel
theorem dX12_put_64 : decode cX12_put 64 = .ok (.iadd, 1) := by decide +kernel
theorem dX12_put_65 : decode cX12_put 65 = .ok (.dup2, 1) := by decide +kernel
theorem dX12_put_66 : decode cX12_put 66 = .ok (.iaload, 1) := by decide +kernel
theorem dX12_put_67 : decode cX12_put 67 = .ok (.iconst 1, 1) := by decide +kernel
theorem dX12_put_68 : decode cX12_put 68 = .ok (.iadd, 1) := by decide +kernel
theorem dX12_put_69 : decode cX12_put 69 = .ok (.iastore, 1) := by decide +kernel
theorem dX12_put_70 : decode cX12_put 70 = .ok (.iload_n 1, 1) := by decide +kernel
theorem dX12_put_71 : decode cX12_put 71 = .ok (.ireturn, 1) := by decide +kernel
theorem dX12_put_72 : decode cX12_put 72 = .ok (.aload_n 0, 1) := by decide +kernel
theorem dX12_put_73 : decode cX12_put 73 = .ok (.iload_n 2, 1) := by decide +kernel
theorem dX12_put_74 : decode cX12_put 74 = .ok (.iload_n 3, 1) := by decide +kernel
theorem dX12_put_75 : decode cX12_put 75 = .ok (.iload 4, 2) := by decide +kernel
theorem dX12_put_77 : decode cX12_put 77 = .ok (.invokevirtual 258, 3) := by decide +kernel
theorem dX12_put_80 : decode cX12_put 80 = .ok (.istore 6, 2) := by decide +kernel
theorem dX12_put_82 : decode cX12_put 82 = .ok (.iload 6, 2) := by decide +kernel
theorem dX12_put_84 : decode cX12_put 84 = .ok (.iconst (-1), 1) := by decide +kernel
theorem dX12_put_85 : decode cX12_put 85 = .ok (.if_icmp .eq 14, 3) := by decide +kernel
theorem dX12_put_88 : decode cX12_put 88 = .ok (.aload_n 0, 1) := by decide +kernel
theorem dX12_put_89 : decode cX12_put 89 = .ok (.getfield 9, 3) := by decide +kernel
theorem dX12_put_92 : decode cX12_put 92 = .ok (.iconst 3, 1) := by decide +kernel
theorem dX12_put_93 : decode cX12_put 93 = .ok (.iaload, 1) := by decide +kernel
theorem dX12_put_94 : decode cX12_put 94 = .ok (.bipush 12, 2) := by decide +kernel
theorem dX12_put_96 : decode cX12_put 96 = .ok (.if_icmp .ne 5, 3) := by decide +kernel
theorem dX12_put_99 : decode cX12_put 99 = .ok (.iconst (-1), 1) := by decide +kernel
theorem dX12_put_100 : decode cX12_put 100 = .ok (.ireturn, 1) := by decide +kernel
theorem dX12_put_101 : decode cX12_put 101 = .ok (.sipush 357, 3) := by decide +kernel
theorem dX12_put_104 : decode cX12_put 104 = .ok (.iconst 4, 1) := by decide +kernel
theorem dX12_put_105 : decode cX12_put 105 = .ok (.aload_n 0, 1) := by decide +kernel
theorem dX12_put_106 : decode cX12_put 106 = .ok (.getfield 9, 3) := by decide +kernel
theorem dX12_put_109 : decode cX12_put 109 = .ok (.iconst 3, 1) := by decide +kernel
theorem dX12_put_110 : decode cX12_put 110 = .ok (.iaload, 1) := by decide +kernel
theorem dX12_put_111 : decode cX12_put 111 = .ok (.imul, 1) := by decide +kernel
theorem dX12_put_112 : decode cX12_put 112 = .ok (.iadd, 1) := by decide +kernel
theorem dX12_put_113 : decode cX12_put 113 = .ok (.istore 7, 2) := by decide +kernel
theorem dX12_put_115 : decode cX12_put 115 = .ok (.aload_n 0, 1) := by decide +kernel
theorem dX12_put_116 : decode cX12_put 116 = .ok (.getfield 9, 3) := by decide +kernel
theorem dX12_put_119 : decode cX12_put 119 = .ok (.iload 7, 2) := by decide +kernel
theorem dX12_put_121 : decode cX12_put 121 = .ok (.iload 6, 2) := by decide +kernel
theorem dX12_put_123 : decode cX12_put 123 = .ok (.iastore, 1) := by decide +kernel
theorem dX12_put_124 : decode cX12_put 124 = .ok (.aload_n 0, 1) := by decide +kernel
theorem dX12_put_125 : decode cX12_put 125 = .ok (.getfield 9, 3) := by decide +kernel
theorem dX12_put_128 : decode cX12_put 128 = .ok (.iload 7, 2) := by decide +kernel
theorem dX12_put_130 : decode cX12_put 130 = .ok (.iconst 1, 1) := by decide +kernel
theorem dX12_put_131 : decode cX12_put 131 = .ok (.iadd, 1) := by decide +kernel
theorem dX12_put_132 : decode cX12_put 132 = .ok (.iload 5, 2) := by decide +kernel
theorem dX12_put_134 : decode cX12_put 134 = .ok (.iconst 2, 1) := by decide +kernel
theorem dX12_put_135 : decode cX12_put 135 = .ok (.if_icmp .ne 7, 3) := by decide +kernel
theorem dX12_put_138 : decode cX12_put 138 = .ok (.iconst (-1), 1) := by decide +kernel
theorem dX12_put_139 : decode cX12_put 139 = .ok (.goto 4, 3) := by decide +kernel
theorem dX12_put_142 : decode cX12_put 142 = .ok (.iload_n 1, 1) := by decide +kernel
theorem dX12_put_143 : decode cX12_put 143 = .ok (.iastore, 1) := by decide +kernel
theorem dX12_put_144 : decode cX12_put 144 = .ok (.aload_n 0, 1) := by decide +kernel
theorem dX12_put_145 : decode cX12_put 145 = .ok (.getfield 9, 3) := by decide +kernel
theorem dX12_put_148 : decode cX12_put 148 = .ok (.iload 7, 2) := by decide +kernel
theorem dX12_put_150 : decode cX12_put 150 = .ok (.iconst 2, 1) := by decide +kernel
theorem dX12_put_151 : decode cX12_put 151 = .ok (.iadd, 1) := by decide +kernel
theorem dX12_put_152 : decode cX12_put 152 = .ok (.iload 5, 2) := by decide +kernel
theorem dX12_put_154 : decode cX12_put 154 = .ok (.iconst 1, 1) := by decide +kernel
theorem dX12_put_155 : decode cX12_put 155 = .ok (.if_icmp .ne 15, 3) := by decide +kernel
theorem dX12_put_158 : decode cX12_put 158 = .ok (.iconst 2, 1) := by decide +kernel
theorem dX12_put_159 : decode cX12_put 159 = .ok (.aload_n 0, 1) := by decide +kernel
theorem dX12_put_160 : decode cX12_put 160 = .ok (.iload 6, 2) := by decide +kernel
theorem dX12_put_162 : decode cX12_put 162 = .ok (.iconst 0, 1) := by decide +kernel
theorem dX12_put_163 : decode cX12_put 163 = .ok (.invokevirtual 117, 3) := by decide +kernel
theorem dX12_put_166 : decode cX12_put 166 = .ok (.imul, 1) := by decide +kernel
theorem dX12_put_167 : decode cX12_put 167 = .ok (.goto 10, 3) := by decide +kernel
theorem dX12_put_170 : decode cX12_put 170 = .ok (.aload_n 0, 1) := by decide +kernel
theorem dX12_put_171 : decode cX12_put 171 = .ok (.iload 6, 2) := by decide +kernel
theorem dX12_put_173 : decode cX12_put 173 = .ok (.iconst 0, 1) := by decide +kernel
theorem dX12_put_174 : decode cX12_put 174 = .ok (.invokevirtual 117, 3) := by decide +kernel
theorem dX12_put_177 : decode cX12_put 177 = .ok (.iastore, 1) := by decide +kernel
theorem dX12_put_178 : decode cX12_put 178 = .ok (.aload_n 0, 1) := by decide +kernel
theorem dX12_put_179 : decode cX12_put 179 = .ok (.getfield 9, 3) := by decide +kernel
theorem dX12_put_182 : decode cX12_put 182 = .ok (.iload 7, 2) := by decide +kernel
theorem dX12_put_184 : decode cX12_put 184 = .ok (.iconst 3, 1) := by decide +kernel
theorem dX12_put_185 : decode cX12_put 185 = .ok (.iadd, 1) := by decide +kernel
theorem dX12_put_186 : decode cX12_put 186 = .ok (.iload 5, 2) := by decide +kernel
theorem dX12_put_188 : decode cX12_put 188 = .ok (.iconst 1, 1) := by decide +kernel
theorem dX12_put_189 : decode cX12_put 189 = .ok (.if_icmp .ne 7, 3) := by decide +kernel
theorem dX12_put_192 : decode cX12_put 192 = .ok (.iconst 2, 1) := by decide +kernel
theorem dX12_put_193 : decode cX12_put 193 = .ok (.goto 4, 3) := by decide +kernel
theorem dX12_put_196 : decode cX12_put 196 = .ok (.iconst 1, 1) := by decide +kernel
theorem dX12_put_197 : decode cX12_put 197 = .ok (.iastore, 1) := by decide +kernel
theorem dX12_put_198 : decode cX12_put 198 = .ok (.aload_n 0, 1) := by decide +kernel
theorem dX12_put_199 : decode cX12_put 199 = .ok (.getfield 9, 3) := by decide +kernel
theorem dX12_put_202 : decode cX12_put 202 = .ok (.sipush 343, 3) := by decide +kernel
theorem dX12_put_205 : decode cX12_put 205 = .ok (.iload 6, 2) := by decide +kernel
theorem dX12_put_207 : decode cX12_put 207 = .ok (.iadd, 1) := by decide +kernel
theorem dX12_put_208 : decode cX12_put 208 = .ok (.dup2, 1) := by decide +kernel
theorem dX12_put_209 : decode cX12_put 209 = .ok (.iaload, 1) := by decide +kernel
theorem dX12_put_210 : decode cX12_put 210 = .ok (.aload_n 0, 1) := by decide +kernel
theorem dX12_put_211 : decode cX12_put 211 = .ok (.getfield 9, 3) := by decide +kernel
theorem dX12_put_214 : decode cX12_put 214 = .ok (.iload 7, 2) := by decide +kernel
theorem dX12_put_216 : decode cX12_put 216 = .ok (.iconst 3, 1) := by decide +kernel
theorem dX12_put_217 : decode cX12_put 217 = .ok (.iadd, 1) := by decide +kernel
theorem dX12_put_218 : decode cX12_put 218 = .ok (.iaload, 1) := by decide +kernel
theorem dX12_put_219 : decode cX12_put 219 = .ok (.iadd, 1) := by decide +kernel
theorem dX12_put_220 : decode cX12_put 220 = .ok (.iastore, 1) := by decide +kernel
theorem dX12_put_221 : decode cX12_put 221 = .ok (.aload_n 0, 1) := by decide +kernel
theorem dX12_put_222 : decode cX12_put 222 = .ok (.getfield 9, 3) := by decide +kernel
theorem dX12_put_225 : decode cX12_put 225 = .ok (.iconst 3, 1) := by decide +kernel
theorem dX12_put_226 : decode cX12_put 226 = .ok (.dup2, 1) := by decide +kernel
theorem dX12_put_227 : decode cX12_put 227 = .ok (.iaload, 1) := by decide +kernel
theorem dX12_put_228 : decode cX12_put 228 = .ok (.iconst 1, 1) := by decide +kernel
theorem dX12_put_229 : decode cX12_put 229 = .ok (.iadd, 1) := by decide +kernel
theorem dX12_put_230 : decode cX12_put 230 = .ok (.iastore, 1) := by decide +kernel
theorem dX12_put_231 : decode cX12_put 231 = .ok (.iload 6, 2) := by decide +kernel
theorem dX12_put_233 : decode cX12_put 233 = .ok (.ireturn, 1) := by decide +kernel
theorem dX12_creditOf_0 : decode cX12_creditOf 0 = .ok (.iconst 0, 1) := by decide +kernel
theorem dX12_creditOf_1 : decode cX12_creditOf 1 = .ok (.istore_n 1, 1) := by decide +kernel
theorem dX12_creditOf_2 : decode cX12_creditOf 2 = .ok (.iconst 0, 1) := by decide +kernel
theorem dX12_creditOf_3 : decode cX12_creditOf 3 = .ok (.istore_n 2, 1) := by decide +kernel
theorem dX12_creditOf_4 : decode cX12_creditOf 4 = .ok (.iload_n 2, 1) := by decide +kernel
theorem dX12_creditOf_5 : decode cX12_creditOf 5 = .ok (.aload_n 0, 1) := by decide +kernel
theorem dX12_creditOf_6 : decode cX12_creditOf 6 = .ok (.getfield 9, 3) := by decide +kernel
theorem dX12_creditOf_9 : decode cX12_creditOf 9 = .ok (.iconst 3, 1) := by decide +kernel
theorem dX12_creditOf_10 : decode cX12_creditOf 10 = .ok (.iaload, 1) := by decide +kernel
theorem dX12_creditOf_11 : decode cX12_creditOf 11 = .ok (.if_icmp .ge 18, 3) := by decide +kernel
theorem dX12_creditOf_14 : decode cX12_creditOf 14 = .ok (.iload_n 1, 1) := by decide +kernel
theorem dX12_creditOf_15 : decode cX12_creditOf 15 = .ok (.aload_n 0, 1) := by decide +kernel
theorem dX12_creditOf_16 : decode cX12_creditOf 16 = .ok (.iload_n 2, 1) := by decide +kernel
theorem dX12_creditOf_17 : decode cX12_creditOf 17 = .ok (.iconst 2, 1) := by decide +kernel
theorem dX12_creditOf_18 : decode cX12_creditOf 18 = .ok (.invokevirtual 312, 3) := by decide +kernel
theorem dX12_creditOf_21 : decode cX12_creditOf 21 = .ok (.iadd, 1) := by decide +kernel
theorem dX12_creditOf_22 : decode cX12_creditOf 22 = .ok (.istore_n 1, 1) := by decide +kernel
theorem dX12_creditOf_23 : decode cX12_creditOf 23 = .ok (.iinc 2 1, 3) := by decide +kernel
theorem dX12_creditOf_26 : decode cX12_creditOf 26 = .ok (.goto (-22), 3) := by decide +kernel
theorem dX12_creditOf_29 : decode cX12_creditOf 29 = .ok (.iload_n 1, 1) := by decide +kernel
theorem dX12_creditOf_30 : decode cX12_creditOf 30 = .ok (.ireturn, 1) := by decide +kernel
