theorem dL_cell_0 : decode cL_cell 0 = .ok (.iload_n 1, 1) := by decide +kernel
theorem dL_cell_1 : decode cL_cell 1 = .ok (.aload_n 0, 1) := by decide +kernel
theorem dL_cell_2 : decode cL_cell 2 = .ok (.arraylength, 1) := by decide +kernel
theorem dL_cell_3 : decode cL_cell 3 = .ok (.if_icmp .ge 9, 3) := by decide +kernel
theorem dL_cell_6 : decode cL_cell 6 = .ok (.aload_n 0, 1) := by decide +kernel
theorem dL_cell_7 : decode cL_cell 7 = .ok (.iload_n 1, 1) := by decide +kernel
theorem dL_cell_8 : decode cL_cell 8 = .ok (.iaload, 1) := by decide +kernel
theorem dL_cell_9 : decode cL_cell 9 = .ok (.goto 11, 3) := by decide +kernel
theorem dL_cell_12 : decode cL_cell 12 = .ok (.ldc 7, 2) := by decide +kernel
theorem dL_cell_14 : decode cL_cell 14 = .ok (.iload_n 1, 1) := by decide +kernel
theorem dL_cell_15 : decode cL_cell 15 = .ok (.imul, 1) := by decide +kernel
theorem dL_cell_16 : decode cL_cell 16 = .ok (.sipush 929, 3) := by decide +kernel
theorem dL_cell_19 : decode cL_cell 19 = .ok (.iadd, 1) := by decide +kernel
theorem dL_cell_20 : decode cL_cell 20 = .ok (.ldc 8, 2) := by decide +kernel
theorem dL_cell_22 : decode cL_cell 22 = .ok (.iand, 1) := by decide +kernel
theorem dL_cell_23 : decode cL_cell 23 = .ok (.ireturn, 1) := by decide +kernel
theorem dL_sound_0 : decode cL_sound 0 = .ok (.iconst 0, 1) := by decide +kernel
theorem dL_sound_1 : decode cL_sound 1 = .ok (.istore_n 2, 1) := by decide +kernel
theorem dL_sound_2 : decode cL_sound 2 = .ok (.iconst 0, 1) := by decide +kernel
theorem dL_sound_3 : decode cL_sound 3 = .ok (.istore_n 3, 1) := by decide +kernel
theorem dL_sound_4 : decode cL_sound 4 = .ok (.iconst 0, 1) := by decide +kernel
theorem dL_sound_5 : decode cL_sound 5 = .ok (.istore 4, 2) := by decide +kernel
theorem dL_sound_7 : decode cL_sound 7 = .ok (.iconst 1, 1) := by decide +kernel
theorem dL_sound_8 : decode cL_sound 8 = .ok (.istore 5, 2) := by decide +kernel
theorem dL_sound_10 : decode cL_sound 10 = .ok (.iconst 0, 1) := by decide +kernel
theorem dL_sound_11 : decode cL_sound 11 = .ok (.istore 6, 2) := by decide +kernel
theorem dL_sound_13 : decode cL_sound 13 = .ok (.iload 6, 2) := by decide +kernel
theorem dL_sound_15 : decode cL_sound 15 = .ok (.aload_n 0, 1) := by decide +kernel
theorem dL_sound_16 : decode cL_sound 16 = .ok (.iconst 0, 1) := by decide +kernel
theorem dL_sound_17 : decode cL_sound 17 = .ok (.invokevirtual 9, 3) := by decide +kernel
theorem dL_sound_20 : decode cL_sound 20 = .ok (.if_icmp .ge 204, 3) := by decide +kernel
theorem dL_sound_23 : decode cL_sound 23 = .ok (.iload 5, 2) := by decide +kernel
theorem dL_sound_25 : decode cL_sound 25 = .ok (.ifCond .eq 199, 3) := by decide +kernel
theorem dL_sound_28 : decode cL_sound 28 = .ok (.iconst 0, 1) := by decide +kernel
theorem dL_sound_29 : decode cL_sound 29 = .ok (.istore 7, 2) := by decide +kernel
theorem dL_sound_31 : decode cL_sound 31 = .ok (.iconst 0, 1) := by decide +kernel
theorem dL_sound_32 : decode cL_sound 32 = .ok (.istore 8, 2) := by decide +kernel
theorem dL_sound_34 : decode cL_sound 34 = .ok (.iconst 0, 1) := by decide +kernel
theorem dL_sound_35 : decode cL_sound 35 = .ok (.istore 9, 2) := by decide +kernel
theorem dL_sound_37 : decode cL_sound 37 = .ok (.iload 9, 2) := by decide +kernel
theorem dL_sound_39 : decode cL_sound 39 = .ok (.aload_n 0, 1) := by decide +kernel
theorem dL_sound_40 : decode cL_sound 40 = .ok (.iconst 1, 1) := by decide +kernel
theorem dL_sound_41 : decode cL_sound 41 = .ok (.invokevirtual 9, 3) := by decide +kernel
theorem dL_sound_44 : decode cL_sound 44 = .ok (.if_icmp .ge 44, 3) := by decide +kernel
theorem dL_sound_47 : decode cL_sound 47 = .ok (.iload 7, 2) := by decide +kernel
theorem dL_sound_49 : decode cL_sound 49 = .ok (.aload_n 0, 1) := by decide +kernel
theorem dL_sound_50 : decode cL_sound 50 = .ok (.iload 6, 2) := by decide +kernel
theorem dL_sound_52 : decode cL_sound 52 = .ok (.iload 9, 2) := by decide +kernel
theorem dL_sound_54 : decode cL_sound 54 = .ok (.invokevirtual 15, 3) := by decide +kernel
theorem dL_sound_57 : decode cL_sound 57 = .ok (.iadd, 1) := by decide +kernel
theorem dL_sound_58 : decode cL_sound 58 = .ok (.istore 7, 2) := by decide +kernel
theorem dL_sound_60 : decode cL_sound 60 = .ok (.iload 8, 2) := by decide +kernel
theorem dL_sound_62 : decode cL_sound 62 = .ok (.aload_n 0, 1) := by decide +kernel
theorem dL_sound_63 : decode cL_sound 63 = .ok (.iload 6, 2) := by decide +kernel
theorem dL_sound_65 : decode cL_sound 65 = .ok (.iload 9, 2) := by decide +kernel
theorem dL_sound_67 : decode cL_sound 67 = .ok (.invokevirtual 15, 3) := by decide +kernel
theorem dL_sound_70 : decode cL_sound 70 = .ok (.aload_n 0, 1) := by decide +kernel
theorem dL_sound_71 : decode cL_sound 71 = .ok (.iload 6, 2) := by decide +kernel
theorem dL_sound_73 : decode cL_sound 73 = .ok (.iload 9, 2) := by decide +kernel
theorem dL_sound_75 : decode cL_sound 75 = .ok (.invokevirtual 19, 3) := by decide +kernel
theorem dL_sound_78 : decode cL_sound 78 = .ok (.imul, 1) := by decide +kernel
theorem dL_sound_79 : decode cL_sound 79 = .ok (.iadd, 1) := by decide +kernel
theorem dL_sound_80 : decode cL_sound 80 = .ok (.istore 8, 2) := by decide +kernel
theorem dL_sound_82 : decode cL_sound 82 = .ok (.iinc 9 1, 3) := by decide +kernel
theorem dL_sound_85 : decode cL_sound 85 = .ok (.goto (-48), 3) := by decide +kernel
theorem dL_sound_88 : decode cL_sound 88 = .ok (.iload_n 2, 1) := by decide +kernel
theorem dL_sound_89 : decode cL_sound 89 = .ok (.iload 7, 2) := by decide +kernel
theorem dL_sound_91 : decode cL_sound 91 = .ok (.iadd, 1) := by decide +kernel
theorem dL_sound_92 : decode cL_sound 92 = .ok (.istore_n 2, 1) := by decide +kernel
theorem dL_sound_93 : decode cL_sound 93 = .ok (.iload_n 3, 1) := by decide +kernel
theorem dL_sound_94 : decode cL_sound 94 = .ok (.aload_n 0, 1) := by decide +kernel
theorem dL_sound_95 : decode cL_sound 95 = .ok (.iload 6, 2) := by decide +kernel
theorem dL_sound_97 : decode cL_sound 97 = .ok (.iconst 1, 1) := by decide +kernel
theorem dL_sound_98 : decode cL_sound 98 = .ok (.invokevirtual 22, 3) := by decide +kernel
theorem dL_sound_101 : decode cL_sound 101 = .ok (.iadd, 1) := by decide +kernel
theorem dL_sound_102 : decode cL_sound 102 = .ok (.istore_n 3, 1) := by decide +kernel
theorem dL_sound_103 : decode cL_sound 103 = .ok (.iload 4, 2) := by decide +kernel
theorem dL_sound_105 : decode cL_sound 105 = .ok (.aload_n 0, 1) := by decide +kernel
theorem dL_sound_106 : decode cL_sound 106 = .ok (.iload 6, 2) := by decide +kernel
theorem dL_sound_108 : decode cL_sound 108 = .ok (.bipush 6, 2) := by decide +kernel
theorem dL_sound_110 : decode cL_sound 110 = .ok (.invokevirtual 22, 3) := by decide +kernel
theorem dL_sound_113 : decode cL_sound 113 = .ok (.iadd, 1) := by decide +kernel
theorem dL_sound_114 : decode cL_sound 114 = .ok (.istore 4, 2) := by decide +kernel
theorem dL_sound_116 : decode cL_sound 116 = .ok (.aload_n 0, 1) := by decide +kernel
theorem dL_sound_117 : decode cL_sound 117 = .ok (.iload 6, 2) := by decide +kernel
theorem dL_sound_119 : decode cL_sound 119 = .ok (.iconst 4, 1) := by decide +kernel
theorem dL_sound_120 : decode cL_sound 120 = .ok (.invokevirtual 22, 3) := by decide +kernel
theorem dL_sound_123 : decode cL_sound 123 = .ok (.iload 7, 2) := by decide +kernel
theorem dL_sound_125 : decode cL_sound 125 = .ok (.if_icmp .ne 56, 3) := by decide +kernel
theorem dL_sound_128 : decode cL_sound 128 = .ok (.aload_n 0, 1) := by decide +kernel
theorem dL_sound_129 : decode cL_sound 129 = .ok (.iload 6, 2) := by decide +kernel
theorem dL_sound_131 : decode cL_sound 131 = .ok (.iconst 5, 1) := by decide +kernel
theorem dL_sound_132 : decode cL_sound 132 = .ok (.invokevirtual 22, 3) := by decide +kernel
theorem dL_sound_135 : decode cL_sound 135 = .ok (.iload 8, 2) := by decide +kernel
theorem dL_sound_137 : decode cL_sound 137 = .ok (.if_icmp .ne 44, 3) := by decide +kernel
theorem dL_sound_140 : decode cL_sound 140 = .ok (.aload_n 0, 1) := by decide +kernel
theorem dL_sound_141 : decode cL_sound 141 = .ok (.iload 6, 2) := by decide +kernel
theorem dL_sound_143 : decode cL_sound 143 = .ok (.bipush 6, 2) := by decide +kernel
theorem dL_sound_145 : decode cL_sound 145 = .ok (.invokevirtual 22, 3) := by decide +kernel
theorem dL_sound_148 : decode cL_sound 148 = .ok (.aload_n 0, 1) := by decide +kernel
theorem dL_sound_149 : decode cL_sound 149 = .ok (.iload 6, 2) := by decide +kernel
theorem dL_sound_151 : decode cL_sound 151 = .ok (.iconst 3, 1) := by decide +kernel
theorem dL_sound_152 : decode cL_sound 152 = .ok (.invokevirtual 22, 3) := by decide +kernel
theorem dL_sound_155 : decode cL_sound 155 = .ok (.ifCond .ne 18, 3) := by decide +kernel
theorem dL_sound_158 : decode cL_sound 158 = .ok (.aload_n 0, 1) := by decide +kernel
theorem dL_sound_159 : decode cL_sound 159 = .ok (.iload 6, 2) := by decide +kernel
theorem dL_sound_161 : decode cL_sound 161 = .ok (.iconst 1, 1) := by decide +kernel
theorem dL_sound_162 : decode cL_sound 162 = .ok (.invokevirtual 22, 3) := by decide +kernel
theorem dL_sound_165 : decode cL_sound 165 = .ok (.iconst 3, 1) := by decide +kernel
theorem dL_sound_166 : decode cL_sound 166 = .ok (.if_icmp .ge 7, 3) := by decide +kernel
theorem dL_sound_169 : decode cL_sound 169 = .ok (.iconst 1, 1) := by decide +kernel
theorem dL_sound_170 : decode cL_sound 170 = .ok (.goto 4, 3) := by decide +kernel
theorem dL_sound_173 : decode cL_sound 173 = .ok (.iconst 0, 1) := by decide +kernel
theorem dL_sound_174 : decode cL_sound 174 = .ok (.if_icmp .ne 7, 3) := by decide +kernel
theorem dL_sound_177 : decode cL_sound 177 = .ok (.iconst 1, 1) := by decide +kernel
theorem dL_sound_178 : decode cL_sound 178 = .ok (.goto 4, 3) := by decide +kernel
theorem dL_sound_181 : decode cL_sound 181 = .ok (.iconst 0, 1) := by decide +kernel
theorem dL_sound_182 : decode cL_sound 182 = .ok (.istore 5, 2) := by decide +kernel
theorem dL_sound_184 : decode cL_sound 184 = .ok (.iload 5, 2) := by decide +kernel
theorem dL_sound_186 : decode cL_sound 186 = .ok (.ifCond .eq 29, 3) := by decide +kernel
theorem dL_sound_189 : decode cL_sound 189 = .ok (.aload_n 0, 1) := by decide +kernel
theorem dL_sound_190 : decode cL_sound 190 = .ok (.iload 6, 2) := by decide +kernel
theorem dL_sound_192 : decode cL_sound 192 = .ok (.iconst 2, 1) := by decide +kernel
theorem dL_sound_193 : decode cL_sound 193 = .ok (.invokevirtual 22, 3) := by decide +kernel
theorem dL_sound_196 : decode cL_sound 196 = .ok (.ifCond .lt 19, 3) := by decide +kernel
theorem dL_sound_199 : decode cL_sound 199 = .ok (.aload_n 0, 1) := by decide +kernel
theorem dL_sound_200 : decode cL_sound 200 = .ok (.iload 6, 2) := by decide +kernel
theorem dL_sound_202 : decode cL_sound 202 = .ok (.iconst 2, 1) := by decide +kernel
theorem dL_sound_203 : decode cL_sound 203 = .ok (.invokevirtual 22, 3) := by decide +kernel
theorem dL_sound_206 : decode cL_sound 206 = .ok (.bipush 9, 2) := by decide +kernel
theorem dL_sound_208 : decode cL_sound 208 = .ok (.if_icmp .gt 7, 3) := by decide +kernel
theorem dL_sound_211 : decode cL_sound 211 = .ok (.iconst 1, 1) := by decide +kernel
theorem dL_sound_212 : decode cL_sound 212 = .ok (.goto 4, 3) := by decide +kernel
theorem dL_sound_215 : decode cL_sound 215 = .ok (.iconst 0, 1) := by decide +kernel
theorem dL_sound_216 : decode cL_sound 216 = .ok (.istore 5, 2) := by decide +kernel
theorem dL_sound_218 : decode cL_sound 218 = .ok (.iinc 6 1, 3) := by decide +kernel
theorem dL_sound_221 : decode cL_sound 221 = .ok (.goto (-208), 3) := by decide +kernel
theorem dL_sound_224 : decode cL_sound 224 = .ok (.iconst 0, 1) := by decide +kernel
theorem dL_sound_225 : decode cL_sound 225 = .ok (.istore 6, 2) := by decide +kernel
theorem dL_sound_227 : decode cL_sound 227 = .ok (.iconst 0, 1) := by decide +kernel
theorem dL_sound_228 : decode cL_sound 228 = .ok (.istore 7, 2) := by decide +kernel
theorem dL_sound_230 : decode cL_sound 230 = .ok (.iconst 0, 1) := by decide +kernel
theorem dL_sound_231 : decode cL_sound 231 = .ok (.istore 8, 2) := by decide +kernel
theorem dL_sound_233 : decode cL_sound 233 = .ok (.iload 8, 2) := by decide +kernel
theorem dL_sound_235 : decode cL_sound 235 = .ok (.aload_n 0, 1) := by decide +kernel
theorem dL_sound_236 : decode cL_sound 236 = .ok (.iconst 1, 1) := by decide +kernel
theorem dL_sound_237 : decode cL_sound 237 = .ok (.invokevirtual 9, 3) := by decide +kernel
theorem dL_sound_240 : decode cL_sound 240 = .ok (.if_icmp .ge 33, 3) := by decide +kernel
theorem dL_sound_243 : decode cL_sound 243 = .ok (.iload 7, 2) := by decide +kernel
theorem dL_sound_245 : decode cL_sound 245 = .ok (.aload_n 0, 1) := by decide +kernel
theorem dL_sound_246 : decode cL_sound 246 = .ok (.iload 8, 2) := by decide +kernel
theorem dL_sound_248 : decode cL_sound 248 = .ok (.iconst 1, 1) := by decide +kernel
theorem dL_sound_249 : decode cL_sound 249 = .ok (.invokevirtual 25, 3) := by decide +kernel
theorem dL_sound_252 : decode cL_sound 252 = .ok (.iadd, 1) := by decide +kernel
theorem dL_sound_253 : decode cL_sound 253 = .ok (.istore 7, 2) := by decide +kernel
theorem dL_sound_255 : decode cL_sound 255 = .ok (.iload 6, 2) := by decide +kernel
theorem dL_sound_257 : decode cL_sound 257 = .ok (.aload_n 0, 1) := by decide +kernel
theorem dL_sound_258 : decode cL_sound 258 = .ok (.iload 8, 2) := by decide +kernel
theorem dL_sound_260 : decode cL_sound 260 = .ok (.iconst 2, 1) := by decide +kernel
theorem dL_sound_261 : decode cL_sound 261 = .ok (.invokevirtual 25, 3) := by decide +kernel
theorem dL_sound_264 : decode cL_sound 264 = .ok (.iadd, 1) := by decide +kernel
theorem dL_sound_265 : decode cL_sound 265 = .ok (.istore 6, 2) := by decide +kernel
theorem dL_sound_267 : decode cL_sound 267 = .ok (.iinc 8 1, 3) := by decide +kernel
theorem dL_sound_270 : decode cL_sound 270 = .ok (.goto (-37), 3) := by decide +kernel
theorem dL_sound_273 : decode cL_sound 273 = .ok (.iload 5, 2) := by decide +kernel
theorem dL_sound_275 : decode cL_sound 275 = .ok (.ifCond .eq 54, 3) := by decide +kernel
theorem dL_sound_278 : decode cL_sound 278 = .ok (.aload_n 0, 1) := by decide +kernel
theorem dL_sound_279 : decode cL_sound 279 = .ok (.iconst 3, 1) := by decide +kernel
theorem dL_sound_280 : decode cL_sound 280 = .ok (.invokevirtual 9, 3) := by decide +kernel
theorem dL_sound_283 : decode cL_sound 283 = .ok (.iload_n 2, 1) := by decide +kernel
theorem dL_sound_284 : decode cL_sound 284 = .ok (.if_icmp .ne 45, 3) := by decide +kernel
theorem dL_sound_287 : decode cL_sound 287 = .ok (.iload 7, 2) := by decide +kernel
theorem dL_sound_289 : decode cL_sound 289 = .ok (.iload_n 2, 1) := by decide +kernel
theorem dL_sound_290 : decode cL_sound 290 = .ok (.if_icmp .ne 39, 3) := by decide +kernel
theorem dL_sound_293 : decode cL_sound 293 = .ok (.aload_n 0, 1) := by decide +kernel
theorem dL_sound_294 : decode cL_sound 294 = .ok (.bipush 6, 2) := by decide +kernel
theorem dL_sound_296 : decode cL_sound 296 = .ok (.invokevirtual 9, 3) := by decide +kernel
theorem dL_sound_299 : decode cL_sound 299 = .ok (.iload 6, 2) := by decide +kernel
theorem dL_sound_301 : decode cL_sound 301 = .ok (.if_icmp .ne 28, 3) := by decide +kernel
theorem dL_sound_304 : decode cL_sound 304 = .ok (.aload_n 0, 1) := by decide +kernel
theorem dL_sound_305 : decode cL_sound 305 = .ok (.bipush 7, 2) := by decide +kernel
theorem dL_sound_307 : decode cL_sound 307 = .ok (.invokevirtual 9, 3) := by decide +kernel
theorem dL_sound_310 : decode cL_sound 310 = .ok (.iload_n 3, 1) := by decide +kernel
theorem dL_sound_311 : decode cL_sound 311 = .ok (.if_icmp .ne 18, 3) := by decide +kernel
theorem dL_sound_314 : decode cL_sound 314 = .ok (.aload_n 0, 1) := by decide +kernel
theorem dL_sound_315 : decode cL_sound 315 = .ok (.bipush 9, 2) := by decide +kernel
theorem dL_sound_317 : decode cL_sound 317 = .ok (.invokevirtual 9, 3) := by decide +kernel
theorem dL_sound_320 : decode cL_sound 320 = .ok (.iload 4, 2) := by decide +kernel
theorem dL_sound_322 : decode cL_sound 322 = .ok (.if_icmp .ne 7, 3) := by decide +kernel
theorem dL_sound_325 : decode cL_sound 325 = .ok (.iconst 1, 1) := by decide +kernel
theorem dL_sound_326 : decode cL_sound 326 = .ok (.goto 4, 3) := by decide +kernel
theorem dL_sound_329 : decode cL_sound 329 = .ok (.iconst 0, 1) := by decide +kernel
theorem dL_sound_330 : decode cL_sound 330 = .ok (.istore 5, 2) := by decide +kernel
theorem dL_sound_332 : decode cL_sound 332 = .ok (.iload 5, 2) := by decide +kernel
theorem dL_sound_334 : decode cL_sound 334 = .ok (.ifCond .eq 27, 3) := by decide +kernel
theorem dL_sound_337 : decode cL_sound 337 = .ok (.iload_n 2, 1) := by decide +kernel
theorem dL_sound_338 : decode cL_sound 338 = .ok (.aload_n 0, 1) := by decide +kernel
theorem dL_sound_339 : decode cL_sound 339 = .ok (.iconst 4, 1) := by decide +kernel
theorem dL_sound_340 : decode cL_sound 340 = .ok (.invokevirtual 9, 3) := by decide +kernel
theorem dL_sound_343 : decode cL_sound 343 = .ok (.iadd, 1) := by decide +kernel
theorem dL_sound_344 : decode cL_sound 344 = .ok (.aload_n 0, 1) := by decide +kernel
theorem dL_sound_345 : decode cL_sound 345 = .ok (.iconst 5, 1) := by decide +kernel
theorem dL_sound_346 : decode cL_sound 346 = .ok (.invokevirtual 9, 3) := by decide +kernel
theorem dL_sound_349 : decode cL_sound 349 = .ok (.iadd, 1) := by decide +kernel
theorem dL_sound_350 : decode cL_sound 350 = .ok (.iload 6, 2) := by decide +kernel
theorem dL_sound_352 : decode cL_sound 352 = .ok (.iadd, 1) := by decide +kernel
theorem dL_sound_353 : decode cL_sound 353 = .ok (.iload_n 1, 1) := by decide +kernel
theorem dL_sound_354 : decode cL_sound 354 = .ok (.if_icmp .ne 7, 3) := by decide +kernel
theorem dL_sound_357 : decode cL_sound 357 = .ok (.iconst 1, 1) := by decide +kernel
theorem dL_sound_358 : decode cL_sound 358 = .ok (.goto 4, 3) := by decide +kernel
theorem dL_sound_361 : decode cL_sound 361 = .ok (.iconst 0, 1) := by decide +kernel
theorem dL_sound_362 : decode cL_sound 362 = .ok (.ireturn, 1) := by decide +kernel
theorem dL_ordered_0 : decode cL_ordered 0 = .ok (.aload_n 0, 1) := by decide +kernel
theorem dL_ordered_1 : decode cL_ordered 1 = .ok (.iconst 0, 1) := by decide +kernel
theorem dL_ordered_2 : decode cL_ordered 2 = .ok (.invokevirtual 9, 3) := by decide +kernel
theorem dL_ordered_5 : decode cL_ordered 5 = .ok (.istore_n 1, 1) := by decide +kernel
theorem dL_ordered_6 : decode cL_ordered 6 = .ok (.iconst 0, 1) := by decide +kernel
theorem dL_ordered_7 : decode cL_ordered 7 = .ok (.istore_n 2, 1) := by decide +kernel
theorem dL_ordered_8 : decode cL_ordered 8 = .ok (.aload_n 0, 1) := by decide +kernel
theorem dL_ordered_9 : decode cL_ordered 9 = .ok (.iload_n 1, 1) := by decide +kernel
theorem dL_ordered_10 : decode cL_ordered 10 = .ok (.invokevirtual 28, 3) := by decide +kernel
theorem dL_ordered_13 : decode cL_ordered 13 = .ok (.bipush (-9), 2) := by decide +kernel
theorem dL_ordered_15 : decode cL_ordered 15 = .ok (.if_icmp .ne 7, 3) := by decide +kernel
theorem dL_ordered_18 : decode cL_ordered 18 = .ok (.iconst 1, 1) := by decide +kernel
theorem dL_ordered_19 : decode cL_ordered 19 = .ok (.goto 4, 3) := by decide +kernel
theorem dL_ordered_22 : decode cL_ordered 22 = .ok (.iconst 0, 1) := by decide +kernel
theorem dL_ordered_23 : decode cL_ordered 23 = .ok (.istore_n 3, 1) := by decide +kernel
theorem dL_ordered_24 : decode cL_ordered 24 = .ok (.iconst 0, 1) := by decide +kernel
theorem dL_ordered_25 : decode cL_ordered 25 = .ok (.istore 4, 2) := by decide +kernel
theorem dL_ordered_27 : decode cL_ordered 27 = .ok (.iload 4, 2) := by decide +kernel
theorem dL_ordered_29 : decode cL_ordered 29 = .ok (.iload_n 1, 1) := by decide +kernel
theorem dL_ordered_30 : decode cL_ordered 30 = .ok (.if_icmp .ge 95, 3) := by decide +kernel
theorem dL_ordered_33 : decode cL_ordered 33 = .ok (.iload_n 3, 1) := by decide +kernel
theorem dL_ordered_34 : decode cL_ordered 34 = .ok (.ifCond .eq 91, 3) := by decide +kernel
theorem dL_ordered_37 : decode cL_ordered 37 = .ok (.aload_n 0, 1) := by decide +kernel
theorem dL_ordered_38 : decode cL_ordered 38 = .ok (.iload 4, 2) := by decide +kernel
theorem dL_ordered_40 : decode cL_ordered 40 = .ok (.invokevirtual 28, 3) := by decide +kernel
theorem dL_ordered_43 : decode cL_ordered 43 = .ok (.istore 5, 2) := by decide +kernel
theorem dL_ordered_45 : decode cL_ordered 45 = .ok (.iload 4, 2) := by decide +kernel
theorem dL_ordered_47 : decode cL_ordered 47 = .ok (.ifCond .le 14, 3) := by decide +kernel
theorem dL_ordered_50 : decode cL_ordered 50 = .ok (.aload_n 0, 1) := by decide +kernel
theorem dL_ordered_51 : decode cL_ordered 51 = .ok (.iload 4, 2) := by decide +kernel
theorem dL_ordered_53 : decode cL_ordered 53 = .ok (.iconst 1, 1) := by decide +kernel
theorem dL_ordered_54 : decode cL_ordered 54 = .ok (.isub, 1) := by decide +kernel
theorem dL_ordered_55 : decode cL_ordered 55 = .ok (.invokevirtual 28, 3) := by decide +kernel
theorem dL_ordered_58 : decode cL_ordered 58 = .ok (.goto 5, 3) := by decide +kernel
theorem dL_ordered_61 : decode cL_ordered 61 = .ok (.iload 5, 2) := by decide +kernel
theorem dL_ordered_63 : decode cL_ordered 63 = .ok (.istore 6, 2) := by decide +kernel
theorem dL_ordered_65 : decode cL_ordered 65 = .ok (.iload_n 2, 1) := by decide +kernel
theorem dL_ordered_66 : decode cL_ordered 66 = .ok (.iconst 1, 1) := by decide +kernel
theorem dL_ordered_67 : decode cL_ordered 67 = .ok (.iload 5, 2) := by decide +kernel
theorem dL_ordered_69 : decode cL_ordered 69 = .ok (.ishl, 1) := by decide +kernel
theorem dL_ordered_70 : decode cL_ordered 70 = .ok (.ior, 1) := by decide +kernel
theorem dL_ordered_71 : decode cL_ordered 71 = .ok (.istore_n 2, 1) := by decide +kernel
theorem dL_ordered_72 : decode cL_ordered 72 = .ok (.aload_n 0, 1) := by decide +kernel
theorem dL_ordered_73 : decode cL_ordered 73 = .ok (.iload 6, 2) := by decide +kernel
theorem dL_ordered_75 : decode cL_ordered 75 = .ok (.iconst 5, 1) := by decide +kernel
theorem dL_ordered_76 : decode cL_ordered 76 = .ok (.invokevirtual 22, 3) := by decide +kernel
theorem dL_ordered_79 : decode cL_ordered 79 = .ok (.aload_n 0, 1) := by decide +kernel
theorem dL_ordered_80 : decode cL_ordered 80 = .ok (.iload 5, 2) := by decide +kernel
theorem dL_ordered_82 : decode cL_ordered 82 = .ok (.iconst 5, 1) := by decide +kernel
theorem dL_ordered_83 : decode cL_ordered 83 = .ok (.invokevirtual 22, 3) := by decide +kernel
theorem dL_ordered_86 : decode cL_ordered 86 = .ok (.if_icmp .gt 27, 3) := by decide +kernel
theorem dL_ordered_89 : decode cL_ordered 89 = .ok (.aload_n 0, 1) := by decide +kernel
theorem dL_ordered_90 : decode cL_ordered 90 = .ok (.iload 6, 2) := by decide +kernel
theorem dL_ordered_92 : decode cL_ordered 92 = .ok (.iconst 5, 1) := by decide +kernel
theorem dL_ordered_93 : decode cL_ordered 93 = .ok (.invokevirtual 22, 3) := by decide +kernel
theorem dL_ordered_96 : decode cL_ordered 96 = .ok (.aload_n 0, 1) := by decide +kernel
theorem dL_ordered_97 : decode cL_ordered 97 = .ok (.iload 5, 2) := by decide +kernel
theorem dL_ordered_99 : decode cL_ordered 99 = .ok (.iconst 5, 1) := by decide +kernel
theorem dL_ordered_100 : decode cL_ordered 100 = .ok (.invokevirtual 22, 3) := by decide +kernel
theorem dL_ordered_103 : decode cL_ordered 103 = .ok (.if_icmp .ne 14, 3) := by decide +kernel
theorem dL_ordered_106 : decode cL_ordered 106 = .ok (.iload 6, 2) := by decide +kernel
theorem dL_ordered_108 : decode cL_ordered 108 = .ok (.iload 5, 2) := by decide +kernel
theorem dL_ordered_110 : decode cL_ordered 110 = .ok (.if_icmp .gt 7, 3) := by decide +kernel
theorem dL_ordered_113 : decode cL_ordered 113 = .ok (.iconst 1, 1) := by decide +kernel
theorem dL_ordered_114 : decode cL_ordered 114 = .ok (.goto 4, 3) := by decide +kernel
theorem dL_ordered_117 : decode cL_ordered 117 = .ok (.iconst 0, 1) := by decide +kernel
theorem dL_ordered_118 : decode cL_ordered 118 = .ok (.istore_n 3, 1) := by decide +kernel
theorem dL_ordered_119 : decode cL_ordered 119 = .ok (.iinc 4 1, 3) := by decide +kernel
theorem dL_ordered_122 : decode cL_ordered 122 = .ok (.goto (-95), 3) := by decide +kernel
theorem dL_ordered_125 : decode cL_ordered 125 = .ok (.iload_n 3, 1) := by decide +kernel
theorem dL_ordered_126 : decode cL_ordered 126 = .ok (.ifCond .eq 16, 3) := by decide +kernel
theorem dL_ordered_129 : decode cL_ordered 129 = .ok (.iload_n 2, 1) := by decide +kernel
theorem dL_ordered_130 : decode cL_ordered 130 = .ok (.iconst 1, 1) := by decide +kernel
theorem dL_ordered_131 : decode cL_ordered 131 = .ok (.iload_n 1, 1) := by decide +kernel
theorem dL_ordered_132 : decode cL_ordered 132 = .ok (.ishl, 1) := by decide +kernel
theorem dL_ordered_133 : decode cL_ordered 133 = .ok (.iconst 1, 1) := by decide +kernel
theorem dL_ordered_134 : decode cL_ordered 134 = .ok (.isub, 1) := by decide +kernel
theorem dL_ordered_135 : decode cL_ordered 135 = .ok (.if_icmp .ne 7, 3) := by decide +kernel
theorem dL_ordered_138 : decode cL_ordered 138 = .ok (.iconst 1, 1) := by decide +kernel
theorem dL_ordered_139 : decode cL_ordered 139 = .ok (.goto 4, 3) := by decide +kernel
theorem dL_ordered_142 : decode cL_ordered 142 = .ok (.iconst 0, 1) := by decide +kernel
theorem dL_ordered_143 : decode cL_ordered 143 = .ok (.ireturn, 1) := by decide +kernel
theorem dL_packs_0 : decode cL_packs 0 = .ok (.iload_n 1, 1) := by decide +kernel
theorem dL_packs_1 : decode cL_packs 1 = .ok (.aload_n 0, 1) := by decide +kernel
theorem dL_packs_2 : decode cL_packs 2 = .ok (.iconst 0, 1) := by decide +kernel
theorem dL_packs_3 : decode cL_packs 3 = .ok (.invokevirtual 9, 3) := by decide +kernel
theorem dL_packs_6 : decode cL_packs 6 = .ok (.irem, 1) := by decide +kernel
theorem dL_packs_7 : decode cL_packs 7 = .ok (.istore_n 2, 1) := by decide +kernel
theorem dL_packs_8 : decode cL_packs 8 = .ok (.iload_n 1, 1) := by decide +kernel
theorem dL_packs_9 : decode cL_packs 9 = .ok (.iconst 4, 1) := by decide +kernel
theorem dL_packs_10 : decode cL_packs 10 = .ok (.ishr, 1) := by decide +kernel
theorem dL_packs_11 : decode cL_packs 11 = .ok (.aload_n 0, 1) := by decide +kernel
theorem dL_packs_12 : decode cL_packs 12 = .ok (.iconst 1, 1) := by decide +kernel
theorem dL_packs_13 : decode cL_packs 13 = .ok (.invokevirtual 9, 3) := by decide +kernel
theorem dL_packs_16 : decode cL_packs 16 = .ok (.irem, 1) := by decide +kernel
theorem dL_packs_17 : decode cL_packs 17 = .ok (.istore_n 3, 1) := by decide +kernel
theorem dL_packs_18 : decode cL_packs 18 = .ok (.aload_n 0, 1) := by decide +kernel
theorem dL_packs_19 : decode cL_packs 19 = .ok (.iload_n 2, 1) := by decide +kernel
theorem dL_packs_20 : decode cL_packs 20 = .ok (.iload_n 3, 1) := by decide +kernel
theorem dL_packs_21 : decode cL_packs 21 = .ok (.invokevirtual 31, 3) := by decide +kernel
theorem dL_packs_24 : decode cL_packs 24 = .ok (.istore 4, 2) := by decide +kernel
theorem dL_packs_26 : decode cL_packs 26 = .ok (.aload_n 0, 1) := by decide +kernel
theorem dL_packs_27 : decode cL_packs 27 = .ok (.iload_n 2, 1) := by decide +kernel
theorem dL_packs_28 : decode cL_packs 28 = .ok (.invokevirtual 34, 3) := by decide +kernel
theorem dL_packs_31 : decode cL_packs 31 = .ok (.istore 5, 2) := by decide +kernel
theorem dL_packs_33 : decode cL_packs 33 = .ok (.aload_n 0, 1) := by decide +kernel
theorem dL_packs_34 : decode cL_packs 34 = .ok (.iconst 2, 1) := by decide +kernel
theorem dL_packs_35 : decode cL_packs 35 = .ok (.invokevirtual 9, 3) := by decide +kernel
theorem dL_packs_38 : decode cL_packs 38 = .ok (.istore 6, 2) := by decide +kernel
theorem dL_packs_40 : decode cL_packs 40 = .ok (.aload_n 0, 1) := by decide +kernel
theorem dL_packs_41 : decode cL_packs 41 = .ok (.iload_n 2, 1) := by decide +kernel
theorem dL_packs_42 : decode cL_packs 42 = .ok (.bipush 6, 2) := by decide +kernel
theorem dL_packs_44 : decode cL_packs 44 = .ok (.invokevirtual 22, 3) := by decide +kernel
theorem dL_packs_47 : decode cL_packs 47 = .ok (.iconst 1, 1) := by decide +kernel
theorem dL_packs_48 : decode cL_packs 48 = .ok (.if_icmp .ne 7, 3) := by decide +kernel
theorem dL_packs_51 : decode cL_packs 51 = .ok (.iconst 1, 1) := by decide +kernel
theorem dL_packs_52 : decode cL_packs 52 = .ok (.goto 4, 3) := by decide +kernel
theorem dL_packs_55 : decode cL_packs 55 = .ok (.iconst 0, 1) := by decide +kernel
theorem dL_packs_56 : decode cL_packs 56 = .ok (.istore 7, 2) := by decide +kernel
theorem dL_packs_58 : decode cL_packs 58 = .ok (.aload_n 0, 1) := by decide +kernel
theorem dL_packs_59 : decode cL_packs 59 = .ok (.iload_n 2, 1) := by decide +kernel
theorem dL_packs_60 : decode cL_packs 60 = .ok (.iconst 1, 1) := by decide +kernel
theorem dL_packs_61 : decode cL_packs 61 = .ok (.invokevirtual 22, 3) := by decide +kernel
theorem dL_packs_64 : decode cL_packs 64 = .ok (.istore 8, 2) := by decide +kernel
theorem dL_packs_66 : decode cL_packs 66 = .ok (.aload_n 0, 1) := by decide +kernel
theorem dL_packs_67 : decode cL_packs 67 = .ok (.iload_n 2, 1) := by decide +kernel
theorem dL_packs_68 : decode cL_packs 68 = .ok (.iconst 2, 1) := by decide +kernel
theorem dL_packs_69 : decode cL_packs 69 = .ok (.invokevirtual 22, 3) := by decide +kernel
theorem dL_packs_72 : decode cL_packs 72 = .ok (.istore 9, 2) := by decide +kernel
theorem dL_packs_74 : decode cL_packs 74 = .ok (.aload_n 0, 1) := by decide +kernel
theorem dL_packs_75 : decode cL_packs 75 = .ok (.iload_n 2, 1) := by decide +kernel
theorem dL_packs_76 : decode cL_packs 76 = .ok (.iconst 3, 1) := by decide +kernel
theorem dL_packs_77 : decode cL_packs 77 = .ok (.invokevirtual 22, 3) := by decide +kernel
theorem dL_packs_80 : decode cL_packs 80 = .ok (.iconst 1, 1) := by decide +kernel
theorem dL_packs_81 : decode cL_packs 81 = .ok (.if_icmp .ne 7, 3) := by decide +kernel
theorem dL_packs_84 : decode cL_packs 84 = .ok (.iconst 1, 1) := by decide +kernel
theorem dL_packs_85 : decode cL_packs 85 = .ok (.goto 4, 3) := by decide +kernel
theorem dL_packs_88 : decode cL_packs 88 = .ok (.iconst 0, 1) := by decide +kernel
theorem dL_packs_89 : decode cL_packs 89 = .ok (.istore 10, 2) := by decide +kernel
theorem dL_packs_91 : decode cL_packs 91 = .ok (.aload_n 0, 1) := by decide +kernel
theorem dL_packs_92 : decode cL_packs 92 = .ok (.invokevirtual 37, 3) := by decide +kernel
theorem dL_packs_95 : decode cL_packs 95 = .ok (.istore 11, 2) := by decide +kernel
theorem dL_packs_97 : decode cL_packs 97 = .ok (.aload_n 0, 1) := by decide +kernel
theorem dL_packs_98 : decode cL_packs 98 = .ok (.iload_n 2, 1) := by decide +kernel
theorem dL_packs_99 : decode cL_packs 99 = .ok (.iconst 2, 1) := by decide +kernel
theorem dL_packs_100 : decode cL_packs 100 = .ok (.invokevirtual 22, 3) := by decide +kernel
theorem dL_packs_103 : decode cL_packs 103 = .ok (.istore 12, 2) := by decide +kernel
theorem dL_packs_105 : decode cL_packs 105 = .ok (.aload_n 0, 1) := by decide +kernel
theorem dL_packs_106 : decode cL_packs 106 = .ok (.iload_n 2, 1) := by decide +kernel
theorem dL_packs_107 : decode cL_packs 107 = .ok (.iload_n 3, 1) := by decide +kernel
theorem dL_packs_108 : decode cL_packs 108 = .ok (.invokevirtual 15, 3) := by decide +kernel
theorem dL_packs_111 : decode cL_packs 111 = .ok (.iload 4, 2) := by decide +kernel
theorem dL_packs_113 : decode cL_packs 113 = .ok (.if_icmp .ne 50, 3) := by decide +kernel
theorem dL_packs_116 : decode cL_packs 116 = .ok (.aload_n 0, 1) := by decide +kernel
theorem dL_packs_117 : decode cL_packs 117 = .ok (.iload_n 2, 1) := by decide +kernel
theorem dL_packs_118 : decode cL_packs 118 = .ok (.iconst 5, 1) := by decide +kernel
theorem dL_packs_119 : decode cL_packs 119 = .ok (.invokevirtual 22, 3) := by decide +kernel
theorem dL_packs_122 : decode cL_packs 122 = .ok (.iload 5, 2) := by decide +kernel
theorem dL_packs_124 : decode cL_packs 124 = .ok (.if_icmp .ne 39, 3) := by decide +kernel
theorem dL_packs_127 : decode cL_packs 127 = .ok (.aload_n 0, 1) := by decide +kernel
theorem dL_packs_128 : decode cL_packs 128 = .ok (.iconst 2, 1) := by decide +kernel
theorem dL_packs_129 : decode cL_packs 129 = .ok (.invokevirtual 9, 3) := by decide +kernel
theorem dL_packs_132 : decode cL_packs 132 = .ok (.iload 6, 2) := by decide +kernel
theorem dL_packs_134 : decode cL_packs 134 = .ok (.iconst 1, 1) := by decide +kernel
theorem dL_packs_135 : decode cL_packs 135 = .ok (.iadd, 1) := by decide +kernel
theorem dL_packs_136 : decode cL_packs 136 = .ok (.if_icmp .ne 27, 3) := by decide +kernel
theorem dL_packs_139 : decode cL_packs 139 = .ok (.aload_n 0, 1) := by decide +kernel
theorem dL_packs_140 : decode cL_packs 140 = .ok (.bipush 8, 2) := by decide +kernel
theorem dL_packs_142 : decode cL_packs 142 = .ok (.invokevirtual 9, 3) := by decide +kernel
theorem dL_packs_145 : decode cL_packs 145 = .ok (.iload 11, 2) := by decide +kernel
theorem dL_packs_147 : decode cL_packs 147 = .ok (.if_icmp .ne 16, 3) := by decide +kernel
theorem dL_packs_150 : decode cL_packs 150 = .ok (.aload_n 0, 1) := by decide +kernel
theorem dL_packs_151 : decode cL_packs 151 = .ok (.invokevirtual 41, 3) := by decide +kernel
theorem dL_packs_154 : decode cL_packs 154 = .ok (.bipush (-9), 2) := by decide +kernel
theorem dL_packs_156 : decode cL_packs 156 = .ok (.if_icmp .ne 7, 3) := by decide +kernel
theorem dL_packs_159 : decode cL_packs 159 = .ok (.iconst 1, 1) := by decide +kernel
theorem dL_packs_160 : decode cL_packs 160 = .ok (.goto 4, 3) := by decide +kernel
theorem dL_packs_163 : decode cL_packs 163 = .ok (.iconst 0, 1) := by decide +kernel
theorem dL_packs_164 : decode cL_packs 164 = .ok (.istore 13, 2) := by decide +kernel
theorem dL_packs_166 : decode cL_packs 166 = .ok (.iload 13, 2) := by decide +kernel
theorem dL_packs_168 : decode cL_packs 168 = .ok (.ifCond .eq 61, 3) := by decide +kernel
theorem dL_packs_171 : decode cL_packs 171 = .ok (.aload_n 0, 1) := by decide +kernel
theorem dL_packs_172 : decode cL_packs 172 = .ok (.iload_n 2, 1) := by decide +kernel
theorem dL_packs_173 : decode cL_packs 173 = .ok (.iconst 1, 1) := by decide +kernel
theorem dL_packs_174 : decode cL_packs 174 = .ok (.invokevirtual 22, 3) := by decide +kernel
theorem dL_packs_177 : decode cL_packs 177 = .ok (.iload 8, 2) := by decide +kernel
theorem dL_packs_179 : decode cL_packs 179 = .ok (.iload 7, 2) := by decide +kernel
theorem dL_packs_181 : decode cL_packs 181 = .ok (.ifCond .eq 7, 3) := by decide +kernel
theorem dL_packs_184 : decode cL_packs 184 = .ok (.iconst 1, 1) := by decide +kernel
theorem dL_packs_185 : decode cL_packs 185 = .ok (.goto 4, 3) := by decide +kernel
theorem dL_packs_188 : decode cL_packs 188 = .ok (.iconst 0, 1) := by decide +kernel
theorem dL_packs_189 : decode cL_packs 189 = .ok (.iadd, 1) := by decide +kernel
theorem dL_packs_190 : decode cL_packs 190 = .ok (.if_icmp .ne 39, 3) := by decide +kernel
theorem dL_packs_193 : decode cL_packs 193 = .ok (.iload 7, 2) := by decide +kernel
theorem dL_packs_195 : decode cL_packs 195 = .ok (.ifCond .ne 12, 3) := by decide +kernel
theorem dL_packs_198 : decode cL_packs 198 = .ok (.aload_n 0, 1) := by decide +kernel
theorem dL_packs_199 : decode cL_packs 199 = .ok (.iload_n 2, 1) := by decide +kernel
theorem dL_packs_200 : decode cL_packs 200 = .ok (.iconst 4, 1) := by decide +kernel
theorem dL_packs_201 : decode cL_packs 201 = .ok (.invokevirtual 22, 3) := by decide +kernel
theorem dL_packs_204 : decode cL_packs 204 = .ok (.ifCond .ne 25, 3) := by decide +kernel
theorem dL_packs_207 : decode cL_packs 207 = .ok (.aload_n 0, 1) := by decide +kernel
theorem dL_packs_208 : decode cL_packs 208 = .ok (.iload_n 2, 1) := by decide +kernel
theorem dL_packs_209 : decode cL_packs 209 = .ok (.iconst 3, 1) := by decide +kernel
theorem dL_packs_210 : decode cL_packs 210 = .ok (.invokevirtual 22, 3) := by decide +kernel
theorem dL_packs_213 : decode cL_packs 213 = .ok (.ifCond .ne 16, 3) := by decide +kernel
theorem dL_packs_216 : decode cL_packs 216 = .ok (.aload_n 0, 1) := by decide +kernel
theorem dL_packs_217 : decode cL_packs 217 = .ok (.iload_n 3, 1) := by decide +kernel
theorem dL_packs_218 : decode cL_packs 218 = .ok (.iconst 0, 1) := by decide +kernel
theorem dL_packs_219 : decode cL_packs 219 = .ok (.invokevirtual 25, 3) := by decide +kernel
theorem dL_packs_222 : decode cL_packs 222 = .ok (.ifCond .ne 7, 3) := by decide +kernel
theorem dL_packs_225 : decode cL_packs 225 = .ok (.iconst 1, 1) := by decide +kernel
theorem dL_packs_226 : decode cL_packs 226 = .ok (.goto 4, 3) := by decide +kernel
theorem dL_packs_229 : decode cL_packs 229 = .ok (.iconst 0, 1) := by decide +kernel
theorem dL_packs_230 : decode cL_packs 230 = .ok (.istore 13, 2) := by decide +kernel
theorem dL_packs_232 : decode cL_packs 232 = .ok (.iload 9, 2) := by decide +kernel
theorem dL_packs_234 : decode cL_packs 234 = .ok (.aload_n 0, 1) := by decide +kernel
theorem dL_packs_235 : decode cL_packs 235 = .ok (.iload_n 2, 1) := by decide +kernel
theorem dL_packs_236 : decode cL_packs 236 = .ok (.iconst 0, 1) := by decide +kernel
theorem dL_packs_237 : decode cL_packs 237 = .ok (.invokevirtual 22, 3) := by decide +kernel
theorem dL_packs_240 : decode cL_packs 240 = .ok (.iadd, 1) := by decide +kernel
theorem dL_packs_241 : decode cL_packs 241 = .ok (.istore 14, 2) := by decide +kernel
theorem dL_packs_243 : decode cL_packs 243 = .ok (.iload 13, 2) := by decide +kernel
theorem dL_packs_245 : decode cL_packs 245 = .ok (.ifCond .eq 53, 3) := by decide +kernel
theorem dL_packs_248 : decode cL_packs 248 = .ok (.iload 12, 2) := by decide +kernel
theorem dL_packs_250 : decode cL_packs 250 = .ok (.iload 10, 2) := by decide +kernel
theorem dL_packs_252 : decode cL_packs 252 = .ok (.ifCond .eq 20, 3) := by decide +kernel
theorem dL_packs_255 : decode cL_packs 255 = .ok (.iload 14, 2) := by decide +kernel
theorem dL_packs_257 : decode cL_packs 257 = .ok (.bipush 9, 2) := by decide +kernel
theorem dL_packs_259 : decode cL_packs 259 = .ok (.if_icmp .ge 8, 3) := by decide +kernel
theorem dL_packs_262 : decode cL_packs 262 = .ok (.iload 14, 2) := by decide +kernel
theorem dL_packs_264 : decode cL_packs 264 = .ok (.goto 27, 3) := by decide +kernel
theorem dL_packs_267 : decode cL_packs 267 = .ok (.bipush 9, 2) := by decide +kernel
theorem dL_packs_269 : decode cL_packs 269 = .ok (.goto 22, 3) := by decide +kernel
theorem dL_packs_272 : decode cL_packs 272 = .ok (.iload 7, 2) := by decide +kernel
theorem dL_packs_274 : decode cL_packs 274 = .ok (.ifCond .eq 15, 3) := by decide +kernel
theorem dL_packs_277 : decode cL_packs 277 = .ok (.iload 9, 2) := by decide +kernel
theorem dL_packs_279 : decode cL_packs 279 = .ok (.ifCond .le 10, 3) := by decide +kernel
theorem dL_packs_282 : decode cL_packs 282 = .ok (.iload 9, 2) := by decide +kernel
theorem dL_packs_284 : decode cL_packs 284 = .ok (.iconst 1, 1) := by decide +kernel
theorem dL_packs_285 : decode cL_packs 285 = .ok (.isub, 1) := by decide +kernel
theorem dL_packs_286 : decode cL_packs 286 = .ok (.goto 5, 3) := by decide +kernel
theorem dL_packs_289 : decode cL_packs 289 = .ok (.iload 9, 2) := by decide +kernel
theorem dL_packs_291 : decode cL_packs 291 = .ok (.if_icmp .ne 7, 3) := by decide +kernel
theorem dL_packs_294 : decode cL_packs 294 = .ok (.iconst 1, 1) := by decide +kernel
theorem dL_packs_295 : decode cL_packs 295 = .ok (.goto 4, 3) := by decide +kernel
theorem dL_packs_298 : decode cL_packs 298 = .ok (.iconst 0, 1) := by decide +kernel
theorem dL_packs_299 : decode cL_packs 299 = .ok (.ireturn, 1) := by decide +kernel
theorem dL_toPack_0 : decode cL_toPack 0 = .ok (.iconst 0, 1) := by decide +kernel
theorem dL_toPack_1 : decode cL_toPack 1 = .ok (.istore_n 1, 1) := by decide +kernel
theorem dL_toPack_2 : decode cL_toPack 2 = .ok (.iconst 0, 1) := by decide +kernel
theorem dL_toPack_3 : decode cL_toPack 3 = .ok (.istore_n 2, 1) := by decide +kernel
theorem dL_toPack_4 : decode cL_toPack 4 = .ok (.iload_n 2, 1) := by decide +kernel
theorem dL_toPack_5 : decode cL_toPack 5 = .ok (.aload_n 0, 1) := by decide +kernel
theorem dL_toPack_6 : decode cL_toPack 6 = .ok (.iconst 1, 1) := by decide +kernel
theorem dL_toPack_7 : decode cL_toPack 7 = .ok (.invokevirtual 9, 3) := by decide +kernel
theorem dL_toPack_10 : decode cL_toPack 10 = .ok (.if_icmp .ge 18, 3) := by decide +kernel
theorem dL_toPack_13 : decode cL_toPack 13 = .ok (.iload_n 1, 1) := by decide +kernel
theorem dL_toPack_14 : decode cL_toPack 14 = .ok (.aload_n 0, 1) := by decide +kernel
theorem dL_toPack_15 : decode cL_toPack 15 = .ok (.iload_n 2, 1) := by decide +kernel
theorem dL_toPack_16 : decode cL_toPack 16 = .ok (.iconst 0, 1) := by decide +kernel
theorem dL_toPack_17 : decode cL_toPack 17 = .ok (.invokevirtual 25, 3) := by decide +kernel
theorem dL_toPack_20 : decode cL_toPack 20 = .ok (.iadd, 1) := by decide +kernel
theorem dL_toPack_21 : decode cL_toPack 21 = .ok (.istore_n 1, 1) := by decide +kernel
theorem dL_toPack_22 : decode cL_toPack 22 = .ok (.iinc 2 1, 3) := by decide +kernel
theorem dL_toPack_25 : decode cL_toPack 25 = .ok (.goto (-21), 3) := by decide +kernel
theorem dL_toPack_28 : decode cL_toPack 28 = .ok (.iload_n 1, 1) := by decide +kernel
theorem dL_toPack_29 : decode cL_toPack 29 = .ok (.ireturn, 1) := by decide +kernel
theorem dL_acts_0 : decode cL_acts 0 = .ok (.iload_n 1, 1) := by decide +kernel
theorem dL_acts_1 : decode cL_acts 1 = .ok (.iconst 3, 1) := by decide +kernel
theorem dL_acts_2 : decode cL_acts 2 = .ok (.ishr, 1) := by decide +kernel
theorem dL_acts_3 : decode cL_acts 3 = .ok (.istore_n 2, 1) := by decide +kernel
theorem dL_acts_4 : decode cL_acts 4 = .ok (.iload_n 2, 1) := by decide +kernel
theorem dL_acts_5 : decode cL_acts 5 = .ok (.aload_n 0, 1) := by decide +kernel
theorem dL_acts_6 : decode cL_acts 6 = .ok (.iconst 0, 1) := by decide +kernel
theorem dL_acts_7 : decode cL_acts 7 = .ok (.invokevirtual 9, 3) := by decide +kernel
theorem dL_acts_10 : decode cL_acts 10 = .ok (.irem, 1) := by decide +kernel
theorem dL_acts_11 : decode cL_acts 11 = .ok (.istore_n 3, 1) := by decide +kernel
theorem dL_acts_12 : decode cL_acts 12 = .ok (.iload_n 2, 1) := by decide +kernel
theorem dL_acts_13 : decode cL_acts 13 = .ok (.iconst 4, 1) := by decide +kernel
theorem dL_acts_14 : decode cL_acts 14 = .ok (.ishr, 1) := by decide +kernel
theorem dL_acts_15 : decode cL_acts 15 = .ok (.aload_n 0, 1) := by decide +kernel
theorem dL_acts_16 : decode cL_acts 16 = .ok (.iconst 1, 1) := by decide +kernel
theorem dL_acts_17 : decode cL_acts 17 = .ok (.invokevirtual 9, 3) := by decide +kernel
theorem dL_acts_20 : decode cL_acts 20 = .ok (.irem, 1) := by decide +kernel
theorem dL_acts_21 : decode cL_acts 21 = .ok (.istore 4, 2) := by decide +kernel
theorem dL_acts_23 : decode cL_acts 23 = .ok (.iload_n 1, 1) := by decide +kernel
theorem dL_acts_24 : decode cL_acts 24 = .ok (.bipush 7, 2) := by decide +kernel
theorem dL_acts_26 : decode cL_acts 26 = .ok (.iand, 1) := by decide +kernel
theorem dL_acts_27 : decode cL_acts 27 = .ok (.tableswitch 353 0 6 #[41, 76, 76, 126, 177, 227, 275], 41) := by decide +kernel
theorem dL_acts_68 : decode cL_acts 68 = .ok (.aload_n 0, 1) := by decide +kernel
theorem dL_acts_69 : decode cL_acts 69 = .ok (.iconst 0, 1) := by decide +kernel
theorem dL_acts_70 : decode cL_acts 70 = .ok (.invokevirtual 9, 3) := by decide +kernel
theorem dL_acts_73 : decode cL_acts 73 = .ok (.bipush 6, 2) := by decide +kernel
theorem dL_acts_75 : decode cL_acts 75 = .ok (.if_icmp .eq 22, 3) := by decide +kernel
theorem dL_acts_78 : decode cL_acts 78 = .ok (.aload_n 0, 1) := by decide +kernel
theorem dL_acts_79 : decode cL_acts 79 = .ok (.iconst 1, 1) := by decide +kernel
theorem dL_acts_80 : decode cL_acts 80 = .ok (.iload_n 2, 1) := by decide +kernel
theorem dL_acts_81 : decode cL_acts 81 = .ok (.iconst 4, 1) := by decide +kernel
theorem dL_acts_82 : decode cL_acts 82 = .ok (.irem, 1) := by decide +kernel
theorem dL_acts_83 : decode cL_acts 83 = .ok (.iadd, 1) := by decide +kernel
theorem dL_acts_84 : decode cL_acts 84 = .ok (.invokevirtual 44, 3) := by decide +kernel
theorem dL_acts_87 : decode cL_acts 87 = .ok (.aload_n 0, 1) := by decide +kernel
theorem dL_acts_88 : decode cL_acts 88 = .ok (.iconst 0, 1) := by decide +kernel
theorem dL_acts_89 : decode cL_acts 89 = .ok (.invokevirtual 9, 3) := by decide +kernel
theorem dL_acts_92 : decode cL_acts 92 = .ok (.iconst 1, 1) := by decide +kernel
theorem dL_acts_93 : decode cL_acts 93 = .ok (.isub, 1) := by decide +kernel
theorem dL_acts_94 : decode cL_acts 94 = .ok (.if_icmp .ne 7, 3) := by decide +kernel
theorem dL_acts_97 : decode cL_acts 97 = .ok (.iconst 1, 1) := by decide +kernel
theorem dL_acts_98 : decode cL_acts 98 = .ok (.goto 4, 3) := by decide +kernel
theorem dL_acts_101 : decode cL_acts 101 = .ok (.iconst 0, 1) := by decide +kernel
theorem dL_acts_102 : decode cL_acts 102 = .ok (.ireturn, 1) := by decide +kernel
theorem dL_acts_103 : decode cL_acts 103 = .ok (.aload_n 0, 1) := by decide +kernel
theorem dL_acts_104 : decode cL_acts 104 = .ok (.iload 4, 2) := by decide +kernel
theorem dL_acts_106 : decode cL_acts 106 = .ok (.iconst 0, 1) := by decide +kernel
theorem dL_acts_107 : decode cL_acts 107 = .ok (.invokevirtual 25, 3) := by decide +kernel
theorem dL_acts_110 : decode cL_acts 110 = .ok (.istore 5, 2) := by decide +kernel
theorem dL_acts_112 : decode cL_acts 112 = .ok (.aload_n 0, 1) := by decide +kernel
theorem dL_acts_113 : decode cL_acts 113 = .ok (.iload 4, 2) := by decide +kernel
theorem dL_acts_115 : decode cL_acts 115 = .ok (.iload_n 2, 1) := by decide +kernel
theorem dL_acts_116 : decode cL_acts 116 = .ok (.bipush 9, 2) := by decide +kernel
theorem dL_acts_118 : decode cL_acts 118 = .ok (.ishr, 1) := by decide +kernel
theorem dL_acts_119 : decode cL_acts 119 = .ok (.bipush 41, 2) := by decide +kernel
theorem dL_acts_121 : decode cL_acts 121 = .ok (.irem, 1) := by decide +kernel
theorem dL_acts_122 : decode cL_acts 122 = .ok (.invokevirtual 47, 3) := by decide +kernel
theorem dL_acts_125 : decode cL_acts 125 = .ok (.iload 5, 2) := by decide +kernel
theorem dL_acts_127 : decode cL_acts 127 = .ok (.if_icmp .ne 24, 3) := by decide +kernel
theorem dL_acts_130 : decode cL_acts 130 = .ok (.aload_n 0, 1) := by decide +kernel
theorem dL_acts_131 : decode cL_acts 131 = .ok (.iload 4, 2) := by decide +kernel
theorem dL_acts_133 : decode cL_acts 133 = .ok (.iconst 0, 1) := by decide +kernel
theorem dL_acts_134 : decode cL_acts 134 = .ok (.invokevirtual 25, 3) := by decide +kernel
theorem dL_acts_137 : decode cL_acts 137 = .ok (.iload_n 2, 1) := by decide +kernel
theorem dL_acts_138 : decode cL_acts 138 = .ok (.bipush 9, 2) := by decide +kernel
theorem dL_acts_140 : decode cL_acts 140 = .ok (.ishr, 1) := by decide +kernel
theorem dL_acts_141 : decode cL_acts 141 = .ok (.bipush 41, 2) := by decide +kernel
theorem dL_acts_143 : decode cL_acts 143 = .ok (.irem, 1) := by decide +kernel
theorem dL_acts_144 : decode cL_acts 144 = .ok (.if_icmp .ne 7, 3) := by decide +kernel
theorem dL_acts_147 : decode cL_acts 147 = .ok (.iconst 1, 1) := by decide +kernel
theorem dL_acts_148 : decode cL_acts 148 = .ok (.goto 4, 3) := by decide +kernel
theorem dL_acts_151 : decode cL_acts 151 = .ok (.iconst 0, 1) := by decide +kernel
theorem dL_acts_152 : decode cL_acts 152 = .ok (.ireturn, 1) := by decide +kernel
theorem dL_acts_153 : decode cL_acts 153 = .ok (.aload_n 0, 1) := by decide +kernel
theorem dL_acts_154 : decode cL_acts 154 = .ok (.iload_n 3, 1) := by decide +kernel
theorem dL_acts_155 : decode cL_acts 155 = .ok (.iload 4, 2) := by decide +kernel
theorem dL_acts_157 : decode cL_acts 157 = .ok (.invokevirtual 19, 3) := by decide +kernel
theorem dL_acts_160 : decode cL_acts 160 = .ok (.istore 5, 2) := by decide +kernel
theorem dL_acts_162 : decode cL_acts 162 = .ok (.aload_n 0, 1) := by decide +kernel
theorem dL_acts_163 : decode cL_acts 163 = .ok (.iload_n 3, 1) := by decide +kernel
theorem dL_acts_164 : decode cL_acts 164 = .ok (.iload 4, 2) := by decide +kernel
theorem dL_acts_166 : decode cL_acts 166 = .ok (.iload_n 2, 1) := by decide +kernel
theorem dL_acts_167 : decode cL_acts 167 = .ok (.bipush 9, 2) := by decide +kernel
theorem dL_acts_169 : decode cL_acts 169 = .ok (.ishr, 1) := by decide +kernel
theorem dL_acts_170 : decode cL_acts 170 = .ok (.bipush 10, 2) := by decide +kernel
theorem dL_acts_172 : decode cL_acts 172 = .ok (.irem, 1) := by decide +kernel
theorem dL_acts_173 : decode cL_acts 173 = .ok (.invokevirtual 50, 3) := by decide +kernel
theorem dL_acts_176 : decode cL_acts 176 = .ok (.iload 5, 2) := by decide +kernel
theorem dL_acts_178 : decode cL_acts 178 = .ok (.if_icmp .ne 24, 3) := by decide +kernel
theorem dL_acts_181 : decode cL_acts 181 = .ok (.aload_n 0, 1) := by decide +kernel
theorem dL_acts_182 : decode cL_acts 182 = .ok (.iload_n 3, 1) := by decide +kernel
theorem dL_acts_183 : decode cL_acts 183 = .ok (.iload 4, 2) := by decide +kernel
theorem dL_acts_185 : decode cL_acts 185 = .ok (.invokevirtual 19, 3) := by decide +kernel
theorem dL_acts_188 : decode cL_acts 188 = .ok (.iload_n 2, 1) := by decide +kernel
theorem dL_acts_189 : decode cL_acts 189 = .ok (.bipush 9, 2) := by decide +kernel
theorem dL_acts_191 : decode cL_acts 191 = .ok (.ishr, 1) := by decide +kernel
theorem dL_acts_192 : decode cL_acts 192 = .ok (.bipush 10, 2) := by decide +kernel
theorem dL_acts_194 : decode cL_acts 194 = .ok (.irem, 1) := by decide +kernel
theorem dL_acts_195 : decode cL_acts 195 = .ok (.if_icmp .ne 7, 3) := by decide +kernel
theorem dL_acts_198 : decode cL_acts 198 = .ok (.iconst 1, 1) := by decide +kernel
theorem dL_acts_199 : decode cL_acts 199 = .ok (.goto 4, 3) := by decide +kernel
theorem dL_acts_202 : decode cL_acts 202 = .ok (.iconst 0, 1) := by decide +kernel
theorem dL_acts_203 : decode cL_acts 203 = .ok (.ireturn, 1) := by decide +kernel
theorem dL_acts_204 : decode cL_acts 204 = .ok (.aload_n 0, 1) := by decide +kernel
theorem dL_acts_205 : decode cL_acts 205 = .ok (.iload_n 3, 1) := by decide +kernel
theorem dL_acts_206 : decode cL_acts 206 = .ok (.iload_n 2, 1) := by decide +kernel
theorem dL_acts_207 : decode cL_acts 207 = .ok (.bipush 9, 2) := by decide +kernel
theorem dL_acts_209 : decode cL_acts 209 = .ok (.ishr, 1) := by decide +kernel
theorem dL_acts_210 : decode cL_acts 210 = .ok (.iconst 1, 1) := by decide +kernel
theorem dL_acts_211 : decode cL_acts 211 = .ok (.iand, 1) := by decide +kernel
theorem dL_acts_212 : decode cL_acts 212 = .ok (.iconst 1, 1) := by decide +kernel
theorem dL_acts_213 : decode cL_acts 213 = .ok (.if_icmp .ne 7, 3) := by decide +kernel
theorem dL_acts_216 : decode cL_acts 216 = .ok (.iconst 1, 1) := by decide +kernel
theorem dL_acts_217 : decode cL_acts 217 = .ok (.goto 4, 3) := by decide +kernel
theorem dL_acts_220 : decode cL_acts 220 = .ok (.iconst 0, 1) := by decide +kernel
theorem dL_acts_221 : decode cL_acts 221 = .ok (.invokevirtual 54, 3) := by decide +kernel
theorem dL_acts_224 : decode cL_acts 224 = .ok (.aload_n 0, 1) := by decide +kernel
theorem dL_acts_225 : decode cL_acts 225 = .ok (.bipush 9, 2) := by decide +kernel
theorem dL_acts_227 : decode cL_acts 227 = .ok (.invokevirtual 9, 3) := by decide +kernel
theorem dL_acts_230 : decode cL_acts 230 = .ok (.if_icmp .ne 22, 3) := by decide +kernel
theorem dL_acts_233 : decode cL_acts 233 = .ok (.aload_n 0, 1) := by decide +kernel
theorem dL_acts_234 : decode cL_acts 234 = .ok (.iload_n 3, 1) := by decide +kernel
theorem dL_acts_235 : decode cL_acts 235 = .ok (.iconst 3, 1) := by decide +kernel
theorem dL_acts_236 : decode cL_acts 236 = .ok (.invokevirtual 22, 3) := by decide +kernel
theorem dL_acts_239 : decode cL_acts 239 = .ok (.iload_n 2, 1) := by decide +kernel
theorem dL_acts_240 : decode cL_acts 240 = .ok (.bipush 9, 2) := by decide +kernel
theorem dL_acts_242 : decode cL_acts 242 = .ok (.ishr, 1) := by decide +kernel
theorem dL_acts_243 : decode cL_acts 243 = .ok (.iconst 1, 1) := by decide +kernel
theorem dL_acts_244 : decode cL_acts 244 = .ok (.iand, 1) := by decide +kernel
theorem dL_acts_245 : decode cL_acts 245 = .ok (.if_icmp .ne 7, 3) := by decide +kernel
theorem dL_acts_248 : decode cL_acts 248 = .ok (.iconst 1, 1) := by decide +kernel
theorem dL_acts_249 : decode cL_acts 249 = .ok (.goto 4, 3) := by decide +kernel
theorem dL_acts_252 : decode cL_acts 252 = .ok (.iconst 0, 1) := by decide +kernel
theorem dL_acts_253 : decode cL_acts 253 = .ok (.ireturn, 1) := by decide +kernel
theorem dL_acts_254 : decode cL_acts 254 = .ok (.aload_n 0, 1) := by decide +kernel
theorem dL_acts_255 : decode cL_acts 255 = .ok (.iload_n 3, 1) := by decide +kernel
theorem dL_acts_256 : decode cL_acts 256 = .ok (.iconst 1, 1) := by decide +kernel
theorem dL_acts_257 : decode cL_acts 257 = .ok (.invokevirtual 22, 3) := by decide +kernel
theorem dL_acts_260 : decode cL_acts 260 = .ok (.istore 5, 2) := by decide +kernel
theorem dL_acts_262 : decode cL_acts 262 = .ok (.iload 5, 2) := by decide +kernel
theorem dL_acts_264 : decode cL_acts 264 = .ok (.ifCond .eq 32, 3) := by decide +kernel
theorem dL_acts_267 : decode cL_acts 267 = .ok (.aload_n 0, 1) := by decide +kernel
theorem dL_acts_268 : decode cL_acts 268 = .ok (.iload_n 3, 1) := by decide +kernel
theorem dL_acts_269 : decode cL_acts 269 = .ok (.iconst 1, 1) := by decide +kernel
theorem dL_acts_270 : decode cL_acts 270 = .ok (.iload_n 2, 1) := by decide +kernel
theorem dL_acts_271 : decode cL_acts 271 = .ok (.bipush 9, 2) := by decide +kernel
theorem dL_acts_273 : decode cL_acts 273 = .ok (.ishr, 1) := by decide +kernel
theorem dL_acts_274 : decode cL_acts 274 = .ok (.iload 5, 2) := by decide +kernel
theorem dL_acts_276 : decode cL_acts 276 = .ok (.irem, 1) := by decide +kernel
theorem dL_acts_277 : decode cL_acts 277 = .ok (.iadd, 1) := by decide +kernel
theorem dL_acts_278 : decode cL_acts 278 = .ok (.invokevirtual 58, 3) := by decide +kernel
theorem dL_acts_281 : decode cL_acts 281 = .ok (.iload 5, 2) := by decide +kernel
theorem dL_acts_283 : decode cL_acts 283 = .ok (.iconst 1, 1) := by decide +kernel
theorem dL_acts_284 : decode cL_acts 284 = .ok (.isub, 1) := by decide +kernel
theorem dL_acts_285 : decode cL_acts 285 = .ok (.iload_n 2, 1) := by decide +kernel
theorem dL_acts_286 : decode cL_acts 286 = .ok (.bipush 9, 2) := by decide +kernel
theorem dL_acts_288 : decode cL_acts 288 = .ok (.ishr, 1) := by decide +kernel
theorem dL_acts_289 : decode cL_acts 289 = .ok (.iload 5, 2) := by decide +kernel
theorem dL_acts_291 : decode cL_acts 291 = .ok (.irem, 1) := by decide +kernel
theorem dL_acts_292 : decode cL_acts 292 = .ok (.isub, 1) := by decide +kernel
theorem dL_acts_293 : decode cL_acts 293 = .ok (.if_icmp .ne 7, 3) := by decide +kernel
theorem dL_acts_296 : decode cL_acts 296 = .ok (.iconst 1, 1) := by decide +kernel
theorem dL_acts_297 : decode cL_acts 297 = .ok (.goto 4, 3) := by decide +kernel
theorem dL_acts_300 : decode cL_acts 300 = .ok (.iconst 0, 1) := by decide +kernel
theorem dL_acts_301 : decode cL_acts 301 = .ok (.ireturn, 1) := by decide +kernel
theorem dL_acts_302 : decode cL_acts 302 = .ok (.aload_n 0, 1) := by decide +kernel
theorem dL_acts_303 : decode cL_acts 303 = .ok (.iload_n 3, 1) := by decide +kernel
theorem dL_acts_304 : decode cL_acts 304 = .ok (.iload 4, 2) := by decide +kernel
theorem dL_acts_306 : decode cL_acts 306 = .ok (.invokevirtual 15, 3) := by decide +kernel
theorem dL_acts_309 : decode cL_acts 309 = .ok (.istore 5, 2) := by decide +kernel
theorem dL_acts_311 : decode cL_acts 311 = .ok (.aload_n 0, 1) := by decide +kernel
theorem dL_acts_312 : decode cL_acts 312 = .ok (.iconst 5, 1) := by decide +kernel
theorem dL_acts_313 : decode cL_acts 313 = .ok (.invokevirtual 9, 3) := by decide +kernel
theorem dL_acts_316 : decode cL_acts 316 = .ok (.istore 6, 2) := by decide +kernel
theorem dL_acts_318 : decode cL_acts 318 = .ok (.iload 5, 2) := by decide +kernel
theorem dL_acts_320 : decode cL_acts 320 = .ok (.ifCond .eq 54, 3) := by decide +kernel
theorem dL_acts_323 : decode cL_acts 323 = .ok (.aload_n 0, 1) := by decide +kernel
theorem dL_acts_324 : decode cL_acts 324 = .ok (.iload_n 3, 1) := by decide +kernel
theorem dL_acts_325 : decode cL_acts 325 = .ok (.iload 4, 2) := by decide +kernel
theorem dL_acts_327 : decode cL_acts 327 = .ok (.iconst 1, 1) := by decide +kernel
theorem dL_acts_328 : decode cL_acts 328 = .ok (.iload_n 2, 1) := by decide +kernel
theorem dL_acts_329 : decode cL_acts 329 = .ok (.bipush 9, 2) := by decide +kernel
theorem dL_acts_331 : decode cL_acts 331 = .ok (.ishr, 1) := by decide +kernel
theorem dL_acts_332 : decode cL_acts 332 = .ok (.iload 5, 2) := by decide +kernel
theorem dL_acts_334 : decode cL_acts 334 = .ok (.irem, 1) := by decide +kernel
theorem dL_acts_335 : decode cL_acts 335 = .ok (.iadd, 1) := by decide +kernel
theorem dL_acts_336 : decode cL_acts 336 = .ok (.invokevirtual 61, 3) := by decide +kernel
theorem dL_acts_339 : decode cL_acts 339 = .ok (.iload 5, 2) := by decide +kernel
theorem dL_acts_341 : decode cL_acts 341 = .ok (.iconst 1, 1) := by decide +kernel
theorem dL_acts_342 : decode cL_acts 342 = .ok (.isub, 1) := by decide +kernel
theorem dL_acts_343 : decode cL_acts 343 = .ok (.iload_n 2, 1) := by decide +kernel
theorem dL_acts_344 : decode cL_acts 344 = .ok (.bipush 9, 2) := by decide +kernel
theorem dL_acts_346 : decode cL_acts 346 = .ok (.ishr, 1) := by decide +kernel
theorem dL_acts_347 : decode cL_acts 347 = .ok (.iload 5, 2) := by decide +kernel
theorem dL_acts_349 : decode cL_acts 349 = .ok (.irem, 1) := by decide +kernel
theorem dL_acts_350 : decode cL_acts 350 = .ok (.isub, 1) := by decide +kernel
theorem dL_acts_351 : decode cL_acts 351 = .ok (.if_icmp .ne 27, 3) := by decide +kernel
theorem dL_acts_354 : decode cL_acts 354 = .ok (.aload_n 0, 1) := by decide +kernel
theorem dL_acts_355 : decode cL_acts 355 = .ok (.iconst 5, 1) := by decide +kernel
theorem dL_acts_356 : decode cL_acts 356 = .ok (.invokevirtual 9, 3) := by decide +kernel
theorem dL_acts_359 : decode cL_acts 359 = .ok (.iload 6, 2) := by decide +kernel
theorem dL_acts_361 : decode cL_acts 361 = .ok (.iconst 1, 1) := by decide +kernel
theorem dL_acts_362 : decode cL_acts 362 = .ok (.iadd, 1) := by decide +kernel
theorem dL_acts_363 : decode cL_acts 363 = .ok (.iload_n 2, 1) := by decide +kernel
theorem dL_acts_364 : decode cL_acts 364 = .ok (.bipush 9, 2) := by decide +kernel
theorem dL_acts_366 : decode cL_acts 366 = .ok (.ishr, 1) := by decide +kernel
theorem dL_acts_367 : decode cL_acts 367 = .ok (.iload 5, 2) := by decide +kernel
theorem dL_acts_369 : decode cL_acts 369 = .ok (.irem, 1) := by decide +kernel
theorem dL_acts_370 : decode cL_acts 370 = .ok (.iadd, 1) := by decide +kernel
theorem dL_acts_371 : decode cL_acts 371 = .ok (.if_icmp .ne 7, 3) := by decide +kernel
theorem dL_acts_374 : decode cL_acts 374 = .ok (.iconst 1, 1) := by decide +kernel
theorem dL_acts_375 : decode cL_acts 375 = .ok (.goto 4, 3) := by decide +kernel
theorem dL_acts_378 : decode cL_acts 378 = .ok (.iconst 0, 1) := by decide +kernel
theorem dL_acts_379 : decode cL_acts 379 = .ok (.ireturn, 1) := by decide +kernel
theorem dL_acts_380 : decode cL_acts 380 = .ok (.iconst 1, 1) := by decide +kernel
theorem dL_acts_381 : decode cL_acts 381 = .ok (.ireturn, 1) := by decide +kernel
theorem dL_law_0 : decode cL_law 0 = .ok (.new 10, 3) := by decide +kernel
theorem dL_law_3 : decode cL_law 3 = .ok (.dup, 1) := by decide +kernel
theorem dL_law_4 : decode cL_law 4 = .ok (.invokespecial 64, 3) := by decide +kernel
theorem dL_law_7 : decode cL_law 7 = .ok (.astore_n 1, 1) := by decide +kernel
theorem dL_law_8 : decode cL_law 8 = .ok (.aload_n 0, 1) := by decide +kernel
theorem dL_law_9 : decode cL_law 9 = .ok (.iconst 0, 1) := by decide +kernel
theorem dL_law_10 : decode cL_law 10 = .ok (.invokestatic 65, 3) := by decide +kernel
theorem dL_law_13 : decode cL_law 13 = .ok (.istore_n 2, 1) := by decide +kernel
theorem dL_law_14 : decode cL_law 14 = .ok (.iconst 0, 1) := by decide +kernel
theorem dL_law_15 : decode cL_law 15 = .ok (.istore_n 3, 1) := by decide +kernel
theorem dL_law_16 : decode cL_law 16 = .ok (.aload_n 1, 1) := by decide +kernel
theorem dL_law_17 : decode cL_law 17 = .ok (.invokevirtual 37, 3) := by decide +kernel
theorem dL_law_20 : decode cL_law 20 = .ok (.ifCond .ne 44, 3) := by decide +kernel
theorem dL_law_23 : decode cL_law 23 = .ok (.aload_n 1, 1) := by decide +kernel
theorem dL_law_24 : decode cL_law 24 = .ok (.invokevirtual 41, 3) := by decide +kernel
theorem dL_law_27 : decode cL_law 27 = .ok (.bipush (-9), 2) := by decide +kernel
theorem dL_law_29 : decode cL_law 29 = .ok (.if_icmp .ne 35, 3) := by decide +kernel
theorem dL_law_32 : decode cL_law 32 = .ok (.aload_n 1, 1) := by decide +kernel
theorem dL_law_33 : decode cL_law 33 = .ok (.invokevirtual 71, 3) := by decide +kernel
theorem dL_law_36 : decode cL_law 36 = .ok (.bipush (-9), 2) := by decide +kernel
theorem dL_law_38 : decode cL_law 38 = .ok (.if_icmp .ne 26, 3) := by decide +kernel
theorem dL_law_41 : decode cL_law 41 = .ok (.aload_n 1, 1) := by decide +kernel
theorem dL_law_42 : decode cL_law 42 = .ok (.invokevirtual 74, 3) := by decide +kernel
theorem dL_law_45 : decode cL_law 45 = .ok (.bipush (-9), 2) := by decide +kernel
theorem dL_law_47 : decode cL_law 47 = .ok (.if_icmp .ne 17, 3) := by decide +kernel
theorem dL_law_50 : decode cL_law 50 = .ok (.aload_n 1, 1) := by decide +kernel
theorem dL_law_51 : decode cL_law 51 = .ok (.iconst 0, 1) := by decide +kernel
theorem dL_law_52 : decode cL_law 52 = .ok (.invokevirtual 28, 3) := by decide +kernel
theorem dL_law_55 : decode cL_law 55 = .ok (.bipush (-9), 2) := by decide +kernel
theorem dL_law_57 : decode cL_law 57 = .ok (.if_icmp .ne 7, 3) := by decide +kernel
theorem dL_law_60 : decode cL_law 60 = .ok (.iconst 1, 1) := by decide +kernel
theorem dL_law_61 : decode cL_law 61 = .ok (.goto 4, 3) := by decide +kernel
theorem dL_law_64 : decode cL_law 64 = .ok (.iconst 0, 1) := by decide +kernel
theorem dL_law_65 : decode cL_law 65 = .ok (.istore 4, 2) := by decide +kernel
theorem dL_law_67 : decode cL_law 67 = .ok (.iconst 0, 1) := by decide +kernel
theorem dL_law_68 : decode cL_law 68 = .ok (.istore 5, 2) := by decide +kernel
theorem dL_law_70 : decode cL_law 70 = .ok (.iload 5, 2) := by decide +kernel
theorem dL_law_72 : decode cL_law 72 = .ok (.iconst 2, 1) := by decide +kernel
theorem dL_law_73 : decode cL_law 73 = .ok (.iload_n 2, 1) := by decide +kernel
theorem dL_law_74 : decode cL_law 74 = .ok (.iconst 4, 1) := by decide +kernel
theorem dL_law_75 : decode cL_law 75 = .ok (.irem, 1) := by decide +kernel
theorem dL_law_76 : decode cL_law 76 = .ok (.iadd, 1) := by decide +kernel
theorem dL_law_77 : decode cL_law 77 = .ok (.if_icmp .ge 71, 3) := by decide +kernel
theorem dL_law_80 : decode cL_law 80 = .ok (.iload 4, 2) := by decide +kernel
theorem dL_law_82 : decode cL_law 82 = .ok (.ifCond .eq 66, 3) := by decide +kernel
theorem dL_law_85 : decode cL_law 85 = .ok (.aload_n 1, 1) := by decide +kernel
theorem dL_law_86 : decode cL_law 86 = .ok (.iconst 1, 1) := by decide +kernel
theorem dL_law_87 : decode cL_law 87 = .ok (.iload_n 2, 1) := by decide +kernel
theorem dL_law_88 : decode cL_law 88 = .ok (.iconst 2, 1) := by decide +kernel
theorem dL_law_89 : decode cL_law 89 = .ok (.iload 5, 2) := by decide +kernel
theorem dL_law_91 : decode cL_law 91 = .ok (.imul, 1) := by decide +kernel
theorem dL_law_92 : decode cL_law 92 = .ok (.ishr, 1) := by decide +kernel
theorem dL_law_93 : decode cL_law 93 = .ok (.iconst 3, 1) := by decide +kernel
theorem dL_law_94 : decode cL_law 94 = .ok (.iand, 1) := by decide +kernel
theorem dL_law_95 : decode cL_law 95 = .ok (.iadd, 1) := by decide +kernel
theorem dL_law_96 : decode cL_law 96 = .ok (.invokevirtual 44, 3) := by decide +kernel
theorem dL_law_99 : decode cL_law 99 = .ok (.iload 5, 2) := by decide +kernel
theorem dL_law_101 : decode cL_law 101 = .ok (.if_icmp .ne 38, 3) := by decide +kernel
theorem dL_law_104 : decode cL_law 104 = .ok (.iload 5, 2) := by decide +kernel
theorem dL_law_106 : decode cL_law 106 = .ok (.iconst 1, 1) := by decide +kernel
theorem dL_law_107 : decode cL_law 107 = .ok (.iload_n 2, 1) := by decide +kernel
theorem dL_law_108 : decode cL_law 108 = .ok (.bipush 12, 2) := by decide +kernel
theorem dL_law_110 : decode cL_law 110 = .ok (.ishr, 1) := by decide +kernel
theorem dL_law_111 : decode cL_law 111 = .ok (.iconst 1, 1) := by decide +kernel
theorem dL_law_112 : decode cL_law 112 = .ok (.iand, 1) := by decide +kernel
theorem dL_law_113 : decode cL_law 113 = .ok (.iadd, 1) := by decide +kernel
theorem dL_law_114 : decode cL_law 114 = .ok (.if_icmp .gt 21, 3) := by decide +kernel
theorem dL_law_117 : decode cL_law 117 = .ok (.aload_n 1, 1) := by decide +kernel
theorem dL_law_118 : decode cL_law 118 = .ok (.iload_n 2, 1) := by decide +kernel
theorem dL_law_119 : decode cL_law 119 = .ok (.iconst 3, 1) := by decide +kernel
theorem dL_law_120 : decode cL_law 120 = .ok (.iload 5, 2) := by decide +kernel
theorem dL_law_122 : decode cL_law 122 = .ok (.imul, 1) := by decide +kernel
theorem dL_law_123 : decode cL_law 123 = .ok (.ishr, 1) := by decide +kernel
theorem dL_law_124 : decode cL_law 124 = .ok (.bipush 41, 2) := by decide +kernel
theorem dL_law_126 : decode cL_law 126 = .ok (.irem, 1) := by decide +kernel
theorem dL_law_127 : decode cL_law 127 = .ok (.invokevirtual 77, 3) := by decide +kernel
theorem dL_law_130 : decode cL_law 130 = .ok (.iload 5, 2) := by decide +kernel
theorem dL_law_132 : decode cL_law 132 = .ok (.if_icmp .ne 7, 3) := by decide +kernel
theorem dL_law_135 : decode cL_law 135 = .ok (.iconst 1, 1) := by decide +kernel
theorem dL_law_136 : decode cL_law 136 = .ok (.goto 4, 3) := by decide +kernel
theorem dL_law_139 : decode cL_law 139 = .ok (.iconst 0, 1) := by decide +kernel
theorem dL_law_140 : decode cL_law 140 = .ok (.istore 4, 2) := by decide +kernel
theorem dL_law_142 : decode cL_law 142 = .ok (.iinc 5 1, 3) := by decide +kernel
theorem dL_law_145 : decode cL_law 145 = .ok (.goto (-75), 3) := by decide +kernel
theorem dL_law_148 : decode cL_law 148 = .ok (.iconst 0, 1) := by decide +kernel
theorem dL_law_149 : decode cL_law 149 = .ok (.istore 5, 2) := by decide +kernel
theorem dL_law_151 : decode cL_law 151 = .ok (.iload 5, 2) := by decide +kernel
theorem dL_law_153 : decode cL_law 153 = .ok (.bipush 36, 2) := by decide +kernel
theorem dL_law_155 : decode cL_law 155 = .ok (.if_icmp .ge 101, 3) := by decide +kernel
theorem dL_law_158 : decode cL_law 158 = .ok (.iload 4, 2) := by decide +kernel
theorem dL_law_160 : decode cL_law 160 = .ok (.ifCond .eq 96, 3) := by decide +kernel
theorem dL_law_163 : decode cL_law 163 = .ok (.aload_n 0, 1) := by decide +kernel
theorem dL_law_164 : decode cL_law 164 = .ok (.iconst 1, 1) := by decide +kernel
theorem dL_law_165 : decode cL_law 165 = .ok (.iload 5, 2) := by decide +kernel
theorem dL_law_167 : decode cL_law 167 = .ok (.iadd, 1) := by decide +kernel
theorem dL_law_168 : decode cL_law 168 = .ok (.invokestatic 65, 3) := by decide +kernel
theorem dL_law_171 : decode cL_law 171 = .ok (.istore 6, 2) := by decide +kernel
theorem dL_law_173 : decode cL_law 173 = .ok (.aload_n 1, 1) := by decide +kernel
theorem dL_law_174 : decode cL_law 174 = .ok (.iload 6, 2) := by decide +kernel
theorem dL_law_176 : decode cL_law 176 = .ok (.invokestatic 80, 3) := by decide +kernel
theorem dL_law_179 : decode cL_law 179 = .ok (.ifCond .eq 15, 3) := by decide +kernel
theorem dL_law_182 : decode cL_law 182 = .ok (.aload_n 1, 1) := by decide +kernel
theorem dL_law_183 : decode cL_law 183 = .ok (.iload_n 3, 1) := by decide +kernel
theorem dL_law_184 : decode cL_law 184 = .ok (.invokestatic 84, 3) := by decide +kernel
theorem dL_law_187 : decode cL_law 187 = .ok (.ifCond .eq 7, 3) := by decide +kernel
theorem dL_law_190 : decode cL_law 190 = .ok (.iconst 1, 1) := by decide +kernel
theorem dL_law_191 : decode cL_law 191 = .ok (.goto 4, 3) := by decide +kernel
theorem dL_law_194 : decode cL_law 194 = .ok (.iconst 0, 1) := by decide +kernel
theorem dL_law_195 : decode cL_law 195 = .ok (.istore 4, 2) := by decide +kernel
theorem dL_law_197 : decode cL_law 197 = .ok (.iload 4, 2) := by decide +kernel
theorem dL_law_199 : decode cL_law 199 = .ok (.ifCond .eq 51, 3) := by decide +kernel
theorem dL_law_202 : decode cL_law 202 = .ok (.iload 5, 2) := by decide +kernel
theorem dL_law_204 : decode cL_law 204 = .ok (.iconst 4, 1) := by decide +kernel
theorem dL_law_205 : decode cL_law 205 = .ok (.irem, 1) := by decide +kernel
theorem dL_law_206 : decode cL_law 206 = .ok (.iconst 3, 1) := by decide +kernel
theorem dL_law_207 : decode cL_law 207 = .ok (.if_icmp .ne 43, 3) := by decide +kernel
theorem dL_law_210 : decode cL_law 210 = .ok (.iload_n 3, 1) := by decide +kernel
theorem dL_law_211 : decode cL_law 211 = .ok (.aload_n 1, 1) := by decide +kernel
theorem dL_law_212 : decode cL_law 212 = .ok (.invokestatic 87, 3) := by decide +kernel
theorem dL_law_215 : decode cL_law 215 = .ok (.iadd, 1) := by decide +kernel
theorem dL_law_216 : decode cL_law 216 = .ok (.istore_n 3, 1) := by decide +kernel
theorem dL_law_217 : decode cL_law 217 = .ok (.aload_n 1, 1) := by decide +kernel
theorem dL_law_218 : decode cL_law 218 = .ok (.iload 6, 2) := by decide +kernel
theorem dL_law_220 : decode cL_law 220 = .ok (.iconst 5, 1) := by decide +kernel
theorem dL_law_221 : decode cL_law 221 = .ok (.ishr, 1) := by decide +kernel
theorem dL_law_222 : decode cL_law 222 = .ok (.invokestatic 91, 3) := by decide +kernel
theorem dL_law_225 : decode cL_law 225 = .ok (.ifCond .eq 22, 3) := by decide +kernel
theorem dL_law_228 : decode cL_law 228 = .ok (.aload_n 1, 1) := by decide +kernel
theorem dL_law_229 : decode cL_law 229 = .ok (.iload_n 3, 1) := by decide +kernel
theorem dL_law_230 : decode cL_law 230 = .ok (.invokestatic 84, 3) := by decide +kernel
theorem dL_law_233 : decode cL_law 233 = .ok (.ifCond .eq 14, 3) := by decide +kernel
theorem dL_law_236 : decode cL_law 236 = .ok (.aload_n 1, 1) := by decide +kernel
theorem dL_law_237 : decode cL_law 237 = .ok (.invokestatic 94, 3) := by decide +kernel
theorem dL_law_240 : decode cL_law 240 = .ok (.ifCond .eq 7, 3) := by decide +kernel
theorem dL_law_243 : decode cL_law 243 = .ok (.iconst 1, 1) := by decide +kernel
theorem dL_law_244 : decode cL_law 244 = .ok (.goto 4, 3) := by decide +kernel
theorem dL_law_247 : decode cL_law 247 = .ok (.iconst 0, 1) := by decide +kernel
theorem dL_law_248 : decode cL_law 248 = .ok (.istore 4, 2) := by decide +kernel
theorem dL_law_250 : decode cL_law 250 = .ok (.iinc 5 1, 3) := by decide +kernel
theorem dL_law_253 : decode cL_law 253 = .ok (.goto (-102), 3) := by decide +kernel
theorem dL_law_256 : decode cL_law 256 = .ok (.aload_n 1, 1) := by decide +kernel
theorem dL_law_257 : decode cL_law 257 = .ok (.iconst 2, 1) := by decide +kernel
theorem dL_law_258 : decode cL_law 258 = .ok (.invokevirtual 9, 3) := by decide +kernel
theorem dL_law_261 : decode cL_law 261 = .ok (.istore 5, 2) := by decide +kernel
theorem dL_law_263 : decode cL_law 263 = .ok (.aload_n 1, 1) := by decide +kernel
theorem dL_law_264 : decode cL_law 264 = .ok (.iconst 3, 1) := by decide +kernel
theorem dL_law_265 : decode cL_law 265 = .ok (.invokevirtual 9, 3) := by decide +kernel
theorem dL_law_268 : decode cL_law 268 = .ok (.istore 6, 2) := by decide +kernel
theorem dL_law_270 : decode cL_law 270 = .ok (.iload 4, 2) := by decide +kernel
theorem dL_law_272 : decode cL_law 272 = .ok (.ifCond .eq 51, 3) := by decide +kernel
theorem dL_law_275 : decode cL_law 275 = .ok (.aload_n 1, 1) := by decide +kernel
theorem dL_law_276 : decode cL_law 276 = .ok (.iconst 1, 1) := by decide +kernel
theorem dL_law_277 : decode cL_law 277 = .ok (.invokevirtual 98, 3) := by decide +kernel
theorem dL_law_280 : decode cL_law 280 = .ok (.iload 5, 2) := by decide +kernel
theorem dL_law_282 : decode cL_law 282 = .ok (.if_icmp .ne 41, 3) := by decide +kernel
theorem dL_law_285 : decode cL_law 285 = .ok (.aload_n 1, 1) := by decide +kernel
theorem dL_law_286 : decode cL_law 286 = .ok (.invokevirtual 37, 3) := by decide +kernel
theorem dL_law_289 : decode cL_law 289 = .ok (.ifCond .lt 34, 3) := by decide +kernel
theorem dL_law_292 : decode cL_law 292 = .ok (.aload_n 1, 1) := by decide +kernel
theorem dL_law_293 : decode cL_law 293 = .ok (.invokevirtual 101, 3) := by decide +kernel
theorem dL_law_296 : decode cL_law 296 = .ok (.ifCond .lt 27, 3) := by decide +kernel
theorem dL_law_299 : decode cL_law 299 = .ok (.aload_n 1, 1) := by decide +kernel
theorem dL_law_300 : decode cL_law 300 = .ok (.iconst 2, 1) := by decide +kernel
theorem dL_law_301 : decode cL_law 301 = .ok (.invokevirtual 9, 3) := by decide +kernel
theorem dL_law_304 : decode cL_law 304 = .ok (.iload 5, 2) := by decide +kernel
theorem dL_law_306 : decode cL_law 306 = .ok (.if_icmp .ne 17, 3) := by decide +kernel
theorem dL_law_309 : decode cL_law 309 = .ok (.aload_n 1, 1) := by decide +kernel
theorem dL_law_310 : decode cL_law 310 = .ok (.iconst 3, 1) := by decide +kernel
theorem dL_law_311 : decode cL_law 311 = .ok (.invokevirtual 9, 3) := by decide +kernel
theorem dL_law_314 : decode cL_law 314 = .ok (.iload 6, 2) := by decide +kernel
theorem dL_law_316 : decode cL_law 316 = .ok (.if_icmp .ne 7, 3) := by decide +kernel
theorem dL_law_319 : decode cL_law 319 = .ok (.iconst 1, 1) := by decide +kernel
theorem dL_law_320 : decode cL_law 320 = .ok (.goto 4, 3) := by decide +kernel
theorem dL_law_323 : decode cL_law 323 = .ok (.iconst 0, 1) := by decide +kernel
theorem dL_law_324 : decode cL_law 324 = .ok (.istore 4, 2) := by decide +kernel
theorem dL_law_326 : decode cL_law 326 = .ok (.iload 4, 2) := by decide +kernel
theorem dL_law_328 : decode cL_law 328 = .ok (.ifCond .eq 42, 3) := by decide +kernel
theorem dL_law_331 : decode cL_law 331 = .ok (.aload_n 1, 1) := by decide +kernel
theorem dL_law_332 : decode cL_law 332 = .ok (.invokevirtual 37, 3) := by decide +kernel
theorem dL_law_335 : decode cL_law 335 = .ok (.ifCond .lt 35, 3) := by decide +kernel
theorem dL_law_338 : decode cL_law 338 = .ok (.aload_n 1, 1) := by decide +kernel
theorem dL_law_339 : decode cL_law 339 = .ok (.iconst 1, 1) := by decide +kernel
theorem dL_law_340 : decode cL_law 340 = .ok (.invokevirtual 104, 3) := by decide +kernel
theorem dL_law_343 : decode cL_law 343 = .ok (.iload 5, 2) := by decide +kernel
theorem dL_law_345 : decode cL_law 345 = .ok (.if_icmp .ne 25, 3) := by decide +kernel
theorem dL_law_348 : decode cL_law 348 = .ok (.aload_n 1, 1) := by decide +kernel
theorem dL_law_349 : decode cL_law 349 = .ok (.iconst 3, 1) := by decide +kernel
theorem dL_law_350 : decode cL_law 350 = .ok (.invokevirtual 9, 3) := by decide +kernel
theorem dL_law_353 : decode cL_law 353 = .ok (.iload 6, 2) := by decide +kernel
theorem dL_law_355 : decode cL_law 355 = .ok (.if_icmp .ne 15, 3) := by decide +kernel
theorem dL_law_358 : decode cL_law 358 = .ok (.aload_n 1, 1) := by decide +kernel
theorem dL_law_359 : decode cL_law 359 = .ok (.iload_n 3, 1) := by decide +kernel
theorem dL_law_360 : decode cL_law 360 = .ok (.invokestatic 84, 3) := by decide +kernel
theorem dL_law_363 : decode cL_law 363 = .ok (.ifCond .eq 7, 3) := by decide +kernel
theorem dL_law_366 : decode cL_law 366 = .ok (.iconst 1, 1) := by decide +kernel
theorem dL_law_367 : decode cL_law 367 = .ok (.goto 4, 3) := by decide +kernel
theorem dL_law_370 : decode cL_law 370 = .ok (.iconst 0, 1) := by decide +kernel
theorem dL_law_371 : decode cL_law 371 = .ok (.ireturn, 1) := by decide +kernel
