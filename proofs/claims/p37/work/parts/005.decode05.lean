theorem dX11_goesOn_82 : decode cX11_goesOn 82 = .ok (.getfield 329, 3) := by decide +kernel
theorem dX11_goesOn_85 : decode cX11_goesOn 85 = .ok (.iaload, 1) := by decide +kernel
theorem dX11_goesOn_86 : decode cX11_goesOn 86 = .ok (.bipush 20, 2) := by decide +kernel
theorem dX11_goesOn_88 : decode cX11_goesOn 88 = .ok (.if_icmp .eq (-88), 3) := by decide +kernel
theorem dX11_goesOn_91 : decode cX11_goesOn 91 = .ok (.aload_n 0, 1) := by decide +kernel
theorem dX11_goesOn_92 : decode cX11_goesOn 92 = .ok (.aload_n 0, 1) := by decide +kernel
theorem dX11_goesOn_93 : decode cX11_goesOn 93 = .ok (.getfield 118, 3) := by decide +kernel
theorem dX11_goesOn_96 : decode cX11_goesOn 96 = .ok (.aload_n 0, 1) := by decide +kernel
theorem dX11_goesOn_97 : decode cX11_goesOn 97 = .ok (.getfield 329, 3) := by decide +kernel
theorem dX11_goesOn_100 : decode cX11_goesOn 100 = .ok (.iaload, 1) := by decide +kernel
theorem dX11_goesOn_101 : decode cX11_goesOn 101 = .ok (.bipush 23, 2) := by decide +kernel
theorem dX11_goesOn_103 : decode cX11_goesOn 103 = .ok (.if_icmp .ne 7, 3) := by decide +kernel
theorem dX11_goesOn_106 : decode cX11_goesOn 106 = .ok (.iconst 5, 1) := by decide +kernel
theorem dX11_goesOn_107 : decode cX11_goesOn 107 = .ok (.goto 5, 3) := by decide +kernel
theorem dX11_goesOn_110 : decode cX11_goesOn 110 = .ok (.bipush 6, 2) := by decide +kernel
theorem dX11_goesOn_112 : decode cX11_goesOn 112 = .ok (.invokevirtual 332, 3) := by decide +kernel
theorem dX11_goesOn_115 : decode cX11_goesOn 115 = .ok (.goto (-115), 3) := by decide +kernel
theorem dX11_goesOn_118 : decode cX11_goesOn 118 = .ok (.aload_n 0, 1) := by decide +kernel
theorem dX11_goesOn_119 : decode cX11_goesOn 119 = .ok (.bipush 42, 2) := by decide +kernel
theorem dX11_goesOn_121 : decode cX11_goesOn 121 = .ok (.invokevirtual 294, 3) := by decide +kernel
theorem dX11_goesOn_124 : decode cX11_goesOn 124 = .ok (.ifCond .ne 12, 3) := by decide +kernel
theorem dX11_goesOn_127 : decode cX11_goesOn 127 = .ok (.aload_n 0, 1) := by decide +kernel
theorem dX11_goesOn_128 : decode cX11_goesOn 128 = .ok (.bipush 47, 2) := by decide +kernel
theorem dX11_goesOn_130 : decode cX11_goesOn 130 = .ok (.invokevirtual 294, 3) := by decide +kernel
theorem dX11_goesOn_133 : decode cX11_goesOn 133 = .ok (.ifCond .eq 70, 3) := by decide +kernel
theorem dX11_goesOn_136 : decode cX11_goesOn 136 = .ok (.aload_n 0, 1) := by decide +kernel
theorem dX11_goesOn_137 : decode cX11_goesOn 137 = .ok (.getfield 7, 3) := by decide +kernel
theorem dX11_goesOn_140 : decode cX11_goesOn 140 = .ok (.aload_n 0, 1) := by decide +kernel
theorem dX11_goesOn_141 : decode cX11_goesOn 141 = .ok (.getfield 266, 3) := by decide +kernel
theorem dX11_goesOn_144 : decode cX11_goesOn 144 = .ok (.iconst 1, 1) := by decide +kernel
theorem dX11_goesOn_145 : decode cX11_goesOn 145 = .ok (.isub, 1) := by decide +kernel
theorem dX11_goesOn_146 : decode cX11_goesOn 146 = .ok (.iaload, 1) := by decide +kernel
theorem dX11_goesOn_147 : decode cX11_goesOn 147 = .ok (.bipush 42, 2) := by decide +kernel
theorem dX11_goesOn_149 : decode cX11_goesOn 149 = .ok (.if_icmp .ne 7, 3) := by decide +kernel
theorem dX11_goesOn_152 : decode cX11_goesOn 152 = .ok (.iconst 3, 1) := by decide +kernel
theorem dX11_goesOn_153 : decode cX11_goesOn 153 = .ok (.goto 4, 3) := by decide +kernel
theorem dX11_goesOn_156 : decode cX11_goesOn 156 = .ok (.iconst 4, 1) := by decide +kernel
theorem dX11_goesOn_157 : decode cX11_goesOn 157 = .ok (.istore_n 1, 1) := by decide +kernel
theorem dX11_goesOn_158 : decode cX11_goesOn 158 = .ok (.aload_n 0, 1) := by decide +kernel
theorem dX11_goesOn_159 : decode cX11_goesOn 159 = .ok (.iconst 3, 1) := by decide +kernel
theorem dX11_goesOn_160 : decode cX11_goesOn 160 = .ok (.invokevirtual 365, 3) := by decide +kernel
theorem dX11_goesOn_163 : decode cX11_goesOn 163 = .ok (.ifCond .ne 11, 3) := by decide +kernel
theorem dX11_goesOn_166 : decode cX11_goesOn 166 = .ok (.aload_n 0, 1) := by decide +kernel
theorem dX11_goesOn_167 : decode cX11_goesOn 167 = .ok (.iconst 4, 1) := by decide +kernel
theorem dX11_goesOn_168 : decode cX11_goesOn 168 = .ok (.invokevirtual 365, 3) := by decide +kernel
theorem dX11_goesOn_171 : decode cX11_goesOn 171 = .ok (.ifCond .eq 10, 3) := by decide +kernel
theorem dX11_goesOn_174 : decode cX11_goesOn 174 = .ok (.aload_n 0, 1) := by decide +kernel
theorem dX11_goesOn_175 : decode cX11_goesOn 175 = .ok (.invokevirtual 342, 3) := by decide +kernel
theorem dX11_goesOn_178 : decode cX11_goesOn 178 = .ok (.goto (-20), 3) := by decide +kernel
theorem dX11_goesOn_181 : decode cX11_goesOn 181 = .ok (.aload_n 0, 1) := by decide +kernel
theorem dX11_goesOn_182 : decode cX11_goesOn 182 = .ok (.getfield 118, 3) := by decide +kernel
theorem dX11_goesOn_185 : decode cX11_goesOn 185 = .ok (.aload_n 0, 1) := by decide +kernel
theorem dX11_goesOn_186 : decode cX11_goesOn 186 = .ok (.getfield 329, 3) := by decide +kernel
theorem dX11_goesOn_189 : decode cX11_goesOn 189 = .ok (.iload_n 1, 1) := by decide +kernel
theorem dX11_goesOn_190 : decode cX11_goesOn 190 = .ok (.iastore, 1) := by decide +kernel
theorem dX11_goesOn_191 : decode cX11_goesOn 191 = .ok (.aload_n 0, 1) := by decide +kernel
theorem dX11_goesOn_192 : decode cX11_goesOn 192 = .ok (.dup, 1) := by decide +kernel
theorem dX11_goesOn_193 : decode cX11_goesOn 193 = .ok (.getfield 329, 3) := by decide +kernel
theorem dX11_goesOn_196 : decode cX11_goesOn 196 = .ok (.iconst 1, 1) := by decide +kernel
theorem dX11_goesOn_197 : decode cX11_goesOn 197 = .ok (.iadd, 1) := by decide +kernel
theorem dX11_goesOn_198 : decode cX11_goesOn 198 = .ok (.putfield 329, 3) := by decide +kernel
theorem dX11_goesOn_201 : decode cX11_goesOn 201 = .ok (.iconst 1, 1) := by decide +kernel
theorem dX11_goesOn_202 : decode cX11_goesOn 202 = .ok (.ireturn, 1) := by decide +kernel
theorem dX11_goesOn_203 : decode cX11_goesOn 203 = .ok (.aload_n 0, 1) := by decide +kernel
theorem dX11_goesOn_204 : decode cX11_goesOn 204 = .ok (.bipush 43, 2) := by decide +kernel
theorem dX11_goesOn_206 : decode cX11_goesOn 206 = .ok (.invokevirtual 294, 3) := by decide +kernel
theorem dX11_goesOn_209 : decode cX11_goesOn 209 = .ok (.ifCond .ne 12, 3) := by decide +kernel
theorem dX11_goesOn_212 : decode cX11_goesOn 212 = .ok (.aload_n 0, 1) := by decide +kernel
theorem dX11_goesOn_213 : decode cX11_goesOn 213 = .ok (.bipush 45, 2) := by decide +kernel
theorem dX11_goesOn_215 : decode cX11_goesOn 215 = .ok (.invokevirtual 294, 3) := by decide +kernel
theorem dX11_goesOn_218 : decode cX11_goesOn 218 = .ok (.ifCond .eq 86, 3) := by decide +kernel
theorem dX11_goesOn_221 : decode cX11_goesOn 221 = .ok (.aload_n 0, 1) := by decide +kernel
theorem dX11_goesOn_222 : decode cX11_goesOn 222 = .ok (.getfield 7, 3) := by decide +kernel
theorem dX11_goesOn_225 : decode cX11_goesOn 225 = .ok (.aload_n 0, 1) := by decide +kernel
theorem dX11_goesOn_226 : decode cX11_goesOn 226 = .ok (.getfield 266, 3) := by decide +kernel
theorem dX11_goesOn_229 : decode cX11_goesOn 229 = .ok (.iconst 1, 1) := by decide +kernel
theorem dX11_goesOn_230 : decode cX11_goesOn 230 = .ok (.isub, 1) := by decide +kernel
theorem dX11_goesOn_231 : decode cX11_goesOn 231 = .ok (.iaload, 1) := by decide +kernel
theorem dX11_goesOn_232 : decode cX11_goesOn 232 = .ok (.bipush 43, 2) := by decide +kernel
theorem dX11_goesOn_234 : decode cX11_goesOn 234 = .ok (.if_icmp .ne 7, 3) := by decide +kernel
theorem dX11_goesOn_237 : decode cX11_goesOn 237 = .ok (.iconst 1, 1) := by decide +kernel
theorem dX11_goesOn_238 : decode cX11_goesOn 238 = .ok (.goto 4, 3) := by decide +kernel
theorem dX11_goesOn_241 : decode cX11_goesOn 241 = .ok (.iconst 2, 1) := by decide +kernel
theorem dX11_goesOn_242 : decode cX11_goesOn 242 = .ok (.istore_n 1, 1) := by decide +kernel
theorem dX11_goesOn_243 : decode cX11_goesOn 243 = .ok (.aload_n 0, 1) := by decide +kernel
theorem dX11_goesOn_244 : decode cX11_goesOn 244 = .ok (.iconst 3, 1) := by decide +kernel
theorem dX11_goesOn_245 : decode cX11_goesOn 245 = .ok (.invokevirtual 365, 3) := by decide +kernel
theorem dX11_goesOn_248 : decode cX11_goesOn 248 = .ok (.ifCond .ne 27, 3) := by decide +kernel
theorem dX11_goesOn_251 : decode cX11_goesOn 251 = .ok (.aload_n 0, 1) := by decide +kernel
theorem dX11_goesOn_252 : decode cX11_goesOn 252 = .ok (.iconst 4, 1) := by decide +kernel
theorem dX11_goesOn_253 : decode cX11_goesOn 253 = .ok (.invokevirtual 365, 3) := by decide +kernel
theorem dX11_goesOn_256 : decode cX11_goesOn 256 = .ok (.ifCond .ne 19, 3) := by decide +kernel
theorem dX11_goesOn_259 : decode cX11_goesOn 259 = .ok (.aload_n 0, 1) := by decide +kernel
theorem dX11_goesOn_260 : decode cX11_goesOn 260 = .ok (.iconst 1, 1) := by decide +kernel
theorem dX11_goesOn_261 : decode cX11_goesOn 261 = .ok (.invokevirtual 365, 3) := by decide +kernel
theorem dX11_goesOn_264 : decode cX11_goesOn 264 = .ok (.ifCond .ne 11, 3) := by decide +kernel
theorem dX11_goesOn_267 : decode cX11_goesOn 267 = .ok (.aload_n 0, 1) := by decide +kernel
theorem dX11_goesOn_268 : decode cX11_goesOn 268 = .ok (.iconst 2, 1) := by decide +kernel
theorem dX11_goesOn_269 : decode cX11_goesOn 269 = .ok (.invokevirtual 365, 3) := by decide +kernel
theorem dX11_goesOn_272 : decode cX11_goesOn 272 = .ok (.ifCond .eq 10, 3) := by decide +kernel
theorem dX11_goesOn_275 : decode cX11_goesOn 275 = .ok (.aload_n 0, 1) := by decide +kernel
theorem dX11_goesOn_276 : decode cX11_goesOn 276 = .ok (.invokevirtual 342, 3) := by decide +kernel
theorem dX11_goesOn_279 : decode cX11_goesOn 279 = .ok (.goto (-36), 3) := by decide +kernel
theorem dX11_goesOn_282 : decode cX11_goesOn 282 = .ok (.aload_n 0, 1) := by decide +kernel
theorem dX11_goesOn_283 : decode cX11_goesOn 283 = .ok (.getfield 118, 3) := by decide +kernel
theorem dX11_goesOn_286 : decode cX11_goesOn 286 = .ok (.aload_n 0, 1) := by decide +kernel
theorem dX11_goesOn_287 : decode cX11_goesOn 287 = .ok (.getfield 329, 3) := by decide +kernel
theorem dX11_goesOn_290 : decode cX11_goesOn 290 = .ok (.iload_n 1, 1) := by decide +kernel
theorem dX11_goesOn_291 : decode cX11_goesOn 291 = .ok (.iastore, 1) := by decide +kernel
theorem dX11_goesOn_292 : decode cX11_goesOn 292 = .ok (.aload_n 0, 1) := by decide +kernel
theorem dX11_goesOn_293 : decode cX11_goesOn 293 = .ok (.dup, 1) := by decide +kernel
theorem dX11_goesOn_294 : decode cX11_goesOn 294 = .ok (.getfield 329, 3) := by decide +kernel
theorem dX11_goesOn_297 : decode cX11_goesOn 297 = .ok (.iconst 1, 1) := by decide +kernel
theorem dX11_goesOn_298 : decode cX11_goesOn 298 = .ok (.iadd, 1) := by decide +kernel
theorem dX11_goesOn_299 : decode cX11_goesOn 299 = .ok (.putfield 329, 3) := by decide +kernel
theorem dX11_goesOn_302 : decode cX11_goesOn 302 = .ok (.iconst 1, 1) := by decide +kernel
theorem dX11_goesOn_303 : decode cX11_goesOn 303 = .ok (.ireturn, 1) := by decide +kernel
theorem dX11_goesOn_304 : decode cX11_goesOn 304 = .ok (.aload_n 0, 1) := by decide +kernel
theorem dX11_goesOn_305 : decode cX11_goesOn 305 = .ok (.invokevirtual 359, 3) := by decide +kernel
theorem dX11_goesOn_308 : decode cX11_goesOn 308 = .ok (.bipush 21, 2) := by decide +kernel
theorem dX11_goesOn_310 : decode cX11_goesOn 310 = .ok (.if_icmp .eq 12, 3) := by decide +kernel
theorem dX11_goesOn_313 : decode cX11_goesOn 313 = .ok (.aload_n 0, 1) := by decide +kernel
theorem dX11_goesOn_314 : decode cX11_goesOn 314 = .ok (.invokevirtual 359, 3) := by decide +kernel
theorem dX11_goesOn_317 : decode cX11_goesOn 317 = .ok (.bipush 22, 2) := by decide +kernel
theorem dX11_goesOn_319 : decode cX11_goesOn 319 = .ok (.if_icmp .ne 39, 3) := by decide +kernel
theorem dX11_goesOn_322 : decode cX11_goesOn 322 = .ok (.aload_n 0, 1) := by decide +kernel
theorem dX11_goesOn_323 : decode cX11_goesOn 323 = .ok (.bipush 44, 2) := by decide +kernel
theorem dX11_goesOn_325 : decode cX11_goesOn 325 = .ok (.invokevirtual 352, 3) := by decide +kernel
theorem dX11_goesOn_328 : decode cX11_goesOn 328 = .ok (.aload_n 0, 1) := by decide +kernel
theorem dX11_goesOn_329 : decode cX11_goesOn 329 = .ok (.getfield 260, 3) := by decide +kernel
theorem dX11_goesOn_332 : decode cX11_goesOn 332 = .ok (.ifCond .eq 5, 3) := by decide +kernel
theorem dX11_goesOn_335 : decode cX11_goesOn 335 = .ok (.iconst 0, 1) := by decide +kernel
theorem dX11_goesOn_336 : decode cX11_goesOn 336 = .ok (.ireturn, 1) := by decide +kernel
theorem dX11_goesOn_337 : decode cX11_goesOn 337 = .ok (.aload_n 0, 1) := by decide +kernel
theorem dX11_goesOn_338 : decode cX11_goesOn 338 = .ok (.invokevirtual 362, 3) := by decide +kernel
theorem dX11_goesOn_341 : decode cX11_goesOn 341 = .ok (.aload_n 0, 1) := by decide +kernel
theorem dX11_goesOn_342 : decode cX11_goesOn 342 = .ok (.getfield 118, 3) := by decide +kernel
theorem dX11_goesOn_345 : decode cX11_goesOn 345 = .ok (.aload_n 0, 1) := by decide +kernel
theorem dX11_goesOn_346 : decode cX11_goesOn 346 = .ok (.getfield 329, 3) := by decide +kernel
theorem dX11_goesOn_349 : decode cX11_goesOn 349 = .ok (.iconst 1, 1) := by decide +kernel
theorem dX11_goesOn_350 : decode cX11_goesOn 350 = .ok (.isub, 1) := by decide +kernel
theorem dX11_goesOn_351 : decode cX11_goesOn 351 = .ok (.dup2, 1) := by decide +kernel
theorem dX11_goesOn_352 : decode cX11_goesOn 352 = .ok (.iaload, 1) := by decide +kernel
theorem dX11_goesOn_353 : decode cX11_goesOn 353 = .ok (.iconst 2, 1) := by decide +kernel
theorem dX11_goesOn_354 : decode cX11_goesOn 354 = .ok (.iadd, 1) := by decide +kernel
theorem dX11_goesOn_355 : decode cX11_goesOn 355 = .ok (.iastore, 1) := by decide +kernel
theorem dX11_goesOn_356 : decode cX11_goesOn 356 = .ok (.iconst 1, 1) := by decide +kernel
theorem dX11_goesOn_357 : decode cX11_goesOn 357 = .ok (.ireturn, 1) := by decide +kernel
theorem dX11_goesOn_358 : decode cX11_goesOn 358 = .ok (.aload_n 0, 1) := by decide +kernel
theorem dX11_goesOn_359 : decode cX11_goesOn 359 = .ok (.invokevirtual 359, 3) := by decide +kernel
theorem dX11_goesOn_362 : decode cX11_goesOn 362 = .ok (.iconst (-1), 1) := by decide +kernel
theorem dX11_goesOn_363 : decode cX11_goesOn 363 = .ok (.if_icmp .eq 19, 3) := by decide +kernel
theorem dX11_goesOn_366 : decode cX11_goesOn 366 = .ok (.aload_n 0, 1) := by decide +kernel
theorem dX11_goesOn_367 : decode cX11_goesOn 367 = .ok (.getfield 260, 3) := by decide +kernel
theorem dX11_goesOn_370 : decode cX11_goesOn 370 = .ok (.ifCond .ne 12, 3) := by decide +kernel
theorem dX11_goesOn_373 : decode cX11_goesOn 373 = .ok (.aload_n 0, 1) := by decide +kernel
theorem dX11_goesOn_374 : decode cX11_goesOn 374 = .ok (.iconst 1, 1) := by decide +kernel
theorem dX11_goesOn_375 : decode cX11_goesOn 375 = .ok (.aload_n 0, 1) := by decide +kernel
theorem dX11_goesOn_376 : decode cX11_goesOn 376 = .ok (.getfield 266, 3) := by decide +kernel
theorem dX11_goesOn_379 : decode cX11_goesOn 379 = .ok (.invokevirtual 290, 3) := by decide +kernel
theorem dX11_goesOn_382 : decode cX11_goesOn 382 = .ok (.iconst 0, 1) := by decide +kernel
theorem dX11_goesOn_383 : decode cX11_goesOn 383 = .ok (.ireturn, 1) := by decide +kernel
theorem dX11_sums_0 : decode cX11_sums 0 = .ok (.aload_n 0, 1) := by decide +kernel
theorem dX11_sums_1 : decode cX11_sums 1 = .ok (.getfield 336, 3) := by decide +kernel
theorem dX11_sums_4 : decode cX11_sums 4 = .ok (.istore_n 1, 1) := by decide +kernel
theorem dX11_sums_5 : decode cX11_sums 5 = .ok (.aload_n 0, 1) := by decide +kernel
theorem dX11_sums_6 : decode cX11_sums 6 = .ok (.aload_n 0, 1) := by decide +kernel
theorem dX11_sums_7 : decode cX11_sums 7 = .ok (.getfield 329, 3) := by decide +kernel
theorem dX11_sums_10 : decode cX11_sums 10 = .ok (.putfield 336, 3) := by decide +kernel
theorem dX11_sums_13 : decode cX11_sums 13 = .ok (.iconst 1, 1) := by decide +kernel
theorem dX11_sums_14 : decode cX11_sums 14 = .ok (.istore_n 2, 1) := by decide +kernel
theorem dX11_sums_15 : decode cX11_sums 15 = .ok (.iload_n 2, 1) := by decide +kernel
theorem dX11_sums_16 : decode cX11_sums 16 = .ok (.ifCond .eq 37, 3) := by decide +kernel
theorem dX11_sums_19 : decode cX11_sums 19 = .ok (.aload_n 0, 1) := by decide +kernel
theorem dX11_sums_20 : decode cX11_sums 20 = .ok (.getfield 260, 3) := by decide +kernel
theorem dX11_sums_23 : decode cX11_sums 23 = .ok (.ifCond .ne 30, 3) := by decide +kernel
theorem dX11_sums_26 : decode cX11_sums 26 = .ok (.aload_n 0, 1) := by decide +kernel
theorem dX11_sums_27 : decode cX11_sums 27 = .ok (.invokevirtual 368, 3) := by decide +kernel
theorem dX11_sums_30 : decode cX11_sums 30 = .ok (.aload_n 0, 1) := by decide +kernel
theorem dX11_sums_31 : decode cX11_sums 31 = .ok (.getfield 260, 3) := by decide +kernel
theorem dX11_sums_34 : decode cX11_sums 34 = .ok (.ifCond .ne 14, 3) := by decide +kernel
theorem dX11_sums_37 : decode cX11_sums 37 = .ok (.aload_n 0, 1) := by decide +kernel
theorem dX11_sums_38 : decode cX11_sums 38 = .ok (.invokevirtual 371, 3) := by decide +kernel
theorem dX11_sums_41 : decode cX11_sums 41 = .ok (.ifCond .eq 7, 3) := by decide +kernel
theorem dX11_sums_44 : decode cX11_sums 44 = .ok (.iconst 1, 1) := by decide +kernel
theorem dX11_sums_45 : decode cX11_sums 45 = .ok (.goto 4, 3) := by decide +kernel
theorem dX11_sums_48 : decode cX11_sums 48 = .ok (.iconst 0, 1) := by decide +kernel
theorem dX11_sums_49 : decode cX11_sums 49 = .ok (.istore_n 2, 1) := by decide +kernel
theorem dX11_sums_50 : decode cX11_sums 50 = .ok (.goto (-35), 3) := by decide +kernel
theorem dX11_sums_53 : decode cX11_sums 53 = .ok (.aload_n 0, 1) := by decide +kernel
theorem dX11_sums_54 : decode cX11_sums 54 = .ok (.getfield 260, 3) := by decide +kernel
theorem dX11_sums_57 : decode cX11_sums 57 = .ok (.ifCond .ne 21, 3) := by decide +kernel
theorem dX11_sums_60 : decode cX11_sums 60 = .ok (.aload_n 0, 1) := by decide +kernel
theorem dX11_sums_61 : decode cX11_sums 61 = .ok (.getfield 329, 3) := by decide +kernel
theorem dX11_sums_64 : decode cX11_sums 64 = .ok (.aload_n 0, 1) := by decide +kernel
theorem dX11_sums_65 : decode cX11_sums 65 = .ok (.getfield 336, 3) := by decide +kernel
theorem dX11_sums_68 : decode cX11_sums 68 = .ok (.if_icmp .le 10, 3) := by decide +kernel
theorem dX11_sums_71 : decode cX11_sums 71 = .ok (.aload_n 0, 1) := by decide +kernel
theorem dX11_sums_72 : decode cX11_sums 72 = .ok (.invokevirtual 342, 3) := by decide +kernel
theorem dX11_sums_75 : decode cX11_sums 75 = .ok (.goto (-22), 3) := by decide +kernel
theorem dX11_sums_78 : decode cX11_sums 78 = .ok (.aload_n 0, 1) := by decide +kernel
theorem dX11_sums_79 : decode cX11_sums 79 = .ok (.iload_n 1, 1) := by decide +kernel
theorem dX11_sums_80 : decode cX11_sums 80 = .ok (.putfield 336, 3) := by decide +kernel
theorem dX11_sums_83 : decode cX11_sums 83 = .ok (.return_, 1) := by decide +kernel
theorem dX11_fact_0 : decode cX11_fact 0 = .ok (.aload_n 0, 1) := by decide +kernel
theorem dX11_fact_1 : decode cX11_fact 1 = .ok (.aload_n 0, 1) := by decide +kernel
theorem dX11_fact_2 : decode cX11_fact 2 = .ok (.getfield 51, 3) := by decide +kernel
theorem dX11_fact_5 : decode cX11_fact 5 = .ok (.invokevirtual 287, 3) := by decide +kernel
theorem dX11_fact_8 : decode cX11_fact 8 = .ok (.ifCond .eq 10, 3) := by decide +kernel
theorem dX11_fact_11 : decode cX11_fact 11 = .ok (.aload_n 0, 1) := by decide +kernel
theorem dX11_fact_12 : decode cX11_fact 12 = .ok (.bipush 17, 2) := by decide +kernel
theorem dX11_fact_14 : decode cX11_fact 14 = .ok (.invokevirtual 332, 3) := by decide +kernel
theorem dX11_fact_17 : decode cX11_fact 17 = .ok (.return_, 1) := by decide +kernel
theorem dX11_fact_18 : decode cX11_fact 18 = .ok (.aload_n 0, 1) := by decide +kernel
theorem dX11_fact_19 : decode cX11_fact 19 = .ok (.aload_n 0, 1) := by decide +kernel
theorem dX11_fact_20 : decode cX11_fact 20 = .ok (.getfield 54, 3) := by decide +kernel
theorem dX11_fact_23 : decode cX11_fact 23 = .ok (.invokevirtual 287, 3) := by decide +kernel
theorem dX11_fact_26 : decode cX11_fact 26 = .ok (.ifCond .eq 15, 3) := by decide +kernel
theorem dX11_fact_29 : decode cX11_fact 29 = .ok (.aload_n 0, 1) := by decide +kernel
theorem dX11_fact_30 : decode cX11_fact 30 = .ok (.bipush 100, 2) := by decide +kernel
theorem dX11_fact_32 : decode cX11_fact 32 = .ok (.aload_n 0, 1) := by decide +kernel
theorem dX11_fact_33 : decode cX11_fact 33 = .ok (.invokevirtual 374, 3) := by decide +kernel
theorem dX11_fact_36 : decode cX11_fact 36 = .ok (.iadd, 1) := by decide +kernel
theorem dX11_fact_37 : decode cX11_fact 37 = .ok (.invokevirtual 332, 3) := by decide +kernel
theorem dX11_fact_40 : decode cX11_fact 40 = .ok (.return_, 1) := by decide +kernel
theorem dX11_fact_41 : decode cX11_fact 41 = .ok (.aload_n 0, 1) := by decide +kernel
theorem dX11_fact_42 : decode cX11_fact 42 = .ok (.invokevirtual 377, 3) := by decide +kernel
theorem dX11_fact_45 : decode cX11_fact 45 = .ok (.aload_n 0, 1) := by decide +kernel
theorem dX11_fact_46 : decode cX11_fact 46 = .ok (.getfield 260, 3) := by decide +kernel
theorem dX11_fact_49 : decode cX11_fact 49 = .ok (.ifCond .eq 4, 3) := by decide +kernel
theorem dX11_fact_52 : decode cX11_fact 52 = .ok (.return_, 1) := by decide +kernel
theorem dX11_fact_53 : decode cX11_fact 53 = .ok (.aload_n 0, 1) := by decide +kernel
theorem dX11_fact_54 : decode cX11_fact 54 = .ok (.invokevirtual 272, 3) := by decide +kernel
theorem dX11_fact_57 : decode cX11_fact 57 = .ok (.istore_n 1, 1) := by decide +kernel
theorem dX11_fact_58 : decode cX11_fact 58 = .ok (.iload_n 1, 1) := by decide +kernel
theorem dX11_fact_59 : decode cX11_fact 59 = .ok (.bipush 60, 2) := by decide +kernel
theorem dX11_fact_61 : decode cX11_fact 61 = .ok (.if_icmp .eq 25, 3) := by decide +kernel
theorem dX11_fact_64 : decode cX11_fact 64 = .ok (.iload_n 1, 1) := by decide +kernel
theorem dX11_fact_65 : decode cX11_fact 65 = .ok (.bipush 62, 2) := by decide +kernel
theorem dX11_fact_67 : decode cX11_fact 67 = .ok (.if_icmp .eq 19, 3) := by decide +kernel
theorem dX11_fact_70 : decode cX11_fact 70 = .ok (.iload_n 1, 1) := by decide +kernel
theorem dX11_fact_71 : decode cX11_fact 71 = .ok (.bipush 61, 2) := by decide +kernel
theorem dX11_fact_73 : decode cX11_fact 73 = .ok (.if_icmp .eq 13, 3) := by decide +kernel
theorem dX11_fact_76 : decode cX11_fact 76 = .ok (.aload_n 0, 1) := by decide +kernel
theorem dX11_fact_77 : decode cX11_fact 77 = .ok (.iconst 1, 1) := by decide +kernel
theorem dX11_fact_78 : decode cX11_fact 78 = .ok (.aload_n 0, 1) := by decide +kernel
theorem dX11_fact_79 : decode cX11_fact 79 = .ok (.getfield 266, 3) := by decide +kernel
theorem dX11_fact_82 : decode cX11_fact 82 = .ok (.invokevirtual 290, 3) := by decide +kernel
theorem dX11_fact_85 : decode cX11_fact 85 = .ok (.return_, 1) := by decide +kernel
theorem dX11_fact_86 : decode cX11_fact 86 = .ok (.aload_n 0, 1) := by decide +kernel
theorem dX11_fact_87 : decode cX11_fact 87 = .ok (.dup, 1) := by decide +kernel
theorem dX11_fact_88 : decode cX11_fact 88 = .ok (.getfield 266, 3) := by decide +kernel
theorem dX11_fact_91 : decode cX11_fact 91 = .ok (.iconst 1, 1) := by decide +kernel
theorem dX11_fact_92 : decode cX11_fact 92 = .ok (.iadd, 1) := by decide +kernel
theorem dX11_fact_93 : decode cX11_fact 93 = .ok (.putfield 266, 3) := by decide +kernel
theorem dX11_fact_96 : decode cX11_fact 96 = .ok (.aload_n 0, 1) := by decide +kernel
theorem dX11_fact_97 : decode cX11_fact 97 = .ok (.invokevirtual 377, 3) := by decide +kernel
theorem dX11_fact_100 : decode cX11_fact 100 = .ok (.aload_n 0, 1) := by decide +kernel
theorem dX11_fact_101 : decode cX11_fact 101 = .ok (.iload_n 1, 1) := by decide +kernel
theorem dX11_fact_102 : decode cX11_fact 102 = .ok (.bipush 60, 2) := by decide +kernel
theorem dX11_fact_104 : decode cX11_fact 104 = .ok (.if_icmp .ne 8, 3) := by decide +kernel
theorem dX11_fact_107 : decode cX11_fact 107 = .ok (.bipush 11, 2) := by decide +kernel
theorem dX11_fact_109 : decode cX11_fact 109 = .ok (.goto 16, 3) := by decide +kernel
theorem dX11_fact_112 : decode cX11_fact 112 = .ok (.iload_n 1, 1) := by decide +kernel
theorem dX11_fact_113 : decode cX11_fact 113 = .ok (.bipush 62, 2) := by decide +kernel
theorem dX11_fact_115 : decode cX11_fact 115 = .ok (.if_icmp .ne 8, 3) := by decide +kernel
theorem dX11_fact_118 : decode cX11_fact 118 = .ok (.bipush 12, 2) := by decide +kernel
theorem dX11_fact_120 : decode cX11_fact 120 = .ok (.goto 5, 3) := by decide +kernel
theorem dX11_fact_123 : decode cX11_fact 123 = .ok (.bipush 13, 2) := by decide +kernel
theorem dX11_fact_125 : decode cX11_fact 125 = .ok (.invokevirtual 332, 3) := by decide +kernel
theorem dX11_fact_128 : decode cX11_fact 128 = .ok (.return_, 1) := by decide +kernel
theorem dX11_hasSquare_0 : decode cX11_hasSquare 0 = .ok (.iconst 0, 1) := by decide +kernel
theorem dX11_hasSquare_1 : decode cX11_hasSquare 1 = .ok (.istore_n 1, 1) := by decide +kernel
theorem dX11_hasSquare_2 : decode cX11_hasSquare 2 = .ok (.iload_n 1, 1) := by decide +kernel
theorem dX11_hasSquare_3 : decode cX11_hasSquare 3 = .ok (.aload_n 0, 1) := by decide +kernel
theorem dX11_hasSquare_4 : decode cX11_hasSquare 4 = .ok (.getfield 329, 3) := by decide +kernel
theorem dX11_hasSquare_7 : decode cX11_hasSquare 7 = .ok (.if_icmp .ge 22, 3) := by decide +kernel
theorem dX11_hasSquare_10 : decode cX11_hasSquare 10 = .ok (.aload_n 0, 1) := by decide +kernel
theorem dX11_hasSquare_11 : decode cX11_hasSquare 11 = .ok (.getfield 118, 3) := by decide +kernel
theorem dX11_hasSquare_14 : decode cX11_hasSquare 14 = .ok (.iload_n 1, 1) := by decide +kernel
theorem dX11_hasSquare_15 : decode cX11_hasSquare 15 = .ok (.iaload, 1) := by decide +kernel
theorem dX11_hasSquare_16 : decode cX11_hasSquare 16 = .ok (.bipush 25, 2) := by decide +kernel
theorem dX11_hasSquare_18 : decode cX11_hasSquare 18 = .ok (.if_icmp .ne 5, 3) := by decide +kernel
theorem dX11_hasSquare_21 : decode cX11_hasSquare 21 = .ok (.iconst 1, 1) := by decide +kernel
theorem dX11_hasSquare_22 : decode cX11_hasSquare 22 = .ok (.ireturn, 1) := by decide +kernel
theorem dX11_hasSquare_23 : decode cX11_hasSquare 23 = .ok (.iinc 1 1, 3) := by decide +kernel
theorem dX11_hasSquare_26 : decode cX11_hasSquare 26 = .ok (.goto (-24), 3) := by decide +kernel
theorem dX11_hasSquare_29 : decode cX11_hasSquare 29 = .ok (.iconst 0, 1) := by decide +kernel
theorem dX11_hasSquare_30 : decode cX11_hasSquare 30 = .ok (.ireturn, 1) := by decide +kernel
theorem dX11_dropsNots_0 : decode cX11_dropsNots 0 = .ok (.aload_n 0, 1) := by decide +kernel
theorem dX11_dropsNots_1 : decode cX11_dropsNots 1 = .ok (.getfield 260, 3) := by decide +kernel
theorem dX11_dropsNots_4 : decode cX11_dropsNots 4 = .ok (.ifCond .ne 29, 3) := by decide +kernel
theorem dX11_dropsNots_7 : decode cX11_dropsNots 7 = .ok (.aload_n 0, 1) := by decide +kernel
theorem dX11_dropsNots_8 : decode cX11_dropsNots 8 = .ok (.bipush 16, 2) := by decide +kernel
theorem dX11_dropsNots_10 : decode cX11_dropsNots 10 = .ok (.invokevirtual 365, 3) := by decide +kernel
theorem dX11_dropsNots_13 : decode cX11_dropsNots 13 = .ok (.ifCond .eq 20, 3) := by decide +kernel
theorem dX11_dropsNots_16 : decode cX11_dropsNots 16 = .ok (.aload_n 0, 1) := by decide +kernel
theorem dX11_dropsNots_17 : decode cX11_dropsNots 17 = .ok (.dup, 1) := by decide +kernel
theorem dX11_dropsNots_18 : decode cX11_dropsNots 18 = .ok (.getfield 326, 3) := by decide +kernel
theorem dX11_dropsNots_21 : decode cX11_dropsNots 21 = .ok (.iconst 1, 1) := by decide +kernel
theorem dX11_dropsNots_22 : decode cX11_dropsNots 22 = .ok (.isub, 1) := by decide +kernel
theorem dX11_dropsNots_23 : decode cX11_dropsNots 23 = .ok (.putfield 326, 3) := by decide +kernel
theorem dX11_dropsNots_26 : decode cX11_dropsNots 26 = .ok (.aload_n 0, 1) := by decide +kernel
theorem dX11_dropsNots_27 : decode cX11_dropsNots 27 = .ok (.invokevirtual 342, 3) := by decide +kernel
theorem dX11_dropsNots_30 : decode cX11_dropsNots 30 = .ok (.goto (-30), 3) := by decide +kernel
theorem dX11_dropsNots_33 : decode cX11_dropsNots 33 = .ok (.return_, 1) := by decide +kernel
theorem dX11_test_0 : decode cX11_test 0 = .ok (.iconst 1, 1) := by decide +kernel
theorem dX11_test_1 : decode cX11_test 1 = .ok (.istore_n 1, 1) := by decide +kernel
theorem dX11_test_2 : decode cX11_test 2 = .ok (.iload_n 1, 1) := by decide +kernel
theorem dX11_test_3 : decode cX11_test 3 = .ok (.ifCond .eq 107, 3) := by decide +kernel
theorem dX11_test_6 : decode cX11_test 6 = .ok (.aload_n 0, 1) := by decide +kernel
theorem dX11_test_7 : decode cX11_test 7 = .ok (.getfield 260, 3) := by decide +kernel
theorem dX11_test_10 : decode cX11_test 10 = .ok (.ifCond .ne 100, 3) := by decide +kernel
theorem dX11_test_13 : decode cX11_test 13 = .ok (.aload_n 0, 1) := by decide +kernel
theorem dX11_test_14 : decode cX11_test 14 = .ok (.invokevirtual 272, 3) := by decide +kernel
theorem dX11_test_17 : decode cX11_test 17 = .ok (.istore_n 2, 1) := by decide +kernel
theorem dX11_test_18 : decode cX11_test 18 = .ok (.iload_n 2, 1) := by decide +kernel
theorem dX11_test_19 : decode cX11_test 19 = .ok (.bipush 91, 2) := by decide +kernel
theorem dX11_test_21 : decode cX11_test 21 = .ok (.if_icmp .ne 26, 3) := by decide +kernel
theorem dX11_test_24 : decode cX11_test 24 = .ok (.aload_n 0, 1) := by decide +kernel
theorem dX11_test_25 : decode cX11_test 25 = .ok (.bipush 25, 2) := by decide +kernel
theorem dX11_test_27 : decode cX11_test 27 = .ok (.aload_n 0, 1) := by decide +kernel
theorem dX11_test_28 : decode cX11_test 28 = .ok (.getfield 266, 3) := by decide +kernel
theorem dX11_test_31 : decode cX11_test 31 = .ok (.invokevirtual 345, 3) := by decide +kernel
theorem dX11_test_34 : decode cX11_test 34 = .ok (.aload_n 0, 1) := by decide +kernel
theorem dX11_test_35 : decode cX11_test 35 = .ok (.dup, 1) := by decide +kernel
theorem dX11_test_36 : decode cX11_test 36 = .ok (.getfield 266, 3) := by decide +kernel
theorem dX11_test_39 : decode cX11_test 39 = .ok (.iconst 1, 1) := by decide +kernel
theorem dX11_test_40 : decode cX11_test 40 = .ok (.iadd, 1) := by decide +kernel
theorem dX11_test_41 : decode cX11_test 41 = .ok (.putfield 266, 3) := by decide +kernel
theorem dX11_test_44 : decode cX11_test 44 = .ok (.goto (-42), 3) := by decide +kernel
theorem dX11_test_47 : decode cX11_test 47 = .ok (.aload_n 0, 1) := by decide +kernel
theorem dX11_test_48 : decode cX11_test 48 = .ok (.aload_n 0, 1) := by decide +kernel
theorem dX11_test_49 : decode cX11_test 49 = .ok (.getfield 48, 3) := by decide +kernel
theorem dX11_test_52 : decode cX11_test 52 = .ok (.invokevirtual 283, 3) := by decide +kernel
theorem dX11_test_55 : decode cX11_test 55 = .ok (.ifCond .eq 24, 3) := by decide +kernel
theorem dX11_test_58 : decode cX11_test 58 = .ok (.aload_n 0, 1) := by decide +kernel
theorem dX11_test_59 : decode cX11_test 59 = .ok (.bipush 16, 2) := by decide +kernel
theorem dX11_test_61 : decode cX11_test 61 = .ok (.aload_n 0, 1) := by decide +kernel
theorem dX11_test_62 : decode cX11_test 62 = .ok (.getfield 266, 3) := by decide +kernel
theorem dX11_test_65 : decode cX11_test 65 = .ok (.invokevirtual 345, 3) := by decide +kernel
theorem dX11_test_68 : decode cX11_test 68 = .ok (.aload_n 0, 1) := by decide +kernel
theorem dX11_test_69 : decode cX11_test 69 = .ok (.aload_n 0, 1) := by decide +kernel
theorem dX11_test_70 : decode cX11_test 70 = .ok (.getfield 48, 3) := by decide +kernel
theorem dX11_test_73 : decode cX11_test 73 = .ok (.invokevirtual 348, 3) := by decide +kernel
theorem dX11_test_76 : decode cX11_test 76 = .ok (.goto (-74), 3) := by decide +kernel
theorem dX11_test_79 : decode cX11_test 79 = .ok (.aload_n 0, 1) := by decide +kernel
theorem dX11_test_80 : decode cX11_test 80 = .ok (.invokevirtual 380, 3) := by decide +kernel
theorem dX11_test_83 : decode cX11_test 83 = .ok (.aload_n 0, 1) := by decide +kernel
theorem dX11_test_84 : decode cX11_test 84 = .ok (.invokevirtual 383, 3) := by decide +kernel
theorem dX11_test_87 : decode cX11_test 87 = .ok (.aload_n 0, 1) := by decide +kernel
theorem dX11_test_88 : decode cX11_test 88 = .ok (.getfield 260, 3) := by decide +kernel
theorem dX11_test_91 : decode cX11_test 91 = .ok (.ifCond .ne 14, 3) := by decide +kernel
theorem dX11_test_94 : decode cX11_test 94 = .ok (.aload_n 0, 1) := by decide +kernel
theorem dX11_test_95 : decode cX11_test 95 = .ok (.invokevirtual 386, 3) := by decide +kernel
theorem dX11_test_98 : decode cX11_test 98 = .ok (.ifCond .eq 7, 3) := by decide +kernel
theorem dX11_test_101 : decode cX11_test 101 = .ok (.iconst 1, 1) := by decide +kernel
theorem dX11_test_102 : decode cX11_test 102 = .ok (.goto 4, 3) := by decide +kernel
theorem dX11_test_105 : decode cX11_test 105 = .ok (.iconst 0, 1) := by decide +kernel
theorem dX11_test_106 : decode cX11_test 106 = .ok (.istore_n 1, 1) := by decide +kernel
theorem dX11_test_107 : decode cX11_test 107 = .ok (.goto (-105), 3) := by decide +kernel
theorem dX11_test_110 : decode cX11_test 110 = .ok (.aload_n 0, 1) := by decide +kernel
theorem dX11_test_111 : decode cX11_test 111 = .ok (.getfield 260, 3) := by decide +kernel
theorem dX11_test_114 : decode cX11_test 114 = .ok (.ifCond .ne 17, 3) := by decide +kernel
theorem dX11_test_117 : decode cX11_test 117 = .ok (.aload_n 0, 1) := by decide +kernel
theorem dX11_test_118 : decode cX11_test 118 = .ok (.getfield 329, 3) := by decide +kernel
theorem dX11_test_121 : decode cX11_test 121 = .ok (.ifCond .le 10, 3) := by decide +kernel
theorem dX11_test_124 : decode cX11_test 124 = .ok (.aload_n 0, 1) := by decide +kernel
theorem dX11_test_125 : decode cX11_test 125 = .ok (.invokevirtual 342, 3) := by decide +kernel
theorem dX11_test_128 : decode cX11_test 128 = .ok (.goto (-18), 3) := by decide +kernel
theorem dX11_test_131 : decode cX11_test 131 = .ok (.return_, 1) := by decide +kernel
theorem dX11_goesOnTest_0 : decode cX11_goesOnTest 0 = .ok (.aload_n 0, 1) := by decide +kernel
theorem dX11_goesOnTest_1 : decode cX11_goesOnTest 1 = .ok (.getfield 260, 3) := by decide +kernel
theorem dX11_goesOnTest_4 : decode cX11_goesOnTest 4 = .ok (.ifCond .ne 72, 3) := by decide +kernel
theorem dX11_goesOnTest_7 : decode cX11_goesOnTest 7 = .ok (.aload_n 0, 1) := by decide +kernel
theorem dX11_goesOnTest_8 : decode cX11_goesOnTest 8 = .ok (.invokevirtual 272, 3) := by decide +kernel
theorem dX11_goesOnTest_11 : decode cX11_goesOnTest 11 = .ok (.bipush 93, 2) := by decide +kernel
theorem dX11_goesOnTest_13 : decode cX11_goesOnTest 13 = .ok (.if_icmp .ne 63, 3) := by decide +kernel
theorem dX11_goesOnTest_16 : decode cX11_goesOnTest 16 = .ok (.aload_n 0, 1) := by decide +kernel
theorem dX11_goesOnTest_17 : decode cX11_goesOnTest 17 = .ok (.invokevirtual 389, 3) := by decide +kernel
theorem dX11_goesOnTest_20 : decode cX11_goesOnTest 20 = .ok (.ifCond .eq 56, 3) := by decide +kernel
theorem dX11_goesOnTest_23 : decode cX11_goesOnTest 23 = .ok (.aload_n 0, 1) := by decide +kernel
theorem dX11_goesOnTest_24 : decode cX11_goesOnTest 24 = .ok (.dup, 1) := by decide +kernel
theorem dX11_goesOnTest_25 : decode cX11_goesOnTest 25 = .ok (.getfield 266, 3) := by decide +kernel
theorem dX11_goesOnTest_28 : decode cX11_goesOnTest 28 = .ok (.iconst 1, 1) := by decide +kernel
theorem dX11_goesOnTest_29 : decode cX11_goesOnTest 29 = .ok (.iadd, 1) := by decide +kernel
theorem dX11_goesOnTest_30 : decode cX11_goesOnTest 30 = .ok (.putfield 266, 3) := by decide +kernel
theorem dX11_goesOnTest_33 : decode cX11_goesOnTest 33 = .ok (.aload_n 0, 1) := by decide +kernel
theorem dX11_goesOnTest_34 : decode cX11_goesOnTest 34 = .ok (.bipush 25, 2) := by decide +kernel
theorem dX11_goesOnTest_36 : decode cX11_goesOnTest 36 = .ok (.invokevirtual 365, 3) := by decide +kernel
theorem dX11_goesOnTest_39 : decode cX11_goesOnTest 39 = .ok (.ifCond .ne 10, 3) := by decide +kernel
theorem dX11_goesOnTest_42 : decode cX11_goesOnTest 42 = .ok (.aload_n 0, 1) := by decide +kernel
theorem dX11_goesOnTest_43 : decode cX11_goesOnTest 43 = .ok (.invokevirtual 342, 3) := by decide +kernel
theorem dX11_goesOnTest_46 : decode cX11_goesOnTest 46 = .ok (.goto (-13), 3) := by decide +kernel
theorem dX11_goesOnTest_49 : decode cX11_goesOnTest 49 = .ok (.aload_n 0, 1) := by decide +kernel
theorem dX11_goesOnTest_50 : decode cX11_goesOnTest 50 = .ok (.dup, 1) := by decide +kernel
theorem dX11_goesOnTest_51 : decode cX11_goesOnTest 51 = .ok (.getfield 329, 3) := by decide +kernel
theorem dX11_goesOnTest_54 : decode cX11_goesOnTest 54 = .ok (.iconst 1, 1) := by decide +kernel
theorem dX11_goesOnTest_55 : decode cX11_goesOnTest 55 = .ok (.isub, 1) := by decide +kernel
theorem dX11_goesOnTest_56 : decode cX11_goesOnTest 56 = .ok (.putfield 329, 3) := by decide +kernel
theorem dX11_goesOnTest_59 : decode cX11_goesOnTest 59 = .ok (.aload_n 0, 1) := by decide +kernel
theorem dX11_goesOnTest_60 : decode cX11_goesOnTest 60 = .ok (.dup, 1) := by decide +kernel
theorem dX11_goesOnTest_61 : decode cX11_goesOnTest 61 = .ok (.getfield 326, 3) := by decide +kernel
theorem dX11_goesOnTest_64 : decode cX11_goesOnTest 64 = .ok (.iconst 1, 1) := by decide +kernel
theorem dX11_goesOnTest_65 : decode cX11_goesOnTest 65 = .ok (.isub, 1) := by decide +kernel
theorem dX11_goesOnTest_66 : decode cX11_goesOnTest 66 = .ok (.putfield 326, 3) := by decide +kernel
theorem dX11_goesOnTest_69 : decode cX11_goesOnTest 69 = .ok (.aload_n 0, 1) := by decide +kernel
theorem dX11_goesOnTest_70 : decode cX11_goesOnTest 70 = .ok (.invokevirtual 383, 3) := by decide +kernel
theorem dX11_goesOnTest_73 : decode cX11_goesOnTest 73 = .ok (.goto (-73), 3) := by decide +kernel
theorem dX11_goesOnTest_76 : decode cX11_goesOnTest 76 = .ok (.aload_n 0, 1) := by decide +kernel
theorem dX11_goesOnTest_77 : decode cX11_goesOnTest 77 = .ok (.aload_n 0, 1) := by decide +kernel
theorem dX11_goesOnTest_78 : decode cX11_goesOnTest 78 = .ok (.getfield 45, 3) := by decide +kernel
theorem dX11_goesOnTest_81 : decode cX11_goesOnTest 81 = .ok (.invokevirtual 287, 3) := by decide +kernel
theorem dX11_goesOnTest_84 : decode cX11_goesOnTest 84 = .ok (.ifCond .eq 42, 3) := by decide +kernel
theorem dX11_goesOnTest_87 : decode cX11_goesOnTest 87 = .ok (.aload_n 0, 1) := by decide +kernel
theorem dX11_goesOnTest_88 : decode cX11_goesOnTest 88 = .ok (.bipush 14, 2) := by decide +kernel
theorem dX11_goesOnTest_90 : decode cX11_goesOnTest 90 = .ok (.invokevirtual 365, 3) := by decide +kernel
theorem dX11_goesOnTest_93 : decode cX11_goesOnTest 93 = .ok (.ifCond .eq 10, 3) := by decide +kernel
theorem dX11_goesOnTest_96 : decode cX11_goesOnTest 96 = .ok (.aload_n 0, 1) := by decide +kernel
theorem dX11_goesOnTest_97 : decode cX11_goesOnTest 97 = .ok (.invokevirtual 342, 3) := by decide +kernel
theorem dX11_goesOnTest_100 : decode cX11_goesOnTest 100 = .ok (.goto (-13), 3) := by decide +kernel
theorem dX11_goesOnTest_103 : decode cX11_goesOnTest 103 = .ok (.aload_n 0, 1) := by decide +kernel
theorem dX11_goesOnTest_104 : decode cX11_goesOnTest 104 = .ok (.getfield 118, 3) := by decide +kernel
theorem dX11_goesOnTest_107 : decode cX11_goesOnTest 107 = .ok (.aload_n 0, 1) := by decide +kernel
theorem dX11_goesOnTest_108 : decode cX11_goesOnTest 108 = .ok (.getfield 329, 3) := by decide +kernel
theorem dX11_goesOnTest_111 : decode cX11_goesOnTest 111 = .ok (.bipush 14, 2) := by decide +kernel
theorem dX11_goesOnTest_113 : decode cX11_goesOnTest 113 = .ok (.iastore, 1) := by decide +kernel
theorem dX11_goesOnTest_114 : decode cX11_goesOnTest 114 = .ok (.aload_n 0, 1) := by decide +kernel
theorem dX11_goesOnTest_115 : decode cX11_goesOnTest 115 = .ok (.dup, 1) := by decide +kernel
theorem dX11_goesOnTest_116 : decode cX11_goesOnTest 116 = .ok (.getfield 329, 3) := by decide +kernel
theorem dX11_goesOnTest_119 : decode cX11_goesOnTest 119 = .ok (.iconst 1, 1) := by decide +kernel
theorem dX11_goesOnTest_120 : decode cX11_goesOnTest 120 = .ok (.iadd, 1) := by decide +kernel
theorem dX11_goesOnTest_121 : decode cX11_goesOnTest 121 = .ok (.putfield 329, 3) := by decide +kernel
theorem dX11_goesOnTest_124 : decode cX11_goesOnTest 124 = .ok (.iconst 1, 1) := by decide +kernel
theorem dX11_goesOnTest_125 : decode cX11_goesOnTest 125 = .ok (.ireturn, 1) := by decide +kernel
theorem dX11_goesOnTest_126 : decode cX11_goesOnTest 126 = .ok (.aload_n 0, 1) := by decide +kernel
theorem dX11_goesOnTest_127 : decode cX11_goesOnTest 127 = .ok (.aload_n 0, 1) := by decide +kernel
theorem dX11_goesOnTest_128 : decode cX11_goesOnTest 128 = .ok (.getfield 42, 3) := by decide +kernel
theorem dX11_goesOnTest_131 : decode cX11_goesOnTest 131 = .ok (.invokevirtual 287, 3) := by decide +kernel
theorem dX11_goesOnTest_134 : decode cX11_goesOnTest 134 = .ok (.ifCond .eq 51, 3) := by decide +kernel
theorem dX11_goesOnTest_137 : decode cX11_goesOnTest 137 = .ok (.aload_n 0, 1) := by decide +kernel
theorem dX11_goesOnTest_138 : decode cX11_goesOnTest 138 = .ok (.bipush 14, 2) := by decide +kernel
theorem dX11_goesOnTest_140 : decode cX11_goesOnTest 140 = .ok (.invokevirtual 365, 3) := by decide +kernel
theorem dX11_goesOnTest_143 : decode cX11_goesOnTest 143 = .ok (.ifCond .ne 12, 3) := by decide +kernel
theorem dX11_goesOnTest_146 : decode cX11_goesOnTest 146 = .ok (.aload_n 0, 1) := by decide +kernel
theorem dX11_goesOnTest_147 : decode cX11_goesOnTest 147 = .ok (.bipush 15, 2) := by decide +kernel
theorem dX11_goesOnTest_149 : decode cX11_goesOnTest 149 = .ok (.invokevirtual 365, 3) := by decide +kernel
theorem dX11_goesOnTest_152 : decode cX11_goesOnTest 152 = .ok (.ifCond .eq 10, 3) := by decide +kernel
theorem dX11_goesOnTest_155 : decode cX11_goesOnTest 155 = .ok (.aload_n 0, 1) := by decide +kernel
theorem dX11_goesOnTest_156 : decode cX11_goesOnTest 156 = .ok (.invokevirtual 342, 3) := by decide +kernel
theorem dX11_goesOnTest_159 : decode cX11_goesOnTest 159 = .ok (.goto (-22), 3) := by decide +kernel
theorem dX11_goesOnTest_162 : decode cX11_goesOnTest 162 = .ok (.aload_n 0, 1) := by decide +kernel
theorem dX11_goesOnTest_163 : decode cX11_goesOnTest 163 = .ok (.getfield 118, 3) := by decide +kernel
theorem dX11_goesOnTest_166 : decode cX11_goesOnTest 166 = .ok (.aload_n 0, 1) := by decide +kernel
theorem dX11_goesOnTest_167 : decode cX11_goesOnTest 167 = .ok (.getfield 329, 3) := by decide +kernel
theorem dX11_goesOnTest_170 : decode cX11_goesOnTest 170 = .ok (.bipush 15, 2) := by decide +kernel
theorem dX11_goesOnTest_172 : decode cX11_goesOnTest 172 = .ok (.iastore, 1) := by decide +kernel
theorem dX11_goesOnTest_173 : decode cX11_goesOnTest 173 = .ok (.aload_n 0, 1) := by decide +kernel
theorem dX11_goesOnTest_174 : decode cX11_goesOnTest 174 = .ok (.dup, 1) := by decide +kernel
theorem dX11_goesOnTest_175 : decode cX11_goesOnTest 175 = .ok (.getfield 329, 3) := by decide +kernel
theorem dX11_goesOnTest_178 : decode cX11_goesOnTest 178 = .ok (.iconst 1, 1) := by decide +kernel
theorem dX11_goesOnTest_179 : decode cX11_goesOnTest 179 = .ok (.iadd, 1) := by decide +kernel
theorem dX11_goesOnTest_180 : decode cX11_goesOnTest 180 = .ok (.putfield 329, 3) := by decide +kernel
theorem dX11_goesOnTest_183 : decode cX11_goesOnTest 183 = .ok (.iconst 1, 1) := by decide +kernel
theorem dX11_goesOnTest_184 : decode cX11_goesOnTest 184 = .ok (.ireturn, 1) := by decide +kernel
theorem dX11_goesOnTest_185 : decode cX11_goesOnTest 185 = .ok (.aload_n 0, 1) := by decide +kernel
theorem dX11_goesOnTest_186 : decode cX11_goesOnTest 186 = .ok (.getfield 260, 3) := by decide +kernel
theorem dX11_goesOnTest_189 : decode cX11_goesOnTest 189 = .ok (.ifCond .ne 19, 3) := by decide +kernel
theorem dX11_goesOnTest_192 : decode cX11_goesOnTest 192 = .ok (.aload_n 0, 1) := by decide +kernel
theorem dX11_goesOnTest_193 : decode cX11_goesOnTest 193 = .ok (.invokevirtual 389, 3) := by decide +kernel
theorem dX11_goesOnTest_196 : decode cX11_goesOnTest 196 = .ok (.ifCond .eq 12, 3) := by decide +kernel
theorem dX11_goesOnTest_199 : decode cX11_goesOnTest 199 = .ok (.aload_n 0, 1) := by decide +kernel
theorem dX11_goesOnTest_200 : decode cX11_goesOnTest 200 = .ok (.iconst 1, 1) := by decide +kernel
theorem dX11_goesOnTest_201 : decode cX11_goesOnTest 201 = .ok (.aload_n 0, 1) := by decide +kernel
theorem dX11_goesOnTest_202 : decode cX11_goesOnTest 202 = .ok (.getfield 266, 3) := by decide +kernel
theorem dX11_goesOnTest_205 : decode cX11_goesOnTest 205 = .ok (.invokevirtual 290, 3) := by decide +kernel
theorem dX11_goesOnTest_208 : decode cX11_goesOnTest 208 = .ok (.iconst 0, 1) := by decide +kernel
theorem dX11_goesOnTest_209 : decode cX11_goesOnTest 209 = .ok (.ireturn, 1) := by decide +kernel
theorem dX11_kindStatement_0 : decode cX11_kindStatement 0 = .ok (.aload_n 0, 1) := by decide +kernel
theorem dX11_kindStatement_1 : decode cX11_kindStatement 1 = .ok (.getfield 81, 3) := by decide +kernel
theorem dX11_kindStatement_4 : decode cX11_kindStatement 4 = .ok (.iconst 0, 1) := by decide +kernel
theorem dX11_kindStatement_5 : decode cX11_kindStatement 5 = .ok (.iaload, 1) := by decide +kernel
theorem dX11_kindStatement_6 : decode cX11_kindStatement 6 = .ok (.istore_n 1, 1) := by decide +kernel
theorem dX11_kindStatement_7 : decode cX11_kindStatement 7 = .ok (.aload_n 0, 1) := by decide +kernel
theorem dX11_kindStatement_8 : decode cX11_kindStatement 8 = .ok (.invokevirtual 315, 3) := by decide +kernel
theorem dX11_kindStatement_11 : decode cX11_kindStatement 11 = .ok (.lstore_n 2, 1) := by decide +kernel
theorem dX11_kindStatement_12 : decode cX11_kindStatement 12 = .ok (.aload_n 0, 1) := by decide +kernel
theorem dX11_kindStatement_13 : decode cX11_kindStatement 13 = .ok (.getfield 260, 3) := by decide +kernel
theorem dX11_kindStatement_16 : decode cX11_kindStatement 16 = .ok (.ifCond .ne 21, 3) := by decide +kernel
theorem dX11_kindStatement_19 : decode cX11_kindStatement 19 = .ok (.aload_n 0, 1) := by decide +kernel
theorem dX11_kindStatement_20 : decode cX11_kindStatement 20 = .ok (.lload_n 2, 1) := by decide +kernel
theorem dX11_kindStatement_21 : decode cX11_kindStatement 21 = .ok (.invokevirtual 319, 3) := by decide +kernel
theorem dX11_kindStatement_24 : decode cX11_kindStatement 24 = .ok (.iconst (-1), 1) := by decide +kernel
theorem dX11_kindStatement_25 : decode cX11_kindStatement 25 = .ok (.if_icmp .eq 12, 3) := by decide +kernel
theorem dX11_kindStatement_28 : decode cX11_kindStatement 28 = .ok (.aload_n 0, 1) := by decide +kernel
theorem dX11_kindStatement_29 : decode cX11_kindStatement 29 = .ok (.iconst 3, 1) := by decide +kernel
theorem dX11_kindStatement_30 : decode cX11_kindStatement 30 = .ok (.aload_n 0, 1) := by decide +kernel
theorem dX11_kindStatement_31 : decode cX11_kindStatement 31 = .ok (.getfield 308, 3) := by decide +kernel
theorem dX11_kindStatement_34 : decode cX11_kindStatement 34 = .ok (.invokevirtual 290, 3) := by decide +kernel
theorem dX11_kindStatement_37 : decode cX11_kindStatement 37 = .ok (.aload_n 0, 1) := by decide +kernel
theorem dX11_kindStatement_38 : decode cX11_kindStatement 38 = .ok (.aload_n 0, 1) := by decide +kernel
theorem dX11_kindStatement_39 : decode cX11_kindStatement 39 = .ok (.getfield 21, 3) := by decide +kernel
theorem dX11_kindStatement_42 : decode cX11_kindStatement 42 = .ok (.invokevirtual 348, 3) := by decide +kernel
theorem dX11_kindStatement_45 : decode cX11_kindStatement 45 = .ok (.aload_n 0, 1) := by decide +kernel
theorem dX11_kindStatement_46 : decode cX11_kindStatement 46 = .ok (.getfield 88, 3) := by decide +kernel
theorem dX11_kindStatement_49 : decode cX11_kindStatement 49 = .ok (.iload_n 1, 1) := by decide +kernel
theorem dX11_kindStatement_50 : decode cX11_kindStatement 50 = .ok (.aload_n 0, 1) := by decide +kernel
theorem dX11_kindStatement_51 : decode cX11_kindStatement 51 = .ok (.iconst 1, 1) := by decide +kernel
theorem dX11_kindStatement_52 : decode cX11_kindStatement 52 = .ok (.sipush 999, 3) := by decide +kernel
theorem dX11_kindStatement_55 : decode cX11_kindStatement 55 = .ok (.invokevirtual 355, 3) := by decide +kernel
theorem dX11_kindStatement_58 : decode cX11_kindStatement 58 = .ok (.iastore, 1) := by decide +kernel
theorem dX11_kindStatement_59 : decode cX11_kindStatement 59 = .ok (.aload_n 0, 1) := by decide +kernel
theorem dX11_kindStatement_60 : decode cX11_kindStatement 60 = .ok (.aload_n 0, 1) := by decide +kernel
theorem dX11_kindStatement_61 : decode cX11_kindStatement 61 = .ok (.getfield 24, 3) := by decide +kernel
theorem dX11_kindStatement_64 : decode cX11_kindStatement 64 = .ok (.invokevirtual 348, 3) := by decide +kernel
theorem dX11_kindStatement_67 : decode cX11_kindStatement 67 = .ok (.aload_n 0, 1) := by decide +kernel
theorem dX11_kindStatement_68 : decode cX11_kindStatement 68 = .ok (.getfield 91, 3) := by decide +kernel
theorem dX11_kindStatement_71 : decode cX11_kindStatement 71 = .ok (.iload_n 1, 1) := by decide +kernel
theorem dX11_kindStatement_72 : decode cX11_kindStatement 72 = .ok (.aload_n 0, 1) := by decide +kernel
theorem dX11_kindStatement_73 : decode cX11_kindStatement 73 = .ok (.iconst 1, 1) := by decide +kernel
theorem dX11_kindStatement_74 : decode cX11_kindStatement 74 = .ok (.sipush 9999, 3) := by decide +kernel
theorem dX11_kindStatement_77 : decode cX11_kindStatement 77 = .ok (.invokevirtual 355, 3) := by decide +kernel
theorem dX11_kindStatement_80 : decode cX11_kindStatement 80 = .ok (.iastore, 1) := by decide +kernel
theorem dX11_kindStatement_81 : decode cX11_kindStatement 81 = .ok (.aload_n 0, 1) := by decide +kernel
theorem dX11_kindStatement_82 : decode cX11_kindStatement 82 = .ok (.aload_n 0, 1) := by decide +kernel
theorem dX11_kindStatement_83 : decode cX11_kindStatement 83 = .ok (.getfield 27, 3) := by decide +kernel
theorem dX11_kindStatement_86 : decode cX11_kindStatement 86 = .ok (.invokevirtual 348, 3) := by decide +kernel
theorem dX11_kindStatement_89 : decode cX11_kindStatement 89 = .ok (.aload_n 0, 1) := by decide +kernel
theorem dX11_kindStatement_90 : decode cX11_kindStatement 90 = .ok (.getfield 94, 3) := by decide +kernel
theorem dX11_kindStatement_93 : decode cX11_kindStatement 93 = .ok (.iload_n 1, 1) := by decide +kernel
theorem dX11_kindStatement_94 : decode cX11_kindStatement 94 = .ok (.aload_n 0, 1) := by decide +kernel
theorem dX11_kindStatement_95 : decode cX11_kindStatement 95 = .ok (.iconst 0, 1) := by decide +kernel
theorem dX11_kindStatement_96 : decode cX11_kindStatement 96 = .ok (.sipush 1000, 3) := by decide +kernel
theorem dX11_kindStatement_99 : decode cX11_kindStatement 99 = .ok (.invokevirtual 355, 3) := by decide +kernel
theorem dX11_kindStatement_102 : decode cX11_kindStatement 102 = .ok (.iastore, 1) := by decide +kernel
theorem dX11_kindStatement_103 : decode cX11_kindStatement 103 = .ok (.aload_n 0, 1) := by decide +kernel
theorem dX11_kindStatement_104 : decode cX11_kindStatement 104 = .ok (.aload_n 0, 1) := by decide +kernel
theorem dX11_kindStatement_105 : decode cX11_kindStatement 105 = .ok (.getfield 30, 3) := by decide +kernel
theorem dX11_kindStatement_108 : decode cX11_kindStatement 108 = .ok (.invokevirtual 348, 3) := by decide +kernel
theorem dX11_kindStatement_111 : decode cX11_kindStatement 111 = .ok (.aload_n 0, 1) := by decide +kernel
theorem dX11_kindStatement_112 : decode cX11_kindStatement 112 = .ok (.getfield 97, 3) := by decide +kernel
theorem dX11_kindStatement_115 : decode cX11_kindStatement 115 = .ok (.iload_n 1, 1) := by decide +kernel
theorem dX11_kindStatement_116 : decode cX11_kindStatement 116 = .ok (.aload_n 0, 1) := by decide +kernel
theorem dX11_kindStatement_117 : decode cX11_kindStatement 117 = .ok (.iconst 1, 1) := by decide +kernel
theorem dX11_kindStatement_118 : decode cX11_kindStatement 118 = .ok (.sipush 9999, 3) := by decide +kernel
theorem dX11_kindStatement_121 : decode cX11_kindStatement 121 = .ok (.invokevirtual 355, 3) := by decide +kernel
theorem dX11_kindStatement_124 : decode cX11_kindStatement 124 = .ok (.iastore, 1) := by decide +kernel
theorem dX11_kindStatement_125 : decode cX11_kindStatement 125 = .ok (.aload_n 0, 1) := by decide +kernel
theorem dX11_kindStatement_126 : decode cX11_kindStatement 126 = .ok (.getfield 84, 3) := by decide +kernel
theorem dX11_kindStatement_129 : decode cX11_kindStatement 129 = .ok (.iload_n 1, 1) := by decide +kernel
theorem dX11_kindStatement_130 : decode cX11_kindStatement 130 = .ok (.lload_n 2, 1) := by decide +kernel
theorem dX11_kindStatement_131 : decode cX11_kindStatement 131 = .ok (.lastore, 1) := by decide +kernel
theorem dX11_kindStatement_132 : decode cX11_kindStatement 132 = .ok (.aload_n 0, 1) := by decide +kernel
theorem dX11_kindStatement_133 : decode cX11_kindStatement 133 = .ok (.getfield 81, 3) := by decide +kernel
theorem dX11_kindStatement_136 : decode cX11_kindStatement 136 = .ok (.iconst 0, 1) := by decide +kernel
theorem dX11_kindStatement_137 : decode cX11_kindStatement 137 = .ok (.dup2, 1) := by decide +kernel
theorem dX11_kindStatement_138 : decode cX11_kindStatement 138 = .ok (.iaload, 1) := by decide +kernel
theorem dX11_kindStatement_139 : decode cX11_kindStatement 139 = .ok (.iconst 1, 1) := by decide +kernel
theorem dX11_kindStatement_140 : decode cX11_kindStatement 140 = .ok (.iadd, 1) := by decide +kernel
theorem dX11_kindStatement_141 : decode cX11_kindStatement 141 = .ok (.iastore, 1) := by decide +kernel
theorem dX11_kindStatement_142 : decode cX11_kindStatement 142 = .ok (.return_, 1) := by decide +kernel
theorem dX11_statement_0 : decode cX11_statement 0 = .ok (.aload_n 0, 1) := by decide +kernel
theorem dX11_statement_1 : decode cX11_statement 1 = .ok (.invokevirtual 272, 3) := by decide +kernel
theorem dX11_statement_4 : decode cX11_statement 4 = .ok (.pop, 1) := by decide +kernel
theorem dX11_statement_5 : decode cX11_statement 5 = .ok (.aload_n 0, 1) := by decide +kernel
theorem dX11_statement_6 : decode cX11_statement 6 = .ok (.getfield 266, 3) := by decide +kernel
theorem dX11_statement_9 : decode cX11_statement 9 = .ok (.istore_n 1, 1) := by decide +kernel
theorem dX11_statement_10 : decode cX11_statement 10 = .ok (.aload_n 0, 1) := by decide +kernel
theorem dX11_statement_11 : decode cX11_statement 11 = .ok (.getfield 392, 3) := by decide +kernel
theorem dX11_statement_14 : decode cX11_statement 14 = .ok (.bipush 24, 2) := by decide +kernel
theorem dX11_statement_16 : decode cX11_statement 16 = .ok (.if_icmp .ne 10, 3) := by decide +kernel
theorem dX11_statement_19 : decode cX11_statement 19 = .ok (.aload_n 0, 1) := by decide +kernel
theorem dX11_statement_20 : decode cX11_statement 20 = .ok (.iconst 5, 1) := by decide +kernel
theorem dX11_statement_21 : decode cX11_statement 21 = .ok (.iload_n 1, 1) := by decide +kernel
theorem dX11_statement_22 : decode cX11_statement 22 = .ok (.invokevirtual 290, 3) := by decide +kernel
theorem dX11_statement_25 : decode cX11_statement 25 = .ok (.return_, 1) := by decide +kernel
theorem dX11_statement_26 : decode cX11_statement 26 = .ok (.aload_n 0, 1) := by decide +kernel
theorem dX11_statement_27 : decode cX11_statement 27 = .ok (.aload_n 0, 1) := by decide +kernel
theorem dX11_statement_28 : decode cX11_statement 28 = .ok (.getfield 17, 3) := by decide +kernel
theorem dX11_statement_31 : decode cX11_statement 31 = .ok (.invokevirtual 287, 3) := by decide +kernel
theorem dX11_statement_34 : decode cX11_statement 34 = .ok (.ifCond .eq 30, 3) := by decide +kernel
theorem dX11_statement_37 : decode cX11_statement 37 = .ok (.aload_n 0, 1) := by decide +kernel
theorem dX11_statement_38 : decode cX11_statement 38 = .ok (.getfield 81, 3) := by decide +kernel
theorem dX11_statement_41 : decode cX11_statement 41 = .ok (.iconst 0, 1) := by decide +kernel
theorem dX11_statement_42 : decode cX11_statement 42 = .ok (.iaload, 1) := by decide +kernel
theorem dX11_statement_43 : decode cX11_statement 43 = .ok (.bipush 8, 2) := by decide +kernel
theorem dX11_statement_45 : decode cX11_statement 45 = .ok (.if_icmp .ne 12, 3) := by decide +kernel
theorem dX11_statement_48 : decode cX11_statement 48 = .ok (.aload_n 0, 1) := by decide +kernel
theorem dX11_statement_49 : decode cX11_statement 49 = .ok (.iconst 5, 1) := by decide +kernel
theorem dX11_statement_50 : decode cX11_statement 50 = .ok (.iload_n 1, 1) := by decide +kernel
theorem dX11_statement_51 : decode cX11_statement 51 = .ok (.invokevirtual 290, 3) := by decide +kernel
theorem dX11_statement_54 : decode cX11_statement 54 = .ok (.goto 142, 3) := by decide +kernel
theorem dX11_statement_57 : decode cX11_statement 57 = .ok (.aload_n 0, 1) := by decide +kernel
theorem dX11_statement_58 : decode cX11_statement 58 = .ok (.invokevirtual 395, 3) := by decide +kernel
theorem dX11_statement_61 : decode cX11_statement 61 = .ok (.goto 135, 3) := by decide +kernel
theorem dX11_statement_64 : decode cX11_statement 64 = .ok (.aload_n 0, 1) := by decide +kernel
theorem dX11_statement_65 : decode cX11_statement 65 = .ok (.getfield 100, 3) := by decide +kernel
theorem dX11_statement_68 : decode cX11_statement 68 = .ok (.iconst 0, 1) := by decide +kernel
theorem dX11_statement_69 : decode cX11_statement 69 = .ok (.iaload, 1) := by decide +kernel
theorem dX11_statement_70 : decode cX11_statement 70 = .ok (.istore_n 2, 1) := by decide +kernel
theorem dX11_statement_71 : decode cX11_statement 71 = .ok (.aload_n 0, 1) := by decide +kernel
theorem dX11_statement_72 : decode cX11_statement 72 = .ok (.getfield 103, 3) := by decide +kernel
theorem dX11_statement_75 : decode cX11_statement 75 = .ok (.iload_n 2, 1) := by decide +kernel
theorem dX11_statement_76 : decode cX11_statement 76 = .ok (.aload_n 0, 1) := by decide +kernel
theorem dX11_statement_77 : decode cX11_statement 77 = .ok (.aload_n 0, 1) := by decide +kernel
theorem dX11_statement_78 : decode cX11_statement 78 = .ok (.getfield 33, 3) := by decide +kernel
theorem dX11_statement_81 : decode cX11_statement 81 = .ok (.invokevirtual 287, 3) := by decide +kernel
theorem dX11_statement_84 : decode cX11_statement 84 = .ok (.ifCond .eq 7, 3) := by decide +kernel
theorem dX11_statement_87 : decode cX11_statement 87 = .ok (.iconst 0, 1) := by decide +kernel
theorem dX11_statement_88 : decode cX11_statement 88 = .ok (.goto 4, 3) := by decide +kernel
theorem dX11_statement_91 : decode cX11_statement 91 = .ok (.iconst 1, 1) := by decide +kernel
theorem dX11_statement_92 : decode cX11_statement 92 = .ok (.iastore, 1) := by decide +kernel
theorem dX11_statement_93 : decode cX11_statement 93 = .ok (.aload_n 0, 1) := by decide +kernel
theorem dX11_statement_94 : decode cX11_statement 94 = .ok (.getfield 103, 3) := by decide +kernel
theorem dX11_statement_97 : decode cX11_statement 97 = .ok (.iload_n 2, 1) := by decide +kernel
theorem dX11_statement_98 : decode cX11_statement 98 = .ok (.iaload, 1) := by decide +kernel
theorem dX11_statement_99 : decode cX11_statement 99 = .ok (.iconst 1, 1) := by decide +kernel
theorem dX11_statement_100 : decode cX11_statement 100 = .ok (.if_icmp .ne 11, 3) := by decide +kernel
theorem dX11_statement_103 : decode cX11_statement 103 = .ok (.aload_n 0, 1) := by decide +kernel
theorem dX11_statement_104 : decode cX11_statement 104 = .ok (.aload_n 0, 1) := by decide +kernel
theorem dX11_statement_105 : decode cX11_statement 105 = .ok (.getfield 39, 3) := by decide +kernel
theorem dX11_statement_108 : decode cX11_statement 108 = .ok (.invokevirtual 348, 3) := by decide +kernel
theorem dX11_statement_111 : decode cX11_statement 111 = .ok (.aload_n 0, 1) := by decide +kernel
theorem dX11_statement_112 : decode cX11_statement 112 = .ok (.iconst 0, 1) := by decide +kernel
theorem dX11_statement_113 : decode cX11_statement 113 = .ok (.putfield 329, 3) := by decide +kernel
theorem dX11_statement_116 : decode cX11_statement 116 = .ok (.aload_n 0, 1) := by decide +kernel
theorem dX11_statement_117 : decode cX11_statement 117 = .ok (.iconst 0, 1) := by decide +kernel
theorem dX11_statement_118 : decode cX11_statement 118 = .ok (.putfield 326, 3) := by decide +kernel
theorem dX11_statement_121 : decode cX11_statement 121 = .ok (.aload_n 0, 1) := by decide +kernel
theorem dX11_statement_122 : decode cX11_statement 122 = .ok (.iconst 0, 1) := by decide +kernel
theorem dX11_statement_123 : decode cX11_statement 123 = .ok (.putfield 336, 3) := by decide +kernel
theorem dX11_statement_126 : decode cX11_statement 126 = .ok (.aload_n 0, 1) := by decide +kernel
theorem dX11_statement_127 : decode cX11_statement 127 = .ok (.getfield 106, 3) := by decide +kernel
theorem dX11_statement_130 : decode cX11_statement 130 = .ok (.iload_n 2, 1) := by decide +kernel
theorem dX11_statement_131 : decode cX11_statement 131 = .ok (.aload_n 0, 1) := by decide +kernel
theorem dX11_statement_132 : decode cX11_statement 132 = .ok (.getfield 323, 3) := by decide +kernel
theorem dX11_statement_135 : decode cX11_statement 135 = .ok (.iastore, 1) := by decide +kernel
theorem dX11_statement_136 : decode cX11_statement 136 = .ok (.aload_n 0, 1) := by decide +kernel
theorem dX11_statement_137 : decode cX11_statement 137 = .ok (.getfield 260, 3) := by decide +kernel
theorem dX11_statement_140 : decode cX11_statement 140 = .ok (.ifCond .ne 7, 3) := by decide +kernel
theorem dX11_statement_143 : decode cX11_statement 143 = .ok (.aload_n 0, 1) := by decide +kernel
theorem dX11_statement_144 : decode cX11_statement 144 = .ok (.invokevirtual 377, 3) := by decide +kernel
theorem dX11_statement_147 : decode cX11_statement 147 = .ok (.aload_n 0, 1) := by decide +kernel
theorem dX11_statement_148 : decode cX11_statement 148 = .ok (.getfield 109, 3) := by decide +kernel
theorem dX11_statement_151 : decode cX11_statement 151 = .ok (.iload_n 2, 1) := by decide +kernel
theorem dX11_statement_152 : decode cX11_statement 152 = .ok (.aload_n 0, 1) := by decide +kernel
theorem dX11_statement_153 : decode cX11_statement 153 = .ok (.getfield 323, 3) := by decide +kernel
theorem dX11_statement_156 : decode cX11_statement 156 = .ok (.iastore, 1) := by decide +kernel
theorem dX11_statement_157 : decode cX11_statement 157 = .ok (.aload_n 0, 1) := by decide +kernel
theorem dX11_statement_158 : decode cX11_statement 158 = .ok (.aload_n 0, 1) := by decide +kernel
theorem dX11_statement_159 : decode cX11_statement 159 = .ok (.getfield 36, 3) := by decide +kernel
theorem dX11_statement_162 : decode cX11_statement 162 = .ok (.invokevirtual 348, 3) := by decide +kernel
theorem dX11_statement_165 : decode cX11_statement 165 = .ok (.aload_n 0, 1) := by decide +kernel
theorem dX11_statement_166 : decode cX11_statement 166 = .ok (.getfield 260, 3) := by decide +kernel
theorem dX11_statement_169 : decode cX11_statement 169 = .ok (.ifCond .ne 7, 3) := by decide +kernel
theorem dX11_statement_172 : decode cX11_statement 172 = .ok (.aload_n 0, 1) := by decide +kernel
theorem dX11_statement_173 : decode cX11_statement 173 = .ok (.invokevirtual 398, 3) := by decide +kernel
theorem dX11_statement_176 : decode cX11_statement 176 = .ok (.aload_n 0, 1) := by decide +kernel
theorem dX11_statement_177 : decode cX11_statement 177 = .ok (.getfield 112, 3) := by decide +kernel
theorem dX11_statement_180 : decode cX11_statement 180 = .ok (.iload_n 2, 1) := by decide +kernel
theorem dX11_statement_181 : decode cX11_statement 181 = .ok (.aload_n 0, 1) := by decide +kernel
theorem dX11_statement_182 : decode cX11_statement 182 = .ok (.getfield 323, 3) := by decide +kernel
theorem dX11_statement_185 : decode cX11_statement 185 = .ok (.iastore, 1) := by decide +kernel
theorem dX11_statement_186 : decode cX11_statement 186 = .ok (.aload_n 0, 1) := by decide +kernel
theorem dX11_statement_187 : decode cX11_statement 187 = .ok (.getfield 100, 3) := by decide +kernel
theorem dX11_statement_190 : decode cX11_statement 190 = .ok (.iconst 0, 1) := by decide +kernel
theorem dX11_statement_191 : decode cX11_statement 191 = .ok (.dup2, 1) := by decide +kernel
theorem dX11_statement_192 : decode cX11_statement 192 = .ok (.iaload, 1) := by decide +kernel
theorem dX11_statement_193 : decode cX11_statement 193 = .ok (.iconst 1, 1) := by decide +kernel
theorem dX11_statement_194 : decode cX11_statement 194 = .ok (.iadd, 1) := by decide +kernel
theorem dX11_statement_195 : decode cX11_statement 195 = .ok (.iastore, 1) := by decide +kernel
theorem dX11_statement_196 : decode cX11_statement 196 = .ok (.aload_n 0, 1) := by decide +kernel
theorem dX11_statement_197 : decode cX11_statement 197 = .ok (.bipush 59, 2) := by decide +kernel
theorem dX11_statement_199 : decode cX11_statement 199 = .ok (.invokevirtual 352, 3) := by decide +kernel
theorem dX11_statement_202 : decode cX11_statement 202 = .ok (.aload_n 0, 1) := by decide +kernel
theorem dX11_statement_203 : decode cX11_statement 203 = .ok (.dup, 1) := by decide +kernel
theorem dX11_statement_204 : decode cX11_statement 204 = .ok (.getfield 392, 3) := by decide +kernel
theorem dX11_statement_207 : decode cX11_statement 207 = .ok (.iconst 1, 1) := by decide +kernel
theorem dX11_statement_208 : decode cX11_statement 208 = .ok (.iadd, 1) := by decide +kernel
theorem dX11_statement_209 : decode cX11_statement 209 = .ok (.putfield 392, 3) := by decide +kernel
theorem dX11_statement_212 : decode cX11_statement 212 = .ok (.return_, 1) := by decide +kernel
theorem dX11_text_0 : decode cX11_text 0 = .ok (.iload_n 1, 1) := by decide +kernel
theorem dX11_text_1 : decode cX11_text 1 = .ok (.i2l, 1) := by decide +kernel
theorem dX11_text_2 : decode cX11_text 2 = .ok (.lconst 1, 1) := by decide +kernel
theorem dX11_text_3 : decode cX11_text 3 = .ok (.ldc2_w 401, 3) := by decide +kernel
theorem dX11_text_6 : decode cX11_text 6 = .ok (.invokestatic 300, 3) := by decide +kernel
theorem dX11_text_9 : decode cX11_text 9 = .ok (.ifCond .eq 15, 3) := by decide +kernel
theorem dX11_text_12 : decode cX11_text 12 = .ok (.iload_n 2, 1) := by decide +kernel
theorem dX11_text_13 : decode cX11_text 13 = .ok (.i2l, 1) := by decide +kernel
theorem dX11_text_14 : decode cX11_text 14 = .ok (.lconst 1, 1) := by decide +kernel
theorem dX11_text_15 : decode cX11_text 15 = .ok (.ldc2_w 401, 3) := by decide +kernel
theorem dX11_text_18 : decode cX11_text 18 = .ok (.invokestatic 300, 3) := by decide +kernel
theorem dX11_text_21 : decode cX11_text 21 = .ok (.ifCond .ne 11, 3) := by decide +kernel
theorem dX11_text_24 : decode cX11_text 24 = .ok (.aload_n 0, 1) := by decide +kernel
theorem dX11_text_25 : decode cX11_text 25 = .ok (.iconst 0, 1) := by decide +kernel
theorem dX11_text_26 : decode cX11_text 26 = .ok (.putfield 257, 3) := by decide +kernel
theorem dX11_text_29 : decode cX11_text 29 = .ok (.bipush (-2), 2) := by decide +kernel
theorem dX11_text_31 : decode cX11_text 31 = .ok (.ireturn, 1) := by decide +kernel
theorem dX11_text_32 : decode cX11_text 32 = .ok (.aload_n 0, 1) := by decide +kernel
theorem dX11_text_33 : decode cX11_text 33 = .ok (.aload_n 0, 1) := by decide +kernel
theorem dX11_text_34 : decode cX11_text 34 = .ok (.getfield 257, 3) := by decide +kernel
theorem dX11_text_37 : decode cX11_text 37 = .ok (.putfield 269, 3) := by decide +kernel
theorem dX11_text_40 : decode cX11_text 40 = .ok (.aload_n 0, 1) := by decide +kernel
theorem dX11_text_41 : decode cX11_text 41 = .ok (.iconst 0, 1) := by decide +kernel
theorem dX11_text_42 : decode cX11_text 42 = .ok (.putfield 257, 3) := by decide +kernel
theorem dX11_text_45 : decode cX11_text 45 = .ok (.aload_n 0, 1) := by decide +kernel
theorem dX11_text_46 : decode cX11_text 46 = .ok (.iconst 0, 1) := by decide +kernel
theorem dX11_text_47 : decode cX11_text 47 = .ok (.putfield 266, 3) := by decide +kernel
theorem dX11_text_50 : decode cX11_text 50 = .ok (.aload_n 0, 1) := by decide +kernel
theorem dX11_text_51 : decode cX11_text 51 = .ok (.iconst (-1), 1) := by decide +kernel
theorem dX11_text_52 : decode cX11_text 52 = .ok (.putfield 280, 3) := by decide +kernel
theorem dX11_text_55 : decode cX11_text 55 = .ok (.aload_n 0, 1) := by decide +kernel
theorem dX11_text_56 : decode cX11_text 56 = .ok (.iconst 0, 1) := by decide +kernel
theorem dX11_text_57 : decode cX11_text 57 = .ok (.putfield 260, 3) := by decide +kernel
theorem dX11_text_60 : decode cX11_text 60 = .ok (.aload_n 0, 1) := by decide +kernel
theorem dX11_text_61 : decode cX11_text 61 = .ok (.iconst (-1), 1) := by decide +kernel
theorem dX11_text_62 : decode cX11_text 62 = .ok (.putfield 263, 3) := by decide +kernel
theorem dX11_text_65 : decode cX11_text 65 = .ok (.aload_n 0, 1) := by decide +kernel
theorem dX11_text_66 : decode cX11_text 66 = .ok (.getfield 81, 3) := by decide +kernel
theorem dX11_text_69 : decode cX11_text 69 = .ok (.iconst 0, 1) := by decide +kernel
theorem dX11_text_70 : decode cX11_text 70 = .ok (.iconst 0, 1) := by decide +kernel
theorem dX11_text_71 : decode cX11_text 71 = .ok (.iastore, 1) := by decide +kernel
theorem dX11_text_72 : decode cX11_text 72 = .ok (.aload_n 0, 1) := by decide +kernel
theorem dX11_text_73 : decode cX11_text 73 = .ok (.getfield 100, 3) := by decide +kernel
theorem dX11_text_76 : decode cX11_text 76 = .ok (.iconst 0, 1) := by decide +kernel
theorem dX11_text_77 : decode cX11_text 77 = .ok (.iconst 0, 1) := by decide +kernel
theorem dX11_text_78 : decode cX11_text 78 = .ok (.iastore, 1) := by decide +kernel
theorem dX11_text_79 : decode cX11_text 79 = .ok (.aload_n 0, 1) := by decide +kernel
theorem dX11_text_80 : decode cX11_text 80 = .ok (.iconst 0, 1) := by decide +kernel
theorem dX11_text_81 : decode cX11_text 81 = .ok (.putfield 323, 3) := by decide +kernel
theorem dX11_text_84 : decode cX11_text 84 = .ok (.aload_n 0, 1) := by decide +kernel
theorem dX11_text_85 : decode cX11_text 85 = .ok (.iconst 0, 1) := by decide +kernel
theorem dX11_text_86 : decode cX11_text 86 = .ok (.putfield 392, 3) := by decide +kernel
theorem dX11_text_89 : decode cX11_text 89 = .ok (.aload_n 0, 1) := by decide +kernel
theorem dX11_text_90 : decode cX11_text 90 = .ok (.getfield 260, 3) := by decide +kernel
theorem dX11_text_93 : decode cX11_text 93 = .ok (.ifCond .ne 18, 3) := by decide +kernel
theorem dX11_text_96 : decode cX11_text 96 = .ok (.aload_n 0, 1) := by decide +kernel
theorem dX11_text_97 : decode cX11_text 97 = .ok (.invokevirtual 272, 3) := by decide +kernel
theorem dX11_text_100 : decode cX11_text 100 = .ok (.iconst (-1), 1) := by decide +kernel
theorem dX11_text_101 : decode cX11_text 101 = .ok (.if_icmp .eq 10, 3) := by decide +kernel
theorem dX11_text_104 : decode cX11_text 104 = .ok (.aload_n 0, 1) := by decide +kernel
theorem dX11_text_105 : decode cX11_text 105 = .ok (.invokevirtual 403, 3) := by decide +kernel
theorem dX11_text_108 : decode cX11_text 108 = .ok (.goto (-19), 3) := by decide +kernel
theorem dX11_text_111 : decode cX11_text 111 = .ok (.aload_n 0, 1) := by decide +kernel
theorem dX11_text_112 : decode cX11_text 112 = .ok (.aload_n 0, 1) := by decide +kernel
theorem dX11_text_113 : decode cX11_text 113 = .ok (.getfield 260, 3) := by decide +kernel
theorem dX11_text_116 : decode cX11_text 116 = .ok (.putfield 406, 3) := by decide +kernel
theorem dX11_text_119 : decode cX11_text 119 = .ok (.aload_n 0, 1) := by decide +kernel
theorem dX11_text_120 : decode cX11_text 120 = .ok (.aload_n 0, 1) := by decide +kernel
theorem dX11_text_121 : decode cX11_text 121 = .ok (.getfield 263, 3) := by decide +kernel
theorem dX11_text_124 : decode cX11_text 124 = .ok (.putfield 13, 3) := by decide +kernel
theorem dX11_text_127 : decode cX11_text 127 = .ok (.aload_n 0, 1) := by decide +kernel
theorem dX11_text_128 : decode cX11_text 128 = .ok (.getfield 260, 3) := by decide +kernel
theorem dX11_text_131 : decode cX11_text 131 = .ok (.ifCond .eq 5, 3) := by decide +kernel
theorem dX11_text_134 : decode cX11_text 134 = .ok (.iconst (-1), 1) := by decide +kernel
theorem dX11_text_135 : decode cX11_text 135 = .ok (.ireturn, 1) := by decide +kernel
theorem dX11_text_136 : decode cX11_text 136 = .ok (.aload_n 0, 1) := by decide +kernel
theorem dX11_text_137 : decode cX11_text 137 = .ok (.invokevirtual 409, 3) := by decide +kernel
theorem dX11_text_140 : decode cX11_text 140 = .ok (.aload_n 0, 1) := by decide +kernel
theorem dX11_text_141 : decode cX11_text 141 = .ok (.iload_n 1, 1) := by decide +kernel
theorem dX11_text_142 : decode cX11_text 142 = .ok (.putfield 121, 3) := by decide +kernel
theorem dX11_text_145 : decode cX11_text 145 = .ok (.aload_n 0, 1) := by decide +kernel
theorem dX11_text_146 : decode cX11_text 146 = .ok (.iload_n 2, 1) := by decide +kernel
theorem dX11_text_147 : decode cX11_text 147 = .ok (.putfield 124, 3) := by decide +kernel
theorem dX11_text_150 : decode cX11_text 150 = .ok (.aload_n 0, 1) := by decide +kernel
theorem dX11_text_151 : decode cX11_text 151 = .ok (.iconst 0, 1) := by decide +kernel
theorem dX11_text_152 : decode cX11_text 152 = .ok (.putfield 412, 3) := by decide +kernel
theorem dX11_text_155 : decode cX11_text 155 = .ok (.aload_n 0, 1) := by decide +kernel
theorem dX11_text_156 : decode cX11_text 156 = .ok (.iconst (-1), 1) := by decide +kernel
theorem dX11_text_157 : decode cX11_text 157 = .ok (.putfield 145, 3) := by decide +kernel
theorem dX11_text_160 : decode cX11_text 160 = .ok (.aload_n 0, 1) := by decide +kernel
theorem dX11_text_161 : decode cX11_text 161 = .ok (.iconst (-1), 1) := by decide +kernel
theorem dX11_text_162 : decode cX11_text 162 = .ok (.putfield 148, 3) := by decide +kernel
theorem dX11_text_165 : decode cX11_text 165 = .ok (.aload_n 0, 1) := by decide +kernel
theorem dX11_text_166 : decode cX11_text 166 = .ok (.iconst (-1), 1) := by decide +kernel
theorem dX11_text_167 : decode cX11_text 167 = .ok (.putfield 172, 3) := by decide +kernel
theorem dX11_text_170 : decode cX11_text 170 = .ok (.aload_n 0, 1) := by decide +kernel
theorem dX11_text_171 : decode cX11_text 171 = .ok (.iconst 0, 1) := by decide +kernel
theorem dX11_text_172 : decode cX11_text 172 = .ok (.putfield 415, 3) := by decide +kernel
theorem dX11_text_175 : decode cX11_text 175 = .ok (.aload_n 0, 1) := by decide +kernel
theorem dX11_text_176 : decode cX11_text 176 = .ok (.iconst (-1), 1) := by decide +kernel
theorem dX11_text_177 : decode cX11_text 177 = .ok (.putfield 212, 3) := by decide +kernel
theorem dX11_text_180 : decode cX11_text 180 = .ok (.aload_n 0, 1) := by decide +kernel
theorem dX11_text_181 : decode cX11_text 181 = .ok (.iconst (-1), 1) := by decide +kernel
theorem dX11_text_182 : decode cX11_text 182 = .ok (.putfield 227, 3) := by decide +kernel
theorem dX11_text_185 : decode cX11_text 185 = .ok (.aload_n 0, 1) := by decide +kernel
theorem dX11_text_186 : decode cX11_text 186 = .ok (.getfield 392, 3) := by decide +kernel
theorem dX11_text_189 : decode cX11_text 189 = .ok (.ireturn, 1) := by decide +kernel
theorem dX11_stands_0 : decode cX11_stands 0 = .ok (.aload_n 0, 1) := by decide +kernel
theorem dX11_stands_1 : decode cX11_stands 1 = .ok (.getfield 81, 3) := by decide +kernel
theorem dX11_stands_4 : decode cX11_stands 4 = .ok (.iconst 1, 1) := by decide +kernel
theorem dX11_stands_5 : decode cX11_stands 5 = .ok (.aload_n 0, 1) := by decide +kernel
theorem dX11_stands_6 : decode cX11_stands 6 = .ok (.getfield 81, 3) := by decide +kernel
theorem dX11_stands_9 : decode cX11_stands 9 = .ok (.iconst 0, 1) := by decide +kernel
theorem dX11_stands_10 : decode cX11_stands 10 = .ok (.iaload, 1) := by decide +kernel
theorem dX11_stands_11 : decode cX11_stands 11 = .ok (.iastore, 1) := by decide +kernel
theorem dX11_stands_12 : decode cX11_stands 12 = .ok (.aload_n 0, 1) := by decide +kernel
theorem dX11_stands_13 : decode cX11_stands 13 = .ok (.getfield 100, 3) := by decide +kernel
theorem dX11_stands_16 : decode cX11_stands 16 = .ok (.iconst 1, 1) := by decide +kernel
theorem dX11_stands_17 : decode cX11_stands 17 = .ok (.aload_n 0, 1) := by decide +kernel
theorem dX11_stands_18 : decode cX11_stands 18 = .ok (.getfield 100, 3) := by decide +kernel
theorem dX11_stands_21 : decode cX11_stands 21 = .ok (.iconst 0, 1) := by decide +kernel
theorem dX11_stands_22 : decode cX11_stands 22 = .ok (.iaload, 1) := by decide +kernel
theorem dX11_stands_23 : decode cX11_stands 23 = .ok (.iastore, 1) := by decide +kernel
theorem dX11_stands_24 : decode cX11_stands 24 = .ok (.iconst 0, 1) := by decide +kernel
theorem dX11_stands_25 : decode cX11_stands 25 = .ok (.istore_n 1, 1) := by decide +kernel
theorem dX11_stands_26 : decode cX11_stands 26 = .ok (.iload_n 1, 1) := by decide +kernel
theorem dX11_stands_27 : decode cX11_stands 27 = .ok (.bipush 8, 2) := by decide +kernel
theorem dX11_stands_29 : decode cX11_stands 29 = .ok (.if_icmp .ge 69, 3) := by decide +kernel
theorem dX11_stands_32 : decode cX11_stands 32 = .ok (.aload_n 0, 1) := by decide +kernel
theorem dX11_stands_33 : decode cX11_stands 33 = .ok (.getfield 88, 3) := by decide +kernel
theorem dX11_stands_36 : decode cX11_stands 36 = .ok (.bipush 8, 2) := by decide +kernel
theorem dX11_stands_38 : decode cX11_stands 38 = .ok (.iload_n 1, 1) := by decide +kernel
theorem dX11_stands_39 : decode cX11_stands 39 = .ok (.iadd, 1) := by decide +kernel
theorem dX11_stands_40 : decode cX11_stands 40 = .ok (.aload_n 0, 1) := by decide +kernel
theorem dX11_stands_41 : decode cX11_stands 41 = .ok (.getfield 88, 3) := by decide +kernel
theorem dX11_stands_44 : decode cX11_stands 44 = .ok (.iload_n 1, 1) := by decide +kernel
theorem dX11_stands_45 : decode cX11_stands 45 = .ok (.iaload, 1) := by decide +kernel
theorem dX11_stands_46 : decode cX11_stands 46 = .ok (.iastore, 1) := by decide +kernel
theorem dX11_stands_47 : decode cX11_stands 47 = .ok (.aload_n 0, 1) := by decide +kernel
theorem dX11_stands_48 : decode cX11_stands 48 = .ok (.getfield 91, 3) := by decide +kernel
theorem dX11_stands_51 : decode cX11_stands 51 = .ok (.bipush 8, 2) := by decide +kernel
theorem dX11_stands_53 : decode cX11_stands 53 = .ok (.iload_n 1, 1) := by decide +kernel
theorem dX11_stands_54 : decode cX11_stands 54 = .ok (.iadd, 1) := by decide +kernel
theorem dX11_stands_55 : decode cX11_stands 55 = .ok (.aload_n 0, 1) := by decide +kernel
theorem dX11_stands_56 : decode cX11_stands 56 = .ok (.getfield 91, 3) := by decide +kernel
theorem dX11_stands_59 : decode cX11_stands 59 = .ok (.iload_n 1, 1) := by decide +kernel
theorem dX11_stands_60 : decode cX11_stands 60 = .ok (.iaload, 1) := by decide +kernel
theorem dX11_stands_61 : decode cX11_stands 61 = .ok (.iastore, 1) := by decide +kernel
theorem dX11_stands_62 : decode cX11_stands 62 = .ok (.aload_n 0, 1) := by decide +kernel
theorem dX11_stands_63 : decode cX11_stands 63 = .ok (.getfield 94, 3) := by decide +kernel
theorem dX11_stands_66 : decode cX11_stands 66 = .ok (.bipush 8, 2) := by decide +kernel
theorem dX11_stands_68 : decode cX11_stands 68 = .ok (.iload_n 1, 1) := by decide +kernel
theorem dX11_stands_69 : decode cX11_stands 69 = .ok (.iadd, 1) := by decide +kernel
theorem dX11_stands_70 : decode cX11_stands 70 = .ok (.aload_n 0, 1) := by decide +kernel
theorem dX11_stands_71 : decode cX11_stands 71 = .ok (.getfield 94, 3) := by decide +kernel
theorem dX11_stands_74 : decode cX11_stands 74 = .ok (.iload_n 1, 1) := by decide +kernel
theorem dX11_stands_75 : decode cX11_stands 75 = .ok (.iaload, 1) := by decide +kernel
theorem dX11_stands_76 : decode cX11_stands 76 = .ok (.iastore, 1) := by decide +kernel
theorem dX11_stands_77 : decode cX11_stands 77 = .ok (.aload_n 0, 1) := by decide +kernel
theorem dX11_stands_78 : decode cX11_stands 78 = .ok (.getfield 97, 3) := by decide +kernel
theorem dX11_stands_81 : decode cX11_stands 81 = .ok (.bipush 8, 2) := by decide +kernel
theorem dX11_stands_83 : decode cX11_stands 83 = .ok (.iload_n 1, 1) := by decide +kernel
theorem dX11_stands_84 : decode cX11_stands 84 = .ok (.iadd, 1) := by decide +kernel
theorem dX11_stands_85 : decode cX11_stands 85 = .ok (.aload_n 0, 1) := by decide +kernel
theorem dX11_stands_86 : decode cX11_stands 86 = .ok (.getfield 97, 3) := by decide +kernel
theorem dX11_stands_89 : decode cX11_stands 89 = .ok (.iload_n 1, 1) := by decide +kernel
theorem dX11_stands_90 : decode cX11_stands 90 = .ok (.iaload, 1) := by decide +kernel
theorem dX11_stands_91 : decode cX11_stands 91 = .ok (.iastore, 1) := by decide +kernel
theorem dX11_stands_92 : decode cX11_stands 92 = .ok (.iinc 1 1, 3) := by decide +kernel
theorem dX11_stands_95 : decode cX11_stands 95 = .ok (.goto (-69), 3) := by decide +kernel
theorem dX11_stands_98 : decode cX11_stands 98 = .ok (.iconst 0, 1) := by decide +kernel
theorem dX11_stands_99 : decode cX11_stands 99 = .ok (.istore_n 1, 1) := by decide +kernel
theorem dX11_stands_100 : decode cX11_stands 100 = .ok (.iload_n 1, 1) := by decide +kernel
theorem dX11_stands_101 : decode cX11_stands 101 = .ok (.aload_n 0, 1) := by decide +kernel
theorem dX11_stands_102 : decode cX11_stands 102 = .ok (.getfield 100, 3) := by decide +kernel
theorem dX11_stands_105 : decode cX11_stands 105 = .ok (.iconst 0, 1) := by decide +kernel
theorem dX11_stands_106 : decode cX11_stands 106 = .ok (.iaload, 1) := by decide +kernel
theorem dX11_stands_107 : decode cX11_stands 107 = .ok (.if_icmp .ge 69, 3) := by decide +kernel
theorem dX11_stands_110 : decode cX11_stands 110 = .ok (.aload_n 0, 1) := by decide +kernel
theorem dX11_stands_111 : decode cX11_stands 111 = .ok (.getfield 103, 3) := by decide +kernel
theorem dX11_stands_114 : decode cX11_stands 114 = .ok (.bipush 24, 2) := by decide +kernel
theorem dX11_stands_116 : decode cX11_stands 116 = .ok (.iload_n 1, 1) := by decide +kernel
theorem dX11_stands_117 : decode cX11_stands 117 = .ok (.iadd, 1) := by decide +kernel
theorem dX11_stands_118 : decode cX11_stands 118 = .ok (.aload_n 0, 1) := by decide +kernel
theorem dX11_stands_119 : decode cX11_stands 119 = .ok (.getfield 103, 3) := by decide +kernel
theorem dX11_stands_122 : decode cX11_stands 122 = .ok (.iload_n 1, 1) := by decide +kernel
theorem dX11_stands_123 : decode cX11_stands 123 = .ok (.iaload, 1) := by decide +kernel
theorem dX11_stands_124 : decode cX11_stands 124 = .ok (.iastore, 1) := by decide +kernel
theorem dX11_stands_125 : decode cX11_stands 125 = .ok (.aload_n 0, 1) := by decide +kernel
theorem dX11_stands_126 : decode cX11_stands 126 = .ok (.getfield 106, 3) := by decide +kernel
theorem dX11_stands_129 : decode cX11_stands 129 = .ok (.bipush 24, 2) := by decide +kernel
theorem dX11_stands_131 : decode cX11_stands 131 = .ok (.iload_n 1, 1) := by decide +kernel
theorem dX11_stands_132 : decode cX11_stands 132 = .ok (.iadd, 1) := by decide +kernel
theorem dX11_stands_133 : decode cX11_stands 133 = .ok (.aload_n 0, 1) := by decide +kernel
theorem dX11_stands_134 : decode cX11_stands 134 = .ok (.getfield 106, 3) := by decide +kernel
theorem dX11_stands_137 : decode cX11_stands 137 = .ok (.iload_n 1, 1) := by decide +kernel
theorem dX11_stands_138 : decode cX11_stands 138 = .ok (.iaload, 1) := by decide +kernel
theorem dX11_stands_139 : decode cX11_stands 139 = .ok (.iastore, 1) := by decide +kernel
theorem dX11_stands_140 : decode cX11_stands 140 = .ok (.aload_n 0, 1) := by decide +kernel
theorem dX11_stands_141 : decode cX11_stands 141 = .ok (.getfield 109, 3) := by decide +kernel
theorem dX11_stands_144 : decode cX11_stands 144 = .ok (.bipush 24, 2) := by decide +kernel
theorem dX11_stands_146 : decode cX11_stands 146 = .ok (.iload_n 1, 1) := by decide +kernel
theorem dX11_stands_147 : decode cX11_stands 147 = .ok (.iadd, 1) := by decide +kernel
theorem dX11_stands_148 : decode cX11_stands 148 = .ok (.aload_n 0, 1) := by decide +kernel
theorem dX11_stands_149 : decode cX11_stands 149 = .ok (.getfield 109, 3) := by decide +kernel
theorem dX11_stands_152 : decode cX11_stands 152 = .ok (.iload_n 1, 1) := by decide +kernel
theorem dX11_stands_153 : decode cX11_stands 153 = .ok (.iaload, 1) := by decide +kernel
theorem dX11_stands_154 : decode cX11_stands 154 = .ok (.iastore, 1) := by decide +kernel
theorem dX11_stands_155 : decode cX11_stands 155 = .ok (.aload_n 0, 1) := by decide +kernel
theorem dX11_stands_156 : decode cX11_stands 156 = .ok (.getfield 112, 3) := by decide +kernel
theorem dX11_stands_159 : decode cX11_stands 159 = .ok (.bipush 24, 2) := by decide +kernel
theorem dX11_stands_161 : decode cX11_stands 161 = .ok (.iload_n 1, 1) := by decide +kernel
theorem dX11_stands_162 : decode cX11_stands 162 = .ok (.iadd, 1) := by decide +kernel
theorem dX11_stands_163 : decode cX11_stands 163 = .ok (.aload_n 0, 1) := by decide +kernel
theorem dX11_stands_164 : decode cX11_stands 164 = .ok (.getfield 112, 3) := by decide +kernel
theorem dX11_stands_167 : decode cX11_stands 167 = .ok (.iload_n 1, 1) := by decide +kernel
theorem dX11_stands_168 : decode cX11_stands 168 = .ok (.iaload, 1) := by decide +kernel
theorem dX11_stands_169 : decode cX11_stands 169 = .ok (.iastore, 1) := by decide +kernel
theorem dX11_stands_170 : decode cX11_stands 170 = .ok (.iinc 1 1, 3) := by decide +kernel
theorem dX11_stands_173 : decode cX11_stands 173 = .ok (.goto (-73), 3) := by decide +kernel
theorem dX11_stands_176 : decode cX11_stands 176 = .ok (.iconst 0, 1) := by decide +kernel
theorem dX11_stands_177 : decode cX11_stands 177 = .ok (.istore_n 1, 1) := by decide +kernel
theorem dX11_stands_178 : decode cX11_stands 178 = .ok (.iload_n 1, 1) := by decide +kernel
theorem dX11_stands_179 : decode cX11_stands 179 = .ok (.aload_n 0, 1) := by decide +kernel
theorem dX11_stands_180 : decode cX11_stands 180 = .ok (.getfield 323, 3) := by decide +kernel
theorem dX11_stands_183 : decode cX11_stands 183 = .ok (.if_icmp .ge 25, 3) := by decide +kernel
theorem dX11_stands_186 : decode cX11_stands 186 = .ok (.aload_n 0, 1) := by decide +kernel
theorem dX11_stands_187 : decode cX11_stands 187 = .ok (.getfield 115, 3) := by decide +kernel
theorem dX11_stands_190 : decode cX11_stands 190 = .ok (.sipush 700, 3) := by decide +kernel
theorem dX11_stands_193 : decode cX11_stands 193 = .ok (.iload_n 1, 1) := by decide +kernel
theorem dX11_stands_194 : decode cX11_stands 194 = .ok (.iadd, 1) := by decide +kernel
theorem dX11_stands_195 : decode cX11_stands 195 = .ok (.aload_n 0, 1) := by decide +kernel
theorem dX11_stands_196 : decode cX11_stands 196 = .ok (.getfield 115, 3) := by decide +kernel
theorem dX11_stands_199 : decode cX11_stands 199 = .ok (.iload_n 1, 1) := by decide +kernel
theorem dX11_stands_200 : decode cX11_stands 200 = .ok (.iaload, 1) := by decide +kernel
theorem dX11_stands_201 : decode cX11_stands 201 = .ok (.iastore, 1) := by decide +kernel
theorem dX11_stands_202 : decode cX11_stands 202 = .ok (.iinc 1 1, 3) := by decide +kernel
theorem dX11_stands_205 : decode cX11_stands 205 = .ok (.goto (-27), 3) := by decide +kernel
theorem dX11_stands_208 : decode cX11_stands 208 = .ok (.return_, 1) := by decide +kernel
theorem dX11_fault_0 : decode cX11_fault 0 = .ok (.iload_n 1, 1) := by decide +kernel
theorem dX11_fault_1 : decode cX11_fault 1 = .ok (.ifCond .ne 10, 3) := by decide +kernel
theorem dX11_fault_4 : decode cX11_fault 4 = .ok (.aload_n 0, 1) := by decide +kernel
theorem dX11_fault_5 : decode cX11_fault 5 = .ok (.getfield 406, 3) := by decide +kernel
theorem dX11_fault_8 : decode cX11_fault 8 = .ok (.goto 16, 3) := by decide +kernel
theorem dX11_fault_11 : decode cX11_fault 11 = .ok (.iload_n 1, 1) := by decide +kernel
theorem dX11_fault_12 : decode cX11_fault 12 = .ok (.iconst 1, 1) := by decide +kernel
theorem dX11_fault_13 : decode cX11_fault 13 = .ok (.if_icmp .ne 10, 3) := by decide +kernel
theorem dX11_fault_16 : decode cX11_fault 16 = .ok (.aload_n 0, 1) := by decide +kernel
theorem dX11_fault_17 : decode cX11_fault 17 = .ok (.getfield 13, 3) := by decide +kernel
theorem dX11_fault_20 : decode cX11_fault 20 = .ok (.goto 4, 3) := by decide +kernel
theorem dX11_fault_23 : decode cX11_fault 23 = .ok (.iconst (-1), 1) := by decide +kernel
theorem dX11_fault_24 : decode cX11_fault 24 = .ok (.ireturn, 1) := by decide +kernel
theorem dX11_kind_0 : decode cX11_kind 0 = .ok (.iload_n 1, 1) := by decide +kernel
theorem dX11_kind_1 : decode cX11_kind 1 = .ok (.i2l, 1) := by decide +kernel
theorem dX11_kind_2 : decode cX11_kind 2 = .ok (.lconst 0, 1) := by decide +kernel
theorem dX11_kind_3 : decode cX11_kind 3 = .ok (.aload_n 0, 1) := by decide +kernel
theorem dX11_kind_4 : decode cX11_kind 4 = .ok (.getfield 81, 3) := by decide +kernel
theorem dX11_kind_7 : decode cX11_kind 7 = .ok (.iconst 1, 1) := by decide +kernel
theorem dX11_kind_8 : decode cX11_kind 8 = .ok (.iaload, 1) := by decide +kernel
theorem dX11_kind_9 : decode cX11_kind 9 = .ok (.iconst 1, 1) := by decide +kernel
theorem dX11_kind_10 : decode cX11_kind 10 = .ok (.isub, 1) := by decide +kernel
theorem dX11_kind_11 : decode cX11_kind 11 = .ok (.i2l, 1) := by decide +kernel
theorem dX11_kind_12 : decode cX11_kind 12 = .ok (.invokestatic 300, 3) := by decide +kernel
theorem dX11_kind_15 : decode cX11_kind 15 = .ok (.ifCond .ne 5, 3) := by decide +kernel
theorem dX11_kind_18 : decode cX11_kind 18 = .ok (.iconst (-1), 1) := by decide +kernel
theorem dX11_kind_19 : decode cX11_kind 19 = .ok (.ireturn, 1) := by decide +kernel
theorem dX11_kind_20 : decode cX11_kind 20 = .ok (.iload_n 2, 1) := by decide +kernel
theorem dX11_kind_21 : decode cX11_kind 21 = .ok (.ifCond .ne 15, 3) := by decide +kernel
theorem dX11_kind_24 : decode cX11_kind 24 = .ok (.aload_n 0, 1) := by decide +kernel
theorem dX11_kind_25 : decode cX11_kind 25 = .ok (.getfield 88, 3) := by decide +kernel
theorem dX11_kind_28 : decode cX11_kind 28 = .ok (.bipush 8, 2) := by decide +kernel
theorem dX11_kind_30 : decode cX11_kind 30 = .ok (.iload_n 1, 1) := by decide +kernel
theorem dX11_kind_31 : decode cX11_kind 31 = .ok (.iadd, 1) := by decide +kernel
theorem dX11_kind_32 : decode cX11_kind 32 = .ok (.iaload, 1) := by decide +kernel
theorem dX11_kind_33 : decode cX11_kind 33 = .ok (.goto 55, 3) := by decide +kernel
theorem dX11_kind_36 : decode cX11_kind 36 = .ok (.iload_n 2, 1) := by decide +kernel
theorem dX11_kind_37 : decode cX11_kind 37 = .ok (.iconst 1, 1) := by decide +kernel
theorem dX11_kind_38 : decode cX11_kind 38 = .ok (.if_icmp .ne 15, 3) := by decide +kernel
theorem dX11_kind_41 : decode cX11_kind 41 = .ok (.aload_n 0, 1) := by decide +kernel
theorem dX11_kind_42 : decode cX11_kind 42 = .ok (.getfield 91, 3) := by decide +kernel
theorem dX11_kind_45 : decode cX11_kind 45 = .ok (.bipush 8, 2) := by decide +kernel
theorem dX11_kind_47 : decode cX11_kind 47 = .ok (.iload_n 1, 1) := by decide +kernel
theorem dX11_kind_48 : decode cX11_kind 48 = .ok (.iadd, 1) := by decide +kernel
theorem dX11_kind_49 : decode cX11_kind 49 = .ok (.iaload, 1) := by decide +kernel
theorem dX11_kind_50 : decode cX11_kind 50 = .ok (.goto 38, 3) := by decide +kernel
theorem dX11_kind_53 : decode cX11_kind 53 = .ok (.iload_n 2, 1) := by decide +kernel
theorem dX11_kind_54 : decode cX11_kind 54 = .ok (.iconst 2, 1) := by decide +kernel
theorem dX11_kind_55 : decode cX11_kind 55 = .ok (.if_icmp .ne 15, 3) := by decide +kernel
theorem dX11_kind_58 : decode cX11_kind 58 = .ok (.aload_n 0, 1) := by decide +kernel
theorem dX11_kind_59 : decode cX11_kind 59 = .ok (.getfield 94, 3) := by decide +kernel
theorem dX11_kind_62 : decode cX11_kind 62 = .ok (.bipush 8, 2) := by decide +kernel
theorem dX11_kind_64 : decode cX11_kind 64 = .ok (.iload_n 1, 1) := by decide +kernel
theorem dX11_kind_65 : decode cX11_kind 65 = .ok (.iadd, 1) := by decide +kernel
theorem dX11_kind_66 : decode cX11_kind 66 = .ok (.iaload, 1) := by decide +kernel
theorem dX11_kind_67 : decode cX11_kind 67 = .ok (.goto 21, 3) := by decide +kernel
theorem dX11_kind_70 : decode cX11_kind 70 = .ok (.iload_n 2, 1) := by decide +kernel
theorem dX11_kind_71 : decode cX11_kind 71 = .ok (.iconst 3, 1) := by decide +kernel
theorem dX11_kind_72 : decode cX11_kind 72 = .ok (.if_icmp .ne 15, 3) := by decide +kernel
theorem dX11_kind_75 : decode cX11_kind 75 = .ok (.aload_n 0, 1) := by decide +kernel
theorem dX11_kind_76 : decode cX11_kind 76 = .ok (.getfield 97, 3) := by decide +kernel
theorem dX11_kind_79 : decode cX11_kind 79 = .ok (.bipush 8, 2) := by decide +kernel
theorem dX11_kind_81 : decode cX11_kind 81 = .ok (.iload_n 1, 1) := by decide +kernel
theorem dX11_kind_82 : decode cX11_kind 82 = .ok (.iadd, 1) := by decide +kernel
theorem dX11_kind_83 : decode cX11_kind 83 = .ok (.iaload, 1) := by decide +kernel
theorem dX11_kind_84 : decode cX11_kind 84 = .ok (.goto 4, 3) := by decide +kernel
theorem dX11_kind_87 : decode cX11_kind 87 = .ok (.iconst (-1), 1) := by decide +kernel
theorem dX11_kind_88 : decode cX11_kind 88 = .ok (.ireturn, 1) := by decide +kernel
theorem dX11_cells_0 : decode cX11_cells 0 = .ok (.aload_n 0, 1) := by decide +kernel
theorem dX11_cells_1 : decode cX11_cells 1 = .ok (.getfield 121, 3) := by decide +kernel
theorem dX11_cells_4 : decode cX11_cells 4 = .ok (.aload_n 0, 1) := by decide +kernel
theorem dX11_cells_5 : decode cX11_cells 5 = .ok (.getfield 124, 3) := by decide +kernel
theorem dX11_cells_8 : decode cX11_cells 8 = .ok (.imul, 1) := by decide +kernel
theorem dX11_cells_9 : decode cX11_cells 9 = .ok (.ireturn, 1) := by decide +kernel
theorem dX11_isCell_0 : decode cX11_isCell 0 = .ok (.iload_n 1, 1) := by decide +kernel
theorem dX11_isCell_1 : decode cX11_isCell 1 = .ok (.i2l, 1) := by decide +kernel
theorem dX11_isCell_2 : decode cX11_isCell 2 = .ok (.lconst 0, 1) := by decide +kernel
theorem dX11_isCell_3 : decode cX11_isCell 3 = .ok (.aload_n 0, 1) := by decide +kernel
theorem dX11_isCell_4 : decode cX11_isCell 4 = .ok (.invokevirtual 419, 3) := by decide +kernel
theorem dX11_isCell_7 : decode cX11_isCell 7 = .ok (.iconst 1, 1) := by decide +kernel
theorem dX11_isCell_8 : decode cX11_isCell 8 = .ok (.isub, 1) := by decide +kernel
theorem dX11_isCell_9 : decode cX11_isCell 9 = .ok (.i2l, 1) := by decide +kernel
theorem dX11_isCell_10 : decode cX11_isCell 10 = .ok (.invokestatic 300, 3) := by decide +kernel
theorem dX11_isCell_13 : decode cX11_isCell 13 = .ok (.ireturn, 1) := by decide +kernel
theorem dX11_act_0 : decode cX11_act 0 = .ok (.aload_n 0, 1) := by decide +kernel
theorem dX11_act_1 : decode cX11_act 1 = .ok (.dup, 1) := by decide +kernel
theorem dX11_act_2 : decode cX11_act 2 = .ok (.getfield 412, 3) := by decide +kernel
theorem dX11_act_5 : decode cX11_act 5 = .ok (.iconst 1, 1) := by decide +kernel
theorem dX11_act_6 : decode cX11_act 6 = .ok (.iadd, 1) := by decide +kernel
theorem dX11_act_7 : decode cX11_act 7 = .ok (.putfield 412, 3) := by decide +kernel
theorem dX11_act_10 : decode cX11_act 10 = .ok (.aload_n 0, 1) := by decide +kernel
theorem dX11_act_11 : decode cX11_act 11 = .ok (.getfield 127, 3) := by decide +kernel
theorem dX11_act_14 : decode cX11_act 14 = .ok (.aload_n 0, 1) := by decide +kernel
theorem dX11_act_15 : decode cX11_act 15 = .ok (.getfield 412, 3) := by decide +kernel
theorem dX11_act_18 : decode cX11_act 18 = .ok (.iload_n 1, 1) := by decide +kernel
theorem dX11_act_19 : decode cX11_act 19 = .ok (.iastore, 1) := by decide +kernel
theorem dX11_act_20 : decode cX11_act 20 = .ok (.aload_n 0, 1) := by decide +kernel
theorem dX11_act_21 : decode cX11_act 21 = .ok (.getfield 130, 3) := by decide +kernel
theorem dX11_act_24 : decode cX11_act 24 = .ok (.aload_n 0, 1) := by decide +kernel
theorem dX11_act_25 : decode cX11_act 25 = .ok (.getfield 412, 3) := by decide +kernel
theorem dX11_act_28 : decode cX11_act 28 = .ok (.iload_n 2, 1) := by decide +kernel
theorem dX11_act_29 : decode cX11_act 29 = .ok (.iastore, 1) := by decide +kernel
theorem dX11_act_30 : decode cX11_act 30 = .ok (.aload_n 0, 1) := by decide +kernel
theorem dX11_act_31 : decode cX11_act 31 = .ok (.getfield 133, 3) := by decide +kernel
theorem dX11_act_34 : decode cX11_act 34 = .ok (.aload_n 0, 1) := by decide +kernel
theorem dX11_act_35 : decode cX11_act 35 = .ok (.getfield 412, 3) := by decide +kernel
theorem dX11_act_38 : decode cX11_act 38 = .ok (.iload_n 3, 1) := by decide +kernel
theorem dX11_act_39 : decode cX11_act 39 = .ok (.iastore, 1) := by decide +kernel
theorem dX11_act_40 : decode cX11_act 40 = .ok (.aload_n 0, 1) := by decide +kernel
theorem dX11_act_41 : decode cX11_act 41 = .ok (.getfield 136, 3) := by decide +kernel
theorem dX11_act_44 : decode cX11_act 44 = .ok (.aload_n 0, 1) := by decide +kernel
theorem dX11_act_45 : decode cX11_act 45 = .ok (.getfield 412, 3) := by decide +kernel
theorem dX11_act_48 : decode cX11_act 48 = .ok (.iload 4, 2) := by decide +kernel
theorem dX11_act_50 : decode cX11_act 50 = .ok (.iastore, 1) := by decide +kernel
theorem dX11_act_51 : decode cX11_act 51 = .ok (.aload_n 0, 1) := by decide +kernel
theorem dX11_act_52 : decode cX11_act 52 = .ok (.getfield 139, 3) := by decide +kernel
theorem dX11_act_55 : decode cX11_act 55 = .ok (.aload_n 0, 1) := by decide +kernel
theorem dX11_act_56 : decode cX11_act 56 = .ok (.getfield 412, 3) := by decide +kernel
theorem dX11_act_59 : decode cX11_act 59 = .ok (.iload 5, 2) := by decide +kernel
theorem dX11_act_61 : decode cX11_act 61 = .ok (.iastore, 1) := by decide +kernel
theorem dX11_act_62 : decode cX11_act 62 = .ok (.aload_n 0, 1) := by decide +kernel
theorem dX11_act_63 : decode cX11_act 63 = .ok (.getfield 142, 3) := by decide +kernel
theorem dX11_act_66 : decode cX11_act 66 = .ok (.aload_n 0, 1) := by decide +kernel
theorem dX11_act_67 : decode cX11_act 67 = .ok (.getfield 412, 3) := by decide +kernel
theorem dX11_act_70 : decode cX11_act 70 = .ok (.iconst 0, 1) := by decide +kernel
theorem dX11_act_71 : decode cX11_act 71 = .ok (.iastore, 1) := by decide +kernel
theorem dX11_act_72 : decode cX11_act 72 = .ok (.aload_n 0, 1) := by decide +kernel
theorem dX11_act_73 : decode cX11_act 73 = .ok (.getfield 412, 3) := by decide +kernel
theorem dX11_act_76 : decode cX11_act 76 = .ok (.ireturn, 1) := by decide +kernel
theorem dX11_hook_0 : decode cX11_hook 0 = .ok (.aload_n 0, 1) := by decide +kernel
theorem dX11_hook_1 : decode cX11_hook 1 = .ok (.iload_n 1, 1) := by decide +kernel
theorem dX11_hook_2 : decode cX11_hook 2 = .ok (.invokevirtual 422, 3) := by decide +kernel
theorem dX11_hook_5 : decode cX11_hook 5 = .ok (.ifCond .eq 54, 3) := by decide +kernel
theorem dX11_hook_8 : decode cX11_hook 8 = .ok (.iload_n 2, 1) := by decide +kernel
theorem dX11_hook_9 : decode cX11_hook 9 = .ok (.i2l, 1) := by decide +kernel
theorem dX11_hook_10 : decode cX11_hook 10 = .ok (.lconst 0, 1) := by decide +kernel
theorem dX11_hook_11 : decode cX11_hook 11 = .ok (.aload_n 0, 1) := by decide +kernel
theorem dX11_hook_12 : decode cX11_hook 12 = .ok (.getfield 81, 3) := by decide +kernel
theorem dX11_hook_15 : decode cX11_hook 15 = .ok (.iconst 1, 1) := by decide +kernel
theorem dX11_hook_16 : decode cX11_hook 16 = .ok (.iaload, 1) := by decide +kernel
theorem dX11_hook_17 : decode cX11_hook 17 = .ok (.iconst 1, 1) := by decide +kernel
theorem dX11_hook_18 : decode cX11_hook 18 = .ok (.isub, 1) := by decide +kernel
theorem dX11_hook_19 : decode cX11_hook 19 = .ok (.i2l, 1) := by decide +kernel
theorem dX11_hook_20 : decode cX11_hook 20 = .ok (.invokestatic 300, 3) := by decide +kernel
theorem dX11_hook_23 : decode cX11_hook 23 = .ok (.ifCond .eq 36, 3) := by decide +kernel
theorem dX11_hook_26 : decode cX11_hook 26 = .ok (.iload_n 3, 1) := by decide +kernel
theorem dX11_hook_27 : decode cX11_hook 27 = .ok (.i2l, 1) := by decide +kernel
theorem dX11_hook_28 : decode cX11_hook 28 = .ok (.lconst 0, 1) := by decide +kernel
theorem dX11_hook_29 : decode cX11_hook 29 = .ok (.ldc2_w 425, 3) := by decide +kernel
theorem dX11_hook_32 : decode cX11_hook 32 = .ok (.invokestatic 300, 3) := by decide +kernel
theorem dX11_hook_35 : decode cX11_hook 35 = .ok (.ifCond .eq 24, 3) := by decide +kernel
theorem dX11_hook_38 : decode cX11_hook 38 = .ok (.aload_n 0, 1) := by decide +kernel
theorem dX11_hook_39 : decode cX11_hook 39 = .ok (.getfield 412, 3) := by decide +kernel
theorem dX11_hook_42 : decode cX11_hook 42 = .ok (.bipush 120, 2) := by decide +kernel
theorem dX11_hook_44 : decode cX11_hook 44 = .ok (.if_icmp .ge 15, 3) := by decide +kernel
theorem dX11_hook_47 : decode cX11_hook 47 = .ok (.aload_n 0, 1) := by decide +kernel
theorem dX11_hook_48 : decode cX11_hook 48 = .ok (.iconst 1, 1) := by decide +kernel
theorem dX11_hook_49 : decode cX11_hook 49 = .ok (.iload_n 1, 1) := by decide +kernel
theorem dX11_hook_50 : decode cX11_hook 50 = .ok (.iload_n 2, 1) := by decide +kernel
theorem dX11_hook_51 : decode cX11_hook 51 = .ok (.iload_n 3, 1) := by decide +kernel
theorem dX11_hook_52 : decode cX11_hook 52 = .ok (.iconst 0, 1) := by decide +kernel
theorem dX11_hook_53 : decode cX11_hook 53 = .ok (.invokevirtual 427, 3) := by decide +kernel
theorem dX11_hook_56 : decode cX11_hook 56 = .ok (.goto 4, 3) := by decide +kernel
theorem dX11_hook_59 : decode cX11_hook 59 = .ok (.iconst (-1), 1) := by decide +kernel
theorem dX11_hook_60 : decode cX11_hook 60 = .ok (.ireturn, 1) := by decide +kernel
theorem dX11_loops_0 : decode cX11_loops 0 = .ok (.aload_n 0, 1) := by decide +kernel
theorem dX11_loops_1 : decode cX11_loops 1 = .ok (.iload_n 1, 1) := by decide +kernel
theorem dX11_loops_2 : decode cX11_loops 2 = .ok (.invokevirtual 422, 3) := by decide +kernel
theorem dX11_loops_5 : decode cX11_loops 5 = .ok (.ifCond .eq 36, 3) := by decide +kernel
theorem dX11_loops_8 : decode cX11_loops 8 = .ok (.iload_n 2, 1) := by decide +kernel
theorem dX11_loops_9 : decode cX11_loops 9 = .ok (.i2l, 1) := by decide +kernel
theorem dX11_loops_10 : decode cX11_loops 10 = .ok (.lconst 0, 1) := by decide +kernel
theorem dX11_loops_11 : decode cX11_loops 11 = .ok (.ldc2_w 431, 3) := by decide +kernel
theorem dX11_loops_14 : decode cX11_loops 14 = .ok (.invokestatic 300, 3) := by decide +kernel
theorem dX11_loops_17 : decode cX11_loops 17 = .ok (.ifCond .eq 24, 3) := by decide +kernel
theorem dX11_loops_20 : decode cX11_loops 20 = .ok (.aload_n 0, 1) := by decide +kernel
theorem dX11_loops_21 : decode cX11_loops 21 = .ok (.getfield 412, 3) := by decide +kernel
theorem dX11_loops_24 : decode cX11_loops 24 = .ok (.bipush 120, 2) := by decide +kernel
theorem dX11_loops_26 : decode cX11_loops 26 = .ok (.if_icmp .ge 15, 3) := by decide +kernel
theorem dX11_loops_29 : decode cX11_loops 29 = .ok (.aload_n 0, 1) := by decide +kernel
theorem dX11_loops_30 : decode cX11_loops 30 = .ok (.iconst 2, 1) := by decide +kernel
theorem dX11_loops_31 : decode cX11_loops 31 = .ok (.iload_n 1, 1) := by decide +kernel
theorem dX11_loops_32 : decode cX11_loops 32 = .ok (.iload_n 2, 1) := by decide +kernel
theorem dX11_loops_33 : decode cX11_loops 33 = .ok (.iconst 0, 1) := by decide +kernel
theorem dX11_loops_34 : decode cX11_loops 34 = .ok (.iconst 0, 1) := by decide +kernel
theorem dX11_loops_35 : decode cX11_loops 35 = .ok (.invokevirtual 427, 3) := by decide +kernel
theorem dX11_loops_38 : decode cX11_loops 38 = .ok (.goto 4, 3) := by decide +kernel
theorem dX11_loops_41 : decode cX11_loops 41 = .ok (.iconst (-1), 1) := by decide +kernel
theorem dX11_loops_42 : decode cX11_loops 42 = .ok (.ireturn, 1) := by decide +kernel
theorem dX11_areHands_0 : decode cX11_areHands 0 = .ok (.iload_n 0, 1) := by decide +kernel
theorem dX11_areHands_1 : decode cX11_areHands 1 = .ok (.i2l, 1) := by decide +kernel
theorem dX11_areHands_2 : decode cX11_areHands 2 = .ok (.lconst 0, 1) := by decide +kernel
theorem dX11_areHands_3 : decode cX11_areHands 3 = .ok (.ldc2_w 425, 3) := by decide +kernel
theorem dX11_areHands_6 : decode cX11_areHands 6 = .ok (.invokestatic 300, 3) := by decide +kernel
theorem dX11_areHands_9 : decode cX11_areHands 9 = .ok (.ifCond .eq 19, 3) := by decide +kernel
theorem dX11_areHands_12 : decode cX11_areHands 12 = .ok (.iload_n 1, 1) := by decide +kernel
theorem dX11_areHands_13 : decode cX11_areHands 13 = .ok (.i2l, 1) := by decide +kernel
theorem dX11_areHands_14 : decode cX11_areHands 14 = .ok (.lconst 0, 1) := by decide +kernel
theorem dX11_areHands_15 : decode cX11_areHands 15 = .ok (.ldc2_w 425, 3) := by decide +kernel
theorem dX11_areHands_18 : decode cX11_areHands 18 = .ok (.invokestatic 300, 3) := by decide +kernel
theorem dX11_areHands_21 : decode cX11_areHands 21 = .ok (.ifCond .eq 7, 3) := by decide +kernel
theorem dX11_areHands_24 : decode cX11_areHands 24 = .ok (.iconst 1, 1) := by decide +kernel
theorem dX11_areHands_25 : decode cX11_areHands 25 = .ok (.goto 4, 3) := by decide +kernel
theorem dX11_areHands_28 : decode cX11_areHands 28 = .ok (.iconst 0, 1) := by decide +kernel
theorem dX11_areHands_29 : decode cX11_areHands 29 = .ok (.ireturn, 1) := by decide +kernel
theorem dX11_rounds_0 : decode cX11_rounds 0 = .ok (.iload_n 1, 1) := by decide +kernel
theorem dX11_rounds_1 : decode cX11_rounds 1 = .ok (.i2l, 1) := by decide +kernel
theorem dX11_rounds_2 : decode cX11_rounds 2 = .ok (.lconst 1, 1) := by decide +kernel
theorem dX11_rounds_3 : decode cX11_rounds 3 = .ok (.ldc2_w 433, 3) := by decide +kernel
theorem dX11_rounds_6 : decode cX11_rounds 6 = .ok (.invokestatic 300, 3) := by decide +kernel
theorem dX11_rounds_9 : decode cX11_rounds 9 = .ok (.ifCond .eq 38, 3) := by decide +kernel
theorem dX11_rounds_12 : decode cX11_rounds 12 = .ok (.iload_n 2, 1) := by decide +kernel
theorem dX11_rounds_13 : decode cX11_rounds 13 = .ok (.iload_n 3, 1) := by decide +kernel
theorem dX11_rounds_14 : decode cX11_rounds 14 = .ok (.invokestatic 435, 3) := by decide +kernel
theorem dX11_rounds_17 : decode cX11_rounds 17 = .ok (.ifCond .eq 30, 3) := by decide +kernel
theorem dX11_rounds_20 : decode cX11_rounds 20 = .ok (.iload 4, 2) := by decide +kernel
theorem dX11_rounds_22 : decode cX11_rounds 22 = .ok (.ifCond .lt 25, 3) := by decide +kernel
theorem dX11_rounds_25 : decode cX11_rounds 25 = .ok (.aload_n 0, 1) := by decide +kernel
theorem dX11_rounds_26 : decode cX11_rounds 26 = .ok (.getfield 412, 3) := by decide +kernel
theorem dX11_rounds_29 : decode cX11_rounds 29 = .ok (.bipush 120, 2) := by decide +kernel
theorem dX11_rounds_31 : decode cX11_rounds 31 = .ok (.if_icmp .ge 16, 3) := by decide +kernel
theorem dX11_rounds_34 : decode cX11_rounds 34 = .ok (.aload_n 0, 1) := by decide +kernel
theorem dX11_rounds_35 : decode cX11_rounds 35 = .ok (.iconst 3, 1) := by decide +kernel
theorem dX11_rounds_36 : decode cX11_rounds 36 = .ok (.iload_n 1, 1) := by decide +kernel
theorem dX11_rounds_37 : decode cX11_rounds 37 = .ok (.iload_n 2, 1) := by decide +kernel
theorem dX11_rounds_38 : decode cX11_rounds 38 = .ok (.iload_n 3, 1) := by decide +kernel
theorem dX11_rounds_39 : decode cX11_rounds 39 = .ok (.iload 4, 2) := by decide +kernel
theorem dX11_rounds_41 : decode cX11_rounds 41 = .ok (.invokevirtual 427, 3) := by decide +kernel
theorem dX11_rounds_44 : decode cX11_rounds 44 = .ok (.goto 4, 3) := by decide +kernel
theorem dX11_rounds_47 : decode cX11_rounds 47 = .ok (.iconst (-1), 1) := by decide +kernel
theorem dX11_rounds_48 : decode cX11_rounds 48 = .ok (.ireturn, 1) := by decide +kernel
theorem dX11_wash_0 : decode cX11_wash 0 = .ok (.aload_n 0, 1) := by decide +kernel
theorem dX11_wash_1 : decode cX11_wash 1 = .ok (.getfield 412, 3) := by decide +kernel
theorem dX11_wash_4 : decode cX11_wash 4 = .ok (.bipush 120, 2) := by decide +kernel
theorem dX11_wash_6 : decode cX11_wash 6 = .ok (.if_icmp .ge 15, 3) := by decide +kernel
theorem dX11_wash_9 : decode cX11_wash 9 = .ok (.aload_n 0, 1) := by decide +kernel
theorem dX11_wash_10 : decode cX11_wash 10 = .ok (.iconst 4, 1) := by decide +kernel
theorem dX11_wash_11 : decode cX11_wash 11 = .ok (.iconst 0, 1) := by decide +kernel
theorem dX11_wash_12 : decode cX11_wash 12 = .ok (.iconst 0, 1) := by decide +kernel
theorem dX11_wash_13 : decode cX11_wash 13 = .ok (.iconst 0, 1) := by decide +kernel
theorem dX11_wash_14 : decode cX11_wash 14 = .ok (.iconst 0, 1) := by decide +kernel
theorem dX11_wash_15 : decode cX11_wash 15 = .ok (.invokevirtual 427, 3) := by decide +kernel
theorem dX11_wash_18 : decode cX11_wash 18 = .ok (.goto 4, 3) := by decide +kernel
theorem dX11_wash_21 : decode cX11_wash 21 = .ok (.iconst (-1), 1) := by decide +kernel
theorem dX11_wash_22 : decode cX11_wash 22 = .ok (.ireturn, 1) := by decide +kernel
theorem dX11_annul_0 : decode cX11_annul 0 = .ok (.iload_n 1, 1) := by decide +kernel
theorem dX11_annul_1 : decode cX11_annul 1 = .ok (.i2l, 1) := by decide +kernel
theorem dX11_annul_2 : decode cX11_annul 2 = .ok (.lconst 1, 1) := by decide +kernel
theorem dX11_annul_3 : decode cX11_annul 3 = .ok (.aload_n 0, 1) := by decide +kernel
theorem dX11_annul_4 : decode cX11_annul 4 = .ok (.getfield 412, 3) := by decide +kernel
theorem dX11_annul_7 : decode cX11_annul 7 = .ok (.i2l, 1) := by decide +kernel
theorem dX11_annul_8 : decode cX11_annul 8 = .ok (.invokestatic 300, 3) := by decide +kernel
theorem dX11_annul_11 : decode cX11_annul 11 = .ok (.ifCond .eq 31, 3) := by decide +kernel
theorem dX11_annul_14 : decode cX11_annul 14 = .ok (.aload_n 0, 1) := by decide +kernel
theorem dX11_annul_15 : decode cX11_annul 15 = .ok (.getfield 142, 3) := by decide +kernel
theorem dX11_annul_18 : decode cX11_annul 18 = .ok (.iload_n 1, 1) := by decide +kernel
theorem dX11_annul_19 : decode cX11_annul 19 = .ok (.iaload, 1) := by decide +kernel
theorem dX11_annul_20 : decode cX11_annul 20 = .ok (.ifCond .ne 22, 3) := by decide +kernel
theorem dX11_annul_23 : decode cX11_annul 23 = .ok (.aload_n 0, 1) := by decide +kernel
theorem dX11_annul_24 : decode cX11_annul 24 = .ok (.getfield 127, 3) := by decide +kernel
theorem dX11_annul_27 : decode cX11_annul 27 = .ok (.iload_n 1, 1) := by decide +kernel
theorem dX11_annul_28 : decode cX11_annul 28 = .ok (.iaload, 1) := by decide +kernel
theorem dX11_annul_29 : decode cX11_annul 29 = .ok (.iconst 5, 1) := by decide +kernel
theorem dX11_annul_30 : decode cX11_annul 30 = .ok (.if_icmp .eq 12, 3) := by decide +kernel
theorem dX11_annul_33 : decode cX11_annul 33 = .ok (.aload_n 0, 1) := by decide +kernel
theorem dX11_annul_34 : decode cX11_annul 34 = .ok (.getfield 412, 3) := by decide +kernel
theorem dX11_annul_37 : decode cX11_annul 37 = .ok (.bipush 120, 2) := by decide +kernel
theorem dX11_annul_39 : decode cX11_annul 39 = .ok (.if_icmp .ne 5, 3) := by decide +kernel
theorem dX11_annul_42 : decode cX11_annul 42 = .ok (.iconst (-1), 1) := by decide +kernel
theorem dX11_annul_43 : decode cX11_annul 43 = .ok (.ireturn, 1) := by decide +kernel
theorem dX11_annul_44 : decode cX11_annul 44 = .ok (.aload_n 0, 1) := by decide +kernel
theorem dX11_annul_45 : decode cX11_annul 45 = .ok (.getfield 142, 3) := by decide +kernel
theorem dX11_annul_48 : decode cX11_annul 48 = .ok (.iload_n 1, 1) := by decide +kernel
theorem dX11_annul_49 : decode cX11_annul 49 = .ok (.aload_n 0, 1) := by decide +kernel
theorem dX11_annul_50 : decode cX11_annul 50 = .ok (.getfield 412, 3) := by decide +kernel
theorem dX11_annul_53 : decode cX11_annul 53 = .ok (.iconst 1, 1) := by decide +kernel
theorem dX11_annul_54 : decode cX11_annul 54 = .ok (.iadd, 1) := by decide +kernel
theorem dX11_annul_55 : decode cX11_annul 55 = .ok (.iastore, 1) := by decide +kernel
theorem dX11_annul_56 : decode cX11_annul 56 = .ok (.aload_n 0, 1) := by decide +kernel
theorem dX11_annul_57 : decode cX11_annul 57 = .ok (.iconst (-1), 1) := by decide +kernel
