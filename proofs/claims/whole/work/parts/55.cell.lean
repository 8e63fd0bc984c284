abbrev b_Law_cell : ByteArray := method_2_code
def y_Law_cell : MethodName := ⟨"MaskLayersLaw", "cell", "([II)I"⟩
theorem d_Law_cell_0 : decode b_Law_cell 0 = .ok (.iload_n 1, 1) := by decide +kernel
theorem d_Law_cell_1 : decode b_Law_cell 1 = .ok (.aload_n 0, 1) := by decide +kernel
theorem d_Law_cell_2 : decode b_Law_cell 2 = .ok (.arraylength, 1) := by decide +kernel
theorem d_Law_cell_3 : decode b_Law_cell 3 = .ok (.if_icmp .ge 9, 3) := by decide +kernel
theorem d_Law_cell_6 : decode b_Law_cell 6 = .ok (.aload_n 0, 1) := by decide +kernel
theorem d_Law_cell_7 : decode b_Law_cell 7 = .ok (.iload_n 1, 1) := by decide +kernel
theorem d_Law_cell_8 : decode b_Law_cell 8 = .ok (.iaload, 1) := by decide +kernel
theorem d_Law_cell_9 : decode b_Law_cell 9 = .ok (.goto 4, 3) := by decide +kernel
theorem d_Law_cell_12 : decode b_Law_cell 12 = .ok (.iconst 0, 1) := by decide +kernel
theorem d_Law_cell_13 : decode b_Law_cell 13 = .ok (.ireturn, 1) := by decide +kernel
abbrev b_Law_law : ByteArray := code
def y_Law_law : MethodName := ⟨"MaskLayersLaw", "law", "([I)Z"⟩
theorem d_Law_law_0 : decode b_Law_law 0 = .ok (.new 8, 3) := by decide +kernel
theorem d_Law_law_3 : decode b_Law_law 3 = .ok (.dup, 1) := by decide +kernel
theorem d_Law_law_4 : decode b_Law_law 4 = .ok (.aload_n 0, 1) := by decide +kernel
theorem d_Law_law_5 : decode b_Law_law 5 = .ok (.iconst 0, 1) := by decide +kernel
theorem d_Law_law_6 : decode b_Law_law 6 = .ok (.invokestatic 64, 3) := by decide +kernel
theorem d_Law_law_9 : decode b_Law_law 9 = .ok (.aload_n 0, 1) := by decide +kernel
theorem d_Law_law_10 : decode b_Law_law 10 = .ok (.iconst 1, 1) := by decide +kernel
theorem d_Law_law_11 : decode b_Law_law 11 = .ok (.invokestatic 64, 3) := by decide +kernel
theorem d_Law_law_14 : decode b_Law_law 14 = .ok (.invokespecial 70, 3) := by decide +kernel
theorem d_Law_law_17 : decode b_Law_law 17 = .ok (.astore_n 1, 1) := by decide +kernel
theorem d_Law_law_18 : decode b_Law_law 18 = .ok (.new 73, 3) := by decide +kernel
theorem d_Law_law_21 : decode b_Law_law 21 = .ok (.dup, 1) := by decide +kernel
theorem d_Law_law_22 : decode b_Law_law 22 = .ok (.aload_n 0, 1) := by decide +kernel
theorem d_Law_law_23 : decode b_Law_law 23 = .ok (.iconst 0, 1) := by decide +kernel
theorem d_Law_law_24 : decode b_Law_law 24 = .ok (.invokestatic 64, 3) := by decide +kernel
theorem d_Law_law_27 : decode b_Law_law 27 = .ok (.aload_n 0, 1) := by decide +kernel
theorem d_Law_law_28 : decode b_Law_law 28 = .ok (.iconst 1, 1) := by decide +kernel
theorem d_Law_law_29 : decode b_Law_law 29 = .ok (.invokestatic 64, 3) := by decide +kernel
theorem d_Law_law_32 : decode b_Law_law 32 = .ok (.invokespecial 75, 3) := by decide +kernel
theorem d_Law_law_35 : decode b_Law_law 35 = .ok (.astore_n 2, 1) := by decide +kernel
theorem d_Law_law_36 : decode b_Law_law 36 = .ok (.iconst 1, 1) := by decide +kernel
theorem d_Law_law_37 : decode b_Law_law 37 = .ok (.newarray .long, 2) := by decide +kernel
theorem d_Law_law_39 : decode b_Law_law 39 = .ok (.astore_n 3, 1) := by decide +kernel
theorem d_Law_law_40 : decode b_Law_law 40 = .ok (.iconst 2, 1) := by decide +kernel
theorem d_Law_law_41 : decode b_Law_law 41 = .ok (.istore 4, 2) := by decide +kernel
theorem d_Law_law_43 : decode b_Law_law 43 = .ok (.iload 4, 2) := by decide +kernel
theorem d_Law_law_45 : decode b_Law_law 45 = .ok (.aload_n 0, 1) := by decide +kernel
theorem d_Law_law_46 : decode b_Law_law 46 = .ok (.arraylength, 1) := by decide +kernel
theorem d_Law_law_47 : decode b_Law_law 47 = .ok (.iconst 5, 1) := by decide +kernel
theorem d_Law_law_48 : decode b_Law_law 48 = .ok (.isub, 1) := by decide +kernel
theorem d_Law_law_49 : decode b_Law_law 49 = .ok (.if_icmp .gt 1089, 3) := by decide +kernel
theorem d_Law_law_52 : decode b_Law_law 52 = .ok (.aload_n 0, 1) := by decide +kernel
theorem d_Law_law_53 : decode b_Law_law 53 = .ok (.iload 4, 2) := by decide +kernel
theorem d_Law_law_55 : decode b_Law_law 55 = .ok (.iaload, 1) := by decide +kernel
theorem d_Law_law_56 : decode b_Law_law 56 = .ok (.bipush 15, 2) := by decide +kernel
theorem d_Law_law_58 : decode b_Law_law 58 = .ok (.iand, 1) := by decide +kernel
theorem d_Law_law_59 : decode b_Law_law 59 = .ok (.tableswitch 1073 0 15 #[77, 169, 277, 333, 429, 509, 596, 664, 708, 764, 820, 888, 956, 969, 1037, 1062], 77) := by decide +kernel
theorem d_Law_law_136 : decode b_Law_law 136 = .ok (.aload_n 1, 1) := by decide +kernel
theorem d_Law_law_137 : decode b_Law_law 137 = .ok (.aload_n 0, 1) := by decide +kernel
theorem d_Law_law_138 : decode b_Law_law 138 = .ok (.iload 4, 2) := by decide +kernel
theorem d_Law_law_140 : decode b_Law_law 140 = .ok (.iconst 1, 1) := by decide +kernel
theorem d_Law_law_141 : decode b_Law_law 141 = .ok (.iadd, 1) := by decide +kernel
theorem d_Law_law_142 : decode b_Law_law 142 = .ok (.iaload, 1) := by decide +kernel
theorem d_Law_law_143 : decode b_Law_law 143 = .ok (.aload_n 0, 1) := by decide +kernel
theorem d_Law_law_144 : decode b_Law_law 144 = .ok (.iload 4, 2) := by decide +kernel
theorem d_Law_law_146 : decode b_Law_law 146 = .ok (.iconst 2, 1) := by decide +kernel
theorem d_Law_law_147 : decode b_Law_law 147 = .ok (.iadd, 1) := by decide +kernel
theorem d_Law_law_148 : decode b_Law_law 148 = .ok (.iaload, 1) := by decide +kernel
theorem d_Law_law_149 : decode b_Law_law 149 = .ok (.aload_n 0, 1) := by decide +kernel
theorem d_Law_law_150 : decode b_Law_law 150 = .ok (.iload 4, 2) := by decide +kernel
theorem d_Law_law_152 : decode b_Law_law 152 = .ok (.iconst 3, 1) := by decide +kernel
theorem d_Law_law_153 : decode b_Law_law 153 = .ok (.iadd, 1) := by decide +kernel
theorem d_Law_law_154 : decode b_Law_law 154 = .ok (.iaload, 1) := by decide +kernel
theorem d_Law_law_155 : decode b_Law_law 155 = .ok (.aload_n 0, 1) := by decide +kernel
theorem d_Law_law_156 : decode b_Law_law 156 = .ok (.iload 4, 2) := by decide +kernel
theorem d_Law_law_158 : decode b_Law_law 158 = .ok (.iconst 4, 1) := by decide +kernel
theorem d_Law_law_159 : decode b_Law_law 159 = .ok (.iadd, 1) := by decide +kernel
theorem d_Law_law_160 : decode b_Law_law 160 = .ok (.iaload, 1) := by decide +kernel
theorem d_Law_law_161 : decode b_Law_law 161 = .ok (.aload_n 3, 1) := by decide +kernel
theorem d_Law_law_162 : decode b_Law_law 162 = .ok (.invokestatic 76, 3) := by decide +kernel
theorem d_Law_law_165 : decode b_Law_law 165 = .ok (.istore 5, 2) := by decide +kernel
theorem d_Law_law_167 : decode b_Law_law 167 = .ok (.aload_n 2, 1) := by decide +kernel
theorem d_Law_law_168 : decode b_Law_law 168 = .ok (.aload_n 0, 1) := by decide +kernel
theorem d_Law_law_169 : decode b_Law_law 169 = .ok (.iload 4, 2) := by decide +kernel
theorem d_Law_law_171 : decode b_Law_law 171 = .ok (.iconst 1, 1) := by decide +kernel
theorem d_Law_law_172 : decode b_Law_law 172 = .ok (.iadd, 1) := by decide +kernel
theorem d_Law_law_173 : decode b_Law_law 173 = .ok (.iaload, 1) := by decide +kernel
theorem d_Law_law_174 : decode b_Law_law 174 = .ok (.aload_n 0, 1) := by decide +kernel
theorem d_Law_law_175 : decode b_Law_law 175 = .ok (.iload 4, 2) := by decide +kernel
theorem d_Law_law_177 : decode b_Law_law 177 = .ok (.iconst 2, 1) := by decide +kernel
theorem d_Law_law_178 : decode b_Law_law 178 = .ok (.iadd, 1) := by decide +kernel
theorem d_Law_law_179 : decode b_Law_law 179 = .ok (.iaload, 1) := by decide +kernel
theorem d_Law_law_180 : decode b_Law_law 180 = .ok (.aload_n 0, 1) := by decide +kernel
theorem d_Law_law_181 : decode b_Law_law 181 = .ok (.iload 4, 2) := by decide +kernel
theorem d_Law_law_183 : decode b_Law_law 183 = .ok (.iconst 3, 1) := by decide +kernel
theorem d_Law_law_184 : decode b_Law_law 184 = .ok (.iadd, 1) := by decide +kernel
theorem d_Law_law_185 : decode b_Law_law 185 = .ok (.iaload, 1) := by decide +kernel
theorem d_Law_law_186 : decode b_Law_law 186 = .ok (.aload_n 0, 1) := by decide +kernel
theorem d_Law_law_187 : decode b_Law_law 187 = .ok (.iload 4, 2) := by decide +kernel
theorem d_Law_law_189 : decode b_Law_law 189 = .ok (.iconst 4, 1) := by decide +kernel
theorem d_Law_law_190 : decode b_Law_law 190 = .ok (.iadd, 1) := by decide +kernel
theorem d_Law_law_191 : decode b_Law_law 191 = .ok (.iaload, 1) := by decide +kernel
theorem d_Law_law_192 : decode b_Law_law 192 = .ok (.invokevirtual 79, 3) := by decide +kernel
theorem d_Law_law_195 : decode b_Law_law 195 = .ok (.istore 6, 2) := by decide +kernel
theorem d_Law_law_197 : decode b_Law_law 197 = .ok (.aload_n 2, 1) := by decide +kernel
theorem d_Law_law_198 : decode b_Law_law 198 = .ok (.invokevirtual 80, 3) := by decide +kernel
theorem d_Law_law_201 : decode b_Law_law 201 = .ok (.iload 5, 2) := by decide +kernel
theorem d_Law_law_203 : decode b_Law_law 203 = .ok (.if_icmp .eq 5, 3) := by decide +kernel
theorem d_Law_law_206 : decode b_Law_law 206 = .ok (.iconst 0, 1) := by decide +kernel
theorem d_Law_law_207 : decode b_Law_law 207 = .ok (.ireturn, 1) := by decide +kernel
theorem d_Law_law_208 : decode b_Law_law 208 = .ok (.iload 5, 2) := by decide +kernel
theorem d_Law_law_210 : decode b_Law_law 210 = .ok (.ifCond .ne 15, 3) := by decide +kernel
theorem d_Law_law_213 : decode b_Law_law 213 = .ok (.aload_n 3, 1) := by decide +kernel
theorem d_Law_law_214 : decode b_Law_law 214 = .ok (.iconst 0, 1) := by decide +kernel
theorem d_Law_law_215 : decode b_Law_law 215 = .ok (.laload, 1) := by decide +kernel
theorem d_Law_law_216 : decode b_Law_law 216 = .ok (.iload 6, 2) := by decide +kernel
theorem d_Law_law_218 : decode b_Law_law 218 = .ok (.i2l, 1) := by decide +kernel
theorem d_Law_law_219 : decode b_Law_law 219 = .ok (.lcmp, 1) := by decide +kernel
theorem d_Law_law_220 : decode b_Law_law 220 = .ok (.ifCond .eq 5, 3) := by decide +kernel
theorem d_Law_law_223 : decode b_Law_law 223 = .ok (.iconst 0, 1) := by decide +kernel
theorem d_Law_law_224 : decode b_Law_law 224 = .ok (.ireturn, 1) := by decide +kernel
theorem d_Law_law_225 : decode b_Law_law 225 = .ok (.goto 907, 3) := by decide +kernel
theorem d_Law_law_228 : decode b_Law_law 228 = .ok (.aload_n 1, 1) := by decide +kernel
theorem d_Law_law_229 : decode b_Law_law 229 = .ok (.aload_n 0, 1) := by decide +kernel
theorem d_Law_law_230 : decode b_Law_law 230 = .ok (.iload 4, 2) := by decide +kernel
theorem d_Law_law_232 : decode b_Law_law 232 = .ok (.iconst 1, 1) := by decide +kernel
theorem d_Law_law_233 : decode b_Law_law 233 = .ok (.iadd, 1) := by decide +kernel
theorem d_Law_law_234 : decode b_Law_law 234 = .ok (.iaload, 1) := by decide +kernel
theorem d_Law_law_235 : decode b_Law_law 235 = .ok (.aload_n 0, 1) := by decide +kernel
theorem d_Law_law_236 : decode b_Law_law 236 = .ok (.iload 4, 2) := by decide +kernel
theorem d_Law_law_238 : decode b_Law_law 238 = .ok (.iconst 2, 1) := by decide +kernel
theorem d_Law_law_239 : decode b_Law_law 239 = .ok (.iadd, 1) := by decide +kernel
theorem d_Law_law_240 : decode b_Law_law 240 = .ok (.iaload, 1) := by decide +kernel
theorem d_Law_law_241 : decode b_Law_law 241 = .ok (.aload_n 0, 1) := by decide +kernel
theorem d_Law_law_242 : decode b_Law_law 242 = .ok (.iload 4, 2) := by decide +kernel
theorem d_Law_law_244 : decode b_Law_law 244 = .ok (.iconst 3, 1) := by decide +kernel
theorem d_Law_law_245 : decode b_Law_law 245 = .ok (.iadd, 1) := by decide +kernel
theorem d_Law_law_246 : decode b_Law_law 246 = .ok (.iaload, 1) := by decide +kernel
theorem d_Law_law_247 : decode b_Law_law 247 = .ok (.aload_n 0, 1) := by decide +kernel
theorem d_Law_law_248 : decode b_Law_law 248 = .ok (.iload 4, 2) := by decide +kernel
theorem d_Law_law_250 : decode b_Law_law 250 = .ok (.iconst 4, 1) := by decide +kernel
theorem d_Law_law_251 : decode b_Law_law 251 = .ok (.iadd, 1) := by decide +kernel
theorem d_Law_law_252 : decode b_Law_law 252 = .ok (.iaload, 1) := by decide +kernel
theorem d_Law_law_253 : decode b_Law_law 253 = .ok (.ifCond .eq 7, 3) := by decide +kernel
theorem d_Law_law_256 : decode b_Law_law 256 = .ok (.iconst 1, 1) := by decide +kernel
theorem d_Law_law_257 : decode b_Law_law 257 = .ok (.goto 4, 3) := by decide +kernel
theorem d_Law_law_260 : decode b_Law_law 260 = .ok (.iconst 0, 1) := by decide +kernel
theorem d_Law_law_261 : decode b_Law_law 261 = .ok (.aload_n 3, 1) := by decide +kernel
theorem d_Law_law_262 : decode b_Law_law 262 = .ok (.invokestatic 83, 3) := by decide +kernel
theorem d_Law_law_265 : decode b_Law_law 265 = .ok (.istore 5, 2) := by decide +kernel
theorem d_Law_law_267 : decode b_Law_law 267 = .ok (.aload_n 2, 1) := by decide +kernel
theorem d_Law_law_268 : decode b_Law_law 268 = .ok (.aload_n 0, 1) := by decide +kernel
theorem d_Law_law_269 : decode b_Law_law 269 = .ok (.iload 4, 2) := by decide +kernel
theorem d_Law_law_271 : decode b_Law_law 271 = .ok (.iconst 1, 1) := by decide +kernel
theorem d_Law_law_272 : decode b_Law_law 272 = .ok (.iadd, 1) := by decide +kernel
theorem d_Law_law_273 : decode b_Law_law 273 = .ok (.iaload, 1) := by decide +kernel
theorem d_Law_law_274 : decode b_Law_law 274 = .ok (.aload_n 0, 1) := by decide +kernel
theorem d_Law_law_275 : decode b_Law_law 275 = .ok (.iload 4, 2) := by decide +kernel
theorem d_Law_law_277 : decode b_Law_law 277 = .ok (.iconst 2, 1) := by decide +kernel
theorem d_Law_law_278 : decode b_Law_law 278 = .ok (.iadd, 1) := by decide +kernel
theorem d_Law_law_279 : decode b_Law_law 279 = .ok (.iaload, 1) := by decide +kernel
theorem d_Law_law_280 : decode b_Law_law 280 = .ok (.aload_n 0, 1) := by decide +kernel
theorem d_Law_law_281 : decode b_Law_law 281 = .ok (.iload 4, 2) := by decide +kernel
theorem d_Law_law_283 : decode b_Law_law 283 = .ok (.iconst 3, 1) := by decide +kernel
theorem d_Law_law_284 : decode b_Law_law 284 = .ok (.iadd, 1) := by decide +kernel
theorem d_Law_law_285 : decode b_Law_law 285 = .ok (.iaload, 1) := by decide +kernel
theorem d_Law_law_286 : decode b_Law_law 286 = .ok (.aload_n 0, 1) := by decide +kernel
theorem d_Law_law_287 : decode b_Law_law 287 = .ok (.iload 4, 2) := by decide +kernel
theorem d_Law_law_289 : decode b_Law_law 289 = .ok (.iconst 4, 1) := by decide +kernel
theorem d_Law_law_290 : decode b_Law_law 290 = .ok (.iadd, 1) := by decide +kernel
theorem d_Law_law_291 : decode b_Law_law 291 = .ok (.iaload, 1) := by decide +kernel
theorem d_Law_law_292 : decode b_Law_law 292 = .ok (.ifCond .eq 7, 3) := by decide +kernel
theorem d_Law_law_295 : decode b_Law_law 295 = .ok (.iconst 1, 1) := by decide +kernel
theorem d_Law_law_296 : decode b_Law_law 296 = .ok (.goto 4, 3) := by decide +kernel
theorem d_Law_law_299 : decode b_Law_law 299 = .ok (.iconst 0, 1) := by decide +kernel
theorem d_Law_law_300 : decode b_Law_law 300 = .ok (.invokevirtual 86, 3) := by decide +kernel
theorem d_Law_law_303 : decode b_Law_law 303 = .ok (.istore 6, 2) := by decide +kernel
theorem d_Law_law_305 : decode b_Law_law 305 = .ok (.aload_n 2, 1) := by decide +kernel
theorem d_Law_law_306 : decode b_Law_law 306 = .ok (.invokevirtual 80, 3) := by decide +kernel
theorem d_Law_law_309 : decode b_Law_law 309 = .ok (.iload 5, 2) := by decide +kernel
theorem d_Law_law_311 : decode b_Law_law 311 = .ok (.if_icmp .eq 5, 3) := by decide +kernel
theorem d_Law_law_314 : decode b_Law_law 314 = .ok (.iconst 0, 1) := by decide +kernel
theorem d_Law_law_315 : decode b_Law_law 315 = .ok (.ireturn, 1) := by decide +kernel
theorem d_Law_law_316 : decode b_Law_law 316 = .ok (.iload 5, 2) := by decide +kernel
theorem d_Law_law_318 : decode b_Law_law 318 = .ok (.ifCond .ne 15, 3) := by decide +kernel
theorem d_Law_law_321 : decode b_Law_law 321 = .ok (.aload_n 3, 1) := by decide +kernel
theorem d_Law_law_322 : decode b_Law_law 322 = .ok (.iconst 0, 1) := by decide +kernel
theorem d_Law_law_323 : decode b_Law_law 323 = .ok (.laload, 1) := by decide +kernel
theorem d_Law_law_324 : decode b_Law_law 324 = .ok (.iload 6, 2) := by decide +kernel
theorem d_Law_law_326 : decode b_Law_law 326 = .ok (.i2l, 1) := by decide +kernel
theorem d_Law_law_327 : decode b_Law_law 327 = .ok (.lcmp, 1) := by decide +kernel
theorem d_Law_law_328 : decode b_Law_law 328 = .ok (.ifCond .eq 5, 3) := by decide +kernel
theorem d_Law_law_331 : decode b_Law_law 331 = .ok (.iconst 0, 1) := by decide +kernel
theorem d_Law_law_332 : decode b_Law_law 332 = .ok (.ireturn, 1) := by decide +kernel
theorem d_Law_law_333 : decode b_Law_law 333 = .ok (.goto 799, 3) := by decide +kernel
theorem d_Law_law_336 : decode b_Law_law 336 = .ok (.aload_n 1, 1) := by decide +kernel
theorem d_Law_law_337 : decode b_Law_law 337 = .ok (.aload_n 0, 1) := by decide +kernel
theorem d_Law_law_338 : decode b_Law_law 338 = .ok (.iload 4, 2) := by decide +kernel
theorem d_Law_law_340 : decode b_Law_law 340 = .ok (.iconst 1, 1) := by decide +kernel
theorem d_Law_law_341 : decode b_Law_law 341 = .ok (.iadd, 1) := by decide +kernel
theorem d_Law_law_342 : decode b_Law_law 342 = .ok (.iaload, 1) := by decide +kernel
theorem d_Law_law_343 : decode b_Law_law 343 = .ok (.aload_n 3, 1) := by decide +kernel
theorem d_Law_law_344 : decode b_Law_law 344 = .ok (.invokestatic 87, 3) := by decide +kernel
theorem d_Law_law_347 : decode b_Law_law 347 = .ok (.istore 5, 2) := by decide +kernel
theorem d_Law_law_349 : decode b_Law_law 349 = .ok (.aload_n 2, 1) := by decide +kernel
theorem d_Law_law_350 : decode b_Law_law 350 = .ok (.aload_n 0, 1) := by decide +kernel
theorem d_Law_law_351 : decode b_Law_law 351 = .ok (.iload 4, 2) := by decide +kernel
theorem d_Law_law_353 : decode b_Law_law 353 = .ok (.iconst 1, 1) := by decide +kernel
theorem d_Law_law_354 : decode b_Law_law 354 = .ok (.iadd, 1) := by decide +kernel
theorem d_Law_law_355 : decode b_Law_law 355 = .ok (.iaload, 1) := by decide +kernel
theorem d_Law_law_356 : decode b_Law_law 356 = .ok (.invokevirtual 90, 3) := by decide +kernel
theorem d_Law_law_359 : decode b_Law_law 359 = .ok (.istore 6, 2) := by decide +kernel
theorem d_Law_law_361 : decode b_Law_law 361 = .ok (.aload_n 2, 1) := by decide +kernel
theorem d_Law_law_362 : decode b_Law_law 362 = .ok (.invokevirtual 80, 3) := by decide +kernel
theorem d_Law_law_365 : decode b_Law_law 365 = .ok (.iload 5, 2) := by decide +kernel
theorem d_Law_law_367 : decode b_Law_law 367 = .ok (.if_icmp .eq 5, 3) := by decide +kernel
theorem d_Law_law_370 : decode b_Law_law 370 = .ok (.iconst 0, 1) := by decide +kernel
theorem d_Law_law_371 : decode b_Law_law 371 = .ok (.ireturn, 1) := by decide +kernel
theorem d_Law_law_372 : decode b_Law_law 372 = .ok (.iload 5, 2) := by decide +kernel
theorem d_Law_law_374 : decode b_Law_law 374 = .ok (.ifCond .ne 15, 3) := by decide +kernel
theorem d_Law_law_377 : decode b_Law_law 377 = .ok (.aload_n 3, 1) := by decide +kernel
theorem d_Law_law_378 : decode b_Law_law 378 = .ok (.iconst 0, 1) := by decide +kernel
theorem d_Law_law_379 : decode b_Law_law 379 = .ok (.laload, 1) := by decide +kernel
theorem d_Law_law_380 : decode b_Law_law 380 = .ok (.iload 6, 2) := by decide +kernel
theorem d_Law_law_382 : decode b_Law_law 382 = .ok (.i2l, 1) := by decide +kernel
theorem d_Law_law_383 : decode b_Law_law 383 = .ok (.lcmp, 1) := by decide +kernel
theorem d_Law_law_384 : decode b_Law_law 384 = .ok (.ifCond .eq 5, 3) := by decide +kernel
theorem d_Law_law_387 : decode b_Law_law 387 = .ok (.iconst 0, 1) := by decide +kernel
theorem d_Law_law_388 : decode b_Law_law 388 = .ok (.ireturn, 1) := by decide +kernel
theorem d_Law_law_389 : decode b_Law_law 389 = .ok (.goto 743, 3) := by decide +kernel
theorem d_Law_law_392 : decode b_Law_law 392 = .ok (.aload_n 1, 1) := by decide +kernel
theorem d_Law_law_393 : decode b_Law_law 393 = .ok (.aload_n 0, 1) := by decide +kernel
theorem d_Law_law_394 : decode b_Law_law 394 = .ok (.iload 4, 2) := by decide +kernel
theorem d_Law_law_396 : decode b_Law_law 396 = .ok (.iconst 1, 1) := by decide +kernel
theorem d_Law_law_397 : decode b_Law_law 397 = .ok (.iadd, 1) := by decide +kernel
theorem d_Law_law_398 : decode b_Law_law 398 = .ok (.iaload, 1) := by decide +kernel
theorem d_Law_law_399 : decode b_Law_law 399 = .ok (.aload_n 0, 1) := by decide +kernel
theorem d_Law_law_400 : decode b_Law_law 400 = .ok (.iload 4, 2) := by decide +kernel
theorem d_Law_law_402 : decode b_Law_law 402 = .ok (.iconst 2, 1) := by decide +kernel
theorem d_Law_law_403 : decode b_Law_law 403 = .ok (.iadd, 1) := by decide +kernel
theorem d_Law_law_404 : decode b_Law_law 404 = .ok (.iaload, 1) := by decide +kernel
theorem d_Law_law_405 : decode b_Law_law 405 = .ok (.aload_n 0, 1) := by decide +kernel
theorem d_Law_law_406 : decode b_Law_law 406 = .ok (.iload 4, 2) := by decide +kernel
theorem d_Law_law_408 : decode b_Law_law 408 = .ok (.iconst 3, 1) := by decide +kernel
theorem d_Law_law_409 : decode b_Law_law 409 = .ok (.iadd, 1) := by decide +kernel
theorem d_Law_law_410 : decode b_Law_law 410 = .ok (.iaload, 1) := by decide +kernel
theorem d_Law_law_411 : decode b_Law_law 411 = .ok (.ifCond .eq 7, 3) := by decide +kernel
theorem d_Law_law_414 : decode b_Law_law 414 = .ok (.iconst 1, 1) := by decide +kernel
theorem d_Law_law_415 : decode b_Law_law 415 = .ok (.goto 4, 3) := by decide +kernel
theorem d_Law_law_418 : decode b_Law_law 418 = .ok (.iconst 0, 1) := by decide +kernel
theorem d_Law_law_419 : decode b_Law_law 419 = .ok (.aload_n 3, 1) := by decide +kernel
theorem d_Law_law_420 : decode b_Law_law 420 = .ok (.invokestatic 91, 3) := by decide +kernel
theorem d_Law_law_423 : decode b_Law_law 423 = .ok (.istore 5, 2) := by decide +kernel
theorem d_Law_law_425 : decode b_Law_law 425 = .ok (.aload_n 2, 1) := by decide +kernel
theorem d_Law_law_426 : decode b_Law_law 426 = .ok (.aload_n 0, 1) := by decide +kernel
theorem d_Law_law_427 : decode b_Law_law 427 = .ok (.iload 4, 2) := by decide +kernel
theorem d_Law_law_429 : decode b_Law_law 429 = .ok (.iconst 1, 1) := by decide +kernel
theorem d_Law_law_430 : decode b_Law_law 430 = .ok (.iadd, 1) := by decide +kernel
theorem d_Law_law_431 : decode b_Law_law 431 = .ok (.iaload, 1) := by decide +kernel
theorem d_Law_law_432 : decode b_Law_law 432 = .ok (.aload_n 0, 1) := by decide +kernel
theorem d_Law_law_433 : decode b_Law_law 433 = .ok (.iload 4, 2) := by decide +kernel
theorem d_Law_law_435 : decode b_Law_law 435 = .ok (.iconst 2, 1) := by decide +kernel
theorem d_Law_law_436 : decode b_Law_law 436 = .ok (.iadd, 1) := by decide +kernel
theorem d_Law_law_437 : decode b_Law_law 437 = .ok (.iaload, 1) := by decide +kernel
theorem d_Law_law_438 : decode b_Law_law 438 = .ok (.aload_n 0, 1) := by decide +kernel
theorem d_Law_law_439 : decode b_Law_law 439 = .ok (.iload 4, 2) := by decide +kernel
theorem d_Law_law_441 : decode b_Law_law 441 = .ok (.iconst 3, 1) := by decide +kernel
theorem d_Law_law_442 : decode b_Law_law 442 = .ok (.iadd, 1) := by decide +kernel
theorem d_Law_law_443 : decode b_Law_law 443 = .ok (.iaload, 1) := by decide +kernel
theorem d_Law_law_444 : decode b_Law_law 444 = .ok (.ifCond .eq 7, 3) := by decide +kernel
theorem d_Law_law_447 : decode b_Law_law 447 = .ok (.iconst 1, 1) := by decide +kernel
theorem d_Law_law_448 : decode b_Law_law 448 = .ok (.goto 4, 3) := by decide +kernel
theorem d_Law_law_451 : decode b_Law_law 451 = .ok (.iconst 0, 1) := by decide +kernel
theorem d_Law_law_452 : decode b_Law_law 452 = .ok (.invokevirtual 94, 3) := by decide +kernel
theorem d_Law_law_455 : decode b_Law_law 455 = .ok (.istore 6, 2) := by decide +kernel
theorem d_Law_law_457 : decode b_Law_law 457 = .ok (.aload_n 2, 1) := by decide +kernel
theorem d_Law_law_458 : decode b_Law_law 458 = .ok (.invokevirtual 80, 3) := by decide +kernel
theorem d_Law_law_461 : decode b_Law_law 461 = .ok (.iload 5, 2) := by decide +kernel
theorem d_Law_law_463 : decode b_Law_law 463 = .ok (.if_icmp .eq 5, 3) := by decide +kernel
theorem d_Law_law_466 : decode b_Law_law 466 = .ok (.iconst 0, 1) := by decide +kernel
theorem d_Law_law_467 : decode b_Law_law 467 = .ok (.ireturn, 1) := by decide +kernel
theorem d_Law_law_468 : decode b_Law_law 468 = .ok (.iload 5, 2) := by decide +kernel
theorem d_Law_law_470 : decode b_Law_law 470 = .ok (.ifCond .ne 15, 3) := by decide +kernel
theorem d_Law_law_473 : decode b_Law_law 473 = .ok (.aload_n 3, 1) := by decide +kernel
theorem d_Law_law_474 : decode b_Law_law 474 = .ok (.iconst 0, 1) := by decide +kernel
theorem d_Law_law_475 : decode b_Law_law 475 = .ok (.laload, 1) := by decide +kernel
theorem d_Law_law_476 : decode b_Law_law 476 = .ok (.iload 6, 2) := by decide +kernel
theorem d_Law_law_478 : decode b_Law_law 478 = .ok (.i2l, 1) := by decide +kernel
theorem d_Law_law_479 : decode b_Law_law 479 = .ok (.lcmp, 1) := by decide +kernel
theorem d_Law_law_480 : decode b_Law_law 480 = .ok (.ifCond .eq 5, 3) := by decide +kernel
theorem d_Law_law_483 : decode b_Law_law 483 = .ok (.iconst 0, 1) := by decide +kernel
theorem d_Law_law_484 : decode b_Law_law 484 = .ok (.ireturn, 1) := by decide +kernel
theorem d_Law_law_485 : decode b_Law_law 485 = .ok (.goto 647, 3) := by decide +kernel
theorem d_Law_law_488 : decode b_Law_law 488 = .ok (.aload_n 1, 1) := by decide +kernel
theorem d_Law_law_489 : decode b_Law_law 489 = .ok (.aload_n 0, 1) := by decide +kernel
theorem d_Law_law_490 : decode b_Law_law 490 = .ok (.iload 4, 2) := by decide +kernel
theorem d_Law_law_492 : decode b_Law_law 492 = .ok (.iconst 1, 1) := by decide +kernel
theorem d_Law_law_493 : decode b_Law_law 493 = .ok (.iadd, 1) := by decide +kernel
theorem d_Law_law_494 : decode b_Law_law 494 = .ok (.iaload, 1) := by decide +kernel
theorem d_Law_law_495 : decode b_Law_law 495 = .ok (.aload_n 0, 1) := by decide +kernel
theorem d_Law_law_496 : decode b_Law_law 496 = .ok (.iload 4, 2) := by decide +kernel
theorem d_Law_law_498 : decode b_Law_law 498 = .ok (.iconst 2, 1) := by decide +kernel
theorem d_Law_law_499 : decode b_Law_law 499 = .ok (.iadd, 1) := by decide +kernel
theorem d_Law_law_500 : decode b_Law_law 500 = .ok (.iaload, 1) := by decide +kernel
theorem d_Law_law_501 : decode b_Law_law 501 = .ok (.aload_n 0, 1) := by decide +kernel
theorem d_Law_law_502 : decode b_Law_law 502 = .ok (.iload 4, 2) := by decide +kernel
theorem d_Law_law_504 : decode b_Law_law 504 = .ok (.iconst 3, 1) := by decide +kernel
theorem d_Law_law_505 : decode b_Law_law 505 = .ok (.iadd, 1) := by decide +kernel
theorem d_Law_law_506 : decode b_Law_law 506 = .ok (.iaload, 1) := by decide +kernel
theorem d_Law_law_507 : decode b_Law_law 507 = .ok (.aload_n 3, 1) := by decide +kernel
theorem d_Law_law_508 : decode b_Law_law 508 = .ok (.invokestatic 95, 3) := by decide +kernel
theorem d_Law_law_511 : decode b_Law_law 511 = .ok (.istore 5, 2) := by decide +kernel
theorem d_Law_law_513 : decode b_Law_law 513 = .ok (.aload_n 2, 1) := by decide +kernel
theorem d_Law_law_514 : decode b_Law_law 514 = .ok (.aload_n 0, 1) := by decide +kernel
theorem d_Law_law_515 : decode b_Law_law 515 = .ok (.iload 4, 2) := by decide +kernel
theorem d_Law_law_517 : decode b_Law_law 517 = .ok (.iconst 1, 1) := by decide +kernel
theorem d_Law_law_518 : decode b_Law_law 518 = .ok (.iadd, 1) := by decide +kernel
theorem d_Law_law_519 : decode b_Law_law 519 = .ok (.iaload, 1) := by decide +kernel
theorem d_Law_law_520 : decode b_Law_law 520 = .ok (.aload_n 0, 1) := by decide +kernel
theorem d_Law_law_521 : decode b_Law_law 521 = .ok (.iload 4, 2) := by decide +kernel
theorem d_Law_law_523 : decode b_Law_law 523 = .ok (.iconst 2, 1) := by decide +kernel
theorem d_Law_law_524 : decode b_Law_law 524 = .ok (.iadd, 1) := by decide +kernel
theorem d_Law_law_525 : decode b_Law_law 525 = .ok (.iaload, 1) := by decide +kernel
theorem d_Law_law_526 : decode b_Law_law 526 = .ok (.aload_n 0, 1) := by decide +kernel
theorem d_Law_law_527 : decode b_Law_law 527 = .ok (.iload 4, 2) := by decide +kernel
theorem d_Law_law_529 : decode b_Law_law 529 = .ok (.iconst 3, 1) := by decide +kernel
theorem d_Law_law_530 : decode b_Law_law 530 = .ok (.iadd, 1) := by decide +kernel
theorem d_Law_law_531 : decode b_Law_law 531 = .ok (.iaload, 1) := by decide +kernel
theorem d_Law_law_532 : decode b_Law_law 532 = .ok (.invokevirtual 98, 3) := by decide +kernel
theorem d_Law_law_535 : decode b_Law_law 535 = .ok (.istore 6, 2) := by decide +kernel
theorem d_Law_law_537 : decode b_Law_law 537 = .ok (.aload_n 2, 1) := by decide +kernel
theorem d_Law_law_538 : decode b_Law_law 538 = .ok (.invokevirtual 80, 3) := by decide +kernel
theorem d_Law_law_541 : decode b_Law_law 541 = .ok (.iload 5, 2) := by decide +kernel
theorem d_Law_law_543 : decode b_Law_law 543 = .ok (.if_icmp .eq 5, 3) := by decide +kernel
theorem d_Law_law_546 : decode b_Law_law 546 = .ok (.iconst 0, 1) := by decide +kernel
theorem d_Law_law_547 : decode b_Law_law 547 = .ok (.ireturn, 1) := by decide +kernel
theorem d_Law_law_548 : decode b_Law_law 548 = .ok (.iload 5, 2) := by decide +kernel
theorem d_Law_law_550 : decode b_Law_law 550 = .ok (.ifCond .ne 15, 3) := by decide +kernel
theorem d_Law_law_553 : decode b_Law_law 553 = .ok (.aload_n 3, 1) := by decide +kernel
theorem d_Law_law_554 : decode b_Law_law 554 = .ok (.iconst 0, 1) := by decide +kernel
theorem d_Law_law_555 : decode b_Law_law 555 = .ok (.laload, 1) := by decide +kernel
theorem d_Law_law_556 : decode b_Law_law 556 = .ok (.iload 6, 2) := by decide +kernel
theorem d_Law_law_558 : decode b_Law_law 558 = .ok (.i2l, 1) := by decide +kernel
theorem d_Law_law_559 : decode b_Law_law 559 = .ok (.lcmp, 1) := by decide +kernel
theorem d_Law_law_560 : decode b_Law_law 560 = .ok (.ifCond .eq 5, 3) := by decide +kernel
theorem d_Law_law_563 : decode b_Law_law 563 = .ok (.iconst 0, 1) := by decide +kernel
theorem d_Law_law_564 : decode b_Law_law 564 = .ok (.ireturn, 1) := by decide +kernel
theorem d_Law_law_565 : decode b_Law_law 565 = .ok (.goto 567, 3) := by decide +kernel
theorem d_Law_law_568 : decode b_Law_law 568 = .ok (.aload_n 1, 1) := by decide +kernel
theorem d_Law_law_569 : decode b_Law_law 569 = .ok (.aload_n 0, 1) := by decide +kernel
theorem d_Law_law_570 : decode b_Law_law 570 = .ok (.iload 4, 2) := by decide +kernel
theorem d_Law_law_572 : decode b_Law_law 572 = .ok (.iconst 1, 1) := by decide +kernel
theorem d_Law_law_573 : decode b_Law_law 573 = .ok (.iadd, 1) := by decide +kernel
theorem d_Law_law_574 : decode b_Law_law 574 = .ok (.iaload, 1) := by decide +kernel
theorem d_Law_law_575 : decode b_Law_law 575 = .ok (.aload_n 0, 1) := by decide +kernel
theorem d_Law_law_576 : decode b_Law_law 576 = .ok (.iload 4, 2) := by decide +kernel
theorem d_Law_law_578 : decode b_Law_law 578 = .ok (.iconst 2, 1) := by decide +kernel
theorem d_Law_law_579 : decode b_Law_law 579 = .ok (.iadd, 1) := by decide +kernel
theorem d_Law_law_580 : decode b_Law_law 580 = .ok (.iaload, 1) := by decide +kernel
theorem d_Law_law_581 : decode b_Law_law 581 = .ok (.aload_n 0, 1) := by decide +kernel
theorem d_Law_law_582 : decode b_Law_law 582 = .ok (.iload 4, 2) := by decide +kernel
theorem d_Law_law_584 : decode b_Law_law 584 = .ok (.iconst 3, 1) := by decide +kernel
theorem d_Law_law_585 : decode b_Law_law 585 = .ok (.iadd, 1) := by decide +kernel
theorem d_Law_law_586 : decode b_Law_law 586 = .ok (.iaload, 1) := by decide +kernel
theorem d_Law_law_587 : decode b_Law_law 587 = .ok (.aload_n 3, 1) := by decide +kernel
theorem d_Law_law_588 : decode b_Law_law 588 = .ok (.invokestatic 99, 3) := by decide +kernel
theorem d_Law_law_591 : decode b_Law_law 591 = .ok (.istore 5, 2) := by decide +kernel
theorem d_Law_law_593 : decode b_Law_law 593 = .ok (.aload_n 2, 1) := by decide +kernel
theorem d_Law_law_594 : decode b_Law_law 594 = .ok (.aload_n 0, 1) := by decide +kernel
theorem d_Law_law_595 : decode b_Law_law 595 = .ok (.iload 4, 2) := by decide +kernel
theorem d_Law_law_597 : decode b_Law_law 597 = .ok (.iconst 1, 1) := by decide +kernel
theorem d_Law_law_598 : decode b_Law_law 598 = .ok (.iadd, 1) := by decide +kernel
theorem d_Law_law_599 : decode b_Law_law 599 = .ok (.iaload, 1) := by decide +kernel
theorem d_Law_law_600 : decode b_Law_law 600 = .ok (.aload_n 0, 1) := by decide +kernel
theorem d_Law_law_601 : decode b_Law_law 601 = .ok (.iload 4, 2) := by decide +kernel
theorem d_Law_law_603 : decode b_Law_law 603 = .ok (.iconst 2, 1) := by decide +kernel
theorem d_Law_law_604 : decode b_Law_law 604 = .ok (.iadd, 1) := by decide +kernel
theorem d_Law_law_605 : decode b_Law_law 605 = .ok (.iaload, 1) := by decide +kernel
theorem d_Law_law_606 : decode b_Law_law 606 = .ok (.aload_n 0, 1) := by decide +kernel
theorem d_Law_law_607 : decode b_Law_law 607 = .ok (.iload 4, 2) := by decide +kernel
theorem d_Law_law_609 : decode b_Law_law 609 = .ok (.iconst 3, 1) := by decide +kernel
theorem d_Law_law_610 : decode b_Law_law 610 = .ok (.iadd, 1) := by decide +kernel
theorem d_Law_law_611 : decode b_Law_law 611 = .ok (.iaload, 1) := by decide +kernel
theorem d_Law_law_612 : decode b_Law_law 612 = .ok (.invokevirtual 101, 3) := by decide +kernel
theorem d_Law_law_615 : decode b_Law_law 615 = .ok (.istore 6, 2) := by decide +kernel
theorem d_Law_law_617 : decode b_Law_law 617 = .ok (.aload_n 2, 1) := by decide +kernel
theorem d_Law_law_618 : decode b_Law_law 618 = .ok (.invokevirtual 80, 3) := by decide +kernel
theorem d_Law_law_621 : decode b_Law_law 621 = .ok (.iload 5, 2) := by decide +kernel
theorem d_Law_law_623 : decode b_Law_law 623 = .ok (.if_icmp .eq 5, 3) := by decide +kernel
theorem d_Law_law_626 : decode b_Law_law 626 = .ok (.iconst 0, 1) := by decide +kernel
theorem d_Law_law_627 : decode b_Law_law 627 = .ok (.ireturn, 1) := by decide +kernel
theorem d_Law_law_628 : decode b_Law_law 628 = .ok (.iload 5, 2) := by decide +kernel
theorem d_Law_law_630 : decode b_Law_law 630 = .ok (.ifCond .ne 22, 3) := by decide +kernel
theorem d_Law_law_633 : decode b_Law_law 633 = .ok (.aload_n 3, 1) := by decide +kernel
theorem d_Law_law_634 : decode b_Law_law 634 = .ok (.iconst 0, 1) := by decide +kernel
theorem d_Law_law_635 : decode b_Law_law 635 = .ok (.laload, 1) := by decide +kernel
theorem d_Law_law_636 : decode b_Law_law 636 = .ok (.iload 6, 2) := by decide +kernel
theorem d_Law_law_638 : decode b_Law_law 638 = .ok (.ifCond .eq 7, 3) := by decide +kernel
theorem d_Law_law_641 : decode b_Law_law 641 = .ok (.lconst 1, 1) := by decide +kernel
theorem d_Law_law_642 : decode b_Law_law 642 = .ok (.goto 4, 3) := by decide +kernel
theorem d_Law_law_645 : decode b_Law_law 645 = .ok (.lconst 0, 1) := by decide +kernel
theorem d_Law_law_646 : decode b_Law_law 646 = .ok (.lcmp, 1) := by decide +kernel
theorem d_Law_law_647 : decode b_Law_law 647 = .ok (.ifCond .eq 5, 3) := by decide +kernel
theorem d_Law_law_650 : decode b_Law_law 650 = .ok (.iconst 0, 1) := by decide +kernel
theorem d_Law_law_651 : decode b_Law_law 651 = .ok (.ireturn, 1) := by decide +kernel
theorem d_Law_law_652 : decode b_Law_law 652 = .ok (.goto 480, 3) := by decide +kernel
theorem d_Law_law_655 : decode b_Law_law 655 = .ok (.aload_n 1, 1) := by decide +kernel
theorem d_Law_law_656 : decode b_Law_law 656 = .ok (.aload_n 0, 1) := by decide +kernel
theorem d_Law_law_657 : decode b_Law_law 657 = .ok (.iload 4, 2) := by decide +kernel
theorem d_Law_law_659 : decode b_Law_law 659 = .ok (.iconst 1, 1) := by decide +kernel
theorem d_Law_law_660 : decode b_Law_law 660 = .ok (.iadd, 1) := by decide +kernel
theorem d_Law_law_661 : decode b_Law_law 661 = .ok (.iaload, 1) := by decide +kernel
theorem d_Law_law_662 : decode b_Law_law 662 = .ok (.aload_n 0, 1) := by decide +kernel
theorem d_Law_law_663 : decode b_Law_law 663 = .ok (.iload 4, 2) := by decide +kernel
theorem d_Law_law_665 : decode b_Law_law 665 = .ok (.iconst 2, 1) := by decide +kernel
theorem d_Law_law_666 : decode b_Law_law 666 = .ok (.iadd, 1) := by decide +kernel
theorem d_Law_law_667 : decode b_Law_law 667 = .ok (.iaload, 1) := by decide +kernel
theorem d_Law_law_668 : decode b_Law_law 668 = .ok (.aload_n 3, 1) := by decide +kernel
theorem d_Law_law_669 : decode b_Law_law 669 = .ok (.invokestatic 102, 3) := by decide +kernel
theorem d_Law_law_672 : decode b_Law_law 672 = .ok (.istore 5, 2) := by decide +kernel
theorem d_Law_law_674 : decode b_Law_law 674 = .ok (.aload_n 2, 1) := by decide +kernel
theorem d_Law_law_675 : decode b_Law_law 675 = .ok (.aload_n 0, 1) := by decide +kernel
theorem d_Law_law_676 : decode b_Law_law 676 = .ok (.iload 4, 2) := by decide +kernel
theorem d_Law_law_678 : decode b_Law_law 678 = .ok (.iconst 1, 1) := by decide +kernel
theorem d_Law_law_679 : decode b_Law_law 679 = .ok (.iadd, 1) := by decide +kernel
theorem d_Law_law_680 : decode b_Law_law 680 = .ok (.iaload, 1) := by decide +kernel
theorem d_Law_law_681 : decode b_Law_law 681 = .ok (.aload_n 0, 1) := by decide +kernel
theorem d_Law_law_682 : decode b_Law_law 682 = .ok (.iload 4, 2) := by decide +kernel
theorem d_Law_law_684 : decode b_Law_law 684 = .ok (.iconst 2, 1) := by decide +kernel
theorem d_Law_law_685 : decode b_Law_law 685 = .ok (.iadd, 1) := by decide +kernel
theorem d_Law_law_686 : decode b_Law_law 686 = .ok (.iaload, 1) := by decide +kernel
theorem d_Law_law_687 : decode b_Law_law 687 = .ok (.invokevirtual 105, 3) := by decide +kernel
theorem d_Law_law_690 : decode b_Law_law 690 = .ok (.istore 6, 2) := by decide +kernel
theorem d_Law_law_692 : decode b_Law_law 692 = .ok (.aload_n 2, 1) := by decide +kernel
theorem d_Law_law_693 : decode b_Law_law 693 = .ok (.invokevirtual 80, 3) := by decide +kernel
theorem d_Law_law_696 : decode b_Law_law 696 = .ok (.iload 5, 2) := by decide +kernel
theorem d_Law_law_698 : decode b_Law_law 698 = .ok (.if_icmp .eq 5, 3) := by decide +kernel
theorem d_Law_law_701 : decode b_Law_law 701 = .ok (.iconst 0, 1) := by decide +kernel
theorem d_Law_law_702 : decode b_Law_law 702 = .ok (.ireturn, 1) := by decide +kernel
theorem d_Law_law_703 : decode b_Law_law 703 = .ok (.iload 5, 2) := by decide +kernel
theorem d_Law_law_705 : decode b_Law_law 705 = .ok (.ifCond .ne 15, 3) := by decide +kernel
theorem d_Law_law_708 : decode b_Law_law 708 = .ok (.aload_n 3, 1) := by decide +kernel
theorem d_Law_law_709 : decode b_Law_law 709 = .ok (.iconst 0, 1) := by decide +kernel
theorem d_Law_law_710 : decode b_Law_law 710 = .ok (.laload, 1) := by decide +kernel
theorem d_Law_law_711 : decode b_Law_law 711 = .ok (.iload 6, 2) := by decide +kernel
theorem d_Law_law_713 : decode b_Law_law 713 = .ok (.i2l, 1) := by decide +kernel
theorem d_Law_law_714 : decode b_Law_law 714 = .ok (.lcmp, 1) := by decide +kernel
theorem d_Law_law_715 : decode b_Law_law 715 = .ok (.ifCond .eq 5, 3) := by decide +kernel
theorem d_Law_law_718 : decode b_Law_law 718 = .ok (.iconst 0, 1) := by decide +kernel
theorem d_Law_law_719 : decode b_Law_law 719 = .ok (.ireturn, 1) := by decide +kernel
theorem d_Law_law_720 : decode b_Law_law 720 = .ok (.goto 412, 3) := by decide +kernel
theorem d_Law_law_723 : decode b_Law_law 723 = .ok (.aload_n 1, 1) := by decide +kernel
theorem d_Law_law_724 : decode b_Law_law 724 = .ok (.aload_n 3, 1) := by decide +kernel
theorem d_Law_law_725 : decode b_Law_law 725 = .ok (.invokestatic 106, 3) := by decide +kernel
theorem d_Law_law_728 : decode b_Law_law 728 = .ok (.istore 5, 2) := by decide +kernel
theorem d_Law_law_730 : decode b_Law_law 730 = .ok (.aload_n 2, 1) := by decide +kernel
theorem d_Law_law_731 : decode b_Law_law 731 = .ok (.invokevirtual 109, 3) := by decide +kernel
theorem d_Law_law_734 : decode b_Law_law 734 = .ok (.istore 6, 2) := by decide +kernel
theorem d_Law_law_736 : decode b_Law_law 736 = .ok (.aload_n 2, 1) := by decide +kernel
theorem d_Law_law_737 : decode b_Law_law 737 = .ok (.invokevirtual 80, 3) := by decide +kernel
theorem d_Law_law_740 : decode b_Law_law 740 = .ok (.iload 5, 2) := by decide +kernel
theorem d_Law_law_742 : decode b_Law_law 742 = .ok (.if_icmp .eq 5, 3) := by decide +kernel
theorem d_Law_law_745 : decode b_Law_law 745 = .ok (.iconst 0, 1) := by decide +kernel
theorem d_Law_law_746 : decode b_Law_law 746 = .ok (.ireturn, 1) := by decide +kernel
theorem d_Law_law_747 : decode b_Law_law 747 = .ok (.iload 5, 2) := by decide +kernel
theorem d_Law_law_749 : decode b_Law_law 749 = .ok (.ifCond .ne 15, 3) := by decide +kernel
theorem d_Law_law_752 : decode b_Law_law 752 = .ok (.aload_n 3, 1) := by decide +kernel
theorem d_Law_law_753 : decode b_Law_law 753 = .ok (.iconst 0, 1) := by decide +kernel
theorem d_Law_law_754 : decode b_Law_law 754 = .ok (.laload, 1) := by decide +kernel
theorem d_Law_law_755 : decode b_Law_law 755 = .ok (.iload 6, 2) := by decide +kernel
theorem d_Law_law_757 : decode b_Law_law 757 = .ok (.i2l, 1) := by decide +kernel
theorem d_Law_law_758 : decode b_Law_law 758 = .ok (.lcmp, 1) := by decide +kernel
theorem d_Law_law_759 : decode b_Law_law 759 = .ok (.ifCond .eq 5, 3) := by decide +kernel
theorem d_Law_law_762 : decode b_Law_law 762 = .ok (.iconst 0, 1) := by decide +kernel
theorem d_Law_law_763 : decode b_Law_law 763 = .ok (.ireturn, 1) := by decide +kernel
theorem d_Law_law_764 : decode b_Law_law 764 = .ok (.goto 368, 3) := by decide +kernel
theorem d_Law_law_767 : decode b_Law_law 767 = .ok (.aload_n 1, 1) := by decide +kernel
theorem d_Law_law_768 : decode b_Law_law 768 = .ok (.aload_n 0, 1) := by decide +kernel
theorem d_Law_law_769 : decode b_Law_law 769 = .ok (.iload 4, 2) := by decide +kernel
theorem d_Law_law_771 : decode b_Law_law 771 = .ok (.iconst 1, 1) := by decide +kernel
theorem d_Law_law_772 : decode b_Law_law 772 = .ok (.iadd, 1) := by decide +kernel
theorem d_Law_law_773 : decode b_Law_law 773 = .ok (.iaload, 1) := by decide +kernel
theorem d_Law_law_774 : decode b_Law_law 774 = .ok (.aload_n 3, 1) := by decide +kernel
theorem d_Law_law_775 : decode b_Law_law 775 = .ok (.invokestatic 110, 3) := by decide +kernel
theorem d_Law_law_778 : decode b_Law_law 778 = .ok (.istore 5, 2) := by decide +kernel
theorem d_Law_law_780 : decode b_Law_law 780 = .ok (.aload_n 2, 1) := by decide +kernel
theorem d_Law_law_781 : decode b_Law_law 781 = .ok (.aload_n 0, 1) := by decide +kernel
theorem d_Law_law_782 : decode b_Law_law 782 = .ok (.iload 4, 2) := by decide +kernel
theorem d_Law_law_784 : decode b_Law_law 784 = .ok (.iconst 1, 1) := by decide +kernel
theorem d_Law_law_785 : decode b_Law_law 785 = .ok (.iadd, 1) := by decide +kernel
theorem d_Law_law_786 : decode b_Law_law 786 = .ok (.iaload, 1) := by decide +kernel
theorem d_Law_law_787 : decode b_Law_law 787 = .ok (.invokevirtual 112, 3) := by decide +kernel
theorem d_Law_law_790 : decode b_Law_law 790 = .ok (.istore 6, 2) := by decide +kernel
theorem d_Law_law_792 : decode b_Law_law 792 = .ok (.aload_n 2, 1) := by decide +kernel
theorem d_Law_law_793 : decode b_Law_law 793 = .ok (.invokevirtual 80, 3) := by decide +kernel
theorem d_Law_law_796 : decode b_Law_law 796 = .ok (.iload 5, 2) := by decide +kernel
theorem d_Law_law_798 : decode b_Law_law 798 = .ok (.if_icmp .eq 5, 3) := by decide +kernel
theorem d_Law_law_801 : decode b_Law_law 801 = .ok (.iconst 0, 1) := by decide +kernel
theorem d_Law_law_802 : decode b_Law_law 802 = .ok (.ireturn, 1) := by decide +kernel
theorem d_Law_law_803 : decode b_Law_law 803 = .ok (.iload 5, 2) := by decide +kernel
theorem d_Law_law_805 : decode b_Law_law 805 = .ok (.ifCond .ne 15, 3) := by decide +kernel
theorem d_Law_law_808 : decode b_Law_law 808 = .ok (.aload_n 3, 1) := by decide +kernel
theorem d_Law_law_809 : decode b_Law_law 809 = .ok (.iconst 0, 1) := by decide +kernel
theorem d_Law_law_810 : decode b_Law_law 810 = .ok (.laload, 1) := by decide +kernel
theorem d_Law_law_811 : decode b_Law_law 811 = .ok (.iload 6, 2) := by decide +kernel
theorem d_Law_law_813 : decode b_Law_law 813 = .ok (.i2l, 1) := by decide +kernel
theorem d_Law_law_814 : decode b_Law_law 814 = .ok (.lcmp, 1) := by decide +kernel
theorem d_Law_law_815 : decode b_Law_law 815 = .ok (.ifCond .eq 5, 3) := by decide +kernel
theorem d_Law_law_818 : decode b_Law_law 818 = .ok (.iconst 0, 1) := by decide +kernel
theorem d_Law_law_819 : decode b_Law_law 819 = .ok (.ireturn, 1) := by decide +kernel
theorem d_Law_law_820 : decode b_Law_law 820 = .ok (.goto 312, 3) := by decide +kernel
theorem d_Law_law_823 : decode b_Law_law 823 = .ok (.aload_n 1, 1) := by decide +kernel
theorem d_Law_law_824 : decode b_Law_law 824 = .ok (.aload_n 0, 1) := by decide +kernel
theorem d_Law_law_825 : decode b_Law_law 825 = .ok (.iload 4, 2) := by decide +kernel
theorem d_Law_law_827 : decode b_Law_law 827 = .ok (.iconst 1, 1) := by decide +kernel
theorem d_Law_law_828 : decode b_Law_law 828 = .ok (.iadd, 1) := by decide +kernel
theorem d_Law_law_829 : decode b_Law_law 829 = .ok (.iaload, 1) := by decide +kernel
theorem d_Law_law_830 : decode b_Law_law 830 = .ok (.aload_n 3, 1) := by decide +kernel
theorem d_Law_law_831 : decode b_Law_law 831 = .ok (.invokestatic 113, 3) := by decide +kernel
theorem d_Law_law_834 : decode b_Law_law 834 = .ok (.istore 5, 2) := by decide +kernel
theorem d_Law_law_836 : decode b_Law_law 836 = .ok (.aload_n 2, 1) := by decide +kernel
theorem d_Law_law_837 : decode b_Law_law 837 = .ok (.aload_n 0, 1) := by decide +kernel
theorem d_Law_law_838 : decode b_Law_law 838 = .ok (.iload 4, 2) := by decide +kernel
theorem d_Law_law_840 : decode b_Law_law 840 = .ok (.iconst 1, 1) := by decide +kernel
theorem d_Law_law_841 : decode b_Law_law 841 = .ok (.iadd, 1) := by decide +kernel
theorem d_Law_law_842 : decode b_Law_law 842 = .ok (.iaload, 1) := by decide +kernel
theorem d_Law_law_843 : decode b_Law_law 843 = .ok (.invokevirtual 115, 3) := by decide +kernel
theorem d_Law_law_846 : decode b_Law_law 846 = .ok (.istore 6, 2) := by decide +kernel
theorem d_Law_law_848 : decode b_Law_law 848 = .ok (.aload_n 2, 1) := by decide +kernel
theorem d_Law_law_849 : decode b_Law_law 849 = .ok (.invokevirtual 80, 3) := by decide +kernel
theorem d_Law_law_852 : decode b_Law_law 852 = .ok (.iload 5, 2) := by decide +kernel
theorem d_Law_law_854 : decode b_Law_law 854 = .ok (.if_icmp .eq 5, 3) := by decide +kernel
theorem d_Law_law_857 : decode b_Law_law 857 = .ok (.iconst 0, 1) := by decide +kernel
theorem d_Law_law_858 : decode b_Law_law 858 = .ok (.ireturn, 1) := by decide +kernel
theorem d_Law_law_859 : decode b_Law_law 859 = .ok (.iload 5, 2) := by decide +kernel
theorem d_Law_law_861 : decode b_Law_law 861 = .ok (.ifCond .ne 15, 3) := by decide +kernel
theorem d_Law_law_864 : decode b_Law_law 864 = .ok (.aload_n 3, 1) := by decide +kernel
theorem d_Law_law_865 : decode b_Law_law 865 = .ok (.iconst 0, 1) := by decide +kernel
theorem d_Law_law_866 : decode b_Law_law 866 = .ok (.laload, 1) := by decide +kernel
theorem d_Law_law_867 : decode b_Law_law 867 = .ok (.iload 6, 2) := by decide +kernel
theorem d_Law_law_869 : decode b_Law_law 869 = .ok (.i2l, 1) := by decide +kernel
theorem d_Law_law_870 : decode b_Law_law 870 = .ok (.lcmp, 1) := by decide +kernel
theorem d_Law_law_871 : decode b_Law_law 871 = .ok (.ifCond .eq 5, 3) := by decide +kernel
theorem d_Law_law_874 : decode b_Law_law 874 = .ok (.iconst 0, 1) := by decide +kernel
theorem d_Law_law_875 : decode b_Law_law 875 = .ok (.ireturn, 1) := by decide +kernel
theorem d_Law_law_876 : decode b_Law_law 876 = .ok (.goto 256, 3) := by decide +kernel
theorem d_Law_law_879 : decode b_Law_law 879 = .ok (.aload_n 1, 1) := by decide +kernel
theorem d_Law_law_880 : decode b_Law_law 880 = .ok (.aload_n 0, 1) := by decide +kernel
theorem d_Law_law_881 : decode b_Law_law 881 = .ok (.iload 4, 2) := by decide +kernel
theorem d_Law_law_883 : decode b_Law_law 883 = .ok (.iconst 1, 1) := by decide +kernel
theorem d_Law_law_884 : decode b_Law_law 884 = .ok (.iadd, 1) := by decide +kernel
theorem d_Law_law_885 : decode b_Law_law 885 = .ok (.iaload, 1) := by decide +kernel
theorem d_Law_law_886 : decode b_Law_law 886 = .ok (.aload_n 0, 1) := by decide +kernel
theorem d_Law_law_887 : decode b_Law_law 887 = .ok (.iload 4, 2) := by decide +kernel
theorem d_Law_law_889 : decode b_Law_law 889 = .ok (.iconst 2, 1) := by decide +kernel
theorem d_Law_law_890 : decode b_Law_law 890 = .ok (.iadd, 1) := by decide +kernel
theorem d_Law_law_891 : decode b_Law_law 891 = .ok (.iaload, 1) := by decide +kernel
theorem d_Law_law_892 : decode b_Law_law 892 = .ok (.aload_n 3, 1) := by decide +kernel
theorem d_Law_law_893 : decode b_Law_law 893 = .ok (.invokestatic 116, 3) := by decide +kernel
theorem d_Law_law_896 : decode b_Law_law 896 = .ok (.istore 5, 2) := by decide +kernel
theorem d_Law_law_898 : decode b_Law_law 898 = .ok (.aload_n 2, 1) := by decide +kernel
theorem d_Law_law_899 : decode b_Law_law 899 = .ok (.aload_n 0, 1) := by decide +kernel
theorem d_Law_law_900 : decode b_Law_law 900 = .ok (.iload 4, 2) := by decide +kernel
theorem d_Law_law_902 : decode b_Law_law 902 = .ok (.iconst 1, 1) := by decide +kernel
theorem d_Law_law_903 : decode b_Law_law 903 = .ok (.iadd, 1) := by decide +kernel
theorem d_Law_law_904 : decode b_Law_law 904 = .ok (.iaload, 1) := by decide +kernel
theorem d_Law_law_905 : decode b_Law_law 905 = .ok (.aload_n 0, 1) := by decide +kernel
theorem d_Law_law_906 : decode b_Law_law 906 = .ok (.iload 4, 2) := by decide +kernel
theorem d_Law_law_908 : decode b_Law_law 908 = .ok (.iconst 2, 1) := by decide +kernel
theorem d_Law_law_909 : decode b_Law_law 909 = .ok (.iadd, 1) := by decide +kernel
theorem d_Law_law_910 : decode b_Law_law 910 = .ok (.iaload, 1) := by decide +kernel
theorem d_Law_law_911 : decode b_Law_law 911 = .ok (.invokevirtual 118, 3) := by decide +kernel
theorem d_Law_law_914 : decode b_Law_law 914 = .ok (.istore 6, 2) := by decide +kernel
theorem d_Law_law_916 : decode b_Law_law 916 = .ok (.aload_n 2, 1) := by decide +kernel
theorem d_Law_law_917 : decode b_Law_law 917 = .ok (.invokevirtual 80, 3) := by decide +kernel
theorem d_Law_law_920 : decode b_Law_law 920 = .ok (.iload 5, 2) := by decide +kernel
theorem d_Law_law_922 : decode b_Law_law 922 = .ok (.if_icmp .eq 5, 3) := by decide +kernel
theorem d_Law_law_925 : decode b_Law_law 925 = .ok (.iconst 0, 1) := by decide +kernel
theorem d_Law_law_926 : decode b_Law_law 926 = .ok (.ireturn, 1) := by decide +kernel
theorem d_Law_law_927 : decode b_Law_law 927 = .ok (.iload 5, 2) := by decide +kernel
theorem d_Law_law_929 : decode b_Law_law 929 = .ok (.ifCond .ne 15, 3) := by decide +kernel
theorem d_Law_law_932 : decode b_Law_law 932 = .ok (.aload_n 3, 1) := by decide +kernel
theorem d_Law_law_933 : decode b_Law_law 933 = .ok (.iconst 0, 1) := by decide +kernel
theorem d_Law_law_934 : decode b_Law_law 934 = .ok (.laload, 1) := by decide +kernel
theorem d_Law_law_935 : decode b_Law_law 935 = .ok (.iload 6, 2) := by decide +kernel
theorem d_Law_law_937 : decode b_Law_law 937 = .ok (.i2l, 1) := by decide +kernel
theorem d_Law_law_938 : decode b_Law_law 938 = .ok (.lcmp, 1) := by decide +kernel
theorem d_Law_law_939 : decode b_Law_law 939 = .ok (.ifCond .eq 5, 3) := by decide +kernel
theorem d_Law_law_942 : decode b_Law_law 942 = .ok (.iconst 0, 1) := by decide +kernel
theorem d_Law_law_943 : decode b_Law_law 943 = .ok (.ireturn, 1) := by decide +kernel
theorem d_Law_law_944 : decode b_Law_law 944 = .ok (.goto 188, 3) := by decide +kernel
theorem d_Law_law_947 : decode b_Law_law 947 = .ok (.aload_n 1, 1) := by decide +kernel
theorem d_Law_law_948 : decode b_Law_law 948 = .ok (.aload_n 0, 1) := by decide +kernel
theorem d_Law_law_949 : decode b_Law_law 949 = .ok (.iload 4, 2) := by decide +kernel
theorem d_Law_law_951 : decode b_Law_law 951 = .ok (.iconst 1, 1) := by decide +kernel
theorem d_Law_law_952 : decode b_Law_law 952 = .ok (.iadd, 1) := by decide +kernel
theorem d_Law_law_953 : decode b_Law_law 953 = .ok (.iaload, 1) := by decide +kernel
theorem d_Law_law_954 : decode b_Law_law 954 = .ok (.aload_n 0, 1) := by decide +kernel
theorem d_Law_law_955 : decode b_Law_law 955 = .ok (.iload 4, 2) := by decide +kernel
theorem d_Law_law_957 : decode b_Law_law 957 = .ok (.iconst 2, 1) := by decide +kernel
theorem d_Law_law_958 : decode b_Law_law 958 = .ok (.iadd, 1) := by decide +kernel
theorem d_Law_law_959 : decode b_Law_law 959 = .ok (.iaload, 1) := by decide +kernel
theorem d_Law_law_960 : decode b_Law_law 960 = .ok (.aload_n 3, 1) := by decide +kernel
theorem d_Law_law_961 : decode b_Law_law 961 = .ok (.invokestatic 119, 3) := by decide +kernel
theorem d_Law_law_964 : decode b_Law_law 964 = .ok (.istore 5, 2) := by decide +kernel
theorem d_Law_law_966 : decode b_Law_law 966 = .ok (.aload_n 2, 1) := by decide +kernel
theorem d_Law_law_967 : decode b_Law_law 967 = .ok (.aload_n 0, 1) := by decide +kernel
theorem d_Law_law_968 : decode b_Law_law 968 = .ok (.iload 4, 2) := by decide +kernel
theorem d_Law_law_970 : decode b_Law_law 970 = .ok (.iconst 1, 1) := by decide +kernel
theorem d_Law_law_971 : decode b_Law_law 971 = .ok (.iadd, 1) := by decide +kernel
theorem d_Law_law_972 : decode b_Law_law 972 = .ok (.iaload, 1) := by decide +kernel
theorem d_Law_law_973 : decode b_Law_law 973 = .ok (.aload_n 0, 1) := by decide +kernel
theorem d_Law_law_974 : decode b_Law_law 974 = .ok (.iload 4, 2) := by decide +kernel
theorem d_Law_law_976 : decode b_Law_law 976 = .ok (.iconst 2, 1) := by decide +kernel
theorem d_Law_law_977 : decode b_Law_law 977 = .ok (.iadd, 1) := by decide +kernel
theorem d_Law_law_978 : decode b_Law_law 978 = .ok (.iaload, 1) := by decide +kernel
theorem d_Law_law_979 : decode b_Law_law 979 = .ok (.invokevirtual 121, 3) := by decide +kernel
theorem d_Law_law_982 : decode b_Law_law 982 = .ok (.istore 6, 2) := by decide +kernel
theorem d_Law_law_984 : decode b_Law_law 984 = .ok (.aload_n 2, 1) := by decide +kernel
theorem d_Law_law_985 : decode b_Law_law 985 = .ok (.invokevirtual 80, 3) := by decide +kernel
theorem d_Law_law_988 : decode b_Law_law 988 = .ok (.iload 5, 2) := by decide +kernel
theorem d_Law_law_990 : decode b_Law_law 990 = .ok (.if_icmp .eq 5, 3) := by decide +kernel
theorem d_Law_law_993 : decode b_Law_law 993 = .ok (.iconst 0, 1) := by decide +kernel
theorem d_Law_law_994 : decode b_Law_law 994 = .ok (.ireturn, 1) := by decide +kernel
theorem d_Law_law_995 : decode b_Law_law 995 = .ok (.iload 5, 2) := by decide +kernel
theorem d_Law_law_997 : decode b_Law_law 997 = .ok (.ifCond .ne 15, 3) := by decide +kernel
theorem d_Law_law_1000 : decode b_Law_law 1000 = .ok (.aload_n 3, 1) := by decide +kernel
theorem d_Law_law_1001 : decode b_Law_law 1001 = .ok (.iconst 0, 1) := by decide +kernel
theorem d_Law_law_1002 : decode b_Law_law 1002 = .ok (.laload, 1) := by decide +kernel
theorem d_Law_law_1003 : decode b_Law_law 1003 = .ok (.iload 6, 2) := by decide +kernel
theorem d_Law_law_1005 : decode b_Law_law 1005 = .ok (.i2l, 1) := by decide +kernel
theorem d_Law_law_1006 : decode b_Law_law 1006 = .ok (.lcmp, 1) := by decide +kernel
theorem d_Law_law_1007 : decode b_Law_law 1007 = .ok (.ifCond .eq 5, 3) := by decide +kernel
theorem d_Law_law_1010 : decode b_Law_law 1010 = .ok (.iconst 0, 1) := by decide +kernel
theorem d_Law_law_1011 : decode b_Law_law 1011 = .ok (.ireturn, 1) := by decide +kernel
theorem d_Law_law_1012 : decode b_Law_law 1012 = .ok (.goto 120, 3) := by decide +kernel
theorem d_Law_law_1015 : decode b_Law_law 1015 = .ok (.aload_n 1, 1) := by decide +kernel
theorem d_Law_law_1016 : decode b_Law_law 1016 = .ok (.invokevirtual 122, 3) := by decide +kernel
theorem d_Law_law_1019 : decode b_Law_law 1019 = .ok (.aload_n 2, 1) := by decide +kernel
theorem d_Law_law_1020 : decode b_Law_law 1020 = .ok (.invokevirtual 125, 3) := by decide +kernel
theorem d_Law_law_1023 : decode b_Law_law 1023 = .ok (.if_icmp .eq 109, 3) := by decide +kernel
theorem d_Law_law_1026 : decode b_Law_law 1026 = .ok (.iconst 0, 1) := by decide +kernel
theorem d_Law_law_1027 : decode b_Law_law 1027 = .ok (.ireturn, 1) := by decide +kernel
theorem d_Law_law_1028 : decode b_Law_law 1028 = .ok (.aload_n 1, 1) := by decide +kernel
theorem d_Law_law_1029 : decode b_Law_law 1029 = .ok (.aload_n 0, 1) := by decide +kernel
theorem d_Law_law_1030 : decode b_Law_law 1030 = .ok (.iload 4, 2) := by decide +kernel
theorem d_Law_law_1032 : decode b_Law_law 1032 = .ok (.iconst 1, 1) := by decide +kernel
theorem d_Law_law_1033 : decode b_Law_law 1033 = .ok (.iadd, 1) := by decide +kernel
theorem d_Law_law_1034 : decode b_Law_law 1034 = .ok (.iaload, 1) := by decide +kernel
theorem d_Law_law_1035 : decode b_Law_law 1035 = .ok (.aload_n 0, 1) := by decide +kernel
theorem d_Law_law_1036 : decode b_Law_law 1036 = .ok (.iload 4, 2) := by decide +kernel
theorem d_Law_law_1038 : decode b_Law_law 1038 = .ok (.iconst 2, 1) := by decide +kernel
theorem d_Law_law_1039 : decode b_Law_law 1039 = .ok (.iadd, 1) := by decide +kernel
theorem d_Law_law_1040 : decode b_Law_law 1040 = .ok (.iaload, 1) := by decide +kernel
theorem d_Law_law_1041 : decode b_Law_law 1041 = .ok (.aload_n 3, 1) := by decide +kernel
theorem d_Law_law_1042 : decode b_Law_law 1042 = .ok (.invokestatic 126, 3) := by decide +kernel
theorem d_Law_law_1045 : decode b_Law_law 1045 = .ok (.istore 5, 2) := by decide +kernel
theorem d_Law_law_1047 : decode b_Law_law 1047 = .ok (.aload_n 2, 1) := by decide +kernel
theorem d_Law_law_1048 : decode b_Law_law 1048 = .ok (.aload_n 0, 1) := by decide +kernel
theorem d_Law_law_1049 : decode b_Law_law 1049 = .ok (.iload 4, 2) := by decide +kernel
theorem d_Law_law_1051 : decode b_Law_law 1051 = .ok (.iconst 1, 1) := by decide +kernel
theorem d_Law_law_1052 : decode b_Law_law 1052 = .ok (.iadd, 1) := by decide +kernel
theorem d_Law_law_1053 : decode b_Law_law 1053 = .ok (.iaload, 1) := by decide +kernel
theorem d_Law_law_1054 : decode b_Law_law 1054 = .ok (.aload_n 0, 1) := by decide +kernel
theorem d_Law_law_1055 : decode b_Law_law 1055 = .ok (.iload 4, 2) := by decide +kernel
theorem d_Law_law_1057 : decode b_Law_law 1057 = .ok (.iconst 2, 1) := by decide +kernel
theorem d_Law_law_1058 : decode b_Law_law 1058 = .ok (.iadd, 1) := by decide +kernel
theorem d_Law_law_1059 : decode b_Law_law 1059 = .ok (.iaload, 1) := by decide +kernel
theorem d_Law_law_1060 : decode b_Law_law 1060 = .ok (.invokevirtual 128, 3) := by decide +kernel
theorem d_Law_law_1063 : decode b_Law_law 1063 = .ok (.istore 6, 2) := by decide +kernel
theorem d_Law_law_1065 : decode b_Law_law 1065 = .ok (.aload_n 2, 1) := by decide +kernel
theorem d_Law_law_1066 : decode b_Law_law 1066 = .ok (.invokevirtual 80, 3) := by decide +kernel
theorem d_Law_law_1069 : decode b_Law_law 1069 = .ok (.iload 5, 2) := by decide +kernel
theorem d_Law_law_1071 : decode b_Law_law 1071 = .ok (.if_icmp .eq 5, 3) := by decide +kernel
theorem d_Law_law_1074 : decode b_Law_law 1074 = .ok (.iconst 0, 1) := by decide +kernel
theorem d_Law_law_1075 : decode b_Law_law 1075 = .ok (.ireturn, 1) := by decide +kernel
theorem d_Law_law_1076 : decode b_Law_law 1076 = .ok (.iload 5, 2) := by decide +kernel
theorem d_Law_law_1078 : decode b_Law_law 1078 = .ok (.ifCond .ne 15, 3) := by decide +kernel
theorem d_Law_law_1081 : decode b_Law_law 1081 = .ok (.aload_n 3, 1) := by decide +kernel
theorem d_Law_law_1082 : decode b_Law_law 1082 = .ok (.iconst 0, 1) := by decide +kernel
theorem d_Law_law_1083 : decode b_Law_law 1083 = .ok (.laload, 1) := by decide +kernel
theorem d_Law_law_1084 : decode b_Law_law 1084 = .ok (.iload 6, 2) := by decide +kernel
theorem d_Law_law_1086 : decode b_Law_law 1086 = .ok (.i2l, 1) := by decide +kernel
theorem d_Law_law_1087 : decode b_Law_law 1087 = .ok (.lcmp, 1) := by decide +kernel
theorem d_Law_law_1088 : decode b_Law_law 1088 = .ok (.ifCond .eq 5, 3) := by decide +kernel
theorem d_Law_law_1091 : decode b_Law_law 1091 = .ok (.iconst 0, 1) := by decide +kernel
theorem d_Law_law_1092 : decode b_Law_law 1092 = .ok (.ireturn, 1) := by decide +kernel
theorem d_Law_law_1093 : decode b_Law_law 1093 = .ok (.goto 39, 3) := by decide +kernel
theorem d_Law_law_1096 : decode b_Law_law 1096 = .ok (.aload_n 1, 1) := by decide +kernel
theorem d_Law_law_1097 : decode b_Law_law 1097 = .ok (.aload_n 0, 1) := by decide +kernel
theorem d_Law_law_1098 : decode b_Law_law 1098 = .ok (.iload 4, 2) := by decide +kernel
theorem d_Law_law_1100 : decode b_Law_law 1100 = .ok (.iconst 1, 1) := by decide +kernel
theorem d_Law_law_1101 : decode b_Law_law 1101 = .ok (.iadd, 1) := by decide +kernel
theorem d_Law_law_1102 : decode b_Law_law 1102 = .ok (.iaload, 1) := by decide +kernel
theorem d_Law_law_1103 : decode b_Law_law 1103 = .ok (.invokevirtual 129, 3) := by decide +kernel
theorem d_Law_law_1106 : decode b_Law_law 1106 = .ok (.aload_n 2, 1) := by decide +kernel
theorem d_Law_law_1107 : decode b_Law_law 1107 = .ok (.aload_n 0, 1) := by decide +kernel
theorem d_Law_law_1108 : decode b_Law_law 1108 = .ok (.iload 4, 2) := by decide +kernel
theorem d_Law_law_1110 : decode b_Law_law 1110 = .ok (.iconst 1, 1) := by decide +kernel
theorem d_Law_law_1111 : decode b_Law_law 1111 = .ok (.iadd, 1) := by decide +kernel
theorem d_Law_law_1112 : decode b_Law_law 1112 = .ok (.iaload, 1) := by decide +kernel
theorem d_Law_law_1113 : decode b_Law_law 1113 = .ok (.invokevirtual 132, 3) := by decide +kernel
theorem d_Law_law_1116 : decode b_Law_law 1116 = .ok (.if_icmp .eq 16, 3) := by decide +kernel
theorem d_Law_law_1119 : decode b_Law_law 1119 = .ok (.iconst 0, 1) := by decide +kernel
theorem d_Law_law_1120 : decode b_Law_law 1120 = .ok (.ireturn, 1) := by decide +kernel
theorem d_Law_law_1121 : decode b_Law_law 1121 = .ok (.aload_n 1, 1) := by decide +kernel
theorem d_Law_law_1122 : decode b_Law_law 1122 = .ok (.invokevirtual 133, 3) := by decide +kernel
theorem d_Law_law_1125 : decode b_Law_law 1125 = .ok (.aload_n 2, 1) := by decide +kernel
theorem d_Law_law_1126 : decode b_Law_law 1126 = .ok (.invokevirtual 136, 3) := by decide +kernel
theorem d_Law_law_1129 : decode b_Law_law 1129 = .ok (.goto 3, 3) := by decide +kernel
theorem d_Law_law_1132 : decode b_Law_law 1132 = .ok (.iinc 4 5, 3) := by decide +kernel
theorem d_Law_law_1135 : decode b_Law_law 1135 = .ok (.goto (-1092), 3) := by decide +kernel
theorem d_Law_law_1138 : decode b_Law_law 1138 = .ok (.iconst 1, 1) := by decide +kernel
theorem d_Law_law_1139 : decode b_Law_law 1139 = .ok (.ireturn, 1) := by decide +kernel
theorem m_Law_cell : Cond.code y_Law_cell b_Law_cell 2 (some .int) ∈ BIG := mb (List.mem_of_getElem? (i := 399) (by decide +kernel)) rfl
def rm_Law_cell : Room := { frames := 0, cells := 0, slots := 0, locals := 0 }
/-! ===== the law's own reader of the script ===== -/
def PcC (av : List Value) (D : va_G) (tys : List (ClassId × FieldType)) (b L : Nat) (xs : Nat → Int32) : Array Value → State → Prop := va_Pc av (fun U => KK D tys U ∧ va_T .int b L (fun j => .int (xs j)) no U U.heap)
theorem PcC.blind {av : List Value} {D : va_G} {tys : List (ClassId × FieldType)} {b L : Nat} {xs : Nat → Int32} : FrameBlind (PcC av D tys b L xs) := fun a U g mk q => ⟨q.1, KK.blind g mk a q.2.1, va_T.moved (u := U) (U := U.calling g mk a) (Vm.Alike.refl U.vm) q.2.2⟩
theorem met_C {l : Launch} {y : MethodName} {cc : ByteArray} {maxL : Nat} {rt : FieldType} {rm : Room} {av : List Value} {D : va_G} {tys : List (ClassId × FieldType)} {b L : Nat} {xs : Nat → Int32} {r : Int32} (hy : plainName y.cls = true) (hlen : (lg_sl av).length ≤ maxL)
    (body : ∀ (p : Program) (e : Env) (s : State) (m : MethodId) (args : Array Value) (below : List Frame) (meth : Method) (c : Code), va_T .int b L (fun j => .int (xs j)) no s s.heap → Cx p s m args meth c D tys cc maxL y.cls → meth.sig.returnType = some rt → J p l e rm s m args below meth c D no (fun _ => True) maxL (MQ below (QcP r) args s 0 0 no) 0 0 [] (lv_args 0 av) [] 0) : Met l y (Cond.code y cc maxL (some rt) :: BIG) rm (PcC av D tys b L xs) (QcP r) 0 0 no := by
  refine Met.ofW (cc := cc) (maxL := maxL) (ret := some rt) hy rfl ?_
  intro p e s m args below meth c s₁ B hml hv
  obtain ⟨rfl, hKK, hT⟩ := hv
  have hts := atoms_spec (ws := Cond.code y cc maxL (some rt) :: BIG) B.pre
  have hown : s.vm.findClass y.cls = some m.cls := findClass_of_methodNamed B.named
  have hl := lv_entry av (n := maxL) hlen
  rw [lg_entry_eq]
  exact body p e s m _ below meth c hT ⟨⟨B.exec, B.bytes, hml, hown, fun w hw => hts w (List.mem_cons_of_mem _ hw)⟩, hKK.1, hKK.2, B.notSynchronized⟩ B.returns s.heap [] _ (fun k q hq => by simp at hq) trivial va_S.rf hl
section JCC
variable {p : Program} {l : Launch} {e : Env} {R : Room} {s : State} {m : MethodId} {args : Array Value} {below : List Frame} {meth : Method} {c : Code} {D : va_G} {A : Nat → Prop} {X : va_W → Prop} {nL : Nat} {Q : State → Prop} {cells slots : Nat} {ws : va_W} {lv : List (Nat × Value)} {st : List Value} {pc : Nat}
variable {tys : List (ClassId × FieldType)} {cc : ByteArray}
variable {own : String}
theorem j_CS (C : Cx p s m args meth c D tys cc nL own) {y : MethodName} {bytes : ByteArray} {maxL n index : Nat} {ret : Option FieldType} {rm : Room} (As : List Value) {rest st0 : List Value} {b L : Nat} {xs : Nat → Int32} {r : Int32} (hT : va_T .int b L (fun j => .int (xs j)) A s s.heap) (hM : Met l y (Cond.code y bytes maxL ret :: BIG) rm (PcC As D tys b L xs) (QcP r) 0 0 no) (cw : CallB R s args own index y bytes maxL ret (Cond.code y bytes maxL ret :: BIG) rm 0 0 n ∧ (Cond.static y).before args s = true) (hn : As.length = n) (hst : st0 = As.reverse ++ rest) (hW : (rest.map fun v => v.category).sum ≤ 8) (d : decode cc pc = .ok (.invokestatic index, 3)) (hf : cells ≤ R.cells ∧ slots ≤ R.slots) (k : J p l e R s m args below meth c D A (va_D A) nL Q cells slots ws lv (.int r :: rest) (pc + 3)) : J p l e R s m args below meth c D A (va_D A) nL Q cells slots ws lv st0 pc := by
  subst hst
  intro H locs ls hP hD hS h
  have hr : va_Run p l e R s m args below meth c H locs cells slots 0 0 (F0 m pc ls (As.reverse ++ rest)) rest (QcP r As.toArray) no := va_runS C.1 hM cw ⟨PcC.blind, fun U hU hW1 => ⟨rfl, C.kk.moved hW1, by rw [hU]; exact ((hT.kept hS.2.1).narrow (fun _ z => z.elim)).moved hW1.alike⟩⟩ rfl hn h.1 rfl (lv_room hW) d hf
  exact va_calli hr hS (fun _ _ z => z.elim) (fun _ z => z.elim) (fun r1 u t H1 locs1 ht hvm hw hB hz hk hS1 => by
    cases hw
    exact k H1 locs1 ls (hP.kept (fun k q hk' => hk q.1 ((hP k q hk').lt) (fun z => z.elim))) hD hS1 h)
/-- script[i + k] -/
theorem j_scr (C : Cx p s m args meth c D tys cc nL own) {t N : Nat} {f : Nat → Int32} (hT : va_T .int t N (fun j => .int (f j)) A s s.heap) (hN : N < 2 ^ 31) {i j k : Nat} (q : Nat) (hl : lv[q]? = some (i, .int (nI j))) (hlt : j + k < N) {kk : Int} (hk : Int32.ofInt kk = nI k) (d1 : decode cc pc = .ok (.iload i, 2)) (d2 : decode cc (pc + 2) = .ok (.iconst kk, 1)) (d3 : decode cc (pc + 2 + 1) = .ok (.iadd, 1)) (d4 : decode cc (pc + 2 + 1 + 1) = .ok (.iaload, 1)) (kont : J p l e R s m args below meth c D A X nL Q cells slots ws lv (.int (f (j + k)) :: st) (pc + 2 + 1 + 1 + 1)) : J p l e R s m args below meth c D A X nL Q cells slots ws lv (.ref t :: st) pc := by
  refine j_iload C q d1 hl ?_
  refine j_iconst C (v := nI k) d2 hk ?_
  refine j_iadd C d3 ?_
  rw [nI_add]
  refine j_tald C hT (nI_in hlt hN) d4 ?_
  rw [nI_clamp (by omega)]
  exact kont
theorem j_sc0 (C : Cx p s m args meth c D tys cc nL own) {t N : Nat} {f : Nat → Int32} (hT : va_T .int t N (fun j => .int (f j)) A s s.heap) (hN : N < 2 ^ 31) {i j : Nat} (q : Nat) (hl : lv[q]? = some (i, .int (nI j))) (hlt : j < N) (d1 : decode cc pc = .ok (.iload i, 2)) (d4 : decode cc (pc + 2) = .ok (.iaload, 1)) (kont : J p l e R s m args below meth c D A X nL Q cells slots ws lv (.int (f j) :: st) (pc + 2 + 1)) : J p l e R s m args below meth c D A X nL Q cells slots ws lv (.ref t :: st) pc := by
  refine j_iload C q d1 hl ?_
  refine j_tald C hT (nI_in hlt hN) d4 ?_
  rw [nI_clamp (by omega)]
  exact kont
theorem lg_cmp_self (x : Int64) : lg_cmp x x = 0 := by simp [lg_cmp]
end JCC
theorem c_Law_cell (l : Launch) (D : va_G) (cI cR cZ : ClassId) (b L : Nat) (xs : Nat → Int32) (k : Nat) (hL : L < 2 ^ 31) (hk : k < 2 ^ 31) : Met l y_Law_cell (Cond.code y_Law_cell b_Law_cell 2 (some .int) :: BIG) rm_Law_cell (PcC [.ref b, .int (nI k)] D (tyG cI cR cZ) b L xs) (QcP (if k < L then xs k else 0)) 0 0 no := by
  refine met_C (by decide) (Nat.le_of_ble_eq_true rfl) (fun p e s m args below meth c hT C hr => ?_)
  refine j_iload_n C 1 d_Law_cell_0 rfl ?_
  refine j_aload_n C 0 d_Law_cell_1 rfl ?_
  refine j_tlen C (v := nI L) hT rfl d_Law_cell_2 ?_
  refine j_icmp_ge C 12 d_Law_cell_3 (by decide) (fun c0 => ?_) (fun c0 => ?_)
  · have h1 : ¬ k < L := by rw [nI_leI hL hk] at c0; omega
    rw [if_neg h1]
    refine j_iconst C (v := 0) d_Law_cell_12 (by decide) ?_
    exact j_pret C hr d_Law_cell_13
  · have h1 : k < L := by rw [nI_leI hL hk] at c0; omega
    rw [if_pos h1]
    refine j_aload_n C 0 d_Law_cell_6 rfl ?_
    refine j_iload_n C 1 d_Law_cell_7 rfl ?_
    refine j_tald C hT (nI_in h1 hL) d_Law_cell_8 ?_
    rw [nI_clamp hk]
    refine j_goto C 13 d_Law_cell_9 (by decide) ?_
    exact j_pret C hr d_Law_cell_13
