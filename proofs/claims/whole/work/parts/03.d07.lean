theorem d_Mo_makeBlocks_122 : decode b_Mo_makeBlocks 122 = .ok (.iaload, 1) := by decide +kernel
theorem d_Mo_makeBlocks_123 : decode b_Mo_makeBlocks 123 = .ok (.goto 4, 3) := by decide +kernel
theorem d_Mo_makeBlocks_126 : decode b_Mo_makeBlocks 126 = .ok (.iload_n 3, 1) := by decide +kernel
theorem d_Mo_makeBlocks_127 : decode b_Mo_makeBlocks 127 = .ok (.istore_n 3, 1) := by decide +kernel
theorem d_Mo_makeBlocks_128 : decode b_Mo_makeBlocks 128 = .ok (.iinc 4 1, 3) := by decide +kernel
theorem d_Mo_makeBlocks_131 : decode b_Mo_makeBlocks 131 = .ok (.goto (-120), 3) := by decide +kernel
theorem d_Mo_makeBlocks_134 : decode b_Mo_makeBlocks 134 = .ok (.iconst 0, 1) := by decide +kernel
theorem d_Mo_makeBlocks_135 : decode b_Mo_makeBlocks 135 = .ok (.istore 4, 2) := by decide +kernel
theorem d_Mo_makeBlocks_137 : decode b_Mo_makeBlocks 137 = .ok (.iload 4, 2) := by decide +kernel
theorem d_Mo_makeBlocks_139 : decode b_Mo_makeBlocks 139 = .ok (.iload_n 2, 1) := by decide +kernel
theorem d_Mo_makeBlocks_140 : decode b_Mo_makeBlocks 140 = .ok (.if_icmp .ge 213, 3) := by decide +kernel
theorem d_Mo_makeBlocks_143 : decode b_Mo_makeBlocks 143 = .ok (.aload_n 0, 1) := by decide +kernel
theorem d_Mo_makeBlocks_144 : decode b_Mo_makeBlocks 144 = .ok (.iload_n 1, 1) := by decide +kernel
theorem d_Mo_makeBlocks_145 : decode b_Mo_makeBlocks 145 = .ok (.iload 4, 2) := by decide +kernel
theorem d_Mo_makeBlocks_147 : decode b_Mo_makeBlocks 147 = .ok (.invokevirtual 88, 3) := by decide +kernel
theorem d_Mo_makeBlocks_150 : decode b_Mo_makeBlocks 150 = .ok (.istore 5, 2) := by decide +kernel
theorem d_Mo_makeBlocks_152 : decode b_Mo_makeBlocks 152 = .ok (.aload_n 0, 1) := by decide +kernel
theorem d_Mo_makeBlocks_153 : decode b_Mo_makeBlocks 153 = .ok (.getfield 24, 3) := by decide +kernel
theorem d_Mo_makeBlocks_156 : decode b_Mo_makeBlocks 156 = .ok (.iload 5, 2) := by decide +kernel
theorem d_Mo_makeBlocks_158 : decode b_Mo_makeBlocks 158 = .ok (.baload, 1) := by decide +kernel
theorem d_Mo_makeBlocks_159 : decode b_Mo_makeBlocks 159 = .ok (.ifCond .ne 6, 3) := by decide +kernel
theorem d_Mo_makeBlocks_162 : decode b_Mo_makeBlocks 162 = .ok (.goto 185, 3) := by decide +kernel
theorem d_Mo_makeBlocks_165 : decode b_Mo_makeBlocks 165 = .ok (.iload 4, 2) := by decide +kernel
theorem d_Mo_makeBlocks_167 : decode b_Mo_makeBlocks 167 = .ok (.aload_n 0, 1) := by decide +kernel
theorem d_Mo_makeBlocks_168 : decode b_Mo_makeBlocks 168 = .ok (.iload_n 1, 1) := by decide +kernel
theorem d_Mo_makeBlocks_169 : decode b_Mo_makeBlocks 169 = .ok (.invokevirtual 85, 3) := by decide +kernel
theorem d_Mo_makeBlocks_172 : decode b_Mo_makeBlocks 172 = .ok (.irem, 1) := by decide +kernel
theorem d_Mo_makeBlocks_173 : decode b_Mo_makeBlocks 173 = .ok (.ifCond .le 7, 3) := by decide +kernel
theorem d_Mo_makeBlocks_176 : decode b_Mo_makeBlocks 176 = .ok (.iconst 1, 1) := by decide +kernel
theorem d_Mo_makeBlocks_177 : decode b_Mo_makeBlocks 177 = .ok (.goto 4, 3) := by decide +kernel
theorem d_Mo_makeBlocks_180 : decode b_Mo_makeBlocks 180 = .ok (.iconst 0, 1) := by decide +kernel
theorem d_Mo_makeBlocks_181 : decode b_Mo_makeBlocks 181 = .ok (.istore 6, 2) := by decide +kernel
theorem d_Mo_makeBlocks_183 : decode b_Mo_makeBlocks 183 = .ok (.iload 4, 2) := by decide +kernel
theorem d_Mo_makeBlocks_185 : decode b_Mo_makeBlocks 185 = .ok (.aload_n 0, 1) := by decide +kernel
theorem d_Mo_makeBlocks_186 : decode b_Mo_makeBlocks 186 = .ok (.iload_n 1, 1) := by decide +kernel
theorem d_Mo_makeBlocks_187 : decode b_Mo_makeBlocks 187 = .ok (.invokevirtual 85, 3) := by decide +kernel
theorem d_Mo_makeBlocks_190 : decode b_Mo_makeBlocks 190 = .ok (.if_icmp .lt 7, 3) := by decide +kernel
theorem d_Mo_makeBlocks_193 : decode b_Mo_makeBlocks 193 = .ok (.iconst 1, 1) := by decide +kernel
theorem d_Mo_makeBlocks_194 : decode b_Mo_makeBlocks 194 = .ok (.goto 4, 3) := by decide +kernel
theorem d_Mo_makeBlocks_197 : decode b_Mo_makeBlocks 197 = .ok (.iconst 0, 1) := by decide +kernel
theorem d_Mo_makeBlocks_198 : decode b_Mo_makeBlocks 198 = .ok (.istore 7, 2) := by decide +kernel
theorem d_Mo_makeBlocks_200 : decode b_Mo_makeBlocks 200 = .ok (.iload 6, 2) := by decide +kernel
theorem d_Mo_makeBlocks_202 : decode b_Mo_makeBlocks 202 = .ok (.ifCond .eq 20, 3) := by decide +kernel
theorem d_Mo_makeBlocks_205 : decode b_Mo_makeBlocks 205 = .ok (.aload_n 0, 1) := by decide +kernel
theorem d_Mo_makeBlocks_206 : decode b_Mo_makeBlocks 206 = .ok (.getfield 21, 3) := by decide +kernel
theorem d_Mo_makeBlocks_209 : decode b_Mo_makeBlocks 209 = .ok (.aload_n 0, 1) := by decide +kernel
theorem d_Mo_makeBlocks_210 : decode b_Mo_makeBlocks 210 = .ok (.iload_n 1, 1) := by decide +kernel
theorem d_Mo_makeBlocks_211 : decode b_Mo_makeBlocks 211 = .ok (.iload 4, 2) := by decide +kernel
theorem d_Mo_makeBlocks_213 : decode b_Mo_makeBlocks 213 = .ok (.iconst 1, 1) := by decide +kernel
theorem d_Mo_makeBlocks_214 : decode b_Mo_makeBlocks 214 = .ok (.isub, 1) := by decide +kernel
theorem d_Mo_makeBlocks_215 : decode b_Mo_makeBlocks 215 = .ok (.invokevirtual 88, 3) := by decide +kernel
theorem d_Mo_makeBlocks_218 : decode b_Mo_makeBlocks 218 = .ok (.iaload, 1) := by decide +kernel
theorem d_Mo_makeBlocks_219 : decode b_Mo_makeBlocks 219 = .ok (.goto 4, 3) := by decide +kernel
theorem d_Mo_makeBlocks_222 : decode b_Mo_makeBlocks 222 = .ok (.iconst 0, 1) := by decide +kernel
theorem d_Mo_makeBlocks_223 : decode b_Mo_makeBlocks 223 = .ok (.istore 8, 2) := by decide +kernel
theorem d_Mo_makeBlocks_225 : decode b_Mo_makeBlocks 225 = .ok (.iload 7, 2) := by decide +kernel
theorem d_Mo_makeBlocks_227 : decode b_Mo_makeBlocks 227 = .ok (.ifCond .eq 24, 3) := by decide +kernel
theorem d_Mo_makeBlocks_230 : decode b_Mo_makeBlocks 230 = .ok (.aload_n 0, 1) := by decide +kernel
theorem d_Mo_makeBlocks_231 : decode b_Mo_makeBlocks 231 = .ok (.getfield 21, 3) := by decide +kernel
theorem d_Mo_makeBlocks_234 : decode b_Mo_makeBlocks 234 = .ok (.aload_n 0, 1) := by decide +kernel
theorem d_Mo_makeBlocks_235 : decode b_Mo_makeBlocks 235 = .ok (.iload_n 1, 1) := by decide +kernel
theorem d_Mo_makeBlocks_236 : decode b_Mo_makeBlocks 236 = .ok (.iload 4, 2) := by decide +kernel
theorem d_Mo_makeBlocks_238 : decode b_Mo_makeBlocks 238 = .ok (.aload_n 0, 1) := by decide +kernel
theorem d_Mo_makeBlocks_239 : decode b_Mo_makeBlocks 239 = .ok (.iload_n 1, 1) := by decide +kernel
theorem d_Mo_makeBlocks_240 : decode b_Mo_makeBlocks 240 = .ok (.invokevirtual 85, 3) := by decide +kernel
theorem d_Mo_makeBlocks_243 : decode b_Mo_makeBlocks 243 = .ok (.isub, 1) := by decide +kernel
theorem d_Mo_makeBlocks_244 : decode b_Mo_makeBlocks 244 = .ok (.invokevirtual 88, 3) := by decide +kernel
theorem d_Mo_makeBlocks_247 : decode b_Mo_makeBlocks 247 = .ok (.iaload, 1) := by decide +kernel
theorem d_Mo_makeBlocks_248 : decode b_Mo_makeBlocks 248 = .ok (.goto 4, 3) := by decide +kernel
theorem d_Mo_makeBlocks_251 : decode b_Mo_makeBlocks 251 = .ok (.iconst 0, 1) := by decide +kernel
theorem d_Mo_makeBlocks_252 : decode b_Mo_makeBlocks 252 = .ok (.istore 9, 2) := by decide +kernel
theorem d_Mo_makeBlocks_254 : decode b_Mo_makeBlocks 254 = .ok (.iload 6, 2) := by decide +kernel
theorem d_Mo_makeBlocks_256 : decode b_Mo_makeBlocks 256 = .ok (.ifCond .eq 63, 3) := by decide +kernel
theorem d_Mo_makeBlocks_259 : decode b_Mo_makeBlocks 259 = .ok (.iload 7, 2) := by decide +kernel
theorem d_Mo_makeBlocks_261 : decode b_Mo_makeBlocks 261 = .ok (.ifCond .eq 58, 3) := by decide +kernel
theorem d_Mo_makeBlocks_264 : decode b_Mo_makeBlocks 264 = .ok (.iconst 0, 1) := by decide +kernel
theorem d_Mo_makeBlocks_265 : decode b_Mo_makeBlocks 265 = .ok (.istore 10, 2) := by decide +kernel
theorem d_Mo_makeBlocks_267 : decode b_Mo_makeBlocks 267 = .ok (.iconst 0, 1) := by decide +kernel
theorem d_Mo_makeBlocks_268 : decode b_Mo_makeBlocks 268 = .ok (.istore 11, 2) := by decide +kernel
theorem d_Mo_makeBlocks_270 : decode b_Mo_makeBlocks 270 = .ok (.iload 11, 2) := by decide +kernel
theorem d_Mo_makeBlocks_272 : decode b_Mo_makeBlocks 272 = .ok (.iconst 3, 1) := by decide +kernel
theorem d_Mo_makeBlocks_273 : decode b_Mo_makeBlocks 273 = .ok (.if_icmp .ge 34, 3) := by decide +kernel
theorem d_Mo_makeBlocks_276 : decode b_Mo_makeBlocks 276 = .ok (.iload 10, 2) := by decide +kernel
theorem d_Mo_makeBlocks_278 : decode b_Mo_makeBlocks 278 = .ok (.bipush 8, 2) := by decide +kernel
theorem d_Mo_makeBlocks_280 : decode b_Mo_makeBlocks 280 = .ok (.ishl, 1) := by decide +kernel
theorem d_Mo_makeBlocks_281 : decode b_Mo_makeBlocks 281 = .ok (.iload 8, 2) := by decide +kernel
theorem d_Mo_makeBlocks_283 : decode b_Mo_makeBlocks 283 = .ok (.iload 11, 2) := by decide +kernel
theorem d_Mo_makeBlocks_285 : decode b_Mo_makeBlocks 285 = .ok (.invokestatic 91, 3) := by decide +kernel
theorem d_Mo_makeBlocks_288 : decode b_Mo_makeBlocks 288 = .ok (.iload 9, 2) := by decide +kernel
theorem d_Mo_makeBlocks_290 : decode b_Mo_makeBlocks 290 = .ok (.iload 11, 2) := by decide +kernel
theorem d_Mo_makeBlocks_292 : decode b_Mo_makeBlocks 292 = .ok (.invokestatic 91, 3) := by decide +kernel
theorem d_Mo_makeBlocks_295 : decode b_Mo_makeBlocks 295 = .ok (.iadd, 1) := by decide +kernel
theorem d_Mo_makeBlocks_296 : decode b_Mo_makeBlocks 296 = .ok (.iconst 2, 1) := by decide +kernel
theorem d_Mo_makeBlocks_297 : decode b_Mo_makeBlocks 297 = .ok (.idiv, 1) := by decide +kernel
theorem d_Mo_makeBlocks_298 : decode b_Mo_makeBlocks 298 = .ok (.ior, 1) := by decide +kernel
theorem d_Mo_makeBlocks_299 : decode b_Mo_makeBlocks 299 = .ok (.istore 10, 2) := by decide +kernel
theorem d_Mo_makeBlocks_301 : decode b_Mo_makeBlocks 301 = .ok (.iinc 11 1, 3) := by decide +kernel
theorem d_Mo_makeBlocks_304 : decode b_Mo_makeBlocks 304 = .ok (.goto (-34), 3) := by decide +kernel
theorem d_Mo_makeBlocks_307 : decode b_Mo_makeBlocks 307 = .ok (.aload_n 0, 1) := by decide +kernel
theorem d_Mo_makeBlocks_308 : decode b_Mo_makeBlocks 308 = .ok (.getfield 21, 3) := by decide +kernel
theorem d_Mo_makeBlocks_311 : decode b_Mo_makeBlocks 311 = .ok (.iload 5, 2) := by decide +kernel
theorem d_Mo_makeBlocks_313 : decode b_Mo_makeBlocks 313 = .ok (.iload 10, 2) := by decide +kernel
theorem d_Mo_makeBlocks_315 : decode b_Mo_makeBlocks 315 = .ok (.iastore, 1) := by decide +kernel
theorem d_Mo_makeBlocks_316 : decode b_Mo_makeBlocks 316 = .ok (.goto 31, 3) := by decide +kernel
theorem d_Mo_makeBlocks_319 : decode b_Mo_makeBlocks 319 = .ok (.aload_n 0, 1) := by decide +kernel
theorem d_Mo_makeBlocks_320 : decode b_Mo_makeBlocks 320 = .ok (.getfield 21, 3) := by decide +kernel
theorem d_Mo_makeBlocks_323 : decode b_Mo_makeBlocks 323 = .ok (.iload 5, 2) := by decide +kernel
theorem d_Mo_makeBlocks_325 : decode b_Mo_makeBlocks 325 = .ok (.iload 6, 2) := by decide +kernel
theorem d_Mo_makeBlocks_327 : decode b_Mo_makeBlocks 327 = .ok (.ifCond .eq 8, 3) := by decide +kernel
theorem d_Mo_makeBlocks_330 : decode b_Mo_makeBlocks 330 = .ok (.iload 8, 2) := by decide +kernel
theorem d_Mo_makeBlocks_332 : decode b_Mo_makeBlocks 332 = .ok (.goto 14, 3) := by decide +kernel
theorem d_Mo_makeBlocks_335 : decode b_Mo_makeBlocks 335 = .ok (.iload 7, 2) := by decide +kernel
theorem d_Mo_makeBlocks_337 : decode b_Mo_makeBlocks 337 = .ok (.ifCond .eq 8, 3) := by decide +kernel
theorem d_Mo_makeBlocks_340 : decode b_Mo_makeBlocks 340 = .ok (.iload 9, 2) := by decide +kernel
theorem d_Mo_makeBlocks_342 : decode b_Mo_makeBlocks 342 = .ok (.goto 4, 3) := by decide +kernel
theorem d_Mo_makeBlocks_345 : decode b_Mo_makeBlocks 345 = .ok (.iload_n 3, 1) := by decide +kernel
theorem d_Mo_makeBlocks_346 : decode b_Mo_makeBlocks 346 = .ok (.iastore, 1) := by decide +kernel
theorem d_Mo_makeBlocks_347 : decode b_Mo_makeBlocks 347 = .ok (.iinc 4 1, 3) := by decide +kernel
theorem d_Mo_makeBlocks_350 : decode b_Mo_makeBlocks 350 = .ok (.goto (-213), 3) := by decide +kernel
theorem d_Mo_makeBlocks_353 : decode b_Mo_makeBlocks 353 = .ok (.return_, 1) := by decide +kernel
abbrev b_Mo_makeStripe : ByteArray := prog_8_method_22_code
def y_Mo_makeStripe : MethodName := ⟨"MaskLayersModel", "makeStripe", "(IZ)V"⟩
theorem d_Mo_makeStripe_0 : decode b_Mo_makeStripe 0 = .ok (.aload_n 0, 1) := by decide +kernel
theorem d_Mo_makeStripe_1 : decode b_Mo_makeStripe 1 = .ok (.aload_n 0, 1) := by decide +kernel
theorem d_Mo_makeStripe_2 : decode b_Mo_makeStripe 2 = .ok (.getfield 45, 3) := by decide +kernel
theorem d_Mo_makeStripe_5 : decode b_Mo_makeStripe 5 = .ok (.aload_n 0, 1) := by decide +kernel
theorem d_Mo_makeStripe_6 : decode b_Mo_makeStripe 6 = .ok (.getfield 48, 3) := by decide +kernel
theorem d_Mo_makeStripe_9 : decode b_Mo_makeStripe 9 = .ok (.aload_n 0, 1) := by decide +kernel
theorem d_Mo_makeStripe_10 : decode b_Mo_makeStripe 10 = .ok (.getfield 107, 3) := by decide +kernel
theorem d_Mo_makeStripe_13 : decode b_Mo_makeStripe 13 = .ok (.iload_n 1, 1) := by decide +kernel
theorem d_Mo_makeStripe_14 : decode b_Mo_makeStripe 14 = .ok (.invokevirtual 110, 3) := by decide +kernel
theorem d_Mo_makeStripe_17 : decode b_Mo_makeStripe 17 = .ok (.iconst 0, 1) := by decide +kernel
theorem d_Mo_makeStripe_18 : decode b_Mo_makeStripe 18 = .ok (.istore_n 3, 1) := by decide +kernel
theorem d_Mo_makeStripe_19 : decode b_Mo_makeStripe 19 = .ok (.iconst 0, 1) := by decide +kernel
theorem d_Mo_makeStripe_20 : decode b_Mo_makeStripe 20 = .ok (.istore 4, 2) := by decide +kernel
theorem d_Mo_makeStripe_22 : decode b_Mo_makeStripe 22 = .ok (.iconst 0, 1) := by decide +kernel
theorem d_Mo_makeStripe_23 : decode b_Mo_makeStripe 23 = .ok (.istore 5, 2) := by decide +kernel
theorem d_Mo_makeStripe_25 : decode b_Mo_makeStripe 25 = .ok (.iconst 0, 1) := by decide +kernel
theorem d_Mo_makeStripe_26 : decode b_Mo_makeStripe 26 = .ok (.istore 6, 2) := by decide +kernel
theorem d_Mo_makeStripe_28 : decode b_Mo_makeStripe 28 = .ok (.iload 6, 2) := by decide +kernel
theorem d_Mo_makeStripe_30 : decode b_Mo_makeStripe 30 = .ok (.aload_n 0, 1) := by decide +kernel
theorem d_Mo_makeStripe_31 : decode b_Mo_makeStripe 31 = .ok (.getfield 45, 3) := by decide +kernel
theorem d_Mo_makeStripe_34 : decode b_Mo_makeStripe 34 = .ok (.aload_n 0, 1) := by decide +kernel
theorem d_Mo_makeStripe_35 : decode b_Mo_makeStripe 35 = .ok (.getfield 72, 3) := by decide +kernel
theorem d_Mo_makeStripe_38 : decode b_Mo_makeStripe 38 = .ok (.imul, 1) := by decide +kernel
theorem d_Mo_makeStripe_39 : decode b_Mo_makeStripe 39 = .ok (.if_icmp .ge 102, 3) := by decide +kernel
theorem d_Mo_makeStripe_42 : decode b_Mo_makeStripe 42 = .ok (.bipush 24, 2) := by decide +kernel
theorem d_Mo_makeStripe_44 : decode b_Mo_makeStripe 44 = .ok (.aload_n 0, 1) := by decide +kernel
theorem d_Mo_makeStripe_45 : decode b_Mo_makeStripe 45 = .ok (.getfield 69, 3) := by decide +kernel
theorem d_Mo_makeStripe_48 : decode b_Mo_makeStripe 48 = .ok (.iload 6, 2) := by decide +kernel
theorem d_Mo_makeStripe_50 : decode b_Mo_makeStripe 50 = .ok (.aload_n 0, 1) := by decide +kernel
theorem d_Mo_makeStripe_51 : decode b_Mo_makeStripe 51 = .ok (.getfield 45, 3) := by decide +kernel
theorem d_Mo_makeStripe_54 : decode b_Mo_makeStripe 54 = .ok (.idiv, 1) := by decide +kernel
theorem d_Mo_makeStripe_55 : decode b_Mo_makeStripe 55 = .ok (.iadd, 1) := by decide +kernel
theorem d_Mo_makeStripe_56 : decode b_Mo_makeStripe 56 = .ok (.imul, 1) := by decide +kernel
theorem d_Mo_makeStripe_57 : decode b_Mo_makeStripe 57 = .ok (.iload 6, 2) := by decide +kernel
theorem d_Mo_makeStripe_59 : decode b_Mo_makeStripe 59 = .ok (.aload_n 0, 1) := by decide +kernel
theorem d_Mo_makeStripe_60 : decode b_Mo_makeStripe 60 = .ok (.getfield 45, 3) := by decide +kernel
theorem d_Mo_makeStripe_63 : decode b_Mo_makeStripe 63 = .ok (.irem, 1) := by decide +kernel
theorem d_Mo_makeStripe_64 : decode b_Mo_makeStripe 64 = .ok (.iadd, 1) := by decide +kernel
theorem d_Mo_makeStripe_65 : decode b_Mo_makeStripe 65 = .ok (.istore 7, 2) := by decide +kernel
theorem d_Mo_makeStripe_67 : decode b_Mo_makeStripe 67 = .ok (.aload_n 0, 1) := by decide +kernel
theorem d_Mo_makeStripe_68 : decode b_Mo_makeStripe 68 = .ok (.getfield 21, 3) := by decide +kernel
theorem d_Mo_makeStripe_71 : decode b_Mo_makeStripe 71 = .ok (.sipush 576, 3) := by decide +kernel
theorem d_Mo_makeStripe_74 : decode b_Mo_makeStripe 74 = .ok (.iload 7, 2) := by decide +kernel
theorem d_Mo_makeStripe_76 : decode b_Mo_makeStripe 76 = .ok (.iadd, 1) := by decide +kernel
theorem d_Mo_makeStripe_77 : decode b_Mo_makeStripe 77 = .ok (.aload_n 0, 1) := by decide +kernel
theorem d_Mo_makeStripe_78 : decode b_Mo_makeStripe 78 = .ok (.getfield 17, 3) := by decide +kernel
theorem d_Mo_makeStripe_81 : decode b_Mo_makeStripe 81 = .ok (.iload 7, 2) := by decide +kernel
theorem d_Mo_makeStripe_83 : decode b_Mo_makeStripe 83 = .ok (.baload, 1) := by decide +kernel
theorem d_Mo_makeStripe_84 : decode b_Mo_makeStripe 84 = .ok (.ifCond .eq 7, 3) := by decide +kernel
theorem d_Mo_makeStripe_87 : decode b_Mo_makeStripe 87 = .ok (.iconst 1, 1) := by decide +kernel
theorem d_Mo_makeStripe_88 : decode b_Mo_makeStripe 88 = .ok (.goto 4, 3) := by decide +kernel
theorem d_Mo_makeStripe_91 : decode b_Mo_makeStripe 91 = .ok (.iconst 0, 1) := by decide +kernel
theorem d_Mo_makeStripe_92 : decode b_Mo_makeStripe 92 = .ok (.iastore, 1) := by decide +kernel
theorem d_Mo_makeStripe_93 : decode b_Mo_makeStripe 93 = .ok (.iload_n 3, 1) := by decide +kernel
theorem d_Mo_makeStripe_94 : decode b_Mo_makeStripe 94 = .ok (.ifCond .ne 13, 3) := by decide +kernel
theorem d_Mo_makeStripe_97 : decode b_Mo_makeStripe 97 = .ok (.aload_n 0, 1) := by decide +kernel
theorem d_Mo_makeStripe_98 : decode b_Mo_makeStripe 98 = .ok (.getfield 17, 3) := by decide +kernel
theorem d_Mo_makeStripe_101 : decode b_Mo_makeStripe 101 = .ok (.iload 7, 2) := by decide +kernel
theorem d_Mo_makeStripe_103 : decode b_Mo_makeStripe 103 = .ok (.baload, 1) := by decide +kernel
theorem d_Mo_makeStripe_104 : decode b_Mo_makeStripe 104 = .ok (.ifCond .eq 7, 3) := by decide +kernel
theorem d_Mo_makeStripe_107 : decode b_Mo_makeStripe 107 = .ok (.iconst 1, 1) := by decide +kernel
theorem d_Mo_makeStripe_108 : decode b_Mo_makeStripe 108 = .ok (.goto 4, 3) := by decide +kernel
theorem d_Mo_makeStripe_111 : decode b_Mo_makeStripe 111 = .ok (.iconst 0, 1) := by decide +kernel
theorem d_Mo_makeStripe_112 : decode b_Mo_makeStripe 112 = .ok (.istore_n 3, 1) := by decide +kernel
theorem d_Mo_makeStripe_113 : decode b_Mo_makeStripe 113 = .ok (.iload 4, 2) := by decide +kernel
theorem d_Mo_makeStripe_115 : decode b_Mo_makeStripe 115 = .ok (.ifCond .ne 13, 3) := by decide +kernel
theorem d_Mo_makeStripe_118 : decode b_Mo_makeStripe 118 = .ok (.aload_n 0, 1) := by decide +kernel
theorem d_Mo_makeStripe_119 : decode b_Mo_makeStripe 119 = .ok (.getfield 17, 3) := by decide +kernel
theorem d_Mo_makeStripe_122 : decode b_Mo_makeStripe 122 = .ok (.iload 7, 2) := by decide +kernel
theorem d_Mo_makeStripe_124 : decode b_Mo_makeStripe 124 = .ok (.baload, 1) := by decide +kernel
theorem d_Mo_makeStripe_125 : decode b_Mo_makeStripe 125 = .ok (.ifCond .ne 7, 3) := by decide +kernel
theorem d_Mo_makeStripe_128 : decode b_Mo_makeStripe 128 = .ok (.iconst 1, 1) := by decide +kernel
theorem d_Mo_makeStripe_129 : decode b_Mo_makeStripe 129 = .ok (.goto 4, 3) := by decide +kernel
theorem d_Mo_makeStripe_132 : decode b_Mo_makeStripe 132 = .ok (.iconst 0, 1) := by decide +kernel
theorem d_Mo_makeStripe_133 : decode b_Mo_makeStripe 133 = .ok (.istore 4, 2) := by decide +kernel
theorem d_Mo_makeStripe_135 : decode b_Mo_makeStripe 135 = .ok (.iinc 6 1, 3) := by decide +kernel
theorem d_Mo_makeStripe_138 : decode b_Mo_makeStripe 138 = .ok (.goto (-110), 3) := by decide +kernel
theorem d_Mo_makeStripe_141 : decode b_Mo_makeStripe 141 = .ok (.aload_n 0, 1) := by decide +kernel
theorem d_Mo_makeStripe_142 : decode b_Mo_makeStripe 142 = .ok (.getfield 27, 3) := by decide +kernel
theorem d_Mo_makeStripe_145 : decode b_Mo_makeStripe 145 = .ok (.iconst 4, 1) := by decide +kernel
theorem d_Mo_makeStripe_146 : decode b_Mo_makeStripe 146 = .ok (.iload_n 1, 1) := by decide +kernel
theorem d_Mo_makeStripe_147 : decode b_Mo_makeStripe 147 = .ok (.imul, 1) := by decide +kernel
theorem d_Mo_makeStripe_148 : decode b_Mo_makeStripe 148 = .ok (.iload 4, 2) := by decide +kernel
theorem d_Mo_makeStripe_150 : decode b_Mo_makeStripe 150 = .ok (.bastore, 1) := by decide +kernel
theorem d_Mo_makeStripe_151 : decode b_Mo_makeStripe 151 = .ok (.aload_n 0, 1) := by decide +kernel
theorem d_Mo_makeStripe_152 : decode b_Mo_makeStripe 152 = .ok (.getfield 27, 3) := by decide +kernel
theorem d_Mo_makeStripe_155 : decode b_Mo_makeStripe 155 = .ok (.iconst 4, 1) := by decide +kernel
theorem d_Mo_makeStripe_156 : decode b_Mo_makeStripe 156 = .ok (.iload_n 1, 1) := by decide +kernel
theorem d_Mo_makeStripe_157 : decode b_Mo_makeStripe 157 = .ok (.imul, 1) := by decide +kernel
theorem d_Mo_makeStripe_158 : decode b_Mo_makeStripe 158 = .ok (.iconst 1, 1) := by decide +kernel
theorem d_Mo_makeStripe_159 : decode b_Mo_makeStripe 159 = .ok (.iadd, 1) := by decide +kernel
theorem d_Mo_makeStripe_160 : decode b_Mo_makeStripe 160 = .ok (.iload_n 3, 1) := by decide +kernel
theorem d_Mo_makeStripe_161 : decode b_Mo_makeStripe 161 = .ok (.bastore, 1) := by decide +kernel
theorem d_Mo_makeStripe_162 : decode b_Mo_makeStripe 162 = .ok (.aload_n 0, 1) := by decide +kernel
theorem d_Mo_makeStripe_163 : decode b_Mo_makeStripe 163 = .ok (.getfield 27, 3) := by decide +kernel
theorem d_Mo_makeStripe_166 : decode b_Mo_makeStripe 166 = .ok (.iconst 4, 1) := by decide +kernel
theorem d_Mo_makeStripe_167 : decode b_Mo_makeStripe 167 = .ok (.iload_n 1, 1) := by decide +kernel
theorem d_Mo_makeStripe_168 : decode b_Mo_makeStripe 168 = .ok (.imul, 1) := by decide +kernel
theorem d_Mo_makeStripe_169 : decode b_Mo_makeStripe 169 = .ok (.iconst 2, 1) := by decide +kernel
theorem d_Mo_makeStripe_170 : decode b_Mo_makeStripe 170 = .ok (.iadd, 1) := by decide +kernel
theorem d_Mo_makeStripe_171 : decode b_Mo_makeStripe 171 = .ok (.iload_n 3, 1) := by decide +kernel
theorem d_Mo_makeStripe_172 : decode b_Mo_makeStripe 172 = .ok (.bastore, 1) := by decide +kernel
theorem d_Mo_makeStripe_173 : decode b_Mo_makeStripe 173 = .ok (.iload 4, 2) := by decide +kernel
theorem d_Mo_makeStripe_175 : decode b_Mo_makeStripe 175 = .ok (.ifCond .eq 8, 3) := by decide +kernel
theorem d_Mo_makeStripe_178 : decode b_Mo_makeStripe 178 = .ok (.aload_n 0, 1) := by decide +kernel
theorem d_Mo_makeStripe_179 : decode b_Mo_makeStripe 179 = .ok (.iconst 0, 1) := by decide +kernel
theorem d_Mo_makeStripe_180 : decode b_Mo_makeStripe 180 = .ok (.invokevirtual 114, 3) := by decide +kernel
theorem d_Mo_makeStripe_183 : decode b_Mo_makeStripe 183 = .ok (.iload_n 3, 1) := by decide +kernel
theorem d_Mo_makeStripe_184 : decode b_Mo_makeStripe 184 = .ok (.ifCond .eq 8, 3) := by decide +kernel
theorem d_Mo_makeStripe_187 : decode b_Mo_makeStripe 187 = .ok (.aload_n 0, 1) := by decide +kernel
theorem d_Mo_makeStripe_188 : decode b_Mo_makeStripe 188 = .ok (.iconst 2, 1) := by decide +kernel
theorem d_Mo_makeStripe_189 : decode b_Mo_makeStripe 189 = .ok (.invokevirtual 114, 3) := by decide +kernel
theorem d_Mo_makeStripe_192 : decode b_Mo_makeStripe 192 = .ok (.iconst 0, 1) := by decide +kernel
theorem d_Mo_makeStripe_193 : decode b_Mo_makeStripe 193 = .ok (.istore 6, 2) := by decide +kernel
theorem d_Mo_makeStripe_195 : decode b_Mo_makeStripe 195 = .ok (.iload 6, 2) := by decide +kernel
theorem d_Mo_makeStripe_197 : decode b_Mo_makeStripe 197 = .ok (.aload_n 0, 1) := by decide +kernel
theorem d_Mo_makeStripe_198 : decode b_Mo_makeStripe 198 = .ok (.getfield 45, 3) := by decide +kernel
theorem d_Mo_makeStripe_201 : decode b_Mo_makeStripe 201 = .ok (.aload_n 0, 1) := by decide +kernel
theorem d_Mo_makeStripe_202 : decode b_Mo_makeStripe 202 = .ok (.getfield 72, 3) := by decide +kernel
theorem d_Mo_makeStripe_205 : decode b_Mo_makeStripe 205 = .ok (.imul, 1) := by decide +kernel
theorem d_Mo_makeStripe_206 : decode b_Mo_makeStripe 206 = .ok (.if_icmp .ge 94, 3) := by decide +kernel
theorem d_Mo_makeStripe_209 : decode b_Mo_makeStripe 209 = .ok (.iload 6, 2) := by decide +kernel
theorem d_Mo_makeStripe_211 : decode b_Mo_makeStripe 211 = .ok (.aload_n 0, 1) := by decide +kernel
theorem d_Mo_makeStripe_212 : decode b_Mo_makeStripe 212 = .ok (.getfield 45, 3) := by decide +kernel
theorem d_Mo_makeStripe_215 : decode b_Mo_makeStripe 215 = .ok (.irem, 1) := by decide +kernel
theorem d_Mo_makeStripe_216 : decode b_Mo_makeStripe 216 = .ok (.istore 7, 2) := by decide +kernel
theorem d_Mo_makeStripe_218 : decode b_Mo_makeStripe 218 = .ok (.aload_n 0, 1) := by decide +kernel
theorem d_Mo_makeStripe_219 : decode b_Mo_makeStripe 219 = .ok (.getfield 69, 3) := by decide +kernel
theorem d_Mo_makeStripe_222 : decode b_Mo_makeStripe 222 = .ok (.iload 6, 2) := by decide +kernel
theorem d_Mo_makeStripe_224 : decode b_Mo_makeStripe 224 = .ok (.aload_n 0, 1) := by decide +kernel
theorem d_Mo_makeStripe_225 : decode b_Mo_makeStripe 225 = .ok (.getfield 45, 3) := by decide +kernel
theorem d_Mo_makeStripe_228 : decode b_Mo_makeStripe 228 = .ok (.idiv, 1) := by decide +kernel
theorem d_Mo_makeStripe_229 : decode b_Mo_makeStripe 229 = .ok (.iadd, 1) := by decide +kernel
theorem d_Mo_makeStripe_230 : decode b_Mo_makeStripe 230 = .ok (.istore 8, 2) := by decide +kernel
theorem d_Mo_makeStripe_232 : decode b_Mo_makeStripe 232 = .ok (.aload_n 0, 1) := by decide +kernel
theorem d_Mo_makeStripe_233 : decode b_Mo_makeStripe 233 = .ok (.getfield 13, 3) := by decide +kernel
theorem d_Mo_makeStripe_236 : decode b_Mo_makeStripe 236 = .ok (.bipush 24, 2) := by decide +kernel
theorem d_Mo_makeStripe_238 : decode b_Mo_makeStripe 238 = .ok (.iload 8, 2) := by decide +kernel
theorem d_Mo_makeStripe_240 : decode b_Mo_makeStripe 240 = .ok (.imul, 1) := by decide +kernel
theorem d_Mo_makeStripe_241 : decode b_Mo_makeStripe 241 = .ok (.iload 7, 2) := by decide +kernel
theorem d_Mo_makeStripe_243 : decode b_Mo_makeStripe 243 = .ok (.iadd, 1) := by decide +kernel
theorem d_Mo_makeStripe_244 : decode b_Mo_makeStripe 244 = .ok (.iaload, 1) := by decide +kernel
theorem d_Mo_makeStripe_245 : decode b_Mo_makeStripe 245 = .ok (.aload_n 0, 1) := by decide +kernel
theorem d_Mo_makeStripe_246 : decode b_Mo_makeStripe 246 = .ok (.iload 7, 2) := by decide +kernel
theorem d_Mo_makeStripe_248 : decode b_Mo_makeStripe 248 = .ok (.iload 8, 2) := by decide +kernel
theorem d_Mo_makeStripe_250 : decode b_Mo_makeStripe 250 = .ok (.invokevirtual 118, 3) := by decide +kernel
theorem d_Mo_makeStripe_253 : decode b_Mo_makeStripe 253 = .ok (.invokestatic 121, 3) := by decide +kernel
theorem d_Mo_makeStripe_256 : decode b_Mo_makeStripe 256 = .ok (.istore 9, 2) := by decide +kernel
theorem d_Mo_makeStripe_258 : decode b_Mo_makeStripe 258 = .ok (.aload_n 0, 1) := by decide +kernel
theorem d_Mo_makeStripe_259 : decode b_Mo_makeStripe 259 = .ok (.getfield 21, 3) := by decide +kernel
theorem d_Mo_makeStripe_262 : decode b_Mo_makeStripe 262 = .ok (.sipush 1728, 3) := by decide +kernel
theorem d_Mo_makeStripe_265 : decode b_Mo_makeStripe 265 = .ok (.bipush 24, 2) := by decide +kernel
theorem d_Mo_makeStripe_267 : decode b_Mo_makeStripe 267 = .ok (.iload 8, 2) := by decide +kernel
theorem d_Mo_makeStripe_269 : decode b_Mo_makeStripe 269 = .ok (.imul, 1) := by decide +kernel
theorem d_Mo_makeStripe_270 : decode b_Mo_makeStripe 270 = .ok (.iadd, 1) := by decide +kernel
theorem d_Mo_makeStripe_271 : decode b_Mo_makeStripe 271 = .ok (.iload 7, 2) := by decide +kernel
theorem d_Mo_makeStripe_273 : decode b_Mo_makeStripe 273 = .ok (.iadd, 1) := by decide +kernel
theorem d_Mo_makeStripe_274 : decode b_Mo_makeStripe 274 = .ok (.iload 9, 2) := by decide +kernel
theorem d_Mo_makeStripe_276 : decode b_Mo_makeStripe 276 = .ok (.iastore, 1) := by decide +kernel
theorem d_Mo_makeStripe_277 : decode b_Mo_makeStripe 277 = .ok (.iload 5, 2) := by decide +kernel
theorem d_Mo_makeStripe_279 : decode b_Mo_makeStripe 279 = .ok (.ifCond .ne 8, 3) := by decide +kernel
theorem d_Mo_makeStripe_282 : decode b_Mo_makeStripe 282 = .ok (.iload 9, 2) := by decide +kernel
theorem d_Mo_makeStripe_284 : decode b_Mo_makeStripe 284 = .ok (.ifCond .eq 7, 3) := by decide +kernel
theorem d_Mo_makeStripe_287 : decode b_Mo_makeStripe 287 = .ok (.iconst 1, 1) := by decide +kernel
theorem d_Mo_makeStripe_288 : decode b_Mo_makeStripe 288 = .ok (.goto 4, 3) := by decide +kernel
theorem d_Mo_makeStripe_291 : decode b_Mo_makeStripe 291 = .ok (.iconst 0, 1) := by decide +kernel
theorem d_Mo_makeStripe_292 : decode b_Mo_makeStripe 292 = .ok (.istore 5, 2) := by decide +kernel
theorem d_Mo_makeStripe_294 : decode b_Mo_makeStripe 294 = .ok (.iinc 6 1, 3) := by decide +kernel
theorem d_Mo_makeStripe_297 : decode b_Mo_makeStripe 297 = .ok (.goto (-102), 3) := by decide +kernel
theorem d_Mo_makeStripe_300 : decode b_Mo_makeStripe 300 = .ok (.aload_n 0, 1) := by decide +kernel
theorem d_Mo_makeStripe_301 : decode b_Mo_makeStripe 301 = .ok (.getfield 27, 3) := by decide +kernel
theorem d_Mo_makeStripe_304 : decode b_Mo_makeStripe 304 = .ok (.iconst 4, 1) := by decide +kernel
theorem d_Mo_makeStripe_305 : decode b_Mo_makeStripe 305 = .ok (.iload_n 1, 1) := by decide +kernel
theorem d_Mo_makeStripe_306 : decode b_Mo_makeStripe 306 = .ok (.imul, 1) := by decide +kernel
theorem d_Mo_makeStripe_307 : decode b_Mo_makeStripe 307 = .ok (.iconst 3, 1) := by decide +kernel
theorem d_Mo_makeStripe_308 : decode b_Mo_makeStripe 308 = .ok (.iadd, 1) := by decide +kernel
theorem d_Mo_makeStripe_309 : decode b_Mo_makeStripe 309 = .ok (.iload_n 2, 1) := by decide +kernel
theorem d_Mo_makeStripe_310 : decode b_Mo_makeStripe 310 = .ok (.ifCond .eq 12, 3) := by decide +kernel
theorem d_Mo_makeStripe_313 : decode b_Mo_makeStripe 313 = .ok (.iload 5, 2) := by decide +kernel
theorem d_Mo_makeStripe_315 : decode b_Mo_makeStripe 315 = .ok (.ifCond .eq 7, 3) := by decide +kernel
theorem d_Mo_makeStripe_318 : decode b_Mo_makeStripe 318 = .ok (.iconst 1, 1) := by decide +kernel
theorem d_Mo_makeStripe_319 : decode b_Mo_makeStripe 319 = .ok (.goto 4, 3) := by decide +kernel
theorem d_Mo_makeStripe_322 : decode b_Mo_makeStripe 322 = .ok (.iconst 0, 1) := by decide +kernel
theorem d_Mo_makeStripe_323 : decode b_Mo_makeStripe 323 = .ok (.bastore, 1) := by decide +kernel
theorem d_Mo_makeStripe_324 : decode b_Mo_makeStripe 324 = .ok (.return_, 1) := by decide +kernel
abbrev b_Mo_run : ByteArray := prog_8_method_23_code
def y_Mo_run : MethodName := ⟨"MaskLayersModel", "run", "(IIZ)I"⟩
theorem d_Mo_run_0 : decode b_Mo_run 0 = .ok (.aload_n 0, 1) := by decide +kernel
theorem d_Mo_run_1 : decode b_Mo_run 1 = .ok (.iload_n 1, 1) := by decide +kernel
theorem d_Mo_run_2 : decode b_Mo_run 2 = .ok (.iconst 1, 1) := by decide +kernel
theorem d_Mo_run_3 : decode b_Mo_run 3 = .ok (.if_icmp .lt 20, 3) := by decide +kernel
theorem d_Mo_run_6 : decode b_Mo_run 6 = .ok (.iload_n 1, 1) := by decide +kernel
theorem d_Mo_run_7 : decode b_Mo_run 7 = .ok (.bipush 8, 2) := by decide +kernel
theorem d_Mo_run_9 : decode b_Mo_run 9 = .ok (.if_icmp .gt 14, 3) := by decide +kernel
theorem d_Mo_run_12 : decode b_Mo_run 12 = .ok (.iload_n 2, 1) := by decide +kernel
theorem d_Mo_run_13 : decode b_Mo_run 13 = .ok (.iconst 1, 1) := by decide +kernel
theorem d_Mo_run_14 : decode b_Mo_run 14 = .ok (.if_icmp .lt 9, 3) := by decide +kernel
theorem d_Mo_run_17 : decode b_Mo_run 17 = .ok (.iload_n 2, 1) := by decide +kernel
theorem d_Mo_run_18 : decode b_Mo_run 18 = .ok (.bipush 8, 2) := by decide +kernel
theorem d_Mo_run_20 : decode b_Mo_run 20 = .ok (.if_icmp .le 7, 3) := by decide +kernel
theorem d_Mo_run_23 : decode b_Mo_run 23 = .ok (.iconst 1, 1) := by decide +kernel
theorem d_Mo_run_24 : decode b_Mo_run 24 = .ok (.goto 4, 3) := by decide +kernel
theorem d_Mo_run_27 : decode b_Mo_run 27 = .ok (.iconst 0, 1) := by decide +kernel
theorem d_Mo_run_28 : decode b_Mo_run 28 = .ok (.putfield 51, 3) := by decide +kernel
theorem d_Mo_run_31 : decode b_Mo_run 31 = .ok (.aload_n 0, 1) := by decide +kernel
theorem d_Mo_run_32 : decode b_Mo_run 32 = .ok (.getfield 51, 3) := by decide +kernel
theorem d_Mo_run_35 : decode b_Mo_run 35 = .ok (.ifCond .le 5, 3) := by decide +kernel
theorem d_Mo_run_38 : decode b_Mo_run 38 = .ok (.iconst 0, 1) := by decide +kernel
theorem d_Mo_run_39 : decode b_Mo_run 39 = .ok (.ireturn, 1) := by decide +kernel
theorem d_Mo_run_40 : decode b_Mo_run 40 = .ok (.aload_n 0, 1) := by decide +kernel
theorem d_Mo_run_41 : decode b_Mo_run 41 = .ok (.iconst 1, 1) := by decide +kernel
theorem d_Mo_run_42 : decode b_Mo_run 42 = .ok (.putfield 124, 3) := by decide +kernel
theorem d_Mo_run_45 : decode b_Mo_run 45 = .ok (.aload_n 0, 1) := by decide +kernel
theorem d_Mo_run_46 : decode b_Mo_run 46 = .ok (.aload_n 0, 1) := by decide +kernel
theorem d_Mo_run_47 : decode b_Mo_run 47 = .ok (.getfield 7, 3) := by decide +kernel
theorem d_Mo_run_50 : decode b_Mo_run 50 = .ok (.putfield 107, 3) := by decide +kernel
theorem d_Mo_run_53 : decode b_Mo_run 53 = .ok (.aload_n 0, 1) := by decide +kernel
theorem d_Mo_run_54 : decode b_Mo_run 54 = .ok (.iload_n 1, 1) := by decide +kernel
theorem d_Mo_run_55 : decode b_Mo_run 55 = .ok (.putfield 128, 3) := by decide +kernel
theorem d_Mo_run_58 : decode b_Mo_run 58 = .ok (.aload_n 0, 1) := by decide +kernel
theorem d_Mo_run_59 : decode b_Mo_run 59 = .ok (.iload_n 2, 1) := by decide +kernel
theorem d_Mo_run_60 : decode b_Mo_run 60 = .ok (.putfield 131, 3) := by decide +kernel
theorem d_Mo_run_63 : decode b_Mo_run 63 = .ok (.aload_n 0, 1) := by decide +kernel
theorem d_Mo_run_64 : decode b_Mo_run 64 = .ok (.iload_n 1, 1) := by decide +kernel
theorem d_Mo_run_65 : decode b_Mo_run 65 = .ok (.putfield 78, 3) := by decide +kernel
theorem d_Mo_run_68 : decode b_Mo_run 68 = .ok (.aload_n 0, 1) := by decide +kernel
theorem d_Mo_run_69 : decode b_Mo_run 69 = .ok (.iload_n 2, 1) := by decide +kernel
theorem d_Mo_run_70 : decode b_Mo_run 70 = .ok (.putfield 75, 3) := by decide +kernel
theorem d_Mo_run_73 : decode b_Mo_run 73 = .ok (.aload_n 0, 1) := by decide +kernel
theorem d_Mo_run_74 : decode b_Mo_run 74 = .ok (.iconst 0, 1) := by decide +kernel
theorem d_Mo_run_75 : decode b_Mo_run 75 = .ok (.putfield 134, 3) := by decide +kernel
theorem d_Mo_run_78 : decode b_Mo_run 78 = .ok (.iconst 0, 1) := by decide +kernel
theorem d_Mo_run_79 : decode b_Mo_run 79 = .ok (.istore 4, 2) := by decide +kernel
theorem d_Mo_run_81 : decode b_Mo_run 81 = .ok (.iload 4, 2) := by decide +kernel
theorem d_Mo_run_83 : decode b_Mo_run 83 = .ok (.aload_n 0, 1) := by decide +kernel
theorem d_Mo_run_84 : decode b_Mo_run 84 = .ok (.getfield 48, 3) := by decide +kernel
theorem d_Mo_run_87 : decode b_Mo_run 87 = .ok (.aload_n 0, 1) := by decide +kernel
theorem d_Mo_run_88 : decode b_Mo_run 88 = .ok (.getfield 7, 3) := by decide +kernel
theorem d_Mo_run_91 : decode b_Mo_run 91 = .ok (.invokestatic 63, 3) := by decide +kernel
theorem d_Mo_run_94 : decode b_Mo_run 94 = .ok (.if_icmp .ge 60, 3) := by decide +kernel
theorem d_Mo_run_97 : decode b_Mo_run 97 = .ok (.aload_n 0, 1) := by decide +kernel
theorem d_Mo_run_98 : decode b_Mo_run 98 = .ok (.iload 4, 2) := by decide +kernel
theorem d_Mo_run_100 : decode b_Mo_run 100 = .ok (.iload_n 3, 1) := by decide +kernel
theorem d_Mo_run_101 : decode b_Mo_run 101 = .ok (.invokevirtual 137, 3) := by decide +kernel
theorem d_Mo_run_104 : decode b_Mo_run 104 = .ok (.iconst 0, 1) := by decide +kernel
theorem d_Mo_run_105 : decode b_Mo_run 105 = .ok (.istore 5, 2) := by decide +kernel
theorem d_Mo_run_107 : decode b_Mo_run 107 = .ok (.iload 5, 2) := by decide +kernel
theorem d_Mo_run_109 : decode b_Mo_run 109 = .ok (.iconst 4, 1) := by decide +kernel
theorem d_Mo_run_110 : decode b_Mo_run 110 = .ok (.if_icmp .ge 38, 3) := by decide +kernel
theorem d_Mo_run_113 : decode b_Mo_run 113 = .ok (.aload_n 0, 1) := by decide +kernel
theorem d_Mo_run_114 : decode b_Mo_run 114 = .ok (.dup, 1) := by decide +kernel
theorem d_Mo_run_115 : decode b_Mo_run 115 = .ok (.getfield 134, 3) := by decide +kernel
theorem d_Mo_run_118 : decode b_Mo_run 118 = .ok (.aload_n 0, 1) := by decide +kernel
theorem d_Mo_run_119 : decode b_Mo_run 119 = .ok (.getfield 27, 3) := by decide +kernel
theorem d_Mo_run_122 : decode b_Mo_run 122 = .ok (.iconst 4, 1) := by decide +kernel
theorem d_Mo_run_123 : decode b_Mo_run 123 = .ok (.iload 4, 2) := by decide +kernel
theorem d_Mo_run_125 : decode b_Mo_run 125 = .ok (.imul, 1) := by decide +kernel
theorem d_Mo_run_126 : decode b_Mo_run 126 = .ok (.iload 5, 2) := by decide +kernel
theorem d_Mo_run_128 : decode b_Mo_run 128 = .ok (.iadd, 1) := by decide +kernel
theorem d_Mo_run_129 : decode b_Mo_run 129 = .ok (.baload, 1) := by decide +kernel
theorem d_Mo_run_130 : decode b_Mo_run 130 = .ok (.ifCond .eq 7, 3) := by decide +kernel
theorem d_Mo_run_133 : decode b_Mo_run 133 = .ok (.iconst 1, 1) := by decide +kernel
theorem d_Mo_run_134 : decode b_Mo_run 134 = .ok (.goto 4, 3) := by decide +kernel
theorem d_Mo_run_137 : decode b_Mo_run 137 = .ok (.iconst 0, 1) := by decide +kernel
theorem d_Mo_run_138 : decode b_Mo_run 138 = .ok (.iadd, 1) := by decide +kernel
theorem d_Mo_run_139 : decode b_Mo_run 139 = .ok (.putfield 134, 3) := by decide +kernel
theorem d_Mo_run_142 : decode b_Mo_run 142 = .ok (.iinc 5 1, 3) := by decide +kernel
theorem d_Mo_run_145 : decode b_Mo_run 145 = .ok (.goto (-38), 3) := by decide +kernel
theorem d_Mo_run_148 : decode b_Mo_run 148 = .ok (.iinc 4 1, 3) := by decide +kernel
theorem d_Mo_run_151 : decode b_Mo_run 151 = .ok (.goto (-70), 3) := by decide +kernel
theorem d_Mo_run_154 : decode b_Mo_run 154 = .ok (.aload_n 0, 1) := by decide +kernel
theorem d_Mo_run_155 : decode b_Mo_run 155 = .ok (.getfield 134, 3) := by decide +kernel
theorem d_Mo_run_158 : decode b_Mo_run 158 = .ok (.ireturn, 1) := by decide +kernel
abbrev b_Mo_layMade : ByteArray := prog_8_method_24_code
def y_Mo_layMade : MethodName := ⟨"MaskLayersModel", "layMade", "(I)I"⟩
theorem d_Mo_layMade_0 : decode b_Mo_layMade 0 = .ok (.aload_n 0, 1) := by decide +kernel
theorem d_Mo_layMade_1 : decode b_Mo_layMade 1 = .ok (.aload_n 0, 1) := by decide +kernel
theorem d_Mo_layMade_2 : decode b_Mo_layMade 2 = .ok (.getfield 128, 3) := by decide +kernel
