section
theorem dX12_operands_0 : decode cX12_operands 0 = .ok (.iload_n 2, 1) := by decide +kernel
theorem dX12_operands_1 : decode cX12_operands 1 = .ok (.sipush 168, 3) := by decide +kernel
theorem dX12_operands_4 : decode cX12_operands 4 = .ok (.if_icmp .eq 17, 3) := by decide +kernel
theorem dX12_operands_7 : decode cX12_operands 7 = .ok (.iload_n 2, 1) := by decide +kernel
theorem dX12_operands_8 : decode cX12_operands 8 = .ok (.sipush 169, 3) := by decide +kernel
theorem dX12_operands_11 : decode cX12_operands 11 = .ok (.if_icmp .eq 10, 3) := by decide +kernel
theorem dX12_operands_14 : decode cX12_operands 14 = .ok (.iload_n 2, 1) := by decide +kernel
theorem dX12_operands_15 : decode cX12_operands 15 = .ok (.sipush 201, 3) := by decide +kernel
theorem dX12_operands_18 : decode cX12_operands 18 = .ok (.if_icmp .ne 40, 3) := by decide +kernel
theorem dX12_operands_21 : decode cX12_operands 21 = .ok (.aload_n 0, 1) := by decide +kernel
theorem dX12_operands_22 : decode cX12_operands 22 = .ok (.getfield 266, 3) := by decide +kernel
theorem dX12_operands_25 : decode cX12_operands 25 = .ok (.bipush 51, 2) := by decide +kernel
theorem dX12_operands_27 : decode cX12_operands 27 = .ok (.if_icmp .ge 29, 3) := by decide +kernel
theorem dX12_operands_30 : decode cX12_operands 30 = .ok (.iload_n 2, 1) := by decide +kernel
theorem dX12_operands_31 : decode cX12_operands 31 = .ok (.sipush 169, 3) := by decide +kernel
theorem dX12_operands_34 : decode cX12_operands 34 = .ok (.if_icmp .ne 18, 3) := by decide +kernel
theorem dX12_operands_37 : decode cX12_operands 37 = .ok (.aload_n 0, 1) := by decide +kernel
theorem dX12_operands_38 : decode cX12_operands 38 = .ok (.aload_n 0, 1) := by decide +kernel
theorem dX12_operands_39 : decode cX12_operands 39 = .ok (.iload_n 1, 1) := by decide +kernel
theorem dX12_operands_40 : decode cX12_operands 40 = .ok (.iconst 1, 1) := by decide +kernel
theorem dX12_operands_41 : decode cX12_operands 41 = .ok (.iadd, 1) := by decide +kernel
theorem dX12_operands_42 : decode cX12_operands 42 = .ok (.invokevirtual 474, 3) := by decide +kernel
theorem dX12_operands_45 : decode cX12_operands 45 = .ok (.iconst 1, 1) := by decide +kernel
theorem dX12_operands_46 : decode cX12_operands 46 = .ok (.invokevirtual 498, 3) := by decide +kernel
theorem dX12_operands_49 : decode cX12_operands 49 = .ok (.ifCond .eq 7, 3) := by decide +kernel
theorem dX12_operands_52 : decode cX12_operands 52 = .ok (.iconst 1, 1) := by decide +kernel
theorem dX12_operands_53 : decode cX12_operands 53 = .ok (.goto 4, 3) := by decide +kernel
theorem dX12_operands_56 : decode cX12_operands 56 = .ok (.iconst 0, 1) := by decide +kernel
theorem dX12_operands_57 : decode cX12_operands 57 = .ok (.ireturn, 1) := by decide +kernel
theorem dX12_operands_58 : decode cX12_operands 58 = .ok (.iload_n 2, 1) := by decide +kernel
theorem dX12_operands_59 : decode cX12_operands 59 = .ok (.bipush 21, 2) := by decide +kernel
theorem dX12_operands_61 : decode cX12_operands 61 = .ok (.if_icmp .lt 9, 3) := by decide +kernel
theorem dX12_operands_64 : decode cX12_operands 64 = .ok (.iload_n 2, 1) := by decide +kernel
theorem dX12_operands_65 : decode cX12_operands 65 = .ok (.bipush 25, 2) := by decide +kernel
theorem dX12_operands_67 : decode cX12_operands 67 = .ok (.if_icmp .le 15, 3) := by decide +kernel
theorem dX12_operands_70 : decode cX12_operands 70 = .ok (.iload_n 2, 1) := by decide +kernel
theorem dX12_operands_71 : decode cX12_operands 71 = .ok (.bipush 54, 2) := by decide +kernel
theorem dX12_operands_73 : decode cX12_operands 73 = .ok (.if_icmp .lt 54, 3) := by decide +kernel
theorem dX12_operands_76 : decode cX12_operands 76 = .ok (.iload_n 2, 1) := by decide +kernel
theorem dX12_operands_77 : decode cX12_operands 77 = .ok (.bipush 58, 2) := by decide +kernel
theorem dX12_operands_79 : decode cX12_operands 79 = .ok (.if_icmp .gt 48, 3) := by decide +kernel
theorem dX12_operands_82 : decode cX12_operands 82 = .ok (.iload_n 2, 1) := by decide +kernel
theorem dX12_operands_83 : decode cX12_operands 83 = .ok (.bipush 54, 2) := by decide +kernel
theorem dX12_operands_85 : decode cX12_operands 85 = .ok (.if_icmp .lt 10, 3) := by decide +kernel
theorem dX12_operands_88 : decode cX12_operands 88 = .ok (.iload_n 2, 1) := by decide +kernel
theorem dX12_operands_89 : decode cX12_operands 89 = .ok (.bipush 54, 2) := by decide +kernel
theorem dX12_operands_91 : decode cX12_operands 91 = .ok (.isub, 1) := by decide +kernel
theorem dX12_operands_92 : decode cX12_operands 92 = .ok (.goto 7, 3) := by decide +kernel
theorem dX12_operands_95 : decode cX12_operands 95 = .ok (.iload_n 2, 1) := by decide +kernel
theorem dX12_operands_96 : decode cX12_operands 96 = .ok (.bipush 21, 2) := by decide +kernel
theorem dX12_operands_98 : decode cX12_operands 98 = .ok (.isub, 1) := by decide +kernel
theorem dX12_operands_99 : decode cX12_operands 99 = .ok (.istore_n 3, 1) := by decide +kernel
theorem dX12_operands_100 : decode cX12_operands 100 = .ok (.aload_n 0, 1) := by decide +kernel
theorem dX12_operands_101 : decode cX12_operands 101 = .ok (.aload_n 0, 1) := by decide +kernel
theorem dX12_operands_102 : decode cX12_operands 102 = .ok (.iload_n 1, 1) := by decide +kernel
theorem dX12_operands_103 : decode cX12_operands 103 = .ok (.iconst 1, 1) := by decide +kernel
theorem dX12_operands_104 : decode cX12_operands 104 = .ok (.iadd, 1) := by decide +kernel
theorem dX12_operands_105 : decode cX12_operands 105 = .ok (.invokevirtual 474, 3) := by decide +kernel
theorem dX12_operands_108 : decode cX12_operands 108 = .ok (.iload_n 3, 1) := by decide +kernel
theorem dX12_operands_109 : decode cX12_operands 109 = .ok (.iconst 1, 1) := by decide +kernel
theorem dX12_operands_110 : decode cX12_operands 110 = .ok (.if_icmp .eq 8, 3) := by decide +kernel
theorem dX12_operands_113 : decode cX12_operands 113 = .ok (.iload_n 3, 1) := by decide +kernel
theorem dX12_operands_114 : decode cX12_operands 114 = .ok (.iconst 3, 1) := by decide +kernel
theorem dX12_operands_115 : decode cX12_operands 115 = .ok (.if_icmp .ne 7, 3) := by decide +kernel
theorem dX12_operands_118 : decode cX12_operands 118 = .ok (.iconst 2, 1) := by decide +kernel
theorem dX12_operands_119 : decode cX12_operands 119 = .ok (.goto 4, 3) := by decide +kernel
theorem dX12_operands_122 : decode cX12_operands 122 = .ok (.iconst 1, 1) := by decide +kernel
theorem dX12_operands_123 : decode cX12_operands 123 = .ok (.invokevirtual 498, 3) := by decide +kernel
theorem dX12_operands_126 : decode cX12_operands 126 = .ok (.ireturn, 1) := by decide +kernel
theorem dX12_operands_127 : decode cX12_operands 127 = .ok (.iload_n 2, 1) := by decide +kernel
theorem dX12_operands_128 : decode cX12_operands 128 = .ok (.bipush 26, 2) := by decide +kernel
theorem dX12_operands_130 : decode cX12_operands 130 = .ok (.if_icmp .lt 9, 3) := by decide +kernel
theorem dX12_operands_133 : decode cX12_operands 133 = .ok (.iload_n 2, 1) := by decide +kernel
theorem dX12_operands_134 : decode cX12_operands 134 = .ok (.bipush 45, 2) := by decide +kernel
theorem dX12_operands_136 : decode cX12_operands 136 = .ok (.if_icmp .le 15, 3) := by decide +kernel
theorem dX12_operands_139 : decode cX12_operands 139 = .ok (.iload_n 2, 1) := by decide +kernel
theorem dX12_operands_140 : decode cX12_operands 140 = .ok (.bipush 59, 2) := by decide +kernel
theorem dX12_operands_142 : decode cX12_operands 142 = .ok (.if_icmp .lt 54, 3) := by decide +kernel
theorem dX12_operands_145 : decode cX12_operands 145 = .ok (.iload_n 2, 1) := by decide +kernel
theorem dX12_operands_146 : decode cX12_operands 146 = .ok (.bipush 78, 2) := by decide +kernel
theorem dX12_operands_148 : decode cX12_operands 148 = .ok (.if_icmp .gt 48, 3) := by decide +kernel
theorem dX12_operands_151 : decode cX12_operands 151 = .ok (.iload_n 2, 1) := by decide +kernel
theorem dX12_operands_152 : decode cX12_operands 152 = .ok (.bipush 59, 2) := by decide +kernel
theorem dX12_operands_154 : decode cX12_operands 154 = .ok (.if_icmp .lt 10, 3) := by decide +kernel
theorem dX12_operands_157 : decode cX12_operands 157 = .ok (.iload_n 2, 1) := by decide +kernel
theorem dX12_operands_158 : decode cX12_operands 158 = .ok (.bipush 59, 2) := by decide +kernel
theorem dX12_operands_160 : decode cX12_operands 160 = .ok (.isub, 1) := by decide +kernel
theorem dX12_operands_161 : decode cX12_operands 161 = .ok (.goto 7, 3) := by decide +kernel
theorem dX12_operands_164 : decode cX12_operands 164 = .ok (.iload_n 2, 1) := by decide +kernel
theorem dX12_operands_165 : decode cX12_operands 165 = .ok (.bipush 26, 2) := by decide +kernel
theorem dX12_operands_167 : decode cX12_operands 167 = .ok (.isub, 1) := by decide +kernel
theorem dX12_operands_168 : decode cX12_operands 168 = .ok (.istore_n 3, 1) := by decide +kernel
theorem dX12_operands_169 : decode cX12_operands 169 = .ok (.aload_n 0, 1) := by decide +kernel
theorem dX12_operands_170 : decode cX12_operands 170 = .ok (.iload_n 3, 1) := by decide +kernel
theorem dX12_operands_171 : decode cX12_operands 171 = .ok (.iconst 4, 1) := by decide +kernel
theorem dX12_operands_172 : decode cX12_operands 172 = .ok (.irem, 1) := by decide +kernel
theorem dX12_operands_173 : decode cX12_operands 173 = .ok (.iload_n 3, 1) := by decide +kernel
theorem dX12_operands_174 : decode cX12_operands 174 = .ok (.iconst 4, 1) := by decide +kernel
theorem dX12_operands_175 : decode cX12_operands 175 = .ok (.idiv, 1) := by decide +kernel
theorem dX12_operands_176 : decode cX12_operands 176 = .ok (.iconst 1, 1) := by decide +kernel
theorem dX12_operands_177 : decode cX12_operands 177 = .ok (.if_icmp .eq 10, 3) := by decide +kernel
theorem dX12_operands_180 : decode cX12_operands 180 = .ok (.iload_n 3, 1) := by decide +kernel
theorem dX12_operands_181 : decode cX12_operands 181 = .ok (.iconst 4, 1) := by decide +kernel
theorem dX12_operands_182 : decode cX12_operands 182 = .ok (.idiv, 1) := by decide +kernel
theorem dX12_operands_183 : decode cX12_operands 183 = .ok (.iconst 3, 1) := by decide +kernel
theorem dX12_operands_184 : decode cX12_operands 184 = .ok (.if_icmp .ne 7, 3) := by decide +kernel
theorem dX12_operands_187 : decode cX12_operands 187 = .ok (.iconst 2, 1) := by decide +kernel
theorem dX12_operands_188 : decode cX12_operands 188 = .ok (.goto 4, 3) := by decide +kernel
theorem dX12_operands_191 : decode cX12_operands 191 = .ok (.iconst 1, 1) := by decide +kernel
theorem dX12_operands_192 : decode cX12_operands 192 = .ok (.invokevirtual 498, 3) := by decide +kernel
theorem dX12_operands_195 : decode cX12_operands 195 = .ok (.ireturn, 1) := by decide +kernel
theorem dX12_operands_196 : decode cX12_operands 196 = .ok (.iload_n 2, 1) := by decide +kernel
theorem dX12_operands_197 : decode cX12_operands 197 = .ok (.sipush 132, 3) := by decide +kernel
theorem dX12_operands_200 : decode cX12_operands 200 = .ok (.if_icmp .ne 16, 3) := by decide +kernel
theorem dX12_operands_203 : decode cX12_operands 203 = .ok (.aload_n 0, 1) := by decide +kernel
theorem dX12_operands_204 : decode cX12_operands 204 = .ok (.aload_n 0, 1) := by decide +kernel
theorem dX12_operands_205 : decode cX12_operands 205 = .ok (.iload_n 1, 1) := by decide +kernel
theorem dX12_operands_206 : decode cX12_operands 206 = .ok (.iconst 1, 1) := by decide +kernel
theorem dX12_operands_207 : decode cX12_operands 207 = .ok (.iadd, 1) := by decide +kernel
theorem dX12_operands_208 : decode cX12_operands 208 = .ok (.invokevirtual 474, 3) := by decide +kernel
theorem dX12_operands_211 : decode cX12_operands 211 = .ok (.iconst 1, 1) := by decide +kernel
theorem dX12_operands_212 : decode cX12_operands 212 = .ok (.invokevirtual 498, 3) := by decide +kernel
theorem dX12_operands_215 : decode cX12_operands 215 = .ok (.ireturn, 1) := by decide +kernel
theorem dX12_operands_216 : decode cX12_operands 216 = .ok (.iload_n 2, 1) := by decide +kernel
theorem dX12_operands_217 : decode cX12_operands 217 = .ok (.sipush 196, 3) := by decide +kernel
theorem dX12_operands_220 : decode cX12_operands 220 = .ok (.if_icmp .ne 76, 3) := by decide +kernel
theorem dX12_operands_223 : decode cX12_operands 223 = .ok (.aload_n 0, 1) := by decide +kernel
theorem dX12_operands_224 : decode cX12_operands 224 = .ok (.iload_n 1, 1) := by decide +kernel
theorem dX12_operands_225 : decode cX12_operands 225 = .ok (.iconst 1, 1) := by decide +kernel
theorem dX12_operands_226 : decode cX12_operands 226 = .ok (.iadd, 1) := by decide +kernel
theorem dX12_operands_227 : decode cX12_operands 227 = .ok (.invokevirtual 474, 3) := by decide +kernel
theorem dX12_operands_230 : decode cX12_operands 230 = .ok (.istore_n 3, 1) := by decide +kernel
theorem dX12_operands_231 : decode cX12_operands 231 = .ok (.iload_n 3, 1) := by decide +kernel
theorem dX12_operands_232 : decode cX12_operands 232 = .ok (.sipush 169, 3) := by decide +kernel
theorem dX12_operands_235 : decode cX12_operands 235 = .ok (.if_icmp .ne 12, 3) := by decide +kernel
theorem dX12_operands_238 : decode cX12_operands 238 = .ok (.aload_n 0, 1) := by decide +kernel
theorem dX12_operands_239 : decode cX12_operands 239 = .ok (.getfield 266, 3) := by decide +kernel
theorem dX12_operands_242 : decode cX12_operands 242 = .ok (.bipush 51, 2) := by decide +kernel
theorem dX12_operands_244 : decode cX12_operands 244 = .ok (.if_icmp .ge 50, 3) := by decide +kernel
theorem dX12_operands_247 : decode cX12_operands 247 = .ok (.aload_n 0, 1) := by decide +kernel
theorem dX12_operands_248 : decode cX12_operands 248 = .ok (.aload_n 0, 1) := by decide +kernel
theorem dX12_operands_249 : decode cX12_operands 249 = .ok (.iload_n 1, 1) := by decide +kernel
theorem dX12_operands_250 : decode cX12_operands 250 = .ok (.iconst 2, 1) := by decide +kernel
theorem dX12_operands_251 : decode cX12_operands 251 = .ok (.iadd, 1) := by decide +kernel
theorem dX12_operands_252 : decode cX12_operands 252 = .ok (.invokevirtual 459, 3) := by decide +kernel
theorem dX12_operands_255 : decode cX12_operands 255 = .ok (.iload_n 3, 1) := by decide +kernel
theorem dX12_operands_256 : decode cX12_operands 256 = .ok (.bipush 22, 2) := by decide +kernel
theorem dX12_operands_258 : decode cX12_operands 258 = .ok (.if_icmp .eq 21, 3) := by decide +kernel
theorem dX12_operands_261 : decode cX12_operands 261 = .ok (.iload_n 3, 1) := by decide +kernel
theorem dX12_operands_262 : decode cX12_operands 262 = .ok (.bipush 24, 2) := by decide +kernel
theorem dX12_operands_264 : decode cX12_operands 264 = .ok (.if_icmp .eq 15, 3) := by decide +kernel
theorem dX12_operands_267 : decode cX12_operands 267 = .ok (.iload_n 3, 1) := by decide +kernel
theorem dX12_operands_268 : decode cX12_operands 268 = .ok (.bipush 55, 2) := by decide +kernel
theorem dX12_operands_270 : decode cX12_operands 270 = .ok (.if_icmp .eq 9, 3) := by decide +kernel
theorem dX12_operands_273 : decode cX12_operands 273 = .ok (.iload_n 3, 1) := by decide +kernel
theorem dX12_operands_274 : decode cX12_operands 274 = .ok (.bipush 57, 2) := by decide +kernel
theorem dX12_operands_276 : decode cX12_operands 276 = .ok (.if_icmp .ne 7, 3) := by decide +kernel
theorem dX12_operands_279 : decode cX12_operands 279 = .ok (.iconst 2, 1) := by decide +kernel
theorem dX12_operands_280 : decode cX12_operands 280 = .ok (.goto 4, 3) := by decide +kernel
theorem dX12_operands_283 : decode cX12_operands 283 = .ok (.iconst 1, 1) := by decide +kernel
theorem dX12_operands_284 : decode cX12_operands 284 = .ok (.invokevirtual 498, 3) := by decide +kernel
theorem dX12_operands_287 : decode cX12_operands 287 = .ok (.ifCond .eq 7, 3) := by decide +kernel
theorem dX12_operands_290 : decode cX12_operands 290 = .ok (.iconst 1, 1) := by decide +kernel
theorem dX12_operands_291 : decode cX12_operands 291 = .ok (.goto 4, 3) := by decide +kernel
theorem dX12_operands_294 : decode cX12_operands 294 = .ok (.iconst 0, 1) := by decide +kernel
theorem dX12_operands_295 : decode cX12_operands 295 = .ok (.ireturn, 1) := by decide +kernel
theorem dX12_operands_296 : decode cX12_operands 296 = .ok (.iload_n 2, 1) := by decide +kernel
theorem dX12_operands_297 : decode cX12_operands 297 = .ok (.sipush 188, 3) := by decide +kernel
theorem dX12_operands_300 : decode cX12_operands 300 = .ok (.if_icmp .ne 32, 3) := by decide +kernel
theorem dX12_operands_303 : decode cX12_operands 303 = .ok (.aload_n 0, 1) := by decide +kernel
theorem dX12_operands_304 : decode cX12_operands 304 = .ok (.iload_n 1, 1) := by decide +kernel
theorem dX12_operands_305 : decode cX12_operands 305 = .ok (.iconst 1, 1) := by decide +kernel
theorem dX12_operands_306 : decode cX12_operands 306 = .ok (.iadd, 1) := by decide +kernel
theorem dX12_operands_307 : decode cX12_operands 307 = .ok (.invokevirtual 474, 3) := by decide +kernel
theorem dX12_operands_310 : decode cX12_operands 310 = .ok (.iconst 4, 1) := by decide +kernel
theorem dX12_operands_311 : decode cX12_operands 311 = .ok (.if_icmp .lt 19, 3) := by decide +kernel
theorem dX12_operands_314 : decode cX12_operands 314 = .ok (.aload_n 0, 1) := by decide +kernel
theorem dX12_operands_315 : decode cX12_operands 315 = .ok (.iload_n 1, 1) := by decide +kernel
theorem dX12_operands_316 : decode cX12_operands 316 = .ok (.iconst 1, 1) := by decide +kernel
theorem dX12_operands_317 : decode cX12_operands 317 = .ok (.iadd, 1) := by decide +kernel
theorem dX12_operands_318 : decode cX12_operands 318 = .ok (.invokevirtual 474, 3) := by decide +kernel
theorem dX12_operands_321 : decode cX12_operands 321 = .ok (.bipush 11, 2) := by decide +kernel
theorem dX12_operands_323 : decode cX12_operands 323 = .ok (.if_icmp .gt 7, 3) := by decide +kernel
theorem dX12_operands_326 : decode cX12_operands 326 = .ok (.iconst 1, 1) := by decide +kernel
theorem dX12_operands_327 : decode cX12_operands 327 = .ok (.goto 4, 3) := by decide +kernel
theorem dX12_operands_330 : decode cX12_operands 330 = .ok (.iconst 0, 1) := by decide +kernel
theorem dX12_operands_331 : decode cX12_operands 331 = .ok (.ireturn, 1) := by decide +kernel
theorem dX12_operands_332 : decode cX12_operands 332 = .ok (.iload_n 2, 1) := by decide +kernel
theorem dX12_operands_333 : decode cX12_operands 333 = .ok (.bipush 18, 2) := by decide +kernel
theorem dX12_operands_335 : decode cX12_operands 335 = .ok (.if_icmp .lt 178, 3) := by decide +kernel
theorem dX12_operands_338 : decode cX12_operands 338 = .ok (.iload_n 2, 1) := by decide +kernel
theorem dX12_operands_339 : decode cX12_operands 339 = .ok (.bipush 20, 2) := by decide +kernel
theorem dX12_operands_341 : decode cX12_operands 341 = .ok (.if_icmp .gt 172, 3) := by decide +kernel
theorem dX12_operands_344 : decode cX12_operands 344 = .ok (.iload_n 2, 1) := by decide +kernel
theorem dX12_operands_345 : decode cX12_operands 345 = .ok (.bipush 18, 2) := by decide +kernel
theorem dX12_operands_347 : decode cX12_operands 347 = .ok (.if_icmp .ne 13, 3) := by decide +kernel
theorem dX12_operands_350 : decode cX12_operands 350 = .ok (.aload_n 0, 1) := by decide +kernel
theorem dX12_operands_351 : decode cX12_operands 351 = .ok (.iload_n 1, 1) := by decide +kernel
theorem dX12_operands_352 : decode cX12_operands 352 = .ok (.iconst 1, 1) := by decide +kernel
theorem dX12_operands_353 : decode cX12_operands 353 = .ok (.iadd, 1) := by decide +kernel
theorem dX12_operands_354 : decode cX12_operands 354 = .ok (.invokevirtual 474, 3) := by decide +kernel
theorem dX12_operands_357 : decode cX12_operands 357 = .ok (.goto 10, 3) := by decide +kernel
theorem dX12_operands_360 : decode cX12_operands 360 = .ok (.aload_n 0, 1) := by decide +kernel
theorem dX12_operands_361 : decode cX12_operands 361 = .ok (.iload_n 1, 1) := by decide +kernel
theorem dX12_operands_362 : decode cX12_operands 362 = .ok (.iconst 1, 1) := by decide +kernel
theorem dX12_operands_363 : decode cX12_operands 363 = .ok (.iadd, 1) := by decide +kernel
theorem dX12_operands_364 : decode cX12_operands 364 = .ok (.invokevirtual 459, 3) := by decide +kernel
theorem dX12_operands_367 : decode cX12_operands 367 = .ok (.istore_n 3, 1) := by decide +kernel
theorem dX12_operands_368 : decode cX12_operands 368 = .ok (.aload_n 0, 1) := by decide +kernel
theorem dX12_operands_369 : decode cX12_operands 369 = .ok (.iload_n 3, 1) := by decide +kernel
theorem dX12_operands_370 : decode cX12_operands 370 = .ok (.invokevirtual 338, 3) := by decide +kernel
theorem dX12_operands_373 : decode cX12_operands 373 = .ok (.istore 4, 2) := by decide +kernel
theorem dX12_operands_375 : decode cX12_operands 375 = .ok (.iload_n 2, 1) := by decide +kernel
theorem dX12_operands_376 : decode cX12_operands 376 = .ok (.bipush 20, 2) := by decide +kernel
theorem dX12_operands_378 : decode cX12_operands 378 = .ok (.if_icmp .ne 42, 3) := by decide +kernel
theorem dX12_operands_381 : decode cX12_operands 381 = .ok (.iload 4, 2) := by decide +kernel
theorem dX12_operands_383 : decode cX12_operands 383 = .ok (.iconst 5, 1) := by decide +kernel
theorem dX12_operands_384 : decode cX12_operands 384 = .ok (.if_icmp .eq 30, 3) := by decide +kernel
theorem dX12_operands_387 : decode cX12_operands 387 = .ok (.iload 4, 2) := by decide +kernel
theorem dX12_operands_389 : decode cX12_operands 389 = .ok (.bipush 6, 2) := by decide +kernel
theorem dX12_operands_391 : decode cX12_operands 391 = .ok (.if_icmp .eq 23, 3) := by decide +kernel
theorem dX12_operands_394 : decode cX12_operands 394 = .ok (.iload 4, 2) := by decide +kernel
theorem dX12_operands_396 : decode cX12_operands 396 = .ok (.bipush 17, 2) := by decide +kernel
theorem dX12_operands_398 : decode cX12_operands 398 = .ok (.if_icmp .ne 20, 3) := by decide +kernel
theorem dX12_operands_401 : decode cX12_operands 401 = .ok (.aload_n 0, 1) := by decide +kernel
theorem dX12_operands_402 : decode cX12_operands 402 = .ok (.aload_n 0, 1) := by decide +kernel
theorem dX12_operands_403 : decode cX12_operands 403 = .ok (.iload_n 3, 1) := by decide +kernel
theorem dX12_operands_404 : decode cX12_operands 404 = .ok (.invokevirtual 501, 3) := by decide +kernel
theorem dX12_operands_407 : decode cX12_operands 407 = .ok (.iconst 0, 1) := by decide +kernel
theorem dX12_operands_408 : decode cX12_operands 408 = .ok (.invokevirtual 453, 3) := by decide +kernel
theorem dX12_operands_411 : decode cX12_operands 411 = .ok (.ifCond .eq 7, 3) := by decide +kernel
theorem dX12_operands_414 : decode cX12_operands 414 = .ok (.iconst 1, 1) := by decide +kernel
theorem dX12_operands_415 : decode cX12_operands 415 = .ok (.goto 4, 3) := by decide +kernel
theorem dX12_operands_418 : decode cX12_operands 418 = .ok (.iconst 0, 1) := by decide +kernel
theorem dX12_operands_419 : decode cX12_operands 419 = .ok (.ireturn, 1) := by decide +kernel
theorem dX12_operands_420 : decode cX12_operands 420 = .ok (.iload 4, 2) := by decide +kernel
theorem dX12_operands_422 : decode cX12_operands 422 = .ok (.iconst 3, 1) := by decide +kernel
theorem dX12_operands_423 : decode cX12_operands 423 = .ok (.if_icmp .eq 84, 3) := by decide +kernel
theorem dX12_operands_426 : decode cX12_operands 426 = .ok (.iload 4, 2) := by decide +kernel
theorem dX12_operands_428 : decode cX12_operands 428 = .ok (.iconst 4, 1) := by decide +kernel
theorem dX12_operands_429 : decode cX12_operands 429 = .ok (.if_icmp .eq 78, 3) := by decide +kernel
theorem dX12_operands_432 : decode cX12_operands 432 = .ok (.iload 4, 2) := by decide +kernel
theorem dX12_operands_434 : decode cX12_operands 434 = .ok (.bipush 8, 2) := by decide +kernel
theorem dX12_operands_436 : decode cX12_operands 436 = .ok (.if_icmp .eq 71, 3) := by decide +kernel
theorem dX12_operands_439 : decode cX12_operands 439 = .ok (.iload 4, 2) := by decide +kernel
theorem dX12_operands_441 : decode cX12_operands 441 = .ok (.bipush 7, 2) := by decide +kernel
theorem dX12_operands_443 : decode cX12_operands 443 = .ok (.if_icmp .ne 12, 3) := by decide +kernel
theorem dX12_operands_446 : decode cX12_operands 446 = .ok (.aload_n 0, 1) := by decide +kernel
theorem dX12_operands_447 : decode cX12_operands 447 = .ok (.getfield 266, 3) := by decide +kernel
theorem dX12_operands_450 : decode cX12_operands 450 = .ok (.bipush 49, 2) := by decide +kernel
theorem dX12_operands_452 : decode cX12_operands 452 = .ok (.if_icmp .ge 55, 3) := by decide +kernel
theorem dX12_operands_455 : decode cX12_operands 455 = .ok (.iload 4, 2) := by decide +kernel
theorem dX12_operands_457 : decode cX12_operands 457 = .ok (.bipush 15, 2) := by decide +kernel
theorem dX12_operands_459 : decode cX12_operands 459 = .ok (.if_icmp .eq 10, 3) := by decide +kernel
theorem dX12_operands_462 : decode cX12_operands 462 = .ok (.iload 4, 2) := by decide +kernel
theorem dX12_operands_464 : decode cX12_operands 464 = .ok (.bipush 16, 2) := by decide +kernel
theorem dX12_operands_466 : decode cX12_operands 466 = .ok (.if_icmp .ne 12, 3) := by decide +kernel
theorem dX12_operands_469 : decode cX12_operands 469 = .ok (.aload_n 0, 1) := by decide +kernel
theorem dX12_operands_470 : decode cX12_operands 470 = .ok (.getfield 266, 3) := by decide +kernel
theorem dX12_operands_473 : decode cX12_operands 473 = .ok (.bipush 51, 2) := by decide +kernel
theorem dX12_operands_475 : decode cX12_operands 475 = .ok (.if_icmp .ge 32, 3) := by decide +kernel
theorem dX12_operands_478 : decode cX12_operands 478 = .ok (.iload 4, 2) := by decide +kernel
theorem dX12_operands_480 : decode cX12_operands 480 = .ok (.bipush 17, 2) := by decide +kernel
theorem dX12_operands_482 : decode cX12_operands 482 = .ok (.if_icmp .ne 29, 3) := by decide +kernel
theorem dX12_operands_485 : decode cX12_operands 485 = .ok (.aload_n 0, 1) := by decide +kernel
theorem dX12_operands_486 : decode cX12_operands 486 = .ok (.getfield 266, 3) := by decide +kernel
theorem dX12_operands_489 : decode cX12_operands 489 = .ok (.bipush 55, 2) := by decide +kernel
theorem dX12_operands_491 : decode cX12_operands 491 = .ok (.if_icmp .lt 20, 3) := by decide +kernel
theorem dX12_operands_494 : decode cX12_operands 494 = .ok (.aload_n 0, 1) := by decide +kernel
theorem dX12_operands_495 : decode cX12_operands 495 = .ok (.aload_n 0, 1) := by decide +kernel
theorem dX12_operands_496 : decode cX12_operands 496 = .ok (.iload_n 3, 1) := by decide +kernel
theorem dX12_operands_497 : decode cX12_operands 497 = .ok (.invokevirtual 501, 3) := by decide +kernel
theorem dX12_operands_500 : decode cX12_operands 500 = .ok (.iconst 0, 1) := by decide +kernel
theorem dX12_operands_501 : decode cX12_operands 501 = .ok (.invokevirtual 453, 3) := by decide +kernel
theorem dX12_operands_504 : decode cX12_operands 504 = .ok (.ifCond .ne 7, 3) := by decide +kernel
theorem dX12_operands_507 : decode cX12_operands 507 = .ok (.iconst 1, 1) := by decide +kernel
theorem dX12_operands_508 : decode cX12_operands 508 = .ok (.goto 4, 3) := by decide +kernel
theorem dX12_operands_511 : decode cX12_operands 511 = .ok (.iconst 0, 1) := by decide +kernel
theorem dX12_operands_512 : decode cX12_operands 512 = .ok (.ireturn, 1) := by decide +kernel
theorem dX12_operands_513 : decode cX12_operands 513 = .ok (.iload_n 2, 1) := by decide +kernel
theorem dX12_operands_514 : decode cX12_operands 514 = .ok (.sipush 178, 3) := by decide +kernel
theorem dX12_operands_517 : decode cX12_operands 517 = .ok (.if_icmp .lt 32, 3) := by decide +kernel
theorem dX12_operands_520 : decode cX12_operands 520 = .ok (.iload_n 2, 1) := by decide +kernel
theorem dX12_operands_521 : decode cX12_operands 521 = .ok (.sipush 181, 3) := by decide +kernel
theorem dX12_operands_524 : decode cX12_operands 524 = .ok (.if_icmp .gt 25, 3) := by decide +kernel
theorem dX12_operands_527 : decode cX12_operands 527 = .ok (.aload_n 0, 1) := by decide +kernel
theorem dX12_operands_528 : decode cX12_operands 528 = .ok (.aload_n 0, 1) := by decide +kernel
theorem dX12_operands_529 : decode cX12_operands 529 = .ok (.iload_n 1, 1) := by decide +kernel
theorem dX12_operands_530 : decode cX12_operands 530 = .ok (.iconst 1, 1) := by decide +kernel
theorem dX12_operands_531 : decode cX12_operands 531 = .ok (.iadd, 1) := by decide +kernel
theorem dX12_operands_532 : decode cX12_operands 532 = .ok (.invokevirtual 459, 3) := by decide +kernel
theorem dX12_operands_535 : decode cX12_operands 535 = .ok (.invokevirtual 338, 3) := by decide +kernel
theorem dX12_operands_538 : decode cX12_operands 538 = .ok (.bipush 9, 2) := by decide +kernel
theorem dX12_operands_540 : decode cX12_operands 540 = .ok (.if_icmp .ne 7, 3) := by decide +kernel
theorem dX12_operands_543 : decode cX12_operands 543 = .ok (.iconst 1, 1) := by decide +kernel
theorem dX12_operands_544 : decode cX12_operands 544 = .ok (.goto 4, 3) := by decide +kernel
theorem dX12_operands_547 : decode cX12_operands 547 = .ok (.iconst 0, 1) := by decide +kernel
theorem dX12_operands_548 : decode cX12_operands 548 = .ok (.ireturn, 1) := by decide +kernel
theorem dX12_operands_549 : decode cX12_operands 549 = .ok (.iload_n 2, 1) := by decide +kernel
theorem dX12_operands_550 : decode cX12_operands 550 = .ok (.sipush 182, 3) := by decide +kernel
theorem dX12_operands_553 : decode cX12_operands 553 = .ok (.if_icmp .lt 139, 3) := by decide +kernel
theorem dX12_operands_556 : decode cX12_operands 556 = .ok (.iload_n 2, 1) := by decide +kernel
theorem dX12_operands_557 : decode cX12_operands 557 = .ok (.sipush 185, 3) := by decide +kernel
theorem dX12_operands_560 : decode cX12_operands 560 = .ok (.if_icmp .gt 132, 3) := by decide +kernel
theorem dX12_operands_563 : decode cX12_operands 563 = .ok (.aload_n 0, 1) := by decide +kernel
theorem dX12_operands_564 : decode cX12_operands 564 = .ok (.iload_n 1, 1) := by decide +kernel
theorem dX12_operands_565 : decode cX12_operands 565 = .ok (.iconst 1, 1) := by decide +kernel
theorem dX12_operands_566 : decode cX12_operands 566 = .ok (.iadd, 1) := by decide +kernel
theorem dX12_operands_567 : decode cX12_operands 567 = .ok (.invokevirtual 459, 3) := by decide +kernel
theorem dX12_operands_570 : decode cX12_operands 570 = .ok (.istore_n 3, 1) := by decide +kernel
theorem dX12_operands_571 : decode cX12_operands 571 = .ok (.aload_n 0, 1) := by decide +kernel
theorem dX12_operands_572 : decode cX12_operands 572 = .ok (.iload_n 3, 1) := by decide +kernel
theorem dX12_operands_573 : decode cX12_operands 573 = .ok (.invokevirtual 338, 3) := by decide +kernel
theorem dX12_operands_576 : decode cX12_operands 576 = .ok (.istore 4, 2) := by decide +kernel
theorem dX12_operands_578 : decode cX12_operands 578 = .ok (.iload_n 2, 1) := by decide +kernel
theorem dX12_operands_579 : decode cX12_operands 579 = .ok (.sipush 185, 3) := by decide +kernel
theorem dX12_operands_582 : decode cX12_operands 582 = .ok (.if_icmp .ne 13, 3) := by decide +kernel
theorem dX12_operands_585 : decode cX12_operands 585 = .ok (.iload 4, 2) := by decide +kernel
theorem dX12_operands_587 : decode cX12_operands 587 = .ok (.bipush 11, 2) := by decide +kernel
theorem dX12_operands_589 : decode cX12_operands 589 = .ok (.if_icmp .ne 36, 3) := by decide +kernel
theorem dX12_operands_592 : decode cX12_operands 592 = .ok (.goto 35, 3) := by decide +kernel
theorem dX12_operands_595 : decode cX12_operands 595 = .ok (.iload 4, 2) := by decide +kernel
theorem dX12_operands_597 : decode cX12_operands 597 = .ok (.bipush 10, 2) := by decide +kernel
theorem dX12_operands_599 : decode cX12_operands 599 = .ok (.if_icmp .eq 28, 3) := by decide +kernel
theorem dX12_operands_602 : decode cX12_operands 602 = .ok (.iload_n 2, 1) := by decide +kernel
theorem dX12_operands_603 : decode cX12_operands 603 = .ok (.sipush 182, 3) := by decide +kernel
theorem dX12_operands_606 : decode cX12_operands 606 = .ok (.if_icmp .eq 19, 3) := by decide +kernel
theorem dX12_operands_609 : decode cX12_operands 609 = .ok (.iload 4, 2) := by decide +kernel
theorem dX12_operands_611 : decode cX12_operands 611 = .ok (.bipush 11, 2) := by decide +kernel
theorem dX12_operands_613 : decode cX12_operands 613 = .ok (.if_icmp .ne 12, 3) := by decide +kernel
theorem dX12_operands_616 : decode cX12_operands 616 = .ok (.aload_n 0, 1) := by decide +kernel
theorem dX12_operands_617 : decode cX12_operands 617 = .ok (.getfield 266, 3) := by decide +kernel
theorem dX12_operands_620 : decode cX12_operands 620 = .ok (.bipush 52, 2) := by decide +kernel
theorem dX12_operands_622 : decode cX12_operands 622 = .ok (.if_icmp .ge 5, 3) := by decide +kernel
theorem dX12_operands_625 : decode cX12_operands 625 = .ok (.iconst 0, 1) := by decide +kernel
theorem dX12_operands_626 : decode cX12_operands 626 = .ok (.ireturn, 1) := by decide +kernel
theorem dX12_operands_627 : decode cX12_operands 627 = .ok (.aload_n 0, 1) := by decide +kernel
theorem dX12_operands_628 : decode cX12_operands 628 = .ok (.iload_n 3, 1) := by decide +kernel
theorem dX12_operands_629 : decode cX12_operands 629 = .ok (.invokevirtual 504, 3) := by decide +kernel
theorem dX12_operands_632 : decode cX12_operands 632 = .ok (.aload_n 0, 1) := by decide +kernel
theorem dX12_operands_633 : decode cX12_operands 633 = .ok (.getfield 183, 3) := by decide +kernel
theorem dX12_operands_636 : decode cX12_operands 636 = .ok (.if_icmp .ne 12, 3) := by decide +kernel
theorem dX12_operands_639 : decode cX12_operands 639 = .ok (.iload_n 2, 1) := by decide +kernel
theorem dX12_operands_640 : decode cX12_operands 640 = .ok (.sipush 183, 3) := by decide +kernel
theorem dX12_operands_643 : decode cX12_operands 643 = .ok (.if_icmp .eq 5, 3) := by decide +kernel
theorem dX12_operands_646 : decode cX12_operands 646 = .ok (.iconst 0, 1) := by decide +kernel
theorem dX12_operands_647 : decode cX12_operands 647 = .ok (.ireturn, 1) := by decide +kernel
theorem dX12_operands_648 : decode cX12_operands 648 = .ok (.iload_n 2, 1) := by decide +kernel
theorem dX12_operands_649 : decode cX12_operands 649 = .ok (.sipush 185, 3) := by decide +kernel
theorem dX12_operands_652 : decode cX12_operands 652 = .ok (.if_icmp .ne 34, 3) := by decide +kernel
theorem dX12_operands_655 : decode cX12_operands 655 = .ok (.aload_n 0, 1) := by decide +kernel
theorem dX12_operands_656 : decode cX12_operands 656 = .ok (.iload_n 1, 1) := by decide +kernel
theorem dX12_operands_657 : decode cX12_operands 657 = .ok (.iconst 3, 1) := by decide +kernel
theorem dX12_operands_658 : decode cX12_operands 658 = .ok (.iadd, 1) := by decide +kernel
theorem dX12_operands_659 : decode cX12_operands 659 = .ok (.invokevirtual 474, 3) := by decide +kernel
theorem dX12_operands_662 : decode cX12_operands 662 = .ok (.aload_n 0, 1) := by decide +kernel
theorem dX12_operands_663 : decode cX12_operands 663 = .ok (.aload_n 0, 1) := by decide +kernel
theorem dX12_operands_664 : decode cX12_operands 664 = .ok (.iload_n 3, 1) := by decide +kernel
theorem dX12_operands_665 : decode cX12_operands 665 = .ok (.invokevirtual 501, 3) := by decide +kernel
theorem dX12_operands_668 : decode cX12_operands 668 = .ok (.invokevirtual 302, 3) := by decide +kernel
theorem dX12_operands_671 : decode cX12_operands 671 = .ok (.iconst 1, 1) := by decide +kernel
theorem dX12_operands_672 : decode cX12_operands 672 = .ok (.iadd, 1) := by decide +kernel
theorem dX12_operands_673 : decode cX12_operands 673 = .ok (.if_icmp .ne 17, 3) := by decide +kernel
theorem dX12_operands_676 : decode cX12_operands 676 = .ok (.aload_n 0, 1) := by decide +kernel
theorem dX12_operands_677 : decode cX12_operands 677 = .ok (.iload_n 1, 1) := by decide +kernel
theorem dX12_operands_678 : decode cX12_operands 678 = .ok (.iconst 4, 1) := by decide +kernel
theorem dX12_operands_679 : decode cX12_operands 679 = .ok (.iadd, 1) := by decide +kernel
theorem dX12_operands_680 : decode cX12_operands 680 = .ok (.invokevirtual 474, 3) := by decide +kernel
theorem dX12_operands_683 : decode cX12_operands 683 = .ok (.ifCond .ne 7, 3) := by decide +kernel
theorem dX12_operands_686 : decode cX12_operands 686 = .ok (.iconst 1, 1) := by decide +kernel
theorem dX12_operands_687 : decode cX12_operands 687 = .ok (.goto 4, 3) := by decide +kernel
theorem dX12_operands_690 : decode cX12_operands 690 = .ok (.iconst 0, 1) := by decide +kernel
theorem dX12_operands_691 : decode cX12_operands 691 = .ok (.ireturn, 1) := by decide +kernel
theorem dX12_operands_692 : decode cX12_operands 692 = .ok (.iload_n 2, 1) := by decide +kernel
theorem dX12_operands_693 : decode cX12_operands 693 = .ok (.sipush 186, 3) := by decide +kernel
theorem dX12_operands_696 : decode cX12_operands 696 = .ok (.if_icmp .ne 45, 3) := by decide +kernel
theorem dX12_operands_699 : decode cX12_operands 699 = .ok (.aload_n 0, 1) := by decide +kernel
theorem dX12_operands_700 : decode cX12_operands 700 = .ok (.aload_n 0, 1) := by decide +kernel
theorem dX12_operands_701 : decode cX12_operands 701 = .ok (.iload_n 1, 1) := by decide +kernel
theorem dX12_operands_702 : decode cX12_operands 702 = .ok (.iconst 1, 1) := by decide +kernel
theorem dX12_operands_703 : decode cX12_operands 703 = .ok (.iadd, 1) := by decide +kernel
theorem dX12_operands_704 : decode cX12_operands 704 = .ok (.invokevirtual 459, 3) := by decide +kernel
theorem dX12_operands_707 : decode cX12_operands 707 = .ok (.invokevirtual 338, 3) := by decide +kernel
theorem dX12_operands_710 : decode cX12_operands 710 = .ok (.bipush 18, 2) := by decide +kernel
theorem dX12_operands_712 : decode cX12_operands 712 = .ok (.if_icmp .ne 27, 3) := by decide +kernel
theorem dX12_operands_715 : decode cX12_operands 715 = .ok (.aload_n 0, 1) := by decide +kernel
theorem dX12_operands_716 : decode cX12_operands 716 = .ok (.iload_n 1, 1) := by decide +kernel
theorem dX12_operands_717 : decode cX12_operands 717 = .ok (.iconst 3, 1) := by decide +kernel
theorem dX12_operands_718 : decode cX12_operands 718 = .ok (.iadd, 1) := by decide +kernel
theorem dX12_operands_719 : decode cX12_operands 719 = .ok (.invokevirtual 474, 3) := by decide +kernel
theorem dX12_operands_722 : decode cX12_operands 722 = .ok (.ifCond .ne 17, 3) := by decide +kernel
theorem dX12_operands_725 : decode cX12_operands 725 = .ok (.aload_n 0, 1) := by decide +kernel
theorem dX12_operands_726 : decode cX12_operands 726 = .ok (.iload_n 1, 1) := by decide +kernel
theorem dX12_operands_727 : decode cX12_operands 727 = .ok (.iconst 4, 1) := by decide +kernel
theorem dX12_operands_728 : decode cX12_operands 728 = .ok (.iadd, 1) := by decide +kernel
theorem dX12_operands_729 : decode cX12_operands 729 = .ok (.invokevirtual 474, 3) := by decide +kernel
theorem dX12_operands_732 : decode cX12_operands 732 = .ok (.ifCond .ne 7, 3) := by decide +kernel
theorem dX12_operands_735 : decode cX12_operands 735 = .ok (.iconst 1, 1) := by decide +kernel
theorem dX12_operands_736 : decode cX12_operands 736 = .ok (.goto 4, 3) := by decide +kernel
theorem dX12_operands_739 : decode cX12_operands 739 = .ok (.iconst 0, 1) := by decide +kernel
theorem dX12_operands_740 : decode cX12_operands 740 = .ok (.ireturn, 1) := by decide +kernel
theorem dX12_operands_741 : decode cX12_operands 741 = .ok (.iload_n 2, 1) := by decide +kernel
theorem dX12_operands_742 : decode cX12_operands 742 = .ok (.sipush 187, 3) := by decide +kernel
theorem dX12_operands_745 : decode cX12_operands 745 = .ok (.if_icmp .eq 31, 3) := by decide +kernel
theorem dX12_operands_748 : decode cX12_operands 748 = .ok (.iload_n 2, 1) := by decide +kernel
theorem dX12_operands_749 : decode cX12_operands 749 = .ok (.sipush 189, 3) := by decide +kernel
theorem dX12_operands_752 : decode cX12_operands 752 = .ok (.if_icmp .eq 24, 3) := by decide +kernel
theorem dX12_operands_755 : decode cX12_operands 755 = .ok (.iload_n 2, 1) := by decide +kernel
theorem dX12_operands_756 : decode cX12_operands 756 = .ok (.sipush 192, 3) := by decide +kernel
theorem dX12_operands_759 : decode cX12_operands 759 = .ok (.if_icmp .eq 17, 3) := by decide +kernel
theorem dX12_operands_762 : decode cX12_operands 762 = .ok (.iload_n 2, 1) := by decide +kernel
theorem dX12_operands_763 : decode cX12_operands 763 = .ok (.sipush 193, 3) := by decide +kernel
theorem dX12_operands_766 : decode cX12_operands 766 = .ok (.if_icmp .eq 10, 3) := by decide +kernel
theorem dX12_operands_769 : decode cX12_operands 769 = .ok (.iload_n 2, 1) := by decide +kernel
theorem dX12_operands_770 : decode cX12_operands 770 = .ok (.sipush 197, 3) := by decide +kernel
theorem dX12_operands_773 : decode cX12_operands 773 = .ok (.if_icmp .ne 138, 3) := by decide +kernel
theorem dX12_operands_776 : decode cX12_operands 776 = .ok (.aload_n 0, 1) := by decide +kernel
theorem dX12_operands_777 : decode cX12_operands 777 = .ok (.iload_n 1, 1) := by decide +kernel
theorem dX12_operands_778 : decode cX12_operands 778 = .ok (.iconst 1, 1) := by decide +kernel
theorem dX12_operands_779 : decode cX12_operands 779 = .ok (.iadd, 1) := by decide +kernel
theorem dX12_operands_780 : decode cX12_operands 780 = .ok (.invokevirtual 459, 3) := by decide +kernel
theorem dX12_operands_783 : decode cX12_operands 783 = .ok (.istore_n 3, 1) := by decide +kernel
theorem dX12_operands_784 : decode cX12_operands 784 = .ok (.aload_n 0, 1) := by decide +kernel
theorem dX12_operands_785 : decode cX12_operands 785 = .ok (.iload_n 3, 1) := by decide +kernel
theorem dX12_operands_786 : decode cX12_operands 786 = .ok (.invokevirtual 338, 3) := by decide +kernel
theorem dX12_operands_789 : decode cX12_operands 789 = .ok (.bipush 7, 2) := by decide +kernel
theorem dX12_operands_791 : decode cX12_operands 791 = .ok (.if_icmp .eq 5, 3) := by decide +kernel
theorem dX12_operands_794 : decode cX12_operands 794 = .ok (.iconst 0, 1) := by decide +kernel
theorem dX12_operands_795 : decode cX12_operands 795 = .ok (.ireturn, 1) := by decide +kernel
theorem dX12_operands_796 : decode cX12_operands 796 = .ok (.aload_n 0, 1) := by decide +kernel
theorem dX12_operands_797 : decode cX12_operands 797 = .ok (.iload_n 3, 1) := by decide +kernel
theorem dX12_operands_798 : decode cX12_operands 798 = .ok (.invokevirtual 341, 3) := by decide +kernel
theorem dX12_operands_801 : decode cX12_operands 801 = .ok (.istore 4, 2) := by decide +kernel
theorem dX12_operands_803 : decode cX12_operands 803 = .ok (.iconst 0, 1) := by decide +kernel
theorem dX12_operands_804 : decode cX12_operands 804 = .ok (.istore 5, 2) := by decide +kernel
theorem dX12_operands_806 : decode cX12_operands 806 = .ok (.iload 5, 2) := by decide +kernel
theorem dX12_operands_808 : decode cX12_operands 808 = .ok (.aload_n 0, 1) := by decide +kernel
theorem dX12_operands_809 : decode cX12_operands 809 = .ok (.iload 4, 2) := by decide +kernel
theorem dX12_operands_811 : decode cX12_operands 811 = .ok (.invokevirtual 215, 3) := by decide +kernel
theorem dX12_operands_814 : decode cX12_operands 814 = .ok (.if_icmp .ge 22, 3) := by decide +kernel
theorem dX12_operands_817 : decode cX12_operands 817 = .ok (.aload_n 0, 1) := by decide +kernel
theorem dX12_operands_818 : decode cX12_operands 818 = .ok (.iload 4, 2) := by decide +kernel
theorem dX12_operands_820 : decode cX12_operands 820 = .ok (.iload 5, 2) := by decide +kernel
theorem dX12_operands_822 : decode cX12_operands 822 = .ok (.invokevirtual 217, 3) := by decide +kernel
theorem dX12_operands_825 : decode cX12_operands 825 = .ok (.bipush 91, 2) := by decide +kernel
theorem dX12_operands_827 : decode cX12_operands 827 = .ok (.if_icmp .ne 9, 3) := by decide +kernel
theorem dX12_operands_830 : decode cX12_operands 830 = .ok (.iinc 5 1, 3) := by decide +kernel
theorem dX12_operands_833 : decode cX12_operands 833 = .ok (.goto (-27), 3) := by decide +kernel
theorem dX12_operands_836 : decode cX12_operands 836 = .ok (.iload_n 2, 1) := by decide +kernel
theorem dX12_operands_837 : decode cX12_operands 837 = .ok (.sipush 187, 3) := by decide +kernel
theorem dX12_operands_840 : decode cX12_operands 840 = .ok (.if_icmp .ne 14, 3) := by decide +kernel
theorem dX12_operands_843 : decode cX12_operands 843 = .ok (.iload 5, 2) := by decide +kernel
theorem dX12_operands_845 : decode cX12_operands 845 = .ok (.ifCond .ne 7, 3) := by decide +kernel
theorem dX12_operands_848 : decode cX12_operands 848 = .ok (.iconst 1, 1) := by decide +kernel
theorem dX12_operands_849 : decode cX12_operands 849 = .ok (.goto 4, 3) := by decide +kernel
theorem dX12_operands_852 : decode cX12_operands 852 = .ok (.iconst 0, 1) := by decide +kernel
theorem dX12_operands_853 : decode cX12_operands 853 = .ok (.ireturn, 1) := by decide +kernel
theorem dX12_operands_854 : decode cX12_operands 854 = .ok (.iload_n 2, 1) := by decide +kernel
theorem dX12_operands_855 : decode cX12_operands 855 = .ok (.sipush 189, 3) := by decide +kernel
theorem dX12_operands_858 : decode cX12_operands 858 = .ok (.if_icmp .ne 17, 3) := by decide +kernel
theorem dX12_operands_861 : decode cX12_operands 861 = .ok (.iload 5, 2) := by decide +kernel
theorem dX12_operands_863 : decode cX12_operands 863 = .ok (.sipush 255, 3) := by decide +kernel
theorem dX12_operands_866 : decode cX12_operands 866 = .ok (.if_icmp .ge 7, 3) := by decide +kernel
theorem dX12_operands_869 : decode cX12_operands 869 = .ok (.iconst 1, 1) := by decide +kernel
theorem dX12_operands_870 : decode cX12_operands 870 = .ok (.goto 4, 3) := by decide +kernel
theorem dX12_operands_873 : decode cX12_operands 873 = .ok (.iconst 0, 1) := by decide +kernel
theorem dX12_operands_874 : decode cX12_operands 874 = .ok (.ireturn, 1) := by decide +kernel
theorem dX12_operands_875 : decode cX12_operands 875 = .ok (.iload_n 2, 1) := by decide +kernel
theorem dX12_operands_876 : decode cX12_operands 876 = .ok (.sipush 197, 3) := by decide +kernel
theorem dX12_operands_879 : decode cX12_operands 879 = .ok (.if_icmp .ne 26, 3) := by decide +kernel
theorem dX12_operands_882 : decode cX12_operands 882 = .ok (.aload_n 0, 1) := by decide +kernel
theorem dX12_operands_883 : decode cX12_operands 883 = .ok (.iload_n 1, 1) := by decide +kernel
theorem dX12_operands_884 : decode cX12_operands 884 = .ok (.iconst 3, 1) := by decide +kernel
theorem dX12_operands_885 : decode cX12_operands 885 = .ok (.iadd, 1) := by decide +kernel
theorem dX12_operands_886 : decode cX12_operands 886 = .ok (.invokevirtual 474, 3) := by decide +kernel
theorem dX12_operands_889 : decode cX12_operands 889 = .ok (.iconst 1, 1) := by decide +kernel
theorem dX12_operands_890 : decode cX12_operands 890 = .ok (.if_icmp .lt 19, 3) := by decide +kernel
theorem dX12_operands_893 : decode cX12_operands 893 = .ok (.aload_n 0, 1) := by decide +kernel
theorem dX12_operands_894 : decode cX12_operands 894 = .ok (.iload_n 1, 1) := by decide +kernel
theorem dX12_operands_895 : decode cX12_operands 895 = .ok (.iconst 3, 1) := by decide +kernel
theorem dX12_operands_896 : decode cX12_operands 896 = .ok (.iadd, 1) := by decide +kernel
theorem dX12_operands_897 : decode cX12_operands 897 = .ok (.invokevirtual 474, 3) := by decide +kernel
theorem dX12_operands_900 : decode cX12_operands 900 = .ok (.iload 5, 2) := by decide +kernel
theorem dX12_operands_902 : decode cX12_operands 902 = .ok (.if_icmp .gt 7, 3) := by decide +kernel
theorem dX12_operands_905 : decode cX12_operands 905 = .ok (.iconst 1, 1) := by decide +kernel
theorem dX12_operands_906 : decode cX12_operands 906 = .ok (.goto 4, 3) := by decide +kernel
theorem dX12_operands_909 : decode cX12_operands 909 = .ok (.iconst 0, 1) := by decide +kernel
theorem dX12_operands_910 : decode cX12_operands 910 = .ok (.ireturn, 1) := by decide +kernel
theorem dX12_operands_911 : decode cX12_operands 911 = .ok (.iconst 1, 1) := by decide +kernel
theorem dX12_operands_912 : decode cX12_operands 912 = .ok (.ireturn, 1) := by decide +kernel
def mb_228_0 (g : xe_G) : Nat → Option mi_N := mt_node 46 (mt_node 25 (mt_node 11 (mt_node 4 (mt_node 0 (mt_leaf 0 (.inl (o_iload 2 1))) (mt_node 1 (mt_leaf 1 (.inl (o_push (.int 168) 3))) (mt_leaf 4 (.inl (o_if2 (fun x y => decide (x = y)) 21))))) (mt_node 7 (mt_leaf 7 (.inl (o_iload 2 1))) (mt_node 8 (mt_leaf 8 (.inl (o_push (.int 169) 3))) (mt_leaf 11 (.inl (o_if2 (fun x y => decide (x = y)) 21)))))) (mt_node 18 (mt_node 14 (mt_leaf 14 (.inl (o_iload 2 1))) (mt_node 15 (mt_leaf 15 (.inl (o_push (.int 201) 3))) (mt_leaf 18 (.inl (o_if2 (fun x y => decide (¬ x = y)) 58))))) (mt_node 21 (mt_leaf 21 (.inl (o_aload 0 1))) (mt_node 22 (mt_leaf 22 (.inl (o_get 12 53))) (mt_leaf 25 (.inl (o_push (.int 51) 2))))))) (mt_node 38 (mt_node 31 (mt_node 27 (mt_leaf 27 (.inl (o_if2 (fun x y => decide (y ≤ x)) 56))) (mt_node 30 (mt_leaf 30 (.inl (o_iload 2 1))) (mt_leaf 31 (.inl (o_push (.int 169) 3))))) (mt_node 34 (mt_leaf 34 (.inl (o_if2 (fun x y => decide (¬ x = y)) 52))) (mt_node 37 (mt_leaf 37 (.inl (o_aload 0 1))) (mt_leaf 38 (.inl (o_aload 0 1)))))) (mt_node 41 (mt_node 39 (mt_leaf 39 (.inl (o_iload 1 1))) (mt_node 40 (mt_leaf 40 (.inl (o_push (.int 1) 1))) (mt_leaf 41 (.inl (o_bin (fun x y => x + y) 1))))) (mt_node 42 (mt_leaf 42 (.inr (.inl (179, 2, some 12)))) (mt_node 45 (mt_leaf 45 (.inl (o_push (.int 1) 1))) (mt_leaf 46 (.inr (.inl (222, 3, some 12))))))))) (mt_node 70 (mt_node 58 (mt_node 53 (mt_node 49 (mt_leaf 49 (.inl (o_if (fun x => decide (x = 0)) 56))) (mt_node 52 (mt_leaf 52 (.inl (o_push (.int 1) 1))) (mt_leaf 53 (.inl (o_goto 57))))) (mt_node 56 (mt_leaf 56 (.inl (o_push (.int 0) 1))) (mt_node 57 (mt_leaf 57 (.inr (.inr (r_int mi_cz)))) (mt_leaf 58 (.inl (o_iload 2 1)))))) (mt_node 64 (mt_node 59 (mt_leaf 59 (.inl (o_push (.int 21) 2))) (mt_node 61 (mt_leaf 61 (.inl (o_if2 (fun x y => decide (x < y)) 70))) (mt_leaf 64 (.inl (o_iload 2 1))))) (mt_node 65 (mt_leaf 65 (.inl (o_push (.int 25) 2))) (mt_node 67 (mt_leaf 67 (.inl (o_if2 (fun x y => decide (x ≤ y)) 82))) (mt_leaf 70 (.inl (o_iload 2 1))))))) (mt_node 82 (mt_node 76 (mt_node 71 (mt_leaf 71 (.inl (o_push (.int 54) 2))) (mt_node 73 (mt_leaf 73 (.inl (o_if2 (fun x y => decide (x < y)) 127))) (mt_leaf 76 (.inl (o_iload 2 1))))) (mt_node 77 (mt_leaf 77 (.inl (o_push (.int 58) 2))) (mt_node 79 (mt_leaf 79 (.inl (o_if2 (fun x y => decide (y < x)) 127))) (mt_leaf 82 (.inl (o_iload 2 1)))))) (mt_node 88 (mt_node 83 (mt_leaf 83 (.inl (o_push (.int 54) 2))) (mt_node 85 (mt_leaf 85 (.inl (o_if2 (fun x y => decide (x < y)) 95))) (mt_leaf 88 (.inl (o_iload 2 1))))) (mt_node 89 (mt_leaf 89 (.inl (o_push (.int 54) 2))) (mt_node 91 (mt_leaf 91 (.inl (o_bin (fun x y => x - y) 1))) (mt_leaf 92 (.inl (o_goto 99))))))))
theorem mb_228_0_ok {g : xe_G} : mt_all (mi_ent g mI (mI 228)) (mb_228_0 g) := mt_node_ok (mt_node_ok (mt_node_ok (mt_node_ok (mt_node_ok (mt_leaf_ok (en_o (sm_iload_n dX12_operands_0 rfl))) (mt_node_ok (mt_leaf_ok (en_o (sm_sipush dX12_operands_1 rfl))) (mt_leaf_ok (en_o (sm_icmp_eq dX12_operands_4 (by decide)))))) (mt_node_ok (mt_leaf_ok (en_o (sm_iload_n dX12_operands_7 rfl))) (mt_node_ok (mt_leaf_ok (en_o (sm_sipush dX12_operands_8 rfl))) (mt_leaf_ok (en_o (sm_icmp_eq dX12_operands_11 (by decide))))))) (mt_node_ok (mt_node_ok (mt_leaf_ok (en_o (sm_iload_n dX12_operands_14 rfl))) (mt_node_ok (mt_leaf_ok (en_o (sm_sipush dX12_operands_15 rfl))) (mt_leaf_ok (en_o (sm_icmp_ne dX12_operands_18 (by decide)))))) (mt_node_ok (mt_leaf_ok (en_o (sm_aload_n dX12_operands_21 rfl))) (mt_node_ok (mt_leaf_ok (en_o (sm_get (T := TX12) (by decide) rfl bi_X12 (by decide) bg_1034 dX12_operands_22))) (mt_leaf_ok (en_o (sm_bipush dX12_operands_25 rfl))))))) (mt_node_ok (mt_node_ok (mt_node_ok (mt_leaf_ok (en_o (sm_icmp_ge dX12_operands_27 (by decide)))) (mt_node_ok (mt_leaf_ok (en_o (sm_iload_n dX12_operands_30 rfl))) (mt_leaf_ok (en_o (sm_sipush dX12_operands_31 rfl))))) (mt_node_ok (mt_leaf_ok (en_o (sm_icmp_ne dX12_operands_34 (by decide)))) (mt_node_ok (mt_leaf_ok (en_o (sm_aload_n dX12_operands_37 rfl))) (mt_leaf_ok (en_o (sm_aload_n dX12_operands_38 rfl)))))) (mt_node_ok (mt_node_ok (mt_leaf_ok (en_o (sm_iload_n dX12_operands_39 rfl))) (mt_node_ok (mt_leaf_ok (en_o (sm_iconst dX12_operands_40 rfl))) (mt_leaf_ok (en_o (sm_iadd dX12_operands_41))))) (mt_node_ok (mt_leaf_ok ((⟨by decide, bg_972, bg_1214, 474, 1, ⟨by decide, by decide, by decide +kernel⟩, bg_1229, Or.inr ⟨rfl, bg_1230, 12, _, rfl, by decide, rfl, Or.inl ⟨dX12_operands_42, bg_1231⟩⟩⟩ : mi_cal _ _ _ (mI 179) _ _))) (mt_node_ok (mt_leaf_ok (en_o (sm_iconst dX12_operands_45 rfl))) (mt_leaf_ok ((⟨by decide, bg_972, bg_1251, 498, 2, ⟨by decide, by decide, by decide +kernel⟩, bg_1254, Or.inr ⟨rfl, bg_1255, 12, _, rfl, by decide, rfl, Or.inl ⟨dX12_operands_46, bg_1256⟩⟩⟩ : mi_cal _ _ _ (mI 222) _ _)))))))) (mt_node_ok (mt_node_ok (mt_node_ok (mt_node_ok (mt_leaf_ok (en_o (sm_if_eq dX12_operands_49 (by decide)))) (mt_node_ok (mt_leaf_ok (en_o (sm_iconst dX12_operands_52 rfl))) (mt_leaf_ok (en_o (sm_goto dX12_operands_53 (by decide)))))) (mt_node_ok (mt_leaf_ok (en_o (sm_iconst dX12_operands_56 rfl))) (mt_node_ok (mt_leaf_ok (sr_nar mi_cz_ok dX12_operands_57)) (mt_leaf_ok (en_o (sm_iload_n dX12_operands_58 rfl)))))) (mt_node_ok (mt_node_ok (mt_leaf_ok (en_o (sm_bipush dX12_operands_59 rfl))) (mt_node_ok (mt_leaf_ok (en_o (sm_icmp_lt dX12_operands_61 (by decide)))) (mt_leaf_ok (en_o (sm_iload_n dX12_operands_64 rfl))))) (mt_node_ok (mt_leaf_ok (en_o (sm_bipush dX12_operands_65 rfl))) (mt_node_ok (mt_leaf_ok (en_o (sm_icmp_le dX12_operands_67 (by decide)))) (mt_leaf_ok (en_o (sm_iload_n dX12_operands_70 rfl))))))) (mt_node_ok (mt_node_ok (mt_node_ok (mt_leaf_ok (en_o (sm_bipush dX12_operands_71 rfl))) (mt_node_ok (mt_leaf_ok (en_o (sm_icmp_lt dX12_operands_73 (by decide)))) (mt_leaf_ok (en_o (sm_iload_n dX12_operands_76 rfl))))) (mt_node_ok (mt_leaf_ok (en_o (sm_bipush dX12_operands_77 rfl))) (mt_node_ok (mt_leaf_ok (en_o (sm_icmp_gt dX12_operands_79 (by decide)))) (mt_leaf_ok (en_o (sm_iload_n dX12_operands_82 rfl)))))) (mt_node_ok (mt_node_ok (mt_leaf_ok (en_o (sm_bipush dX12_operands_83 rfl))) (mt_node_ok (mt_leaf_ok (en_o (sm_icmp_lt dX12_operands_85 (by decide)))) (mt_leaf_ok (en_o (sm_iload_n dX12_operands_88 rfl))))) (mt_node_ok (mt_leaf_ok (en_o (sm_bipush dX12_operands_89 rfl))) (mt_node_ok (mt_leaf_ok (en_o (sm_isub dX12_operands_91))) (mt_leaf_ok (en_o (sm_goto dX12_operands_92 (by decide)))))))))
def mb_228_1 (g : xe_G) : Nat → Option mi_N := mt_node 130 (mt_node 109 (mt_node 101 (mt_node 98 (mt_node 95 (mt_leaf 95 (.inl (o_iload 2 1))) (mt_node 96 (mt_leaf 96 (.inl (o_push (.int 21) 2))) (mt_leaf 98 (.inl (o_bin (fun x y => x - y) 1))))) (mt_node 99 (mt_leaf 99 (.inl (o_isto 3 1))) (mt_node 100 (mt_leaf 100 (.inl (o_aload 0 1))) (mt_leaf 101 (.inl (o_aload 0 1)))))) (mt_node 104 (mt_node 102 (mt_leaf 102 (.inl (o_iload 1 1))) (mt_node 103 (mt_leaf 103 (.inl (o_push (.int 1) 1))) (mt_leaf 104 (.inl (o_bin (fun x y => x + y) 1))))) (mt_node 105 (mt_leaf 105 (.inr (.inl (179, 2, some 12)))) (mt_node 108 (mt_leaf 108 (.inl (o_iload 3 1))) (mt_leaf 109 (.inl (o_push (.int 1) 1))))))) (mt_node 119 (mt_node 114 (mt_node 110 (mt_leaf 110 (.inl (o_if2 (fun x y => decide (x = y)) 118))) (mt_node 113 (mt_leaf 113 (.inl (o_iload 3 1))) (mt_leaf 114 (.inl (o_push (.int 3) 1))))) (mt_node 115 (mt_leaf 115 (.inl (o_if2 (fun x y => decide (¬ x = y)) 122))) (mt_node 118 (mt_leaf 118 (.inl (o_push (.int 2) 1))) (mt_leaf 119 (.inl (o_goto 123)))))) (mt_node 126 (mt_node 122 (mt_leaf 122 (.inl (o_push (.int 1) 1))) (mt_node 123 (mt_leaf 123 (.inr (.inl (222, 3, some 12)))) (mt_leaf 126 (.inr (.inr (r_int mi_cz)))))) (mt_node 127 (mt_leaf 127 (.inl (o_iload 2 1))) (mt_node 128 (mt_leaf 128 (.inl (o_push (.int 26) 2))) (mt_leaf 130 (.inl (o_if2 (fun x y => decide (x < y)) 139)))))))) (mt_node 154 (mt_node 142 (mt_node 136 (mt_node 133 (mt_leaf 133 (.inl (o_iload 2 1))) (mt_node 134 (mt_leaf 134 (.inl (o_push (.int 45) 2))) (mt_leaf 136 (.inl (o_if2 (fun x y => decide (x ≤ y)) 151))))) (mt_node 139 (mt_leaf 139 (.inl (o_iload 2 1))) (mt_node 140 (mt_leaf 140 (.inl (o_push (.int 59) 2))) (mt_leaf 142 (.inl (o_if2 (fun x y => decide (x < y)) 196)))))) (mt_node 148 (mt_node 145 (mt_leaf 145 (.inl (o_iload 2 1))) (mt_node 146 (mt_leaf 146 (.inl (o_push (.int 78) 2))) (mt_leaf 148 (.inl (o_if2 (fun x y => decide (y < x)) 196))))) (mt_node 151 (mt_leaf 151 (.inl (o_iload 2 1))) (mt_node 152 (mt_leaf 152 (.inl (o_push (.int 59) 2))) (mt_leaf 154 (.inl (o_if2 (fun x y => decide (x < y)) 164))))))) (mt_node 165 (mt_node 160 (mt_node 157 (mt_leaf 157 (.inl (o_iload 2 1))) (mt_node 158 (mt_leaf 158 (.inl (o_push (.int 59) 2))) (mt_leaf 160 (.inl (o_bin (fun x y => x - y) 1))))) (mt_node 161 (mt_leaf 161 (.inl (o_goto 168))) (mt_node 164 (mt_leaf 164 (.inl (o_iload 2 1))) (mt_leaf 165 (.inl (o_push (.int 26) 2)))))) (mt_node 169 (mt_node 167 (mt_leaf 167 (.inl (o_bin (fun x y => x - y) 1))) (mt_node 168 (mt_leaf 168 (.inl (o_isto 3 1))) (mt_leaf 169 (.inl (o_aload 0 1))))) (mt_node 170 (mt_leaf 170 (.inl (o_iload 3 1))) (mt_node 171 (mt_leaf 171 (.inl (o_push (.int 4) 1))) (mt_leaf 172 (.inl (o_div (fun x y => x - x / y * y)))))))))
theorem mb_228_1_ok {g : xe_G} : mt_all (mi_ent g mI (mI 228)) (mb_228_1 g) := mt_node_ok (mt_node_ok (mt_node_ok (mt_node_ok (mt_node_ok (mt_leaf_ok (en_o (sm_iload_n dX12_operands_95 rfl))) (mt_node_ok (mt_leaf_ok (en_o (sm_bipush dX12_operands_96 rfl))) (mt_leaf_ok (en_o (sm_isub dX12_operands_98))))) (mt_node_ok (mt_leaf_ok (en_s (sm_istore_n dX12_operands_99 rfl (by decide)))) (mt_node_ok (mt_leaf_ok (en_o (sm_aload_n dX12_operands_100 rfl))) (mt_leaf_ok (en_o (sm_aload_n dX12_operands_101 rfl)))))) (mt_node_ok (mt_node_ok (mt_leaf_ok (en_o (sm_iload_n dX12_operands_102 rfl))) (mt_node_ok (mt_leaf_ok (en_o (sm_iconst dX12_operands_103 rfl))) (mt_leaf_ok (en_o (sm_iadd dX12_operands_104))))) (mt_node_ok (mt_leaf_ok ((⟨by decide, bg_972, bg_1214, 474, 1, ⟨by decide, by decide, by decide +kernel⟩, bg_1229, Or.inr ⟨rfl, bg_1230, 12, _, rfl, by decide, rfl, Or.inl ⟨dX12_operands_105, bg_1231⟩⟩⟩ : mi_cal _ _ _ (mI 179) _ _))) (mt_node_ok (mt_leaf_ok (en_o (sm_iload_n dX12_operands_108 rfl))) (mt_leaf_ok (en_o (sm_iconst dX12_operands_109 rfl))))))) (mt_node_ok (mt_node_ok (mt_node_ok (mt_leaf_ok (en_o (sm_icmp_eq dX12_operands_110 (by decide)))) (mt_node_ok (mt_leaf_ok (en_o (sm_iload_n dX12_operands_113 rfl))) (mt_leaf_ok (en_o (sm_iconst dX12_operands_114 rfl))))) (mt_node_ok (mt_leaf_ok (en_o (sm_icmp_ne dX12_operands_115 (by decide)))) (mt_node_ok (mt_leaf_ok (en_o (sm_iconst dX12_operands_118 rfl))) (mt_leaf_ok (en_o (sm_goto dX12_operands_119 (by decide))))))) (mt_node_ok (mt_node_ok (mt_leaf_ok (en_o (sm_iconst dX12_operands_122 rfl))) (mt_node_ok (mt_leaf_ok ((⟨by decide, bg_972, bg_1251, 498, 2, ⟨by decide, by decide, by decide +kernel⟩, bg_1254, Or.inr ⟨rfl, bg_1255, 12, _, rfl, by decide, rfl, Or.inl ⟨dX12_operands_123, bg_1256⟩⟩⟩ : mi_cal _ _ _ (mI 222) _ _))) (mt_leaf_ok (sr_nar mi_cz_ok dX12_operands_126)))) (mt_node_ok (mt_leaf_ok (en_o (sm_iload_n dX12_operands_127 rfl))) (mt_node_ok (mt_leaf_ok (en_o (sm_bipush dX12_operands_128 rfl))) (mt_leaf_ok (en_o (sm_icmp_lt dX12_operands_130 (by decide))))))))) (mt_node_ok (mt_node_ok (mt_node_ok (mt_node_ok (mt_leaf_ok (en_o (sm_iload_n dX12_operands_133 rfl))) (mt_node_ok (mt_leaf_ok (en_o (sm_bipush dX12_operands_134 rfl))) (mt_leaf_ok (en_o (sm_icmp_le dX12_operands_136 (by decide)))))) (mt_node_ok (mt_leaf_ok (en_o (sm_iload_n dX12_operands_139 rfl))) (mt_node_ok (mt_leaf_ok (en_o (sm_bipush dX12_operands_140 rfl))) (mt_leaf_ok (en_o (sm_icmp_lt dX12_operands_142 (by decide))))))) (mt_node_ok (mt_node_ok (mt_leaf_ok (en_o (sm_iload_n dX12_operands_145 rfl))) (mt_node_ok (mt_leaf_ok (en_o (sm_bipush dX12_operands_146 rfl))) (mt_leaf_ok (en_o (sm_icmp_gt dX12_operands_148 (by decide)))))) (mt_node_ok (mt_leaf_ok (en_o (sm_iload_n dX12_operands_151 rfl))) (mt_node_ok (mt_leaf_ok (en_o (sm_bipush dX12_operands_152 rfl))) (mt_leaf_ok (en_o (sm_icmp_lt dX12_operands_154 (by decide)))))))) (mt_node_ok (mt_node_ok (mt_node_ok (mt_leaf_ok (en_o (sm_iload_n dX12_operands_157 rfl))) (mt_node_ok (mt_leaf_ok (en_o (sm_bipush dX12_operands_158 rfl))) (mt_leaf_ok (en_o (sm_isub dX12_operands_160))))) (mt_node_ok (mt_leaf_ok (en_o (sm_goto dX12_operands_161 (by decide)))) (mt_node_ok (mt_leaf_ok (en_o (sm_iload_n dX12_operands_164 rfl))) (mt_leaf_ok (en_o (sm_bipush dX12_operands_165 rfl)))))) (mt_node_ok (mt_node_ok (mt_leaf_ok (en_o (sm_isub dX12_operands_167))) (mt_node_ok (mt_leaf_ok (en_s (sm_istore_n dX12_operands_168 rfl (by decide)))) (mt_leaf_ok (en_o (sm_aload_n dX12_operands_169 rfl))))) (mt_node_ok (mt_leaf_ok (en_o (sm_iload_n dX12_operands_170 rfl))) (mt_node_ok (mt_leaf_ok (en_o (sm_iconst dX12_operands_171 rfl))) (mt_leaf_ok (en_o (sm_irem dX12_operands_172))))))))
def mb_228_2 (g : xe_G) : Nat → Option mi_N := mt_node 208 (mt_node 188 (mt_node 180 (mt_node 175 (mt_node 173 (mt_leaf 173 (.inl (o_iload 3 1))) (mt_node 174 (mt_leaf 174 (.inl (o_push (.int 4) 1))) (mt_leaf 175 (.inl (o_div (fun x y => x / y)))))) (mt_node 176 (mt_leaf 176 (.inl (o_push (.int 1) 1))) (mt_node 177 (mt_leaf 177 (.inl (o_if2 (fun x y => decide (x = y)) 187))) (mt_leaf 180 (.inl (o_iload 3 1)))))) (mt_node 183 (mt_node 181 (mt_leaf 181 (.inl (o_push (.int 4) 1))) (mt_node 182 (mt_leaf 182 (.inl (o_div (fun x y => x / y)))) (mt_leaf 183 (.inl (o_push (.int 3) 1))))) (mt_node 184 (mt_leaf 184 (.inl (o_if2 (fun x y => decide (¬ x = y)) 191))) (mt_node 187 (mt_leaf 187 (.inl (o_push (.int 2) 1))) (mt_leaf 188 (.inl (o_goto 192))))))) (mt_node 200 (mt_node 195 (mt_node 191 (mt_leaf 191 (.inl (o_push (.int 1) 1))) (mt_node 192 (mt_leaf 192 (.inr (.inl (222, 3, some 12)))) (mt_leaf 195 (.inr (.inr (r_int mi_cz)))))) (mt_node 196 (mt_leaf 196 (.inl (o_iload 2 1))) (mt_node 197 (mt_leaf 197 (.inl (o_push (.int 132) 3))) (mt_leaf 200 (.inl (o_if2 (fun x y => decide (¬ x = y)) 216)))))) (mt_node 205 (mt_node 203 (mt_leaf 203 (.inl (o_aload 0 1))) (mt_node 204 (mt_leaf 204 (.inl (o_aload 0 1))) (mt_leaf 205 (.inl (o_iload 1 1))))) (mt_node 206 (mt_leaf 206 (.inl (o_push (.int 1) 1))) (mt_node 207 (mt_leaf 207 (.inl (o_bin (fun x y => x + y) 1))) (mt_leaf 208 (.inr (.inl (179, 2, some 12))))))))) (mt_node 230 (mt_node 220 (mt_node 215 (mt_node 211 (mt_leaf 211 (.inl (o_push (.int 1) 1))) (mt_node 212 (mt_leaf 212 (.inr (.inl (222, 3, some 12)))) (mt_leaf 215 (.inr (.inr (r_int mi_cz)))))) (mt_node 216 (mt_leaf 216 (.inl (o_iload 2 1))) (mt_node 217 (mt_leaf 217 (.inl (o_push (.int 196) 3))) (mt_leaf 220 (.inl (o_if2 (fun x y => decide (¬ x = y)) 296)))))) (mt_node 225 (mt_node 223 (mt_leaf 223 (.inl (o_aload 0 1))) (mt_node 224 (mt_leaf 224 (.inl (o_iload 1 1))) (mt_leaf 225 (.inl (o_push (.int 1) 1))))) (mt_node 226 (mt_leaf 226 (.inl (o_bin (fun x y => x + y) 1))) (mt_node 227 (mt_leaf 227 (.inr (.inl (179, 2, some 12)))) (mt_leaf 230 (.inl (o_isto 3 1))))))) (mt_node 242 (mt_node 235 (mt_node 231 (mt_leaf 231 (.inl (o_iload 3 1))) (mt_node 232 (mt_leaf 232 (.inl (o_push (.int 169) 3))) (mt_leaf 235 (.inl (o_if2 (fun x y => decide (¬ x = y)) 247))))) (mt_node 238 (mt_leaf 238 (.inl (o_aload 0 1))) (mt_node 239 (mt_leaf 239 (.inl (o_get 12 53))) (mt_leaf 242 (.inl (o_push (.int 51) 2)))))) (mt_node 248 (mt_node 244 (mt_leaf 244 (.inl (o_if2 (fun x y => decide (y ≤ x)) 294))) (mt_node 247 (mt_leaf 247 (.inl (o_aload 0 1))) (mt_leaf 248 (.inl (o_aload 0 1))))) (mt_node 249 (mt_leaf 249 (.inl (o_iload 1 1))) (mt_node 250 (mt_leaf 250 (.inl (o_push (.int 2) 1))) (mt_leaf 251 (.inl (o_bin (fun x y => x + y) 1))))))))
theorem mb_228_2_ok {g : xe_G} : mt_all (mi_ent g mI (mI 228)) (mb_228_2 g) := mt_node_ok (mt_node_ok (mt_node_ok (mt_node_ok (mt_node_ok (mt_leaf_ok (en_o (sm_iload_n dX12_operands_173 rfl))) (mt_node_ok (mt_leaf_ok (en_o (sm_iconst dX12_operands_174 rfl))) (mt_leaf_ok (en_o (sm_idiv dX12_operands_175))))) (mt_node_ok (mt_leaf_ok (en_o (sm_iconst dX12_operands_176 rfl))) (mt_node_ok (mt_leaf_ok (en_o (sm_icmp_eq dX12_operands_177 (by decide)))) (mt_leaf_ok (en_o (sm_iload_n dX12_operands_180 rfl)))))) (mt_node_ok (mt_node_ok (mt_leaf_ok (en_o (sm_iconst dX12_operands_181 rfl))) (mt_node_ok (mt_leaf_ok (en_o (sm_idiv dX12_operands_182))) (mt_leaf_ok (en_o (sm_iconst dX12_operands_183 rfl))))) (mt_node_ok (mt_leaf_ok (en_o (sm_icmp_ne dX12_operands_184 (by decide)))) (mt_node_ok (mt_leaf_ok (en_o (sm_iconst dX12_operands_187 rfl))) (mt_leaf_ok (en_o (sm_goto dX12_operands_188 (by decide)))))))) (mt_node_ok (mt_node_ok (mt_node_ok (mt_leaf_ok (en_o (sm_iconst dX12_operands_191 rfl))) (mt_node_ok (mt_leaf_ok ((⟨by decide, bg_972, bg_1251, 498, 2, ⟨by decide, by decide, by decide +kernel⟩, bg_1254, Or.inr ⟨rfl, bg_1255, 12, _, rfl, by decide, rfl, Or.inl ⟨dX12_operands_192, bg_1256⟩⟩⟩ : mi_cal _ _ _ (mI 222) _ _))) (mt_leaf_ok (sr_nar mi_cz_ok dX12_operands_195)))) (mt_node_ok (mt_leaf_ok (en_o (sm_iload_n dX12_operands_196 rfl))) (mt_node_ok (mt_leaf_ok (en_o (sm_sipush dX12_operands_197 rfl))) (mt_leaf_ok (en_o (sm_icmp_ne dX12_operands_200 (by decide))))))) (mt_node_ok (mt_node_ok (mt_leaf_ok (en_o (sm_aload_n dX12_operands_203 rfl))) (mt_node_ok (mt_leaf_ok (en_o (sm_aload_n dX12_operands_204 rfl))) (mt_leaf_ok (en_o (sm_iload_n dX12_operands_205 rfl))))) (mt_node_ok (mt_leaf_ok (en_o (sm_iconst dX12_operands_206 rfl))) (mt_node_ok (mt_leaf_ok (en_o (sm_iadd dX12_operands_207))) (mt_leaf_ok ((⟨by decide, bg_972, bg_1214, 474, 1, ⟨by decide, by decide, by decide +kernel⟩, bg_1229, Or.inr ⟨rfl, bg_1230, 12, _, rfl, by decide, rfl, Or.inl ⟨dX12_operands_208, bg_1231⟩⟩⟩ : mi_cal _ _ _ (mI 179) _ _)))))))) (mt_node_ok (mt_node_ok (mt_node_ok (mt_node_ok (mt_leaf_ok (en_o (sm_iconst dX12_operands_211 rfl))) (mt_node_ok (mt_leaf_ok ((⟨by decide, bg_972, bg_1251, 498, 2, ⟨by decide, by decide, by decide +kernel⟩, bg_1254, Or.inr ⟨rfl, bg_1255, 12, _, rfl, by decide, rfl, Or.inl ⟨dX12_operands_212, bg_1256⟩⟩⟩ : mi_cal _ _ _ (mI 222) _ _))) (mt_leaf_ok (sr_nar mi_cz_ok dX12_operands_215)))) (mt_node_ok (mt_leaf_ok (en_o (sm_iload_n dX12_operands_216 rfl))) (mt_node_ok (mt_leaf_ok (en_o (sm_sipush dX12_operands_217 rfl))) (mt_leaf_ok (en_o (sm_icmp_ne dX12_operands_220 (by decide))))))) (mt_node_ok (mt_node_ok (mt_leaf_ok (en_o (sm_aload_n dX12_operands_223 rfl))) (mt_node_ok (mt_leaf_ok (en_o (sm_iload_n dX12_operands_224 rfl))) (mt_leaf_ok (en_o (sm_iconst dX12_operands_225 rfl))))) (mt_node_ok (mt_leaf_ok (en_o (sm_iadd dX12_operands_226))) (mt_node_ok (mt_leaf_ok ((⟨by decide, bg_972, bg_1214, 474, 1, ⟨by decide, by decide, by decide +kernel⟩, bg_1229, Or.inr ⟨rfl, bg_1230, 12, _, rfl, by decide, rfl, Or.inl ⟨dX12_operands_227, bg_1231⟩⟩⟩ : mi_cal _ _ _ (mI 179) _ _))) (mt_leaf_ok (en_s (sm_istore_n dX12_operands_230 rfl (by decide)))))))) (mt_node_ok (mt_node_ok (mt_node_ok (mt_leaf_ok (en_o (sm_iload_n dX12_operands_231 rfl))) (mt_node_ok (mt_leaf_ok (en_o (sm_sipush dX12_operands_232 rfl))) (mt_leaf_ok (en_o (sm_icmp_ne dX12_operands_235 (by decide)))))) (mt_node_ok (mt_leaf_ok (en_o (sm_aload_n dX12_operands_238 rfl))) (mt_node_ok (mt_leaf_ok (en_o (sm_get (T := TX12) (by decide) rfl bi_X12 (by decide) bg_1034 dX12_operands_239))) (mt_leaf_ok (en_o (sm_bipush dX12_operands_242 rfl)))))) (mt_node_ok (mt_node_ok (mt_leaf_ok (en_o (sm_icmp_ge dX12_operands_244 (by decide)))) (mt_node_ok (mt_leaf_ok (en_o (sm_aload_n dX12_operands_247 rfl))) (mt_leaf_ok (en_o (sm_aload_n dX12_operands_248 rfl))))) (mt_node_ok (mt_leaf_ok (en_o (sm_iload_n dX12_operands_249 rfl))) (mt_node_ok (mt_leaf_ok (en_o (sm_iconst dX12_operands_250 rfl))) (mt_leaf_ok (en_o (sm_iadd dX12_operands_251))))))))
def mb_228_3 (g : xe_G) : Nat → Option mi_N := mt_node 297 (mt_node 274 (mt_node 262 (mt_node 256 (mt_node 252 (mt_leaf 252 (.inr (.inl (180, 2, some 12)))) (mt_node 255 (mt_leaf 255 (.inl (o_iload 3 1))) (mt_leaf 256 (.inl (o_push (.int 22) 2))))) (mt_node 258 (mt_leaf 258 (.inl (o_if2 (fun x y => decide (x = y)) 279))) (mt_node 261 (mt_leaf 261 (.inl (o_iload 3 1))) (mt_leaf 262 (.inl (o_push (.int 24) 2)))))) (mt_node 268 (mt_node 264 (mt_leaf 264 (.inl (o_if2 (fun x y => decide (x = y)) 279))) (mt_node 267 (mt_leaf 267 (.inl (o_iload 3 1))) (mt_leaf 268 (.inl (o_push (.int 55) 2))))) (mt_node 270 (mt_leaf 270 (.inl (o_if2 (fun x y => decide (x = y)) 279))) (mt_node 273 (mt_leaf 273 (.inl (o_iload 3 1))) (mt_leaf 274 (.inl (o_push (.int 57) 2))))))) (mt_node 287 (mt_node 280 (mt_node 276 (mt_leaf 276 (.inl (o_if2 (fun x y => decide (¬ x = y)) 283))) (mt_node 279 (mt_leaf 279 (.inl (o_push (.int 2) 1))) (mt_leaf 280 (.inl (o_goto 284))))) (mt_node 283 (mt_leaf 283 (.inl (o_push (.int 1) 1))) (mt_node 284 (mt_leaf 284 (.inr (.inl (222, 3, some 12)))) (mt_leaf 287 (.inl (o_if (fun x => decide (x = 0)) 294)))))) (mt_node 294 (mt_node 290 (mt_leaf 290 (.inl (o_push (.int 1) 1))) (mt_node 291 (mt_leaf 291 (.inl (o_goto 295))) (mt_leaf 294 (.inl (o_push (.int 0) 1))))) (mt_node 295 (mt_leaf 295 (.inr (.inr (r_int mi_cz)))) (mt_node 296 (mt_leaf 296 (.inl (o_iload 2 1))) (mt_leaf 297 (.inl (o_push (.int 188) 3)))))))) (mt_node 317 (mt_node 307 (mt_node 304 (mt_node 300 (mt_leaf 300 (.inl (o_if2 (fun x y => decide (¬ x = y)) 332))) (mt_node 303 (mt_leaf 303 (.inl (o_aload 0 1))) (mt_leaf 304 (.inl (o_iload 1 1))))) (mt_node 305 (mt_leaf 305 (.inl (o_push (.int 1) 1))) (mt_node 306 (mt_leaf 306 (.inl (o_bin (fun x y => x + y) 1))) (mt_leaf 307 (.inr (.inl (179, 2, some 12))))))) (mt_node 314 (mt_node 310 (mt_leaf 310 (.inl (o_push (.int 4) 1))) (mt_node 311 (mt_leaf 311 (.inl (o_if2 (fun x y => decide (x < y)) 330))) (mt_leaf 314 (.inl (o_aload 0 1))))) (mt_node 315 (mt_leaf 315 (.inl (o_iload 1 1))) (mt_node 316 (mt_leaf 316 (.inl (o_push (.int 1) 1))) (mt_leaf 317 (.inl (o_bin (fun x y => x + y) 1))))))) (mt_node 330 (mt_node 323 (mt_node 318 (mt_leaf 318 (.inr (.inl (179, 2, some 12)))) (mt_node 321 (mt_leaf 321 (.inl (o_push (.int 11) 2))) (mt_leaf 323 (.inl (o_if2 (fun x y => decide (y < x)) 330))))) (mt_node 326 (mt_leaf 326 (.inl (o_push (.int 1) 1))) (mt_node 327 (mt_leaf 327 (.inl (o_goto 331))) (mt_leaf 330 (.inl (o_push (.int 0) 1)))))) (mt_node 333 (mt_node 331 (mt_leaf 331 (.inr (.inr (r_int mi_cz)))) (mt_node 332 (mt_leaf 332 (.inl (o_iload 2 1))) (mt_leaf 333 (.inl (o_push (.int 18) 2))))) (mt_node 335 (mt_leaf 335 (.inl (o_if2 (fun x y => decide (x < y)) 513))) (mt_node 338 (mt_leaf 338 (.inl (o_iload 2 1))) (mt_leaf 339 (.inl (o_push (.int 20) 2))))))))
theorem mb_228_3_ok {g : xe_G} : mt_all (mi_ent g mI (mI 228)) (mb_228_3 g) := mt_node_ok (mt_node_ok (mt_node_ok (mt_node_ok (mt_node_ok (mt_leaf_ok ((⟨by decide, bg_972, bg_1216, 459, 1, ⟨by decide, by decide, by decide +kernel⟩, bg_1218, Or.inr ⟨rfl, bg_1219, 12, _, rfl, by decide, rfl, Or.inl ⟨dX12_operands_252, bg_1220⟩⟩⟩ : mi_cal _ _ _ (mI 180) _ _))) (mt_node_ok (mt_leaf_ok (en_o (sm_iload_n dX12_operands_255 rfl))) (mt_leaf_ok (en_o (sm_bipush dX12_operands_256 rfl))))) (mt_node_ok (mt_leaf_ok (en_o (sm_icmp_eq dX12_operands_258 (by decide)))) (mt_node_ok (mt_leaf_ok (en_o (sm_iload_n dX12_operands_261 rfl))) (mt_leaf_ok (en_o (sm_bipush dX12_operands_262 rfl)))))) (mt_node_ok (mt_node_ok (mt_leaf_ok (en_o (sm_icmp_eq dX12_operands_264 (by decide)))) (mt_node_ok (mt_leaf_ok (en_o (sm_iload_n dX12_operands_267 rfl))) (mt_leaf_ok (en_o (sm_bipush dX12_operands_268 rfl))))) (mt_node_ok (mt_leaf_ok (en_o (sm_icmp_eq dX12_operands_270 (by decide)))) (mt_node_ok (mt_leaf_ok (en_o (sm_iload_n dX12_operands_273 rfl))) (mt_leaf_ok (en_o (sm_bipush dX12_operands_274 rfl))))))) (mt_node_ok (mt_node_ok (mt_node_ok (mt_leaf_ok (en_o (sm_icmp_ne dX12_operands_276 (by decide)))) (mt_node_ok (mt_leaf_ok (en_o (sm_iconst dX12_operands_279 rfl))) (mt_leaf_ok (en_o (sm_goto dX12_operands_280 (by decide)))))) (mt_node_ok (mt_leaf_ok (en_o (sm_iconst dX12_operands_283 rfl))) (mt_node_ok (mt_leaf_ok ((⟨by decide, bg_972, bg_1251, 498, 2, ⟨by decide, by decide, by decide +kernel⟩, bg_1254, Or.inr ⟨rfl, bg_1255, 12, _, rfl, by decide, rfl, Or.inl ⟨dX12_operands_284, bg_1256⟩⟩⟩ : mi_cal _ _ _ (mI 222) _ _))) (mt_leaf_ok (en_o (sm_if_eq dX12_operands_287 (by decide))))))) (mt_node_ok (mt_node_ok (mt_leaf_ok (en_o (sm_iconst dX12_operands_290 rfl))) (mt_node_ok (mt_leaf_ok (en_o (sm_goto dX12_operands_291 (by decide)))) (mt_leaf_ok (en_o (sm_iconst dX12_operands_294 rfl))))) (mt_node_ok (mt_leaf_ok (sr_nar mi_cz_ok dX12_operands_295)) (mt_node_ok (mt_leaf_ok (en_o (sm_iload_n dX12_operands_296 rfl))) (mt_leaf_ok (en_o (sm_sipush dX12_operands_297 rfl)))))))) (mt_node_ok (mt_node_ok (mt_node_ok (mt_node_ok (mt_leaf_ok (en_o (sm_icmp_ne dX12_operands_300 (by decide)))) (mt_node_ok (mt_leaf_ok (en_o (sm_aload_n dX12_operands_303 rfl))) (mt_leaf_ok (en_o (sm_iload_n dX12_operands_304 rfl))))) (mt_node_ok (mt_leaf_ok (en_o (sm_iconst dX12_operands_305 rfl))) (mt_node_ok (mt_leaf_ok (en_o (sm_iadd dX12_operands_306))) (mt_leaf_ok ((⟨by decide, bg_972, bg_1214, 474, 1, ⟨by decide, by decide, by decide +kernel⟩, bg_1229, Or.inr ⟨rfl, bg_1230, 12, _, rfl, by decide, rfl, Or.inl ⟨dX12_operands_307, bg_1231⟩⟩⟩ : mi_cal _ _ _ (mI 179) _ _)))))) (mt_node_ok (mt_node_ok (mt_leaf_ok (en_o (sm_iconst dX12_operands_310 rfl))) (mt_node_ok (mt_leaf_ok (en_o (sm_icmp_lt dX12_operands_311 (by decide)))) (mt_leaf_ok (en_o (sm_aload_n dX12_operands_314 rfl))))) (mt_node_ok (mt_leaf_ok (en_o (sm_iload_n dX12_operands_315 rfl))) (mt_node_ok (mt_leaf_ok (en_o (sm_iconst dX12_operands_316 rfl))) (mt_leaf_ok (en_o (sm_iadd dX12_operands_317))))))) (mt_node_ok (mt_node_ok (mt_node_ok (mt_leaf_ok ((⟨by decide, bg_972, bg_1214, 474, 1, ⟨by decide, by decide, by decide +kernel⟩, bg_1229, Or.inr ⟨rfl, bg_1230, 12, _, rfl, by decide, rfl, Or.inl ⟨dX12_operands_318, bg_1231⟩⟩⟩ : mi_cal _ _ _ (mI 179) _ _))) (mt_node_ok (mt_leaf_ok (en_o (sm_bipush dX12_operands_321 rfl))) (mt_leaf_ok (en_o (sm_icmp_gt dX12_operands_323 (by decide)))))) (mt_node_ok (mt_leaf_ok (en_o (sm_iconst dX12_operands_326 rfl))) (mt_node_ok (mt_leaf_ok (en_o (sm_goto dX12_operands_327 (by decide)))) (mt_leaf_ok (en_o (sm_iconst dX12_operands_330 rfl)))))) (mt_node_ok (mt_node_ok (mt_leaf_ok (sr_nar mi_cz_ok dX12_operands_331)) (mt_node_ok (mt_leaf_ok (en_o (sm_iload_n dX12_operands_332 rfl))) (mt_leaf_ok (en_o (sm_bipush dX12_operands_333 rfl))))) (mt_node_ok (mt_leaf_ok (en_o (sm_icmp_lt dX12_operands_335 (by decide)))) (mt_node_ok (mt_leaf_ok (en_o (sm_iload_n dX12_operands_338 rfl))) (mt_leaf_ok (en_o (sm_bipush dX12_operands_339 rfl))))))))
def mb_228_4 (g : xe_G) : Nat → Option mi_N := mt_node 381 (mt_node 361 (mt_node 351 (mt_node 345 (mt_node 341 (mt_leaf 341 (.inl (o_if2 (fun x y => decide (y < x)) 513))) (mt_node 344 (mt_leaf 344 (.inl (o_iload 2 1))) (mt_leaf 345 (.inl (o_push (.int 18) 2))))) (mt_node 347 (mt_leaf 347 (.inl (o_if2 (fun x y => decide (¬ x = y)) 360))) (mt_node 350 (mt_leaf 350 (.inl (o_aload 0 1))) (mt_leaf 351 (.inl (o_iload 1 1)))))) (mt_node 354 (mt_node 352 (mt_leaf 352 (.inl (o_push (.int 1) 1))) (mt_node 353 (mt_leaf 353 (.inl (o_bin (fun x y => x + y) 1))) (mt_leaf 354 (.inr (.inl (179, 2, some 12)))))) (mt_node 357 (mt_leaf 357 (.inl (o_goto 367))) (mt_node 360 (mt_leaf 360 (.inl (o_aload 0 1))) (mt_leaf 361 (.inl (o_iload 1 1))))))) (mt_node 369 (mt_node 364 (mt_node 362 (mt_leaf 362 (.inl (o_push (.int 1) 1))) (mt_node 363 (mt_leaf 363 (.inl (o_bin (fun x y => x + y) 1))) (mt_leaf 364 (.inr (.inl (180, 2, some 12)))))) (mt_node 367 (mt_leaf 367 (.inl (o_isto 3 1))) (mt_node 368 (mt_leaf 368 (.inl (o_aload 0 1))) (mt_leaf 369 (.inl (o_iload 3 1)))))) (mt_node 375 (mt_node 370 (mt_leaf 370 (.inr (.inl (247, 2, some 12)))) (mt_node 373 (mt_leaf 373 (.inl (o_isto 4 2))) (mt_leaf 375 (.inl (o_iload 2 1))))) (mt_node 376 (mt_leaf 376 (.inl (o_push (.int 20) 2))) (mt_node 378 (mt_leaf 378 (.inl (o_if2 (fun x y => decide (¬ x = y)) 420))) (mt_leaf 381 (.inl (o_iload 4 2)))))))) (mt_node 404 (mt_node 394 (mt_node 387 (mt_node 383 (mt_leaf 383 (.inl (o_push (.int 5) 1))) (mt_node 384 (mt_leaf 384 (.inl (o_if2 (fun x y => decide (x = y)) 414))) (mt_leaf 387 (.inl (o_iload 4 2))))) (mt_node 389 (mt_leaf 389 (.inl (o_push (.int 6) 2))) (mt_node 391 (mt_leaf 391 (.inl (o_if2 (fun x y => decide (x = y)) 414))) (mt_leaf 394 (.inl (o_iload 4 2)))))) (mt_node 401 (mt_node 396 (mt_leaf 396 (.inl (o_push (.int 17) 2))) (mt_node 398 (mt_leaf 398 (.inl (o_if2 (fun x y => decide (¬ x = y)) 418))) (mt_leaf 401 (.inl (o_aload 0 1))))) (mt_node 402 (mt_leaf 402 (.inl (o_aload 0 1))) (mt_node 403 (mt_leaf 403 (.inl (o_iload 3 1))) (mt_leaf 404 (.inr (.inl (201, 2, some 12)))))))) (mt_node 418 (mt_node 411 (mt_node 407 (mt_leaf 407 (.inl (o_push (.int 0) 1))) (mt_node 408 (mt_leaf 408 (.inr (.inl (255, 3, some 12)))) (mt_leaf 411 (.inl (o_if (fun x => decide (x = 0)) 418))))) (mt_node 414 (mt_leaf 414 (.inl (o_push (.int 1) 1))) (mt_node 415 (mt_leaf 415 (.inl (o_goto 419))) (mt_leaf 418 (.inl (o_push (.int 0) 1)))))) (mt_node 422 (mt_node 419 (mt_leaf 419 (.inr (.inr (r_int mi_cz)))) (mt_node 420 (mt_leaf 420 (.inl (o_iload 4 2))) (mt_leaf 422 (.inl (o_push (.int 3) 1))))) (mt_node 423 (mt_leaf 423 (.inl (o_if2 (fun x y => decide (x = y)) 507))) (mt_node 426 (mt_leaf 426 (.inl (o_iload 4 2))) (mt_leaf 428 (.inl (o_push (.int 4) 1))))))))
theorem mb_228_4_ok {g : xe_G} : mt_all (mi_ent g mI (mI 228)) (mb_228_4 g) := mt_node_ok (mt_node_ok (mt_node_ok (mt_node_ok (mt_node_ok (mt_leaf_ok (en_o (sm_icmp_gt dX12_operands_341 (by decide)))) (mt_node_ok (mt_leaf_ok (en_o (sm_iload_n dX12_operands_344 rfl))) (mt_leaf_ok (en_o (sm_bipush dX12_operands_345 rfl))))) (mt_node_ok (mt_leaf_ok (en_o (sm_icmp_ne dX12_operands_347 (by decide)))) (mt_node_ok (mt_leaf_ok (en_o (sm_aload_n dX12_operands_350 rfl))) (mt_leaf_ok (en_o (sm_iload_n dX12_operands_351 rfl)))))) (mt_node_ok (mt_node_ok (mt_leaf_ok (en_o (sm_iconst dX12_operands_352 rfl))) (mt_node_ok (mt_leaf_ok (en_o (sm_iadd dX12_operands_353))) (mt_leaf_ok ((⟨by decide, bg_972, bg_1214, 474, 1, ⟨by decide, by decide, by decide +kernel⟩, bg_1229, Or.inr ⟨rfl, bg_1230, 12, _, rfl, by decide, rfl, Or.inl ⟨dX12_operands_354, bg_1231⟩⟩⟩ : mi_cal _ _ _ (mI 179) _ _))))) (mt_node_ok (mt_leaf_ok (en_o (sm_goto dX12_operands_357 (by decide)))) (mt_node_ok (mt_leaf_ok (en_o (sm_aload_n dX12_operands_360 rfl))) (mt_leaf_ok (en_o (sm_iload_n dX12_operands_361 rfl))))))) (mt_node_ok (mt_node_ok (mt_node_ok (mt_leaf_ok (en_o (sm_iconst dX12_operands_362 rfl))) (mt_node_ok (mt_leaf_ok (en_o (sm_iadd dX12_operands_363))) (mt_leaf_ok ((⟨by decide, bg_972, bg_1216, 459, 1, ⟨by decide, by decide, by decide +kernel⟩, bg_1218, Or.inr ⟨rfl, bg_1219, 12, _, rfl, by decide, rfl, Or.inl ⟨dX12_operands_364, bg_1220⟩⟩⟩ : mi_cal _ _ _ (mI 180) _ _))))) (mt_node_ok (mt_leaf_ok (en_s (sm_istore_n dX12_operands_367 rfl (by decide)))) (mt_node_ok (mt_leaf_ok (en_o (sm_aload_n dX12_operands_368 rfl))) (mt_leaf_ok (en_o (sm_iload_n dX12_operands_369 rfl)))))) (mt_node_ok (mt_node_ok (mt_leaf_ok ((⟨by decide, bg_972, bg_1019, 338, 1, ⟨by decide, by decide, by decide +kernel⟩, bg_1106, Or.inr ⟨rfl, bg_1107, 12, _, rfl, by decide, rfl, Or.inl ⟨dX12_operands_370, bg_1108⟩⟩⟩ : mi_cal _ _ _ (mI 247) _ _))) (mt_node_ok (mt_leaf_ok (en_s (sm_istore dX12_operands_373 (by decide)))) (mt_leaf_ok (en_o (sm_iload_n dX12_operands_375 rfl))))) (mt_node_ok (mt_leaf_ok (en_o (sm_bipush dX12_operands_376 rfl))) (mt_node_ok (mt_leaf_ok (en_o (sm_icmp_ne dX12_operands_378 (by decide)))) (mt_leaf_ok (en_o (sm_iload dX12_operands_381)))))))) (mt_node_ok (mt_node_ok (mt_node_ok (mt_node_ok (mt_leaf_ok (en_o (sm_iconst dX12_operands_383 rfl))) (mt_node_ok (mt_leaf_ok (en_o (sm_icmp_eq dX12_operands_384 (by decide)))) (mt_leaf_ok (en_o (sm_iload dX12_operands_387))))) (mt_node_ok (mt_leaf_ok (en_o (sm_bipush dX12_operands_389 rfl))) (mt_node_ok (mt_leaf_ok (en_o (sm_icmp_eq dX12_operands_391 (by decide)))) (mt_leaf_ok (en_o (sm_iload dX12_operands_394)))))) (mt_node_ok (mt_node_ok (mt_leaf_ok (en_o (sm_bipush dX12_operands_396 rfl))) (mt_node_ok (mt_leaf_ok (en_o (sm_icmp_ne dX12_operands_398 (by decide)))) (mt_leaf_ok (en_o (sm_aload_n dX12_operands_401 rfl))))) (mt_node_ok (mt_leaf_ok (en_o (sm_aload_n dX12_operands_402 rfl))) (mt_node_ok (mt_leaf_ok (en_o (sm_iload_n dX12_operands_403 rfl))) (mt_leaf_ok ((⟨by decide, bg_972, bg_1253, 501, 1, ⟨by decide, by decide, by decide +kernel⟩, bg_1257, Or.inr ⟨rfl, bg_1258, 12, _, rfl, by decide, rfl, Or.inl ⟨dX12_operands_404, bg_1259⟩⟩⟩ : mi_cal _ _ _ (mI 201) _ _))))))) (mt_node_ok (mt_node_ok (mt_node_ok (mt_leaf_ok (en_o (sm_iconst dX12_operands_407 rfl))) (mt_node_ok (mt_leaf_ok ((⟨by decide, bg_972, bg_1211, 453, 2, ⟨by decide, by decide, by decide +kernel⟩, bg_1210, Or.inr ⟨rfl, bg_1212, 12, _, rfl, by decide, rfl, Or.inl ⟨dX12_operands_408, bg_1213⟩⟩⟩ : mi_cal _ _ _ (mI 255) _ _))) (mt_leaf_ok (en_o (sm_if_eq dX12_operands_411 (by decide)))))) (mt_node_ok (mt_leaf_ok (en_o (sm_iconst dX12_operands_414 rfl))) (mt_node_ok (mt_leaf_ok (en_o (sm_goto dX12_operands_415 (by decide)))) (mt_leaf_ok (en_o (sm_iconst dX12_operands_418 rfl)))))) (mt_node_ok (mt_node_ok (mt_leaf_ok (sr_nar mi_cz_ok dX12_operands_419)) (mt_node_ok (mt_leaf_ok (en_o (sm_iload dX12_operands_420))) (mt_leaf_ok (en_o (sm_iconst dX12_operands_422 rfl))))) (mt_node_ok (mt_leaf_ok (en_o (sm_icmp_eq dX12_operands_423 (by decide)))) (mt_node_ok (mt_leaf_ok (en_o (sm_iload dX12_operands_426))) (mt_leaf_ok (en_o (sm_iconst dX12_operands_428 rfl))))))))
def mb_228_5 (g : xe_G) : Nat → Option mi_N := mt_node 482 (mt_node 455 (mt_node 441 (mt_node 434 (mt_node 429 (mt_leaf 429 (.inl (o_if2 (fun x y => decide (x = y)) 507))) (mt_node 432 (mt_leaf 432 (.inl (o_iload 4 2))) (mt_leaf 434 (.inl (o_push (.int 8) 2))))) (mt_node 436 (mt_leaf 436 (.inl (o_if2 (fun x y => decide (x = y)) 507))) (mt_node 439 (mt_leaf 439 (.inl (o_iload 4 2))) (mt_leaf 441 (.inl (o_push (.int 7) 2)))))) (mt_node 447 (mt_node 443 (mt_leaf 443 (.inl (o_if2 (fun x y => decide (¬ x = y)) 455))) (mt_node 446 (mt_leaf 446 (.inl (o_aload 0 1))) (mt_leaf 447 (.inl (o_get 12 53))))) (mt_node 450 (mt_leaf 450 (.inl (o_push (.int 49) 2))) (mt_node 452 (mt_leaf 452 (.inl (o_if2 (fun x y => decide (y ≤ x)) 507))) (mt_leaf 455 (.inl (o_iload 4 2))))))) (mt_node 469 (mt_node 462 (mt_node 457 (mt_leaf 457 (.inl (o_push (.int 15) 2))) (mt_node 459 (mt_leaf 459 (.inl (o_if2 (fun x y => decide (x = y)) 469))) (mt_leaf 462 (.inl (o_iload 4 2))))) (mt_node 464 (mt_leaf 464 (.inl (o_push (.int 16) 2))) (mt_node 466 (mt_leaf 466 (.inl (o_if2 (fun x y => decide (¬ x = y)) 478))) (mt_leaf 469 (.inl (o_aload 0 1)))))) (mt_node 475 (mt_node 470 (mt_leaf 470 (.inl (o_get 12 53))) (mt_node 473 (mt_leaf 473 (.inl (o_push (.int 51) 2))) (mt_leaf 475 (.inl (o_if2 (fun x y => decide (y ≤ x)) 507))))) (mt_node 478 (mt_leaf 478 (.inl (o_iload 4 2))) (mt_node 480 (mt_leaf 480 (.inl (o_push (.int 17) 2))) (mt_leaf 482 (.inl (o_if2 (fun x y => decide (¬ x = y)) 511)))))))) (mt_node 507 (mt_node 495 (mt_node 489 (mt_node 485 (mt_leaf 485 (.inl (o_aload 0 1))) (mt_node 486 (mt_leaf 486 (.inl (o_get 12 53))) (mt_leaf 489 (.inl (o_push (.int 55) 2))))) (mt_node 491 (mt_leaf 491 (.inl (o_if2 (fun x y => decide (x < y)) 511))) (mt_node 494 (mt_leaf 494 (.inl (o_aload 0 1))) (mt_leaf 495 (.inl (o_aload 0 1)))))) (mt_node 500 (mt_node 496 (mt_leaf 496 (.inl (o_iload 3 1))) (mt_node 497 (mt_leaf 497 (.inr (.inl (201, 2, some 12)))) (mt_leaf 500 (.inl (o_push (.int 0) 1))))) (mt_node 501 (mt_leaf 501 (.inr (.inl (255, 3, some 12)))) (mt_node 504 (mt_leaf 504 (.inl (o_if (fun x => decide (¬ x = 0)) 511))) (mt_leaf 507 (.inl (o_push (.int 1) 1))))))) (mt_node 517 (mt_node 512 (mt_node 508 (mt_leaf 508 (.inl (o_goto 512))) (mt_node 511 (mt_leaf 511 (.inl (o_push (.int 0) 1))) (mt_leaf 512 (.inr (.inr (r_int mi_cz)))))) (mt_node 513 (mt_leaf 513 (.inl (o_iload 2 1))) (mt_node 514 (mt_leaf 514 (.inl (o_push (.int 178) 3))) (mt_leaf 517 (.inl (o_if2 (fun x y => decide (x < y)) 549)))))) (mt_node 524 (mt_node 520 (mt_leaf 520 (.inl (o_iload 2 1))) (mt_node 521 (mt_leaf 521 (.inl (o_push (.int 181) 3))) (mt_leaf 524 (.inl (o_if2 (fun x y => decide (y < x)) 549))))) (mt_node 527 (mt_leaf 527 (.inl (o_aload 0 1))) (mt_node 528 (mt_leaf 528 (.inl (o_aload 0 1))) (mt_leaf 529 (.inl (o_iload 1 1))))))))
theorem mb_228_5_ok {g : xe_G} : mt_all (mi_ent g mI (mI 228)) (mb_228_5 g) := mt_node_ok (mt_node_ok (mt_node_ok (mt_node_ok (mt_node_ok (mt_leaf_ok (en_o (sm_icmp_eq dX12_operands_429 (by decide)))) (mt_node_ok (mt_leaf_ok (en_o (sm_iload dX12_operands_432))) (mt_leaf_ok (en_o (sm_bipush dX12_operands_434 rfl))))) (mt_node_ok (mt_leaf_ok (en_o (sm_icmp_eq dX12_operands_436 (by decide)))) (mt_node_ok (mt_leaf_ok (en_o (sm_iload dX12_operands_439))) (mt_leaf_ok (en_o (sm_bipush dX12_operands_441 rfl)))))) (mt_node_ok (mt_node_ok (mt_leaf_ok (en_o (sm_icmp_ne dX12_operands_443 (by decide)))) (mt_node_ok (mt_leaf_ok (en_o (sm_aload_n dX12_operands_446 rfl))) (mt_leaf_ok (en_o (sm_get (T := TX12) (by decide) rfl bi_X12 (by decide) bg_1034 dX12_operands_447))))) (mt_node_ok (mt_leaf_ok (en_o (sm_bipush dX12_operands_450 rfl))) (mt_node_ok (mt_leaf_ok (en_o (sm_icmp_ge dX12_operands_452 (by decide)))) (mt_leaf_ok (en_o (sm_iload dX12_operands_455))))))) (mt_node_ok (mt_node_ok (mt_node_ok (mt_leaf_ok (en_o (sm_bipush dX12_operands_457 rfl))) (mt_node_ok (mt_leaf_ok (en_o (sm_icmp_eq dX12_operands_459 (by decide)))) (mt_leaf_ok (en_o (sm_iload dX12_operands_462))))) (mt_node_ok (mt_leaf_ok (en_o (sm_bipush dX12_operands_464 rfl))) (mt_node_ok (mt_leaf_ok (en_o (sm_icmp_ne dX12_operands_466 (by decide)))) (mt_leaf_ok (en_o (sm_aload_n dX12_operands_469 rfl)))))) (mt_node_ok (mt_node_ok (mt_leaf_ok (en_o (sm_get (T := TX12) (by decide) rfl bi_X12 (by decide) bg_1034 dX12_operands_470))) (mt_node_ok (mt_leaf_ok (en_o (sm_bipush dX12_operands_473 rfl))) (mt_leaf_ok (en_o (sm_icmp_ge dX12_operands_475 (by decide)))))) (mt_node_ok (mt_leaf_ok (en_o (sm_iload dX12_operands_478))) (mt_node_ok (mt_leaf_ok (en_o (sm_bipush dX12_operands_480 rfl))) (mt_leaf_ok (en_o (sm_icmp_ne dX12_operands_482 (by decide))))))))) (mt_node_ok (mt_node_ok (mt_node_ok (mt_node_ok (mt_leaf_ok (en_o (sm_aload_n dX12_operands_485 rfl))) (mt_node_ok (mt_leaf_ok (en_o (sm_get (T := TX12) (by decide) rfl bi_X12 (by decide) bg_1034 dX12_operands_486))) (mt_leaf_ok (en_o (sm_bipush dX12_operands_489 rfl))))) (mt_node_ok (mt_leaf_ok (en_o (sm_icmp_lt dX12_operands_491 (by decide)))) (mt_node_ok (mt_leaf_ok (en_o (sm_aload_n dX12_operands_494 rfl))) (mt_leaf_ok (en_o (sm_aload_n dX12_operands_495 rfl)))))) (mt_node_ok (mt_node_ok (mt_leaf_ok (en_o (sm_iload_n dX12_operands_496 rfl))) (mt_node_ok (mt_leaf_ok ((⟨by decide, bg_972, bg_1253, 501, 1, ⟨by decide, by decide, by decide +kernel⟩, bg_1257, Or.inr ⟨rfl, bg_1258, 12, _, rfl, by decide, rfl, Or.inl ⟨dX12_operands_497, bg_1259⟩⟩⟩ : mi_cal _ _ _ (mI 201) _ _))) (mt_leaf_ok (en_o (sm_iconst dX12_operands_500 rfl))))) (mt_node_ok (mt_leaf_ok ((⟨by decide, bg_972, bg_1211, 453, 2, ⟨by decide, by decide, by decide +kernel⟩, bg_1210, Or.inr ⟨rfl, bg_1212, 12, _, rfl, by decide, rfl, Or.inl ⟨dX12_operands_501, bg_1213⟩⟩⟩ : mi_cal _ _ _ (mI 255) _ _))) (mt_node_ok (mt_leaf_ok (en_o (sm_if_ne dX12_operands_504 (by decide)))) (mt_leaf_ok (en_o (sm_iconst dX12_operands_507 rfl))))))) (mt_node_ok (mt_node_ok (mt_node_ok (mt_leaf_ok (en_o (sm_goto dX12_operands_508 (by decide)))) (mt_node_ok (mt_leaf_ok (en_o (sm_iconst dX12_operands_511 rfl))) (mt_leaf_ok (sr_nar mi_cz_ok dX12_operands_512)))) (mt_node_ok (mt_leaf_ok (en_o (sm_iload_n dX12_operands_513 rfl))) (mt_node_ok (mt_leaf_ok (en_o (sm_sipush dX12_operands_514 rfl))) (mt_leaf_ok (en_o (sm_icmp_lt dX12_operands_517 (by decide))))))) (mt_node_ok (mt_node_ok (mt_leaf_ok (en_o (sm_iload_n dX12_operands_520 rfl))) (mt_node_ok (mt_leaf_ok (en_o (sm_sipush dX12_operands_521 rfl))) (mt_leaf_ok (en_o (sm_icmp_gt dX12_operands_524 (by decide)))))) (mt_node_ok (mt_leaf_ok (en_o (sm_aload_n dX12_operands_527 rfl))) (mt_node_ok (mt_leaf_ok (en_o (sm_aload_n dX12_operands_528 rfl))) (mt_leaf_ok (en_o (sm_iload_n dX12_operands_529 rfl))))))))
def mb_228_6 (g : xe_G) : Nat → Option mi_N := mt_node 572 (mt_node 550 (mt_node 540 (mt_node 532 (mt_node 530 (mt_leaf 530 (.inl (o_push (.int 1) 1))) (mt_node 531 (mt_leaf 531 (.inl (o_bin (fun x y => x + y) 1))) (mt_leaf 532 (.inr (.inl (180, 2, some 12)))))) (mt_node 535 (mt_leaf 535 (.inr (.inl (247, 2, some 12)))) (mt_node 538 (mt_leaf 538 (.inl (o_push (.int 9) 2))) (mt_leaf 540 (.inl (o_if2 (fun x y => decide (¬ x = y)) 547)))))) (mt_node 547 (mt_node 543 (mt_leaf 543 (.inl (o_push (.int 1) 1))) (mt_node 544 (mt_leaf 544 (.inl (o_goto 548))) (mt_leaf 547 (.inl (o_push (.int 0) 1))))) (mt_node 548 (mt_leaf 548 (.inr (.inr (r_int mi_cz)))) (mt_node 549 (mt_leaf 549 (.inl (o_iload 2 1))) (mt_leaf 550 (.inl (o_push (.int 182) 3))))))) (mt_node 564 (mt_node 557 (mt_node 553 (mt_leaf 553 (.inl (o_if2 (fun x y => decide (x < y)) 692))) (mt_node 556 (mt_leaf 556 (.inl (o_iload 2 1))) (mt_leaf 557 (.inl (o_push (.int 185) 3))))) (mt_node 560 (mt_leaf 560 (.inl (o_if2 (fun x y => decide (y < x)) 692))) (mt_node 563 (mt_leaf 563 (.inl (o_aload 0 1))) (mt_leaf 564 (.inl (o_iload 1 1)))))) (mt_node 567 (mt_node 565 (mt_leaf 565 (.inl (o_push (.int 1) 1))) (mt_node 566 (mt_leaf 566 (.inl (o_bin (fun x y => x + y) 1))) (mt_leaf 567 (.inr (.inl (180, 2, some 12)))))) (mt_node 570 (mt_leaf 570 (.inl (o_isto 3 1))) (mt_node 571 (mt_leaf 571 (.inl (o_aload 0 1))) (mt_leaf 572 (.inl (o_iload 3 1)))))))) (mt_node 599 (mt_node 585 (mt_node 578 (mt_node 573 (mt_leaf 573 (.inr (.inl (247, 2, some 12)))) (mt_node 576 (mt_leaf 576 (.inl (o_isto 4 2))) (mt_leaf 578 (.inl (o_iload 2 1))))) (mt_node 579 (mt_leaf 579 (.inl (o_push (.int 185) 3))) (mt_node 582 (mt_leaf 582 (.inl (o_if2 (fun x y => decide (¬ x = y)) 595))) (mt_leaf 585 (.inl (o_iload 4 2)))))) (mt_node 592 (mt_node 587 (mt_leaf 587 (.inl (o_push (.int 11) 2))) (mt_node 589 (mt_leaf 589 (.inl (o_if2 (fun x y => decide (¬ x = y)) 625))) (mt_leaf 592 (.inl (o_goto 627))))) (mt_node 595 (mt_leaf 595 (.inl (o_iload 4 2))) (mt_node 597 (mt_leaf 597 (.inl (o_push (.int 10) 2))) (mt_leaf 599 (.inl (o_if2 (fun x y => decide (x = y)) 627))))))) (mt_node 613 (mt_node 606 (mt_node 602 (mt_leaf 602 (.inl (o_iload 2 1))) (mt_node 603 (mt_leaf 603 (.inl (o_push (.int 182) 3))) (mt_leaf 606 (.inl (o_if2 (fun x y => decide (x = y)) 625))))) (mt_node 609 (mt_leaf 609 (.inl (o_iload 4 2))) (mt_node 611 (mt_leaf 611 (.inl (o_push (.int 11) 2))) (mt_leaf 613 (.inl (o_if2 (fun x y => decide (¬ x = y)) 625)))))) (mt_node 620 (mt_node 616 (mt_leaf 616 (.inl (o_aload 0 1))) (mt_node 617 (mt_leaf 617 (.inl (o_get 12 53))) (mt_leaf 620 (.inl (o_push (.int 52) 2))))) (mt_node 622 (mt_leaf 622 (.inl (o_if2 (fun x y => decide (y ≤ x)) 627))) (mt_node 625 (mt_leaf 625 (.inl (o_push (.int 0) 1))) (mt_leaf 626 (.inr (.inr (r_int mi_cz)))))))))
theorem mb_228_6_ok {g : xe_G} : mt_all (mi_ent g mI (mI 228)) (mb_228_6 g) := mt_node_ok (mt_node_ok (mt_node_ok (mt_node_ok (mt_node_ok (mt_leaf_ok (en_o (sm_iconst dX12_operands_530 rfl))) (mt_node_ok (mt_leaf_ok (en_o (sm_iadd dX12_operands_531))) (mt_leaf_ok ((⟨by decide, bg_972, bg_1216, 459, 1, ⟨by decide, by decide, by decide +kernel⟩, bg_1218, Or.inr ⟨rfl, bg_1219, 12, _, rfl, by decide, rfl, Or.inl ⟨dX12_operands_532, bg_1220⟩⟩⟩ : mi_cal _ _ _ (mI 180) _ _))))) (mt_node_ok (mt_leaf_ok ((⟨by decide, bg_972, bg_1019, 338, 1, ⟨by decide, by decide, by decide +kernel⟩, bg_1106, Or.inr ⟨rfl, bg_1107, 12, _, rfl, by decide, rfl, Or.inl ⟨dX12_operands_535, bg_1108⟩⟩⟩ : mi_cal _ _ _ (mI 247) _ _))) (mt_node_ok (mt_leaf_ok (en_o (sm_bipush dX12_operands_538 rfl))) (mt_leaf_ok (en_o (sm_icmp_ne dX12_operands_540 (by decide))))))) (mt_node_ok (mt_node_ok (mt_leaf_ok (en_o (sm_iconst dX12_operands_543 rfl))) (mt_node_ok (mt_leaf_ok (en_o (sm_goto dX12_operands_544 (by decide)))) (mt_leaf_ok (en_o (sm_iconst dX12_operands_547 rfl))))) (mt_node_ok (mt_leaf_ok (sr_nar mi_cz_ok dX12_operands_548)) (mt_node_ok (mt_leaf_ok (en_o (sm_iload_n dX12_operands_549 rfl))) (mt_leaf_ok (en_o (sm_sipush dX12_operands_550 rfl))))))) (mt_node_ok (mt_node_ok (mt_node_ok (mt_leaf_ok (en_o (sm_icmp_lt dX12_operands_553 (by decide)))) (mt_node_ok (mt_leaf_ok (en_o (sm_iload_n dX12_operands_556 rfl))) (mt_leaf_ok (en_o (sm_sipush dX12_operands_557 rfl))))) (mt_node_ok (mt_leaf_ok (en_o (sm_icmp_gt dX12_operands_560 (by decide)))) (mt_node_ok (mt_leaf_ok (en_o (sm_aload_n dX12_operands_563 rfl))) (mt_leaf_ok (en_o (sm_iload_n dX12_operands_564 rfl)))))) (mt_node_ok (mt_node_ok (mt_leaf_ok (en_o (sm_iconst dX12_operands_565 rfl))) (mt_node_ok (mt_leaf_ok (en_o (sm_iadd dX12_operands_566))) (mt_leaf_ok ((⟨by decide, bg_972, bg_1216, 459, 1, ⟨by decide, by decide, by decide +kernel⟩, bg_1218, Or.inr ⟨rfl, bg_1219, 12, _, rfl, by decide, rfl, Or.inl ⟨dX12_operands_567, bg_1220⟩⟩⟩ : mi_cal _ _ _ (mI 180) _ _))))) (mt_node_ok (mt_leaf_ok (en_s (sm_istore_n dX12_operands_570 rfl (by decide)))) (mt_node_ok (mt_leaf_ok (en_o (sm_aload_n dX12_operands_571 rfl))) (mt_leaf_ok (en_o (sm_iload_n dX12_operands_572 rfl)))))))) (mt_node_ok (mt_node_ok (mt_node_ok (mt_node_ok (mt_leaf_ok ((⟨by decide, bg_972, bg_1019, 338, 1, ⟨by decide, by decide, by decide +kernel⟩, bg_1106, Or.inr ⟨rfl, bg_1107, 12, _, rfl, by decide, rfl, Or.inl ⟨dX12_operands_573, bg_1108⟩⟩⟩ : mi_cal _ _ _ (mI 247) _ _))) (mt_node_ok (mt_leaf_ok (en_s (sm_istore dX12_operands_576 (by decide)))) (mt_leaf_ok (en_o (sm_iload_n dX12_operands_578 rfl))))) (mt_node_ok (mt_leaf_ok (en_o (sm_sipush dX12_operands_579 rfl))) (mt_node_ok (mt_leaf_ok (en_o (sm_icmp_ne dX12_operands_582 (by decide)))) (mt_leaf_ok (en_o (sm_iload dX12_operands_585)))))) (mt_node_ok (mt_node_ok (mt_leaf_ok (en_o (sm_bipush dX12_operands_587 rfl))) (mt_node_ok (mt_leaf_ok (en_o (sm_icmp_ne dX12_operands_589 (by decide)))) (mt_leaf_ok (en_o (sm_goto dX12_operands_592 (by decide)))))) (mt_node_ok (mt_leaf_ok (en_o (sm_iload dX12_operands_595))) (mt_node_ok (mt_leaf_ok (en_o (sm_bipush dX12_operands_597 rfl))) (mt_leaf_ok (en_o (sm_icmp_eq dX12_operands_599 (by decide)))))))) (mt_node_ok (mt_node_ok (mt_node_ok (mt_leaf_ok (en_o (sm_iload_n dX12_operands_602 rfl))) (mt_node_ok (mt_leaf_ok (en_o (sm_sipush dX12_operands_603 rfl))) (mt_leaf_ok (en_o (sm_icmp_eq dX12_operands_606 (by decide)))))) (mt_node_ok (mt_leaf_ok (en_o (sm_iload dX12_operands_609))) (mt_node_ok (mt_leaf_ok (en_o (sm_bipush dX12_operands_611 rfl))) (mt_leaf_ok (en_o (sm_icmp_ne dX12_operands_613 (by decide))))))) (mt_node_ok (mt_node_ok (mt_leaf_ok (en_o (sm_aload_n dX12_operands_616 rfl))) (mt_node_ok (mt_leaf_ok (en_o (sm_get (T := TX12) (by decide) rfl bi_X12 (by decide) bg_1034 dX12_operands_617))) (mt_leaf_ok (en_o (sm_bipush dX12_operands_620 rfl))))) (mt_node_ok (mt_leaf_ok (en_o (sm_icmp_ge dX12_operands_622 (by decide)))) (mt_node_ok (mt_leaf_ok (en_o (sm_iconst dX12_operands_625 rfl))) (mt_leaf_ok (sr_nar mi_cz_ok dX12_operands_626)))))))
def mb_228_7 (g : xe_G) : Nat → Option mi_N := mt_node 668 (mt_node 648 (mt_node 636 (mt_node 629 (mt_node 627 (mt_leaf 627 (.inl (o_aload 0 1))) (mt_node 628 (mt_leaf 628 (.inl (o_iload 3 1))) (mt_leaf 629 (.inr (.inl (225, 2, some 12)))))) (mt_node 632 (mt_leaf 632 (.inl (o_aload 0 1))) (mt_node 633 (mt_leaf 633 (.inl (o_get 12 9))) (mt_leaf 636 (.inl (o_if2 (fun x y => decide (¬ x = y)) 648)))))) (mt_node 643 (mt_node 639 (mt_leaf 639 (.inl (o_iload 2 1))) (mt_node 640 (mt_leaf 640 (.inl (o_push (.int 183) 3))) (mt_leaf 643 (.inl (o_if2 (fun x y => decide (x = y)) 648))))) (mt_node 646 (mt_leaf 646 (.inl (o_push (.int 0) 1))) (mt_node 647 (mt_leaf 647 (.inr (.inr (r_int mi_cz)))) (mt_leaf 648 (.inl (o_iload 2 1))))))) (mt_node 658 (mt_node 655 (mt_node 649 (mt_leaf 649 (.inl (o_push (.int 185) 3))) (mt_node 652 (mt_leaf 652 (.inl (o_if2 (fun x y => decide (¬ x = y)) 686))) (mt_leaf 655 (.inl (o_aload 0 1))))) (mt_node 656 (mt_leaf 656 (.inl (o_iload 1 1))) (mt_node 657 (mt_leaf 657 (.inl (o_push (.int 3) 1))) (mt_leaf 658 (.inl (o_bin (fun x y => x + y) 1)))))) (mt_node 663 (mt_node 659 (mt_leaf 659 (.inr (.inl (179, 2, some 12)))) (mt_node 662 (mt_leaf 662 (.inl (o_aload 0 1))) (mt_leaf 663 (.inl (o_aload 0 1))))) (mt_node 664 (mt_leaf 664 (.inl (o_iload 3 1))) (mt_node 665 (mt_leaf 665 (.inr (.inl (201, 2, some 12)))) (mt_leaf 668 (.inr (.inl (233, 2, some 12))))))))) (mt_node 690 (mt_node 678 (mt_node 673 (mt_node 671 (mt_leaf 671 (.inl (o_push (.int 1) 1))) (mt_node 672 (mt_leaf 672 (.inl (o_bin (fun x y => x + y) 1))) (mt_leaf 673 (.inl (o_if2 (fun x y => decide (¬ x = y)) 690))))) (mt_node 676 (mt_leaf 676 (.inl (o_aload 0 1))) (mt_node 677 (mt_leaf 677 (.inl (o_iload 1 1))) (mt_leaf 678 (.inl (o_push (.int 4) 1)))))) (mt_node 683 (mt_node 679 (mt_leaf 679 (.inl (o_bin (fun x y => x + y) 1))) (mt_node 680 (mt_leaf 680 (.inr (.inl (179, 2, some 12)))) (mt_leaf 683 (.inl (o_if (fun x => decide (¬ x = 0)) 690))))) (mt_node 686 (mt_leaf 686 (.inl (o_push (.int 1) 1))) (mt_node 687 (mt_leaf 687 (.inl (o_goto 691))) (mt_leaf 690 (.inl (o_push (.int 0) 1))))))) (mt_node 700 (mt_node 693 (mt_node 691 (mt_leaf 691 (.inr (.inr (r_int mi_cz)))) (mt_node 692 (mt_leaf 692 (.inl (o_iload 2 1))) (mt_leaf 693 (.inl (o_push (.int 186) 3))))) (mt_node 696 (mt_leaf 696 (.inl (o_if2 (fun x y => decide (¬ x = y)) 741))) (mt_node 699 (mt_leaf 699 (.inl (o_aload 0 1))) (mt_leaf 700 (.inl (o_aload 0 1)))))) (mt_node 703 (mt_node 701 (mt_leaf 701 (.inl (o_iload 1 1))) (mt_node 702 (mt_leaf 702 (.inl (o_push (.int 1) 1))) (mt_leaf 703 (.inl (o_bin (fun x y => x + y) 1))))) (mt_node 704 (mt_leaf 704 (.inr (.inl (180, 2, some 12)))) (mt_node 707 (mt_leaf 707 (.inr (.inl (247, 2, some 12)))) (mt_leaf 710 (.inl (o_push (.int 18) 2))))))))
theorem mb_228_7_ok {g : xe_G} : mt_all (mi_ent g mI (mI 228)) (mb_228_7 g) := mt_node_ok (mt_node_ok (mt_node_ok (mt_node_ok (mt_node_ok (mt_leaf_ok (en_o (sm_aload_n dX12_operands_627 rfl))) (mt_node_ok (mt_leaf_ok (en_o (sm_iload_n dX12_operands_628 rfl))) (mt_leaf_ok ((⟨by decide, bg_972, bg_1252, 504, 1, ⟨by decide, by decide, by decide +kernel⟩, bg_1260, Or.inr ⟨rfl, bg_1261, 12, _, rfl, by decide, rfl, Or.inl ⟨dX12_operands_629, bg_1262⟩⟩⟩ : mi_cal _ _ _ (mI 225) _ _))))) (mt_node_ok (mt_leaf_ok (en_o (sm_aload_n dX12_operands_632 rfl))) (mt_node_ok (mt_leaf_ok (en_o (sm_get (T := TX12) (by decide) rfl bi_X12 (by decide) bg_979 dX12_operands_633))) (mt_leaf_ok (en_o (sm_icmp_ne dX12_operands_636 (by decide))))))) (mt_node_ok (mt_node_ok (mt_leaf_ok (en_o (sm_iload_n dX12_operands_639 rfl))) (mt_node_ok (mt_leaf_ok (en_o (sm_sipush dX12_operands_640 rfl))) (mt_leaf_ok (en_o (sm_icmp_eq dX12_operands_643 (by decide)))))) (mt_node_ok (mt_leaf_ok (en_o (sm_iconst dX12_operands_646 rfl))) (mt_node_ok (mt_leaf_ok (sr_nar mi_cz_ok dX12_operands_647)) (mt_leaf_ok (en_o (sm_iload_n dX12_operands_648 rfl))))))) (mt_node_ok (mt_node_ok (mt_node_ok (mt_leaf_ok (en_o (sm_sipush dX12_operands_649 rfl))) (mt_node_ok (mt_leaf_ok (en_o (sm_icmp_ne dX12_operands_652 (by decide)))) (mt_leaf_ok (en_o (sm_aload_n dX12_operands_655 rfl))))) (mt_node_ok (mt_leaf_ok (en_o (sm_iload_n dX12_operands_656 rfl))) (mt_node_ok (mt_leaf_ok (en_o (sm_iconst dX12_operands_657 rfl))) (mt_leaf_ok (en_o (sm_iadd dX12_operands_658)))))) (mt_node_ok (mt_node_ok (mt_leaf_ok ((⟨by decide, bg_972, bg_1214, 474, 1, ⟨by decide, by decide, by decide +kernel⟩, bg_1229, Or.inr ⟨rfl, bg_1230, 12, _, rfl, by decide, rfl, Or.inl ⟨dX12_operands_659, bg_1231⟩⟩⟩ : mi_cal _ _ _ (mI 179) _ _))) (mt_node_ok (mt_leaf_ok (en_o (sm_aload_n dX12_operands_662 rfl))) (mt_leaf_ok (en_o (sm_aload_n dX12_operands_663 rfl))))) (mt_node_ok (mt_leaf_ok (en_o (sm_iload_n dX12_operands_664 rfl))) (mt_node_ok (mt_leaf_ok ((⟨by decide, bg_972, bg_1253, 501, 1, ⟨by decide, by decide, by decide +kernel⟩, bg_1257, Or.inr ⟨rfl, bg_1258, 12, _, rfl, by decide, rfl, Or.inl ⟨dX12_operands_665, bg_1259⟩⟩⟩ : mi_cal _ _ _ (mI 201) _ _))) (mt_leaf_ok ((⟨by decide, bg_972, bg_1068, 302, 1, ⟨by decide, by decide, by decide +kernel⟩, bg_1067, Or.inr ⟨rfl, bg_1069, 12, _, rfl, by decide, rfl, Or.inl ⟨dX12_operands_668, bg_1070⟩⟩⟩ : mi_cal _ _ _ (mI 233) _ _)))))))) (mt_node_ok (mt_node_ok (mt_node_ok (mt_node_ok (mt_leaf_ok (en_o (sm_iconst dX12_operands_671 rfl))) (mt_node_ok (mt_leaf_ok (en_o (sm_iadd dX12_operands_672))) (mt_leaf_ok (en_o (sm_icmp_ne dX12_operands_673 (by decide)))))) (mt_node_ok (mt_leaf_ok (en_o (sm_aload_n dX12_operands_676 rfl))) (mt_node_ok (mt_leaf_ok (en_o (sm_iload_n dX12_operands_677 rfl))) (mt_leaf_ok (en_o (sm_iconst dX12_operands_678 rfl)))))) (mt_node_ok (mt_node_ok (mt_leaf_ok (en_o (sm_iadd dX12_operands_679))) (mt_node_ok (mt_leaf_ok ((⟨by decide, bg_972, bg_1214, 474, 1, ⟨by decide, by decide, by decide +kernel⟩, bg_1229, Or.inr ⟨rfl, bg_1230, 12, _, rfl, by decide, rfl, Or.inl ⟨dX12_operands_680, bg_1231⟩⟩⟩ : mi_cal _ _ _ (mI 179) _ _))) (mt_leaf_ok (en_o (sm_if_ne dX12_operands_683 (by decide)))))) (mt_node_ok (mt_leaf_ok (en_o (sm_iconst dX12_operands_686 rfl))) (mt_node_ok (mt_leaf_ok (en_o (sm_goto dX12_operands_687 (by decide)))) (mt_leaf_ok (en_o (sm_iconst dX12_operands_690 rfl))))))) (mt_node_ok (mt_node_ok (mt_node_ok (mt_leaf_ok (sr_nar mi_cz_ok dX12_operands_691)) (mt_node_ok (mt_leaf_ok (en_o (sm_iload_n dX12_operands_692 rfl))) (mt_leaf_ok (en_o (sm_sipush dX12_operands_693 rfl))))) (mt_node_ok (mt_leaf_ok (en_o (sm_icmp_ne dX12_operands_696 (by decide)))) (mt_node_ok (mt_leaf_ok (en_o (sm_aload_n dX12_operands_699 rfl))) (mt_leaf_ok (en_o (sm_aload_n dX12_operands_700 rfl)))))) (mt_node_ok (mt_node_ok (mt_leaf_ok (en_o (sm_iload_n dX12_operands_701 rfl))) (mt_node_ok (mt_leaf_ok (en_o (sm_iconst dX12_operands_702 rfl))) (mt_leaf_ok (en_o (sm_iadd dX12_operands_703))))) (mt_node_ok (mt_leaf_ok ((⟨by decide, bg_972, bg_1216, 459, 1, ⟨by decide, by decide, by decide +kernel⟩, bg_1218, Or.inr ⟨rfl, bg_1219, 12, _, rfl, by decide, rfl, Or.inl ⟨dX12_operands_704, bg_1220⟩⟩⟩ : mi_cal _ _ _ (mI 180) _ _))) (mt_node_ok (mt_leaf_ok ((⟨by decide, bg_972, bg_1019, 338, 1, ⟨by decide, by decide, by decide +kernel⟩, bg_1106, Or.inr ⟨rfl, bg_1107, 12, _, rfl, by decide, rfl, Or.inl ⟨dX12_operands_707, bg_1108⟩⟩⟩ : mi_cal _ _ _ (mI 247) _ _))) (mt_leaf_ok (en_o (sm_bipush dX12_operands_710 rfl))))))))
def mb_228_8 (g : xe_G) : Nat → Option mi_N := mt_node 755 (mt_node 729 (mt_node 719 (mt_node 716 (mt_node 712 (mt_leaf 712 (.inl (o_if2 (fun x y => decide (¬ x = y)) 739))) (mt_node 715 (mt_leaf 715 (.inl (o_aload 0 1))) (mt_leaf 716 (.inl (o_iload 1 1))))) (mt_node 717 (mt_leaf 717 (.inl (o_push (.int 3) 1))) (mt_node 718 (mt_leaf 718 (.inl (o_bin (fun x y => x + y) 1))) (mt_leaf 719 (.inr (.inl (179, 2, some 12))))))) (mt_node 726 (mt_node 722 (mt_leaf 722 (.inl (o_if (fun x => decide (¬ x = 0)) 739))) (mt_node 725 (mt_leaf 725 (.inl (o_aload 0 1))) (mt_leaf 726 (.inl (o_iload 1 1))))) (mt_node 727 (mt_leaf 727 (.inl (o_push (.int 4) 1))) (mt_node 728 (mt_leaf 728 (.inl (o_bin (fun x y => x + y) 1))) (mt_leaf 729 (.inr (.inl (179, 2, some 12)))))))) (mt_node 741 (mt_node 736 (mt_node 732 (mt_leaf 732 (.inl (o_if (fun x => decide (¬ x = 0)) 739))) (mt_node 735 (mt_leaf 735 (.inl (o_push (.int 1) 1))) (mt_leaf 736 (.inl (o_goto 740))))) (mt_node 739 (mt_leaf 739 (.inl (o_push (.int 0) 1))) (mt_node 740 (mt_leaf 740 (.inr (.inr (r_int mi_cz)))) (mt_leaf 741 (.inl (o_iload 2 1)))))) (mt_node 748 (mt_node 742 (mt_leaf 742 (.inl (o_push (.int 187) 3))) (mt_node 745 (mt_leaf 745 (.inl (o_if2 (fun x y => decide (x = y)) 776))) (mt_leaf 748 (.inl (o_iload 2 1))))) (mt_node 749 (mt_leaf 749 (.inl (o_push (.int 189) 3))) (mt_node 752 (mt_leaf 752 (.inl (o_if2 (fun x y => decide (x = y)) 776))) (mt_leaf 755 (.inl (o_iload 2 1)))))))) (mt_node 779 (mt_node 769 (mt_node 762 (mt_node 756 (mt_leaf 756 (.inl (o_push (.int 192) 3))) (mt_node 759 (mt_leaf 759 (.inl (o_if2 (fun x y => decide (x = y)) 776))) (mt_leaf 762 (.inl (o_iload 2 1))))) (mt_node 763 (mt_leaf 763 (.inl (o_push (.int 193) 3))) (mt_node 766 (mt_leaf 766 (.inl (o_if2 (fun x y => decide (x = y)) 776))) (mt_leaf 769 (.inl (o_iload 2 1)))))) (mt_node 776 (mt_node 770 (mt_leaf 770 (.inl (o_push (.int 197) 3))) (mt_node 773 (mt_leaf 773 (.inl (o_if2 (fun x y => decide (¬ x = y)) 911))) (mt_leaf 776 (.inl (o_aload 0 1))))) (mt_node 777 (mt_leaf 777 (.inl (o_iload 1 1))) (mt_node 778 (mt_leaf 778 (.inl (o_push (.int 1) 1))) (mt_leaf 779 (.inl (o_bin (fun x y => x + y) 1))))))) (mt_node 789 (mt_node 784 (mt_node 780 (mt_leaf 780 (.inr (.inl (180, 2, some 12)))) (mt_node 783 (mt_leaf 783 (.inl (o_isto 3 1))) (mt_leaf 784 (.inl (o_aload 0 1))))) (mt_node 785 (mt_leaf 785 (.inl (o_iload 3 1))) (mt_node 786 (mt_leaf 786 (.inr (.inl (247, 2, some 12)))) (mt_leaf 789 (.inl (o_push (.int 7) 2)))))) (mt_node 795 (mt_node 791 (mt_leaf 791 (.inl (o_if2 (fun x y => decide (x = y)) 796))) (mt_node 794 (mt_leaf 794 (.inl (o_push (.int 0) 1))) (mt_leaf 795 (.inr (.inr (r_int mi_cz)))))) (mt_node 796 (mt_leaf 796 (.inl (o_aload 0 1))) (mt_node 797 (mt_leaf 797 (.inl (o_iload 3 1))) (mt_leaf 798 (.inr (.inl (193, 2, some 12)))))))))
theorem mb_228_8_ok {g : xe_G} : mt_all (mi_ent g mI (mI 228)) (mb_228_8 g) := mt_node_ok (mt_node_ok (mt_node_ok (mt_node_ok (mt_node_ok (mt_leaf_ok (en_o (sm_icmp_ne dX12_operands_712 (by decide)))) (mt_node_ok (mt_leaf_ok (en_o (sm_aload_n dX12_operands_715 rfl))) (mt_leaf_ok (en_o (sm_iload_n dX12_operands_716 rfl))))) (mt_node_ok (mt_leaf_ok (en_o (sm_iconst dX12_operands_717 rfl))) (mt_node_ok (mt_leaf_ok (en_o (sm_iadd dX12_operands_718))) (mt_leaf_ok ((⟨by decide, bg_972, bg_1214, 474, 1, ⟨by decide, by decide, by decide +kernel⟩, bg_1229, Or.inr ⟨rfl, bg_1230, 12, _, rfl, by decide, rfl, Or.inl ⟨dX12_operands_719, bg_1231⟩⟩⟩ : mi_cal _ _ _ (mI 179) _ _)))))) (mt_node_ok (mt_node_ok (mt_leaf_ok (en_o (sm_if_ne dX12_operands_722 (by decide)))) (mt_node_ok (mt_leaf_ok (en_o (sm_aload_n dX12_operands_725 rfl))) (mt_leaf_ok (en_o (sm_iload_n dX12_operands_726 rfl))))) (mt_node_ok (mt_leaf_ok (en_o (sm_iconst dX12_operands_727 rfl))) (mt_node_ok (mt_leaf_ok (en_o (sm_iadd dX12_operands_728))) (mt_leaf_ok ((⟨by decide, bg_972, bg_1214, 474, 1, ⟨by decide, by decide, by decide +kernel⟩, bg_1229, Or.inr ⟨rfl, bg_1230, 12, _, rfl, by decide, rfl, Or.inl ⟨dX12_operands_729, bg_1231⟩⟩⟩ : mi_cal _ _ _ (mI 179) _ _))))))) (mt_node_ok (mt_node_ok (mt_node_ok (mt_leaf_ok (en_o (sm_if_ne dX12_operands_732 (by decide)))) (mt_node_ok (mt_leaf_ok (en_o (sm_iconst dX12_operands_735 rfl))) (mt_leaf_ok (en_o (sm_goto dX12_operands_736 (by decide)))))) (mt_node_ok (mt_leaf_ok (en_o (sm_iconst dX12_operands_739 rfl))) (mt_node_ok (mt_leaf_ok (sr_nar mi_cz_ok dX12_operands_740)) (mt_leaf_ok (en_o (sm_iload_n dX12_operands_741 rfl)))))) (mt_node_ok (mt_node_ok (mt_leaf_ok (en_o (sm_sipush dX12_operands_742 rfl))) (mt_node_ok (mt_leaf_ok (en_o (sm_icmp_eq dX12_operands_745 (by decide)))) (mt_leaf_ok (en_o (sm_iload_n dX12_operands_748 rfl))))) (mt_node_ok (mt_leaf_ok (en_o (sm_sipush dX12_operands_749 rfl))) (mt_node_ok (mt_leaf_ok (en_o (sm_icmp_eq dX12_operands_752 (by decide)))) (mt_leaf_ok (en_o (sm_iload_n dX12_operands_755 rfl)))))))) (mt_node_ok (mt_node_ok (mt_node_ok (mt_node_ok (mt_leaf_ok (en_o (sm_sipush dX12_operands_756 rfl))) (mt_node_ok (mt_leaf_ok (en_o (sm_icmp_eq dX12_operands_759 (by decide)))) (mt_leaf_ok (en_o (sm_iload_n dX12_operands_762 rfl))))) (mt_node_ok (mt_leaf_ok (en_o (sm_sipush dX12_operands_763 rfl))) (mt_node_ok (mt_leaf_ok (en_o (sm_icmp_eq dX12_operands_766 (by decide)))) (mt_leaf_ok (en_o (sm_iload_n dX12_operands_769 rfl)))))) (mt_node_ok (mt_node_ok (mt_leaf_ok (en_o (sm_sipush dX12_operands_770 rfl))) (mt_node_ok (mt_leaf_ok (en_o (sm_icmp_ne dX12_operands_773 (by decide)))) (mt_leaf_ok (en_o (sm_aload_n dX12_operands_776 rfl))))) (mt_node_ok (mt_leaf_ok (en_o (sm_iload_n dX12_operands_777 rfl))) (mt_node_ok (mt_leaf_ok (en_o (sm_iconst dX12_operands_778 rfl))) (mt_leaf_ok (en_o (sm_iadd dX12_operands_779))))))) (mt_node_ok (mt_node_ok (mt_node_ok (mt_leaf_ok ((⟨by decide, bg_972, bg_1216, 459, 1, ⟨by decide, by decide, by decide +kernel⟩, bg_1218, Or.inr ⟨rfl, bg_1219, 12, _, rfl, by decide, rfl, Or.inl ⟨dX12_operands_780, bg_1220⟩⟩⟩ : mi_cal _ _ _ (mI 180) _ _))) (mt_node_ok (mt_leaf_ok (en_s (sm_istore_n dX12_operands_783 rfl (by decide)))) (mt_leaf_ok (en_o (sm_aload_n dX12_operands_784 rfl))))) (mt_node_ok (mt_leaf_ok (en_o (sm_iload_n dX12_operands_785 rfl))) (mt_node_ok (mt_leaf_ok ((⟨by decide, bg_972, bg_1019, 338, 1, ⟨by decide, by decide, by decide +kernel⟩, bg_1106, Or.inr ⟨rfl, bg_1107, 12, _, rfl, by decide, rfl, Or.inl ⟨dX12_operands_786, bg_1108⟩⟩⟩ : mi_cal _ _ _ (mI 247) _ _))) (mt_leaf_ok (en_o (sm_bipush dX12_operands_789 rfl)))))) (mt_node_ok (mt_node_ok (mt_leaf_ok (en_o (sm_icmp_eq dX12_operands_791 (by decide)))) (mt_node_ok (mt_leaf_ok (en_o (sm_iconst dX12_operands_794 rfl))) (mt_leaf_ok (sr_nar mi_cz_ok dX12_operands_795)))) (mt_node_ok (mt_leaf_ok (en_o (sm_aload_n dX12_operands_796 rfl))) (mt_node_ok (mt_leaf_ok (en_o (sm_iload_n dX12_operands_797 rfl))) (mt_leaf_ok ((⟨by decide, bg_972, bg_1109, 341, 1, ⟨by decide, by decide, by decide +kernel⟩, bg_1111, Or.inr ⟨rfl, bg_1112, 12, _, rfl, by decide, rfl, Or.inl ⟨dX12_operands_798, bg_1113⟩⟩⟩ : mi_cal _ _ _ (mI 193) _ _))))))))
def mb_228_9 (g : xe_G) : Nat → Option mi_N := mt_node 852 (mt_node 822 (mt_node 809 (mt_node 804 (mt_node 801 (mt_leaf 801 (.inl (o_isto 4 2))) (mt_node 803 (mt_leaf 803 (.inl (o_push (.int 0) 1))) (mt_leaf 804 (.inl (o_isto 5 2))))) (mt_node 806 (mt_leaf 806 (.inl (o_iload 5 2))) (mt_node 808 (mt_leaf 808 (.inl (o_aload 0 1))) (mt_leaf 809 (.inl (o_iload 4 2)))))) (mt_node 817 (mt_node 811 (mt_leaf 811 (.inr (.inl (221, 2, some 12)))) (mt_node 814 (mt_leaf 814 (.inl (o_if2 (fun x y => decide (y ≤ x)) 836))) (mt_leaf 817 (.inl (o_aload 0 1))))) (mt_node 818 (mt_leaf 818 (.inl (o_iload 4 2))) (mt_node 820 (mt_leaf 820 (.inl (o_iload 5 2))) (mt_leaf 822 (.inr (.inl (176, 3, some 12)))))))) (mt_node 837 (mt_node 830 (mt_node 825 (mt_leaf 825 (.inl (o_push (.int 91) 2))) (mt_node 827 (mt_leaf 827 (.inl (o_if2 (fun x y => decide (¬ x = y)) 836))) (mt_leaf 830 (.inl (o_iinc 5 1))))) (mt_node 833 (mt_leaf 833 (.inl (o_goto 806))) (mt_node 836 (mt_leaf 836 (.inl (o_iload 2 1))) (mt_leaf 837 (.inl (o_push (.int 187) 3)))))) (mt_node 845 (mt_node 840 (mt_leaf 840 (.inl (o_if2 (fun x y => decide (¬ x = y)) 854))) (mt_node 843 (mt_leaf 843 (.inl (o_iload 5 2))) (mt_leaf 845 (.inl (o_if (fun x => decide (¬ x = 0)) 852))))) (mt_node 848 (mt_leaf 848 (.inl (o_push (.int 1) 1))) (mt_node 849 (mt_leaf 849 (.inl (o_goto 853))) (mt_leaf 852 (.inl (o_push (.int 0) 1)))))))) (mt_node 875 (mt_node 863 (mt_node 855 (mt_node 853 (mt_leaf 853 (.inr (.inr (r_int mi_cz)))) (mt_node 854 (mt_leaf 854 (.inl (o_iload 2 1))) (mt_leaf 855 (.inl (o_push (.int 189) 3))))) (mt_node 858 (mt_leaf 858 (.inl (o_if2 (fun x y => decide (¬ x = y)) 875))) (mt_node 861 (mt_leaf 861 (.inl (o_iload 5 2))) (mt_leaf 863 (.inl (o_push (.int 255) 3)))))) (mt_node 870 (mt_node 866 (mt_leaf 866 (.inl (o_if2 (fun x y => decide (y ≤ x)) 873))) (mt_node 869 (mt_leaf 869 (.inl (o_push (.int 1) 1))) (mt_leaf 870 (.inl (o_goto 874))))) (mt_node 873 (mt_leaf 873 (.inl (o_push (.int 0) 1))) (mt_node 874 (mt_leaf 874 (.inr (.inr (r_int mi_cz)))) (mt_leaf 875 (.inl (o_iload 2 1))))))) (mt_node 885 (mt_node 882 (mt_node 876 (mt_leaf 876 (.inl (o_push (.int 197) 3))) (mt_node 879 (mt_leaf 879 (.inl (o_if2 (fun x y => decide (¬ x = y)) 905))) (mt_leaf 882 (.inl (o_aload 0 1))))) (mt_node 883 (mt_leaf 883 (.inl (o_iload 1 1))) (mt_node 884 (mt_leaf 884 (.inl (o_push (.int 3) 1))) (mt_leaf 885 (.inl (o_bin (fun x y => x + y) 1)))))) (mt_node 890 (mt_node 886 (mt_leaf 886 (.inr (.inl (179, 2, some 12)))) (mt_node 889 (mt_leaf 889 (.inl (o_push (.int 1) 1))) (mt_leaf 890 (.inl (o_if2 (fun x y => decide (x < y)) 909))))) (mt_node 893 (mt_leaf 893 (.inl (o_aload 0 1))) (mt_node 894 (mt_leaf 894 (.inl (o_iload 1 1))) (mt_leaf 895 (.inl (o_push (.int 3) 1))))))))
theorem mb_228_9_ok {g : xe_G} : mt_all (mi_ent g mI (mI 228)) (mb_228_9 g) := mt_node_ok (mt_node_ok (mt_node_ok (mt_node_ok (mt_node_ok (mt_leaf_ok (en_s (sm_istore dX12_operands_801 (by decide)))) (mt_node_ok (mt_leaf_ok (en_o (sm_iconst dX12_operands_803 rfl))) (mt_leaf_ok (en_s (sm_istore dX12_operands_804 (by decide)))))) (mt_node_ok (mt_leaf_ok (en_o (sm_iload dX12_operands_806))) (mt_node_ok (mt_leaf_ok (en_o (sm_aload_n dX12_operands_808 rfl))) (mt_leaf_ok (en_o (sm_iload dX12_operands_809)))))) (mt_node_ok (mt_node_ok (mt_leaf_ok ((⟨by decide, bg_972, bg_991, 215, 1, ⟨by decide, by decide, by decide +kernel⟩, bg_994, Or.inr ⟨rfl, bg_995, 12, _, rfl, by decide, rfl, Or.inl ⟨dX12_operands_811, bg_996⟩⟩⟩ : mi_cal _ _ _ (mI 221) _ _))) (mt_node_ok (mt_leaf_ok (en_o (sm_icmp_ge dX12_operands_814 (by decide)))) (mt_leaf_ok (en_o (sm_aload_n dX12_operands_817 rfl))))) (mt_node_ok (mt_leaf_ok (en_o (sm_iload dX12_operands_818))) (mt_node_ok (mt_leaf_ok (en_o (sm_iload dX12_operands_820))) (mt_leaf_ok ((⟨by decide, bg_972, bg_992, 217, 2, ⟨by decide, by decide, by decide +kernel⟩, bg_997, Or.inr ⟨rfl, bg_998, 12, _, rfl, by decide, rfl, Or.inl ⟨dX12_operands_822, bg_999⟩⟩⟩ : mi_cal _ _ _ (mI 176) _ _))))))) (mt_node_ok (mt_node_ok (mt_node_ok (mt_leaf_ok (en_o (sm_bipush dX12_operands_825 rfl))) (mt_node_ok (mt_leaf_ok (en_o (sm_icmp_ne dX12_operands_827 (by decide)))) (mt_leaf_ok (en_s (sm_iinc dX12_operands_830 rfl (by decide)))))) (mt_node_ok (mt_leaf_ok (en_o (sm_goto dX12_operands_833 (by decide)))) (mt_node_ok (mt_leaf_ok (en_o (sm_iload_n dX12_operands_836 rfl))) (mt_leaf_ok (en_o (sm_sipush dX12_operands_837 rfl)))))) (mt_node_ok (mt_node_ok (mt_leaf_ok (en_o (sm_icmp_ne dX12_operands_840 (by decide)))) (mt_node_ok (mt_leaf_ok (en_o (sm_iload dX12_operands_843))) (mt_leaf_ok (en_o (sm_if_ne dX12_operands_845 (by decide)))))) (mt_node_ok (mt_leaf_ok (en_o (sm_iconst dX12_operands_848 rfl))) (mt_node_ok (mt_leaf_ok (en_o (sm_goto dX12_operands_849 (by decide)))) (mt_leaf_ok (en_o (sm_iconst dX12_operands_852 rfl)))))))) (mt_node_ok (mt_node_ok (mt_node_ok (mt_node_ok (mt_leaf_ok (sr_nar mi_cz_ok dX12_operands_853)) (mt_node_ok (mt_leaf_ok (en_o (sm_iload_n dX12_operands_854 rfl))) (mt_leaf_ok (en_o (sm_sipush dX12_operands_855 rfl))))) (mt_node_ok (mt_leaf_ok (en_o (sm_icmp_ne dX12_operands_858 (by decide)))) (mt_node_ok (mt_leaf_ok (en_o (sm_iload dX12_operands_861))) (mt_leaf_ok (en_o (sm_sipush dX12_operands_863 rfl)))))) (mt_node_ok (mt_node_ok (mt_leaf_ok (en_o (sm_icmp_ge dX12_operands_866 (by decide)))) (mt_node_ok (mt_leaf_ok (en_o (sm_iconst dX12_operands_869 rfl))) (mt_leaf_ok (en_o (sm_goto dX12_operands_870 (by decide)))))) (mt_node_ok (mt_leaf_ok (en_o (sm_iconst dX12_operands_873 rfl))) (mt_node_ok (mt_leaf_ok (sr_nar mi_cz_ok dX12_operands_874)) (mt_leaf_ok (en_o (sm_iload_n dX12_operands_875 rfl))))))) (mt_node_ok (mt_node_ok (mt_node_ok (mt_leaf_ok (en_o (sm_sipush dX12_operands_876 rfl))) (mt_node_ok (mt_leaf_ok (en_o (sm_icmp_ne dX12_operands_879 (by decide)))) (mt_leaf_ok (en_o (sm_aload_n dX12_operands_882 rfl))))) (mt_node_ok (mt_leaf_ok (en_o (sm_iload_n dX12_operands_883 rfl))) (mt_node_ok (mt_leaf_ok (en_o (sm_iconst dX12_operands_884 rfl))) (mt_leaf_ok (en_o (sm_iadd dX12_operands_885)))))) (mt_node_ok (mt_node_ok (mt_leaf_ok ((⟨by decide, bg_972, bg_1214, 474, 1, ⟨by decide, by decide, by decide +kernel⟩, bg_1229, Or.inr ⟨rfl, bg_1230, 12, _, rfl, by decide, rfl, Or.inl ⟨dX12_operands_886, bg_1231⟩⟩⟩ : mi_cal _ _ _ (mI 179) _ _))) (mt_node_ok (mt_leaf_ok (en_o (sm_iconst dX12_operands_889 rfl))) (mt_leaf_ok (en_o (sm_icmp_lt dX12_operands_890 (by decide)))))) (mt_node_ok (mt_leaf_ok (en_o (sm_aload_n dX12_operands_893 rfl))) (mt_node_ok (mt_leaf_ok (en_o (sm_iload_n dX12_operands_894 rfl))) (mt_leaf_ok (en_o (sm_iconst dX12_operands_895 rfl))))))))
def mb_228_10 (g : xe_G) : Nat → Option mi_N := mt_node 905 (mt_node 897 (mt_node 896 (mt_leaf 896 (.inl (o_bin (fun x y => x + y) 1))) (mt_leaf 897 (.inr (.inl (179, 2, some 12))))) (mt_node 900 (mt_leaf 900 (.inl (o_iload 5 2))) (mt_node 902 (mt_leaf 902 (.inl (o_if2 (fun x y => decide (y < x)) 909))) (mt_leaf 905 (.inl (o_push (.int 1) 1)))))) (mt_node 909 (mt_node 906 (mt_leaf 906 (.inl (o_goto 910))) (mt_leaf 909 (.inl (o_push (.int 0) 1)))) (mt_node 910 (mt_leaf 910 (.inr (.inr (r_int mi_cz)))) (mt_node 911 (mt_leaf 911 (.inl (o_push (.int 1) 1))) (mt_leaf 912 (.inr (.inr (r_int mi_cz)))))))
theorem mb_228_10_ok {g : xe_G} : mt_all (mi_ent g mI (mI 228)) (mb_228_10 g) := mt_node_ok (mt_node_ok (mt_node_ok (mt_leaf_ok (en_o (sm_iadd dX12_operands_896))) (mt_leaf_ok ((⟨by decide, bg_972, bg_1214, 474, 1, ⟨by decide, by decide, by decide +kernel⟩, bg_1229, Or.inr ⟨rfl, bg_1230, 12, _, rfl, by decide, rfl, Or.inl ⟨dX12_operands_897, bg_1231⟩⟩⟩ : mi_cal _ _ _ (mI 179) _ _)))) (mt_node_ok (mt_leaf_ok (en_o (sm_iload dX12_operands_900))) (mt_node_ok (mt_leaf_ok (en_o (sm_icmp_gt dX12_operands_902 (by decide)))) (mt_leaf_ok (en_o (sm_iconst dX12_operands_905 rfl)))))) (mt_node_ok (mt_node_ok (mt_leaf_ok (en_o (sm_goto dX12_operands_906 (by decide)))) (mt_leaf_ok (en_o (sm_iconst dX12_operands_909 rfl)))) (mt_node_ok (mt_leaf_ok (sr_nar mi_cz_ok dX12_operands_910)) (mt_node_ok (mt_leaf_ok (en_o (sm_iconst dX12_operands_911 rfl))) (mt_leaf_ok (sr_nar mi_cz_ok dX12_operands_912)))))
def mb_228 (g : xe_G) : Nat × mi_B := (6, mt_node 428 (mt_node 172 (mt_node 92 (mb_228_0 g) (mb_228_1 g)) (mt_node 251 (mb_228_2 g) (mt_node 339 (mb_228_3 g) (mb_228_4 g)))) (mt_node 710 (mt_node 529 (mb_228_5 g) (mt_node 626 (mb_228_6 g) (mb_228_7 g))) (mt_node 798 (mb_228_8 g) (mt_node 895 (mb_228_9 g) (mb_228_10 g)))), mk_node 418 (mk_node 168 (mk_node 82 (mk_node 56 (mk_node 21 (mk_leaf 21 [0, 1, 2]) (mk_node 52 (mk_leaf 52 []) (mk_leaf 56 []))) (mk_node 57 (mk_leaf 57 []) (mk_node 70 (mk_leaf 70 [0, 1, 2]) (mk_leaf 82 [0, 1, 2])))) (mk_node 123 (mk_node 99 (mk_leaf 99 [0, 1]) (mk_node 118 (mk_leaf 118 []) (mk_leaf 123 []))) (mk_node 139 (mk_node 127 (mk_leaf 127 [0, 1, 2]) (mk_leaf 139 [0, 1, 2])) (mk_node 151 (mk_leaf 151 [0, 2]) (mk_leaf 168 [0]))))) (mk_node 284 (mk_node 196 (mk_node 187 (mk_leaf 187 []) (mk_node 192 (mk_leaf 192 []) (mk_leaf 196 [0, 1, 2]))) (mk_node 247 (mk_leaf 247 [0, 1, 3]) (mk_node 279 (mk_leaf 279 []) (mk_leaf 284 [])))) (mk_node 330 (mk_node 294 (mk_leaf 294 []) (mk_node 295 (mk_leaf 295 []) (mk_leaf 330 []))) (mk_node 367 (mk_node 331 (mk_leaf 331 []) (mk_leaf 367 [0, 2])) (mk_node 414 (mk_leaf 414 []) (mk_leaf 418 [])))))) (mk_node 648 (mk_node 511 (mk_node 469 (mk_node 419 (mk_leaf 419 []) (mk_node 455 (mk_leaf 455 [0, 3, 4]) (mk_leaf 469 [0, 3, 4]))) (mk_node 478 (mk_leaf 478 [0, 3, 4]) (mk_node 507 (mk_leaf 507 []) (mk_leaf 511 [])))) (mk_node 548 (mk_node 512 (mk_leaf 512 []) (mk_node 513 (mk_leaf 513 [0, 1, 2]) (mk_leaf 548 []))) (mk_node 625 (mk_node 549 (mk_leaf 549 [0, 1, 2]) (mk_leaf 625 [])) (mk_node 627 (mk_leaf 627 [0, 1, 2, 3]) (mk_leaf 648 [0, 1, 2, 3]))))) (mk_node 776 (mk_node 691 (mk_node 686 (mk_leaf 686 []) (mk_node 690 (mk_leaf 690 []) (mk_leaf 691 []))) (mk_node 739 (mk_node 692 (mk_leaf 692 [0, 1, 2]) (mk_leaf 739 [])) (mk_node 740 (mk_leaf 740 []) (mk_leaf 776 [0, 1, 2])))) (mk_node 853 (mk_node 806 (mk_leaf 806 [0, 1, 2, 4, 5]) (mk_node 836 (mk_leaf 836 [0, 1, 2, 5]) (mk_leaf 853 []))) (mk_node 905 (mk_node 874 (mk_leaf 874 []) (mk_leaf 905 [])) (mk_node 909 (mk_leaf 909 []) (mk_leaf 910 [])))))))
theorem mb_228_ok {g : xe_G} : mi_meth g mI (mI 228) (mb_228 g) := ⟨rfl, by decide, mt_node_ok (mt_node_ok (mt_node_ok (mb_228_0_ok) (mb_228_1_ok)) (mt_node_ok (mb_228_2_ok) (mt_node_ok (mb_228_3_ok) (mb_228_4_ok)))) (mt_node_ok (mt_node_ok (mb_228_5_ok) (mt_node_ok (mb_228_6_ok) (mb_228_7_ok))) (mt_node_ok (mb_228_8_ok) (mt_node_ok (mb_228_9_ok) (mb_228_10_ok))))⟩
theorem dX12_pad_0 : decode cX12_pad 0 = .ok (.iload_n 0, 1) := by decide +kernel
theorem dX12_pad_1 : decode cX12_pad 1 = .ok (.iconst 4, 1) := by decide +kernel
theorem dX12_pad_2 : decode cX12_pad 2 = .ok (.iadd, 1) := by decide +kernel
theorem dX12_pad_3 : decode cX12_pad 3 = .ok (.bipush (-4), 2) := by decide +kernel
theorem dX12_pad_5 : decode cX12_pad 5 = .ok (.iand, 1) := by decide +kernel
theorem dX12_pad_6 : decode cX12_pad 6 = .ok (.ireturn, 1) := by decide +kernel
def mb_229_0 (g : xe_G) : Nat → Option mi_N := mt_node 2 (mt_node 0 (mt_leaf 0 (.inl (o_iload 0 1))) (mt_node 1 (mt_leaf 1 (.inl (o_push (.int 4) 1))) (mt_leaf 2 (.inl (o_bin (fun x y => x + y) 1))))) (mt_node 3 (mt_leaf 3 (.inl (o_push (.int (-4)) 2))) (mt_node 5 (mt_leaf 5 (.inl (o_bin (fun x y => x &&& y) 1))) (mt_leaf 6 (.inr (.inr (r_int (fun _ => true)))))))
theorem mb_229_0_ok {g : xe_G} : mt_all (mi_ent g mI (mI 229)) (mb_229_0 g) := mt_node_ok (mt_node_ok (mt_leaf_ok (en_o (sm_iload_n dX12_pad_0 rfl))) (mt_node_ok (mt_leaf_ok (en_o (sm_iconst dX12_pad_1 rfl))) (mt_leaf_ok (en_o (sm_iadd dX12_pad_2))))) (mt_node_ok (mt_leaf_ok (en_o (sm_bipush dX12_pad_3 rfl))) (mt_node_ok (mt_leaf_ok (en_o (sm_iand dX12_pad_5))) (mt_leaf_ok (sr_int dX12_pad_6))))
def mb_229 (g : xe_G) : Nat × mi_B := (1, mb_229_0 g, fun _ => none)
theorem mb_229_ok {g : xe_G} : mi_meth g mI (mI 229) (mb_229 g) := ⟨rfl, by decide, mb_229_0_ok⟩
theorem dX12_parse_0 : decode cX12_parse 0 = .ok (.aload_n 0, 1) := by decide +kernel
theorem dX12_parse_1 : decode cX12_parse 1 = .ok (.invokevirtual 169, 3) := by decide +kernel
theorem dX12_parse_4 : decode cX12_parse 4 = .ok (.aload_n 0, 1) := by decide +kernel
theorem dX12_parse_5 : decode cX12_parse 5 = .ok (.iload_n 2, 1) := by decide +kernel
theorem dX12_parse_6 : decode cX12_parse 6 = .ok (.putfield 239, 3) := by decide +kernel
theorem dX12_parse_9 : decode cX12_parse 9 = .ok (.iconst 0, 1) := by decide +kernel
theorem dX12_parse_10 : decode cX12_parse 10 = .ok (.istore_n 3, 1) := by decide +kernel
theorem dX12_parse_11 : decode cX12_parse 11 = .ok (.iload_n 3, 1) := by decide +kernel
theorem dX12_parse_12 : decode cX12_parse 12 = .ok (.iload_n 2, 1) := by decide +kernel
theorem dX12_parse_13 : decode cX12_parse 13 = .ok (.if_icmp .ge 18, 3) := by decide +kernel
theorem dX12_parse_16 : decode cX12_parse 16 = .ok (.aload_n 0, 1) := by decide +kernel
theorem dX12_parse_17 : decode cX12_parse 17 = .ok (.getfield 35, 3) := by decide +kernel
theorem dX12_parse_20 : decode cX12_parse 20 = .ok (.iload_n 3, 1) := by decide +kernel
theorem dX12_parse_21 : decode cX12_parse 21 = .ok (.aload_n 1, 1) := by decide +kernel
theorem dX12_parse_22 : decode cX12_parse 22 = .ok (.iload_n 3, 1) := by decide +kernel
theorem dX12_parse_23 : decode cX12_parse 23 = .ok (.baload, 1) := by decide +kernel
theorem dX12_parse_24 : decode cX12_parse 24 = .ok (.bastore, 1) := by decide +kernel
theorem dX12_parse_25 : decode cX12_parse 25 = .ok (.iinc 3 1, 3) := by decide +kernel
theorem dX12_parse_28 : decode cX12_parse 28 = .ok (.goto (-17), 3) := by decide +kernel
theorem dX12_parse_31 : decode cX12_parse 31 = .ok (.aload_n 0, 1) := by decide +kernel
theorem dX12_parse_32 : decode cX12_parse 32 = .ok (.invokevirtual 450, 3) := by decide +kernel
theorem dX12_parse_35 : decode cX12_parse 35 = .ok (.ireturn, 1) := by decide +kernel
def mb_230_0 (g : xe_G) : Nat → Option mi_N := mt_node 16 (mt_node 6 (mt_node 1 (mt_node 0 (mt_leaf 0 (.inl (o_aload 0 1))) (mt_leaf 1 (.inr (.inl (195, 1, some 12))))) (mt_node 4 (mt_leaf 4 (.inl (o_aload 0 1))) (mt_node 5 (mt_leaf 5 (.inl (o_iload 2 1))) (mt_leaf 6 (.inl (o_put 12 16 (tyX12 16))))))) (mt_node 11 (mt_node 9 (mt_leaf 9 (.inl (o_push (.int 0) 1))) (mt_node 10 (mt_leaf 10 (.inl (o_isto 3 1))) (mt_leaf 11 (.inl (o_iload 3 1))))) (mt_node 12 (mt_leaf 12 (.inl (o_iload 2 1))) (mt_node 13 (mt_leaf 13 (.inl (o_if2 (fun x y => decide (y ≤ x)) 31))) (mt_leaf 16 (.inl (o_aload 0 1))))))) (mt_node 23 (mt_node 20 (mt_node 17 (mt_leaf 17 (.inl (o_get 12 12))) (mt_leaf 20 (.inl (o_iload 3 1)))) (mt_node 21 (mt_leaf 21 (.inl (o_aload 1 1))) (mt_node 22 (mt_leaf 22 (.inl (o_iload 3 1))) (mt_leaf 23 (.inl (o_ald .byte)))))) (mt_node 28 (mt_node 24 (mt_leaf 24 (.inl (o_ast .byte (vp_nar .byte)))) (mt_node 25 (mt_leaf 25 (.inl (o_iinc 3 1))) (mt_leaf 28 (.inl (o_goto 11))))) (mt_node 31 (mt_leaf 31 (.inl (o_aload 0 1))) (mt_node 32 (mt_leaf 32 (.inr (.inl (190, 1, some 12)))) (mt_leaf 35 (.inr (.inr (r_int mi_cz))))))))
theorem mb_230_0_ok {g : xe_G} : mt_all (mi_ent g mI (mI 230)) (mb_230_0 g) := mt_node_ok (mt_node_ok (mt_node_ok (mt_node_ok (mt_leaf_ok (en_o (sm_aload_n dX12_parse_0 rfl))) (mt_leaf_ok ((⟨by decide, bg_972, bg_969, 169, 0, ⟨by decide, by decide, by decide +kernel⟩, bg_968, Or.inr ⟨rfl, bg_970, 12, _, rfl, by decide, rfl, Or.inl ⟨dX12_parse_1, bg_971⟩⟩⟩ : mi_cal _ _ _ (mI 195) _ _)))) (mt_node_ok (mt_leaf_ok (en_o (sm_aload_n dX12_parse_4 rfl))) (mt_node_ok (mt_leaf_ok (en_o (sm_iload_n dX12_parse_5 rfl))) (mt_leaf_ok (en_s (sm_put (T := TX12) (by decide) rfl bi_X12 tyX12_ok nmX12 (by decide) rfl (tyX12_ok 16 (by decide)) bg_1015 dX12_parse_6)))))) (mt_node_ok (mt_node_ok (mt_leaf_ok (en_o (sm_iconst dX12_parse_9 rfl))) (mt_node_ok (mt_leaf_ok (en_s (sm_istore_n dX12_parse_10 rfl (by decide)))) (mt_leaf_ok (en_o (sm_iload_n dX12_parse_11 rfl))))) (mt_node_ok (mt_leaf_ok (en_o (sm_iload_n dX12_parse_12 rfl))) (mt_node_ok (mt_leaf_ok (en_o (sm_icmp_ge dX12_parse_13 (by decide)))) (mt_leaf_ok (en_o (sm_aload_n dX12_parse_16 rfl))))))) (mt_node_ok (mt_node_ok (mt_node_ok (mt_leaf_ok (en_o (sm_get (T := TX12) (by decide) rfl bi_X12 (by decide) bg_929 dX12_parse_17))) (mt_leaf_ok (en_o (sm_iload_n dX12_parse_20 rfl)))) (mt_node_ok (mt_leaf_ok (en_o (sm_aload_n dX12_parse_21 rfl))) (mt_node_ok (mt_leaf_ok (en_o (sm_iload_n dX12_parse_22 rfl))) (mt_leaf_ok (en_o (sm_bald dX12_parse_23)))))) (mt_node_ok (mt_node_ok (mt_leaf_ok (en_s (sm_bast dX12_parse_24))) (mt_node_ok (mt_leaf_ok (en_s (sm_iinc dX12_parse_25 rfl (by decide)))) (mt_leaf_ok (en_o (sm_goto dX12_parse_28 (by decide)))))) (mt_node_ok (mt_leaf_ok (en_o (sm_aload_n dX12_parse_31 rfl))) (mt_node_ok (mt_leaf_ok ((⟨by decide, bg_972, bg_1163, 450, 0, ⟨by decide, by decide, by decide +kernel⟩, bg_1197, Or.inr ⟨rfl, bg_1198, 12, _, rfl, by decide, rfl, Or.inl ⟨dX12_parse_32, bg_1199⟩⟩⟩ : mi_cal _ _ _ (mI 190) _ _))) (mt_leaf_ok (sr_nar mi_cz_ok dX12_parse_35))))))
def mb_230 (g : xe_G) : Nat × mi_B := (4, mb_230_0 g, mk_leaf 11 [0, 1, 2, 3])
theorem mb_230_ok {g : xe_G} : mi_meth g mI (mI 230) (mb_230 g) := ⟨rfl, by decide, mb_230_0_ok⟩
theorem dX12_place_0 : decode cX12_place 0 = .ok (.aload_n 0, 1) := by decide +kernel
theorem dX12_place_1 : decode cX12_place 1 = .ok (.iconst 0, 1) := by decide +kernel
theorem dX12_place_2 : decode cX12_place 2 = .ok (.putfield 1, 3) := by decide +kernel
theorem dX12_place_5 : decode cX12_place 5 = .ok (.aload_n 0, 1) := by decide +kernel
theorem dX12_place_6 : decode cX12_place 6 = .ok (.getfield 157, 3) := by decide +kernel
theorem dX12_place_9 : decode cX12_place 9 = .ok (.ireturn, 1) := by decide +kernel
def mb_231_0 (g : xe_G) : Nat → Option mi_N := mt_node 2 (mt_node 0 (mt_leaf 0 (.inl (o_aload 0 1))) (mt_node 1 (mt_leaf 1 (.inl (o_push (.int 0) 1))) (mt_leaf 2 (.inl (o_put 12 0 (tyX12 0)))))) (mt_node 5 (mt_leaf 5 (.inl (o_aload 0 1))) (mt_node 6 (mt_leaf 6 (.inl (o_get 12 73))) (mt_leaf 9 (.inr (.inr (r_int (fun _ => true)))))))
theorem mb_231_0_ok {g : xe_G} : mt_all (mi_ent g mI (mI 231)) (mb_231_0 g) := mt_node_ok (mt_node_ok (mt_leaf_ok (en_o (sm_aload_n dX12_place_0 rfl))) (mt_node_ok (mt_leaf_ok (en_o (sm_iconst dX12_place_1 rfl))) (mt_leaf_ok (en_s (sm_put (T := TX12) (by decide) rfl bi_X12 tyX12_ok nmX12 (by decide) rfl (tyX12_ok 0 (by decide)) bg_1180 dX12_place_2))))) (mt_node_ok (mt_leaf_ok (en_o (sm_aload_n dX12_place_5 rfl))) (mt_node_ok (mt_leaf_ok (en_o (sm_get (T := TX12) (by decide) rfl bi_X12 (by decide) bg_964 dX12_place_6))) (mt_leaf_ok (sr_int dX12_place_9))))
def mb_231 (g : xe_G) : Nat × mi_B := (1, mb_231_0 g, fun _ => none)
theorem mb_231_ok {g : xe_G} : mi_meth g mI (mI 231) (mb_231 g) := ⟨rfl, by decide, mb_231_0_ok⟩
theorem dX12_places_0 : decode cX12_places 0 = .ok (.aload_n 0, 1) := by decide +kernel
theorem dX12_places_1 : decode cX12_places 1 = .ok (.iconst 0, 1) := by decide +kernel
theorem dX12_places_2 : decode cX12_places 2 = .ok (.putfield 1, 3) := by decide +kernel
theorem dX12_places_5 : decode cX12_places 5 = .ok (.aload_n 0, 1) := by decide +kernel
theorem dX12_places_6 : decode cX12_places 6 = .ok (.getfield 49, 3) := by decide +kernel
theorem dX12_places_9 : decode cX12_places 9 = .ok (.ifCond .lt 12, 3) := by decide +kernel
theorem dX12_places_12 : decode cX12_places 12 = .ok (.aload_n 0, 1) := by decide +kernel
theorem dX12_places_13 : decode cX12_places 13 = .ok (.iload_n 1, 1) := by decide +kernel
theorem dX12_places_14 : decode cX12_places 14 = .ok (.invokevirtual 338, 3) := by decide +kernel
theorem dX12_places_17 : decode cX12_places 17 = .ok (.iconst 1, 1) := by decide +kernel
theorem dX12_places_18 : decode cX12_places 18 = .ok (.if_icmp .eq 5, 3) := by decide +kernel
theorem dX12_places_21 : decode cX12_places 21 = .ok (.iconst (-1), 1) := by decide +kernel
theorem dX12_places_22 : decode cX12_places 22 = .ok (.ireturn, 1) := by decide +kernel
theorem dX12_places_23 : decode cX12_places 23 = .ok (.aload_n 0, 1) := by decide +kernel
theorem dX12_places_24 : decode cX12_places 24 = .ok (.iload_n 1, 1) := by decide +kernel
theorem dX12_places_25 : decode cX12_places 25 = .ok (.invokevirtual 312, 3) := by decide +kernel
theorem dX12_places_28 : decode cX12_places 28 = .ok (.istore_n 2, 1) := by decide +kernel
theorem dX12_places_29 : decode cX12_places 29 = .ok (.aload_n 0, 1) := by decide +kernel
theorem dX12_places_30 : decode cX12_places 30 = .ok (.iload_n 2, 1) := by decide +kernel
theorem dX12_places_31 : decode cX12_places 31 = .ok (.invokevirtual 323, 3) := by decide +kernel
theorem dX12_places_34 : decode cX12_places 34 = .ok (.ifCond .eq 18, 3) := by decide +kernel
theorem dX12_places_37 : decode cX12_places 37 = .ok (.aload_n 0, 1) := by decide +kernel
theorem dX12_places_38 : decode cX12_places 38 = .ok (.iload_n 2, 1) := by decide +kernel
theorem dX12_places_39 : decode cX12_places 39 = .ok (.iconst 0, 1) := by decide +kernel
theorem dX12_places_40 : decode cX12_places 40 = .ok (.invokevirtual 453, 3) := by decide +kernel
theorem dX12_places_43 : decode cX12_places 43 = .ok (.ifCond .eq 7, 3) := by decide +kernel
theorem dX12_places_46 : decode cX12_places 46 = .ok (.iconst 2, 1) := by decide +kernel
theorem dX12_places_47 : decode cX12_places 47 = .ok (.goto 4, 3) := by decide +kernel
theorem dX12_places_50 : decode cX12_places 50 = .ok (.iconst 1, 1) := by decide +kernel
theorem dX12_places_51 : decode cX12_places 51 = .ok (.ireturn, 1) := by decide +kernel
theorem dX12_places_52 : decode cX12_places 52 = .ok (.aload_n 0, 1) := by decide +kernel
theorem dX12_places_53 : decode cX12_places 53 = .ok (.iload_n 2, 1) := by decide +kernel
theorem dX12_places_54 : decode cX12_places 54 = .ok (.invokevirtual 326, 3) := by decide +kernel
theorem dX12_places_57 : decode cX12_places 57 = .ok (.ifCond .ne 5, 3) := by decide +kernel
theorem dX12_places_60 : decode cX12_places 60 = .ok (.iconst (-1), 1) := by decide +kernel
theorem dX12_places_61 : decode cX12_places 61 = .ok (.ireturn, 1) := by decide +kernel
theorem dX12_places_62 : decode cX12_places 62 = .ok (.aload_n 0, 1) := by decide +kernel
theorem dX12_places_63 : decode cX12_places 63 = .ok (.iload_n 2, 1) := by decide +kernel
theorem dX12_places_64 : decode cX12_places 64 = .ok (.invokevirtual 215, 3) := by decide +kernel
theorem dX12_places_67 : decode cX12_places 67 = .ok (.iconst 1, 1) := by decide +kernel
theorem dX12_places_68 : decode cX12_places 68 = .ok (.isub, 1) := by decide +kernel
theorem dX12_places_69 : decode cX12_places 69 = .ok (.istore_n 3, 1) := by decide +kernel
theorem dX12_places_70 : decode cX12_places 70 = .ok (.iconst 1, 1) := by decide +kernel
theorem dX12_places_71 : decode cX12_places 71 = .ok (.istore 4, 2) := by decide +kernel
theorem dX12_places_73 : decode cX12_places 73 = .ok (.aload_n 0, 1) := by decide +kernel
theorem dX12_places_74 : decode cX12_places 74 = .ok (.iload_n 2, 1) := by decide +kernel
theorem dX12_places_75 : decode cX12_places 75 = .ok (.iload 4, 2) := by decide +kernel
theorem dX12_places_77 : decode cX12_places 77 = .ok (.invokevirtual 217, 3) := by decide +kernel
theorem dX12_places_80 : decode cX12_places 80 = .ok (.bipush 41, 2) := by decide +kernel
theorem dX12_places_82 : decode cX12_places 82 = .ok (.if_icmp .eq 15, 3) := by decide +kernel
theorem dX12_places_85 : decode cX12_places 85 = .ok (.aload_n 0, 1) := by decide +kernel
theorem dX12_places_86 : decode cX12_places 86 = .ok (.iload_n 2, 1) := by decide +kernel
theorem dX12_places_87 : decode cX12_places 87 = .ok (.iload 4, 2) := by decide +kernel
theorem dX12_places_89 : decode cX12_places 89 = .ok (.invokevirtual 295, 3) := by decide +kernel
theorem dX12_places_92 : decode cX12_places 92 = .ok (.istore 4, 2) := by decide +kernel
theorem dX12_places_94 : decode cX12_places 94 = .ok (.goto (-21), 3) := by decide +kernel
theorem dX12_places_97 : decode cX12_places 97 = .ok (.aload_n 0, 1) := by decide +kernel
theorem dX12_places_98 : decode cX12_places 98 = .ok (.iload_n 2, 1) := by decide +kernel
theorem dX12_places_99 : decode cX12_places 99 = .ok (.invokevirtual 302, 3) := by decide +kernel
theorem dX12_places_102 : decode cX12_places 102 = .ok (.sipush 1024, 3) := by decide +kernel
theorem dX12_places_105 : decode cX12_places 105 = .ok (.aload_n 0, 1) := by decide +kernel
theorem dX12_places_106 : decode cX12_places 106 = .ok (.iload_n 2, 1) := by decide +kernel
theorem dX12_places_107 : decode cX12_places 107 = .ok (.iload_n 3, 1) := by decide +kernel
theorem dX12_places_108 : decode cX12_places 108 = .ok (.invokevirtual 217, 3) := by decide +kernel
theorem dX12_places_111 : decode cX12_places 111 = .ok (.bipush 86, 2) := by decide +kernel
theorem dX12_places_113 : decode cX12_places 113 = .ok (.if_icmp .ne 15, 3) := by decide +kernel
theorem dX12_places_116 : decode cX12_places 116 = .ok (.iload_n 3, 1) := by decide +kernel
theorem dX12_places_117 : decode cX12_places 117 = .ok (.iload 4, 2) := by decide +kernel
theorem dX12_places_119 : decode cX12_places 119 = .ok (.iconst 1, 1) := by decide +kernel
theorem dX12_places_120 : decode cX12_places 120 = .ok (.iadd, 1) := by decide +kernel
theorem dX12_places_121 : decode cX12_places 121 = .ok (.if_icmp .ne 7, 3) := by decide +kernel
theorem dX12_places_124 : decode cX12_places 124 = .ok (.iconst 0, 1) := by decide +kernel
theorem dX12_places_125 : decode cX12_places 125 = .ok (.goto 20, 3) := by decide +kernel
theorem dX12_places_128 : decode cX12_places 128 = .ok (.aload_n 0, 1) := by decide +kernel
theorem dX12_places_129 : decode cX12_places 129 = .ok (.iload_n 2, 1) := by decide +kernel
theorem dX12_places_130 : decode cX12_places 130 = .ok (.iload 4, 2) := by decide +kernel
theorem dX12_places_132 : decode cX12_places 132 = .ok (.iconst 1, 1) := by decide +kernel
theorem dX12_places_133 : decode cX12_places 133 = .ok (.iadd, 1) := by decide +kernel
theorem dX12_places_134 : decode cX12_places 134 = .ok (.invokevirtual 453, 3) := by decide +kernel
theorem dX12_places_137 : decode cX12_places 137 = .ok (.ifCond .eq 7, 3) := by decide +kernel
theorem dX12_places_140 : decode cX12_places 140 = .ok (.iconst 2, 1) := by decide +kernel
theorem dX12_places_141 : decode cX12_places 141 = .ok (.goto 4, 3) := by decide +kernel
theorem dX12_places_144 : decode cX12_places 144 = .ok (.iconst 1, 1) := by decide +kernel
theorem dX12_places_145 : decode cX12_places 145 = .ok (.imul, 1) := by decide +kernel
theorem dX12_places_146 : decode cX12_places 146 = .ok (.iadd, 1) := by decide +kernel
theorem dX12_places_147 : decode cX12_places 147 = .ok (.ireturn, 1) := by decide +kernel
def mb_232_0 (g : xe_G) : Nat → Option mi_N := mt_node 39 (mt_node 21 (mt_node 9 (mt_node 2 (mt_node 0 (mt_leaf 0 (.inl (o_aload 0 1))) (mt_node 1 (mt_leaf 1 (.inl (o_push (.int 0) 1))) (mt_leaf 2 (.inl (o_put 12 0 (tyX12 0)))))) (mt_node 5 (mt_leaf 5 (.inl (o_aload 0 1))) (mt_node 6 (mt_leaf 6 (.inl (o_get 12 18))) (mt_leaf 9 (.inl (o_if (fun x => decide (x < 0)) 21)))))) (mt_node 14 (mt_node 12 (mt_leaf 12 (.inl (o_aload 0 1))) (mt_node 13 (mt_leaf 13 (.inl (o_iload 1 1))) (mt_leaf 14 (.inr (.inl (247, 2, some 12)))))) (mt_node 17 (mt_leaf 17 (.inl (o_push (.int 1) 1))) (mt_node 18 (mt_leaf 18 (.inl (o_if2 (fun x y => decide (x = y)) 23))) (mt_leaf 21 (.inl (o_push (.int (-1)) 1))))))) (mt_node 29 (mt_node 24 (mt_node 22 (mt_leaf 22 (.inr (.inr (r_int (fun _ => true))))) (mt_node 23 (mt_leaf 23 (.inl (o_aload 0 1))) (mt_leaf 24 (.inl (o_iload 1 1))))) (mt_node 25 (mt_leaf 25 (.inr (.inl (244, 2, some 12)))) (mt_node 28 (mt_leaf 28 (.inl (o_isto 2 1))) (mt_leaf 29 (.inl (o_aload 0 1)))))) (mt_node 34 (mt_node 30 (mt_leaf 30 (.inl (o_iload 2 1))) (mt_node 31 (mt_leaf 31 (.inr (.inl (217, 2, some 12)))) (mt_leaf 34 (.inl (o_if (fun x => decide (x = 0)) 52))))) (mt_node 37 (mt_leaf 37 (.inl (o_aload 0 1))) (mt_node 38 (mt_leaf 38 (.inl (o_iload 2 1))) (mt_leaf 39 (.inl (o_push (.int 0) 1)))))))) (mt_node 61 (mt_node 51 (mt_node 46 (mt_node 40 (mt_leaf 40 (.inr (.inl (255, 3, some 12)))) (mt_node 43 (mt_leaf 43 (.inl (o_if (fun x => decide (x = 0)) 50))) (mt_leaf 46 (.inl (o_push (.int 2) 1))))) (mt_node 47 (mt_leaf 47 (.inl (o_goto 51))) (mt_node 50 (mt_leaf 50 (.inl (o_push (.int 1) 1))) (mt_leaf 51 (.inr (.inr (r_int (fun _ => true)))))))) (mt_node 54 (mt_node 52 (mt_leaf 52 (.inl (o_aload 0 1))) (mt_node 53 (mt_leaf 53 (.inl (o_iload 2 1))) (mt_leaf 54 (.inr (.inl (218, 2, some 12)))))) (mt_node 57 (mt_leaf 57 (.inl (o_if (fun x => decide (¬ x = 0)) 62))) (mt_node 60 (mt_leaf 60 (.inl (o_push (.int (-1)) 1))) (mt_leaf 61 (.inr (.inr (r_int (fun _ => true))))))))) (mt_node 69 (mt_node 64 (mt_node 62 (mt_leaf 62 (.inl (o_aload 0 1))) (mt_node 63 (mt_leaf 63 (.inl (o_iload 2 1))) (mt_leaf 64 (.inr (.inl (221, 2, some 12)))))) (mt_node 67 (mt_leaf 67 (.inl (o_push (.int 1) 1))) (mt_node 68 (mt_leaf 68 (.inl (o_bin (fun x y => x - y) 1))) (mt_leaf 69 (.inl (o_isto 3 1)))))) (mt_node 73 (mt_node 70 (mt_leaf 70 (.inl (o_push (.int 1) 1))) (mt_node 71 (mt_leaf 71 (.inl (o_isto 4 2))) (mt_leaf 73 (.inl (o_aload 0 1))))) (mt_node 74 (mt_leaf 74 (.inl (o_iload 2 1))) (mt_node 75 (mt_leaf 75 (.inl (o_iload 4 2))) (mt_leaf 77 (.inr (.inl (176, 3, some 12)))))))))
theorem mb_232_0_ok {g : xe_G} : mt_all (mi_ent g mI (mI 232)) (mb_232_0 g) := mt_node_ok (mt_node_ok (mt_node_ok (mt_node_ok (mt_node_ok (mt_leaf_ok (en_o (sm_aload_n dX12_places_0 rfl))) (mt_node_ok (mt_leaf_ok (en_o (sm_iconst dX12_places_1 rfl))) (mt_leaf_ok (en_s (sm_put (T := TX12) (by decide) rfl bi_X12 tyX12_ok nmX12 (by decide) rfl (tyX12_ok 0 (by decide)) bg_1180 dX12_places_2))))) (mt_node_ok (mt_leaf_ok (en_o (sm_aload_n dX12_places_5 rfl))) (mt_node_ok (mt_leaf_ok (en_o (sm_get (T := TX12) (by decide) rfl bi_X12 (by decide) bg_934 dX12_places_6))) (mt_leaf_ok (en_o (sm_if_lt dX12_places_9 (by decide))))))) (mt_node_ok (mt_node_ok (mt_leaf_ok (en_o (sm_aload_n dX12_places_12 rfl))) (mt_node_ok (mt_leaf_ok (en_o (sm_iload_n dX12_places_13 rfl))) (mt_leaf_ok ((⟨by decide, bg_972, bg_1019, 338, 1, ⟨by decide, by decide, by decide +kernel⟩, bg_1106, Or.inr ⟨rfl, bg_1107, 12, _, rfl, by decide, rfl, Or.inl ⟨dX12_places_14, bg_1108⟩⟩⟩ : mi_cal _ _ _ (mI 247) _ _))))) (mt_node_ok (mt_leaf_ok (en_o (sm_iconst dX12_places_17 rfl))) (mt_node_ok (mt_leaf_ok (en_o (sm_icmp_eq dX12_places_18 (by decide)))) (mt_leaf_ok (en_o (sm_iconst dX12_places_21 rfl))))))) (mt_node_ok (mt_node_ok (mt_node_ok (mt_leaf_ok (sr_int dX12_places_22)) (mt_node_ok (mt_leaf_ok (en_o (sm_aload_n dX12_places_23 rfl))) (mt_leaf_ok (en_o (sm_iload_n dX12_places_24 rfl))))) (mt_node_ok (mt_leaf_ok ((⟨by decide, bg_972, bg_1023, 312, 1, ⟨by decide, by decide, by decide +kernel⟩, bg_1080, Or.inr ⟨rfl, bg_1081, 12, _, rfl, by decide, rfl, Or.inl ⟨dX12_places_25, bg_1082⟩⟩⟩ : mi_cal _ _ _ (mI 244) _ _))) (mt_node_ok (mt_leaf_ok (en_s (sm_istore_n dX12_places_28 rfl (by decide)))) (mt_leaf_ok (en_o (sm_aload_n dX12_places_29 rfl)))))) (mt_node_ok (mt_node_ok (mt_leaf_ok (en_o (sm_iload_n dX12_places_30 rfl))) (mt_node_ok (mt_leaf_ok ((⟨by decide, bg_972, bg_1065, 323, 1, ⟨by decide, by decide, by decide +kernel⟩, bg_1089, Or.inr ⟨rfl, bg_1090, 12, _, rfl, by decide, rfl, Or.inl ⟨dX12_places_31, bg_1091⟩⟩⟩ : mi_cal _ _ _ (mI 217) _ _))) (mt_leaf_ok (en_o (sm_if_eq dX12_places_34 (by decide)))))) (mt_node_ok (mt_leaf_ok (en_o (sm_aload_n dX12_places_37 rfl))) (mt_node_ok (mt_leaf_ok (en_o (sm_iload_n dX12_places_38 rfl))) (mt_leaf_ok (en_o (sm_iconst dX12_places_39 rfl)))))))) (mt_node_ok (mt_node_ok (mt_node_ok (mt_node_ok (mt_leaf_ok ((⟨by decide, bg_972, bg_1211, 453, 2, ⟨by decide, by decide, by decide +kernel⟩, bg_1210, Or.inr ⟨rfl, bg_1212, 12, _, rfl, by decide, rfl, Or.inl ⟨dX12_places_40, bg_1213⟩⟩⟩ : mi_cal _ _ _ (mI 255) _ _))) (mt_node_ok (mt_leaf_ok (en_o (sm_if_eq dX12_places_43 (by decide)))) (mt_leaf_ok (en_o (sm_iconst dX12_places_46 rfl))))) (mt_node_ok (mt_leaf_ok (en_o (sm_goto dX12_places_47 (by decide)))) (mt_node_ok (mt_leaf_ok (en_o (sm_iconst dX12_places_50 rfl))) (mt_leaf_ok (sr_int dX12_places_51))))) (mt_node_ok (mt_node_ok (mt_leaf_ok (en_o (sm_aload_n dX12_places_52 rfl))) (mt_node_ok (mt_leaf_ok (en_o (sm_iload_n dX12_places_53 rfl))) (mt_leaf_ok ((⟨by decide, bg_972, bg_1066, 326, 1, ⟨by decide, by decide, by decide +kernel⟩, bg_1092, Or.inr ⟨rfl, bg_1093, 12, _, rfl, by decide, rfl, Or.inl ⟨dX12_places_54, bg_1094⟩⟩⟩ : mi_cal _ _ _ (mI 218) _ _))))) (mt_node_ok (mt_leaf_ok (en_o (sm_if_ne dX12_places_57 (by decide)))) (mt_node_ok (mt_leaf_ok (en_o (sm_iconst dX12_places_60 rfl))) (mt_leaf_ok (sr_int dX12_places_61)))))) (mt_node_ok (mt_node_ok (mt_node_ok (mt_leaf_ok (en_o (sm_aload_n dX12_places_62 rfl))) (mt_node_ok (mt_leaf_ok (en_o (sm_iload_n dX12_places_63 rfl))) (mt_leaf_ok ((⟨by decide, bg_972, bg_991, 215, 1, ⟨by decide, by decide, by decide +kernel⟩, bg_994, Or.inr ⟨rfl, bg_995, 12, _, rfl, by decide, rfl, Or.inl ⟨dX12_places_64, bg_996⟩⟩⟩ : mi_cal _ _ _ (mI 221) _ _))))) (mt_node_ok (mt_leaf_ok (en_o (sm_iconst dX12_places_67 rfl))) (mt_node_ok (mt_leaf_ok (en_o (sm_isub dX12_places_68))) (mt_leaf_ok (en_s (sm_istore_n dX12_places_69 rfl (by decide))))))) (mt_node_ok (mt_node_ok (mt_leaf_ok (en_o (sm_iconst dX12_places_70 rfl))) (mt_node_ok (mt_leaf_ok (en_s (sm_istore dX12_places_71 (by decide)))) (mt_leaf_ok (en_o (sm_aload_n dX12_places_73 rfl))))) (mt_node_ok (mt_leaf_ok (en_o (sm_iload_n dX12_places_74 rfl))) (mt_node_ok (mt_leaf_ok (en_o (sm_iload dX12_places_75))) (mt_leaf_ok ((⟨by decide, bg_972, bg_992, 217, 2, ⟨by decide, by decide, by decide +kernel⟩, bg_997, Or.inr ⟨rfl, bg_998, 12, _, rfl, by decide, rfl, Or.inl ⟨dX12_places_77, bg_999⟩⟩⟩ : mi_cal _ _ _ (mI 176) _ _))))))))
def mb_232_1 (g : xe_G) : Nat → Option mi_N := mt_node 116 (mt_node 97 (mt_node 86 (mt_node 82 (mt_node 80 (mt_leaf 80 (.inl (o_push (.int 41) 2))) (mt_leaf 82 (.inl (o_if2 (fun x y => decide (x = y)) 97)))) (mt_node 85 (mt_leaf 85 (.inl (o_aload 0 1))) (mt_leaf 86 (.inl (o_iload 2 1))))) (mt_node 89 (mt_node 87 (mt_leaf 87 (.inl (o_iload 4 2))) (mt_leaf 89 (.inr (.inl (206, 3, some 12))))) (mt_node 92 (mt_leaf 92 (.inl (o_isto 4 2))) (mt_node 94 (mt_leaf 94 (.inl (o_goto 73))) (mt_leaf 97 (.inl (o_aload 0 1))))))) (mt_node 106 (mt_node 99 (mt_node 98 (mt_leaf 98 (.inl (o_iload 2 1))) (mt_leaf 99 (.inr (.inl (233, 2, some 12))))) (mt_node 102 (mt_leaf 102 (.inl (o_push (.int 1024) 3))) (mt_node 105 (mt_leaf 105 (.inl (o_aload 0 1))) (mt_leaf 106 (.inl (o_iload 2 1)))))) (mt_node 108 (mt_node 107 (mt_leaf 107 (.inl (o_iload 3 1))) (mt_leaf 108 (.inr (.inl (176, 3, some 12))))) (mt_node 111 (mt_leaf 111 (.inl (o_push (.int 86) 2))) (mt_node 113 (mt_leaf 113 (.inl (o_if2 (fun x y => decide (¬ x = y)) 128))) (mt_leaf 116 (.inl (o_iload 3 1)))))))) (mt_node 130 (mt_node 121 (mt_node 119 (mt_node 117 (mt_leaf 117 (.inl (o_iload 4 2))) (mt_leaf 119 (.inl (o_push (.int 1) 1)))) (mt_node 120 (mt_leaf 120 (.inl (o_bin (fun x y => x + y) 1))) (mt_leaf 121 (.inl (o_if2 (fun x y => decide (¬ x = y)) 128))))) (mt_node 125 (mt_node 124 (mt_leaf 124 (.inl (o_push (.int 0) 1))) (mt_leaf 125 (.inl (o_goto 145)))) (mt_node 128 (mt_leaf 128 (.inl (o_aload 0 1))) (mt_node 129 (mt_leaf 129 (.inl (o_iload 2 1))) (mt_leaf 130 (.inl (o_iload 4 2))))))) (mt_node 140 (mt_node 133 (mt_node 132 (mt_leaf 132 (.inl (o_push (.int 1) 1))) (mt_leaf 133 (.inl (o_bin (fun x y => x + y) 1)))) (mt_node 134 (mt_leaf 134 (.inr (.inl (255, 3, some 12)))) (mt_node 137 (mt_leaf 137 (.inl (o_if (fun x => decide (x = 0)) 144))) (mt_leaf 140 (.inl (o_push (.int 2) 1)))))) (mt_node 144 (mt_node 141 (mt_leaf 141 (.inl (o_goto 145))) (mt_leaf 144 (.inl (o_push (.int 1) 1)))) (mt_node 145 (mt_leaf 145 (.inl (o_bin (fun x y => x * y) 1))) (mt_node 146 (mt_leaf 146 (.inl (o_bin (fun x y => x + y) 1))) (mt_leaf 147 (.inr (.inr (r_int (fun _ => true))))))))))
theorem mb_232_1_ok {g : xe_G} : mt_all (mi_ent g mI (mI 232)) (mb_232_1 g) := mt_node_ok (mt_node_ok (mt_node_ok (mt_node_ok (mt_node_ok (mt_leaf_ok (en_o (sm_bipush dX12_places_80 rfl))) (mt_leaf_ok (en_o (sm_icmp_eq dX12_places_82 (by decide))))) (mt_node_ok (mt_leaf_ok (en_o (sm_aload_n dX12_places_85 rfl))) (mt_leaf_ok (en_o (sm_iload_n dX12_places_86 rfl))))) (mt_node_ok (mt_node_ok (mt_leaf_ok (en_o (sm_iload dX12_places_87))) (mt_leaf_ok ((⟨by decide, bg_972, bg_1058, 295, 2, ⟨by decide, by decide, by decide +kernel⟩, bg_1057, Or.inr ⟨rfl, bg_1059, 12, _, rfl, by decide, rfl, Or.inl ⟨dX12_places_89, bg_1060⟩⟩⟩ : mi_cal _ _ _ (mI 206) _ _)))) (mt_node_ok (mt_leaf_ok (en_s (sm_istore dX12_places_92 (by decide)))) (mt_node_ok (mt_leaf_ok (en_o (sm_goto dX12_places_94 (by decide)))) (mt_leaf_ok (en_o (sm_aload_n dX12_places_97 rfl))))))) (mt_node_ok (mt_node_ok (mt_node_ok (mt_leaf_ok (en_o (sm_iload_n dX12_places_98 rfl))) (mt_leaf_ok ((⟨by decide, bg_972, bg_1068, 302, 1, ⟨by decide, by decide, by decide +kernel⟩, bg_1067, Or.inr ⟨rfl, bg_1069, 12, _, rfl, by decide, rfl, Or.inl ⟨dX12_places_99, bg_1070⟩⟩⟩ : mi_cal _ _ _ (mI 233) _ _)))) (mt_node_ok (mt_leaf_ok (en_o (sm_sipush dX12_places_102 rfl))) (mt_node_ok (mt_leaf_ok (en_o (sm_aload_n dX12_places_105 rfl))) (mt_leaf_ok (en_o (sm_iload_n dX12_places_106 rfl)))))) (mt_node_ok (mt_node_ok (mt_leaf_ok (en_o (sm_iload_n dX12_places_107 rfl))) (mt_leaf_ok ((⟨by decide, bg_972, bg_992, 217, 2, ⟨by decide, by decide, by decide +kernel⟩, bg_997, Or.inr ⟨rfl, bg_998, 12, _, rfl, by decide, rfl, Or.inl ⟨dX12_places_108, bg_999⟩⟩⟩ : mi_cal _ _ _ (mI 176) _ _)))) (mt_node_ok (mt_leaf_ok (en_o (sm_bipush dX12_places_111 rfl))) (mt_node_ok (mt_leaf_ok (en_o (sm_icmp_ne dX12_places_113 (by decide)))) (mt_leaf_ok (en_o (sm_iload_n dX12_places_116 rfl)))))))) (mt_node_ok (mt_node_ok (mt_node_ok (mt_node_ok (mt_leaf_ok (en_o (sm_iload dX12_places_117))) (mt_leaf_ok (en_o (sm_iconst dX12_places_119 rfl)))) (mt_node_ok (mt_leaf_ok (en_o (sm_iadd dX12_places_120))) (mt_leaf_ok (en_o (sm_icmp_ne dX12_places_121 (by decide)))))) (mt_node_ok (mt_node_ok (mt_leaf_ok (en_o (sm_iconst dX12_places_124 rfl))) (mt_leaf_ok (en_o (sm_goto dX12_places_125 (by decide))))) (mt_node_ok (mt_leaf_ok (en_o (sm_aload_n dX12_places_128 rfl))) (mt_node_ok (mt_leaf_ok (en_o (sm_iload_n dX12_places_129 rfl))) (mt_leaf_ok (en_o (sm_iload dX12_places_130))))))) (mt_node_ok (mt_node_ok (mt_node_ok (mt_leaf_ok (en_o (sm_iconst dX12_places_132 rfl))) (mt_leaf_ok (en_o (sm_iadd dX12_places_133)))) (mt_node_ok (mt_leaf_ok ((⟨by decide, bg_972, bg_1211, 453, 2, ⟨by decide, by decide, by decide +kernel⟩, bg_1210, Or.inr ⟨rfl, bg_1212, 12, _, rfl, by decide, rfl, Or.inl ⟨dX12_places_134, bg_1213⟩⟩⟩ : mi_cal _ _ _ (mI 255) _ _))) (mt_node_ok (mt_leaf_ok (en_o (sm_if_eq dX12_places_137 (by decide)))) (mt_leaf_ok (en_o (sm_iconst dX12_places_140 rfl)))))) (mt_node_ok (mt_node_ok (mt_leaf_ok (en_o (sm_goto dX12_places_141 (by decide)))) (mt_leaf_ok (en_o (sm_iconst dX12_places_144 rfl)))) (mt_node_ok (mt_leaf_ok (en_o (sm_imul dX12_places_145))) (mt_node_ok (mt_leaf_ok (en_o (sm_iadd dX12_places_146))) (mt_leaf_ok (sr_int dX12_places_147)))))))
def mb_232 (g : xe_G) : Nat × mi_B := (5, mt_node 77 (mb_232_0 g) (mb_232_1 g), mk_node 51 (mk_node 21 (mk_leaf 21 []) (mk_leaf 51 [])) (mk_node 73 (mk_leaf 73 [0, 2, 3, 4]) (mk_node 128 (mk_leaf 128 [0, 2, 4]) (mk_leaf 145 []))))
theorem mb_232_ok {g : xe_G} : mi_meth g mI (mI 232) (mb_232 g) := ⟨rfl, by decide, mt_node_ok (mb_232_0_ok) (mb_232_1_ok)⟩
theorem dX12_places0_0 : decode cX12_places0 0 = .ok (.iconst 1, 1) := by decide +kernel
theorem dX12_places0_1 : decode cX12_places0 1 = .ok (.istore_n 2, 1) := by decide +kernel
theorem dX12_places0_2 : decode cX12_places0 2 = .ok (.iconst 0, 1) := by decide +kernel
theorem dX12_places0_3 : decode cX12_places0 3 = .ok (.istore_n 3, 1) := by decide +kernel
theorem dX12_places0_4 : decode cX12_places0 4 = .ok (.aload_n 0, 1) := by decide +kernel
theorem dX12_places0_5 : decode cX12_places0 5 = .ok (.iload_n 1, 1) := by decide +kernel
theorem dX12_places0_6 : decode cX12_places0 6 = .ok (.iload_n 2, 1) := by decide +kernel
theorem dX12_places0_7 : decode cX12_places0 7 = .ok (.invokevirtual 217, 3) := by decide +kernel
theorem dX12_places0_10 : decode cX12_places0 10 = .ok (.bipush 41, 2) := by decide +kernel
theorem dX12_places0_12 : decode cX12_places0 12 = .ok (.if_icmp .eq 43, 3) := by decide +kernel
theorem dX12_places0_15 : decode cX12_places0 15 = .ok (.aload_n 0, 1) := by decide +kernel
theorem dX12_places0_16 : decode cX12_places0 16 = .ok (.iload_n 1, 1) := by decide +kernel
theorem dX12_places0_17 : decode cX12_places0 17 = .ok (.iload_n 2, 1) := by decide +kernel
theorem dX12_places0_18 : decode cX12_places0 18 = .ok (.invokevirtual 217, 3) := by decide +kernel
theorem dX12_places0_21 : decode cX12_places0 21 = .ok (.istore 4, 2) := by decide +kernel
theorem dX12_places0_23 : decode cX12_places0 23 = .ok (.iload_n 3, 1) := by decide +kernel
theorem dX12_places0_24 : decode cX12_places0 24 = .ok (.iload 4, 2) := by decide +kernel
theorem dX12_places0_26 : decode cX12_places0 26 = .ok (.bipush 74, 2) := by decide +kernel
theorem dX12_places0_28 : decode cX12_places0 28 = .ok (.if_icmp .eq 10, 3) := by decide +kernel
theorem dX12_places0_31 : decode cX12_places0 31 = .ok (.iload 4, 2) := by decide +kernel
theorem dX12_places0_33 : decode cX12_places0 33 = .ok (.bipush 68, 2) := by decide +kernel
theorem dX12_places0_35 : decode cX12_places0 35 = .ok (.if_icmp .ne 7, 3) := by decide +kernel
theorem dX12_places0_38 : decode cX12_places0 38 = .ok (.iconst 2, 1) := by decide +kernel
theorem dX12_places0_39 : decode cX12_places0 39 = .ok (.goto 4, 3) := by decide +kernel
theorem dX12_places0_42 : decode cX12_places0 42 = .ok (.iconst 1, 1) := by decide +kernel
theorem dX12_places0_43 : decode cX12_places0 43 = .ok (.iadd, 1) := by decide +kernel
theorem dX12_places0_44 : decode cX12_places0 44 = .ok (.istore_n 3, 1) := by decide +kernel
theorem dX12_places0_45 : decode cX12_places0 45 = .ok (.aload_n 0, 1) := by decide +kernel
theorem dX12_places0_46 : decode cX12_places0 46 = .ok (.iload_n 1, 1) := by decide +kernel
theorem dX12_places0_47 : decode cX12_places0 47 = .ok (.iload_n 2, 1) := by decide +kernel
theorem dX12_places0_48 : decode cX12_places0 48 = .ok (.invokevirtual 295, 3) := by decide +kernel
theorem dX12_places0_51 : decode cX12_places0 51 = .ok (.istore_n 2, 1) := by decide +kernel
theorem dX12_places0_52 : decode cX12_places0 52 = .ok (.goto (-48), 3) := by decide +kernel
theorem dX12_places0_55 : decode cX12_places0 55 = .ok (.iload_n 3, 1) := by decide +kernel
theorem dX12_places0_56 : decode cX12_places0 56 = .ok (.ireturn, 1) := by decide +kernel
def mb_233_0 (g : xe_G) : Nat → Option mi_N := mt_node 24 (mt_node 7 (mt_node 3 (mt_node 1 (mt_node 0 (mt_leaf 0 (.inl (o_push (.int 1) 1))) (mt_leaf 1 (.inl (o_isto 2 1)))) (mt_node 2 (mt_leaf 2 (.inl (o_push (.int 0) 1))) (mt_leaf 3 (.inl (o_isto 3 1))))) (mt_node 5 (mt_node 4 (mt_leaf 4 (.inl (o_aload 0 1))) (mt_leaf 5 (.inl (o_iload 1 1)))) (mt_node 6 (mt_leaf 6 (.inl (o_iload 2 1))) (mt_leaf 7 (.inr (.inl (176, 3, some 12))))))) (mt_node 16 (mt_node 12 (mt_node 10 (mt_leaf 10 (.inl (o_push (.int 41) 2))) (mt_leaf 12 (.inl (o_if2 (fun x y => decide (x = y)) 55)))) (mt_node 15 (mt_leaf 15 (.inl (o_aload 0 1))) (mt_leaf 16 (.inl (o_iload 1 1))))) (mt_node 18 (mt_node 17 (mt_leaf 17 (.inl (o_iload 2 1))) (mt_leaf 18 (.inr (.inl (176, 3, some 12))))) (mt_node 21 (mt_leaf 21 (.inl (o_isto 4 2))) (mt_node 23 (mt_leaf 23 (.inl (o_iload 3 1))) (mt_leaf 24 (.inl (o_iload 4 2)))))))) (mt_node 43 (mt_node 33 (mt_node 28 (mt_node 26 (mt_leaf 26 (.inl (o_push (.int 74) 2))) (mt_leaf 28 (.inl (o_if2 (fun x y => decide (x = y)) 38)))) (mt_node 31 (mt_leaf 31 (.inl (o_iload 4 2))) (mt_leaf 33 (.inl (o_push (.int 68) 2))))) (mt_node 38 (mt_node 35 (mt_leaf 35 (.inl (o_if2 (fun x y => decide (¬ x = y)) 42))) (mt_leaf 38 (.inl (o_push (.int 2) 1)))) (mt_node 39 (mt_leaf 39 (.inl (o_goto 43))) (mt_node 42 (mt_leaf 42 (.inl (o_push (.int 1) 1))) (mt_leaf 43 (.inl (o_bin (fun x y => x + y) 1))))))) (mt_node 47 (mt_node 45 (mt_node 44 (mt_leaf 44 (.inl (o_isto 3 1))) (mt_leaf 45 (.inl (o_aload 0 1)))) (mt_node 46 (mt_leaf 46 (.inl (o_iload 1 1))) (mt_leaf 47 (.inl (o_iload 2 1))))) (mt_node 51 (mt_node 48 (mt_leaf 48 (.inr (.inl (206, 3, some 12)))) (mt_leaf 51 (.inl (o_isto 2 1)))) (mt_node 52 (mt_leaf 52 (.inl (o_goto 4))) (mt_node 55 (mt_leaf 55 (.inl (o_iload 3 1))) (mt_leaf 56 (.inr (.inr (r_int (fun _ => true))))))))))
theorem mb_233_0_ok {g : xe_G} : mt_all (mi_ent g mI (mI 233)) (mb_233_0 g) := mt_node_ok (mt_node_ok (mt_node_ok (mt_node_ok (mt_node_ok (mt_leaf_ok (en_o (sm_iconst dX12_places0_0 rfl))) (mt_leaf_ok (en_s (sm_istore_n dX12_places0_1 rfl (by decide))))) (mt_node_ok (mt_leaf_ok (en_o (sm_iconst dX12_places0_2 rfl))) (mt_leaf_ok (en_s (sm_istore_n dX12_places0_3 rfl (by decide)))))) (mt_node_ok (mt_node_ok (mt_leaf_ok (en_o (sm_aload_n dX12_places0_4 rfl))) (mt_leaf_ok (en_o (sm_iload_n dX12_places0_5 rfl)))) (mt_node_ok (mt_leaf_ok (en_o (sm_iload_n dX12_places0_6 rfl))) (mt_leaf_ok ((⟨by decide, bg_972, bg_992, 217, 2, ⟨by decide, by decide, by decide +kernel⟩, bg_997, Or.inr ⟨rfl, bg_998, 12, _, rfl, by decide, rfl, Or.inl ⟨dX12_places0_7, bg_999⟩⟩⟩ : mi_cal _ _ _ (mI 176) _ _)))))) (mt_node_ok (mt_node_ok (mt_node_ok (mt_leaf_ok (en_o (sm_bipush dX12_places0_10 rfl))) (mt_leaf_ok (en_o (sm_icmp_eq dX12_places0_12 (by decide))))) (mt_node_ok (mt_leaf_ok (en_o (sm_aload_n dX12_places0_15 rfl))) (mt_leaf_ok (en_o (sm_iload_n dX12_places0_16 rfl))))) (mt_node_ok (mt_node_ok (mt_leaf_ok (en_o (sm_iload_n dX12_places0_17 rfl))) (mt_leaf_ok ((⟨by decide, bg_972, bg_992, 217, 2, ⟨by decide, by decide, by decide +kernel⟩, bg_997, Or.inr ⟨rfl, bg_998, 12, _, rfl, by decide, rfl, Or.inl ⟨dX12_places0_18, bg_999⟩⟩⟩ : mi_cal _ _ _ (mI 176) _ _)))) (mt_node_ok (mt_leaf_ok (en_s (sm_istore dX12_places0_21 (by decide)))) (mt_node_ok (mt_leaf_ok (en_o (sm_iload_n dX12_places0_23 rfl))) (mt_leaf_ok (en_o (sm_iload dX12_places0_24)))))))) (mt_node_ok (mt_node_ok (mt_node_ok (mt_node_ok (mt_leaf_ok (en_o (sm_bipush dX12_places0_26 rfl))) (mt_leaf_ok (en_o (sm_icmp_eq dX12_places0_28 (by decide))))) (mt_node_ok (mt_leaf_ok (en_o (sm_iload dX12_places0_31))) (mt_leaf_ok (en_o (sm_bipush dX12_places0_33 rfl))))) (mt_node_ok (mt_node_ok (mt_leaf_ok (en_o (sm_icmp_ne dX12_places0_35 (by decide)))) (mt_leaf_ok (en_o (sm_iconst dX12_places0_38 rfl)))) (mt_node_ok (mt_leaf_ok (en_o (sm_goto dX12_places0_39 (by decide)))) (mt_node_ok (mt_leaf_ok (en_o (sm_iconst dX12_places0_42 rfl))) (mt_leaf_ok (en_o (sm_iadd dX12_places0_43))))))) (mt_node_ok (mt_node_ok (mt_node_ok (mt_leaf_ok (en_s (sm_istore_n dX12_places0_44 rfl (by decide)))) (mt_leaf_ok (en_o (sm_aload_n dX12_places0_45 rfl)))) (mt_node_ok (mt_leaf_ok (en_o (sm_iload_n dX12_places0_46 rfl))) (mt_leaf_ok (en_o (sm_iload_n dX12_places0_47 rfl))))) (mt_node_ok (mt_node_ok (mt_leaf_ok ((⟨by decide, bg_972, bg_1058, 295, 2, ⟨by decide, by decide, by decide +kernel⟩, bg_1057, Or.inr ⟨rfl, bg_1059, 12, _, rfl, by decide, rfl, Or.inl ⟨dX12_places0_48, bg_1060⟩⟩⟩ : mi_cal _ _ _ (mI 206) _ _))) (mt_leaf_ok (en_s (sm_istore_n dX12_places0_51 rfl (by decide))))) (mt_node_ok (mt_leaf_ok (en_o (sm_goto dX12_places0_52 (by decide)))) (mt_node_ok (mt_leaf_ok (en_o (sm_iload_n dX12_places0_55 rfl))) (mt_leaf_ok (sr_int dX12_places0_56)))))))
def mb_233 (g : xe_G) : Nat × mi_B := (5, mb_233_0 g, mk_node 4 (mk_leaf 4 [0, 1, 2, 3]) (mk_node 38 (mk_leaf 38 [0, 1, 2]) (mk_leaf 43 [0, 1, 2])))
theorem mb_233_ok {g : xe_G} : mi_meth g mI (mI 233) (mb_233 g) := ⟨rfl, by decide, mb_233_0_ok⟩
theorem dX12_plain_0 : decode cX12_plain 0 = .ok (.iload_n 2, 1) := by decide +kernel
theorem dX12_plain_1 : decode cX12_plain 1 = .ok (.sipush 196, 3) := by decide +kernel
theorem dX12_plain_4 : decode cX12_plain 4 = .ok (.if_icmp .ne 11, 3) := by decide +kernel
theorem dX12_plain_7 : decode cX12_plain 7 = .ok (.aload_n 0, 1) := by decide +kernel
theorem dX12_plain_8 : decode cX12_plain 8 = .ok (.iload_n 1, 1) := by decide +kernel
theorem dX12_plain_9 : decode cX12_plain 9 = .ok (.iconst 1, 1) := by decide +kernel
theorem dX12_plain_10 : decode cX12_plain 10 = .ok (.iadd, 1) := by decide +kernel
theorem dX12_plain_11 : decode cX12_plain 11 = .ok (.invokevirtual 474, 3) := by decide +kernel
theorem dX12_plain_14 : decode cX12_plain 14 = .ok (.ireturn, 1) := by decide +kernel
theorem dX12_plain_15 : decode cX12_plain 15 = .ok (.iload_n 2, 1) := by decide +kernel
theorem dX12_plain_16 : decode cX12_plain 16 = .ok (.bipush 19, 2) := by decide +kernel
theorem dX12_plain_18 : decode cX12_plain 18 = .ok (.if_icmp .ne 6, 3) := by decide +kernel
theorem dX12_plain_21 : decode cX12_plain 21 = .ok (.bipush 18, 2) := by decide +kernel
theorem dX12_plain_23 : decode cX12_plain 23 = .ok (.ireturn, 1) := by decide +kernel
theorem dX12_plain_24 : decode cX12_plain 24 = .ok (.iload_n 2, 1) := by decide +kernel
theorem dX12_plain_25 : decode cX12_plain 25 = .ok (.bipush 26, 2) := by decide +kernel
theorem dX12_plain_27 : decode cX12_plain 27 = .ok (.if_icmp .lt 19, 3) := by decide +kernel
theorem dX12_plain_30 : decode cX12_plain 30 = .ok (.iload_n 2, 1) := by decide +kernel
theorem dX12_plain_31 : decode cX12_plain 31 = .ok (.bipush 45, 2) := by decide +kernel
theorem dX12_plain_33 : decode cX12_plain 33 = .ok (.if_icmp .gt 13, 3) := by decide +kernel
theorem dX12_plain_36 : decode cX12_plain 36 = .ok (.bipush 21, 2) := by decide +kernel
theorem dX12_plain_38 : decode cX12_plain 38 = .ok (.iload_n 2, 1) := by decide +kernel
theorem dX12_plain_39 : decode cX12_plain 39 = .ok (.bipush 26, 2) := by decide +kernel
theorem dX12_plain_41 : decode cX12_plain 41 = .ok (.isub, 1) := by decide +kernel
theorem dX12_plain_42 : decode cX12_plain 42 = .ok (.iconst 4, 1) := by decide +kernel
theorem dX12_plain_43 : decode cX12_plain 43 = .ok (.idiv, 1) := by decide +kernel
theorem dX12_plain_44 : decode cX12_plain 44 = .ok (.iadd, 1) := by decide +kernel
theorem dX12_plain_45 : decode cX12_plain 45 = .ok (.ireturn, 1) := by decide +kernel
theorem dX12_plain_46 : decode cX12_plain 46 = .ok (.iload_n 2, 1) := by decide +kernel
theorem dX12_plain_47 : decode cX12_plain 47 = .ok (.bipush 59, 2) := by decide +kernel
theorem dX12_plain_49 : decode cX12_plain 49 = .ok (.if_icmp .lt 19, 3) := by decide +kernel
theorem dX12_plain_52 : decode cX12_plain 52 = .ok (.iload_n 2, 1) := by decide +kernel
theorem dX12_plain_53 : decode cX12_plain 53 = .ok (.bipush 78, 2) := by decide +kernel
theorem dX12_plain_55 : decode cX12_plain 55 = .ok (.if_icmp .gt 13, 3) := by decide +kernel
theorem dX12_plain_58 : decode cX12_plain 58 = .ok (.bipush 54, 2) := by decide +kernel
theorem dX12_plain_60 : decode cX12_plain 60 = .ok (.iload_n 2, 1) := by decide +kernel
theorem dX12_plain_61 : decode cX12_plain 61 = .ok (.bipush 59, 2) := by decide +kernel
theorem dX12_plain_63 : decode cX12_plain 63 = .ok (.isub, 1) := by decide +kernel
theorem dX12_plain_64 : decode cX12_plain 64 = .ok (.iconst 4, 1) := by decide +kernel
theorem dX12_plain_65 : decode cX12_plain 65 = .ok (.idiv, 1) := by decide +kernel
theorem dX12_plain_66 : decode cX12_plain 66 = .ok (.iadd, 1) := by decide +kernel
theorem dX12_plain_67 : decode cX12_plain 67 = .ok (.ireturn, 1) := by decide +kernel
theorem dX12_plain_68 : decode cX12_plain 68 = .ok (.iload_n 2, 1) := by decide +kernel
theorem dX12_plain_69 : decode cX12_plain 69 = .ok (.sipush 200, 3) := by decide +kernel
theorem dX12_plain_72 : decode cX12_plain 72 = .ok (.if_icmp .ne 9, 3) := by decide +kernel
theorem dX12_plain_75 : decode cX12_plain 75 = .ok (.sipush 167, 3) := by decide +kernel
theorem dX12_plain_78 : decode cX12_plain 78 = .ok (.goto 17, 3) := by decide +kernel
theorem dX12_plain_81 : decode cX12_plain 81 = .ok (.iload_n 2, 1) := by decide +kernel
theorem dX12_plain_82 : decode cX12_plain 82 = .ok (.sipush 201, 3) := by decide +kernel
theorem dX12_plain_85 : decode cX12_plain 85 = .ok (.if_icmp .ne 9, 3) := by decide +kernel
theorem dX12_plain_88 : decode cX12_plain 88 = .ok (.sipush 168, 3) := by decide +kernel
theorem dX12_plain_91 : decode cX12_plain 91 = .ok (.goto 4, 3) := by decide +kernel
theorem dX12_plain_94 : decode cX12_plain 94 = .ok (.iload_n 2, 1) := by decide +kernel
theorem dX12_plain_95 : decode cX12_plain 95 = .ok (.ireturn, 1) := by decide +kernel
def mb_234_0 (g : xe_G) : Nat → Option mi_N := mt_node 41 (mt_node 18 (mt_node 9 (mt_node 4 (mt_node 0 (mt_leaf 0 (.inl (o_iload 2 1))) (mt_node 1 (mt_leaf 1 (.inl (o_push (.int 196) 3))) (mt_leaf 4 (.inl (o_if2 (fun x y => decide (¬ x = y)) 15))))) (mt_node 7 (mt_leaf 7 (.inl (o_aload 0 1))) (mt_node 8 (mt_leaf 8 (.inl (o_iload 1 1))) (mt_leaf 9 (.inl (o_push (.int 1) 1)))))) (mt_node 14 (mt_node 10 (mt_leaf 10 (.inl (o_bin (fun x y => x + y) 1))) (mt_node 11 (mt_leaf 11 (.inr (.inl (179, 2, some 12)))) (mt_leaf 14 (.inr (.inr (r_int (fun _ => true))))))) (mt_node 15 (mt_leaf 15 (.inl (o_iload 2 1))) (mt_node 16 (mt_leaf 16 (.inl (o_push (.int 19) 2))) (mt_leaf 18 (.inl (o_if2 (fun x y => decide (¬ x = y)) 24))))))) (mt_node 30 (mt_node 24 (mt_node 21 (mt_leaf 21 (.inl (o_push (.int 18) 2))) (mt_node 23 (mt_leaf 23 (.inr (.inr (r_int (fun _ => true))))) (mt_leaf 24 (.inl (o_iload 2 1))))) (mt_node 25 (mt_leaf 25 (.inl (o_push (.int 26) 2))) (mt_node 27 (mt_leaf 27 (.inl (o_if2 (fun x y => decide (x < y)) 46))) (mt_leaf 30 (.inl (o_iload 2 1)))))) (mt_node 36 (mt_node 31 (mt_leaf 31 (.inl (o_push (.int 45) 2))) (mt_node 33 (mt_leaf 33 (.inl (o_if2 (fun x y => decide (y < x)) 46))) (mt_leaf 36 (.inl (o_push (.int 21) 2))))) (mt_node 38 (mt_leaf 38 (.inl (o_iload 2 1))) (mt_node 39 (mt_leaf 39 (.inl (o_push (.int 26) 2))) (mt_leaf 41 (.inl (o_bin (fun x y => x - y) 1)))))))) (mt_node 60 (mt_node 47 (mt_node 44 (mt_node 42 (mt_leaf 42 (.inl (o_push (.int 4) 1))) (mt_node 43 (mt_leaf 43 (.inl (o_div (fun x y => x / y)))) (mt_leaf 44 (.inl (o_bin (fun x y => x + y) 1))))) (mt_node 45 (mt_leaf 45 (.inr (.inr (r_int (fun _ => true))))) (mt_node 46 (mt_leaf 46 (.inl (o_iload 2 1))) (mt_leaf 47 (.inl (o_push (.int 59) 2)))))) (mt_node 53 (mt_node 49 (mt_leaf 49 (.inl (o_if2 (fun x y => decide (x < y)) 68))) (mt_node 52 (mt_leaf 52 (.inl (o_iload 2 1))) (mt_leaf 53 (.inl (o_push (.int 78) 2))))) (mt_node 55 (mt_leaf 55 (.inl (o_if2 (fun x y => decide (y < x)) 68))) (mt_node 58 (mt_leaf 58 (.inl (o_push (.int 54) 2))) (mt_leaf 60 (.inl (o_iload 2 1))))))) (mt_node 67 (mt_node 64 (mt_node 61 (mt_leaf 61 (.inl (o_push (.int 59) 2))) (mt_node 63 (mt_leaf 63 (.inl (o_bin (fun x y => x - y) 1))) (mt_leaf 64 (.inl (o_push (.int 4) 1))))) (mt_node 65 (mt_leaf 65 (.inl (o_div (fun x y => x / y)))) (mt_node 66 (mt_leaf 66 (.inl (o_bin (fun x y => x + y) 1))) (mt_leaf 67 (.inr (.inr (r_int (fun _ => true)))))))) (mt_node 72 (mt_node 68 (mt_leaf 68 (.inl (o_iload 2 1))) (mt_node 69 (mt_leaf 69 (.inl (o_push (.int 200) 3))) (mt_leaf 72 (.inl (o_if2 (fun x y => decide (¬ x = y)) 81))))) (mt_node 75 (mt_leaf 75 (.inl (o_push (.int 167) 3))) (mt_node 78 (mt_leaf 78 (.inl (o_goto 95))) (mt_leaf 81 (.inl (o_iload 2 1))))))))
theorem mb_234_0_ok {g : xe_G} : mt_all (mi_ent g mI (mI 234)) (mb_234_0 g) := mt_node_ok (mt_node_ok (mt_node_ok (mt_node_ok (mt_node_ok (mt_leaf_ok (en_o (sm_iload_n dX12_plain_0 rfl))) (mt_node_ok (mt_leaf_ok (en_o (sm_sipush dX12_plain_1 rfl))) (mt_leaf_ok (en_o (sm_icmp_ne dX12_plain_4 (by decide)))))) (mt_node_ok (mt_leaf_ok (en_o (sm_aload_n dX12_plain_7 rfl))) (mt_node_ok (mt_leaf_ok (en_o (sm_iload_n dX12_plain_8 rfl))) (mt_leaf_ok (en_o (sm_iconst dX12_plain_9 rfl)))))) (mt_node_ok (mt_node_ok (mt_leaf_ok (en_o (sm_iadd dX12_plain_10))) (mt_node_ok (mt_leaf_ok ((⟨by decide, bg_972, bg_1214, 474, 1, ⟨by decide, by decide, by decide +kernel⟩, bg_1229, Or.inr ⟨rfl, bg_1230, 12, _, rfl, by decide, rfl, Or.inl ⟨dX12_plain_11, bg_1231⟩⟩⟩ : mi_cal _ _ _ (mI 179) _ _))) (mt_leaf_ok (sr_int dX12_plain_14)))) (mt_node_ok (mt_leaf_ok (en_o (sm_iload_n dX12_plain_15 rfl))) (mt_node_ok (mt_leaf_ok (en_o (sm_bipush dX12_plain_16 rfl))) (mt_leaf_ok (en_o (sm_icmp_ne dX12_plain_18 (by decide)))))))) (mt_node_ok (mt_node_ok (mt_node_ok (mt_leaf_ok (en_o (sm_bipush dX12_plain_21 rfl))) (mt_node_ok (mt_leaf_ok (sr_int dX12_plain_23)) (mt_leaf_ok (en_o (sm_iload_n dX12_plain_24 rfl))))) (mt_node_ok (mt_leaf_ok (en_o (sm_bipush dX12_plain_25 rfl))) (mt_node_ok (mt_leaf_ok (en_o (sm_icmp_lt dX12_plain_27 (by decide)))) (mt_leaf_ok (en_o (sm_iload_n dX12_plain_30 rfl)))))) (mt_node_ok (mt_node_ok (mt_leaf_ok (en_o (sm_bipush dX12_plain_31 rfl))) (mt_node_ok (mt_leaf_ok (en_o (sm_icmp_gt dX12_plain_33 (by decide)))) (mt_leaf_ok (en_o (sm_bipush dX12_plain_36 rfl))))) (mt_node_ok (mt_leaf_ok (en_o (sm_iload_n dX12_plain_38 rfl))) (mt_node_ok (mt_leaf_ok (en_o (sm_bipush dX12_plain_39 rfl))) (mt_leaf_ok (en_o (sm_isub dX12_plain_41)))))))) (mt_node_ok (mt_node_ok (mt_node_ok (mt_node_ok (mt_leaf_ok (en_o (sm_iconst dX12_plain_42 rfl))) (mt_node_ok (mt_leaf_ok (en_o (sm_idiv dX12_plain_43))) (mt_leaf_ok (en_o (sm_iadd dX12_plain_44))))) (mt_node_ok (mt_leaf_ok (sr_int dX12_plain_45)) (mt_node_ok (mt_leaf_ok (en_o (sm_iload_n dX12_plain_46 rfl))) (mt_leaf_ok (en_o (sm_bipush dX12_plain_47 rfl)))))) (mt_node_ok (mt_node_ok (mt_leaf_ok (en_o (sm_icmp_lt dX12_plain_49 (by decide)))) (mt_node_ok (mt_leaf_ok (en_o (sm_iload_n dX12_plain_52 rfl))) (mt_leaf_ok (en_o (sm_bipush dX12_plain_53 rfl))))) (mt_node_ok (mt_leaf_ok (en_o (sm_icmp_gt dX12_plain_55 (by decide)))) (mt_node_ok (mt_leaf_ok (en_o (sm_bipush dX12_plain_58 rfl))) (mt_leaf_ok (en_o (sm_iload_n dX12_plain_60 rfl))))))) (mt_node_ok (mt_node_ok (mt_node_ok (mt_leaf_ok (en_o (sm_bipush dX12_plain_61 rfl))) (mt_node_ok (mt_leaf_ok (en_o (sm_isub dX12_plain_63))) (mt_leaf_ok (en_o (sm_iconst dX12_plain_64 rfl))))) (mt_node_ok (mt_leaf_ok (en_o (sm_idiv dX12_plain_65))) (mt_node_ok (mt_leaf_ok (en_o (sm_iadd dX12_plain_66))) (mt_leaf_ok (sr_int dX12_plain_67))))) (mt_node_ok (mt_node_ok (mt_leaf_ok (en_o (sm_iload_n dX12_plain_68 rfl))) (mt_node_ok (mt_leaf_ok (en_o (sm_sipush dX12_plain_69 rfl))) (mt_leaf_ok (en_o (sm_icmp_ne dX12_plain_72 (by decide)))))) (mt_node_ok (mt_leaf_ok (en_o (sm_sipush dX12_plain_75 rfl))) (mt_node_ok (mt_leaf_ok (en_o (sm_goto dX12_plain_78 (by decide)))) (mt_leaf_ok (en_o (sm_iload_n dX12_plain_81 rfl))))))))
def mb_234_1 (g : xe_G) : Nat → Option mi_N := mt_node 88 (mt_node 82 (mt_leaf 82 (.inl (o_push (.int 201) 3))) (mt_node 85 (mt_leaf 85 (.inl (o_if2 (fun x y => decide (¬ x = y)) 94))) (mt_leaf 88 (.inl (o_push (.int 168) 3))))) (mt_node 91 (mt_leaf 91 (.inl (o_goto 95))) (mt_node 94 (mt_leaf 94 (.inl (o_iload 2 1))) (mt_leaf 95 (.inr (.inr (r_int (fun _ => true)))))))
theorem mb_234_1_ok {g : xe_G} : mt_all (mi_ent g mI (mI 234)) (mb_234_1 g) := mt_node_ok (mt_node_ok (mt_leaf_ok (en_o (sm_sipush dX12_plain_82 rfl))) (mt_node_ok (mt_leaf_ok (en_o (sm_icmp_ne dX12_plain_85 (by decide)))) (mt_leaf_ok (en_o (sm_sipush dX12_plain_88 rfl))))) (mt_node_ok (mt_leaf_ok (en_o (sm_goto dX12_plain_91 (by decide)))) (mt_node_ok (mt_leaf_ok (en_o (sm_iload_n dX12_plain_94 rfl))) (mt_leaf_ok (sr_int dX12_plain_95))))
def mb_234 (g : xe_G) : Nat × mi_B := (3, mt_node 81 (mb_234_0 g) (mb_234_1 g), mk_node 46 (mk_leaf 46 [2]) (mk_node 68 (mk_leaf 68 [2]) (mk_leaf 95 [])))
theorem mb_234_ok {g : xe_G} : mi_meth g mI (mI 234) (mb_234 g) := ⟨rfl, by decide, mt_node_ok (mb_234_0_ok) (mb_234_1_ok)⟩
end
section
theorem dX12_plainClass_0 : decode cX12_plainClass 0 = .ok (.aload_n 0, 1) := by decide +kernel
theorem dX12_plainClass_1 : decode cX12_plainClass 1 = .ok (.iload_n 1, 1) := by decide +kernel
theorem dX12_plainClass_2 : decode cX12_plainClass 2 = .ok (.invokevirtual 338, 3) := by decide +kernel
theorem dX12_plainClass_5 : decode cX12_plainClass 5 = .ok (.bipush 7, 2) := by decide +kernel
theorem dX12_plainClass_7 : decode cX12_plainClass 7 = .ok (.if_icmp .ne 22, 3) := by decide +kernel
theorem dX12_plainClass_10 : decode cX12_plainClass 10 = .ok (.aload_n 0, 1) := by decide +kernel
theorem dX12_plainClass_11 : decode cX12_plainClass 11 = .ok (.aload_n 0, 1) := by decide +kernel
theorem dX12_plainClass_12 : decode cX12_plainClass 12 = .ok (.iload_n 1, 1) := by decide +kernel
theorem dX12_plainClass_13 : decode cX12_plainClass 13 = .ok (.invokevirtual 341, 3) := by decide +kernel
theorem dX12_plainClass_16 : decode cX12_plainClass 16 = .ok (.iconst 0, 1) := by decide +kernel
theorem dX12_plainClass_17 : decode cX12_plainClass 17 = .ok (.invokevirtual 217, 3) := by decide +kernel
theorem dX12_plainClass_20 : decode cX12_plainClass 20 = .ok (.bipush 91, 2) := by decide +kernel
theorem dX12_plainClass_22 : decode cX12_plainClass 22 = .ok (.if_icmp .eq 7, 3) := by decide +kernel
theorem dX12_plainClass_25 : decode cX12_plainClass 25 = .ok (.iconst 1, 1) := by decide +kernel
theorem dX12_plainClass_26 : decode cX12_plainClass 26 = .ok (.goto 4, 3) := by decide +kernel
theorem dX12_plainClass_29 : decode cX12_plainClass 29 = .ok (.iconst 0, 1) := by decide +kernel
theorem dX12_plainClass_30 : decode cX12_plainClass 30 = .ok (.ireturn, 1) := by decide +kernel
def mb_235_0 (g : xe_G) : Nat → Option mi_N := mt_node 12 (mt_node 5 (mt_node 1 (mt_node 0 (mt_leaf 0 (.inl (o_aload 0 1))) (mt_leaf 1 (.inl (o_iload 1 1)))) (mt_node 2 (mt_leaf 2 (.inr (.inl (247, 2, some 12)))) (mt_leaf 5 (.inl (o_push (.int 7) 2))))) (mt_node 10 (mt_node 7 (mt_leaf 7 (.inl (o_if2 (fun x y => decide (¬ x = y)) 29))) (mt_leaf 10 (.inl (o_aload 0 1)))) (mt_node 11 (mt_leaf 11 (.inl (o_aload 0 1))) (mt_leaf 12 (.inl (o_iload 1 1)))))) (mt_node 20 (mt_node 16 (mt_node 13 (mt_leaf 13 (.inr (.inl (193, 2, some 12)))) (mt_leaf 16 (.inl (o_push (.int 0) 1)))) (mt_node 17 (mt_leaf 17 (.inr (.inl (176, 3, some 12)))) (mt_leaf 20 (.inl (o_push (.int 91) 2))))) (mt_node 25 (mt_node 22 (mt_leaf 22 (.inl (o_if2 (fun x y => decide (x = y)) 29))) (mt_leaf 25 (.inl (o_push (.int 1) 1)))) (mt_node 26 (mt_leaf 26 (.inl (o_goto 30))) (mt_node 29 (mt_leaf 29 (.inl (o_push (.int 0) 1))) (mt_leaf 30 (.inr (.inr (r_int mi_cz))))))))
theorem mb_235_0_ok {g : xe_G} : mt_all (mi_ent g mI (mI 235)) (mb_235_0 g) := mt_node_ok (mt_node_ok (mt_node_ok (mt_node_ok (mt_leaf_ok (en_o (sm_aload_n dX12_plainClass_0 rfl))) (mt_leaf_ok (en_o (sm_iload_n dX12_plainClass_1 rfl)))) (mt_node_ok (mt_leaf_ok ((⟨by decide, bg_972, bg_1019, 338, 1, ⟨by decide, by decide, by decide +kernel⟩, bg_1106, Or.inr ⟨rfl, bg_1107, 12, _, rfl, by decide, rfl, Or.inl ⟨dX12_plainClass_2, bg_1108⟩⟩⟩ : mi_cal _ _ _ (mI 247) _ _))) (mt_leaf_ok (en_o (sm_bipush dX12_plainClass_5 rfl))))) (mt_node_ok (mt_node_ok (mt_leaf_ok (en_o (sm_icmp_ne dX12_plainClass_7 (by decide)))) (mt_leaf_ok (en_o (sm_aload_n dX12_plainClass_10 rfl)))) (mt_node_ok (mt_leaf_ok (en_o (sm_aload_n dX12_plainClass_11 rfl))) (mt_leaf_ok (en_o (sm_iload_n dX12_plainClass_12 rfl)))))) (mt_node_ok (mt_node_ok (mt_node_ok (mt_leaf_ok ((⟨by decide, bg_972, bg_1109, 341, 1, ⟨by decide, by decide, by decide +kernel⟩, bg_1111, Or.inr ⟨rfl, bg_1112, 12, _, rfl, by decide, rfl, Or.inl ⟨dX12_plainClass_13, bg_1113⟩⟩⟩ : mi_cal _ _ _ (mI 193) _ _))) (mt_leaf_ok (en_o (sm_iconst dX12_plainClass_16 rfl)))) (mt_node_ok (mt_leaf_ok ((⟨by decide, bg_972, bg_992, 217, 2, ⟨by decide, by decide, by decide +kernel⟩, bg_997, Or.inr ⟨rfl, bg_998, 12, _, rfl, by decide, rfl, Or.inl ⟨dX12_plainClass_17, bg_999⟩⟩⟩ : mi_cal _ _ _ (mI 176) _ _))) (mt_leaf_ok (en_o (sm_bipush dX12_plainClass_20 rfl))))) (mt_node_ok (mt_node_ok (mt_leaf_ok (en_o (sm_icmp_eq dX12_plainClass_22 (by decide)))) (mt_leaf_ok (en_o (sm_iconst dX12_plainClass_25 rfl)))) (mt_node_ok (mt_leaf_ok (en_o (sm_goto dX12_plainClass_26 (by decide)))) (mt_node_ok (mt_leaf_ok (en_o (sm_iconst dX12_plainClass_29 rfl))) (mt_leaf_ok (sr_nar mi_cz_ok dX12_plainClass_30))))))
def mb_235 (g : xe_G) : Nat × mi_B := (2, mb_235_0 g, mk_node 29 (mk_leaf 29 []) (mk_leaf 30 []))
theorem mb_235_ok {g : xe_G} : mi_meth g mI (mI 235) (mb_235 g) := ⟨rfl, by decide, mb_235_0_ok⟩
theorem dX12_read_0 : decode cX12_read 0 = .ok (.aload_n 0, 1) := by decide +kernel
theorem dX12_read_1 : decode cX12_read 1 = .ok (.iconst 0, 1) := by decide +kernel
theorem dX12_read_2 : decode cX12_read 2 = .ok (.putfield 1, 3) := by decide +kernel
theorem dX12_read_5 : decode cX12_read 5 = .ok (.aload_n 0, 1) := by decide +kernel
theorem dX12_read_6 : decode cX12_read 6 = .ok (.aload_n 0, 1) := by decide +kernel
theorem dX12_read_7 : decode cX12_read 7 = .ok (.getfield 40, 3) := by decide +kernel
theorem dX12_read_10 : decode cX12_read 10 = .ok (.aload_n 0, 1) := by decide +kernel
theorem dX12_read_11 : decode cX12_read 11 = .ok (.getfield 443, 3) := by decide +kernel
theorem dX12_read_14 : decode cX12_read 14 = .ok (.invokevirtual 446, 3) := by decide +kernel
theorem dX12_read_17 : decode cX12_read 17 = .ok (.istore_n 1, 1) := by decide +kernel
theorem dX12_read_18 : decode cX12_read 18 = .ok (.aload_n 0, 1) := by decide +kernel
theorem dX12_read_19 : decode cX12_read 19 = .ok (.iload_n 1, 1) := by decide +kernel
theorem dX12_read_20 : decode cX12_read 20 = .ok (.ifCond .eq 7, 3) := by decide +kernel
theorem dX12_read_23 : decode cX12_read 23 = .ok (.iconst (-1), 1) := by decide +kernel
theorem dX12_read_24 : decode cX12_read 24 = .ok (.goto 7, 3) := by decide +kernel
theorem dX12_read_27 : decode cX12_read 27 = .ok (.aload_n 0, 1) := by decide +kernel
theorem dX12_read_28 : decode cX12_read 28 = .ok (.getfield 233, 3) := by decide +kernel
theorem dX12_read_31 : decode cX12_read 31 = .ok (.putfield 157, 3) := by decide +kernel
theorem dX12_read_34 : decode cX12_read 34 = .ok (.iload_n 1, 1) := by decide +kernel
theorem dX12_read_35 : decode cX12_read 35 = .ok (.ifCond .eq 7, 3) := by decide +kernel
theorem dX12_read_38 : decode cX12_read 38 = .ok (.iconst 0, 1) := by decide +kernel
theorem dX12_read_39 : decode cX12_read 39 = .ok (.goto 7, 3) := by decide +kernel
theorem dX12_read_42 : decode cX12_read 42 = .ok (.aload_n 0, 1) := by decide +kernel
theorem dX12_read_43 : decode cX12_read 43 = .ok (.getfield 230, 3) := by decide +kernel
theorem dX12_read_46 : decode cX12_read 46 = .ok (.istore_n 2, 1) := by decide +kernel
theorem dX12_read_47 : decode cX12_read 47 = .ok (.iload_n 1, 1) := by decide +kernel
theorem dX12_read_48 : decode cX12_read 48 = .ok (.ifCond .eq 42, 3) := by decide +kernel
theorem dX12_read_51 : decode cX12_read 51 = .ok (.iconst 0, 1) := by decide +kernel
theorem dX12_read_52 : decode cX12_read 52 = .ok (.istore_n 3, 1) := by decide +kernel
theorem dX12_read_53 : decode cX12_read 53 = .ok (.iload_n 3, 1) := by decide +kernel
theorem dX12_read_54 : decode cX12_read 54 = .ok (.aload_n 0, 1) := by decide +kernel
theorem dX12_read_55 : decode cX12_read 55 = .ok (.getfield 443, 3) := by decide +kernel
theorem dX12_read_58 : decode cX12_read 58 = .ok (.if_icmp .ge 21, 3) := by decide +kernel
theorem dX12_read_61 : decode cX12_read 61 = .ok (.aload_n 0, 1) := by decide +kernel
theorem dX12_read_62 : decode cX12_read 62 = .ok (.getfield 43, 3) := by decide +kernel
theorem dX12_read_65 : decode cX12_read 65 = .ok (.iload_n 3, 1) := by decide +kernel
theorem dX12_read_66 : decode cX12_read 66 = .ok (.aload_n 0, 1) := by decide +kernel
theorem dX12_read_67 : decode cX12_read 67 = .ok (.getfield 40, 3) := by decide +kernel
theorem dX12_read_70 : decode cX12_read 70 = .ok (.iload_n 3, 1) := by decide +kernel
theorem dX12_read_71 : decode cX12_read 71 = .ok (.baload, 1) := by decide +kernel
theorem dX12_read_72 : decode cX12_read 72 = .ok (.bastore, 1) := by decide +kernel
theorem dX12_read_73 : decode cX12_read 73 = .ok (.iinc 3 1, 3) := by decide +kernel
theorem dX12_read_76 : decode cX12_read 76 = .ok (.goto (-23), 3) := by decide +kernel
theorem dX12_read_79 : decode cX12_read 79 = .ok (.aload_n 0, 1) := by decide +kernel
theorem dX12_read_80 : decode cX12_read 80 = .ok (.aload_n 0, 1) := by decide +kernel
theorem dX12_read_81 : decode cX12_read 81 = .ok (.getfield 443, 3) := by decide +kernel
theorem dX12_read_84 : decode cX12_read 84 = .ok (.putfield 49, 3) := by decide +kernel
theorem dX12_read_87 : decode cX12_read 87 = .ok (.goto 23, 3) := by decide +kernel
theorem dX12_read_90 : decode cX12_read 90 = .ok (.aload_n 0, 1) := by decide +kernel
theorem dX12_read_91 : decode cX12_read 91 = .ok (.getfield 49, 3) := by decide +kernel
theorem dX12_read_94 : decode cX12_read 94 = .ok (.ifCond .lt 16, 3) := by decide +kernel
theorem dX12_read_97 : decode cX12_read 97 = .ok (.aload_n 0, 1) := by decide +kernel
theorem dX12_read_98 : decode cX12_read 98 = .ok (.aload_n 0, 1) := by decide +kernel
theorem dX12_read_99 : decode cX12_read 99 = .ok (.getfield 43, 3) := by decide +kernel
theorem dX12_read_102 : decode cX12_read 102 = .ok (.aload_n 0, 1) := by decide +kernel
theorem dX12_read_103 : decode cX12_read 103 = .ok (.getfield 49, 3) := by decide +kernel
theorem dX12_read_106 : decode cX12_read 106 = .ok (.invokevirtual 446, 3) := by decide +kernel
theorem dX12_read_109 : decode cX12_read 109 = .ok (.pop, 1) := by decide +kernel
theorem dX12_read_110 : decode cX12_read 110 = .ok (.aload_n 0, 1) := by decide +kernel
theorem dX12_read_111 : decode cX12_read 111 = .ok (.iconst (-1), 1) := by decide +kernel
theorem dX12_read_112 : decode cX12_read 112 = .ok (.putfield 160, 3) := by decide +kernel
theorem dX12_read_115 : decode cX12_read 115 = .ok (.aload_n 0, 1) := by decide +kernel
theorem dX12_read_116 : decode cX12_read 116 = .ok (.iconst 0, 1) := by decide +kernel
theorem dX12_read_117 : decode cX12_read 117 = .ok (.putfield 443, 3) := by decide +kernel
theorem dX12_read_120 : decode cX12_read 120 = .ok (.iload_n 2, 1) := by decide +kernel
theorem dX12_read_121 : decode cX12_read 121 = .ok (.ireturn, 1) := by decide +kernel
def mb_236_0 (g : xe_G) : Nat → Option mi_N := mt_node 43 (mt_node 19 (mt_node 7 (mt_node 2 (mt_node 0 (mt_leaf 0 (.inl (o_aload 0 1))) (mt_node 1 (mt_leaf 1 (.inl (o_push (.int 0) 1))) (mt_leaf 2 (.inl (o_put 12 0 (tyX12 0)))))) (mt_node 5 (mt_leaf 5 (.inl (o_aload 0 1))) (mt_node 6 (mt_leaf 6 (.inl (o_aload 0 1))) (mt_leaf 7 (.inl (o_get 12 13)))))) (mt_node 14 (mt_node 10 (mt_leaf 10 (.inl (o_aload 0 1))) (mt_node 11 (mt_leaf 11 (.inl (o_get 12 17))) (mt_leaf 14 (.inr (.inl (230, 3, some 12)))))) (mt_node 17 (mt_leaf 17 (.inl (o_isto 1 1))) (mt_node 18 (mt_leaf 18 (.inl (o_aload 0 1))) (mt_leaf 19 (.inl (o_iload 1 1))))))) (mt_node 31 (mt_node 24 (mt_node 20 (mt_leaf 20 (.inl (o_if (fun x => decide (x = 0)) 27))) (mt_node 23 (mt_leaf 23 (.inl (o_push (.int (-1)) 1))) (mt_leaf 24 (.inl (o_goto 31))))) (mt_node 27 (mt_leaf 27 (.inl (o_aload 0 1))) (mt_node 28 (mt_leaf 28 (.inl (o_get 12 48))) (mt_leaf 31 (.inl (o_put 12 73 (tyX12 73))))))) (mt_node 38 (mt_node 34 (mt_leaf 34 (.inl (o_iload 1 1))) (mt_node 35 (mt_leaf 35 (.inl (o_if (fun x => decide (x = 0)) 42))) (mt_leaf 38 (.inl (o_push (.int 0) 1))))) (mt_node 39 (mt_leaf 39 (.inl (o_goto 46))) (mt_node 42 (mt_leaf 42 (.inl (o_aload 0 1))) (mt_leaf 43 (.inl (o_get 12 47)))))))) (mt_node 65 (mt_node 53 (mt_node 48 (mt_node 46 (mt_leaf 46 (.inl (o_isto 2 1))) (mt_node 47 (mt_leaf 47 (.inl (o_iload 1 1))) (mt_leaf 48 (.inl (o_if (fun x => decide (x = 0)) 90))))) (mt_node 51 (mt_leaf 51 (.inl (o_push (.int 0) 1))) (mt_node 52 (mt_leaf 52 (.inl (o_isto 3 1))) (mt_leaf 53 (.inl (o_iload 3 1)))))) (mt_node 58 (mt_node 54 (mt_leaf 54 (.inl (o_aload 0 1))) (mt_node 55 (mt_leaf 55 (.inl (o_get 12 17))) (mt_leaf 58 (.inl (o_if2 (fun x y => decide (y ≤ x)) 79))))) (mt_node 61 (mt_leaf 61 (.inl (o_aload 0 1))) (mt_node 62 (mt_leaf 62 (.inl (o_get 12 14))) (mt_leaf 65 (.inl (o_iload 3 1))))))) (mt_node 73 (mt_node 70 (mt_node 66 (mt_leaf 66 (.inl (o_aload 0 1))) (mt_node 67 (mt_leaf 67 (.inl (o_get 12 13))) (mt_leaf 70 (.inl (o_iload 3 1))))) (mt_node 71 (mt_leaf 71 (.inl (o_ald .byte))) (mt_node 72 (mt_leaf 72 (.inl (o_ast .byte (vp_nar .byte)))) (mt_leaf 73 (.inl (o_iinc 3 1)))))) (mt_node 80 (mt_node 76 (mt_leaf 76 (.inl (o_goto 53))) (mt_node 79 (mt_leaf 79 (.inl (o_aload 0 1))) (mt_leaf 80 (.inl (o_aload 0 1))))) (mt_node 81 (mt_leaf 81 (.inl (o_get 12 17))) (mt_node 84 (mt_leaf 84 (.inl (o_put 12 18 (tyX12 18)))) (mt_leaf 87 (.inl (o_goto 110))))))))
theorem mb_236_0_ok {g : xe_G} : mt_all (mi_ent g mI (mI 236)) (mb_236_0 g) := mt_node_ok (mt_node_ok (mt_node_ok (mt_node_ok (mt_node_ok (mt_leaf_ok (en_o (sm_aload_n dX12_read_0 rfl))) (mt_node_ok (mt_leaf_ok (en_o (sm_iconst dX12_read_1 rfl))) (mt_leaf_ok (en_s (sm_put (T := TX12) (by decide) rfl bi_X12 tyX12_ok nmX12 (by decide) rfl (tyX12_ok 0 (by decide)) bg_1180 dX12_read_2))))) (mt_node_ok (mt_leaf_ok (en_o (sm_aload_n dX12_read_5 rfl))) (mt_node_ok (mt_leaf_ok (en_o (sm_aload_n dX12_read_6 rfl))) (mt_leaf_ok (en_o (sm_get (T := TX12) (by decide) rfl bi_X12 (by decide) bg_931 dX12_read_7)))))) (mt_node_ok (mt_node_ok (mt_leaf_ok (en_o (sm_aload_n dX12_read_10 rfl))) (mt_node_ok (mt_leaf_ok (en_o (sm_get (T := TX12) (by decide) rfl bi_X12 (by decide) bg_1191 dX12_read_11))) (mt_leaf_ok ((⟨by decide, bg_972, bg_1194, 446, 2, ⟨by decide, by decide, by decide +kernel⟩, bg_1193, Or.inr ⟨rfl, bg_1195, 12, _, rfl, by decide, rfl, Or.inl ⟨dX12_read_14, bg_1196⟩⟩⟩ : mi_cal _ _ _ (mI 230) _ _))))) (mt_node_ok (mt_leaf_ok (en_s (sm_istore_n dX12_read_17 rfl (by decide)))) (mt_node_ok (mt_leaf_ok (en_o (sm_aload_n dX12_read_18 rfl))) (mt_leaf_ok (en_o (sm_iload_n dX12_read_19 rfl))))))) (mt_node_ok (mt_node_ok (mt_node_ok (mt_leaf_ok (en_o (sm_if_eq dX12_read_20 (by decide)))) (mt_node_ok (mt_leaf_ok (en_o (sm_iconst dX12_read_23 rfl))) (mt_leaf_ok (en_o (sm_goto dX12_read_24 (by decide)))))) (mt_node_ok (mt_leaf_ok (en_o (sm_aload_n dX12_read_27 rfl))) (mt_node_ok (mt_leaf_ok (en_o (sm_get (T := TX12) (by decide) rfl bi_X12 (by decide) bg_1012 dX12_read_28))) (mt_leaf_ok (en_s (sm_put (T := TX12) (by decide) rfl bi_X12 tyX12_ok nmX12 (by decide) rfl (tyX12_ok 73 (by decide)) bg_964 dX12_read_31)))))) (mt_node_ok (mt_node_ok (mt_leaf_ok (en_o (sm_iload_n dX12_read_34 rfl))) (mt_node_ok (mt_leaf_ok (en_o (sm_if_eq dX12_read_35 (by decide)))) (mt_leaf_ok (en_o (sm_iconst dX12_read_38 rfl))))) (mt_node_ok (mt_leaf_ok (en_o (sm_goto dX12_read_39 (by decide)))) (mt_node_ok (mt_leaf_ok (en_o (sm_aload_n dX12_read_42 rfl))) (mt_leaf_ok (en_o (sm_get (T := TX12) (by decide) rfl bi_X12 (by decide) bg_1011 dX12_read_43)))))))) (mt_node_ok (mt_node_ok (mt_node_ok (mt_node_ok (mt_leaf_ok (en_s (sm_istore_n dX12_read_46 rfl (by decide)))) (mt_node_ok (mt_leaf_ok (en_o (sm_iload_n dX12_read_47 rfl))) (mt_leaf_ok (en_o (sm_if_eq dX12_read_48 (by decide)))))) (mt_node_ok (mt_leaf_ok (en_o (sm_iconst dX12_read_51 rfl))) (mt_node_ok (mt_leaf_ok (en_s (sm_istore_n dX12_read_52 rfl (by decide)))) (mt_leaf_ok (en_o (sm_iload_n dX12_read_53 rfl)))))) (mt_node_ok (mt_node_ok (mt_leaf_ok (en_o (sm_aload_n dX12_read_54 rfl))) (mt_node_ok (mt_leaf_ok (en_o (sm_get (T := TX12) (by decide) rfl bi_X12 (by decide) bg_1191 dX12_read_55))) (mt_leaf_ok (en_o (sm_icmp_ge dX12_read_58 (by decide)))))) (mt_node_ok (mt_leaf_ok (en_o (sm_aload_n dX12_read_61 rfl))) (mt_node_ok (mt_leaf_ok (en_o (sm_get (T := TX12) (by decide) rfl bi_X12 (by decide) bg_932 dX12_read_62))) (mt_leaf_ok (en_o (sm_iload_n dX12_read_65 rfl))))))) (mt_node_ok (mt_node_ok (mt_node_ok (mt_leaf_ok (en_o (sm_aload_n dX12_read_66 rfl))) (mt_node_ok (mt_leaf_ok (en_o (sm_get (T := TX12) (by decide) rfl bi_X12 (by decide) bg_931 dX12_read_67))) (mt_leaf_ok (en_o (sm_iload_n dX12_read_70 rfl))))) (mt_node_ok (mt_leaf_ok (en_o (sm_bald dX12_read_71))) (mt_node_ok (mt_leaf_ok (en_s (sm_bast dX12_read_72))) (mt_leaf_ok (en_s (sm_iinc dX12_read_73 rfl (by decide))))))) (mt_node_ok (mt_node_ok (mt_leaf_ok (en_o (sm_goto dX12_read_76 (by decide)))) (mt_node_ok (mt_leaf_ok (en_o (sm_aload_n dX12_read_79 rfl))) (mt_leaf_ok (en_o (sm_aload_n dX12_read_80 rfl))))) (mt_node_ok (mt_leaf_ok (en_o (sm_get (T := TX12) (by decide) rfl bi_X12 (by decide) bg_1191 dX12_read_81))) (mt_node_ok (mt_leaf_ok (en_s (sm_put (T := TX12) (by decide) rfl bi_X12 tyX12_ok nmX12 (by decide) rfl (tyX12_ok 18 (by decide)) bg_934 dX12_read_84))) (mt_leaf_ok (en_o (sm_goto dX12_read_87 (by decide)))))))))
def mb_236_1 (g : xe_G) : Nat → Option mi_N := mt_node 106 (mt_node 97 (mt_node 91 (mt_node 90 (mt_leaf 90 (.inl (o_aload 0 1))) (mt_leaf 91 (.inl (o_get 12 18)))) (mt_node 94 (mt_leaf 94 (.inl (o_if (fun x => decide (x < 0)) 110))) (mt_leaf 97 (.inl (o_aload 0 1))))) (mt_node 99 (mt_node 98 (mt_leaf 98 (.inl (o_aload 0 1))) (mt_leaf 99 (.inl (o_get 12 14)))) (mt_node 102 (mt_leaf 102 (.inl (o_aload 0 1))) (mt_node 103 (mt_leaf 103 (.inl (o_get 12 18))) (mt_leaf 106 (.inr (.inl (230, 3, some 12)))))))) (mt_node 112 (mt_node 110 (mt_node 109 (mt_leaf 109 (.inl (o_pop))) (mt_leaf 110 (.inl (o_aload 0 1)))) (mt_node 111 (mt_leaf 111 (.inl (o_push (.int (-1)) 1))) (mt_leaf 112 (.inl (o_put 12 74 (tyX12 74)))))) (mt_node 116 (mt_node 115 (mt_leaf 115 (.inl (o_aload 0 1))) (mt_leaf 116 (.inl (o_push (.int 0) 1)))) (mt_node 117 (mt_leaf 117 (.inl (o_put 12 17 (tyX12 17)))) (mt_node 120 (mt_leaf 120 (.inl (o_iload 2 1))) (mt_leaf 121 (.inr (.inr (r_int (fun _ => true)))))))))
theorem mb_236_1_ok {g : xe_G} : mt_all (mi_ent g mI (mI 236)) (mb_236_1 g) := mt_node_ok (mt_node_ok (mt_node_ok (mt_node_ok (mt_leaf_ok (en_o (sm_aload_n dX12_read_90 rfl))) (mt_leaf_ok (en_o (sm_get (T := TX12) (by decide) rfl bi_X12 (by decide) bg_934 dX12_read_91)))) (mt_node_ok (mt_leaf_ok (en_o (sm_if_lt dX12_read_94 (by decide)))) (mt_leaf_ok (en_o (sm_aload_n dX12_read_97 rfl))))) (mt_node_ok (mt_node_ok (mt_leaf_ok (en_o (sm_aload_n dX12_read_98 rfl))) (mt_leaf_ok (en_o (sm_get (T := TX12) (by decide) rfl bi_X12 (by decide) bg_932 dX12_read_99)))) (mt_node_ok (mt_leaf_ok (en_o (sm_aload_n dX12_read_102 rfl))) (mt_node_ok (mt_leaf_ok (en_o (sm_get (T := TX12) (by decide) rfl bi_X12 (by decide) bg_934 dX12_read_103))) (mt_leaf_ok ((⟨by decide, bg_972, bg_1194, 446, 2, ⟨by decide, by decide, by decide +kernel⟩, bg_1193, Or.inr ⟨rfl, bg_1195, 12, _, rfl, by decide, rfl, Or.inl ⟨dX12_read_106, bg_1196⟩⟩⟩ : mi_cal _ _ _ (mI 230) _ _))))))) (mt_node_ok (mt_node_ok (mt_node_ok (mt_leaf_ok (en_o (sm_pop dX12_read_109))) (mt_leaf_ok (en_o (sm_aload_n dX12_read_110 rfl)))) (mt_node_ok (mt_leaf_ok (en_o (sm_iconst dX12_read_111 rfl))) (mt_leaf_ok (en_s (sm_put (T := TX12) (by decide) rfl bi_X12 tyX12_ok nmX12 (by decide) rfl (tyX12_ok 74 (by decide)) bg_965 dX12_read_112))))) (mt_node_ok (mt_node_ok (mt_leaf_ok (en_o (sm_aload_n dX12_read_115 rfl))) (mt_leaf_ok (en_o (sm_iconst dX12_read_116 rfl)))) (mt_node_ok (mt_leaf_ok (en_s (sm_put (T := TX12) (by decide) rfl bi_X12 tyX12_ok nmX12 (by decide) rfl (tyX12_ok 17 (by decide)) bg_1191 dX12_read_117))) (mt_node_ok (mt_leaf_ok (en_o (sm_iload_n dX12_read_120 rfl))) (mt_leaf_ok (sr_int dX12_read_121))))))
def mb_236 (g : xe_G) : Nat × mi_B := (4, mt_node 87 (mb_236_0 g) (mb_236_1 g), mk_node 46 (mk_node 31 (mk_leaf 31 [0, 1]) (mk_leaf 46 [0, 1])) (mk_node 53 (mk_leaf 53 [0, 2, 3]) (mk_leaf 110 [0, 2])))
theorem mb_236_ok {g : xe_G} : mi_meth g mI (mI 236) (mb_236 g) := ⟨rfl, by decide, mt_node_ok (mb_236_0_ok) (mb_236_1_ok)⟩
theorem dX12_readFile_0 : decode cX12_readFile 0 = .ok (.aload_n 0, 1) := by decide +kernel
theorem dX12_readFile_1 : decode cX12_readFile 1 = .ok (.iconst 0, 1) := by decide +kernel
theorem dX12_readFile_2 : decode cX12_readFile 2 = .ok (.putfield 236, 3) := by decide +kernel
theorem dX12_readFile_5 : decode cX12_readFile 5 = .ok (.aload_n 0, 1) := by decide +kernel
theorem dX12_readFile_6 : decode cX12_readFile 6 = .ok (.ldc2_w 252, 3) := by decide +kernel
theorem dX12_readFile_9 : decode cX12_readFile 9 = .ok (.invokevirtual 254, 3) := by decide +kernel
theorem dX12_readFile_12 : decode cX12_readFile 12 = .ok (.ifCond .ne 5, 3) := by decide +kernel
theorem dX12_readFile_15 : decode cX12_readFile 15 = .ok (.iconst 0, 1) := by decide +kernel
theorem dX12_readFile_16 : decode cX12_readFile 16 = .ok (.ireturn, 1) := by decide +kernel
theorem dX12_readFile_17 : decode cX12_readFile 17 = .ok (.aload_n 0, 1) := by decide +kernel
theorem dX12_readFile_18 : decode cX12_readFile 18 = .ok (.iconst 0, 1) := by decide +kernel
theorem dX12_readFile_19 : decode cX12_readFile 19 = .ok (.invokevirtual 258, 3) := by decide +kernel
theorem dX12_readFile_22 : decode cX12_readFile 22 = .ok (.ldc2_w 262, 3) := by decide +kernel
theorem dX12_readFile_25 : decode cX12_readFile 25 = .ok (.lcmp, 1) := by decide +kernel
theorem dX12_readFile_26 : decode cX12_readFile 26 = .ok (.ifCond .eq 10, 3) := by decide +kernel
theorem dX12_readFile_29 : decode cX12_readFile 29 = .ok (.aload_n 0, 1) := by decide +kernel
theorem dX12_readFile_30 : decode cX12_readFile 30 = .ok (.iconst 2, 1) := by decide +kernel
theorem dX12_readFile_31 : decode cX12_readFile 31 = .ok (.iconst 0, 1) := by decide +kernel
theorem dX12_readFile_32 : decode cX12_readFile 32 = .ok (.invokevirtual 242, 3) := by decide +kernel
theorem dX12_readFile_35 : decode cX12_readFile 35 = .ok (.ireturn, 1) := by decide +kernel
theorem dX12_readFile_36 : decode cX12_readFile 36 = .ok (.aload_n 0, 1) := by decide +kernel
theorem dX12_readFile_37 : decode cX12_readFile 37 = .ok (.iconst 4, 1) := by decide +kernel
theorem dX12_readFile_38 : decode cX12_readFile 38 = .ok (.putfield 236, 3) := by decide +kernel
theorem dX12_readFile_41 : decode cX12_readFile 41 = .ok (.aload_n 0, 1) := by decide +kernel
theorem dX12_readFile_42 : decode cX12_readFile 42 = .ok (.ldc2_w 264, 3) := by decide +kernel
theorem dX12_readFile_45 : decode cX12_readFile 45 = .ok (.invokevirtual 254, 3) := by decide +kernel
theorem dX12_readFile_48 : decode cX12_readFile 48 = .ok (.ifCond .ne 5, 3) := by decide +kernel
theorem dX12_readFile_51 : decode cX12_readFile 51 = .ok (.iconst 0, 1) := by decide +kernel
theorem dX12_readFile_52 : decode cX12_readFile 52 = .ok (.ireturn, 1) := by decide +kernel
theorem dX12_readFile_53 : decode cX12_readFile 53 = .ok (.aload_n 0, 1) := by decide +kernel
theorem dX12_readFile_54 : decode cX12_readFile 54 = .ok (.bipush 6, 2) := by decide +kernel
theorem dX12_readFile_56 : decode cX12_readFile 56 = .ok (.putfield 236, 3) := by decide +kernel
theorem dX12_readFile_59 : decode cX12_readFile 59 = .ok (.aload_n 0, 1) := by decide +kernel
theorem dX12_readFile_60 : decode cX12_readFile 60 = .ok (.ldc2_w 264, 3) := by decide +kernel
theorem dX12_readFile_63 : decode cX12_readFile 63 = .ok (.invokevirtual 254, 3) := by decide +kernel
theorem dX12_readFile_66 : decode cX12_readFile 66 = .ok (.ifCond .ne 5, 3) := by decide +kernel
theorem dX12_readFile_69 : decode cX12_readFile 69 = .ok (.iconst 0, 1) := by decide +kernel
theorem dX12_readFile_70 : decode cX12_readFile 70 = .ok (.ireturn, 1) := by decide +kernel
theorem dX12_readFile_71 : decode cX12_readFile 71 = .ok (.aload_n 0, 1) := by decide +kernel
theorem dX12_readFile_72 : decode cX12_readFile 72 = .ok (.aload_n 0, 1) := by decide +kernel
theorem dX12_readFile_73 : decode cX12_readFile 73 = .ok (.bipush 6, 2) := by decide +kernel
theorem dX12_readFile_75 : decode cX12_readFile 75 = .ok (.invokevirtual 227, 3) := by decide +kernel
theorem dX12_readFile_78 : decode cX12_readFile 78 = .ok (.putfield 266, 3) := by decide +kernel
theorem dX12_readFile_81 : decode cX12_readFile 81 = .ok (.aload_n 0, 1) := by decide +kernel
theorem dX12_readFile_82 : decode cX12_readFile 82 = .ok (.getfield 266, 3) := by decide +kernel
theorem dX12_readFile_85 : decode cX12_readFile 85 = .ok (.bipush 45, 2) := by decide +kernel
theorem dX12_readFile_87 : decode cX12_readFile 87 = .ok (.if_icmp .lt 29, 3) := by decide +kernel
theorem dX12_readFile_90 : decode cX12_readFile 90 = .ok (.aload_n 0, 1) := by decide +kernel
theorem dX12_readFile_91 : decode cX12_readFile 91 = .ok (.getfield 266, 3) := by decide +kernel
theorem dX12_readFile_94 : decode cX12_readFile 94 = .ok (.bipush 61, 2) := by decide +kernel
theorem dX12_readFile_96 : decode cX12_readFile 96 = .ok (.if_icmp .gt 20, 3) := by decide +kernel
theorem dX12_readFile_99 : decode cX12_readFile 99 = .ok (.aload_n 0, 1) := by decide +kernel
theorem dX12_readFile_100 : decode cX12_readFile 100 = .ok (.getfield 266, 3) := by decide +kernel
theorem dX12_readFile_103 : decode cX12_readFile 103 = .ok (.bipush 56, 2) := by decide +kernel
theorem dX12_readFile_105 : decode cX12_readFile 105 = .ok (.if_icmp .lt 18, 3) := by decide +kernel
theorem dX12_readFile_108 : decode cX12_readFile 108 = .ok (.aload_n 0, 1) := by decide +kernel
theorem dX12_readFile_109 : decode cX12_readFile 109 = .ok (.iconst 4, 1) := by decide +kernel
theorem dX12_readFile_110 : decode cX12_readFile 110 = .ok (.invokevirtual 227, 3) := by decide +kernel
theorem dX12_readFile_113 : decode cX12_readFile 113 = .ok (.ifCond .eq 10, 3) := by decide +kernel
theorem dX12_readFile_116 : decode cX12_readFile 116 = .ok (.aload_n 0, 1) := by decide +kernel
theorem dX12_readFile_117 : decode cX12_readFile 117 = .ok (.iconst 3, 1) := by decide +kernel
theorem dX12_readFile_118 : decode cX12_readFile 118 = .ok (.iconst 4, 1) := by decide +kernel
theorem dX12_readFile_119 : decode cX12_readFile 119 = .ok (.invokevirtual 242, 3) := by decide +kernel
theorem dX12_readFile_122 : decode cX12_readFile 122 = .ok (.ireturn, 1) := by decide +kernel
theorem dX12_readFile_123 : decode cX12_readFile 123 = .ok (.aload_n 0, 1) := by decide +kernel
theorem dX12_readFile_124 : decode cX12_readFile 124 = .ok (.bipush 8, 2) := by decide +kernel
theorem dX12_readFile_126 : decode cX12_readFile 126 = .ok (.putfield 236, 3) := by decide +kernel
theorem dX12_readFile_129 : decode cX12_readFile 129 = .ok (.aload_n 0, 1) := by decide +kernel
theorem dX12_readFile_130 : decode cX12_readFile 130 = .ok (.ldc2_w 264, 3) := by decide +kernel
theorem dX12_readFile_133 : decode cX12_readFile 133 = .ok (.invokevirtual 254, 3) := by decide +kernel
theorem dX12_readFile_136 : decode cX12_readFile 136 = .ok (.ifCond .ne 5, 3) := by decide +kernel
theorem dX12_readFile_139 : decode cX12_readFile 139 = .ok (.iconst 0, 1) := by decide +kernel
theorem dX12_readFile_140 : decode cX12_readFile 140 = .ok (.ireturn, 1) := by decide +kernel
theorem dX12_readFile_141 : decode cX12_readFile 141 = .ok (.aload_n 0, 1) := by decide +kernel
theorem dX12_readFile_142 : decode cX12_readFile 142 = .ok (.aload_n 0, 1) := by decide +kernel
theorem dX12_readFile_143 : decode cX12_readFile 143 = .ok (.bipush 8, 2) := by decide +kernel
theorem dX12_readFile_145 : decode cX12_readFile 145 = .ok (.invokevirtual 227, 3) := by decide +kernel
theorem dX12_readFile_148 : decode cX12_readFile 148 = .ok (.putfield 246, 3) := by decide +kernel
theorem dX12_readFile_151 : decode cX12_readFile 151 = .ok (.aload_n 0, 1) := by decide +kernel
theorem dX12_readFile_152 : decode cX12_readFile 152 = .ok (.getfield 246, 3) := by decide +kernel
theorem dX12_readFile_155 : decode cX12_readFile 155 = .ok (.ifCond .ne 11, 3) := by decide +kernel
theorem dX12_readFile_158 : decode cX12_readFile 158 = .ok (.aload_n 0, 1) := by decide +kernel
theorem dX12_readFile_159 : decode cX12_readFile 159 = .ok (.iconst 4, 1) := by decide +kernel
theorem dX12_readFile_160 : decode cX12_readFile 160 = .ok (.bipush 8, 2) := by decide +kernel
theorem dX12_readFile_162 : decode cX12_readFile 162 = .ok (.invokevirtual 242, 3) := by decide +kernel
theorem dX12_readFile_165 : decode cX12_readFile 165 = .ok (.ireturn, 1) := by decide +kernel
theorem dX12_readFile_166 : decode cX12_readFile 166 = .ok (.aload_n 0, 1) := by decide +kernel
theorem dX12_readFile_167 : decode cX12_readFile 167 = .ok (.bipush 10, 2) := by decide +kernel
theorem dX12_readFile_169 : decode cX12_readFile 169 = .ok (.putfield 236, 3) := by decide +kernel
theorem dX12_readFile_172 : decode cX12_readFile 172 = .ok (.aload_n 0, 1) := by decide +kernel
theorem dX12_readFile_173 : decode cX12_readFile 173 = .ok (.invokevirtual 269, 3) := by decide +kernel
theorem dX12_readFile_176 : decode cX12_readFile 176 = .ok (.ifCond .ne 5, 3) := by decide +kernel
theorem dX12_readFile_179 : decode cX12_readFile 179 = .ok (.iconst 0, 1) := by decide +kernel
theorem dX12_readFile_180 : decode cX12_readFile 180 = .ok (.ireturn, 1) := by decide +kernel
theorem dX12_readFile_181 : decode cX12_readFile 181 = .ok (.aload_n 0, 1) := by decide +kernel
theorem dX12_readFile_182 : decode cX12_readFile 182 = .ok (.aload_n 0, 1) := by decide +kernel
theorem dX12_readFile_183 : decode cX12_readFile 183 = .ok (.getfield 236, 3) := by decide +kernel
theorem dX12_readFile_186 : decode cX12_readFile 186 = .ok (.putfield 273, 3) := by decide +kernel
theorem dX12_readFile_189 : decode cX12_readFile 189 = .ok (.iconst 0, 1) := by decide +kernel
theorem dX12_readFile_190 : decode cX12_readFile 190 = .ok (.istore_n 1, 1) := by decide +kernel
theorem dX12_readFile_191 : decode cX12_readFile 191 = .ok (.iload_n 1, 1) := by decide +kernel
theorem dX12_readFile_192 : decode cX12_readFile 192 = .ok (.iconst 4, 1) := by decide +kernel
theorem dX12_readFile_193 : decode cX12_readFile 193 = .ok (.if_icmp .ge 31, 3) := by decide +kernel
theorem dX12_readFile_196 : decode cX12_readFile 196 = .ok (.aload_n 0, 1) := by decide +kernel
theorem dX12_readFile_197 : decode cX12_readFile 197 = .ok (.ldc2_w 264, 3) := by decide +kernel
theorem dX12_readFile_200 : decode cX12_readFile 200 = .ok (.invokevirtual 254, 3) := by decide +kernel
theorem dX12_readFile_203 : decode cX12_readFile 203 = .ok (.ifCond .ne 5, 3) := by decide +kernel
theorem dX12_readFile_206 : decode cX12_readFile 206 = .ok (.iconst 0, 1) := by decide +kernel
theorem dX12_readFile_207 : decode cX12_readFile 207 = .ok (.ireturn, 1) := by decide +kernel
theorem dX12_readFile_208 : decode cX12_readFile 208 = .ok (.aload_n 0, 1) := by decide +kernel
theorem dX12_readFile_209 : decode cX12_readFile 209 = .ok (.dup, 1) := by decide +kernel
theorem dX12_readFile_210 : decode cX12_readFile 210 = .ok (.getfield 236, 3) := by decide +kernel
theorem dX12_readFile_213 : decode cX12_readFile 213 = .ok (.iconst 2, 1) := by decide +kernel
theorem dX12_readFile_214 : decode cX12_readFile 214 = .ok (.iadd, 1) := by decide +kernel
theorem dX12_readFile_215 : decode cX12_readFile 215 = .ok (.putfield 236, 3) := by decide +kernel
theorem dX12_readFile_218 : decode cX12_readFile 218 = .ok (.iinc 1 1, 3) := by decide +kernel
theorem dX12_readFile_221 : decode cX12_readFile 221 = .ok (.goto (-30), 3) := by decide +kernel
theorem dX12_readFile_224 : decode cX12_readFile 224 = .ok (.aload_n 0, 1) := by decide +kernel
theorem dX12_readFile_225 : decode cX12_readFile 225 = .ok (.aload_n 0, 1) := by decide +kernel
theorem dX12_readFile_226 : decode cX12_readFile 226 = .ok (.getfield 236, 3) := by decide +kernel
theorem dX12_readFile_229 : decode cX12_readFile 229 = .ok (.iconst 2, 1) := by decide +kernel
theorem dX12_readFile_230 : decode cX12_readFile 230 = .ok (.isub, 1) := by decide +kernel
theorem dX12_readFile_231 : decode cX12_readFile 231 = .ok (.invokevirtual 227, 3) := by decide +kernel
theorem dX12_readFile_234 : decode cX12_readFile 234 = .ok (.istore_n 1, 1) := by decide +kernel
theorem dX12_readFile_235 : decode cX12_readFile 235 = .ok (.iconst 0, 1) := by decide +kernel
theorem dX12_readFile_236 : decode cX12_readFile 236 = .ok (.istore_n 2, 1) := by decide +kernel
theorem dX12_readFile_237 : decode cX12_readFile 237 = .ok (.iload_n 2, 1) := by decide +kernel
theorem dX12_readFile_238 : decode cX12_readFile 238 = .ok (.iload_n 1, 1) := by decide +kernel
theorem dX12_readFile_239 : decode cX12_readFile 239 = .ok (.if_icmp .ge 31, 3) := by decide +kernel
theorem dX12_readFile_242 : decode cX12_readFile 242 = .ok (.aload_n 0, 1) := by decide +kernel
theorem dX12_readFile_243 : decode cX12_readFile 243 = .ok (.ldc2_w 264, 3) := by decide +kernel
theorem dX12_readFile_246 : decode cX12_readFile 246 = .ok (.invokevirtual 254, 3) := by decide +kernel
theorem dX12_readFile_249 : decode cX12_readFile 249 = .ok (.ifCond .ne 5, 3) := by decide +kernel
theorem dX12_readFile_252 : decode cX12_readFile 252 = .ok (.iconst 0, 1) := by decide +kernel
theorem dX12_readFile_253 : decode cX12_readFile 253 = .ok (.ireturn, 1) := by decide +kernel
theorem dX12_readFile_254 : decode cX12_readFile 254 = .ok (.aload_n 0, 1) := by decide +kernel
theorem dX12_readFile_255 : decode cX12_readFile 255 = .ok (.dup, 1) := by decide +kernel
theorem dX12_readFile_256 : decode cX12_readFile 256 = .ok (.getfield 236, 3) := by decide +kernel
theorem dX12_readFile_259 : decode cX12_readFile 259 = .ok (.iconst 2, 1) := by decide +kernel
theorem dX12_readFile_260 : decode cX12_readFile 260 = .ok (.iadd, 1) := by decide +kernel
theorem dX12_readFile_261 : decode cX12_readFile 261 = .ok (.putfield 236, 3) := by decide +kernel
theorem dX12_readFile_264 : decode cX12_readFile 264 = .ok (.iinc 2 1, 3) := by decide +kernel
theorem dX12_readFile_267 : decode cX12_readFile 267 = .ok (.goto (-30), 3) := by decide +kernel
theorem dX12_readFile_270 : decode cX12_readFile 270 = .ok (.aload_n 0, 1) := by decide +kernel
theorem dX12_readFile_271 : decode cX12_readFile 271 = .ok (.aload_n 0, 1) := by decide +kernel
theorem dX12_readFile_272 : decode cX12_readFile 272 = .ok (.getfield 236, 3) := by decide +kernel
theorem dX12_readFile_275 : decode cX12_readFile 275 = .ok (.putfield 276, 3) := by decide +kernel
theorem dX12_readFile_278 : decode cX12_readFile 278 = .ok (.aload_n 0, 1) := by decide +kernel
theorem dX12_readFile_279 : decode cX12_readFile 279 = .ok (.invokevirtual 279, 3) := by decide +kernel
theorem dX12_readFile_282 : decode cX12_readFile 282 = .ok (.ifCond .ne 5, 3) := by decide +kernel
theorem dX12_readFile_285 : decode cX12_readFile 285 = .ok (.iconst 0, 1) := by decide +kernel
theorem dX12_readFile_286 : decode cX12_readFile 286 = .ok (.ireturn, 1) := by decide +kernel
theorem dX12_readFile_287 : decode cX12_readFile 287 = .ok (.aload_n 0, 1) := by decide +kernel
theorem dX12_readFile_288 : decode cX12_readFile 288 = .ok (.aload_n 0, 1) := by decide +kernel
theorem dX12_readFile_289 : decode cX12_readFile 289 = .ok (.getfield 236, 3) := by decide +kernel
theorem dX12_readFile_292 : decode cX12_readFile 292 = .ok (.putfield 282, 3) := by decide +kernel
theorem dX12_readFile_295 : decode cX12_readFile 295 = .ok (.aload_n 0, 1) := by decide +kernel
theorem dX12_readFile_296 : decode cX12_readFile 296 = .ok (.invokevirtual 279, 3) := by decide +kernel
theorem dX12_readFile_299 : decode cX12_readFile 299 = .ok (.ifCond .ne 5, 3) := by decide +kernel
theorem dX12_readFile_302 : decode cX12_readFile 302 = .ok (.iconst 0, 1) := by decide +kernel
theorem dX12_readFile_303 : decode cX12_readFile 303 = .ok (.ireturn, 1) := by decide +kernel
theorem dX12_readFile_304 : decode cX12_readFile 304 = .ok (.aload_n 0, 1) := by decide +kernel
theorem dX12_readFile_305 : decode cX12_readFile 305 = .ok (.aload_n 0, 1) := by decide +kernel
theorem dX12_readFile_306 : decode cX12_readFile 306 = .ok (.getfield 236, 3) := by decide +kernel
theorem dX12_readFile_309 : decode cX12_readFile 309 = .ok (.putfield 285, 3) := by decide +kernel
theorem dX12_readFile_312 : decode cX12_readFile 312 = .ok (.aload_n 0, 1) := by decide +kernel
theorem dX12_readFile_313 : decode cX12_readFile 313 = .ok (.invokevirtual 288, 3) := by decide +kernel
theorem dX12_readFile_316 : decode cX12_readFile 316 = .ok (.ifCond .ne 5, 3) := by decide +kernel
theorem dX12_readFile_319 : decode cX12_readFile 319 = .ok (.iconst 0, 1) := by decide +kernel
theorem dX12_readFile_320 : decode cX12_readFile 320 = .ok (.ireturn, 1) := by decide +kernel
theorem dX12_readFile_321 : decode cX12_readFile 321 = .ok (.aload_n 0, 1) := by decide +kernel
theorem dX12_readFile_322 : decode cX12_readFile 322 = .ok (.getfield 236, 3) := by decide +kernel
theorem dX12_readFile_325 : decode cX12_readFile 325 = .ok (.aload_n 0, 1) := by decide +kernel
theorem dX12_readFile_326 : decode cX12_readFile 326 = .ok (.getfield 239, 3) := by decide +kernel
theorem dX12_readFile_329 : decode cX12_readFile 329 = .ok (.if_icmp .eq 16, 3) := by decide +kernel
theorem dX12_readFile_332 : decode cX12_readFile 332 = .ok (.aload_n 0, 1) := by decide +kernel
theorem dX12_readFile_333 : decode cX12_readFile 333 = .ok (.bipush 8, 2) := by decide +kernel
theorem dX12_readFile_335 : decode cX12_readFile 335 = .ok (.aload_n 0, 1) := by decide +kernel
theorem dX12_readFile_336 : decode cX12_readFile 336 = .ok (.getfield 236, 3) := by decide +kernel
theorem dX12_readFile_339 : decode cX12_readFile 339 = .ok (.invokevirtual 242, 3) := by decide +kernel
theorem dX12_readFile_342 : decode cX12_readFile 342 = .ok (.ifCond .eq 7, 3) := by decide +kernel
theorem dX12_readFile_345 : decode cX12_readFile 345 = .ok (.iconst 1, 1) := by decide +kernel
theorem dX12_readFile_346 : decode cX12_readFile 346 = .ok (.goto 4, 3) := by decide +kernel
theorem dX12_readFile_349 : decode cX12_readFile 349 = .ok (.iconst 0, 1) := by decide +kernel
theorem dX12_readFile_350 : decode cX12_readFile 350 = .ok (.ireturn, 1) := by decide +kernel
def mb_237_0 (g : xe_G) : Nat → Option mi_N := mt_node 41 (mt_node 19 (mt_node 9 (mt_node 2 (mt_node 0 (mt_leaf 0 (.inl (o_aload 0 1))) (mt_node 1 (mt_leaf 1 (.inl (o_push (.int 0) 1))) (mt_leaf 2 (.inl (o_put 12 50 (tyX12 50)))))) (mt_node 5 (mt_leaf 5 (.inl (o_aload 0 1))) (mt_node 6 (mt_leaf 6 (.inl (o_push (.long 4) 3))) (mt_leaf 9 (.inr (.inl (219, 2, some 12))))))) (mt_node 16 (mt_node 12 (mt_leaf 12 (.inl (o_if (fun x => decide (¬ x = 0)) 17))) (mt_node 15 (mt_leaf 15 (.inl (o_push (.int 0) 1))) (mt_leaf 16 (.inr (.inr (r_int mi_cz)))))) (mt_node 17 (mt_leaf 17 (.inl (o_aload 0 1))) (mt_node 18 (mt_leaf 18 (.inl (o_push (.int 0) 1))) (mt_leaf 19 (.inr (.inl (250, 2, some 12)))))))) (mt_node 31 (mt_node 26 (mt_node 22 (mt_leaf 22 (.inl (o_push (.long 3405691582) 3))) (mt_node 25 (mt_leaf 25 (.inl (o_lcmp))) (mt_leaf 26 (.inl (o_if (fun x => decide (x = 0)) 36))))) (mt_node 29 (mt_leaf 29 (.inl (o_aload 0 1))) (mt_node 30 (mt_leaf 30 (.inl (o_push (.int 2) 1))) (mt_leaf 31 (.inl (o_push (.int 0) 1)))))) (mt_node 36 (mt_node 32 (mt_leaf 32 (.inr (.inl (256, 3, some 12)))) (mt_node 35 (mt_leaf 35 (.inr (.inr (r_int mi_cz)))) (mt_leaf 36 (.inl (o_aload 0 1))))) (mt_node 37 (mt_leaf 37 (.inl (o_push (.int 4) 1))) (mt_node 38 (mt_leaf 38 (.inl (o_put 12 50 (tyX12 50)))) (mt_leaf 41 (.inl (o_aload 0 1)))))))) (mt_node 66 (mt_node 53 (mt_node 48 (mt_node 42 (mt_leaf 42 (.inl (o_push (.long 2) 3))) (mt_node 45 (mt_leaf 45 (.inr (.inl (219, 2, some 12)))) (mt_leaf 48 (.inl (o_if (fun x => decide (¬ x = 0)) 53))))) (mt_node 51 (mt_leaf 51 (.inl (o_push (.int 0) 1))) (mt_node 52 (mt_leaf 52 (.inr (.inr (r_int mi_cz)))) (mt_leaf 53 (.inl (o_aload 0 1)))))) (mt_node 59 (mt_node 54 (mt_leaf 54 (.inl (o_push (.int 6) 2))) (mt_node 56 (mt_leaf 56 (.inl (o_put 12 50 (tyX12 50)))) (mt_leaf 59 (.inl (o_aload 0 1))))) (mt_node 60 (mt_leaf 60 (.inl (o_push (.long 2) 3))) (mt_node 63 (mt_leaf 63 (.inr (.inl (219, 2, some 12)))) (mt_leaf 66 (.inl (o_if (fun x => decide (¬ x = 0)) 71))))))) (mt_node 75 (mt_node 71 (mt_node 69 (mt_leaf 69 (.inl (o_push (.int 0) 1))) (mt_node 70 (mt_leaf 70 (.inr (.inr (r_int mi_cz)))) (mt_leaf 71 (.inl (o_aload 0 1))))) (mt_node 72 (mt_leaf 72 (.inl (o_aload 0 1))) (mt_node 73 (mt_leaf 73 (.inl (o_push (.int 6) 2))) (mt_leaf 75 (.inr (.inl (249, 2, some 12))))))) (mt_node 82 (mt_node 78 (mt_leaf 78 (.inl (o_put 12 53 (tyX12 53)))) (mt_node 81 (mt_leaf 81 (.inl (o_aload 0 1))) (mt_leaf 82 (.inl (o_get 12 53))))) (mt_node 85 (mt_leaf 85 (.inl (o_push (.int 45) 2))) (mt_node 87 (mt_leaf 87 (.inl (o_if2 (fun x y => decide (x < y)) 116))) (mt_leaf 90 (.inl (o_aload 0 1))))))))
theorem mb_237_0_ok {g : xe_G} : mt_all (mi_ent g mI (mI 237)) (mb_237_0 g) := mt_node_ok (mt_node_ok (mt_node_ok (mt_node_ok (mt_node_ok (mt_leaf_ok (en_o (sm_aload_n dX12_readFile_0 rfl))) (mt_node_ok (mt_leaf_ok (en_o (sm_iconst dX12_readFile_1 rfl))) (mt_leaf_ok (en_s (sm_put (T := TX12) (by decide) rfl bi_X12 tyX12_ok nmX12 (by decide) rfl (tyX12_ok 50 (by decide)) bg_1014 dX12_readFile_2))))) (mt_node_ok (mt_leaf_ok (en_o (sm_aload_n dX12_readFile_5 rfl))) (mt_node_ok (mt_leaf_ok (en_o (sm_ldc2 bg_1025 dX12_readFile_6))) (mt_leaf_ok ((⟨by decide, bg_972, bg_1013, 254, 1, ⟨by decide, by decide, by decide +kernel⟩, bg_1026, Or.inr ⟨rfl, bg_1027, 12, _, rfl, by decide, rfl, Or.inl ⟨dX12_readFile_9, bg_1028⟩⟩⟩ : mi_cal _ _ _ (mI 219) _ _)))))) (mt_node_ok (mt_node_ok (mt_leaf_ok (en_o (sm_if_ne dX12_readFile_12 (by decide)))) (mt_node_ok (mt_leaf_ok (en_o (sm_iconst dX12_readFile_15 rfl))) (mt_leaf_ok (sr_nar mi_cz_ok dX12_readFile_16)))) (mt_node_ok (mt_leaf_ok (en_o (sm_aload_n dX12_readFile_17 rfl))) (mt_node_ok (mt_leaf_ok (en_o (sm_iconst dX12_readFile_18 rfl))) (mt_leaf_ok ((⟨by decide, bg_972, bg_1006, 258, 1, ⟨by decide, by decide, by decide +kernel⟩, bg_1029, Or.inr ⟨rfl, bg_1030, 12, _, rfl, by decide, rfl, Or.inl ⟨dX12_readFile_19, bg_1031⟩⟩⟩ : mi_cal _ _ _ (mI 250) _ _))))))) (mt_node_ok (mt_node_ok (mt_node_ok (mt_leaf_ok (en_o (sm_ldc2 bg_1032 dX12_readFile_22))) (mt_node_ok (mt_leaf_ok (en_o (sm_lcmp dX12_readFile_25))) (mt_leaf_ok (en_o (sm_if_eq dX12_readFile_26 (by decide)))))) (mt_node_ok (mt_leaf_ok (en_o (sm_aload_n dX12_readFile_29 rfl))) (mt_node_ok (mt_leaf_ok (en_o (sm_iconst dX12_readFile_30 rfl))) (mt_leaf_ok (en_o (sm_iconst dX12_readFile_31 rfl)))))) (mt_node_ok (mt_node_ok (mt_leaf_ok ((⟨by decide, bg_972, bg_1010, 242, 2, ⟨by decide, by decide, by decide +kernel⟩, bg_1016, Or.inr ⟨rfl, bg_1017, 12, _, rfl, by decide, rfl, Or.inl ⟨dX12_readFile_32, bg_1018⟩⟩⟩ : mi_cal _ _ _ (mI 256) _ _))) (mt_node_ok (mt_leaf_ok (sr_nar mi_cz_ok dX12_readFile_35)) (mt_leaf_ok (en_o (sm_aload_n dX12_readFile_36 rfl))))) (mt_node_ok (mt_leaf_ok (en_o (sm_iconst dX12_readFile_37 rfl))) (mt_node_ok (mt_leaf_ok (en_s (sm_put (T := TX12) (by decide) rfl bi_X12 tyX12_ok nmX12 (by decide) rfl (tyX12_ok 50 (by decide)) bg_1014 dX12_readFile_38))) (mt_leaf_ok (en_o (sm_aload_n dX12_readFile_41 rfl)))))))) (mt_node_ok (mt_node_ok (mt_node_ok (mt_node_ok (mt_leaf_ok (en_o (sm_ldc2 bg_1033 dX12_readFile_42))) (mt_node_ok (mt_leaf_ok ((⟨by decide, bg_972, bg_1013, 254, 1, ⟨by decide, by decide, by decide +kernel⟩, bg_1026, Or.inr ⟨rfl, bg_1027, 12, _, rfl, by decide, rfl, Or.inl ⟨dX12_readFile_45, bg_1028⟩⟩⟩ : mi_cal _ _ _ (mI 219) _ _))) (mt_leaf_ok (en_o (sm_if_ne dX12_readFile_48 (by decide)))))) (mt_node_ok (mt_leaf_ok (en_o (sm_iconst dX12_readFile_51 rfl))) (mt_node_ok (mt_leaf_ok (sr_nar mi_cz_ok dX12_readFile_52)) (mt_leaf_ok (en_o (sm_aload_n dX12_readFile_53 rfl)))))) (mt_node_ok (mt_node_ok (mt_leaf_ok (en_o (sm_bipush dX12_readFile_54 rfl))) (mt_node_ok (mt_leaf_ok (en_s (sm_put (T := TX12) (by decide) rfl bi_X12 tyX12_ok nmX12 (by decide) rfl (tyX12_ok 50 (by decide)) bg_1014 dX12_readFile_56))) (mt_leaf_ok (en_o (sm_aload_n dX12_readFile_59 rfl))))) (mt_node_ok (mt_leaf_ok (en_o (sm_ldc2 bg_1033 dX12_readFile_60))) (mt_node_ok (mt_leaf_ok ((⟨by decide, bg_972, bg_1013, 254, 1, ⟨by decide, by decide, by decide +kernel⟩, bg_1026, Or.inr ⟨rfl, bg_1027, 12, _, rfl, by decide, rfl, Or.inl ⟨dX12_readFile_63, bg_1028⟩⟩⟩ : mi_cal _ _ _ (mI 219) _ _))) (mt_leaf_ok (en_o (sm_if_ne dX12_readFile_66 (by decide)))))))) (mt_node_ok (mt_node_ok (mt_node_ok (mt_leaf_ok (en_o (sm_iconst dX12_readFile_69 rfl))) (mt_node_ok (mt_leaf_ok (sr_nar mi_cz_ok dX12_readFile_70)) (mt_leaf_ok (en_o (sm_aload_n dX12_readFile_71 rfl))))) (mt_node_ok (mt_leaf_ok (en_o (sm_aload_n dX12_readFile_72 rfl))) (mt_node_ok (mt_leaf_ok (en_o (sm_bipush dX12_readFile_73 rfl))) (mt_leaf_ok ((⟨by decide, bg_972, bg_1002, 227, 1, ⟨by decide, by decide, by decide +kernel⟩, bg_1007, Or.inr ⟨rfl, bg_1008, 12, _, rfl, by decide, rfl, Or.inl ⟨dX12_readFile_75, bg_1009⟩⟩⟩ : mi_cal _ _ _ (mI 249) _ _)))))) (mt_node_ok (mt_node_ok (mt_leaf_ok (en_s (sm_put (T := TX12) (by decide) rfl bi_X12 tyX12_ok nmX12 (by decide) rfl (tyX12_ok 53 (by decide)) bg_1034 dX12_readFile_78))) (mt_node_ok (mt_leaf_ok (en_o (sm_aload_n dX12_readFile_81 rfl))) (mt_leaf_ok (en_o (sm_get (T := TX12) (by decide) rfl bi_X12 (by decide) bg_1034 dX12_readFile_82))))) (mt_node_ok (mt_leaf_ok (en_o (sm_bipush dX12_readFile_85 rfl))) (mt_node_ok (mt_leaf_ok (en_o (sm_icmp_lt dX12_readFile_87 (by decide)))) (mt_leaf_ok (en_o (sm_aload_n dX12_readFile_90 rfl))))))))
def mb_237_1 (g : xe_G) : Nat → Option mi_N := mt_node 139 (mt_node 116 (mt_node 103 (mt_node 96 (mt_node 91 (mt_leaf 91 (.inl (o_get 12 53))) (mt_node 94 (mt_leaf 94 (.inl (o_push (.int 61) 2))) (mt_leaf 96 (.inl (o_if2 (fun x y => decide (y < x)) 116))))) (mt_node 99 (mt_leaf 99 (.inl (o_aload 0 1))) (mt_node 100 (mt_leaf 100 (.inl (o_get 12 53))) (mt_leaf 103 (.inl (o_push (.int 56) 2)))))) (mt_node 109 (mt_node 105 (mt_leaf 105 (.inl (o_if2 (fun x y => decide (x < y)) 123))) (mt_node 108 (mt_leaf 108 (.inl (o_aload 0 1))) (mt_leaf 109 (.inl (o_push (.int 4) 1))))) (mt_node 110 (mt_leaf 110 (.inr (.inl (249, 2, some 12)))) (mt_node 113 (mt_leaf 113 (.inl (o_if (fun x => decide (x = 0)) 123))) (mt_leaf 116 (.inl (o_aload 0 1))))))) (mt_node 124 (mt_node 119 (mt_node 117 (mt_leaf 117 (.inl (o_push (.int 3) 1))) (mt_node 118 (mt_leaf 118 (.inl (o_push (.int 4) 1))) (mt_leaf 119 (.inr (.inl (256, 3, some 12)))))) (mt_node 122 (mt_leaf 122 (.inr (.inr (r_int mi_cz)))) (mt_node 123 (mt_leaf 123 (.inl (o_aload 0 1))) (mt_leaf 124 (.inl (o_push (.int 8) 2)))))) (mt_node 130 (mt_node 126 (mt_leaf 126 (.inl (o_put 12 50 (tyX12 50)))) (mt_node 129 (mt_leaf 129 (.inl (o_aload 0 1))) (mt_leaf 130 (.inl (o_push (.long 2) 3))))) (mt_node 133 (mt_leaf 133 (.inr (.inl (219, 2, some 12)))) (mt_node 136 (mt_leaf 136 (.inl (o_if (fun x => decide (¬ x = 0)) 141))) (mt_leaf 139 (.inl (o_push (.int 0) 1)))))))) (mt_node 160 (mt_node 148 (mt_node 142 (mt_node 140 (mt_leaf 140 (.inr (.inr (r_int mi_cz)))) (mt_node 141 (mt_leaf 141 (.inl (o_aload 0 1))) (mt_leaf 142 (.inl (o_aload 0 1))))) (mt_node 143 (mt_leaf 143 (.inl (o_push (.int 8) 2))) (mt_node 145 (mt_leaf 145 (.inr (.inl (249, 2, some 12)))) (mt_leaf 148 (.inl (o_put 12 52 (tyX12 52))))))) (mt_node 155 (mt_node 151 (mt_leaf 151 (.inl (o_aload 0 1))) (mt_node 152 (mt_leaf 152 (.inl (o_get 12 52))) (mt_leaf 155 (.inl (o_if (fun x => decide (¬ x = 0)) 166))))) (mt_node 158 (mt_leaf 158 (.inl (o_aload 0 1))) (mt_node 159 (mt_leaf 159 (.inl (o_push (.int 4) 1))) (mt_leaf 160 (.inl (o_push (.int 8) 2))))))) (mt_node 172 (mt_node 166 (mt_node 162 (mt_leaf 162 (.inr (.inl (256, 3, some 12)))) (mt_node 165 (mt_leaf 165 (.inr (.inr (r_int mi_cz)))) (mt_leaf 166 (.inl (o_aload 0 1))))) (mt_node 167 (mt_leaf 167 (.inl (o_push (.int 10) 2))) (mt_node 169 (mt_leaf 169 (.inl (o_put 12 50 (tyX12 50)))) (mt_leaf 172 (.inl (o_aload 0 1)))))) (mt_node 179 (mt_node 173 (mt_leaf 173 (.inr (.inl (238, 1, some 12)))) (mt_node 176 (mt_leaf 176 (.inl (o_if (fun x => decide (¬ x = 0)) 181))) (mt_leaf 179 (.inl (o_push (.int 0) 1))))) (mt_node 180 (mt_leaf 180 (.inr (.inr (r_int mi_cz)))) (mt_node 181 (mt_leaf 181 (.inl (o_aload 0 1))) (mt_leaf 182 (.inl (o_aload 0 1))))))))
theorem mb_237_1_ok {g : xe_G} : mt_all (mi_ent g mI (mI 237)) (mb_237_1 g) := mt_node_ok (mt_node_ok (mt_node_ok (mt_node_ok (mt_node_ok (mt_leaf_ok (en_o (sm_get (T := TX12) (by decide) rfl bi_X12 (by decide) bg_1034 dX12_readFile_91))) (mt_node_ok (mt_leaf_ok (en_o (sm_bipush dX12_readFile_94 rfl))) (mt_leaf_ok (en_o (sm_icmp_gt dX12_readFile_96 (by decide)))))) (mt_node_ok (mt_leaf_ok (en_o (sm_aload_n dX12_readFile_99 rfl))) (mt_node_ok (mt_leaf_ok (en_o (sm_get (T := TX12) (by decide) rfl bi_X12 (by decide) bg_1034 dX12_readFile_100))) (mt_leaf_ok (en_o (sm_bipush dX12_readFile_103 rfl)))))) (mt_node_ok (mt_node_ok (mt_leaf_ok (en_o (sm_icmp_lt dX12_readFile_105 (by decide)))) (mt_node_ok (mt_leaf_ok (en_o (sm_aload_n dX12_readFile_108 rfl))) (mt_leaf_ok (en_o (sm_iconst dX12_readFile_109 rfl))))) (mt_node_ok (mt_leaf_ok ((⟨by decide, bg_972, bg_1002, 227, 1, ⟨by decide, by decide, by decide +kernel⟩, bg_1007, Or.inr ⟨rfl, bg_1008, 12, _, rfl, by decide, rfl, Or.inl ⟨dX12_readFile_110, bg_1009⟩⟩⟩ : mi_cal _ _ _ (mI 249) _ _))) (mt_node_ok (mt_leaf_ok (en_o (sm_if_eq dX12_readFile_113 (by decide)))) (mt_leaf_ok (en_o (sm_aload_n dX12_readFile_116 rfl))))))) (mt_node_ok (mt_node_ok (mt_node_ok (mt_leaf_ok (en_o (sm_iconst dX12_readFile_117 rfl))) (mt_node_ok (mt_leaf_ok (en_o (sm_iconst dX12_readFile_118 rfl))) (mt_leaf_ok ((⟨by decide, bg_972, bg_1010, 242, 2, ⟨by decide, by decide, by decide +kernel⟩, bg_1016, Or.inr ⟨rfl, bg_1017, 12, _, rfl, by decide, rfl, Or.inl ⟨dX12_readFile_119, bg_1018⟩⟩⟩ : mi_cal _ _ _ (mI 256) _ _))))) (mt_node_ok (mt_leaf_ok (sr_nar mi_cz_ok dX12_readFile_122)) (mt_node_ok (mt_leaf_ok (en_o (sm_aload_n dX12_readFile_123 rfl))) (mt_leaf_ok (en_o (sm_bipush dX12_readFile_124 rfl)))))) (mt_node_ok (mt_node_ok (mt_leaf_ok (en_s (sm_put (T := TX12) (by decide) rfl bi_X12 tyX12_ok nmX12 (by decide) rfl (tyX12_ok 50 (by decide)) bg_1014 dX12_readFile_126))) (mt_node_ok (mt_leaf_ok (en_o (sm_aload_n dX12_readFile_129 rfl))) (mt_leaf_ok (en_o (sm_ldc2 bg_1033 dX12_readFile_130))))) (mt_node_ok (mt_leaf_ok ((⟨by decide, bg_972, bg_1013, 254, 1, ⟨by decide, by decide, by decide +kernel⟩, bg_1026, Or.inr ⟨rfl, bg_1027, 12, _, rfl, by decide, rfl, Or.inl ⟨dX12_readFile_133, bg_1028⟩⟩⟩ : mi_cal _ _ _ (mI 219) _ _))) (mt_node_ok (mt_leaf_ok (en_o (sm_if_ne dX12_readFile_136 (by decide)))) (mt_leaf_ok (en_o (sm_iconst dX12_readFile_139 rfl)))))))) (mt_node_ok (mt_node_ok (mt_node_ok (mt_node_ok (mt_leaf_ok (sr_nar mi_cz_ok dX12_readFile_140)) (mt_node_ok (mt_leaf_ok (en_o (sm_aload_n dX12_readFile_141 rfl))) (mt_leaf_ok (en_o (sm_aload_n dX12_readFile_142 rfl))))) (mt_node_ok (mt_leaf_ok (en_o (sm_bipush dX12_readFile_143 rfl))) (mt_node_ok (mt_leaf_ok ((⟨by decide, bg_972, bg_1002, 227, 1, ⟨by decide, by decide, by decide +kernel⟩, bg_1007, Or.inr ⟨rfl, bg_1008, 12, _, rfl, by decide, rfl, Or.inl ⟨dX12_readFile_145, bg_1009⟩⟩⟩ : mi_cal _ _ _ (mI 249) _ _))) (mt_leaf_ok (en_s (sm_put (T := TX12) (by decide) rfl bi_X12 tyX12_ok nmX12 (by decide) rfl (tyX12_ok 52 (by decide)) bg_1020 dX12_readFile_148)))))) (mt_node_ok (mt_node_ok (mt_leaf_ok (en_o (sm_aload_n dX12_readFile_151 rfl))) (mt_node_ok (mt_leaf_ok (en_o (sm_get (T := TX12) (by decide) rfl bi_X12 (by decide) bg_1020 dX12_readFile_152))) (mt_leaf_ok (en_o (sm_if_ne dX12_readFile_155 (by decide)))))) (mt_node_ok (mt_leaf_ok (en_o (sm_aload_n dX12_readFile_158 rfl))) (mt_node_ok (mt_leaf_ok (en_o (sm_iconst dX12_readFile_159 rfl))) (mt_leaf_ok (en_o (sm_bipush dX12_readFile_160 rfl))))))) (mt_node_ok (mt_node_ok (mt_node_ok (mt_leaf_ok ((⟨by decide, bg_972, bg_1010, 242, 2, ⟨by decide, by decide, by decide +kernel⟩, bg_1016, Or.inr ⟨rfl, bg_1017, 12, _, rfl, by decide, rfl, Or.inl ⟨dX12_readFile_162, bg_1018⟩⟩⟩ : mi_cal _ _ _ (mI 256) _ _))) (mt_node_ok (mt_leaf_ok (sr_nar mi_cz_ok dX12_readFile_165)) (mt_leaf_ok (en_o (sm_aload_n dX12_readFile_166 rfl))))) (mt_node_ok (mt_leaf_ok (en_o (sm_bipush dX12_readFile_167 rfl))) (mt_node_ok (mt_leaf_ok (en_s (sm_put (T := TX12) (by decide) rfl bi_X12 tyX12_ok nmX12 (by decide) rfl (tyX12_ok 50 (by decide)) bg_1014 dX12_readFile_169))) (mt_leaf_ok (en_o (sm_aload_n dX12_readFile_172 rfl)))))) (mt_node_ok (mt_node_ok (mt_leaf_ok ((⟨by decide, bg_972, bg_1036, 269, 0, ⟨by decide, by decide, by decide +kernel⟩, bg_1035, Or.inr ⟨rfl, bg_1037, 12, _, rfl, by decide, rfl, Or.inl ⟨dX12_readFile_173, bg_1038⟩⟩⟩ : mi_cal _ _ _ (mI 238) _ _))) (mt_node_ok (mt_leaf_ok (en_o (sm_if_ne dX12_readFile_176 (by decide)))) (mt_leaf_ok (en_o (sm_iconst dX12_readFile_179 rfl))))) (mt_node_ok (mt_leaf_ok (sr_nar mi_cz_ok dX12_readFile_180)) (mt_node_ok (mt_leaf_ok (en_o (sm_aload_n dX12_readFile_181 rfl))) (mt_leaf_ok (en_o (sm_aload_n dX12_readFile_182 rfl))))))))
def mb_237_2 (g : xe_G) : Nat → Option mi_N := mt_node 226 (mt_node 206 (mt_node 192 (mt_node 189 (mt_node 183 (mt_leaf 183 (.inl (o_get 12 50))) (mt_node 186 (mt_leaf 186 (.inl (o_put 12 54 (tyX12 54)))) (mt_leaf 189 (.inl (o_push (.int 0) 1))))) (mt_node 190 (mt_leaf 190 (.inl (o_isto 1 1))) (mt_node 191 (mt_leaf 191 (.inl (o_iload 1 1))) (mt_leaf 192 (.inl (o_push (.int 4) 1)))))) (mt_node 197 (mt_node 193 (mt_leaf 193 (.inl (o_if2 (fun x y => decide (y ≤ x)) 224))) (mt_node 196 (mt_leaf 196 (.inl (o_aload 0 1))) (mt_leaf 197 (.inl (o_push (.long 2) 3))))) (mt_node 200 (mt_leaf 200 (.inr (.inl (219, 2, some 12)))) (mt_node 203 (mt_leaf 203 (.inl (o_if (fun x => decide (¬ x = 0)) 208))) (mt_leaf 206 (.inl (o_push (.int 0) 1))))))) (mt_node 214 (mt_node 209 (mt_node 207 (mt_leaf 207 (.inr (.inr (r_int mi_cz)))) (mt_node 208 (mt_leaf 208 (.inl (o_aload 0 1))) (mt_leaf 209 (.inl (o_dup))))) (mt_node 210 (mt_leaf 210 (.inl (o_get 12 50))) (mt_node 213 (mt_leaf 213 (.inl (o_push (.int 2) 1))) (mt_leaf 214 (.inl (o_bin (fun x y => x + y) 1)))))) (mt_node 221 (mt_node 215 (mt_leaf 215 (.inl (o_put 12 50 (tyX12 50)))) (mt_node 218 (mt_leaf 218 (.inl (o_iinc 1 1))) (mt_leaf 221 (.inl (o_goto 191))))) (mt_node 224 (mt_leaf 224 (.inl (o_aload 0 1))) (mt_node 225 (mt_leaf 225 (.inl (o_aload 0 1))) (mt_leaf 226 (.inl (o_get 12 50)))))))) (mt_node 246 (mt_node 236 (mt_node 231 (mt_node 229 (mt_leaf 229 (.inl (o_push (.int 2) 1))) (mt_node 230 (mt_leaf 230 (.inl (o_bin (fun x y => x - y) 1))) (mt_leaf 231 (.inr (.inl (249, 2, some 12)))))) (mt_node 234 (mt_leaf 234 (.inl (o_isto 1 1))) (mt_node 235 (mt_leaf 235 (.inl (o_push (.int 0) 1))) (mt_leaf 236 (.inl (o_isto 2 1)))))) (mt_node 239 (mt_node 237 (mt_leaf 237 (.inl (o_iload 2 1))) (mt_node 238 (mt_leaf 238 (.inl (o_iload 1 1))) (mt_leaf 239 (.inl (o_if2 (fun x y => decide (y ≤ x)) 270))))) (mt_node 242 (mt_leaf 242 (.inl (o_aload 0 1))) (mt_node 243 (mt_leaf 243 (.inl (o_push (.long 2) 3))) (mt_leaf 246 (.inr (.inl (219, 2, some 12)))))))) (mt_node 256 (mt_node 253 (mt_node 249 (mt_leaf 249 (.inl (o_if (fun x => decide (¬ x = 0)) 254))) (mt_node 252 (mt_leaf 252 (.inl (o_push (.int 0) 1))) (mt_leaf 253 (.inr (.inr (r_int mi_cz)))))) (mt_node 254 (mt_leaf 254 (.inl (o_aload 0 1))) (mt_node 255 (mt_leaf 255 (.inl (o_dup))) (mt_leaf 256 (.inl (o_get 12 50)))))) (mt_node 261 (mt_node 259 (mt_leaf 259 (.inl (o_push (.int 2) 1))) (mt_node 260 (mt_leaf 260 (.inl (o_bin (fun x y => x + y) 1))) (mt_leaf 261 (.inl (o_put 12 50 (tyX12 50)))))) (mt_node 264 (mt_leaf 264 (.inl (o_iinc 2 1))) (mt_node 267 (mt_leaf 267 (.inl (o_goto 237))) (mt_leaf 270 (.inl (o_aload 0 1))))))))
theorem mb_237_2_ok {g : xe_G} : mt_all (mi_ent g mI (mI 237)) (mb_237_2 g) := mt_node_ok (mt_node_ok (mt_node_ok (mt_node_ok (mt_node_ok (mt_leaf_ok (en_o (sm_get (T := TX12) (by decide) rfl bi_X12 (by decide) bg_1014 dX12_readFile_183))) (mt_node_ok (mt_leaf_ok (en_s (sm_put (T := TX12) (by decide) rfl bi_X12 tyX12_ok nmX12 (by decide) rfl (tyX12_ok 54 (by decide)) bg_1039 dX12_readFile_186))) (mt_leaf_ok (en_o (sm_iconst dX12_readFile_189 rfl))))) (mt_node_ok (mt_leaf_ok (en_s (sm_istore_n dX12_readFile_190 rfl (by decide)))) (mt_node_ok (mt_leaf_ok (en_o (sm_iload_n dX12_readFile_191 rfl))) (mt_leaf_ok (en_o (sm_iconst dX12_readFile_192 rfl)))))) (mt_node_ok (mt_node_ok (mt_leaf_ok (en_o (sm_icmp_ge dX12_readFile_193 (by decide)))) (mt_node_ok (mt_leaf_ok (en_o (sm_aload_n dX12_readFile_196 rfl))) (mt_leaf_ok (en_o (sm_ldc2 bg_1033 dX12_readFile_197))))) (mt_node_ok (mt_leaf_ok ((⟨by decide, bg_972, bg_1013, 254, 1, ⟨by decide, by decide, by decide +kernel⟩, bg_1026, Or.inr ⟨rfl, bg_1027, 12, _, rfl, by decide, rfl, Or.inl ⟨dX12_readFile_200, bg_1028⟩⟩⟩ : mi_cal _ _ _ (mI 219) _ _))) (mt_node_ok (mt_leaf_ok (en_o (sm_if_ne dX12_readFile_203 (by decide)))) (mt_leaf_ok (en_o (sm_iconst dX12_readFile_206 rfl))))))) (mt_node_ok (mt_node_ok (mt_node_ok (mt_leaf_ok (sr_nar mi_cz_ok dX12_readFile_207)) (mt_node_ok (mt_leaf_ok (en_o (sm_aload_n dX12_readFile_208 rfl))) (mt_leaf_ok (en_o (sm_dup dX12_readFile_209))))) (mt_node_ok (mt_leaf_ok (en_o (sm_get (T := TX12) (by decide) rfl bi_X12 (by decide) bg_1014 dX12_readFile_210))) (mt_node_ok (mt_leaf_ok (en_o (sm_iconst dX12_readFile_213 rfl))) (mt_leaf_ok (en_o (sm_iadd dX12_readFile_214)))))) (mt_node_ok (mt_node_ok (mt_leaf_ok (en_s (sm_put (T := TX12) (by decide) rfl bi_X12 tyX12_ok nmX12 (by decide) rfl (tyX12_ok 50 (by decide)) bg_1014 dX12_readFile_215))) (mt_node_ok (mt_leaf_ok (en_s (sm_iinc dX12_readFile_218 rfl (by decide)))) (mt_leaf_ok (en_o (sm_goto dX12_readFile_221 (by decide)))))) (mt_node_ok (mt_leaf_ok (en_o (sm_aload_n dX12_readFile_224 rfl))) (mt_node_ok (mt_leaf_ok (en_o (sm_aload_n dX12_readFile_225 rfl))) (mt_leaf_ok (en_o (sm_get (T := TX12) (by decide) rfl bi_X12 (by decide) bg_1014 dX12_readFile_226)))))))) (mt_node_ok (mt_node_ok (mt_node_ok (mt_node_ok (mt_leaf_ok (en_o (sm_iconst dX12_readFile_229 rfl))) (mt_node_ok (mt_leaf_ok (en_o (sm_isub dX12_readFile_230))) (mt_leaf_ok ((⟨by decide, bg_972, bg_1002, 227, 1, ⟨by decide, by decide, by decide +kernel⟩, bg_1007, Or.inr ⟨rfl, bg_1008, 12, _, rfl, by decide, rfl, Or.inl ⟨dX12_readFile_231, bg_1009⟩⟩⟩ : mi_cal _ _ _ (mI 249) _ _))))) (mt_node_ok (mt_leaf_ok (en_s (sm_istore_n dX12_readFile_234 rfl (by decide)))) (mt_node_ok (mt_leaf_ok (en_o (sm_iconst dX12_readFile_235 rfl))) (mt_leaf_ok (en_s (sm_istore_n dX12_readFile_236 rfl (by decide))))))) (mt_node_ok (mt_node_ok (mt_leaf_ok (en_o (sm_iload_n dX12_readFile_237 rfl))) (mt_node_ok (mt_leaf_ok (en_o (sm_iload_n dX12_readFile_238 rfl))) (mt_leaf_ok (en_o (sm_icmp_ge dX12_readFile_239 (by decide)))))) (mt_node_ok (mt_leaf_ok (en_o (sm_aload_n dX12_readFile_242 rfl))) (mt_node_ok (mt_leaf_ok (en_o (sm_ldc2 bg_1033 dX12_readFile_243))) (mt_leaf_ok ((⟨by decide, bg_972, bg_1013, 254, 1, ⟨by decide, by decide, by decide +kernel⟩, bg_1026, Or.inr ⟨rfl, bg_1027, 12, _, rfl, by decide, rfl, Or.inl ⟨dX12_readFile_246, bg_1028⟩⟩⟩ : mi_cal _ _ _ (mI 219) _ _))))))) (mt_node_ok (mt_node_ok (mt_node_ok (mt_leaf_ok (en_o (sm_if_ne dX12_readFile_249 (by decide)))) (mt_node_ok (mt_leaf_ok (en_o (sm_iconst dX12_readFile_252 rfl))) (mt_leaf_ok (sr_nar mi_cz_ok dX12_readFile_253)))) (mt_node_ok (mt_leaf_ok (en_o (sm_aload_n dX12_readFile_254 rfl))) (mt_node_ok (mt_leaf_ok (en_o (sm_dup dX12_readFile_255))) (mt_leaf_ok (en_o (sm_get (T := TX12) (by decide) rfl bi_X12 (by decide) bg_1014 dX12_readFile_256)))))) (mt_node_ok (mt_node_ok (mt_leaf_ok (en_o (sm_iconst dX12_readFile_259 rfl))) (mt_node_ok (mt_leaf_ok (en_o (sm_iadd dX12_readFile_260))) (mt_leaf_ok (en_s (sm_put (T := TX12) (by decide) rfl bi_X12 tyX12_ok nmX12 (by decide) rfl (tyX12_ok 50 (by decide)) bg_1014 dX12_readFile_261))))) (mt_node_ok (mt_leaf_ok (en_s (sm_iinc dX12_readFile_264 rfl (by decide)))) (mt_node_ok (mt_leaf_ok (en_o (sm_goto dX12_readFile_267 (by decide)))) (mt_leaf_ok (en_o (sm_aload_n dX12_readFile_270 rfl))))))))
def mb_237_3 (g : xe_G) : Nat → Option mi_N := mt_node 306 (mt_node 288 (mt_node 279 (mt_node 272 (mt_node 271 (mt_leaf 271 (.inl (o_aload 0 1))) (mt_leaf 272 (.inl (o_get 12 50)))) (mt_node 275 (mt_leaf 275 (.inl (o_put 12 55 (tyX12 55)))) (mt_node 278 (mt_leaf 278 (.inl (o_aload 0 1))) (mt_leaf 279 (.inr (.inl (224, 1, some 12))))))) (mt_node 285 (mt_node 282 (mt_leaf 282 (.inl (o_if (fun x => decide (¬ x = 0)) 287))) (mt_leaf 285 (.inl (o_push (.int 0) 1)))) (mt_node 286 (mt_leaf 286 (.inr (.inr (r_int mi_cz)))) (mt_node 287 (mt_leaf 287 (.inl (o_aload 0 1))) (mt_leaf 288 (.inl (o_aload 0 1))))))) (mt_node 299 (mt_node 292 (mt_node 289 (mt_leaf 289 (.inl (o_get 12 50))) (mt_leaf 292 (.inl (o_put 12 56 (tyX12 56))))) (mt_node 295 (mt_leaf 295 (.inl (o_aload 0 1))) (mt_node 296 (mt_leaf 296 (.inr (.inl (224, 1, some 12)))) (mt_leaf 299 (.inl (o_if (fun x => decide (¬ x = 0)) 304)))))) (mt_node 303 (mt_node 302 (mt_leaf 302 (.inl (o_push (.int 0) 1))) (mt_leaf 303 (.inr (.inr (r_int mi_cz))))) (mt_node 304 (mt_leaf 304 (.inl (o_aload 0 1))) (mt_node 305 (mt_leaf 305 (.inl (o_aload 0 1))) (mt_leaf 306 (.inl (o_get 12 50)))))))) (mt_node 326 (mt_node 319 (mt_node 312 (mt_node 309 (mt_leaf 309 (.inl (o_put 12 57 (tyX12 57)))) (mt_leaf 312 (.inl (o_aload 0 1)))) (mt_node 313 (mt_leaf 313 (.inr (.inl (178, 1, some 12)))) (mt_node 316 (mt_leaf 316 (.inl (o_if (fun x => decide (¬ x = 0)) 321))) (mt_leaf 319 (.inl (o_push (.int 0) 1)))))) (mt_node 321 (mt_node 320 (mt_leaf 320 (.inr (.inr (r_int mi_cz)))) (mt_leaf 321 (.inl (o_aload 0 1)))) (mt_node 322 (mt_leaf 322 (.inl (o_get 12 50))) (mt_node 325 (mt_leaf 325 (.inl (o_aload 0 1))) (mt_leaf 326 (.inl (o_get 12 16))))))) (mt_node 336 (mt_node 332 (mt_node 329 (mt_leaf 329 (.inl (o_if2 (fun x y => decide (x = y)) 345))) (mt_leaf 332 (.inl (o_aload 0 1)))) (mt_node 333 (mt_leaf 333 (.inl (o_push (.int 8) 2))) (mt_node 335 (mt_leaf 335 (.inl (o_aload 0 1))) (mt_leaf 336 (.inl (o_get 12 50)))))) (mt_node 345 (mt_node 339 (mt_leaf 339 (.inr (.inl (256, 3, some 12)))) (mt_node 342 (mt_leaf 342 (.inl (o_if (fun x => decide (x = 0)) 349))) (mt_leaf 345 (.inl (o_push (.int 1) 1))))) (mt_node 346 (mt_leaf 346 (.inl (o_goto 350))) (mt_node 349 (mt_leaf 349 (.inl (o_push (.int 0) 1))) (mt_leaf 350 (.inr (.inr (r_int mi_cz)))))))))
theorem mb_237_3_ok {g : xe_G} : mt_all (mi_ent g mI (mI 237)) (mb_237_3 g) := mt_node_ok (mt_node_ok (mt_node_ok (mt_node_ok (mt_node_ok (mt_leaf_ok (en_o (sm_aload_n dX12_readFile_271 rfl))) (mt_leaf_ok (en_o (sm_get (T := TX12) (by decide) rfl bi_X12 (by decide) bg_1014 dX12_readFile_272)))) (mt_node_ok (mt_leaf_ok (en_s (sm_put (T := TX12) (by decide) rfl bi_X12 tyX12_ok nmX12 (by decide) rfl (tyX12_ok 55 (by decide)) bg_1040 dX12_readFile_275))) (mt_node_ok (mt_leaf_ok (en_o (sm_aload_n dX12_readFile_278 rfl))) (mt_leaf_ok ((⟨by decide, bg_972, bg_1042, 279, 0, ⟨by decide, by decide, by decide +kernel⟩, bg_1041, Or.inr ⟨rfl, bg_1043, 12, _, rfl, by decide, rfl, Or.inl ⟨dX12_readFile_279, bg_1044⟩⟩⟩ : mi_cal _ _ _ (mI 224) _ _)))))) (mt_node_ok (mt_node_ok (mt_leaf_ok (en_o (sm_if_ne dX12_readFile_282 (by decide)))) (mt_leaf_ok (en_o (sm_iconst dX12_readFile_285 rfl)))) (mt_node_ok (mt_leaf_ok (sr_nar mi_cz_ok dX12_readFile_286)) (mt_node_ok (mt_leaf_ok (en_o (sm_aload_n dX12_readFile_287 rfl))) (mt_leaf_ok (en_o (sm_aload_n dX12_readFile_288 rfl))))))) (mt_node_ok (mt_node_ok (mt_node_ok (mt_leaf_ok (en_o (sm_get (T := TX12) (by decide) rfl bi_X12 (by decide) bg_1014 dX12_readFile_289))) (mt_leaf_ok (en_s (sm_put (T := TX12) (by decide) rfl bi_X12 tyX12_ok nmX12 (by decide) rfl (tyX12_ok 56 (by decide)) bg_1045 dX12_readFile_292)))) (mt_node_ok (mt_leaf_ok (en_o (sm_aload_n dX12_readFile_295 rfl))) (mt_node_ok (mt_leaf_ok ((⟨by decide, bg_972, bg_1042, 279, 0, ⟨by decide, by decide, by decide +kernel⟩, bg_1041, Or.inr ⟨rfl, bg_1043, 12, _, rfl, by decide, rfl, Or.inl ⟨dX12_readFile_296, bg_1044⟩⟩⟩ : mi_cal _ _ _ (mI 224) _ _))) (mt_leaf_ok (en_o (sm_if_ne dX12_readFile_299 (by decide))))))) (mt_node_ok (mt_node_ok (mt_leaf_ok (en_o (sm_iconst dX12_readFile_302 rfl))) (mt_leaf_ok (sr_nar mi_cz_ok dX12_readFile_303))) (mt_node_ok (mt_leaf_ok (en_o (sm_aload_n dX12_readFile_304 rfl))) (mt_node_ok (mt_leaf_ok (en_o (sm_aload_n dX12_readFile_305 rfl))) (mt_leaf_ok (en_o (sm_get (T := TX12) (by decide) rfl bi_X12 (by decide) bg_1014 dX12_readFile_306)))))))) (mt_node_ok (mt_node_ok (mt_node_ok (mt_node_ok (mt_leaf_ok (en_s (sm_put (T := TX12) (by decide) rfl bi_X12 tyX12_ok nmX12 (by decide) rfl (tyX12_ok 57 (by decide)) bg_1046 dX12_readFile_309))) (mt_leaf_ok (en_o (sm_aload_n dX12_readFile_312 rfl)))) (mt_node_ok (mt_leaf_ok ((⟨by decide, bg_972, bg_1048, 288, 0, ⟨by decide, by decide, by decide +kernel⟩, bg_1047, Or.inr ⟨rfl, bg_1049, 12, _, rfl, by decide, rfl, Or.inl ⟨dX12_readFile_313, bg_1050⟩⟩⟩ : mi_cal _ _ _ (mI 178) _ _))) (mt_node_ok (mt_leaf_ok (en_o (sm_if_ne dX12_readFile_316 (by decide)))) (mt_leaf_ok (en_o (sm_iconst dX12_readFile_319 rfl)))))) (mt_node_ok (mt_node_ok (mt_leaf_ok (sr_nar mi_cz_ok dX12_readFile_320)) (mt_leaf_ok (en_o (sm_aload_n dX12_readFile_321 rfl)))) (mt_node_ok (mt_leaf_ok (en_o (sm_get (T := TX12) (by decide) rfl bi_X12 (by decide) bg_1014 dX12_readFile_322))) (mt_node_ok (mt_leaf_ok (en_o (sm_aload_n dX12_readFile_325 rfl))) (mt_leaf_ok (en_o (sm_get (T := TX12) (by decide) rfl bi_X12 (by decide) bg_1015 dX12_readFile_326))))))) (mt_node_ok (mt_node_ok (mt_node_ok (mt_leaf_ok (en_o (sm_icmp_eq dX12_readFile_329 (by decide)))) (mt_leaf_ok (en_o (sm_aload_n dX12_readFile_332 rfl)))) (mt_node_ok (mt_leaf_ok (en_o (sm_bipush dX12_readFile_333 rfl))) (mt_node_ok (mt_leaf_ok (en_o (sm_aload_n dX12_readFile_335 rfl))) (mt_leaf_ok (en_o (sm_get (T := TX12) (by decide) rfl bi_X12 (by decide) bg_1014 dX12_readFile_336)))))) (mt_node_ok (mt_node_ok (mt_leaf_ok ((⟨by decide, bg_972, bg_1010, 242, 2, ⟨by decide, by decide, by decide +kernel⟩, bg_1016, Or.inr ⟨rfl, bg_1017, 12, _, rfl, by decide, rfl, Or.inl ⟨dX12_readFile_339, bg_1018⟩⟩⟩ : mi_cal _ _ _ (mI 256) _ _))) (mt_node_ok (mt_leaf_ok (en_o (sm_if_eq dX12_readFile_342 (by decide)))) (mt_leaf_ok (en_o (sm_iconst dX12_readFile_345 rfl))))) (mt_node_ok (mt_leaf_ok (en_o (sm_goto dX12_readFile_346 (by decide)))) (mt_node_ok (mt_leaf_ok (en_o (sm_iconst dX12_readFile_349 rfl))) (mt_leaf_ok (sr_nar mi_cz_ok dX12_readFile_350)))))))
def mb_237 (g : xe_G) : Nat × mi_B := (3, mt_node 182 (mt_node 90 (mb_237_0 g) (mb_237_1 g)) (mt_node 270 (mb_237_2 g) (mb_237_3 g)), mk_node 191 (mk_node 116 (mk_leaf 116 [0]) (mk_node 123 (mk_leaf 123 [0]) (mk_leaf 191 [0, 1]))) (mk_node 237 (mk_leaf 237 [0, 1, 2]) (mk_node 345 (mk_leaf 345 []) (mk_leaf 350 []))))
theorem mb_237_ok {g : xe_G} : mi_meth g mI (mI 237) (mb_237 g) := ⟨rfl, by decide, mt_node_ok (mt_node_ok (mb_237_0_ok) (mb_237_1_ok)) (mt_node_ok (mb_237_2_ok) (mb_237_3_ok))⟩
theorem dX12_readPool_0 : decode cX12_readPool 0 = .ok (.aload_n 0, 1) := by decide +kernel
theorem dX12_readPool_1 : decode cX12_readPool 1 = .ok (.aload_n 0, 1) := by decide +kernel
theorem dX12_readPool_2 : decode cX12_readPool 2 = .ok (.getfield 195, 3) := by decide +kernel
theorem dX12_readPool_5 : decode cX12_readPool 5 = .ok (.putfield 249, 3) := by decide +kernel
theorem dX12_readPool_8 : decode cX12_readPool 8 = .ok (.aload_n 0, 1) := by decide +kernel
theorem dX12_readPool_9 : decode cX12_readPool 9 = .ok (.getfield 53, 3) := by decide +kernel
theorem dX12_readPool_12 : decode cX12_readPool 12 = .ok (.aload_n 0, 1) := by decide +kernel
theorem dX12_readPool_13 : decode cX12_readPool 13 = .ok (.getfield 249, 3) := by decide +kernel
theorem dX12_readPool_16 : decode cX12_readPool 16 = .ok (.iconst (-1), 1) := by decide +kernel
theorem dX12_readPool_17 : decode cX12_readPool 17 = .ok (.iastore, 1) := by decide +kernel
theorem dX12_readPool_18 : decode cX12_readPool 18 = .ok (.iconst 1, 1) := by decide +kernel
theorem dX12_readPool_19 : decode cX12_readPool 19 = .ok (.istore_n 1, 1) := by decide +kernel
theorem dX12_readPool_20 : decode cX12_readPool 20 = .ok (.iload_n 1, 1) := by decide +kernel
theorem dX12_readPool_21 : decode cX12_readPool 21 = .ok (.aload_n 0, 1) := by decide +kernel
theorem dX12_readPool_22 : decode cX12_readPool 22 = .ok (.getfield 246, 3) := by decide +kernel
theorem dX12_readPool_25 : decode cX12_readPool 25 = .ok (.if_icmp .ge 506, 3) := by decide +kernel
theorem dX12_readPool_28 : decode cX12_readPool 28 = .ok (.aload_n 0, 1) := by decide +kernel
theorem dX12_readPool_29 : decode cX12_readPool 29 = .ok (.lconst 1, 1) := by decide +kernel
theorem dX12_readPool_30 : decode cX12_readPool 30 = .ok (.invokevirtual 254, 3) := by decide +kernel
theorem dX12_readPool_33 : decode cX12_readPool 33 = .ok (.ifCond .ne 5, 3) := by decide +kernel
theorem dX12_readPool_36 : decode cX12_readPool 36 = .ok (.iconst 0, 1) := by decide +kernel
theorem dX12_readPool_37 : decode cX12_readPool 37 = .ok (.ireturn, 1) := by decide +kernel
theorem dX12_readPool_38 : decode cX12_readPool 38 = .ok (.aload_n 0, 1) := by decide +kernel
theorem dX12_readPool_39 : decode cX12_readPool 39 = .ok (.aload_n 0, 1) := by decide +kernel
theorem dX12_readPool_40 : decode cX12_readPool 40 = .ok (.getfield 236, 3) := by decide +kernel
theorem dX12_readPool_43 : decode cX12_readPool 43 = .ok (.invokevirtual 224, 3) := by decide +kernel
theorem dX12_readPool_46 : decode cX12_readPool 46 = .ok (.istore_n 2, 1) := by decide +kernel
theorem dX12_readPool_47 : decode cX12_readPool 47 = .ok (.aload_n 0, 1) := by decide +kernel
theorem dX12_readPool_48 : decode cX12_readPool 48 = .ok (.getfield 236, 3) := by decide +kernel
theorem dX12_readPool_51 : decode cX12_readPool 51 = .ok (.istore_n 3, 1) := by decide +kernel
theorem dX12_readPool_52 : decode cX12_readPool 52 = .ok (.aload_n 0, 1) := by decide +kernel
theorem dX12_readPool_53 : decode cX12_readPool 53 = .ok (.getfield 53, 3) := by decide +kernel
theorem dX12_readPool_56 : decode cX12_readPool 56 = .ok (.aload_n 0, 1) := by decide +kernel
theorem dX12_readPool_57 : decode cX12_readPool 57 = .ok (.getfield 249, 3) := by decide +kernel
theorem dX12_readPool_60 : decode cX12_readPool 60 = .ok (.iload_n 1, 1) := by decide +kernel
theorem dX12_readPool_61 : decode cX12_readPool 61 = .ok (.iadd, 1) := by decide +kernel
theorem dX12_readPool_62 : decode cX12_readPool 62 = .ok (.iload_n 3, 1) := by decide +kernel
theorem dX12_readPool_63 : decode cX12_readPool 63 = .ok (.iastore, 1) := by decide +kernel
theorem dX12_readPool_64 : decode cX12_readPool 64 = .ok (.aload_n 0, 1) := by decide +kernel
theorem dX12_readPool_65 : decode cX12_readPool 65 = .ok (.getfield 56, 3) := by decide +kernel
theorem dX12_readPool_68 : decode cX12_readPool 68 = .ok (.aload_n 0, 1) := by decide +kernel
theorem dX12_readPool_69 : decode cX12_readPool 69 = .ok (.getfield 249, 3) := by decide +kernel
theorem dX12_readPool_72 : decode cX12_readPool 72 = .ok (.iload_n 1, 1) := by decide +kernel
theorem dX12_readPool_73 : decode cX12_readPool 73 = .ok (.iadd, 1) := by decide +kernel
theorem dX12_readPool_74 : decode cX12_readPool 74 = .ok (.iconst (-1), 1) := by decide +kernel
theorem dX12_readPool_75 : decode cX12_readPool 75 = .ok (.iastore, 1) := by decide +kernel
theorem dX12_readPool_76 : decode cX12_readPool 76 = .ok (.iload_n 2, 1) := by decide +kernel
theorem dX12_readPool_77 : decode cX12_readPool 77 = .ok (.iconst 1, 1) := by decide +kernel
theorem dX12_readPool_78 : decode cX12_readPool 78 = .ok (.if_icmp .eq 77, 3) := by decide +kernel
theorem dX12_readPool_81 : decode cX12_readPool 81 = .ok (.iload_n 2, 1) := by decide +kernel
theorem dX12_readPool_82 : decode cX12_readPool 82 = .ok (.iconst 3, 1) := by decide +kernel
theorem dX12_readPool_83 : decode cX12_readPool 83 = .ok (.if_icmp .lt 9, 3) := by decide +kernel
theorem dX12_readPool_86 : decode cX12_readPool 86 = .ok (.iload_n 2, 1) := by decide +kernel
theorem dX12_readPool_87 : decode cX12_readPool 87 = .ok (.bipush 12, 2) := by decide +kernel
theorem dX12_readPool_89 : decode cX12_readPool 89 = .ok (.if_icmp .le 66, 3) := by decide +kernel
theorem dX12_readPool_92 : decode cX12_readPool 92 = .ok (.iload_n 2, 1) := by decide +kernel
theorem dX12_readPool_93 : decode cX12_readPool 93 = .ok (.bipush 15, 2) := by decide +kernel
theorem dX12_readPool_95 : decode cX12_readPool 95 = .ok (.if_icmp .eq 15, 3) := by decide +kernel
theorem dX12_readPool_98 : decode cX12_readPool 98 = .ok (.iload_n 2, 1) := by decide +kernel
theorem dX12_readPool_99 : decode cX12_readPool 99 = .ok (.bipush 16, 2) := by decide +kernel
theorem dX12_readPool_101 : decode cX12_readPool 101 = .ok (.if_icmp .eq 9, 3) := by decide +kernel
theorem dX12_readPool_104 : decode cX12_readPool 104 = .ok (.iload_n 2, 1) := by decide +kernel
theorem dX12_readPool_105 : decode cX12_readPool 105 = .ok (.bipush 18, 2) := by decide +kernel
theorem dX12_readPool_107 : decode cX12_readPool 107 = .ok (.if_icmp .ne 12, 3) := by decide +kernel
theorem dX12_readPool_110 : decode cX12_readPool 110 = .ok (.aload_n 0, 1) := by decide +kernel
theorem dX12_readPool_111 : decode cX12_readPool 111 = .ok (.getfield 266, 3) := by decide +kernel
theorem dX12_readPool_114 : decode cX12_readPool 114 = .ok (.bipush 51, 2) := by decide +kernel
theorem dX12_readPool_116 : decode cX12_readPool 116 = .ok (.if_icmp .ge 39, 3) := by decide +kernel
theorem dX12_readPool_119 : decode cX12_readPool 119 = .ok (.iload_n 2, 1) := by decide +kernel
theorem dX12_readPool_120 : decode cX12_readPool 120 = .ok (.bipush 19, 2) := by decide +kernel
theorem dX12_readPool_122 : decode cX12_readPool 122 = .ok (.if_icmp .eq 9, 3) := by decide +kernel
theorem dX12_readPool_125 : decode cX12_readPool 125 = .ok (.iload_n 2, 1) := by decide +kernel
theorem dX12_readPool_126 : decode cX12_readPool 126 = .ok (.bipush 20, 2) := by decide +kernel
theorem dX12_readPool_128 : decode cX12_readPool 128 = .ok (.if_icmp .ne 12, 3) := by decide +kernel
theorem dX12_readPool_131 : decode cX12_readPool 131 = .ok (.aload_n 0, 1) := by decide +kernel
theorem dX12_readPool_132 : decode cX12_readPool 132 = .ok (.getfield 266, 3) := by decide +kernel
theorem dX12_readPool_135 : decode cX12_readPool 135 = .ok (.bipush 53, 2) := by decide +kernel
theorem dX12_readPool_137 : decode cX12_readPool 137 = .ok (.if_icmp .ge 18, 3) := by decide +kernel
theorem dX12_readPool_140 : decode cX12_readPool 140 = .ok (.iload_n 2, 1) := by decide +kernel
theorem dX12_readPool_141 : decode cX12_readPool 141 = .ok (.bipush 17, 2) := by decide +kernel
theorem dX12_readPool_143 : decode cX12_readPool 143 = .ok (.if_icmp .ne 16, 3) := by decide +kernel
theorem dX12_readPool_146 : decode cX12_readPool 146 = .ok (.aload_n 0, 1) := by decide +kernel
theorem dX12_readPool_147 : decode cX12_readPool 147 = .ok (.getfield 266, 3) := by decide +kernel
theorem dX12_readPool_150 : decode cX12_readPool 150 = .ok (.bipush 55, 2) := by decide +kernel
theorem dX12_readPool_152 : decode cX12_readPool 152 = .ok (.if_icmp .lt 7, 3) := by decide +kernel
theorem dX12_readPool_155 : decode cX12_readPool 155 = .ok (.iconst 1, 1) := by decide +kernel
theorem dX12_readPool_156 : decode cX12_readPool 156 = .ok (.goto 4, 3) := by decide +kernel
theorem dX12_readPool_159 : decode cX12_readPool 159 = .ok (.iconst 0, 1) := by decide +kernel
theorem dX12_readPool_160 : decode cX12_readPool 160 = .ok (.istore 4, 2) := by decide +kernel
theorem dX12_readPool_162 : decode cX12_readPool 162 = .ok (.iload 4, 2) := by decide +kernel
theorem dX12_readPool_164 : decode cX12_readPool 164 = .ok (.ifCond .ne 10, 3) := by decide +kernel
theorem dX12_readPool_167 : decode cX12_readPool 167 = .ok (.aload_n 0, 1) := by decide +kernel
theorem dX12_readPool_168 : decode cX12_readPool 168 = .ok (.iconst 5, 1) := by decide +kernel
theorem dX12_readPool_169 : decode cX12_readPool 169 = .ok (.iload_n 3, 1) := by decide +kernel
theorem dX12_readPool_170 : decode cX12_readPool 170 = .ok (.invokevirtual 242, 3) := by decide +kernel
theorem dX12_readPool_173 : decode cX12_readPool 173 = .ok (.ireturn, 1) := by decide +kernel
theorem dX12_readPool_174 : decode cX12_readPool 174 = .ok (.iload_n 2, 1) := by decide +kernel
theorem dX12_readPool_175 : decode cX12_readPool 175 = .ok (.iconst 5, 1) := by decide +kernel
theorem dX12_readPool_176 : decode cX12_readPool 176 = .ok (.if_icmp .eq 9, 3) := by decide +kernel
theorem dX12_readPool_179 : decode cX12_readPool 179 = .ok (.iload_n 2, 1) := by decide +kernel
theorem dX12_readPool_180 : decode cX12_readPool 180 = .ok (.bipush 6, 2) := by decide +kernel
theorem dX12_readPool_182 : decode cX12_readPool 182 = .ok (.if_icmp .ne 21, 3) := by decide +kernel
theorem dX12_readPool_185 : decode cX12_readPool 185 = .ok (.iload_n 1, 1) := by decide +kernel
theorem dX12_readPool_186 : decode cX12_readPool 186 = .ok (.iconst 1, 1) := by decide +kernel
theorem dX12_readPool_187 : decode cX12_readPool 187 = .ok (.iadd, 1) := by decide +kernel
theorem dX12_readPool_188 : decode cX12_readPool 188 = .ok (.aload_n 0, 1) := by decide +kernel
theorem dX12_readPool_189 : decode cX12_readPool 189 = .ok (.getfield 246, 3) := by decide +kernel
theorem dX12_readPool_192 : decode cX12_readPool 192 = .ok (.if_icmp .lt 11, 3) := by decide +kernel
theorem dX12_readPool_195 : decode cX12_readPool 195 = .ok (.aload_n 0, 1) := by decide +kernel
theorem dX12_readPool_196 : decode cX12_readPool 196 = .ok (.bipush 7, 2) := by decide +kernel
theorem dX12_readPool_198 : decode cX12_readPool 198 = .ok (.iload_n 3, 1) := by decide +kernel
theorem dX12_readPool_199 : decode cX12_readPool 199 = .ok (.invokevirtual 242, 3) := by decide +kernel
theorem dX12_readPool_202 : decode cX12_readPool 202 = .ok (.ireturn, 1) := by decide +kernel
theorem dX12_readPool_203 : decode cX12_readPool 203 = .ok (.aload_n 0, 1) := by decide +kernel
theorem dX12_readPool_204 : decode cX12_readPool 204 = .ok (.dup, 1) := by decide +kernel
theorem dX12_readPool_205 : decode cX12_readPool 205 = .ok (.getfield 236, 3) := by decide +kernel
theorem dX12_readPool_208 : decode cX12_readPool 208 = .ok (.iconst 1, 1) := by decide +kernel
theorem dX12_readPool_209 : decode cX12_readPool 209 = .ok (.iadd, 1) := by decide +kernel
theorem dX12_readPool_210 : decode cX12_readPool 210 = .ok (.putfield 236, 3) := by decide +kernel
theorem dX12_readPool_213 : decode cX12_readPool 213 = .ok (.iload_n 2, 1) := by decide +kernel
theorem dX12_readPool_214 : decode cX12_readPool 214 = .ok (.iconst 1, 1) := by decide +kernel
theorem dX12_readPool_215 : decode cX12_readPool 215 = .ok (.if_icmp .ne 82, 3) := by decide +kernel
theorem dX12_readPool_218 : decode cX12_readPool 218 = .ok (.aload_n 0, 1) := by decide +kernel
theorem dX12_readPool_219 : decode cX12_readPool 219 = .ok (.ldc2_w 264, 3) := by decide +kernel
theorem dX12_readPool_222 : decode cX12_readPool 222 = .ok (.invokevirtual 254, 3) := by decide +kernel
theorem dX12_readPool_225 : decode cX12_readPool 225 = .ok (.ifCond .ne 5, 3) := by decide +kernel
theorem dX12_readPool_228 : decode cX12_readPool 228 = .ok (.iconst 0, 1) := by decide +kernel
theorem dX12_readPool_229 : decode cX12_readPool 229 = .ok (.ireturn, 1) := by decide +kernel
theorem dX12_readPool_230 : decode cX12_readPool 230 = .ok (.aload_n 0, 1) := by decide +kernel
theorem dX12_readPool_231 : decode cX12_readPool 231 = .ok (.aload_n 0, 1) := by decide +kernel
theorem dX12_readPool_232 : decode cX12_readPool 232 = .ok (.getfield 236, 3) := by decide +kernel
theorem dX12_readPool_235 : decode cX12_readPool 235 = .ok (.invokevirtual 227, 3) := by decide +kernel
theorem dX12_readPool_238 : decode cX12_readPool 238 = .ok (.istore 5, 2) := by decide +kernel
theorem dX12_readPool_240 : decode cX12_readPool 240 = .ok (.aload_n 0, 1) := by decide +kernel
theorem dX12_readPool_241 : decode cX12_readPool 241 = .ok (.dup, 1) := by decide +kernel
theorem dX12_readPool_242 : decode cX12_readPool 242 = .ok (.getfield 236, 3) := by decide +kernel
theorem dX12_readPool_245 : decode cX12_readPool 245 = .ok (.iconst 2, 1) := by decide +kernel
theorem dX12_readPool_246 : decode cX12_readPool 246 = .ok (.iadd, 1) := by decide +kernel
theorem dX12_readPool_247 : decode cX12_readPool 247 = .ok (.putfield 236, 3) := by decide +kernel
theorem dX12_readPool_250 : decode cX12_readPool 250 = .ok (.aload_n 0, 1) := by decide +kernel
theorem dX12_readPool_251 : decode cX12_readPool 251 = .ok (.iload 5, 2) := by decide +kernel
theorem dX12_readPool_253 : decode cX12_readPool 253 = .ok (.i2l, 1) := by decide +kernel
theorem dX12_readPool_254 : decode cX12_readPool 254 = .ok (.invokevirtual 254, 3) := by decide +kernel
theorem dX12_readPool_257 : decode cX12_readPool 257 = .ok (.ifCond .ne 5, 3) := by decide +kernel
theorem dX12_readPool_260 : decode cX12_readPool 260 = .ok (.iconst 0, 1) := by decide +kernel
theorem dX12_readPool_261 : decode cX12_readPool 261 = .ok (.ireturn, 1) := by decide +kernel
theorem dX12_readPool_262 : decode cX12_readPool 262 = .ok (.aload_n 0, 1) := by decide +kernel
theorem dX12_readPool_263 : decode cX12_readPool 263 = .ok (.aload_n 0, 1) := by decide +kernel
theorem dX12_readPool_264 : decode cX12_readPool 264 = .ok (.getfield 249, 3) := by decide +kernel
theorem dX12_readPool_267 : decode cX12_readPool 267 = .ok (.iload_n 1, 1) := by decide +kernel
theorem dX12_readPool_268 : decode cX12_readPool 268 = .ok (.iadd, 1) := by decide +kernel
theorem dX12_readPool_269 : decode cX12_readPool 269 = .ok (.aload_n 0, 1) := by decide +kernel
theorem dX12_readPool_270 : decode cX12_readPool 270 = .ok (.getfield 236, 3) := by decide +kernel
theorem dX12_readPool_273 : decode cX12_readPool 273 = .ok (.iload 5, 2) := by decide +kernel
theorem dX12_readPool_275 : decode cX12_readPool 275 = .ok (.invokevirtual 291, 3) := by decide +kernel
theorem dX12_readPool_278 : decode cX12_readPool 278 = .ok (.ifCond .ne 5, 3) := by decide +kernel
theorem dX12_readPool_281 : decode cX12_readPool 281 = .ok (.iconst 0, 1) := by decide +kernel
theorem dX12_readPool_282 : decode cX12_readPool 282 = .ok (.ireturn, 1) := by decide +kernel
theorem dX12_readPool_283 : decode cX12_readPool 283 = .ok (.aload_n 0, 1) := by decide +kernel
theorem dX12_readPool_284 : decode cX12_readPool 284 = .ok (.dup, 1) := by decide +kernel
theorem dX12_readPool_285 : decode cX12_readPool 285 = .ok (.getfield 236, 3) := by decide +kernel
theorem dX12_readPool_288 : decode cX12_readPool 288 = .ok (.iload 5, 2) := by decide +kernel
theorem dX12_readPool_290 : decode cX12_readPool 290 = .ok (.iadd, 1) := by decide +kernel
theorem dX12_readPool_291 : decode cX12_readPool 291 = .ok (.putfield 236, 3) := by decide +kernel
theorem dX12_readPool_294 : decode cX12_readPool 294 = .ok (.goto 205, 3) := by decide +kernel
theorem dX12_readPool_297 : decode cX12_readPool 297 = .ok (.iload_n 2, 1) := by decide +kernel
theorem dX12_readPool_298 : decode cX12_readPool 298 = .ok (.bipush 15, 2) := by decide +kernel
theorem dX12_readPool_300 : decode cX12_readPool 300 = .ok (.if_icmp .ne 48, 3) := by decide +kernel
theorem dX12_readPool_303 : decode cX12_readPool 303 = .ok (.aload_n 0, 1) := by decide +kernel
theorem dX12_readPool_304 : decode cX12_readPool 304 = .ok (.lconst 1, 1) := by decide +kernel
theorem dX12_readPool_305 : decode cX12_readPool 305 = .ok (.invokevirtual 254, 3) := by decide +kernel
theorem dX12_readPool_308 : decode cX12_readPool 308 = .ok (.ifCond .ne 5, 3) := by decide +kernel
theorem dX12_readPool_311 : decode cX12_readPool 311 = .ok (.iconst 0, 1) := by decide +kernel
theorem dX12_readPool_312 : decode cX12_readPool 312 = .ok (.ireturn, 1) := by decide +kernel
theorem dX12_readPool_313 : decode cX12_readPool 313 = .ok (.aload_n 0, 1) := by decide +kernel
theorem dX12_readPool_314 : decode cX12_readPool 314 = .ok (.dup, 1) := by decide +kernel
theorem dX12_readPool_315 : decode cX12_readPool 315 = .ok (.getfield 236, 3) := by decide +kernel
theorem dX12_readPool_318 : decode cX12_readPool 318 = .ok (.iconst 1, 1) := by decide +kernel
theorem dX12_readPool_319 : decode cX12_readPool 319 = .ok (.iadd, 1) := by decide +kernel
theorem dX12_readPool_320 : decode cX12_readPool 320 = .ok (.putfield 236, 3) := by decide +kernel
theorem dX12_readPool_323 : decode cX12_readPool 323 = .ok (.aload_n 0, 1) := by decide +kernel
theorem dX12_readPool_324 : decode cX12_readPool 324 = .ok (.ldc2_w 264, 3) := by decide +kernel
theorem dX12_readPool_327 : decode cX12_readPool 327 = .ok (.invokevirtual 254, 3) := by decide +kernel
theorem dX12_readPool_330 : decode cX12_readPool 330 = .ok (.ifCond .ne 5, 3) := by decide +kernel
theorem dX12_readPool_333 : decode cX12_readPool 333 = .ok (.iconst 0, 1) := by decide +kernel
theorem dX12_readPool_334 : decode cX12_readPool 334 = .ok (.ireturn, 1) := by decide +kernel
theorem dX12_readPool_335 : decode cX12_readPool 335 = .ok (.aload_n 0, 1) := by decide +kernel
theorem dX12_readPool_336 : decode cX12_readPool 336 = .ok (.dup, 1) := by decide +kernel
theorem dX12_readPool_337 : decode cX12_readPool 337 = .ok (.getfield 236, 3) := by decide +kernel
theorem dX12_readPool_340 : decode cX12_readPool 340 = .ok (.iconst 2, 1) := by decide +kernel
theorem dX12_readPool_341 : decode cX12_readPool 341 = .ok (.iadd, 1) := by decide +kernel
theorem dX12_readPool_342 : decode cX12_readPool 342 = .ok (.putfield 236, 3) := by decide +kernel
theorem dX12_readPool_345 : decode cX12_readPool 345 = .ok (.goto 154, 3) := by decide +kernel
theorem dX12_readPool_348 : decode cX12_readPool 348 = .ok (.iload_n 2, 1) := by decide +kernel
theorem dX12_readPool_349 : decode cX12_readPool 349 = .ok (.iconst 3, 1) := by decide +kernel
theorem dX12_readPool_350 : decode cX12_readPool 350 = .ok (.if_icmp .eq 8, 3) := by decide +kernel
theorem dX12_readPool_353 : decode cX12_readPool 353 = .ok (.iload_n 2, 1) := by decide +kernel
theorem dX12_readPool_354 : decode cX12_readPool 354 = .ok (.iconst 4, 1) := by decide +kernel
theorem dX12_readPool_355 : decode cX12_readPool 355 = .ok (.if_icmp .ne 28, 3) := by decide +kernel
theorem dX12_readPool_358 : decode cX12_readPool 358 = .ok (.aload_n 0, 1) := by decide +kernel
theorem dX12_readPool_359 : decode cX12_readPool 359 = .ok (.ldc2_w 252, 3) := by decide +kernel
theorem dX12_readPool_362 : decode cX12_readPool 362 = .ok (.invokevirtual 254, 3) := by decide +kernel
theorem dX12_readPool_365 : decode cX12_readPool 365 = .ok (.ifCond .ne 5, 3) := by decide +kernel
theorem dX12_readPool_368 : decode cX12_readPool 368 = .ok (.iconst 0, 1) := by decide +kernel
theorem dX12_readPool_369 : decode cX12_readPool 369 = .ok (.ireturn, 1) := by decide +kernel
theorem dX12_readPool_370 : decode cX12_readPool 370 = .ok (.aload_n 0, 1) := by decide +kernel
theorem dX12_readPool_371 : decode cX12_readPool 371 = .ok (.dup, 1) := by decide +kernel
theorem dX12_readPool_372 : decode cX12_readPool 372 = .ok (.getfield 236, 3) := by decide +kernel
theorem dX12_readPool_375 : decode cX12_readPool 375 = .ok (.iconst 4, 1) := by decide +kernel
theorem dX12_readPool_376 : decode cX12_readPool 376 = .ok (.iadd, 1) := by decide +kernel
theorem dX12_readPool_377 : decode cX12_readPool 377 = .ok (.putfield 236, 3) := by decide +kernel
theorem dX12_readPool_380 : decode cX12_readPool 380 = .ok (.goto 119, 3) := by decide +kernel
theorem dX12_readPool_383 : decode cX12_readPool 383 = .ok (.iload_n 2, 1) := by decide +kernel
theorem dX12_readPool_384 : decode cX12_readPool 384 = .ok (.iconst 5, 1) := by decide +kernel
theorem dX12_readPool_385 : decode cX12_readPool 385 = .ok (.if_icmp .eq 9, 3) := by decide +kernel
theorem dX12_readPool_388 : decode cX12_readPool 388 = .ok (.iload_n 2, 1) := by decide +kernel
theorem dX12_readPool_389 : decode cX12_readPool 389 = .ok (.bipush 6, 2) := by decide +kernel
theorem dX12_readPool_391 : decode cX12_readPool 391 = .ok (.if_icmp .ne 43, 3) := by decide +kernel
theorem dX12_readPool_394 : decode cX12_readPool 394 = .ok (.iconst 0, 1) := by decide +kernel
theorem dX12_readPool_395 : decode cX12_readPool 395 = .ok (.istore 5, 2) := by decide +kernel
theorem dX12_readPool_397 : decode cX12_readPool 397 = .ok (.iload 5, 2) := by decide +kernel
theorem dX12_readPool_399 : decode cX12_readPool 399 = .ok (.iconst 2, 1) := by decide +kernel
theorem dX12_readPool_400 : decode cX12_readPool 400 = .ok (.if_icmp .ge 31, 3) := by decide +kernel
theorem dX12_readPool_403 : decode cX12_readPool 403 = .ok (.aload_n 0, 1) := by decide +kernel
theorem dX12_readPool_404 : decode cX12_readPool 404 = .ok (.ldc2_w 252, 3) := by decide +kernel
theorem dX12_readPool_407 : decode cX12_readPool 407 = .ok (.invokevirtual 254, 3) := by decide +kernel
theorem dX12_readPool_410 : decode cX12_readPool 410 = .ok (.ifCond .ne 5, 3) := by decide +kernel
theorem dX12_readPool_413 : decode cX12_readPool 413 = .ok (.iconst 0, 1) := by decide +kernel
theorem dX12_readPool_414 : decode cX12_readPool 414 = .ok (.ireturn, 1) := by decide +kernel
theorem dX12_readPool_415 : decode cX12_readPool 415 = .ok (.aload_n 0, 1) := by decide +kernel
theorem dX12_readPool_416 : decode cX12_readPool 416 = .ok (.dup, 1) := by decide +kernel
theorem dX12_readPool_417 : decode cX12_readPool 417 = .ok (.getfield 236, 3) := by decide +kernel
theorem dX12_readPool_420 : decode cX12_readPool 420 = .ok (.iconst 4, 1) := by decide +kernel
theorem dX12_readPool_421 : decode cX12_readPool 421 = .ok (.iadd, 1) := by decide +kernel
theorem dX12_readPool_422 : decode cX12_readPool 422 = .ok (.putfield 236, 3) := by decide +kernel
theorem dX12_readPool_425 : decode cX12_readPool 425 = .ok (.iinc 5 1, 3) := by decide +kernel
theorem dX12_readPool_428 : decode cX12_readPool 428 = .ok (.goto (-31), 3) := by decide +kernel
theorem dX12_readPool_431 : decode cX12_readPool 431 = .ok (.goto 68, 3) := by decide +kernel
theorem dX12_readPool_434 : decode cX12_readPool 434 = .ok (.iconst 0, 1) := by decide +kernel
theorem dX12_readPool_435 : decode cX12_readPool 435 = .ok (.istore 5, 2) := by decide +kernel
theorem dX12_readPool_437 : decode cX12_readPool 437 = .ok (.iload 5, 2) := by decide +kernel
theorem dX12_readPool_439 : decode cX12_readPool 439 = .ok (.iload_n 2, 1) := by decide +kernel
theorem dX12_readPool_440 : decode cX12_readPool 440 = .ok (.bipush 9, 2) := by decide +kernel
theorem dX12_readPool_442 : decode cX12_readPool 442 = .ok (.if_icmp .lt 9, 3) := by decide +kernel
theorem dX12_readPool_445 : decode cX12_readPool 445 = .ok (.iload_n 2, 1) := by decide +kernel
theorem dX12_readPool_446 : decode cX12_readPool 446 = .ok (.bipush 12, 2) := by decide +kernel
theorem dX12_readPool_448 : decode cX12_readPool 448 = .ok (.if_icmp .le 15, 3) := by decide +kernel
theorem dX12_readPool_451 : decode cX12_readPool 451 = .ok (.iload_n 2, 1) := by decide +kernel
theorem dX12_readPool_452 : decode cX12_readPool 452 = .ok (.bipush 17, 2) := by decide +kernel
theorem dX12_readPool_454 : decode cX12_readPool 454 = .ok (.if_icmp .eq 9, 3) := by decide +kernel
theorem dX12_readPool_457 : decode cX12_readPool 457 = .ok (.iload_n 2, 1) := by decide +kernel
theorem dX12_readPool_458 : decode cX12_readPool 458 = .ok (.bipush 18, 2) := by decide +kernel
theorem dX12_readPool_460 : decode cX12_readPool 460 = .ok (.if_icmp .ne 7, 3) := by decide +kernel
theorem dX12_readPool_463 : decode cX12_readPool 463 = .ok (.iconst 2, 1) := by decide +kernel
theorem dX12_readPool_464 : decode cX12_readPool 464 = .ok (.goto 4, 3) := by decide +kernel
theorem dX12_readPool_467 : decode cX12_readPool 467 = .ok (.iconst 1, 1) := by decide +kernel
theorem dX12_readPool_468 : decode cX12_readPool 468 = .ok (.if_icmp .ge 31, 3) := by decide +kernel
theorem dX12_readPool_471 : decode cX12_readPool 471 = .ok (.aload_n 0, 1) := by decide +kernel
theorem dX12_readPool_472 : decode cX12_readPool 472 = .ok (.ldc2_w 264, 3) := by decide +kernel
theorem dX12_readPool_475 : decode cX12_readPool 475 = .ok (.invokevirtual 254, 3) := by decide +kernel
theorem dX12_readPool_478 : decode cX12_readPool 478 = .ok (.ifCond .ne 5, 3) := by decide +kernel
theorem dX12_readPool_481 : decode cX12_readPool 481 = .ok (.iconst 0, 1) := by decide +kernel
theorem dX12_readPool_482 : decode cX12_readPool 482 = .ok (.ireturn, 1) := by decide +kernel
theorem dX12_readPool_483 : decode cX12_readPool 483 = .ok (.aload_n 0, 1) := by decide +kernel
theorem dX12_readPool_484 : decode cX12_readPool 484 = .ok (.dup, 1) := by decide +kernel
theorem dX12_readPool_485 : decode cX12_readPool 485 = .ok (.getfield 236, 3) := by decide +kernel
theorem dX12_readPool_488 : decode cX12_readPool 488 = .ok (.iconst 2, 1) := by decide +kernel
theorem dX12_readPool_489 : decode cX12_readPool 489 = .ok (.iadd, 1) := by decide +kernel
theorem dX12_readPool_490 : decode cX12_readPool 490 = .ok (.putfield 236, 3) := by decide +kernel
theorem dX12_readPool_493 : decode cX12_readPool 493 = .ok (.iinc 5 1, 3) := by decide +kernel
theorem dX12_readPool_496 : decode cX12_readPool 496 = .ok (.goto (-59), 3) := by decide +kernel
theorem dX12_readPool_499 : decode cX12_readPool 499 = .ok (.iload_n 2, 1) := by decide +kernel
theorem dX12_readPool_500 : decode cX12_readPool 500 = .ok (.iconst 5, 1) := by decide +kernel
theorem dX12_readPool_501 : decode cX12_readPool 501 = .ok (.if_icmp .eq 9, 3) := by decide +kernel
theorem dX12_readPool_504 : decode cX12_readPool 504 = .ok (.iload_n 2, 1) := by decide +kernel
theorem dX12_readPool_505 : decode cX12_readPool 505 = .ok (.bipush 6, 2) := by decide +kernel
theorem dX12_readPool_507 : decode cX12_readPool 507 = .ok (.if_icmp .ne 18, 3) := by decide +kernel
theorem dX12_readPool_510 : decode cX12_readPool 510 = .ok (.iinc 1 1, 3) := by decide +kernel
theorem dX12_readPool_513 : decode cX12_readPool 513 = .ok (.aload_n 0, 1) := by decide +kernel
theorem dX12_readPool_514 : decode cX12_readPool 514 = .ok (.getfield 53, 3) := by decide +kernel
theorem dX12_readPool_517 : decode cX12_readPool 517 = .ok (.aload_n 0, 1) := by decide +kernel
theorem dX12_readPool_518 : decode cX12_readPool 518 = .ok (.getfield 249, 3) := by decide +kernel
theorem dX12_readPool_521 : decode cX12_readPool 521 = .ok (.iload_n 1, 1) := by decide +kernel
theorem dX12_readPool_522 : decode cX12_readPool 522 = .ok (.iadd, 1) := by decide +kernel
theorem dX12_readPool_523 : decode cX12_readPool 523 = .ok (.iconst (-1), 1) := by decide +kernel
theorem dX12_readPool_524 : decode cX12_readPool 524 = .ok (.iastore, 1) := by decide +kernel
theorem dX12_readPool_525 : decode cX12_readPool 525 = .ok (.iinc 1 1, 3) := by decide +kernel
theorem dX12_readPool_528 : decode cX12_readPool 528 = .ok (.goto (-508), 3) := by decide +kernel
theorem dX12_readPool_531 : decode cX12_readPool 531 = .ok (.aload_n 0, 1) := by decide +kernel
theorem dX12_readPool_532 : decode cX12_readPool 532 = .ok (.aload_n 0, 1) := by decide +kernel
theorem dX12_readPool_533 : decode cX12_readPool 533 = .ok (.getfield 249, 3) := by decide +kernel
theorem dX12_readPool_536 : decode cX12_readPool 536 = .ok (.aload_n 0, 1) := by decide +kernel
theorem dX12_readPool_537 : decode cX12_readPool 537 = .ok (.getfield 246, 3) := by decide +kernel
theorem dX12_readPool_540 : decode cX12_readPool 540 = .ok (.iadd, 1) := by decide +kernel
theorem dX12_readPool_541 : decode cX12_readPool 541 = .ok (.putfield 195, 3) := by decide +kernel
theorem dX12_readPool_544 : decode cX12_readPool 544 = .ok (.iconst 1, 1) := by decide +kernel
theorem dX12_readPool_545 : decode cX12_readPool 545 = .ok (.ireturn, 1) := by decide +kernel
def mb_238_0 (g : xe_G) : Nat → Option mi_N := mt_node 39 (mt_node 19 (mt_node 9 (mt_node 2 (mt_node 0 (mt_leaf 0 (.inl (o_aload 0 1))) (mt_node 1 (mt_leaf 1 (.inl (o_aload 0 1))) (mt_leaf 2 (.inl (o_get 12 20))))) (mt_node 5 (mt_leaf 5 (.inl (o_put 12 51 (tyX12 51)))) (mt_node 8 (mt_leaf 8 (.inl (o_aload 0 1))) (mt_leaf 9 (.inl (o_get 12 21)))))) (mt_node 16 (mt_node 12 (mt_leaf 12 (.inl (o_aload 0 1))) (mt_node 13 (mt_leaf 13 (.inl (o_get 12 51))) (mt_leaf 16 (.inl (o_push (.int (-1)) 1))))) (mt_node 17 (mt_leaf 17 (.inl (o_ast .int (fun x => x)))) (mt_node 18 (mt_leaf 18 (.inl (o_push (.int 1) 1))) (mt_leaf 19 (.inl (o_isto 1 1))))))) (mt_node 29 (mt_node 22 (mt_node 20 (mt_leaf 20 (.inl (o_iload 1 1))) (mt_node 21 (mt_leaf 21 (.inl (o_aload 0 1))) (mt_leaf 22 (.inl (o_get 12 52))))) (mt_node 25 (mt_leaf 25 (.inl (o_if2 (fun x y => decide (y ≤ x)) 531))) (mt_node 28 (mt_leaf 28 (.inl (o_aload 0 1))) (mt_leaf 29 (.inl (o_push (.long 1) 1)))))) (mt_node 36 (mt_node 30 (mt_leaf 30 (.inr (.inl (219, 2, some 12)))) (mt_node 33 (mt_leaf 33 (.inl (o_if (fun x => decide (¬ x = 0)) 38))) (mt_leaf 36 (.inl (o_push (.int 0) 1))))) (mt_node 37 (mt_leaf 37 (.inr (.inr (r_int mi_cz)))) (mt_node 38 (mt_leaf 38 (.inl (o_aload 0 1))) (mt_leaf 39 (.inl (o_aload 0 1)))))))) (mt_node 61 (mt_node 51 (mt_node 46 (mt_node 40 (mt_leaf 40 (.inl (o_get 12 50))) (mt_node 43 (mt_leaf 43 (.inr (.inl (248, 2, some 12)))) (mt_leaf 46 (.inl (o_isto 2 1))))) (mt_node 47 (mt_leaf 47 (.inl (o_aload 0 1))) (mt_node 48 (mt_leaf 48 (.inl (o_get 12 50))) (mt_leaf 51 (.inl (o_isto 3 1)))))) (mt_node 56 (mt_node 52 (mt_leaf 52 (.inl (o_aload 0 1))) (mt_node 53 (mt_leaf 53 (.inl (o_get 12 21))) (mt_leaf 56 (.inl (o_aload 0 1))))) (mt_node 57 (mt_leaf 57 (.inl (o_get 12 51))) (mt_node 60 (mt_leaf 60 (.inl (o_iload 1 1))) (mt_leaf 61 (.inl (o_bin (fun x y => x + y) 1))))))) (mt_node 69 (mt_node 64 (mt_node 62 (mt_leaf 62 (.inl (o_iload 3 1))) (mt_node 63 (mt_leaf 63 (.inl (o_ast .int (fun x => x)))) (mt_leaf 64 (.inl (o_aload 0 1))))) (mt_node 65 (mt_leaf 65 (.inl (o_get 12 22))) (mt_node 68 (mt_leaf 68 (.inl (o_aload 0 1))) (mt_leaf 69 (.inl (o_get 12 51)))))) (mt_node 74 (mt_node 72 (mt_leaf 72 (.inl (o_iload 1 1))) (mt_node 73 (mt_leaf 73 (.inl (o_bin (fun x y => x + y) 1))) (mt_leaf 74 (.inl (o_push (.int (-1)) 1))))) (mt_node 75 (mt_leaf 75 (.inl (o_ast .int (fun x => x)))) (mt_node 76 (mt_leaf 76 (.inl (o_iload 2 1))) (mt_leaf 77 (.inl (o_push (.int 1) 1))))))))
theorem mb_238_0_ok {g : xe_G} : mt_all (mi_ent g mI (mI 238)) (mb_238_0 g) := mt_node_ok (mt_node_ok (mt_node_ok (mt_node_ok (mt_node_ok (mt_leaf_ok (en_o (sm_aload_n dX12_readPool_0 rfl))) (mt_node_ok (mt_leaf_ok (en_o (sm_aload_n dX12_readPool_1 rfl))) (mt_leaf_ok (en_o (sm_get (T := TX12) (by decide) rfl bi_X12 (by decide) bg_982 dX12_readPool_2))))) (mt_node_ok (mt_leaf_ok (en_s (sm_put (T := TX12) (by decide) rfl bi_X12 tyX12_ok nmX12 (by decide) rfl (tyX12_ok 51 (by decide)) bg_1021 dX12_readPool_5))) (mt_node_ok (mt_leaf_ok (en_o (sm_aload_n dX12_readPool_8 rfl))) (mt_leaf_ok (en_o (sm_get (T := TX12) (by decide) rfl bi_X12 (by decide) bg_936 dX12_readPool_9)))))) (mt_node_ok (mt_node_ok (mt_leaf_ok (en_o (sm_aload_n dX12_readPool_12 rfl))) (mt_node_ok (mt_leaf_ok (en_o (sm_get (T := TX12) (by decide) rfl bi_X12 (by decide) bg_1021 dX12_readPool_13))) (mt_leaf_ok (en_o (sm_iconst dX12_readPool_16 rfl))))) (mt_node_ok (mt_leaf_ok (en_s (sm_iast dX12_readPool_17))) (mt_node_ok (mt_leaf_ok (en_o (sm_iconst dX12_readPool_18 rfl))) (mt_leaf_ok (en_s (sm_istore_n dX12_readPool_19 rfl (by decide)))))))) (mt_node_ok (mt_node_ok (mt_node_ok (mt_leaf_ok (en_o (sm_iload_n dX12_readPool_20 rfl))) (mt_node_ok (mt_leaf_ok (en_o (sm_aload_n dX12_readPool_21 rfl))) (mt_leaf_ok (en_o (sm_get (T := TX12) (by decide) rfl bi_X12 (by decide) bg_1020 dX12_readPool_22))))) (mt_node_ok (mt_leaf_ok (en_o (sm_icmp_ge dX12_readPool_25 (by decide)))) (mt_node_ok (mt_leaf_ok (en_o (sm_aload_n dX12_readPool_28 rfl))) (mt_leaf_ok (en_o (sm_lconst dX12_readPool_29 rfl)))))) (mt_node_ok (mt_node_ok (mt_leaf_ok ((⟨by decide, bg_972, bg_1013, 254, 1, ⟨by decide, by decide, by decide +kernel⟩, bg_1026, Or.inr ⟨rfl, bg_1027, 12, _, rfl, by decide, rfl, Or.inl ⟨dX12_readPool_30, bg_1028⟩⟩⟩ : mi_cal _ _ _ (mI 219) _ _))) (mt_node_ok (mt_leaf_ok (en_o (sm_if_ne dX12_readPool_33 (by decide)))) (mt_leaf_ok (en_o (sm_iconst dX12_readPool_36 rfl))))) (mt_node_ok (mt_leaf_ok (sr_nar mi_cz_ok dX12_readPool_37)) (mt_node_ok (mt_leaf_ok (en_o (sm_aload_n dX12_readPool_38 rfl))) (mt_leaf_ok (en_o (sm_aload_n dX12_readPool_39 rfl)))))))) (mt_node_ok (mt_node_ok (mt_node_ok (mt_node_ok (mt_leaf_ok (en_o (sm_get (T := TX12) (by decide) rfl bi_X12 (by decide) bg_1014 dX12_readPool_40))) (mt_node_ok (mt_leaf_ok ((⟨by decide, bg_972, bg_1000, 224, 1, ⟨by decide, by decide, by decide +kernel⟩, bg_1003, Or.inr ⟨rfl, bg_1004, 12, _, rfl, by decide, rfl, Or.inl ⟨dX12_readPool_43, bg_1005⟩⟩⟩ : mi_cal _ _ _ (mI 248) _ _))) (mt_leaf_ok (en_s (sm_istore_n dX12_readPool_46 rfl (by decide)))))) (mt_node_ok (mt_leaf_ok (en_o (sm_aload_n dX12_readPool_47 rfl))) (mt_node_ok (mt_leaf_ok (en_o (sm_get (T := TX12) (by decide) rfl bi_X12 (by decide) bg_1014 dX12_readPool_48))) (mt_leaf_ok (en_s (sm_istore_n dX12_readPool_51 rfl (by decide))))))) (mt_node_ok (mt_node_ok (mt_leaf_ok (en_o (sm_aload_n dX12_readPool_52 rfl))) (mt_node_ok (mt_leaf_ok (en_o (sm_get (T := TX12) (by decide) rfl bi_X12 (by decide) bg_936 dX12_readPool_53))) (mt_leaf_ok (en_o (sm_aload_n dX12_readPool_56 rfl))))) (mt_node_ok (mt_leaf_ok (en_o (sm_get (T := TX12) (by decide) rfl bi_X12 (by decide) bg_1021 dX12_readPool_57))) (mt_node_ok (mt_leaf_ok (en_o (sm_iload_n dX12_readPool_60 rfl))) (mt_leaf_ok (en_o (sm_iadd dX12_readPool_61))))))) (mt_node_ok (mt_node_ok (mt_node_ok (mt_leaf_ok (en_o (sm_iload_n dX12_readPool_62 rfl))) (mt_node_ok (mt_leaf_ok (en_s (sm_iast dX12_readPool_63))) (mt_leaf_ok (en_o (sm_aload_n dX12_readPool_64 rfl))))) (mt_node_ok (mt_leaf_ok (en_o (sm_get (T := TX12) (by decide) rfl bi_X12 (by decide) bg_937 dX12_readPool_65))) (mt_node_ok (mt_leaf_ok (en_o (sm_aload_n dX12_readPool_68 rfl))) (mt_leaf_ok (en_o (sm_get (T := TX12) (by decide) rfl bi_X12 (by decide) bg_1021 dX12_readPool_69)))))) (mt_node_ok (mt_node_ok (mt_leaf_ok (en_o (sm_iload_n dX12_readPool_72 rfl))) (mt_node_ok (mt_leaf_ok (en_o (sm_iadd dX12_readPool_73))) (mt_leaf_ok (en_o (sm_iconst dX12_readPool_74 rfl))))) (mt_node_ok (mt_leaf_ok (en_s (sm_iast dX12_readPool_75))) (mt_node_ok (mt_leaf_ok (en_o (sm_iload_n dX12_readPool_76 rfl))) (mt_leaf_ok (en_o (sm_iconst dX12_readPool_77 rfl))))))))
def mb_238_1 (g : xe_G) : Nat → Option mi_N := mt_node 125 (mt_node 99 (mt_node 87 (mt_node 82 (mt_node 78 (mt_leaf 78 (.inl (o_if2 (fun x y => decide (x = y)) 155))) (mt_node 81 (mt_leaf 81 (.inl (o_iload 2 1))) (mt_leaf 82 (.inl (o_push (.int 3) 1))))) (mt_node 83 (mt_leaf 83 (.inl (o_if2 (fun x y => decide (x < y)) 92))) (mt_node 86 (mt_leaf 86 (.inl (o_iload 2 1))) (mt_leaf 87 (.inl (o_push (.int 12) 2)))))) (mt_node 93 (mt_node 89 (mt_leaf 89 (.inl (o_if2 (fun x y => decide (x ≤ y)) 155))) (mt_node 92 (mt_leaf 92 (.inl (o_iload 2 1))) (mt_leaf 93 (.inl (o_push (.int 15) 2))))) (mt_node 95 (mt_leaf 95 (.inl (o_if2 (fun x y => decide (x = y)) 110))) (mt_node 98 (mt_leaf 98 (.inl (o_iload 2 1))) (mt_leaf 99 (.inl (o_push (.int 16) 2))))))) (mt_node 111 (mt_node 105 (mt_node 101 (mt_leaf 101 (.inl (o_if2 (fun x y => decide (x = y)) 110))) (mt_node 104 (mt_leaf 104 (.inl (o_iload 2 1))) (mt_leaf 105 (.inl (o_push (.int 18) 2))))) (mt_node 107 (mt_leaf 107 (.inl (o_if2 (fun x y => decide (¬ x = y)) 119))) (mt_node 110 (mt_leaf 110 (.inl (o_aload 0 1))) (mt_leaf 111 (.inl (o_get 12 53)))))) (mt_node 119 (mt_node 114 (mt_leaf 114 (.inl (o_push (.int 51) 2))) (mt_node 116 (mt_leaf 116 (.inl (o_if2 (fun x y => decide (y ≤ x)) 155))) (mt_leaf 119 (.inl (o_iload 2 1))))) (mt_node 120 (mt_leaf 120 (.inl (o_push (.int 19) 2))) (mt_node 122 (mt_leaf 122 (.inl (o_if2 (fun x y => decide (x = y)) 131))) (mt_leaf 125 (.inl (o_iload 2 1)))))))) (mt_node 150 (mt_node 137 (mt_node 131 (mt_node 126 (mt_leaf 126 (.inl (o_push (.int 20) 2))) (mt_node 128 (mt_leaf 128 (.inl (o_if2 (fun x y => decide (¬ x = y)) 140))) (mt_leaf 131 (.inl (o_aload 0 1))))) (mt_node 132 (mt_leaf 132 (.inl (o_get 12 53))) (mt_node 135 (mt_leaf 135 (.inl (o_push (.int 53) 2))) (mt_leaf 137 (.inl (o_if2 (fun x y => decide (y ≤ x)) 155)))))) (mt_node 143 (mt_node 140 (mt_leaf 140 (.inl (o_iload 2 1))) (mt_node 141 (mt_leaf 141 (.inl (o_push (.int 17) 2))) (mt_leaf 143 (.inl (o_if2 (fun x y => decide (¬ x = y)) 159))))) (mt_node 146 (mt_leaf 146 (.inl (o_aload 0 1))) (mt_node 147 (mt_leaf 147 (.inl (o_get 12 53))) (mt_leaf 150 (.inl (o_push (.int 55) 2))))))) (mt_node 162 (mt_node 156 (mt_node 152 (mt_leaf 152 (.inl (o_if2 (fun x y => decide (x < y)) 159))) (mt_node 155 (mt_leaf 155 (.inl (o_push (.int 1) 1))) (mt_leaf 156 (.inl (o_goto 160))))) (mt_node 159 (mt_leaf 159 (.inl (o_push (.int 0) 1))) (mt_node 160 (mt_leaf 160 (.inl (o_isto 4 2))) (mt_leaf 162 (.inl (o_iload 4 2)))))) (mt_node 168 (mt_node 164 (mt_leaf 164 (.inl (o_if (fun x => decide (¬ x = 0)) 174))) (mt_node 167 (mt_leaf 167 (.inl (o_aload 0 1))) (mt_leaf 168 (.inl (o_push (.int 5) 1))))) (mt_node 169 (mt_leaf 169 (.inl (o_iload 3 1))) (mt_node 170 (mt_leaf 170 (.inr (.inl (256, 3, some 12)))) (mt_leaf 173 (.inr (.inr (r_int mi_cz)))))))))
theorem mb_238_1_ok {g : xe_G} : mt_all (mi_ent g mI (mI 238)) (mb_238_1 g) := mt_node_ok (mt_node_ok (mt_node_ok (mt_node_ok (mt_node_ok (mt_leaf_ok (en_o (sm_icmp_eq dX12_readPool_78 (by decide)))) (mt_node_ok (mt_leaf_ok (en_o (sm_iload_n dX12_readPool_81 rfl))) (mt_leaf_ok (en_o (sm_iconst dX12_readPool_82 rfl))))) (mt_node_ok (mt_leaf_ok (en_o (sm_icmp_lt dX12_readPool_83 (by decide)))) (mt_node_ok (mt_leaf_ok (en_o (sm_iload_n dX12_readPool_86 rfl))) (mt_leaf_ok (en_o (sm_bipush dX12_readPool_87 rfl)))))) (mt_node_ok (mt_node_ok (mt_leaf_ok (en_o (sm_icmp_le dX12_readPool_89 (by decide)))) (mt_node_ok (mt_leaf_ok (en_o (sm_iload_n dX12_readPool_92 rfl))) (mt_leaf_ok (en_o (sm_bipush dX12_readPool_93 rfl))))) (mt_node_ok (mt_leaf_ok (en_o (sm_icmp_eq dX12_readPool_95 (by decide)))) (mt_node_ok (mt_leaf_ok (en_o (sm_iload_n dX12_readPool_98 rfl))) (mt_leaf_ok (en_o (sm_bipush dX12_readPool_99 rfl))))))) (mt_node_ok (mt_node_ok (mt_node_ok (mt_leaf_ok (en_o (sm_icmp_eq dX12_readPool_101 (by decide)))) (mt_node_ok (mt_leaf_ok (en_o (sm_iload_n dX12_readPool_104 rfl))) (mt_leaf_ok (en_o (sm_bipush dX12_readPool_105 rfl))))) (mt_node_ok (mt_leaf_ok (en_o (sm_icmp_ne dX12_readPool_107 (by decide)))) (mt_node_ok (mt_leaf_ok (en_o (sm_aload_n dX12_readPool_110 rfl))) (mt_leaf_ok (en_o (sm_get (T := TX12) (by decide) rfl bi_X12 (by decide) bg_1034 dX12_readPool_111)))))) (mt_node_ok (mt_node_ok (mt_leaf_ok (en_o (sm_bipush dX12_readPool_114 rfl))) (mt_node_ok (mt_leaf_ok (en_o (sm_icmp_ge dX12_readPool_116 (by decide)))) (mt_leaf_ok (en_o (sm_iload_n dX12_readPool_119 rfl))))) (mt_node_ok (mt_leaf_ok (en_o (sm_bipush dX12_readPool_120 rfl))) (mt_node_ok (mt_leaf_ok (en_o (sm_icmp_eq dX12_readPool_122 (by decide)))) (mt_leaf_ok (en_o (sm_iload_n dX12_readPool_125 rfl)))))))) (mt_node_ok (mt_node_ok (mt_node_ok (mt_node_ok (mt_leaf_ok (en_o (sm_bipush dX12_readPool_126 rfl))) (mt_node_ok (mt_leaf_ok (en_o (sm_icmp_ne dX12_readPool_128 (by decide)))) (mt_leaf_ok (en_o (sm_aload_n dX12_readPool_131 rfl))))) (mt_node_ok (mt_leaf_ok (en_o (sm_get (T := TX12) (by decide) rfl bi_X12 (by decide) bg_1034 dX12_readPool_132))) (mt_node_ok (mt_leaf_ok (en_o (sm_bipush dX12_readPool_135 rfl))) (mt_leaf_ok (en_o (sm_icmp_ge dX12_readPool_137 (by decide))))))) (mt_node_ok (mt_node_ok (mt_leaf_ok (en_o (sm_iload_n dX12_readPool_140 rfl))) (mt_node_ok (mt_leaf_ok (en_o (sm_bipush dX12_readPool_141 rfl))) (mt_leaf_ok (en_o (sm_icmp_ne dX12_readPool_143 (by decide)))))) (mt_node_ok (mt_leaf_ok (en_o (sm_aload_n dX12_readPool_146 rfl))) (mt_node_ok (mt_leaf_ok (en_o (sm_get (T := TX12) (by decide) rfl bi_X12 (by decide) bg_1034 dX12_readPool_147))) (mt_leaf_ok (en_o (sm_bipush dX12_readPool_150 rfl))))))) (mt_node_ok (mt_node_ok (mt_node_ok (mt_leaf_ok (en_o (sm_icmp_lt dX12_readPool_152 (by decide)))) (mt_node_ok (mt_leaf_ok (en_o (sm_iconst dX12_readPool_155 rfl))) (mt_leaf_ok (en_o (sm_goto dX12_readPool_156 (by decide)))))) (mt_node_ok (mt_leaf_ok (en_o (sm_iconst dX12_readPool_159 rfl))) (mt_node_ok (mt_leaf_ok (en_s (sm_istore dX12_readPool_160 (by decide)))) (mt_leaf_ok (en_o (sm_iload dX12_readPool_162)))))) (mt_node_ok (mt_node_ok (mt_leaf_ok (en_o (sm_if_ne dX12_readPool_164 (by decide)))) (mt_node_ok (mt_leaf_ok (en_o (sm_aload_n dX12_readPool_167 rfl))) (mt_leaf_ok (en_o (sm_iconst dX12_readPool_168 rfl))))) (mt_node_ok (mt_leaf_ok (en_o (sm_iload_n dX12_readPool_169 rfl))) (mt_node_ok (mt_leaf_ok ((⟨by decide, bg_972, bg_1010, 242, 2, ⟨by decide, by decide, by decide +kernel⟩, bg_1016, Or.inr ⟨rfl, bg_1017, 12, _, rfl, by decide, rfl, Or.inl ⟨dX12_readPool_170, bg_1018⟩⟩⟩ : mi_cal _ _ _ (mI 256) _ _))) (mt_leaf_ok (sr_nar mi_cz_ok dX12_readPool_173)))))))
def mb_238_2 (g : xe_G) : Nat → Option mi_N := mt_node 213 (mt_node 192 (mt_node 182 (mt_node 176 (mt_node 174 (mt_leaf 174 (.inl (o_iload 2 1))) (mt_node 175 (mt_leaf 175 (.inl (o_push (.int 5) 1))) (mt_leaf 176 (.inl (o_if2 (fun x y => decide (x = y)) 185))))) (mt_node 179 (mt_leaf 179 (.inl (o_iload 2 1))) (mt_node 180 (mt_leaf 180 (.inl (o_push (.int 6) 2))) (mt_leaf 182 (.inl (o_if2 (fun x y => decide (¬ x = y)) 203)))))) (mt_node 187 (mt_node 185 (mt_leaf 185 (.inl (o_iload 1 1))) (mt_node 186 (mt_leaf 186 (.inl (o_push (.int 1) 1))) (mt_leaf 187 (.inl (o_bin (fun x y => x + y) 1))))) (mt_node 188 (mt_leaf 188 (.inl (o_aload 0 1))) (mt_node 189 (mt_leaf 189 (.inl (o_get 12 52))) (mt_leaf 192 (.inl (o_if2 (fun x y => decide (x < y)) 203))))))) (mt_node 203 (mt_node 198 (mt_node 195 (mt_leaf 195 (.inl (o_aload 0 1))) (mt_node 196 (mt_leaf 196 (.inl (o_push (.int 7) 2))) (mt_leaf 198 (.inl (o_iload 3 1))))) (mt_node 199 (mt_leaf 199 (.inr (.inl (256, 3, some 12)))) (mt_node 202 (mt_leaf 202 (.inr (.inr (r_int mi_cz)))) (mt_leaf 203 (.inl (o_aload 0 1)))))) (mt_node 208 (mt_node 204 (mt_leaf 204 (.inl (o_dup))) (mt_node 205 (mt_leaf 205 (.inl (o_get 12 50))) (mt_leaf 208 (.inl (o_push (.int 1) 1))))) (mt_node 209 (mt_leaf 209 (.inl (o_bin (fun x y => x + y) 1))) (mt_node 210 (mt_leaf 210 (.inl (o_put 12 50 (tyX12 50)))) (mt_leaf 213 (.inl (o_iload 2 1)))))))) (mt_node 235 (mt_node 225 (mt_node 218 (mt_node 214 (mt_leaf 214 (.inl (o_push (.int 1) 1))) (mt_node 215 (mt_leaf 215 (.inl (o_if2 (fun x y => decide (¬ x = y)) 297))) (mt_leaf 218 (.inl (o_aload 0 1))))) (mt_node 219 (mt_leaf 219 (.inl (o_push (.long 2) 3))) (mt_node 222 (mt_leaf 222 (.inr (.inl (219, 2, some 12)))) (mt_leaf 225 (.inl (o_if (fun x => decide (¬ x = 0)) 230)))))) (mt_node 230 (mt_node 228 (mt_leaf 228 (.inl (o_push (.int 0) 1))) (mt_node 229 (mt_leaf 229 (.inr (.inr (r_int mi_cz)))) (mt_leaf 230 (.inl (o_aload 0 1))))) (mt_node 231 (mt_leaf 231 (.inl (o_aload 0 1))) (mt_node 232 (mt_leaf 232 (.inl (o_get 12 50))) (mt_leaf 235 (.inr (.inl (249, 2, some 12)))))))) (mt_node 246 (mt_node 241 (mt_node 238 (mt_leaf 238 (.inl (o_isto 5 2))) (mt_node 240 (mt_leaf 240 (.inl (o_aload 0 1))) (mt_leaf 241 (.inl (o_dup))))) (mt_node 242 (mt_leaf 242 (.inl (o_get 12 50))) (mt_node 245 (mt_leaf 245 (.inl (o_push (.int 2) 1))) (mt_leaf 246 (.inl (o_bin (fun x y => x + y) 1)))))) (mt_node 251 (mt_node 247 (mt_leaf 247 (.inl (o_put 12 50 (tyX12 50)))) (mt_node 250 (mt_leaf 250 (.inl (o_aload 0 1))) (mt_leaf 251 (.inl (o_iload 5 2))))) (mt_node 253 (mt_leaf 253 (.inl (o_i2l))) (mt_node 254 (mt_leaf 254 (.inr (.inl (219, 2, some 12)))) (mt_leaf 257 (.inl (o_if (fun x => decide (¬ x = 0)) 262))))))))
theorem mb_238_2_ok {g : xe_G} : mt_all (mi_ent g mI (mI 238)) (mb_238_2 g) := mt_node_ok (mt_node_ok (mt_node_ok (mt_node_ok (mt_node_ok (mt_leaf_ok (en_o (sm_iload_n dX12_readPool_174 rfl))) (mt_node_ok (mt_leaf_ok (en_o (sm_iconst dX12_readPool_175 rfl))) (mt_leaf_ok (en_o (sm_icmp_eq dX12_readPool_176 (by decide)))))) (mt_node_ok (mt_leaf_ok (en_o (sm_iload_n dX12_readPool_179 rfl))) (mt_node_ok (mt_leaf_ok (en_o (sm_bipush dX12_readPool_180 rfl))) (mt_leaf_ok (en_o (sm_icmp_ne dX12_readPool_182 (by decide))))))) (mt_node_ok (mt_node_ok (mt_leaf_ok (en_o (sm_iload_n dX12_readPool_185 rfl))) (mt_node_ok (mt_leaf_ok (en_o (sm_iconst dX12_readPool_186 rfl))) (mt_leaf_ok (en_o (sm_iadd dX12_readPool_187))))) (mt_node_ok (mt_leaf_ok (en_o (sm_aload_n dX12_readPool_188 rfl))) (mt_node_ok (mt_leaf_ok (en_o (sm_get (T := TX12) (by decide) rfl bi_X12 (by decide) bg_1020 dX12_readPool_189))) (mt_leaf_ok (en_o (sm_icmp_lt dX12_readPool_192 (by decide)))))))) (mt_node_ok (mt_node_ok (mt_node_ok (mt_leaf_ok (en_o (sm_aload_n dX12_readPool_195 rfl))) (mt_node_ok (mt_leaf_ok (en_o (sm_bipush dX12_readPool_196 rfl))) (mt_leaf_ok (en_o (sm_iload_n dX12_readPool_198 rfl))))) (mt_node_ok (mt_leaf_ok ((⟨by decide, bg_972, bg_1010, 242, 2, ⟨by decide, by decide, by decide +kernel⟩, bg_1016, Or.inr ⟨rfl, bg_1017, 12, _, rfl, by decide, rfl, Or.inl ⟨dX12_readPool_199, bg_1018⟩⟩⟩ : mi_cal _ _ _ (mI 256) _ _))) (mt_node_ok (mt_leaf_ok (sr_nar mi_cz_ok dX12_readPool_202)) (mt_leaf_ok (en_o (sm_aload_n dX12_readPool_203 rfl)))))) (mt_node_ok (mt_node_ok (mt_leaf_ok (en_o (sm_dup dX12_readPool_204))) (mt_node_ok (mt_leaf_ok (en_o (sm_get (T := TX12) (by decide) rfl bi_X12 (by decide) bg_1014 dX12_readPool_205))) (mt_leaf_ok (en_o (sm_iconst dX12_readPool_208 rfl))))) (mt_node_ok (mt_leaf_ok (en_o (sm_iadd dX12_readPool_209))) (mt_node_ok (mt_leaf_ok (en_s (sm_put (T := TX12) (by decide) rfl bi_X12 tyX12_ok nmX12 (by decide) rfl (tyX12_ok 50 (by decide)) bg_1014 dX12_readPool_210))) (mt_leaf_ok (en_o (sm_iload_n dX12_readPool_213 rfl)))))))) (mt_node_ok (mt_node_ok (mt_node_ok (mt_node_ok (mt_leaf_ok (en_o (sm_iconst dX12_readPool_214 rfl))) (mt_node_ok (mt_leaf_ok (en_o (sm_icmp_ne dX12_readPool_215 (by decide)))) (mt_leaf_ok (en_o (sm_aload_n dX12_readPool_218 rfl))))) (mt_node_ok (mt_leaf_ok (en_o (sm_ldc2 bg_1033 dX12_readPool_219))) (mt_node_ok (mt_leaf_ok ((⟨by decide, bg_972, bg_1013, 254, 1, ⟨by decide, by decide, by decide +kernel⟩, bg_1026, Or.inr ⟨rfl, bg_1027, 12, _, rfl, by decide, rfl, Or.inl ⟨dX12_readPool_222, bg_1028⟩⟩⟩ : mi_cal _ _ _ (mI 219) _ _))) (mt_leaf_ok (en_o (sm_if_ne dX12_readPool_225 (by decide))))))) (mt_node_ok (mt_node_ok (mt_leaf_ok (en_o (sm_iconst dX12_readPool_228 rfl))) (mt_node_ok (mt_leaf_ok (sr_nar mi_cz_ok dX12_readPool_229)) (mt_leaf_ok (en_o (sm_aload_n dX12_readPool_230 rfl))))) (mt_node_ok (mt_leaf_ok (en_o (sm_aload_n dX12_readPool_231 rfl))) (mt_node_ok (mt_leaf_ok (en_o (sm_get (T := TX12) (by decide) rfl bi_X12 (by decide) bg_1014 dX12_readPool_232))) (mt_leaf_ok ((⟨by decide, bg_972, bg_1002, 227, 1, ⟨by decide, by decide, by decide +kernel⟩, bg_1007, Or.inr ⟨rfl, bg_1008, 12, _, rfl, by decide, rfl, Or.inl ⟨dX12_readPool_235, bg_1009⟩⟩⟩ : mi_cal _ _ _ (mI 249) _ _))))))) (mt_node_ok (mt_node_ok (mt_node_ok (mt_leaf_ok (en_s (sm_istore dX12_readPool_238 (by decide)))) (mt_node_ok (mt_leaf_ok (en_o (sm_aload_n dX12_readPool_240 rfl))) (mt_leaf_ok (en_o (sm_dup dX12_readPool_241))))) (mt_node_ok (mt_leaf_ok (en_o (sm_get (T := TX12) (by decide) rfl bi_X12 (by decide) bg_1014 dX12_readPool_242))) (mt_node_ok (mt_leaf_ok (en_o (sm_iconst dX12_readPool_245 rfl))) (mt_leaf_ok (en_o (sm_iadd dX12_readPool_246)))))) (mt_node_ok (mt_node_ok (mt_leaf_ok (en_s (sm_put (T := TX12) (by decide) rfl bi_X12 tyX12_ok nmX12 (by decide) rfl (tyX12_ok 50 (by decide)) bg_1014 dX12_readPool_247))) (mt_node_ok (mt_leaf_ok (en_o (sm_aload_n dX12_readPool_250 rfl))) (mt_leaf_ok (en_o (sm_iload dX12_readPool_251))))) (mt_node_ok (mt_leaf_ok (en_o (sm_i2l dX12_readPool_253))) (mt_node_ok (mt_leaf_ok ((⟨by decide, bg_972, bg_1013, 254, 1, ⟨by decide, by decide, by decide +kernel⟩, bg_1026, Or.inr ⟨rfl, bg_1027, 12, _, rfl, by decide, rfl, Or.inl ⟨dX12_readPool_254, bg_1028⟩⟩⟩ : mi_cal _ _ _ (mI 219) _ _))) (mt_leaf_ok (en_o (sm_if_ne dX12_readPool_257 (by decide)))))))))
def mb_238_3 (g : xe_G) : Nat → Option mi_N := mt_node 300 (mt_node 278 (mt_node 267 (mt_node 262 (mt_node 260 (mt_leaf 260 (.inl (o_push (.int 0) 1))) (mt_node 261 (mt_leaf 261 (.inr (.inr (r_int mi_cz)))) (mt_leaf 262 (.inl (o_aload 0 1))))) (mt_node 263 (mt_leaf 263 (.inl (o_aload 0 1))) (mt_node 264 (mt_leaf 264 (.inl (o_get 12 51))) (mt_leaf 267 (.inl (o_iload 1 1)))))) (mt_node 270 (mt_node 268 (mt_leaf 268 (.inl (o_bin (fun x y => x + y) 1))) (mt_node 269 (mt_leaf 269 (.inl (o_aload 0 1))) (mt_leaf 270 (.inl (o_get 12 50))))) (mt_node 273 (mt_leaf 273 (.inl (o_iload 5 2))) (mt_node 275 (mt_leaf 275 (.inr (.inl (252, 4, some 12)))) (mt_leaf 278 (.inl (o_if (fun x => decide (¬ x = 0)) 283))))))) (mt_node 288 (mt_node 283 (mt_node 281 (mt_leaf 281 (.inl (o_push (.int 0) 1))) (mt_node 282 (mt_leaf 282 (.inr (.inr (r_int mi_cz)))) (mt_leaf 283 (.inl (o_aload 0 1))))) (mt_node 284 (mt_leaf 284 (.inl (o_dup))) (mt_node 285 (mt_leaf 285 (.inl (o_get 12 50))) (mt_leaf 288 (.inl (o_iload 5 2)))))) (mt_node 294 (mt_node 290 (mt_leaf 290 (.inl (o_bin (fun x y => x + y) 1))) (mt_node 291 (mt_leaf 291 (.inl (o_put 12 50 (tyX12 50)))) (mt_leaf 294 (.inl (o_goto 499))))) (mt_node 297 (mt_leaf 297 (.inl (o_iload 2 1))) (mt_node 298 (mt_leaf 298 (.inl (o_push (.int 15) 2))) (mt_leaf 300 (.inl (o_if2 (fun x y => decide (¬ x = y)) 348)))))))) (mt_node 320 (mt_node 312 (mt_node 305 (mt_node 303 (mt_leaf 303 (.inl (o_aload 0 1))) (mt_node 304 (mt_leaf 304 (.inl (o_push (.long 1) 1))) (mt_leaf 305 (.inr (.inl (219, 2, some 12)))))) (mt_node 308 (mt_leaf 308 (.inl (o_if (fun x => decide (¬ x = 0)) 313))) (mt_node 311 (mt_leaf 311 (.inl (o_push (.int 0) 1))) (mt_leaf 312 (.inr (.inr (r_int mi_cz))))))) (mt_node 315 (mt_node 313 (mt_leaf 313 (.inl (o_aload 0 1))) (mt_node 314 (mt_leaf 314 (.inl (o_dup))) (mt_leaf 315 (.inl (o_get 12 50))))) (mt_node 318 (mt_leaf 318 (.inl (o_push (.int 1) 1))) (mt_node 319 (mt_leaf 319 (.inl (o_bin (fun x y => x + y) 1))) (mt_leaf 320 (.inl (o_put 12 50 (tyX12 50)))))))) (mt_node 334 (mt_node 327 (mt_node 323 (mt_leaf 323 (.inl (o_aload 0 1))) (mt_node 324 (mt_leaf 324 (.inl (o_push (.long 2) 3))) (mt_leaf 327 (.inr (.inl (219, 2, some 12)))))) (mt_node 330 (mt_leaf 330 (.inl (o_if (fun x => decide (¬ x = 0)) 335))) (mt_node 333 (mt_leaf 333 (.inl (o_push (.int 0) 1))) (mt_leaf 334 (.inr (.inr (r_int mi_cz))))))) (mt_node 337 (mt_node 335 (mt_leaf 335 (.inl (o_aload 0 1))) (mt_node 336 (mt_leaf 336 (.inl (o_dup))) (mt_leaf 337 (.inl (o_get 12 50))))) (mt_node 340 (mt_leaf 340 (.inl (o_push (.int 2) 1))) (mt_node 341 (mt_leaf 341 (.inl (o_bin (fun x y => x + y) 1))) (mt_leaf 342 (.inl (o_put 12 50 (tyX12 50)))))))))
theorem mb_238_3_ok {g : xe_G} : mt_all (mi_ent g mI (mI 238)) (mb_238_3 g) := mt_node_ok (mt_node_ok (mt_node_ok (mt_node_ok (mt_node_ok (mt_leaf_ok (en_o (sm_iconst dX12_readPool_260 rfl))) (mt_node_ok (mt_leaf_ok (sr_nar mi_cz_ok dX12_readPool_261)) (mt_leaf_ok (en_o (sm_aload_n dX12_readPool_262 rfl))))) (mt_node_ok (mt_leaf_ok (en_o (sm_aload_n dX12_readPool_263 rfl))) (mt_node_ok (mt_leaf_ok (en_o (sm_get (T := TX12) (by decide) rfl bi_X12 (by decide) bg_1021 dX12_readPool_264))) (mt_leaf_ok (en_o (sm_iload_n dX12_readPool_267 rfl)))))) (mt_node_ok (mt_node_ok (mt_leaf_ok (en_o (sm_iadd dX12_readPool_268))) (mt_node_ok (mt_leaf_ok (en_o (sm_aload_n dX12_readPool_269 rfl))) (mt_leaf_ok (en_o (sm_get (T := TX12) (by decide) rfl bi_X12 (by decide) bg_1014 dX12_readPool_270))))) (mt_node_ok (mt_leaf_ok (en_o (sm_iload dX12_readPool_273))) (mt_node_ok (mt_leaf_ok ((⟨by decide, bg_972, bg_1052, 291, 3, ⟨by decide, by decide, by decide +kernel⟩, bg_1051, Or.inr ⟨rfl, bg_1053, 12, _, rfl, by decide, rfl, Or.inl ⟨dX12_readPool_275, bg_1054⟩⟩⟩ : mi_cal _ _ _ (mI 252) _ _))) (mt_leaf_ok (en_o (sm_if_ne dX12_readPool_278 (by decide)))))))) (mt_node_ok (mt_node_ok (mt_node_ok (mt_leaf_ok (en_o (sm_iconst dX12_readPool_281 rfl))) (mt_node_ok (mt_leaf_ok (sr_nar mi_cz_ok dX12_readPool_282)) (mt_leaf_ok (en_o (sm_aload_n dX12_readPool_283 rfl))))) (mt_node_ok (mt_leaf_ok (en_o (sm_dup dX12_readPool_284))) (mt_node_ok (mt_leaf_ok (en_o (sm_get (T := TX12) (by decide) rfl bi_X12 (by decide) bg_1014 dX12_readPool_285))) (mt_leaf_ok (en_o (sm_iload dX12_readPool_288)))))) (mt_node_ok (mt_node_ok (mt_leaf_ok (en_o (sm_iadd dX12_readPool_290))) (mt_node_ok (mt_leaf_ok (en_s (sm_put (T := TX12) (by decide) rfl bi_X12 tyX12_ok nmX12 (by decide) rfl (tyX12_ok 50 (by decide)) bg_1014 dX12_readPool_291))) (mt_leaf_ok (en_o (sm_goto dX12_readPool_294 (by decide)))))) (mt_node_ok (mt_leaf_ok (en_o (sm_iload_n dX12_readPool_297 rfl))) (mt_node_ok (mt_leaf_ok (en_o (sm_bipush dX12_readPool_298 rfl))) (mt_leaf_ok (en_o (sm_icmp_ne dX12_readPool_300 (by decide))))))))) (mt_node_ok (mt_node_ok (mt_node_ok (mt_node_ok (mt_leaf_ok (en_o (sm_aload_n dX12_readPool_303 rfl))) (mt_node_ok (mt_leaf_ok (en_o (sm_lconst dX12_readPool_304 rfl))) (mt_leaf_ok ((⟨by decide, bg_972, bg_1013, 254, 1, ⟨by decide, by decide, by decide +kernel⟩, bg_1026, Or.inr ⟨rfl, bg_1027, 12, _, rfl, by decide, rfl, Or.inl ⟨dX12_readPool_305, bg_1028⟩⟩⟩ : mi_cal _ _ _ (mI 219) _ _))))) (mt_node_ok (mt_leaf_ok (en_o (sm_if_ne dX12_readPool_308 (by decide)))) (mt_node_ok (mt_leaf_ok (en_o (sm_iconst dX12_readPool_311 rfl))) (mt_leaf_ok (sr_nar mi_cz_ok dX12_readPool_312))))) (mt_node_ok (mt_node_ok (mt_leaf_ok (en_o (sm_aload_n dX12_readPool_313 rfl))) (mt_node_ok (mt_leaf_ok (en_o (sm_dup dX12_readPool_314))) (mt_leaf_ok (en_o (sm_get (T := TX12) (by decide) rfl bi_X12 (by decide) bg_1014 dX12_readPool_315))))) (mt_node_ok (mt_leaf_ok (en_o (sm_iconst dX12_readPool_318 rfl))) (mt_node_ok (mt_leaf_ok (en_o (sm_iadd dX12_readPool_319))) (mt_leaf_ok (en_s (sm_put (T := TX12) (by decide) rfl bi_X12 tyX12_ok nmX12 (by decide) rfl (tyX12_ok 50 (by decide)) bg_1014 dX12_readPool_320))))))) (mt_node_ok (mt_node_ok (mt_node_ok (mt_leaf_ok (en_o (sm_aload_n dX12_readPool_323 rfl))) (mt_node_ok (mt_leaf_ok (en_o (sm_ldc2 bg_1033 dX12_readPool_324))) (mt_leaf_ok ((⟨by decide, bg_972, bg_1013, 254, 1, ⟨by decide, by decide, by decide +kernel⟩, bg_1026, Or.inr ⟨rfl, bg_1027, 12, _, rfl, by decide, rfl, Or.inl ⟨dX12_readPool_327, bg_1028⟩⟩⟩ : mi_cal _ _ _ (mI 219) _ _))))) (mt_node_ok (mt_leaf_ok (en_o (sm_if_ne dX12_readPool_330 (by decide)))) (mt_node_ok (mt_leaf_ok (en_o (sm_iconst dX12_readPool_333 rfl))) (mt_leaf_ok (sr_nar mi_cz_ok dX12_readPool_334))))) (mt_node_ok (mt_node_ok (mt_leaf_ok (en_o (sm_aload_n dX12_readPool_335 rfl))) (mt_node_ok (mt_leaf_ok (en_o (sm_dup dX12_readPool_336))) (mt_leaf_ok (en_o (sm_get (T := TX12) (by decide) rfl bi_X12 (by decide) bg_1014 dX12_readPool_337))))) (mt_node_ok (mt_leaf_ok (en_o (sm_iconst dX12_readPool_340 rfl))) (mt_node_ok (mt_leaf_ok (en_o (sm_iadd dX12_readPool_341))) (mt_leaf_ok (en_s (sm_put (T := TX12) (by decide) rfl bi_X12 tyX12_ok nmX12 (by decide) rfl (tyX12_ok 50 (by decide)) bg_1014 dX12_readPool_342))))))))
def mb_238_4 (g : xe_G) : Nat → Option mi_N := mt_node 388 (mt_node 368 (mt_node 354 (mt_node 349 (mt_node 345 (mt_leaf 345 (.inl (o_goto 499))) (mt_node 348 (mt_leaf 348 (.inl (o_iload 2 1))) (mt_leaf 349 (.inl (o_push (.int 3) 1))))) (mt_node 350 (mt_leaf 350 (.inl (o_if2 (fun x y => decide (x = y)) 358))) (mt_node 353 (mt_leaf 353 (.inl (o_iload 2 1))) (mt_leaf 354 (.inl (o_push (.int 4) 1)))))) (mt_node 359 (mt_node 355 (mt_leaf 355 (.inl (o_if2 (fun x y => decide (¬ x = y)) 383))) (mt_node 358 (mt_leaf 358 (.inl (o_aload 0 1))) (mt_leaf 359 (.inl (o_push (.long 4) 3))))) (mt_node 362 (mt_leaf 362 (.inr (.inl (219, 2, some 12)))) (mt_node 365 (mt_leaf 365 (.inl (o_if (fun x => decide (¬ x = 0)) 370))) (mt_leaf 368 (.inl (o_push (.int 0) 1))))))) (mt_node 376 (mt_node 371 (mt_node 369 (mt_leaf 369 (.inr (.inr (r_int mi_cz)))) (mt_node 370 (mt_leaf 370 (.inl (o_aload 0 1))) (mt_leaf 371 (.inl (o_dup))))) (mt_node 372 (mt_leaf 372 (.inl (o_get 12 50))) (mt_node 375 (mt_leaf 375 (.inl (o_push (.int 4) 1))) (mt_leaf 376 (.inl (o_bin (fun x y => x + y) 1)))))) (mt_node 383 (mt_node 377 (mt_leaf 377 (.inl (o_put 12 50 (tyX12 50)))) (mt_node 380 (mt_leaf 380 (.inl (o_goto 499))) (mt_leaf 383 (.inl (o_iload 2 1))))) (mt_node 384 (mt_leaf 384 (.inl (o_push (.int 5) 1))) (mt_node 385 (mt_leaf 385 (.inl (o_if2 (fun x y => decide (x = y)) 394))) (mt_leaf 388 (.inl (o_iload 2 1)))))))) (mt_node 413 (mt_node 399 (mt_node 394 (mt_node 389 (mt_leaf 389 (.inl (o_push (.int 6) 2))) (mt_node 391 (mt_leaf 391 (.inl (o_if2 (fun x y => decide (¬ x = y)) 434))) (mt_leaf 394 (.inl (o_push (.int 0) 1))))) (mt_node 395 (mt_leaf 395 (.inl (o_isto 5 2))) (mt_node 397 (mt_leaf 397 (.inl (o_iload 5 2))) (mt_leaf 399 (.inl (o_push (.int 2) 1)))))) (mt_node 404 (mt_node 400 (mt_leaf 400 (.inl (o_if2 (fun x y => decide (y ≤ x)) 431))) (mt_node 403 (mt_leaf 403 (.inl (o_aload 0 1))) (mt_leaf 404 (.inl (o_push (.long 4) 3))))) (mt_node 407 (mt_leaf 407 (.inr (.inl (219, 2, some 12)))) (mt_node 410 (mt_leaf 410 (.inl (o_if (fun x => decide (¬ x = 0)) 415))) (mt_leaf 413 (.inl (o_push (.int 0) 1))))))) (mt_node 421 (mt_node 416 (mt_node 414 (mt_leaf 414 (.inr (.inr (r_int mi_cz)))) (mt_node 415 (mt_leaf 415 (.inl (o_aload 0 1))) (mt_leaf 416 (.inl (o_dup))))) (mt_node 417 (mt_leaf 417 (.inl (o_get 12 50))) (mt_node 420 (mt_leaf 420 (.inl (o_push (.int 4) 1))) (mt_leaf 421 (.inl (o_bin (fun x y => x + y) 1)))))) (mt_node 428 (mt_node 422 (mt_leaf 422 (.inl (o_put 12 50 (tyX12 50)))) (mt_node 425 (mt_leaf 425 (.inl (o_iinc 5 1))) (mt_leaf 428 (.inl (o_goto 397))))) (mt_node 431 (mt_leaf 431 (.inl (o_goto 499))) (mt_node 434 (mt_leaf 434 (.inl (o_push (.int 0) 1))) (mt_leaf 435 (.inl (o_isto 5 2))))))))
theorem mb_238_4_ok {g : xe_G} : mt_all (mi_ent g mI (mI 238)) (mb_238_4 g) := mt_node_ok (mt_node_ok (mt_node_ok (mt_node_ok (mt_node_ok (mt_leaf_ok (en_o (sm_goto dX12_readPool_345 (by decide)))) (mt_node_ok (mt_leaf_ok (en_o (sm_iload_n dX12_readPool_348 rfl))) (mt_leaf_ok (en_o (sm_iconst dX12_readPool_349 rfl))))) (mt_node_ok (mt_leaf_ok (en_o (sm_icmp_eq dX12_readPool_350 (by decide)))) (mt_node_ok (mt_leaf_ok (en_o (sm_iload_n dX12_readPool_353 rfl))) (mt_leaf_ok (en_o (sm_iconst dX12_readPool_354 rfl)))))) (mt_node_ok (mt_node_ok (mt_leaf_ok (en_o (sm_icmp_ne dX12_readPool_355 (by decide)))) (mt_node_ok (mt_leaf_ok (en_o (sm_aload_n dX12_readPool_358 rfl))) (mt_leaf_ok (en_o (sm_ldc2 bg_1025 dX12_readPool_359))))) (mt_node_ok (mt_leaf_ok ((⟨by decide, bg_972, bg_1013, 254, 1, ⟨by decide, by decide, by decide +kernel⟩, bg_1026, Or.inr ⟨rfl, bg_1027, 12, _, rfl, by decide, rfl, Or.inl ⟨dX12_readPool_362, bg_1028⟩⟩⟩ : mi_cal _ _ _ (mI 219) _ _))) (mt_node_ok (mt_leaf_ok (en_o (sm_if_ne dX12_readPool_365 (by decide)))) (mt_leaf_ok (en_o (sm_iconst dX12_readPool_368 rfl))))))) (mt_node_ok (mt_node_ok (mt_node_ok (mt_leaf_ok (sr_nar mi_cz_ok dX12_readPool_369)) (mt_node_ok (mt_leaf_ok (en_o (sm_aload_n dX12_readPool_370 rfl))) (mt_leaf_ok (en_o (sm_dup dX12_readPool_371))))) (mt_node_ok (mt_leaf_ok (en_o (sm_get (T := TX12) (by decide) rfl bi_X12 (by decide) bg_1014 dX12_readPool_372))) (mt_node_ok (mt_leaf_ok (en_o (sm_iconst dX12_readPool_375 rfl))) (mt_leaf_ok (en_o (sm_iadd dX12_readPool_376)))))) (mt_node_ok (mt_node_ok (mt_leaf_ok (en_s (sm_put (T := TX12) (by decide) rfl bi_X12 tyX12_ok nmX12 (by decide) rfl (tyX12_ok 50 (by decide)) bg_1014 dX12_readPool_377))) (mt_node_ok (mt_leaf_ok (en_o (sm_goto dX12_readPool_380 (by decide)))) (mt_leaf_ok (en_o (sm_iload_n dX12_readPool_383 rfl))))) (mt_node_ok (mt_leaf_ok (en_o (sm_iconst dX12_readPool_384 rfl))) (mt_node_ok (mt_leaf_ok (en_o (sm_icmp_eq dX12_readPool_385 (by decide)))) (mt_leaf_ok (en_o (sm_iload_n dX12_readPool_388 rfl)))))))) (mt_node_ok (mt_node_ok (mt_node_ok (mt_node_ok (mt_leaf_ok (en_o (sm_bipush dX12_readPool_389 rfl))) (mt_node_ok (mt_leaf_ok (en_o (sm_icmp_ne dX12_readPool_391 (by decide)))) (mt_leaf_ok (en_o (sm_iconst dX12_readPool_394 rfl))))) (mt_node_ok (mt_leaf_ok (en_s (sm_istore dX12_readPool_395 (by decide)))) (mt_node_ok (mt_leaf_ok (en_o (sm_iload dX12_readPool_397))) (mt_leaf_ok (en_o (sm_iconst dX12_readPool_399 rfl)))))) (mt_node_ok (mt_node_ok (mt_leaf_ok (en_o (sm_icmp_ge dX12_readPool_400 (by decide)))) (mt_node_ok (mt_leaf_ok (en_o (sm_aload_n dX12_readPool_403 rfl))) (mt_leaf_ok (en_o (sm_ldc2 bg_1025 dX12_readPool_404))))) (mt_node_ok (mt_leaf_ok ((⟨by decide, bg_972, bg_1013, 254, 1, ⟨by decide, by decide, by decide +kernel⟩, bg_1026, Or.inr ⟨rfl, bg_1027, 12, _, rfl, by decide, rfl, Or.inl ⟨dX12_readPool_407, bg_1028⟩⟩⟩ : mi_cal _ _ _ (mI 219) _ _))) (mt_node_ok (mt_leaf_ok (en_o (sm_if_ne dX12_readPool_410 (by decide)))) (mt_leaf_ok (en_o (sm_iconst dX12_readPool_413 rfl))))))) (mt_node_ok (mt_node_ok (mt_node_ok (mt_leaf_ok (sr_nar mi_cz_ok dX12_readPool_414)) (mt_node_ok (mt_leaf_ok (en_o (sm_aload_n dX12_readPool_415 rfl))) (mt_leaf_ok (en_o (sm_dup dX12_readPool_416))))) (mt_node_ok (mt_leaf_ok (en_o (sm_get (T := TX12) (by decide) rfl bi_X12 (by decide) bg_1014 dX12_readPool_417))) (mt_node_ok (mt_leaf_ok (en_o (sm_iconst dX12_readPool_420 rfl))) (mt_leaf_ok (en_o (sm_iadd dX12_readPool_421)))))) (mt_node_ok (mt_node_ok (mt_leaf_ok (en_s (sm_put (T := TX12) (by decide) rfl bi_X12 tyX12_ok nmX12 (by decide) rfl (tyX12_ok 50 (by decide)) bg_1014 dX12_readPool_422))) (mt_node_ok (mt_leaf_ok (en_s (sm_iinc dX12_readPool_425 rfl (by decide)))) (mt_leaf_ok (en_o (sm_goto dX12_readPool_428 (by decide)))))) (mt_node_ok (mt_leaf_ok (en_o (sm_goto dX12_readPool_431 (by decide)))) (mt_node_ok (mt_leaf_ok (en_o (sm_iconst dX12_readPool_434 rfl))) (mt_leaf_ok (en_s (sm_istore dX12_readPool_435 (by decide)))))))))
def mb_238_5 (g : xe_G) : Nat → Option mi_N := mt_node 483 (mt_node 458 (mt_node 446 (mt_node 440 (mt_node 437 (mt_leaf 437 (.inl (o_iload 5 2))) (mt_node 439 (mt_leaf 439 (.inl (o_iload 2 1))) (mt_leaf 440 (.inl (o_push (.int 9) 2))))) (mt_node 442 (mt_leaf 442 (.inl (o_if2 (fun x y => decide (x < y)) 451))) (mt_node 445 (mt_leaf 445 (.inl (o_iload 2 1))) (mt_leaf 446 (.inl (o_push (.int 12) 2)))))) (mt_node 452 (mt_node 448 (mt_leaf 448 (.inl (o_if2 (fun x y => decide (x ≤ y)) 463))) (mt_node 451 (mt_leaf 451 (.inl (o_iload 2 1))) (mt_leaf 452 (.inl (o_push (.int 17) 2))))) (mt_node 454 (mt_leaf 454 (.inl (o_if2 (fun x y => decide (x = y)) 463))) (mt_node 457 (mt_leaf 457 (.inl (o_iload 2 1))) (mt_leaf 458 (.inl (o_push (.int 18) 2))))))) (mt_node 471 (mt_node 464 (mt_node 460 (mt_leaf 460 (.inl (o_if2 (fun x y => decide (¬ x = y)) 467))) (mt_node 463 (mt_leaf 463 (.inl (o_push (.int 2) 1))) (mt_leaf 464 (.inl (o_goto 468))))) (mt_node 467 (mt_leaf 467 (.inl (o_push (.int 1) 1))) (mt_node 468 (mt_leaf 468 (.inl (o_if2 (fun x y => decide (y ≤ x)) 499))) (mt_leaf 471 (.inl (o_aload 0 1)))))) (mt_node 478 (mt_node 472 (mt_leaf 472 (.inl (o_push (.long 2) 3))) (mt_node 475 (mt_leaf 475 (.inr (.inl (219, 2, some 12)))) (mt_leaf 478 (.inl (o_if (fun x => decide (¬ x = 0)) 483))))) (mt_node 481 (mt_leaf 481 (.inl (o_push (.int 0) 1))) (mt_node 482 (mt_leaf 482 (.inr (.inr (r_int mi_cz)))) (mt_leaf 483 (.inl (o_aload 0 1)))))))) (mt_node 505 (mt_node 493 (mt_node 488 (mt_node 484 (mt_leaf 484 (.inl (o_dup))) (mt_node 485 (mt_leaf 485 (.inl (o_get 12 50))) (mt_leaf 488 (.inl (o_push (.int 2) 1))))) (mt_node 489 (mt_leaf 489 (.inl (o_bin (fun x y => x + y) 1))) (mt_node 490 (mt_leaf 490 (.inl (o_put 12 50 (tyX12 50)))) (mt_leaf 493 (.inl (o_iinc 5 1)))))) (mt_node 500 (mt_node 496 (mt_leaf 496 (.inl (o_goto 437))) (mt_node 499 (mt_leaf 499 (.inl (o_iload 2 1))) (mt_leaf 500 (.inl (o_push (.int 5) 1))))) (mt_node 501 (mt_leaf 501 (.inl (o_if2 (fun x y => decide (x = y)) 510))) (mt_node 504 (mt_leaf 504 (.inl (o_iload 2 1))) (mt_leaf 505 (.inl (o_push (.int 6) 2))))))) (mt_node 518 (mt_node 513 (mt_node 507 (mt_leaf 507 (.inl (o_if2 (fun x y => decide (¬ x = y)) 525))) (mt_node 510 (mt_leaf 510 (.inl (o_iinc 1 1))) (mt_leaf 513 (.inl (o_aload 0 1))))) (mt_node 514 (mt_leaf 514 (.inl (o_get 12 21))) (mt_node 517 (mt_leaf 517 (.inl (o_aload 0 1))) (mt_leaf 518 (.inl (o_get 12 51)))))) (mt_node 523 (mt_node 521 (mt_leaf 521 (.inl (o_iload 1 1))) (mt_node 522 (mt_leaf 522 (.inl (o_bin (fun x y => x + y) 1))) (mt_leaf 523 (.inl (o_push (.int (-1)) 1))))) (mt_node 524 (mt_leaf 524 (.inl (o_ast .int (fun x => x)))) (mt_node 525 (mt_leaf 525 (.inl (o_iinc 1 1))) (mt_leaf 528 (.inl (o_goto 20))))))))
theorem mb_238_5_ok {g : xe_G} : mt_all (mi_ent g mI (mI 238)) (mb_238_5 g) := mt_node_ok (mt_node_ok (mt_node_ok (mt_node_ok (mt_node_ok (mt_leaf_ok (en_o (sm_iload dX12_readPool_437))) (mt_node_ok (mt_leaf_ok (en_o (sm_iload_n dX12_readPool_439 rfl))) (mt_leaf_ok (en_o (sm_bipush dX12_readPool_440 rfl))))) (mt_node_ok (mt_leaf_ok (en_o (sm_icmp_lt dX12_readPool_442 (by decide)))) (mt_node_ok (mt_leaf_ok (en_o (sm_iload_n dX12_readPool_445 rfl))) (mt_leaf_ok (en_o (sm_bipush dX12_readPool_446 rfl)))))) (mt_node_ok (mt_node_ok (mt_leaf_ok (en_o (sm_icmp_le dX12_readPool_448 (by decide)))) (mt_node_ok (mt_leaf_ok (en_o (sm_iload_n dX12_readPool_451 rfl))) (mt_leaf_ok (en_o (sm_bipush dX12_readPool_452 rfl))))) (mt_node_ok (mt_leaf_ok (en_o (sm_icmp_eq dX12_readPool_454 (by decide)))) (mt_node_ok (mt_leaf_ok (en_o (sm_iload_n dX12_readPool_457 rfl))) (mt_leaf_ok (en_o (sm_bipush dX12_readPool_458 rfl))))))) (mt_node_ok (mt_node_ok (mt_node_ok (mt_leaf_ok (en_o (sm_icmp_ne dX12_readPool_460 (by decide)))) (mt_node_ok (mt_leaf_ok (en_o (sm_iconst dX12_readPool_463 rfl))) (mt_leaf_ok (en_o (sm_goto dX12_readPool_464 (by decide)))))) (mt_node_ok (mt_leaf_ok (en_o (sm_iconst dX12_readPool_467 rfl))) (mt_node_ok (mt_leaf_ok (en_o (sm_icmp_ge dX12_readPool_468 (by decide)))) (mt_leaf_ok (en_o (sm_aload_n dX12_readPool_471 rfl)))))) (mt_node_ok (mt_node_ok (mt_leaf_ok (en_o (sm_ldc2 bg_1033 dX12_readPool_472))) (mt_node_ok (mt_leaf_ok ((⟨by decide, bg_972, bg_1013, 254, 1, ⟨by decide, by decide, by decide +kernel⟩, bg_1026, Or.inr ⟨rfl, bg_1027, 12, _, rfl, by decide, rfl, Or.inl ⟨dX12_readPool_475, bg_1028⟩⟩⟩ : mi_cal _ _ _ (mI 219) _ _))) (mt_leaf_ok (en_o (sm_if_ne dX12_readPool_478 (by decide)))))) (mt_node_ok (mt_leaf_ok (en_o (sm_iconst dX12_readPool_481 rfl))) (mt_node_ok (mt_leaf_ok (sr_nar mi_cz_ok dX12_readPool_482)) (mt_leaf_ok (en_o (sm_aload_n dX12_readPool_483 rfl)))))))) (mt_node_ok (mt_node_ok (mt_node_ok (mt_node_ok (mt_leaf_ok (en_o (sm_dup dX12_readPool_484))) (mt_node_ok (mt_leaf_ok (en_o (sm_get (T := TX12) (by decide) rfl bi_X12 (by decide) bg_1014 dX12_readPool_485))) (mt_leaf_ok (en_o (sm_iconst dX12_readPool_488 rfl))))) (mt_node_ok (mt_leaf_ok (en_o (sm_iadd dX12_readPool_489))) (mt_node_ok (mt_leaf_ok (en_s (sm_put (T := TX12) (by decide) rfl bi_X12 tyX12_ok nmX12 (by decide) rfl (tyX12_ok 50 (by decide)) bg_1014 dX12_readPool_490))) (mt_leaf_ok (en_s (sm_iinc dX12_readPool_493 rfl (by decide))))))) (mt_node_ok (mt_node_ok (mt_leaf_ok (en_o (sm_goto dX12_readPool_496 (by decide)))) (mt_node_ok (mt_leaf_ok (en_o (sm_iload_n dX12_readPool_499 rfl))) (mt_leaf_ok (en_o (sm_iconst dX12_readPool_500 rfl))))) (mt_node_ok (mt_leaf_ok (en_o (sm_icmp_eq dX12_readPool_501 (by decide)))) (mt_node_ok (mt_leaf_ok (en_o (sm_iload_n dX12_readPool_504 rfl))) (mt_leaf_ok (en_o (sm_bipush dX12_readPool_505 rfl))))))) (mt_node_ok (mt_node_ok (mt_node_ok (mt_leaf_ok (en_o (sm_icmp_ne dX12_readPool_507 (by decide)))) (mt_node_ok (mt_leaf_ok (en_s (sm_iinc dX12_readPool_510 rfl (by decide)))) (mt_leaf_ok (en_o (sm_aload_n dX12_readPool_513 rfl))))) (mt_node_ok (mt_leaf_ok (en_o (sm_get (T := TX12) (by decide) rfl bi_X12 (by decide) bg_936 dX12_readPool_514))) (mt_node_ok (mt_leaf_ok (en_o (sm_aload_n dX12_readPool_517 rfl))) (mt_leaf_ok (en_o (sm_get (T := TX12) (by decide) rfl bi_X12 (by decide) bg_1021 dX12_readPool_518)))))) (mt_node_ok (mt_node_ok (mt_leaf_ok (en_o (sm_iload_n dX12_readPool_521 rfl))) (mt_node_ok (mt_leaf_ok (en_o (sm_iadd dX12_readPool_522))) (mt_leaf_ok (en_o (sm_iconst dX12_readPool_523 rfl))))) (mt_node_ok (mt_leaf_ok (en_s (sm_iast dX12_readPool_524))) (mt_node_ok (mt_leaf_ok (en_s (sm_iinc dX12_readPool_525 rfl (by decide)))) (mt_leaf_ok (en_o (sm_goto dX12_readPool_528 (by decide)))))))))
def mb_238_6 (g : xe_G) : Nat → Option mi_N := mt_node 536 (mt_node 532 (mt_node 531 (mt_leaf 531 (.inl (o_aload 0 1))) (mt_leaf 532 (.inl (o_aload 0 1)))) (mt_node 533 (mt_leaf 533 (.inl (o_get 12 51))) (mt_leaf 536 (.inl (o_aload 0 1))))) (mt_node 540 (mt_node 537 (mt_leaf 537 (.inl (o_get 12 52))) (mt_leaf 540 (.inl (o_bin (fun x y => x + y) 1)))) (mt_node 541 (mt_leaf 541 (.inl (o_put 12 20 (tyX12 20)))) (mt_node 544 (mt_leaf 544 (.inl (o_push (.int 1) 1))) (mt_leaf 545 (.inr (.inr (r_int mi_cz)))))))
theorem mb_238_6_ok {g : xe_G} : mt_all (mi_ent g mI (mI 238)) (mb_238_6 g) := mt_node_ok (mt_node_ok (mt_node_ok (mt_leaf_ok (en_o (sm_aload_n dX12_readPool_531 rfl))) (mt_leaf_ok (en_o (sm_aload_n dX12_readPool_532 rfl)))) (mt_node_ok (mt_leaf_ok (en_o (sm_get (T := TX12) (by decide) rfl bi_X12 (by decide) bg_1021 dX12_readPool_533))) (mt_leaf_ok (en_o (sm_aload_n dX12_readPool_536 rfl))))) (mt_node_ok (mt_node_ok (mt_leaf_ok (en_o (sm_get (T := TX12) (by decide) rfl bi_X12 (by decide) bg_1020 dX12_readPool_537))) (mt_leaf_ok (en_o (sm_iadd dX12_readPool_540)))) (mt_node_ok (mt_leaf_ok (en_s (sm_put (T := TX12) (by decide) rfl bi_X12 tyX12_ok nmX12 (by decide) rfl (tyX12_ok 20 (by decide)) bg_982 dX12_readPool_541))) (mt_node_ok (mt_leaf_ok (en_o (sm_iconst dX12_readPool_544 rfl))) (mt_leaf_ok (sr_nar mi_cz_ok dX12_readPool_545)))))
def mb_238 (g : xe_G) : Nat × mi_B := (6, mt_node 257 (mt_node 77 (mb_238_0 g) (mt_node 173 (mb_238_1 g) (mb_238_2 g))) (mt_node 435 (mt_node 342 (mb_238_3 g) (mb_238_4 g)) (mt_node 528 (mb_238_5 g) (mb_238_6 g))), mk_node 185 (mk_node 131 (mk_node 92 (mk_node 20 (mk_leaf 20 [0, 1]) (mk_leaf 92 [0, 1, 2, 3])) (mk_node 110 (mk_leaf 110 [0, 1, 2, 3]) (mk_node 119 (mk_leaf 119 [0, 1, 2, 3]) (mk_leaf 131 [0, 1, 2, 3])))) (mk_node 155 (mk_node 140 (mk_leaf 140 [0, 1, 2, 3]) (mk_leaf 155 [0, 1, 2, 3])) (mk_node 159 (mk_leaf 159 [0, 1, 2, 3]) (mk_node 160 (mk_leaf 160 [0, 1, 2, 3]) (mk_leaf 185 [0, 1, 2, 3]))))) (mk_node 437 (mk_node 358 (mk_node 203 (mk_leaf 203 [0, 1, 2]) (mk_leaf 358 [0, 1, 2])) (mk_node 394 (mk_leaf 394 [0, 1, 2]) (mk_node 397 (mk_leaf 397 [0, 1, 2, 5]) (mk_leaf 437 [0, 1, 2, 5])))) (mk_node 468 (mk_node 451 (mk_leaf 451 [0, 1, 2, 5]) (mk_node 463 (mk_leaf 463 [0, 1, 2, 5]) (mk_leaf 468 [0, 1, 2, 5]))) (mk_node 499 (mk_leaf 499 [0, 1, 2]) (mk_node 510 (mk_leaf 510 [0, 1]) (mk_leaf 525 [0, 1]))))))
theorem mb_238_ok {g : xe_G} : mi_meth g mI (mI 238) (mb_238 g) := ⟨rfl, by decide, mt_node_ok (mt_node_ok (mb_238_0_ok) (mt_node_ok (mb_238_1_ok) (mb_238_2_ok))) (mt_node_ok (mt_node_ok (mb_238_3_ok) (mb_238_4_ok)) (mt_node_ok (mb_238_5_ok) (mb_238_6_ok)))⟩
theorem dX12_row_0 : decode cX12_row 0 = .ok (.aload_n 0, 1) := by decide +kernel
theorem dX12_row_1 : decode cX12_row 1 = .ok (.iconst 0, 1) := by decide +kernel
theorem dX12_row_2 : decode cX12_row 2 = .ok (.putfield 1, 3) := by decide +kernel
theorem dX12_row_5 : decode cX12_row 5 = .ok (.iload_n 3, 1) := by decide +kernel
theorem dX12_row_6 : decode cX12_row 6 = .ok (.ifCond .lt 8, 3) := by decide +kernel
theorem dX12_row_9 : decode cX12_row 9 = .ok (.iload_n 3, 1) := by decide +kernel
theorem dX12_row_10 : decode cX12_row 10 = .ok (.iconst 3, 1) := by decide +kernel
theorem dX12_row_11 : decode cX12_row 11 = .ok (.if_icmp .le 8, 3) := by decide +kernel
theorem dX12_row_14 : decode cX12_row 14 = .ok (.aload_n 0, 1) := by decide +kernel
theorem dX12_row_15 : decode cX12_row 15 = .ok (.invokevirtual 440, 3) := by decide +kernel
theorem dX12_row_18 : decode cX12_row 18 = .ok (.ireturn, 1) := by decide +kernel
theorem dX12_row_19 : decode cX12_row 19 = .ok (.aload_n 0, 1) := by decide +kernel
theorem dX12_row_20 : decode cX12_row 20 = .ok (.getfield 49, 3) := by decide +kernel
theorem dX12_row_23 : decode cX12_row 23 = .ok (.ifCond .lt 38, 3) := by decide +kernel
theorem dX12_row_26 : decode cX12_row 26 = .ok (.iload_n 1, 1) := by decide +kernel
theorem dX12_row_27 : decode cX12_row 27 = .ok (.ifCond .lt 34, 3) := by decide +kernel
theorem dX12_row_30 : decode cX12_row 30 = .ok (.iload_n 1, 1) := by decide +kernel
theorem dX12_row_31 : decode cX12_row 31 = .ok (.aload_n 0, 1) := by decide +kernel
theorem dX12_row_32 : decode cX12_row 32 = .ok (.getfield 201, 3) := by decide +kernel
theorem dX12_row_35 : decode cX12_row 35 = .ok (.if_icmp .ge 26, 3) := by decide +kernel
theorem dX12_row_38 : decode cX12_row 38 = .ok (.aload_n 0, 1) := by decide +kernel
theorem dX12_row_39 : decode cX12_row 39 = .ok (.getfield 95, 3) := by decide +kernel
theorem dX12_row_42 : decode cX12_row 42 = .ok (.iload_n 1, 1) := by decide +kernel
theorem dX12_row_43 : decode cX12_row 43 = .ok (.iaload, 1) := by decide +kernel
theorem dX12_row_44 : decode cX12_row 44 = .ok (.ifCond .lt 17, 3) := by decide +kernel
theorem dX12_row_47 : decode cX12_row 47 = .ok (.iload_n 2, 1) := by decide +kernel
theorem dX12_row_48 : decode cX12_row 48 = .ok (.ifCond .lt 13, 3) := by decide +kernel
theorem dX12_row_51 : decode cX12_row 51 = .ok (.iload_n 2, 1) := by decide +kernel
theorem dX12_row_52 : decode cX12_row 52 = .ok (.aload_n 0, 1) := by decide +kernel
theorem dX12_row_53 : decode cX12_row 53 = .ok (.getfield 110, 3) := by decide +kernel
theorem dX12_row_56 : decode cX12_row 56 = .ok (.iload_n 1, 1) := by decide +kernel
theorem dX12_row_57 : decode cX12_row 57 = .ok (.iaload, 1) := by decide +kernel
theorem dX12_row_58 : decode cX12_row 58 = .ok (.if_icmp .lt 5, 3) := by decide +kernel
theorem dX12_row_61 : decode cX12_row 61 = .ok (.iconst (-1), 1) := by decide +kernel
theorem dX12_row_62 : decode cX12_row 62 = .ok (.ireturn, 1) := by decide +kernel
theorem dX12_row_63 : decode cX12_row 63 = .ok (.aload_n 0, 1) := by decide +kernel
theorem dX12_row_64 : decode cX12_row 64 = .ok (.aload_n 0, 1) := by decide +kernel
theorem dX12_row_65 : decode cX12_row 65 = .ok (.getfield 107, 3) := by decide +kernel
theorem dX12_row_68 : decode cX12_row 68 = .ok (.iload_n 1, 1) := by decide +kernel
theorem dX12_row_69 : decode cX12_row 69 = .ok (.iaload, 1) := by decide +kernel
theorem dX12_row_70 : decode cX12_row 70 = .ok (.bipush 8, 2) := by decide +kernel
theorem dX12_row_72 : decode cX12_row 72 = .ok (.iload_n 2, 1) := by decide +kernel
theorem dX12_row_73 : decode cX12_row 73 = .ok (.imul, 1) := by decide +kernel
theorem dX12_row_74 : decode cX12_row 74 = .ok (.iadd, 1) := by decide +kernel
theorem dX12_row_75 : decode cX12_row 75 = .ok (.iconst 2, 1) := by decide +kernel
theorem dX12_row_76 : decode cX12_row 76 = .ok (.iload_n 3, 1) := by decide +kernel
theorem dX12_row_77 : decode cX12_row 77 = .ok (.imul, 1) := by decide +kernel
theorem dX12_row_78 : decode cX12_row 78 = .ok (.iadd, 1) := by decide +kernel
theorem dX12_row_79 : decode cX12_row 79 = .ok (.invokevirtual 227, 3) := by decide +kernel
theorem dX12_row_82 : decode cX12_row 82 = .ok (.ireturn, 1) := by decide +kernel
def mb_239_0 (g : xe_G) : Nat → Option mi_N := mt_node 43 (mt_node 19 (mt_node 9 (mt_node 2 (mt_node 0 (mt_leaf 0 (.inl (o_aload 0 1))) (mt_node 1 (mt_leaf 1 (.inl (o_push (.int 0) 1))) (mt_leaf 2 (.inl (o_put 12 0 (tyX12 0)))))) (mt_node 5 (mt_leaf 5 (.inl (o_iload 3 1))) (mt_node 6 (mt_leaf 6 (.inl (o_if (fun x => decide (x < 0)) 14))) (mt_leaf 9 (.inl (o_iload 3 1)))))) (mt_node 14 (mt_node 10 (mt_leaf 10 (.inl (o_push (.int 3) 1))) (mt_node 11 (mt_leaf 11 (.inl (o_if2 (fun x y => decide (x ≤ y)) 19))) (mt_leaf 14 (.inl (o_aload 0 1))))) (mt_node 15 (mt_leaf 15 (.inr (.inl (182, 1, some 12)))) (mt_node 18 (mt_leaf 18 (.inr (.inr (r_int (fun _ => true))))) (mt_leaf 19 (.inl (o_aload 0 1))))))) (mt_node 31 (mt_node 26 (mt_node 20 (mt_leaf 20 (.inl (o_get 12 18))) (mt_node 23 (mt_leaf 23 (.inl (o_if (fun x => decide (x < 0)) 61))) (mt_leaf 26 (.inl (o_iload 1 1))))) (mt_node 27 (mt_leaf 27 (.inl (o_if (fun x => decide (x < 0)) 61))) (mt_node 30 (mt_leaf 30 (.inl (o_iload 1 1))) (mt_leaf 31 (.inl (o_aload 0 1)))))) (mt_node 38 (mt_node 32 (mt_leaf 32 (.inl (o_get 12 26))) (mt_node 35 (mt_leaf 35 (.inl (o_if2 (fun x y => decide (y ≤ x)) 61))) (mt_leaf 38 (.inl (o_aload 0 1))))) (mt_node 39 (mt_leaf 39 (.inl (o_get 12 37))) (mt_node 42 (mt_leaf 42 (.inl (o_iload 1 1))) (mt_leaf 43 (.inl (o_ald .int)))))))) (mt_node 63 (mt_node 53 (mt_node 48 (mt_node 44 (mt_leaf 44 (.inl (o_if (fun x => decide (x < 0)) 61))) (mt_node 47 (mt_leaf 47 (.inl (o_iload 2 1))) (mt_leaf 48 (.inl (o_if (fun x => decide (x < 0)) 61))))) (mt_node 51 (mt_leaf 51 (.inl (o_iload 2 1))) (mt_node 52 (mt_leaf 52 (.inl (o_aload 0 1))) (mt_leaf 53 (.inl (o_get 12 42)))))) (mt_node 58 (mt_node 56 (mt_leaf 56 (.inl (o_iload 1 1))) (mt_node 57 (mt_leaf 57 (.inl (o_ald .int))) (mt_leaf 58 (.inl (o_if2 (fun x y => decide (x < y)) 63))))) (mt_node 61 (mt_leaf 61 (.inl (o_push (.int (-1)) 1))) (mt_node 62 (mt_leaf 62 (.inr (.inr (r_int (fun _ => true))))) (mt_leaf 63 (.inl (o_aload 0 1))))))) (mt_node 72 (mt_node 68 (mt_node 64 (mt_leaf 64 (.inl (o_aload 0 1))) (mt_node 65 (mt_leaf 65 (.inl (o_get 12 41))) (mt_leaf 68 (.inl (o_iload 1 1))))) (mt_node 69 (mt_leaf 69 (.inl (o_ald .int))) (mt_node 70 (mt_leaf 70 (.inl (o_push (.int 8) 2))) (mt_leaf 72 (.inl (o_iload 2 1)))))) (mt_node 75 (mt_node 73 (mt_leaf 73 (.inl (o_bin (fun x y => x * y) 1))) (mt_node 74 (mt_leaf 74 (.inl (o_bin (fun x y => x + y) 1))) (mt_leaf 75 (.inl (o_push (.int 2) 1))))) (mt_node 76 (mt_leaf 76 (.inl (o_iload 3 1))) (mt_node 77 (mt_leaf 77 (.inl (o_bin (fun x y => x * y) 1))) (mt_leaf 78 (.inl (o_bin (fun x y => x + y) 1))))))))
theorem mb_239_0_ok {g : xe_G} : mt_all (mi_ent g mI (mI 239)) (mb_239_0 g) := mt_node_ok (mt_node_ok (mt_node_ok (mt_node_ok (mt_node_ok (mt_leaf_ok (en_o (sm_aload_n dX12_row_0 rfl))) (mt_node_ok (mt_leaf_ok (en_o (sm_iconst dX12_row_1 rfl))) (mt_leaf_ok (en_s (sm_put (T := TX12) (by decide) rfl bi_X12 tyX12_ok nmX12 (by decide) rfl (tyX12_ok 0 (by decide)) bg_1180 dX12_row_2))))) (mt_node_ok (mt_leaf_ok (en_o (sm_iload_n dX12_row_5 rfl))) (mt_node_ok (mt_leaf_ok (en_o (sm_if_lt dX12_row_6 (by decide)))) (mt_leaf_ok (en_o (sm_iload_n dX12_row_9 rfl)))))) (mt_node_ok (mt_node_ok (mt_leaf_ok (en_o (sm_iconst dX12_row_10 rfl))) (mt_node_ok (mt_leaf_ok (en_o (sm_icmp_le dX12_row_11 (by decide)))) (mt_leaf_ok (en_o (sm_aload_n dX12_row_14 rfl))))) (mt_node_ok (mt_leaf_ok ((⟨by decide, bg_972, bg_1186, 440, 0, ⟨by decide, by decide, by decide +kernel⟩, bg_1188, Or.inr ⟨rfl, bg_1189, 12, _, rfl, by decide, rfl, Or.inl ⟨dX12_row_15, bg_1190⟩⟩⟩ : mi_cal _ _ _ (mI 182) _ _))) (mt_node_ok (mt_leaf_ok (sr_int dX12_row_18)) (mt_leaf_ok (en_o (sm_aload_n dX12_row_19 rfl))))))) (mt_node_ok (mt_node_ok (mt_node_ok (mt_leaf_ok (en_o (sm_get (T := TX12) (by decide) rfl bi_X12 (by decide) bg_934 dX12_row_20))) (mt_node_ok (mt_leaf_ok (en_o (sm_if_lt dX12_row_23 (by decide)))) (mt_leaf_ok (en_o (sm_iload_n dX12_row_26 rfl))))) (mt_node_ok (mt_leaf_ok (en_o (sm_if_lt dX12_row_27 (by decide)))) (mt_node_ok (mt_leaf_ok (en_o (sm_iload_n dX12_row_30 rfl))) (mt_leaf_ok (en_o (sm_aload_n dX12_row_31 rfl)))))) (mt_node_ok (mt_node_ok (mt_leaf_ok (en_o (sm_get (T := TX12) (by decide) rfl bi_X12 (by decide) bg_984 dX12_row_32))) (mt_node_ok (mt_leaf_ok (en_o (sm_icmp_ge dX12_row_35 (by decide)))) (mt_leaf_ok (en_o (sm_aload_n dX12_row_38 rfl))))) (mt_node_ok (mt_leaf_ok (en_o (sm_get (T := TX12) (by decide) rfl bi_X12 (by decide) bg_950 dX12_row_39))) (mt_node_ok (mt_leaf_ok (en_o (sm_iload_n dX12_row_42 rfl))) (mt_leaf_ok (en_o (sm_iald dX12_row_43)))))))) (mt_node_ok (mt_node_ok (mt_node_ok (mt_node_ok (mt_leaf_ok (en_o (sm_if_lt dX12_row_44 (by decide)))) (mt_node_ok (mt_leaf_ok (en_o (sm_iload_n dX12_row_47 rfl))) (mt_leaf_ok (en_o (sm_if_lt dX12_row_48 (by decide)))))) (mt_node_ok (mt_leaf_ok (en_o (sm_iload_n dX12_row_51 rfl))) (mt_node_ok (mt_leaf_ok (en_o (sm_aload_n dX12_row_52 rfl))) (mt_leaf_ok (en_o (sm_get (T := TX12) (by decide) rfl bi_X12 (by decide) bg_955 dX12_row_53)))))) (mt_node_ok (mt_node_ok (mt_leaf_ok (en_o (sm_iload_n dX12_row_56 rfl))) (mt_node_ok (mt_leaf_ok (en_o (sm_iald dX12_row_57))) (mt_leaf_ok (en_o (sm_icmp_lt dX12_row_58 (by decide)))))) (mt_node_ok (mt_leaf_ok (en_o (sm_iconst dX12_row_61 rfl))) (mt_node_ok (mt_leaf_ok (sr_int dX12_row_62)) (mt_leaf_ok (en_o (sm_aload_n dX12_row_63 rfl))))))) (mt_node_ok (mt_node_ok (mt_node_ok (mt_leaf_ok (en_o (sm_aload_n dX12_row_64 rfl))) (mt_node_ok (mt_leaf_ok (en_o (sm_get (T := TX12) (by decide) rfl bi_X12 (by decide) bg_954 dX12_row_65))) (mt_leaf_ok (en_o (sm_iload_n dX12_row_68 rfl))))) (mt_node_ok (mt_leaf_ok (en_o (sm_iald dX12_row_69))) (mt_node_ok (mt_leaf_ok (en_o (sm_bipush dX12_row_70 rfl))) (mt_leaf_ok (en_o (sm_iload_n dX12_row_72 rfl)))))) (mt_node_ok (mt_node_ok (mt_leaf_ok (en_o (sm_imul dX12_row_73))) (mt_node_ok (mt_leaf_ok (en_o (sm_iadd dX12_row_74))) (mt_leaf_ok (en_o (sm_iconst dX12_row_75 rfl))))) (mt_node_ok (mt_leaf_ok (en_o (sm_iload_n dX12_row_76 rfl))) (mt_node_ok (mt_leaf_ok (en_o (sm_imul dX12_row_77))) (mt_leaf_ok (en_o (sm_iadd dX12_row_78))))))))
def mb_239_1 (g : xe_G) : Nat → Option mi_N := mt_node 79 (mt_leaf 79 (.inr (.inl (249, 2, some 12)))) (mt_leaf 82 (.inr (.inr (r_int (fun _ => true)))))
theorem mb_239_1_ok {g : xe_G} : mt_all (mi_ent g mI (mI 239)) (mb_239_1 g) := mt_node_ok (mt_leaf_ok ((⟨by decide, bg_972, bg_1002, 227, 1, ⟨by decide, by decide, by decide +kernel⟩, bg_1007, Or.inr ⟨rfl, bg_1008, 12, _, rfl, by decide, rfl, Or.inl ⟨dX12_row_79, bg_1009⟩⟩⟩ : mi_cal _ _ _ (mI 249) _ _))) (mt_leaf_ok (sr_int dX12_row_82))
def mb_239 (g : xe_G) : Nat × mi_B := (4, mt_node 78 (mb_239_0 g) (mb_239_1 g), mk_node 14 (mk_leaf 14 [0]) (mk_leaf 61 []))
theorem mb_239_ok {g : xe_G} : mi_meth g mI (mI 239) (mb_239 g) := ⟨rfl, by decide, mt_node_ok (mb_239_0_ok) (mb_239_1_ok)⟩
theorem dX12_s2_0 : decode cX12_s2 0 = .ok (.aload_n 0, 1) := by decide +kernel
theorem dX12_s2_1 : decode cX12_s2 1 = .ok (.iload_n 1, 1) := by decide +kernel
theorem dX12_s2_2 : decode cX12_s2 2 = .ok (.invokevirtual 459, 3) := by decide +kernel
theorem dX12_s2_5 : decode cX12_s2 5 = .ok (.i2s, 1) := by decide +kernel
theorem dX12_s2_6 : decode cX12_s2 6 = .ok (.ireturn, 1) := by decide +kernel
def mb_240_0 (g : xe_G) : Nat → Option mi_N := mt_node 1 (mt_node 0 (mt_leaf 0 (.inl (o_aload 0 1))) (mt_leaf 1 (.inl (o_iload 1 1)))) (mt_node 2 (mt_leaf 2 (.inr (.inl (180, 2, some 12)))) (mt_node 5 (mt_leaf 5 (.inl (o_un (fun x => x.toInt16.toInt32)))) (mt_leaf 6 (.inr (.inr (r_int (fun _ => true)))))))
theorem mb_240_0_ok {g : xe_G} : mt_all (mi_ent g mI (mI 240)) (mb_240_0 g) := mt_node_ok (mt_node_ok (mt_leaf_ok (en_o (sm_aload_n dX12_s2_0 rfl))) (mt_leaf_ok (en_o (sm_iload_n dX12_s2_1 rfl)))) (mt_node_ok (mt_leaf_ok ((⟨by decide, bg_972, bg_1216, 459, 1, ⟨by decide, by decide, by decide +kernel⟩, bg_1218, Or.inr ⟨rfl, bg_1219, 12, _, rfl, by decide, rfl, Or.inl ⟨dX12_s2_2, bg_1220⟩⟩⟩ : mi_cal _ _ _ (mI 180) _ _))) (mt_node_ok (mt_leaf_ok (en_o (sm_i2s dX12_s2_5))) (mt_leaf_ok (sr_int dX12_s2_6))))
def mb_240 (g : xe_G) : Nat × mi_B := (2, mb_240_0 g, fun _ => none)
theorem mb_240_ok {g : xe_G} : mi_meth g mI (mI 240) (mb_240 g) := ⟨rfl, by decide, mb_240_0_ok⟩
theorem dX12_second_0 : decode cX12_second 0 = .ok (.iload_n 2, 1) := by decide +kernel
theorem dX12_second_1 : decode cX12_second 1 = .ok (.sipush 196, 3) := by decide +kernel
theorem dX12_second_4 : decode cX12_second 4 = .ok (.if_icmp .ne 28, 3) := by decide +kernel
theorem dX12_second_7 : decode cX12_second 7 = .ok (.aload_n 0, 1) := by decide +kernel
theorem dX12_second_8 : decode cX12_second 8 = .ok (.iload_n 1, 1) := by decide +kernel
theorem dX12_second_9 : decode cX12_second 9 = .ok (.iconst 1, 1) := by decide +kernel
theorem dX12_second_10 : decode cX12_second 10 = .ok (.iadd, 1) := by decide +kernel
theorem dX12_second_11 : decode cX12_second 11 = .ok (.invokevirtual 474, 3) := by decide +kernel
theorem dX12_second_14 : decode cX12_second 14 = .ok (.sipush 132, 3) := by decide +kernel
theorem dX12_second_17 : decode cX12_second 17 = .ok (.if_icmp .ne 13, 3) := by decide +kernel
theorem dX12_second_20 : decode cX12_second 20 = .ok (.aload_n 0, 1) := by decide +kernel
theorem dX12_second_21 : decode cX12_second 21 = .ok (.iload_n 1, 1) := by decide +kernel
theorem dX12_second_22 : decode cX12_second 22 = .ok (.iconst 4, 1) := by decide +kernel
theorem dX12_second_23 : decode cX12_second 23 = .ok (.iadd, 1) := by decide +kernel
theorem dX12_second_24 : decode cX12_second 24 = .ok (.invokevirtual 507, 3) := by decide +kernel
theorem dX12_second_27 : decode cX12_second 27 = .ok (.goto 4, 3) := by decide +kernel
theorem dX12_second_30 : decode cX12_second 30 = .ok (.iconst 0, 1) := by decide +kernel
theorem dX12_second_31 : decode cX12_second 31 = .ok (.ireturn, 1) := by decide +kernel
theorem dX12_second_32 : decode cX12_second 32 = .ok (.iload_n 2, 1) := by decide +kernel
theorem dX12_second_33 : decode cX12_second 33 = .ok (.sipush 132, 3) := by decide +kernel
theorem dX12_second_36 : decode cX12_second 36 = .ok (.if_icmp .ne 12, 3) := by decide +kernel
theorem dX12_second_39 : decode cX12_second 39 = .ok (.aload_n 0, 1) := by decide +kernel
theorem dX12_second_40 : decode cX12_second 40 = .ok (.iload_n 1, 1) := by decide +kernel
theorem dX12_second_41 : decode cX12_second 41 = .ok (.iconst 2, 1) := by decide +kernel
theorem dX12_second_42 : decode cX12_second 42 = .ok (.iadd, 1) := by decide +kernel
theorem dX12_second_43 : decode cX12_second 43 = .ok (.invokevirtual 474, 3) := by decide +kernel
theorem dX12_second_46 : decode cX12_second 46 = .ok (.i2b, 1) := by decide +kernel
theorem dX12_second_47 : decode cX12_second 47 = .ok (.ireturn, 1) := by decide +kernel
theorem dX12_second_48 : decode cX12_second 48 = .ok (.iload_n 2, 1) := by decide +kernel
theorem dX12_second_49 : decode cX12_second 49 = .ok (.sipush 170, 3) := by decide +kernel
theorem dX12_second_52 : decode cX12_second 52 = .ok (.if_icmp .ne 15, 3) := by decide +kernel
theorem dX12_second_55 : decode cX12_second 55 = .ok (.aload_n 0, 1) := by decide +kernel
theorem dX12_second_56 : decode cX12_second 56 = .ok (.iload_n 1, 1) := by decide +kernel
theorem dX12_second_57 : decode cX12_second 57 = .ok (.invokestatic 488, 3) := by decide +kernel
theorem dX12_second_60 : decode cX12_second 60 = .ok (.bipush 8, 2) := by decide +kernel
theorem dX12_second_62 : decode cX12_second 62 = .ok (.iadd, 1) := by decide +kernel
theorem dX12_second_63 : decode cX12_second 63 = .ok (.invokevirtual 491, 3) := by decide +kernel
theorem dX12_second_66 : decode cX12_second 66 = .ok (.ireturn, 1) := by decide +kernel
theorem dX12_second_67 : decode cX12_second 67 = .ok (.iload_n 2, 1) := by decide +kernel
theorem dX12_second_68 : decode cX12_second 68 = .ok (.sipush 197, 3) := by decide +kernel
theorem dX12_second_71 : decode cX12_second 71 = .ok (.if_icmp .ne 13, 3) := by decide +kernel
theorem dX12_second_74 : decode cX12_second 74 = .ok (.aload_n 0, 1) := by decide +kernel
theorem dX12_second_75 : decode cX12_second 75 = .ok (.iload_n 1, 1) := by decide +kernel
theorem dX12_second_76 : decode cX12_second 76 = .ok (.iconst 3, 1) := by decide +kernel
theorem dX12_second_77 : decode cX12_second 77 = .ok (.iadd, 1) := by decide +kernel
theorem dX12_second_78 : decode cX12_second 78 = .ok (.invokevirtual 474, 3) := by decide +kernel
theorem dX12_second_81 : decode cX12_second 81 = .ok (.goto 4, 3) := by decide +kernel
theorem dX12_second_84 : decode cX12_second 84 = .ok (.iconst 0, 1) := by decide +kernel
theorem dX12_second_85 : decode cX12_second 85 = .ok (.ireturn, 1) := by decide +kernel
def mb_241_0 (g : xe_G) : Nat → Option mi_N := mt_node 41 (mt_node 21 (mt_node 9 (mt_node 4 (mt_node 0 (mt_leaf 0 (.inl (o_iload 2 1))) (mt_node 1 (mt_leaf 1 (.inl (o_push (.int 196) 3))) (mt_leaf 4 (.inl (o_if2 (fun x y => decide (¬ x = y)) 32))))) (mt_node 7 (mt_leaf 7 (.inl (o_aload 0 1))) (mt_node 8 (mt_leaf 8 (.inl (o_iload 1 1))) (mt_leaf 9 (.inl (o_push (.int 1) 1)))))) (mt_node 14 (mt_node 10 (mt_leaf 10 (.inl (o_bin (fun x y => x + y) 1))) (mt_node 11 (mt_leaf 11 (.inr (.inl (179, 2, some 12)))) (mt_leaf 14 (.inl (o_push (.int 132) 3))))) (mt_node 17 (mt_leaf 17 (.inl (o_if2 (fun x y => decide (¬ x = y)) 30))) (mt_node 20 (mt_leaf 20 (.inl (o_aload 0 1))) (mt_leaf 21 (.inl (o_iload 1 1))))))) (mt_node 31 (mt_node 24 (mt_node 22 (mt_leaf 22 (.inl (o_push (.int 4) 1))) (mt_node 23 (mt_leaf 23 (.inl (o_bin (fun x y => x + y) 1))) (mt_leaf 24 (.inr (.inl (240, 2, some 12)))))) (mt_node 27 (mt_leaf 27 (.inl (o_goto 31))) (mt_node 30 (mt_leaf 30 (.inl (o_push (.int 0) 1))) (mt_leaf 31 (.inr (.inr (r_int (fun _ => true)))))))) (mt_node 36 (mt_node 32 (mt_leaf 32 (.inl (o_iload 2 1))) (mt_node 33 (mt_leaf 33 (.inl (o_push (.int 132) 3))) (mt_leaf 36 (.inl (o_if2 (fun x y => decide (¬ x = y)) 48))))) (mt_node 39 (mt_leaf 39 (.inl (o_aload 0 1))) (mt_node 40 (mt_leaf 40 (.inl (o_iload 1 1))) (mt_leaf 41 (.inl (o_push (.int 2) 1)))))))) (mt_node 62 (mt_node 49 (mt_node 46 (mt_node 42 (mt_leaf 42 (.inl (o_bin (fun x y => x + y) 1))) (mt_node 43 (mt_leaf 43 (.inr (.inl (179, 2, some 12)))) (mt_leaf 46 (.inl (o_un (fun x => x.toInt8.toInt32)))))) (mt_node 47 (mt_leaf 47 (.inr (.inr (r_int (fun _ => true))))) (mt_node 48 (mt_leaf 48 (.inl (o_iload 2 1))) (mt_leaf 49 (.inl (o_push (.int 170) 3)))))) (mt_node 56 (mt_node 52 (mt_leaf 52 (.inl (o_if2 (fun x y => decide (¬ x = y)) 67))) (mt_node 55 (mt_leaf 55 (.inl (o_aload 0 1))) (mt_leaf 56 (.inl (o_iload 1 1))))) (mt_node 57 (mt_leaf 57 (.inr (.inl (229, 1, none)))) (mt_node 60 (mt_leaf 60 (.inl (o_push (.int 8) 2))) (mt_leaf 62 (.inl (o_bin (fun x y => x + y) 1))))))) (mt_node 74 (mt_node 67 (mt_node 63 (mt_leaf 63 (.inr (.inl (181, 2, some 12)))) (mt_node 66 (mt_leaf 66 (.inr (.inr (r_int (fun _ => true))))) (mt_leaf 67 (.inl (o_iload 2 1))))) (mt_node 68 (mt_leaf 68 (.inl (o_push (.int 197) 3))) (mt_node 71 (mt_leaf 71 (.inl (o_if2 (fun x y => decide (¬ x = y)) 84))) (mt_leaf 74 (.inl (o_aload 0 1)))))) (mt_node 77 (mt_node 75 (mt_leaf 75 (.inl (o_iload 1 1))) (mt_node 76 (mt_leaf 76 (.inl (o_push (.int 3) 1))) (mt_leaf 77 (.inl (o_bin (fun x y => x + y) 1))))) (mt_node 78 (mt_leaf 78 (.inr (.inl (179, 2, some 12)))) (mt_node 81 (mt_leaf 81 (.inl (o_goto 85))) (mt_leaf 84 (.inl (o_push (.int 0) 1))))))))
theorem mb_241_0_ok {g : xe_G} : mt_all (mi_ent g mI (mI 241)) (mb_241_0 g) := mt_node_ok (mt_node_ok (mt_node_ok (mt_node_ok (mt_node_ok (mt_leaf_ok (en_o (sm_iload_n dX12_second_0 rfl))) (mt_node_ok (mt_leaf_ok (en_o (sm_sipush dX12_second_1 rfl))) (mt_leaf_ok (en_o (sm_icmp_ne dX12_second_4 (by decide)))))) (mt_node_ok (mt_leaf_ok (en_o (sm_aload_n dX12_second_7 rfl))) (mt_node_ok (mt_leaf_ok (en_o (sm_iload_n dX12_second_8 rfl))) (mt_leaf_ok (en_o (sm_iconst dX12_second_9 rfl)))))) (mt_node_ok (mt_node_ok (mt_leaf_ok (en_o (sm_iadd dX12_second_10))) (mt_node_ok (mt_leaf_ok ((⟨by decide, bg_972, bg_1214, 474, 1, ⟨by decide, by decide, by decide +kernel⟩, bg_1229, Or.inr ⟨rfl, bg_1230, 12, _, rfl, by decide, rfl, Or.inl ⟨dX12_second_11, bg_1231⟩⟩⟩ : mi_cal _ _ _ (mI 179) _ _))) (mt_leaf_ok (en_o (sm_sipush dX12_second_14 rfl))))) (mt_node_ok (mt_leaf_ok (en_o (sm_icmp_ne dX12_second_17 (by decide)))) (mt_node_ok (mt_leaf_ok (en_o (sm_aload_n dX12_second_20 rfl))) (mt_leaf_ok (en_o (sm_iload_n dX12_second_21 rfl))))))) (mt_node_ok (mt_node_ok (mt_node_ok (mt_leaf_ok (en_o (sm_iconst dX12_second_22 rfl))) (mt_node_ok (mt_leaf_ok (en_o (sm_iadd dX12_second_23))) (mt_leaf_ok ((⟨by decide, bg_972, bg_1217, 507, 1, ⟨by decide, by decide, by decide +kernel⟩, bg_1264, Or.inr ⟨rfl, bg_1265, 12, _, rfl, by decide, rfl, Or.inl ⟨dX12_second_24, bg_1266⟩⟩⟩ : mi_cal _ _ _ (mI 240) _ _))))) (mt_node_ok (mt_leaf_ok (en_o (sm_goto dX12_second_27 (by decide)))) (mt_node_ok (mt_leaf_ok (en_o (sm_iconst dX12_second_30 rfl))) (mt_leaf_ok (sr_int dX12_second_31))))) (mt_node_ok (mt_node_ok (mt_leaf_ok (en_o (sm_iload_n dX12_second_32 rfl))) (mt_node_ok (mt_leaf_ok (en_o (sm_sipush dX12_second_33 rfl))) (mt_leaf_ok (en_o (sm_icmp_ne dX12_second_36 (by decide)))))) (mt_node_ok (mt_leaf_ok (en_o (sm_aload_n dX12_second_39 rfl))) (mt_node_ok (mt_leaf_ok (en_o (sm_iload_n dX12_second_40 rfl))) (mt_leaf_ok (en_o (sm_iconst dX12_second_41 rfl)))))))) (mt_node_ok (mt_node_ok (mt_node_ok (mt_node_ok (mt_leaf_ok (en_o (sm_iadd dX12_second_42))) (mt_node_ok (mt_leaf_ok ((⟨by decide, bg_972, bg_1214, 474, 1, ⟨by decide, by decide, by decide +kernel⟩, bg_1229, Or.inr ⟨rfl, bg_1230, 12, _, rfl, by decide, rfl, Or.inl ⟨dX12_second_43, bg_1231⟩⟩⟩ : mi_cal _ _ _ (mI 179) _ _))) (mt_leaf_ok (en_o (sm_i2b dX12_second_46))))) (mt_node_ok (mt_leaf_ok (sr_int dX12_second_47)) (mt_node_ok (mt_leaf_ok (en_o (sm_iload_n dX12_second_48 rfl))) (mt_leaf_ok (en_o (sm_sipush dX12_second_49 rfl)))))) (mt_node_ok (mt_node_ok (mt_leaf_ok (en_o (sm_icmp_ne dX12_second_52 (by decide)))) (mt_node_ok (mt_leaf_ok (en_o (sm_aload_n dX12_second_55 rfl))) (mt_leaf_ok (en_o (sm_iload_n dX12_second_56 rfl))))) (mt_node_ok (mt_leaf_ok ((⟨by decide, bg_972, bg_1222, 488, 1, ⟨by decide, by decide, by decide +kernel⟩, bg_1244, Or.inl ⟨dX12_second_57, rfl, rfl, bg_1245⟩⟩ : mi_cal _ _ _ (mI 229) _ _))) (mt_node_ok (mt_leaf_ok (en_o (sm_bipush dX12_second_60 rfl))) (mt_leaf_ok (en_o (sm_iadd dX12_second_62))))))) (mt_node_ok (mt_node_ok (mt_node_ok (mt_leaf_ok ((⟨by decide, bg_972, bg_1221, 491, 1, ⟨by decide, by decide, by decide +kernel⟩, bg_1246, Or.inr ⟨rfl, bg_1247, 12, _, rfl, by decide, rfl, Or.inl ⟨dX12_second_63, bg_1248⟩⟩⟩ : mi_cal _ _ _ (mI 181) _ _))) (mt_node_ok (mt_leaf_ok (sr_int dX12_second_66)) (mt_leaf_ok (en_o (sm_iload_n dX12_second_67 rfl))))) (mt_node_ok (mt_leaf_ok (en_o (sm_sipush dX12_second_68 rfl))) (mt_node_ok (mt_leaf_ok (en_o (sm_icmp_ne dX12_second_71 (by decide)))) (mt_leaf_ok (en_o (sm_aload_n dX12_second_74 rfl)))))) (mt_node_ok (mt_node_ok (mt_leaf_ok (en_o (sm_iload_n dX12_second_75 rfl))) (mt_node_ok (mt_leaf_ok (en_o (sm_iconst dX12_second_76 rfl))) (mt_leaf_ok (en_o (sm_iadd dX12_second_77))))) (mt_node_ok (mt_leaf_ok ((⟨by decide, bg_972, bg_1214, 474, 1, ⟨by decide, by decide, by decide +kernel⟩, bg_1229, Or.inr ⟨rfl, bg_1230, 12, _, rfl, by decide, rfl, Or.inl ⟨dX12_second_78, bg_1231⟩⟩⟩ : mi_cal _ _ _ (mI 179) _ _))) (mt_node_ok (mt_leaf_ok (en_o (sm_goto dX12_second_81 (by decide)))) (mt_leaf_ok (en_o (sm_iconst dX12_second_84 rfl))))))))
def mb_241_1 (g : xe_G) : Nat → Option mi_N := mt_leaf 85 (.inr (.inr (r_int (fun _ => true))))
theorem mb_241_1_ok {g : xe_G} : mt_all (mi_ent g mI (mI 241)) (mb_241_1 g) := mt_leaf_ok (sr_int dX12_second_85)
def mb_241 (g : xe_G) : Nat × mi_B := (3, mt_node 84 (mb_241_0 g) (mb_241_1 g), mk_node 31 (mk_leaf 31 []) (mk_leaf 85 []))
theorem mb_241_ok {g : xe_G} : mi_meth g mI (mI 241) (mb_241 g) := ⟨rfl, by decide, mt_node_ok (mb_241_0_ok) (mb_241_1_ok)⟩
theorem dX12_several_0 : decode cX12_several 0 = .ok (.iload_n 0, 1) := by decide +kernel
theorem dX12_several_1 : decode cX12_several 1 = .ok (.iload_n 1, 1) := by decide +kernel
theorem dX12_several_2 : decode cX12_several 2 = .ok (.iand, 1) := by decide +kernel
theorem dX12_several_3 : decode cX12_several 3 = .ok (.ifCond .eq 7, 3) := by decide +kernel
theorem dX12_several_6 : decode cX12_several 6 = .ok (.iconst 1, 1) := by decide +kernel
theorem dX12_several_7 : decode cX12_several 7 = .ok (.goto 4, 3) := by decide +kernel
theorem dX12_several_10 : decode cX12_several 10 = .ok (.iconst 0, 1) := by decide +kernel
theorem dX12_several_11 : decode cX12_several 11 = .ok (.iload_n 0, 1) := by decide +kernel
theorem dX12_several_12 : decode cX12_several 12 = .ok (.iload_n 2, 1) := by decide +kernel
theorem dX12_several_13 : decode cX12_several 13 = .ok (.iand, 1) := by decide +kernel
theorem dX12_several_14 : decode cX12_several 14 = .ok (.ifCond .eq 7, 3) := by decide +kernel
theorem dX12_several_17 : decode cX12_several 17 = .ok (.iconst 1, 1) := by decide +kernel
theorem dX12_several_18 : decode cX12_several 18 = .ok (.goto 4, 3) := by decide +kernel
theorem dX12_several_21 : decode cX12_several 21 = .ok (.iconst 0, 1) := by decide +kernel
theorem dX12_several_22 : decode cX12_several 22 = .ok (.iadd, 1) := by decide +kernel
theorem dX12_several_23 : decode cX12_several 23 = .ok (.iload_n 0, 1) := by decide +kernel
theorem dX12_several_24 : decode cX12_several 24 = .ok (.iload_n 3, 1) := by decide +kernel
theorem dX12_several_25 : decode cX12_several 25 = .ok (.iand, 1) := by decide +kernel
theorem dX12_several_26 : decode cX12_several 26 = .ok (.ifCond .eq 7, 3) := by decide +kernel
theorem dX12_several_29 : decode cX12_several 29 = .ok (.iconst 1, 1) := by decide +kernel
theorem dX12_several_30 : decode cX12_several 30 = .ok (.goto 4, 3) := by decide +kernel
theorem dX12_several_33 : decode cX12_several 33 = .ok (.iconst 0, 1) := by decide +kernel
theorem dX12_several_34 : decode cX12_several 34 = .ok (.iadd, 1) := by decide +kernel
theorem dX12_several_35 : decode cX12_several 35 = .ok (.iconst 1, 1) := by decide +kernel
theorem dX12_several_36 : decode cX12_several 36 = .ok (.if_icmp .le 7, 3) := by decide +kernel
theorem dX12_several_39 : decode cX12_several 39 = .ok (.iconst 1, 1) := by decide +kernel
theorem dX12_several_40 : decode cX12_several 40 = .ok (.goto 4, 3) := by decide +kernel
theorem dX12_several_43 : decode cX12_several 43 = .ok (.iconst 0, 1) := by decide +kernel
theorem dX12_several_44 : decode cX12_several 44 = .ok (.ireturn, 1) := by decide +kernel
def mb_242_0 (g : xe_G) : Nat → Option mi_N := mt_node 21 (mt_node 10 (mt_node 2 (mt_node 0 (mt_leaf 0 (.inl (o_iload 0 1))) (mt_node 1 (mt_leaf 1 (.inl (o_iload 1 1))) (mt_leaf 2 (.inl (o_bin (fun x y => x &&& y) 1))))) (mt_node 6 (mt_node 3 (mt_leaf 3 (.inl (o_if (fun x => decide (x = 0)) 10))) (mt_leaf 6 (.inl (o_push (.int 1) 1)))) (mt_node 7 (mt_leaf 7 (.inl (o_goto 11))) (mt_leaf 10 (.inl (o_push (.int 0) 1)))))) (mt_node 13 (mt_node 11 (mt_leaf 11 (.inl (o_iload 0 1))) (mt_node 12 (mt_leaf 12 (.inl (o_iload 2 1))) (mt_leaf 13 (.inl (o_bin (fun x y => x &&& y) 1))))) (mt_node 17 (mt_node 14 (mt_leaf 14 (.inl (o_if (fun x => decide (x = 0)) 21))) (mt_leaf 17 (.inl (o_push (.int 1) 1)))) (mt_node 18 (mt_leaf 18 (.inl (o_goto 22))) (mt_leaf 21 (.inl (o_push (.int 0) 1))))))) (mt_node 30 (mt_node 24 (mt_node 22 (mt_leaf 22 (.inl (o_bin (fun x y => x + y) 1))) (mt_node 23 (mt_leaf 23 (.inl (o_iload 0 1))) (mt_leaf 24 (.inl (o_iload 3 1))))) (mt_node 26 (mt_node 25 (mt_leaf 25 (.inl (o_bin (fun x y => x &&& y) 1))) (mt_leaf 26 (.inl (o_if (fun x => decide (x = 0)) 33)))) (mt_node 29 (mt_leaf 29 (.inl (o_push (.int 1) 1))) (mt_leaf 30 (.inl (o_goto 34)))))) (mt_node 36 (mt_node 34 (mt_node 33 (mt_leaf 33 (.inl (o_push (.int 0) 1))) (mt_leaf 34 (.inl (o_bin (fun x y => x + y) 1)))) (mt_node 35 (mt_leaf 35 (.inl (o_push (.int 1) 1))) (mt_leaf 36 (.inl (o_if2 (fun x y => decide (x ≤ y)) 43))))) (mt_node 40 (mt_node 39 (mt_leaf 39 (.inl (o_push (.int 1) 1))) (mt_leaf 40 (.inl (o_goto 44)))) (mt_node 43 (mt_leaf 43 (.inl (o_push (.int 0) 1))) (mt_leaf 44 (.inr (.inr (r_int mi_cz))))))))
theorem mb_242_0_ok {g : xe_G} : mt_all (mi_ent g mI (mI 242)) (mb_242_0 g) := mt_node_ok (mt_node_ok (mt_node_ok (mt_node_ok (mt_leaf_ok (en_o (sm_iload_n dX12_several_0 rfl))) (mt_node_ok (mt_leaf_ok (en_o (sm_iload_n dX12_several_1 rfl))) (mt_leaf_ok (en_o (sm_iand dX12_several_2))))) (mt_node_ok (mt_node_ok (mt_leaf_ok (en_o (sm_if_eq dX12_several_3 (by decide)))) (mt_leaf_ok (en_o (sm_iconst dX12_several_6 rfl)))) (mt_node_ok (mt_leaf_ok (en_o (sm_goto dX12_several_7 (by decide)))) (mt_leaf_ok (en_o (sm_iconst dX12_several_10 rfl)))))) (mt_node_ok (mt_node_ok (mt_leaf_ok (en_o (sm_iload_n dX12_several_11 rfl))) (mt_node_ok (mt_leaf_ok (en_o (sm_iload_n dX12_several_12 rfl))) (mt_leaf_ok (en_o (sm_iand dX12_several_13))))) (mt_node_ok (mt_node_ok (mt_leaf_ok (en_o (sm_if_eq dX12_several_14 (by decide)))) (mt_leaf_ok (en_o (sm_iconst dX12_several_17 rfl)))) (mt_node_ok (mt_leaf_ok (en_o (sm_goto dX12_several_18 (by decide)))) (mt_leaf_ok (en_o (sm_iconst dX12_several_21 rfl))))))) (mt_node_ok (mt_node_ok (mt_node_ok (mt_leaf_ok (en_o (sm_iadd dX12_several_22))) (mt_node_ok (mt_leaf_ok (en_o (sm_iload_n dX12_several_23 rfl))) (mt_leaf_ok (en_o (sm_iload_n dX12_several_24 rfl))))) (mt_node_ok (mt_node_ok (mt_leaf_ok (en_o (sm_iand dX12_several_25))) (mt_leaf_ok (en_o (sm_if_eq dX12_several_26 (by decide))))) (mt_node_ok (mt_leaf_ok (en_o (sm_iconst dX12_several_29 rfl))) (mt_leaf_ok (en_o (sm_goto dX12_several_30 (by decide))))))) (mt_node_ok (mt_node_ok (mt_node_ok (mt_leaf_ok (en_o (sm_iconst dX12_several_33 rfl))) (mt_leaf_ok (en_o (sm_iadd dX12_several_34)))) (mt_node_ok (mt_leaf_ok (en_o (sm_iconst dX12_several_35 rfl))) (mt_leaf_ok (en_o (sm_icmp_le dX12_several_36 (by decide)))))) (mt_node_ok (mt_node_ok (mt_leaf_ok (en_o (sm_iconst dX12_several_39 rfl))) (mt_leaf_ok (en_o (sm_goto dX12_several_40 (by decide))))) (mt_node_ok (mt_leaf_ok (en_o (sm_iconst dX12_several_43 rfl))) (mt_leaf_ok (sr_nar mi_cz_ok dX12_several_44))))))
def mb_242 (g : xe_G) : Nat × mi_B := (4, mb_242_0 g, mk_node 22 (mk_node 11 (mk_leaf 11 [0, 2, 3]) (mk_leaf 22 [0, 3])) (mk_node 34 (mk_leaf 34 []) (mk_leaf 44 [])))
theorem mb_242_ok {g : xe_G} : mi_meth g mI (mI 242) (mb_242 g) := ⟨rfl, by decide, mb_242_0_ok⟩
end
section
/-! rows of bytes are copied, empty ones too (my own text) -/
def o_acopy2 (g : xe_G) : mi_O := fun S => match S.2.2.1 with
  | .int n :: .int dp :: .ref a :: .int sp :: .ref a0 :: st => match mi_ga S.2.2.2 a0 .byte with
    | some r0 => match mi_ga S.2.2.2 a .byte with
      | some r1 => if a ≠ a0 ∧ a0 ≠ g.1 ∧ a ≠ g.1 ∧ ¬ sp < 0 ∧ ¬ dp < 0 ∧ ¬ n < 0 ∧ sp.toNatClampNeg + n.toNatClampNeg ≤ r0.1 ∧ dp.toNatClampNeg + n.toNatClampNeg ≤ r1.1 ∧ (st.map fun v => v.category).sum ≤ 8 ∧ (List.range n.toNatClampNeg).all (fun i => mi_fb (r0.2 (sp.toNatClampNeg + i))) = true then
          some (S.1 + 3, S.2.1, st, va_up S.2.2.2.1 a (some (.inl (.byte, r1.1, va_cpy r0.2 r1.2 sp.toNatClampNeg dp.toNatClampNeg n.toNatClampNeg))), S.2.2.2.2) else none
      | none => none
    | none => none
  | _ => none
theorem sm_acopy2 {g : xe_G} {own : String} {cc : ByteArray} {nL : Nat} {ini : Bool} {pc : Nat} {i : Nat} (w1 : Cond.methodLink own i arraycopyName ∈ bg) (w2 : Cond.native arraycopyName ∈ bg) (w3 : Cond.static arraycopyName ∈ bg) (w4 : Cond.initialized "java/lang/System" ∈ bg) (hd : decode cc pc = .ok (.invokestatic i, 3)) : mi_sim g own cc nL ini pc (o_acopy2 g) := by
  intro lv st M S' h
  unfold o_acopy2 at h
  dsimp only at h
  split at h
  · rename_i n dp a sp a0 rest
    split at h
    · rename_i r0 hga0
      split at h
      · rename_i r1 hga1
        split at h
        · rename_i hco
          cases h
          refine ⟨⟨Nat.le_refl _, Nat.le_refl _⟩, ?_⟩
          intro D p l e R s m args below meth c A n0 s0 Q hc hn0 hs0 hR1 hR2 hW H locs ls ws tys hr hl hS
          obtain ⟨hx, hb, hml, hown, htb, hE, hini, hA, hK0, hfr, hlo⟩ := hc
          obtain ⟨hne, p0, p1, hsp, hdp, hnn, h4, h5, hst8, hfb⟩ := hco
          obtain ⟨hM0, ⟨q0, c0, y0, t0, h1, h2, ⟨h3, h7⟩, -⟩ | ⟨h0, -, -⟩⟩ := mi_ga_in hr hga0
          · obtain ⟨hM1, ⟨q1, c1, y1, t1, k1, k2, ⟨k3, k7⟩, k5⟩ | ⟨h0, -, -⟩⟩ := mi_ga_in hr hga1
            · obtain ⟨n0', x0⟩ := y0
              obtain ⟨n1', x1⟩ := y1
              obtain ⟨n0'', f0⟩ := r0
              obtain ⟨n1'', f1⟩ := r1
              dsimp only at h3 h7 k3 k7 h4 h5 hfb k5
              subst h3
              subst k3
              rcases h7 with ⟨-, hf0, rfl, hv0⟩ | ⟨h9, -⟩ | ⟨⟨C9, h9⟩, -⟩
              · rcases k7 with ⟨-, hf1, rfl, hv1⟩ | ⟨h9, -⟩ | ⟨⟨C9, h9⟩, -⟩
                · have hfit : ∀ i, i < n.toNatClampNeg → f0 (sp.toNatClampNeg + i) = some (.int (hf0 (sp.toNatClampNeg + i))) ∧ fits .byte (.int (hf0 (sp.toNatClampNeg + i))) = true := by
                    intro i hi
                    have h6 := List.all_eq_true.mp hfb i (List.mem_range.mpr hi)
                    unfold mi_fb at h6
                    split at h6
                    · rename_i v hv
                      have h8 := hv0 _ _ hv
                      subst h8
                      exact ⟨hv, h6⟩
                    · cases h6
                  intro T hT X
                  have hc0 : H[a0]? = some (vp_cell c0 (n0', .inl hf0)) := hr.2.1 q0 _ h1
                  have hc1 : H[a]? = some (vp_cell c1 (n1', .inl hf1)) := hr.2.1 q1 _ k1
                  obtain ⟨-, kk0, hk0, cm0, hkk0⟩ := (hr.1.2 t0 _ h2).1 n0' (fun j => .int (hf0 j))
                  obtain ⟨-, kk1, hk1, cm1, hkk1⟩ := (hr.1.2 t1 _ k2).1 n1' (fun j => .int (hf1 j))
                  obtain ⟨vm', X', step⟩ := X.arraycopy hx hown (htb _ w1) (htb _ w2) (htb _ w3) (htb _ w4) (src := a0) (dst := a) (cs := vp_cell c0 (n0', .inl hf0)) (cd := vp_cell c1 (n1', .inl hf1)) (srcPos := sp) (destPos := dp) (n := n) (by rw [hT]; exact hc0) (by rw [hT]; exact hc1)
                    (fun _ h => by cases h) (fun _ h => by cases h) (fun h => by cases h) (fun h => by cases h) hk0 hk1 hkk0 hkk1 (by simp [refKind]) hsp hdp hnn
                    (by rw [mi_nn sp hsp, mi_nn n hnn]; show ¬ _ > ((arrV c0 n0' (fun j => .int (hf0 j))).slots.size : Int); rw [arrV_size]; omega)
                    (by rw [mi_nn dp hdp, mi_nn n hnn]; show ¬ _ > ((arrV c1 n1' (fun j => .int (hf1 j))).slots.size : Int); rw [arrV_size]; omega)
                    (fun vm₁ _ i hi => by
                      have e : (vp_cell c0 (n0', .inl hf0)).slots.getD (sp.toNatClampNeg + i) .null = .int (hf0 (sp.toNatClampNeg + i)) := by
                        show (arrV c0 n0' (fun j => .int (hf0 j))).slots.getD _ _ = _
                        rw [Array.getD_eq_getD_getElem?, arrV_read _ _ (by omega)]
                        rfl
                      refine ⟨?_, ?_⟩
                      · rw [e]
                        exact (hfit i hi).2
                      · rw [e]
                        exact trivial)
                    (g := F0 m pc ls (.int n :: .int dp :: .ref a :: .int sp :: .ref a0 :: rest)) rfl (by rw [hml]; exact hl.1) (rest := rest) rfl (by rw [hb]; exact hd) (by omega) (mi_nat9 hst8 hlo)
                  have e1 : copied (vp_cell c0 (n0', .inl hf0)) (vp_cell c1 (n1', .inl hf1)) sp dp n = vp_cell c1 (n1', .inl (va_cpy hf0 hf1 sp.toNatClampNeg dp.toNatClampNeg n.toNatClampNeg)) := va_copied (fun z => .int z) c0 c1 hf0 hf1 h4
                  rw [e1] at X' step
                  have hlt : a < H.size := (Array.getElem?_eq_some_iff.mp hc1).1
                  have hheap : ((T.setVm vm').setCell a (vp_cell c1 (n1', .inl (va_cpy hf0 hf1 sp.toNatClampNeg dp.toNatClampNeg n.toNatClampNeg)))).heap = H.setIfInBounds a (vp_cell c1 (n1', .inl (va_cpy hf0 hf1 sp.toNatClampNeg dp.toNatClampNeg n.toNatClampNeg))) := by rw [← hT]; rfl
                  generalize hH1 : H.setIfInBounds a (vp_cell c1 (n1', .inl (va_cpy hf0 hf1 sp.toNatClampNeg dp.toNatClampNeg n.toNatClampNeg))) = H1 at hheap
                  have z : H1.size = H.size := by rw [← hH1]; simp
                  have oq : ∀ q : Nat, q ≠ a → H1[q]? = H[q]? := fun q hq => by rw [← hH1]; simp [Array.getElem?_setIfInBounds, Ne.symm hq]
                  have hat : H1[a]? = some (vp_cell c1 (n1', .inl (va_cpy hf0 hf1 sp.toNatClampNeg dp.toNatClampNeg n.toNatClampNeg))) := by rw [← hH1]; simp [Array.getElem?_setIfInBounds, hlt]
                  have hA9 : A a := hr.2.2.1.2 q1 _ k1
                  have hct : ∀ (j : Nat) (w : Value), va_cpy f0 f1 sp.toNatClampNeg dp.toNatClampNeg n.toNatClampNeg j = some w → w = .int (va_cpy hf0 hf1 sp.toNatClampNeg dp.toNatClampNeg n.toNatClampNeg j) := by
                    intro j w hj
                    unfold va_cpy at hj ⊢
                    split at hj
                    · rename_i hjj
                      rw [if_pos hjj]
                      exact hv0 _ _ hj
                    · rename_i hjj
                      rw [if_neg hjj]
                      exact hv1 _ _ hj
                  obtain ⟨t, a1, b1⟩ := hW H1 _ ls (ws.set q1 (a, .inl (c1, n1', .inl (va_cpy hf0 hf1 sp.toNatClampNeg dp.toNatClampNeg n.toNatClampNeg)))) tys (hr.put k1 ⟨k5.1, fun o9 h9 => by cases h9⟩ ⟨c1, _, rfl, List.mem_of_getElem? k2, rfl, Or.inl ⟨by simp, _, rfl, hct⟩⟩ hat z oq) hl ⟨Nat.le_trans hS.1 (Nat.le_of_eq z.symm), fun q g1 g2 => by
                      rw [oq q (fun e => g2 (by rw [e]; exact hA9))]
                      exact hS.2.1 q g1 g2, fun q hq => by
                      rcases List.mem_append.mp hq with h | h
                      · exact hS.2.2 q h
                      · obtain ⟨z, -, hz⟩ := List.mem_map.mp h
                        rw [← hz]
                        exact hA9⟩ _ hheap X'
                  exact ⟨t, step t a1, b1⟩
                · cases h9
                · cases h9
              · cases h9
              · cases h9
            · exact absurd h0 p1
          · exact absurd h0 p0
        · cases h
      · cases h
    · cases h
  · cases h
end
section
theorem dX12_starts_0 : decode cX12_starts 0 = .ok (.lload_n 1, 1) := by decide +kernel
theorem dX12_starts_1 : decode cX12_starts 1 = .ok (.lconst 0, 1) := by decide +kernel
theorem dX12_starts_2 : decode cX12_starts 2 = .ok (.lcmp, 1) := by decide +kernel
theorem dX12_starts_3 : decode cX12_starts 3 = .ok (.ifCond .lt 27, 3) := by decide +kernel
theorem dX12_starts_6 : decode cX12_starts 6 = .ok (.lload_n 1, 1) := by decide +kernel
theorem dX12_starts_7 : decode cX12_starts 7 = .ok (.aload_n 0, 1) := by decide +kernel
theorem dX12_starts_8 : decode cX12_starts 8 = .ok (.getfield 465, 3) := by decide +kernel
theorem dX12_starts_11 : decode cX12_starts 11 = .ok (.i2l, 1) := by decide +kernel
theorem dX12_starts_12 : decode cX12_starts 12 = .ok (.lcmp, 1) := by decide +kernel
theorem dX12_starts_13 : decode cX12_starts 13 = .ok (.ifCond .ge 17, 3) := by decide +kernel
theorem dX12_starts_16 : decode cX12_starts 16 = .ok (.aload_n 0, 1) := by decide +kernel
theorem dX12_starts_17 : decode cX12_starts 17 = .ok (.getfield 166, 3) := by decide +kernel
theorem dX12_starts_20 : decode cX12_starts 20 = .ok (.lload_n 1, 1) := by decide +kernel
theorem dX12_starts_21 : decode cX12_starts 21 = .ok (.l2i, 1) := by decide +kernel
theorem dX12_starts_22 : decode cX12_starts 22 = .ok (.iaload, 1) := by decide +kernel
theorem dX12_starts_23 : decode cX12_starts 23 = .ok (.ifCond .lt 7, 3) := by decide +kernel
theorem dX12_starts_26 : decode cX12_starts 26 = .ok (.iconst 1, 1) := by decide +kernel
theorem dX12_starts_27 : decode cX12_starts 27 = .ok (.goto 4, 3) := by decide +kernel
theorem dX12_starts_30 : decode cX12_starts 30 = .ok (.iconst 0, 1) := by decide +kernel
theorem dX12_starts_31 : decode cX12_starts 31 = .ok (.ireturn, 1) := by decide +kernel
def mb_243_0 (g : xe_G) : Nat → Option mi_N := mt_node 13 (mt_node 6 (mt_node 1 (mt_node 0 (mt_leaf 0 (.inl (o_lload 1 1))) (mt_leaf 1 (.inl (o_push (.long 0) 1)))) (mt_node 2 (mt_leaf 2 (.inl (o_lcmp))) (mt_node 3 (mt_leaf 3 (.inl (o_if (fun x => decide (x < 0)) 30))) (mt_leaf 6 (.inl (o_lload 1 1)))))) (mt_node 8 (mt_node 7 (mt_leaf 7 (.inl (o_aload 0 1))) (mt_leaf 8 (.inl (o_get 12 78)))) (mt_node 11 (mt_leaf 11 (.inl (o_i2l))) (mt_node 12 (mt_leaf 12 (.inl (o_lcmp))) (mt_leaf 13 (.inl (o_if (fun x => decide (0 ≤ x)) 30))))))) (mt_node 22 (mt_node 17 (mt_node 16 (mt_leaf 16 (.inl (o_aload 0 1))) (mt_leaf 17 (.inl (o_get 12 81)))) (mt_node 20 (mt_leaf 20 (.inl (o_lload 1 1))) (mt_node 21 (mt_leaf 21 (.inl (o_l2i))) (mt_leaf 22 (.inl (o_ald .int)))))) (mt_node 26 (mt_node 23 (mt_leaf 23 (.inl (o_if (fun x => decide (x < 0)) 30))) (mt_leaf 26 (.inl (o_push (.int 1) 1)))) (mt_node 27 (mt_leaf 27 (.inl (o_goto 31))) (mt_node 30 (mt_leaf 30 (.inl (o_push (.int 0) 1))) (mt_leaf 31 (.inr (.inr (r_int mi_cz))))))))
theorem mb_243_0_ok {g : xe_G} : mt_all (mi_ent g mI (mI 243)) (mb_243_0 g) := mt_node_ok (mt_node_ok (mt_node_ok (mt_node_ok (mt_leaf_ok (en_o (sm_lload_n dX12_starts_0 rfl))) (mt_leaf_ok (en_o (sm_lconst dX12_starts_1 rfl)))) (mt_node_ok (mt_leaf_ok (en_o (sm_lcmp dX12_starts_2))) (mt_node_ok (mt_leaf_ok (en_o (sm_if_lt dX12_starts_3 (by decide)))) (mt_leaf_ok (en_o (sm_lload_n dX12_starts_6 rfl)))))) (mt_node_ok (mt_node_ok (mt_leaf_ok (en_o (sm_aload_n dX12_starts_7 rfl))) (mt_leaf_ok (en_o (sm_get (T := TX12) (by decide) rfl bi_X12 (by decide) bg_1226 dX12_starts_8)))) (mt_node_ok (mt_leaf_ok (en_o (sm_i2l dX12_starts_11))) (mt_node_ok (mt_leaf_ok (en_o (sm_lcmp dX12_starts_12))) (mt_leaf_ok (en_o (sm_if_ge dX12_starts_13 (by decide)))))))) (mt_node_ok (mt_node_ok (mt_node_ok (mt_leaf_ok (en_o (sm_aload_n dX12_starts_16 rfl))) (mt_leaf_ok (en_o (sm_get (T := TX12) (by decide) rfl bi_X12 (by decide) bg_967 dX12_starts_17)))) (mt_node_ok (mt_leaf_ok (en_o (sm_lload_n dX12_starts_20 rfl))) (mt_node_ok (mt_leaf_ok (en_o (sm_l2i dX12_starts_21))) (mt_leaf_ok (en_o (sm_iald dX12_starts_22)))))) (mt_node_ok (mt_node_ok (mt_leaf_ok (en_o (sm_if_lt dX12_starts_23 (by decide)))) (mt_leaf_ok (en_o (sm_iconst dX12_starts_26 rfl)))) (mt_node_ok (mt_leaf_ok (en_o (sm_goto dX12_starts_27 (by decide)))) (mt_node_ok (mt_leaf_ok (en_o (sm_iconst dX12_starts_30 rfl))) (mt_leaf_ok (sr_nar mi_cz_ok dX12_starts_31))))))
def mb_243 (g : xe_G) : Nat × mi_B := (3, mb_243_0 g, mk_node 30 (mk_leaf 30 []) (mk_leaf 31 []))
theorem mb_243_ok {g : xe_G} : mi_meth g mI (mI 243) (mb_243 g) := ⟨rfl, by decide, mb_243_0_ok⟩
theorem dX12_symOf_0 : decode cX12_symOf 0 = .ok (.aload_n 0, 1) := by decide +kernel
theorem dX12_symOf_1 : decode cX12_symOf 1 = .ok (.getfield 56, 3) := by decide +kernel
theorem dX12_symOf_4 : decode cX12_symOf 4 = .ok (.aload_n 0, 1) := by decide +kernel
theorem dX12_symOf_5 : decode cX12_symOf 5 = .ok (.getfield 249, 3) := by decide +kernel
theorem dX12_symOf_8 : decode cX12_symOf 8 = .ok (.iload_n 1, 1) := by decide +kernel
theorem dX12_symOf_9 : decode cX12_symOf 9 = .ok (.iadd, 1) := by decide +kernel
theorem dX12_symOf_10 : decode cX12_symOf 10 = .ok (.iaload, 1) := by decide +kernel
theorem dX12_symOf_11 : decode cX12_symOf 11 = .ok (.ireturn, 1) := by decide +kernel
def mb_244_0 (g : xe_G) : Nat → Option mi_N := mt_node 5 (mt_node 1 (mt_node 0 (mt_leaf 0 (.inl (o_aload 0 1))) (mt_leaf 1 (.inl (o_get 12 22)))) (mt_node 4 (mt_leaf 4 (.inl (o_aload 0 1))) (mt_leaf 5 (.inl (o_get 12 51))))) (mt_node 9 (mt_node 8 (mt_leaf 8 (.inl (o_iload 1 1))) (mt_leaf 9 (.inl (o_bin (fun x y => x + y) 1)))) (mt_node 10 (mt_leaf 10 (.inl (o_ald .int))) (mt_leaf 11 (.inr (.inr (r_int (fun _ => true)))))))
theorem mb_244_0_ok {g : xe_G} : mt_all (mi_ent g mI (mI 244)) (mb_244_0 g) := mt_node_ok (mt_node_ok (mt_node_ok (mt_leaf_ok (en_o (sm_aload_n dX12_symOf_0 rfl))) (mt_leaf_ok (en_o (sm_get (T := TX12) (by decide) rfl bi_X12 (by decide) bg_937 dX12_symOf_1)))) (mt_node_ok (mt_leaf_ok (en_o (sm_aload_n dX12_symOf_4 rfl))) (mt_leaf_ok (en_o (sm_get (T := TX12) (by decide) rfl bi_X12 (by decide) bg_1021 dX12_symOf_5))))) (mt_node_ok (mt_node_ok (mt_leaf_ok (en_o (sm_iload_n dX12_symOf_8 rfl))) (mt_leaf_ok (en_o (sm_iadd dX12_symOf_9)))) (mt_node_ok (mt_leaf_ok (en_o (sm_iald dX12_symOf_10))) (mt_leaf_ok (sr_int dX12_symOf_11))))
def mb_244 (g : xe_G) : Nat × mi_B := (2, mb_244_0 g, fun _ => none)
theorem mb_244_ok {g : xe_G} : mi_meth g mI (mI 244) (mb_244 g) := ⟨rfl, by decide, mb_244_0_ok⟩
theorem dX12_symbol__0 : decode cX12_symbol_ 0 = .ok (.bipush 7, 2) := by decide +kernel
theorem dX12_symbol__2 : decode cX12_symbol_ 2 = .ok (.istore_n 2, 1) := by decide +kernel
theorem dX12_symbol__3 : decode cX12_symbol_ 3 = .ok (.iconst 0, 1) := by decide +kernel
theorem dX12_symbol__4 : decode cX12_symbol_ 4 = .ok (.istore_n 3, 1) := by decide +kernel
theorem dX12_symbol__5 : decode cX12_symbol_ 5 = .ok (.iload_n 3, 1) := by decide +kernel
theorem dX12_symbol__6 : decode cX12_symbol_ 6 = .ok (.iload_n 1, 1) := by decide +kernel
theorem dX12_symbol__7 : decode cX12_symbol_ 7 = .ok (.if_icmp .ge 21, 3) := by decide +kernel
theorem dX12_symbol__10 : decode cX12_symbol_ 10 = .ok (.bipush 31, 2) := by decide +kernel
theorem dX12_symbol__12 : decode cX12_symbol_ 12 = .ok (.iload_n 2, 1) := by decide +kernel
theorem dX12_symbol__13 : decode cX12_symbol_ 13 = .ok (.imul, 1) := by decide +kernel
theorem dX12_symbol__14 : decode cX12_symbol_ 14 = .ok (.aload_n 0, 1) := by decide +kernel
theorem dX12_symbol__15 : decode cX12_symbol_ 15 = .ok (.getfield 18, 3) := by decide +kernel
theorem dX12_symbol__18 : decode cX12_symbol_ 18 = .ok (.iload_n 3, 1) := by decide +kernel
theorem dX12_symbol__19 : decode cX12_symbol_ 19 = .ok (.caload, 1) := by decide +kernel
theorem dX12_symbol__20 : decode cX12_symbol_ 20 = .ok (.iadd, 1) := by decide +kernel
theorem dX12_symbol__21 : decode cX12_symbol_ 21 = .ok (.istore_n 2, 1) := by decide +kernel
theorem dX12_symbol__22 : decode cX12_symbol_ 22 = .ok (.iinc 3 1, 3) := by decide +kernel
theorem dX12_symbol__25 : decode cX12_symbol_ 25 = .ok (.goto (-20), 3) := by decide +kernel
theorem dX12_symbol__28 : decode cX12_symbol_ 28 = .ok (.iload_n 2, 1) := by decide +kernel
theorem dX12_symbol__29 : decode cX12_symbol_ 29 = .ok (.iload_n 2, 1) := by decide +kernel
theorem dX12_symbol__30 : decode cX12_symbol_ 30 = .ok (.bipush 12, 2) := by decide +kernel
theorem dX12_symbol__32 : decode cX12_symbol_ 32 = .ok (.iushr, 1) := by decide +kernel
theorem dX12_symbol__33 : decode cX12_symbol_ 33 = .ok (.ixor, 1) := by decide +kernel
theorem dX12_symbol__34 : decode cX12_symbol_ 34 = .ok (.sipush 4095, 3) := by decide +kernel
theorem dX12_symbol__37 : decode cX12_symbol_ 37 = .ok (.iand, 1) := by decide +kernel
theorem dX12_symbol__38 : decode cX12_symbol_ 38 = .ok (.istore_n 2, 1) := by decide +kernel
theorem dX12_symbol__39 : decode cX12_symbol_ 39 = .ok (.aload_n 0, 1) := by decide +kernel
theorem dX12_symbol__40 : decode cX12_symbol_ 40 = .ok (.getfield 31, 3) := by decide +kernel
theorem dX12_symbol__43 : decode cX12_symbol_ 43 = .ok (.iload_n 2, 1) := by decide +kernel
theorem dX12_symbol__44 : decode cX12_symbol_ 44 = .ok (.iaload, 1) := by decide +kernel
theorem dX12_symbol__45 : decode cX12_symbol_ 45 = .ok (.istore_n 3, 1) := by decide +kernel
theorem dX12_symbol__46 : decode cX12_symbol_ 46 = .ok (.iload_n 3, 1) := by decide +kernel
theorem dX12_symbol__47 : decode cX12_symbol_ 47 = .ok (.ifCond .lt 88, 3) := by decide +kernel
theorem dX12_symbol__50 : decode cX12_symbol_ 50 = .ok (.aload_n 0, 1) := by decide +kernel
theorem dX12_symbol__51 : decode cX12_symbol_ 51 = .ok (.getfield 25, 3) := by decide +kernel
theorem dX12_symbol__54 : decode cX12_symbol_ 54 = .ok (.iload_n 3, 1) := by decide +kernel
theorem dX12_symbol__55 : decode cX12_symbol_ 55 = .ok (.iaload, 1) := by decide +kernel
theorem dX12_symbol__56 : decode cX12_symbol_ 56 = .ok (.iload_n 1, 1) := by decide +kernel
theorem dX12_symbol__57 : decode cX12_symbol_ 57 = .ok (.if_icmp .ne 7, 3) := by decide +kernel
theorem dX12_symbol__60 : decode cX12_symbol_ 60 = .ok (.iconst 1, 1) := by decide +kernel
theorem dX12_symbol__61 : decode cX12_symbol_ 61 = .ok (.goto 4, 3) := by decide +kernel
theorem dX12_symbol__64 : decode cX12_symbol_ 64 = .ok (.iconst 0, 1) := by decide +kernel
theorem dX12_symbol__65 : decode cX12_symbol_ 65 = .ok (.istore 4, 2) := by decide +kernel
theorem dX12_symbol__67 : decode cX12_symbol_ 67 = .ok (.iconst 0, 1) := by decide +kernel
theorem dX12_symbol__68 : decode cX12_symbol_ 68 = .ok (.istore 5, 2) := by decide +kernel
theorem dX12_symbol__70 : decode cX12_symbol_ 70 = .ok (.iload 5, 2) := by decide +kernel
theorem dX12_symbol__72 : decode cX12_symbol_ 72 = .ok (.iload_n 1, 1) := by decide +kernel
theorem dX12_symbol__73 : decode cX12_symbol_ 73 = .ok (.if_icmp .ge 45, 3) := by decide +kernel
theorem dX12_symbol__76 : decode cX12_symbol_ 76 = .ok (.iload 4, 2) := by decide +kernel
theorem dX12_symbol__78 : decode cX12_symbol_ 78 = .ok (.ifCond .eq 40, 3) := by decide +kernel
theorem dX12_symbol__81 : decode cX12_symbol_ 81 = .ok (.aload_n 0, 1) := by decide +kernel
theorem dX12_symbol__82 : decode cX12_symbol_ 82 = .ok (.getfield 14, 3) := by decide +kernel
theorem dX12_symbol__85 : decode cX12_symbol_ 85 = .ok (.aload_n 0, 1) := by decide +kernel
theorem dX12_symbol__86 : decode cX12_symbol_ 86 = .ok (.getfield 21, 3) := by decide +kernel
theorem dX12_symbol__89 : decode cX12_symbol_ 89 = .ok (.iload_n 3, 1) := by decide +kernel
theorem dX12_symbol__90 : decode cX12_symbol_ 90 = .ok (.iaload, 1) := by decide +kernel
theorem dX12_symbol__91 : decode cX12_symbol_ 91 = .ok (.iload 5, 2) := by decide +kernel
theorem dX12_symbol__93 : decode cX12_symbol_ 93 = .ok (.iadd, 1) := by decide +kernel
theorem dX12_symbol__94 : decode cX12_symbol_ 94 = .ok (.caload, 1) := by decide +kernel
theorem dX12_symbol__95 : decode cX12_symbol_ 95 = .ok (.aload_n 0, 1) := by decide +kernel
theorem dX12_symbol__96 : decode cX12_symbol_ 96 = .ok (.getfield 18, 3) := by decide +kernel
theorem dX12_symbol__99 : decode cX12_symbol_ 99 = .ok (.iload 5, 2) := by decide +kernel
theorem dX12_symbol__101 : decode cX12_symbol_ 101 = .ok (.caload, 1) := by decide +kernel
theorem dX12_symbol__102 : decode cX12_symbol_ 102 = .ok (.if_icmp .ne 7, 3) := by decide +kernel
theorem dX12_symbol__105 : decode cX12_symbol_ 105 = .ok (.iconst 1, 1) := by decide +kernel
theorem dX12_symbol__106 : decode cX12_symbol_ 106 = .ok (.goto 4, 3) := by decide +kernel
theorem dX12_symbol__109 : decode cX12_symbol_ 109 = .ok (.iconst 0, 1) := by decide +kernel
theorem dX12_symbol__110 : decode cX12_symbol_ 110 = .ok (.istore 4, 2) := by decide +kernel
theorem dX12_symbol__112 : decode cX12_symbol_ 112 = .ok (.iinc 5 1, 3) := by decide +kernel
theorem dX12_symbol__115 : decode cX12_symbol_ 115 = .ok (.goto (-45), 3) := by decide +kernel
theorem dX12_symbol__118 : decode cX12_symbol_ 118 = .ok (.iload 4, 2) := by decide +kernel
theorem dX12_symbol__120 : decode cX12_symbol_ 120 = .ok (.ifCond .eq 5, 3) := by decide +kernel
theorem dX12_symbol__123 : decode cX12_symbol_ 123 = .ok (.iload_n 3, 1) := by decide +kernel
theorem dX12_symbol__124 : decode cX12_symbol_ 124 = .ok (.ireturn, 1) := by decide +kernel
theorem dX12_symbol__125 : decode cX12_symbol_ 125 = .ok (.aload_n 0, 1) := by decide +kernel
theorem dX12_symbol__126 : decode cX12_symbol_ 126 = .ok (.getfield 28, 3) := by decide +kernel
theorem dX12_symbol__129 : decode cX12_symbol_ 129 = .ok (.iload_n 3, 1) := by decide +kernel
theorem dX12_symbol__130 : decode cX12_symbol_ 130 = .ok (.iaload, 1) := by decide +kernel
theorem dX12_symbol__131 : decode cX12_symbol_ 131 = .ok (.istore_n 3, 1) := by decide +kernel
theorem dX12_symbol__132 : decode cX12_symbol_ 132 = .ok (.goto (-86), 3) := by decide +kernel
theorem dX12_symbol__135 : decode cX12_symbol_ 135 = .ok (.iconst 0, 1) := by decide +kernel
theorem dX12_symbol__136 : decode cX12_symbol_ 136 = .ok (.istore_n 3, 1) := by decide +kernel
theorem dX12_symbol__137 : decode cX12_symbol_ 137 = .ok (.iload_n 3, 1) := by decide +kernel
theorem dX12_symbol__138 : decode cX12_symbol_ 138 = .ok (.iload_n 1, 1) := by decide +kernel
theorem dX12_symbol__139 : decode cX12_symbol_ 139 = .ok (.if_icmp .ge 26, 3) := by decide +kernel
theorem dX12_symbol__142 : decode cX12_symbol_ 142 = .ok (.aload_n 0, 1) := by decide +kernel
theorem dX12_symbol__143 : decode cX12_symbol_ 143 = .ok (.getfield 14, 3) := by decide +kernel
theorem dX12_symbol__146 : decode cX12_symbol_ 146 = .ok (.aload_n 0, 1) := by decide +kernel
theorem dX12_symbol__147 : decode cX12_symbol_ 147 = .ok (.getfield 172, 3) := by decide +kernel
theorem dX12_symbol__150 : decode cX12_symbol_ 150 = .ok (.iload_n 3, 1) := by decide +kernel
theorem dX12_symbol__151 : decode cX12_symbol_ 151 = .ok (.iadd, 1) := by decide +kernel
theorem dX12_symbol__152 : decode cX12_symbol_ 152 = .ok (.aload_n 0, 1) := by decide +kernel
theorem dX12_symbol__153 : decode cX12_symbol_ 153 = .ok (.getfield 18, 3) := by decide +kernel
theorem dX12_symbol__156 : decode cX12_symbol_ 156 = .ok (.iload_n 3, 1) := by decide +kernel
theorem dX12_symbol__157 : decode cX12_symbol_ 157 = .ok (.caload, 1) := by decide +kernel
theorem dX12_symbol__158 : decode cX12_symbol_ 158 = .ok (.castore, 1) := by decide +kernel
theorem dX12_symbol__159 : decode cX12_symbol_ 159 = .ok (.iinc 3 1, 3) := by decide +kernel
theorem dX12_symbol__162 : decode cX12_symbol_ 162 = .ok (.goto (-25), 3) := by decide +kernel
theorem dX12_symbol__165 : decode cX12_symbol_ 165 = .ok (.aload_n 0, 1) := by decide +kernel
theorem dX12_symbol__166 : decode cX12_symbol_ 166 = .ok (.dup, 1) := by decide +kernel
theorem dX12_symbol__167 : decode cX12_symbol_ 167 = .ok (.getfield 175, 3) := by decide +kernel
theorem dX12_symbol__170 : decode cX12_symbol_ 170 = .ok (.dup_x1, 1) := by decide +kernel
theorem dX12_symbol__171 : decode cX12_symbol_ 171 = .ok (.iconst 1, 1) := by decide +kernel
theorem dX12_symbol__172 : decode cX12_symbol_ 172 = .ok (.iadd, 1) := by decide +kernel
theorem dX12_symbol__173 : decode cX12_symbol_ 173 = .ok (.putfield 175, 3) := by decide +kernel
theorem dX12_symbol__176 : decode cX12_symbol_ 176 = .ok (.istore_n 3, 1) := by decide +kernel
theorem dX12_symbol__177 : decode cX12_symbol_ 177 = .ok (.aload_n 0, 1) := by decide +kernel
theorem dX12_symbol__178 : decode cX12_symbol_ 178 = .ok (.getfield 21, 3) := by decide +kernel
theorem dX12_symbol__181 : decode cX12_symbol_ 181 = .ok (.iload_n 3, 1) := by decide +kernel
theorem dX12_symbol__182 : decode cX12_symbol_ 182 = .ok (.aload_n 0, 1) := by decide +kernel
theorem dX12_symbol__183 : decode cX12_symbol_ 183 = .ok (.getfield 172, 3) := by decide +kernel
theorem dX12_symbol__186 : decode cX12_symbol_ 186 = .ok (.iastore, 1) := by decide +kernel
theorem dX12_symbol__187 : decode cX12_symbol_ 187 = .ok (.aload_n 0, 1) := by decide +kernel
theorem dX12_symbol__188 : decode cX12_symbol_ 188 = .ok (.getfield 25, 3) := by decide +kernel
theorem dX12_symbol__191 : decode cX12_symbol_ 191 = .ok (.iload_n 3, 1) := by decide +kernel
theorem dX12_symbol__192 : decode cX12_symbol_ 192 = .ok (.iload_n 1, 1) := by decide +kernel
theorem dX12_symbol__193 : decode cX12_symbol_ 193 = .ok (.iastore, 1) := by decide +kernel
theorem dX12_symbol__194 : decode cX12_symbol_ 194 = .ok (.aload_n 0, 1) := by decide +kernel
theorem dX12_symbol__195 : decode cX12_symbol_ 195 = .ok (.getfield 28, 3) := by decide +kernel
theorem dX12_symbol__198 : decode cX12_symbol_ 198 = .ok (.iload_n 3, 1) := by decide +kernel
theorem dX12_symbol__199 : decode cX12_symbol_ 199 = .ok (.aload_n 0, 1) := by decide +kernel
theorem dX12_symbol__200 : decode cX12_symbol_ 200 = .ok (.getfield 31, 3) := by decide +kernel
theorem dX12_symbol__203 : decode cX12_symbol_ 203 = .ok (.iload_n 2, 1) := by decide +kernel
theorem dX12_symbol__204 : decode cX12_symbol_ 204 = .ok (.iaload, 1) := by decide +kernel
theorem dX12_symbol__205 : decode cX12_symbol_ 205 = .ok (.iastore, 1) := by decide +kernel
theorem dX12_symbol__206 : decode cX12_symbol_ 206 = .ok (.aload_n 0, 1) := by decide +kernel
theorem dX12_symbol__207 : decode cX12_symbol_ 207 = .ok (.getfield 31, 3) := by decide +kernel
theorem dX12_symbol__210 : decode cX12_symbol_ 210 = .ok (.iload_n 2, 1) := by decide +kernel
theorem dX12_symbol__211 : decode cX12_symbol_ 211 = .ok (.iload_n 3, 1) := by decide +kernel
theorem dX12_symbol__212 : decode cX12_symbol_ 212 = .ok (.iastore, 1) := by decide +kernel
theorem dX12_symbol__213 : decode cX12_symbol_ 213 = .ok (.aload_n 0, 1) := by decide +kernel
theorem dX12_symbol__214 : decode cX12_symbol_ 214 = .ok (.dup, 1) := by decide +kernel
theorem dX12_symbol__215 : decode cX12_symbol_ 215 = .ok (.getfield 172, 3) := by decide +kernel
theorem dX12_symbol__218 : decode cX12_symbol_ 218 = .ok (.iload_n 1, 1) := by decide +kernel
theorem dX12_symbol__219 : decode cX12_symbol_ 219 = .ok (.iadd, 1) := by decide +kernel
theorem dX12_symbol__220 : decode cX12_symbol_ 220 = .ok (.putfield 172, 3) := by decide +kernel
theorem dX12_symbol__223 : decode cX12_symbol_ 223 = .ok (.iload_n 3, 1) := by decide +kernel
theorem dX12_symbol__224 : decode cX12_symbol_ 224 = .ok (.ireturn, 1) := by decide +kernel
def mb_245_0 (g : xe_G) : Nat → Option mi_N := mt_node 34 (mt_node 15 (mt_node 6 (mt_node 3 (mt_node 0 (mt_leaf 0 (.inl (o_push (.int 7) 2))) (mt_node 2 (mt_leaf 2 (.inl (o_isto 2 1))) (mt_leaf 3 (.inl (o_push (.int 0) 1))))) (mt_node 4 (mt_leaf 4 (.inl (o_isto 3 1))) (mt_node 5 (mt_leaf 5 (.inl (o_iload 3 1))) (mt_leaf 6 (.inl (o_iload 1 1)))))) (mt_node 12 (mt_node 7 (mt_leaf 7 (.inl (o_if2 (fun x y => decide (y ≤ x)) 28))) (mt_node 10 (mt_leaf 10 (.inl (o_push (.int 31) 2))) (mt_leaf 12 (.inl (o_iload 2 1))))) (mt_node 13 (mt_leaf 13 (.inl (o_bin (fun x y => x * y) 1))) (mt_node 14 (mt_leaf 14 (.inl (o_aload 0 1))) (mt_leaf 15 (.inl (o_get 12 2))))))) (mt_node 25 (mt_node 20 (mt_node 18 (mt_leaf 18 (.inl (o_iload 3 1))) (mt_node 19 (mt_leaf 19 (.inl (o_ald .char))) (mt_leaf 20 (.inl (o_bin (fun x y => x + y) 1))))) (mt_node 21 (mt_leaf 21 (.inl (o_isto 2 1))) (mt_node 22 (mt_leaf 22 (.inl (o_iinc 3 1))) (mt_leaf 25 (.inl (o_goto 5)))))) (mt_node 30 (mt_node 28 (mt_leaf 28 (.inl (o_iload 2 1))) (mt_node 29 (mt_leaf 29 (.inl (o_iload 2 1))) (mt_leaf 30 (.inl (o_push (.int 12) 2))))) (mt_node 32 (mt_leaf 32 (.inl (o_bin (fun x y => (x.toUInt32 >>> (y.toUInt32 &&& Int32.toUInt32 31)).toInt32) 1))) (mt_node 33 (mt_leaf 33 (.inl (o_bin (fun x y => x ^^^ y) 1))) (mt_leaf 34 (.inl (o_push (.int 4095) 3)))))))) (mt_node 54 (mt_node 44 (mt_node 39 (mt_node 37 (mt_leaf 37 (.inl (o_bin (fun x y => x &&& y) 1))) (mt_node 38 (mt_leaf 38 (.inl (o_isto 2 1))) (mt_leaf 39 (.inl (o_aload 0 1))))) (mt_node 40 (mt_leaf 40 (.inl (o_get 12 7))) (mt_node 43 (mt_leaf 43 (.inl (o_iload 2 1))) (mt_leaf 44 (.inl (o_ald .int)))))) (mt_node 47 (mt_node 45 (mt_leaf 45 (.inl (o_isto 3 1))) (mt_node 46 (mt_leaf 46 (.inl (o_iload 3 1))) (mt_leaf 47 (.inl (o_if (fun x => decide (x < 0)) 135))))) (mt_node 50 (mt_leaf 50 (.inl (o_aload 0 1))) (mt_node 51 (mt_leaf 51 (.inl (o_get 12 5))) (mt_leaf 54 (.inl (o_iload 3 1))))))) (mt_node 64 (mt_node 57 (mt_node 55 (mt_leaf 55 (.inl (o_ald .int))) (mt_node 56 (mt_leaf 56 (.inl (o_iload 1 1))) (mt_leaf 57 (.inl (o_if2 (fun x y => decide (¬ x = y)) 64))))) (mt_node 60 (mt_leaf 60 (.inl (o_push (.int 1) 1))) (mt_node 61 (mt_leaf 61 (.inl (o_goto 65))) (mt_leaf 64 (.inl (o_push (.int 0) 1)))))) (mt_node 68 (mt_node 65 (mt_leaf 65 (.inl (o_isto 4 2))) (mt_node 67 (mt_leaf 67 (.inl (o_push (.int 0) 1))) (mt_leaf 68 (.inl (o_isto 5 2))))) (mt_node 70 (mt_leaf 70 (.inl (o_iload 5 2))) (mt_node 72 (mt_leaf 72 (.inl (o_iload 1 1))) (mt_leaf 73 (.inl (o_if2 (fun x y => decide (y ≤ x)) 118))))))))
theorem mb_245_0_ok {g : xe_G} : mt_all (mi_ent g mI (mI 245)) (mb_245_0 g) := mt_node_ok (mt_node_ok (mt_node_ok (mt_node_ok (mt_node_ok (mt_leaf_ok (en_o (sm_bipush dX12_symbol__0 rfl))) (mt_node_ok (mt_leaf_ok (en_s (sm_istore_n dX12_symbol__2 rfl (by decide)))) (mt_leaf_ok (en_o (sm_iconst dX12_symbol__3 rfl))))) (mt_node_ok (mt_leaf_ok (en_s (sm_istore_n dX12_symbol__4 rfl (by decide)))) (mt_node_ok (mt_leaf_ok (en_o (sm_iload_n dX12_symbol__5 rfl))) (mt_leaf_ok (en_o (sm_iload_n dX12_symbol__6 rfl)))))) (mt_node_ok (mt_node_ok (mt_leaf_ok (en_o (sm_icmp_ge dX12_symbol__7 (by decide)))) (mt_node_ok (mt_leaf_ok (en_o (sm_bipush dX12_symbol__10 rfl))) (mt_leaf_ok (en_o (sm_iload_n dX12_symbol__12 rfl))))) (mt_node_ok (mt_leaf_ok (en_o (sm_imul dX12_symbol__13))) (mt_node_ok (mt_leaf_ok (en_o (sm_aload_n dX12_symbol__14 rfl))) (mt_leaf_ok (en_o (sm_get (T := TX12) (by decide) rfl bi_X12 (by decide) bg_923 dX12_symbol__15))))))) (mt_node_ok (mt_node_ok (mt_node_ok (mt_leaf_ok (en_o (sm_iload_n dX12_symbol__18 rfl))) (mt_node_ok (mt_leaf_ok (en_o (sm_cald dX12_symbol__19))) (mt_leaf_ok (en_o (sm_iadd dX12_symbol__20))))) (mt_node_ok (mt_leaf_ok (en_s (sm_istore_n dX12_symbol__21 rfl (by decide)))) (mt_node_ok (mt_leaf_ok (en_s (sm_iinc dX12_symbol__22 rfl (by decide)))) (mt_leaf_ok (en_o (sm_goto dX12_symbol__25 (by decide))))))) (mt_node_ok (mt_node_ok (mt_leaf_ok (en_o (sm_iload_n dX12_symbol__28 rfl))) (mt_node_ok (mt_leaf_ok (en_o (sm_iload_n dX12_symbol__29 rfl))) (mt_leaf_ok (en_o (sm_bipush dX12_symbol__30 rfl))))) (mt_node_ok (mt_leaf_ok (en_o (sm_iushr dX12_symbol__32))) (mt_node_ok (mt_leaf_ok (en_o (sm_ixor dX12_symbol__33))) (mt_leaf_ok (en_o (sm_sipush dX12_symbol__34 rfl)))))))) (mt_node_ok (mt_node_ok (mt_node_ok (mt_node_ok (mt_leaf_ok (en_o (sm_iand dX12_symbol__37))) (mt_node_ok (mt_leaf_ok (en_s (sm_istore_n dX12_symbol__38 rfl (by decide)))) (mt_leaf_ok (en_o (sm_aload_n dX12_symbol__39 rfl))))) (mt_node_ok (mt_leaf_ok (en_o (sm_get (T := TX12) (by decide) rfl bi_X12 (by decide) bg_927 dX12_symbol__40))) (mt_node_ok (mt_leaf_ok (en_o (sm_iload_n dX12_symbol__43 rfl))) (mt_leaf_ok (en_o (sm_iald dX12_symbol__44)))))) (mt_node_ok (mt_node_ok (mt_leaf_ok (en_s (sm_istore_n dX12_symbol__45 rfl (by decide)))) (mt_node_ok (mt_leaf_ok (en_o (sm_iload_n dX12_symbol__46 rfl))) (mt_leaf_ok (en_o (sm_if_lt dX12_symbol__47 (by decide)))))) (mt_node_ok (mt_leaf_ok (en_o (sm_aload_n dX12_symbol__50 rfl))) (mt_node_ok (mt_leaf_ok (en_o (sm_get (T := TX12) (by decide) rfl bi_X12 (by decide) bg_925 dX12_symbol__51))) (mt_leaf_ok (en_o (sm_iload_n dX12_symbol__54 rfl))))))) (mt_node_ok (mt_node_ok (mt_node_ok (mt_leaf_ok (en_o (sm_iald dX12_symbol__55))) (mt_node_ok (mt_leaf_ok (en_o (sm_iload_n dX12_symbol__56 rfl))) (mt_leaf_ok (en_o (sm_icmp_ne dX12_symbol__57 (by decide)))))) (mt_node_ok (mt_leaf_ok (en_o (sm_iconst dX12_symbol__60 rfl))) (mt_node_ok (mt_leaf_ok (en_o (sm_goto dX12_symbol__61 (by decide)))) (mt_leaf_ok (en_o (sm_iconst dX12_symbol__64 rfl)))))) (mt_node_ok (mt_node_ok (mt_leaf_ok (en_s (sm_istore dX12_symbol__65 (by decide)))) (mt_node_ok (mt_leaf_ok (en_o (sm_iconst dX12_symbol__67 rfl))) (mt_leaf_ok (en_s (sm_istore dX12_symbol__68 (by decide)))))) (mt_node_ok (mt_leaf_ok (en_o (sm_iload dX12_symbol__70))) (mt_node_ok (mt_leaf_ok (en_o (sm_iload_n dX12_symbol__72 rfl))) (mt_leaf_ok (en_o (sm_icmp_ge dX12_symbol__73 (by decide)))))))))
def mb_245_1 (g : xe_G) : Nat → Option mi_N := mt_node 120 (mt_node 95 (mt_node 86 (mt_node 81 (mt_node 76 (mt_leaf 76 (.inl (o_iload 4 2))) (mt_node 78 (mt_leaf 78 (.inl (o_if (fun x => decide (x = 0)) 118))) (mt_leaf 81 (.inl (o_aload 0 1))))) (mt_node 82 (mt_leaf 82 (.inl (o_get 12 1))) (mt_node 85 (mt_leaf 85 (.inl (o_aload 0 1))) (mt_leaf 86 (.inl (o_get 12 4)))))) (mt_node 91 (mt_node 89 (mt_leaf 89 (.inl (o_iload 3 1))) (mt_node 90 (mt_leaf 90 (.inl (o_ald .int))) (mt_leaf 91 (.inl (o_iload 5 2))))) (mt_node 93 (mt_leaf 93 (.inl (o_bin (fun x y => x + y) 1))) (mt_node 94 (mt_leaf 94 (.inl (o_ald .char))) (mt_leaf 95 (.inl (o_aload 0 1))))))) (mt_node 106 (mt_node 101 (mt_node 96 (mt_leaf 96 (.inl (o_get 12 2))) (mt_node 99 (mt_leaf 99 (.inl (o_iload 5 2))) (mt_leaf 101 (.inl (o_ald .char))))) (mt_node 102 (mt_leaf 102 (.inl (o_if2 (fun x y => decide (¬ x = y)) 109))) (mt_node 105 (mt_leaf 105 (.inl (o_push (.int 1) 1))) (mt_leaf 106 (.inl (o_goto 110)))))) (mt_node 112 (mt_node 109 (mt_leaf 109 (.inl (o_push (.int 0) 1))) (mt_node 110 (mt_leaf 110 (.inl (o_isto 4 2))) (mt_leaf 112 (.inl (o_iinc 5 1))))) (mt_node 115 (mt_leaf 115 (.inl (o_goto 70))) (mt_node 118 (mt_leaf 118 (.inl (o_iload 4 2))) (mt_leaf 120 (.inl (o_if (fun x => decide (x = 0)) 125)))))))) (mt_node 138 (mt_node 130 (mt_node 125 (mt_node 123 (mt_leaf 123 (.inl (o_iload 3 1))) (mt_node 124 (mt_leaf 124 (.inr (.inr (r_int (fun _ => true))))) (mt_leaf 125 (.inl (o_aload 0 1))))) (mt_node 126 (mt_leaf 126 (.inl (o_get 12 6))) (mt_node 129 (mt_leaf 129 (.inl (o_iload 3 1))) (mt_leaf 130 (.inl (o_ald .int)))))) (mt_node 135 (mt_node 131 (mt_leaf 131 (.inl (o_isto 3 1))) (mt_node 132 (mt_leaf 132 (.inl (o_goto 46))) (mt_leaf 135 (.inl (o_push (.int 0) 1))))) (mt_node 136 (mt_leaf 136 (.inl (o_isto 3 1))) (mt_node 137 (mt_leaf 137 (.inl (o_iload 3 1))) (mt_leaf 138 (.inl (o_iload 1 1))))))) (mt_node 150 (mt_node 143 (mt_node 139 (mt_leaf 139 (.inl (o_if2 (fun x y => decide (y ≤ x)) 165))) (mt_node 142 (mt_leaf 142 (.inl (o_aload 0 1))) (mt_leaf 143 (.inl (o_get 12 1))))) (mt_node 146 (mt_leaf 146 (.inl (o_aload 0 1))) (mt_node 147 (mt_leaf 147 (.inl (o_get 12 3))) (mt_leaf 150 (.inl (o_iload 3 1)))))) (mt_node 153 (mt_node 151 (mt_leaf 151 (.inl (o_bin (fun x y => x + y) 1))) (mt_node 152 (mt_leaf 152 (.inl (o_aload 0 1))) (mt_leaf 153 (.inl (o_get 12 2))))) (mt_node 156 (mt_leaf 156 (.inl (o_iload 3 1))) (mt_node 157 (mt_leaf 157 (.inl (o_ald .char))) (mt_leaf 158 (.inl (o_ast .char (vp_nar .char)))))))))
theorem mb_245_1_ok {g : xe_G} : mt_all (mi_ent g mI (mI 245)) (mb_245_1 g) := mt_node_ok (mt_node_ok (mt_node_ok (mt_node_ok (mt_node_ok (mt_leaf_ok (en_o (sm_iload dX12_symbol__76))) (mt_node_ok (mt_leaf_ok (en_o (sm_if_eq dX12_symbol__78 (by decide)))) (mt_leaf_ok (en_o (sm_aload_n dX12_symbol__81 rfl))))) (mt_node_ok (mt_leaf_ok (en_o (sm_get (T := TX12) (by decide) rfl bi_X12 (by decide) bg_922 dX12_symbol__82))) (mt_node_ok (mt_leaf_ok (en_o (sm_aload_n dX12_symbol__85 rfl))) (mt_leaf_ok (en_o (sm_get (T := TX12) (by decide) rfl bi_X12 (by decide) bg_924 dX12_symbol__86)))))) (mt_node_ok (mt_node_ok (mt_leaf_ok (en_o (sm_iload_n dX12_symbol__89 rfl))) (mt_node_ok (mt_leaf_ok (en_o (sm_iald dX12_symbol__90))) (mt_leaf_ok (en_o (sm_iload dX12_symbol__91))))) (mt_node_ok (mt_leaf_ok (en_o (sm_iadd dX12_symbol__93))) (mt_node_ok (mt_leaf_ok (en_o (sm_cald dX12_symbol__94))) (mt_leaf_ok (en_o (sm_aload_n dX12_symbol__95 rfl))))))) (mt_node_ok (mt_node_ok (mt_node_ok (mt_leaf_ok (en_o (sm_get (T := TX12) (by decide) rfl bi_X12 (by decide) bg_923 dX12_symbol__96))) (mt_node_ok (mt_leaf_ok (en_o (sm_iload dX12_symbol__99))) (mt_leaf_ok (en_o (sm_cald dX12_symbol__101))))) (mt_node_ok (mt_leaf_ok (en_o (sm_icmp_ne dX12_symbol__102 (by decide)))) (mt_node_ok (mt_leaf_ok (en_o (sm_iconst dX12_symbol__105 rfl))) (mt_leaf_ok (en_o (sm_goto dX12_symbol__106 (by decide))))))) (mt_node_ok (mt_node_ok (mt_leaf_ok (en_o (sm_iconst dX12_symbol__109 rfl))) (mt_node_ok (mt_leaf_ok (en_s (sm_istore dX12_symbol__110 (by decide)))) (mt_leaf_ok (en_s (sm_iinc dX12_symbol__112 rfl (by decide)))))) (mt_node_ok (mt_leaf_ok (en_o (sm_goto dX12_symbol__115 (by decide)))) (mt_node_ok (mt_leaf_ok (en_o (sm_iload dX12_symbol__118))) (mt_leaf_ok (en_o (sm_if_eq dX12_symbol__120 (by decide))))))))) (mt_node_ok (mt_node_ok (mt_node_ok (mt_node_ok (mt_leaf_ok (en_o (sm_iload_n dX12_symbol__123 rfl))) (mt_node_ok (mt_leaf_ok (sr_int dX12_symbol__124)) (mt_leaf_ok (en_o (sm_aload_n dX12_symbol__125 rfl))))) (mt_node_ok (mt_leaf_ok (en_o (sm_get (T := TX12) (by decide) rfl bi_X12 (by decide) bg_926 dX12_symbol__126))) (mt_node_ok (mt_leaf_ok (en_o (sm_iload_n dX12_symbol__129 rfl))) (mt_leaf_ok (en_o (sm_iald dX12_symbol__130)))))) (mt_node_ok (mt_node_ok (mt_leaf_ok (en_s (sm_istore_n dX12_symbol__131 rfl (by decide)))) (mt_node_ok (mt_leaf_ok (en_o (sm_goto dX12_symbol__132 (by decide)))) (mt_leaf_ok (en_o (sm_iconst dX12_symbol__135 rfl))))) (mt_node_ok (mt_leaf_ok (en_s (sm_istore_n dX12_symbol__136 rfl (by decide)))) (mt_node_ok (mt_leaf_ok (en_o (sm_iload_n dX12_symbol__137 rfl))) (mt_leaf_ok (en_o (sm_iload_n dX12_symbol__138 rfl))))))) (mt_node_ok (mt_node_ok (mt_node_ok (mt_leaf_ok (en_o (sm_icmp_ge dX12_symbol__139 (by decide)))) (mt_node_ok (mt_leaf_ok (en_o (sm_aload_n dX12_symbol__142 rfl))) (mt_leaf_ok (en_o (sm_get (T := TX12) (by decide) rfl bi_X12 (by decide) bg_922 dX12_symbol__143))))) (mt_node_ok (mt_leaf_ok (en_o (sm_aload_n dX12_symbol__146 rfl))) (mt_node_ok (mt_leaf_ok (en_o (sm_get (T := TX12) (by decide) rfl bi_X12 (by decide) bg_973 dX12_symbol__147))) (mt_leaf_ok (en_o (sm_iload_n dX12_symbol__150 rfl)))))) (mt_node_ok (mt_node_ok (mt_leaf_ok (en_o (sm_iadd dX12_symbol__151))) (mt_node_ok (mt_leaf_ok (en_o (sm_aload_n dX12_symbol__152 rfl))) (mt_leaf_ok (en_o (sm_get (T := TX12) (by decide) rfl bi_X12 (by decide) bg_923 dX12_symbol__153))))) (mt_node_ok (mt_leaf_ok (en_o (sm_iload_n dX12_symbol__156 rfl))) (mt_node_ok (mt_leaf_ok (en_o (sm_cald dX12_symbol__157))) (mt_leaf_ok (en_s (sm_cast dX12_symbol__158))))))))
def mb_245_2 (g : xe_G) : Nat → Option mi_N := mt_node 193 (mt_node 176 (mt_node 167 (mt_node 162 (mt_node 159 (mt_leaf 159 (.inl (o_iinc 3 1))) (mt_leaf 162 (.inl (o_goto 137)))) (mt_node 165 (mt_leaf 165 (.inl (o_aload 0 1))) (mt_node 166 (mt_leaf 166 (.inl (o_dup))) (mt_leaf 167 (.inl (o_get 12 8)))))) (mt_node 171 (mt_node 170 (mt_leaf 170 (.inl (o_dup_x1))) (mt_leaf 171 (.inl (o_push (.int 1) 1)))) (mt_node 172 (mt_leaf 172 (.inl (o_bin (fun x y => x + y) 1))) (mt_node 173 (mt_leaf 173 (.inl (o_put 12 8 (tyX12 8)))) (mt_leaf 176 (.inl (o_isto 3 1))))))) (mt_node 183 (mt_node 178 (mt_node 177 (mt_leaf 177 (.inl (o_aload 0 1))) (mt_leaf 178 (.inl (o_get 12 4)))) (mt_node 181 (mt_leaf 181 (.inl (o_iload 3 1))) (mt_node 182 (mt_leaf 182 (.inl (o_aload 0 1))) (mt_leaf 183 (.inl (o_get 12 3)))))) (mt_node 188 (mt_node 186 (mt_leaf 186 (.inl (o_ast .int (fun x => x)))) (mt_node 187 (mt_leaf 187 (.inl (o_aload 0 1))) (mt_leaf 188 (.inl (o_get 12 5))))) (mt_node 191 (mt_leaf 191 (.inl (o_iload 3 1))) (mt_node 192 (mt_leaf 192 (.inl (o_iload 1 1))) (mt_leaf 193 (.inl (o_ast .int (fun x => x))))))))) (mt_node 207 (mt_node 200 (mt_node 195 (mt_node 194 (mt_leaf 194 (.inl (o_aload 0 1))) (mt_leaf 195 (.inl (o_get 12 6)))) (mt_node 198 (mt_leaf 198 (.inl (o_iload 3 1))) (mt_node 199 (mt_leaf 199 (.inl (o_aload 0 1))) (mt_leaf 200 (.inl (o_get 12 7)))))) (mt_node 204 (mt_node 203 (mt_leaf 203 (.inl (o_iload 2 1))) (mt_leaf 204 (.inl (o_ald .int)))) (mt_node 205 (mt_leaf 205 (.inl (o_ast .int (fun x => x)))) (mt_node 206 (mt_leaf 206 (.inl (o_aload 0 1))) (mt_leaf 207 (.inl (o_get 12 7))))))) (mt_node 214 (mt_node 211 (mt_node 210 (mt_leaf 210 (.inl (o_iload 2 1))) (mt_leaf 211 (.inl (o_iload 3 1)))) (mt_node 212 (mt_leaf 212 (.inl (o_ast .int (fun x => x)))) (mt_node 213 (mt_leaf 213 (.inl (o_aload 0 1))) (mt_leaf 214 (.inl (o_dup)))))) (mt_node 219 (mt_node 215 (mt_leaf 215 (.inl (o_get 12 3))) (mt_node 218 (mt_leaf 218 (.inl (o_iload 1 1))) (mt_leaf 219 (.inl (o_bin (fun x y => x + y) 1))))) (mt_node 220 (mt_leaf 220 (.inl (o_put 12 3 (tyX12 3)))) (mt_node 223 (mt_leaf 223 (.inl (o_iload 3 1))) (mt_leaf 224 (.inr (.inr (r_int (fun _ => true))))))))))
theorem mb_245_2_ok {g : xe_G} : mt_all (mi_ent g mI (mI 245)) (mb_245_2 g) := mt_node_ok (mt_node_ok (mt_node_ok (mt_node_ok (mt_node_ok (mt_leaf_ok (en_s (sm_iinc dX12_symbol__159 rfl (by decide)))) (mt_leaf_ok (en_o (sm_goto dX12_symbol__162 (by decide))))) (mt_node_ok (mt_leaf_ok (en_o (sm_aload_n dX12_symbol__165 rfl))) (mt_node_ok (mt_leaf_ok (en_o (sm_dup dX12_symbol__166))) (mt_leaf_ok (en_o (sm_get (T := TX12) (by decide) rfl bi_X12 (by decide) bg_974 dX12_symbol__167)))))) (mt_node_ok (mt_node_ok (mt_leaf_ok (en_o (sm_dup_x1 dX12_symbol__170))) (mt_leaf_ok (en_o (sm_iconst dX12_symbol__171 rfl)))) (mt_node_ok (mt_leaf_ok (en_o (sm_iadd dX12_symbol__172))) (mt_node_ok (mt_leaf_ok (en_s (sm_put (T := TX12) (by decide) rfl bi_X12 tyX12_ok nmX12 (by decide) rfl (tyX12_ok 8 (by decide)) bg_974 dX12_symbol__173))) (mt_leaf_ok (en_s (sm_istore_n dX12_symbol__176 rfl (by decide)))))))) (mt_node_ok (mt_node_ok (mt_node_ok (mt_leaf_ok (en_o (sm_aload_n dX12_symbol__177 rfl))) (mt_leaf_ok (en_o (sm_get (T := TX12) (by decide) rfl bi_X12 (by decide) bg_924 dX12_symbol__178)))) (mt_node_ok (mt_leaf_ok (en_o (sm_iload_n dX12_symbol__181 rfl))) (mt_node_ok (mt_leaf_ok (en_o (sm_aload_n dX12_symbol__182 rfl))) (mt_leaf_ok (en_o (sm_get (T := TX12) (by decide) rfl bi_X12 (by decide) bg_973 dX12_symbol__183)))))) (mt_node_ok (mt_node_ok (mt_leaf_ok (en_s (sm_iast dX12_symbol__186))) (mt_node_ok (mt_leaf_ok (en_o (sm_aload_n dX12_symbol__187 rfl))) (mt_leaf_ok (en_o (sm_get (T := TX12) (by decide) rfl bi_X12 (by decide) bg_925 dX12_symbol__188))))) (mt_node_ok (mt_leaf_ok (en_o (sm_iload_n dX12_symbol__191 rfl))) (mt_node_ok (mt_leaf_ok (en_o (sm_iload_n dX12_symbol__192 rfl))) (mt_leaf_ok (en_s (sm_iast dX12_symbol__193)))))))) (mt_node_ok (mt_node_ok (mt_node_ok (mt_node_ok (mt_leaf_ok (en_o (sm_aload_n dX12_symbol__194 rfl))) (mt_leaf_ok (en_o (sm_get (T := TX12) (by decide) rfl bi_X12 (by decide) bg_926 dX12_symbol__195)))) (mt_node_ok (mt_leaf_ok (en_o (sm_iload_n dX12_symbol__198 rfl))) (mt_node_ok (mt_leaf_ok (en_o (sm_aload_n dX12_symbol__199 rfl))) (mt_leaf_ok (en_o (sm_get (T := TX12) (by decide) rfl bi_X12 (by decide) bg_927 dX12_symbol__200)))))) (mt_node_ok (mt_node_ok (mt_leaf_ok (en_o (sm_iload_n dX12_symbol__203 rfl))) (mt_leaf_ok (en_o (sm_iald dX12_symbol__204)))) (mt_node_ok (mt_leaf_ok (en_s (sm_iast dX12_symbol__205))) (mt_node_ok (mt_leaf_ok (en_o (sm_aload_n dX12_symbol__206 rfl))) (mt_leaf_ok (en_o (sm_get (T := TX12) (by decide) rfl bi_X12 (by decide) bg_927 dX12_symbol__207))))))) (mt_node_ok (mt_node_ok (mt_node_ok (mt_leaf_ok (en_o (sm_iload_n dX12_symbol__210 rfl))) (mt_leaf_ok (en_o (sm_iload_n dX12_symbol__211 rfl)))) (mt_node_ok (mt_leaf_ok (en_s (sm_iast dX12_symbol__212))) (mt_node_ok (mt_leaf_ok (en_o (sm_aload_n dX12_symbol__213 rfl))) (mt_leaf_ok (en_o (sm_dup dX12_symbol__214)))))) (mt_node_ok (mt_node_ok (mt_leaf_ok (en_o (sm_get (T := TX12) (by decide) rfl bi_X12 (by decide) bg_973 dX12_symbol__215))) (mt_node_ok (mt_leaf_ok (en_o (sm_iload_n dX12_symbol__218 rfl))) (mt_leaf_ok (en_o (sm_iadd dX12_symbol__219))))) (mt_node_ok (mt_leaf_ok (en_s (sm_put (T := TX12) (by decide) rfl bi_X12 tyX12_ok nmX12 (by decide) rfl (tyX12_ok 3 (by decide)) bg_973 dX12_symbol__220))) (mt_node_ok (mt_leaf_ok (en_o (sm_iload_n dX12_symbol__223 rfl))) (mt_leaf_ok (sr_int dX12_symbol__224)))))))
def mb_245 (g : xe_G) : Nat × mi_B := (6, mt_node 73 (mb_245_0 g) (mt_node 158 (mb_245_1 g) (mb_245_2 g)), mk_node 65 (mk_node 5 (mk_leaf 5 [0, 1, 2, 3]) (mk_node 46 (mk_leaf 46 [0, 1, 2, 3]) (mk_leaf 65 [0, 1, 2, 3]))) (mk_node 110 (mk_node 70 (mk_leaf 70 [0, 1, 2, 3, 4, 5]) (mk_leaf 110 [0, 1, 2, 3, 5])) (mk_node 118 (mk_leaf 118 [0, 1, 2, 3, 4]) (mk_leaf 137 [0, 1, 2, 3]))))
theorem mb_245_ok {g : xe_G} : mi_meth g mI (mI 245) (mb_245 g) := ⟨rfl, by decide, mt_node_ok (mb_245_0_ok) (mt_node_ok (mb_245_1_ok) (mb_245_2_ok))⟩
theorem dX12_symbol_0 : decode cX12_symbol 0 = .ok (.iconst 0, 1) := by decide +kernel
theorem dX12_symbol_1 : decode cX12_symbol 1 = .ok (.istore_n 2, 1) := by decide +kernel
theorem dX12_symbol_2 : decode cX12_symbol 2 = .ok (.iload_n 2, 1) := by decide +kernel
theorem dX12_symbol_3 : decode cX12_symbol 3 = .ok (.aload_n 1, 1) := by decide +kernel
theorem dX12_symbol_4 : decode cX12_symbol 4 = .ok (.invokevirtual 204, 3) := by decide +kernel
theorem dX12_symbol_7 : decode cX12_symbol 7 = .ok (.if_icmp .ge 20, 3) := by decide +kernel
theorem dX12_symbol_10 : decode cX12_symbol 10 = .ok (.aload_n 0, 1) := by decide +kernel
theorem dX12_symbol_11 : decode cX12_symbol 11 = .ok (.getfield 18, 3) := by decide +kernel
theorem dX12_symbol_14 : decode cX12_symbol 14 = .ok (.iload_n 2, 1) := by decide +kernel
theorem dX12_symbol_15 : decode cX12_symbol 15 = .ok (.aload_n 1, 1) := by decide +kernel
theorem dX12_symbol_16 : decode cX12_symbol 16 = .ok (.iload_n 2, 1) := by decide +kernel
theorem dX12_symbol_17 : decode cX12_symbol 17 = .ok (.invokevirtual 208, 3) := by decide +kernel
theorem dX12_symbol_20 : decode cX12_symbol 20 = .ok (.castore, 1) := by decide +kernel
theorem dX12_symbol_21 : decode cX12_symbol 21 = .ok (.iinc 2 1, 3) := by decide +kernel
theorem dX12_symbol_24 : decode cX12_symbol 24 = .ok (.goto (-22), 3) := by decide +kernel
theorem dX12_symbol_27 : decode cX12_symbol 27 = .ok (.aload_n 0, 1) := by decide +kernel
theorem dX12_symbol_28 : decode cX12_symbol 28 = .ok (.aload_n 1, 1) := by decide +kernel
theorem dX12_symbol_29 : decode cX12_symbol 29 = .ok (.invokevirtual 204, 3) := by decide +kernel
theorem dX12_symbol_32 : decode cX12_symbol 32 = .ok (.invokevirtual 212, 3) := by decide +kernel
theorem dX12_symbol_35 : decode cX12_symbol 35 = .ok (.ireturn, 1) := by decide +kernel
def mb_246_0 (g : xe_G) : Nat → Option mi_N := mt_node 15 (mt_node 4 (mt_node 1 (mt_node 0 (mt_leaf 0 (.inl (o_push (.int 0) 1))) (mt_leaf 1 (.inl (o_isto 2 1)))) (mt_node 2 (mt_leaf 2 (.inl (o_iload 2 1))) (mt_node 3 (mt_leaf 3 (.inl (o_aload 1 1))) (mt_leaf 4 (.inl (o_slength)))))) (mt_node 10 (mt_node 7 (mt_leaf 7 (.inl (o_if2 (fun x y => decide (y ≤ x)) 27))) (mt_leaf 10 (.inl (o_aload 0 1)))) (mt_node 11 (mt_leaf 11 (.inl (o_get 12 2))) (mt_node 14 (mt_leaf 14 (.inl (o_iload 2 1))) (mt_leaf 15 (.inl (o_aload 1 1))))))) (mt_node 24 (mt_node 17 (mt_node 16 (mt_leaf 16 (.inl (o_iload 2 1))) (mt_leaf 17 (.inl (o_scharAt)))) (mt_node 20 (mt_leaf 20 (.inl (o_ast .char (vp_nar .char)))) (mt_node 21 (mt_leaf 21 (.inl (o_iinc 2 1))) (mt_leaf 24 (.inl (o_goto 2)))))) (mt_node 28 (mt_node 27 (mt_leaf 27 (.inl (o_aload 0 1))) (mt_leaf 28 (.inl (o_aload 1 1)))) (mt_node 29 (mt_leaf 29 (.inl (o_slength))) (mt_node 32 (mt_leaf 32 (.inr (.inl (245, 2, some 12)))) (mt_leaf 35 (.inr (.inr (r_int (fun _ => true)))))))))
theorem mb_246_0_ok {g : xe_G} : mt_all (mi_ent g mI (mI 246)) (mb_246_0 g) := mt_node_ok (mt_node_ok (mt_node_ok (mt_node_ok (mt_leaf_ok (en_o (sm_iconst dX12_symbol_0 rfl))) (mt_leaf_ok (en_s (sm_istore_n dX12_symbol_1 rfl (by decide))))) (mt_node_ok (mt_leaf_ok (en_o (sm_iload_n dX12_symbol_2 rfl))) (mt_node_ok (mt_leaf_ok (en_o (sm_aload_n dX12_symbol_3 rfl))) (mt_leaf_ok (en_o (sm_slength bg_985 bg_554 bg_555 bg_556 bg_553 dX12_symbol_4)))))) (mt_node_ok (mt_node_ok (mt_leaf_ok (en_o (sm_icmp_ge dX12_symbol_7 (by decide)))) (mt_leaf_ok (en_o (sm_aload_n dX12_symbol_10 rfl)))) (mt_node_ok (mt_leaf_ok (en_o (sm_get (T := TX12) (by decide) rfl bi_X12 (by decide) bg_923 dX12_symbol_11))) (mt_node_ok (mt_leaf_ok (en_o (sm_iload_n dX12_symbol_14 rfl))) (mt_leaf_ok (en_o (sm_aload_n dX12_symbol_15 rfl))))))) (mt_node_ok (mt_node_ok (mt_node_ok (mt_leaf_ok (en_o (sm_iload_n dX12_symbol_16 rfl))) (mt_leaf_ok (en_o (sm_scharAt bg_986 bg_559 bg_560 bg_556 bg_558 dX12_symbol_17)))) (mt_node_ok (mt_leaf_ok (en_s (sm_cast dX12_symbol_20))) (mt_node_ok (mt_leaf_ok (en_s (sm_iinc dX12_symbol_21 rfl (by decide)))) (mt_leaf_ok (en_o (sm_goto dX12_symbol_24 (by decide))))))) (mt_node_ok (mt_node_ok (mt_leaf_ok (en_o (sm_aload_n dX12_symbol_27 rfl))) (mt_leaf_ok (en_o (sm_aload_n dX12_symbol_28 rfl)))) (mt_node_ok (mt_leaf_ok (en_o (sm_slength bg_985 bg_554 bg_555 bg_556 bg_553 dX12_symbol_29))) (mt_node_ok (mt_leaf_ok ((⟨by decide, bg_972, bg_988, 212, 1, ⟨by decide, by decide, by decide +kernel⟩, bg_987, Or.inr ⟨rfl, bg_989, 12, _, rfl, by decide, rfl, Or.inl ⟨dX12_symbol_32, bg_990⟩⟩⟩ : mi_cal _ _ _ (mI 245) _ _))) (mt_leaf_ok (sr_int dX12_symbol_35))))))
def mb_246 (g : xe_G) : Nat × mi_B := (3, mb_246_0 g, mk_leaf 2 [0, 1, 2])
theorem mb_246_ok {g : xe_G} : mi_meth g mI (mI 246) (mb_246 g) := ⟨rfl, by decide, mb_246_0_ok⟩
theorem dX12_tag_0 : decode cX12_tag 0 = .ok (.iload_n 1, 1) := by decide +kernel
theorem dX12_tag_1 : decode cX12_tag 1 = .ok (.ifCond .le 25, 3) := by decide +kernel
theorem dX12_tag_4 : decode cX12_tag 4 = .ok (.iload_n 1, 1) := by decide +kernel
theorem dX12_tag_5 : decode cX12_tag 5 = .ok (.aload_n 0, 1) := by decide +kernel
theorem dX12_tag_6 : decode cX12_tag 6 = .ok (.getfield 246, 3) := by decide +kernel
theorem dX12_tag_9 : decode cX12_tag 9 = .ok (.if_icmp .ge 17, 3) := by decide +kernel
theorem dX12_tag_12 : decode cX12_tag 12 = .ok (.aload_n 0, 1) := by decide +kernel
theorem dX12_tag_13 : decode cX12_tag 13 = .ok (.getfield 53, 3) := by decide +kernel
theorem dX12_tag_16 : decode cX12_tag 16 = .ok (.aload_n 0, 1) := by decide +kernel
theorem dX12_tag_17 : decode cX12_tag 17 = .ok (.getfield 249, 3) := by decide +kernel
theorem dX12_tag_20 : decode cX12_tag 20 = .ok (.iload_n 1, 1) := by decide +kernel
theorem dX12_tag_21 : decode cX12_tag 21 = .ok (.iadd, 1) := by decide +kernel
theorem dX12_tag_22 : decode cX12_tag 22 = .ok (.iaload, 1) := by decide +kernel
theorem dX12_tag_23 : decode cX12_tag 23 = .ok (.ifCond .ge 7, 3) := by decide +kernel
theorem dX12_tag_26 : decode cX12_tag 26 = .ok (.iconst 0, 1) := by decide +kernel
theorem dX12_tag_27 : decode cX12_tag 27 = .ok (.goto 18, 3) := by decide +kernel
theorem dX12_tag_30 : decode cX12_tag 30 = .ok (.aload_n 0, 1) := by decide +kernel
theorem dX12_tag_31 : decode cX12_tag 31 = .ok (.aload_n 0, 1) := by decide +kernel
theorem dX12_tag_32 : decode cX12_tag 32 = .ok (.getfield 53, 3) := by decide +kernel
theorem dX12_tag_35 : decode cX12_tag 35 = .ok (.aload_n 0, 1) := by decide +kernel
theorem dX12_tag_36 : decode cX12_tag 36 = .ok (.getfield 249, 3) := by decide +kernel
theorem dX12_tag_39 : decode cX12_tag 39 = .ok (.iload_n 1, 1) := by decide +kernel
theorem dX12_tag_40 : decode cX12_tag 40 = .ok (.iadd, 1) := by decide +kernel
theorem dX12_tag_41 : decode cX12_tag 41 = .ok (.iaload, 1) := by decide +kernel
theorem dX12_tag_42 : decode cX12_tag 42 = .ok (.invokevirtual 224, 3) := by decide +kernel
theorem dX12_tag_45 : decode cX12_tag 45 = .ok (.ireturn, 1) := by decide +kernel
def mb_247_0 (g : xe_G) : Nat → Option mi_N := mt_node 22 (mt_node 9 (mt_node 4 (mt_node 0 (mt_leaf 0 (.inl (o_iload 1 1))) (mt_node 1 (mt_leaf 1 (.inl (o_if (fun x => decide (x ≤ 0)) 26))) (mt_leaf 4 (.inl (o_iload 1 1))))) (mt_node 5 (mt_leaf 5 (.inl (o_aload 0 1))) (mt_node 6 (mt_leaf 6 (.inl (o_get 12 52))) (mt_leaf 9 (.inl (o_if2 (fun x y => decide (y ≤ x)) 26)))))) (mt_node 16 (mt_node 12 (mt_leaf 12 (.inl (o_aload 0 1))) (mt_node 13 (mt_leaf 13 (.inl (o_get 12 21))) (mt_leaf 16 (.inl (o_aload 0 1))))) (mt_node 20 (mt_node 17 (mt_leaf 17 (.inl (o_get 12 51))) (mt_leaf 20 (.inl (o_iload 1 1)))) (mt_node 21 (mt_leaf 21 (.inl (o_bin (fun x y => x + y) 1))) (mt_leaf 22 (.inl (o_ald .int))))))) (mt_node 32 (mt_node 27 (mt_node 23 (mt_leaf 23 (.inl (o_if (fun x => decide (0 ≤ x)) 30))) (mt_node 26 (mt_leaf 26 (.inl (o_push (.int 0) 1))) (mt_leaf 27 (.inl (o_goto 45))))) (mt_node 30 (mt_leaf 30 (.inl (o_aload 0 1))) (mt_node 31 (mt_leaf 31 (.inl (o_aload 0 1))) (mt_leaf 32 (.inl (o_get 12 21)))))) (mt_node 39 (mt_node 35 (mt_leaf 35 (.inl (o_aload 0 1))) (mt_node 36 (mt_leaf 36 (.inl (o_get 12 51))) (mt_leaf 39 (.inl (o_iload 1 1))))) (mt_node 41 (mt_node 40 (mt_leaf 40 (.inl (o_bin (fun x y => x + y) 1))) (mt_leaf 41 (.inl (o_ald .int)))) (mt_node 42 (mt_leaf 42 (.inr (.inl (248, 2, some 12)))) (mt_leaf 45 (.inr (.inr (r_int (fun _ => true)))))))))
theorem mb_247_0_ok {g : xe_G} : mt_all (mi_ent g mI (mI 247)) (mb_247_0 g) := mt_node_ok (mt_node_ok (mt_node_ok (mt_node_ok (mt_leaf_ok (en_o (sm_iload_n dX12_tag_0 rfl))) (mt_node_ok (mt_leaf_ok (en_o (sm_if_le dX12_tag_1 (by decide)))) (mt_leaf_ok (en_o (sm_iload_n dX12_tag_4 rfl))))) (mt_node_ok (mt_leaf_ok (en_o (sm_aload_n dX12_tag_5 rfl))) (mt_node_ok (mt_leaf_ok (en_o (sm_get (T := TX12) (by decide) rfl bi_X12 (by decide) bg_1020 dX12_tag_6))) (mt_leaf_ok (en_o (sm_icmp_ge dX12_tag_9 (by decide))))))) (mt_node_ok (mt_node_ok (mt_leaf_ok (en_o (sm_aload_n dX12_tag_12 rfl))) (mt_node_ok (mt_leaf_ok (en_o (sm_get (T := TX12) (by decide) rfl bi_X12 (by decide) bg_936 dX12_tag_13))) (mt_leaf_ok (en_o (sm_aload_n dX12_tag_16 rfl))))) (mt_node_ok (mt_node_ok (mt_leaf_ok (en_o (sm_get (T := TX12) (by decide) rfl bi_X12 (by decide) bg_1021 dX12_tag_17))) (mt_leaf_ok (en_o (sm_iload_n dX12_tag_20 rfl)))) (mt_node_ok (mt_leaf_ok (en_o (sm_iadd dX12_tag_21))) (mt_leaf_ok (en_o (sm_iald dX12_tag_22))))))) (mt_node_ok (mt_node_ok (mt_node_ok (mt_leaf_ok (en_o (sm_if_ge dX12_tag_23 (by decide)))) (mt_node_ok (mt_leaf_ok (en_o (sm_iconst dX12_tag_26 rfl))) (mt_leaf_ok (en_o (sm_goto dX12_tag_27 (by decide)))))) (mt_node_ok (mt_leaf_ok (en_o (sm_aload_n dX12_tag_30 rfl))) (mt_node_ok (mt_leaf_ok (en_o (sm_aload_n dX12_tag_31 rfl))) (mt_leaf_ok (en_o (sm_get (T := TX12) (by decide) rfl bi_X12 (by decide) bg_936 dX12_tag_32)))))) (mt_node_ok (mt_node_ok (mt_leaf_ok (en_o (sm_aload_n dX12_tag_35 rfl))) (mt_node_ok (mt_leaf_ok (en_o (sm_get (T := TX12) (by decide) rfl bi_X12 (by decide) bg_1021 dX12_tag_36))) (mt_leaf_ok (en_o (sm_iload_n dX12_tag_39 rfl))))) (mt_node_ok (mt_node_ok (mt_leaf_ok (en_o (sm_iadd dX12_tag_40))) (mt_leaf_ok (en_o (sm_iald dX12_tag_41)))) (mt_node_ok (mt_leaf_ok ((⟨by decide, bg_972, bg_1000, 224, 1, ⟨by decide, by decide, by decide +kernel⟩, bg_1003, Or.inr ⟨rfl, bg_1004, 12, _, rfl, by decide, rfl, Or.inl ⟨dX12_tag_42, bg_1005⟩⟩⟩ : mi_cal _ _ _ (mI 248) _ _))) (mt_leaf_ok (sr_int dX12_tag_45))))))
def mb_247 (g : xe_G) : Nat × mi_B := (2, mb_247_0 g, mk_node 26 (mk_leaf 26 []) (mk_leaf 45 []))
theorem mb_247_ok {g : xe_G} : mi_meth g mI (mI 247) (mb_247 g) := ⟨rfl, by decide, mb_247_0_ok⟩
theorem dX12_u1_0 : decode cX12_u1 0 = .ok (.aload_n 0, 1) := by decide +kernel
theorem dX12_u1_1 : decode cX12_u1 1 = .ok (.getfield 35, 3) := by decide +kernel
theorem dX12_u1_4 : decode cX12_u1 4 = .ok (.aload_n 0, 1) := by decide +kernel
theorem dX12_u1_5 : decode cX12_u1 5 = .ok (.getfield 221, 3) := by decide +kernel
theorem dX12_u1_8 : decode cX12_u1 8 = .ok (.iload_n 1, 1) := by decide +kernel
theorem dX12_u1_9 : decode cX12_u1 9 = .ok (.iadd, 1) := by decide +kernel
theorem dX12_u1_10 : decode cX12_u1 10 = .ok (.baload, 1) := by decide +kernel
theorem dX12_u1_11 : decode cX12_u1 11 = .ok (.sipush 255, 3) := by decide +kernel
theorem dX12_u1_14 : decode cX12_u1 14 = .ok (.iand, 1) := by decide +kernel
theorem dX12_u1_15 : decode cX12_u1 15 = .ok (.ireturn, 1) := by decide +kernel
def mb_248_0 (g : xe_G) : Nat → Option mi_N := mt_node 8 (mt_node 1 (mt_node 0 (mt_leaf 0 (.inl (o_aload 0 1))) (mt_leaf 1 (.inl (o_get 12 12)))) (mt_node 4 (mt_leaf 4 (.inl (o_aload 0 1))) (mt_node 5 (mt_leaf 5 (.inl (o_get 12 49))) (mt_leaf 8 (.inl (o_iload 1 1)))))) (mt_node 10 (mt_node 9 (mt_leaf 9 (.inl (o_bin (fun x y => x + y) 1))) (mt_leaf 10 (.inl (o_ald .byte)))) (mt_node 11 (mt_leaf 11 (.inl (o_push (.int 255) 3))) (mt_node 14 (mt_leaf 14 (.inl (o_bin (fun x y => x &&& y) 1))) (mt_leaf 15 (.inr (.inr (r_int (fun _ => true))))))))
theorem mb_248_0_ok {g : xe_G} : mt_all (mi_ent g mI (mI 248)) (mb_248_0 g) := mt_node_ok (mt_node_ok (mt_node_ok (mt_leaf_ok (en_o (sm_aload_n dX12_u1_0 rfl))) (mt_leaf_ok (en_o (sm_get (T := TX12) (by decide) rfl bi_X12 (by decide) bg_929 dX12_u1_1)))) (mt_node_ok (mt_leaf_ok (en_o (sm_aload_n dX12_u1_4 rfl))) (mt_node_ok (mt_leaf_ok (en_o (sm_get (T := TX12) (by decide) rfl bi_X12 (by decide) bg_1001 dX12_u1_5))) (mt_leaf_ok (en_o (sm_iload_n dX12_u1_8 rfl)))))) (mt_node_ok (mt_node_ok (mt_leaf_ok (en_o (sm_iadd dX12_u1_9))) (mt_leaf_ok (en_o (sm_bald dX12_u1_10)))) (mt_node_ok (mt_leaf_ok (en_o (sm_sipush dX12_u1_11 rfl))) (mt_node_ok (mt_leaf_ok (en_o (sm_iand dX12_u1_14))) (mt_leaf_ok (sr_int dX12_u1_15)))))
def mb_248 (g : xe_G) : Nat × mi_B := (2, mb_248_0 g, fun _ => none)
theorem mb_248_ok {g : xe_G} : mi_meth g mI (mI 248) (mb_248 g) := ⟨rfl, by decide, mb_248_0_ok⟩
theorem dX12_u2_0 : decode cX12_u2 0 = .ok (.aload_n 0, 1) := by decide +kernel
theorem dX12_u2_1 : decode cX12_u2 1 = .ok (.iload_n 1, 1) := by decide +kernel
theorem dX12_u2_2 : decode cX12_u2 2 = .ok (.invokevirtual 224, 3) := by decide +kernel
theorem dX12_u2_5 : decode cX12_u2 5 = .ok (.bipush 8, 2) := by decide +kernel
theorem dX12_u2_7 : decode cX12_u2 7 = .ok (.ishl, 1) := by decide +kernel
theorem dX12_u2_8 : decode cX12_u2 8 = .ok (.aload_n 0, 1) := by decide +kernel
theorem dX12_u2_9 : decode cX12_u2 9 = .ok (.iload_n 1, 1) := by decide +kernel
theorem dX12_u2_10 : decode cX12_u2 10 = .ok (.iconst 1, 1) := by decide +kernel
theorem dX12_u2_11 : decode cX12_u2 11 = .ok (.iadd, 1) := by decide +kernel
theorem dX12_u2_12 : decode cX12_u2 12 = .ok (.invokevirtual 224, 3) := by decide +kernel
theorem dX12_u2_15 : decode cX12_u2 15 = .ok (.ior, 1) := by decide +kernel
theorem dX12_u2_16 : decode cX12_u2 16 = .ok (.ireturn, 1) := by decide +kernel
def mb_249_0 (g : xe_G) : Nat → Option mi_N := mt_node 8 (mt_node 2 (mt_node 0 (mt_leaf 0 (.inl (o_aload 0 1))) (mt_node 1 (mt_leaf 1 (.inl (o_iload 1 1))) (mt_leaf 2 (.inr (.inl (248, 2, some 12)))))) (mt_node 5 (mt_leaf 5 (.inl (o_push (.int 8) 2))) (mt_node 7 (mt_leaf 7 (.inl (o_bin (fun x y => x <<< (y &&& 31)) 1))) (mt_leaf 8 (.inl (o_aload 0 1)))))) (mt_node 11 (mt_node 9 (mt_leaf 9 (.inl (o_iload 1 1))) (mt_node 10 (mt_leaf 10 (.inl (o_push (.int 1) 1))) (mt_leaf 11 (.inl (o_bin (fun x y => x + y) 1))))) (mt_node 12 (mt_leaf 12 (.inr (.inl (248, 2, some 12)))) (mt_node 15 (mt_leaf 15 (.inl (o_bin (fun x y => x ||| y) 1))) (mt_leaf 16 (.inr (.inr (r_int (fun _ => true))))))))
theorem mb_249_0_ok {g : xe_G} : mt_all (mi_ent g mI (mI 249)) (mb_249_0 g) := mt_node_ok (mt_node_ok (mt_node_ok (mt_leaf_ok (en_o (sm_aload_n dX12_u2_0 rfl))) (mt_node_ok (mt_leaf_ok (en_o (sm_iload_n dX12_u2_1 rfl))) (mt_leaf_ok ((⟨by decide, bg_972, bg_1000, 224, 1, ⟨by decide, by decide, by decide +kernel⟩, bg_1003, Or.inr ⟨rfl, bg_1004, 12, _, rfl, by decide, rfl, Or.inl ⟨dX12_u2_2, bg_1005⟩⟩⟩ : mi_cal _ _ _ (mI 248) _ _))))) (mt_node_ok (mt_leaf_ok (en_o (sm_bipush dX12_u2_5 rfl))) (mt_node_ok (mt_leaf_ok (en_o (sm_ishl dX12_u2_7))) (mt_leaf_ok (en_o (sm_aload_n dX12_u2_8 rfl)))))) (mt_node_ok (mt_node_ok (mt_leaf_ok (en_o (sm_iload_n dX12_u2_9 rfl))) (mt_node_ok (mt_leaf_ok (en_o (sm_iconst dX12_u2_10 rfl))) (mt_leaf_ok (en_o (sm_iadd dX12_u2_11))))) (mt_node_ok (mt_leaf_ok ((⟨by decide, bg_972, bg_1000, 224, 1, ⟨by decide, by decide, by decide +kernel⟩, bg_1003, Or.inr ⟨rfl, bg_1004, 12, _, rfl, by decide, rfl, Or.inl ⟨dX12_u2_12, bg_1005⟩⟩⟩ : mi_cal _ _ _ (mI 248) _ _))) (mt_node_ok (mt_leaf_ok (en_o (sm_ior dX12_u2_15))) (mt_leaf_ok (sr_int dX12_u2_16)))))
def mb_249 (g : xe_G) : Nat × mi_B := (2, mb_249_0 g, fun _ => none)
theorem mb_249_ok {g : xe_G} : mi_meth g mI (mI 249) (mb_249 g) := ⟨rfl, by decide, mb_249_0_ok⟩
theorem dX12_u4_0 : decode cX12_u4 0 = .ok (.aload_n 0, 1) := by decide +kernel
theorem dX12_u4_1 : decode cX12_u4 1 = .ok (.iload_n 1, 1) := by decide +kernel
theorem dX12_u4_2 : decode cX12_u4 2 = .ok (.invokevirtual 227, 3) := by decide +kernel
theorem dX12_u4_5 : decode cX12_u4 5 = .ok (.i2l, 1) := by decide +kernel
theorem dX12_u4_6 : decode cX12_u4 6 = .ok (.bipush 16, 2) := by decide +kernel
theorem dX12_u4_8 : decode cX12_u4 8 = .ok (.lshl, 1) := by decide +kernel
theorem dX12_u4_9 : decode cX12_u4 9 = .ok (.aload_n 0, 1) := by decide +kernel
theorem dX12_u4_10 : decode cX12_u4 10 = .ok (.iload_n 1, 1) := by decide +kernel
theorem dX12_u4_11 : decode cX12_u4 11 = .ok (.iconst 2, 1) := by decide +kernel
theorem dX12_u4_12 : decode cX12_u4 12 = .ok (.iadd, 1) := by decide +kernel
theorem dX12_u4_13 : decode cX12_u4 13 = .ok (.invokevirtual 227, 3) := by decide +kernel
theorem dX12_u4_16 : decode cX12_u4 16 = .ok (.i2l, 1) := by decide +kernel
theorem dX12_u4_17 : decode cX12_u4 17 = .ok (.lor, 1) := by decide +kernel
theorem dX12_u4_18 : decode cX12_u4 18 = .ok (.lreturn, 1) := by decide +kernel
def mb_250_0 (g : xe_G) : Nat → Option mi_N := mt_node 9 (mt_node 2 (mt_node 0 (mt_leaf 0 (.inl (o_aload 0 1))) (mt_node 1 (mt_leaf 1 (.inl (o_iload 1 1))) (mt_leaf 2 (.inr (.inl (249, 2, some 12)))))) (mt_node 6 (mt_node 5 (mt_leaf 5 (.inl (o_i2l))) (mt_leaf 6 (.inl (o_push (.int 16) 2)))) (mt_node 8 (mt_leaf 8 (.inl (o_lshl))) (mt_leaf 9 (.inl (o_aload 0 1)))))) (mt_node 12 (mt_node 10 (mt_leaf 10 (.inl (o_iload 1 1))) (mt_node 11 (mt_leaf 11 (.inl (o_push (.int 2) 1))) (mt_leaf 12 (.inl (o_bin (fun x y => x + y) 1))))) (mt_node 16 (mt_node 13 (mt_leaf 13 (.inr (.inl (249, 2, some 12)))) (mt_leaf 16 (.inl (o_i2l)))) (mt_node 17 (mt_leaf 17 (.inl (o_binL (fun x y => x ||| y)))) (mt_leaf 18 (.inr (.inr r_long))))))
theorem mb_250_0_ok {g : xe_G} : mt_all (mi_ent g mI (mI 250)) (mb_250_0 g) := mt_node_ok (mt_node_ok (mt_node_ok (mt_leaf_ok (en_o (sm_aload_n dX12_u4_0 rfl))) (mt_node_ok (mt_leaf_ok (en_o (sm_iload_n dX12_u4_1 rfl))) (mt_leaf_ok ((⟨by decide, bg_972, bg_1002, 227, 1, ⟨by decide, by decide, by decide +kernel⟩, bg_1007, Or.inr ⟨rfl, bg_1008, 12, _, rfl, by decide, rfl, Or.inl ⟨dX12_u4_2, bg_1009⟩⟩⟩ : mi_cal _ _ _ (mI 249) _ _))))) (mt_node_ok (mt_node_ok (mt_leaf_ok (en_o (sm_i2l dX12_u4_5))) (mt_leaf_ok (en_o (sm_bipush dX12_u4_6 rfl)))) (mt_node_ok (mt_leaf_ok (en_o (sm_lshl dX12_u4_8))) (mt_leaf_ok (en_o (sm_aload_n dX12_u4_9 rfl)))))) (mt_node_ok (mt_node_ok (mt_leaf_ok (en_o (sm_iload_n dX12_u4_10 rfl))) (mt_node_ok (mt_leaf_ok (en_o (sm_iconst dX12_u4_11 rfl))) (mt_leaf_ok (en_o (sm_iadd dX12_u4_12))))) (mt_node_ok (mt_node_ok (mt_leaf_ok ((⟨by decide, bg_972, bg_1002, 227, 1, ⟨by decide, by decide, by decide +kernel⟩, bg_1007, Or.inr ⟨rfl, bg_1008, 12, _, rfl, by decide, rfl, Or.inl ⟨dX12_u4_13, bg_1009⟩⟩⟩ : mi_cal _ _ _ (mI 249) _ _))) (mt_leaf_ok (en_o (sm_i2l dX12_u4_16)))) (mt_node_ok (mt_leaf_ok (en_o (sm_lor dX12_u4_17))) (mt_leaf_ok (sr_long dX12_u4_18)))))
def mb_250 (g : xe_G) : Nat × mi_B := (2, mb_250_0 g, fun _ => none)
theorem mb_250_ok {g : xe_G} : mi_meth g mI (mI 250) (mb_250 g) := ⟨rfl, by decide, mb_250_0_ok⟩
theorem dX12_unqualified_0 : decode cX12_unqualified 0 = .ok (.aload_n 0, 1) := by decide +kernel
theorem dX12_unqualified_1 : decode cX12_unqualified 1 = .ok (.iload_n 1, 1) := by decide +kernel
theorem dX12_unqualified_2 : decode cX12_unqualified 2 = .ok (.invokevirtual 215, 3) := by decide +kernel
theorem dX12_unqualified_5 : decode cX12_unqualified 5 = .ok (.istore_n 3, 1) := by decide +kernel
theorem dX12_unqualified_6 : decode cX12_unqualified 6 = .ok (.iconst 0, 1) := by decide +kernel
theorem dX12_unqualified_7 : decode cX12_unqualified 7 = .ok (.istore 4, 2) := by decide +kernel
theorem dX12_unqualified_9 : decode cX12_unqualified 9 = .ok (.iload 4, 2) := by decide +kernel
theorem dX12_unqualified_11 : decode cX12_unqualified 11 = .ok (.iload_n 3, 1) := by decide +kernel
theorem dX12_unqualified_12 : decode cX12_unqualified 12 = .ok (.if_icmp .ge 66, 3) := by decide +kernel
theorem dX12_unqualified_15 : decode cX12_unqualified 15 = .ok (.aload_n 0, 1) := by decide +kernel
theorem dX12_unqualified_16 : decode cX12_unqualified 16 = .ok (.iload_n 1, 1) := by decide +kernel
theorem dX12_unqualified_17 : decode cX12_unqualified 17 = .ok (.iload 4, 2) := by decide +kernel
theorem dX12_unqualified_19 : decode cX12_unqualified 19 = .ok (.invokevirtual 217, 3) := by decide +kernel
theorem dX12_unqualified_22 : decode cX12_unqualified 22 = .ok (.istore 5, 2) := by decide +kernel
theorem dX12_unqualified_24 : decode cX12_unqualified 24 = .ok (.iload 5, 2) := by decide +kernel
theorem dX12_unqualified_26 : decode cX12_unqualified 26 = .ok (.bipush 46, 2) := by decide +kernel
theorem dX12_unqualified_28 : decode cX12_unqualified 28 = .ok (.if_icmp .eq 42, 3) := by decide +kernel
theorem dX12_unqualified_31 : decode cX12_unqualified 31 = .ok (.iload 5, 2) := by decide +kernel
theorem dX12_unqualified_33 : decode cX12_unqualified 33 = .ok (.bipush 59, 2) := by decide +kernel
theorem dX12_unqualified_35 : decode cX12_unqualified 35 = .ok (.if_icmp .eq 35, 3) := by decide +kernel
theorem dX12_unqualified_38 : decode cX12_unqualified 38 = .ok (.iload 5, 2) := by decide +kernel
theorem dX12_unqualified_40 : decode cX12_unqualified 40 = .ok (.bipush 91, 2) := by decide +kernel
theorem dX12_unqualified_42 : decode cX12_unqualified 42 = .ok (.if_icmp .eq 28, 3) := by decide +kernel
theorem dX12_unqualified_45 : decode cX12_unqualified 45 = .ok (.iload 5, 2) := by decide +kernel
theorem dX12_unqualified_47 : decode cX12_unqualified 47 = .ok (.bipush 47, 2) := by decide +kernel
theorem dX12_unqualified_49 : decode cX12_unqualified 49 = .ok (.if_icmp .eq 21, 3) := by decide +kernel
theorem dX12_unqualified_52 : decode cX12_unqualified 52 = .ok (.iload_n 2, 1) := by decide +kernel
theorem dX12_unqualified_53 : decode cX12_unqualified 53 = .ok (.ifCond .ne 19, 3) := by decide +kernel
theorem dX12_unqualified_56 : decode cX12_unqualified 56 = .ok (.iload 5, 2) := by decide +kernel
theorem dX12_unqualified_58 : decode cX12_unqualified 58 = .ok (.bipush 60, 2) := by decide +kernel
theorem dX12_unqualified_60 : decode cX12_unqualified 60 = .ok (.if_icmp .eq 10, 3) := by decide +kernel
theorem dX12_unqualified_63 : decode cX12_unqualified 63 = .ok (.iload 5, 2) := by decide +kernel
theorem dX12_unqualified_65 : decode cX12_unqualified 65 = .ok (.bipush 62, 2) := by decide +kernel
theorem dX12_unqualified_67 : decode cX12_unqualified 67 = .ok (.if_icmp .ne 5, 3) := by decide +kernel
theorem dX12_unqualified_70 : decode cX12_unqualified 70 = .ok (.iconst 0, 1) := by decide +kernel
theorem dX12_unqualified_71 : decode cX12_unqualified 71 = .ok (.ireturn, 1) := by decide +kernel
theorem dX12_unqualified_72 : decode cX12_unqualified 72 = .ok (.iinc 4 1, 3) := by decide +kernel
theorem dX12_unqualified_75 : decode cX12_unqualified 75 = .ok (.goto (-66), 3) := by decide +kernel
theorem dX12_unqualified_78 : decode cX12_unqualified 78 = .ok (.iload_n 3, 1) := by decide +kernel
theorem dX12_unqualified_79 : decode cX12_unqualified 79 = .ok (.ifCond .le 7, 3) := by decide +kernel
theorem dX12_unqualified_82 : decode cX12_unqualified 82 = .ok (.iconst 1, 1) := by decide +kernel
theorem dX12_unqualified_83 : decode cX12_unqualified 83 = .ok (.goto 4, 3) := by decide +kernel
theorem dX12_unqualified_86 : decode cX12_unqualified 86 = .ok (.iconst 0, 1) := by decide +kernel
theorem dX12_unqualified_87 : decode cX12_unqualified 87 = .ok (.ireturn, 1) := by decide +kernel
def mb_251_0 (g : xe_G) : Nat → Option mi_N := mt_node 40 (mt_node 16 (mt_node 6 (mt_node 1 (mt_node 0 (mt_leaf 0 (.inl (o_aload 0 1))) (mt_leaf 1 (.inl (o_iload 1 1)))) (mt_node 2 (mt_leaf 2 (.inr (.inl (221, 2, some 12)))) (mt_node 5 (mt_leaf 5 (.inl (o_isto 3 1))) (mt_leaf 6 (.inl (o_push (.int 0) 1)))))) (mt_node 11 (mt_node 7 (mt_leaf 7 (.inl (o_isto 4 2))) (mt_node 9 (mt_leaf 9 (.inl (o_iload 4 2))) (mt_leaf 11 (.inl (o_iload 3 1))))) (mt_node 12 (mt_leaf 12 (.inl (o_if2 (fun x y => decide (y ≤ x)) 78))) (mt_node 15 (mt_leaf 15 (.inl (o_aload 0 1))) (mt_leaf 16 (.inl (o_iload 1 1))))))) (mt_node 26 (mt_node 19 (mt_node 17 (mt_leaf 17 (.inl (o_iload 4 2))) (mt_leaf 19 (.inr (.inl (176, 3, some 12))))) (mt_node 22 (mt_leaf 22 (.inl (o_isto 5 2))) (mt_node 24 (mt_leaf 24 (.inl (o_iload 5 2))) (mt_leaf 26 (.inl (o_push (.int 46) 2)))))) (mt_node 33 (mt_node 28 (mt_leaf 28 (.inl (o_if2 (fun x y => decide (x = y)) 70))) (mt_node 31 (mt_leaf 31 (.inl (o_iload 5 2))) (mt_leaf 33 (.inl (o_push (.int 59) 2))))) (mt_node 35 (mt_leaf 35 (.inl (o_if2 (fun x y => decide (x = y)) 70))) (mt_node 38 (mt_leaf 38 (.inl (o_iload 5 2))) (mt_leaf 40 (.inl (o_push (.int 91) 2)))))))) (mt_node 65 (mt_node 52 (mt_node 45 (mt_node 42 (mt_leaf 42 (.inl (o_if2 (fun x y => decide (x = y)) 70))) (mt_leaf 45 (.inl (o_iload 5 2)))) (mt_node 47 (mt_leaf 47 (.inl (o_push (.int 47) 2))) (mt_node 49 (mt_leaf 49 (.inl (o_if2 (fun x y => decide (x = y)) 70))) (mt_leaf 52 (.inl (o_iload 2 1)))))) (mt_node 58 (mt_node 53 (mt_leaf 53 (.inl (o_if (fun x => decide (¬ x = 0)) 72))) (mt_node 56 (mt_leaf 56 (.inl (o_iload 5 2))) (mt_leaf 58 (.inl (o_push (.int 60) 2))))) (mt_node 60 (mt_leaf 60 (.inl (o_if2 (fun x y => decide (x = y)) 70))) (mt_node 63 (mt_leaf 63 (.inl (o_iload 5 2))) (mt_leaf 65 (.inl (o_push (.int 62) 2))))))) (mt_node 75 (mt_node 70 (mt_node 67 (mt_leaf 67 (.inl (o_if2 (fun x y => decide (¬ x = y)) 72))) (mt_leaf 70 (.inl (o_push (.int 0) 1)))) (mt_node 71 (mt_leaf 71 (.inr (.inr (r_int mi_cz)))) (mt_node 72 (mt_leaf 72 (.inl (o_iinc 4 1))) (mt_leaf 75 (.inl (o_goto 9)))))) (mt_node 82 (mt_node 78 (mt_leaf 78 (.inl (o_iload 3 1))) (mt_node 79 (mt_leaf 79 (.inl (o_if (fun x => decide (x ≤ 0)) 86))) (mt_leaf 82 (.inl (o_push (.int 1) 1))))) (mt_node 83 (mt_leaf 83 (.inl (o_goto 87))) (mt_node 86 (mt_leaf 86 (.inl (o_push (.int 0) 1))) (mt_leaf 87 (.inr (.inr (r_int mi_cz)))))))))
theorem mb_251_0_ok {g : xe_G} : mt_all (mi_ent g mI (mI 251)) (mb_251_0 g) := mt_node_ok (mt_node_ok (mt_node_ok (mt_node_ok (mt_node_ok (mt_leaf_ok (en_o (sm_aload_n dX12_unqualified_0 rfl))) (mt_leaf_ok (en_o (sm_iload_n dX12_unqualified_1 rfl)))) (mt_node_ok (mt_leaf_ok ((⟨by decide, bg_972, bg_991, 215, 1, ⟨by decide, by decide, by decide +kernel⟩, bg_994, Or.inr ⟨rfl, bg_995, 12, _, rfl, by decide, rfl, Or.inl ⟨dX12_unqualified_2, bg_996⟩⟩⟩ : mi_cal _ _ _ (mI 221) _ _))) (mt_node_ok (mt_leaf_ok (en_s (sm_istore_n dX12_unqualified_5 rfl (by decide)))) (mt_leaf_ok (en_o (sm_iconst dX12_unqualified_6 rfl)))))) (mt_node_ok (mt_node_ok (mt_leaf_ok (en_s (sm_istore dX12_unqualified_7 (by decide)))) (mt_node_ok (mt_leaf_ok (en_o (sm_iload dX12_unqualified_9))) (mt_leaf_ok (en_o (sm_iload_n dX12_unqualified_11 rfl))))) (mt_node_ok (mt_leaf_ok (en_o (sm_icmp_ge dX12_unqualified_12 (by decide)))) (mt_node_ok (mt_leaf_ok (en_o (sm_aload_n dX12_unqualified_15 rfl))) (mt_leaf_ok (en_o (sm_iload_n dX12_unqualified_16 rfl))))))) (mt_node_ok (mt_node_ok (mt_node_ok (mt_leaf_ok (en_o (sm_iload dX12_unqualified_17))) (mt_leaf_ok ((⟨by decide, bg_972, bg_992, 217, 2, ⟨by decide, by decide, by decide +kernel⟩, bg_997, Or.inr ⟨rfl, bg_998, 12, _, rfl, by decide, rfl, Or.inl ⟨dX12_unqualified_19, bg_999⟩⟩⟩ : mi_cal _ _ _ (mI 176) _ _)))) (mt_node_ok (mt_leaf_ok (en_s (sm_istore dX12_unqualified_22 (by decide)))) (mt_node_ok (mt_leaf_ok (en_o (sm_iload dX12_unqualified_24))) (mt_leaf_ok (en_o (sm_bipush dX12_unqualified_26 rfl)))))) (mt_node_ok (mt_node_ok (mt_leaf_ok (en_o (sm_icmp_eq dX12_unqualified_28 (by decide)))) (mt_node_ok (mt_leaf_ok (en_o (sm_iload dX12_unqualified_31))) (mt_leaf_ok (en_o (sm_bipush dX12_unqualified_33 rfl))))) (mt_node_ok (mt_leaf_ok (en_o (sm_icmp_eq dX12_unqualified_35 (by decide)))) (mt_node_ok (mt_leaf_ok (en_o (sm_iload dX12_unqualified_38))) (mt_leaf_ok (en_o (sm_bipush dX12_unqualified_40 rfl)))))))) (mt_node_ok (mt_node_ok (mt_node_ok (mt_node_ok (mt_leaf_ok (en_o (sm_icmp_eq dX12_unqualified_42 (by decide)))) (mt_leaf_ok (en_o (sm_iload dX12_unqualified_45)))) (mt_node_ok (mt_leaf_ok (en_o (sm_bipush dX12_unqualified_47 rfl))) (mt_node_ok (mt_leaf_ok (en_o (sm_icmp_eq dX12_unqualified_49 (by decide)))) (mt_leaf_ok (en_o (sm_iload_n dX12_unqualified_52 rfl)))))) (mt_node_ok (mt_node_ok (mt_leaf_ok (en_o (sm_if_ne dX12_unqualified_53 (by decide)))) (mt_node_ok (mt_leaf_ok (en_o (sm_iload dX12_unqualified_56))) (mt_leaf_ok (en_o (sm_bipush dX12_unqualified_58 rfl))))) (mt_node_ok (mt_leaf_ok (en_o (sm_icmp_eq dX12_unqualified_60 (by decide)))) (mt_node_ok (mt_leaf_ok (en_o (sm_iload dX12_unqualified_63))) (mt_leaf_ok (en_o (sm_bipush dX12_unqualified_65 rfl))))))) (mt_node_ok (mt_node_ok (mt_node_ok (mt_leaf_ok (en_o (sm_icmp_ne dX12_unqualified_67 (by decide)))) (mt_leaf_ok (en_o (sm_iconst dX12_unqualified_70 rfl)))) (mt_node_ok (mt_leaf_ok (sr_nar mi_cz_ok dX12_unqualified_71)) (mt_node_ok (mt_leaf_ok (en_s (sm_iinc dX12_unqualified_72 rfl (by decide)))) (mt_leaf_ok (en_o (sm_goto dX12_unqualified_75 (by decide))))))) (mt_node_ok (mt_node_ok (mt_leaf_ok (en_o (sm_iload_n dX12_unqualified_78 rfl))) (mt_node_ok (mt_leaf_ok (en_o (sm_if_le dX12_unqualified_79 (by decide)))) (mt_leaf_ok (en_o (sm_iconst dX12_unqualified_82 rfl))))) (mt_node_ok (mt_leaf_ok (en_o (sm_goto dX12_unqualified_83 (by decide)))) (mt_node_ok (mt_leaf_ok (en_o (sm_iconst dX12_unqualified_86 rfl))) (mt_leaf_ok (sr_nar mi_cz_ok dX12_unqualified_87)))))))
def mb_251 (g : xe_G) : Nat × mi_B := (6, mb_251_0 g, mk_node 70 (mk_node 9 (mk_leaf 9 [0, 1, 2, 3, 4]) (mk_leaf 70 [])) (mk_node 72 (mk_leaf 72 [0, 1, 2, 3, 4]) (mk_leaf 87 [])))
theorem mb_251_ok {g : xe_G} : mi_meth g mI (mI 251) (mb_251 g) := ⟨rfl, by decide, mb_251_0_ok⟩
theorem dX12_utf8_0 : decode cX12_utf8 0 = .ok (.iconst 0, 1) := by decide +kernel
theorem dX12_utf8_1 : decode cX12_utf8 1 = .ok (.istore 4, 2) := by decide +kernel
theorem dX12_utf8_3 : decode cX12_utf8 3 = .ok (.iload_n 2, 1) := by decide +kernel
theorem dX12_utf8_4 : decode cX12_utf8 4 = .ok (.istore 5, 2) := by decide +kernel
theorem dX12_utf8_6 : decode cX12_utf8 6 = .ok (.iload_n 2, 1) := by decide +kernel
theorem dX12_utf8_7 : decode cX12_utf8 7 = .ok (.iload_n 3, 1) := by decide +kernel
theorem dX12_utf8_8 : decode cX12_utf8 8 = .ok (.iadd, 1) := by decide +kernel
theorem dX12_utf8_9 : decode cX12_utf8 9 = .ok (.istore 6, 2) := by decide +kernel
theorem dX12_utf8_11 : decode cX12_utf8 11 = .ok (.iload 5, 2) := by decide +kernel
theorem dX12_utf8_13 : decode cX12_utf8 13 = .ok (.iload 6, 2) := by decide +kernel
theorem dX12_utf8_15 : decode cX12_utf8 15 = .ok (.if_icmp .ge 227, 3) := by decide +kernel
theorem dX12_utf8_18 : decode cX12_utf8 18 = .ok (.aload_n 0, 1) := by decide +kernel
theorem dX12_utf8_19 : decode cX12_utf8 19 = .ok (.iload 5, 2) := by decide +kernel
theorem dX12_utf8_21 : decode cX12_utf8 21 = .ok (.invokevirtual 224, 3) := by decide +kernel
theorem dX12_utf8_24 : decode cX12_utf8 24 = .ok (.istore 7, 2) := by decide +kernel
theorem dX12_utf8_26 : decode cX12_utf8 26 = .ok (.iload 7, 2) := by decide +kernel
theorem dX12_utf8_28 : decode cX12_utf8 28 = .ok (.ifCond .eq 27, 3) := by decide +kernel
theorem dX12_utf8_31 : decode cX12_utf8 31 = .ok (.iload 7, 2) := by decide +kernel
theorem dX12_utf8_33 : decode cX12_utf8 33 = .ok (.sipush 240, 3) := by decide +kernel
theorem dX12_utf8_36 : decode cX12_utf8 36 = .ok (.if_icmp .ge 19, 3) := by decide +kernel
theorem dX12_utf8_39 : decode cX12_utf8 39 = .ok (.iload 7, 2) := by decide +kernel
theorem dX12_utf8_41 : decode cX12_utf8 41 = .ok (.sipush 128, 3) := by decide +kernel
theorem dX12_utf8_44 : decode cX12_utf8 44 = .ok (.if_icmp .lt 20, 3) := by decide +kernel
theorem dX12_utf8_47 : decode cX12_utf8 47 = .ok (.iload 7, 2) := by decide +kernel
theorem dX12_utf8_49 : decode cX12_utf8 49 = .ok (.sipush 191, 3) := by decide +kernel
theorem dX12_utf8_52 : decode cX12_utf8 52 = .ok (.if_icmp .gt 12, 3) := by decide +kernel
theorem dX12_utf8_55 : decode cX12_utf8 55 = .ok (.aload_n 0, 1) := by decide +kernel
theorem dX12_utf8_56 : decode cX12_utf8 56 = .ok (.bipush 6, 2) := by decide +kernel
theorem dX12_utf8_58 : decode cX12_utf8 58 = .ok (.iload 5, 2) := by decide +kernel
theorem dX12_utf8_60 : decode cX12_utf8 60 = .ok (.invokevirtual 242, 3) := by decide +kernel
theorem dX12_utf8_63 : decode cX12_utf8 63 = .ok (.ireturn, 1) := by decide +kernel
theorem dX12_utf8_64 : decode cX12_utf8 64 = .ok (.iload 7, 2) := by decide +kernel
theorem dX12_utf8_66 : decode cX12_utf8 66 = .ok (.sipush 128, 3) := by decide +kernel
theorem dX12_utf8_69 : decode cX12_utf8 69 = .ok (.if_icmp .ge 7, 3) := by decide +kernel
theorem dX12_utf8_72 : decode cX12_utf8 72 = .ok (.iconst 0, 1) := by decide +kernel
theorem dX12_utf8_73 : decode cX12_utf8 73 = .ok (.goto 16, 3) := by decide +kernel
theorem dX12_utf8_76 : decode cX12_utf8 76 = .ok (.iload 7, 2) := by decide +kernel
theorem dX12_utf8_78 : decode cX12_utf8 78 = .ok (.sipush 224, 3) := by decide +kernel
theorem dX12_utf8_81 : decode cX12_utf8 81 = .ok (.if_icmp .ge 7, 3) := by decide +kernel
theorem dX12_utf8_84 : decode cX12_utf8 84 = .ok (.iconst 1, 1) := by decide +kernel
theorem dX12_utf8_85 : decode cX12_utf8 85 = .ok (.goto 4, 3) := by decide +kernel
theorem dX12_utf8_88 : decode cX12_utf8 88 = .ok (.iconst 2, 1) := by decide +kernel
theorem dX12_utf8_89 : decode cX12_utf8 89 = .ok (.istore 8, 2) := by decide +kernel
theorem dX12_utf8_91 : decode cX12_utf8 91 = .ok (.iconst 1, 1) := by decide +kernel
theorem dX12_utf8_92 : decode cX12_utf8 92 = .ok (.istore 9, 2) := by decide +kernel
theorem dX12_utf8_94 : decode cX12_utf8 94 = .ok (.iload 9, 2) := by decide +kernel
theorem dX12_utf8_96 : decode cX12_utf8 96 = .ok (.iload 8, 2) := by decide +kernel
theorem dX12_utf8_98 : decode cX12_utf8 98 = .ok (.if_icmp .gt 47, 3) := by decide +kernel
theorem dX12_utf8_101 : decode cX12_utf8 101 = .ok (.iload 5, 2) := by decide +kernel
theorem dX12_utf8_103 : decode cX12_utf8 103 = .ok (.iload 9, 2) := by decide +kernel
theorem dX12_utf8_105 : decode cX12_utf8 105 = .ok (.iadd, 1) := by decide +kernel
theorem dX12_utf8_106 : decode cX12_utf8 106 = .ok (.iload 6, 2) := by decide +kernel
theorem dX12_utf8_108 : decode cX12_utf8 108 = .ok (.if_icmp .ge 22, 3) := by decide +kernel
theorem dX12_utf8_111 : decode cX12_utf8 111 = .ok (.aload_n 0, 1) := by decide +kernel
theorem dX12_utf8_112 : decode cX12_utf8 112 = .ok (.iload 5, 2) := by decide +kernel
theorem dX12_utf8_114 : decode cX12_utf8 114 = .ok (.iload 9, 2) := by decide +kernel
theorem dX12_utf8_116 : decode cX12_utf8 116 = .ok (.iadd, 1) := by decide +kernel
theorem dX12_utf8_117 : decode cX12_utf8 117 = .ok (.invokevirtual 224, 3) := by decide +kernel
theorem dX12_utf8_120 : decode cX12_utf8 120 = .ok (.sipush 192, 3) := by decide +kernel
theorem dX12_utf8_123 : decode cX12_utf8 123 = .ok (.iand, 1) := by decide +kernel
theorem dX12_utf8_124 : decode cX12_utf8 124 = .ok (.sipush 128, 3) := by decide +kernel
theorem dX12_utf8_127 : decode cX12_utf8 127 = .ok (.if_icmp .eq 12, 3) := by decide +kernel
theorem dX12_utf8_130 : decode cX12_utf8 130 = .ok (.aload_n 0, 1) := by decide +kernel
theorem dX12_utf8_131 : decode cX12_utf8 131 = .ok (.bipush 6, 2) := by decide +kernel
theorem dX12_utf8_133 : decode cX12_utf8 133 = .ok (.iload 5, 2) := by decide +kernel
theorem dX12_utf8_135 : decode cX12_utf8 135 = .ok (.invokevirtual 242, 3) := by decide +kernel
theorem dX12_utf8_138 : decode cX12_utf8 138 = .ok (.ireturn, 1) := by decide +kernel
theorem dX12_utf8_139 : decode cX12_utf8 139 = .ok (.iinc 9 1, 3) := by decide +kernel
theorem dX12_utf8_142 : decode cX12_utf8 142 = .ok (.goto (-48), 3) := by decide +kernel
theorem dX12_utf8_145 : decode cX12_utf8 145 = .ok (.aload_n 0, 1) := by decide +kernel
theorem dX12_utf8_146 : decode cX12_utf8 146 = .ok (.getfield 18, 3) := by decide +kernel
theorem dX12_utf8_149 : decode cX12_utf8 149 = .ok (.iload 4, 2) := by decide +kernel
theorem dX12_utf8_151 : decode cX12_utf8 151 = .ok (.iinc 4 1, 3) := by decide +kernel
theorem dX12_utf8_154 : decode cX12_utf8 154 = .ok (.iload 8, 2) := by decide +kernel
theorem dX12_utf8_156 : decode cX12_utf8 156 = .ok (.ifCond .ne 8, 3) := by decide +kernel
theorem dX12_utf8_159 : decode cX12_utf8 159 = .ok (.iload 7, 2) := by decide +kernel
theorem dX12_utf8_161 : decode cX12_utf8 161 = .ok (.goto 67, 3) := by decide +kernel
theorem dX12_utf8_164 : decode cX12_utf8 164 = .ok (.iload 8, 2) := by decide +kernel
theorem dX12_utf8_166 : decode cX12_utf8 166 = .ok (.iconst 1, 1) := by decide +kernel
theorem dX12_utf8_167 : decode cX12_utf8 167 = .ok (.if_icmp .ne 26, 3) := by decide +kernel
theorem dX12_utf8_170 : decode cX12_utf8 170 = .ok (.iload 7, 2) := by decide +kernel
theorem dX12_utf8_172 : decode cX12_utf8 172 = .ok (.bipush 31, 2) := by decide +kernel
theorem dX12_utf8_174 : decode cX12_utf8 174 = .ok (.iand, 1) := by decide +kernel
theorem dX12_utf8_175 : decode cX12_utf8 175 = .ok (.bipush 6, 2) := by decide +kernel
theorem dX12_utf8_177 : decode cX12_utf8 177 = .ok (.ishl, 1) := by decide +kernel
theorem dX12_utf8_178 : decode cX12_utf8 178 = .ok (.aload_n 0, 1) := by decide +kernel
theorem dX12_utf8_179 : decode cX12_utf8 179 = .ok (.iload 5, 2) := by decide +kernel
theorem dX12_utf8_181 : decode cX12_utf8 181 = .ok (.iconst 1, 1) := by decide +kernel
theorem dX12_utf8_182 : decode cX12_utf8 182 = .ok (.iadd, 1) := by decide +kernel
theorem dX12_utf8_183 : decode cX12_utf8 183 = .ok (.invokevirtual 224, 3) := by decide +kernel
theorem dX12_utf8_186 : decode cX12_utf8 186 = .ok (.bipush 63, 2) := by decide +kernel
theorem dX12_utf8_188 : decode cX12_utf8 188 = .ok (.iand, 1) := by decide +kernel
theorem dX12_utf8_189 : decode cX12_utf8 189 = .ok (.ior, 1) := by decide +kernel
theorem dX12_utf8_190 : decode cX12_utf8 190 = .ok (.goto 38, 3) := by decide +kernel
theorem dX12_utf8_193 : decode cX12_utf8 193 = .ok (.iload 7, 2) := by decide +kernel
theorem dX12_utf8_195 : decode cX12_utf8 195 = .ok (.bipush 15, 2) := by decide +kernel
theorem dX12_utf8_197 : decode cX12_utf8 197 = .ok (.iand, 1) := by decide +kernel
theorem dX12_utf8_198 : decode cX12_utf8 198 = .ok (.bipush 12, 2) := by decide +kernel
theorem dX12_utf8_200 : decode cX12_utf8 200 = .ok (.ishl, 1) := by decide +kernel
theorem dX12_utf8_201 : decode cX12_utf8 201 = .ok (.aload_n 0, 1) := by decide +kernel
theorem dX12_utf8_202 : decode cX12_utf8 202 = .ok (.iload 5, 2) := by decide +kernel
theorem dX12_utf8_204 : decode cX12_utf8 204 = .ok (.iconst 1, 1) := by decide +kernel
theorem dX12_utf8_205 : decode cX12_utf8 205 = .ok (.iadd, 1) := by decide +kernel
theorem dX12_utf8_206 : decode cX12_utf8 206 = .ok (.invokevirtual 224, 3) := by decide +kernel
theorem dX12_utf8_209 : decode cX12_utf8 209 = .ok (.bipush 63, 2) := by decide +kernel
theorem dX12_utf8_211 : decode cX12_utf8 211 = .ok (.iand, 1) := by decide +kernel
theorem dX12_utf8_212 : decode cX12_utf8 212 = .ok (.bipush 6, 2) := by decide +kernel
theorem dX12_utf8_214 : decode cX12_utf8 214 = .ok (.ishl, 1) := by decide +kernel
theorem dX12_utf8_215 : decode cX12_utf8 215 = .ok (.ior, 1) := by decide +kernel
theorem dX12_utf8_216 : decode cX12_utf8 216 = .ok (.aload_n 0, 1) := by decide +kernel
theorem dX12_utf8_217 : decode cX12_utf8 217 = .ok (.iload 5, 2) := by decide +kernel
theorem dX12_utf8_219 : decode cX12_utf8 219 = .ok (.iconst 2, 1) := by decide +kernel
theorem dX12_utf8_220 : decode cX12_utf8 220 = .ok (.iadd, 1) := by decide +kernel
theorem dX12_utf8_221 : decode cX12_utf8 221 = .ok (.invokevirtual 224, 3) := by decide +kernel
theorem dX12_utf8_224 : decode cX12_utf8 224 = .ok (.bipush 63, 2) := by decide +kernel
theorem dX12_utf8_226 : decode cX12_utf8 226 = .ok (.iand, 1) := by decide +kernel
theorem dX12_utf8_227 : decode cX12_utf8 227 = .ok (.ior, 1) := by decide +kernel
theorem dX12_utf8_228 : decode cX12_utf8 228 = .ok (.i2c, 1) := by decide +kernel
theorem dX12_utf8_229 : decode cX12_utf8 229 = .ok (.castore, 1) := by decide +kernel
theorem dX12_utf8_230 : decode cX12_utf8 230 = .ok (.iload 5, 2) := by decide +kernel
theorem dX12_utf8_232 : decode cX12_utf8 232 = .ok (.iload 8, 2) := by decide +kernel
theorem dX12_utf8_234 : decode cX12_utf8 234 = .ok (.iconst 1, 1) := by decide +kernel
theorem dX12_utf8_235 : decode cX12_utf8 235 = .ok (.iadd, 1) := by decide +kernel
theorem dX12_utf8_236 : decode cX12_utf8 236 = .ok (.iadd, 1) := by decide +kernel
theorem dX12_utf8_237 : decode cX12_utf8 237 = .ok (.istore 5, 2) := by decide +kernel
theorem dX12_utf8_239 : decode cX12_utf8 239 = .ok (.goto (-228), 3) := by decide +kernel
theorem dX12_utf8_242 : decode cX12_utf8 242 = .ok (.aload_n 0, 1) := by decide +kernel
theorem dX12_utf8_243 : decode cX12_utf8 243 = .ok (.getfield 56, 3) := by decide +kernel
theorem dX12_utf8_246 : decode cX12_utf8 246 = .ok (.iload_n 1, 1) := by decide +kernel
theorem dX12_utf8_247 : decode cX12_utf8 247 = .ok (.aload_n 0, 1) := by decide +kernel
theorem dX12_utf8_248 : decode cX12_utf8 248 = .ok (.iload 4, 2) := by decide +kernel
theorem dX12_utf8_250 : decode cX12_utf8 250 = .ok (.invokevirtual 212, 3) := by decide +kernel
theorem dX12_utf8_253 : decode cX12_utf8 253 = .ok (.iastore, 1) := by decide +kernel
theorem dX12_utf8_254 : decode cX12_utf8 254 = .ok (.iconst 1, 1) := by decide +kernel
theorem dX12_utf8_255 : decode cX12_utf8 255 = .ok (.ireturn, 1) := by decide +kernel
def mb_252_0 (g : xe_G) : Nat → Option mi_N := mt_node 47 (mt_node 18 (mt_node 7 (mt_node 3 (mt_node 0 (mt_leaf 0 (.inl (o_push (.int 0) 1))) (mt_node 1 (mt_leaf 1 (.inl (o_isto 4 2))) (mt_leaf 3 (.inl (o_iload 2 1))))) (mt_node 4 (mt_leaf 4 (.inl (o_isto 5 2))) (mt_node 6 (mt_leaf 6 (.inl (o_iload 2 1))) (mt_leaf 7 (.inl (o_iload 3 1)))))) (mt_node 11 (mt_node 8 (mt_leaf 8 (.inl (o_bin (fun x y => x + y) 1))) (mt_node 9 (mt_leaf 9 (.inl (o_isto 6 2))) (mt_leaf 11 (.inl (o_iload 5 2))))) (mt_node 13 (mt_leaf 13 (.inl (o_iload 6 2))) (mt_node 15 (mt_leaf 15 (.inl (o_if2 (fun x y => decide (y ≤ x)) 242))) (mt_leaf 18 (.inl (o_aload 0 1))))))) (mt_node 31 (mt_node 24 (mt_node 19 (mt_leaf 19 (.inl (o_iload 5 2))) (mt_node 21 (mt_leaf 21 (.inr (.inl (248, 2, some 12)))) (mt_leaf 24 (.inl (o_isto 7 2))))) (mt_node 26 (mt_leaf 26 (.inl (o_iload 7 2))) (mt_node 28 (mt_leaf 28 (.inl (o_if (fun x => decide (x = 0)) 55))) (mt_leaf 31 (.inl (o_iload 7 2)))))) (mt_node 39 (mt_node 33 (mt_leaf 33 (.inl (o_push (.int 240) 3))) (mt_node 36 (mt_leaf 36 (.inl (o_if2 (fun x y => decide (y ≤ x)) 55))) (mt_leaf 39 (.inl (o_iload 7 2))))) (mt_node 41 (mt_leaf 41 (.inl (o_push (.int 128) 3))) (mt_node 44 (mt_leaf 44 (.inl (o_if2 (fun x y => decide (x < y)) 64))) (mt_leaf 47 (.inl (o_iload 7 2)))))))) (mt_node 73 (mt_node 60 (mt_node 55 (mt_node 49 (mt_leaf 49 (.inl (o_push (.int 191) 3))) (mt_node 52 (mt_leaf 52 (.inl (o_if2 (fun x y => decide (y < x)) 64))) (mt_leaf 55 (.inl (o_aload 0 1))))) (mt_node 56 (mt_leaf 56 (.inl (o_push (.int 6) 2))) (mt_node 58 (mt_leaf 58 (.inl (o_iload 5 2))) (mt_leaf 60 (.inr (.inl (256, 3, some 12))))))) (mt_node 66 (mt_node 63 (mt_leaf 63 (.inr (.inr (r_int mi_cz)))) (mt_node 64 (mt_leaf 64 (.inl (o_iload 7 2))) (mt_leaf 66 (.inl (o_push (.int 128) 3))))) (mt_node 69 (mt_leaf 69 (.inl (o_if2 (fun x y => decide (y ≤ x)) 76))) (mt_node 72 (mt_leaf 72 (.inl (o_push (.int 0) 1))) (mt_leaf 73 (.inl (o_goto 89))))))) (mt_node 88 (mt_node 81 (mt_node 76 (mt_leaf 76 (.inl (o_iload 7 2))) (mt_node 78 (mt_leaf 78 (.inl (o_push (.int 224) 3))) (mt_leaf 81 (.inl (o_if2 (fun x y => decide (y ≤ x)) 88))))) (mt_node 84 (mt_leaf 84 (.inl (o_push (.int 1) 1))) (mt_node 85 (mt_leaf 85 (.inl (o_goto 89))) (mt_leaf 88 (.inl (o_push (.int 2) 1)))))) (mt_node 92 (mt_node 89 (mt_leaf 89 (.inl (o_isto 8 2))) (mt_node 91 (mt_leaf 91 (.inl (o_push (.int 1) 1))) (mt_leaf 92 (.inl (o_isto 9 2))))) (mt_node 94 (mt_leaf 94 (.inl (o_iload 9 2))) (mt_node 96 (mt_leaf 96 (.inl (o_iload 8 2))) (mt_leaf 98 (.inl (o_if2 (fun x y => decide (y < x)) 145))))))))
theorem mb_252_0_ok {g : xe_G} : mt_all (mi_ent g mI (mI 252)) (mb_252_0 g) := mt_node_ok (mt_node_ok (mt_node_ok (mt_node_ok (mt_node_ok (mt_leaf_ok (en_o (sm_iconst dX12_utf8_0 rfl))) (mt_node_ok (mt_leaf_ok (en_s (sm_istore dX12_utf8_1 (by decide)))) (mt_leaf_ok (en_o (sm_iload_n dX12_utf8_3 rfl))))) (mt_node_ok (mt_leaf_ok (en_s (sm_istore dX12_utf8_4 (by decide)))) (mt_node_ok (mt_leaf_ok (en_o (sm_iload_n dX12_utf8_6 rfl))) (mt_leaf_ok (en_o (sm_iload_n dX12_utf8_7 rfl)))))) (mt_node_ok (mt_node_ok (mt_leaf_ok (en_o (sm_iadd dX12_utf8_8))) (mt_node_ok (mt_leaf_ok (en_s (sm_istore dX12_utf8_9 (by decide)))) (mt_leaf_ok (en_o (sm_iload dX12_utf8_11))))) (mt_node_ok (mt_leaf_ok (en_o (sm_iload dX12_utf8_13))) (mt_node_ok (mt_leaf_ok (en_o (sm_icmp_ge dX12_utf8_15 (by decide)))) (mt_leaf_ok (en_o (sm_aload_n dX12_utf8_18 rfl))))))) (mt_node_ok (mt_node_ok (mt_node_ok (mt_leaf_ok (en_o (sm_iload dX12_utf8_19))) (mt_node_ok (mt_leaf_ok ((⟨by decide, bg_972, bg_1000, 224, 1, ⟨by decide, by decide, by decide +kernel⟩, bg_1003, Or.inr ⟨rfl, bg_1004, 12, _, rfl, by decide, rfl, Or.inl ⟨dX12_utf8_21, bg_1005⟩⟩⟩ : mi_cal _ _ _ (mI 248) _ _))) (mt_leaf_ok (en_s (sm_istore dX12_utf8_24 (by decide)))))) (mt_node_ok (mt_leaf_ok (en_o (sm_iload dX12_utf8_26))) (mt_node_ok (mt_leaf_ok (en_o (sm_if_eq dX12_utf8_28 (by decide)))) (mt_leaf_ok (en_o (sm_iload dX12_utf8_31)))))) (mt_node_ok (mt_node_ok (mt_leaf_ok (en_o (sm_sipush dX12_utf8_33 rfl))) (mt_node_ok (mt_leaf_ok (en_o (sm_icmp_ge dX12_utf8_36 (by decide)))) (mt_leaf_ok (en_o (sm_iload dX12_utf8_39))))) (mt_node_ok (mt_leaf_ok (en_o (sm_sipush dX12_utf8_41 rfl))) (mt_node_ok (mt_leaf_ok (en_o (sm_icmp_lt dX12_utf8_44 (by decide)))) (mt_leaf_ok (en_o (sm_iload dX12_utf8_47)))))))) (mt_node_ok (mt_node_ok (mt_node_ok (mt_node_ok (mt_leaf_ok (en_o (sm_sipush dX12_utf8_49 rfl))) (mt_node_ok (mt_leaf_ok (en_o (sm_icmp_gt dX12_utf8_52 (by decide)))) (mt_leaf_ok (en_o (sm_aload_n dX12_utf8_55 rfl))))) (mt_node_ok (mt_leaf_ok (en_o (sm_bipush dX12_utf8_56 rfl))) (mt_node_ok (mt_leaf_ok (en_o (sm_iload dX12_utf8_58))) (mt_leaf_ok ((⟨by decide, bg_972, bg_1010, 242, 2, ⟨by decide, by decide, by decide +kernel⟩, bg_1016, Or.inr ⟨rfl, bg_1017, 12, _, rfl, by decide, rfl, Or.inl ⟨dX12_utf8_60, bg_1018⟩⟩⟩ : mi_cal _ _ _ (mI 256) _ _)))))) (mt_node_ok (mt_node_ok (mt_leaf_ok (sr_nar mi_cz_ok dX12_utf8_63)) (mt_node_ok (mt_leaf_ok (en_o (sm_iload dX12_utf8_64))) (mt_leaf_ok (en_o (sm_sipush dX12_utf8_66 rfl))))) (mt_node_ok (mt_leaf_ok (en_o (sm_icmp_ge dX12_utf8_69 (by decide)))) (mt_node_ok (mt_leaf_ok (en_o (sm_iconst dX12_utf8_72 rfl))) (mt_leaf_ok (en_o (sm_goto dX12_utf8_73 (by decide)))))))) (mt_node_ok (mt_node_ok (mt_node_ok (mt_leaf_ok (en_o (sm_iload dX12_utf8_76))) (mt_node_ok (mt_leaf_ok (en_o (sm_sipush dX12_utf8_78 rfl))) (mt_leaf_ok (en_o (sm_icmp_ge dX12_utf8_81 (by decide)))))) (mt_node_ok (mt_leaf_ok (en_o (sm_iconst dX12_utf8_84 rfl))) (mt_node_ok (mt_leaf_ok (en_o (sm_goto dX12_utf8_85 (by decide)))) (mt_leaf_ok (en_o (sm_iconst dX12_utf8_88 rfl)))))) (mt_node_ok (mt_node_ok (mt_leaf_ok (en_s (sm_istore dX12_utf8_89 (by decide)))) (mt_node_ok (mt_leaf_ok (en_o (sm_iconst dX12_utf8_91 rfl))) (mt_leaf_ok (en_s (sm_istore dX12_utf8_92 (by decide)))))) (mt_node_ok (mt_leaf_ok (en_o (sm_iload dX12_utf8_94))) (mt_node_ok (mt_leaf_ok (en_o (sm_iload dX12_utf8_96))) (mt_leaf_ok (en_o (sm_icmp_gt dX12_utf8_98 (by decide)))))))))
def mb_252_1 (g : xe_G) : Nat → Option mi_N := mt_node 149 (mt_node 123 (mt_node 111 (mt_node 105 (mt_node 101 (mt_leaf 101 (.inl (o_iload 5 2))) (mt_node 103 (mt_leaf 103 (.inl (o_iload 9 2))) (mt_leaf 105 (.inl (o_bin (fun x y => x + y) 1))))) (mt_node 106 (mt_leaf 106 (.inl (o_iload 6 2))) (mt_node 108 (mt_leaf 108 (.inl (o_if2 (fun x y => decide (y ≤ x)) 130))) (mt_leaf 111 (.inl (o_aload 0 1)))))) (mt_node 116 (mt_node 112 (mt_leaf 112 (.inl (o_iload 5 2))) (mt_node 114 (mt_leaf 114 (.inl (o_iload 9 2))) (mt_leaf 116 (.inl (o_bin (fun x y => x + y) 1))))) (mt_node 117 (mt_leaf 117 (.inr (.inl (248, 2, some 12)))) (mt_node 120 (mt_leaf 120 (.inl (o_push (.int 192) 3))) (mt_leaf 123 (.inl (o_bin (fun x y => x &&& y) 1))))))) (mt_node 135 (mt_node 130 (mt_node 124 (mt_leaf 124 (.inl (o_push (.int 128) 3))) (mt_node 127 (mt_leaf 127 (.inl (o_if2 (fun x y => decide (x = y)) 139))) (mt_leaf 130 (.inl (o_aload 0 1))))) (mt_node 131 (mt_leaf 131 (.inl (o_push (.int 6) 2))) (mt_node 133 (mt_leaf 133 (.inl (o_iload 5 2))) (mt_leaf 135 (.inr (.inl (256, 3, some 12))))))) (mt_node 142 (mt_node 138 (mt_leaf 138 (.inr (.inr (r_int mi_cz)))) (mt_node 139 (mt_leaf 139 (.inl (o_iinc 9 1))) (mt_leaf 142 (.inl (o_goto 94))))) (mt_node 145 (mt_leaf 145 (.inl (o_aload 0 1))) (mt_node 146 (mt_leaf 146 (.inl (o_get 12 2))) (mt_leaf 149 (.inl (o_iload 4 2)))))))) (mt_node 175 (mt_node 164 (mt_node 156 (mt_node 151 (mt_leaf 151 (.inl (o_iinc 4 1))) (mt_node 154 (mt_leaf 154 (.inl (o_iload 8 2))) (mt_leaf 156 (.inl (o_if (fun x => decide (¬ x = 0)) 164))))) (mt_node 159 (mt_leaf 159 (.inl (o_iload 7 2))) (mt_node 161 (mt_leaf 161 (.inl (o_goto 228))) (mt_leaf 164 (.inl (o_iload 8 2)))))) (mt_node 170 (mt_node 166 (mt_leaf 166 (.inl (o_push (.int 1) 1))) (mt_node 167 (mt_leaf 167 (.inl (o_if2 (fun x y => decide (¬ x = y)) 193))) (mt_leaf 170 (.inl (o_iload 7 2))))) (mt_node 172 (mt_leaf 172 (.inl (o_push (.int 31) 2))) (mt_node 174 (mt_leaf 174 (.inl (o_bin (fun x y => x &&& y) 1))) (mt_leaf 175 (.inl (o_push (.int 6) 2))))))) (mt_node 183 (mt_node 179 (mt_node 177 (mt_leaf 177 (.inl (o_bin (fun x y => x <<< (y &&& 31)) 1))) (mt_node 178 (mt_leaf 178 (.inl (o_aload 0 1))) (mt_leaf 179 (.inl (o_iload 5 2))))) (mt_node 181 (mt_leaf 181 (.inl (o_push (.int 1) 1))) (mt_node 182 (mt_leaf 182 (.inl (o_bin (fun x y => x + y) 1))) (mt_leaf 183 (.inr (.inl (248, 2, some 12))))))) (mt_node 189 (mt_node 186 (mt_leaf 186 (.inl (o_push (.int 63) 2))) (mt_node 188 (mt_leaf 188 (.inl (o_bin (fun x y => x &&& y) 1))) (mt_leaf 189 (.inl (o_bin (fun x y => x ||| y) 1))))) (mt_node 190 (mt_leaf 190 (.inl (o_goto 228))) (mt_node 193 (mt_leaf 193 (.inl (o_iload 7 2))) (mt_leaf 195 (.inl (o_push (.int 15) 2))))))))
theorem mb_252_1_ok {g : xe_G} : mt_all (mi_ent g mI (mI 252)) (mb_252_1 g) := mt_node_ok (mt_node_ok (mt_node_ok (mt_node_ok (mt_node_ok (mt_leaf_ok (en_o (sm_iload dX12_utf8_101))) (mt_node_ok (mt_leaf_ok (en_o (sm_iload dX12_utf8_103))) (mt_leaf_ok (en_o (sm_iadd dX12_utf8_105))))) (mt_node_ok (mt_leaf_ok (en_o (sm_iload dX12_utf8_106))) (mt_node_ok (mt_leaf_ok (en_o (sm_icmp_ge dX12_utf8_108 (by decide)))) (mt_leaf_ok (en_o (sm_aload_n dX12_utf8_111 rfl)))))) (mt_node_ok (mt_node_ok (mt_leaf_ok (en_o (sm_iload dX12_utf8_112))) (mt_node_ok (mt_leaf_ok (en_o (sm_iload dX12_utf8_114))) (mt_leaf_ok (en_o (sm_iadd dX12_utf8_116))))) (mt_node_ok (mt_leaf_ok ((⟨by decide, bg_972, bg_1000, 224, 1, ⟨by decide, by decide, by decide +kernel⟩, bg_1003, Or.inr ⟨rfl, bg_1004, 12, _, rfl, by decide, rfl, Or.inl ⟨dX12_utf8_117, bg_1005⟩⟩⟩ : mi_cal _ _ _ (mI 248) _ _))) (mt_node_ok (mt_leaf_ok (en_o (sm_sipush dX12_utf8_120 rfl))) (mt_leaf_ok (en_o (sm_iand dX12_utf8_123))))))) (mt_node_ok (mt_node_ok (mt_node_ok (mt_leaf_ok (en_o (sm_sipush dX12_utf8_124 rfl))) (mt_node_ok (mt_leaf_ok (en_o (sm_icmp_eq dX12_utf8_127 (by decide)))) (mt_leaf_ok (en_o (sm_aload_n dX12_utf8_130 rfl))))) (mt_node_ok (mt_leaf_ok (en_o (sm_bipush dX12_utf8_131 rfl))) (mt_node_ok (mt_leaf_ok (en_o (sm_iload dX12_utf8_133))) (mt_leaf_ok ((⟨by decide, bg_972, bg_1010, 242, 2, ⟨by decide, by decide, by decide +kernel⟩, bg_1016, Or.inr ⟨rfl, bg_1017, 12, _, rfl, by decide, rfl, Or.inl ⟨dX12_utf8_135, bg_1018⟩⟩⟩ : mi_cal _ _ _ (mI 256) _ _)))))) (mt_node_ok (mt_node_ok (mt_leaf_ok (sr_nar mi_cz_ok dX12_utf8_138)) (mt_node_ok (mt_leaf_ok (en_s (sm_iinc dX12_utf8_139 rfl (by decide)))) (mt_leaf_ok (en_o (sm_goto dX12_utf8_142 (by decide)))))) (mt_node_ok (mt_leaf_ok (en_o (sm_aload_n dX12_utf8_145 rfl))) (mt_node_ok (mt_leaf_ok (en_o (sm_get (T := TX12) (by decide) rfl bi_X12 (by decide) bg_923 dX12_utf8_146))) (mt_leaf_ok (en_o (sm_iload dX12_utf8_149)))))))) (mt_node_ok (mt_node_ok (mt_node_ok (mt_node_ok (mt_leaf_ok (en_s (sm_iinc dX12_utf8_151 rfl (by decide)))) (mt_node_ok (mt_leaf_ok (en_o (sm_iload dX12_utf8_154))) (mt_leaf_ok (en_o (sm_if_ne dX12_utf8_156 (by decide)))))) (mt_node_ok (mt_leaf_ok (en_o (sm_iload dX12_utf8_159))) (mt_node_ok (mt_leaf_ok (en_o (sm_goto dX12_utf8_161 (by decide)))) (mt_leaf_ok (en_o (sm_iload dX12_utf8_164)))))) (mt_node_ok (mt_node_ok (mt_leaf_ok (en_o (sm_iconst dX12_utf8_166 rfl))) (mt_node_ok (mt_leaf_ok (en_o (sm_icmp_ne dX12_utf8_167 (by decide)))) (mt_leaf_ok (en_o (sm_iload dX12_utf8_170))))) (mt_node_ok (mt_leaf_ok (en_o (sm_bipush dX12_utf8_172 rfl))) (mt_node_ok (mt_leaf_ok (en_o (sm_iand dX12_utf8_174))) (mt_leaf_ok (en_o (sm_bipush dX12_utf8_175 rfl))))))) (mt_node_ok (mt_node_ok (mt_node_ok (mt_leaf_ok (en_o (sm_ishl dX12_utf8_177))) (mt_node_ok (mt_leaf_ok (en_o (sm_aload_n dX12_utf8_178 rfl))) (mt_leaf_ok (en_o (sm_iload dX12_utf8_179))))) (mt_node_ok (mt_leaf_ok (en_o (sm_iconst dX12_utf8_181 rfl))) (mt_node_ok (mt_leaf_ok (en_o (sm_iadd dX12_utf8_182))) (mt_leaf_ok ((⟨by decide, bg_972, bg_1000, 224, 1, ⟨by decide, by decide, by decide +kernel⟩, bg_1003, Or.inr ⟨rfl, bg_1004, 12, _, rfl, by decide, rfl, Or.inl ⟨dX12_utf8_183, bg_1005⟩⟩⟩ : mi_cal _ _ _ (mI 248) _ _)))))) (mt_node_ok (mt_node_ok (mt_leaf_ok (en_o (sm_bipush dX12_utf8_186 rfl))) (mt_node_ok (mt_leaf_ok (en_o (sm_iand dX12_utf8_188))) (mt_leaf_ok (en_o (sm_ior dX12_utf8_189))))) (mt_node_ok (mt_leaf_ok (en_o (sm_goto dX12_utf8_190 (by decide)))) (mt_node_ok (mt_leaf_ok (en_o (sm_iload dX12_utf8_193))) (mt_leaf_ok (en_o (sm_bipush dX12_utf8_195 rfl))))))))
def mb_252_2 (g : xe_G) : Nat → Option mi_N := mt_node 224 (mt_node 209 (mt_node 201 (mt_node 198 (mt_node 197 (mt_leaf 197 (.inl (o_bin (fun x y => x &&& y) 1))) (mt_leaf 198 (.inl (o_push (.int 12) 2)))) (mt_node 200 (mt_leaf 200 (.inl (o_bin (fun x y => x <<< (y &&& 31)) 1))) (mt_leaf 201 (.inl (o_aload 0 1))))) (mt_node 204 (mt_node 202 (mt_leaf 202 (.inl (o_iload 5 2))) (mt_leaf 204 (.inl (o_push (.int 1) 1)))) (mt_node 205 (mt_leaf 205 (.inl (o_bin (fun x y => x + y) 1))) (mt_node 206 (mt_leaf 206 (.inr (.inl (248, 2, some 12)))) (mt_leaf 209 (.inl (o_push (.int 63) 2))))))) (mt_node 216 (mt_node 212 (mt_node 211 (mt_leaf 211 (.inl (o_bin (fun x y => x &&& y) 1))) (mt_leaf 212 (.inl (o_push (.int 6) 2)))) (mt_node 214 (mt_leaf 214 (.inl (o_bin (fun x y => x <<< (y &&& 31)) 1))) (mt_node 215 (mt_leaf 215 (.inl (o_bin (fun x y => x ||| y) 1))) (mt_leaf 216 (.inl (o_aload 0 1)))))) (mt_node 219 (mt_node 217 (mt_leaf 217 (.inl (o_iload 5 2))) (mt_leaf 219 (.inl (o_push (.int 2) 1)))) (mt_node 220 (mt_leaf 220 (.inl (o_bin (fun x y => x + y) 1))) (mt_node 221 (mt_leaf 221 (.inr (.inl (248, 2, some 12)))) (mt_leaf 224 (.inl (o_push (.int 63) 2)))))))) (mt_node 237 (mt_node 230 (mt_node 227 (mt_node 226 (mt_leaf 226 (.inl (o_bin (fun x y => x &&& y) 1))) (mt_leaf 227 (.inl (o_bin (fun x y => x ||| y) 1)))) (mt_node 228 (mt_leaf 228 (.inl (o_un (fun x => (x.toUInt32 % 65536).toInt32)))) (mt_node 229 (mt_leaf 229 (.inl (o_ast .char (vp_nar .char)))) (mt_leaf 230 (.inl (o_iload 5 2)))))) (mt_node 234 (mt_node 232 (mt_leaf 232 (.inl (o_iload 8 2))) (mt_leaf 234 (.inl (o_push (.int 1) 1)))) (mt_node 235 (mt_leaf 235 (.inl (o_bin (fun x y => x + y) 1))) (mt_node 236 (mt_leaf 236 (.inl (o_bin (fun x y => x + y) 1))) (mt_leaf 237 (.inl (o_isto 5 2))))))) (mt_node 247 (mt_node 242 (mt_node 239 (mt_leaf 239 (.inl (o_goto 11))) (mt_leaf 242 (.inl (o_aload 0 1)))) (mt_node 243 (mt_leaf 243 (.inl (o_get 12 22))) (mt_node 246 (mt_leaf 246 (.inl (o_iload 1 1))) (mt_leaf 247 (.inl (o_aload 0 1)))))) (mt_node 250 (mt_node 248 (mt_leaf 248 (.inl (o_iload 4 2))) (mt_leaf 250 (.inr (.inl (245, 2, some 12))))) (mt_node 253 (mt_leaf 253 (.inl (o_ast .int (fun x => x)))) (mt_node 254 (mt_leaf 254 (.inl (o_push (.int 1) 1))) (mt_leaf 255 (.inr (.inr (r_int mi_cz)))))))))
theorem mb_252_2_ok {g : xe_G} : mt_all (mi_ent g mI (mI 252)) (mb_252_2 g) := mt_node_ok (mt_node_ok (mt_node_ok (mt_node_ok (mt_node_ok (mt_leaf_ok (en_o (sm_iand dX12_utf8_197))) (mt_leaf_ok (en_o (sm_bipush dX12_utf8_198 rfl)))) (mt_node_ok (mt_leaf_ok (en_o (sm_ishl dX12_utf8_200))) (mt_leaf_ok (en_o (sm_aload_n dX12_utf8_201 rfl))))) (mt_node_ok (mt_node_ok (mt_leaf_ok (en_o (sm_iload dX12_utf8_202))) (mt_leaf_ok (en_o (sm_iconst dX12_utf8_204 rfl)))) (mt_node_ok (mt_leaf_ok (en_o (sm_iadd dX12_utf8_205))) (mt_node_ok (mt_leaf_ok ((⟨by decide, bg_972, bg_1000, 224, 1, ⟨by decide, by decide, by decide +kernel⟩, bg_1003, Or.inr ⟨rfl, bg_1004, 12, _, rfl, by decide, rfl, Or.inl ⟨dX12_utf8_206, bg_1005⟩⟩⟩ : mi_cal _ _ _ (mI 248) _ _))) (mt_leaf_ok (en_o (sm_bipush dX12_utf8_209 rfl))))))) (mt_node_ok (mt_node_ok (mt_node_ok (mt_leaf_ok (en_o (sm_iand dX12_utf8_211))) (mt_leaf_ok (en_o (sm_bipush dX12_utf8_212 rfl)))) (mt_node_ok (mt_leaf_ok (en_o (sm_ishl dX12_utf8_214))) (mt_node_ok (mt_leaf_ok (en_o (sm_ior dX12_utf8_215))) (mt_leaf_ok (en_o (sm_aload_n dX12_utf8_216 rfl)))))) (mt_node_ok (mt_node_ok (mt_leaf_ok (en_o (sm_iload dX12_utf8_217))) (mt_leaf_ok (en_o (sm_iconst dX12_utf8_219 rfl)))) (mt_node_ok (mt_leaf_ok (en_o (sm_iadd dX12_utf8_220))) (mt_node_ok (mt_leaf_ok ((⟨by decide, bg_972, bg_1000, 224, 1, ⟨by decide, by decide, by decide +kernel⟩, bg_1003, Or.inr ⟨rfl, bg_1004, 12, _, rfl, by decide, rfl, Or.inl ⟨dX12_utf8_221, bg_1005⟩⟩⟩ : mi_cal _ _ _ (mI 248) _ _))) (mt_leaf_ok (en_o (sm_bipush dX12_utf8_224 rfl)))))))) (mt_node_ok (mt_node_ok (mt_node_ok (mt_node_ok (mt_leaf_ok (en_o (sm_iand dX12_utf8_226))) (mt_leaf_ok (en_o (sm_ior dX12_utf8_227)))) (mt_node_ok (mt_leaf_ok (en_o (sm_i2c dX12_utf8_228))) (mt_node_ok (mt_leaf_ok (en_s (sm_cast dX12_utf8_229))) (mt_leaf_ok (en_o (sm_iload dX12_utf8_230)))))) (mt_node_ok (mt_node_ok (mt_leaf_ok (en_o (sm_iload dX12_utf8_232))) (mt_leaf_ok (en_o (sm_iconst dX12_utf8_234 rfl)))) (mt_node_ok (mt_leaf_ok (en_o (sm_iadd dX12_utf8_235))) (mt_node_ok (mt_leaf_ok (en_o (sm_iadd dX12_utf8_236))) (mt_leaf_ok (en_s (sm_istore dX12_utf8_237 (by decide)))))))) (mt_node_ok (mt_node_ok (mt_node_ok (mt_leaf_ok (en_o (sm_goto dX12_utf8_239 (by decide)))) (mt_leaf_ok (en_o (sm_aload_n dX12_utf8_242 rfl)))) (mt_node_ok (mt_leaf_ok (en_o (sm_get (T := TX12) (by decide) rfl bi_X12 (by decide) bg_937 dX12_utf8_243))) (mt_node_ok (mt_leaf_ok (en_o (sm_iload_n dX12_utf8_246 rfl))) (mt_leaf_ok (en_o (sm_aload_n dX12_utf8_247 rfl)))))) (mt_node_ok (mt_node_ok (mt_leaf_ok (en_o (sm_iload dX12_utf8_248))) (mt_leaf_ok ((⟨by decide, bg_972, bg_988, 212, 1, ⟨by decide, by decide, by decide +kernel⟩, bg_987, Or.inr ⟨rfl, bg_989, 12, _, rfl, by decide, rfl, Or.inl ⟨dX12_utf8_250, bg_990⟩⟩⟩ : mi_cal _ _ _ (mI 245) _ _)))) (mt_node_ok (mt_leaf_ok (en_s (sm_iast dX12_utf8_253))) (mt_node_ok (mt_leaf_ok (en_o (sm_iconst dX12_utf8_254 rfl))) (mt_leaf_ok (sr_nar mi_cz_ok dX12_utf8_255)))))))
def mb_252 (g : xe_G) : Nat × mi_B := (10, mt_node 98 (mb_252_0 g) (mt_node 195 (mb_252_1 g) (mb_252_2 g)), mk_node 64 (mk_node 11 (mk_leaf 11 [0, 1, 4, 5, 6]) (mk_node 55 (mk_leaf 55 [0, 5]) (mk_leaf 64 [0, 1, 4, 5, 6, 7]))) (mk_node 94 (mk_node 89 (mk_leaf 89 [0, 1, 4, 5, 6, 7]) (mk_leaf 94 [0, 1, 4, 5, 6, 7, 8, 9])) (mk_node 130 (mk_leaf 130 [0, 5]) (mk_leaf 228 [0, 1, 4, 5, 6, 8]))))
theorem mb_252_ok {g : xe_G} : mi_meth g mI (mI 252) (mb_252 g) := ⟨rfl, by decide, mt_node_ok (mb_252_0_ok) (mt_node_ok (mb_252_1_ok) (mb_252_2_ok))⟩
theorem dX12_wayAt_0 : decode cX12_wayAt 0 = .ok (.iload_n 1, 1) := by decide +kernel
theorem dX12_wayAt_1 : decode cX12_wayAt 1 = .ok (.invokestatic 488, 3) := by decide +kernel
theorem dX12_wayAt_4 : decode cX12_wayAt 4 = .ok (.istore_n 3, 1) := by decide +kernel
theorem dX12_wayAt_5 : decode cX12_wayAt 5 = .ok (.iload_n 2, 1) := by decide +kernel
theorem dX12_wayAt_6 : decode cX12_wayAt 6 = .ok (.ifCond .ne 7, 3) := by decide +kernel
theorem dX12_wayAt_9 : decode cX12_wayAt 9 = .ok (.iload_n 3, 1) := by decide +kernel
theorem dX12_wayAt_10 : decode cX12_wayAt 10 = .ok (.goto 33, 3) := by decide +kernel
theorem dX12_wayAt_13 : decode cX12_wayAt 13 = .ok (.aload_n 0, 1) := by decide +kernel
theorem dX12_wayAt_14 : decode cX12_wayAt 14 = .ok (.iload_n 1, 1) := by decide +kernel
theorem dX12_wayAt_15 : decode cX12_wayAt 15 = .ok (.invokevirtual 474, 3) := by decide +kernel
theorem dX12_wayAt_18 : decode cX12_wayAt 18 = .ok (.sipush 170, 3) := by decide +kernel
theorem dX12_wayAt_21 : decode cX12_wayAt 21 = .ok (.if_icmp .ne 14, 3) := by decide +kernel
theorem dX12_wayAt_24 : decode cX12_wayAt 24 = .ok (.iload_n 3, 1) := by decide +kernel
theorem dX12_wayAt_25 : decode cX12_wayAt 25 = .ok (.bipush 8, 2) := by decide +kernel
theorem dX12_wayAt_27 : decode cX12_wayAt 27 = .ok (.iadd, 1) := by decide +kernel
theorem dX12_wayAt_28 : decode cX12_wayAt 28 = .ok (.iconst 4, 1) := by decide +kernel
theorem dX12_wayAt_29 : decode cX12_wayAt 29 = .ok (.iload_n 2, 1) := by decide +kernel
theorem dX12_wayAt_30 : decode cX12_wayAt 30 = .ok (.imul, 1) := by decide +kernel
theorem dX12_wayAt_31 : decode cX12_wayAt 31 = .ok (.iadd, 1) := by decide +kernel
theorem dX12_wayAt_32 : decode cX12_wayAt 32 = .ok (.goto 11, 3) := by decide +kernel
theorem dX12_wayAt_35 : decode cX12_wayAt 35 = .ok (.iload_n 3, 1) := by decide +kernel
theorem dX12_wayAt_36 : decode cX12_wayAt 36 = .ok (.iconst 4, 1) := by decide +kernel
theorem dX12_wayAt_37 : decode cX12_wayAt 37 = .ok (.iadd, 1) := by decide +kernel
theorem dX12_wayAt_38 : decode cX12_wayAt 38 = .ok (.bipush 8, 2) := by decide +kernel
theorem dX12_wayAt_40 : decode cX12_wayAt 40 = .ok (.iload_n 2, 1) := by decide +kernel
theorem dX12_wayAt_41 : decode cX12_wayAt 41 = .ok (.imul, 1) := by decide +kernel
theorem dX12_wayAt_42 : decode cX12_wayAt 42 = .ok (.iadd, 1) := by decide +kernel
theorem dX12_wayAt_43 : decode cX12_wayAt 43 = .ok (.ireturn, 1) := by decide +kernel
def mb_253_0 (g : xe_G) : Nat → Option mi_N := mt_node 25 (mt_node 10 (mt_node 4 (mt_node 0 (mt_leaf 0 (.inl (o_iload 1 1))) (mt_node 1 (mt_leaf 1 (.inr (.inl (229, 1, none)))) (mt_leaf 4 (.inl (o_isto 3 1))))) (mt_node 6 (mt_node 5 (mt_leaf 5 (.inl (o_iload 2 1))) (mt_leaf 6 (.inl (o_if (fun x => decide (¬ x = 0)) 13)))) (mt_node 9 (mt_leaf 9 (.inl (o_iload 3 1))) (mt_leaf 10 (.inl (o_goto 43)))))) (mt_node 15 (mt_node 13 (mt_leaf 13 (.inl (o_aload 0 1))) (mt_node 14 (mt_leaf 14 (.inl (o_iload 1 1))) (mt_leaf 15 (.inr (.inl (179, 2, some 12)))))) (mt_node 21 (mt_node 18 (mt_leaf 18 (.inl (o_push (.int 170) 3))) (mt_leaf 21 (.inl (o_if2 (fun x y => decide (¬ x = y)) 35)))) (mt_node 24 (mt_leaf 24 (.inl (o_iload 3 1))) (mt_leaf 25 (.inl (o_push (.int 8) 2))))))) (mt_node 35 (mt_node 29 (mt_node 27 (mt_leaf 27 (.inl (o_bin (fun x y => x + y) 1))) (mt_node 28 (mt_leaf 28 (.inl (o_push (.int 4) 1))) (mt_leaf 29 (.inl (o_iload 2 1))))) (mt_node 31 (mt_node 30 (mt_leaf 30 (.inl (o_bin (fun x y => x * y) 1))) (mt_leaf 31 (.inl (o_bin (fun x y => x + y) 1)))) (mt_node 32 (mt_leaf 32 (.inl (o_goto 43))) (mt_leaf 35 (.inl (o_iload 3 1)))))) (mt_node 38 (mt_node 36 (mt_leaf 36 (.inl (o_push (.int 4) 1))) (mt_node 37 (mt_leaf 37 (.inl (o_bin (fun x y => x + y) 1))) (mt_leaf 38 (.inl (o_push (.int 8) 2))))) (mt_node 41 (mt_node 40 (mt_leaf 40 (.inl (o_iload 2 1))) (mt_leaf 41 (.inl (o_bin (fun x y => x * y) 1)))) (mt_node 42 (mt_leaf 42 (.inl (o_bin (fun x y => x + y) 1))) (mt_leaf 43 (.inr (.inr (r_int (fun _ => true)))))))))
theorem mb_253_0_ok {g : xe_G} : mt_all (mi_ent g mI (mI 253)) (mb_253_0 g) := mt_node_ok (mt_node_ok (mt_node_ok (mt_node_ok (mt_leaf_ok (en_o (sm_iload_n dX12_wayAt_0 rfl))) (mt_node_ok (mt_leaf_ok ((⟨by decide, bg_972, bg_1222, 488, 1, ⟨by decide, by decide, by decide +kernel⟩, bg_1244, Or.inl ⟨dX12_wayAt_1, rfl, rfl, bg_1245⟩⟩ : mi_cal _ _ _ (mI 229) _ _))) (mt_leaf_ok (en_s (sm_istore_n dX12_wayAt_4 rfl (by decide)))))) (mt_node_ok (mt_node_ok (mt_leaf_ok (en_o (sm_iload_n dX12_wayAt_5 rfl))) (mt_leaf_ok (en_o (sm_if_ne dX12_wayAt_6 (by decide))))) (mt_node_ok (mt_leaf_ok (en_o (sm_iload_n dX12_wayAt_9 rfl))) (mt_leaf_ok (en_o (sm_goto dX12_wayAt_10 (by decide))))))) (mt_node_ok (mt_node_ok (mt_leaf_ok (en_o (sm_aload_n dX12_wayAt_13 rfl))) (mt_node_ok (mt_leaf_ok (en_o (sm_iload_n dX12_wayAt_14 rfl))) (mt_leaf_ok ((⟨by decide, bg_972, bg_1214, 474, 1, ⟨by decide, by decide, by decide +kernel⟩, bg_1229, Or.inr ⟨rfl, bg_1230, 12, _, rfl, by decide, rfl, Or.inl ⟨dX12_wayAt_15, bg_1231⟩⟩⟩ : mi_cal _ _ _ (mI 179) _ _))))) (mt_node_ok (mt_node_ok (mt_leaf_ok (en_o (sm_sipush dX12_wayAt_18 rfl))) (mt_leaf_ok (en_o (sm_icmp_ne dX12_wayAt_21 (by decide))))) (mt_node_ok (mt_leaf_ok (en_o (sm_iload_n dX12_wayAt_24 rfl))) (mt_leaf_ok (en_o (sm_bipush dX12_wayAt_25 rfl))))))) (mt_node_ok (mt_node_ok (mt_node_ok (mt_leaf_ok (en_o (sm_iadd dX12_wayAt_27))) (mt_node_ok (mt_leaf_ok (en_o (sm_iconst dX12_wayAt_28 rfl))) (mt_leaf_ok (en_o (sm_iload_n dX12_wayAt_29 rfl))))) (mt_node_ok (mt_node_ok (mt_leaf_ok (en_o (sm_imul dX12_wayAt_30))) (mt_leaf_ok (en_o (sm_iadd dX12_wayAt_31)))) (mt_node_ok (mt_leaf_ok (en_o (sm_goto dX12_wayAt_32 (by decide)))) (mt_leaf_ok (en_o (sm_iload_n dX12_wayAt_35 rfl)))))) (mt_node_ok (mt_node_ok (mt_leaf_ok (en_o (sm_iconst dX12_wayAt_36 rfl))) (mt_node_ok (mt_leaf_ok (en_o (sm_iadd dX12_wayAt_37))) (mt_leaf_ok (en_o (sm_bipush dX12_wayAt_38 rfl))))) (mt_node_ok (mt_node_ok (mt_leaf_ok (en_o (sm_iload_n dX12_wayAt_40 rfl))) (mt_leaf_ok (en_o (sm_imul dX12_wayAt_41)))) (mt_node_ok (mt_leaf_ok (en_o (sm_iadd dX12_wayAt_42))) (mt_leaf_ok (sr_int dX12_wayAt_43))))))
def mb_253 (g : xe_G) : Nat × mi_B := (4, mb_253_0 g, mk_leaf 43 [])
theorem mb_253_ok {g : xe_G} : mi_meth g mI (mI 253) (mb_253 g) := ⟨rfl, by decide, mb_253_0_ok⟩
theorem dX12_ways_0 : decode cX12_ways 0 = .ok (.iload_n 1, 1) := by decide +kernel
theorem dX12_ways_1 : decode cX12_ways 1 = .ok (.invokestatic 488, 3) := by decide +kernel
theorem dX12_ways_4 : decode cX12_ways 4 = .ok (.istore_n 2, 1) := by decide +kernel
theorem dX12_ways_5 : decode cX12_ways 5 = .ok (.iconst 1, 1) := by decide +kernel
theorem dX12_ways_6 : decode cX12_ways 6 = .ok (.aload_n 0, 1) := by decide +kernel
theorem dX12_ways_7 : decode cX12_ways 7 = .ok (.iload_n 1, 1) := by decide +kernel
theorem dX12_ways_8 : decode cX12_ways 8 = .ok (.invokevirtual 474, 3) := by decide +kernel
theorem dX12_ways_11 : decode cX12_ways 11 = .ok (.sipush 170, 3) := by decide +kernel
theorem dX12_ways_14 : decode cX12_ways 14 = .ok (.if_icmp .ne 24, 3) := by decide +kernel
theorem dX12_ways_17 : decode cX12_ways 17 = .ok (.aload_n 0, 1) := by decide +kernel
theorem dX12_ways_18 : decode cX12_ways 18 = .ok (.iload_n 2, 1) := by decide +kernel
theorem dX12_ways_19 : decode cX12_ways 19 = .ok (.bipush 8, 2) := by decide +kernel
theorem dX12_ways_21 : decode cX12_ways 21 = .ok (.iadd, 1) := by decide +kernel
theorem dX12_ways_22 : decode cX12_ways 22 = .ok (.invokevirtual 491, 3) := by decide +kernel
theorem dX12_ways_25 : decode cX12_ways 25 = .ok (.aload_n 0, 1) := by decide +kernel
theorem dX12_ways_26 : decode cX12_ways 26 = .ok (.iload_n 2, 1) := by decide +kernel
theorem dX12_ways_27 : decode cX12_ways 27 = .ok (.iconst 4, 1) := by decide +kernel
theorem dX12_ways_28 : decode cX12_ways 28 = .ok (.iadd, 1) := by decide +kernel
theorem dX12_ways_29 : decode cX12_ways 29 = .ok (.invokevirtual 491, 3) := by decide +kernel
theorem dX12_ways_32 : decode cX12_ways 32 = .ok (.isub, 1) := by decide +kernel
theorem dX12_ways_33 : decode cX12_ways 33 = .ok (.iconst 1, 1) := by decide +kernel
theorem dX12_ways_34 : decode cX12_ways 34 = .ok (.iadd, 1) := by decide +kernel
theorem dX12_ways_35 : decode cX12_ways 35 = .ok (.goto 10, 3) := by decide +kernel
theorem dX12_ways_38 : decode cX12_ways 38 = .ok (.aload_n 0, 1) := by decide +kernel
theorem dX12_ways_39 : decode cX12_ways 39 = .ok (.iload_n 2, 1) := by decide +kernel
theorem dX12_ways_40 : decode cX12_ways 40 = .ok (.iconst 4, 1) := by decide +kernel
theorem dX12_ways_41 : decode cX12_ways 41 = .ok (.iadd, 1) := by decide +kernel
theorem dX12_ways_42 : decode cX12_ways 42 = .ok (.invokevirtual 491, 3) := by decide +kernel
theorem dX12_ways_45 : decode cX12_ways 45 = .ok (.iadd, 1) := by decide +kernel
theorem dX12_ways_46 : decode cX12_ways 46 = .ok (.ireturn, 1) := by decide +kernel
def mb_254_0 (g : xe_G) : Nat → Option mi_N := mt_node 25 (mt_node 8 (mt_node 4 (mt_node 0 (mt_leaf 0 (.inl (o_iload 1 1))) (mt_node 1 (mt_leaf 1 (.inr (.inl (229, 1, none)))) (mt_leaf 4 (.inl (o_isto 2 1))))) (mt_node 6 (mt_node 5 (mt_leaf 5 (.inl (o_push (.int 1) 1))) (mt_leaf 6 (.inl (o_aload 0 1)))) (mt_node 7 (mt_leaf 7 (.inl (o_iload 1 1))) (mt_leaf 8 (.inr (.inl (179, 2, some 12))))))) (mt_node 18 (mt_node 14 (mt_node 11 (mt_leaf 11 (.inl (o_push (.int 170) 3))) (mt_leaf 14 (.inl (o_if2 (fun x y => decide (¬ x = y)) 38)))) (mt_node 17 (mt_leaf 17 (.inl (o_aload 0 1))) (mt_leaf 18 (.inl (o_iload 2 1))))) (mt_node 21 (mt_node 19 (mt_leaf 19 (.inl (o_push (.int 8) 2))) (mt_leaf 21 (.inl (o_bin (fun x y => x + y) 1)))) (mt_node 22 (mt_leaf 22 (.inr (.inl (181, 2, some 12)))) (mt_leaf 25 (.inl (o_aload 0 1))))))) (mt_node 34 (mt_node 28 (mt_node 26 (mt_leaf 26 (.inl (o_iload 2 1))) (mt_node 27 (mt_leaf 27 (.inl (o_push (.int 4) 1))) (mt_leaf 28 (.inl (o_bin (fun x y => x + y) 1))))) (mt_node 32 (mt_node 29 (mt_leaf 29 (.inr (.inl (181, 2, some 12)))) (mt_leaf 32 (.inl (o_bin (fun x y => x - y) 1)))) (mt_node 33 (mt_leaf 33 (.inl (o_push (.int 1) 1))) (mt_leaf 34 (.inl (o_bin (fun x y => x + y) 1)))))) (mt_node 40 (mt_node 38 (mt_node 35 (mt_leaf 35 (.inl (o_goto 45))) (mt_leaf 38 (.inl (o_aload 0 1)))) (mt_node 39 (mt_leaf 39 (.inl (o_iload 2 1))) (mt_leaf 40 (.inl (o_push (.int 4) 1))))) (mt_node 42 (mt_node 41 (mt_leaf 41 (.inl (o_bin (fun x y => x + y) 1))) (mt_leaf 42 (.inr (.inl (181, 2, some 12))))) (mt_node 45 (mt_leaf 45 (.inl (o_bin (fun x y => x + y) 1))) (mt_leaf 46 (.inr (.inr (r_int (fun _ => true)))))))))
theorem mb_254_0_ok {g : xe_G} : mt_all (mi_ent g mI (mI 254)) (mb_254_0 g) := mt_node_ok (mt_node_ok (mt_node_ok (mt_node_ok (mt_leaf_ok (en_o (sm_iload_n dX12_ways_0 rfl))) (mt_node_ok (mt_leaf_ok ((⟨by decide, bg_972, bg_1222, 488, 1, ⟨by decide, by decide, by decide +kernel⟩, bg_1244, Or.inl ⟨dX12_ways_1, rfl, rfl, bg_1245⟩⟩ : mi_cal _ _ _ (mI 229) _ _))) (mt_leaf_ok (en_s (sm_istore_n dX12_ways_4 rfl (by decide)))))) (mt_node_ok (mt_node_ok (mt_leaf_ok (en_o (sm_iconst dX12_ways_5 rfl))) (mt_leaf_ok (en_o (sm_aload_n dX12_ways_6 rfl)))) (mt_node_ok (mt_leaf_ok (en_o (sm_iload_n dX12_ways_7 rfl))) (mt_leaf_ok ((⟨by decide, bg_972, bg_1214, 474, 1, ⟨by decide, by decide, by decide +kernel⟩, bg_1229, Or.inr ⟨rfl, bg_1230, 12, _, rfl, by decide, rfl, Or.inl ⟨dX12_ways_8, bg_1231⟩⟩⟩ : mi_cal _ _ _ (mI 179) _ _)))))) (mt_node_ok (mt_node_ok (mt_node_ok (mt_leaf_ok (en_o (sm_sipush dX12_ways_11 rfl))) (mt_leaf_ok (en_o (sm_icmp_ne dX12_ways_14 (by decide))))) (mt_node_ok (mt_leaf_ok (en_o (sm_aload_n dX12_ways_17 rfl))) (mt_leaf_ok (en_o (sm_iload_n dX12_ways_18 rfl))))) (mt_node_ok (mt_node_ok (mt_leaf_ok (en_o (sm_bipush dX12_ways_19 rfl))) (mt_leaf_ok (en_o (sm_iadd dX12_ways_21)))) (mt_node_ok (mt_leaf_ok ((⟨by decide, bg_972, bg_1221, 491, 1, ⟨by decide, by decide, by decide +kernel⟩, bg_1246, Or.inr ⟨rfl, bg_1247, 12, _, rfl, by decide, rfl, Or.inl ⟨dX12_ways_22, bg_1248⟩⟩⟩ : mi_cal _ _ _ (mI 181) _ _))) (mt_leaf_ok (en_o (sm_aload_n dX12_ways_25 rfl))))))) (mt_node_ok (mt_node_ok (mt_node_ok (mt_leaf_ok (en_o (sm_iload_n dX12_ways_26 rfl))) (mt_node_ok (mt_leaf_ok (en_o (sm_iconst dX12_ways_27 rfl))) (mt_leaf_ok (en_o (sm_iadd dX12_ways_28))))) (mt_node_ok (mt_node_ok (mt_leaf_ok ((⟨by decide, bg_972, bg_1221, 491, 1, ⟨by decide, by decide, by decide +kernel⟩, bg_1246, Or.inr ⟨rfl, bg_1247, 12, _, rfl, by decide, rfl, Or.inl ⟨dX12_ways_29, bg_1248⟩⟩⟩ : mi_cal _ _ _ (mI 181) _ _))) (mt_leaf_ok (en_o (sm_isub dX12_ways_32)))) (mt_node_ok (mt_leaf_ok (en_o (sm_iconst dX12_ways_33 rfl))) (mt_leaf_ok (en_o (sm_iadd dX12_ways_34)))))) (mt_node_ok (mt_node_ok (mt_node_ok (mt_leaf_ok (en_o (sm_goto dX12_ways_35 (by decide)))) (mt_leaf_ok (en_o (sm_aload_n dX12_ways_38 rfl)))) (mt_node_ok (mt_leaf_ok (en_o (sm_iload_n dX12_ways_39 rfl))) (mt_leaf_ok (en_o (sm_iconst dX12_ways_40 rfl))))) (mt_node_ok (mt_node_ok (mt_leaf_ok (en_o (sm_iadd dX12_ways_41))) (mt_leaf_ok ((⟨by decide, bg_972, bg_1221, 491, 1, ⟨by decide, by decide, by decide +kernel⟩, bg_1246, Or.inr ⟨rfl, bg_1247, 12, _, rfl, by decide, rfl, Or.inl ⟨dX12_ways_42, bg_1248⟩⟩⟩ : mi_cal _ _ _ (mI 181) _ _)))) (mt_node_ok (mt_leaf_ok (en_o (sm_iadd dX12_ways_45))) (mt_leaf_ok (sr_int dX12_ways_46))))))
def mb_254 (g : xe_G) : Nat × mi_B := (3, mb_254_0 g, mk_leaf 45 [])
theorem mb_254_ok {g : xe_G} : mi_meth g mI (mI 254) (mb_254 g) := ⟨rfl, by decide, mb_254_0_ok⟩
theorem dX12_wide_0 : decode cX12_wide 0 = .ok (.aload_n 0, 1) := by decide +kernel
theorem dX12_wide_1 : decode cX12_wide 1 = .ok (.iload_n 1, 1) := by decide +kernel
theorem dX12_wide_2 : decode cX12_wide 2 = .ok (.iload_n 2, 1) := by decide +kernel
theorem dX12_wide_3 : decode cX12_wide 3 = .ok (.invokevirtual 217, 3) := by decide +kernel
theorem dX12_wide_6 : decode cX12_wide 6 = .ok (.bipush 74, 2) := by decide +kernel
theorem dX12_wide_8 : decode cX12_wide 8 = .ok (.if_icmp .eq 14, 3) := by decide +kernel
theorem dX12_wide_11 : decode cX12_wide 11 = .ok (.aload_n 0, 1) := by decide +kernel
theorem dX12_wide_12 : decode cX12_wide 12 = .ok (.iload_n 1, 1) := by decide +kernel
theorem dX12_wide_13 : decode cX12_wide 13 = .ok (.iload_n 2, 1) := by decide +kernel
theorem dX12_wide_14 : decode cX12_wide 14 = .ok (.invokevirtual 217, 3) := by decide +kernel
theorem dX12_wide_17 : decode cX12_wide 17 = .ok (.bipush 68, 2) := by decide +kernel
theorem dX12_wide_19 : decode cX12_wide 19 = .ok (.if_icmp .ne 7, 3) := by decide +kernel
theorem dX12_wide_22 : decode cX12_wide 22 = .ok (.iconst 1, 1) := by decide +kernel
theorem dX12_wide_23 : decode cX12_wide 23 = .ok (.goto 4, 3) := by decide +kernel
theorem dX12_wide_26 : decode cX12_wide 26 = .ok (.iconst 0, 1) := by decide +kernel
theorem dX12_wide_27 : decode cX12_wide 27 = .ok (.ireturn, 1) := by decide +kernel
def mb_255_0 (g : xe_G) : Nat → Option mi_N := mt_node 12 (mt_node 3 (mt_node 1 (mt_node 0 (mt_leaf 0 (.inl (o_aload 0 1))) (mt_leaf 1 (.inl (o_iload 1 1)))) (mt_node 2 (mt_leaf 2 (.inl (o_iload 2 1))) (mt_leaf 3 (.inr (.inl (176, 3, some 12)))))) (mt_node 8 (mt_node 6 (mt_leaf 6 (.inl (o_push (.int 74) 2))) (mt_leaf 8 (.inl (o_if2 (fun x y => decide (x = y)) 22)))) (mt_node 11 (mt_leaf 11 (.inl (o_aload 0 1))) (mt_leaf 12 (.inl (o_iload 1 1)))))) (mt_node 19 (mt_node 14 (mt_node 13 (mt_leaf 13 (.inl (o_iload 2 1))) (mt_leaf 14 (.inr (.inl (176, 3, some 12))))) (mt_node 17 (mt_leaf 17 (.inl (o_push (.int 68) 2))) (mt_leaf 19 (.inl (o_if2 (fun x y => decide (¬ x = y)) 26))))) (mt_node 23 (mt_node 22 (mt_leaf 22 (.inl (o_push (.int 1) 1))) (mt_leaf 23 (.inl (o_goto 27)))) (mt_node 26 (mt_leaf 26 (.inl (o_push (.int 0) 1))) (mt_leaf 27 (.inr (.inr (r_int mi_cz)))))))
theorem mb_255_0_ok {g : xe_G} : mt_all (mi_ent g mI (mI 255)) (mb_255_0 g) := mt_node_ok (mt_node_ok (mt_node_ok (mt_node_ok (mt_leaf_ok (en_o (sm_aload_n dX12_wide_0 rfl))) (mt_leaf_ok (en_o (sm_iload_n dX12_wide_1 rfl)))) (mt_node_ok (mt_leaf_ok (en_o (sm_iload_n dX12_wide_2 rfl))) (mt_leaf_ok ((⟨by decide, bg_972, bg_992, 217, 2, ⟨by decide, by decide, by decide +kernel⟩, bg_997, Or.inr ⟨rfl, bg_998, 12, _, rfl, by decide, rfl, Or.inl ⟨dX12_wide_3, bg_999⟩⟩⟩ : mi_cal _ _ _ (mI 176) _ _))))) (mt_node_ok (mt_node_ok (mt_leaf_ok (en_o (sm_bipush dX12_wide_6 rfl))) (mt_leaf_ok (en_o (sm_icmp_eq dX12_wide_8 (by decide))))) (mt_node_ok (mt_leaf_ok (en_o (sm_aload_n dX12_wide_11 rfl))) (mt_leaf_ok (en_o (sm_iload_n dX12_wide_12 rfl)))))) (mt_node_ok (mt_node_ok (mt_node_ok (mt_leaf_ok (en_o (sm_iload_n dX12_wide_13 rfl))) (mt_leaf_ok ((⟨by decide, bg_972, bg_992, 217, 2, ⟨by decide, by decide, by decide +kernel⟩, bg_997, Or.inr ⟨rfl, bg_998, 12, _, rfl, by decide, rfl, Or.inl ⟨dX12_wide_14, bg_999⟩⟩⟩ : mi_cal _ _ _ (mI 176) _ _)))) (mt_node_ok (mt_leaf_ok (en_o (sm_bipush dX12_wide_17 rfl))) (mt_leaf_ok (en_o (sm_icmp_ne dX12_wide_19 (by decide)))))) (mt_node_ok (mt_node_ok (mt_leaf_ok (en_o (sm_iconst dX12_wide_22 rfl))) (mt_leaf_ok (en_o (sm_goto dX12_wide_23 (by decide))))) (mt_node_ok (mt_leaf_ok (en_o (sm_iconst dX12_wide_26 rfl))) (mt_leaf_ok (sr_nar mi_cz_ok dX12_wide_27)))))
def mb_255 (g : xe_G) : Nat × mi_B := (3, mb_255_0 g, mk_node 22 (mk_leaf 22 []) (mk_leaf 27 []))
theorem mb_255_ok {g : xe_G} : mi_meth g mI (mI 255) (mb_255 g) := ⟨rfl, by decide, mb_255_0_ok⟩
theorem dX12_wrong_0 : decode cX12_wrong 0 = .ok (.aload_n 0, 1) := by decide +kernel
theorem dX12_wrong_1 : decode cX12_wrong 1 = .ok (.iload_n 1, 1) := by decide +kernel
theorem dX12_wrong_2 : decode cX12_wrong 2 = .ok (.putfield 230, 3) := by decide +kernel
theorem dX12_wrong_5 : decode cX12_wrong 5 = .ok (.aload_n 0, 1) := by decide +kernel
theorem dX12_wrong_6 : decode cX12_wrong 6 = .ok (.iload_n 2, 1) := by decide +kernel
theorem dX12_wrong_7 : decode cX12_wrong 7 = .ok (.putfield 233, 3) := by decide +kernel
theorem dX12_wrong_10 : decode cX12_wrong 10 = .ok (.iconst 0, 1) := by decide +kernel
theorem dX12_wrong_11 : decode cX12_wrong 11 = .ok (.ireturn, 1) := by decide +kernel
def mb_256_0 (g : xe_G) : Nat → Option mi_N := mt_node 5 (mt_node 1 (mt_node 0 (mt_leaf 0 (.inl (o_aload 0 1))) (mt_leaf 1 (.inl (o_iload 1 1)))) (mt_node 2 (mt_leaf 2 (.inl (o_put 12 47 (tyX12 47)))) (mt_leaf 5 (.inl (o_aload 0 1))))) (mt_node 7 (mt_node 6 (mt_leaf 6 (.inl (o_iload 2 1))) (mt_leaf 7 (.inl (o_put 12 48 (tyX12 48))))) (mt_node 10 (mt_leaf 10 (.inl (o_push (.int 0) 1))) (mt_leaf 11 (.inr (.inr (r_int mi_cz))))))
theorem mb_256_0_ok {g : xe_G} : mt_all (mi_ent g mI (mI 256)) (mb_256_0 g) := mt_node_ok (mt_node_ok (mt_node_ok (mt_leaf_ok (en_o (sm_aload_n dX12_wrong_0 rfl))) (mt_leaf_ok (en_o (sm_iload_n dX12_wrong_1 rfl)))) (mt_node_ok (mt_leaf_ok (en_s (sm_put (T := TX12) (by decide) rfl bi_X12 tyX12_ok nmX12 (by decide) rfl (tyX12_ok 47 (by decide)) bg_1011 dX12_wrong_2))) (mt_leaf_ok (en_o (sm_aload_n dX12_wrong_5 rfl))))) (mt_node_ok (mt_node_ok (mt_leaf_ok (en_o (sm_iload_n dX12_wrong_6 rfl))) (mt_leaf_ok (en_s (sm_put (T := TX12) (by decide) rfl bi_X12 tyX12_ok nmX12 (by decide) rfl (tyX12_ok 48 (by decide)) bg_1012 dX12_wrong_7)))) (mt_node_ok (mt_leaf_ok (en_o (sm_iconst dX12_wrong_10 rfl))) (mt_leaf_ok (sr_nar mi_cz_ok dX12_wrong_11))))
def mb_256 (g : xe_G) : Nat × mi_B := (3, mb_256_0 g, fun _ => none)
theorem mb_256_ok {g : xe_G} : mi_meth g mI (mI 256) (mb_256 g) := ⟨rfl, by decide, mb_256_0_ok⟩
theorem dJ6_bitCount_0f7a4_0 : decode cJ6_bitCount_0f7a4 0 = .ok (.iload_n 0, 1) := by decide +kernel
theorem dJ6_bitCount_0f7a4_1 : decode cJ6_bitCount_0f7a4 1 = .ok (.iload_n 0, 1) := by decide +kernel
theorem dJ6_bitCount_0f7a4_2 : decode cJ6_bitCount_0f7a4 2 = .ok (.iconst 1, 1) := by decide +kernel
theorem dJ6_bitCount_0f7a4_3 : decode cJ6_bitCount_0f7a4 3 = .ok (.iushr, 1) := by decide +kernel
theorem dJ6_bitCount_0f7a4_4 : decode cJ6_bitCount_0f7a4 4 = .ok (.ldc_w 265, 3) := by decide +kernel
theorem dJ6_bitCount_0f7a4_7 : decode cJ6_bitCount_0f7a4 7 = .ok (.iand, 1) := by decide +kernel
theorem dJ6_bitCount_0f7a4_8 : decode cJ6_bitCount_0f7a4 8 = .ok (.isub, 1) := by decide +kernel
theorem dJ6_bitCount_0f7a4_9 : decode cJ6_bitCount_0f7a4 9 = .ok (.istore_n 0, 1) := by decide +kernel
theorem dJ6_bitCount_0f7a4_10 : decode cJ6_bitCount_0f7a4 10 = .ok (.iload_n 0, 1) := by decide +kernel
theorem dJ6_bitCount_0f7a4_11 : decode cJ6_bitCount_0f7a4 11 = .ok (.ldc_w 266, 3) := by decide +kernel
theorem dJ6_bitCount_0f7a4_14 : decode cJ6_bitCount_0f7a4 14 = .ok (.iand, 1) := by decide +kernel
theorem dJ6_bitCount_0f7a4_15 : decode cJ6_bitCount_0f7a4 15 = .ok (.iload_n 0, 1) := by decide +kernel
theorem dJ6_bitCount_0f7a4_16 : decode cJ6_bitCount_0f7a4 16 = .ok (.iconst 2, 1) := by decide +kernel
theorem dJ6_bitCount_0f7a4_17 : decode cJ6_bitCount_0f7a4 17 = .ok (.iushr, 1) := by decide +kernel
theorem dJ6_bitCount_0f7a4_18 : decode cJ6_bitCount_0f7a4 18 = .ok (.ldc_w 266, 3) := by decide +kernel
theorem dJ6_bitCount_0f7a4_21 : decode cJ6_bitCount_0f7a4 21 = .ok (.iand, 1) := by decide +kernel
theorem dJ6_bitCount_0f7a4_22 : decode cJ6_bitCount_0f7a4 22 = .ok (.iadd, 1) := by decide +kernel
theorem dJ6_bitCount_0f7a4_23 : decode cJ6_bitCount_0f7a4 23 = .ok (.istore_n 0, 1) := by decide +kernel
theorem dJ6_bitCount_0f7a4_24 : decode cJ6_bitCount_0f7a4 24 = .ok (.iload_n 0, 1) := by decide +kernel
theorem dJ6_bitCount_0f7a4_25 : decode cJ6_bitCount_0f7a4 25 = .ok (.iload_n 0, 1) := by decide +kernel
theorem dJ6_bitCount_0f7a4_26 : decode cJ6_bitCount_0f7a4 26 = .ok (.iconst 4, 1) := by decide +kernel
theorem dJ6_bitCount_0f7a4_27 : decode cJ6_bitCount_0f7a4 27 = .ok (.iushr, 1) := by decide +kernel
theorem dJ6_bitCount_0f7a4_28 : decode cJ6_bitCount_0f7a4 28 = .ok (.iadd, 1) := by decide +kernel
theorem dJ6_bitCount_0f7a4_29 : decode cJ6_bitCount_0f7a4 29 = .ok (.ldc_w 267, 3) := by decide +kernel
theorem dJ6_bitCount_0f7a4_32 : decode cJ6_bitCount_0f7a4 32 = .ok (.iand, 1) := by decide +kernel
theorem dJ6_bitCount_0f7a4_33 : decode cJ6_bitCount_0f7a4 33 = .ok (.istore_n 0, 1) := by decide +kernel
theorem dJ6_bitCount_0f7a4_34 : decode cJ6_bitCount_0f7a4 34 = .ok (.iload_n 0, 1) := by decide +kernel
theorem dJ6_bitCount_0f7a4_35 : decode cJ6_bitCount_0f7a4 35 = .ok (.iload_n 0, 1) := by decide +kernel
theorem dJ6_bitCount_0f7a4_36 : decode cJ6_bitCount_0f7a4 36 = .ok (.bipush 8, 2) := by decide +kernel
theorem dJ6_bitCount_0f7a4_38 : decode cJ6_bitCount_0f7a4 38 = .ok (.iushr, 1) := by decide +kernel
theorem dJ6_bitCount_0f7a4_39 : decode cJ6_bitCount_0f7a4 39 = .ok (.iadd, 1) := by decide +kernel
theorem dJ6_bitCount_0f7a4_40 : decode cJ6_bitCount_0f7a4 40 = .ok (.istore_n 0, 1) := by decide +kernel
theorem dJ6_bitCount_0f7a4_41 : decode cJ6_bitCount_0f7a4 41 = .ok (.iload_n 0, 1) := by decide +kernel
theorem dJ6_bitCount_0f7a4_42 : decode cJ6_bitCount_0f7a4 42 = .ok (.iload_n 0, 1) := by decide +kernel
theorem dJ6_bitCount_0f7a4_43 : decode cJ6_bitCount_0f7a4 43 = .ok (.bipush 16, 2) := by decide +kernel
theorem dJ6_bitCount_0f7a4_45 : decode cJ6_bitCount_0f7a4 45 = .ok (.iushr, 1) := by decide +kernel
theorem dJ6_bitCount_0f7a4_46 : decode cJ6_bitCount_0f7a4 46 = .ok (.iadd, 1) := by decide +kernel
theorem dJ6_bitCount_0f7a4_47 : decode cJ6_bitCount_0f7a4 47 = .ok (.istore_n 0, 1) := by decide +kernel
theorem dJ6_bitCount_0f7a4_48 : decode cJ6_bitCount_0f7a4 48 = .ok (.iload_n 0, 1) := by decide +kernel
theorem dJ6_bitCount_0f7a4_49 : decode cJ6_bitCount_0f7a4 49 = .ok (.bipush 63, 2) := by decide +kernel
theorem dJ6_bitCount_0f7a4_51 : decode cJ6_bitCount_0f7a4 51 = .ok (.iand, 1) := by decide +kernel
theorem dJ6_bitCount_0f7a4_52 : decode cJ6_bitCount_0f7a4 52 = .ok (.ireturn, 1) := by decide +kernel
def mb_257_0 (g : xe_G) : Nat → Option mi_N := mt_node 26 (mt_node 11 (mt_node 4 (mt_node 1 (mt_node 0 (mt_leaf 0 (.inl (o_iload 0 1))) (mt_leaf 1 (.inl (o_iload 0 1)))) (mt_node 2 (mt_leaf 2 (.inl (o_push (.int 1) 1))) (mt_node 3 (mt_leaf 3 (.inl (o_bin (fun x y => (x.toUInt32 >>> (y.toUInt32 &&& Int32.toUInt32 31)).toInt32) 1))) (mt_leaf 4 (.inl (o_push (.int 1431655765) 3)))))) (mt_node 8 (mt_node 7 (mt_leaf 7 (.inl (o_bin (fun x y => x &&& y) 1))) (mt_leaf 8 (.inl (o_bin (fun x y => x - y) 1)))) (mt_node 9 (mt_leaf 9 (.inl (o_isto 0 1))) (mt_node 10 (mt_leaf 10 (.inl (o_iload 0 1))) (mt_leaf 11 (.inl (o_push (.int 858993459) 3))))))) (mt_node 18 (mt_node 15 (mt_node 14 (mt_leaf 14 (.inl (o_bin (fun x y => x &&& y) 1))) (mt_leaf 15 (.inl (o_iload 0 1)))) (mt_node 16 (mt_leaf 16 (.inl (o_push (.int 2) 1))) (mt_node 17 (mt_leaf 17 (.inl (o_bin (fun x y => (x.toUInt32 >>> (y.toUInt32 &&& Int32.toUInt32 31)).toInt32) 1))) (mt_leaf 18 (.inl (o_push (.int 858993459) 3)))))) (mt_node 23 (mt_node 21 (mt_leaf 21 (.inl (o_bin (fun x y => x &&& y) 1))) (mt_node 22 (mt_leaf 22 (.inl (o_bin (fun x y => x + y) 1))) (mt_leaf 23 (.inl (o_isto 0 1))))) (mt_node 24 (mt_leaf 24 (.inl (o_iload 0 1))) (mt_node 25 (mt_leaf 25 (.inl (o_iload 0 1))) (mt_leaf 26 (.inl (o_push (.int 4) 1)))))))) (mt_node 39 (mt_node 33 (mt_node 28 (mt_node 27 (mt_leaf 27 (.inl (o_bin (fun x y => (x.toUInt32 >>> (y.toUInt32 &&& Int32.toUInt32 31)).toInt32) 1))) (mt_leaf 28 (.inl (o_bin (fun x y => x + y) 1)))) (mt_node 29 (mt_leaf 29 (.inl (o_push (.int 252645135) 3))) (mt_node 32 (mt_leaf 32 (.inl (o_bin (fun x y => x &&& y) 1))) (mt_leaf 33 (.inl (o_isto 0 1)))))) (mt_node 35 (mt_node 34 (mt_leaf 34 (.inl (o_iload 0 1))) (mt_leaf 35 (.inl (o_iload 0 1)))) (mt_node 36 (mt_leaf 36 (.inl (o_push (.int 8) 2))) (mt_node 38 (mt_leaf 38 (.inl (o_bin (fun x y => (x.toUInt32 >>> (y.toUInt32 &&& Int32.toUInt32 31)).toInt32) 1))) (mt_leaf 39 (.inl (o_bin (fun x y => x + y) 1))))))) (mt_node 45 (mt_node 41 (mt_node 40 (mt_leaf 40 (.inl (o_isto 0 1))) (mt_leaf 41 (.inl (o_iload 0 1)))) (mt_node 42 (mt_leaf 42 (.inl (o_iload 0 1))) (mt_node 43 (mt_leaf 43 (.inl (o_push (.int 16) 2))) (mt_leaf 45 (.inl (o_bin (fun x y => (x.toUInt32 >>> (y.toUInt32 &&& Int32.toUInt32 31)).toInt32) 1)))))) (mt_node 48 (mt_node 46 (mt_leaf 46 (.inl (o_bin (fun x y => x + y) 1))) (mt_node 47 (mt_leaf 47 (.inl (o_isto 0 1))) (mt_leaf 48 (.inl (o_iload 0 1))))) (mt_node 49 (mt_leaf 49 (.inl (o_push (.int 63) 2))) (mt_node 51 (mt_leaf 51 (.inl (o_bin (fun x y => x &&& y) 1))) (mt_leaf 52 (.inr (.inr (r_int (fun _ => true))))))))))
theorem mb_257_0_ok {g : xe_G} : mt_all (mi_ent g mI (mI 257)) (mb_257_0 g) := mt_node_ok (mt_node_ok (mt_node_ok (mt_node_ok (mt_node_ok (mt_leaf_ok (en_o (sm_iload_n dJ6_bitCount_0f7a4_0 rfl))) (mt_leaf_ok (en_o (sm_iload_n dJ6_bitCount_0f7a4_1 rfl)))) (mt_node_ok (mt_leaf_ok (en_o (sm_iconst dJ6_bitCount_0f7a4_2 rfl))) (mt_node_ok (mt_leaf_ok (en_o (sm_iushr dJ6_bitCount_0f7a4_3))) (mt_leaf_ok (en_o (sm_ldcw bg_1680 dJ6_bitCount_0f7a4_4)))))) (mt_node_ok (mt_node_ok (mt_leaf_ok (en_o (sm_iand dJ6_bitCount_0f7a4_7))) (mt_leaf_ok (en_o (sm_isub dJ6_bitCount_0f7a4_8)))) (mt_node_ok (mt_leaf_ok (en_s (sm_istore_n dJ6_bitCount_0f7a4_9 rfl (by decide)))) (mt_node_ok (mt_leaf_ok (en_o (sm_iload_n dJ6_bitCount_0f7a4_10 rfl))) (mt_leaf_ok (en_o (sm_ldcw bg_1681 dJ6_bitCount_0f7a4_11))))))) (mt_node_ok (mt_node_ok (mt_node_ok (mt_leaf_ok (en_o (sm_iand dJ6_bitCount_0f7a4_14))) (mt_leaf_ok (en_o (sm_iload_n dJ6_bitCount_0f7a4_15 rfl)))) (mt_node_ok (mt_leaf_ok (en_o (sm_iconst dJ6_bitCount_0f7a4_16 rfl))) (mt_node_ok (mt_leaf_ok (en_o (sm_iushr dJ6_bitCount_0f7a4_17))) (mt_leaf_ok (en_o (sm_ldcw bg_1681 dJ6_bitCount_0f7a4_18)))))) (mt_node_ok (mt_node_ok (mt_leaf_ok (en_o (sm_iand dJ6_bitCount_0f7a4_21))) (mt_node_ok (mt_leaf_ok (en_o (sm_iadd dJ6_bitCount_0f7a4_22))) (mt_leaf_ok (en_s (sm_istore_n dJ6_bitCount_0f7a4_23 rfl (by decide)))))) (mt_node_ok (mt_leaf_ok (en_o (sm_iload_n dJ6_bitCount_0f7a4_24 rfl))) (mt_node_ok (mt_leaf_ok (en_o (sm_iload_n dJ6_bitCount_0f7a4_25 rfl))) (mt_leaf_ok (en_o (sm_iconst dJ6_bitCount_0f7a4_26 rfl)))))))) (mt_node_ok (mt_node_ok (mt_node_ok (mt_node_ok (mt_leaf_ok (en_o (sm_iushr dJ6_bitCount_0f7a4_27))) (mt_leaf_ok (en_o (sm_iadd dJ6_bitCount_0f7a4_28)))) (mt_node_ok (mt_leaf_ok (en_o (sm_ldcw bg_1682 dJ6_bitCount_0f7a4_29))) (mt_node_ok (mt_leaf_ok (en_o (sm_iand dJ6_bitCount_0f7a4_32))) (mt_leaf_ok (en_s (sm_istore_n dJ6_bitCount_0f7a4_33 rfl (by decide))))))) (mt_node_ok (mt_node_ok (mt_leaf_ok (en_o (sm_iload_n dJ6_bitCount_0f7a4_34 rfl))) (mt_leaf_ok (en_o (sm_iload_n dJ6_bitCount_0f7a4_35 rfl)))) (mt_node_ok (mt_leaf_ok (en_o (sm_bipush dJ6_bitCount_0f7a4_36 rfl))) (mt_node_ok (mt_leaf_ok (en_o (sm_iushr dJ6_bitCount_0f7a4_38))) (mt_leaf_ok (en_o (sm_iadd dJ6_bitCount_0f7a4_39))))))) (mt_node_ok (mt_node_ok (mt_node_ok (mt_leaf_ok (en_s (sm_istore_n dJ6_bitCount_0f7a4_40 rfl (by decide)))) (mt_leaf_ok (en_o (sm_iload_n dJ6_bitCount_0f7a4_41 rfl)))) (mt_node_ok (mt_leaf_ok (en_o (sm_iload_n dJ6_bitCount_0f7a4_42 rfl))) (mt_node_ok (mt_leaf_ok (en_o (sm_bipush dJ6_bitCount_0f7a4_43 rfl))) (mt_leaf_ok (en_o (sm_iushr dJ6_bitCount_0f7a4_45)))))) (mt_node_ok (mt_node_ok (mt_leaf_ok (en_o (sm_iadd dJ6_bitCount_0f7a4_46))) (mt_node_ok (mt_leaf_ok (en_s (sm_istore_n dJ6_bitCount_0f7a4_47 rfl (by decide)))) (mt_leaf_ok (en_o (sm_iload_n dJ6_bitCount_0f7a4_48 rfl))))) (mt_node_ok (mt_leaf_ok (en_o (sm_bipush dJ6_bitCount_0f7a4_49 rfl))) (mt_node_ok (mt_leaf_ok (en_o (sm_iand dJ6_bitCount_0f7a4_51))) (mt_leaf_ok (sr_int dJ6_bitCount_0f7a4_52)))))))
def mb_257 (g : xe_G) : Nat × mi_B := (1, mb_257_0 g, fun _ => none)
theorem mb_257_ok {g : xe_G} : mi_meth g mI (mI 257) (mb_257 g) := ⟨rfl, by decide, mb_257_0_ok⟩
theorem dJ7_copyOf_9075b_0 : decode cJ7_copyOf_9075b 0 = .ok (.iload_n 1, 1) := by decide +kernel
theorem dJ7_copyOf_9075b_1 : decode cJ7_copyOf_9075b 1 = .ok (.aload_n 0, 1) := by decide +kernel
theorem dJ7_copyOf_9075b_2 : decode cJ7_copyOf_9075b 2 = .ok (.arraylength, 1) := by decide +kernel
theorem dJ7_copyOf_9075b_3 : decode cJ7_copyOf_9075b 3 = .ok (.if_icmp .ne 11, 3) := by decide +kernel
theorem dJ7_copyOf_9075b_14 : decode cJ7_copyOf_9075b 14 = .ok (.iload_n 1, 1) := by decide +kernel
theorem dJ7_copyOf_9075b_15 : decode cJ7_copyOf_9075b 15 = .ok (.newarray .byte, 2) := by decide +kernel
theorem dJ7_copyOf_9075b_17 : decode cJ7_copyOf_9075b 17 = .ok (.astore_n 2, 1) := by decide +kernel
theorem dJ7_copyOf_9075b_18 : decode cJ7_copyOf_9075b 18 = .ok (.aload_n 0, 1) := by decide +kernel
theorem dJ7_copyOf_9075b_19 : decode cJ7_copyOf_9075b 19 = .ok (.iconst 0, 1) := by decide +kernel
theorem dJ7_copyOf_9075b_20 : decode cJ7_copyOf_9075b 20 = .ok (.aload_n 2, 1) := by decide +kernel
theorem dJ7_copyOf_9075b_21 : decode cJ7_copyOf_9075b 21 = .ok (.iconst 0, 1) := by decide +kernel
theorem dJ7_copyOf_9075b_22 : decode cJ7_copyOf_9075b 22 = .ok (.aload_n 0, 1) := by decide +kernel
theorem dJ7_copyOf_9075b_23 : decode cJ7_copyOf_9075b 23 = .ok (.arraylength, 1) := by decide +kernel
theorem dJ7_copyOf_9075b_24 : decode cJ7_copyOf_9075b 24 = .ok (.iload_n 1, 1) := by decide +kernel
theorem dJ7_copyOf_9075b_25 : decode cJ7_copyOf_9075b 25 = .ok (.invokestatic 304, 3) := by decide +kernel
theorem dJ7_copyOf_9075b_28 : decode cJ7_copyOf_9075b 28 = .ok (.invokestatic 150, 3) := by decide +kernel
theorem dJ7_copyOf_9075b_31 : decode cJ7_copyOf_9075b 31 = .ok (.aload_n 2, 1) := by decide +kernel
theorem dJ7_copyOf_9075b_32 : decode cJ7_copyOf_9075b 32 = .ok (.areturn, 1) := by decide +kernel
def mb_258_0 (g : xe_G) : Nat → Option mi_N := mt_node 19 (mt_node 3 (mt_node 1 (mt_node 0 (mt_leaf 0 (.inl (o_iload 1 1))) (mt_leaf 1 (.inl (o_aload 0 1)))) (mt_node 2 (mt_leaf 2 (.inl (o_alen .byte))) (mt_leaf 3 (.inl (o_if2 (fun x y => decide (¬ x = y)) 14))))) (mt_node 15 (mt_node 14 (mt_leaf 14 (.inl (o_iload 1 1))) (mt_leaf 15 (.inl (o_newa .byte)))) (mt_node 17 (mt_leaf 17 (.inl (o_asto 2 1))) (mt_node 18 (mt_leaf 18 (.inl (o_aload 0 1))) (mt_leaf 19 (.inl (o_push (.int 0) 1))))))) (mt_node 23 (mt_node 21 (mt_node 20 (mt_leaf 20 (.inl (o_aload 2 1))) (mt_leaf 21 (.inl (o_push (.int 0) 1)))) (mt_node 22 (mt_leaf 22 (.inl (o_aload 0 1))) (mt_leaf 23 (.inl (o_alen .byte))))) (mt_node 25 (mt_node 24 (mt_leaf 24 (.inl (o_iload 1 1))) (mt_leaf 25 (.inl (o_mm (fun x y => if y < x then y else x))))) (mt_node 28 (mt_leaf 28 (.inl (o_acopy2 g))) (mt_node 31 (mt_leaf 31 (.inl (o_aload 2 1))) (mt_leaf 32 (.inr (.inr r_ref)))))))
theorem mb_258_0_ok {g : xe_G} : mt_all (mi_ent g mI (mI 258)) (mb_258_0 g) := mt_node_ok (mt_node_ok (mt_node_ok (mt_node_ok (mt_leaf_ok (en_o (sm_iload_n dJ7_copyOf_9075b_0 rfl))) (mt_leaf_ok (en_o (sm_aload_n dJ7_copyOf_9075b_1 rfl)))) (mt_node_ok (mt_leaf_ok (en_o (sm_alen dJ7_copyOf_9075b_2))) (mt_leaf_ok (en_o (sm_icmp_ne dJ7_copyOf_9075b_3 (by decide)))))) (mt_node_ok (mt_node_ok (mt_leaf_ok (en_o (sm_iload_n dJ7_copyOf_9075b_14 rfl))) (mt_leaf_ok (en_s (sm_newa (aty := .byte) rfl bg_760 (by decide) (by decide) dJ7_copyOf_9075b_15)))) (mt_node_ok (mt_leaf_ok (en_s (sm_astore_n dJ7_copyOf_9075b_17 rfl (by decide)))) (mt_node_ok (mt_leaf_ok (en_o (sm_aload_n dJ7_copyOf_9075b_18 rfl))) (mt_leaf_ok (en_o (sm_iconst dJ7_copyOf_9075b_19 rfl))))))) (mt_node_ok (mt_node_ok (mt_node_ok (mt_leaf_ok (en_o (sm_aload_n dJ7_copyOf_9075b_20 rfl))) (mt_leaf_ok (en_o (sm_iconst dJ7_copyOf_9075b_21 rfl)))) (mt_node_ok (mt_leaf_ok (en_o (sm_aload_n dJ7_copyOf_9075b_22 rfl))) (mt_leaf_ok (en_o (sm_alen dJ7_copyOf_9075b_23))))) (mt_node_ok (mt_node_ok (mt_leaf_ok (en_o (sm_iload_n dJ7_copyOf_9075b_24 rfl))) (mt_leaf_ok (en_o (sm_mmin bg_1666 bg_1667 bg_1674 bg_1668 dJ7_copyOf_9075b_25)))) (mt_node_ok (mt_leaf_ok (en_s (sm_acopy2 bg_1676 bg_1677 bg_1678 bg_1675 dJ7_copyOf_9075b_28))) (mt_node_ok (mt_leaf_ok (en_o (sm_aload_n dJ7_copyOf_9075b_31 rfl))) (mt_leaf_ok (sr_ref (Or.inr ⟨_, rfl⟩) dJ7_copyOf_9075b_32))))))
def mb_258 (g : xe_G) : Nat × mi_B := (3, mb_258_0 g, fun _ => none)
theorem mb_258_ok {g : xe_G} : mi_meth g mI (mI 258) (mb_258 g) := ⟨rfl, by decide, mb_258_0_ok⟩
end
section
def mT_all (g : xe_G) (t : Nat → Option (Nat × mi_B)) : Prop := ∀ y b, t y = some b → mi_meth g mI (mI y) b
theorem mT_leaf {g : xe_G} {n : Nat} {b : Nat × mi_B} (h : mi_meth g mI (mI n) b) : mT_all g (fun y => cond (Nat.beq y n) (some b) none) := by
  intro y b' hy
  have hy : cond (Nat.beq y n) (some b) none = some b' := hy
  cases hb : Nat.beq y n with
  | false => rw [hb] at hy; cases hy
  | true =>
    rw [hb] at hy
    cases hy
    rw [Nat.eq_of_beq_eq_true hb]
    exact h
theorem mT_node {g : xe_G} {k : Nat} {a b : Nat → Option (Nat × mi_B)} (ha : mT_all g a) (hb : mT_all g b) : mT_all g (mn_node k a b) := by
  intro y b' hy
  unfold mn_node at hy
  cases hc : Nat.ble y k with
  | false => rw [hc] at hy; exact hb y b' hy
  | true => rw [hc] at hy; exact ha y b' hy
def mT_0 (g : xe_G) : Nat → Option (Nat × mi_B) := mn_node 19 (mn_node 9 (mn_node 4 (mn_node 1 (mn_node 0 (fun y => cond (Nat.beq y 0) (some (mb_0 g)) none) (fun y => cond (Nat.beq y 1) (some (mb_1 g)) none)) (mn_node 2 (fun y => cond (Nat.beq y 2) (some (mb_2 g)) none) (mn_node 3 (fun y => cond (Nat.beq y 3) (some (mb_3 g)) none) (fun y => cond (Nat.beq y 4) (some (mb_4 g)) none)))) (mn_node 6 (mn_node 5 (fun y => cond (Nat.beq y 5) (some (mb_5 g)) none) (fun y => cond (Nat.beq y 6) (some (mb_6 g)) none)) (mn_node 7 (fun y => cond (Nat.beq y 7) (some (mb_7 g)) none) (mn_node 8 (fun y => cond (Nat.beq y 8) (some (mb_8 g)) none) (fun y => cond (Nat.beq y 9) (some (mb_9 g)) none))))) (mn_node 14 (mn_node 11 (mn_node 10 (fun y => cond (Nat.beq y 10) (some (mb_10 g)) none) (fun y => cond (Nat.beq y 11) (some (mb_11 g)) none)) (mn_node 12 (fun y => cond (Nat.beq y 12) (some (mb_12 g)) none) (mn_node 13 (fun y => cond (Nat.beq y 13) (some (mb_13 g)) none) (fun y => cond (Nat.beq y 14) (some (mb_14 g)) none)))) (mn_node 16 (mn_node 15 (fun y => cond (Nat.beq y 15) (some (mb_15 g)) none) (fun y => cond (Nat.beq y 16) (some (mb_16 g)) none)) (mn_node 17 (fun y => cond (Nat.beq y 17) (some (mb_17 g)) none) (mn_node 18 (fun y => cond (Nat.beq y 18) (some (mb_18 g)) none) (fun y => cond (Nat.beq y 19) (some (mb_19 g)) none)))))) (mn_node 29 (mn_node 24 (mn_node 21 (mn_node 20 (fun y => cond (Nat.beq y 20) (some (mb_20 g)) none) (fun y => cond (Nat.beq y 21) (some (mb_21 g)) none)) (mn_node 22 (fun y => cond (Nat.beq y 22) (some (mb_22 g)) none) (mn_node 23 (fun y => cond (Nat.beq y 23) (some (mb_23 g)) none) (fun y => cond (Nat.beq y 24) (some (mb_24 g)) none)))) (mn_node 26 (mn_node 25 (fun y => cond (Nat.beq y 25) (some (mb_25 g)) none) (fun y => cond (Nat.beq y 26) (some (mb_26 g)) none)) (mn_node 27 (fun y => cond (Nat.beq y 27) (some (mb_27 g)) none) (mn_node 28 (fun y => cond (Nat.beq y 28) (some (mb_28 g)) none) (fun y => cond (Nat.beq y 29) (some (mb_29 g)) none))))) (mn_node 34 (mn_node 31 (mn_node 30 (fun y => cond (Nat.beq y 30) (some (mb_30 g)) none) (fun y => cond (Nat.beq y 31) (some (mb_31 g)) none)) (mn_node 32 (fun y => cond (Nat.beq y 32) (some (mb_32 g)) none) (mn_node 33 (fun y => cond (Nat.beq y 33) (some (mb_33 g)) none) (fun y => cond (Nat.beq y 34) (some (mb_34 g)) none)))) (mn_node 36 (mn_node 35 (fun y => cond (Nat.beq y 35) (some (mb_35 g)) none) (fun y => cond (Nat.beq y 36) (some (mb_36 g)) none)) (mn_node 37 (fun y => cond (Nat.beq y 37) (some (mb_37 g)) none) (mn_node 38 (fun y => cond (Nat.beq y 38) (some (mb_38 g)) none) (fun y => cond (Nat.beq y 39) (some (mb_39 g)) none))))))
theorem mT_0_ok {g : xe_G} : mT_all g (mT_0 g) := mT_node (mT_node (mT_node (mT_node (mT_node (mT_leaf mb_0_ok) (mT_leaf mb_1_ok)) (mT_node (mT_leaf mb_2_ok) (mT_node (mT_leaf mb_3_ok) (mT_leaf mb_4_ok)))) (mT_node (mT_node (mT_leaf mb_5_ok) (mT_leaf mb_6_ok)) (mT_node (mT_leaf mb_7_ok) (mT_node (mT_leaf mb_8_ok) (mT_leaf mb_9_ok))))) (mT_node (mT_node (mT_node (mT_leaf mb_10_ok) (mT_leaf mb_11_ok)) (mT_node (mT_leaf mb_12_ok) (mT_node (mT_leaf mb_13_ok) (mT_leaf mb_14_ok)))) (mT_node (mT_node (mT_leaf mb_15_ok) (mT_leaf mb_16_ok)) (mT_node (mT_leaf mb_17_ok) (mT_node (mT_leaf mb_18_ok) (mT_leaf mb_19_ok)))))) (mT_node (mT_node (mT_node (mT_node (mT_leaf mb_20_ok) (mT_leaf mb_21_ok)) (mT_node (mT_leaf mb_22_ok) (mT_node (mT_leaf mb_23_ok) (mT_leaf mb_24_ok)))) (mT_node (mT_node (mT_leaf mb_25_ok) (mT_leaf mb_26_ok)) (mT_node (mT_leaf mb_27_ok) (mT_node (mT_leaf mb_28_ok) (mT_leaf mb_29_ok))))) (mT_node (mT_node (mT_node (mT_leaf mb_30_ok) (mT_leaf mb_31_ok)) (mT_node (mT_leaf mb_32_ok) (mT_node (mT_leaf mb_33_ok) (mT_leaf mb_34_ok)))) (mT_node (mT_node (mT_leaf mb_35_ok) (mT_leaf mb_36_ok)) (mT_node (mT_leaf mb_37_ok) (mT_node (mT_leaf mb_38_ok) (mT_leaf mb_39_ok))))))
def mT_1 (g : xe_G) : Nat → Option (Nat × mi_B) := mn_node 59 (mn_node 49 (mn_node 44 (mn_node 41 (mn_node 40 (fun y => cond (Nat.beq y 40) (some (mb_40 g)) none) (fun y => cond (Nat.beq y 41) (some (mb_41 g)) none)) (mn_node 42 (fun y => cond (Nat.beq y 42) (some (mb_42 g)) none) (mn_node 43 (fun y => cond (Nat.beq y 43) (some (mb_43 g)) none) (fun y => cond (Nat.beq y 44) (some (mb_44 g)) none)))) (mn_node 46 (mn_node 45 (fun y => cond (Nat.beq y 45) (some (mb_45 g)) none) (fun y => cond (Nat.beq y 46) (some (mb_46 g)) none)) (mn_node 47 (fun y => cond (Nat.beq y 47) (some (mb_47 g)) none) (mn_node 48 (fun y => cond (Nat.beq y 48) (some (mb_48 g)) none) (fun y => cond (Nat.beq y 49) (some (mb_49 g)) none))))) (mn_node 54 (mn_node 51 (mn_node 50 (fun y => cond (Nat.beq y 50) (some (mb_50 g)) none) (fun y => cond (Nat.beq y 51) (some (mb_51 g)) none)) (mn_node 52 (fun y => cond (Nat.beq y 52) (some (mb_52 g)) none) (mn_node 53 (fun y => cond (Nat.beq y 53) (some (mb_53 g)) none) (fun y => cond (Nat.beq y 54) (some (mb_54 g)) none)))) (mn_node 56 (mn_node 55 (fun y => cond (Nat.beq y 55) (some (mb_55 g)) none) (fun y => cond (Nat.beq y 56) (some (mb_56 g)) none)) (mn_node 57 (fun y => cond (Nat.beq y 57) (some (mb_57 g)) none) (mn_node 58 (fun y => cond (Nat.beq y 58) (some (mb_58 g)) none) (fun y => cond (Nat.beq y 59) (some (mb_59 g)) none)))))) (mn_node 69 (mn_node 64 (mn_node 61 (mn_node 60 (fun y => cond (Nat.beq y 60) (some (mb_60 g)) none) (fun y => cond (Nat.beq y 61) (some (mb_61 g)) none)) (mn_node 62 (fun y => cond (Nat.beq y 62) (some (mb_62 g)) none) (mn_node 63 (fun y => cond (Nat.beq y 63) (some (mb_63 g)) none) (fun y => cond (Nat.beq y 64) (some (mb_64 g)) none)))) (mn_node 66 (mn_node 65 (fun y => cond (Nat.beq y 65) (some (mb_65 g)) none) (fun y => cond (Nat.beq y 66) (some (mb_66 g)) none)) (mn_node 67 (fun y => cond (Nat.beq y 67) (some (mb_67 g)) none) (mn_node 68 (fun y => cond (Nat.beq y 68) (some (mb_68 g)) none) (fun y => cond (Nat.beq y 69) (some (mb_69 g)) none))))) (mn_node 74 (mn_node 71 (mn_node 70 (fun y => cond (Nat.beq y 70) (some (mb_70 g)) none) (fun y => cond (Nat.beq y 71) (some (mb_71 g)) none)) (mn_node 72 (fun y => cond (Nat.beq y 72) (some (mb_72 g)) none) (mn_node 73 (fun y => cond (Nat.beq y 73) (some (mb_73 g)) none) (fun y => cond (Nat.beq y 74) (some (mb_74 g)) none)))) (mn_node 76 (mn_node 75 (fun y => cond (Nat.beq y 75) (some (mb_75 g)) none) (fun y => cond (Nat.beq y 76) (some (mb_76 g)) none)) (mn_node 77 (fun y => cond (Nat.beq y 77) (some (mb_77 g)) none) (mn_node 78 (fun y => cond (Nat.beq y 78) (some (mb_78 g)) none) (fun y => cond (Nat.beq y 79) (some (mb_79 g)) none))))))
theorem mT_1_ok {g : xe_G} : mT_all g (mT_1 g) := mT_node (mT_node (mT_node (mT_node (mT_node (mT_leaf mb_40_ok) (mT_leaf mb_41_ok)) (mT_node (mT_leaf mb_42_ok) (mT_node (mT_leaf mb_43_ok) (mT_leaf mb_44_ok)))) (mT_node (mT_node (mT_leaf mb_45_ok) (mT_leaf mb_46_ok)) (mT_node (mT_leaf mb_47_ok) (mT_node (mT_leaf mb_48_ok) (mT_leaf mb_49_ok))))) (mT_node (mT_node (mT_node (mT_leaf mb_50_ok) (mT_leaf mb_51_ok)) (mT_node (mT_leaf mb_52_ok) (mT_node (mT_leaf mb_53_ok) (mT_leaf mb_54_ok)))) (mT_node (mT_node (mT_leaf mb_55_ok) (mT_leaf mb_56_ok)) (mT_node (mT_leaf mb_57_ok) (mT_node (mT_leaf mb_58_ok) (mT_leaf mb_59_ok)))))) (mT_node (mT_node (mT_node (mT_node (mT_leaf mb_60_ok) (mT_leaf mb_61_ok)) (mT_node (mT_leaf mb_62_ok) (mT_node (mT_leaf mb_63_ok) (mT_leaf mb_64_ok)))) (mT_node (mT_node (mT_leaf mb_65_ok) (mT_leaf mb_66_ok)) (mT_node (mT_leaf mb_67_ok) (mT_node (mT_leaf mb_68_ok) (mT_leaf mb_69_ok))))) (mT_node (mT_node (mT_node (mT_leaf mb_70_ok) (mT_leaf mb_71_ok)) (mT_node (mT_leaf mb_72_ok) (mT_node (mT_leaf mb_73_ok) (mT_leaf mb_74_ok)))) (mT_node (mT_node (mT_leaf mb_75_ok) (mT_leaf mb_76_ok)) (mT_node (mT_leaf mb_77_ok) (mT_node (mT_leaf mb_78_ok) (mT_leaf mb_79_ok))))))
def mT_2 (g : xe_G) : Nat → Option (Nat × mi_B) := mn_node 99 (mn_node 89 (mn_node 84 (mn_node 81 (mn_node 80 (fun y => cond (Nat.beq y 80) (some (mb_80 g)) none) (fun y => cond (Nat.beq y 81) (some (mb_81 g)) none)) (mn_node 82 (fun y => cond (Nat.beq y 82) (some (mb_82 g)) none) (mn_node 83 (fun y => cond (Nat.beq y 83) (some (mb_83 g)) none) (fun y => cond (Nat.beq y 84) (some (mb_84 g)) none)))) (mn_node 86 (mn_node 85 (fun y => cond (Nat.beq y 85) (some (mb_85 g)) none) (fun y => cond (Nat.beq y 86) (some (mb_86 g)) none)) (mn_node 87 (fun y => cond (Nat.beq y 87) (some (mb_87 g)) none) (mn_node 88 (fun y => cond (Nat.beq y 88) (some (mb_88 g)) none) (fun y => cond (Nat.beq y 89) (some (mb_89 g)) none))))) (mn_node 94 (mn_node 91 (mn_node 90 (fun y => cond (Nat.beq y 90) (some (mb_90 g)) none) (fun y => cond (Nat.beq y 91) (some (mb_91 g)) none)) (mn_node 92 (fun y => cond (Nat.beq y 92) (some (mb_92 g)) none) (mn_node 93 (fun y => cond (Nat.beq y 93) (some (mb_93 g)) none) (fun y => cond (Nat.beq y 94) (some (mb_94 g)) none)))) (mn_node 96 (mn_node 95 (fun y => cond (Nat.beq y 95) (some (mb_95 g)) none) (fun y => cond (Nat.beq y 96) (some (mb_96 g)) none)) (mn_node 97 (fun y => cond (Nat.beq y 97) (some (mb_97 g)) none) (mn_node 98 (fun y => cond (Nat.beq y 98) (some (mb_98 g)) none) (fun y => cond (Nat.beq y 99) (some (mb_99 g)) none)))))) (mn_node 109 (mn_node 104 (mn_node 101 (mn_node 100 (fun y => cond (Nat.beq y 100) (some (mb_100 g)) none) (fun y => cond (Nat.beq y 101) (some (mb_101 g)) none)) (mn_node 102 (fun y => cond (Nat.beq y 102) (some (mb_102 g)) none) (mn_node 103 (fun y => cond (Nat.beq y 103) (some (mb_103 g)) none) (fun y => cond (Nat.beq y 104) (some (mb_104 g)) none)))) (mn_node 106 (mn_node 105 (fun y => cond (Nat.beq y 105) (some (mb_105 g)) none) (fun y => cond (Nat.beq y 106) (some (mb_106 g)) none)) (mn_node 107 (fun y => cond (Nat.beq y 107) (some (mb_107 g)) none) (mn_node 108 (fun y => cond (Nat.beq y 108) (some (mb_108 g)) none) (fun y => cond (Nat.beq y 109) (some (mb_109 g)) none))))) (mn_node 114 (mn_node 111 (mn_node 110 (fun y => cond (Nat.beq y 110) (some (mb_110 g)) none) (fun y => cond (Nat.beq y 111) (some (mb_111 g)) none)) (mn_node 112 (fun y => cond (Nat.beq y 112) (some (mb_112 g)) none) (mn_node 113 (fun y => cond (Nat.beq y 113) (some (mb_113 g)) none) (fun y => cond (Nat.beq y 114) (some (mb_114 g)) none)))) (mn_node 116 (mn_node 115 (fun y => cond (Nat.beq y 115) (some (mb_115 g)) none) (fun y => cond (Nat.beq y 116) (some (mb_116 g)) none)) (mn_node 117 (fun y => cond (Nat.beq y 117) (some (mb_117 g)) none) (mn_node 118 (fun y => cond (Nat.beq y 118) (some (mb_118 g)) none) (fun y => cond (Nat.beq y 119) (some (mb_119 g)) none))))))
theorem mT_2_ok {g : xe_G} : mT_all g (mT_2 g) := mT_node (mT_node (mT_node (mT_node (mT_node (mT_leaf mb_80_ok) (mT_leaf mb_81_ok)) (mT_node (mT_leaf mb_82_ok) (mT_node (mT_leaf mb_83_ok) (mT_leaf mb_84_ok)))) (mT_node (mT_node (mT_leaf mb_85_ok) (mT_leaf mb_86_ok)) (mT_node (mT_leaf mb_87_ok) (mT_node (mT_leaf mb_88_ok) (mT_leaf mb_89_ok))))) (mT_node (mT_node (mT_node (mT_leaf mb_90_ok) (mT_leaf mb_91_ok)) (mT_node (mT_leaf mb_92_ok) (mT_node (mT_leaf mb_93_ok) (mT_leaf mb_94_ok)))) (mT_node (mT_node (mT_leaf mb_95_ok) (mT_leaf mb_96_ok)) (mT_node (mT_leaf mb_97_ok) (mT_node (mT_leaf mb_98_ok) (mT_leaf mb_99_ok)))))) (mT_node (mT_node (mT_node (mT_node (mT_leaf mb_100_ok) (mT_leaf mb_101_ok)) (mT_node (mT_leaf mb_102_ok) (mT_node (mT_leaf mb_103_ok) (mT_leaf mb_104_ok)))) (mT_node (mT_node (mT_leaf mb_105_ok) (mT_leaf mb_106_ok)) (mT_node (mT_leaf mb_107_ok) (mT_node (mT_leaf mb_108_ok) (mT_leaf mb_109_ok))))) (mT_node (mT_node (mT_node (mT_leaf mb_110_ok) (mT_leaf mb_111_ok)) (mT_node (mT_leaf mb_112_ok) (mT_node (mT_leaf mb_113_ok) (mT_leaf mb_114_ok)))) (mT_node (mT_node (mT_leaf mb_115_ok) (mT_leaf mb_116_ok)) (mT_node (mT_leaf mb_117_ok) (mT_node (mT_leaf mb_118_ok) (mT_leaf mb_119_ok))))))
def mT_3 (g : xe_G) : Nat → Option (Nat × mi_B) := mn_node 139 (mn_node 129 (mn_node 124 (mn_node 121 (mn_node 120 (fun y => cond (Nat.beq y 120) (some (mb_120 g)) none) (fun y => cond (Nat.beq y 121) (some (mb_121 g)) none)) (mn_node 122 (fun y => cond (Nat.beq y 122) (some (mb_122 g)) none) (mn_node 123 (fun y => cond (Nat.beq y 123) (some (mb_123 g)) none) (fun y => cond (Nat.beq y 124) (some (mb_124 g)) none)))) (mn_node 126 (mn_node 125 (fun y => cond (Nat.beq y 125) (some (mb_125 g)) none) (fun y => cond (Nat.beq y 126) (some (mb_126 g)) none)) (mn_node 127 (fun y => cond (Nat.beq y 127) (some (mb_127 g)) none) (mn_node 128 (fun y => cond (Nat.beq y 128) (some (mb_128 g)) none) (fun y => cond (Nat.beq y 129) (some (mb_129 g)) none))))) (mn_node 134 (mn_node 131 (mn_node 130 (fun y => cond (Nat.beq y 130) (some (mb_130 g)) none) (fun y => cond (Nat.beq y 131) (some (mb_131 g)) none)) (mn_node 132 (fun y => cond (Nat.beq y 132) (some (mb_132 g)) none) (mn_node 133 (fun y => cond (Nat.beq y 133) (some (mb_133 g)) none) (fun y => cond (Nat.beq y 134) (some (mb_134 g)) none)))) (mn_node 136 (mn_node 135 (fun y => cond (Nat.beq y 135) (some (mb_135 g)) none) (fun y => cond (Nat.beq y 136) (some (mb_136 g)) none)) (mn_node 137 (fun y => cond (Nat.beq y 137) (some (mb_137 g)) none) (mn_node 138 (fun y => cond (Nat.beq y 138) (some (mb_138 g)) none) (fun y => cond (Nat.beq y 139) (some (mb_139 g)) none)))))) (mn_node 149 (mn_node 144 (mn_node 141 (mn_node 140 (fun y => cond (Nat.beq y 140) (some (mb_140 g)) none) (fun y => cond (Nat.beq y 141) (some (mb_141 g)) none)) (mn_node 142 (fun y => cond (Nat.beq y 142) (some (mb_142 g)) none) (mn_node 143 (fun y => cond (Nat.beq y 143) (some (mb_143 g)) none) (fun y => cond (Nat.beq y 144) (some (mb_144 g)) none)))) (mn_node 146 (mn_node 145 (fun y => cond (Nat.beq y 145) (some (mb_145 g)) none) (fun y => cond (Nat.beq y 146) (some (mb_146 g)) none)) (mn_node 147 (fun y => cond (Nat.beq y 147) (some (mb_147 g)) none) (mn_node 148 (fun y => cond (Nat.beq y 148) (some (mb_148 g)) none) (fun y => cond (Nat.beq y 149) (some (mb_149 g)) none))))) (mn_node 154 (mn_node 151 (mn_node 150 (fun y => cond (Nat.beq y 150) (some (mb_150 g)) none) (fun y => cond (Nat.beq y 151) (some (mb_151 g)) none)) (mn_node 152 (fun y => cond (Nat.beq y 152) (some (mb_152 g)) none) (mn_node 153 (fun y => cond (Nat.beq y 153) (some (mb_153 g)) none) (fun y => cond (Nat.beq y 154) (some (mb_154 g)) none)))) (mn_node 156 (mn_node 155 (fun y => cond (Nat.beq y 155) (some (mb_155 g)) none) (fun y => cond (Nat.beq y 156) (some (mb_156 g)) none)) (mn_node 157 (fun y => cond (Nat.beq y 157) (some (mb_157 g)) none) (mn_node 158 (fun y => cond (Nat.beq y 158) (some (mb_158 g)) none) (fun y => cond (Nat.beq y 159) (some (mb_159 g)) none))))))
theorem mT_3_ok {g : xe_G} : mT_all g (mT_3 g) := mT_node (mT_node (mT_node (mT_node (mT_node (mT_leaf mb_120_ok) (mT_leaf mb_121_ok)) (mT_node (mT_leaf mb_122_ok) (mT_node (mT_leaf mb_123_ok) (mT_leaf mb_124_ok)))) (mT_node (mT_node (mT_leaf mb_125_ok) (mT_leaf mb_126_ok)) (mT_node (mT_leaf mb_127_ok) (mT_node (mT_leaf mb_128_ok) (mT_leaf mb_129_ok))))) (mT_node (mT_node (mT_node (mT_leaf mb_130_ok) (mT_leaf mb_131_ok)) (mT_node (mT_leaf mb_132_ok) (mT_node (mT_leaf mb_133_ok) (mT_leaf mb_134_ok)))) (mT_node (mT_node (mT_leaf mb_135_ok) (mT_leaf mb_136_ok)) (mT_node (mT_leaf mb_137_ok) (mT_node (mT_leaf mb_138_ok) (mT_leaf mb_139_ok)))))) (mT_node (mT_node (mT_node (mT_node (mT_leaf mb_140_ok) (mT_leaf mb_141_ok)) (mT_node (mT_leaf mb_142_ok) (mT_node (mT_leaf mb_143_ok) (mT_leaf mb_144_ok)))) (mT_node (mT_node (mT_leaf mb_145_ok) (mT_leaf mb_146_ok)) (mT_node (mT_leaf mb_147_ok) (mT_node (mT_leaf mb_148_ok) (mT_leaf mb_149_ok))))) (mT_node (mT_node (mT_node (mT_leaf mb_150_ok) (mT_leaf mb_151_ok)) (mT_node (mT_leaf mb_152_ok) (mT_node (mT_leaf mb_153_ok) (mT_leaf mb_154_ok)))) (mT_node (mT_node (mT_leaf mb_155_ok) (mT_leaf mb_156_ok)) (mT_node (mT_leaf mb_157_ok) (mT_node (mT_leaf mb_158_ok) (mT_leaf mb_159_ok))))))
def mT_4 (g : xe_G) : Nat → Option (Nat × mi_B) := mn_node 179 (mn_node 169 (mn_node 164 (mn_node 161 (mn_node 160 (fun y => cond (Nat.beq y 160) (some (mb_160 g)) none) (fun y => cond (Nat.beq y 161) (some (mb_161 g)) none)) (mn_node 162 (fun y => cond (Nat.beq y 162) (some (mb_162 g)) none) (mn_node 163 (fun y => cond (Nat.beq y 163) (some (mb_163 g)) none) (fun y => cond (Nat.beq y 164) (some (mb_164 g)) none)))) (mn_node 166 (mn_node 165 (fun y => cond (Nat.beq y 165) (some (mb_165 g)) none) (fun y => cond (Nat.beq y 166) (some (mb_166 g)) none)) (mn_node 167 (fun y => cond (Nat.beq y 167) (some (mb_167 g)) none) (mn_node 168 (fun y => cond (Nat.beq y 168) (some (mb_168 g)) none) (fun y => cond (Nat.beq y 169) (some (mb_169 g)) none))))) (mn_node 174 (mn_node 171 (mn_node 170 (fun y => cond (Nat.beq y 170) (some (mb_170 g)) none) (fun y => cond (Nat.beq y 171) (some (mb_171 g)) none)) (mn_node 172 (fun y => cond (Nat.beq y 172) (some (mb_172 g)) none) (mn_node 173 (fun y => cond (Nat.beq y 173) (some (mb_173 g)) none) (fun y => cond (Nat.beq y 174) (some (mb_174 g)) none)))) (mn_node 176 (mn_node 175 (fun y => cond (Nat.beq y 175) (some (mb_175 g)) none) (fun y => cond (Nat.beq y 176) (some (mb_176 g)) none)) (mn_node 177 (fun y => cond (Nat.beq y 177) (some (mb_177 g)) none) (mn_node 178 (fun y => cond (Nat.beq y 178) (some (mb_178 g)) none) (fun y => cond (Nat.beq y 179) (some (mb_179 g)) none)))))) (mn_node 189 (mn_node 184 (mn_node 181 (mn_node 180 (fun y => cond (Nat.beq y 180) (some (mb_180 g)) none) (fun y => cond (Nat.beq y 181) (some (mb_181 g)) none)) (mn_node 182 (fun y => cond (Nat.beq y 182) (some (mb_182 g)) none) (mn_node 183 (fun y => cond (Nat.beq y 183) (some (mb_183 g)) none) (fun y => cond (Nat.beq y 184) (some (mb_184 g)) none)))) (mn_node 186 (mn_node 185 (fun y => cond (Nat.beq y 185) (some (mb_185 g)) none) (fun y => cond (Nat.beq y 186) (some (mb_186 g)) none)) (mn_node 187 (fun y => cond (Nat.beq y 187) (some (mb_187 g)) none) (mn_node 188 (fun y => cond (Nat.beq y 188) (some (mb_188 g)) none) (fun y => cond (Nat.beq y 189) (some (mb_189 g)) none))))) (mn_node 194 (mn_node 191 (mn_node 190 (fun y => cond (Nat.beq y 190) (some (mb_190 g)) none) (fun y => cond (Nat.beq y 191) (some (mb_191 g)) none)) (mn_node 192 (fun y => cond (Nat.beq y 192) (some (mb_192 g)) none) (mn_node 193 (fun y => cond (Nat.beq y 193) (some (mb_193 g)) none) (fun y => cond (Nat.beq y 194) (some (mb_194 g)) none)))) (mn_node 196 (mn_node 195 (fun y => cond (Nat.beq y 195) (some (mb_195 g)) none) (fun y => cond (Nat.beq y 196) (some (mb_196 g)) none)) (mn_node 197 (fun y => cond (Nat.beq y 197) (some (mb_197 g)) none) (mn_node 198 (fun y => cond (Nat.beq y 198) (some (mb_198 g)) none) (fun y => cond (Nat.beq y 199) (some (mb_199 g)) none))))))
theorem mT_4_ok {g : xe_G} : mT_all g (mT_4 g) := mT_node (mT_node (mT_node (mT_node (mT_node (mT_leaf mb_160_ok) (mT_leaf mb_161_ok)) (mT_node (mT_leaf mb_162_ok) (mT_node (mT_leaf mb_163_ok) (mT_leaf mb_164_ok)))) (mT_node (mT_node (mT_leaf mb_165_ok) (mT_leaf mb_166_ok)) (mT_node (mT_leaf mb_167_ok) (mT_node (mT_leaf mb_168_ok) (mT_leaf mb_169_ok))))) (mT_node (mT_node (mT_node (mT_leaf mb_170_ok) (mT_leaf mb_171_ok)) (mT_node (mT_leaf mb_172_ok) (mT_node (mT_leaf mb_173_ok) (mT_leaf mb_174_ok)))) (mT_node (mT_node (mT_leaf mb_175_ok) (mT_leaf mb_176_ok)) (mT_node (mT_leaf mb_177_ok) (mT_node (mT_leaf mb_178_ok) (mT_leaf mb_179_ok)))))) (mT_node (mT_node (mT_node (mT_node (mT_leaf mb_180_ok) (mT_leaf mb_181_ok)) (mT_node (mT_leaf mb_182_ok) (mT_node (mT_leaf mb_183_ok) (mT_leaf mb_184_ok)))) (mT_node (mT_node (mT_leaf mb_185_ok) (mT_leaf mb_186_ok)) (mT_node (mT_leaf mb_187_ok) (mT_node (mT_leaf mb_188_ok) (mT_leaf mb_189_ok))))) (mT_node (mT_node (mT_node (mT_leaf mb_190_ok) (mT_leaf mb_191_ok)) (mT_node (mT_leaf mb_192_ok) (mT_node (mT_leaf mb_193_ok) (mT_leaf mb_194_ok)))) (mT_node (mT_node (mT_leaf mb_195_ok) (mT_leaf mb_196_ok)) (mT_node (mT_leaf mb_197_ok) (mT_node (mT_leaf mb_198_ok) (mT_leaf mb_199_ok))))))
def mT_5 (g : xe_G) : Nat → Option (Nat × mi_B) := mn_node 219 (mn_node 209 (mn_node 204 (mn_node 201 (mn_node 200 (fun y => cond (Nat.beq y 200) (some (mb_200 g)) none) (fun y => cond (Nat.beq y 201) (some (mb_201 g)) none)) (mn_node 202 (fun y => cond (Nat.beq y 202) (some (mb_202 g)) none) (mn_node 203 (fun y => cond (Nat.beq y 203) (some (mb_203 g)) none) (fun y => cond (Nat.beq y 204) (some (mb_204 g)) none)))) (mn_node 206 (mn_node 205 (fun y => cond (Nat.beq y 205) (some (mb_205 g)) none) (fun y => cond (Nat.beq y 206) (some (mb_206 g)) none)) (mn_node 207 (fun y => cond (Nat.beq y 207) (some (mb_207 g)) none) (mn_node 208 (fun y => cond (Nat.beq y 208) (some (mb_208 g)) none) (fun y => cond (Nat.beq y 209) (some (mb_209 g)) none))))) (mn_node 214 (mn_node 211 (mn_node 210 (fun y => cond (Nat.beq y 210) (some (mb_210 g)) none) (fun y => cond (Nat.beq y 211) (some (mb_211 g)) none)) (mn_node 212 (fun y => cond (Nat.beq y 212) (some (mb_212 g)) none) (mn_node 213 (fun y => cond (Nat.beq y 213) (some (mb_213 g)) none) (fun y => cond (Nat.beq y 214) (some (mb_214 g)) none)))) (mn_node 216 (mn_node 215 (fun y => cond (Nat.beq y 215) (some (mb_215 g)) none) (fun y => cond (Nat.beq y 216) (some (mb_216 g)) none)) (mn_node 217 (fun y => cond (Nat.beq y 217) (some (mb_217 g)) none) (mn_node 218 (fun y => cond (Nat.beq y 218) (some (mb_218 g)) none) (fun y => cond (Nat.beq y 219) (some (mb_219 g)) none)))))) (mn_node 229 (mn_node 224 (mn_node 221 (mn_node 220 (fun y => cond (Nat.beq y 220) (some (mb_220 g)) none) (fun y => cond (Nat.beq y 221) (some (mb_221 g)) none)) (mn_node 222 (fun y => cond (Nat.beq y 222) (some (mb_222 g)) none) (mn_node 223 (fun y => cond (Nat.beq y 223) (some (mb_223 g)) none) (fun y => cond (Nat.beq y 224) (some (mb_224 g)) none)))) (mn_node 226 (mn_node 225 (fun y => cond (Nat.beq y 225) (some (mb_225 g)) none) (fun y => cond (Nat.beq y 226) (some (mb_226 g)) none)) (mn_node 227 (fun y => cond (Nat.beq y 227) (some (mb_227 g)) none) (mn_node 228 (fun y => cond (Nat.beq y 228) (some (mb_228 g)) none) (fun y => cond (Nat.beq y 229) (some (mb_229 g)) none))))) (mn_node 234 (mn_node 231 (mn_node 230 (fun y => cond (Nat.beq y 230) (some (mb_230 g)) none) (fun y => cond (Nat.beq y 231) (some (mb_231 g)) none)) (mn_node 232 (fun y => cond (Nat.beq y 232) (some (mb_232 g)) none) (mn_node 233 (fun y => cond (Nat.beq y 233) (some (mb_233 g)) none) (fun y => cond (Nat.beq y 234) (some (mb_234 g)) none)))) (mn_node 236 (mn_node 235 (fun y => cond (Nat.beq y 235) (some (mb_235 g)) none) (fun y => cond (Nat.beq y 236) (some (mb_236 g)) none)) (mn_node 237 (fun y => cond (Nat.beq y 237) (some (mb_237 g)) none) (mn_node 238 (fun y => cond (Nat.beq y 238) (some (mb_238 g)) none) (fun y => cond (Nat.beq y 239) (some (mb_239 g)) none))))))
theorem mT_5_ok {g : xe_G} : mT_all g (mT_5 g) := mT_node (mT_node (mT_node (mT_node (mT_node (mT_leaf mb_200_ok) (mT_leaf mb_201_ok)) (mT_node (mT_leaf mb_202_ok) (mT_node (mT_leaf mb_203_ok) (mT_leaf mb_204_ok)))) (mT_node (mT_node (mT_leaf mb_205_ok) (mT_leaf mb_206_ok)) (mT_node (mT_leaf mb_207_ok) (mT_node (mT_leaf mb_208_ok) (mT_leaf mb_209_ok))))) (mT_node (mT_node (mT_node (mT_leaf mb_210_ok) (mT_leaf mb_211_ok)) (mT_node (mT_leaf mb_212_ok) (mT_node (mT_leaf mb_213_ok) (mT_leaf mb_214_ok)))) (mT_node (mT_node (mT_leaf mb_215_ok) (mT_leaf mb_216_ok)) (mT_node (mT_leaf mb_217_ok) (mT_node (mT_leaf mb_218_ok) (mT_leaf mb_219_ok)))))) (mT_node (mT_node (mT_node (mT_node (mT_leaf mb_220_ok) (mT_leaf mb_221_ok)) (mT_node (mT_leaf mb_222_ok) (mT_node (mT_leaf mb_223_ok) (mT_leaf mb_224_ok)))) (mT_node (mT_node (mT_leaf mb_225_ok) (mT_leaf mb_226_ok)) (mT_node (mT_leaf mb_227_ok) (mT_node (mT_leaf mb_228_ok) (mT_leaf mb_229_ok))))) (mT_node (mT_node (mT_node (mT_leaf mb_230_ok) (mT_leaf mb_231_ok)) (mT_node (mT_leaf mb_232_ok) (mT_node (mT_leaf mb_233_ok) (mT_leaf mb_234_ok)))) (mT_node (mT_node (mT_leaf mb_235_ok) (mT_leaf mb_236_ok)) (mT_node (mT_leaf mb_237_ok) (mT_node (mT_leaf mb_238_ok) (mT_leaf mb_239_ok))))))
def mT_6 (g : xe_G) : Nat → Option (Nat × mi_B) := mn_node 248 (mn_node 243 (mn_node 241 (mn_node 240 (fun y => cond (Nat.beq y 240) (some (mb_240 g)) none) (fun y => cond (Nat.beq y 241) (some (mb_241 g)) none)) (mn_node 242 (fun y => cond (Nat.beq y 242) (some (mb_242 g)) none) (fun y => cond (Nat.beq y 243) (some (mb_243 g)) none))) (mn_node 245 (mn_node 244 (fun y => cond (Nat.beq y 244) (some (mb_244 g)) none) (fun y => cond (Nat.beq y 245) (some (mb_245 g)) none)) (mn_node 246 (fun y => cond (Nat.beq y 246) (some (mb_246 g)) none) (mn_node 247 (fun y => cond (Nat.beq y 247) (some (mb_247 g)) none) (fun y => cond (Nat.beq y 248) (some (mb_248 g)) none))))) (mn_node 253 (mn_node 250 (mn_node 249 (fun y => cond (Nat.beq y 249) (some (mb_249 g)) none) (fun y => cond (Nat.beq y 250) (some (mb_250 g)) none)) (mn_node 251 (fun y => cond (Nat.beq y 251) (some (mb_251 g)) none) (mn_node 252 (fun y => cond (Nat.beq y 252) (some (mb_252 g)) none) (fun y => cond (Nat.beq y 253) (some (mb_253 g)) none)))) (mn_node 255 (mn_node 254 (fun y => cond (Nat.beq y 254) (some (mb_254 g)) none) (fun y => cond (Nat.beq y 255) (some (mb_255 g)) none)) (mn_node 256 (fun y => cond (Nat.beq y 256) (some (mb_256 g)) none) (mn_node 257 (fun y => cond (Nat.beq y 257) (some (mb_257 g)) none) (fun y => cond (Nat.beq y 258) (some (mb_258 g)) none)))))
theorem mT_6_ok {g : xe_G} : mT_all g (mT_6 g) := mT_node (mT_node (mT_node (mT_node (mT_leaf mb_240_ok) (mT_leaf mb_241_ok)) (mT_node (mT_leaf mb_242_ok) (mT_leaf mb_243_ok))) (mT_node (mT_node (mT_leaf mb_244_ok) (mT_leaf mb_245_ok)) (mT_node (mT_leaf mb_246_ok) (mT_node (mT_leaf mb_247_ok) (mT_leaf mb_248_ok))))) (mT_node (mT_node (mT_node (mT_leaf mb_249_ok) (mT_leaf mb_250_ok)) (mT_node (mT_leaf mb_251_ok) (mT_node (mT_leaf mb_252_ok) (mT_leaf mb_253_ok)))) (mT_node (mT_node (mT_leaf mb_254_ok) (mT_leaf mb_255_ok)) (mT_node (mT_leaf mb_256_ok) (mT_node (mT_leaf mb_257_ok) (mT_leaf mb_258_ok)))))
def mT (g : xe_G) : Nat → Option (Nat × mi_B) := mn_node 119 (mn_node 39 (mT_0 g) (mn_node 79 (mT_1 g) (mT_2 g))) (mn_node 199 (mn_node 159 (mT_3 g) (mT_4 g)) (mn_node 239 (mT_5 g) (mT_6 g)))
theorem mT_ok {g : xe_G} : mT_all g (mT g) := mT_node (mT_node (mT_0_ok) (mT_node (mT_1_ok) (mT_2_ok))) (mT_node (mT_node (mT_3_ok) (mT_4_ok)) (mT_node (mT_5_ok) (mT_6_ok)))
end
section
/-! runs of the small machine that end: rules (my own text) -/
section MIL
def ml (T : Nat → Option (Nat × mi_B)) (d : Nat) (tb : mi_B) (S : mi_S) (Q : Option Value → mi_H → Prop) : Prop :=
  ∃ r : mi_R, (∃ n0 k0, ∀ n k, n0 ≤ n → k0 ≤ k → mi_loop tb (mi_run T n d) k S = some r) ∧ Q r.1 r.2
def mt (T : Nat → Option (Nat × mi_B)) (d y : Nat) (a : List Value) (M : mi_H) (Q : Option Value → mi_H → Prop) : Prop :=
  ∃ r : mi_R, (∃ n0, ∀ n, n0 ≤ n → mi_run T n d y a M = some r) ∧ Q r.1 r.2
variable {T : Nat → Option (Nat × mi_B)} {d pc : Nat} {tb : mi_B} {lv : List (Nat × Value)} {st : List Value} {M : mi_H} {Q Q' : Option Value → mi_H → Prop}
theorem mi_loop_st {call : Nat → List Value → mi_H → Option mi_R} {n : Nat} {o : mi_O} {S S1 : mi_S} (h1 : tb.1 S.1 = some (.inl o)) (h2 : o S = some S1) : mi_loop tb call (n + 1) S = mi_loop tb call n (mi_nk tb.2 S1) := by
  rw [mi_loop]
  simp only [h1, h2]
theorem mi_loop_call {call : Nat → List Value → mi_H → Option mi_R} {n : Nat} {c : Nat × Nat × Option Nat} {S : mi_S} {r : mi_R} (h1 : tb.1 S.1 = some (.inr (.inl c))) (h2 : mi_okc c.2.2 c.2.1 S = true) (h3 : call c.1 (S.2.2.1.take c.2.1).reverse S.2.2.2 = some r) : mi_loop tb call (n + 1) S = mi_loop tb call n (mi_nk tb.2 (S.1 + 3, S.2.1, r.1.toList ++ S.2.2.1.drop c.2.1, r.2)) := by
  rw [mi_loop]
  simp only [h1, h2, h3]
theorem ml_st {o : mi_O} {S1 S' : mi_S} (h1 : tb.1 pc = some (.inl o)) (h2 : o (pc, lv, st, M) = some S1) (h3 : mi_nk tb.2 S1 = S') (k : ml T d tb S' Q) : ml T d tb (pc, lv, st, M) Q := by
  obtain ⟨r, ⟨n0, k0, h⟩, hq⟩ := k
  refine ⟨r, ⟨n0, k0 + 1, fun n k hn hk => ?_⟩, hq⟩
  obtain ⟨k', rfl⟩ : ∃ k', k = k' + 1 := ⟨k - 1, by omega⟩
  rw [mi_loop_st (S := (pc, lv, st, M)) h1 h2, h3]
  exact h n k' hn (by omega)
theorem ml_ret {f : List Value → Option (Option Value)} {v : Option Value} (h1 : tb.1 pc = some (.inr (.inr f))) (h2 : f st = some v) (hq : Q v M) : ml T d tb (pc, lv, st, M) Q := by
  refine ⟨(v, M), ⟨0, 1, fun n k _ hk => ?_⟩, hq⟩
  obtain ⟨k', rfl⟩ : ∃ k', k = k' + 1 := ⟨k - 1, by omega⟩
  rw [mi_loop]
  simp only [h1, h2, Option.map_some]
theorem ml_call {c : Nat × Nat × Option Nat} {a rest : List Value} (h1 : tb.1 pc = some (.inr (.inl c))) (h2 : mi_okc c.2.2 c.2.1 (pc, lv, st, M) = true) (ha : (st.take c.2.1).reverse = a) (hr : st.drop c.2.1 = rest) (hm : mt T d c.1 a M Q')
    (k : ∀ v M', Q' v M' → ml T d tb (mi_nk tb.2 (pc + 3, lv, v.toList ++ rest, M')) Q) : ml T d tb (pc, lv, st, M) Q := by
  obtain ⟨r, ⟨n0, h⟩, hq⟩ := hm
  obtain ⟨r2, ⟨n1, k1, h5⟩, hq2⟩ := k r.1 r.2 hq
  refine ⟨r2, ⟨max n0 n1, k1 + 1, fun n k hn hk => ?_⟩, hq2⟩
  obtain ⟨k', rfl⟩ : ∃ k', k = k' + 1 := ⟨k - 1, by omega⟩
  have h6 := h n (by omega)
  rw [mi_loop_call (S := (pc, lv, st, M)) (r := r) h1 h2 (by dsimp only; rw [ha]; exact h6)]
  dsimp only
  rw [hr]
  exact h5 n k' (by omega) (by omega)
theorem mt_in {y : Nat} {a : List Value} {b : Nat × mi_B} (hT : T y = some b) (hl : decide ((lg_sl a).length ≤ b.1) = true) (k : ml T d b.2 (0, lv_args 0 a, [], M) Q) : mt T (d + 1) y a M Q := by
  obtain ⟨r, ⟨n0, k0, h⟩, hq⟩ := k
  refine ⟨r, ⟨max n0 k0, fun n hn => ?_⟩, hq⟩
  rw [mi_run]
  simp only [hT, hl]
  exact h n n (by omega) (by omega)
theorem ml.mono (h : ml T d tb (pc, lv, st, M) Q) (hq : ∀ v M', Q v M' → Q' v M') : ml T d tb (pc, lv, st, M) Q' := by
  obtain ⟨r, h1, h2⟩ := h
  exact ⟨r, h1, hq _ _ h2⟩
theorem mt.mono {y : Nat} {a : List Value} (h : mt T d y a M Q) (hq : ∀ v M', Q v M' → Q' v M') : mt T d y a M Q' := by
  obtain ⟨r, h1, h2⟩ := h
  exact ⟨r, h1, hq _ _ h2⟩
/-- one run has one end -/
theorem mt.both {y : Nat} {a : List Value} (h : mt T d y a M Q) (h' : mt T d y a M Q') : mt T d y a M (fun v M' => Q v M' ∧ Q' v M') := by
  obtain ⟨r, ⟨n0, h1⟩, h2⟩ := h
  obtain ⟨r', ⟨n1, h3⟩, h4⟩ := h'
  have e : r = r' := Option.some.inj ((h1 (max n0 n1) (by omega)).symm.trans (h3 (max n0 n1) (by omega)))
  subst e
  exact ⟨r, ⟨n0, h1⟩, h2, h4⟩
theorem mi_loop_mono {c1 c2 : Nat → List Value → mi_H → Option mi_R} (hc : ∀ y a M r, c1 y a M = some r → c2 y a M = some r) : ∀ (n : Nat) (S : mi_S) (r : mi_R), mi_loop tb c1 n S = some r → mi_loop tb c2 n S = some r := by
  intro n
  induction n with
  | zero => intro S r h; cases h
  | succ n ih =>
    intro S r h
    rw [mi_loop] at h ⊢
    split at h
    · split at h
      · exact ih _ _ h
      · cases h
    · split at h
      · split at h
        · rename_i r9 h9
          rw [hc _ _ _ _ h9]
          exact ih _ _ h
        · cases h
      · cases h
    · exact h
    · cases h
theorem mi_run_mono {n : Nat} : ∀ (d y : Nat) (a : List Value) (M : mi_H) (r : mi_R), mi_run T n d y a M = some r → mi_run T n (d + 1) y a M = some r := by
  intro d
  induction d with
  | zero => intro y a M r h; cases h
  | succ d ih =>
    intro y a M r h
    rw [mi_run] at h ⊢
    split at h
    · cases h
    · split at h
      · exact mi_loop_mono (fun y a M r h => ih y a M r h) _ _ _ h
      · cases h
theorem mt.deeper {y : Nat} {a : List Value} (h : mt T d y a M Q) (e : Nat) : mt T (d + e) y a M Q := by
  induction e with
  | zero => exact h
  | succ e ih =>
    obtain ⟨r, ⟨n0, h1⟩, h2⟩ := ih
    exact ⟨r, ⟨n0, fun n hn => mi_run_mono _ _ _ _ _ (h1 n hn)⟩, h2⟩
theorem mt.at {d' y : Nat} {a : List Value} (h : mt T d' y a M Q) (hd : d' ≤ d) : mt T d y a M Q := by
  obtain ⟨e, rfl⟩ := Nat.le.dest hd
  exact h.deeper e
/-- branches -/
theorem ml_if {f : Int32 → Bool} {t : Nat} {x : Int32} {S1 S2 : mi_S} (h1 : tb.1 pc = some (.inl (o_if f t))) (e1 : mi_nk tb.2 (t, lv, st, M) = S1) (e2 : mi_nk tb.2 (pc + 3, lv, st, M) = S2) (kt : f x = true → ml T d tb S1 Q) (kf : f x = false → ml T d tb S2 Q) : ml T d tb (pc, lv, .int x :: st, M) Q := by
  cases hf : f x with
  | true => exact ml_st h1 (S1 := (t, lv, st, M)) (by simp only [o_if, hf]) e1 (kt hf)
  | false => exact ml_st h1 (S1 := (pc + 3, lv, st, M)) (by simp only [o_if, hf]) e2 (kf hf)
theorem ml_if2 {f : Int32 → Int32 → Bool} {t : Nat} {x y : Int32} {S1 S2 : mi_S} (h1 : tb.1 pc = some (.inl (o_if2 f t))) (e1 : mi_nk tb.2 (t, lv, st, M) = S1) (e2 : mi_nk tb.2 (pc + 3, lv, st, M) = S2) (kt : f x y = true → ml T d tb S1 Q) (kf : f x y = false → ml T d tb S2 Q) : ml T d tb (pc, lv, .int y :: .int x :: st, M) Q := by
  cases hf : f x y with
  | true => exact ml_st h1 (S1 := (t, lv, st, M)) (by simp only [o_if2, hf]) e1 (kt hf)
  | false => exact ml_st h1 (S1 := (pc + 3, lv, st, M)) (by simp only [o_if2, hf]) e2 (kf hf)
/-- cells -/
theorem ml_get {ci k a : Nat} {v : Value} {S' : mi_S} (h1 : tb.1 pc = some (.inl (o_get ci k))) (hv : mi_gf M a ci k = some v) (e1 : mi_nk tb.2 (pc + 3, lv, v :: st, M) = S') (kk : ml T d tb S' Q) : ml T d tb (pc, lv, .ref a :: st, M) Q :=
  ml_st h1 (S1 := (pc + 3, lv, v :: st, M)) (by simp only [o_get, hv]) e1 kk
theorem ml_ald {ty : FieldType} {a n : Nat} {i : Int32} {f : Nat → Option Value} {v : Value} {S' : mi_S} (h1 : tb.1 pc = some (.inl (o_ald ty))) (hg : mi_ga M a ty = some (n, f)) (hi : vp_in i n) (hv : f i.toNatClampNeg = some v) (e1 : mi_nk tb.2 (pc + 1, lv, v :: st, M) = S') (kk : ml T d tb S' Q) : ml T d tb (pc, lv, .int i :: .ref a :: st, M) Q :=
  ml_st h1 (S1 := (pc + 1, lv, v :: st, M)) (by simp only [o_ald, hg]; rw [if_neg hi]; simp only [hv]) e1 kk
theorem ml_alen {ty : FieldType} {a n : Nat} {f : Nat → Option Value} {S' : mi_S} (h1 : tb.1 pc = some (.inl (o_alen ty))) (hg : mi_ga M a ty = some (n, f)) (e1 : mi_nk tb.2 (pc + 1, lv, .int (Int32.ofNat n) :: st, M) = S') (kk : ml T d tb S' Q) : ml T d tb (pc, lv, .ref a :: st, M) Q :=
  ml_st h1 (S1 := (pc + 1, lv, .int (Int32.ofNat n) :: st, M)) (by simp only [o_alen, hg]) e1 kk
theorem ml_ast {ty : FieldType} {nar : Int32 → Int32} {a n : Nat} {i x : Int32} {f : Nat → Option Value} {S' : mi_S} (h1 : tb.1 pc = some (.inl (o_ast ty nar))) (hg : mi_ga M a ty = some (n, f)) (hi : vp_in i n) (e1 : mi_nk tb.2 (pc + 1, lv, st, va_up M.1 a (some (.inl (ty, n, va_up f i.toNatClampNeg (some (.int (nar x)))))), M.2) = S') (kk : ml T d tb S' Q) : ml T d tb (pc, lv, .int x :: .int i :: .ref a :: st, M) Q :=
  ml_st h1 (S1 := (pc + 1, lv, st, va_up M.1 a (some (.inl (ty, n, va_up f i.toNatClampNeg (some (.int (nar x)))))), M.2)) (by simp only [o_ast, hg]; rw [if_neg hi]) e1 kk
theorem ml_put {ci k a : Nat} {ty : FieldType} {f : Nat → Option Value} {v : Value} {S' : mi_S} (h1 : tb.1 pc = some (.inl (o_put ci k ty))) (hg : M.1 a = some (.inr (ci, f))) (hv : mi_fit ty v = true) (e1 : mi_nk tb.2 (pc + 3, lv, st, va_up M.1 a (some (.inr (ci, va_up f k (some v)))), M.2) = S') (kk : ml T d tb S' Q) : ml T d tb (pc, lv, v :: .ref a :: st, M) Q :=
  ml_st h1 (S1 := (pc + 3, lv, st, va_up M.1 a (some (.inr (ci, va_up f k (some v)))), M.2)) (by simp only [o_put, hg, hv, and_self, if_true]) e1 kk
theorem ml_sw {ps : List (Int × Nat)} {dt : Nat} {x : Int32} (h1 : tb.1 pc = some (.inl (o_sw ps dt))) (kk : ∀ t, mi_sw ps dt x = t → ml T d tb (mi_nk tb.2 (t, lv, st, M)) Q) : ml T d tb (pc, lv, .int x :: st, M) Q :=
  ml_st h1 (S1 := (mi_sw ps dt x, lv, st, M)) (by simp only [o_sw]) rfl (kk _ rfl)
end MIL
end
section
/-! cells wholly known; what a write leaves alone (my own text) -/
section MIK
def ob (ci : Nat) (l : List Value) : mi_C := .inr (ci, fun k => l[k]?)
def ar (ty : FieldType) (n : Nat) (f : Nat → Int32) : mi_C := .inl (ty, n, fun i => some (.int (f i)))
def up (M : mi_H) (a : Nat) (c : mi_C) : mi_H := (va_up M.1 a (some c), M.2)
theorem up_at {M : mi_H} {a : Nat} {c : mi_C} : (up M a c).1 a = some c := by simp [up, va_up]
theorem up_ne {M : mi_H} {a b : Nat} {c : mi_C} (h : b ≠ a) : (up M a c).1 b = M.1 b := by simp [up, va_up, h]
theorem up_eq {M : mi_H} {a b : Nat} {c c' : mi_C} (hb : M.1 b = some c') (h : b ≠ a) : (up M a c).1 b = some c' := by rw [up_ne h]; exact hb
theorem gf_ob {M : mi_H} {a ci k : Nat} {l : List Value} {v : Value} (h : M.1 a = some (ob ci l)) (hv : l[k]? = some v) : mi_gf M a ci k = some v := by
  unfold mi_gf
  rw [h]
  simpa [ob] using hv
theorem ga_ar {M : mi_H} {a n : Nat} {ty : FieldType} {f : Nat → Int32} (h : M.1 a = some (ar ty n f)) : mi_ga M a ty = some (n, fun i => some (.int (f i))) := by
  unfold mi_ga
  rw [h]
  simp [ar]
theorem ob_set {l : List Value} {k : Nat} {v : Value} (hk : k < l.length) : va_up (fun j => l[j]?) k (some v) = fun j => (l.set k v)[j]? := by
  funext j
  by_cases h : j = k
  · subst h
    simp [va_up, hk]
  · simp [va_up, h, List.getElem?_set_ne (fun q => h q.symm)]
theorem ar_set {f : Nat → Int32} {k : Nat} {x : Int32} : va_up (fun i => some (Value.int (f i))) k (some (.int x)) = fun i => some (Value.int (upd f k x i)) := by
  funext j
  by_cases h : j = k
  · subst h
    simp [va_up, upd]
  · simp [va_up, upd, h]
variable {T : Nat → Option (Nat × mi_B)} {d pc : Nat} {tb : mi_B} {lv : List (Nat × Value)} {st : List Value} {M : mi_H} {Q Q' : Option Value → mi_H → Prop}
theorem mo_get {ci k a : Nat} {l : List Value} {v : Value} {S' : mi_S} (h1 : tb.1 pc = some (.inl (o_get ci k))) (h : M.1 a = some (ob ci l)) (hv : l[k]? = some v) (e1 : mi_nk tb.2 (pc + 3, lv, v :: st, M) = S') (kk : ml T d tb S' Q) : ml T d tb (pc, lv, .ref a :: st, M) Q := ml_get h1 (gf_ob h hv) e1 kk
theorem mo_put {ci k a : Nat} {ty : FieldType} {l : List Value} {v : Value} {S' : mi_S} (h1 : tb.1 pc = some (.inl (o_put ci k ty))) (h : M.1 a = some (ob ci l)) (hv : mi_fit ty v = true) (hk : k < l.length) (e1 : mi_nk tb.2 (pc + 3, lv, st, up M a (ob ci (l.set k v))) = S') (kk : ml T d tb S' Q) : ml T d tb (pc, lv, v :: .ref a :: st, M) Q :=
  ml_put h1 h hv (by rw [ob_set hk]; exact e1) kk
theorem mo_ald {ty : FieldType} {a n : Nat} {i : Int32} {f : Nat → Int32} {S' : mi_S} (h1 : tb.1 pc = some (.inl (o_ald ty))) (h : M.1 a = some (ar ty n f)) (hi : vp_in i n) (e1 : mi_nk tb.2 (pc + 1, lv, .int (f i.toNatClampNeg) :: st, M) = S') (kk : ml T d tb S' Q) : ml T d tb (pc, lv, .int i :: .ref a :: st, M) Q := ml_ald h1 (ga_ar h) hi rfl e1 kk
theorem mo_alen {ty : FieldType} {a n : Nat} {f : Nat → Int32} {S' : mi_S} (h1 : tb.1 pc = some (.inl (o_alen ty))) (h : M.1 a = some (ar ty n f)) (e1 : mi_nk tb.2 (pc + 1, lv, .int (nI n) :: st, M) = S') (kk : ml T d tb S' Q) : ml T d tb (pc, lv, .ref a :: st, M) Q := ml_alen h1 (ga_ar h) e1 kk
theorem mo_ast {ty : FieldType} {nar : Int32 → Int32} {a n : Nat} {i x : Int32} {f : Nat → Int32} {S' : mi_S} (h1 : tb.1 pc = some (.inl (o_ast ty nar))) (h : M.1 a = some (ar ty n f)) (hi : vp_in i n) (e1 : mi_nk tb.2 (pc + 1, lv, st, up M a (ar ty n (upd f i.toNatClampNeg (nar x)))) = S') (kk : ml T d tb S' Q) : ml T d tb (pc, lv, .int x :: .int i :: .ref a :: st, M) Q :=
  ml_ast h1 (ga_ar h) hi (by rw [ar_set]; exact e1) kk
/-- numbers -/
theorem vin_of {i : Int32} {n : Nat} (h0 : ¬ i < 0) (h1 : i < nI n) : vp_in i n := by
  rintro (h | h)
  · exact h0 h
  · have h2 := Int32.lt_iff_toInt_lt.mp h1
    have h3 := mi_nn i h0
    have h4 : (nI n).toInt ≤ n := by
      show (Int32.ofNat n).toInt ≤ n
      rw [Int32.toInt_ofNat']
      have := Int.bmod_le (x := (n : Int)) (m := 2 ^ 32) (by decide)
      have h9 : Int.bmod (n : Int) (2 ^ 32) = (n : Int) % (2 ^ 32 : Nat) ∨ Int.bmod (n : Int) (2 ^ 32) = (n : Int) % (2 ^ 32 : Nat) - (2 ^ 32 : Nat) := by
        unfold Int.bmod
        simp only
        split
        · exact Or.inl rfl
        · exact Or.inr rfl
      have h8 : (n : Int) % (2 ^ 32 : Nat) ≤ n := by omega
      rcases h9 with h9 | h9 <;> rw [h9] <;> omega
    omega
end MIK
end
section
/-! the bytes of a file, the pool: what their short questions answer (laid by wip/p2/c30.py) -/
def BY (M : mi_H) (b da n : Nat) (f : Nat → Int32) : Prop := M.1 b = some (ob 1 [.ref da]) ∧ M.1 da = some (ar .byte n f) ∧ n < 1073741824
def PL (M : mi_H) (p : Nat) (size : Int32) (n m : Nat) (q : Nat → Nat) (f : Nat → Nat → Int32) (cc : Int32) : Prop :=
  M.1 p = some (ob 7 [.int size, .ref (q 1), .ref (q 2), .ref (q 3), .ref (q 4), .ref (q 5), .ref (q 6), .int cc]) ∧ (∀ i, 1 ≤ i → i ≤ 5 → M.1 (q i) = some (ar .int n (f i))) ∧ M.1 (q 6) = some (ar .char m (f 6))
theorem okc_v {pc na ci b : Nat} {lv : List (Nat × Value)} {st As : List Value} {M : mi_H} {l : List Value} (h1 : (st.take na).reverse = .ref b :: As) (h2 : decide (na ≤ st.length) = true) (h3 : decide (((st.drop na).map fun v => v.category).sum ≤ 8) = true) (h : M.1 b = some (ob ci l)) : mi_okc (some ci) na (pc, lv, st, M) = true := by
  unfold mi_okc
  dsimp only
  rw [h2, h3, h1]
  simp only [h, ob]
  simp
theorem nI_val {n : Nat} (h : n < 1073741824) : (nI n).toInt = n := by
  show (Int32.ofNat n).toInt = n
  exact Int32.toInt_ofNat_of_lt (by omega)
theorem vin_iff {a : Int32} {n : Nat} (h0 : 0 ≤ a.toInt) (h : a.toInt < n) : vp_in a n := by
  rintro (h3 | h3)
  · have h4 := Int32.lt_iff_toInt_lt.mp h3
    have : (0 : Int32).toInt = 0 := rfl
    omega
  · have h4 : a.toNatClampNeg = a.toInt.toNat := rfl
    rw [h4] at h3
    omega
theorem nneg {a : Int32} (h : ¬ a < 0) : 0 ≤ a.toInt := by
  have := Int32.le_iff_toInt_le.mp (Int32.not_lt.mp h)
  have h0 : (0 : Int32).toInt = 0 := rfl
  omega
theorem lt_sub {a k j : Int32} {n : Nat} (hn : n < 1073741824) (h0 : ¬ a < 0) (h : a < nI n - k) (h1 : 0 ≤ j.toInt) (h2 : j.toInt ≤ k.toInt) (h3 : k.toInt < 1073741824) : vp_in (a + j) n := by
  have e1 := nI_val hn
  have g1 := Int32.lt_iff_toInt_lt.mp h
  rw [Int32.toInt_sub, e1] at g1
  have e4 : Int.bmod ((n : Int) - k.toInt) (2 ^ 32) = n - k.toInt := by
    apply Int.bmod_eq_of_le <;> omega
  rw [e4] at g1
  have g2 := nneg h0
  have e5 : (a + j).toInt = a.toInt + j.toInt := by
    rw [Int32.toInt_add]
    apply Int.bmod_eq_of_le <;> omega
  exact vin_iff (by rw [e5]; omega) (by rw [e5]; omega)
theorem lt_sub0 {a k : Int32} {n : Nat} (hn : n < 1073741824) (h0 : ¬ a < 0) (h : a < nI n - k) (h2 : 0 ≤ k.toInt) (h3 : k.toInt < 1073741824) : vp_in a n := by
  have h4 := lt_sub (j := 0) hn h0 h (by decide) h2 h3
  rwa [Int32.add_zero] at h4
theorem vin_ge {a : Int32} {n : Nat} (h0 : ¬ a < 0) (h : ¬ nI n ≤ a) : vp_in a n := vin_of h0 (Int32.not_le.mp h)

def sp_size (n : Nat) (f : Nat → Int32)  : Int32 := (nI n)
set_option maxHeartbeats 1000000 in
theorem ct_size {g : xe_G} {M : mi_H} {b da n : Nat} {f : Nat → Int32} (hB : BY M b da n f) {d : Nat} (hd : 1 ≤ d) : mt (mT g) d 47 [.ref b] M (fun v M' => v = some (.int (sp_size n f )) ∧ M' = M) := by
  obtain ⟨d, rfl⟩ : ∃ e, d = e + 1 := ⟨d - 1, by omega⟩
  refine mt_in (b := mb_47 g) rfl rfl ?_
  show ml (mT g) d (mb_47 g).2 (0, [(0, .ref b)], [], M) _
  refine ml_st (S' := (1, [(0, .ref b)], [.ref b], M)) rfl rfl rfl ?_
  refine mo_get (S' := (4, [(0, .ref b)], [.ref da], M)) rfl hB.1 rfl rfl ?_
  refine mo_alen (S' := (5, [(0, .ref b)], [.int (nI n)], M)) rfl hB.2.1 rfl ?_
  exact ml_ret rfl (rfl) (⟨by rw [sp_size], rfl⟩)
def sp_u1 (n : Nat) (f : Nat → Int32) (x1 : Int32) : Int32 := if x1 < 0 then (0) else (if x1 < (nI n) then (((f (Int32.toNatClampNeg x1)) &&& 255)) else (0))
set_option maxHeartbeats 1000000 in
theorem ct_u1 {g : xe_G} {M : mi_H} {b da n : Nat} {f : Nat → Int32} {x1 : Int32} (hB : BY M b da n f) {d : Nat} (hd : 1 ≤ d) : mt (mT g) d 48 [.ref b, .int x1] M (fun v M' => v = some (.int (sp_u1 n f x1)) ∧ M' = M) := by
  obtain ⟨d, rfl⟩ : ∃ e, d = e + 1 := ⟨d - 1, by omega⟩
  refine mt_in (b := mb_48 g) rfl rfl ?_
  show ml (mT g) d (mb_48 g).2 (0, [(0, .ref b), (1, .int x1)], [], M) _
  refine ml_st (S' := (1, [(0, .ref b), (1, .int x1)], [.int x1], M)) rfl rfl rfl ?_
  refine ml_if (S1 := (13, [], [], M)) (S2 := (4, [(0, .ref b), (1, .int x1)], [], M)) rfl rfl rfl (fun c_1 => ?_) (fun c_1 => ?_)
  · have c_1 : x1 < 0 := of_decide_eq_true c_1
    refine ml_st (S' := (14, [], [.int 0], M)) rfl rfl rfl ?_
    refine ml_st (S' := (27, [], [.int 0], M)) rfl rfl rfl ?_
    exact ml_ret rfl (rfl) (⟨by rw [sp_u1, if_pos c_1], rfl⟩)
  · have c_1 : ¬ (x1 < 0) := of_decide_eq_false c_1
    refine ml_st (S' := (5, [(0, .ref b), (1, .int x1)], [.int x1], M)) rfl rfl rfl ?_
    refine ml_st (S' := (6, [(0, .ref b), (1, .int x1)], [.ref b, .int x1], M)) rfl rfl rfl ?_
    refine mo_get (S' := (9, [(0, .ref b), (1, .int x1)], [.ref da, .int x1], M)) rfl hB.1 rfl rfl ?_
    refine mo_alen (S' := (10, [(0, .ref b), (1, .int x1)], [.int (nI n), .int x1], M)) rfl hB.2.1 rfl ?_
    refine ml_if2 (S1 := (17, [(0, .ref b), (1, .int x1)], [], M)) (S2 := (13, [], [], M)) rfl rfl rfl (fun c_10 => ?_) (fun c_10 => ?_)
    · have c_10 : x1 < (nI n) := of_decide_eq_true c_10
      refine ml_st (S' := (18, [(0, .ref b), (1, .int x1)], [.ref b], M)) rfl rfl rfl ?_
      refine mo_get (S' := (21, [(0, .ref b), (1, .int x1)], [.ref da], M)) rfl hB.1 rfl rfl ?_
      refine ml_st (S' := (22, [(0, .ref b), (1, .int x1)], [.int x1, .ref da], M)) rfl rfl rfl ?_
      refine mo_ald (S' := (23, [(0, .ref b), (1, .int x1)], [.int (f (Int32.toNatClampNeg x1))], M)) rfl hB.2.1 (vin_of c_1 c_10) rfl ?_
      refine ml_st (S' := (26, [(0, .ref b), (1, .int x1)], [.int 255, .int (f (Int32.toNatClampNeg x1))], M)) rfl rfl rfl ?_
      refine ml_st (S' := (27, [], [.int ((f (Int32.toNatClampNeg x1)) &&& 255)], M)) rfl rfl rfl ?_
      exact ml_ret rfl (rfl) (⟨by rw [sp_u1, if_neg c_1, if_pos c_10], rfl⟩)
    · have c_10 : ¬ (x1 < (nI n)) := of_decide_eq_false c_10
      refine ml_st (S' := (14, [], [.int 0], M)) rfl rfl rfl ?_
      refine ml_st (S' := (27, [], [.int 0], M)) rfl rfl rfl ?_
      exact ml_ret rfl (rfl) (⟨by rw [sp_u1, if_neg c_1, if_neg c_10], rfl⟩)
def sp_u2 (n : Nat) (f : Nat → Int32) (x1 : Int32) : Int32 := if x1 < 0 then (0) else (if x1 < ((nI n) - 1) then (((((f (Int32.toNatClampNeg x1)) &&& 255) <<< (8 &&& 31)) ||| ((f (Int32.toNatClampNeg (x1 + 1))) &&& 255))) else (0))
set_option maxHeartbeats 1000000 in
theorem ct_u2 {g : xe_G} {M : mi_H} {b da n : Nat} {f : Nat → Int32} {x1 : Int32} (hB : BY M b da n f) {d : Nat} (hd : 1 ≤ d) : mt (mT g) d 49 [.ref b, .int x1] M (fun v M' => v = some (.int (sp_u2 n f x1)) ∧ M' = M) := by
  obtain ⟨d, rfl⟩ : ∃ e, d = e + 1 := ⟨d - 1, by omega⟩
  refine mt_in (b := mb_49 g) rfl rfl ?_
  show ml (mT g) d (mb_49 g).2 (0, [(0, .ref b), (1, .int x1)], [], M) _
  refine ml_st (S' := (1, [(0, .ref b), (1, .int x1)], [.int x1], M)) rfl rfl rfl ?_
  refine ml_if (S1 := (15, [], [], M)) (S2 := (4, [(0, .ref b), (1, .int x1)], [], M)) rfl rfl rfl (fun c_1 => ?_) (fun c_1 => ?_)
  · have c_1 : x1 < 0 := of_decide_eq_true c_1
    refine ml_st (S' := (16, [], [.int 0], M)) rfl rfl rfl ?_
    exact ml_ret rfl (rfl) (⟨by rw [sp_u2, if_pos c_1], rfl⟩)
  · have c_1 : ¬ (x1 < 0) := of_decide_eq_false c_1
    refine ml_st (S' := (5, [(0, .ref b), (1, .int x1)], [.int x1], M)) rfl rfl rfl ?_
    refine ml_st (S' := (6, [(0, .ref b), (1, .int x1)], [.ref b, .int x1], M)) rfl rfl rfl ?_
    refine mo_get (S' := (9, [(0, .ref b), (1, .int x1)], [.ref da, .int x1], M)) rfl hB.1 rfl rfl ?_
    refine mo_alen (S' := (10, [(0, .ref b), (1, .int x1)], [.int (nI n), .int x1], M)) rfl hB.2.1 rfl ?_
    refine ml_st (S' := (11, [(0, .ref b), (1, .int x1)], [.int 1, .int (nI n), .int x1], M)) rfl rfl rfl ?_
    refine ml_st (S' := (12, [(0, .ref b), (1, .int x1)], [.int ((nI n) - 1), .int x1], M)) rfl rfl rfl ?_
    refine ml_if2 (S1 := (17, [(0, .ref b), (1, .int x1)], [], M)) (S2 := (15, [], [], M)) rfl rfl rfl (fun c_12 => ?_) (fun c_12 => ?_)
    · have c_12 : x1 < ((nI n) - 1) := of_decide_eq_true c_12
      refine ml_st (S' := (18, [(0, .ref b), (1, .int x1)], [.ref b], M)) rfl rfl rfl ?_
      refine mo_get (S' := (21, [(0, .ref b), (1, .int x1)], [.ref da], M)) rfl hB.1 rfl rfl ?_
      refine ml_st (S' := (22, [(0, .ref b), (1, .int x1)], [.int x1, .ref da], M)) rfl rfl rfl ?_
      refine mo_ald (S' := (23, [(0, .ref b), (1, .int x1)], [.int (f (Int32.toNatClampNeg x1))], M)) rfl hB.2.1 (lt_sub0 hB.2.2 c_1 c_12 (by decide) (by decide)) rfl ?_
      refine ml_st (S' := (26, [(0, .ref b), (1, .int x1)], [.int 255, .int (f (Int32.toNatClampNeg x1))], M)) rfl rfl rfl ?_
      refine ml_st (S' := (27, [(0, .ref b), (1, .int x1)], [.int ((f (Int32.toNatClampNeg x1)) &&& 255)], M)) rfl rfl rfl ?_
      refine ml_st (S' := (29, [(0, .ref b), (1, .int x1)], [.int 8, .int ((f (Int32.toNatClampNeg x1)) &&& 255)], M)) rfl rfl rfl ?_
      refine ml_st (S' := (30, [(0, .ref b), (1, .int x1)], [.int (((f (Int32.toNatClampNeg x1)) &&& 255) <<< (8 &&& 31))], M)) rfl rfl rfl ?_
      refine ml_st (S' := (31, [(0, .ref b), (1, .int x1)], [.ref b, .int (((f (Int32.toNatClampNeg x1)) &&& 255) <<< (8 &&& 31))], M)) rfl rfl rfl ?_
      refine mo_get (S' := (34, [(0, .ref b), (1, .int x1)], [.ref da, .int (((f (Int32.toNatClampNeg x1)) &&& 255) <<< (8 &&& 31))], M)) rfl hB.1 rfl rfl ?_
      refine ml_st (S' := (35, [(0, .ref b), (1, .int x1)], [.int x1, .ref da, .int (((f (Int32.toNatClampNeg x1)) &&& 255) <<< (8 &&& 31))], M)) rfl rfl rfl ?_
      refine ml_st (S' := (36, [(0, .ref b), (1, .int x1)], [.int 1, .int x1, .ref da, .int (((f (Int32.toNatClampNeg x1)) &&& 255) <<< (8 &&& 31))], M)) rfl rfl rfl ?_
      refine ml_st (S' := (37, [(0, .ref b), (1, .int x1)], [.int (x1 + 1), .ref da, .int (((f (Int32.toNatClampNeg x1)) &&& 255) <<< (8 &&& 31))], M)) rfl rfl rfl ?_
      refine mo_ald (S' := (38, [(0, .ref b), (1, .int x1)], [.int (f (Int32.toNatClampNeg (x1 + 1))), .int (((f (Int32.toNatClampNeg x1)) &&& 255) <<< (8 &&& 31))], M)) rfl hB.2.1 (lt_sub hB.2.2 c_1 c_12 (by decide) (by decide) (by decide)) rfl ?_
      refine ml_st (S' := (41, [(0, .ref b), (1, .int x1)], [.int 255, .int (f (Int32.toNatClampNeg (x1 + 1))), .int (((f (Int32.toNatClampNeg x1)) &&& 255) <<< (8 &&& 31))], M)) rfl rfl rfl ?_
      refine ml_st (S' := (42, [(0, .ref b), (1, .int x1)], [.int ((f (Int32.toNatClampNeg (x1 + 1))) &&& 255), .int (((f (Int32.toNatClampNeg x1)) &&& 255) <<< (8 &&& 31))], M)) rfl rfl rfl ?_
      refine ml_st (S' := (43, [(0, .ref b), (1, .int x1)], [.int ((((f (Int32.toNatClampNeg x1)) &&& 255) <<< (8 &&& 31)) ||| ((f (Int32.toNatClampNeg (x1 + 1))) &&& 255))], M)) rfl rfl rfl ?_
      exact ml_ret rfl (rfl) (⟨by rw [sp_u2, if_neg c_1, if_pos c_12], rfl⟩)
    · have c_12 : ¬ (x1 < ((nI n) - 1)) := of_decide_eq_false c_12
      refine ml_st (S' := (16, [], [.int 0], M)) rfl rfl rfl ?_
      exact ml_ret rfl (rfl) (⟨by rw [sp_u2, if_neg c_1, if_neg c_12], rfl⟩)
def sp_u4 (n : Nat) (f : Nat → Int32) (x1 : Int32) : Int32 := if x1 < 0 then (0) else (if x1 < ((nI n) - 3) then ((((((f (Int32.toNatClampNeg x1)) <<< (24 &&& 31)) ||| (((f (Int32.toNatClampNeg (x1 + 1))) &&& 255) <<< (16 &&& 31))) ||| (((f (Int32.toNatClampNeg (x1 + 2))) &&& 255) <<< (8 &&& 31))) ||| ((f (Int32.toNatClampNeg (x1 + 3))) &&& 255))) else (0))
set_option maxHeartbeats 1000000 in
theorem ct_u4 {g : xe_G} {M : mi_H} {b da n : Nat} {f : Nat → Int32} {x1 : Int32} (hB : BY M b da n f) {d : Nat} (hd : 1 ≤ d) : mt (mT g) d 50 [.ref b, .int x1] M (fun v M' => v = some (.int (sp_u4 n f x1)) ∧ M' = M) := by
  obtain ⟨d, rfl⟩ : ∃ e, d = e + 1 := ⟨d - 1, by omega⟩
  refine mt_in (b := mb_50 g) rfl rfl ?_
  show ml (mT g) d (mb_50 g).2 (0, [(0, .ref b), (1, .int x1)], [], M) _
  refine ml_st (S' := (1, [(0, .ref b), (1, .int x1)], [.int x1], M)) rfl rfl rfl ?_
  refine ml_if (S1 := (15, [], [], M)) (S2 := (4, [(0, .ref b), (1, .int x1)], [], M)) rfl rfl rfl (fun c_1 => ?_) (fun c_1 => ?_)
  · have c_1 : x1 < 0 := of_decide_eq_true c_1
    refine ml_st (S' := (16, [], [.int 0], M)) rfl rfl rfl ?_
    exact ml_ret rfl (rfl) (⟨by rw [sp_u4, if_pos c_1], rfl⟩)
  · have c_1 : ¬ (x1 < 0) := of_decide_eq_false c_1
    refine ml_st (S' := (5, [(0, .ref b), (1, .int x1)], [.int x1], M)) rfl rfl rfl ?_
    refine ml_st (S' := (6, [(0, .ref b), (1, .int x1)], [.ref b, .int x1], M)) rfl rfl rfl ?_
    refine mo_get (S' := (9, [(0, .ref b), (1, .int x1)], [.ref da, .int x1], M)) rfl hB.1 rfl rfl ?_
    refine mo_alen (S' := (10, [(0, .ref b), (1, .int x1)], [.int (nI n), .int x1], M)) rfl hB.2.1 rfl ?_
    refine ml_st (S' := (11, [(0, .ref b), (1, .int x1)], [.int 3, .int (nI n), .int x1], M)) rfl rfl rfl ?_
    refine ml_st (S' := (12, [(0, .ref b), (1, .int x1)], [.int ((nI n) - 3), .int x1], M)) rfl rfl rfl ?_
    refine ml_if2 (S1 := (17, [(0, .ref b), (1, .int x1)], [], M)) (S2 := (15, [], [], M)) rfl rfl rfl (fun c_12 => ?_) (fun c_12 => ?_)
    · have c_12 : x1 < ((nI n) - 3) := of_decide_eq_true c_12
      refine ml_st (S' := (18, [(0, .ref b), (1, .int x1)], [.ref b], M)) rfl rfl rfl ?_
      refine mo_get (S' := (21, [(0, .ref b), (1, .int x1)], [.ref da], M)) rfl hB.1 rfl rfl ?_
      refine ml_st (S' := (22, [(0, .ref b), (1, .int x1)], [.int x1, .ref da], M)) rfl rfl rfl ?_
      refine mo_ald (S' := (23, [(0, .ref b), (1, .int x1)], [.int (f (Int32.toNatClampNeg x1))], M)) rfl hB.2.1 (lt_sub0 hB.2.2 c_1 c_12 (by decide) (by decide)) rfl ?_
      refine ml_st (S' := (25, [(0, .ref b), (1, .int x1)], [.int 24, .int (f (Int32.toNatClampNeg x1))], M)) rfl rfl rfl ?_
      refine ml_st (S' := (26, [(0, .ref b), (1, .int x1)], [.int ((f (Int32.toNatClampNeg x1)) <<< (24 &&& 31))], M)) rfl rfl rfl ?_
      refine ml_st (S' := (27, [(0, .ref b), (1, .int x1)], [.ref b, .int ((f (Int32.toNatClampNeg x1)) <<< (24 &&& 31))], M)) rfl rfl rfl ?_
      refine mo_get (S' := (30, [(0, .ref b), (1, .int x1)], [.ref da, .int ((f (Int32.toNatClampNeg x1)) <<< (24 &&& 31))], M)) rfl hB.1 rfl rfl ?_
      refine ml_st (S' := (31, [(0, .ref b), (1, .int x1)], [.int x1, .ref da, .int ((f (Int32.toNatClampNeg x1)) <<< (24 &&& 31))], M)) rfl rfl rfl ?_
      refine ml_st (S' := (32, [(0, .ref b), (1, .int x1)], [.int 1, .int x1, .ref da, .int ((f (Int32.toNatClampNeg x1)) <<< (24 &&& 31))], M)) rfl rfl rfl ?_
      refine ml_st (S' := (33, [(0, .ref b), (1, .int x1)], [.int (x1 + 1), .ref da, .int ((f (Int32.toNatClampNeg x1)) <<< (24 &&& 31))], M)) rfl rfl rfl ?_
      refine mo_ald (S' := (34, [(0, .ref b), (1, .int x1)], [.int (f (Int32.toNatClampNeg (x1 + 1))), .int ((f (Int32.toNatClampNeg x1)) <<< (24 &&& 31))], M)) rfl hB.2.1 (lt_sub hB.2.2 c_1 c_12 (by decide) (by decide) (by decide)) rfl ?_
      refine ml_st (S' := (37, [(0, .ref b), (1, .int x1)], [.int 255, .int (f (Int32.toNatClampNeg (x1 + 1))), .int ((f (Int32.toNatClampNeg x1)) <<< (24 &&& 31))], M)) rfl rfl rfl ?_
      refine ml_st (S' := (38, [(0, .ref b), (1, .int x1)], [.int ((f (Int32.toNatClampNeg (x1 + 1))) &&& 255), .int ((f (Int32.toNatClampNeg x1)) <<< (24 &&& 31))], M)) rfl rfl rfl ?_
      refine ml_st (S' := (40, [(0, .ref b), (1, .int x1)], [.int 16, .int ((f (Int32.toNatClampNeg (x1 + 1))) &&& 255), .int ((f (Int32.toNatClampNeg x1)) <<< (24 &&& 31))], M)) rfl rfl rfl ?_
      refine ml_st (S' := (41, [(0, .ref b), (1, .int x1)], [.int (((f (Int32.toNatClampNeg (x1 + 1))) &&& 255) <<< (16 &&& 31)), .int ((f (Int32.toNatClampNeg x1)) <<< (24 &&& 31))], M)) rfl rfl rfl ?_
      refine ml_st (S' := (42, [(0, .ref b), (1, .int x1)], [.int (((f (Int32.toNatClampNeg x1)) <<< (24 &&& 31)) ||| (((f (Int32.toNatClampNeg (x1 + 1))) &&& 255) <<< (16 &&& 31)))], M)) rfl rfl rfl ?_
      refine ml_st (S' := (43, [(0, .ref b), (1, .int x1)], [.ref b, .int (((f (Int32.toNatClampNeg x1)) <<< (24 &&& 31)) ||| (((f (Int32.toNatClampNeg (x1 + 1))) &&& 255) <<< (16 &&& 31)))], M)) rfl rfl rfl ?_
      refine mo_get (S' := (46, [(0, .ref b), (1, .int x1)], [.ref da, .int (((f (Int32.toNatClampNeg x1)) <<< (24 &&& 31)) ||| (((f (Int32.toNatClampNeg (x1 + 1))) &&& 255) <<< (16 &&& 31)))], M)) rfl hB.1 rfl rfl ?_
      refine ml_st (S' := (47, [(0, .ref b), (1, .int x1)], [.int x1, .ref da, .int (((f (Int32.toNatClampNeg x1)) <<< (24 &&& 31)) ||| (((f (Int32.toNatClampNeg (x1 + 1))) &&& 255) <<< (16 &&& 31)))], M)) rfl rfl rfl ?_
      refine ml_st (S' := (48, [(0, .ref b), (1, .int x1)], [.int 2, .int x1, .ref da, .int (((f (Int32.toNatClampNeg x1)) <<< (24 &&& 31)) ||| (((f (Int32.toNatClampNeg (x1 + 1))) &&& 255) <<< (16 &&& 31)))], M)) rfl rfl rfl ?_
      refine ml_st (S' := (49, [(0, .ref b), (1, .int x1)], [.int (x1 + 2), .ref da, .int (((f (Int32.toNatClampNeg x1)) <<< (24 &&& 31)) ||| (((f (Int32.toNatClampNeg (x1 + 1))) &&& 255) <<< (16 &&& 31)))], M)) rfl rfl rfl ?_
      refine mo_ald (S' := (50, [(0, .ref b), (1, .int x1)], [.int (f (Int32.toNatClampNeg (x1 + 2))), .int (((f (Int32.toNatClampNeg x1)) <<< (24 &&& 31)) ||| (((f (Int32.toNatClampNeg (x1 + 1))) &&& 255) <<< (16 &&& 31)))], M)) rfl hB.2.1 (lt_sub hB.2.2 c_1 c_12 (by decide) (by decide) (by decide)) rfl ?_
      refine ml_st (S' := (53, [(0, .ref b), (1, .int x1)], [.int 255, .int (f (Int32.toNatClampNeg (x1 + 2))), .int (((f (Int32.toNatClampNeg x1)) <<< (24 &&& 31)) ||| (((f (Int32.toNatClampNeg (x1 + 1))) &&& 255) <<< (16 &&& 31)))], M)) rfl rfl rfl ?_
      refine ml_st (S' := (54, [(0, .ref b), (1, .int x1)], [.int ((f (Int32.toNatClampNeg (x1 + 2))) &&& 255), .int (((f (Int32.toNatClampNeg x1)) <<< (24 &&& 31)) ||| (((f (Int32.toNatClampNeg (x1 + 1))) &&& 255) <<< (16 &&& 31)))], M)) rfl rfl rfl ?_
      refine ml_st (S' := (56, [(0, .ref b), (1, .int x1)], [.int 8, .int ((f (Int32.toNatClampNeg (x1 + 2))) &&& 255), .int (((f (Int32.toNatClampNeg x1)) <<< (24 &&& 31)) ||| (((f (Int32.toNatClampNeg (x1 + 1))) &&& 255) <<< (16 &&& 31)))], M)) rfl rfl rfl ?_
      refine ml_st (S' := (57, [(0, .ref b), (1, .int x1)], [.int (((f (Int32.toNatClampNeg (x1 + 2))) &&& 255) <<< (8 &&& 31)), .int (((f (Int32.toNatClampNeg x1)) <<< (24 &&& 31)) ||| (((f (Int32.toNatClampNeg (x1 + 1))) &&& 255) <<< (16 &&& 31)))], M)) rfl rfl rfl ?_
      refine ml_st (S' := (58, [(0, .ref b), (1, .int x1)], [.int ((((f (Int32.toNatClampNeg x1)) <<< (24 &&& 31)) ||| (((f (Int32.toNatClampNeg (x1 + 1))) &&& 255) <<< (16 &&& 31))) ||| (((f (Int32.toNatClampNeg (x1 + 2))) &&& 255) <<< (8 &&& 31)))], M)) rfl rfl rfl ?_
      refine ml_st (S' := (59, [(0, .ref b), (1, .int x1)], [.ref b, .int ((((f (Int32.toNatClampNeg x1)) <<< (24 &&& 31)) ||| (((f (Int32.toNatClampNeg (x1 + 1))) &&& 255) <<< (16 &&& 31))) ||| (((f (Int32.toNatClampNeg (x1 + 2))) &&& 255) <<< (8 &&& 31)))], M)) rfl rfl rfl ?_
      refine mo_get (S' := (62, [(0, .ref b), (1, .int x1)], [.ref da, .int ((((f (Int32.toNatClampNeg x1)) <<< (24 &&& 31)) ||| (((f (Int32.toNatClampNeg (x1 + 1))) &&& 255) <<< (16 &&& 31))) ||| (((f (Int32.toNatClampNeg (x1 + 2))) &&& 255) <<< (8 &&& 31)))], M)) rfl hB.1 rfl rfl ?_
      refine ml_st (S' := (63, [(0, .ref b), (1, .int x1)], [.int x1, .ref da, .int ((((f (Int32.toNatClampNeg x1)) <<< (24 &&& 31)) ||| (((f (Int32.toNatClampNeg (x1 + 1))) &&& 255) <<< (16 &&& 31))) ||| (((f (Int32.toNatClampNeg (x1 + 2))) &&& 255) <<< (8 &&& 31)))], M)) rfl rfl rfl ?_
      refine ml_st (S' := (64, [(0, .ref b), (1, .int x1)], [.int 3, .int x1, .ref da, .int ((((f (Int32.toNatClampNeg x1)) <<< (24 &&& 31)) ||| (((f (Int32.toNatClampNeg (x1 + 1))) &&& 255) <<< (16 &&& 31))) ||| (((f (Int32.toNatClampNeg (x1 + 2))) &&& 255) <<< (8 &&& 31)))], M)) rfl rfl rfl ?_
      refine ml_st (S' := (65, [(0, .ref b), (1, .int x1)], [.int (x1 + 3), .ref da, .int ((((f (Int32.toNatClampNeg x1)) <<< (24 &&& 31)) ||| (((f (Int32.toNatClampNeg (x1 + 1))) &&& 255) <<< (16 &&& 31))) ||| (((f (Int32.toNatClampNeg (x1 + 2))) &&& 255) <<< (8 &&& 31)))], M)) rfl rfl rfl ?_
      refine mo_ald (S' := (66, [(0, .ref b), (1, .int x1)], [.int (f (Int32.toNatClampNeg (x1 + 3))), .int ((((f (Int32.toNatClampNeg x1)) <<< (24 &&& 31)) ||| (((f (Int32.toNatClampNeg (x1 + 1))) &&& 255) <<< (16 &&& 31))) ||| (((f (Int32.toNatClampNeg (x1 + 2))) &&& 255) <<< (8 &&& 31)))], M)) rfl hB.2.1 (lt_sub hB.2.2 c_1 c_12 (by decide) (by decide) (by decide)) rfl ?_
      refine ml_st (S' := (69, [(0, .ref b), (1, .int x1)], [.int 255, .int (f (Int32.toNatClampNeg (x1 + 3))), .int ((((f (Int32.toNatClampNeg x1)) <<< (24 &&& 31)) ||| (((f (Int32.toNatClampNeg (x1 + 1))) &&& 255) <<< (16 &&& 31))) ||| (((f (Int32.toNatClampNeg (x1 + 2))) &&& 255) <<< (8 &&& 31)))], M)) rfl rfl rfl ?_
      refine ml_st (S' := (70, [(0, .ref b), (1, .int x1)], [.int ((f (Int32.toNatClampNeg (x1 + 3))) &&& 255), .int ((((f (Int32.toNatClampNeg x1)) <<< (24 &&& 31)) ||| (((f (Int32.toNatClampNeg (x1 + 1))) &&& 255) <<< (16 &&& 31))) ||| (((f (Int32.toNatClampNeg (x1 + 2))) &&& 255) <<< (8 &&& 31)))], M)) rfl rfl rfl ?_
      refine ml_st (S' := (71, [(0, .ref b), (1, .int x1)], [.int (((((f (Int32.toNatClampNeg x1)) <<< (24 &&& 31)) ||| (((f (Int32.toNatClampNeg (x1 + 1))) &&& 255) <<< (16 &&& 31))) ||| (((f (Int32.toNatClampNeg (x1 + 2))) &&& 255) <<< (8 &&& 31))) ||| ((f (Int32.toNatClampNeg (x1 + 3))) &&& 255))], M)) rfl rfl rfl ?_
      exact ml_ret rfl (rfl) (⟨by rw [sp_u4, if_neg c_1, if_pos c_12], rfl⟩)
    · have c_12 : ¬ (x1 < ((nI n) - 3)) := of_decide_eq_false c_12
      refine ml_st (S' := (16, [], [.int 0], M)) rfl rfl rfl ?_
      exact ml_ret rfl (rfl) (⟨by rw [sp_u4, if_neg c_1, if_neg c_12], rfl⟩)
def sp_goesOn (n : Nat) (f : Nat → Int32) (x1 : Int32) (x2 : Int32) : Int32 := if x1 < 0 then (0) else (if x2 ≤ x1 then (0) else (if (nI n) ≤ x1 then (0) else (if ¬ ((f (Int32.toNatClampNeg x1)) &&& 192) = 128 then (0) else (1))))
set_option maxHeartbeats 1000000 in
theorem ct_goesOn {g : xe_G} {M : mi_H} {b da n : Nat} {f : Nat → Int32} {x1 x2 : Int32} (hB : BY M b da n f) {d : Nat} (hd : 1 ≤ d) : mt (mT g) d 46 [.ref b, .int x1, .int x2] M (fun v M' => v = some (.int (sp_goesOn n f x1 x2)) ∧ M' = M) := by
  obtain ⟨d, rfl⟩ : ∃ e, d = e + 1 := ⟨d - 1, by omega⟩
  refine mt_in (b := mb_46 g) rfl rfl ?_
  show ml (mT g) d (mb_46 g).2 (0, [(0, .ref b), (1, .int x1), (2, .int x2)], [], M) _
  refine ml_st (S' := (1, [(0, .ref b), (1, .int x1), (2, .int x2)], [.int x1], M)) rfl rfl rfl ?_
  refine ml_if (S1 := (38, [], [], M)) (S2 := (4, [(0, .ref b), (1, .int x1), (2, .int x2)], [], M)) rfl rfl rfl (fun c_1 => ?_) (fun c_1 => ?_)
  · have c_1 : x1 < 0 := of_decide_eq_true c_1
    refine ml_st (S' := (39, [], [.int 0], M)) rfl rfl rfl ?_
    exact ml_ret rfl (rfl) (⟨by rw [sp_goesOn, if_pos c_1], rfl⟩)
  · have c_1 : ¬ (x1 < 0) := of_decide_eq_false c_1
    refine ml_st (S' := (5, [(0, .ref b), (1, .int x1), (2, .int x2)], [.int x1], M)) rfl rfl rfl ?_
    refine ml_st (S' := (6, [(0, .ref b), (1, .int x1), (2, .int x2)], [.int x2, .int x1], M)) rfl rfl rfl ?_
    refine ml_if2 (S1 := (38, [], [], M)) (S2 := (9, [(0, .ref b), (1, .int x1), (2, .int x2)], [], M)) rfl rfl rfl (fun c_6 => ?_) (fun c_6 => ?_)
    · have c_6 : x2 ≤ x1 := of_decide_eq_true c_6
      refine ml_st (S' := (39, [], [.int 0], M)) rfl rfl rfl ?_
      exact ml_ret rfl (rfl) (⟨by rw [sp_goesOn, if_neg c_1, if_pos c_6], rfl⟩)
    · have c_6 : ¬ (x2 ≤ x1) := of_decide_eq_false c_6
      refine ml_st (S' := (10, [(0, .ref b), (1, .int x1), (2, .int x2)], [.int x1], M)) rfl rfl rfl ?_
      refine ml_st (S' := (11, [(0, .ref b), (1, .int x1), (2, .int x2)], [.ref b, .int x1], M)) rfl rfl rfl ?_
      refine mo_get (S' := (14, [(0, .ref b), (1, .int x1), (2, .int x2)], [.ref da, .int x1], M)) rfl hB.1 rfl rfl ?_
      refine mo_alen (S' := (15, [(0, .ref b), (1, .int x1), (2, .int x2)], [.int (nI n), .int x1], M)) rfl hB.2.1 rfl ?_
      refine ml_if2 (S1 := (38, [], [], M)) (S2 := (18, [(0, .ref b), (1, .int x1), (2, .int x2)], [], M)) rfl rfl rfl (fun c_15 => ?_) (fun c_15 => ?_)
      · have c_15 : (nI n) ≤ x1 := of_decide_eq_true c_15
        refine ml_st (S' := (39, [], [.int 0], M)) rfl rfl rfl ?_
        exact ml_ret rfl (rfl) (⟨by rw [sp_goesOn, if_neg c_1, if_neg c_6, if_pos c_15], rfl⟩)
      · have c_15 : ¬ ((nI n) ≤ x1) := of_decide_eq_false c_15
        refine ml_st (S' := (19, [(0, .ref b), (1, .int x1), (2, .int x2)], [.ref b], M)) rfl rfl rfl ?_
        refine mo_get (S' := (22, [(0, .ref b), (1, .int x1), (2, .int x2)], [.ref da], M)) rfl hB.1 rfl rfl ?_
        refine ml_st (S' := (23, [(0, .ref b), (1, .int x1), (2, .int x2)], [.int x1, .ref da], M)) rfl rfl rfl ?_
        refine mo_ald (S' := (24, [(0, .ref b), (1, .int x1), (2, .int x2)], [.int (f (Int32.toNatClampNeg x1))], M)) rfl hB.2.1 (vin_ge c_1 c_15) rfl ?_
        refine ml_st (S' := (27, [(0, .ref b), (1, .int x1), (2, .int x2)], [.int 192, .int (f (Int32.toNatClampNeg x1))], M)) rfl rfl rfl ?_
        refine ml_st (S' := (28, [(0, .ref b), (1, .int x1), (2, .int x2)], [.int ((f (Int32.toNatClampNeg x1)) &&& 192)], M)) rfl rfl rfl ?_
        refine ml_st (S' := (31, [(0, .ref b), (1, .int x1), (2, .int x2)], [.int 128, .int ((f (Int32.toNatClampNeg x1)) &&& 192)], M)) rfl rfl rfl ?_
        refine ml_if2 (S1 := (38, [], [], M)) (S2 := (34, [(0, .ref b), (1, .int x1), (2, .int x2)], [], M)) rfl rfl rfl (fun c_31 => ?_) (fun c_31 => ?_)
        · have c_31 : ¬ ((f (Int32.toNatClampNeg x1)) &&& 192) = 128 := of_decide_eq_true c_31
          refine ml_st (S' := (39, [], [.int 0], M)) rfl rfl rfl ?_
          exact ml_ret rfl (rfl) (⟨by rw [sp_goesOn, if_neg c_1, if_neg c_6, if_neg c_15, if_pos c_31], rfl⟩)
        · have c_31 : ¬ (¬ ((f (Int32.toNatClampNeg x1)) &&& 192) = 128) := of_decide_eq_false c_31
          refine ml_st (S' := (35, [(0, .ref b), (1, .int x1), (2, .int x2)], [.int 1], M)) rfl rfl rfl ?_
          refine ml_st (S' := (39, [], [.int 1], M)) rfl rfl rfl ?_
          exact ml_ret rfl (rfl) (⟨by rw [sp_goesOn, if_neg c_1, if_neg c_6, if_neg c_15, if_neg c_31], rfl⟩)
def sp_tagOf (n m : Nat) (f : Nat → Nat → Int32) (x1 : Int32) : Int32 := if x1 < 0 then (0) else (if x1 < (nI n) then (((f 1) (Int32.toNatClampNeg x1))) else (0))
set_option maxHeartbeats 1000000 in
theorem ct_tagOf {g : xe_G} {M : mi_H} {p : Nat} {size : Int32} {n m : Nat} {q : Nat → Nat} {f : Nat → Nat → Int32} {cc : Int32} {x1 : Int32} (hP : PL M p size n m q f cc) {d : Nat} (hd : 1 ≤ d) : mt (mT g) d 138 [.ref p, .int x1] M (fun v M' => v = some (.int (sp_tagOf n m f x1)) ∧ M' = M) := by
  obtain ⟨d, rfl⟩ : ∃ e, d = e + 1 := ⟨d - 1, by omega⟩
  refine mt_in (b := mb_138 g) rfl rfl ?_
  show ml (mT g) d (mb_138 g).2 (0, [(0, .ref p), (1, .int x1)], [], M) _
  refine ml_st (S' := (1, [(0, .ref p), (1, .int x1)], [.int x1], M)) rfl rfl rfl ?_
  refine ml_if (S1 := (13, [], [], M)) (S2 := (4, [(0, .ref p), (1, .int x1)], [], M)) rfl rfl rfl (fun c_1 => ?_) (fun c_1 => ?_)
  · have c_1 : x1 < 0 := of_decide_eq_true c_1
    refine ml_st (S' := (14, [], [.int 0], M)) rfl rfl rfl ?_
    refine ml_st (S' := (23, [], [.int 0], M)) rfl rfl rfl ?_
    exact ml_ret rfl (rfl) (⟨by rw [sp_tagOf, if_pos c_1], rfl⟩)
  · have c_1 : ¬ (x1 < 0) := of_decide_eq_false c_1
    refine ml_st (S' := (5, [(0, .ref p), (1, .int x1)], [.int x1], M)) rfl rfl rfl ?_
    refine ml_st (S' := (6, [(0, .ref p), (1, .int x1)], [.ref p, .int x1], M)) rfl rfl rfl ?_
    refine mo_get (S' := (9, [(0, .ref p), (1, .int x1)], [.ref (q 1), .int x1], M)) rfl hP.1 rfl rfl ?_
    refine mo_alen (S' := (10, [(0, .ref p), (1, .int x1)], [.int (nI n), .int x1], M)) rfl (hP.2.1 1 (by decide) (by decide)) rfl ?_
    refine ml_if2 (S1 := (17, [(0, .ref p), (1, .int x1)], [], M)) (S2 := (13, [], [], M)) rfl rfl rfl (fun c_10 => ?_) (fun c_10 => ?_)
    · have c_10 : x1 < (nI n) := of_decide_eq_true c_10
      refine ml_st (S' := (18, [(0, .ref p), (1, .int x1)], [.ref p], M)) rfl rfl rfl ?_
      refine mo_get (S' := (21, [(0, .ref p), (1, .int x1)], [.ref (q 1)], M)) rfl hP.1 rfl rfl ?_
      refine ml_st (S' := (22, [(0, .ref p), (1, .int x1)], [.int x1, .ref (q 1)], M)) rfl rfl rfl ?_
      refine mo_ald (S' := (23, [], [.int ((f 1) (Int32.toNatClampNeg x1))], M)) rfl (hP.2.1 1 (by decide) (by decide)) (vin_of c_1 c_10) rfl ?_
      exact ml_ret rfl (rfl) (⟨by rw [sp_tagOf, if_neg c_1, if_pos c_10], rfl⟩)
    · have c_10 : ¬ (x1 < (nI n)) := of_decide_eq_false c_10
      refine ml_st (S' := (14, [], [.int 0], M)) rfl rfl rfl ?_
      refine ml_st (S' := (23, [], [.int 0], M)) rfl rfl rfl ?_
      exact ml_ret rfl (rfl) (⟨by rw [sp_tagOf, if_neg c_1, if_neg c_10], rfl⟩)
def sp_tagPlace (n m : Nat) (f : Nat → Nat → Int32) (x1 : Int32) : Int32 := if x1 < 0 then (0) else (if x1 < (nI n) then (((f 2) (Int32.toNatClampNeg x1))) else (0))
set_option maxHeartbeats 1000000 in
theorem ct_tagPlace {g : xe_G} {M : mi_H} {p : Nat} {size : Int32} {n m : Nat} {q : Nat → Nat} {f : Nat → Nat → Int32} {cc : Int32} {x1 : Int32} (hP : PL M p size n m q f cc) {d : Nat} (hd : 1 ≤ d) : mt (mT g) d 139 [.ref p, .int x1] M (fun v M' => v = some (.int (sp_tagPlace n m f x1)) ∧ M' = M) := by
  obtain ⟨d, rfl⟩ : ∃ e, d = e + 1 := ⟨d - 1, by omega⟩
  refine mt_in (b := mb_139 g) rfl rfl ?_
  show ml (mT g) d (mb_139 g).2 (0, [(0, .ref p), (1, .int x1)], [], M) _
  refine ml_st (S' := (1, [(0, .ref p), (1, .int x1)], [.int x1], M)) rfl rfl rfl ?_
  refine ml_if (S1 := (13, [], [], M)) (S2 := (4, [(0, .ref p), (1, .int x1)], [], M)) rfl rfl rfl (fun c_1 => ?_) (fun c_1 => ?_)
  · have c_1 : x1 < 0 := of_decide_eq_true c_1
    refine ml_st (S' := (14, [], [.int 0], M)) rfl rfl rfl ?_
    refine ml_st (S' := (23, [], [.int 0], M)) rfl rfl rfl ?_
    exact ml_ret rfl (rfl) (⟨by rw [sp_tagPlace, if_pos c_1], rfl⟩)
  · have c_1 : ¬ (x1 < 0) := of_decide_eq_false c_1
    refine ml_st (S' := (5, [(0, .ref p), (1, .int x1)], [.int x1], M)) rfl rfl rfl ?_
    refine ml_st (S' := (6, [(0, .ref p), (1, .int x1)], [.ref p, .int x1], M)) rfl rfl rfl ?_
    refine mo_get (S' := (9, [(0, .ref p), (1, .int x1)], [.ref (q 1), .int x1], M)) rfl hP.1 rfl rfl ?_
    refine mo_alen (S' := (10, [(0, .ref p), (1, .int x1)], [.int (nI n), .int x1], M)) rfl (hP.2.1 1 (by decide) (by decide)) rfl ?_
    refine ml_if2 (S1 := (17, [(0, .ref p), (1, .int x1)], [], M)) (S2 := (13, [], [], M)) rfl rfl rfl (fun c_10 => ?_) (fun c_10 => ?_)
    · have c_10 : x1 < (nI n) := of_decide_eq_true c_10
      refine ml_st (S' := (18, [(0, .ref p), (1, .int x1)], [.ref p], M)) rfl rfl rfl ?_
      refine mo_get (S' := (21, [(0, .ref p), (1, .int x1)], [.ref (q 2)], M)) rfl hP.1 rfl rfl ?_
      refine ml_st (S' := (22, [(0, .ref p), (1, .int x1)], [.int x1, .ref (q 2)], M)) rfl rfl rfl ?_
      refine mo_ald (S' := (23, [], [.int ((f 2) (Int32.toNatClampNeg x1))], M)) rfl (hP.2.1 2 (by decide) (by decide)) (vin_of c_1 c_10) rfl ?_
      exact ml_ret rfl (rfl) (⟨by rw [sp_tagPlace, if_neg c_1, if_pos c_10], rfl⟩)
    · have c_10 : ¬ (x1 < (nI n)) := of_decide_eq_false c_10
      refine ml_st (S' := (14, [], [.int 0], M)) rfl rfl rfl ?_
      refine ml_st (S' := (23, [], [.int 0], M)) rfl rfl rfl ?_
      exact ml_ret rfl (rfl) (⟨by rw [sp_tagPlace, if_neg c_1, if_neg c_10], rfl⟩)

theorem tag_in {n m : Nat} {f : Nat → Nat → Int32} {k t : Int32} (h : sp_tagOf n m f k = t) (ht : t ≠ 0) : vp_in k n ∧ f 1 k.toNatClampNeg = t := by
  unfold sp_tagOf at h
  split at h
  · exact absurd h.symm ht
  · split at h
    · exact ⟨vin_of ‹_› ‹_›, h⟩
    · exact absurd h.symm ht

def sp_firstIndex (n m : Nat) (f : Nat → Nat → Int32) (x1 : Int32) : Int32 := if x1 < 0 then (0) else (if (nI n) ≤ x1 then (0) else (if 7 ≤ ((f 1) (Int32.toNatClampNeg x1)) then (((f 3) (Int32.toNatClampNeg x1))) else (0)))
set_option maxHeartbeats 1000000 in
theorem ct_firstIndex {g : xe_G} {M : mi_H} {p : Nat} {size : Int32} {n m : Nat} {q : Nat → Nat} {f : Nat → Nat → Int32} {cc : Int32} {x1 : Int32} (hP : PL M p size n m q f cc) {d : Nat} (hd : 1 ≤ d) : mt (mT g) d 117 [.ref p, .int x1] M (fun v M' => v = some (.int (sp_firstIndex n m f x1)) ∧ M' = M) := by
  obtain ⟨d, rfl⟩ : ∃ e, d = e + 1 := ⟨d - 1, by omega⟩
  refine mt_in (b := mb_117 g) rfl rfl ?_
  show ml (mT g) d (mb_117 g).2 (0, [(0, .ref p), (1, .int x1)], [], M) _
  refine ml_st (S' := (1, [(0, .ref p), (1, .int x1)], [.int x1], M)) rfl rfl rfl ?_
  refine ml_if (S1 := (24, [], [], M)) (S2 := (4, [(0, .ref p), (1, .int x1)], [], M)) rfl rfl rfl (fun c_1 => ?_) (fun c_1 => ?_)
  · have c_1 : x1 < 0 := of_decide_eq_true c_1
    refine ml_st (S' := (25, [], [.int 0], M)) rfl rfl rfl ?_
    refine ml_st (S' := (34, [], [.int 0], M)) rfl rfl rfl ?_
    exact ml_ret rfl (rfl) (⟨by rw [sp_firstIndex, if_pos c_1], rfl⟩)
  · have c_1 : ¬ (x1 < 0) := of_decide_eq_false c_1
    refine ml_st (S' := (5, [(0, .ref p), (1, .int x1)], [.int x1], M)) rfl rfl rfl ?_
    refine ml_st (S' := (6, [(0, .ref p), (1, .int x1)], [.ref p, .int x1], M)) rfl rfl rfl ?_
    refine mo_get (S' := (9, [(0, .ref p), (1, .int x1)], [.ref (q 1), .int x1], M)) rfl hP.1 rfl rfl ?_
    refine mo_alen (S' := (10, [(0, .ref p), (1, .int x1)], [.int (nI n), .int x1], M)) rfl (hP.2.1 1 (by decide) (by decide)) rfl ?_
    refine ml_if2 (S1 := (24, [], [], M)) (S2 := (13, [(0, .ref p), (1, .int x1)], [], M)) rfl rfl rfl (fun c_10 => ?_) (fun c_10 => ?_)
    · have c_10 : (nI n) ≤ x1 := of_decide_eq_true c_10
      refine ml_st (S' := (25, [], [.int 0], M)) rfl rfl rfl ?_
      refine ml_st (S' := (34, [], [.int 0], M)) rfl rfl rfl ?_
      exact ml_ret rfl (rfl) (⟨by rw [sp_firstIndex, if_neg c_1, if_pos c_10], rfl⟩)
    · have c_10 : ¬ ((nI n) ≤ x1) := of_decide_eq_false c_10
      refine ml_st (S' := (14, [(0, .ref p), (1, .int x1)], [.ref p], M)) rfl rfl rfl ?_
      refine mo_get (S' := (17, [(0, .ref p), (1, .int x1)], [.ref (q 1)], M)) rfl hP.1 rfl rfl ?_
      refine ml_st (S' := (18, [(0, .ref p), (1, .int x1)], [.int x1, .ref (q 1)], M)) rfl rfl rfl ?_
      refine mo_ald (S' := (19, [(0, .ref p), (1, .int x1)], [.int ((f 1) (Int32.toNatClampNeg x1))], M)) rfl (hP.2.1 1 (by decide) (by decide)) (vin_ge c_1 c_10) rfl ?_
      refine ml_st (S' := (21, [(0, .ref p), (1, .int x1)], [.int 7, .int ((f 1) (Int32.toNatClampNeg x1))], M)) rfl rfl rfl ?_
      refine ml_if2 (S1 := (28, [(0, .ref p), (1, .int x1)], [], M)) (S2 := (24, [], [], M)) rfl rfl rfl (fun c_21 => ?_) (fun c_21 => ?_)
      · have c_21 : 7 ≤ ((f 1) (Int32.toNatClampNeg x1)) := of_decide_eq_true c_21
        refine ml_st (S' := (29, [(0, .ref p), (1, .int x1)], [.ref p], M)) rfl rfl rfl ?_
        refine mo_get (S' := (32, [(0, .ref p), (1, .int x1)], [.ref (q 3)], M)) rfl hP.1 rfl rfl ?_
        refine ml_st (S' := (33, [(0, .ref p), (1, .int x1)], [.int x1, .ref (q 3)], M)) rfl rfl rfl ?_
        refine mo_ald (S' := (34, [], [.int ((f 3) (Int32.toNatClampNeg x1))], M)) rfl (hP.2.1 3 (by decide) (by decide)) (vin_ge c_1 c_10) rfl ?_
        exact ml_ret rfl (rfl) (⟨by rw [sp_firstIndex, if_neg c_1, if_neg c_10, if_pos c_21], rfl⟩)
      · have c_21 : ¬ (7 ≤ ((f 1) (Int32.toNatClampNeg x1))) := of_decide_eq_false c_21
        refine ml_st (S' := (25, [], [.int 0], M)) rfl rfl rfl ?_
        refine ml_st (S' := (34, [], [.int 0], M)) rfl rfl rfl ?_
        exact ml_ret rfl (rfl) (⟨by rw [sp_firstIndex, if_neg c_1, if_neg c_10, if_neg c_21], rfl⟩)
def sp_secondIndex (n m : Nat) (f : Nat → Nat → Int32) (x1 : Int32) : Int32 := if x1 < 0 then (0) else (if (nI n) ≤ x1 then (0) else (if 7 ≤ ((f 1) (Int32.toNatClampNeg x1)) then (((f 4) (Int32.toNatClampNeg x1))) else (0)))
set_option maxHeartbeats 1000000 in
theorem ct_secondIndex {g : xe_G} {M : mi_H} {p : Nat} {size : Int32} {n m : Nat} {q : Nat → Nat} {f : Nat → Nat → Int32} {cc : Int32} {x1 : Int32} (hP : PL M p size n m q f cc) {d : Nat} (hd : 1 ≤ d) : mt (mT g) d 134 [.ref p, .int x1] M (fun v M' => v = some (.int (sp_secondIndex n m f x1)) ∧ M' = M) := by
  obtain ⟨d, rfl⟩ : ∃ e, d = e + 1 := ⟨d - 1, by omega⟩
  refine mt_in (b := mb_134 g) rfl rfl ?_
  show ml (mT g) d (mb_134 g).2 (0, [(0, .ref p), (1, .int x1)], [], M) _
  refine ml_st (S' := (1, [(0, .ref p), (1, .int x1)], [.int x1], M)) rfl rfl rfl ?_
  refine ml_if (S1 := (24, [], [], M)) (S2 := (4, [(0, .ref p), (1, .int x1)], [], M)) rfl rfl rfl (fun c_1 => ?_) (fun c_1 => ?_)
  · have c_1 : x1 < 0 := of_decide_eq_true c_1
    refine ml_st (S' := (25, [], [.int 0], M)) rfl rfl rfl ?_
    refine ml_st (S' := (34, [], [.int 0], M)) rfl rfl rfl ?_
    exact ml_ret rfl (rfl) (⟨by rw [sp_secondIndex, if_pos c_1], rfl⟩)
  · have c_1 : ¬ (x1 < 0) := of_decide_eq_false c_1
    refine ml_st (S' := (5, [(0, .ref p), (1, .int x1)], [.int x1], M)) rfl rfl rfl ?_
    refine ml_st (S' := (6, [(0, .ref p), (1, .int x1)], [.ref p, .int x1], M)) rfl rfl rfl ?_
    refine mo_get (S' := (9, [(0, .ref p), (1, .int x1)], [.ref (q 1), .int x1], M)) rfl hP.1 rfl rfl ?_
    refine mo_alen (S' := (10, [(0, .ref p), (1, .int x1)], [.int (nI n), .int x1], M)) rfl (hP.2.1 1 (by decide) (by decide)) rfl ?_
    refine ml_if2 (S1 := (24, [], [], M)) (S2 := (13, [(0, .ref p), (1, .int x1)], [], M)) rfl rfl rfl (fun c_10 => ?_) (fun c_10 => ?_)
    · have c_10 : (nI n) ≤ x1 := of_decide_eq_true c_10
      refine ml_st (S' := (25, [], [.int 0], M)) rfl rfl rfl ?_
      refine ml_st (S' := (34, [], [.int 0], M)) rfl rfl rfl ?_
      exact ml_ret rfl (rfl) (⟨by rw [sp_secondIndex, if_neg c_1, if_pos c_10], rfl⟩)
    · have c_10 : ¬ ((nI n) ≤ x1) := of_decide_eq_false c_10
      refine ml_st (S' := (14, [(0, .ref p), (1, .int x1)], [.ref p], M)) rfl rfl rfl ?_
      refine mo_get (S' := (17, [(0, .ref p), (1, .int x1)], [.ref (q 1)], M)) rfl hP.1 rfl rfl ?_
      refine ml_st (S' := (18, [(0, .ref p), (1, .int x1)], [.int x1, .ref (q 1)], M)) rfl rfl rfl ?_
      refine mo_ald (S' := (19, [(0, .ref p), (1, .int x1)], [.int ((f 1) (Int32.toNatClampNeg x1))], M)) rfl (hP.2.1 1 (by decide) (by decide)) (vin_ge c_1 c_10) rfl ?_
      refine ml_st (S' := (21, [(0, .ref p), (1, .int x1)], [.int 7, .int ((f 1) (Int32.toNatClampNeg x1))], M)) rfl rfl rfl ?_
      refine ml_if2 (S1 := (28, [(0, .ref p), (1, .int x1)], [], M)) (S2 := (24, [], [], M)) rfl rfl rfl (fun c_21 => ?_) (fun c_21 => ?_)
      · have c_21 : 7 ≤ ((f 1) (Int32.toNatClampNeg x1)) := of_decide_eq_true c_21
        refine ml_st (S' := (29, [(0, .ref p), (1, .int x1)], [.ref p], M)) rfl rfl rfl ?_
        refine mo_get (S' := (32, [(0, .ref p), (1, .int x1)], [.ref (q 4)], M)) rfl hP.1 rfl rfl ?_
        refine ml_st (S' := (33, [(0, .ref p), (1, .int x1)], [.int x1, .ref (q 4)], M)) rfl rfl rfl ?_
        refine mo_ald (S' := (34, [], [.int ((f 4) (Int32.toNatClampNeg x1))], M)) rfl (hP.2.1 4 (by decide) (by decide)) (vin_ge c_1 c_10) rfl ?_
        exact ml_ret rfl (rfl) (⟨by rw [sp_secondIndex, if_neg c_1, if_neg c_10, if_pos c_21], rfl⟩)
      · have c_21 : ¬ (7 ≤ ((f 1) (Int32.toNatClampNeg x1))) := of_decide_eq_false c_21
        refine ml_st (S' := (25, [], [.int 0], M)) rfl rfl rfl ?_
        refine ml_st (S' := (34, [], [.int 0], M)) rfl rfl rfl ?_
        exact ml_ret rfl (rfl) (⟨by rw [sp_secondIndex, if_neg c_1, if_neg c_10, if_neg c_21], rfl⟩)
def sp_isWide (n m : Nat) (f : Nat → Nat → Int32) (x1 : Int32) : Int32 := if (sp_tagOf n m f x1) = 5 then (1) else (if ¬ (sp_tagOf n m f x1) = 6 then (0) else (1))
set_option maxHeartbeats 1000000 in
theorem ct_isWide {g : xe_G} {M : mi_H} {p : Nat} {size : Int32} {n m : Nat} {q : Nat → Nat} {f : Nat → Nat → Int32} {cc : Int32} {x1 : Int32} (hP : PL M p size n m q f cc) {d : Nat} (hd : 2 ≤ d) : mt (mT g) d 125 [.ref p, .int x1] M (fun v M' => v = some (.int (sp_isWide n m f x1)) ∧ M' = M) := by
  obtain ⟨d, rfl⟩ : ∃ e, d = e + 1 := ⟨d - 1, by omega⟩
  refine mt_in (b := mb_125 g) rfl rfl ?_
  show ml (mT g) d (mb_125 g).2 (0, [(0, .ref p), (1, .int x1)], [], M) _
  refine ml_st (S' := (1, [(0, .ref p), (1, .int x1)], [.ref p], M)) rfl rfl rfl ?_
  refine ml_st (S' := (2, [(0, .ref p), (1, .int x1)], [.int x1, .ref p], M)) rfl rfl rfl ?_
  refine ml_call (a := [.ref p, .int x1]) (rest := []) rfl (okc_v rfl rfl rfl hP.1) rfl rfl (ct_tagOf hP (by omega)) (fun v1 M2 h3 => ?_)
  obtain ⟨rfl, h3⟩ := h3
  rw [h3]
  show ml _ _ _ (5, [(0, .ref p), (1, .int x1)], [.int (sp_tagOf n m f x1)], M) _
  refine ml_st (S' := (6, [(2, .int (sp_tagOf n m f x1)), (0, .ref p), (1, .int x1)], [], M)) rfl rfl rfl ?_
  refine ml_st (S' := (7, [(2, .int (sp_tagOf n m f x1)), (0, .ref p), (1, .int x1)], [.int (sp_tagOf n m f x1)], M)) rfl rfl rfl ?_
  refine ml_st (S' := (8, [(2, .int (sp_tagOf n m f x1)), (0, .ref p), (1, .int x1)], [.int 5, .int (sp_tagOf n m f x1)], M)) rfl rfl rfl ?_
  refine ml_if2 (S1 := (17, [], [], M)) (S2 := (11, [(2, .int (sp_tagOf n m f x1)), (0, .ref p), (1, .int x1)], [], M)) rfl rfl rfl (fun c_8 => ?_) (fun c_8 => ?_)
  · have c_8 : (sp_tagOf n m f x1) = 5 := of_decide_eq_true c_8
    refine ml_st (S' := (18, [], [.int 1], M)) rfl rfl rfl ?_
    refine ml_st (S' := (22, [], [.int 1], M)) rfl rfl rfl ?_
    exact ml_ret rfl (rfl) (⟨by rw [sp_isWide, if_pos c_8], rfl⟩)
  · have c_8 : ¬ ((sp_tagOf n m f x1) = 5) := of_decide_eq_false c_8
    refine ml_st (S' := (12, [(2, .int (sp_tagOf n m f x1)), (0, .ref p), (1, .int x1)], [.int (sp_tagOf n m f x1)], M)) rfl rfl rfl ?_
    refine ml_st (S' := (14, [(2, .int (sp_tagOf n m f x1)), (0, .ref p), (1, .int x1)], [.int 6, .int (sp_tagOf n m f x1)], M)) rfl rfl rfl ?_
    refine ml_if2 (S1 := (21, [(2, .int (sp_tagOf n m f x1)), (0, .ref p), (1, .int x1)], [], M)) (S2 := (17, [], [], M)) rfl rfl rfl (fun c_14 => ?_) (fun c_14 => ?_)
    · have c_14 : ¬ (sp_tagOf n m f x1) = 6 := of_decide_eq_true c_14
      refine ml_st (S' := (22, [], [.int 0], M)) rfl rfl rfl ?_
      exact ml_ret rfl (rfl) (⟨by rw [sp_isWide, if_neg c_8, if_pos c_14], rfl⟩)
    · have c_14 : ¬ (¬ (sp_tagOf n m f x1) = 6) := of_decide_eq_false c_14
      refine ml_st (S' := (18, [], [.int 1], M)) rfl rfl rfl ?_
      refine ml_st (S' := (22, [], [.int 1], M)) rfl rfl rfl ?_
      exact ml_ret rfl (rfl) (⟨by rw [sp_isWide, if_neg c_8, if_neg c_14], rfl⟩)
def sp_textLength (n m : Nat) (f : Nat → Nat → Int32) (x1 : Int32) : Int32 := if ¬ (sp_tagOf n m f x1) = 1 then (0) else (((f 4) (Int32.toNatClampNeg x1)))
set_option maxHeartbeats 1000000 in
theorem ct_textLength {g : xe_G} {M : mi_H} {p : Nat} {size : Int32} {n m : Nat} {q : Nat → Nat} {f : Nat → Nat → Int32} {cc : Int32} {x1 : Int32} (hP : PL M p size n m q f cc) {d : Nat} (hd : 2 ≤ d) : mt (mT g) d 141 [.ref p, .int x1] M (fun v M' => v = some (.int (sp_textLength n m f x1)) ∧ M' = M) := by
  obtain ⟨d, rfl⟩ : ∃ e, d = e + 1 := ⟨d - 1, by omega⟩
  refine mt_in (b := mb_141 g) rfl rfl ?_
  show ml (mT g) d (mb_141 g).2 (0, [(0, .ref p), (1, .int x1)], [], M) _
  refine ml_st (S' := (1, [(0, .ref p), (1, .int x1)], [.ref p], M)) rfl rfl rfl ?_
  refine ml_st (S' := (2, [(0, .ref p), (1, .int x1)], [.int x1, .ref p], M)) rfl rfl rfl ?_
  refine ml_call (a := [.ref p, .int x1]) (rest := []) rfl (okc_v rfl rfl rfl hP.1) rfl rfl (ct_tagOf hP (by omega)) (fun v1 M2 h3 => ?_)
  obtain ⟨rfl, h3⟩ := h3
  rw [h3]
  show ml _ _ _ (5, [(0, .ref p), (1, .int x1)], [.int (sp_tagOf n m f x1)], M) _
  refine ml_st (S' := (6, [(0, .ref p), (1, .int x1)], [.int 1, .int (sp_tagOf n m f x1)], M)) rfl rfl rfl ?_
  refine ml_if2 (S1 := (18, [(0, .ref p), (1, .int x1)], [], M)) (S2 := (9, [(0, .ref p), (1, .int x1)], [], M)) rfl rfl rfl (fun c_6 => ?_) (fun c_6 => ?_)
  · have c_6 : ¬ (sp_tagOf n m f x1) = 1 := of_decide_eq_true c_6
    refine ml_st (S' := (19, [], [.int 0], M)) rfl rfl rfl ?_
    exact ml_ret rfl (rfl) (⟨by rw [sp_textLength, if_pos c_6], rfl⟩)
  · have c_6 : ¬ (¬ (sp_tagOf n m f x1) = 1) := of_decide_eq_false c_6
    refine ml_st (S' := (10, [(0, .ref p), (1, .int x1)], [.ref p], M)) rfl rfl rfl ?_
    refine mo_get (S' := (13, [(0, .ref p), (1, .int x1)], [.ref (q 4)], M)) rfl hP.1 rfl rfl ?_
    refine ml_st (S' := (14, [(0, .ref p), (1, .int x1)], [.int x1, .ref (q 4)], M)) rfl rfl rfl ?_
    refine mo_ald (S' := (15, [(0, .ref p), (1, .int x1)], [.int ((f 4) (Int32.toNatClampNeg x1))], M)) rfl (hP.2.1 4 (by decide) (by decide)) ((tag_in (Decidable.not_not.mp c_6) (by decide)).1) rfl ?_
    refine ml_st (S' := (19, [], [.int ((f 4) (Int32.toNatClampNeg x1))], M)) rfl rfl rfl ?_
    exact ml_ret rfl (rfl) (⟨by rw [sp_textLength, if_neg c_6], rfl⟩)
def sp_isFieldDescriptor (n m : Nat) (f : Nat → Nat → Int32) (x1 : Int32) : Int32 := if ¬ (sp_tagOf n m f x1) = 1 then (0) else (if ((f 5) (Int32.toNatClampNeg x1)) ≤ 0 then (0) else (if 4096 ≤ ((f 5) (Int32.toNatClampNeg x1)) then (0) else (1)))
set_option maxHeartbeats 1000000 in
theorem ct_isFieldDescriptor {g : xe_G} {M : mi_H} {p : Nat} {size : Int32} {n m : Nat} {q : Nat → Nat} {f : Nat → Nat → Int32} {cc : Int32} {x1 : Int32} (hP : PL M p size n m q f cc) {d : Nat} (hd : 2 ≤ d) : mt (mT g) d 121 [.ref p, .int x1] M (fun v M' => v = some (.int (sp_isFieldDescriptor n m f x1)) ∧ M' = M) := by
  obtain ⟨d, rfl⟩ : ∃ e, d = e + 1 := ⟨d - 1, by omega⟩
  refine mt_in (b := mb_121 g) rfl rfl ?_
  show ml (mT g) d (mb_121 g).2 (0, [(0, .ref p), (1, .int x1)], [], M) _
  refine ml_st (S' := (1, [(0, .ref p), (1, .int x1)], [.ref p], M)) rfl rfl rfl ?_
  refine ml_st (S' := (2, [(0, .ref p), (1, .int x1)], [.int x1, .ref p], M)) rfl rfl rfl ?_
  refine ml_call (a := [.ref p, .int x1]) (rest := []) rfl (okc_v rfl rfl rfl hP.1) rfl rfl (ct_tagOf hP (by omega)) (fun v1 M2 h3 => ?_)
  obtain ⟨rfl, h3⟩ := h3
  rw [h3]
  show ml _ _ _ (5, [(0, .ref p), (1, .int x1)], [.int (sp_tagOf n m f x1)], M) _
  refine ml_st (S' := (6, [(0, .ref p), (1, .int x1)], [.int 1, .int (sp_tagOf n m f x1)], M)) rfl rfl rfl ?_
  refine ml_if2 (S1 := (34, [], [], M)) (S2 := (9, [(0, .ref p), (1, .int x1)], [], M)) rfl rfl rfl (fun c_6 => ?_) (fun c_6 => ?_)
  · have c_6 : ¬ (sp_tagOf n m f x1) = 1 := of_decide_eq_true c_6
    refine ml_st (S' := (35, [], [.int 0], M)) rfl rfl rfl ?_
    exact ml_ret rfl (rfl) (⟨by rw [sp_isFieldDescriptor, if_pos c_6], rfl⟩)
  · have c_6 : ¬ (¬ (sp_tagOf n m f x1) = 1) := of_decide_eq_false c_6
    refine ml_st (S' := (10, [(0, .ref p), (1, .int x1)], [.ref p], M)) rfl rfl rfl ?_
    refine mo_get (S' := (13, [(0, .ref p), (1, .int x1)], [.ref (q 5)], M)) rfl hP.1 rfl rfl ?_
    refine ml_st (S' := (14, [(0, .ref p), (1, .int x1)], [.int x1, .ref (q 5)], M)) rfl rfl rfl ?_
    refine mo_ald (S' := (15, [(0, .ref p), (1, .int x1)], [.int ((f 5) (Int32.toNatClampNeg x1))], M)) rfl (hP.2.1 5 (by decide) (by decide)) ((tag_in (Decidable.not_not.mp c_6) (by decide)).1) rfl ?_
    refine ml_if (S1 := (34, [], [], M)) (S2 := (18, [(0, .ref p), (1, .int x1)], [], M)) rfl rfl rfl (fun c_15 => ?_) (fun c_15 => ?_)
    · have c_15 : ((f 5) (Int32.toNatClampNeg x1)) ≤ 0 := of_decide_eq_true c_15
      refine ml_st (S' := (35, [], [.int 0], M)) rfl rfl rfl ?_
      exact ml_ret rfl (rfl) (⟨by rw [sp_isFieldDescriptor, if_neg c_6, if_pos c_15], rfl⟩)
    · have c_15 : ¬ (((f 5) (Int32.toNatClampNeg x1)) ≤ 0) := of_decide_eq_false c_15
      refine ml_st (S' := (19, [(0, .ref p), (1, .int x1)], [.ref p], M)) rfl rfl rfl ?_
      refine mo_get (S' := (22, [(0, .ref p), (1, .int x1)], [.ref (q 5)], M)) rfl hP.1 rfl rfl ?_
      refine ml_st (S' := (23, [(0, .ref p), (1, .int x1)], [.int x1, .ref (q 5)], M)) rfl rfl rfl ?_
      refine mo_ald (S' := (24, [(0, .ref p), (1, .int x1)], [.int ((f 5) (Int32.toNatClampNeg x1))], M)) rfl (hP.2.1 5 (by decide) (by decide)) ((tag_in (Decidable.not_not.mp c_6) (by decide)).1) rfl ?_
      refine ml_st (S' := (27, [(0, .ref p), (1, .int x1)], [.int 4096, .int ((f 5) (Int32.toNatClampNeg x1))], M)) rfl rfl rfl ?_
      refine ml_if2 (S1 := (34, [], [], M)) (S2 := (30, [(0, .ref p), (1, .int x1)], [], M)) rfl rfl rfl (fun c_27 => ?_) (fun c_27 => ?_)
      · have c_27 : 4096 ≤ ((f 5) (Int32.toNatClampNeg x1)) := of_decide_eq_true c_27
        refine ml_st (S' := (35, [], [.int 0], M)) rfl rfl rfl ?_
        exact ml_ret rfl (rfl) (⟨by rw [sp_isFieldDescriptor, if_neg c_6, if_neg c_15, if_pos c_27], rfl⟩)
      · have c_27 : ¬ (4096 ≤ ((f 5) (Int32.toNatClampNeg x1))) := of_decide_eq_false c_27
        refine ml_st (S' := (31, [(0, .ref p), (1, .int x1)], [.int 1], M)) rfl rfl rfl ?_
        refine ml_st (S' := (35, [], [.int 1], M)) rfl rfl rfl ?_
        exact ml_ret rfl (rfl) (⟨by rw [sp_isFieldDescriptor, if_neg c_6, if_neg c_15, if_neg c_27], rfl⟩)
def sp_isMethodDescriptor (n m : Nat) (f : Nat → Nat → Int32) (x1 : Int32) : Int32 := if ¬ (sp_tagOf n m f x1) = 1 then (0) else (if ((f 5) (Int32.toNatClampNeg x1)) < 4096 then (0) else (1))
set_option maxHeartbeats 1000000 in
theorem ct_isMethodDescriptor {g : xe_G} {M : mi_H} {p : Nat} {size : Int32} {n m : Nat} {q : Nat → Nat} {f : Nat → Nat → Int32} {cc : Int32} {x1 : Int32} (hP : PL M p size n m q f cc) {d : Nat} (hd : 2 ≤ d) : mt (mT g) d 122 [.ref p, .int x1] M (fun v M' => v = some (.int (sp_isMethodDescriptor n m f x1)) ∧ M' = M) := by
  obtain ⟨d, rfl⟩ : ∃ e, d = e + 1 := ⟨d - 1, by omega⟩
  refine mt_in (b := mb_122 g) rfl rfl ?_
  show ml (mT g) d (mb_122 g).2 (0, [(0, .ref p), (1, .int x1)], [], M) _
  refine ml_st (S' := (1, [(0, .ref p), (1, .int x1)], [.ref p], M)) rfl rfl rfl ?_
  refine ml_st (S' := (2, [(0, .ref p), (1, .int x1)], [.int x1, .ref p], M)) rfl rfl rfl ?_
  refine ml_call (a := [.ref p, .int x1]) (rest := []) rfl (okc_v rfl rfl rfl hP.1) rfl rfl (ct_tagOf hP (by omega)) (fun v1 M2 h3 => ?_)
  obtain ⟨rfl, h3⟩ := h3
  rw [h3]
  show ml _ _ _ (5, [(0, .ref p), (1, .int x1)], [.int (sp_tagOf n m f x1)], M) _
  refine ml_st (S' := (6, [(0, .ref p), (1, .int x1)], [.int 1, .int (sp_tagOf n m f x1)], M)) rfl rfl rfl ?_
  refine ml_if2 (S1 := (25, [], [], M)) (S2 := (9, [(0, .ref p), (1, .int x1)], [], M)) rfl rfl rfl (fun c_6 => ?_) (fun c_6 => ?_)
  · have c_6 : ¬ (sp_tagOf n m f x1) = 1 := of_decide_eq_true c_6
    refine ml_st (S' := (26, [], [.int 0], M)) rfl rfl rfl ?_
    exact ml_ret rfl (rfl) (⟨by rw [sp_isMethodDescriptor, if_pos c_6], rfl⟩)
  · have c_6 : ¬ (¬ (sp_tagOf n m f x1) = 1) := of_decide_eq_false c_6
    refine ml_st (S' := (10, [(0, .ref p), (1, .int x1)], [.ref p], M)) rfl rfl rfl ?_
    refine mo_get (S' := (13, [(0, .ref p), (1, .int x1)], [.ref (q 5)], M)) rfl hP.1 rfl rfl ?_
    refine ml_st (S' := (14, [(0, .ref p), (1, .int x1)], [.int x1, .ref (q 5)], M)) rfl rfl rfl ?_
    refine mo_ald (S' := (15, [(0, .ref p), (1, .int x1)], [.int ((f 5) (Int32.toNatClampNeg x1))], M)) rfl (hP.2.1 5 (by decide) (by decide)) ((tag_in (Decidable.not_not.mp c_6) (by decide)).1) rfl ?_
    refine ml_st (S' := (18, [(0, .ref p), (1, .int x1)], [.int 4096, .int ((f 5) (Int32.toNatClampNeg x1))], M)) rfl rfl rfl ?_
    refine ml_if2 (S1 := (25, [], [], M)) (S2 := (21, [(0, .ref p), (1, .int x1)], [], M)) rfl rfl rfl (fun c_18 => ?_) (fun c_18 => ?_)
    · have c_18 : ((f 5) (Int32.toNatClampNeg x1)) < 4096 := of_decide_eq_true c_18
      refine ml_st (S' := (26, [], [.int 0], M)) rfl rfl rfl ?_
      exact ml_ret rfl (rfl) (⟨by rw [sp_isMethodDescriptor, if_neg c_6, if_pos c_18], rfl⟩)
    · have c_18 : ¬ (((f 5) (Int32.toNatClampNeg x1)) < 4096) := of_decide_eq_false c_18
      refine ml_st (S' := (22, [(0, .ref p), (1, .int x1)], [.int 1], M)) rfl rfl rfl ?_
      refine ml_st (S' := (26, [], [.int 1], M)) rfl rfl rfl ?_
      exact ml_ret rfl (rfl) (⟨by rw [sp_isMethodDescriptor, if_neg c_6, if_neg c_18], rfl⟩)
def sp_placesTold (n m : Nat) (f : Nat → Nat → Int32) (x1 : Int32) : Int32 := if ¬ (sp_tagOf n m f x1) = 1 then ((-1)) else (if ¬ ((f 5) (Int32.toNatClampNeg x1)) = (-1) then ((((f 5) (Int32.toNatClampNeg x1)) - ((f 5) (Int32.toNatClampNeg x1)) / 4096 * 4096)) else ((-1)))
set_option maxHeartbeats 1000000 in
theorem ct_placesTold {g : xe_G} {M : mi_H} {p : Nat} {size : Int32} {n m : Nat} {q : Nat → Nat} {f : Nat → Nat → Int32} {cc : Int32} {x1 : Int32} (hP : PL M p size n m q f cc) {d : Nat} (hd : 2 ≤ d) : mt (mT g) d 131 [.ref p, .int x1] M (fun v M' => v = some (.int (sp_placesTold n m f x1)) ∧ M' = M) := by
  obtain ⟨d, rfl⟩ : ∃ e, d = e + 1 := ⟨d - 1, by omega⟩
  refine mt_in (b := mb_131 g) rfl rfl ?_
  show ml (mT g) d (mb_131 g).2 (0, [(0, .ref p), (1, .int x1)], [], M) _
  refine ml_st (S' := (1, [(0, .ref p), (1, .int x1)], [.ref p], M)) rfl rfl rfl ?_
  refine ml_st (S' := (2, [(0, .ref p), (1, .int x1)], [.int x1, .ref p], M)) rfl rfl rfl ?_
  refine ml_call (a := [.ref p, .int x1]) (rest := []) rfl (okc_v rfl rfl rfl hP.1) rfl rfl (ct_tagOf hP (by omega)) (fun v1 M2 h3 => ?_)
  obtain ⟨rfl, h3⟩ := h3
  rw [h3]
  show ml _ _ _ (5, [(0, .ref p), (1, .int x1)], [.int (sp_tagOf n m f x1)], M) _
  refine ml_st (S' := (6, [(0, .ref p), (1, .int x1)], [.int 1, .int (sp_tagOf n m f x1)], M)) rfl rfl rfl ?_
  refine ml_if2 (S1 := (19, [], [], M)) (S2 := (9, [(0, .ref p), (1, .int x1)], [], M)) rfl rfl rfl (fun c_6 => ?_) (fun c_6 => ?_)
  · have c_6 : ¬ (sp_tagOf n m f x1) = 1 := of_decide_eq_true c_6
    refine ml_st (S' := (20, [], [.int (-1)], M)) rfl rfl rfl ?_
    exact ml_ret rfl (rfl) (⟨by rw [sp_placesTold, if_pos c_6], rfl⟩)
  · have c_6 : ¬ (¬ (sp_tagOf n m f x1) = 1) := of_decide_eq_false c_6
    refine ml_st (S' := (10, [(0, .ref p), (1, .int x1)], [.ref p], M)) rfl rfl rfl ?_
    refine mo_get (S' := (13, [(0, .ref p), (1, .int x1)], [.ref (q 5)], M)) rfl hP.1 rfl rfl ?_
    refine ml_st (S' := (14, [(0, .ref p), (1, .int x1)], [.int x1, .ref (q 5)], M)) rfl rfl rfl ?_
    refine mo_ald (S' := (15, [(0, .ref p), (1, .int x1)], [.int ((f 5) (Int32.toNatClampNeg x1))], M)) rfl (hP.2.1 5 (by decide) (by decide)) ((tag_in (Decidable.not_not.mp c_6) (by decide)).1) rfl ?_
    refine ml_st (S' := (16, [(0, .ref p), (1, .int x1)], [.int (-1), .int ((f 5) (Int32.toNatClampNeg x1))], M)) rfl rfl rfl ?_
    refine ml_if2 (S1 := (21, [(0, .ref p), (1, .int x1)], [], M)) (S2 := (19, [], [], M)) rfl rfl rfl (fun c_16 => ?_) (fun c_16 => ?_)
    · have c_16 : ¬ ((f 5) (Int32.toNatClampNeg x1)) = (-1) := of_decide_eq_true c_16
      refine ml_st (S' := (22, [(0, .ref p), (1, .int x1)], [.ref p], M)) rfl rfl rfl ?_
      refine mo_get (S' := (25, [(0, .ref p), (1, .int x1)], [.ref (q 5)], M)) rfl hP.1 rfl rfl ?_
      refine ml_st (S' := (26, [(0, .ref p), (1, .int x1)], [.int x1, .ref (q 5)], M)) rfl rfl rfl ?_
      refine mo_ald (S' := (27, [(0, .ref p), (1, .int x1)], [.int ((f 5) (Int32.toNatClampNeg x1))], M)) rfl (hP.2.1 5 (by decide) (by decide)) ((tag_in (Decidable.not_not.mp c_6) (by decide)).1) rfl ?_
      refine ml_st (S' := (30, [(0, .ref p), (1, .int x1)], [.int 4096, .int ((f 5) (Int32.toNatClampNeg x1))], M)) rfl rfl rfl ?_
      refine ml_st (S' := (31, [(0, .ref p), (1, .int x1)], [.int (((f 5) (Int32.toNatClampNeg x1)) - ((f 5) (Int32.toNatClampNeg x1)) / 4096 * 4096)], M)) rfl rfl rfl ?_
      exact ml_ret rfl (rfl) (⟨by rw [sp_placesTold, if_neg c_6, if_pos c_16], rfl⟩)
    · have c_16 : ¬ (¬ ((f 5) (Int32.toNatClampNeg x1)) = (-1)) := of_decide_eq_false c_16
      refine ml_st (S' := (20, [], [.int (-1)], M)) rfl rfl rfl ?_
      exact ml_ret rfl (rfl) (⟨by rw [sp_placesTold, if_neg c_6, if_neg c_16], rfl⟩)
theorem isMD_in {n m : Nat} {f : Nat → Nat → Int32} {k : Int32} (h : ¬ sp_isMethodDescriptor n m f k = 0) : vp_in k n := by
  unfold sp_isMethodDescriptor at h
  split at h
  · exact absurd rfl h
  · rename_i h1
    exact (tag_in (Decidable.not_not.mp h1) (by decide)).1

def sp_argumentPlaces (n m : Nat) (f : Nat → Nat → Int32) (x1 : Int32) : Int32 := if (sp_isMethodDescriptor n m f x1) = 0 then (0) else ((((f 5) (Int32.toNatClampNeg x1)) - ((f 5) (Int32.toNatClampNeg x1)) / 1024 * 1024))
set_option maxHeartbeats 1000000 in
theorem ct_argumentPlaces {g : xe_G} {M : mi_H} {p : Nat} {size : Int32} {n m : Nat} {q : Nat → Nat} {f : Nat → Nat → Int32} {cc : Int32} {x1 : Int32} (hP : PL M p size n m q f cc) {d : Nat} (hd : 3 ≤ d) : mt (mT g) d 112 [.ref p, .int x1] M (fun v M' => v = some (.int (sp_argumentPlaces n m f x1)) ∧ M' = M) := by
  obtain ⟨d, rfl⟩ : ∃ e, d = e + 1 := ⟨d - 1, by omega⟩
  refine mt_in (b := mb_112 g) rfl rfl ?_
  show ml (mT g) d (mb_112 g).2 (0, [(0, .ref p), (1, .int x1)], [], M) _
  refine ml_st (S' := (1, [(0, .ref p), (1, .int x1)], [.ref p], M)) rfl rfl rfl ?_
  refine ml_st (S' := (2, [(0, .ref p), (1, .int x1)], [.int x1, .ref p], M)) rfl rfl rfl ?_
  refine ml_call (a := [.ref p, .int x1]) (rest := []) rfl (okc_v rfl rfl rfl hP.1) rfl rfl (ct_isMethodDescriptor hP (by omega)) (fun v1 M2 h3 => ?_)
  obtain ⟨rfl, h3⟩ := h3
  rw [h3]
  show ml _ _ _ (5, [(0, .ref p), (1, .int x1)], [.int (sp_isMethodDescriptor n m f x1)], M) _
  refine ml_if (S1 := (21, [(0, .ref p), (1, .int x1)], [], M)) (S2 := (8, [(0, .ref p), (1, .int x1)], [], M)) rfl rfl rfl (fun c_5 => ?_) (fun c_5 => ?_)
  · have c_5 : (sp_isMethodDescriptor n m f x1) = 0 := of_decide_eq_true c_5
    refine ml_st (S' := (22, [], [.int 0], M)) rfl rfl rfl ?_
    exact ml_ret rfl (rfl) (⟨by rw [sp_argumentPlaces, if_pos c_5], rfl⟩)
  · have c_5 : ¬ ((sp_isMethodDescriptor n m f x1) = 0) := of_decide_eq_false c_5
    refine ml_st (S' := (9, [(0, .ref p), (1, .int x1)], [.ref p], M)) rfl rfl rfl ?_
    refine mo_get (S' := (12, [(0, .ref p), (1, .int x1)], [.ref (q 5)], M)) rfl hP.1 rfl rfl ?_
    refine ml_st (S' := (13, [(0, .ref p), (1, .int x1)], [.int x1, .ref (q 5)], M)) rfl rfl rfl ?_
    refine mo_ald (S' := (14, [(0, .ref p), (1, .int x1)], [.int ((f 5) (Int32.toNatClampNeg x1))], M)) rfl (hP.2.1 5 (by decide) (by decide)) (isMD_in c_5) rfl ?_
    refine ml_st (S' := (17, [(0, .ref p), (1, .int x1)], [.int 1024, .int ((f 5) (Int32.toNatClampNeg x1))], M)) rfl rfl rfl ?_
    refine ml_st (S' := (18, [(0, .ref p), (1, .int x1)], [.int (((f 5) (Int32.toNatClampNeg x1)) - ((f 5) (Int32.toNatClampNeg x1)) / 1024 * 1024)], M)) rfl rfl rfl ?_
    refine ml_st (S' := (22, [], [.int (((f 5) (Int32.toNatClampNeg x1)) - ((f 5) (Int32.toNatClampNeg x1)) / 1024 * 1024)], M)) rfl rfl rfl ?_
    exact ml_ret rfl (rfl) (⟨by rw [sp_argumentPlaces, if_neg c_5], rfl⟩)
def sp_hasNoResult (n m : Nat) (f : Nat → Nat → Int32) (x1 : Int32) : Int32 := if (sp_isMethodDescriptor n m f x1) = 0 then (0) else (if 1024 ≤ (((f 5) (Int32.toNatClampNeg x1)) - 4096) then (0) else (1))
set_option maxHeartbeats 1000000 in
theorem ct_hasNoResult {g : xe_G} {M : mi_H} {p : Nat} {size : Int32} {n m : Nat} {q : Nat → Nat} {f : Nat → Nat → Int32} {cc : Int32} {x1 : Int32} (hP : PL M p size n m q f cc) {d : Nat} (hd : 3 ≤ d) : mt (mT g) d 119 [.ref p, .int x1] M (fun v M' => v = some (.int (sp_hasNoResult n m f x1)) ∧ M' = M) := by
  obtain ⟨d, rfl⟩ : ∃ e, d = e + 1 := ⟨d - 1, by omega⟩
  refine mt_in (b := mb_119 g) rfl rfl ?_
  show ml (mT g) d (mb_119 g).2 (0, [(0, .ref p), (1, .int x1)], [], M) _
  refine ml_st (S' := (1, [(0, .ref p), (1, .int x1)], [.ref p], M)) rfl rfl rfl ?_
  refine ml_st (S' := (2, [(0, .ref p), (1, .int x1)], [.int x1, .ref p], M)) rfl rfl rfl ?_
  refine ml_call (a := [.ref p, .int x1]) (rest := []) rfl (okc_v rfl rfl rfl hP.1) rfl rfl (ct_isMethodDescriptor hP (by omega)) (fun v1 M2 h3 => ?_)
  obtain ⟨rfl, h3⟩ := h3
  rw [h3]
  show ml _ _ _ (5, [(0, .ref p), (1, .int x1)], [.int (sp_isMethodDescriptor n m f x1)], M) _
  refine ml_if (S1 := (28, [], [], M)) (S2 := (8, [(0, .ref p), (1, .int x1)], [], M)) rfl rfl rfl (fun c_5 => ?_) (fun c_5 => ?_)
  · have c_5 : (sp_isMethodDescriptor n m f x1) = 0 := of_decide_eq_true c_5
    refine ml_st (S' := (29, [], [.int 0], M)) rfl rfl rfl ?_
    exact ml_ret rfl (rfl) (⟨by rw [sp_hasNoResult, if_pos c_5], rfl⟩)
  · have c_5 : ¬ ((sp_isMethodDescriptor n m f x1) = 0) := of_decide_eq_false c_5
    refine ml_st (S' := (9, [(0, .ref p), (1, .int x1)], [.ref p], M)) rfl rfl rfl ?_
    refine mo_get (S' := (12, [(0, .ref p), (1, .int x1)], [.ref (q 5)], M)) rfl hP.1 rfl rfl ?_
    refine ml_st (S' := (13, [(0, .ref p), (1, .int x1)], [.int x1, .ref (q 5)], M)) rfl rfl rfl ?_
    refine mo_ald (S' := (14, [(0, .ref p), (1, .int x1)], [.int ((f 5) (Int32.toNatClampNeg x1))], M)) rfl (hP.2.1 5 (by decide) (by decide)) (isMD_in c_5) rfl ?_
    refine ml_st (S' := (17, [(0, .ref p), (1, .int x1)], [.int 4096, .int ((f 5) (Int32.toNatClampNeg x1))], M)) rfl rfl rfl ?_
    refine ml_st (S' := (18, [(0, .ref p), (1, .int x1)], [.int (((f 5) (Int32.toNatClampNeg x1)) - 4096)], M)) rfl rfl rfl ?_
    refine ml_st (S' := (21, [(0, .ref p), (1, .int x1)], [.int 1024, .int (((f 5) (Int32.toNatClampNeg x1)) - 4096)], M)) rfl rfl rfl ?_
    refine ml_if2 (S1 := (28, [], [], M)) (S2 := (24, [(0, .ref p), (1, .int x1)], [], M)) rfl rfl rfl (fun c_21 => ?_) (fun c_21 => ?_)
    · have c_21 : 1024 ≤ (((f 5) (Int32.toNatClampNeg x1)) - 4096) := of_decide_eq_true c_21
      refine ml_st (S' := (29, [], [.int 0], M)) rfl rfl rfl ?_
      exact ml_ret rfl (rfl) (⟨by rw [sp_hasNoResult, if_neg c_5, if_pos c_21], rfl⟩)
    · have c_21 : ¬ (1024 ≤ (((f 5) (Int32.toNatClampNeg x1)) - 4096)) := of_decide_eq_false c_21
      refine ml_st (S' := (25, [(0, .ref p), (1, .int x1)], [.int 1], M)) rfl rfl rfl ?_
      refine ml_st (S' := (29, [], [.int 1], M)) rfl rfl rfl ?_
      exact ml_ret rfl (rfl) (⟨by rw [sp_hasNoResult, if_neg c_5, if_neg c_21], rfl⟩)
def sp_nameOf (n m : Nat) (f : Nat → Nat → Int32) (x1 : Int32) : Int32 := (sp_firstIndex n m f (sp_secondIndex n m f x1))
set_option maxHeartbeats 1000000 in
theorem ct_nameOf {g : xe_G} {M : mi_H} {p : Nat} {size : Int32} {n m : Nat} {q : Nat → Nat} {f : Nat → Nat → Int32} {cc : Int32} {x1 : Int32} (hP : PL M p size n m q f cc) {d : Nat} (hd : 2 ≤ d) : mt (mT g) d 128 [.ref p, .int x1] M (fun v M' => v = some (.int (sp_nameOf n m f x1)) ∧ M' = M) := by
  obtain ⟨d, rfl⟩ : ∃ e, d = e + 1 := ⟨d - 1, by omega⟩
  refine mt_in (b := mb_128 g) rfl rfl ?_
  show ml (mT g) d (mb_128 g).2 (0, [(0, .ref p), (1, .int x1)], [], M) _
  refine ml_st (S' := (1, [(0, .ref p), (1, .int x1)], [.ref p], M)) rfl rfl rfl ?_
  refine ml_st (S' := (2, [(0, .ref p), (1, .int x1)], [.ref p, .ref p], M)) rfl rfl rfl ?_
  refine ml_st (S' := (3, [(0, .ref p), (1, .int x1)], [.int x1, .ref p, .ref p], M)) rfl rfl rfl ?_
  refine ml_call (a := [.ref p, .int x1]) (rest := [.ref p]) rfl (okc_v rfl rfl rfl hP.1) rfl rfl (ct_secondIndex hP (by omega)) (fun v1 M2 h3 => ?_)
  obtain ⟨rfl, h3⟩ := h3
  rw [h3]
  show ml _ _ _ (6, [(0, .ref p), (1, .int x1)], [.int (sp_secondIndex n m f x1), .ref p], M) _
  refine ml_call (a := [.ref p, .int (sp_secondIndex n m f x1)]) (rest := []) rfl (okc_v rfl rfl rfl hP.1) rfl rfl (ct_firstIndex hP (by omega)) (fun v4 M5 h6 => ?_)
  obtain ⟨rfl, h6⟩ := h6
  rw [h6]
  show ml _ _ _ (9, [(0, .ref p), (1, .int x1)], [.int (sp_firstIndex n m f (sp_secondIndex n m f x1))], M) _
  exact ml_ret rfl (rfl) (⟨by rw [sp_nameOf], rfl⟩)
def sp_descriptorOf (n m : Nat) (f : Nat → Nat → Int32) (x1 : Int32) : Int32 := (sp_secondIndex n m f (sp_secondIndex n m f x1))
set_option maxHeartbeats 1000000 in
theorem ct_descriptorOf {g : xe_G} {M : mi_H} {p : Nat} {size : Int32} {n m : Nat} {q : Nat → Nat} {f : Nat → Nat → Int32} {cc : Int32} {x1 : Int32} (hP : PL M p size n m q f cc) {d : Nat} (hd : 2 ≤ d) : mt (mT g) d 115 [.ref p, .int x1] M (fun v M' => v = some (.int (sp_descriptorOf n m f x1)) ∧ M' = M) := by
  obtain ⟨d, rfl⟩ : ∃ e, d = e + 1 := ⟨d - 1, by omega⟩
  refine mt_in (b := mb_115 g) rfl rfl ?_
  show ml (mT g) d (mb_115 g).2 (0, [(0, .ref p), (1, .int x1)], [], M) _
  refine ml_st (S' := (1, [(0, .ref p), (1, .int x1)], [.ref p], M)) rfl rfl rfl ?_
  refine ml_st (S' := (2, [(0, .ref p), (1, .int x1)], [.ref p, .ref p], M)) rfl rfl rfl ?_
  refine ml_st (S' := (3, [(0, .ref p), (1, .int x1)], [.int x1, .ref p, .ref p], M)) rfl rfl rfl ?_
  refine ml_call (a := [.ref p, .int x1]) (rest := [.ref p]) rfl (okc_v rfl rfl rfl hP.1) rfl rfl (ct_secondIndex hP (by omega)) (fun v1 M2 h3 => ?_)
  obtain ⟨rfl, h3⟩ := h3
  rw [h3]
  show ml _ _ _ (6, [(0, .ref p), (1, .int x1)], [.int (sp_secondIndex n m f x1), .ref p], M) _
  refine ml_call (a := [.ref p, .int (sp_secondIndex n m f x1)]) (rest := []) rfl (okc_v rfl rfl rfl hP.1) rfl rfl (ct_secondIndex hP (by omega)) (fun v4 M5 h6 => ?_)
  obtain ⟨rfl, h6⟩ := h6
  rw [h6]
  show ml _ _ _ (9, [(0, .ref p), (1, .int x1)], [.int (sp_secondIndex n m f (sp_secondIndex n m f x1))], M) _
  exact ml_ret rfl (rfl) (⟨by rw [sp_descriptorOf], rfl⟩)
end
section
/-! the class's heap by types: Y says of an address what stands there and what of it never changes (my own text) -/
section MIY
abbrev yT : Type := (Nat → Option (Nat × List Nat)) × (Nat → Nat → Int32)
def yle (Y Y' : yT) : Prop := ∀ a t, Y.1 a = some t → Y'.1 a = some t ∧ Y'.2 a = Y.2 a
theorem yle.rf {Y : yT} : yle Y Y := fun _ _ h => ⟨h, rfl⟩
theorem yle.tr {Y Y1 Y2 : yT} (h : yle Y Y1) (h' : yle Y1 Y2) : yle Y Y2 := fun a t q => ⟨(h' a t (h a t q).1).1, (h' a t (h a t q).1).2.trans (h a t q).2⟩
def vi (v : Value) : Prop := ∃ x, v = .int x
def vr (b : Nat) (v : Value) : Prop := v = .ref b
def vn (P : Nat → Prop) (v : Value) : Prop := v = .null ∨ ∃ b, v = .ref b ∧ P b
def vo (P : Nat → Prop) (v : Value) : Prop := ∃ b, v = .ref b ∧ P b
def vi9 : List (Value → Prop) := [vi, vi, vi, vi, vi, vi, vi, vi, vi]
/-- kinds: 0..10 the classes; 20 bytes, 21 ints, 23 members, 24 bytes that stay, 31..35 the pool's rows and 36 its characters, each with its pool -/
def sch (Y : yT) : Nat → List Nat → List (Value → Prop)
  | 0, [c, b, p, vd] => [vr c, vr b, vr p, vr vd, vi]
  | 1, [da, _] => [vr da]
  | 2, [c, b, p, vd, ac] => [vr c, vr b, vr p, vr vd, vr ac]
  | 3, [b, da, n] => [vr b, vo (fun p => ∃ ps, Y.1 p = some (7, ps)), vi, vi, vi, vi, vo (fun m => ∃ k, Y.1 m = some (23, [k, da, n])), vo (fun m => ∃ k, Y.1 m = some (23, [k, da, n]))] ++ vi9
  | 4, [p, o, _] => [vi, vi, vi, vi, vi, vr p, vi, vr o, vi, vn (fun a => ∃ n, Y.1 a = some (21, [n])), vn (fun a => ∃ n, Y.1 a = some (21, [n]))]
  | 5, [b, _] => [vr b, vi, vi] ++ vi9
  | 6, [_, n] => vi9 ++ [vi, vn (fun c => ∃ p o, Y.1 c = some (4, [p, o, n]))]
  | 7, [_, _, t, tp, f, s, sh, ch] => [vi, vr t, vr tp, vr f, vr s, vr sh, vr ch, vi]
  | 8, [p, vd] => [vr p, vi, vr vd]
  | 9, [c, b, vd, _] => [vr c, vr b, vr vd, vi, vi]
  | 10, [] => [vi, vi]
  | 11, [B] => [vo (fun a => ∃ m, Y.1 a = some (20, [m])), vi, vo (fun a => ∃ n, Y.1 a = some (24, [n]) ∧ n ≤ B), vn (fun c => ∃ b da n, Y.1 c = some (3, [b, da, n]) ∧ n ≤ B), vi]
  | _, _ => []
/-- what the fixed data say of each other -/
def lnk (Y : yT) (a : Nat) : Nat → List Nat → Prop
  | 0, [c, b, p, vd] => (∃ da n, Y.1 c = some (3, [b, da, n]) ∧ Y.1 b = some (1, [da, n])) ∧ (∃ ps, Y.1 p = some (7, ps)) ∧ Y.1 vd = some (10, [])
  | 1, [da, n] => Y.1 da = some (24, [n])
  | 2, [c, b, p, vd, ac] => (∃ da n, Y.1 c = some (3, [b, da, n]) ∧ Y.1 b = some (1, [da, n])) ∧ (∃ ps, Y.1 p = some (7, ps)) ∧ Y.1 vd = some (10, []) ∧ Y.1 ac = some (0, [c, b, p, vd])
  | 3, [b, da, n] => Y.1 b = some (1, [da, n])
  | 4, [p, o, k] => (∃ ps, Y.1 p = some (7, ps)) ∧ ∃ b, Y.1 o = some (5, [b, k])
  | 5, [b, _] => ∃ da n, Y.1 b = some (1, [da, n])
  | 6, [da, n] => Y.1 da = some (24, [n])
  | 7, [n, m, t, tp, f, s, sh, ch] => Y.1 t = some (31, [n, a]) ∧ Y.1 tp = some (32, [n, a]) ∧ Y.1 f = some (33, [n, a]) ∧ Y.1 s = some (34, [n, a]) ∧ Y.1 sh = some (35, [n, a]) ∧ Y.1 ch = some (36, [m, a])
  | 8, [p, vd] => (∃ ps, Y.1 p = some (7, ps)) ∧ Y.1 vd = some (10, [])
  | 9, [c, b, vd, n] => (∃ da, Y.1 c = some (3, [b, da, n]) ∧ Y.1 b = some (1, [da, n])) ∧ Y.1 vd = some (10, [])
  | _, _ => True
def fit (l : List Value) (s : List (Value → Prop)) : Prop := l.length = s.length ∧ ∀ (k : Nat) (v : Value) (P : Value → Prop), l[k]? = some v → s[k]? = some P → P v
/-- rows -/
def rowT (k : Nat) : Option FieldType := match k with
  | 20 => some .byte
  | 21 => some .int
  | 24 => some .byte
  | 31 => some .int
  | 32 => some .int
  | 33 => some .int
  | 34 => some .int
  | 35 => some .int
  | 36 => some .char
  | _ => none
def ch16 (x : Int32) : Prop := narrow .char (.int x) = .int x
def rowOk (Y : yT) (M : mi_H) (a k n : Nat) : Prop := ∃ ty f, rowT k = some ty ∧ M.1 a = some (ar ty n f) ∧ n < 1073741824 ∧ (k = 20 → ∀ i, fits .byte (.int (f i)) = true) ∧ (k = 24 → f = Y.2 a ∧ ∀ i, fits .byte (.int (f i)) = true) ∧ (k = 36 → ∀ i, ch16 (f i))
def memOk (Y : yT) (M : mi_H) (a k da n : Nat) : Prop := (k < 1073741824 ∧ 8 * k ≤ n) ∧ ∃ f : Nat → Option Nat, M.1 a = some (.inl (.object "ClassGate$Member", k, fun i => some (va_rf (f i)))) ∧ ∀ i b, f i = some b → Y.1 b = some (6, [da, n])
/-- attributes that lie within the first n bytes: how many are left, from where -/
def AW (f : Nat → Int32) (n : Nat) : Nat → Int32 → Prop
  | 0, a => 0 ≤ a.toInt ∧ a.toInt ≤ n
  | k + 1, a => 0 ≤ a.toInt ∧ a.toInt + 6 ≤ n ∧ 0 ≤ (sp_u4 n f (a + 2)).toInt ∧ a.toInt + 6 + (sp_u4 n f (a + 2)).toInt ≤ n ∧ AW f n k (a + 6 + sp_u4 n f (a + 2))
/-- more than types: a text lies within the characters; the reader within the file; attributes too -/
def txt (n m : Nat) (f : Nat → Nat → Int32) (cc : Int32) : Prop := 0 ≤ cc.toInt ∧ cc.toInt ≤ m ∧ ∀ k, k < n → f 1 k = 1 → 0 ≤ (f 3 k).toInt ∧ 0 ≤ (f 4 k).toInt ∧ (f 3 k).toInt + (f 4 k).toInt ≤ cc.toInt
def xtr (Y : yT) (M : mi_H) (l : List Value) : Nat → List Nat → Prop
  | 1, [_, n] => n ≤ 65540
  | 4, [_, _, k] => k ≤ 65540 ∧ ∃ x : Int32, l[2]? = some (.int x) ∧ 0 ≤ x.toInt ∧ x.toInt ≤ k
  | 5, [_, k] => k < 1073741824 ∧ ∃ x : Int32, l[2]? = some (.int x) ∧ 0 ≤ x.toInt ∧ x.toInt ≤ k
  | 6, [da, n] => ∃ x y : Int32, l[4]? = some (.int x) ∧ l[5]? = some (.int y) ∧ 0 ≤ x.toInt ∧ AW (Y.2 da) n x.toInt.toNat y
  | 7, [n, m, t, _, f, s, _, _] => n < 1073741824 ∧ m < 1073741824 ∧ ∃ (cc sz : Int32) (g1 g3 g4 : Nat → Int32), l[7]? = some (.int cc) ∧ l[0]? = some (.int sz) ∧ sz.toInt ≤ 65535 ∧ M.1 t = some (ar .int n g1) ∧ M.1 f = some (ar .int n g3) ∧ M.1 s = some (ar .int n g4) ∧ txt n m (fun i => if i = 1 then g1 else if i = 3 then g3 else g4) cc
  | 9, [_, _, _, n] => ∃ x : Int32, l[3]? = some (.int x) ∧ 0 ≤ x.toInt ∧ x.toInt ≤ n
  | _, _ => True
def okY (Y : yT) (M : mi_H) (a k : Nat) (ps : List Nat) : Prop :=
  (k < 12 ∧ ∃ l, M.1 a = some (ob k l) ∧ sch Y k ps ≠ [] ∧ fit l (sch Y k ps) ∧ lnk Y a k ps ∧ xtr Y M l k ps) ∨ (∃ n r, ps = n :: r ∧ rowOk Y M a k n) ∨ (k = 23 ∧ ∃ n da m, ps = [n, da, m] ∧ memOk Y M a n da m)
def litOk (g : xe_G) (M : mi_H) : Prop := ∀ k, k < 15 → g.2.1 k < M.2.1 ∧ ∃ f : Nat × (Nat → Option Value), M.1 (g.2.1 k) = some (.inr (100 + f.1 % 30, f.2))
def WF (g : xe_G) (Y : yT) (M : mi_H) : Prop := (∀ a k ps, Y.1 a = some (k, ps) → okY Y M a k ps) ∧ (∀ a t, Y.1 a = some t → a < M.2.1) ∧ litOk g M
theorem okY.obj {Y : yT} {M : mi_H} {a k : Nat} {ps : List Nat} (h : okY Y M a k ps) (hk : k < 12) : ∃ l, M.1 a = some (ob k l) ∧ sch Y k ps ≠ [] ∧ fit l (sch Y k ps) ∧ lnk Y a k ps ∧ xtr Y M l k ps := by
  rcases h with ⟨-, h⟩ | ⟨n, r, -, ty, f, h1, -⟩ | ⟨h1, -⟩
  · exact h
  · exfalso
    unfold rowT at h1
    split at h1 <;> first | omega | cases h1
  · omega
theorem okY.row {Y : yT} {M : mi_H} {a k n : Nat} {r : List Nat} {ty : FieldType} (h : okY Y M a k (n :: r)) (hk : rowT k = some ty) : rowOk Y M a k n := by
  rcases h with ⟨h1, -⟩ | ⟨n', r', e, h⟩ | ⟨h1, -⟩
  · exfalso
    unfold rowT at hk
    split at hk <;> first | omega | cases hk
  · cases e
    exact h
  · subst h1
    cases hk
variable {g : xe_G} {Y : yT} {M : mi_H}
/-- a field is read -/
theorem WF.get {a k j : Nat} {ps : List Nat} {P : Value → Prop} (h : WF g Y M) (hY : Y.1 a = some (k, ps)) (hk : k < 12) (hP : (sch Y k ps)[j]? = some P) : ∃ v, mi_gf M a k j = some v ∧ P v := by
  obtain ⟨l, h1, -, ⟨h2, h3⟩, -⟩ := (h.1 a k ps hY).obj hk
  have hj : j < l.length := by rw [h2]; exact (List.getElem?_eq_some_iff.mp hP).1
  exact ⟨l[j], gf_ob h1 (List.getElem?_eq_getElem hj), h3 j _ P (List.getElem?_eq_getElem hj) hP⟩
theorem WF.int {a k j : Nat} {ps : List Nat} (h : WF g Y M) (hY : Y.1 a = some (k, ps)) (hk : k < 12) (hP : (sch Y k ps)[j]? = some vi) : ∃ x, mi_gf M a k j = some (.int x) := by
  obtain ⟨v, h1, x, rfl⟩ := h.get hY hk hP
  exact ⟨x, h1⟩
theorem WF.ref {a k j b : Nat} {ps : List Nat} (h : WF g Y M) (hY : Y.1 a = some (k, ps)) (hk : k < 12) (hP : (sch Y k ps)[j]? = some (vr b)) : mi_gf M a k j = some (.ref b) := by
  obtain ⟨v, h1, h2⟩ := h.get hY hk hP
  rw [h1, h2]
theorem WF.cls {a k : Nat} {ps : List Nat} (h : WF g Y M) (hY : Y.1 a = some (k, ps)) (hk : k < 12) : ∃ l, M.1 a = some (ob k l) := by
  obtain ⟨l, h1, -⟩ := (h.1 a k ps hY).obj hk
  exact ⟨l, h1⟩
theorem okc_t {pc na ci b : Nat} {lv : List (Nat × Value)} {st As : List Value} {ps : List Nat} (h1 : (st.take na).reverse = .ref b :: As) (h2 : decide (na ≤ st.length) = true) (h3 : decide (((st.drop na).map fun v => v.category).sum ≤ 8) = true) (h : WF g Y M) (hY : Y.1 b = some (ci, ps)) (hk : ci < 12) : mi_okc (some ci) na (pc, lv, st, M) = true := by
  obtain ⟨l, hl⟩ := h.cls hY hk
  exact okc_v h1 h2 h3 hl
/-- the bytes of a file -/
theorem WF.bytes {b da n : Nat} (h : WF g Y M) (hY : Y.1 b = some (1, [da, n])) : BY M b da n (Y.2 da) ∧ ∀ i, fits .byte (.int (Y.2 da i)) = true := by
  obtain ⟨l, h1, -, ⟨h2, h3⟩, h4, h5⟩ := (h.1 b 1 _ hY).obj (by decide)
  obtain ⟨ty, f, g1, g2, -, -, g3, -⟩ := (h.1 da 24 _ h4).row rfl
  cases g1
  obtain ⟨rfl, g4⟩ := g3 rfl
  refine ⟨⟨?_, g2, by have h6 : n ≤ 65540 := h5; omega⟩, g4⟩
  rcases l with _ | ⟨v, _ | ⟨w, l⟩⟩
  · cases h2
  · have := h3 0 v _ rfl rfl
    rw [h1, this]
  · simp [sch] at h2
/-- the pool -/
theorem WF.pool {p : Nat} {pp : List Nat} (h : WF g Y M) (hY : Y.1 p = some (7, pp)) : ∃ (size : Int32) (n m : Nat) (q : Nat → Nat) (f : Nat → Nat → Int32) (cc : Int32), PL M p size n m q f cc ∧ txt n m f cc ∧ n < 1073741824 ∧ m < 1073741824 ∧ size.toInt ≤ 65535 ∧ (∀ i, ch16 (f 6 i)) ∧ pp = [n, m, q 1, q 2, q 3, q 4, q 5, q 6] := by
  obtain ⟨l, h1, h0, ⟨h2, h3⟩, h4, h5⟩ := (h.1 p 7 _ hY).obj (by decide)
  rcases pp with _ | ⟨n, _ | ⟨m, _ | ⟨t, _ | ⟨tp, _ | ⟨f, _ | ⟨s, _ | ⟨sh, _ | ⟨ch, _ | ⟨z, pp⟩⟩⟩⟩⟩⟩⟩⟩⟩
  any_goals exact absurd rfl h0
  obtain ⟨k1, k2, k3, k4, k5, k6⟩ := h4
  obtain ⟨j1, j2, cc, sz, g1, g3, g4, e7, e0, hs, m1, m3, m4, hx⟩ := h5
  obtain ⟨ty2, f2, a2, b2, -⟩ := (h.1 _ _ _ k2).row (ty := .int) rfl
  obtain ⟨ty5, f5, a5, b5, -⟩ := (h.1 _ _ _ k5).row (ty := .int) rfl
  obtain ⟨ty6, f6, a6, b6, -, -, -, c6⟩ := (h.1 _ _ _ k6).row (ty := .char) rfl
  cases a2
  cases a5
  cases a6
  refine ⟨sz, n, m, fun i => if i = 1 then t else if i = 2 then tp else if i = 3 then f else if i = 4 then s else if i = 5 then sh else ch, fun i => if i = 1 then g1 else if i = 2 then f2 else if i = 3 then g3 else if i = 4 then g4 else if i = 5 then f5 else f6, cc, ⟨?_, ?_, b6⟩, hx, j1, j2, hs, c6 rfl, rfl⟩
  · rcases l with _ | ⟨v0, _ | ⟨v1, _ | ⟨v2, _ | ⟨v3, _ | ⟨v4, _ | ⟨v5, _ | ⟨v6, _ | ⟨v7, _ | ⟨v8, l⟩⟩⟩⟩⟩⟩⟩⟩⟩
    any_goals (simp [sch] at h2; done)
    rw [h1]
    have r1 : v1 = .ref t := h3 1 v1 _ rfl rfl
    have r2 : v2 = .ref tp := h3 2 v2 _ rfl rfl
    have r3 : v3 = .ref f := h3 3 v3 _ rfl rfl
    have r4 : v4 = .ref s := h3 4 v4 _ rfl rfl
    have r5 : v5 = .ref sh := h3 5 v5 _ rfl rfl
    have r6 : v6 = .ref ch := h3 6 v6 _ rfl rfl
    have r7 : v7 = .int cc := Option.some.inj e7
    have r0 : v0 = .int sz := Option.some.inj e0
    subst r0 r1 r2 r3 r4 r5 r6 r7
    rfl
  · intro i hi1 hi5
    have : i = 1 ∨ i = 2 ∨ i = 3 ∨ i = 4 ∨ i = 5 := by omega
    rcases this with rfl | rfl | rfl | rfl | rfl
    · exact m1
    · exact b2
    · exact m3
    · exact m4
    · exact b5
end MIY
end
section
/-! a field is laid: the types stay (my own text) -/
section MIX
theorem ob_ne_ar {M : mi_H} {a b k n : Nat} {l : List Value} {ty : FieldType} {f : Nat → Int32} (h1 : M.1 a = some (ob k l)) (h2 : M.1 b = some (ar ty n f)) : b ≠ a := by
  intro e
  subst e
  rw [h1] at h2
  simp [ob, ar] at h2
variable {g : xe_G} {Y : yT} {M : mi_H}
theorem xtr_up {a k0 : Nat} {l0 l1 : List Value} (ha : M.1 a = some (ob k0 l0)) {l : List Value} {k : Nat} {ps : List Nat} (h : xtr Y M l k ps) : xtr Y (up M a (ob k0 l1)) l k ps := by
  unfold xtr at h ⊢
  split at h
  · exact h
  · exact h
  · exact h
  · exact h
  · obtain ⟨h1, h2, cc, sz, g1, g3, g4, h3, h4, h5, h6, h7, h8, h9⟩ := h
    exact ⟨h1, h2, cc, sz, g1, g3, g4, h3, h4, h5, up_eq h6 (ob_ne_ar ha h6), up_eq h7 (ob_ne_ar ha h7), up_eq h8 (ob_ne_ar ha h8), h9⟩
  · exact h
  · trivial
theorem okY.up {a b k0 k : Nat} {l0 l1 : List Value} {ps : List Nat} (ha : M.1 a = some (ob k0 l0)) (hne : b ≠ a) (h : okY Y M b k ps) : okY Y (up M a (ob k0 l1)) b k ps := by
  rcases h with ⟨hk, l, h1, h2, h3, h4, h5⟩ | ⟨n, r, e, ty, f, h1, h2, h3⟩ | ⟨hk, n, da, m, e, hn, f, h1, h2⟩
  · exact Or.inl ⟨hk, l, up_eq h1 hne, h2, h3, h4, xtr_up ha h5⟩
  · exact Or.inr (Or.inl ⟨n, r, e, ty, f, h1, up_eq h2 hne, h3⟩)
  · exact Or.inr (Or.inr ⟨hk, n, da, m, e, hn, f, up_eq h1 hne, h2⟩)
theorem fit.set {l : List Value} {s : List (Value → Prop)} {j : Nat} {v : Value} {P : Value → Prop} (h : fit l s) (hP : s[j]? = some P) (hv : P v) : fit (l.set j v) s := by
  refine ⟨by rw [List.length_set]; exact h.1, fun k w P' hk hP' => ?_⟩
  by_cases e : k = j
  · subst e
    cases hP.symm.trans hP'
    have hj : k < l.length := by rw [h.1]; exact (List.getElem?_eq_some_iff.mp hP).1
    rw [List.getElem?_set_self hj] at hk
    cases hk
    exact hv
  · rw [List.getElem?_set_ne (fun q => e q.symm)] at hk
    exact h.2 k w P' hk hP'
theorem ob_inj {k : Nat} {l l' : List Value} (h : (some (ob k l) : Option mi_C) = some (ob k l')) : l = l' := by
  simp only [ob, Option.some.injEq, Sum.inr.injEq, Prod.mk.injEq, true_and] at h
  apply List.ext_getElem?
  intro i
  exact congrFun h i
theorem litOk.up {a k : Nat} {l : List Value} (h : litOk g M) (hk : k < 12) (ha : M.1 a = some (ob k l)) (l' : List Value) : litOk g (up M a (ob k l')) := by
  intro i hi
  obtain ⟨hb, f, hf⟩ := h i hi
  refine ⟨hb, f, up_eq hf ?_⟩
  intro e
  rw [e, ha] at hf
  simp only [ob, Option.some.injEq, Sum.inr.injEq, Prod.mk.injEq] at hf
  omega
theorem WF.put {a k j : Nat} {ps : List Nat} {P : Value → Prop} {v : Value} {l : List Value} (h : WF g Y M) (hY : Y.1 a = some (k, ps)) (hk : k < 12) (hl : M.1 a = some (ob k l)) (hP : (sch Y k ps)[j]? = some P) (hv : P v) (hx : xtr Y M l k ps → xtr Y M (l.set j v) k ps) : WF g Y (up M a (ob k (l.set j v))) := by
  refine ⟨fun b kb pb hb => ?_, h.2.1, h.2.2.up hk hl _⟩
  by_cases e : b = a
  · subst e
    cases hY.symm.trans hb
    obtain ⟨l', h1, h2, h3, h4, h5⟩ := (h.1 b k ps hY).obj hk
    have e2 : l' = l := ob_inj (h1.symm.trans hl)
    subst e2
    exact Or.inl ⟨hk, _, up_at, h2, h3.set hP hv, h4, xtr_up hl (hx h5)⟩
  · exact (h.1 b kb pb hb).up hl e
/-- fields of which xtr says nothing -/
def xj (k j : Nat) : Bool := match k with
  | 4 => j != 2
  | 5 => j != 2
  | 6 => j != 4 && j != 5
  | 7 => j != 0 && j != 7
  | 9 => j != 3
  | _ => true
theorem set_ne {l : List Value} {j i : Nat} {v w : Value} (h : l[i]? = some w) (hj : (j != i) = true) : (l.set j v)[i]? = some w := by
  rw [List.getElem?_set_ne (by simpa using hj)]
  exact h
theorem xtr_set {l : List Value} {k j : Nat} {ps : List Nat} {v : Value} (hj : xj k j = true) (h : xtr Y M l k ps) : xtr Y M (l.set j v) k ps := by
  unfold xtr at h ⊢
  split at h
  · exact h
  · obtain ⟨h0, x, h1, h2⟩ := h
    exact ⟨h0, x, set_ne h1 hj, h2⟩
  · obtain ⟨h0, x, h1, h2⟩ := h
    exact ⟨h0, x, set_ne h1 hj, h2⟩
  · obtain ⟨x, y, h1, h2, h3⟩ := h
    have hj' := Bool.and_eq_true_iff.mp hj
    exact ⟨x, y, set_ne h1 hj'.1, set_ne h2 hj'.2, h3⟩
  · obtain ⟨h1, h2, cc, sz, g1, g3, g4, h3, h4, h5⟩ := h
    have hj' := Bool.and_eq_true_iff.mp hj
    exact ⟨h1, h2, cc, sz, g1, g3, g4, set_ne h3 hj'.2, set_ne h4 hj'.1, h5⟩
  · obtain ⟨x, h1, h2⟩ := h
    exact ⟨x, set_ne h1 hj, h2⟩
  · trivial
/-- what a method that makes nothing leaves behind -/
def st (g : xe_G) (Y : yT) (M M' : mi_H) : Prop := WF g Y M' ∧ M'.2 = M.2 ∧ ∀ x, Y.1 x = none → M'.1 x = M.1 x
theorem st.rf (h : WF g Y M) : st g Y M M := ⟨h, rfl, fun _ _ => rfl⟩
theorem st.tr {M1 M2 : mi_H} (h : st g Y M M1) (h' : st g Y M1 M2) : st g Y M M2 := ⟨h'.1, h'.2.1.trans h.2.1, fun x hx => (h'.2.2 x hx).trans (h.2.2 x hx)⟩
def qI (g : xe_G) (Y : yT) (M : mi_H) : Option Value → mi_H → Prop := fun v M' => (∃ x : Int32, v = some (.int x)) ∧ st g Y M M'
def qL (g : xe_G) (Y : yT) (M : mi_H) : Option Value → mi_H → Prop := fun v M' => (∃ x : Int64, v = some (.long x)) ∧ st g Y M M'
def qZ (g : xe_G) (Y : yT) (M : mi_H) : Option Value → mi_H → Prop := fun v M' => (∃ x : Int32, v = some (.int x) ∧ (x = 0 ∨ x = 1)) ∧ st g Y M M'
def qV (g : xe_G) (Y : yT) (M : mi_H) : Option Value → mi_H → Prop := fun v M' => v = none ∧ st g Y M M'
def pI (M : mi_H) : Option Value → mi_H → Prop := fun v M' => (∃ x : Int32, v = some (.int x)) ∧ M' = M
def pL (M : mi_H) : Option Value → mi_H → Prop := fun v M' => (∃ x : Int64, v = some (.long x)) ∧ M' = M
def pZ (M : mi_H) : Option Value → mi_H → Prop := fun v M' => (∃ x : Int32, v = some (.int x) ∧ (x = 0 ∨ x = 1)) ∧ M' = M
theorem r_z {x : Int32} (h : x = 0 ∨ x = 1) : r_int mi_cz [.int x] = some (some (.int x)) := by
  rcases h with rfl | rfl <;> rfl
variable {T : Nat → Option (Nat × mi_B)} {d pc : Nat} {tb : mi_B} {lv : List (Nat × Value)} {s0 : List Value} {Q : Option Value → mi_H → Prop}
theorem tg_int {k j a : Nat} {ps : List Nat} (h1 : tb.1 pc = some (.inl (o_get k j))) (hW : WF g Y M) (hY : Y.1 a = some (k, ps)) (hk : k < 12) (hP : (sch Y k ps)[j]? = some vi) (kk : ∀ x, mi_gf M a k j = some (.int x) → ml T d tb (mi_nk tb.2 (pc + 3, lv, .int x :: s0, M)) Q) : ml T d tb (pc, lv, .ref a :: s0, M) Q := by
  obtain ⟨x, hx⟩ := hW.int hY hk hP
  exact ml_get h1 hx rfl (kk x hx)
theorem tg_ref {k j a b : Nat} {ps : List Nat} {S' : mi_S} (h1 : tb.1 pc = some (.inl (o_get k j))) (hW : WF g Y M) (hY : Y.1 a = some (k, ps)) (hk : k < 12) (hP : (sch Y k ps)[j]? = some (vr b)) (e1 : mi_nk tb.2 (pc + 3, lv, .ref b :: s0, M) = S') (kk : ml T d tb S' Q) : ml T d tb (pc, lv, .ref a :: s0, M) Q :=
  ml_get h1 (hW.ref hY hk hP) e1 kk
theorem tg_vo {k j a : Nat} {ps : List Nat} {P : Nat → Prop} (h1 : tb.1 pc = some (.inl (o_get k j))) (hW : WF g Y M) (hY : Y.1 a = some (k, ps)) (hk : k < 12) (hP : (sch Y k ps)[j]? = some (vo P)) (kk : ∀ b, mi_gf M a k j = some (.ref b) → P b → ml T d tb (mi_nk tb.2 (pc + 3, lv, .ref b :: s0, M)) Q) : ml T d tb (pc, lv, .ref a :: s0, M) Q := by
  obtain ⟨v, hx, b, rfl, hb⟩ := hW.get hY hk hP
  exact ml_get h1 hx rfl (kk b hx hb)
theorem tg_vn {k j a : Nat} {ps : List Nat} {P : Nat → Prop} (h1 : tb.1 pc = some (.inl (o_get k j))) (hW : WF g Y M) (hY : Y.1 a = some (k, ps)) (hk : k < 12) (hP : (sch Y k ps)[j]? = some (vn P)) (k0 : mi_gf M a k j = some .null → ml T d tb (mi_nk tb.2 (pc + 3, lv, .null :: s0, M)) Q) (kk : ∀ b, mi_gf M a k j = some (.ref b) → P b → ml T d tb (mi_nk tb.2 (pc + 3, lv, .ref b :: s0, M)) Q) : ml T d tb (pc, lv, .ref a :: s0, M) Q := by
  obtain ⟨v, hx, rfl | ⟨b, rfl, hb⟩⟩ := hW.get hY hk hP
  · exact ml_get h1 hx rfl (k0 hx)
  · exact ml_get h1 hx rfl (kk b hx hb)
theorem gf_fr {M' : mi_H} {a k j : Nat} {v : Option Value} (h : M'.1 a = M.1 a) (hg : mi_gf M a k j = v) : mi_gf M' a k j = v := by
  unfold mi_gf at hg ⊢
  rw [h]
  exact hg
theorem ykne {a b k k' : Nat} {ps ps' : List Nat} (h : Y.1 a = some (k, ps)) (h' : Y.1 b = some (k', ps')) (hk : k ≠ k') : a ≠ b := by
  intro e
  subst e
  rw [h] at h'
  simp only [Option.some.injEq, Prod.mk.injEq] at h'
  exact hk h'.1
/-- what a field's write leaves: types, the other cells, the other fields, and the field itself -/
def pf (M M' : mi_H) (a k j : Nat) (v : Value) : Prop := (∀ x, x ≠ a → M'.1 x = M.1 x) ∧ (∀ i w, i ≠ j → mi_gf M a k i = some w → mi_gf M' a k i = some w) ∧ mi_gf M' a k j = some v ∧ ∀ l, M.1 a = some (ob k l) → M'.1 a = some (ob k (l.set j v))
theorem pf_up {a k j : Nat} {v : Value} {l : List Value} (h2 : M.1 a = some (ob k l)) (hj : j < l.length) : pf M (up M a (ob k (l.set j v))) a k j v := by
  refine ⟨fun x hx0 => up_ne hx0, fun i w hi hw => ?_, gf_ob up_at (by simp [hj]), fun l' hl' => ?_⟩
  · have : l[i]? = some w := by
      unfold mi_gf at hw
      rw [h2] at hw
      simpa [ob] using hw
    exact gf_ob up_at (set_ne this (by simpa using fun e => hi e.symm))
  · cases ob_inj (h2.symm.trans hl')
    exact up_at
theorem tp_putx {M0 : mi_H} {k j a : Nat} {ty : FieldType} {ps : List Nat} {v : Value} {P : Value → Prop} (h1 : tb.1 pc = some (.inl (o_put k j ty))) (hS : st g Y M0 M) (hY : Y.1 a = some (k, ps)) (hk : k < 12) (hP : (sch Y k ps)[j]? = some P) (hv : P v) (hf : mi_fit ty v = true) (hx : ∀ l, j < l.length → xtr Y M l k ps → xtr Y M (l.set j v) k ps) (kk : ∀ M', st g Y M0 M' → pf M M' a k j v → ml T d tb (mi_nk tb.2 (pc + 3, lv, s0, M')) Q) : ml T d tb (pc, lv, v :: .ref a :: s0, M) Q := by
  obtain ⟨l, h2, h3, h4, -⟩ := (hS.1.1 a k ps hY).obj hk
  have hj : j < l.length := by rw [h4.1]; exact (List.getElem?_eq_some_iff.mp hP).1
  refine mo_put h1 h2 hf hj rfl (kk _ (hS.tr ⟨hS.1.put hY hk h2 hP hv (hx l hj), rfl, fun x hx0 => up_ne ?_⟩) (pf_up h2 hj))
  intro e
  subst e
  rw [hY] at hx0
  cases hx0
theorem tp_put {M0 : mi_H} {k j a : Nat} {ty : FieldType} {ps : List Nat} {v : Value} {P : Value → Prop} (h1 : tb.1 pc = some (.inl (o_put k j ty))) (hS : st g Y M0 M) (hY : Y.1 a = some (k, ps)) (hk : k < 12) (hP : (sch Y k ps)[j]? = some P) (hv : P v) (hf : mi_fit ty v = true) (hx : xj k j = true) (kk : ∀ M', st g Y M0 M' → pf M M' a k j v → ml T d tb (mi_nk tb.2 (pc + 3, lv, s0, M')) Q) : ml T d tb (pc, lv, v :: .ref a :: s0, M) Q :=
  tp_putx h1 hS hY hk hP hv hf (fun _ _ h => xtr_set hx h) kk
end MIX
end
