theorem dX10_init_0 : decode cX10_init 0 = .ok (.aload_n 0, 1) := by decide +kernel
theorem dX10_init_1 : decode cX10_init 1 = .ok (.invokespecial 1, 3) := by decide +kernel
theorem dX10_init_4 : decode cX10_init 4 = .ok (.aload_n 0, 1) := by decide +kernel
theorem dX10_init_5 : decode cX10_init 5 = .ok (.bipush 10, 2) := by decide +kernel
theorem dX10_init_7 : decode cX10_init 7 = .ok (.newarray .int, 2) := by decide +kernel
theorem dX10_init_9 : decode cX10_init 9 = .ok (.dup, 1) := by decide +kernel
theorem dX10_init_10 : decode cX10_init 10 = .ok (.iconst 0, 1) := by decide +kernel
theorem dX10_init_11 : decode cX10_init 11 = .ok (.iconst 0, 1) := by decide +kernel
theorem dX10_init_12 : decode cX10_init 12 = .ok (.iastore, 1) := by decide +kernel
theorem dX10_init_13 : decode cX10_init 13 = .ok (.dup, 1) := by decide +kernel
theorem dX10_init_14 : decode cX10_init 14 = .ok (.iconst 1, 1) := by decide +kernel
theorem dX10_init_15 : decode cX10_init 15 = .ok (.iconst 1, 1) := by decide +kernel
theorem dX10_init_16 : decode cX10_init 16 = .ok (.iastore, 1) := by decide +kernel
theorem dX10_init_17 : decode cX10_init 17 = .ok (.dup, 1) := by decide +kernel
theorem dX10_init_18 : decode cX10_init 18 = .ok (.iconst 2, 1) := by decide +kernel
theorem dX10_init_19 : decode cX10_init 19 = .ok (.iconst 2, 1) := by decide +kernel
theorem dX10_init_20 : decode cX10_init 20 = .ok (.iastore, 1) := by decide +kernel
theorem dX10_init_21 : decode cX10_init 21 = .ok (.dup, 1) := by decide +kernel
theorem dX10_init_22 : decode cX10_init 22 = .ok (.iconst 3, 1) := by decide +kernel
theorem dX10_init_23 : decode cX10_init 23 = .ok (.iconst 4, 1) := by decide +kernel
theorem dX10_init_24 : decode cX10_init 24 = .ok (.iastore, 1) := by decide +kernel
theorem dX10_init_25 : decode cX10_init 25 = .ok (.dup, 1) := by decide +kernel
theorem dX10_init_26 : decode cX10_init 26 = .ok (.iconst 4, 1) := by decide +kernel
theorem dX10_init_27 : decode cX10_init 27 = .ok (.bipush 7, 2) := by decide +kernel
theorem dX10_init_29 : decode cX10_init 29 = .ok (.iastore, 1) := by decide +kernel
theorem dX10_init_30 : decode cX10_init 30 = .ok (.dup, 1) := by decide +kernel
theorem dX10_init_31 : decode cX10_init 31 = .ok (.iconst 5, 1) := by decide +kernel
theorem dX10_init_32 : decode cX10_init 32 = .ok (.bipush 12, 2) := by decide +kernel
theorem dX10_init_34 : decode cX10_init 34 = .ok (.iastore, 1) := by decide +kernel
theorem dX10_init_35 : decode cX10_init 35 = .ok (.dup, 1) := by decide +kernel
theorem dX10_init_36 : decode cX10_init 36 = .ok (.bipush 6, 2) := by decide +kernel
theorem dX10_init_38 : decode cX10_init 38 = .ok (.bipush 19, 2) := by decide +kernel
theorem dX10_init_40 : decode cX10_init 40 = .ok (.iastore, 1) := by decide +kernel
theorem dX10_init_41 : decode cX10_init 41 = .ok (.dup, 1) := by decide +kernel
theorem dX10_init_42 : decode cX10_init 42 = .ok (.bipush 7, 2) := by decide +kernel
theorem dX10_init_44 : decode cX10_init 44 = .ok (.bipush 30, 2) := by decide +kernel
theorem dX10_init_46 : decode cX10_init 46 = .ok (.iastore, 1) := by decide +kernel
theorem dX10_init_47 : decode cX10_init 47 = .ok (.dup, 1) := by decide +kernel
theorem dX10_init_48 : decode cX10_init 48 = .ok (.bipush 8, 2) := by decide +kernel
theorem dX10_init_50 : decode cX10_init 50 = .ok (.bipush 45, 2) := by decide +kernel
theorem dX10_init_52 : decode cX10_init 52 = .ok (.iastore, 1) := by decide +kernel
theorem dX10_init_53 : decode cX10_init 53 = .ok (.dup, 1) := by decide +kernel
theorem dX10_init_54 : decode cX10_init 54 = .ok (.bipush 9, 2) := by decide +kernel
theorem dX10_init_56 : decode cX10_init 56 = .ok (.bipush 67, 2) := by decide +kernel
theorem dX10_init_58 : decode cX10_init 58 = .ok (.iastore, 1) := by decide +kernel
theorem dX10_init_59 : decode cX10_init 59 = .ok (.putfield 7, 3) := by decide +kernel
theorem dX10_init_62 : decode cX10_init 62 = .ok (.aload_n 0, 1) := by decide +kernel
theorem dX10_init_63 : decode cX10_init 63 = .ok (.bipush 67, 2) := by decide +kernel
theorem dX10_init_65 : decode cX10_init 65 = .ok (.newarray .int, 2) := by decide +kernel
theorem dX10_init_67 : decode cX10_init 67 = .ok (.putfield 13, 3) := by decide +kernel
theorem dX10_init_70 : decode cX10_init 70 = .ok (.aload_n 0, 1) := by decide +kernel
theorem dX10_init_71 : decode cX10_init 71 = .ok (.bipush 67, 2) := by decide +kernel
theorem dX10_init_73 : decode cX10_init 73 = .ok (.newarray .int, 2) := by decide +kernel
theorem dX10_init_75 : decode cX10_init 75 = .ok (.putfield 16, 3) := by decide +kernel
theorem dX10_init_78 : decode cX10_init 78 = .ok (.aload_n 0, 1) := by decide +kernel
theorem dX10_init_79 : decode cX10_init 79 = .ok (.sipush 536, 3) := by decide +kernel
theorem dX10_init_82 : decode cX10_init 82 = .ok (.newarray .int, 2) := by decide +kernel
theorem dX10_init_84 : decode cX10_init 84 = .ok (.putfield 19, 3) := by decide +kernel
theorem dX10_init_87 : decode cX10_init 87 = .ok (.aload_n 0, 1) := by decide +kernel
theorem dX10_init_88 : decode cX10_init 88 = .ok (.sipush 4489, 3) := by decide +kernel
theorem dX10_init_91 : decode cX10_init 91 = .ok (.newarray .int, 2) := by decide +kernel
theorem dX10_init_93 : decode cX10_init 93 = .ok (.putfield 22, 3) := by decide +kernel
theorem dX10_init_96 : decode cX10_init 96 = .ok (.aload_n 0, 1) := by decide +kernel
theorem dX10_init_97 : decode cX10_init 97 = .ok (.iconst 4, 1) := by decide +kernel
theorem dX10_init_98 : decode cX10_init 98 = .ok (.newarray .int, 2) := by decide +kernel
theorem dX10_init_100 : decode cX10_init 100 = .ok (.dup, 1) := by decide +kernel
theorem dX10_init_101 : decode cX10_init 101 = .ok (.iconst 0, 1) := by decide +kernel
theorem dX10_init_102 : decode cX10_init 102 = .ok (.iconst (-1), 1) := by decide +kernel
theorem dX10_init_103 : decode cX10_init 103 = .ok (.iastore, 1) := by decide +kernel
theorem dX10_init_104 : decode cX10_init 104 = .ok (.dup, 1) := by decide +kernel
theorem dX10_init_105 : decode cX10_init 105 = .ok (.iconst 1, 1) := by decide +kernel
theorem dX10_init_106 : decode cX10_init 106 = .ok (.iconst (-1), 1) := by decide +kernel
theorem dX10_init_107 : decode cX10_init 107 = .ok (.iastore, 1) := by decide +kernel
theorem dX10_init_108 : decode cX10_init 108 = .ok (.dup, 1) := by decide +kernel
theorem dX10_init_109 : decode cX10_init 109 = .ok (.iconst 2, 1) := by decide +kernel
theorem dX10_init_110 : decode cX10_init 110 = .ok (.iconst (-1), 1) := by decide +kernel
theorem dX10_init_111 : decode cX10_init 111 = .ok (.iastore, 1) := by decide +kernel
theorem dX10_init_112 : decode cX10_init 112 = .ok (.dup, 1) := by decide +kernel
theorem dX10_init_113 : decode cX10_init 113 = .ok (.iconst 3, 1) := by decide +kernel
theorem dX10_init_114 : decode cX10_init 114 = .ok (.iconst (-1), 1) := by decide +kernel
theorem dX10_init_115 : decode cX10_init 115 = .ok (.iastore, 1) := by decide +kernel
theorem dX10_init_116 : decode cX10_init 116 = .ok (.putfield 25, 3) := by decide +kernel
theorem dX10_init_119 : decode cX10_init 119 = .ok (.aload_n 0, 1) := by decide +kernel
theorem dX10_init_120 : decode cX10_init 120 = .ok (.bipush 88, 2) := by decide +kernel
theorem dX10_init_122 : decode cX10_init 122 = .ok (.newarray .int, 2) := by decide +kernel
theorem dX10_init_124 : decode cX10_init 124 = .ok (.putfield 28, 3) := by decide +kernel
theorem dX10_init_127 : decode cX10_init 127 = .ok (.aload_n 0, 1) := by decide +kernel
theorem dX10_init_128 : decode cX10_init 128 = .ok (.bipush 36, 2) := by decide +kernel
theorem dX10_init_130 : decode cX10_init 130 = .ok (.newarray .int, 2) := by decide +kernel
theorem dX10_init_132 : decode cX10_init 132 = .ok (.putfield 31, 3) := by decide +kernel
theorem dX10_init_135 : decode cX10_init 135 = .ok (.aload_n 0, 1) := by decide +kernel
theorem dX10_init_136 : decode cX10_init 136 = .ok (.sipush 792, 3) := by decide +kernel
theorem dX10_init_139 : decode cX10_init 139 = .ok (.newarray .int, 2) := by decide +kernel
theorem dX10_init_141 : decode cX10_init 141 = .ok (.putfield 34, 3) := by decide +kernel
theorem dX10_init_144 : decode cX10_init 144 = .ok (.aload_n 0, 1) := by decide +kernel
theorem dX10_init_145 : decode cX10_init 145 = .ok (.bipush 72, 2) := by decide +kernel
theorem dX10_init_147 : decode cX10_init 147 = .ok (.newarray .int, 2) := by decide +kernel
theorem dX10_init_149 : decode cX10_init 149 = .ok (.putfield 37, 3) := by decide +kernel
theorem dX10_init_152 : decode cX10_init 152 = .ok (.aload_n 0, 1) := by decide +kernel
theorem dX10_init_153 : decode cX10_init 153 = .ok (.iconst 3, 1) := by decide +kernel
theorem dX10_init_154 : decode cX10_init 154 = .ok (.newarray .int, 2) := by decide +kernel
theorem dX10_init_156 : decode cX10_init 156 = .ok (.dup, 1) := by decide +kernel
theorem dX10_init_157 : decode cX10_init 157 = .ok (.iconst 0, 1) := by decide +kernel
theorem dX10_init_158 : decode cX10_init 158 = .ok (.iconst (-1), 1) := by decide +kernel
theorem dX10_init_159 : decode cX10_init 159 = .ok (.iastore, 1) := by decide +kernel
theorem dX10_init_160 : decode cX10_init 160 = .ok (.dup, 1) := by decide +kernel
theorem dX10_init_161 : decode cX10_init 161 = .ok (.iconst 1, 1) := by decide +kernel
theorem dX10_init_162 : decode cX10_init 162 = .ok (.iconst (-1), 1) := by decide +kernel
theorem dX10_init_163 : decode cX10_init 163 = .ok (.iastore, 1) := by decide +kernel
theorem dX10_init_164 : decode cX10_init 164 = .ok (.dup, 1) := by decide +kernel
theorem dX10_init_165 : decode cX10_init 165 = .ok (.iconst 2, 1) := by decide +kernel
theorem dX10_init_166 : decode cX10_init 166 = .ok (.iconst (-1), 1) := by decide +kernel
theorem dX10_init_167 : decode cX10_init 167 = .ok (.iastore, 1) := by decide +kernel
theorem dX10_init_168 : decode cX10_init 168 = .ok (.putfield 40, 3) := by decide +kernel
theorem dX10_init_171 : decode cX10_init 171 = .ok (.aload_n 0, 1) := by decide +kernel
theorem dX10_init_172 : decode cX10_init 172 = .ok (.bipush 120, 2) := by decide +kernel
theorem dX10_init_174 : decode cX10_init 174 = .ok (.newarray .int, 2) := by decide +kernel
theorem dX10_init_176 : decode cX10_init 176 = .ok (.putfield 43, 3) := by decide +kernel
theorem dX10_init_179 : decode cX10_init 179 = .ok (.aload_n 0, 1) := by decide +kernel
theorem dX10_init_180 : decode cX10_init 180 = .ok (.bipush 7, 2) := by decide +kernel
theorem dX10_init_182 : decode cX10_init 182 = .ok (.newarray .int, 2) := by decide +kernel
theorem dX10_init_184 : decode cX10_init 184 = .ok (.putfield 46, 3) := by decide +kernel
theorem dX10_init_187 : decode cX10_init 187 = .ok (.aload_n 0, 1) := by decide +kernel
theorem dX10_init_188 : decode cX10_init 188 = .ok (.bipush 9, 2) := by decide +kernel
theorem dX10_init_190 : decode cX10_init 190 = .ok (.newarray .int, 2) := by decide +kernel
theorem dX10_init_192 : decode cX10_init 192 = .ok (.putfield 49, 3) := by decide +kernel
theorem dX10_init_195 : decode cX10_init 195 = .ok (.aload_n 0, 1) := by decide +kernel
theorem dX10_init_196 : decode cX10_init 196 = .ok (.bipush 22, 2) := by decide +kernel
theorem dX10_init_198 : decode cX10_init 198 = .ok (.newarray .long, 2) := by decide +kernel
theorem dX10_init_200 : decode cX10_init 200 = .ok (.putfield 52, 3) := by decide +kernel
theorem dX10_init_203 : decode cX10_init 203 = .ok (.iconst 0, 1) := by decide +kernel
theorem dX10_init_204 : decode cX10_init 204 = .ok (.istore_n 1, 1) := by decide +kernel
theorem dX10_init_205 : decode cX10_init 205 = .ok (.iload_n 1, 1) := by decide +kernel
theorem dX10_init_206 : decode cX10_init 206 = .ok (.bipush 8, 2) := by decide +kernel
theorem dX10_init_208 : decode cX10_init 208 = .ok (.if_icmp .gt 84, 3) := by decide +kernel
theorem dX10_init_211 : decode cX10_init 211 = .ok (.aload_n 0, 1) := by decide +kernel
theorem dX10_init_212 : decode cX10_init 212 = .ok (.getfield 7, 3) := by decide +kernel
theorem dX10_init_215 : decode cX10_init 215 = .ok (.iload_n 1, 1) := by decide +kernel
theorem dX10_init_216 : decode cX10_init 216 = .ok (.iaload, 1) := by decide +kernel
theorem dX10_init_217 : decode cX10_init 217 = .ok (.istore_n 2, 1) := by decide +kernel
theorem dX10_init_218 : decode cX10_init 218 = .ok (.iload_n 2, 1) := by decide +kernel
theorem dX10_init_219 : decode cX10_init 219 = .ok (.aload_n 0, 1) := by decide +kernel
theorem dX10_init_220 : decode cX10_init 220 = .ok (.getfield 7, 3) := by decide +kernel
theorem dX10_init_223 : decode cX10_init 223 = .ok (.iload_n 1, 1) := by decide +kernel
theorem dX10_init_224 : decode cX10_init 224 = .ok (.iconst 1, 1) := by decide +kernel
theorem dX10_init_225 : decode cX10_init 225 = .ok (.iadd, 1) := by decide +kernel
theorem dX10_init_226 : decode cX10_init 226 = .ok (.iaload, 1) := by decide +kernel
theorem dX10_init_227 : decode cX10_init 227 = .ok (.if_icmp .ge 59, 3) := by decide +kernel
theorem dX10_init_230 : decode cX10_init 230 = .ok (.aload_n 0, 1) := by decide +kernel
theorem dX10_init_231 : decode cX10_init 231 = .ok (.getfield 13, 3) := by decide +kernel
theorem dX10_init_234 : decode cX10_init 234 = .ok (.iload_n 2, 1) := by decide +kernel
theorem dX10_init_235 : decode cX10_init 235 = .ok (.iload_n 1, 1) := by decide +kernel
theorem dX10_init_236 : decode cX10_init 236 = .ok (.iastore, 1) := by decide +kernel
theorem dX10_init_237 : decode cX10_init 237 = .ok (.iload_n 2, 1) := by decide +kernel
theorem dX10_init_238 : decode cX10_init 238 = .ok (.aload_n 0, 1) := by decide +kernel
theorem dX10_init_239 : decode cX10_init 239 = .ok (.getfield 7, 3) := by decide +kernel
theorem dX10_init_242 : decode cX10_init 242 = .ok (.iload_n 1, 1) := by decide +kernel
theorem dX10_init_243 : decode cX10_init 243 = .ok (.iaload, 1) := by decide +kernel
theorem dX10_init_244 : decode cX10_init 244 = .ok (.if_icmp .ne 31, 3) := by decide +kernel
theorem dX10_init_247 : decode cX10_init 247 = .ok (.aload_n 0, 1) := by decide +kernel
theorem dX10_init_248 : decode cX10_init 248 = .ok (.getfield 16, 3) := by decide +kernel
theorem dX10_init_251 : decode cX10_init 251 = .ok (.iload_n 2, 1) := by decide +kernel
theorem dX10_init_252 : decode cX10_init 252 = .ok (.iload_n 1, 1) := by decide +kernel
theorem dX10_init_253 : decode cX10_init 253 = .ok (.ifCond .le 7, 3) := by decide +kernel
theorem dX10_init_256 : decode cX10_init 256 = .ok (.iconst 1, 1) := by decide +kernel
theorem dX10_init_257 : decode cX10_init 257 = .ok (.goto 4, 3) := by decide +kernel
theorem dX10_init_260 : decode cX10_init 260 = .ok (.iconst 0, 1) := by decide +kernel
theorem dX10_init_261 : decode cX10_init 261 = .ok (.iastore, 1) := by decide +kernel
theorem dX10_init_262 : decode cX10_init 262 = .ok (.aload_n 0, 1) := by decide +kernel
theorem dX10_init_263 : decode cX10_init 263 = .ok (.getfield 19, 3) := by decide +kernel
theorem dX10_init_266 : decode cX10_init 266 = .ok (.bipush 8, 2) := by decide +kernel
theorem dX10_init_268 : decode cX10_init 268 = .ok (.iload_n 2, 1) := by decide +kernel
theorem dX10_init_269 : decode cX10_init 269 = .ok (.imul, 1) := by decide +kernel
theorem dX10_init_270 : decode cX10_init 270 = .ok (.iload_n 1, 1) := by decide +kernel
theorem dX10_init_271 : decode cX10_init 271 = .ok (.iastore, 1) := by decide +kernel
theorem dX10_init_272 : decode cX10_init 272 = .ok (.goto 8, 3) := by decide +kernel
theorem dX10_init_275 : decode cX10_init 275 = .ok (.aload_n 0, 1) := by decide +kernel
theorem dX10_init_276 : decode cX10_init 276 = .ok (.iload_n 2, 1) := by decide +kernel
theorem dX10_init_277 : decode cX10_init 277 = .ok (.invokevirtual 56, 3) := by decide +kernel
theorem dX10_init_280 : decode cX10_init 280 = .ok (.iinc 2 1, 3) := by decide +kernel
theorem dX10_init_283 : decode cX10_init 283 = .ok (.goto (-65), 3) := by decide +kernel
theorem dX10_init_286 : decode cX10_init 286 = .ok (.iinc 1 1, 3) := by decide +kernel
theorem dX10_init_289 : decode cX10_init 289 = .ok (.goto (-84), 3) := by decide +kernel
theorem dX10_init_292 : decode cX10_init 292 = .ok (.iconst 0, 1) := by decide +kernel
theorem dX10_init_293 : decode cX10_init 293 = .ok (.istore_n 1, 1) := by decide +kernel
theorem dX10_init_294 : decode cX10_init 294 = .ok (.iload_n 1, 1) := by decide +kernel
theorem dX10_init_295 : decode cX10_init 295 = .ok (.bipush 67, 2) := by decide +kernel
theorem dX10_init_297 : decode cX10_init 297 = .ok (.if_icmp .ge 61, 3) := by decide +kernel
theorem dX10_init_300 : decode cX10_init 300 = .ok (.aload_n 0, 1) := by decide +kernel
theorem dX10_init_301 : decode cX10_init 301 = .ok (.getfield 7, 3) := by decide +kernel
theorem dX10_init_304 : decode cX10_init 304 = .ok (.aload_n 0, 1) := by decide +kernel
theorem dX10_init_305 : decode cX10_init 305 = .ok (.getfield 13, 3) := by decide +kernel
theorem dX10_init_308 : decode cX10_init 308 = .ok (.iload_n 1, 1) := by decide +kernel
theorem dX10_init_309 : decode cX10_init 309 = .ok (.iaload, 1) := by decide +kernel
theorem dX10_init_310 : decode cX10_init 310 = .ok (.iaload, 1) := by decide +kernel
theorem dX10_init_311 : decode cX10_init 311 = .ok (.istore_n 2, 1) := by decide +kernel
theorem dX10_init_312 : decode cX10_init 312 = .ok (.iload_n 2, 1) := by decide +kernel
theorem dX10_init_313 : decode cX10_init 313 = .ok (.aload_n 0, 1) := by decide +kernel
theorem dX10_init_314 : decode cX10_init 314 = .ok (.getfield 7, 3) := by decide +kernel
theorem dX10_init_317 : decode cX10_init 317 = .ok (.aload_n 0, 1) := by decide +kernel
theorem dX10_init_318 : decode cX10_init 318 = .ok (.getfield 13, 3) := by decide +kernel
theorem dX10_init_321 : decode cX10_init 321 = .ok (.iload_n 1, 1) := by decide +kernel
theorem dX10_init_322 : decode cX10_init 322 = .ok (.iaload, 1) := by decide +kernel
theorem dX10_init_323 : decode cX10_init 323 = .ok (.iconst 1, 1) := by decide +kernel
theorem dX10_init_324 : decode cX10_init 324 = .ok (.iadd, 1) := by decide +kernel
theorem dX10_init_325 : decode cX10_init 325 = .ok (.iaload, 1) := by decide +kernel
theorem dX10_init_326 : decode cX10_init 326 = .ok (.if_icmp .ge 26, 3) := by decide +kernel
theorem dX10_init_329 : decode cX10_init 329 = .ok (.aload_n 0, 1) := by decide +kernel
theorem dX10_init_330 : decode cX10_init 330 = .ok (.getfield 22, 3) := by decide +kernel
theorem dX10_init_333 : decode cX10_init 333 = .ok (.bipush 67, 2) := by decide +kernel
theorem dX10_init_335 : decode cX10_init 335 = .ok (.iload_n 1, 1) := by decide +kernel
theorem dX10_init_336 : decode cX10_init 336 = .ok (.imul, 1) := by decide +kernel
theorem dX10_init_337 : decode cX10_init 337 = .ok (.iload_n 2, 1) := by decide +kernel
theorem dX10_init_338 : decode cX10_init 338 = .ok (.iadd, 1) := by decide +kernel
theorem dX10_init_339 : decode cX10_init 339 = .ok (.aload_n 0, 1) := by decide +kernel
theorem dX10_init_340 : decode cX10_init 340 = .ok (.iload_n 1, 1) := by decide +kernel
theorem dX10_init_341 : decode cX10_init 341 = .ok (.iload_n 2, 1) := by decide +kernel
theorem dX10_init_342 : decode cX10_init 342 = .ok (.invokevirtual 60, 3) := by decide +kernel
theorem dX10_init_345 : decode cX10_init 345 = .ok (.iastore, 1) := by decide +kernel
theorem dX10_init_346 : decode cX10_init 346 = .ok (.iinc 2 1, 3) := by decide +kernel
theorem dX10_init_349 : decode cX10_init 349 = .ok (.goto (-37), 3) := by decide +kernel
theorem dX10_init_352 : decode cX10_init 352 = .ok (.iinc 1 1, 3) := by decide +kernel
theorem dX10_init_355 : decode cX10_init 355 = .ok (.goto (-61), 3) := by decide +kernel
theorem dX10_init_358 : decode cX10_init 358 = .ok (.return_, 1) := by decide +kernel
theorem dX10_follows_0 : decode cX10_follows 0 = .ok (.aload_n 0, 1) := by decide +kernel
theorem dX10_follows_1 : decode cX10_follows 1 = .ok (.getfield 16, 3) := by decide +kernel
theorem dX10_follows_4 : decode cX10_follows 4 = .ok (.iload_n 1, 1) := by decide +kernel
theorem dX10_follows_5 : decode cX10_follows 5 = .ok (.iconst 1, 1) := by decide +kernel
theorem dX10_follows_6 : decode cX10_follows 6 = .ok (.isub, 1) := by decide +kernel
theorem dX10_follows_7 : decode cX10_follows 7 = .ok (.iaload, 1) := by decide +kernel
theorem dX10_follows_8 : decode cX10_follows 8 = .ok (.iconst 1, 1) := by decide +kernel
theorem dX10_follows_9 : decode cX10_follows 9 = .ok (.isub, 1) := by decide +kernel
theorem dX10_follows_10 : decode cX10_follows 10 = .ok (.istore_n 2, 1) := by decide +kernel
theorem dX10_follows_11 : decode cX10_follows 11 = .ok (.iconst 1, 1) := by decide +kernel
theorem dX10_follows_12 : decode cX10_follows 12 = .ok (.istore_n 3, 1) := by decide +kernel
theorem dX10_follows_13 : decode cX10_follows 13 = .ok (.aload_n 0, 1) := by decide +kernel
theorem dX10_follows_14 : decode cX10_follows 14 = .ok (.iload_n 1, 1) := by decide +kernel
theorem dX10_follows_15 : decode cX10_follows 15 = .ok (.iconst 1, 1) := by decide +kernel
theorem dX10_follows_16 : decode cX10_follows 16 = .ok (.isub, 1) := by decide +kernel
theorem dX10_follows_17 : decode cX10_follows 17 = .ok (.iload_n 2, 1) := by decide +kernel
theorem dX10_follows_18 : decode cX10_follows 18 = .ok (.invokevirtual 64, 3) := by decide +kernel
theorem dX10_follows_21 : decode cX10_follows 21 = .ok (.iconst 1, 1) := by decide +kernel
theorem dX10_follows_22 : decode cX10_follows 22 = .ok (.if_icmp .ne 12, 3) := by decide +kernel
theorem dX10_follows_25 : decode cX10_follows 25 = .ok (.iinc 2 (-1), 3) := by decide +kernel
theorem dX10_follows_28 : decode cX10_follows 28 = .ok (.iinc 3 1, 3) := by decide +kernel
theorem dX10_follows_31 : decode cX10_follows 31 = .ok (.goto (-18), 3) := by decide +kernel
theorem dX10_follows_34 : decode cX10_follows 34 = .ok (.iconst 0, 1) := by decide +kernel
theorem dX10_follows_35 : decode cX10_follows 35 = .ok (.istore 4, 2) := by decide +kernel
theorem dX10_follows_37 : decode cX10_follows 37 = .ok (.iload 4, 2) := by decide +kernel
theorem dX10_follows_39 : decode cX10_follows 39 = .ok (.iload_n 2, 1) := by decide +kernel
theorem dX10_follows_40 : decode cX10_follows 40 = .ok (.if_icmp .ge 30, 3) := by decide +kernel
theorem dX10_follows_43 : decode cX10_follows 43 = .ok (.aload_n 0, 1) := by decide +kernel
theorem dX10_follows_44 : decode cX10_follows 44 = .ok (.getfield 19, 3) := by decide +kernel
theorem dX10_follows_47 : decode cX10_follows 47 = .ok (.bipush 8, 2) := by decide +kernel
theorem dX10_follows_49 : decode cX10_follows 49 = .ok (.iload_n 1, 1) := by decide +kernel
theorem dX10_follows_50 : decode cX10_follows 50 = .ok (.imul, 1) := by decide +kernel
theorem dX10_follows_51 : decode cX10_follows 51 = .ok (.iload 4, 2) := by decide +kernel
theorem dX10_follows_53 : decode cX10_follows 53 = .ok (.iadd, 1) := by decide +kernel
theorem dX10_follows_54 : decode cX10_follows 54 = .ok (.aload_n 0, 1) := by decide +kernel
theorem dX10_follows_55 : decode cX10_follows 55 = .ok (.iload_n 1, 1) := by decide +kernel
theorem dX10_follows_56 : decode cX10_follows 56 = .ok (.iconst 1, 1) := by decide +kernel
theorem dX10_follows_57 : decode cX10_follows 57 = .ok (.isub, 1) := by decide +kernel
theorem dX10_follows_58 : decode cX10_follows 58 = .ok (.iload 4, 2) := by decide +kernel
theorem dX10_follows_60 : decode cX10_follows 60 = .ok (.invokevirtual 64, 3) := by decide +kernel
theorem dX10_follows_63 : decode cX10_follows 63 = .ok (.iastore, 1) := by decide +kernel
theorem dX10_follows_64 : decode cX10_follows 64 = .ok (.iinc 4 1, 3) := by decide +kernel
theorem dX10_follows_67 : decode cX10_follows 67 = .ok (.goto (-30), 3) := by decide +kernel
theorem dX10_follows_70 : decode cX10_follows 70 = .ok (.aload_n 0, 1) := by decide +kernel
theorem dX10_follows_71 : decode cX10_follows 71 = .ok (.iload_n 1, 1) := by decide +kernel
theorem dX10_follows_72 : decode cX10_follows 72 = .ok (.iconst 1, 1) := by decide +kernel
theorem dX10_follows_73 : decode cX10_follows 73 = .ok (.isub, 1) := by decide +kernel
theorem dX10_follows_74 : decode cX10_follows 74 = .ok (.iload_n 2, 1) := by decide +kernel
theorem dX10_follows_75 : decode cX10_follows 75 = .ok (.invokevirtual 64, 3) := by decide +kernel
theorem dX10_follows_78 : decode cX10_follows 78 = .ok (.iconst 1, 1) := by decide +kernel
theorem dX10_follows_79 : decode cX10_follows 79 = .ok (.isub, 1) := by decide +kernel
theorem dX10_follows_80 : decode cX10_follows 80 = .ok (.istore 4, 2) := by decide +kernel
theorem dX10_follows_82 : decode cX10_follows 82 = .ok (.aload_n 0, 1) := by decide +kernel
theorem dX10_follows_83 : decode cX10_follows 83 = .ok (.getfield 19, 3) := by decide +kernel
theorem dX10_follows_86 : decode cX10_follows 86 = .ok (.bipush 8, 2) := by decide +kernel
theorem dX10_follows_88 : decode cX10_follows 88 = .ok (.iload_n 1, 1) := by decide +kernel
theorem dX10_follows_89 : decode cX10_follows 89 = .ok (.imul, 1) := by decide +kernel
theorem dX10_follows_90 : decode cX10_follows 90 = .ok (.iload_n 2, 1) := by decide +kernel
theorem dX10_follows_91 : decode cX10_follows 91 = .ok (.iadd, 1) := by decide +kernel
theorem dX10_follows_92 : decode cX10_follows 92 = .ok (.iload 4, 2) := by decide +kernel
theorem dX10_follows_94 : decode cX10_follows 94 = .ok (.iastore, 1) := by decide +kernel
theorem dX10_follows_95 : decode cX10_follows 95 = .ok (.iinc 2 1, 3) := by decide +kernel
theorem dX10_follows_98 : decode cX10_follows 98 = .ok (.iload_n 3, 1) := by decide +kernel
theorem dX10_follows_99 : decode cX10_follows 99 = .ok (.ifCond .le 35, 3) := by decide +kernel
theorem dX10_follows_102 : decode cX10_follows 102 = .ok (.aload_n 0, 1) := by decide +kernel
theorem dX10_follows_103 : decode cX10_follows 103 = .ok (.getfield 19, 3) := by decide +kernel
theorem dX10_follows_106 : decode cX10_follows 106 = .ok (.bipush 8, 2) := by decide +kernel
theorem dX10_follows_108 : decode cX10_follows 108 = .ok (.iload_n 1, 1) := by decide +kernel
theorem dX10_follows_109 : decode cX10_follows 109 = .ok (.imul, 1) := by decide +kernel
theorem dX10_follows_110 : decode cX10_follows 110 = .ok (.iload_n 2, 1) := by decide +kernel
theorem dX10_follows_111 : decode cX10_follows 111 = .ok (.iadd, 1) := by decide +kernel
theorem dX10_follows_112 : decode cX10_follows 112 = .ok (.iload 4, 2) := by decide +kernel
theorem dX10_follows_114 : decode cX10_follows 114 = .ok (.iload_n 3, 1) := by decide +kernel
theorem dX10_follows_115 : decode cX10_follows 115 = .ok (.invokestatic 67, 3) := by decide +kernel
theorem dX10_follows_118 : decode cX10_follows 118 = .ok (.iastore, 1) := by decide +kernel
theorem dX10_follows_119 : decode cX10_follows 119 = .ok (.iload_n 3, 1) := by decide +kernel
theorem dX10_follows_120 : decode cX10_follows 120 = .ok (.iload 4, 2) := by decide +kernel
theorem dX10_follows_122 : decode cX10_follows 122 = .ok (.iload_n 3, 1) := by decide +kernel
theorem dX10_follows_123 : decode cX10_follows 123 = .ok (.invokestatic 67, 3) := by decide +kernel
theorem dX10_follows_126 : decode cX10_follows 126 = .ok (.isub, 1) := by decide +kernel
theorem dX10_follows_127 : decode cX10_follows 127 = .ok (.istore_n 3, 1) := by decide +kernel
theorem dX10_follows_128 : decode cX10_follows 128 = .ok (.iinc 2 1, 3) := by decide +kernel
theorem dX10_follows_131 : decode cX10_follows 131 = .ok (.goto (-33), 3) := by decide +kernel
theorem dX10_follows_134 : decode cX10_follows 134 = .ok (.aload_n 0, 1) := by decide +kernel
theorem dX10_follows_135 : decode cX10_follows 135 = .ok (.getfield 16, 3) := by decide +kernel
theorem dX10_follows_138 : decode cX10_follows 138 = .ok (.iload_n 1, 1) := by decide +kernel
theorem dX10_follows_139 : decode cX10_follows 139 = .ok (.iload_n 2, 1) := by decide +kernel
theorem dX10_follows_140 : decode cX10_follows 140 = .ok (.iastore, 1) := by decide +kernel
theorem dX10_follows_141 : decode cX10_follows 141 = .ok (.return_, 1) := by decide +kernel
theorem dX10_in_0 : decode cX10_in 0 = .ok (.iload_n 0, 1) := by decide +kernel
theorem dX10_in_1 : decode cX10_in 1 = .ok (.iload_n 1, 1) := by decide +kernel
theorem dX10_in_2 : decode cX10_in 2 = .ok (.if_icmp .lt 12, 3) := by decide +kernel
theorem dX10_in_5 : decode cX10_in 5 = .ok (.iload_n 0, 1) := by decide +kernel
theorem dX10_in_6 : decode cX10_in 6 = .ok (.iload_n 2, 1) := by decide +kernel
theorem dX10_in_7 : decode cX10_in 7 = .ok (.if_icmp .gt 7, 3) := by decide +kernel
theorem dX10_in_10 : decode cX10_in 10 = .ok (.iconst 1, 1) := by decide +kernel
theorem dX10_in_11 : decode cX10_in 11 = .ok (.goto 4, 3) := by decide +kernel
theorem dX10_in_14 : decode cX10_in 14 = .ok (.iconst 0, 1) := by decide +kernel
theorem dX10_in_15 : decode cX10_in 15 = .ok (.ireturn, 1) := by decide +kernel
theorem dX10_isShape_0 : decode cX10_isShape 0 = .ok (.iload_n 0, 1) := by decide +kernel
theorem dX10_isShape_1 : decode cX10_isShape 1 = .ok (.iconst 0, 1) := by decide +kernel
theorem dX10_isShape_2 : decode cX10_isShape 2 = .ok (.bipush 66, 2) := by decide +kernel
theorem dX10_isShape_4 : decode cX10_isShape 4 = .ok (.invokestatic 72, 3) := by decide +kernel
theorem dX10_isShape_7 : decode cX10_isShape 7 = .ok (.ireturn, 1) := by decide +kernel
theorem dX10_rowOf_0 : decode cX10_rowOf 0 = .ok (.aload_n 0, 1) := by decide +kernel
theorem dX10_rowOf_1 : decode cX10_rowOf 1 = .ok (.getfield 19, 3) := by decide +kernel
theorem dX10_rowOf_4 : decode cX10_rowOf 4 = .ok (.bipush 8, 2) := by decide +kernel
theorem dX10_rowOf_6 : decode cX10_rowOf 6 = .ok (.iload_n 1, 1) := by decide +kernel
theorem dX10_rowOf_7 : decode cX10_rowOf 7 = .ok (.imul, 1) := by decide +kernel
theorem dX10_rowOf_8 : decode cX10_rowOf 8 = .ok (.iload_n 2, 1) := by decide +kernel
theorem dX10_rowOf_9 : decode cX10_rowOf 9 = .ok (.iadd, 1) := by decide +kernel
theorem dX10_rowOf_10 : decode cX10_rowOf 10 = .ok (.iaload, 1) := by decide +kernel
theorem dX10_rowOf_11 : decode cX10_rowOf 11 = .ok (.ireturn, 1) := by decide +kernel
theorem dX10_manyOf_0 : decode cX10_manyOf 0 = .ok (.aload_n 0, 1) := by decide +kernel
theorem dX10_manyOf_1 : decode cX10_manyOf 1 = .ok (.getfield 7, 3) := by decide +kernel
theorem dX10_manyOf_4 : decode cX10_manyOf 4 = .ok (.iload_n 1, 1) := by decide +kernel
theorem dX10_manyOf_5 : decode cX10_manyOf 5 = .ok (.iconst 1, 1) := by decide +kernel
theorem dX10_manyOf_6 : decode cX10_manyOf 6 = .ok (.iadd, 1) := by decide +kernel
theorem dX10_manyOf_7 : decode cX10_manyOf 7 = .ok (.iaload, 1) := by decide +kernel
theorem dX10_manyOf_8 : decode cX10_manyOf 8 = .ok (.aload_n 0, 1) := by decide +kernel
theorem dX10_manyOf_9 : decode cX10_manyOf 9 = .ok (.getfield 7, 3) := by decide +kernel
theorem dX10_manyOf_12 : decode cX10_manyOf 12 = .ok (.iload_n 1, 1) := by decide +kernel
theorem dX10_manyOf_13 : decode cX10_manyOf 13 = .ok (.iaload, 1) := by decide +kernel
theorem dX10_manyOf_14 : decode cX10_manyOf 14 = .ok (.isub, 1) := by decide +kernel
theorem dX10_manyOf_15 : decode cX10_manyOf 15 = .ok (.ireturn, 1) := by decide +kernel
theorem dX10_refused_0 : decode cX10_refused 0 = .ok (.aload_n 0, 1) := by decide +kernel
theorem dX10_refused_1 : decode cX10_refused 1 = .ok (.getfield 46, 3) := by decide +kernel
theorem dX10_refused_4 : decode cX10_refused 4 = .ok (.iload_n 1, 1) := by decide +kernel
theorem dX10_refused_5 : decode cX10_refused 5 = .ok (.ineg, 1) := by decide +kernel
theorem dX10_refused_6 : decode cX10_refused 6 = .ok (.dup2, 1) := by decide +kernel
theorem dX10_refused_7 : decode cX10_refused 7 = .ok (.iaload, 1) := by decide +kernel
theorem dX10_refused_8 : decode cX10_refused 8 = .ok (.iconst 1, 1) := by decide +kernel
theorem dX10_refused_9 : decode cX10_refused 9 = .ok (.iadd, 1) := by decide +kernel
theorem dX10_refused_10 : decode cX10_refused 10 = .ok (.iastore, 1) := by decide +kernel
theorem dX10_refused_11 : decode cX10_refused 11 = .ok (.iload_n 1, 1) := by decide +kernel
theorem dX10_refused_12 : decode cX10_refused 12 = .ok (.ireturn, 1) := by decide +kernel
theorem dX10_far_0 : decode cX10_far 0 = .ok (.ldc 76, 2) := by decide +kernel
theorem dX10_far_2 : decode cX10_far 2 = .ok (.aload_n 0, 1) := by decide +kernel
theorem dX10_far_3 : decode cX10_far 3 = .ok (.iload_n 1, 1) := by decide +kernel
theorem dX10_far_4 : decode cX10_far 4 = .ok (.invokevirtual 77, 3) := by decide +kernel
theorem dX10_far_7 : decode cX10_far 7 = .ok (.isub, 1) := by decide +kernel
theorem dX10_far_8 : decode cX10_far 8 = .ok (.ireturn, 1) := by decide +kernel
theorem dX10_farther_0 : decode cX10_farther 0 = .ok (.ldc2_w 81, 3) := by decide +kernel
theorem dX10_farther_3 : decode cX10_farther 3 = .ok (.aload_n 0, 1) := by decide +kernel
theorem dX10_farther_4 : decode cX10_farther 4 = .ok (.iload_n 1, 1) := by decide +kernel
theorem dX10_farther_5 : decode cX10_farther 5 = .ok (.invokevirtual 77, 3) := by decide +kernel
theorem dX10_farther_8 : decode cX10_farther 8 = .ok (.i2l, 1) := by decide +kernel
theorem dX10_farther_9 : decode cX10_farther 9 = .ok (.lsub, 1) := by decide +kernel
theorem dX10_farther_10 : decode cX10_farther 10 = .ok (.lreturn, 1) := by decide +kernel
theorem dX10_shapeTried_0 : decode cX10_shapeTried 0 = .ok (.iconst 0, 1) := by decide +kernel
theorem dX10_shapeTried_1 : decode cX10_shapeTried 1 = .ok (.istore_n 1, 1) := by decide +kernel
theorem dX10_shapeTried_2 : decode cX10_shapeTried 2 = .ok (.iload_n 1, 1) := by decide +kernel
theorem dX10_shapeTried_3 : decode cX10_shapeTried 3 = .ok (.bipush 67, 2) := by decide +kernel
theorem dX10_shapeTried_5 : decode cX10_shapeTried 5 = .ok (.if_icmp .ge 56, 3) := by decide +kernel
theorem dX10_shapeTried_8 : decode cX10_shapeTried 8 = .ok (.iconst 1, 1) := by decide +kernel
theorem dX10_shapeTried_9 : decode cX10_shapeTried 9 = .ok (.istore_n 2, 1) := by decide +kernel
theorem dX10_shapeTried_10 : decode cX10_shapeTried 10 = .ok (.iconst 0, 1) := by decide +kernel
theorem dX10_shapeTried_11 : decode cX10_shapeTried 11 = .ok (.istore_n 3, 1) := by decide +kernel
theorem dX10_shapeTried_12 : decode cX10_shapeTried 12 = .ok (.iload_n 3, 1) := by decide +kernel
theorem dX10_shapeTried_13 : decode cX10_shapeTried 13 = .ok (.bipush 8, 2) := by decide +kernel
theorem dX10_shapeTried_15 : decode cX10_shapeTried 15 = .ok (.if_icmp .ge 34, 3) := by decide +kernel
theorem dX10_shapeTried_18 : decode cX10_shapeTried 18 = .ok (.iload_n 2, 1) := by decide +kernel
theorem dX10_shapeTried_19 : decode cX10_shapeTried 19 = .ok (.ifCond .eq 22, 3) := by decide +kernel
theorem dX10_shapeTried_22 : decode cX10_shapeTried 22 = .ok (.aload_n 0, 1) := by decide +kernel
theorem dX10_shapeTried_23 : decode cX10_shapeTried 23 = .ok (.getfield 49, 3) := by decide +kernel
theorem dX10_shapeTried_26 : decode cX10_shapeTried 26 = .ok (.iload_n 3, 1) := by decide +kernel
theorem dX10_shapeTried_27 : decode cX10_shapeTried 27 = .ok (.iaload, 1) := by decide +kernel
theorem dX10_shapeTried_28 : decode cX10_shapeTried 28 = .ok (.aload_n 0, 1) := by decide +kernel
theorem dX10_shapeTried_29 : decode cX10_shapeTried 29 = .ok (.iload_n 1, 1) := by decide +kernel
theorem dX10_shapeTried_30 : decode cX10_shapeTried 30 = .ok (.iload_n 3, 1) := by decide +kernel
theorem dX10_shapeTried_31 : decode cX10_shapeTried 31 = .ok (.invokevirtual 64, 3) := by decide +kernel
theorem dX10_shapeTried_34 : decode cX10_shapeTried 34 = .ok (.if_icmp .ne 7, 3) := by decide +kernel
theorem dX10_shapeTried_37 : decode cX10_shapeTried 37 = .ok (.iconst 1, 1) := by decide +kernel
theorem dX10_shapeTried_38 : decode cX10_shapeTried 38 = .ok (.goto 4, 3) := by decide +kernel
theorem dX10_shapeTried_41 : decode cX10_shapeTried 41 = .ok (.iconst 0, 1) := by decide +kernel
theorem dX10_shapeTried_42 : decode cX10_shapeTried 42 = .ok (.istore_n 2, 1) := by decide +kernel
theorem dX10_shapeTried_43 : decode cX10_shapeTried 43 = .ok (.iinc 3 1, 3) := by decide +kernel
theorem dX10_shapeTried_46 : decode cX10_shapeTried 46 = .ok (.goto (-34), 3) := by decide +kernel
theorem dX10_shapeTried_49 : decode cX10_shapeTried 49 = .ok (.iload_n 2, 1) := by decide +kernel
theorem dX10_shapeTried_50 : decode cX10_shapeTried 50 = .ok (.ifCond .eq 5, 3) := by decide +kernel
theorem dX10_shapeTried_53 : decode cX10_shapeTried 53 = .ok (.iload_n 1, 1) := by decide +kernel
theorem dX10_shapeTried_54 : decode cX10_shapeTried 54 = .ok (.ireturn, 1) := by decide +kernel
theorem dX10_shapeTried_55 : decode cX10_shapeTried 55 = .ok (.iinc 1 1, 3) := by decide +kernel
theorem dX10_shapeTried_58 : decode cX10_shapeTried 58 = .ok (.goto (-56), 3) := by decide +kernel
theorem dX10_shapeTried_61 : decode cX10_shapeTried 61 = .ok (.bipush (-9), 2) := by decide +kernel
theorem dX10_shapeTried_63 : decode cX10_shapeTried 63 = .ok (.ireturn, 1) := by decide +kernel
theorem dX10_triesNone_0 : decode cX10_triesNone 0 = .ok (.iconst 0, 1) := by decide +kernel
theorem dX10_triesNone_1 : decode cX10_triesNone 1 = .ok (.istore_n 1, 1) := by decide +kernel
theorem dX10_triesNone_2 : decode cX10_triesNone 2 = .ok (.iload_n 1, 1) := by decide +kernel
theorem dX10_triesNone_3 : decode cX10_triesNone 3 = .ok (.bipush 8, 2) := by decide +kernel
theorem dX10_triesNone_5 : decode cX10_triesNone 5 = .ok (.if_icmp .gt 16, 3) := by decide +kernel
theorem dX10_triesNone_8 : decode cX10_triesNone 8 = .ok (.aload_n 0, 1) := by decide +kernel
theorem dX10_triesNone_9 : decode cX10_triesNone 9 = .ok (.getfield 49, 3) := by decide +kernel
theorem dX10_triesNone_12 : decode cX10_triesNone 12 = .ok (.iload_n 1, 1) := by decide +kernel
theorem dX10_triesNone_13 : decode cX10_triesNone 13 = .ok (.iconst 0, 1) := by decide +kernel
theorem dX10_triesNone_14 : decode cX10_triesNone 14 = .ok (.iastore, 1) := by decide +kernel
theorem dX10_triesNone_15 : decode cX10_triesNone 15 = .ok (.iinc 1 1, 3) := by decide +kernel
theorem dX10_triesNone_18 : decode cX10_triesNone 18 = .ok (.goto (-16), 3) := by decide +kernel
theorem dX10_triesNone_21 : decode cX10_triesNone 21 = .ok (.return_, 1) := by decide +kernel
theorem dX10_column_0 : decode cX10_column 0 = .ok (.iconst 0, 1) := by decide +kernel
theorem dX10_column_1 : decode cX10_column 1 = .ok (.istore_n 3, 1) := by decide +kernel
theorem dX10_column_2 : decode cX10_column 2 = .ok (.iconst 0, 1) := by decide +kernel
theorem dX10_column_3 : decode cX10_column 3 = .ok (.istore 4, 2) := by decide +kernel
theorem dX10_column_5 : decode cX10_column 5 = .ok (.iload 4, 2) := by decide +kernel
theorem dX10_column_7 : decode cX10_column 7 = .ok (.aload_n 0, 1) := by decide +kernel
theorem dX10_column_8 : decode cX10_column 8 = .ok (.getfield 16, 3) := by decide +kernel
theorem dX10_column_11 : decode cX10_column 11 = .ok (.iload_n 1, 1) := by decide +kernel
theorem dX10_column_12 : decode cX10_column 12 = .ok (.iaload, 1) := by decide +kernel
theorem dX10_column_13 : decode cX10_column 13 = .ok (.if_icmp .ge 28, 3) := by decide +kernel
theorem dX10_column_16 : decode cX10_column 16 = .ok (.iload_n 3, 1) := by decide +kernel
theorem dX10_column_17 : decode cX10_column 17 = .ok (.aload_n 0, 1) := by decide +kernel
theorem dX10_column_18 : decode cX10_column 18 = .ok (.iload_n 1, 1) := by decide +kernel
theorem dX10_column_19 : decode cX10_column 19 = .ok (.iload 4, 2) := by decide +kernel
theorem dX10_column_21 : decode cX10_column 21 = .ok (.invokevirtual 64, 3) := by decide +kernel
theorem dX10_column_24 : decode cX10_column 24 = .ok (.iload_n 2, 1) := by decide +kernel
theorem dX10_column_25 : decode cX10_column 25 = .ok (.if_icmp .le 7, 3) := by decide +kernel
theorem dX10_column_28 : decode cX10_column 28 = .ok (.iconst 1, 1) := by decide +kernel
theorem dX10_column_29 : decode cX10_column 29 = .ok (.goto 4, 3) := by decide +kernel
theorem dX10_column_32 : decode cX10_column 32 = .ok (.iconst 0, 1) := by decide +kernel
theorem dX10_column_33 : decode cX10_column 33 = .ok (.iadd, 1) := by decide +kernel
theorem dX10_column_34 : decode cX10_column 34 = .ok (.istore_n 3, 1) := by decide +kernel
theorem dX10_column_35 : decode cX10_column 35 = .ok (.iinc 4 1, 3) := by decide +kernel
theorem dX10_column_38 : decode cX10_column 38 = .ok (.goto (-33), 3) := by decide +kernel
theorem dX10_column_41 : decode cX10_column 41 = .ok (.iload_n 3, 1) := by decide +kernel
theorem dX10_column_42 : decode cX10_column 42 = .ok (.ireturn, 1) := by decide +kernel
theorem dX10_turnedOf_0 : decode cX10_turnedOf 0 = .ok (.aload_n 0, 1) := by decide +kernel
theorem dX10_turnedOf_1 : decode cX10_turnedOf 1 = .ok (.invokevirtual 83, 3) := by decide +kernel
theorem dX10_turnedOf_4 : decode cX10_turnedOf 4 = .ok (.iconst 0, 1) := by decide +kernel
theorem dX10_turnedOf_5 : decode cX10_turnedOf 5 = .ok (.istore_n 2, 1) := by decide +kernel
theorem dX10_turnedOf_6 : decode cX10_turnedOf 6 = .ok (.iload_n 2, 1) := by decide +kernel
theorem dX10_turnedOf_7 : decode cX10_turnedOf 7 = .ok (.bipush 8, 2) := by decide +kernel
theorem dX10_turnedOf_9 : decode cX10_turnedOf 9 = .ok (.if_icmp .ge 21, 3) := by decide +kernel
theorem dX10_turnedOf_12 : decode cX10_turnedOf 12 = .ok (.aload_n 0, 1) := by decide +kernel
theorem dX10_turnedOf_13 : decode cX10_turnedOf 13 = .ok (.getfield 49, 3) := by decide +kernel
theorem dX10_turnedOf_16 : decode cX10_turnedOf 16 = .ok (.iload_n 2, 1) := by decide +kernel
theorem dX10_turnedOf_17 : decode cX10_turnedOf 17 = .ok (.aload_n 0, 1) := by decide +kernel
theorem dX10_turnedOf_18 : decode cX10_turnedOf 18 = .ok (.iload_n 1, 1) := by decide +kernel
theorem dX10_turnedOf_19 : decode cX10_turnedOf 19 = .ok (.iload_n 2, 1) := by decide +kernel
theorem dX10_turnedOf_20 : decode cX10_turnedOf 20 = .ok (.invokevirtual 86, 3) := by decide +kernel
theorem dX10_turnedOf_23 : decode cX10_turnedOf 23 = .ok (.iastore, 1) := by decide +kernel
theorem dX10_turnedOf_24 : decode cX10_turnedOf 24 = .ok (.iinc 2 1, 3) := by decide +kernel
theorem dX10_turnedOf_27 : decode cX10_turnedOf 27 = .ok (.goto (-21), 3) := by decide +kernel
theorem dX10_turnedOf_30 : decode cX10_turnedOf 30 = .ok (.aload_n 0, 1) := by decide +kernel
theorem dX10_turnedOf_31 : decode cX10_turnedOf 31 = .ok (.invokevirtual 89, 3) := by decide +kernel
theorem dX10_turnedOf_34 : decode cX10_turnedOf 34 = .ok (.ireturn, 1) := by decide +kernel
theorem dX10_hookOf_0 : decode cX10_hookOf 0 = .ok (.aload_n 0, 1) := by decide +kernel
theorem dX10_hookOf_1 : decode cX10_hookOf 1 = .ok (.iload_n 1, 1) := by decide +kernel
theorem dX10_hookOf_2 : decode cX10_hookOf 2 = .ok (.iload_n 2, 1) := by decide +kernel
theorem dX10_hookOf_3 : decode cX10_hookOf 3 = .ok (.invokevirtual 64, 3) := by decide +kernel
theorem dX10_hookOf_6 : decode cX10_hookOf 6 = .ok (.iload_n 3, 1) := by decide +kernel
theorem dX10_hookOf_7 : decode cX10_hookOf 7 = .ok (.isub, 1) := by decide +kernel
theorem dX10_hookOf_8 : decode cX10_hookOf 8 = .ok (.aload_n 0, 1) := by decide +kernel
theorem dX10_hookOf_9 : decode cX10_hookOf 9 = .ok (.iload_n 1, 1) := by decide +kernel
theorem dX10_hookOf_10 : decode cX10_hookOf 10 = .ok (.iload_n 3, 1) := by decide +kernel
theorem dX10_hookOf_11 : decode cX10_hookOf 11 = .ok (.invokevirtual 86, 3) := by decide +kernel
theorem dX10_hookOf_14 : decode cX10_hookOf 14 = .ok (.iadd, 1) := by decide +kernel
theorem dX10_hookOf_15 : decode cX10_hookOf 15 = .ok (.iload_n 2, 1) := by decide +kernel
theorem dX10_hookOf_16 : decode cX10_hookOf 16 = .ok (.isub, 1) := by decide +kernel
theorem dX10_hookOf_17 : decode cX10_hookOf 17 = .ok (.iconst 1, 1) := by decide +kernel
theorem dX10_hookOf_18 : decode cX10_hookOf 18 = .ok (.isub, 1) := by decide +kernel
theorem dX10_hookOf_19 : decode cX10_hookOf 19 = .ok (.ireturn, 1) := by decide +kernel
theorem dX10_times_0 : decode cX10_times 0 = .ok (.iconst 1, 1) := by decide +kernel
theorem dX10_times_1 : decode cX10_times 1 = .ok (.istore_n 1, 1) := by decide +kernel
theorem dX10_times_2 : decode cX10_times 2 = .ok (.iconst 2, 1) := by decide +kernel
theorem dX10_times_3 : decode cX10_times 3 = .ok (.istore_n 2, 1) := by decide +kernel
theorem dX10_times_4 : decode cX10_times 4 = .ok (.iload_n 2, 1) := by decide +kernel
theorem dX10_times_5 : decode cX10_times 5 = .ok (.iload_n 0, 1) := by decide +kernel
theorem dX10_times_6 : decode cX10_times 6 = .ok (.if_icmp .gt 13, 3) := by decide +kernel
theorem dX10_times_9 : decode cX10_times 9 = .ok (.iload_n 1, 1) := by decide +kernel
theorem dX10_times_10 : decode cX10_times 10 = .ok (.iload_n 2, 1) := by decide +kernel
theorem dX10_times_11 : decode cX10_times 11 = .ok (.imul, 1) := by decide +kernel
theorem dX10_times_12 : decode cX10_times 12 = .ok (.istore_n 1, 1) := by decide +kernel
theorem dX10_times_13 : decode cX10_times 13 = .ok (.iinc 2 1, 3) := by decide +kernel
theorem dX10_times_16 : decode cX10_times 16 = .ok (.goto (-12), 3) := by decide +kernel
theorem dX10_times_19 : decode cX10_times 19 = .ok (.iload_n 1, 1) := by decide +kernel
theorem dX10_times_20 : decode cX10_times 20 = .ok (.ireturn, 1) := by decide +kernel
theorem dX10_dimension_0 : decode cX10_dimension 0 = .ok (.aload_n 0, 1) := by decide +kernel
theorem dX10_dimension_1 : decode cX10_dimension 1 = .ok (.getfield 13, 3) := by decide +kernel
theorem dX10_dimension_4 : decode cX10_dimension 4 = .ok (.iload_n 1, 1) := by decide +kernel
theorem dX10_dimension_5 : decode cX10_dimension 5 = .ok (.iaload, 1) := by decide +kernel
theorem dX10_dimension_6 : decode cX10_dimension 6 = .ok (.invokestatic 93, 3) := by decide +kernel
theorem dX10_dimension_9 : decode cX10_dimension 9 = .ok (.istore_n 2, 1) := by decide +kernel
theorem dX10_dimension_10 : decode cX10_dimension 10 = .ok (.iconst 1, 1) := by decide +kernel
theorem dX10_dimension_11 : decode cX10_dimension 11 = .ok (.istore_n 3, 1) := by decide +kernel
theorem dX10_dimension_12 : decode cX10_dimension 12 = .ok (.iconst 0, 1) := by decide +kernel
theorem dX10_dimension_13 : decode cX10_dimension 13 = .ok (.istore 4, 2) := by decide +kernel
theorem dX10_dimension_15 : decode cX10_dimension 15 = .ok (.iload 4, 2) := by decide +kernel
theorem dX10_dimension_17 : decode cX10_dimension 17 = .ok (.aload_n 0, 1) := by decide +kernel
theorem dX10_dimension_18 : decode cX10_dimension 18 = .ok (.getfield 16, 3) := by decide +kernel
theorem dX10_dimension_21 : decode cX10_dimension 21 = .ok (.iload_n 1, 1) := by decide +kernel
theorem dX10_dimension_22 : decode cX10_dimension 22 = .ok (.iaload, 1) := by decide +kernel
theorem dX10_dimension_23 : decode cX10_dimension 23 = .ok (.if_icmp .ge 42, 3) := by decide +kernel
theorem dX10_dimension_26 : decode cX10_dimension 26 = .ok (.iconst 0, 1) := by decide +kernel
theorem dX10_dimension_27 : decode cX10_dimension 27 = .ok (.istore 5, 2) := by decide +kernel
theorem dX10_dimension_29 : decode cX10_dimension 29 = .ok (.iload 5, 2) := by decide +kernel
theorem dX10_dimension_31 : decode cX10_dimension 31 = .ok (.aload_n 0, 1) := by decide +kernel
theorem dX10_dimension_32 : decode cX10_dimension 32 = .ok (.iload_n 1, 1) := by decide +kernel
theorem dX10_dimension_33 : decode cX10_dimension 33 = .ok (.iload 4, 2) := by decide +kernel
theorem dX10_dimension_35 : decode cX10_dimension 35 = .ok (.invokevirtual 64, 3) := by decide +kernel
theorem dX10_dimension_38 : decode cX10_dimension 38 = .ok (.if_icmp .ge 21, 3) := by decide +kernel
theorem dX10_dimension_41 : decode cX10_dimension 41 = .ok (.iload_n 3, 1) := by decide +kernel
theorem dX10_dimension_42 : decode cX10_dimension 42 = .ok (.aload_n 0, 1) := by decide +kernel
theorem dX10_dimension_43 : decode cX10_dimension 43 = .ok (.iload_n 1, 1) := by decide +kernel
theorem dX10_dimension_44 : decode cX10_dimension 44 = .ok (.iload 4, 2) := by decide +kernel
theorem dX10_dimension_46 : decode cX10_dimension 46 = .ok (.iload 5, 2) := by decide +kernel
theorem dX10_dimension_48 : decode cX10_dimension 48 = .ok (.invokevirtual 96, 3) := by decide +kernel
theorem dX10_dimension_51 : decode cX10_dimension 51 = .ok (.imul, 1) := by decide +kernel
theorem dX10_dimension_52 : decode cX10_dimension 52 = .ok (.istore_n 3, 1) := by decide +kernel
theorem dX10_dimension_53 : decode cX10_dimension 53 = .ok (.iinc 5 1, 3) := by decide +kernel
theorem dX10_dimension_56 : decode cX10_dimension 56 = .ok (.goto (-27), 3) := by decide +kernel
theorem dX10_dimension_59 : decode cX10_dimension 59 = .ok (.iinc 4 1, 3) := by decide +kernel
theorem dX10_dimension_62 : decode cX10_dimension 62 = .ok (.goto (-47), 3) := by decide +kernel
theorem dX10_dimension_65 : decode cX10_dimension 65 = .ok (.iload_n 2, 1) := by decide +kernel
theorem dX10_dimension_66 : decode cX10_dimension 66 = .ok (.iload_n 3, 1) := by decide +kernel
theorem dX10_dimension_67 : decode cX10_dimension 67 = .ok (.idiv, 1) := by decide +kernel
theorem dX10_dimension_68 : decode cX10_dimension 68 = .ok (.ireturn, 1) := by decide +kernel
theorem dX10_ordersOf_0 : decode cX10_ordersOf 0 = .ok (.iconst 1, 1) := by decide +kernel
theorem dX10_ordersOf_1 : decode cX10_ordersOf 1 = .ok (.istore_n 2, 1) := by decide +kernel
theorem dX10_ordersOf_2 : decode cX10_ordersOf 2 = .ok (.iconst 0, 1) := by decide +kernel
theorem dX10_ordersOf_3 : decode cX10_ordersOf 3 = .ok (.istore_n 3, 1) := by decide +kernel
theorem dX10_ordersOf_4 : decode cX10_ordersOf 4 = .ok (.iconst 0, 1) := by decide +kernel
theorem dX10_ordersOf_5 : decode cX10_ordersOf 5 = .ok (.istore 4, 2) := by decide +kernel
theorem dX10_ordersOf_7 : decode cX10_ordersOf 7 = .ok (.iload 4, 2) := by decide +kernel
theorem dX10_ordersOf_9 : decode cX10_ordersOf 9 = .ok (.aload_n 0, 1) := by decide +kernel
theorem dX10_ordersOf_10 : decode cX10_ordersOf 10 = .ok (.getfield 16, 3) := by decide +kernel
theorem dX10_ordersOf_13 : decode cX10_ordersOf 13 = .ok (.iload_n 1, 1) := by decide +kernel
theorem dX10_ordersOf_14 : decode cX10_ordersOf 14 = .ok (.iaload, 1) := by decide +kernel
theorem dX10_ordersOf_15 : decode cX10_ordersOf 15 = .ok (.if_icmp .ge 53, 3) := by decide +kernel
theorem dX10_ordersOf_18 : decode cX10_ordersOf 18 = .ok (.iload 4, 2) := by decide +kernel
theorem dX10_ordersOf_20 : decode cX10_ordersOf 20 = .ok (.ifCond .le 28, 3) := by decide +kernel
theorem dX10_ordersOf_23 : decode cX10_ordersOf 23 = .ok (.aload_n 0, 1) := by decide +kernel
theorem dX10_ordersOf_24 : decode cX10_ordersOf 24 = .ok (.iload_n 1, 1) := by decide +kernel
theorem dX10_ordersOf_25 : decode cX10_ordersOf 25 = .ok (.iload 4, 2) := by decide +kernel
theorem dX10_ordersOf_27 : decode cX10_ordersOf 27 = .ok (.invokevirtual 64, 3) := by decide +kernel
theorem dX10_ordersOf_30 : decode cX10_ordersOf 30 = .ok (.aload_n 0, 1) := by decide +kernel
theorem dX10_ordersOf_31 : decode cX10_ordersOf 31 = .ok (.iload_n 1, 1) := by decide +kernel
theorem dX10_ordersOf_32 : decode cX10_ordersOf 32 = .ok (.iload 4, 2) := by decide +kernel
theorem dX10_ordersOf_34 : decode cX10_ordersOf 34 = .ok (.iconst 1, 1) := by decide +kernel
theorem dX10_ordersOf_35 : decode cX10_ordersOf 35 = .ok (.isub, 1) := by decide +kernel
theorem dX10_ordersOf_36 : decode cX10_ordersOf 36 = .ok (.invokevirtual 64, 3) := by decide +kernel
theorem dX10_ordersOf_39 : decode cX10_ordersOf 39 = .ok (.if_icmp .ne 9, 3) := by decide +kernel
theorem dX10_ordersOf_42 : decode cX10_ordersOf 42 = .ok (.iload_n 3, 1) := by decide +kernel
theorem dX10_ordersOf_43 : decode cX10_ordersOf 43 = .ok (.iconst 1, 1) := by decide +kernel
theorem dX10_ordersOf_44 : decode cX10_ordersOf 44 = .ok (.iadd, 1) := by decide +kernel
theorem dX10_ordersOf_45 : decode cX10_ordersOf 45 = .ok (.goto 4, 3) := by decide +kernel
theorem dX10_ordersOf_48 : decode cX10_ordersOf 48 = .ok (.iconst 1, 1) := by decide +kernel
theorem dX10_ordersOf_49 : decode cX10_ordersOf 49 = .ok (.istore_n 3, 1) := by decide +kernel
theorem dX10_ordersOf_50 : decode cX10_ordersOf 50 = .ok (.iload_n 2, 1) := by decide +kernel
theorem dX10_ordersOf_51 : decode cX10_ordersOf 51 = .ok (.aload_n 0, 1) := by decide +kernel
theorem dX10_ordersOf_52 : decode cX10_ordersOf 52 = .ok (.iload_n 1, 1) := by decide +kernel
theorem dX10_ordersOf_53 : decode cX10_ordersOf 53 = .ok (.iload 4, 2) := by decide +kernel
theorem dX10_ordersOf_55 : decode cX10_ordersOf 55 = .ok (.invokevirtual 64, 3) := by decide +kernel
theorem dX10_ordersOf_58 : decode cX10_ordersOf 58 = .ok (.iload_n 3, 1) := by decide +kernel
theorem dX10_ordersOf_59 : decode cX10_ordersOf 59 = .ok (.imul, 1) := by decide +kernel
theorem dX10_ordersOf_60 : decode cX10_ordersOf 60 = .ok (.imul, 1) := by decide +kernel
theorem dX10_ordersOf_61 : decode cX10_ordersOf 61 = .ok (.istore_n 2, 1) := by decide +kernel
theorem dX10_ordersOf_62 : decode cX10_ordersOf 62 = .ok (.iinc 4 1, 3) := by decide +kernel
theorem dX10_ordersOf_65 : decode cX10_ordersOf 65 = .ok (.goto (-58), 3) := by decide +kernel
theorem dX10_ordersOf_68 : decode cX10_ordersOf 68 = .ok (.aload_n 0, 1) := by decide +kernel
theorem dX10_ordersOf_69 : decode cX10_ordersOf 69 = .ok (.getfield 13, 3) := by decide +kernel
theorem dX10_ordersOf_72 : decode cX10_ordersOf 72 = .ok (.iload_n 1, 1) := by decide +kernel
theorem dX10_ordersOf_73 : decode cX10_ordersOf 73 = .ok (.iaload, 1) := by decide +kernel
theorem dX10_ordersOf_74 : decode cX10_ordersOf 74 = .ok (.invokestatic 93, 3) := by decide +kernel
theorem dX10_ordersOf_77 : decode cX10_ordersOf 77 = .ok (.iload_n 2, 1) := by decide +kernel
theorem dX10_ordersOf_78 : decode cX10_ordersOf 78 = .ok (.idiv, 1) := by decide +kernel
theorem dX10_ordersOf_79 : decode cX10_ordersOf 79 = .ok (.ireturn, 1) := by decide +kernel
theorem dX10_rimOf_0 : decode cX10_rimOf 0 = .ok (.iconst 0, 1) := by decide +kernel
theorem dX10_rimOf_1 : decode cX10_rimOf 1 = .ok (.istore 4, 2) := by decide +kernel
theorem dX10_rimOf_3 : decode cX10_rimOf 3 = .ok (.iconst 0, 1) := by decide +kernel
theorem dX10_rimOf_4 : decode cX10_rimOf 4 = .ok (.istore 5, 2) := by decide +kernel
theorem dX10_rimOf_6 : decode cX10_rimOf 6 = .ok (.iload 5, 2) := by decide +kernel
theorem dX10_rimOf_8 : decode cX10_rimOf 8 = .ok (.aload_n 0, 1) := by decide +kernel
theorem dX10_rimOf_9 : decode cX10_rimOf 9 = .ok (.getfield 16, 3) := by decide +kernel
theorem dX10_rimOf_12 : decode cX10_rimOf 12 = .ok (.iload_n 1, 1) := by decide +kernel
theorem dX10_rimOf_13 : decode cX10_rimOf 13 = .ok (.iaload, 1) := by decide +kernel
theorem dX10_rimOf_14 : decode cX10_rimOf 14 = .ok (.if_icmp .ge 67, 3) := by decide +kernel
theorem dX10_rimOf_17 : decode cX10_rimOf 17 = .ok (.iconst 0, 1) := by decide +kernel
theorem dX10_rimOf_18 : decode cX10_rimOf 18 = .ok (.istore 6, 2) := by decide +kernel
theorem dX10_rimOf_20 : decode cX10_rimOf 20 = .ok (.iload 6, 2) := by decide +kernel
theorem dX10_rimOf_22 : decode cX10_rimOf 22 = .ok (.aload_n 0, 1) := by decide +kernel
theorem dX10_rimOf_23 : decode cX10_rimOf 23 = .ok (.iload_n 1, 1) := by decide +kernel
theorem dX10_rimOf_24 : decode cX10_rimOf 24 = .ok (.iload 5, 2) := by decide +kernel
theorem dX10_rimOf_26 : decode cX10_rimOf 26 = .ok (.invokevirtual 64, 3) := by decide +kernel
theorem dX10_rimOf_29 : decode cX10_rimOf 29 = .ok (.if_icmp .ge 46, 3) := by decide +kernel
theorem dX10_rimOf_32 : decode cX10_rimOf 32 = .ok (.aload_n 0, 1) := by decide +kernel
theorem dX10_rimOf_33 : decode cX10_rimOf 33 = .ok (.iload_n 1, 1) := by decide +kernel
theorem dX10_rimOf_34 : decode cX10_rimOf 34 = .ok (.iload 5, 2) := by decide +kernel
theorem dX10_rimOf_36 : decode cX10_rimOf 36 = .ok (.iload 6, 2) := by decide +kernel
theorem dX10_rimOf_38 : decode cX10_rimOf 38 = .ok (.invokevirtual 96, 3) := by decide +kernel
theorem dX10_rimOf_41 : decode cX10_rimOf 41 = .ok (.iload_n 2, 1) := by decide +kernel
theorem dX10_rimOf_42 : decode cX10_rimOf 42 = .ok (.if_icmp .eq 6, 3) := by decide +kernel
theorem dX10_rimOf_45 : decode cX10_rimOf 45 = .ok (.goto 24, 3) := by decide +kernel
theorem dX10_rimOf_48 : decode cX10_rimOf 48 = .ok (.iload 4, 2) := by decide +kernel
theorem dX10_rimOf_50 : decode cX10_rimOf 50 = .ok (.iload_n 3, 1) := by decide +kernel
theorem dX10_rimOf_51 : decode cX10_rimOf 51 = .ok (.if_icmp .ne 15, 3) := by decide +kernel
theorem dX10_rimOf_54 : decode cX10_rimOf 54 = .ok (.aload_n 0, 1) := by decide +kernel
theorem dX10_rimOf_55 : decode cX10_rimOf 55 = .ok (.iload_n 1, 1) := by decide +kernel
theorem dX10_rimOf_56 : decode cX10_rimOf 56 = .ok (.iload 5, 2) := by decide +kernel
theorem dX10_rimOf_58 : decode cX10_rimOf 58 = .ok (.iload 6, 2) := by decide +kernel
theorem dX10_rimOf_60 : decode cX10_rimOf 60 = .ok (.invokevirtual 100, 3) := by decide +kernel
theorem dX10_rimOf_63 : decode cX10_rimOf 63 = .ok (.iload 4, 2) := by decide +kernel
theorem dX10_rimOf_65 : decode cX10_rimOf 65 = .ok (.ireturn, 1) := by decide +kernel
theorem dX10_rimOf_66 : decode cX10_rimOf 66 = .ok (.iinc 4 1, 3) := by decide +kernel
theorem dX10_rimOf_69 : decode cX10_rimOf 69 = .ok (.iinc 6 1, 3) := by decide +kernel
theorem dX10_rimOf_72 : decode cX10_rimOf 72 = .ok (.goto (-52), 3) := by decide +kernel
theorem dX10_rimOf_75 : decode cX10_rimOf 75 = .ok (.iinc 5 1, 3) := by decide +kernel
theorem dX10_rimOf_78 : decode cX10_rimOf 78 = .ok (.goto (-72), 3) := by decide +kernel
theorem dX10_rimOf_81 : decode cX10_rimOf 81 = .ok (.iload 4, 2) := by decide +kernel
theorem dX10_rimOf_83 : decode cX10_rimOf 83 = .ok (.ireturn, 1) := by decide +kernel
theorem dX10_takesOff_0 : decode cX10_takesOff 0 = .ok (.aload_n 0, 1) := by decide +kernel
theorem dX10_takesOff_1 : decode cX10_takesOff 1 = .ok (.iload_n 1, 1) := by decide +kernel
theorem dX10_takesOff_2 : decode cX10_takesOff 2 = .ok (.iload_n 3, 1) := by decide +kernel
theorem dX10_takesOff_3 : decode cX10_takesOff 3 = .ok (.invokevirtual 86, 3) := by decide +kernel
theorem dX10_takesOff_6 : decode cX10_takesOff 6 = .ok (.iconst 1, 1) := by decide +kernel
theorem dX10_takesOff_7 : decode cX10_takesOff 7 = .ok (.isub, 1) := by decide +kernel
theorem dX10_takesOff_8 : decode cX10_takesOff 8 = .ok (.istore 4, 2) := by decide +kernel
theorem dX10_takesOff_10 : decode cX10_takesOff 10 = .ok (.aload_n 0, 1) := by decide +kernel
theorem dX10_takesOff_11 : decode cX10_takesOff 11 = .ok (.invokevirtual 83, 3) := by decide +kernel
theorem dX10_takesOff_14 : decode cX10_takesOff 14 = .ok (.iconst 0, 1) := by decide +kernel
theorem dX10_takesOff_15 : decode cX10_takesOff 15 = .ok (.istore 5, 2) := by decide +kernel
theorem dX10_takesOff_17 : decode cX10_takesOff 17 = .ok (.iload 5, 2) := by decide +kernel
theorem dX10_takesOff_19 : decode cX10_takesOff 19 = .ok (.aload_n 0, 1) := by decide +kernel
theorem dX10_takesOff_20 : decode cX10_takesOff 20 = .ok (.getfield 16, 3) := by decide +kernel
theorem dX10_takesOff_23 : decode cX10_takesOff 23 = .ok (.iload_n 1, 1) := by decide +kernel
theorem dX10_takesOff_24 : decode cX10_takesOff 24 = .ok (.iaload, 1) := by decide +kernel
theorem dX10_takesOff_25 : decode cX10_takesOff 25 = .ok (.if_icmp .ge 61, 3) := by decide +kernel
theorem dX10_takesOff_28 : decode cX10_takesOff 28 = .ok (.aload_n 0, 1) := by decide +kernel
theorem dX10_takesOff_29 : decode cX10_takesOff 29 = .ok (.getfield 49, 3) := by decide +kernel
theorem dX10_takesOff_32 : decode cX10_takesOff 32 = .ok (.iload 5, 2) := by decide +kernel
theorem dX10_takesOff_34 : decode cX10_takesOff 34 = .ok (.iload 5, 2) := by decide +kernel
theorem dX10_takesOff_36 : decode cX10_takesOff 36 = .ok (.iload_n 2, 1) := by decide +kernel
theorem dX10_takesOff_37 : decode cX10_takesOff 37 = .ok (.if_icmp .lt 10, 3) := by decide +kernel
theorem dX10_takesOff_40 : decode cX10_takesOff 40 = .ok (.iload 5, 2) := by decide +kernel
theorem dX10_takesOff_42 : decode cX10_takesOff 42 = .ok (.iload 4, 2) := by decide +kernel
theorem dX10_takesOff_44 : decode cX10_takesOff 44 = .ok (.if_icmp .le 13, 3) := by decide +kernel
theorem dX10_takesOff_47 : decode cX10_takesOff 47 = .ok (.aload_n 0, 1) := by decide +kernel
theorem dX10_takesOff_48 : decode cX10_takesOff 48 = .ok (.iload_n 1, 1) := by decide +kernel
theorem dX10_takesOff_49 : decode cX10_takesOff 49 = .ok (.iload 5, 2) := by decide +kernel
theorem dX10_takesOff_51 : decode cX10_takesOff 51 = .ok (.invokevirtual 64, 3) := by decide +kernel
theorem dX10_takesOff_54 : decode cX10_takesOff 54 = .ok (.goto 25, 3) := by decide +kernel
theorem dX10_takesOff_57 : decode cX10_takesOff 57 = .ok (.iload 5, 2) := by decide +kernel
theorem dX10_takesOff_59 : decode cX10_takesOff 59 = .ok (.iload 4, 2) := by decide +kernel
theorem dX10_takesOff_61 : decode cX10_takesOff 61 = .ok (.if_icmp .ne 7, 3) := by decide +kernel
theorem dX10_takesOff_64 : decode cX10_takesOff 64 = .ok (.iload_n 3, 1) := by decide +kernel
theorem dX10_takesOff_65 : decode cX10_takesOff 65 = .ok (.goto 14, 3) := by decide +kernel
theorem dX10_takesOff_68 : decode cX10_takesOff 68 = .ok (.aload_n 0, 1) := by decide +kernel
theorem dX10_takesOff_69 : decode cX10_takesOff 69 = .ok (.iload_n 1, 1) := by decide +kernel
theorem dX10_takesOff_70 : decode cX10_takesOff 70 = .ok (.iload 5, 2) := by decide +kernel
theorem dX10_takesOff_72 : decode cX10_takesOff 72 = .ok (.iconst 1, 1) := by decide +kernel
theorem dX10_takesOff_73 : decode cX10_takesOff 73 = .ok (.iadd, 1) := by decide +kernel
theorem dX10_takesOff_74 : decode cX10_takesOff 74 = .ok (.invokevirtual 64, 3) := by decide +kernel
theorem dX10_takesOff_77 : decode cX10_takesOff 77 = .ok (.iconst 1, 1) := by decide +kernel
theorem dX10_takesOff_78 : decode cX10_takesOff 78 = .ok (.isub, 1) := by decide +kernel
theorem dX10_takesOff_79 : decode cX10_takesOff 79 = .ok (.iastore, 1) := by decide +kernel
theorem dX10_takesOff_80 : decode cX10_takesOff 80 = .ok (.iinc 5 1, 3) := by decide +kernel
theorem dX10_takesOff_83 : decode cX10_takesOff 83 = .ok (.goto (-66), 3) := by decide +kernel
theorem dX10_takesOff_86 : decode cX10_takesOff 86 = .ok (.aload_n 0, 1) := by decide +kernel
theorem dX10_takesOff_87 : decode cX10_takesOff 87 = .ok (.aload_n 0, 1) := by decide +kernel
theorem dX10_takesOff_88 : decode cX10_takesOff 88 = .ok (.invokevirtual 89, 3) := by decide +kernel
theorem dX10_takesOff_91 : decode cX10_takesOff 91 = .ok (.putfield 104, 3) := by decide +kernel
theorem dX10_takesOff_94 : decode cX10_takesOff 94 = .ok (.aload_n 0, 1) := by decide +kernel
theorem dX10_takesOff_95 : decode cX10_takesOff 95 = .ok (.iload 4, 2) := by decide +kernel
theorem dX10_takesOff_97 : decode cX10_takesOff 97 = .ok (.iload_n 2, 1) := by decide +kernel
theorem dX10_takesOff_98 : decode cX10_takesOff 98 = .ok (.isub, 1) := by decide +kernel
theorem dX10_takesOff_99 : decode cX10_takesOff 99 = .ok (.putfield 108, 3) := by decide +kernel
theorem dX10_takesOff_102 : decode cX10_takesOff 102 = .ok (.return_, 1) := by decide +kernel
theorem dX10_isRim_0 : decode cX10_isRim 0 = .ok (.iload_n 3, 1) := by decide +kernel
theorem dX10_isRim_1 : decode cX10_isRim 1 = .ok (.ifCond .lt 18, 3) := by decide +kernel
theorem dX10_isRim_4 : decode cX10_isRim 4 = .ok (.iload_n 3, 1) := by decide +kernel
theorem dX10_isRim_5 : decode cX10_isRim 5 = .ok (.aload_n 0, 1) := by decide +kernel
theorem dX10_isRim_6 : decode cX10_isRim 6 = .ok (.iload_n 1, 1) := by decide +kernel
theorem dX10_isRim_7 : decode cX10_isRim 7 = .ok (.iload_n 2, 1) := by decide +kernel
theorem dX10_isRim_8 : decode cX10_isRim 8 = .ok (.iconst (-1), 1) := by decide +kernel
theorem dX10_isRim_9 : decode cX10_isRim 9 = .ok (.invokevirtual 111, 3) := by decide +kernel
theorem dX10_isRim_12 : decode cX10_isRim 12 = .ok (.if_icmp .ge 7, 3) := by decide +kernel
theorem dX10_isRim_15 : decode cX10_isRim 15 = .ok (.iconst 1, 1) := by decide +kernel
theorem dX10_isRim_16 : decode cX10_isRim 16 = .ok (.goto 4, 3) := by decide +kernel
theorem dX10_isRim_19 : decode cX10_isRim 19 = .ok (.iconst 0, 1) := by decide +kernel
theorem dX10_isRim_20 : decode cX10_isRim 20 = .ok (.ireturn, 1) := by decide +kernel
theorem dX10_characterOf_0 : decode cX10_characterOf 0 = .ok (.aload_n 0, 1) := by decide +kernel
theorem dX10_characterOf_1 : decode cX10_characterOf 1 = .ok (.getfield 16, 3) := by decide +kernel
theorem dX10_characterOf_4 : decode cX10_characterOf 4 = .ok (.iload_n 2, 1) := by decide +kernel
theorem dX10_characterOf_5 : decode cX10_characterOf 5 = .ok (.iaload, 1) := by decide +kernel
theorem dX10_characterOf_6 : decode cX10_characterOf 6 = .ok (.ifCond .ne 5, 3) := by decide +kernel
theorem dX10_characterOf_9 : decode cX10_characterOf 9 = .ok (.iconst 1, 1) := by decide +kernel
theorem dX10_characterOf_10 : decode cX10_characterOf 10 = .ok (.ireturn, 1) := by decide +kernel
theorem dX10_characterOf_11 : decode cX10_characterOf 11 = .ok (.aload_n 0, 1) := by decide +kernel
theorem dX10_characterOf_12 : decode cX10_characterOf 12 = .ok (.iload_n 2, 1) := by decide +kernel
theorem dX10_characterOf_13 : decode cX10_characterOf 13 = .ok (.iconst 0, 1) := by decide +kernel
theorem dX10_characterOf_14 : decode cX10_characterOf 14 = .ok (.invokevirtual 64, 3) := by decide +kernel
theorem dX10_characterOf_17 : decode cX10_characterOf 17 = .ok (.istore_n 3, 1) := by decide +kernel
theorem dX10_characterOf_18 : decode cX10_characterOf 18 = .ok (.aload_n 0, 1) := by decide +kernel
theorem dX10_characterOf_19 : decode cX10_characterOf 19 = .ok (.invokevirtual 83, 3) := by decide +kernel
theorem dX10_characterOf_22 : decode cX10_characterOf 22 = .ok (.iconst 1, 1) := by decide +kernel
theorem dX10_characterOf_23 : decode cX10_characterOf 23 = .ok (.istore 4, 2) := by decide +kernel
theorem dX10_characterOf_25 : decode cX10_characterOf 25 = .ok (.iload 4, 2) := by decide +kernel
theorem dX10_characterOf_27 : decode cX10_characterOf 27 = .ok (.aload_n 0, 1) := by decide +kernel
theorem dX10_characterOf_28 : decode cX10_characterOf 28 = .ok (.getfield 16, 3) := by decide +kernel
theorem dX10_characterOf_31 : decode cX10_characterOf 31 = .ok (.iload_n 2, 1) := by decide +kernel
theorem dX10_characterOf_32 : decode cX10_characterOf 32 = .ok (.iaload, 1) := by decide +kernel
theorem dX10_characterOf_33 : decode cX10_characterOf 33 = .ok (.if_icmp .ge 25, 3) := by decide +kernel
theorem dX10_characterOf_36 : decode cX10_characterOf 36 = .ok (.aload_n 0, 1) := by decide +kernel
theorem dX10_characterOf_37 : decode cX10_characterOf 37 = .ok (.getfield 49, 3) := by decide +kernel
theorem dX10_characterOf_40 : decode cX10_characterOf 40 = .ok (.iload 4, 2) := by decide +kernel
theorem dX10_characterOf_42 : decode cX10_characterOf 42 = .ok (.iconst 1, 1) := by decide +kernel
theorem dX10_characterOf_43 : decode cX10_characterOf 43 = .ok (.isub, 1) := by decide +kernel
theorem dX10_characterOf_44 : decode cX10_characterOf 44 = .ok (.aload_n 0, 1) := by decide +kernel
theorem dX10_characterOf_45 : decode cX10_characterOf 45 = .ok (.iload_n 2, 1) := by decide +kernel
theorem dX10_characterOf_46 : decode cX10_characterOf 46 = .ok (.iload 4, 2) := by decide +kernel
theorem dX10_characterOf_48 : decode cX10_characterOf 48 = .ok (.invokevirtual 64, 3) := by decide +kernel
theorem dX10_characterOf_51 : decode cX10_characterOf 51 = .ok (.iastore, 1) := by decide +kernel
theorem dX10_characterOf_52 : decode cX10_characterOf 52 = .ok (.iinc 4 1, 3) := by decide +kernel
theorem dX10_characterOf_55 : decode cX10_characterOf 55 = .ok (.goto (-30), 3) := by decide +kernel
theorem dX10_characterOf_58 : decode cX10_characterOf 58 = .ok (.aload_n 0, 1) := by decide +kernel
theorem dX10_characterOf_59 : decode cX10_characterOf 59 = .ok (.invokevirtual 89, 3) := by decide +kernel
theorem dX10_characterOf_62 : decode cX10_characterOf 62 = .ok (.istore 4, 2) := by decide +kernel
theorem dX10_characterOf_64 : decode cX10_characterOf 64 = .ok (.iconst 0, 1) := by decide +kernel
theorem dX10_characterOf_65 : decode cX10_characterOf 65 = .ok (.istore 5, 2) := by decide +kernel
theorem dX10_characterOf_67 : decode cX10_characterOf 67 = .ok (.aload_n 0, 1) := by decide +kernel
theorem dX10_characterOf_68 : decode cX10_characterOf 68 = .ok (.iload_n 1, 1) := by decide +kernel
theorem dX10_characterOf_69 : decode cX10_characterOf 69 = .ok (.iload_n 3, 1) := by decide +kernel
theorem dX10_characterOf_70 : decode cX10_characterOf 70 = .ok (.iconst (-1), 1) := by decide +kernel
theorem dX10_characterOf_71 : decode cX10_characterOf 71 = .ok (.invokevirtual 111, 3) := by decide +kernel
theorem dX10_characterOf_74 : decode cX10_characterOf 74 = .ok (.istore 6, 2) := by decide +kernel
theorem dX10_characterOf_76 : decode cX10_characterOf 76 = .ok (.iconst 0, 1) := by decide +kernel
theorem dX10_characterOf_77 : decode cX10_characterOf 77 = .ok (.istore 7, 2) := by decide +kernel
theorem dX10_characterOf_79 : decode cX10_characterOf 79 = .ok (.iload 7, 2) := by decide +kernel
theorem dX10_characterOf_81 : decode cX10_characterOf 81 = .ok (.iload 6, 2) := by decide +kernel
theorem dX10_characterOf_83 : decode cX10_characterOf 83 = .ok (.if_icmp .ge 55, 3) := by decide +kernel
theorem dX10_characterOf_86 : decode cX10_characterOf 86 = .ok (.aload_n 0, 1) := by decide +kernel
theorem dX10_characterOf_87 : decode cX10_characterOf 87 = .ok (.iload_n 1, 1) := by decide +kernel
theorem dX10_characterOf_88 : decode cX10_characterOf 88 = .ok (.iload_n 3, 1) := by decide +kernel
theorem dX10_characterOf_89 : decode cX10_characterOf 89 = .ok (.iload 7, 2) := by decide +kernel
theorem dX10_characterOf_91 : decode cX10_characterOf 91 = .ok (.invokevirtual 111, 3) := by decide +kernel
theorem dX10_characterOf_94 : decode cX10_characterOf 94 = .ok (.istore 8, 2) := by decide +kernel
theorem dX10_characterOf_96 : decode cX10_characterOf 96 = .ok (.iload 5, 2) := by decide +kernel
theorem dX10_characterOf_98 : decode cX10_characterOf 98 = .ok (.aload_n 0, 1) := by decide +kernel
theorem dX10_characterOf_99 : decode cX10_characterOf 99 = .ok (.getfield 108, 3) := by decide +kernel
theorem dX10_characterOf_102 : decode cX10_characterOf 102 = .ok (.iconst 2, 1) := by decide +kernel
theorem dX10_characterOf_103 : decode cX10_characterOf 103 = .ok (.irem, 1) := by decide +kernel
theorem dX10_characterOf_104 : decode cX10_characterOf 104 = .ok (.iconst 1, 1) := by decide +kernel
theorem dX10_characterOf_105 : decode cX10_characterOf 105 = .ok (.if_icmp .ne 7, 3) := by decide +kernel
theorem dX10_characterOf_108 : decode cX10_characterOf 108 = .ok (.iconst (-1), 1) := by decide +kernel
theorem dX10_characterOf_109 : decode cX10_characterOf 109 = .ok (.goto 4, 3) := by decide +kernel
theorem dX10_characterOf_112 : decode cX10_characterOf 112 = .ok (.iconst 1, 1) := by decide +kernel
theorem dX10_characterOf_113 : decode cX10_characterOf 113 = .ok (.aload_n 0, 1) := by decide +kernel
theorem dX10_characterOf_114 : decode cX10_characterOf 114 = .ok (.getfield 22, 3) := by decide +kernel
theorem dX10_characterOf_117 : decode cX10_characterOf 117 = .ok (.bipush 67, 2) := by decide +kernel
theorem dX10_characterOf_119 : decode cX10_characterOf 119 = .ok (.aload_n 0, 1) := by decide +kernel
theorem dX10_characterOf_120 : decode cX10_characterOf 120 = .ok (.getfield 104, 3) := by decide +kernel
theorem dX10_characterOf_123 : decode cX10_characterOf 123 = .ok (.imul, 1) := by decide +kernel
theorem dX10_characterOf_124 : decode cX10_characterOf 124 = .ok (.iload 4, 2) := by decide +kernel
theorem dX10_characterOf_126 : decode cX10_characterOf 126 = .ok (.iadd, 1) := by decide +kernel
theorem dX10_characterOf_127 : decode cX10_characterOf 127 = .ok (.iaload, 1) := by decide +kernel
theorem dX10_characterOf_128 : decode cX10_characterOf 128 = .ok (.imul, 1) := by decide +kernel
theorem dX10_characterOf_129 : decode cX10_characterOf 129 = .ok (.iadd, 1) := by decide +kernel
theorem dX10_characterOf_130 : decode cX10_characterOf 130 = .ok (.istore 5, 2) := by decide +kernel
theorem dX10_characterOf_132 : decode cX10_characterOf 132 = .ok (.iinc 7 1, 3) := by decide +kernel
theorem dX10_characterOf_135 : decode cX10_characterOf 135 = .ok (.goto (-56), 3) := by decide +kernel
theorem dX10_characterOf_138 : decode cX10_characterOf 138 = .ok (.iload 5, 2) := by decide +kernel
theorem dX10_characterOf_140 : decode cX10_characterOf 140 = .ok (.ireturn, 1) := by decide +kernel
theorem dX10_isKind_0 : decode cX10_isKind 0 = .ok (.aload_n 0, 1) := by decide +kernel
theorem dX10_isKind_1 : decode cX10_isKind 1 = .ok (.getfield 16, 3) := by decide +kernel
theorem dX10_isKind_4 : decode cX10_isKind 4 = .ok (.iload_n 1, 1) := by decide +kernel
theorem dX10_isKind_5 : decode cX10_isKind 5 = .ok (.iaload, 1) := by decide +kernel
theorem dX10_isKind_6 : decode cX10_isKind 6 = .ok (.istore_n 3, 1) := by decide +kernel
theorem dX10_isKind_7 : decode cX10_isKind 7 = .ok (.iload_n 2, 1) := by decide +kernel
theorem dX10_isKind_8 : decode cX10_isKind 8 = .ok (.tableswitch 150 0 5 #[40, 51, 71, 82, 108, 123], 40) := by decide +kernel
theorem dX10_isKind_48 : decode cX10_isKind 48 = .ok (.iload_n 3, 1) := by decide +kernel
theorem dX10_isKind_49 : decode cX10_isKind 49 = .ok (.iconst 2, 1) := by decide +kernel
theorem dX10_isKind_50 : decode cX10_isKind 50 = .ok (.if_icmp .ge 7, 3) := by decide +kernel
theorem dX10_isKind_53 : decode cX10_isKind 53 = .ok (.iconst 1, 1) := by decide +kernel
theorem dX10_isKind_54 : decode cX10_isKind 54 = .ok (.goto 4, 3) := by decide +kernel
theorem dX10_isKind_57 : decode cX10_isKind 57 = .ok (.iconst 0, 1) := by decide +kernel
theorem dX10_isKind_58 : decode cX10_isKind 58 = .ok (.ireturn, 1) := by decide +kernel
theorem dX10_isKind_59 : decode cX10_isKind 59 = .ok (.iload_n 3, 1) := by decide +kernel
theorem dX10_isKind_60 : decode cX10_isKind 60 = .ok (.ifCond .eq 13, 3) := by decide +kernel
theorem dX10_isKind_63 : decode cX10_isKind 63 = .ok (.aload_n 0, 1) := by decide +kernel
theorem dX10_isKind_64 : decode cX10_isKind 64 = .ok (.iload_n 1, 1) := by decide +kernel
theorem dX10_isKind_65 : decode cX10_isKind 65 = .ok (.iconst 0, 1) := by decide +kernel
theorem dX10_isKind_66 : decode cX10_isKind 66 = .ok (.invokevirtual 64, 3) := by decide +kernel
theorem dX10_isKind_69 : decode cX10_isKind 69 = .ok (.iconst 1, 1) := by decide +kernel
theorem dX10_isKind_70 : decode cX10_isKind 70 = .ok (.if_icmp .ne 7, 3) := by decide +kernel
theorem dX10_isKind_73 : decode cX10_isKind 73 = .ok (.iconst 1, 1) := by decide +kernel
theorem dX10_isKind_74 : decode cX10_isKind 74 = .ok (.goto 4, 3) := by decide +kernel
theorem dX10_isKind_77 : decode cX10_isKind 77 = .ok (.iconst 0, 1) := by decide +kernel
theorem dX10_isKind_78 : decode cX10_isKind 78 = .ok (.ireturn, 1) := by decide +kernel
theorem dX10_isKind_79 : decode cX10_isKind 79 = .ok (.iload_n 3, 1) := by decide +kernel
theorem dX10_isKind_80 : decode cX10_isKind 80 = .ok (.iconst 3, 1) := by decide +kernel
theorem dX10_isKind_81 : decode cX10_isKind 81 = .ok (.if_icmp .ge 7, 3) := by decide +kernel
theorem dX10_isKind_84 : decode cX10_isKind 84 = .ok (.iconst 1, 1) := by decide +kernel
theorem dX10_isKind_85 : decode cX10_isKind 85 = .ok (.goto 4, 3) := by decide +kernel
theorem dX10_isKind_88 : decode cX10_isKind 88 = .ok (.iconst 0, 1) := by decide +kernel
theorem dX10_isKind_89 : decode cX10_isKind 89 = .ok (.ireturn, 1) := by decide +kernel
theorem dX10_isKind_90 : decode cX10_isKind 90 = .ok (.iload_n 3, 1) := by decide +kernel
theorem dX10_isKind_91 : decode cX10_isKind 91 = .ok (.iconst 1, 1) := by decide +kernel
theorem dX10_isKind_92 : decode cX10_isKind 92 = .ok (.if_icmp .eq 18, 3) := by decide +kernel
theorem dX10_isKind_95 : decode cX10_isKind 95 = .ok (.iload_n 3, 1) := by decide +kernel
theorem dX10_isKind_96 : decode cX10_isKind 96 = .ok (.iconst 1, 1) := by decide +kernel
theorem dX10_isKind_97 : decode cX10_isKind 97 = .ok (.if_icmp .le 17, 3) := by decide +kernel
theorem dX10_isKind_100 : decode cX10_isKind 100 = .ok (.aload_n 0, 1) := by decide +kernel
theorem dX10_isKind_101 : decode cX10_isKind 101 = .ok (.iload_n 1, 1) := by decide +kernel
theorem dX10_isKind_102 : decode cX10_isKind 102 = .ok (.iconst 1, 1) := by decide +kernel
theorem dX10_isKind_103 : decode cX10_isKind 103 = .ok (.invokevirtual 64, 3) := by decide +kernel
theorem dX10_isKind_106 : decode cX10_isKind 106 = .ok (.iconst 1, 1) := by decide +kernel
theorem dX10_isKind_107 : decode cX10_isKind 107 = .ok (.if_icmp .ne 7, 3) := by decide +kernel
theorem dX10_isKind_110 : decode cX10_isKind 110 = .ok (.iconst 1, 1) := by decide +kernel
theorem dX10_isKind_111 : decode cX10_isKind 111 = .ok (.goto 4, 3) := by decide +kernel
theorem dX10_isKind_114 : decode cX10_isKind 114 = .ok (.iconst 0, 1) := by decide +kernel
theorem dX10_isKind_115 : decode cX10_isKind 115 = .ok (.ireturn, 1) := by decide +kernel
theorem dX10_isKind_116 : decode cX10_isKind 116 = .ok (.aload_n 0, 1) := by decide +kernel
theorem dX10_isKind_117 : decode cX10_isKind 117 = .ok (.iload_n 1, 1) := by decide +kernel
theorem dX10_isKind_118 : decode cX10_isKind 118 = .ok (.invokevirtual 114, 3) := by decide +kernel
theorem dX10_isKind_121 : decode cX10_isKind 121 = .ok (.iload_n 1, 1) := by decide +kernel
theorem dX10_isKind_122 : decode cX10_isKind 122 = .ok (.if_icmp .ne 7, 3) := by decide +kernel
theorem dX10_isKind_125 : decode cX10_isKind 125 = .ok (.iconst 1, 1) := by decide +kernel
theorem dX10_isKind_126 : decode cX10_isKind 126 = .ok (.goto 4, 3) := by decide +kernel
theorem dX10_isKind_129 : decode cX10_isKind 129 = .ok (.iconst 0, 1) := by decide +kernel
theorem dX10_isKind_130 : decode cX10_isKind 130 = .ok (.ireturn, 1) := by decide +kernel
theorem dX10_isKind_131 : decode cX10_isKind 131 = .ok (.iload_n 3, 1) := by decide +kernel
theorem dX10_isKind_132 : decode cX10_isKind 132 = .ok (.ifCond .eq 20, 3) := by decide +kernel
theorem dX10_isKind_135 : decode cX10_isKind 135 = .ok (.aload_n 0, 1) := by decide +kernel
theorem dX10_isKind_136 : decode cX10_isKind 136 = .ok (.iload_n 1, 1) := by decide +kernel
theorem dX10_isKind_137 : decode cX10_isKind 137 = .ok (.iconst 0, 1) := by decide +kernel
theorem dX10_isKind_138 : decode cX10_isKind 138 = .ok (.invokevirtual 64, 3) := by decide +kernel
theorem dX10_isKind_141 : decode cX10_isKind 141 = .ok (.aload_n 0, 1) := by decide +kernel
theorem dX10_isKind_142 : decode cX10_isKind 142 = .ok (.iload_n 1, 1) := by decide +kernel
theorem dX10_isKind_143 : decode cX10_isKind 143 = .ok (.iload_n 3, 1) := by decide +kernel
theorem dX10_isKind_144 : decode cX10_isKind 144 = .ok (.iconst 1, 1) := by decide +kernel
theorem dX10_isKind_145 : decode cX10_isKind 145 = .ok (.isub, 1) := by decide +kernel
theorem dX10_isKind_146 : decode cX10_isKind 146 = .ok (.invokevirtual 64, 3) := by decide +kernel
theorem dX10_isKind_149 : decode cX10_isKind 149 = .ok (.if_icmp .ne 7, 3) := by decide +kernel
theorem dX10_isKind_152 : decode cX10_isKind 152 = .ok (.iconst 1, 1) := by decide +kernel
theorem dX10_isKind_153 : decode cX10_isKind 153 = .ok (.goto 4, 3) := by decide +kernel
theorem dX10_isKind_156 : decode cX10_isKind 156 = .ok (.iconst 0, 1) := by decide +kernel
theorem dX10_isKind_157 : decode cX10_isKind 157 = .ok (.ireturn, 1) := by decide +kernel
theorem dX10_isKind_158 : decode cX10_isKind 158 = .ok (.iconst 0, 1) := by decide +kernel
theorem dX10_isKind_159 : decode cX10_isKind 159 = .ok (.istore 4, 2) := by decide +kernel
theorem dX10_isKind_161 : decode cX10_isKind 161 = .ok (.iload 4, 2) := by decide +kernel
theorem dX10_isKind_163 : decode cX10_isKind 163 = .ok (.iload_n 3, 1) := by decide +kernel
theorem dX10_isKind_164 : decode cX10_isKind 164 = .ok (.if_icmp .ge 25, 3) := by decide +kernel
theorem dX10_isKind_167 : decode cX10_isKind 167 = .ok (.aload_n 0, 1) := by decide +kernel
theorem dX10_isKind_168 : decode cX10_isKind 168 = .ok (.iload_n 1, 1) := by decide +kernel
theorem dX10_isKind_169 : decode cX10_isKind 169 = .ok (.iload 4, 2) := by decide +kernel
theorem dX10_isKind_171 : decode cX10_isKind 171 = .ok (.invokevirtual 64, 3) := by decide +kernel
theorem dX10_isKind_174 : decode cX10_isKind 174 = .ok (.iload_n 3, 1) := by decide +kernel
theorem dX10_isKind_175 : decode cX10_isKind 175 = .ok (.iload 4, 2) := by decide +kernel
theorem dX10_isKind_177 : decode cX10_isKind 177 = .ok (.isub, 1) := by decide +kernel
theorem dX10_isKind_178 : decode cX10_isKind 178 = .ok (.if_icmp .eq 5, 3) := by decide +kernel
theorem dX10_isKind_181 : decode cX10_isKind 181 = .ok (.iconst 0, 1) := by decide +kernel
theorem dX10_isKind_182 : decode cX10_isKind 182 = .ok (.ireturn, 1) := by decide +kernel
theorem dX10_isKind_183 : decode cX10_isKind 183 = .ok (.iinc 4 1, 3) := by decide +kernel
theorem dX10_isKind_186 : decode cX10_isKind 186 = .ok (.goto (-25), 3) := by decide +kernel
theorem dX10_isKind_189 : decode cX10_isKind 189 = .ok (.iconst 1, 1) := by decide +kernel
theorem dX10_isKind_190 : decode cX10_isKind 190 = .ok (.ireturn, 1) := by decide +kernel
theorem dX10_of_0 : decode cX10_of 0 = .ok (.iload_n 1, 1) := by decide +kernel
theorem dX10_of_1 : decode cX10_of 1 = .ok (.invokestatic 117, 3) := by decide +kernel
theorem dX10_of_4 : decode cX10_of 4 = .ok (.ifCond .ne 9, 3) := by decide +kernel
theorem dX10_of_7 : decode cX10_of 7 = .ok (.aload_n 0, 1) := by decide +kernel
theorem dX10_of_8 : decode cX10_of 8 = .ok (.iconst (-1), 1) := by decide +kernel
theorem dX10_of_9 : decode cX10_of 9 = .ok (.invokevirtual 77, 3) := by decide +kernel
theorem dX10_of_12 : decode cX10_of 12 = .ok (.ireturn, 1) := by decide +kernel
theorem dX10_of_13 : decode cX10_of 13 = .ok (.iload_n 2, 1) := by decide +kernel
theorem dX10_of_14 : decode cX10_of 14 = .ok (.bipush 10, 2) := by decide +kernel
theorem dX10_of_16 : decode cX10_of 16 = .ok (.bipush 17, 2) := by decide +kernel
theorem dX10_of_18 : decode cX10_of 18 = .ok (.invokestatic 72, 3) := by decide +kernel
theorem dX10_of_21 : decode cX10_of 21 = .ok (.ifCond .eq 13, 3) := by decide +kernel
theorem dX10_of_24 : decode cX10_of 24 = .ok (.aload_n 0, 1) := by decide +kernel
theorem dX10_of_25 : decode cX10_of 25 = .ok (.iload_n 1, 1) := by decide +kernel
theorem dX10_of_26 : decode cX10_of 26 = .ok (.iload_n 2, 1) := by decide +kernel
theorem dX10_of_27 : decode cX10_of 27 = .ok (.bipush 10, 2) := by decide +kernel
theorem dX10_of_29 : decode cX10_of 29 = .ok (.isub, 1) := by decide +kernel
theorem dX10_of_30 : decode cX10_of 30 = .ok (.invokevirtual 64, 3) := by decide +kernel
theorem dX10_of_33 : decode cX10_of 33 = .ok (.ireturn, 1) := by decide +kernel
theorem dX10_of_34 : decode cX10_of 34 = .ok (.iconst 0, 1) := by decide +kernel
theorem dX10_of_35 : decode cX10_of 35 = .ok (.istore_n 3, 1) := by decide +kernel
theorem dX10_of_36 : decode cX10_of 36 = .ok (.iload_n 2, 1) := by decide +kernel
theorem dX10_of_37 : decode cX10_of 37 = .ok (.tableswitch 110 0 5 #[39, 46, 53, 59, 65, 71], 39) := by decide +kernel
theorem dX10_of_76 : decode cX10_of 76 = .ok (.aload_n 0, 1) := by decide +kernel
theorem dX10_of_77 : decode cX10_of 77 = .ok (.getfield 13, 3) := by decide +kernel
theorem dX10_of_80 : decode cX10_of 80 = .ok (.iload_n 1, 1) := by decide +kernel
theorem dX10_of_81 : decode cX10_of 81 = .ok (.iaload, 1) := by decide +kernel
theorem dX10_of_82 : decode cX10_of 82 = .ok (.ireturn, 1) := by decide +kernel
theorem dX10_of_83 : decode cX10_of 83 = .ok (.aload_n 0, 1) := by decide +kernel
theorem dX10_of_84 : decode cX10_of 84 = .ok (.getfield 16, 3) := by decide +kernel
theorem dX10_of_87 : decode cX10_of 87 = .ok (.iload_n 1, 1) := by decide +kernel
theorem dX10_of_88 : decode cX10_of 88 = .ok (.iaload, 1) := by decide +kernel
theorem dX10_of_89 : decode cX10_of 89 = .ok (.ireturn, 1) := by decide +kernel
theorem dX10_of_90 : decode cX10_of 90 = .ok (.aload_n 0, 1) := by decide +kernel
theorem dX10_of_91 : decode cX10_of 91 = .ok (.iload_n 1, 1) := by decide +kernel
theorem dX10_of_92 : decode cX10_of 92 = .ok (.invokevirtual 114, 3) := by decide +kernel
theorem dX10_of_95 : decode cX10_of 95 = .ok (.ireturn, 1) := by decide +kernel
theorem dX10_of_96 : decode cX10_of 96 = .ok (.aload_n 0, 1) := by decide +kernel
theorem dX10_of_97 : decode cX10_of 97 = .ok (.iload_n 1, 1) := by decide +kernel
theorem dX10_of_98 : decode cX10_of 98 = .ok (.invokevirtual 121, 3) := by decide +kernel
theorem dX10_of_101 : decode cX10_of 101 = .ok (.ireturn, 1) := by decide +kernel
theorem dX10_of_102 : decode cX10_of 102 = .ok (.aload_n 0, 1) := by decide +kernel
theorem dX10_of_103 : decode cX10_of 103 = .ok (.iload_n 1, 1) := by decide +kernel
theorem dX10_of_104 : decode cX10_of 104 = .ok (.invokevirtual 124, 3) := by decide +kernel
theorem dX10_of_107 : decode cX10_of 107 = .ok (.ireturn, 1) := by decide +kernel
theorem dX10_of_108 : decode cX10_of 108 = .ok (.iconst 0, 1) := by decide +kernel
theorem dX10_of_109 : decode cX10_of 109 = .ok (.istore 4, 2) := by decide +kernel
theorem dX10_of_111 : decode cX10_of 111 = .ok (.iload 4, 2) := by decide +kernel
theorem dX10_of_113 : decode cX10_of 113 = .ok (.bipush 7, 2) := by decide +kernel
theorem dX10_of_115 : decode cX10_of 115 = .ok (.if_icmp .ge 30, 3) := by decide +kernel
theorem dX10_of_118 : decode cX10_of 118 = .ok (.iload_n 3, 1) := by decide +kernel
theorem dX10_of_119 : decode cX10_of 119 = .ok (.aload_n 0, 1) := by decide +kernel
theorem dX10_of_120 : decode cX10_of 120 = .ok (.iload_n 1, 1) := by decide +kernel
theorem dX10_of_121 : decode cX10_of 121 = .ok (.iload 4, 2) := by decide +kernel
theorem dX10_of_123 : decode cX10_of 123 = .ok (.invokevirtual 127, 3) := by decide +kernel
theorem dX10_of_126 : decode cX10_of 126 = .ok (.ifCond .eq 10, 3) := by decide +kernel
theorem dX10_of_129 : decode cX10_of 129 = .ok (.iconst 1, 1) := by decide +kernel
theorem dX10_of_130 : decode cX10_of 130 = .ok (.iload 4, 2) := by decide +kernel
theorem dX10_of_132 : decode cX10_of 132 = .ok (.ishl, 1) := by decide +kernel
theorem dX10_of_133 : decode cX10_of 133 = .ok (.goto 4, 3) := by decide +kernel
theorem dX10_of_136 : decode cX10_of 136 = .ok (.iconst 0, 1) := by decide +kernel
theorem dX10_of_137 : decode cX10_of 137 = .ok (.ior, 1) := by decide +kernel
theorem dX10_of_138 : decode cX10_of 138 = .ok (.istore_n 3, 1) := by decide +kernel
theorem dX10_of_139 : decode cX10_of 139 = .ok (.iinc 4 1, 3) := by decide +kernel
theorem dX10_of_142 : decode cX10_of 142 = .ok (.goto (-31), 3) := by decide +kernel
theorem dX10_of_145 : decode cX10_of 145 = .ok (.iload_n 3, 1) := by decide +kernel
theorem dX10_of_146 : decode cX10_of 146 = .ok (.ireturn, 1) := by decide +kernel
theorem dX10_of_147 : decode cX10_of 147 = .ok (.aload_n 0, 1) := by decide +kernel
theorem dX10_of_148 : decode cX10_of 148 = .ok (.bipush (-2), 2) := by decide +kernel
theorem dX10_of_150 : decode cX10_of 150 = .ok (.invokevirtual 77, 3) := by decide +kernel
theorem dX10_of_153 : decode cX10_of 153 = .ok (.ireturn, 1) := by decide +kernel
theorem dX10_isList_0 : decode cX10_isList 0 = .ok (.iload_n 0, 1) := by decide +kernel
theorem dX10_isList_1 : decode cX10_isList 1 = .ok (.iconst 0, 1) := by decide +kernel
theorem dX10_isList_2 : decode cX10_isList 2 = .ok (.iconst 2, 1) := by decide +kernel
theorem dX10_isList_3 : decode cX10_isList 3 = .ok (.invokestatic 72, 3) := by decide +kernel
theorem dX10_isList_6 : decode cX10_isList 6 = .ok (.ireturn, 1) := by decide +kernel
theorem dX10_shape_0 : decode cX10_shape 0 = .ok (.iload_n 1, 1) := by decide +kernel
theorem dX10_shape_1 : decode cX10_shape 1 = .ok (.invokestatic 131, 3) := by decide +kernel
theorem dX10_shape_4 : decode cX10_shape 4 = .ok (.ifCond .ne 9, 3) := by decide +kernel
theorem dX10_shape_7 : decode cX10_shape 7 = .ok (.aload_n 0, 1) := by decide +kernel
theorem dX10_shape_8 : decode cX10_shape 8 = .ok (.iconst (-1), 1) := by decide +kernel
theorem dX10_shape_9 : decode cX10_shape 9 = .ok (.invokevirtual 77, 3) := by decide +kernel
theorem dX10_shape_12 : decode cX10_shape 12 = .ok (.ireturn, 1) := by decide +kernel
theorem dX10_shape_13 : decode cX10_shape 13 = .ok (.aload_n 0, 1) := by decide +kernel
theorem dX10_shape_14 : decode cX10_shape 14 = .ok (.getfield 40, 3) := by decide +kernel
theorem dX10_shape_17 : decode cX10_shape 17 = .ok (.iload_n 1, 1) := by decide +kernel
theorem dX10_shape_18 : decode cX10_shape 18 = .ok (.iaload, 1) := by decide +kernel
theorem dX10_shape_19 : decode cX10_shape 19 = .ok (.ifCond .ge 6, 3) := by decide +kernel
theorem dX10_shape_22 : decode cX10_shape 22 = .ok (.bipush (-11), 2) := by decide +kernel
theorem dX10_shape_24 : decode cX10_shape 24 = .ok (.ireturn, 1) := by decide +kernel
theorem dX10_shape_25 : decode cX10_shape 25 = .ok (.aload_n 0, 1) := by decide +kernel
theorem dX10_shape_26 : decode cX10_shape 26 = .ok (.invokevirtual 83, 3) := by decide +kernel
theorem dX10_shape_29 : decode cX10_shape 29 = .ok (.iconst 0, 1) := by decide +kernel
theorem dX10_shape_30 : decode cX10_shape 30 = .ok (.istore_n 2, 1) := by decide +kernel
theorem dX10_shape_31 : decode cX10_shape 31 = .ok (.iload_n 2, 1) := by decide +kernel
theorem dX10_shape_32 : decode cX10_shape 32 = .ok (.aload_n 0, 1) := by decide +kernel
theorem dX10_shape_33 : decode cX10_shape 33 = .ok (.getfield 40, 3) := by decide +kernel
theorem dX10_shape_36 : decode cX10_shape 36 = .ok (.iload_n 1, 1) := by decide +kernel
theorem dX10_shape_37 : decode cX10_shape 37 = .ok (.iaload, 1) := by decide +kernel
theorem dX10_shape_38 : decode cX10_shape 38 = .ok (.if_icmp .ge 50, 3) := by decide +kernel
theorem dX10_shape_41 : decode cX10_shape 41 = .ok (.iload_n 2, 1) := by decide +kernel
theorem dX10_shape_42 : decode cX10_shape 42 = .ok (.bipush 8, 2) := by decide +kernel
theorem dX10_shape_44 : decode cX10_shape 44 = .ok (.if_icmp .ge 18, 3) := by decide +kernel
theorem dX10_shape_47 : decode cX10_shape 47 = .ok (.aload_n 0, 1) := by decide +kernel
theorem dX10_shape_48 : decode cX10_shape 48 = .ok (.getfield 43, 3) := by decide +kernel
theorem dX10_shape_51 : decode cX10_shape 51 = .ok (.bipush 40, 2) := by decide +kernel
theorem dX10_shape_53 : decode cX10_shape 53 = .ok (.iload_n 1, 1) := by decide +kernel
theorem dX10_shape_54 : decode cX10_shape 54 = .ok (.imul, 1) := by decide +kernel
theorem dX10_shape_55 : decode cX10_shape 55 = .ok (.iload_n 2, 1) := by decide +kernel
theorem dX10_shape_56 : decode cX10_shape 56 = .ok (.iadd, 1) := by decide +kernel
theorem dX10_shape_57 : decode cX10_shape 57 = .ok (.iaload, 1) := by decide +kernel
theorem dX10_shape_58 : decode cX10_shape 58 = .ok (.iconst 1, 1) := by decide +kernel
theorem dX10_shape_59 : decode cX10_shape 59 = .ok (.if_icmp .ge 6, 3) := by decide +kernel
theorem dX10_shape_62 : decode cX10_shape 62 = .ok (.bipush (-9), 2) := by decide +kernel
theorem dX10_shape_64 : decode cX10_shape 64 = .ok (.ireturn, 1) := by decide +kernel
theorem dX10_shape_65 : decode cX10_shape 65 = .ok (.aload_n 0, 1) := by decide +kernel
theorem dX10_shape_66 : decode cX10_shape 66 = .ok (.getfield 49, 3) := by decide +kernel
theorem dX10_shape_69 : decode cX10_shape 69 = .ok (.iload_n 2, 1) := by decide +kernel
theorem dX10_shape_70 : decode cX10_shape 70 = .ok (.aload_n 0, 1) := by decide +kernel
theorem dX10_shape_71 : decode cX10_shape 71 = .ok (.getfield 43, 3) := by decide +kernel
theorem dX10_shape_74 : decode cX10_shape 74 = .ok (.bipush 40, 2) := by decide +kernel
theorem dX10_shape_76 : decode cX10_shape 76 = .ok (.iload_n 1, 1) := by decide +kernel
theorem dX10_shape_77 : decode cX10_shape 77 = .ok (.imul, 1) := by decide +kernel
theorem dX10_shape_78 : decode cX10_shape 78 = .ok (.iload_n 2, 1) := by decide +kernel
theorem dX10_shape_79 : decode cX10_shape 79 = .ok (.iadd, 1) := by decide +kernel
theorem dX10_shape_80 : decode cX10_shape 80 = .ok (.iaload, 1) := by decide +kernel
theorem dX10_shape_81 : decode cX10_shape 81 = .ok (.iastore, 1) := by decide +kernel
theorem dX10_shape_82 : decode cX10_shape 82 = .ok (.iinc 2 1, 3) := by decide +kernel
theorem dX10_shape_85 : decode cX10_shape 85 = .ok (.goto (-54), 3) := by decide +kernel
theorem dX10_shape_88 : decode cX10_shape 88 = .ok (.aload_n 0, 1) := by decide +kernel
theorem dX10_shape_89 : decode cX10_shape 89 = .ok (.invokevirtual 89, 3) := by decide +kernel
theorem dX10_shape_92 : decode cX10_shape 92 = .ok (.ireturn, 1) := by decide +kernel
theorem dX10_shapes_0 : decode cX10_shapes 0 = .ok (.iload_n 1, 1) := by decide +kernel
theorem dX10_shapes_1 : decode cX10_shapes 1 = .ok (.ifCond .ge 10, 3) := by decide +kernel
theorem dX10_shapes_4 : decode cX10_shapes 4 = .ok (.aload_n 0, 1) := by decide +kernel
theorem dX10_shapes_5 : decode cX10_shapes 5 = .ok (.bipush (-4), 2) := by decide +kernel
theorem dX10_shapes_7 : decode cX10_shapes 7 = .ok (.invokevirtual 77, 3) := by decide +kernel
theorem dX10_shapes_10 : decode cX10_shapes 10 = .ok (.ireturn, 1) := by decide +kernel
theorem dX10_shapes_11 : decode cX10_shapes 11 = .ok (.iload_n 1, 1) := by decide +kernel
theorem dX10_shapes_12 : decode cX10_shapes 12 = .ok (.bipush 8, 2) := by decide +kernel
theorem dX10_shapes_14 : decode cX10_shapes 14 = .ok (.if_icmp .le 10, 3) := by decide +kernel
theorem dX10_shapes_17 : decode cX10_shapes 17 = .ok (.aload_n 0, 1) := by decide +kernel
theorem dX10_shapes_18 : decode cX10_shapes 18 = .ok (.bipush (-6), 2) := by decide +kernel
theorem dX10_shapes_20 : decode cX10_shapes 20 = .ok (.invokevirtual 77, 3) := by decide +kernel
theorem dX10_shapes_23 : decode cX10_shapes 23 = .ok (.ireturn, 1) := by decide +kernel
theorem dX10_shapes_24 : decode cX10_shapes 24 = .ok (.iload_n 2, 1) := by decide +kernel
theorem dX10_shapes_25 : decode cX10_shapes 25 = .ok (.iconst 0, 1) := by decide +kernel
theorem dX10_shapes_26 : decode cX10_shapes 26 = .ok (.iconst 1, 1) := by decide +kernel
theorem dX10_shapes_27 : decode cX10_shapes 27 = .ok (.invokestatic 72, 3) := by decide +kernel
theorem dX10_shapes_30 : decode cX10_shapes 30 = .ok (.ifCond .ne 10, 3) := by decide +kernel
theorem dX10_shapes_33 : decode cX10_shapes 33 = .ok (.aload_n 0, 1) := by decide +kernel
theorem dX10_shapes_34 : decode cX10_shapes 34 = .ok (.bipush (-2), 2) := by decide +kernel
theorem dX10_shapes_36 : decode cX10_shapes 36 = .ok (.invokevirtual 77, 3) := by decide +kernel
theorem dX10_shapes_39 : decode cX10_shapes 39 = .ok (.ireturn, 1) := by decide +kernel
theorem dX10_shapes_40 : decode cX10_shapes 40 = .ok (.iload_n 2, 1) := by decide +kernel
theorem dX10_shapes_41 : decode cX10_shapes 41 = .ok (.ifCond .ne 12, 3) := by decide +kernel
theorem dX10_shapes_44 : decode cX10_shapes 44 = .ok (.aload_n 0, 1) := by decide +kernel
theorem dX10_shapes_45 : decode cX10_shapes 45 = .ok (.getfield 7, 3) := by decide +kernel
theorem dX10_shapes_48 : decode cX10_shapes 48 = .ok (.iload_n 1, 1) := by decide +kernel
theorem dX10_shapes_49 : decode cX10_shapes 49 = .ok (.iaload, 1) := by decide +kernel
theorem dX10_shapes_50 : decode cX10_shapes 50 = .ok (.goto 8, 3) := by decide +kernel
theorem dX10_shapes_53 : decode cX10_shapes 53 = .ok (.aload_n 0, 1) := by decide +kernel
theorem dX10_shapes_54 : decode cX10_shapes 54 = .ok (.iload_n 1, 1) := by decide +kernel
theorem dX10_shapes_55 : decode cX10_shapes 55 = .ok (.invokevirtual 134, 3) := by decide +kernel
theorem dX10_shapes_58 : decode cX10_shapes 58 = .ok (.ireturn, 1) := by decide +kernel
theorem dX10_hook_0 : decode cX10_hook 0 = .ok (.iload_n 1, 1) := by decide +kernel
theorem dX10_hook_1 : decode cX10_hook 1 = .ok (.invokestatic 117, 3) := by decide +kernel
theorem dX10_hook_4 : decode cX10_hook 4 = .ok (.ifCond .eq 35, 3) := by decide +kernel
theorem dX10_hook_7 : decode cX10_hook 7 = .ok (.iload_n 2, 1) := by decide +kernel
theorem dX10_hook_8 : decode cX10_hook 8 = .ok (.iconst 0, 1) := by decide +kernel
theorem dX10_hook_9 : decode cX10_hook 9 = .ok (.aload_n 0, 1) := by decide +kernel
theorem dX10_hook_10 : decode cX10_hook 10 = .ok (.getfield 16, 3) := by decide +kernel
theorem dX10_hook_13 : decode cX10_hook 13 = .ok (.iload_n 1, 1) := by decide +kernel
theorem dX10_hook_14 : decode cX10_hook 14 = .ok (.iaload, 1) := by decide +kernel
theorem dX10_hook_15 : decode cX10_hook 15 = .ok (.iconst 1, 1) := by decide +kernel
theorem dX10_hook_16 : decode cX10_hook 16 = .ok (.isub, 1) := by decide +kernel
theorem dX10_hook_17 : decode cX10_hook 17 = .ok (.invokestatic 72, 3) := by decide +kernel
theorem dX10_hook_20 : decode cX10_hook 20 = .ok (.ifCond .eq 19, 3) := by decide +kernel
theorem dX10_hook_23 : decode cX10_hook 23 = .ok (.iload_n 3, 1) := by decide +kernel
theorem dX10_hook_24 : decode cX10_hook 24 = .ok (.iconst 0, 1) := by decide +kernel
theorem dX10_hook_25 : decode cX10_hook 25 = .ok (.aload_n 0, 1) := by decide +kernel
theorem dX10_hook_26 : decode cX10_hook 26 = .ok (.iload_n 1, 1) := by decide +kernel
theorem dX10_hook_27 : decode cX10_hook 27 = .ok (.iload_n 2, 1) := by decide +kernel
theorem dX10_hook_28 : decode cX10_hook 28 = .ok (.invokevirtual 64, 3) := by decide +kernel
theorem dX10_hook_31 : decode cX10_hook 31 = .ok (.iconst 1, 1) := by decide +kernel
theorem dX10_hook_32 : decode cX10_hook 32 = .ok (.isub, 1) := by decide +kernel
theorem dX10_hook_33 : decode cX10_hook 33 = .ok (.invokestatic 72, 3) := by decide +kernel
theorem dX10_hook_36 : decode cX10_hook 36 = .ok (.ifCond .ne 9, 3) := by decide +kernel
theorem dX10_hook_39 : decode cX10_hook 39 = .ok (.aload_n 0, 1) := by decide +kernel
theorem dX10_hook_40 : decode cX10_hook 40 = .ok (.iconst (-1), 1) := by decide +kernel
theorem dX10_hook_41 : decode cX10_hook 41 = .ok (.invokevirtual 77, 3) := by decide +kernel
theorem dX10_hook_44 : decode cX10_hook 44 = .ok (.ireturn, 1) := by decide +kernel
theorem dX10_hook_45 : decode cX10_hook 45 = .ok (.aload_n 0, 1) := by decide +kernel
theorem dX10_hook_46 : decode cX10_hook 46 = .ok (.iload_n 1, 1) := by decide +kernel
theorem dX10_hook_47 : decode cX10_hook 47 = .ok (.iload_n 2, 1) := by decide +kernel
theorem dX10_hook_48 : decode cX10_hook 48 = .ok (.iload_n 3, 1) := by decide +kernel
theorem dX10_hook_49 : decode cX10_hook 49 = .ok (.invokevirtual 96, 3) := by decide +kernel
theorem dX10_hook_52 : decode cX10_hook 52 = .ok (.ireturn, 1) := by decide +kernel
theorem dX10_rims_0 : decode cX10_rims 0 = .ok (.iload_n 1, 1) := by decide +kernel
theorem dX10_rims_1 : decode cX10_rims 1 = .ok (.invokestatic 117, 3) := by decide +kernel
theorem dX10_rims_4 : decode cX10_rims 4 = .ok (.ifCond .ne 9, 3) := by decide +kernel
theorem dX10_rims_7 : decode cX10_rims 7 = .ok (.aload_n 0, 1) := by decide +kernel
theorem dX10_rims_8 : decode cX10_rims 8 = .ok (.iconst (-1), 1) := by decide +kernel
theorem dX10_rims_9 : decode cX10_rims 9 = .ok (.invokevirtual 77, 3) := by decide +kernel
theorem dX10_rims_12 : decode cX10_rims 12 = .ok (.ireturn, 1) := by decide +kernel
theorem dX10_rims_13 : decode cX10_rims 13 = .ok (.iload_n 2, 1) := by decide +kernel
theorem dX10_rims_14 : decode cX10_rims 14 = .ok (.iconst 1, 1) := by decide +kernel
theorem dX10_rims_15 : decode cX10_rims 15 = .ok (.if_icmp .lt 8, 3) := by decide +kernel
theorem dX10_rims_18 : decode cX10_rims 18 = .ok (.iload_n 3, 1) := by decide +kernel
theorem dX10_rims_19 : decode cX10_rims 19 = .ok (.iconst (-1), 1) := by decide +kernel
theorem dX10_rims_20 : decode cX10_rims 20 = .ok (.if_icmp .ge 10, 3) := by decide +kernel
theorem dX10_rims_23 : decode cX10_rims 23 = .ok (.aload_n 0, 1) := by decide +kernel
theorem dX10_rims_24 : decode cX10_rims 24 = .ok (.bipush (-4), 2) := by decide +kernel
theorem dX10_rims_26 : decode cX10_rims 26 = .ok (.invokevirtual 77, 3) := by decide +kernel
theorem dX10_rims_29 : decode cX10_rims 29 = .ok (.ireturn, 1) := by decide +kernel
theorem dX10_rims_30 : decode cX10_rims 30 = .ok (.iload_n 2, 1) := by decide +kernel
theorem dX10_rims_31 : decode cX10_rims 31 = .ok (.bipush 8, 2) := by decide +kernel
theorem dX10_rims_33 : decode cX10_rims 33 = .ok (.if_icmp .le 10, 3) := by decide +kernel
theorem dX10_rims_36 : decode cX10_rims 36 = .ok (.aload_n 0, 1) := by decide +kernel
theorem dX10_rims_37 : decode cX10_rims 37 = .ok (.bipush (-6), 2) := by decide +kernel
theorem dX10_rims_39 : decode cX10_rims 39 = .ok (.invokevirtual 77, 3) := by decide +kernel
theorem dX10_rims_42 : decode cX10_rims 42 = .ok (.ireturn, 1) := by decide +kernel
theorem dX10_rims_43 : decode cX10_rims 43 = .ok (.iload_n 3, 1) := by decide +kernel
theorem dX10_rims_44 : decode cX10_rims 44 = .ok (.iconst (-1), 1) := by decide +kernel
theorem dX10_rims_45 : decode cX10_rims 45 = .ok (.if_icmp .ne 11, 3) := by decide +kernel
theorem dX10_rims_48 : decode cX10_rims 48 = .ok (.aload_n 0, 1) := by decide +kernel
theorem dX10_rims_49 : decode cX10_rims 49 = .ok (.iload_n 1, 1) := by decide +kernel
theorem dX10_rims_50 : decode cX10_rims 50 = .ok (.iload_n 2, 1) := by decide +kernel
theorem dX10_rims_51 : decode cX10_rims 51 = .ok (.iconst (-1), 1) := by decide +kernel
theorem dX10_rims_52 : decode cX10_rims 52 = .ok (.invokevirtual 111, 3) := by decide +kernel
theorem dX10_rims_55 : decode cX10_rims 55 = .ok (.ireturn, 1) := by decide +kernel
theorem dX10_rims_56 : decode cX10_rims 56 = .ok (.aload_n 0, 1) := by decide +kernel
theorem dX10_rims_57 : decode cX10_rims 57 = .ok (.iload_n 1, 1) := by decide +kernel
theorem dX10_rims_58 : decode cX10_rims 58 = .ok (.iload_n 2, 1) := by decide +kernel
theorem dX10_rims_59 : decode cX10_rims 59 = .ok (.iload_n 3, 1) := by decide +kernel
theorem dX10_rims_60 : decode cX10_rims 60 = .ok (.invokevirtual 137, 3) := by decide +kernel
theorem dX10_rims_63 : decode cX10_rims 63 = .ok (.ifCond .ne 6, 3) := by decide +kernel
theorem dX10_rims_66 : decode cX10_rims 66 = .ok (.bipush (-9), 2) := by decide +kernel
theorem dX10_rims_68 : decode cX10_rims 68 = .ok (.ireturn, 1) := by decide +kernel
theorem dX10_rims_69 : decode cX10_rims 69 = .ok (.aload_n 0, 1) := by decide +kernel
theorem dX10_rims_70 : decode cX10_rims 70 = .ok (.iload_n 1, 1) := by decide +kernel
theorem dX10_rims_71 : decode cX10_rims 71 = .ok (.iload_n 2, 1) := by decide +kernel
theorem dX10_rims_72 : decode cX10_rims 72 = .ok (.iload_n 3, 1) := by decide +kernel
theorem dX10_rims_73 : decode cX10_rims 73 = .ok (.invokevirtual 111, 3) := by decide +kernel
theorem dX10_rims_76 : decode cX10_rims 76 = .ok (.istore 4, 2) := by decide +kernel
theorem dX10_rims_78 : decode cX10_rims 78 = .ok (.aload_n 0, 1) := by decide +kernel
theorem dX10_rims_79 : decode cX10_rims 79 = .ok (.getfield 104, 3) := by decide +kernel
theorem dX10_rims_82 : decode cX10_rims 82 = .ok (.ireturn, 1) := by decide +kernel
theorem dX10_height_0 : decode cX10_height 0 = .ok (.iload_n 1, 1) := by decide +kernel
theorem dX10_height_1 : decode cX10_height 1 = .ok (.invokestatic 117, 3) := by decide +kernel
theorem dX10_height_4 : decode cX10_height 4 = .ok (.ifCond .ne 9, 3) := by decide +kernel
theorem dX10_height_7 : decode cX10_height 7 = .ok (.aload_n 0, 1) := by decide +kernel
theorem dX10_height_8 : decode cX10_height 8 = .ok (.iconst (-1), 1) := by decide +kernel
theorem dX10_height_9 : decode cX10_height 9 = .ok (.invokevirtual 77, 3) := by decide +kernel
theorem dX10_height_12 : decode cX10_height 12 = .ok (.ireturn, 1) := by decide +kernel
theorem dX10_height_13 : decode cX10_height 13 = .ok (.iload_n 2, 1) := by decide +kernel
theorem dX10_height_14 : decode cX10_height 14 = .ok (.iconst 1, 1) := by decide +kernel
theorem dX10_height_15 : decode cX10_height 15 = .ok (.if_icmp .lt 7, 3) := by decide +kernel
theorem dX10_height_18 : decode cX10_height 18 = .ok (.iload_n 3, 1) := by decide +kernel
theorem dX10_height_19 : decode cX10_height 19 = .ok (.ifCond .ge 10, 3) := by decide +kernel
theorem dX10_height_22 : decode cX10_height 22 = .ok (.aload_n 0, 1) := by decide +kernel
theorem dX10_height_23 : decode cX10_height 23 = .ok (.bipush (-4), 2) := by decide +kernel
theorem dX10_height_25 : decode cX10_height 25 = .ok (.invokevirtual 77, 3) := by decide +kernel
theorem dX10_height_28 : decode cX10_height 28 = .ok (.ireturn, 1) := by decide +kernel
theorem dX10_height_29 : decode cX10_height 29 = .ok (.iload_n 2, 1) := by decide +kernel
theorem dX10_height_30 : decode cX10_height 30 = .ok (.bipush 8, 2) := by decide +kernel
theorem dX10_height_32 : decode cX10_height 32 = .ok (.if_icmp .le 10, 3) := by decide +kernel
theorem dX10_height_35 : decode cX10_height 35 = .ok (.aload_n 0, 1) := by decide +kernel
theorem dX10_height_36 : decode cX10_height 36 = .ok (.bipush (-6), 2) := by decide +kernel
theorem dX10_height_38 : decode cX10_height 38 = .ok (.invokevirtual 77, 3) := by decide +kernel
theorem dX10_height_41 : decode cX10_height 41 = .ok (.ireturn, 1) := by decide +kernel
theorem dX10_height_42 : decode cX10_height 42 = .ok (.aload_n 0, 1) := by decide +kernel
theorem dX10_height_43 : decode cX10_height 43 = .ok (.iload_n 1, 1) := by decide +kernel
theorem dX10_height_44 : decode cX10_height 44 = .ok (.iload_n 2, 1) := by decide +kernel
theorem dX10_height_45 : decode cX10_height 45 = .ok (.iload_n 3, 1) := by decide +kernel
theorem dX10_height_46 : decode cX10_height 46 = .ok (.invokevirtual 137, 3) := by decide +kernel
theorem dX10_height_49 : decode cX10_height 49 = .ok (.ifCond .ne 6, 3) := by decide +kernel
theorem dX10_height_52 : decode cX10_height 52 = .ok (.bipush (-9), 2) := by decide +kernel
theorem dX10_height_54 : decode cX10_height 54 = .ok (.ireturn, 1) := by decide +kernel
theorem dX10_height_55 : decode cX10_height 55 = .ok (.aload_n 0, 1) := by decide +kernel
theorem dX10_height_56 : decode cX10_height 56 = .ok (.iload_n 1, 1) := by decide +kernel
theorem dX10_height_57 : decode cX10_height 57 = .ok (.iload_n 2, 1) := by decide +kernel
